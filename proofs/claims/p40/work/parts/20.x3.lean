-- THE CLASS: Loan (laid by wip/p40/y3.py)
-- arrays of boolean over Int
section ZB
variable {p : Program} {l : Launch} {e : Env} {R : Room} {s : State} {m : MethodId} {args : Array Value} {below : List Frame} {meth : Method} {c : Code} {H : Heap} {locs : List Loc} {cells slots : Nat} {Q : State → Prop}
variable {cc : ByteArray} {pc : Nat} {ls : Array Slot} {rest st0 : List Value} {G : zG} {A : Nat → Prop} {ws W0 wr : va_W} {H0 : Heap} {mc ms : Nat} {av : Array Value} {S : Type}
abbrev zaZ (k : ClassId) (n : Nat) (f : Int → Int) : va_E := .inl (k, n, .inl (zrowI f))
theorem zr_newaZ (hexec : p.tables.exec = Jvm.exec) (hb : c.code = cc) (harr : (Cond.arrayClass .boolean).before args s = true) (hK : va_K G.1 vwCl (zT G.2) s) (hP : va_P G.1 vwCl ws H) (hD : va_D A ws) (hS : va_S A H0 H locs) (hA : ∀ q : Nat, H0.size ≤ q → A q) {n : Int} {N : Nat} (h0 : 0 ≤ n) (hN : N = n.toNat) (hN2 : n ≤ 60000000) (hcells : cells + 1 ≤ R.cells) (hslots : slots + N ≤ R.slots) (hdg : decode cc pc = .ok (.newarray .boolean, 2))
    (kk : ∀ (q : Nat) (H1 : Heap), va_P G.1 vwCl (ws ++ [(q, zaZ (G.2 2) N (fun _ => 0))]) H1 → va_D A (ws ++ [(q, zaZ (G.2 2) N (fun _ => 0))]) → va_S A H0 H1 locs → W p l e R s m args below meth c H1 locs (cells + 1) (slots + N) Q (F0 m (pc + 2) ls (.ref q :: rest))) : W p l e R s m args below meth c H locs cells slots Q (F0 m pc ls (.int (iz n) :: rest)) := by
  refine va_newa (atype := .boolean) (ty := .boolean) (N' := N) (a0 := (N, .inl (zrowI (fun _ => 0)))) hexec hb harr rfl hK hP hD hS hA (fun cA => rfl) (iz_nneg h0 (by omega)) (by rw [iz_cl h0 (by omega), hN]) (by show N * 1 ≤ _; omega) hcells hslots hdg (fun q cA H1 hK1 hP1 hD1 hS1 => ?_)
  have e1 : cA = G.2 2 := by
    have a1 := (hK1.2 4 (cA, .boolean) rfl).2
    have a2 := (hK.2 2 (G.2 2, .boolean) rfl).2
    exact Option.some.inj (a1.symm.trans a2)
  subst e1
  exact kk q H1 hP1 hD1 hS1
theorem zr_zald {D : va_G} {cl : List vw_C} {tys : List (ClassId × FieldType)} {a : Nat} (hexec : p.tables.exec = Jvm.exec) (hb : c.code = cc) (hK : va_K D cl tys s) (hP : va_P D cl ws H) (q0 t0 : Nat) {cA : ClassId} {n : Nat} {f : Int → Int} (ha : ws[q0]? = some (a, zaZ cA n f)) (ht : tys[t0]? = some (cA, .boolean)) {i : Int} (hi : 0 ≤ i ∧ i < n ∧ n < 2147483648) (hdg : decode cc pc = .ok (.baload, 1)) (kk : W p l e R s m args below meth c H locs cells slots Q (F0 m (pc + 1) ls (.int (iz (f i)) :: rest))) : W p l e R s m args below meth c H locs cells slots Q (F0 m pc ls (.int (iz i) :: .ref a :: rest)) := va_zald hexec hb hK hP q0 t0 ha ht (iz_in hi.1 hi.2.1 hi.2.2) hdg (by rw [zrowI_at f hi.1 (by omega)]; exact kk)
end ZB
-- arrays of arrays of longs; arrays of boolean written
section ZA3
variable {p : Program} {l : Launch} {e : Env} {R : Room} {s : State} {m : MethodId} {args : Array Value} {below : List Frame} {meth : Method} {c : Code} {H : Heap} {locs : List Loc} {cells slots : Nat} {Q : State → Prop}
variable {cc : ByteArray} {pc : Nat} {ls : Array Slot} {rest st0 : List Value} {G : zG} {A : Nat → Prop} {ws W0 wr : va_W} {H0 : Heap} {mc ms : Nat} {av : Array Value} {S : Type}
/-- a table of seven rows -/
def ztb (tr : Nat → Nat) : Nat → Option Nat := fun i => if i < 7 then some (tr i) else none
theorem ztb_at {tr : Nat → Nat} {i : Nat} (h : i < 7) : ztb tr i = some (tr i) := if_pos h
theorem zr_aldA (hexec : p.tables.exec = Jvm.exec) (hb : c.code = cc) (hK : va_K G.1 vwCl (zT G.2) s) (hP : va_P G.1 vwCl ws H) (q0 : Nat) {n a v : Nat} {f : Nat → Option Nat} (ha : ws[q0]? = some (a, zaR (G.2 3) n f)) {i : Int} (hi : 0 ≤ i ∧ i < n ∧ n < 2147483648) (hf : f i.toNat = some v) (hdg : decode cc pc = .ok (.aaload, 1)) (kk : W p l e R s m args below meth c H locs cells slots Q (F0 m (pc + 1) ls (.ref v :: rest))) : W p l e R s m args below meth c H locs cells slots Q (F0 m pc ls (.int (iz i) :: .ref a :: rest)) := by
  have hin : vp_in (iz i) n := iz_in hi.1 hi.2.1 hi.2.2
  have hlt : (iz i).toNatClampNeg < n := by rw [iz_cl hi.1 (by omega)]; omega
  refine W.aald (v := .ref v) (ty := .array .long) hexec hb (hP q0 _ ha) ((hK.2 3 _ rfl).1 n (fun j => va_rf (f j))) rfl (fun q => by cases q) ?_ ?_ rfl rfl hdg kk
  · show ¬ (iz i < 0 ∨ (arrV _ _ _).slots.size ≤ _)
    rw [arrV_size]; exact hin
  · show (arrV _ _ _).slots[_]? = _
    rw [arrV_read _ _ hlt, iz_cl hi.1 (by omega), hf]; rfl
theorem zr_zast {D : va_G} {cl : List vw_C} {tys : List (ClassId × FieldType)} {a : Nat} (hexec : p.tables.exec = Jvm.exec) (hb : c.code = cc) (hK : va_K D cl tys s) (hP : va_P D cl ws H) (hD : va_D A ws) (hS : va_S A H0 H locs) (q0 t0 : Nat) {cA : ClassId} {n : Nat} {f : Int → Int} (ha : ws[q0]? = some (a, zaZ cA n f)) (ht : tys[t0]? = some (cA, .boolean)) {i x : Int} (hi : 0 ≤ i ∧ i < n ∧ n < 2147483648) (hx : vp_nar .boolean (iz x) = iz x) (hdg : decode cc pc = .ok (.bastore, 1)) (kk : ∀ (H1 : Heap) (locs1 : List Loc), va_P D cl (ws.set q0 (a, zaZ cA n (zup f i x))) H1 → va_D A (ws.set q0 (a, zaZ cA n (zup f i x))) → va_S A H0 H1 locs1 → W p l e R s m args below meth c H1 locs1 cells slots Q (F0 m (pc + 1) ls rest)) : W p l e R s m args below meth c H locs cells slots Q (F0 m pc ls (.int (iz x) :: .int (iz i) :: .ref a :: rest)) := va_zast hexec hb hK hP hD hS q0 t0 ha ht (iz_in hi.1 hi.2.1 hi.2.2) hdg (by rw [hx, zrowI_up f x hi.1 (by omega)]; exact kk)
end ZA3
theorem zbb_n2 {x : Int} (h : x = 0 ∨ x = 1) : vp_nar .boolean (iz x) = iz x := by
  rcases h with q | q <;> rw [q] <;> decide +kernel
-- LOANS: what an instalment is, the law that the table goes by
/-- payments of 1 at the end of each period -/
def zun : Int → Int := fun j => if j = 0 then 0 else 1
theorem zun_rng (j : Int) : -1 ≤ zun j ∧ zun j ≤ 1 := by unfold zun; split <;> omega
theorem zun_1 {i : Int} (h : 1 ≤ i) : zun i = 1 := if_neg (by omega)
theorem zun_low {U P : Int} (hP : 0 ≤ P) (hU : 0 ≤ U) : ∀ n : Nat, P * U ^ n ≤ zrow U P zun (n + 1)
  | 0 => by
    show P * U ^ 0 ≤ zun 0 * U + P ^ (0 + 1) * zun (((0 : Nat) : Int) + 1)
    rw [show zun 0 = 0 from rfl, show zun (((0 : Nat) : Int) + 1) = 1 from rfl, Int.pow_succ, Int.pow_zero, Int.pow_zero]; omega
  | n + 1 => by
    have a := Int.mul_le_mul_of_nonneg_right (zun_low hP hU n) hU
    have b : 0 ≤ P ^ (n + 1 + 1) * 1 := by rw [Int.mul_one]; exact Int.pow_nonneg hP
    rw [zrow_s, zun_1 (by omega), Int.pow_succ, ← Int.mul_assoc]
    omega
/-- what they come to, and the instalment -/
def zap (po n : Int) : Int := zrow (100000 + po) 100000 zun n.toNat
def zins (md mo po n : Int) : Int := zrd md (mo * (100000 + po) ^ n.toNat) (zap po n)
def zinx (mo po n : Int) : Prop := mo * (100000 + po) ^ n.toNat % zap po n = 0
theorem zln {mo po n : Int} (hm : 0 ≤ mo ∧ mo ≤ 100000000000000) (hp : 0 ≤ po ∧ po ≤ 20000) (hn : 1 ≤ n ∧ n ≤ 60) (hb : mo * 120000 ^ n.toNat < 1073741824 ^ 35) :
    0 ≤ mo * zqu po ^ n.toNat ∧ mo * zqu po ^ n.toNat < 1073741824 ^ 35 ∧ 0 < zrow (zqu po) (zqd po) zun n.toNat ∧ zrow (zqu po) (zqd po) zun n.toNat < 1073741824 ^ 35 ∧ mo * zqu po ^ n.toNat ≤ 2 * mo * zrow (zqu po) (zqd po) zun n.toNat ∧ mo * zqu po ^ n.toNat < zrow (zqu po) (zqd po) zun n.toNat * 1073741824 ^ 2 := by
  have r := zq_rng hp
  have hg := zfr_q po
  obtain ⟨k, hk⟩ : ∃ k : Nat, n.toNat = k + 1 := ⟨n.toNat - 1, by omega⟩
  have up := zpow_pos (x := zqu po) (by omega) n.toNat
  have ub := zpw_le (a := zqu po) (b := 120000) (by omega) r.2.2.2 n.toNat
  have m0 : 0 ≤ mo * zqu po ^ n.toNat := Int.mul_nonneg hm.1 (by omega)
  have m1 : mo * zqu po ^ n.toNat ≤ mo * 120000 ^ n.toNat := Int.mul_le_mul_of_nonneg_left ub hm.1
  have fb := zrow_35 (U := zqu po) (P := zqd po) (A := 1) (f := zun) (by omega) (by omega) n.toNat (fun i _ _ => zun_rng i) (by decide) (Or.inr ⟨by omega, by decide⟩)
  have lo := zun_low (U := zqu po) (P := zqd po) (by omega) (by omega) k
  have g2 : zqu po ≤ 2 * zqd po := by
    rcases Int.lt_or_le (2 * zqd po) (zqu po) with q | q
    · have := Int.mul_le_mul_of_nonneg_right (show 2 * zqd po + 1 ≤ zqu po by omega) (show 0 ≤ zgc po by have := hg.1; omega)
      rw [Int.add_mul, Int.mul_assoc, hg.2.1, hg.2.2] at this
      have := hg.1
      omega
    · exact q
  have uk := zpow_pos (x := zqu po) (by omega) k
  have e3 : zqu po ^ n.toNat ≤ 2 * (zqd po * zqu po ^ k) := by
    rw [hk, Int.pow_succ, Int.mul_comm (zqu po ^ k), ← Int.mul_assoc]
    exact Int.mul_le_mul_of_nonneg_right g2 (by omega)
  have rk : 1 ≤ zqd po * zqu po ^ k := Int.mul_pos (by omega) (by omega)
  rw [← hk] at lo
  have e4 : zqu po ^ n.toNat ≤ 2 * zrow (zqu po) (zqd po) zun n.toNat := by omega
  have e5 := Int.mul_le_mul_of_nonneg_left e4 hm.1
  have e6 : mo * (2 * zrow (zqu po) (zqd po) zun n.toNat) = 2 * mo * zrow (zqu po) (zqd po) zun n.toNat := by rw [← Int.mul_assoc, Int.mul_comm mo 2]
  have e7 : 2 * mo * zrow (zqu po) (zqd po) zun n.toNat ≤ 200000000000000 * zrow (zqu po) (zqd po) zun n.toNat := Int.mul_le_mul_of_nonneg_right (by omega) (by omega)
  have cb : (1073741824 : Int) ^ 2 = 1152921504606846976 := by decide +kernel
  rw [cb]
  exact ⟨m0, by omega, by omega, fb.2, by omega, by omega⟩
theorem zins_e {md mo po n : Int} (hp : 0 ≤ po ∧ po ≤ 20000) (h0 : 0 < zrow (zqu po) (zqd po) zun n.toNat) : zrd md (mo * zqu po ^ n.toNat) (zrow (zqu po) (zqd po) zun n.toNat) = zins md mo po n ∧ (mo * zqu po ^ n.toNat % zrow (zqu po) (zqd po) zun n.toNat = 0 ↔ zinx mo po n) := by
  have g0 := zpow_pos (x := zgc po) (zgc_pos po) n.toNat
  have e1 : mo * (100000 + po) ^ n.toNat = mo * zqu po ^ n.toNat * zgc po ^ n.toNat := by rw [zq_gn, Int.mul_assoc]
  have e2 : zap po n = zrow (zqu po) (zqd po) zun n.toNat * zgc po ^ n.toNat := zrow_gn zun po n.toNat
  unfold zins zinx
  rw [e1, e2]
  exact ⟨(zrd_g md _ h0 (by omega)).symm, (zex_g _ h0 (by omega)).symm⟩
theorem zap_pos {po n : Int} (hp : 0 ≤ po) (hn : 1 ≤ n) : 0 < zap po n := by
  obtain ⟨k, hk⟩ : ∃ k : Nat, n.toNat = k + 1 := ⟨n.toNat - 1, by omega⟩
  have lo := zun_low (U := 100000 + po) (P := 100000) (by decide) (by omega) k
  have uk := zpow_pos (x := 100000 + po) (by omega) k
  unfold zap
  rw [hk]
  omega
theorem zins_b {md mo po n : Int} (hm : 0 ≤ mo ∧ mo ≤ 100000000000000) (hp : 0 ≤ po ∧ po ≤ 20000) (hn : 1 ≤ n ∧ n ≤ 60) (hb : mo * 120000 ^ n.toNat < 1073741824 ^ 35) : 0 ≤ zins md mo po n ∧ zins md mo po n ≤ 2 * mo + 1 := by
  have z := zln hm hp hn hb
  rw [← (zins_e (md := md) (mo := mo) hp z.2.2.1).1]
  refine ⟨zrd_nn md z.1 z.2.2.1, ?_⟩
  have b := (zrd_b md (mo * zqu po ^ n.toNat) z.2.2.1).1
  rcases Int.lt_or_le (2 * mo + 1) (zrd md (mo * zqu po ^ n.toNat) (zrow (zqu po) (zqd po) zun n.toNat)) with q | q
  · have := Int.mul_le_mul_of_nonneg_right (show 2 * mo + 1 + 1 ≤ zrd md (mo * zqu po ^ n.toNat) (zrow (zqu po) (zqd po) zun n.toNat) by omega) (show 0 ≤ zrow (zqu po) (zqd po) zun n.toNat by omega)
    rw [Int.add_mul, Int.add_mul, Int.one_mul] at this
    omega
  · exact q
/-- what is paid in a period -/
def zpd (fe fh : Int → Int) (pn p due ins : Int) : Int := if fh p ≠ 0 then 0 else if p = pn ∨ due ≤ ins then due else ins + min (fe p) (due - ins)
theorem zpd_b {fe fh : Int → Int} {pn p due ins : Int} (hd : 0 ≤ due) (hi : 0 ≤ ins) (he : 0 ≤ fe p) : 0 ≤ zpd fe fh pn p due ins ∧ zpd fe fh pn p due ins ≤ due := by
  unfold zpd
  split
  · omega
  · split <;> omega
def zpo (fr : Int → Int) (p po : Int) : Int := if fr p = -1 then po else fr p
def zis (md : Int) (fr : Int → Int) (pn p lf ins : Int) : Int := if fr p = -1 then ins else zins md lf (fr p) (pn - p + 1)
def zit (md lf po : Int) : Int := zrd md (lf * po) 100000
/-- a row: what is left, the rate, the instalment behind it -/
def zsp (md : Int) (fr fe fh : Int → Int) (pn p lf po ins : Int) : Int × Int × Int :=
  (lf + zit md lf (zpo fr p po) - zpd fe fh pn p (lf + zit md lf (zpo fr p po)) (zis md fr pn p lf ins), zpo fr p po, zis md fr pn p lf ins)
def zst (md : Int) (fr fe fh : Int → Int) (mo pn : Int) : Nat → Int × Int × Int
  | 0 => (mo, 0, 0)
  | n + 1 => zsp md fr fe fh pn ((n : Int) + 1) (zst md fr fe fh mo pn n).1 (zst md fr fe fh mo pn n).2.1 (zst md fr fe fh mo pn n).2.2
theorem zst_n {md : Int} {fr fe fh : Int → Int} {mo pn i lf po ins po2 in2 it pd : Int} (h : 1 ≤ i) (hs : zst md fr fe fh mo pn (i - 1).toNat = (lf, po, ins)) (hp : po2 = zpo fr i po) (hi : in2 = zis md fr pn i lf ins) (ht : it = zit md lf po2) (hd : pd = zpd fe fh pn i (lf + it) in2) : zst md fr fe fh mo pn i.toNat = (lf + (it - pd), po2, in2) := by
  have e : i.toNat = (i - 1).toNat + 1 := by omega
  rw [e]
  show zsp md fr fe fh pn (((i - 1).toNat : Int) + 1) _ _ _ = _
  rw [hs, show (((i - 1).toNat : Int) + 1) = i by omega]
  show zsp md fr fe fh pn i lf po ins = _
  unfold zsp
  rw [← hp, ← hi, ← ht, ← hd]
  refine Prod.ext ?_ rfl
  show lf + it - pd = lf + (it - pd)
  omega
/-- what was told about a loan -/
def zterm (fr fe fh : Int → Int) (mo pn : Int) : Prop := (1 ≤ mo ∧ mo ≤ 1000000000 ∧ 1 ≤ pn ∧ pn ≤ 60) ∧ (0 ≤ fr 1 ∧ fr 1 ≤ 20000) ∧ (∀ k : Int, 2 ≤ k → k ≤ 60 → fr k = -1 ∨ (0 ≤ fr k ∧ fr k ≤ 20000)) ∧ (∀ k : Int, 1 ≤ k → k ≤ 60 → 0 ≤ fe k ∧ fe k ≤ 1000000000 ∧ (fh k = 0 ∨ fh k = 1)) ∧ fh pn = 0
theorem z6060 : ∀ k : Nat, k ≤ 60 → (6 : Int) ^ k ≤ 60000 * 5 ^ k := by
  have h : ∀ k : Fin 61, (6 : Int) ^ k.val ≤ 60000 * 5 ^ k.val := by decide +kernel
  exact fun k hk => h ⟨k, by omega⟩
theorem zlf_b {n : Nat} {lf mo : Int} (hn : n ≤ 60) (hm : 0 ≤ mo ∧ mo ≤ 1000000000) (h : 5 ^ n * (lf + 5) ≤ 6 ^ n * (mo + 5)) : lf ≤ 60000000300000 := by
  have a := Int.mul_le_mul_of_nonneg_right (z6060 n hn) (show 0 ≤ mo + 5 by omega)
  have p5 := zpow_pos (x := 5) (by decide) n
  have e : 60000 * 5 ^ n * (mo + 5) = 5 ^ n * (60000 * (mo + 5)) := by ac_rfl
  rw [e] at a
  have := Int.le_of_mul_le_mul_left (Int.le_trans h a) (by omega)
  omega
theorem zlf_35 {n m : Nat} {lf mo : Int} (hn : n + m ≤ 60) (h0 : 0 ≤ lf) (hm : 0 ≤ mo ∧ mo ≤ 1000000000) (h : 5 ^ n * (lf + 5) ≤ 6 ^ n * (mo + 5)) : lf * 120000 ^ m < 1073741824 ^ 35 := by
  have p5 := zpow_pos (x := 5) (by decide) n
  have a1 : lf + 5 ≤ 5 ^ n * (lf + 5) := by
    have := Int.mul_le_mul_of_nonneg_right p5 (show 0 ≤ lf + 5 by omega)
    omega
  have a2 := zpw_le (a := 6) (b := 120000) (by decide) (by decide) n
  have a3 := Int.mul_le_mul_of_nonneg_right a2 (show 0 ≤ mo + 5 by omega)
  have a4 : lf ≤ 120000 ^ n * (mo + 5) := by omega
  have p1 := zpow_pos (x := 120000) (by decide) m
  have a5 := Int.mul_le_mul_of_nonneg_right a4 (show 0 ≤ (120000 : Int) ^ m by omega)
  have e : 120000 ^ n * (mo + 5) * 120000 ^ m = (mo + 5) * 120000 ^ (n + m) := by rw [Int.pow_add]; ac_rfl
  have a6 := zpow_le (b := 120000) (by decide) hn
  have a7 : (mo + 5) * 120000 ^ (n + m) ≤ 1000000005 * 120000 ^ 60 := by
    have q1 : (mo + 5) * 120000 ^ (n + m) ≤ (mo + 5) * 120000 ^ 60 := Int.mul_le_mul_of_nonneg_left a6 (by omega)
    have q2 : (mo + 5) * 120000 ^ 60 ≤ 1000000005 * 120000 ^ 60 := Int.mul_le_mul_of_nonneg_right (by omega) (by decide +kernel)
    omega
  have c : (1000000005 : Int) * 120000 ^ 60 < 1073741824 ^ 35 := by decide +kernel
  omega
theorem zit_b {md lf po : Int} (h0 : 0 ≤ lf) (hp : 0 ≤ po ∧ po ≤ 20000) : 0 ≤ zit md lf po ∧ 5 * zit md lf po ≤ lf + 4 := by
  have a := Int.mul_nonneg h0 hp.1
  have b := Int.mul_le_mul_of_nonneg_left hp.2 h0
  have c := (zrd_b md (lf * po) (show (0 : Int) < 100000 by decide)).1
  unfold zit
  exact ⟨zrd_nn md a (by decide), by omega⟩
theorem zterm.po {fr fe fh : Int → Int} {mo pn i po : Int} (h : zterm fr fe fh mo pn) (hi : 1 ≤ i ∧ i ≤ pn) (hp : 0 ≤ po ∧ po ≤ 20000) : 0 ≤ zpo fr i po ∧ zpo fr i po ≤ 20000 := by
  obtain ⟨h1, h2, h3, -⟩ := h
  unfold zpo
  split
  · exact hp
  · rcases (show i = 1 ∨ 2 ≤ i by omega) with q | q
    · rw [q]; exact h2
    · rcases h3 i q (by omega) with c | c
      · exact absurd c (by assumption)
      · exact c
theorem zst_b {md : Int} {fr fe fh : Int → Int} {mo pn : Int} (h : zterm fr fe fh mo pn) : ∀ n : Nat, n ≤ pn → 0 ≤ (zst md fr fe fh mo pn n).1 ∧ 5 ^ n * ((zst md fr fe fh mo pn n).1 + 5) ≤ 6 ^ n * (mo + 5) ∧ (0 ≤ (zst md fr fe fh mo pn n).2.1 ∧ (zst md fr fe fh mo pn n).2.1 ≤ 20000) ∧ (0 ≤ (zst md fr fe fh mo pn n).2.2 ∧ (zst md fr fe fh mo pn n).2.2 ≤ 200000000000000)
  | 0, _ => by
    obtain ⟨h1, -⟩ := h
    show 0 ≤ mo ∧ 5 ^ 0 * (mo + 5) ≤ 6 ^ 0 * (mo + 5) ∧ (0 ≤ (0 : Int) ∧ (0 : Int) ≤ 20000) ∧ (0 ≤ (0 : Int) ∧ (0 : Int) ≤ 200000000000000)
    rw [Int.pow_zero, Int.pow_zero]; omega
  | n + 1, hn => by
    obtain ⟨b1, b2, b3, b4⟩ := zst_b h n (by omega)
    have h1 := h.1
    generalize hS : zst md fr fe fh mo pn n = S at b1 b2 b3 b4
    obtain ⟨lf, po, ins⟩ := S
    have b1 : 0 ≤ lf := b1
    have b2 : 5 ^ n * (lf + 5) ≤ 6 ^ n * (mo + 5) := b2
    have b3 : 0 ≤ po ∧ po ≤ 20000 := b3
    have b4 : 0 ≤ ins ∧ ins ≤ 200000000000000 := b4
    have e := zst_n (md := md) (fr := fr) (fe := fe) (fh := fh) (mo := mo) (pn := pn) (i := (n : Int) + 1) (lf := lf) (po := po) (ins := ins) (by omega) (by rw [show ((n : Int) + 1 - 1).toNat = n by omega]; exact hS) rfl rfl rfl rfl
    rw [show ((n : Int) + 1).toNat = n + 1 by omega] at e
    rw [e]
    have hpo := h.po (i := (n : Int) + 1) (by omega) b3
    have hlf := zlf_b (by omega) (by omega) b2
    have hit := zit_b (md := md) b1 hpo
    have hi2 : 0 ≤ zis md fr pn ((n : Int) + 1) lf ins ∧ zis md fr pn ((n : Int) + 1) lf ins ≤ 200000000000000 := by
      unfold zis
      split
      · exact b4
      · rename_i c
        have hq := hpo
        unfold zpo at hq
        rw [if_neg c] at hq
        have := zins_b (md := md) (mo := lf) (po := fr ((n : Int) + 1)) (n := pn - ((n : Int) + 1) + 1) (by omega) hq (by omega) (zlf_35 (n := n) (by omega) b1 (by omega) b2)
        omega
    have hfe := h.2.2.2.1 ((n : Int) + 1) (by omega) (by omega)
    have hpd := zpd_b (fe := fe) (fh := fh) (pn := pn) (p := (n : Int) + 1) (due := lf + zit md lf (zpo fr ((n : Int) + 1) po)) (ins := zis md fr pn ((n : Int) + 1) lf ins) (by omega) hi2.1 hfe.1
    generalize zpd fe fh pn ((n : Int) + 1) (lf + zit md lf (zpo fr ((n : Int) + 1) po)) (zis md fr pn ((n : Int) + 1) lf ins) = pd at *
    generalize zit md lf (zpo fr ((n : Int) + 1) po) = it at *
    have p5 := zpow_pos (x := 5) (by decide) n
    have k1 : 5 ^ n * (5 * (lf + (it - pd) + 5)) ≤ 5 ^ n * (6 * (lf + 5)) := Int.mul_le_mul_of_nonneg_left (by omega) (by omega)
    have k2 : 5 ^ n * (6 * (lf + 5)) = 6 * (5 ^ n * (lf + 5)) := by ac_rfl
    have k3 : (5 : Int) ^ (n + 1) * (lf + (it - pd) + 5) = 5 ^ n * (5 * (lf + (it - pd) + 5)) := by rw [Int.pow_succ, Int.mul_assoc]
    have k4 : (6 : Int) ^ (n + 1) * (mo + 5) = 6 * (6 ^ n * (mo + 5)) := by rw [Int.pow_succ]; ac_rfl
    refine ⟨?_, ?_, hpo, hi2⟩
    · show 0 ≤ lf + (it - pd); omega
    · show (5 : Int) ^ (n + 1) * (lf + (it - pd) + 5) ≤ 6 ^ (n + 1) * (mo + 5)
      rw [k3, k4]; omega
/-- the table has rws rows; its columns; its rows that need no rounding by EXACT -/
def ztab (md : Int) (fr fe fh : Int → Int) (mo pn rws : Int) : Prop := 1 ≤ rws ∧ rws ≤ pn ∧ (∀ k : Int, 1 ≤ k → k ≤ rws → 0 < (zst md fr fe fh mo pn (k - 1).toNat).1) ∧ (zst md fr fe fh mo pn rws.toNat).1 = 0
def zcl (md : Int) (fr fe fh : Int → Int) (mo pn rws : Int) (t0 t1 t2 t3 t4 t5 t6 : Int → Int) : Prop := ∀ k : Int, 1 ≤ k → k ≤ rws → t0 k = (zst md fr fe fh mo pn (k - 1).toNat).1 ∧ t1 k = zit md (zst md fr fe fh mo pn (k - 1).toNat).1 (zst md fr fe fh mo pn k.toNat).2.1 ∧ t2 k = (zst md fr fe fh mo pn (k - 1).toNat).1 + zit md (zst md fr fe fh mo pn (k - 1).toNat).1 (zst md fr fe fh mo pn k.toNat).2.1 - (zst md fr fe fh mo pn k.toNat).1 ∧ t3 k = (zst md fr fe fh mo pn (k - 1).toNat).1 - (zst md fr fe fh mo pn k.toNat).1 ∧ t4 k = (zst md fr fe fh mo pn k.toNat).1 ∧ t5 k = (zst md fr fe fh mo pn k.toNat).2.1 ∧ t6 k = (zst md fr fe fh mo pn k.toNat).2.2
def zxr (md : Int) (fr fe fh : Int → Int) (mo pn k : Int) : Prop := md ≠ 7 ∨ ((fr k = -1 ∨ zinx (zst md fr fe fh mo pn (k - 1).toNat).1 (fr k) (pn - k + 1)) ∧ (zst md fr fe fh mo pn (k - 1).toNat).1 * (zst md fr fe fh mo pn k.toNat).2.1 % 100000 = 0)
/-- somewhere the table would have to be rounded by EXACT -/
def zinex (md : Int) (fr fe fh : Int → Int) (mo pn : Int) : Prop := ∃ k : Int, 1 ≤ k ∧ k ≤ pn ∧ (∀ j : Int, 1 ≤ j → j ≤ k → 0 < (zst md fr fe fh mo pn (j - 1).toNat).1) ∧ ¬ zxr md fr fe fh mo pn k
theorem zst_end {md : Int} {fr fe fh : Int → Int} {mo pn : Int} (h : zterm fr fe fh mo pn) : (zst md fr fe fh mo pn pn.toNat).1 = 0 := by
  have h1 := h.1
  generalize hS : zst md fr fe fh mo pn (pn - 1).toNat = S
  obtain ⟨lf, po, ins⟩ := S
  rw [zst_n (i := pn) (by omega) hS rfl rfl rfl rfl]
  show lf + (zit md lf (zpo fr pn po) - zpd fe fh pn pn (lf + zit md lf (zpo fr pn po)) (zis md fr pn pn lf ins)) = 0
  have e : ∀ due x : Int, zpd fe fh pn pn due x = due := fun due x => by
    unfold zpd
    rw [if_neg (by have := h.2.2.2.2; omega), if_pos (Or.inl rfl)]
  rw [e]; omega
theorem zterm.fr {fr fe fh : Int → Int} {mo pn i : Int} (h : zterm fr fe fh mo pn) (hi : 1 ≤ i ∧ i ≤ 60) : -1 ≤ fr i ∧ fr i ≤ 20000 := by
  obtain ⟨h1, h2, h3, -⟩ := h
  rcases (show i = 1 ∨ 2 ≤ i by omega) with q | q
  · rw [q]; omega
  · rcases h3 i q hi.2 with c | c <;> omega
theorem zlp_b {lf po : Int} (h : 0 ≤ lf ∧ lf ≤ 60000000300000) (hp : 0 ≤ po ∧ po ≤ 20000) : 0 ≤ lf * po ∧ lf * po ≤ 1200000006000000000 := by
  have a := Int.mul_nonneg h.1 hp.1
  have b := Int.mul_le_mul_of_nonneg_right h.2 hp.1
  omega
theorem zst_0 {md : Int} {fr fe fh : Int → Int} {mo pn i lf po ins : Int} (h : zst md fr fe fh mo pn (i - 1).toNat = (lf, po, ins)) (hi : i = 1) : lf = mo := by
  subst hi
  exact (congrArg Prod.fst h).symm
theorem zst_1 {md : Int} {fr fe fh : Int → Int} {mo pn i lf po ins : Int} (h : zst md fr fe fh mo pn i.toNat = (lf, po, ins)) : (zst md fr fe fh mo pn i.toNat).1 = lf := congrArg Prod.fst h
theorem ztab_end {md : Int} {fr fe fh : Int → Int} {mo pn i lf po ins : Int} (ht : zterm fr fe fh mo pn) (k1 : 1 ≤ i ∧ i ≤ pn + 1) (ks : zst md fr fe fh mo pn (i - 1).toNat = (lf, po, ins)) (kp : ∀ k : Int, 1 ≤ k → k < i → 0 < (zst md fr fe fh mo pn (k - 1).toNat).1) (hex : pn < i ∨ lf ≤ 0) : ztab md fr fe fh mo pn (i - 1) := by
  have h1 := ht.1
  have hi : 2 ≤ i := by
    rcases (show i = 1 ∨ 2 ≤ i by omega) with q | q
    · have := zst_0 ks q; omega
    · exact q
  refine ⟨by omega, by omega, fun k a b => kp k a (by omega), ?_⟩
  have hb := (zst_b (md := md) ht (i - 1).toNat (by omega)).1
  rw [ks] at hb ⊢
  have hb : 0 ≤ lf := hb
  show lf = 0
  rcases hex with q | q
  · have he := zst_end (md := md) ht
    rw [show pn = i - 1 by omega, show (i - 1).toNat = (i - 1).toNat from rfl] at he
    rw [← show pn = i - 1 by omega] at he
    have e2 : zst md fr fe fh mo pn pn.toNat = (lf, po, ins) := by rw [show pn.toNat = (i - 1).toNat by omega]; exact ks
    rw [e2] at he
    exact he
  · omega
theorem zcl_up {md : Int} {fr fe fh : Int → Int} {mo pn i lf po ins lf2 po2 in2 it pd : Int} {g0 g1 g2 g3 g4 g5 g6 : Int → Int} (h : 1 ≤ i) (hc : zcl md fr fe fh mo pn (i - 1) g0 g1 g2 g3 g4 g5 g6) (ks : zst md fr fe fh mo pn (i - 1).toNat = (lf, po, ins)) (hz : zst md fr fe fh mo pn i.toNat = (lf2, po2, in2)) (hit : it = zit md lf po2) (hl : lf2 = lf + (it - pd)) :
    zcl md fr fe fh mo pn (i + 1 - 1) (zup g0 i lf) (zup g1 i it) (zup g2 i pd) (zup g3 i (pd - it)) (zup g4 i lf2) (zup g5 i po2) (zup g6 i in2) := fun k a b => by
  by_cases c : k = i
  · subst c
    rw [zup_s, zup_s, zup_s, zup_s, zup_s, zup_s, zup_s, ks, hz]
    refine ⟨rfl, hit, ?_, ?_, rfl, rfl, rfl⟩
    · show pd = lf + zit md lf po2 - lf2; omega
    · show pd - it = lf - lf2; omega
  · rw [zup_n c, zup_n c, zup_n c, zup_n c, zup_n c, zup_n c, zup_n c]
    exact hc k a (by omega)
theorem zxr_no1 {md : Int} {fr fe fh : Int → Int} {mo pn i lf po ins : Int} (ks : zst md fr fe fh mo pn (i - 1).toNat = (lf, po, ins)) (hm : md = 7) (h1 : ¬ fr i = -1) (h2 : ¬ zinx lf (fr i) (pn - i + 1)) : ¬ zxr md fr fe fh mo pn i := fun q => by
  unfold zxr at q
  rw [ks] at q
  rcases q with q | ⟨q | q, -⟩
  · exact q hm
  · exact h1 q
  · exact h2 q
theorem zxr_no2 {md : Int} {fr fe fh : Int → Int} {mo pn i lf po ins lf2 po2 in2 : Int} (ks : zst md fr fe fh mo pn (i - 1).toNat = (lf, po, ins)) (hz : zst md fr fe fh mo pn i.toNat = (lf2, po2, in2)) (hm : md = 7) (h2 : ((lf * po2).natAbs : Int) % 100000 ≠ 0) : ¬ zxr md fr fe fh mo pn i := fun q => by
  unfold zxr at q
  rw [ks, hz] at q
  rcases q with q | ⟨-, q⟩
  · exact q hm
  · exact h2 ((znz (by decide)).mpr q)
theorem zxr_yes {md : Int} {fr fe fh : Int → Int} {mo pn i lf po ins lf2 po2 in2 : Int} (ks : zst md fr fe fh mo pn (i - 1).toNat = (lf, po, ins)) (hz : zst md fr fe fh mo pn i.toNat = (lf2, po2, in2)) (h1 : md ≠ 7 ∨ fr i = -1 ∨ zinx lf (fr i) (pn - i + 1)) (h2 : ((lf * po2).natAbs : Int) % 100000 = 0 ∨ md ≠ 7) : zxr md fr fe fh mo pn i := by
  unfold zxr
  rw [ks, hz]
  rcases h1 with q | q
  · exact Or.inl q
  · rcases h2 with w | w
    · exact Or.inr ⟨q, (znz (by decide)).mp w⟩
    · exact Or.inl w
/-- a column -/
def zcol (t0 t1 t2 t3 t4 t5 t6 : Int → Int) (wh : Int) : Int → Int := if wh = 0 then t0 else if wh = 1 then t1 else if wh = 2 then t2 else if wh = 3 then t3 else if wh = 4 then t4 else if wh = 5 then t5 else t6
/-- the sum of a column's first rows -/
def zs1 (f : Int → Int) (n : Nat) : Int := zsm (fun j => f (j + 1)) n
theorem zs1_i {f : Int → Int} {w i : Int} (h0 : 1 ≤ i) (h : w = zs1 f (i - 1).toNat) : w + f i = zs1 f (i + 1 - 1).toNat := by
  have e : (i + 1 - 1).toNat = (i - 1).toNat + 1 := by omega
  unfold zs1 at *
  rw [e, zsm_s, h]
  show _ = _ + f (((i - 1).toNat : Int) + 1)
  rw [show (((i - 1).toNat : Int) + 1) = i by omega]
def rm_c_X3_begin : Room := { frames := 0, cells := 0, slots := 0, locals := 0 }
theorem iw_X3_begin_X3 : ∀ w ∈ wsX30, w ∈ wsX3_begin := by decide +kernel
set_option maxHeartbeats 1000000 in
set_option maxRecDepth 100000 in
theorem c_X3_begin (l : Launch) (G : zG) (y : Nat) (nr : Nat) (ne : Nat) (nh : Nat) (tb : Nat) (q : Nat) (fr : Int → Int) (fe : Int → Int) (fh : Int → Int) (m0 : Int) (n0 : Int) (rws : Int) (mo : Int) (po : Int) (pn : Int)  : zM l G yX3_begin wsX3_begin rm_c_X3_begin [.ref y, .long (lz (mo)), .int (iz (po)), .int (iz (pn))] [(y, .inr (4, [.ref nr, .ref ne, .ref nh, .ref tb, .ref q, .long (lz (m0)), .int (iz (n0)), .int (iz (rws))])), (nr, zaI (G.2 1) 61 (fr)), (ne, zaL (G.2 0) 61 (fe)), (nh, zaZ (G.2 2) 61 (fh))] (fun A => zQv G (fun (u : (Int → Int) × (Int → Int) × (Int → Int)) => ∀ k : Int, 1 ≤ k → k ≤ 60 → u.1 k = (if k = 1 then po else -1) ∧ u.2.1 k = 0 ∧ u.2.2 k = 0) (fun (u : (Int → Int) × (Int → Int) × (Int → Int)) => [(y, .inr (4, [.ref nr, .ref ne, .ref nh, .ref tb, .ref q, .long (lz (mo)), .int (iz (pn)), .int (iz (rws))])), (nr, zaI (G.2 1) 61 (u.1)), (ne, zaL (G.2 0) 61 (u.2.1)), (nh, zaZ (G.2 2) 61 (u.2.2))]) A) 0 0 := by
  refine zM_of (cc := cX3_begin) (maxL := 6) (ret := none) (by decide) rfl (Nat.le_of_ble_eq_true rfl) ?_
  intro p e s m below meth c ls A Q hQ hx hb hr hts hown hlocks hml hnm hKX hP hD hA hS hl
  have hK := hKX.1
  have iwX3 := iw_X3_begin_X3
  obtain ⟨H, hH⟩ : ∃ h, h = s.heap := ⟨_, rfl⟩
  obtain ⟨locs, hlo⟩ : ∃ h : List Loc, h = [] := ⟨_, rfl⟩
  have hS : va_S A s.heap H locs := by rw [hH, hlo]; exact hS
  have hP : va_P G.1 vwCl [(y, .inr (4, [.ref nr, .ref ne, .ref nh, .ref tb, .ref q, .long (lz (m0)), .int (iz (n0)), .int (iz (rws))])), (nr, zaI (G.2 1) 61 (fr)), (ne, zaL (G.2 0) 61 (fe)), (nh, zaZ (G.2 2) 61 (fh))] H := by rw [hH]; exact hP
  have hD : va_D A [(y, .inr (4, [.ref nr, .ref ne, .ref nh, .ref tb, .ref q, .long (lz (m0)), .int (iz (n0)), .int (iz (rws))])), (nr, zaI (G.2 1) 61 (fr)), (ne, zaL (G.2 0) 61 (fe)), (nh, zaZ (G.2 2) 61 (fh))] := hD
  have hl : lv_has ls 6 [(0, .ref y), (1, .long (lz (mo))), (3, .int (iz (po))), (4, .int (iz (pn)))] := hl
  rw [← hH, ← hlo]
  refine lv_aload_n hx hb dX3_begin_0 rfl (lv_at hl 0 rfl) ?_
  refine lv_lload_n hx hb dX3_begin_1 rfl (lv_at hl 1 rfl) ?_
  refine va_put (D := G.1) (ci := 4) (v := .long (lz (mo))) (ty := .long) (C := RX3) (T := TX3) (N := 8) hx hb hts iwX3 tyX3 tyX3_ok nmX3 hown hK hP hD hS 0 rfl rfl 5 (by decide) (hts (.fieldLink RX3 35 "AnnuityHouse$Loan" "lent" "J") (by decide +kernel)) (fun _ h9 => h9) rfl (by decide +kernel) rfl rfl (Nat.le_of_ble_eq_true rfl) dX3_begin_2 (fun H locs hP hD hS => ?_)
  have hP : va_P G.1 vwCl [(y, .inr (4, [.ref nr, .ref ne, .ref nh, .ref tb, .ref q, .long (lz (mo)), .int (iz (n0)), .int (iz (rws))])), (nr, zaI (G.2 1) 61 (fr)), (ne, zaL (G.2 0) 61 (fe)), (nh, zaZ (G.2 2) 61 (fh))] H := hP
  have hD : va_D A [(y, .inr (4, [.ref nr, .ref ne, .ref nh, .ref tb, .ref q, .long (lz (mo)), .int (iz (n0)), .int (iz (rws))])), (nr, zaI (G.2 1) 61 (fr)), (ne, zaL (G.2 0) 61 (fe)), (nh, zaZ (G.2 2) 61 (fh))] := hD
  refine lv_aload_n hx hb dX3_begin_5 rfl (lv_at hl 0 rfl) ?_
  refine lv_iload hx hb dX3_begin_6 (lv_at hl 3 rfl) ?_
  refine va_put (D := G.1) (ci := 4) (v := .int (iz (pn))) (ty := .int) (C := RX3) (T := TX3) (N := 8) hx hb hts iwX3 tyX3 tyX3_ok nmX3 hown hK hP hD hS 0 rfl rfl 6 (by decide) (hts (.fieldLink RX3 39 "AnnuityHouse$Loan" "periods" "I") (by decide +kernel)) (fun _ h9 => h9) rfl (by decide +kernel) rfl rfl (Nat.le_of_ble_eq_true rfl) dX3_begin_8 (fun H locs hP hD hS => ?_)
  have hP : va_P G.1 vwCl [(y, .inr (4, [.ref nr, .ref ne, .ref nh, .ref tb, .ref q, .long (lz (mo)), .int (iz (pn)), .int (iz (rws))])), (nr, zaI (G.2 1) 61 (fr)), (ne, zaL (G.2 0) 61 (fe)), (nh, zaZ (G.2 2) 61 (fh))] H := hP
  have hD : va_D A [(y, .inr (4, [.ref nr, .ref ne, .ref nh, .ref tb, .ref q, .long (lz (mo)), .int (iz (pn)), .int (iz (rws))])), (nr, zaI (G.2 1) 61 (fr)), (ne, zaL (G.2 0) 61 (fe)), (nh, zaZ (G.2 2) 61 (fh))] := hD
  refine lv_iconst (v := iz (1)) hx hb dX3_begin_11 rfl ?_
  refine lv_istore (lv' := [(5, .int (iz (1))), (0, .ref y), (1, .long (lz (mo))), (3, .int (iz (po))), (4, .int (iz (pn)))]) hx hb dX3_begin_12 hl (by decide) rfl (fun ls hl => ?_)
  have hl_14 : ∀ (zn_14 : Nat) (i : Int) (gr : Int → Int) (ge : Int → Int) (gh : Int → Int) (H : Heap) (locs : List Loc) (ls : Array Slot), (61 - i).toNat < zn_14 → (1 ≤ i ∧ i ≤ 61) → (∀ k : Int, 1 ≤ k → k < i → gr k = (if k = 1 then po else -1) ∧ ge k = 0 ∧ gh k = 0) → va_P G.1 vwCl [(y, .inr (4, [.ref nr, .ref ne, .ref nh, .ref tb, .ref q, .long (lz (mo)), .int (iz (pn)), .int (iz (rws))])), (nr, zaI (G.2 1) 61 (gr)), (ne, zaL (G.2 0) 61 (ge)), (nh, zaZ (G.2 2) 61 (gh))] H → va_D A [(y, .inr (4, [.ref nr, .ref ne, .ref nh, .ref tb, .ref q, .long (lz (mo)), .int (iz (pn)), .int (iz (rws))])), (nr, zaI (G.2 1) 61 (gr)), (ne, zaL (G.2 0) 61 (ge)), (nh, zaZ (G.2 2) 61 (gh))] → va_S A s.heap H locs → lv_has ls 6 [(5, .int (iz (i))), (0, .ref y), (1, .long (lz (mo))), (3, .int (iz (po))), (4, .int (iz (pn)))] → W p l e rm_c_X3_begin s m ([.ref y, .long (lz (mo)), .int (iz (po)), .int (iz (pn))] : List Value).toArray below meth c H locs 0 0 Q (F0 m 14 ls []) := by
    intro zn_14
    induction zn_14 with
    | zero => intro i gr ge gh H locs ls hm; exact absurd hm (Nat.not_lt_zero _)
    | succ zn_14 ih_14 =>
      intro i gr ge gh H locs ls hm_14 k1 k2 hP hD hS hl
      refine lv_iload hx hb dX3_begin_14 (lv_at hl 0 rfl) ?_
      refine lv_bipush (v := iz (60)) hx hb dX3_begin_16 rfl ?_
      refine zr_icmp_gt (x := i) (y := 60) (tgt := 61) hx hb (⟨by omega, by omega⟩) (⟨by omega, by omega⟩) dX3_begin_18 (by decide) (fun h_1 => ?_) (fun h_1 => ?_)
      ·
        rw [hQ]
        exact zr_vret (u := (gr, ge, gh)) hx hb hr hlocks hP hD hS (by first | exact Nat.le_of_ble_eq_true rfl | omega) (by first | exact Nat.le_of_ble_eq_true rfl | omega) dX3_begin_61 (show ∀ k : Int, 1 ≤ k → k ≤ 60 → gr k = (if k = 1 then po else -1) ∧ ge k = 0 ∧ gh k = 0 from fun k a b => k2 k a (by omega))
      ·
        refine lv_aload_n hx hb dX3_begin_21 rfl (lv_at hl 1 rfl) ?_
        refine va_get (D := G.1) (ci := 4) (v := .ref nr) (C := RX3) (T := TX3) (N := 8) hx hb hts iwX3 hown hK hP 0 rfl rfl 0 (by decide) (hts (.fieldLink RX3 9 "AnnuityHouse$Loan" "rates" "[I") (by decide +kernel)) (fun _ h9 => h9) rfl dX3_begin_22 ?_
        refine lv_iload hx hb dX3_begin_25 (lv_at hl 0 rfl) ?_
        refine lv_iload hx hb dX3_begin_27 (lv_at hl 0 rfl) ?_
        refine lv_iconst (v := iz (1)) hx hb dX3_begin_29 rfl ?_
        refine zr_icmp_ne (x := i) (y := 1) (tgt := 37) hx hb (⟨by omega, by omega⟩) (⟨by omega, by omega⟩) dX3_begin_30 (by decide) (fun h_2 => ?_) (fun h_2 => ?_)
        ·
          refine lv_iconst (v := iz (-1)) hx hb dX3_begin_37 rfl ?_
          refine zr_iast hx hb hK hP hD hS 1 1 rfl rfl (i := i) (x := -1) (⟨by omega, by omega, by omega⟩) dX3_begin_38 (fun H locs hP hD hS => ?_)
          have hP : va_P G.1 vwCl [(y, .inr (4, [.ref nr, .ref ne, .ref nh, .ref tb, .ref q, .long (lz (mo)), .int (iz (pn)), .int (iz (rws))])), (nr, zaI (G.2 1) 61 (zup gr i (-1))), (ne, zaL (G.2 0) 61 (ge)), (nh, zaZ (G.2 2) 61 (gh))] H := hP
          have hD : va_D A [(y, .inr (4, [.ref nr, .ref ne, .ref nh, .ref tb, .ref q, .long (lz (mo)), .int (iz (pn)), .int (iz (rws))])), (nr, zaI (G.2 1) 61 (zup gr i (-1))), (ne, zaL (G.2 0) 61 (ge)), (nh, zaZ (G.2 2) 61 (gh))] := hD
          refine lv_aload_n hx hb dX3_begin_39 rfl (lv_at hl 1 rfl) ?_
          refine va_get (D := G.1) (ci := 4) (v := .ref ne) (C := RX3) (T := TX3) (N := 8) hx hb hts iwX3 hown hK hP 0 rfl rfl 1 (by decide) (hts (.fieldLink RX3 15 "AnnuityHouse$Loan" "earlies" "[J") (by decide +kernel)) (fun _ h9 => h9) rfl dX3_begin_40 ?_
          refine lv_iload hx hb dX3_begin_43 (lv_at hl 0 rfl) ?_
          refine lv_lconst (v := lz (0)) hx hb dX3_begin_45 rfl ?_
          refine zr_last hx hb hK hP hD hS 2 0 rfl rfl (i := i) (x := 0) (⟨by omega, by omega, by omega⟩) dX3_begin_46 (fun H locs hP hD hS => ?_)
          have hP : va_P G.1 vwCl [(y, .inr (4, [.ref nr, .ref ne, .ref nh, .ref tb, .ref q, .long (lz (mo)), .int (iz (pn)), .int (iz (rws))])), (nr, zaI (G.2 1) 61 (zup gr i (-1))), (ne, zaL (G.2 0) 61 (zup ge i 0)), (nh, zaZ (G.2 2) 61 (gh))] H := hP
          have hD : va_D A [(y, .inr (4, [.ref nr, .ref ne, .ref nh, .ref tb, .ref q, .long (lz (mo)), .int (iz (pn)), .int (iz (rws))])), (nr, zaI (G.2 1) 61 (zup gr i (-1))), (ne, zaL (G.2 0) 61 (zup ge i 0)), (nh, zaZ (G.2 2) 61 (gh))] := hD
          refine lv_aload_n hx hb dX3_begin_47 rfl (lv_at hl 1 rfl) ?_
          refine va_get (D := G.1) (ci := 4) (v := .ref nh) (C := RX3) (T := TX3) (N := 8) hx hb hts iwX3 hown hK hP 0 rfl rfl 2 (by decide) (hts (.fieldLink RX3 19 "AnnuityHouse$Loan" "holidays" "[Z") (by decide +kernel)) (fun _ h9 => h9) rfl dX3_begin_48 ?_
          refine lv_iload hx hb dX3_begin_51 (lv_at hl 0 rfl) ?_
          refine lv_iconst (v := iz (0)) hx hb dX3_begin_53 rfl ?_
          refine zr_zast hx hb hK hP hD hS 3 2 rfl rfl (i := i) (x := 0) (⟨by omega, by omega, by omega⟩) (by decide +kernel) dX3_begin_54 (fun H locs hP hD hS => ?_)
          have hP : va_P G.1 vwCl [(y, .inr (4, [.ref nr, .ref ne, .ref nh, .ref tb, .ref q, .long (lz (mo)), .int (iz (pn)), .int (iz (rws))])), (nr, zaI (G.2 1) 61 (zup gr i (-1))), (ne, zaL (G.2 0) 61 (zup ge i 0)), (nh, zaZ (G.2 2) 61 (zup gh i 0))] H := hP
          have hD : va_D A [(y, .inr (4, [.ref nr, .ref ne, .ref nh, .ref tb, .ref q, .long (lz (mo)), .int (iz (pn)), .int (iz (rws))])), (nr, zaI (G.2 1) 61 (zup gr i (-1))), (ne, zaL (G.2 0) 61 (zup ge i 0)), (nh, zaZ (G.2 2) 61 (zup gh i 0))] := hD
          refine lv_iinc (v := iz (i + 1)) (lv' := [(5, .int (iz (i + 1))), (0, .ref y), (1, .long (lz (mo))), (3, .int (iz (po))), (4, .int (iz (pn)))]) hx hb dX3_begin_55 hl (k := 0) rfl (by rw [show Int32.ofInt (1) = iz (1) from rfl, iz_add]) (by decide) rfl (fun ls hl => ?_)
          refine lv_goto (tgt := 14) hx hb dX3_begin_58 (by decide) ?_
          exact ih_14 (i + 1) (zup gr i (-1)) (zup ge i 0) (zup gh i 0) _ _ _ (by omega) (by omega) (fun k a b => (show k = i ∨ k < i by omega).elim (fun q => by rw [q]; exact ⟨(zup_s _ _ _).trans (by first | rw [if_pos (by omega)] | rw [if_neg (by omega)]), zup_s _ _ _, zup_s _ _ _⟩) (fun q => ⟨(zup_n (by omega)).trans (k2 k a q).1, (zup_n (by omega)).trans (k2 k a q).2.1, (zup_n (by omega)).trans (k2 k a q).2.2⟩)) (hP) (hD) hS (hl)
        ·
          refine lv_iload_n hx hb dX3_begin_33 rfl (lv_at hl 3 rfl) ?_
          refine lv_goto (tgt := 38) hx hb dX3_begin_34 (by decide) ?_
          refine zr_iast hx hb hK hP hD hS 1 1 rfl rfl (i := i) (x := po) (⟨by omega, by omega, by omega⟩) dX3_begin_38 (fun H locs hP hD hS => ?_)
          have hP : va_P G.1 vwCl [(y, .inr (4, [.ref nr, .ref ne, .ref nh, .ref tb, .ref q, .long (lz (mo)), .int (iz (pn)), .int (iz (rws))])), (nr, zaI (G.2 1) 61 (zup gr i po)), (ne, zaL (G.2 0) 61 (ge)), (nh, zaZ (G.2 2) 61 (gh))] H := hP
          have hD : va_D A [(y, .inr (4, [.ref nr, .ref ne, .ref nh, .ref tb, .ref q, .long (lz (mo)), .int (iz (pn)), .int (iz (rws))])), (nr, zaI (G.2 1) 61 (zup gr i po)), (ne, zaL (G.2 0) 61 (ge)), (nh, zaZ (G.2 2) 61 (gh))] := hD
          refine lv_aload_n hx hb dX3_begin_39 rfl (lv_at hl 1 rfl) ?_
          refine va_get (D := G.1) (ci := 4) (v := .ref ne) (C := RX3) (T := TX3) (N := 8) hx hb hts iwX3 hown hK hP 0 rfl rfl 1 (by decide) (hts (.fieldLink RX3 15 "AnnuityHouse$Loan" "earlies" "[J") (by decide +kernel)) (fun _ h9 => h9) rfl dX3_begin_40 ?_
          refine lv_iload hx hb dX3_begin_43 (lv_at hl 0 rfl) ?_
          refine lv_lconst (v := lz (0)) hx hb dX3_begin_45 rfl ?_
          refine zr_last hx hb hK hP hD hS 2 0 rfl rfl (i := i) (x := 0) (⟨by omega, by omega, by omega⟩) dX3_begin_46 (fun H locs hP hD hS => ?_)
          have hP : va_P G.1 vwCl [(y, .inr (4, [.ref nr, .ref ne, .ref nh, .ref tb, .ref q, .long (lz (mo)), .int (iz (pn)), .int (iz (rws))])), (nr, zaI (G.2 1) 61 (zup gr i po)), (ne, zaL (G.2 0) 61 (zup ge i 0)), (nh, zaZ (G.2 2) 61 (gh))] H := hP
          have hD : va_D A [(y, .inr (4, [.ref nr, .ref ne, .ref nh, .ref tb, .ref q, .long (lz (mo)), .int (iz (pn)), .int (iz (rws))])), (nr, zaI (G.2 1) 61 (zup gr i po)), (ne, zaL (G.2 0) 61 (zup ge i 0)), (nh, zaZ (G.2 2) 61 (gh))] := hD
          refine lv_aload_n hx hb dX3_begin_47 rfl (lv_at hl 1 rfl) ?_
          refine va_get (D := G.1) (ci := 4) (v := .ref nh) (C := RX3) (T := TX3) (N := 8) hx hb hts iwX3 hown hK hP 0 rfl rfl 2 (by decide) (hts (.fieldLink RX3 19 "AnnuityHouse$Loan" "holidays" "[Z") (by decide +kernel)) (fun _ h9 => h9) rfl dX3_begin_48 ?_
          refine lv_iload hx hb dX3_begin_51 (lv_at hl 0 rfl) ?_
          refine lv_iconst (v := iz (0)) hx hb dX3_begin_53 rfl ?_
          refine zr_zast hx hb hK hP hD hS 3 2 rfl rfl (i := i) (x := 0) (⟨by omega, by omega, by omega⟩) (by decide +kernel) dX3_begin_54 (fun H locs hP hD hS => ?_)
          have hP : va_P G.1 vwCl [(y, .inr (4, [.ref nr, .ref ne, .ref nh, .ref tb, .ref q, .long (lz (mo)), .int (iz (pn)), .int (iz (rws))])), (nr, zaI (G.2 1) 61 (zup gr i po)), (ne, zaL (G.2 0) 61 (zup ge i 0)), (nh, zaZ (G.2 2) 61 (zup gh i 0))] H := hP
          have hD : va_D A [(y, .inr (4, [.ref nr, .ref ne, .ref nh, .ref tb, .ref q, .long (lz (mo)), .int (iz (pn)), .int (iz (rws))])), (nr, zaI (G.2 1) 61 (zup gr i po)), (ne, zaL (G.2 0) 61 (zup ge i 0)), (nh, zaZ (G.2 2) 61 (zup gh i 0))] := hD
          refine lv_iinc (v := iz (i + 1)) (lv' := [(5, .int (iz (i + 1))), (0, .ref y), (1, .long (lz (mo))), (3, .int (iz (po))), (4, .int (iz (pn)))]) hx hb dX3_begin_55 hl (k := 0) rfl (by rw [show Int32.ofInt (1) = iz (1) from rfl, iz_add]) (by decide) rfl (fun ls hl => ?_)
          refine lv_goto (tgt := 14) hx hb dX3_begin_58 (by decide) ?_
          exact ih_14 (i + 1) (zup gr i po) (zup ge i 0) (zup gh i 0) _ _ _ (by omega) (by omega) (fun k a b => (show k = i ∨ k < i by omega).elim (fun q => by rw [q]; exact ⟨(zup_s _ _ _).trans (by first | rw [if_pos (by omega)] | rw [if_neg (by omega)]), zup_s _ _ _, zup_s _ _ _⟩) (fun q => ⟨(zup_n (by omega)).trans (k2 k a q).1, (zup_n (by omega)).trans (k2 k a q).2.1, (zup_n (by omega)).trans (k2 k a q).2.2⟩)) (hP) (hD) hS (hl)
  exact hl_14 ((61 - 1 : Int).toNat + 1) 1 fr fe fh _ _ _ (Nat.lt_succ_self _) (by omega) (fun k a b => absurd b (by omega)) (hP) (hD) hS (hl)

def rm_c_X3_copyTerms : Room := { frames := 0, cells := 0, slots := 0, locals := 0 }
theorem iw_X3_copyTerms_X3 : ∀ w ∈ wsX30, w ∈ wsX3_copyTerms := by decide +kernel
set_option maxHeartbeats 1000000 in
set_option maxRecDepth 100000 in
theorem c_X3_copyTerms (l : Launch) (G : zG) (y : Nat) (nr : Nat) (ne : Nat) (nh : Nat) (tb : Nat) (q : Nat) (fr : Int → Int) (fe : Int → Int) (fh : Int → Int) (m0 : Int) (n0 : Int) (rws : Int) (oy : Nat) (onr : Nat) (one : Nat) (onh : Nat) (otb : Nat) (oq : Nat) (ofr : Int → Int) (ofe : Int → Int) (ofh : Int → Int) (omo : Int) (opn : Int) (orws : Int) (h1 : ∀ k : Int, 1 ≤ k → k ≤ 60 → ofh k = 0 ∨ ofh k = 1) : zM l G yX3_copyTerms wsX3_copyTerms rm_c_X3_copyTerms [.ref y, .ref oy] [(y, .inr (4, [.ref nr, .ref ne, .ref nh, .ref tb, .ref q, .long (lz (m0)), .int (iz (n0)), .int (iz (rws))])), (nr, zaI (G.2 1) 61 (fr)), (ne, zaL (G.2 0) 61 (fe)), (nh, zaZ (G.2 2) 61 (fh)), (oy, .inr (4, [.ref onr, .ref one, .ref onh, .ref otb, .ref oq, .long (lz (omo)), .int (iz (opn)), .int (iz (orws))])), (onr, zaI (G.2 1) 61 (ofr)), (one, zaL (G.2 0) 61 (ofe)), (onh, zaZ (G.2 2) 61 (ofh))] (fun A => zQv G (fun (u : (Int → Int) × (Int → Int) × (Int → Int)) => ∀ k : Int, 1 ≤ k → k ≤ 60 → u.1 k = ofr k ∧ u.2.1 k = ofe k ∧ u.2.2 k = ofh k) (fun (u : (Int → Int) × (Int → Int) × (Int → Int)) => [(y, .inr (4, [.ref nr, .ref ne, .ref nh, .ref tb, .ref q, .long (lz (omo)), .int (iz (opn)), .int (iz (rws))])), (nr, zaI (G.2 1) 61 (u.1)), (ne, zaL (G.2 0) 61 (u.2.1)), (nh, zaZ (G.2 2) 61 (u.2.2)), (oy, .inr (4, [.ref onr, .ref one, .ref onh, .ref otb, .ref oq, .long (lz (omo)), .int (iz (opn)), .int (iz (orws))])), (onr, zaI (G.2 1) 61 (ofr)), (one, zaL (G.2 0) 61 (ofe)), (onh, zaZ (G.2 2) 61 (ofh))]) A) 0 0 := by
  refine zM_of (cc := cX3_copyTerms) (maxL := 3) (ret := none) (by decide) rfl (Nat.le_of_ble_eq_true rfl) ?_
  intro p e s m below meth c ls A Q hQ hx hb hr hts hown hlocks hml hnm hKX hP hD hA hS hl
  have hK := hKX.1
  have iwX3 := iw_X3_copyTerms_X3
  obtain ⟨H, hH⟩ : ∃ h, h = s.heap := ⟨_, rfl⟩
  obtain ⟨locs, hlo⟩ : ∃ h : List Loc, h = [] := ⟨_, rfl⟩
  have hS : va_S A s.heap H locs := by rw [hH, hlo]; exact hS
  have hP : va_P G.1 vwCl [(y, .inr (4, [.ref nr, .ref ne, .ref nh, .ref tb, .ref q, .long (lz (m0)), .int (iz (n0)), .int (iz (rws))])), (nr, zaI (G.2 1) 61 (fr)), (ne, zaL (G.2 0) 61 (fe)), (nh, zaZ (G.2 2) 61 (fh)), (oy, .inr (4, [.ref onr, .ref one, .ref onh, .ref otb, .ref oq, .long (lz (omo)), .int (iz (opn)), .int (iz (orws))])), (onr, zaI (G.2 1) 61 (ofr)), (one, zaL (G.2 0) 61 (ofe)), (onh, zaZ (G.2 2) 61 (ofh))] H := by rw [hH]; exact hP
  have hD : va_D A [(y, .inr (4, [.ref nr, .ref ne, .ref nh, .ref tb, .ref q, .long (lz (m0)), .int (iz (n0)), .int (iz (rws))])), (nr, zaI (G.2 1) 61 (fr)), (ne, zaL (G.2 0) 61 (fe)), (nh, zaZ (G.2 2) 61 (fh)), (oy, .inr (4, [.ref onr, .ref one, .ref onh, .ref otb, .ref oq, .long (lz (omo)), .int (iz (opn)), .int (iz (orws))])), (onr, zaI (G.2 1) 61 (ofr)), (one, zaL (G.2 0) 61 (ofe)), (onh, zaZ (G.2 2) 61 (ofh))] := hD
  have hl : lv_has ls 3 [(0, .ref y), (1, .ref oy)] := hl
  rw [← hH, ← hlo]
  refine lv_aload_n hx hb dX3_copyTerms_0 rfl (lv_at hl 0 rfl) ?_
  refine lv_aload_n hx hb dX3_copyTerms_1 rfl (lv_at hl 1 rfl) ?_
  refine va_get (D := G.1) (ci := 4) (v := .long (lz (omo))) (C := RX3) (T := TX3) (N := 8) hx hb hts iwX3 hown hK hP 4 rfl rfl 5 (by decide) (hts (.fieldLink RX3 35 "AnnuityHouse$Loan" "lent" "J") (by decide +kernel)) (fun _ h9 => h9) rfl dX3_copyTerms_2 ?_
  refine va_put (D := G.1) (ci := 4) (v := .long (lz (omo))) (ty := .long) (C := RX3) (T := TX3) (N := 8) hx hb hts iwX3 tyX3 tyX3_ok nmX3 hown hK hP hD hS 0 rfl rfl 5 (by decide) (hts (.fieldLink RX3 35 "AnnuityHouse$Loan" "lent" "J") (by decide +kernel)) (fun _ h9 => h9) rfl (by decide +kernel) rfl rfl (Nat.le_of_ble_eq_true rfl) dX3_copyTerms_5 (fun H locs hP hD hS => ?_)
  have hP : va_P G.1 vwCl [(y, .inr (4, [.ref nr, .ref ne, .ref nh, .ref tb, .ref q, .long (lz (omo)), .int (iz (n0)), .int (iz (rws))])), (nr, zaI (G.2 1) 61 (fr)), (ne, zaL (G.2 0) 61 (fe)), (nh, zaZ (G.2 2) 61 (fh)), (oy, .inr (4, [.ref onr, .ref one, .ref onh, .ref otb, .ref oq, .long (lz (omo)), .int (iz (opn)), .int (iz (orws))])), (onr, zaI (G.2 1) 61 (ofr)), (one, zaL (G.2 0) 61 (ofe)), (onh, zaZ (G.2 2) 61 (ofh))] H := hP
  have hD : va_D A [(y, .inr (4, [.ref nr, .ref ne, .ref nh, .ref tb, .ref q, .long (lz (omo)), .int (iz (n0)), .int (iz (rws))])), (nr, zaI (G.2 1) 61 (fr)), (ne, zaL (G.2 0) 61 (fe)), (nh, zaZ (G.2 2) 61 (fh)), (oy, .inr (4, [.ref onr, .ref one, .ref onh, .ref otb, .ref oq, .long (lz (omo)), .int (iz (opn)), .int (iz (orws))])), (onr, zaI (G.2 1) 61 (ofr)), (one, zaL (G.2 0) 61 (ofe)), (onh, zaZ (G.2 2) 61 (ofh))] := hD
  refine lv_aload_n hx hb dX3_copyTerms_8 rfl (lv_at hl 0 rfl) ?_
  refine lv_aload_n hx hb dX3_copyTerms_9 rfl (lv_at hl 1 rfl) ?_
  refine va_get (D := G.1) (ci := 4) (v := .int (iz (opn))) (C := RX3) (T := TX3) (N := 8) hx hb hts iwX3 hown hK hP 4 rfl rfl 6 (by decide) (hts (.fieldLink RX3 39 "AnnuityHouse$Loan" "periods" "I") (by decide +kernel)) (fun _ h9 => h9) rfl dX3_copyTerms_10 ?_
  refine va_put (D := G.1) (ci := 4) (v := .int (iz (opn))) (ty := .int) (C := RX3) (T := TX3) (N := 8) hx hb hts iwX3 tyX3 tyX3_ok nmX3 hown hK hP hD hS 0 rfl rfl 6 (by decide) (hts (.fieldLink RX3 39 "AnnuityHouse$Loan" "periods" "I") (by decide +kernel)) (fun _ h9 => h9) rfl (by decide +kernel) rfl rfl (Nat.le_of_ble_eq_true rfl) dX3_copyTerms_13 (fun H locs hP hD hS => ?_)
  have hP : va_P G.1 vwCl [(y, .inr (4, [.ref nr, .ref ne, .ref nh, .ref tb, .ref q, .long (lz (omo)), .int (iz (opn)), .int (iz (rws))])), (nr, zaI (G.2 1) 61 (fr)), (ne, zaL (G.2 0) 61 (fe)), (nh, zaZ (G.2 2) 61 (fh)), (oy, .inr (4, [.ref onr, .ref one, .ref onh, .ref otb, .ref oq, .long (lz (omo)), .int (iz (opn)), .int (iz (orws))])), (onr, zaI (G.2 1) 61 (ofr)), (one, zaL (G.2 0) 61 (ofe)), (onh, zaZ (G.2 2) 61 (ofh))] H := hP
  have hD : va_D A [(y, .inr (4, [.ref nr, .ref ne, .ref nh, .ref tb, .ref q, .long (lz (omo)), .int (iz (opn)), .int (iz (rws))])), (nr, zaI (G.2 1) 61 (fr)), (ne, zaL (G.2 0) 61 (fe)), (nh, zaZ (G.2 2) 61 (fh)), (oy, .inr (4, [.ref onr, .ref one, .ref onh, .ref otb, .ref oq, .long (lz (omo)), .int (iz (opn)), .int (iz (orws))])), (onr, zaI (G.2 1) 61 (ofr)), (one, zaL (G.2 0) 61 (ofe)), (onh, zaZ (G.2 2) 61 (ofh))] := hD
  refine lv_iconst (v := iz (1)) hx hb dX3_copyTerms_16 rfl ?_
  refine lv_istore_n (lv' := [(2, .int (iz (1))), (0, .ref y), (1, .ref oy)]) hx hb dX3_copyTerms_17 rfl hl (by decide) rfl (fun ls hl => ?_)
  have hl_18 : ∀ (zn_18 : Nat) (i : Int) (gr : Int → Int) (ge : Int → Int) (gh : Int → Int) (H : Heap) (locs : List Loc) (ls : Array Slot), (61 - i).toNat < zn_18 → (1 ≤ i ∧ i ≤ 61) → (∀ k : Int, 1 ≤ k → k < i → gr k = ofr k ∧ ge k = ofe k ∧ gh k = ofh k) → va_P G.1 vwCl [(y, .inr (4, [.ref nr, .ref ne, .ref nh, .ref tb, .ref q, .long (lz (omo)), .int (iz (opn)), .int (iz (rws))])), (nr, zaI (G.2 1) 61 (gr)), (ne, zaL (G.2 0) 61 (ge)), (nh, zaZ (G.2 2) 61 (gh)), (oy, .inr (4, [.ref onr, .ref one, .ref onh, .ref otb, .ref oq, .long (lz (omo)), .int (iz (opn)), .int (iz (orws))])), (onr, zaI (G.2 1) 61 (ofr)), (one, zaL (G.2 0) 61 (ofe)), (onh, zaZ (G.2 2) 61 (ofh))] H → va_D A [(y, .inr (4, [.ref nr, .ref ne, .ref nh, .ref tb, .ref q, .long (lz (omo)), .int (iz (opn)), .int (iz (rws))])), (nr, zaI (G.2 1) 61 (gr)), (ne, zaL (G.2 0) 61 (ge)), (nh, zaZ (G.2 2) 61 (gh)), (oy, .inr (4, [.ref onr, .ref one, .ref onh, .ref otb, .ref oq, .long (lz (omo)), .int (iz (opn)), .int (iz (orws))])), (onr, zaI (G.2 1) 61 (ofr)), (one, zaL (G.2 0) 61 (ofe)), (onh, zaZ (G.2 2) 61 (ofh))] → va_S A s.heap H locs → lv_has ls 3 [(2, .int (iz (i))), (0, .ref y), (1, .ref oy)] → W p l e rm_c_X3_copyTerms s m ([.ref y, .ref oy] : List Value).toArray below meth c H locs 0 0 Q (F0 m 18 ls []) := by
    intro zn_18
    induction zn_18 with
    | zero => intro i gr ge gh H locs ls hm; exact absurd hm (Nat.not_lt_zero _)
    | succ zn_18 ih_18 =>
      intro i gr ge gh H locs ls hm_18 k1 k2 hP hD hS hl
      refine lv_iload_n hx hb dX3_copyTerms_18 rfl (lv_at hl 0 rfl) ?_
      refine lv_bipush (v := iz (60)) hx hb dX3_copyTerms_19 rfl ?_
      refine zr_icmp_gt (x := i) (y := 60) (tgt := 66) hx hb (⟨by omega, by omega⟩) (⟨by omega, by omega⟩) dX3_copyTerms_21 (by decide) (fun h_1 => ?_) (fun h_1 => ?_)
      ·
        rw [hQ]
        exact zr_vret (u := (gr, ge, gh)) hx hb hr hlocks hP hD hS (by first | exact Nat.le_of_ble_eq_true rfl | omega) (by first | exact Nat.le_of_ble_eq_true rfl | omega) dX3_copyTerms_66 (show ∀ k : Int, 1 ≤ k → k ≤ 60 → gr k = ofr k ∧ ge k = ofe k ∧ gh k = ofh k from fun k a b => k2 k a (by omega))
      ·
        refine lv_aload_n hx hb dX3_copyTerms_24 rfl (lv_at hl 1 rfl) ?_
        refine va_get (D := G.1) (ci := 4) (v := .ref nr) (C := RX3) (T := TX3) (N := 8) hx hb hts iwX3 hown hK hP 0 rfl rfl 0 (by decide) (hts (.fieldLink RX3 9 "AnnuityHouse$Loan" "rates" "[I") (by decide +kernel)) (fun _ h9 => h9) rfl dX3_copyTerms_25 ?_
        refine lv_iload_n hx hb dX3_copyTerms_28 rfl (lv_at hl 0 rfl) ?_
        refine lv_aload_n hx hb dX3_copyTerms_29 rfl (lv_at hl 2 rfl) ?_
        refine va_get (D := G.1) (ci := 4) (v := .ref onr) (C := RX3) (T := TX3) (N := 8) hx hb hts iwX3 hown hK hP 4 rfl rfl 0 (by decide) (hts (.fieldLink RX3 9 "AnnuityHouse$Loan" "rates" "[I") (by decide +kernel)) (fun _ h9 => h9) rfl dX3_copyTerms_30 ?_
        refine lv_iload_n hx hb dX3_copyTerms_33 rfl (lv_at hl 0 rfl) ?_
        refine zr_iald hx hb hK hP 5 1 rfl rfl (i := i) (⟨by omega, by omega, by omega⟩) dX3_copyTerms_34 ?_
        refine zr_iast hx hb hK hP hD hS 1 1 rfl rfl (i := i) (x := ofr i) (⟨by omega, by omega, by omega⟩) dX3_copyTerms_35 (fun H locs hP hD hS => ?_)
        have hP : va_P G.1 vwCl [(y, .inr (4, [.ref nr, .ref ne, .ref nh, .ref tb, .ref q, .long (lz (omo)), .int (iz (opn)), .int (iz (rws))])), (nr, zaI (G.2 1) 61 (zup gr i (ofr i))), (ne, zaL (G.2 0) 61 (ge)), (nh, zaZ (G.2 2) 61 (gh)), (oy, .inr (4, [.ref onr, .ref one, .ref onh, .ref otb, .ref oq, .long (lz (omo)), .int (iz (opn)), .int (iz (orws))])), (onr, zaI (G.2 1) 61 (ofr)), (one, zaL (G.2 0) 61 (ofe)), (onh, zaZ (G.2 2) 61 (ofh))] H := hP
        have hD : va_D A [(y, .inr (4, [.ref nr, .ref ne, .ref nh, .ref tb, .ref q, .long (lz (omo)), .int (iz (opn)), .int (iz (rws))])), (nr, zaI (G.2 1) 61 (zup gr i (ofr i))), (ne, zaL (G.2 0) 61 (ge)), (nh, zaZ (G.2 2) 61 (gh)), (oy, .inr (4, [.ref onr, .ref one, .ref onh, .ref otb, .ref oq, .long (lz (omo)), .int (iz (opn)), .int (iz (orws))])), (onr, zaI (G.2 1) 61 (ofr)), (one, zaL (G.2 0) 61 (ofe)), (onh, zaZ (G.2 2) 61 (ofh))] := hD
        refine lv_aload_n hx hb dX3_copyTerms_36 rfl (lv_at hl 1 rfl) ?_
        refine va_get (D := G.1) (ci := 4) (v := .ref ne) (C := RX3) (T := TX3) (N := 8) hx hb hts iwX3 hown hK hP 0 rfl rfl 1 (by decide) (hts (.fieldLink RX3 15 "AnnuityHouse$Loan" "earlies" "[J") (by decide +kernel)) (fun _ h9 => h9) rfl dX3_copyTerms_37 ?_
        refine lv_iload_n hx hb dX3_copyTerms_40 rfl (lv_at hl 0 rfl) ?_
        refine lv_aload_n hx hb dX3_copyTerms_41 rfl (lv_at hl 2 rfl) ?_
        refine va_get (D := G.1) (ci := 4) (v := .ref one) (C := RX3) (T := TX3) (N := 8) hx hb hts iwX3 hown hK hP 4 rfl rfl 1 (by decide) (hts (.fieldLink RX3 15 "AnnuityHouse$Loan" "earlies" "[J") (by decide +kernel)) (fun _ h9 => h9) rfl dX3_copyTerms_42 ?_
        refine lv_iload_n hx hb dX3_copyTerms_45 rfl (lv_at hl 0 rfl) ?_
        refine zr_lald hx hb hK hP 6 0 rfl rfl (i := i) (⟨by omega, by omega, by omega⟩) dX3_copyTerms_46 ?_
        refine zr_last hx hb hK hP hD hS 2 0 rfl rfl (i := i) (x := ofe i) (⟨by omega, by omega, by omega⟩) dX3_copyTerms_47 (fun H locs hP hD hS => ?_)
        have hP : va_P G.1 vwCl [(y, .inr (4, [.ref nr, .ref ne, .ref nh, .ref tb, .ref q, .long (lz (omo)), .int (iz (opn)), .int (iz (rws))])), (nr, zaI (G.2 1) 61 (zup gr i (ofr i))), (ne, zaL (G.2 0) 61 (zup ge i (ofe i))), (nh, zaZ (G.2 2) 61 (gh)), (oy, .inr (4, [.ref onr, .ref one, .ref onh, .ref otb, .ref oq, .long (lz (omo)), .int (iz (opn)), .int (iz (orws))])), (onr, zaI (G.2 1) 61 (ofr)), (one, zaL (G.2 0) 61 (ofe)), (onh, zaZ (G.2 2) 61 (ofh))] H := hP
        have hD : va_D A [(y, .inr (4, [.ref nr, .ref ne, .ref nh, .ref tb, .ref q, .long (lz (omo)), .int (iz (opn)), .int (iz (rws))])), (nr, zaI (G.2 1) 61 (zup gr i (ofr i))), (ne, zaL (G.2 0) 61 (zup ge i (ofe i))), (nh, zaZ (G.2 2) 61 (gh)), (oy, .inr (4, [.ref onr, .ref one, .ref onh, .ref otb, .ref oq, .long (lz (omo)), .int (iz (opn)), .int (iz (orws))])), (onr, zaI (G.2 1) 61 (ofr)), (one, zaL (G.2 0) 61 (ofe)), (onh, zaZ (G.2 2) 61 (ofh))] := hD
        refine lv_aload_n hx hb dX3_copyTerms_48 rfl (lv_at hl 1 rfl) ?_
        refine va_get (D := G.1) (ci := 4) (v := .ref nh) (C := RX3) (T := TX3) (N := 8) hx hb hts iwX3 hown hK hP 0 rfl rfl 2 (by decide) (hts (.fieldLink RX3 19 "AnnuityHouse$Loan" "holidays" "[Z") (by decide +kernel)) (fun _ h9 => h9) rfl dX3_copyTerms_49 ?_
        refine lv_iload_n hx hb dX3_copyTerms_52 rfl (lv_at hl 0 rfl) ?_
        refine lv_aload_n hx hb dX3_copyTerms_53 rfl (lv_at hl 2 rfl) ?_
        refine va_get (D := G.1) (ci := 4) (v := .ref onh) (C := RX3) (T := TX3) (N := 8) hx hb hts iwX3 hown hK hP 4 rfl rfl 2 (by decide) (hts (.fieldLink RX3 19 "AnnuityHouse$Loan" "holidays" "[Z") (by decide +kernel)) (fun _ h9 => h9) rfl dX3_copyTerms_54 ?_
        refine lv_iload_n hx hb dX3_copyTerms_57 rfl (lv_at hl 0 rfl) ?_
        refine zr_zald hx hb hK hP 7 2 rfl rfl (i := i) (⟨by omega, by omega, by omega⟩) dX3_copyTerms_58 ?_
        refine zr_zast hx hb hK hP hD hS 3 2 rfl rfl (i := i) (x := ofh i) (⟨by omega, by omega, by omega⟩) (zbb_n2 (h1 i (by omega) (by omega))) dX3_copyTerms_59 (fun H locs hP hD hS => ?_)
        have hP : va_P G.1 vwCl [(y, .inr (4, [.ref nr, .ref ne, .ref nh, .ref tb, .ref q, .long (lz (omo)), .int (iz (opn)), .int (iz (rws))])), (nr, zaI (G.2 1) 61 (zup gr i (ofr i))), (ne, zaL (G.2 0) 61 (zup ge i (ofe i))), (nh, zaZ (G.2 2) 61 (zup gh i (ofh i))), (oy, .inr (4, [.ref onr, .ref one, .ref onh, .ref otb, .ref oq, .long (lz (omo)), .int (iz (opn)), .int (iz (orws))])), (onr, zaI (G.2 1) 61 (ofr)), (one, zaL (G.2 0) 61 (ofe)), (onh, zaZ (G.2 2) 61 (ofh))] H := hP
        have hD : va_D A [(y, .inr (4, [.ref nr, .ref ne, .ref nh, .ref tb, .ref q, .long (lz (omo)), .int (iz (opn)), .int (iz (rws))])), (nr, zaI (G.2 1) 61 (zup gr i (ofr i))), (ne, zaL (G.2 0) 61 (zup ge i (ofe i))), (nh, zaZ (G.2 2) 61 (zup gh i (ofh i))), (oy, .inr (4, [.ref onr, .ref one, .ref onh, .ref otb, .ref oq, .long (lz (omo)), .int (iz (opn)), .int (iz (orws))])), (onr, zaI (G.2 1) 61 (ofr)), (one, zaL (G.2 0) 61 (ofe)), (onh, zaZ (G.2 2) 61 (ofh))] := hD
        refine lv_iinc (v := iz (i + 1)) (lv' := [(2, .int (iz (i + 1))), (0, .ref y), (1, .ref oy)]) hx hb dX3_copyTerms_60 hl (k := 0) rfl (by rw [show Int32.ofInt (1) = iz (1) from rfl, iz_add]) (by decide) rfl (fun ls hl => ?_)
        refine lv_goto (tgt := 18) hx hb dX3_copyTerms_63 (by decide) ?_
        exact ih_18 (i + 1) (zup gr i (ofr i)) (zup ge i (ofe i)) (zup gh i (ofh i)) _ _ _ (by omega) (by omega) (fun k a b => (show k = i ∨ k < i by omega).elim (fun q => by rw [q]; exact ⟨zup_s _ _ _, zup_s _ _ _, zup_s _ _ _⟩) (fun q => ⟨(zup_n (by omega)).trans (k2 k a q).1, (zup_n (by omega)).trans (k2 k a q).2.1, (zup_n (by omega)).trans (k2 k a q).2.2⟩)) (hP) (hD) hS (hl)
  exact hl_18 ((61 - 1 : Int).toNat + 1) 1 fr fe fh _ _ _ (Nat.lt_succ_self _) (by omega) (fun k a b => absurd b (by omega)) (hP) (hD) hS (hl)

def rm_c_X3_switchHoliday : Room := { frames := 0, cells := 0, slots := 0, locals := 0 }
theorem iw_X3_switchHoliday_X3 : ∀ w ∈ wsX30, w ∈ wsX3_switchHoliday := by decide +kernel
set_option maxHeartbeats 1000000 in
set_option maxRecDepth 100000 in
theorem c_X3_switchHoliday (l : Launch) (G : zG) (y : Nat) (nr : Nat) (ne : Nat) (nh : Nat) (tb : Nat) (q : Nat) (fh : Int → Int) (mo : Int) (pn : Int) (rws : Int) (p_ : Int) (h1 : fh p_ = 0 ∨ fh p_ = 1) (h2 : 1 ≤ p_ ∧ p_ ≤ 60) : zM l G yX3_switchHoliday wsX3_switchHoliday rm_c_X3_switchHoliday [.ref y, .int (iz (p_))] [(y, .inr (4, [.ref nr, .ref ne, .ref nh, .ref tb, .ref q, .long (lz (mo)), .int (iz (pn)), .int (iz (rws))])), (nh, zaZ (G.2 2) 61 (fh))] (fun A => zQz G (fun (z : Bool) (fh2 : (Int → Int)) => fh2 = zup fh p_ (if z = true then 1 else 0) ∧ ((fh p_ = 0 ∧ z = true) ∨ (fh p_ = 1 ∧ z = false))) (fun (fh2 : (Int → Int)) => [(y, .inr (4, [.ref nr, .ref ne, .ref nh, .ref tb, .ref q, .long (lz (mo)), .int (iz (pn)), .int (iz (rws))])), (nh, zaZ (G.2 2) 61 (fh2))]) A) 0 0 := by
  refine zM_of (cc := cX3_switchHoliday) (maxL := 2) (ret := (some .boolean)) (by decide) rfl (Nat.le_of_ble_eq_true rfl) ?_
  intro p e s m below meth c ls A Q hQ hx hb hr hts hown hlocks hml hnm hKX hP hD hA hS hl
  have hK := hKX.1
  have iwX3 := iw_X3_switchHoliday_X3
  obtain ⟨H, hH⟩ : ∃ h, h = s.heap := ⟨_, rfl⟩
  obtain ⟨locs, hlo⟩ : ∃ h : List Loc, h = [] := ⟨_, rfl⟩
  have hS : va_S A s.heap H locs := by rw [hH, hlo]; exact hS
  have hP : va_P G.1 vwCl [(y, .inr (4, [.ref nr, .ref ne, .ref nh, .ref tb, .ref q, .long (lz (mo)), .int (iz (pn)), .int (iz (rws))])), (nh, zaZ (G.2 2) 61 (fh))] H := by rw [hH]; exact hP
  have hD : va_D A [(y, .inr (4, [.ref nr, .ref ne, .ref nh, .ref tb, .ref q, .long (lz (mo)), .int (iz (pn)), .int (iz (rws))])), (nh, zaZ (G.2 2) 61 (fh))] := hD
  have hl : lv_has ls 2 [(0, .ref y), (1, .int (iz (p_)))] := hl
  rw [← hH, ← hlo]
  refine lv_aload_n hx hb dX3_switchHoliday_0 rfl (lv_at hl 0 rfl) ?_
  refine va_get (D := G.1) (ci := 4) (v := .ref nh) (C := RX3) (T := TX3) (N := 8) hx hb hts iwX3 hown hK hP 0 rfl rfl 2 (by decide) (hts (.fieldLink RX3 19 "AnnuityHouse$Loan" "holidays" "[Z") (by decide +kernel)) (fun _ h9 => h9) rfl dX3_switchHoliday_1 ?_
  refine lv_iload_n hx hb dX3_switchHoliday_4 rfl (lv_at hl 1 rfl) ?_
  refine lv_aload_n hx hb dX3_switchHoliday_5 rfl (lv_at hl 0 rfl) ?_
  refine va_get (D := G.1) (ci := 4) (v := .ref nh) (C := RX3) (T := TX3) (N := 8) hx hb hts iwX3 hown hK hP 0 rfl rfl 2 (by decide) (hts (.fieldLink RX3 19 "AnnuityHouse$Loan" "holidays" "[Z") (by decide +kernel)) (fun _ h9 => h9) rfl dX3_switchHoliday_6 ?_
  refine lv_iload_n hx hb dX3_switchHoliday_9 rfl (lv_at hl 1 rfl) ?_
  refine zr_zald hx hb hK hP 1 2 rfl rfl (i := p_) (⟨by omega, by omega, by omega⟩) dX3_switchHoliday_10 ?_
  refine zr_if_ne (x := fh p_) (tgt := 18) hx hb (by rcases h1 with q | q <;> rw [q] <;> exact ⟨by decide, by decide⟩) dX3_switchHoliday_11 (by decide) (fun h_1 => ?_) (fun h_1 => ?_)
  ·
    refine lv_iconst (v := iz (0)) hx hb dX3_switchHoliday_18 rfl ?_
    refine zr_zast hx hb hK hP hD hS 1 2 rfl rfl (i := p_) (x := 0) (⟨by omega, by omega, by omega⟩) (by decide +kernel) dX3_switchHoliday_19 (fun H locs hP hD hS => ?_)
    have hP : va_P G.1 vwCl [(y, .inr (4, [.ref nr, .ref ne, .ref nh, .ref tb, .ref q, .long (lz (mo)), .int (iz (pn)), .int (iz (rws))])), (nh, zaZ (G.2 2) 61 (zup fh p_ 0))] H := hP
    have hD : va_D A [(y, .inr (4, [.ref nr, .ref ne, .ref nh, .ref tb, .ref q, .long (lz (mo)), .int (iz (pn)), .int (iz (rws))])), (nh, zaZ (G.2 2) 61 (zup fh p_ 0))] := hD
    refine lv_aload_n hx hb dX3_switchHoliday_20 rfl (lv_at hl 0 rfl) ?_
    refine va_get (D := G.1) (ci := 4) (v := .ref nh) (C := RX3) (T := TX3) (N := 8) hx hb hts iwX3 hown hK hP 0 rfl rfl 2 (by decide) (hts (.fieldLink RX3 19 "AnnuityHouse$Loan" "holidays" "[Z") (by decide +kernel)) (fun _ h9 => h9) rfl dX3_switchHoliday_21 ?_
    refine lv_iload_n hx hb dX3_switchHoliday_24 rfl (lv_at hl 1 rfl) ?_
    refine zr_zald hx hb hK hP 1 2 rfl rfl (i := p_) (⟨by omega, by omega, by omega⟩) dX3_switchHoliday_25 ?_
    refine zr_eqi (y := 0) (zup_s _ _ _) ?_
    rw [hQ]
    exact zr_zret (z := false) (rfl) (u := (zup fh p_ 0)) hx hb hr hlocks hP hD hS (by first | exact Nat.le_of_ble_eq_true rfl | omega) (by first | exact Nat.le_of_ble_eq_true rfl | omega) dX3_switchHoliday_26 (show (zup fh p_ 0) = zup fh p_ (if false = true then 1 else 0) ∧ ((fh p_ = 0 ∧ false = true) ∨ (fh p_ = 1 ∧ false = false)) from ⟨rfl, by first | exact Or.inl ⟨by omega, rfl⟩ | exact Or.inr ⟨by omega, rfl⟩⟩)
  ·
    refine lv_iconst (v := iz (1)) hx hb dX3_switchHoliday_14 rfl ?_
    refine lv_goto (tgt := 19) hx hb dX3_switchHoliday_15 (by decide) ?_
    refine zr_zast hx hb hK hP hD hS 1 2 rfl rfl (i := p_) (x := 1) (⟨by omega, by omega, by omega⟩) (by decide +kernel) dX3_switchHoliday_19 (fun H locs hP hD hS => ?_)
    have hP : va_P G.1 vwCl [(y, .inr (4, [.ref nr, .ref ne, .ref nh, .ref tb, .ref q, .long (lz (mo)), .int (iz (pn)), .int (iz (rws))])), (nh, zaZ (G.2 2) 61 (zup fh p_ 1))] H := hP
    have hD : va_D A [(y, .inr (4, [.ref nr, .ref ne, .ref nh, .ref tb, .ref q, .long (lz (mo)), .int (iz (pn)), .int (iz (rws))])), (nh, zaZ (G.2 2) 61 (zup fh p_ 1))] := hD
    refine lv_aload_n hx hb dX3_switchHoliday_20 rfl (lv_at hl 0 rfl) ?_
    refine va_get (D := G.1) (ci := 4) (v := .ref nh) (C := RX3) (T := TX3) (N := 8) hx hb hts iwX3 hown hK hP 0 rfl rfl 2 (by decide) (hts (.fieldLink RX3 19 "AnnuityHouse$Loan" "holidays" "[Z") (by decide +kernel)) (fun _ h9 => h9) rfl dX3_switchHoliday_21 ?_
    refine lv_iload_n hx hb dX3_switchHoliday_24 rfl (lv_at hl 1 rfl) ?_
    refine zr_zald hx hb hK hP 1 2 rfl rfl (i := p_) (⟨by omega, by omega, by omega⟩) dX3_switchHoliday_25 ?_
    refine zr_eqi (y := 1) (zup_s _ _ _) ?_
    rw [hQ]
    exact zr_zret (z := true) (rfl) (u := (zup fh p_ 1)) hx hb hr hlocks hP hD hS (by first | exact Nat.le_of_ble_eq_true rfl | omega) (by first | exact Nat.le_of_ble_eq_true rfl | omega) dX3_switchHoliday_26 (show (zup fh p_ 1) = zup fh p_ (if true = true then 1 else 0) ∧ ((fh p_ = 0 ∧ true = true) ∨ (fh p_ = 1 ∧ true = false)) from ⟨rfl, by first | exact Or.inl ⟨by omega, rfl⟩ | exact Or.inr ⟨by omega, rfl⟩⟩)

def rm_c_X3_tellRate : Room := { frames := 0, cells := 0, slots := 0, locals := 0 }
theorem iw_X3_tellRate_X3 : ∀ w ∈ wsX30, w ∈ wsX3_tellRate := by decide +kernel
set_option maxHeartbeats 1000000 in
set_option maxRecDepth 100000 in
theorem c_X3_tellRate (l : Launch) (G : zG) (y : Nat) (nr : Nat) (ne : Nat) (nh : Nat) (tb : Nat) (q : Nat) (fr : Int → Int) (mo : Int) (pn : Int) (rws : Int) (p_ : Int) (po : Int) (h2 : 1 ≤ p_ ∧ p_ ≤ 60) : zM l G yX3_tellRate wsX3_tellRate rm_c_X3_tellRate [.ref y, .int (iz (p_)), .int (iz (po))] [(y, .inr (4, [.ref nr, .ref ne, .ref nh, .ref tb, .ref q, .long (lz (mo)), .int (iz (pn)), .int (iz (rws))])), (nr, zaI (G.2 1) 61 (fr))] (fun A => zQv G (fun (_ : Unit) => True) (fun (_ : Unit) => [(y, .inr (4, [.ref nr, .ref ne, .ref nh, .ref tb, .ref q, .long (lz (mo)), .int (iz (pn)), .int (iz (rws))])), (nr, zaI (G.2 1) 61 (zup fr p_ po))]) A) 0 0 := by
  refine zM_of (cc := cX3_tellRate) (maxL := 3) (ret := none) (by decide) rfl (Nat.le_of_ble_eq_true rfl) ?_
  intro p e s m below meth c ls A Q hQ hx hb hr hts hown hlocks hml hnm hKX hP hD hA hS hl
  have hK := hKX.1
  have iwX3 := iw_X3_tellRate_X3
  obtain ⟨H, hH⟩ : ∃ h, h = s.heap := ⟨_, rfl⟩
  obtain ⟨locs, hlo⟩ : ∃ h : List Loc, h = [] := ⟨_, rfl⟩
  have hS : va_S A s.heap H locs := by rw [hH, hlo]; exact hS
  have hP : va_P G.1 vwCl [(y, .inr (4, [.ref nr, .ref ne, .ref nh, .ref tb, .ref q, .long (lz (mo)), .int (iz (pn)), .int (iz (rws))])), (nr, zaI (G.2 1) 61 (fr))] H := by rw [hH]; exact hP
  have hD : va_D A [(y, .inr (4, [.ref nr, .ref ne, .ref nh, .ref tb, .ref q, .long (lz (mo)), .int (iz (pn)), .int (iz (rws))])), (nr, zaI (G.2 1) 61 (fr))] := hD
  have hl : lv_has ls 3 [(0, .ref y), (1, .int (iz (p_))), (2, .int (iz (po)))] := hl
  rw [← hH, ← hlo]
  refine lv_aload_n hx hb dX3_tellRate_0 rfl (lv_at hl 0 rfl) ?_
  refine va_get (D := G.1) (ci := 4) (v := .ref nr) (C := RX3) (T := TX3) (N := 8) hx hb hts iwX3 hown hK hP 0 rfl rfl 0 (by decide) (hts (.fieldLink RX3 9 "AnnuityHouse$Loan" "rates" "[I") (by decide +kernel)) (fun _ h9 => h9) rfl dX3_tellRate_1 ?_
  refine lv_iload_n hx hb dX3_tellRate_4 rfl (lv_at hl 1 rfl) ?_
  refine lv_iload_n hx hb dX3_tellRate_5 rfl (lv_at hl 2 rfl) ?_
  refine zr_iast hx hb hK hP hD hS 1 1 rfl rfl (i := p_) (x := po) (⟨by omega, by omega, by omega⟩) dX3_tellRate_6 (fun H locs hP hD hS => ?_)
  have hP : va_P G.1 vwCl [(y, .inr (4, [.ref nr, .ref ne, .ref nh, .ref tb, .ref q, .long (lz (mo)), .int (iz (pn)), .int (iz (rws))])), (nr, zaI (G.2 1) 61 (zup fr p_ po))] H := hP
  have hD : va_D A [(y, .inr (4, [.ref nr, .ref ne, .ref nh, .ref tb, .ref q, .long (lz (mo)), .int (iz (pn)), .int (iz (rws))])), (nr, zaI (G.2 1) 61 (zup fr p_ po))] := hD
  rw [hQ]
  exact zr_vret (u := ()) hx hb hr hlocks hP hD hS (by first | exact Nat.le_of_ble_eq_true rfl | omega) (by first | exact Nat.le_of_ble_eq_true rfl | omega) dX3_tellRate_7 (show True from trivial)

def rm_c_X3_tellEarly : Room := { frames := 0, cells := 0, slots := 0, locals := 0 }
theorem iw_X3_tellEarly_X3 : ∀ w ∈ wsX30, w ∈ wsX3_tellEarly := by decide +kernel
set_option maxHeartbeats 1000000 in
set_option maxRecDepth 100000 in
theorem c_X3_tellEarly (l : Launch) (G : zG) (y : Nat) (nr : Nat) (ne : Nat) (nh : Nat) (tb : Nat) (q : Nat) (fe : Int → Int) (mo : Int) (pn : Int) (rws : Int) (p_ : Int) (ea : Int) (h2 : 1 ≤ p_ ∧ p_ ≤ 60) : zM l G yX3_tellEarly wsX3_tellEarly rm_c_X3_tellEarly [.ref y, .int (iz (p_)), .long (lz (ea))] [(y, .inr (4, [.ref nr, .ref ne, .ref nh, .ref tb, .ref q, .long (lz (mo)), .int (iz (pn)), .int (iz (rws))])), (ne, zaL (G.2 0) 61 (fe))] (fun A => zQv G (fun (_ : Unit) => True) (fun (_ : Unit) => [(y, .inr (4, [.ref nr, .ref ne, .ref nh, .ref tb, .ref q, .long (lz (mo)), .int (iz (pn)), .int (iz (rws))])), (ne, zaL (G.2 0) 61 (zup fe p_ ea))]) A) 0 0 := by
  refine zM_of (cc := cX3_tellEarly) (maxL := 4) (ret := none) (by decide) rfl (Nat.le_of_ble_eq_true rfl) ?_
  intro p e s m below meth c ls A Q hQ hx hb hr hts hown hlocks hml hnm hKX hP hD hA hS hl
  have hK := hKX.1
  have iwX3 := iw_X3_tellEarly_X3
  obtain ⟨H, hH⟩ : ∃ h, h = s.heap := ⟨_, rfl⟩
  obtain ⟨locs, hlo⟩ : ∃ h : List Loc, h = [] := ⟨_, rfl⟩
  have hS : va_S A s.heap H locs := by rw [hH, hlo]; exact hS
  have hP : va_P G.1 vwCl [(y, .inr (4, [.ref nr, .ref ne, .ref nh, .ref tb, .ref q, .long (lz (mo)), .int (iz (pn)), .int (iz (rws))])), (ne, zaL (G.2 0) 61 (fe))] H := by rw [hH]; exact hP
  have hD : va_D A [(y, .inr (4, [.ref nr, .ref ne, .ref nh, .ref tb, .ref q, .long (lz (mo)), .int (iz (pn)), .int (iz (rws))])), (ne, zaL (G.2 0) 61 (fe))] := hD
  have hl : lv_has ls 4 [(0, .ref y), (1, .int (iz (p_))), (2, .long (lz (ea)))] := hl
  rw [← hH, ← hlo]
  refine lv_aload_n hx hb dX3_tellEarly_0 rfl (lv_at hl 0 rfl) ?_
  refine va_get (D := G.1) (ci := 4) (v := .ref ne) (C := RX3) (T := TX3) (N := 8) hx hb hts iwX3 hown hK hP 0 rfl rfl 1 (by decide) (hts (.fieldLink RX3 15 "AnnuityHouse$Loan" "earlies" "[J") (by decide +kernel)) (fun _ h9 => h9) rfl dX3_tellEarly_1 ?_
  refine lv_iload_n hx hb dX3_tellEarly_4 rfl (lv_at hl 1 rfl) ?_
  refine lv_lload_n hx hb dX3_tellEarly_5 rfl (lv_at hl 2 rfl) ?_
  refine zr_last hx hb hK hP hD hS 1 0 rfl rfl (i := p_) (x := ea) (⟨by omega, by omega, by omega⟩) dX3_tellEarly_6 (fun H locs hP hD hS => ?_)
  have hP : va_P G.1 vwCl [(y, .inr (4, [.ref nr, .ref ne, .ref nh, .ref tb, .ref q, .long (lz (mo)), .int (iz (pn)), .int (iz (rws))])), (ne, zaL (G.2 0) 61 (zup fe p_ ea))] H := hP
  have hD : va_D A [(y, .inr (4, [.ref nr, .ref ne, .ref nh, .ref tb, .ref q, .long (lz (mo)), .int (iz (pn)), .int (iz (rws))])), (ne, zaL (G.2 0) 61 (zup fe p_ ea))] := hD
  rw [hQ]
  exact zr_vret (u := ()) hx hb hr hlocks hP hD hS (by first | exact Nat.le_of_ble_eq_true rfl | omega) (by first | exact Nat.le_of_ble_eq_true rfl | omega) dX3_tellEarly_7 (show True from trivial)

def rm_c_X3_instalmentFor : Room := { frames := 9, cells := 1, slots := 6, locals := 162 }
theorem iw_X3_instalmentFor_X1 : ∀ w ∈ wsX10, w ∈ wsX3_instalmentFor := by decide +kernel
theorem iw_X3_instalmentFor_X3 : ∀ w ∈ wsX30, w ∈ wsX3_instalmentFor := by decide +kernel
set_option maxHeartbeats 1000000 in
set_option maxRecDepth 100000 in
theorem c_X3_instalmentFor (l : Launch) (G : zG) (s1 : Nat) (s2 : Nat) (s3 : Nat) (y : Nat) (q : Nat) (r : Nat) (md : Int) (vv0 : Value) (vv1 : Value) (vv2 : Value) (vv3 : Value) (le : Int) (pp : Int) (rws : Int) (sa : Nat) (sb : Nat) (sf : Int → Int) (sn : Int) (st : Int) (da : Nat) (db : Nat) (df : Int → Int) (dn : Int) (dt : Int) (wa : Nat) (wb : Nat) (wf : Int → Int) (wn : Int) (wt : Int) (u0 : Int) (d0 : Int) (p0 : Int) (mo : Int) (po : Int) (pn : Int) (hl0 : l.stackTraces = false) (hmd : 0 ≤ md ∧ md ≤ 7) (h1 : 0 ≤ mo ∧ mo ≤ 100000000000000 ∧ 0 ≤ po ∧ po ≤ 20000 ∧ 1 ≤ pn ∧ pn ≤ 60) (h5 : mo * 120000 ^ pn.toNat < 1073741824 ^ 35) : zMt l (zXE s1 s2 s3) G yX3_instalmentFor wsX3_instalmentFor rm_c_X3_instalmentFor [.ref y, .long (lz (mo)), .int (iz (po)), .int (iz (pn)), .ref r] [(y, .inr (4, [vv0, vv1, vv2, vv3, .ref q, .long (lz (le)), .int (iz (pp)), .int (iz (rws))])), (q, .inr (2, [.ref sa, .ref da, .ref wa, .long (lz (u0)), .long (lz (d0)), .int (iz (p0))])), (sa, .inr (9, [.ref sb, .int (iz (sn)), .long (lz (st))])), (sb, zaL (G.2 0) 40 (sf)), (da, .inr (9, [.ref db, .int (iz (dn)), .long (lz (dt))])), (db, zaL (G.2 0) 40 (df)), (wa, .inr (9, [.ref wb, .int (iz (wn)), .long (lz (wt))])), (wb, zaL (G.2 0) 40 (wf)), (r, .inr (5, [.int (iz (md))]))] (fun A => zQl G (fun (z : Int) (u : (Int → Int) × Int × Int × (Int → Int) × Int × Int × (Int → Int) × Int × Int × Int) => (zinx mo po pn ∨ md ≠ 7) ∧ z = zins md mo po pn) (fun (u : (Int → Int) × Int × Int × (Int → Int) × Int × Int × (Int → Int) × Int × Int × Int) => [(y, .inr (4, [vv0, vv1, vv2, vv3, .ref q, .long (lz (le)), .int (iz (pp)), .int (iz (rws))])), (q, .inr (2, [.ref sa, .ref da, .ref wa, .long (lz (zqu po)), .long (lz (zqd po)), .int (iz (u.2.2.2.2.2.2.2.2.2))])), (sa, .inr (9, [.ref sb, .int (iz (u.2.1)), .long (lz (u.2.2.1))])), (sb, zaL (G.2 0) 40 (u.1)), (da, .inr (9, [.ref db, .int (iz (u.2.2.2.2.1)), .long (lz (u.2.2.2.2.2.1))])), (db, zaL (G.2 0) 40 (u.2.2.2.1)), (wa, .inr (9, [.ref wb, .int (iz (u.2.2.2.2.2.2.2.1)), .long (lz (u.2.2.2.2.2.2.2.2.1))])), (wb, zaL (G.2 0) 40 (u.2.2.2.2.2.2.1)), (r, .inr (5, [.int (iz (md))]))]) A) (SX := (Int → Int) × Int × Int × (Int → Int) × Int × Int × (Int → Int) × Int × Int × Int) (fun (E9 : String) (ux : (Int → Int) × Int × Int × (Int → Int) × Int × Int × (Int → Int) × Int × Int × Int) => (E9 = "java/lang/IllegalStateException" ∧ md = 7 ∧ ¬ zinx mo po pn)) (fun (ux : (Int → Int) × Int × Int × (Int → Int) × Int × Int × (Int → Int) × Int × Int × Int) => [(y, .inr (4, [vv0, vv1, vv2, vv3, .ref q, .long (lz (le)), .int (iz (pp)), .int (iz (rws))])), (q, .inr (2, [.ref sa, .ref da, .ref wa, .long (lz (zqu po)), .long (lz (zqd po)), .int (iz (ux.2.2.2.2.2.2.2.2.2))])), (sa, .inr (9, [.ref sb, .int (iz (ux.2.1)), .long (lz (ux.2.2.1))])), (sb, zaL (G.2 0) 40 (ux.1)), (da, .inr (9, [.ref db, .int (iz (ux.2.2.2.2.1)), .long (lz (ux.2.2.2.2.2.1))])), (db, zaL (G.2 0) 40 (ux.2.2.2.1)), (wa, .inr (9, [.ref wb, .int (iz (ux.2.2.2.2.2.2.2.1)), .long (lz (ux.2.2.2.2.2.2.2.2.1))])), (wb, zaL (G.2 0) 40 (ux.2.2.2.2.2.2.1)), (r, .inr (5, [.int (iz (md))]))]) 1 6 := by
  refine zMt_of (cc := cX3_instalmentFor) (maxL := 7) (ret := (some .long)) (by decide) rfl (Nat.le_of_ble_eq_true rfl) ?_
  intro p e s m below meth c ls A Q hQ hx hb hr hts hown hlocks hml hout hKX hE hP hD hA hS hl
  have hK := hKX.1
  have iwX1 := iw_X3_instalmentFor_X1
  have iwX3 := iw_X3_instalmentFor_X3
  obtain ⟨H, hH⟩ : ∃ h, h = s.heap := ⟨_, rfl⟩
  obtain ⟨locs, hlo⟩ : ∃ h : List Loc, h = [] := ⟨_, rfl⟩
  have hS : va_S A s.heap H locs := by rw [hH, hlo]; exact hS
  have hP : va_P G.1 vwCl [(y, .inr (4, [vv0, vv1, vv2, vv3, .ref q, .long (lz (le)), .int (iz (pp)), .int (iz (rws))])), (q, .inr (2, [.ref sa, .ref da, .ref wa, .long (lz (u0)), .long (lz (d0)), .int (iz (p0))])), (sa, .inr (9, [.ref sb, .int (iz (sn)), .long (lz (st))])), (sb, zaL (G.2 0) 40 (sf)), (da, .inr (9, [.ref db, .int (iz (dn)), .long (lz (dt))])), (db, zaL (G.2 0) 40 (df)), (wa, .inr (9, [.ref wb, .int (iz (wn)), .long (lz (wt))])), (wb, zaL (G.2 0) 40 (wf)), (r, .inr (5, [.int (iz (md))]))] H := by rw [hH]; exact hP
  have hD : va_D A [(y, .inr (4, [vv0, vv1, vv2, vv3, .ref q, .long (lz (le)), .int (iz (pp)), .int (iz (rws))])), (q, .inr (2, [.ref sa, .ref da, .ref wa, .long (lz (u0)), .long (lz (d0)), .int (iz (p0))])), (sa, .inr (9, [.ref sb, .int (iz (sn)), .long (lz (st))])), (sb, zaL (G.2 0) 40 (sf)), (da, .inr (9, [.ref db, .int (iz (dn)), .long (lz (dt))])), (db, zaL (G.2 0) 40 (df)), (wa, .inr (9, [.ref wb, .int (iz (wn)), .long (lz (wt))])), (wb, zaL (G.2 0) 40 (wf)), (r, .inr (5, [.int (iz (md))]))] := hD
  have hl : lv_has ls 7 [(0, .ref y), (1, .long (lz (mo))), (3, .int (iz (po))), (4, .int (iz (pn))), (5, .ref r)] := hl
  rw [← hH, ← hlo]
  have h3 : 0 ≤ po ∧ po ≤ 20000 := by omega
  have hrg := zq_rng h3
  have hln := zln ⟨h1.1, h1.2.1⟩ h3 (by omega) h5
  have hie := fun md => zins_e (md := md) (mo := mo) (n := pn) h3 hln.2.2.1
  refine lv_aload_n hx hb dX3_instalmentFor_0 rfl (lv_at hl 0 rfl) ?_
  refine va_get (D := G.1) (ci := 4) (v := .ref q) (C := RX3) (T := TX3) (N := 8) hx hb hts iwX3 hown hK hP 0 rfl rfl 4 (by decide) (hts (.fieldLink RX3 31 "AnnuityHouse$Loan" "flow" "LAnnuityHouse$Flow;") (by decide +kernel)) (fun _ h9 => h9) rfl dX3_instalmentFor_1 ?_
  refine lv_iload_n hx hb dX3_instalmentFor_4 rfl (lv_at hl 2 rfl) ?_
  refine lv_lconst (v := lz (0)) hx hb dX3_instalmentFor_5 rfl ?_
  refine zc_v (wr := [(y, .inr (4, [vv0, vv1, vv2, vv3, .ref q, .long (lz (le)), .int (iz (pp)), .int (iz (rws))])), (wa, .inr (9, [.ref wb, .int (iz (wn)), .long (lz (wt))])), (wb, zaL (G.2 0) 40 (wf)), (r, .inr (5, [.int (iz (md))]))]) (va_runV (As := [.int (iz (po)), .long (lz (0))]) (rest := []) ⟨hx, hb, hml, hown, hts⟩ (c_X1_begin l G q wa sa sb sf sn st da db df dn dt u0 d0 p0 po 0 (by omega) (by omega) H.size) (cwV 2 hts gX3_instalmentFor_X1_begin rfl rfl rfl (by decide +kernel) ⟨Nat.le_of_ble_eq_true rfl, Nat.le_of_ble_eq_true rfl⟩) (zpV hKX hP hD [1, 2, 3, 4, 5] rfl rfl 1 2 rfl rfl) rfl rfl hl.1 rfl (lv_room (Nat.le_of_ble_eq_true rfl)) dX3_instalmentFor_6 ⟨(by first | exact Nat.le_of_ble_eq_true rfl | (show _ ≤ (1 : Nat); omega)), (by first | exact Nat.le_of_ble_eq_true rfl | (show _ ≤ (6 : Nat); omega))⟩) hP hD hS hA [1, 2, 3, 4, 5] [0, 6, 7, 8] rfl rfl rfl (by decide) (fun u_1 H locs hbg hP hD hS => ?_)
  obtain ⟨sf1, sn1, st1, df1, dn1, dt1⟩ := u_1
  have hP : va_P G.1 vwCl [(y, .inr (4, [vv0, vv1, vv2, vv3, .ref q, .long (lz (le)), .int (iz (pp)), .int (iz (rws))])), (wa, .inr (9, [.ref wb, .int (iz (wn)), .long (lz (wt))])), (wb, zaL (G.2 0) 40 (wf)), (r, .inr (5, [.int (iz (md))])), (q, .inr (2, [.ref sa, .ref da, .ref wa, .long (lz (zqu po)), .long (lz (zqd po)), .int (iz (0))])), (sa, .inr (9, [.ref sb, .int (iz (sn1)), .long (lz (st1))])), (sb, zaL (G.2 0) 40 (sf1)), (da, .inr (9, [.ref db, .int (iz (dn1)), .long (lz (dt1))])), (db, zaL (G.2 0) 40 (df1))] H := hP
  have hD : va_D A [(y, .inr (4, [vv0, vv1, vv2, vv3, .ref q, .long (lz (le)), .int (iz (pp)), .int (iz (rws))])), (wa, .inr (9, [.ref wb, .int (iz (wn)), .long (lz (wt))])), (wb, zaL (G.2 0) 40 (wf)), (r, .inr (5, [.int (iz (md))])), (q, .inr (2, [.ref sa, .ref da, .ref wa, .long (lz (zqu po)), .long (lz (zqd po)), .int (iz (0))])), (sa, .inr (9, [.ref sb, .int (iz (sn1)), .long (lz (st1))])), (sb, zaL (G.2 0) 40 (sf1)), (da, .inr (9, [.ref db, .int (iz (dn1)), .long (lz (dt1))])), (db, zaL (G.2 0) 40 (df1))] := hD
  have hbg : zwv sf1 sn1 st1 (0 : Int) ∧ zwv df1 dn1 dt1 1 := hbg
  refine lv_iconst (v := iz (1)) hx hb dX3_instalmentFor_9 rfl ?_
  refine lv_istore (lv' := [(6, .int (iz (1))), (0, .ref y), (1, .long (lz (mo))), (3, .int (iz (po))), (4, .int (iz (pn))), (5, .ref r)]) hx hb dX3_instalmentFor_10 hl (by decide) rfl (fun ls hl => ?_)
  have hl_12 : ∀ (zn_12 : Nat) (i : Int) (pq : Int) (sg : Int → Int) (sm : Int) (su : Int) (dg : Int → Int) (dm : Int) (du : Int) (H : Heap) (locs : List Loc) (ls : Array Slot), (pn + 1 - i).toNat < zn_12 → (1 ≤ i ∧ i ≤ pn + 1) → (zwv sg sm su (zrow (zqu po) (zqd po) zun (i - 1).toNat)) → (zwv dg dm du ((zqd po) ^ (i - 1).toNat)) → va_P G.1 vwCl [(y, .inr (4, [vv0, vv1, vv2, vv3, .ref q, .long (lz (le)), .int (iz (pp)), .int (iz (rws))])), (wa, .inr (9, [.ref wb, .int (iz (wn)), .long (lz (wt))])), (wb, zaL (G.2 0) 40 (wf)), (r, .inr (5, [.int (iz (md))])), (q, .inr (2, [.ref sa, .ref da, .ref wa, .long (lz (zqu po)), .long (lz (zqd po)), .int (iz (pq))])), (sa, .inr (9, [.ref sb, .int (iz (sm)), .long (lz (su))])), (sb, zaL (G.2 0) 40 (sg)), (da, .inr (9, [.ref db, .int (iz (dm)), .long (lz (du))])), (db, zaL (G.2 0) 40 (dg))] H → va_D A [(y, .inr (4, [vv0, vv1, vv2, vv3, .ref q, .long (lz (le)), .int (iz (pp)), .int (iz (rws))])), (wa, .inr (9, [.ref wb, .int (iz (wn)), .long (lz (wt))])), (wb, zaL (G.2 0) 40 (wf)), (r, .inr (5, [.int (iz (md))])), (q, .inr (2, [.ref sa, .ref da, .ref wa, .long (lz (zqu po)), .long (lz (zqd po)), .int (iz (pq))])), (sa, .inr (9, [.ref sb, .int (iz (sm)), .long (lz (su))])), (sb, zaL (G.2 0) 40 (sg)), (da, .inr (9, [.ref db, .int (iz (dm)), .long (lz (du))])), (db, zaL (G.2 0) 40 (dg))] → va_S A s.heap H locs → lv_has ls 7 [(6, .int (iz (i))), (0, .ref y), (1, .long (lz (mo))), (3, .int (iz (po))), (4, .int (iz (pn))), (5, .ref r)] → W p l e rm_c_X3_instalmentFor s m ([.ref y, .long (lz (mo)), .int (iz (po)), .int (iz (pn)), .ref r] : List Value).toArray below meth c H locs (0 + 0) (0 + 0) Q (F0 m 12 ls []) := by
    intro zn_12
    induction zn_12 with
    | zero => intro i pq sg sm su dg dm du H locs ls hm; exact absurd hm (Nat.not_lt_zero _)
    | succ zn_12 ih_12 =>
      intro i pq sg sm su dg dm du H locs ls hm_12 k1 k2 k3 hP hD hS hl
      refine lv_iload hx hb dX3_instalmentFor_12 (lv_at hl 0 rfl) ?_
      refine lv_iload hx hb dX3_instalmentFor_14 (lv_at hl 4 rfl) ?_
      refine zr_icmp_gt (x := i) (y := pn) (tgt := 33) hx hb (⟨by omega, by omega⟩) (⟨by omega, by omega⟩) dX3_instalmentFor_16 (by decide) (fun h_4 => ?_) (fun h_4 => ?_)
      ·
        refine lv_aload hx hb dX3_instalmentFor_33 (lv_at hl 5 rfl) ?_
        refine lv_aload_n hx hb dX3_instalmentFor_35 rfl (lv_at hl 1 rfl) ?_
        refine va_get (D := G.1) (ci := 4) (v := .ref q) (C := RX3) (T := TX3) (N := 8) hx hb hts iwX3 hown hK hP 0 rfl rfl 4 (by decide) (hts (.fieldLink RX3 31 "AnnuityHouse$Loan" "flow" "LAnnuityHouse$Flow;") (by decide +kernel)) (fun _ h9 => h9) rfl dX3_instalmentFor_36 ?_
        refine lv_lload_n hx hb dX3_instalmentFor_39 rfl (lv_at hl 2 rfl) ?_
        refine lv_iload hx hb dX3_instalmentFor_40 (lv_at hl 4 rfl) ?_
        have k2e : zwv sg sm su (zrow (zqu po) (zqd po) zun (pn).toNat) := by rw [show pn = i - 1 by omega]; exact k2
        refine zc_r (wr := [(y, .inr (4, [vv0, vv1, vv2, vv3, .ref q, .long (lz (le)), .int (iz (pp)), .int (iz (rws))])), (r, .inr (5, [.int (iz (md))])), (sa, .inr (9, [.ref sb, .int (iz (sm)), .long (lz (su))])), (sb, zaL (G.2 0) 40 (sg)), (da, .inr (9, [.ref db, .int (iz (dm)), .long (lz (du))])), (db, zaL (G.2 0) 40 (dg))]) (va_runV (As := [.long (lz (mo)), .int (iz (pn))]) (rest := [.ref r]) ⟨hx, hb, hml, hown, hts⟩ (c_X1_upPower l G q sa da wa wb wf wn wt (zqu po) (zqd po) pq mo pn (by omega) (by omega) (by omega) (by have := z35_37; omega) H.size) (cwV 2 hts gX3_instalmentFor_X1_upPower rfl rfl rfl (by decide +kernel) ⟨Nat.le_of_ble_eq_true rfl, Nat.le_of_ble_eq_true rfl⟩) (zpV hKX hP hD [4, 1, 2] rfl rfl 4 2 rfl rfl) rfl rfl hl.1 rfl (lv_room (Nat.le_of_ble_eq_true rfl)) dX3_instalmentFor_42 ⟨(by first | exact Nat.le_of_ble_eq_true rfl | (show _ ≤ (1 : Nat); omega)), (by first | exact Nat.le_of_ble_eq_true rfl | (show _ ≤ (6 : Nat); omega))⟩) hP hD hS hA [4, 1, 2] [0, 3, 5, 6, 7, 8] rfl rfl rfl (by decide) (fun u_5 rw_ H locs hw hP hD hS => ?_)
        obtain ⟨wf1, wn1, wt1⟩ := u_5
        have hP : va_P G.1 vwCl [(y, .inr (4, [vv0, vv1, vv2, vv3, .ref q, .long (lz (le)), .int (iz (pp)), .int (iz (rws))])), (r, .inr (5, [.int (iz (md))])), (sa, .inr (9, [.ref sb, .int (iz (sm)), .long (lz (su))])), (sb, zaL (G.2 0) 40 (sg)), (da, .inr (9, [.ref db, .int (iz (dm)), .long (lz (du))])), (db, zaL (G.2 0) 40 (dg)), (q, .inr (2, [.ref sa, .ref da, .ref wa, .long (lz ((zqu po))), .long (lz ((zqd po))), .int (iz (pq))])), (wa, .inr (9, [.ref wb, .int (iz (wn1)), .long (lz (wt1))])), (wb, zaL (G.2 0) 40 (wf1))] H := hP
        have hD : va_D A [(y, .inr (4, [vv0, vv1, vv2, vv3, .ref q, .long (lz (le)), .int (iz (pp)), .int (iz (rws))])), (r, .inr (5, [.int (iz (md))])), (sa, .inr (9, [.ref sb, .int (iz (sm)), .long (lz (su))])), (sb, zaL (G.2 0) 40 (sg)), (da, .inr (9, [.ref db, .int (iz (dm)), .long (lz (du))])), (db, zaL (G.2 0) 40 (dg)), (q, .inr (2, [.ref sa, .ref da, .ref wa, .long (lz ((zqu po))), .long (lz ((zqd po))), .int (iz (pq))])), (wa, .inr (9, [.ref wb, .int (iz (wn1)), .long (lz (wt1))])), (wb, zaL (G.2 0) 40 (wf1))] := hD
        have hw : rw_ = wa ∧ zwv wf1 wn1 wt1 (mo * (zqu po) ^ pn.toNat) := hw
        rw [show rw_ = wa from hw.1]
        refine lv_aload_n hx hb dX3_instalmentFor_45 rfl (lv_at hl 1 rfl) ?_
        refine va_get (D := G.1) (ci := 4) (v := .ref q) (C := RX3) (T := TX3) (N := 8) hx hb hts iwX3 hown hK hP 0 rfl rfl 4 (by decide) (hts (.fieldLink RX3 31 "AnnuityHouse$Loan" "flow" "LAnnuityHouse$Flow;") (by decide +kernel)) (fun _ h9 => h9) rfl dX3_instalmentFor_46 ?_
        refine va_get (D := G.1) (ci := 2) (v := .ref sa) (C := RX1) (T := TX1) (N := 6) hx hb hts iwX1 hown hK hP 6 rfl rfl 0 (by decide) (hts (.fieldLink RX3 74 "AnnuityHouse$Flow" "sum" "LAnnuityHouse$Whole;") (by decide +kernel)) (fun _ h9 => h9) rfl dX3_instalmentFor_49 ?_
        have hnb := hln.2.2.2.2.2
        refine zct_l (wr := [(y, .inr (4, [vv0, vv1, vv2, vv3, .ref q, .long (lz (le)), .int (iz (pp)), .int (iz (rws))])), (da, .inr (9, [.ref db, .int (iz (dm)), .long (lz (du))])), (db, zaL (G.2 0) 40 (dg)), (q, .inr (2, [.ref sa, .ref da, .ref wa, .long (lz ((zqu po))), .long (lz ((zqd po))), .int (iz (pq))]))]) (vx_runV (As := [.ref wa, .ref sa]) (rest := []) ⟨hx, hb, hml, hown, hts⟩ (c_X4_ratio_ l G s1 s2 s3 r md wa wb wf1 wn1 wt1 sa sb sg sm su (mo * zqu po ^ pn.toNat) (zrow (zqu po) (zqd po) zun (pn).toNat) hl0 (by omega) (hw.2) (k2e) (hln.2.2.1) (by omega) (hln.2.2.2.1) (by omega) H.size) (cwV 2 hts gX3_instalmentFor_X4_ratio_ rfl rfl rfl (by decide +kernel) ⟨Nat.le_of_ble_eq_true rfl, Nat.le_of_ble_eq_true rfl⟩) (zpVe zXE_ok hE hS hA hKX hP hD [1, 7, 8, 2, 3] rfl rfl (va_recv hK hP (ci := 5) (q0 := 1) rfl rfl)) rfl rfl hl.1 rfl (lv_room (Nat.le_of_ble_eq_true rfl)) dX3_instalmentFor_52 ⟨(by first | exact Nat.le_of_ble_eq_true rfl | (show _ ≤ (1 : Nat); omega)), (by first | exact Nat.le_of_ble_eq_true rfl | (show _ ≤ (6 : Nat); omega))⟩) hP hD hS hA [1, 7, 8, 2, 3] [0, 4, 5, 6] rfl rfl rfl (by decide) (fun E9 ce9 q9 ux_14 H locs hx9_15 hP hD hS hce9 hcv9 hcl9 => ?_) (fun zz u_13 H locs hq hP hD hS => ?_)
        ·
          obtain ⟨of2_7, on2_8, ot2_9, uf2_10, un2_11, ut2_12⟩ := ux_14
          have hP : va_P G.1 vwCl [(y, .inr (4, [vv0, vv1, vv2, vv3, .ref q, .long (lz (le)), .int (iz (pp)), .int (iz (rws))])), (da, .inr (9, [.ref db, .int (iz (dm)), .long (lz (du))])), (db, zaL (G.2 0) 40 (dg)), (q, .inr (2, [.ref sa, .ref da, .ref wa, .long (lz ((zqu po))), .long (lz ((zqd po))), .int (iz (pq))])), (r, .inr (5, [.int (iz (md))])), (wa, .inr (9, [.ref wb, .int (iz (on2_8)), .long (lz (ot2_9))])), (wb, zaL (G.2 0) 40 (of2_7)), (sa, .inr (9, [.ref sb, .int (iz (un2_11)), .long (lz (ut2_12))])), (sb, zaL (G.2 0) 40 (uf2_10))] H := hP
          have hD : va_D A [(y, .inr (4, [vv0, vv1, vv2, vv3, .ref q, .long (lz (le)), .int (iz (pp)), .int (iz (rws))])), (da, .inr (9, [.ref db, .int (iz (dm)), .long (lz (du))])), (db, zaL (G.2 0) 40 (dg)), (q, .inr (2, [.ref sa, .ref da, .ref wa, .long (lz ((zqu po))), .long (lz ((zqd po))), .int (iz (pq))])), (r, .inr (5, [.int (iz (md))])), (wa, .inr (9, [.ref wb, .int (iz (on2_8)), .long (lz (ot2_9))])), (wb, zaL (G.2 0) 40 (of2_7)), (sa, .inr (9, [.ref sb, .int (iz (un2_11)), .long (lz (ut2_12))])), (sb, zaL (G.2 0) 40 (uf2_10))] := hD
          rcases hx9_15 with ⟨rfl, hxc⟩
          ·
            have hxc : md = 7 ∧ ((mo * zqu po ^ pn.toNat).natAbs : Int) % (zrow (zqu po) (zqd po) zun (pn).toNat) ≠ 0 := hxc
            rw [hQ]
            exact zt_out (uf2_10, un2_11, ut2_12, dg, dm, du, of2_7, on2_8, ot2_9, pq) hout hlocks hce9 hcv9 hcl9 (hP.sub [0, 3, 7, 8, 1, 2, 5, 6, 4] rfl) (hD.sub [0, 3, 7, 8, 1, 2, 5, 6, 4] (by decide) rfl) hS ⟨rfl, (show md = 7 ∧ ¬ zinx mo po pn from ⟨hxc.1, fun q => hxc.2 ((znz hln.2.2.1).mpr ((hie 0).2.mpr q))⟩)⟩ (by first | exact Nat.le_of_ble_eq_true rfl | omega) (by first | exact Nat.le_of_ble_eq_true rfl | omega)
        obtain ⟨wf2, wn2, wt2, sf2, sn2, st2⟩ := u_13
        have hP : va_P G.1 vwCl [(y, .inr (4, [vv0, vv1, vv2, vv3, .ref q, .long (lz (le)), .int (iz (pp)), .int (iz (rws))])), (da, .inr (9, [.ref db, .int (iz (dm)), .long (lz (du))])), (db, zaL (G.2 0) 40 (dg)), (q, .inr (2, [.ref sa, .ref da, .ref wa, .long (lz ((zqu po))), .long (lz ((zqd po))), .int (iz (pq))])), (r, .inr (5, [.int (iz (md))])), (wa, .inr (9, [.ref wb, .int (iz (wn2)), .long (lz (wt2))])), (wb, zaL (G.2 0) 40 (wf2)), (sa, .inr (9, [.ref sb, .int (iz (sn2)), .long (lz (st2))])), (sb, zaL (G.2 0) 40 (sf2))] H := hP
        have hD : va_D A [(y, .inr (4, [vv0, vv1, vv2, vv3, .ref q, .long (lz (le)), .int (iz (pp)), .int (iz (rws))])), (da, .inr (9, [.ref db, .int (iz (dm)), .long (lz (du))])), (db, zaL (G.2 0) 40 (dg)), (q, .inr (2, [.ref sa, .ref da, .ref wa, .long (lz ((zqu po))), .long (lz ((zqd po))), .int (iz (pq))])), (r, .inr (5, [.int (iz (md))])), (wa, .inr (9, [.ref wb, .int (iz (wn2)), .long (lz (wt2))])), (wb, zaL (G.2 0) 40 (wf2)), (sa, .inr (9, [.ref sb, .int (iz (sn2)), .long (lz (st2))])), (sb, zaL (G.2 0) 40 (sf2))] := hD
        have hq : (((mo * zqu po ^ pn.toNat).natAbs : Int) % (zrow (zqu po) (zqd po) zun (pn).toNat) = 0 ∨ md ≠ 7) ∧ zz = zrd md (mo * zqu po ^ pn.toNat) (zrow (zqu po) (zqd po) zun (pn).toNat) := hq
        rw [hQ]
        exact vx_ret (zr_lret (z := zz) (u := (sf2, sn2, st2, dg, dm, du, wf2, wn2, wt2, pq)) hx hb hr hlocks (hP.sub [0, 3, 7, 8, 1, 2, 5, 6, 4] rfl) (hD.sub [0, 3, 7, 8, 1, 2, 5, 6, 4] (by decide) rfl) hS (by first | exact Nat.le_of_ble_eq_true rfl | omega) (by first | exact Nat.le_of_ble_eq_true rfl | omega) dX3_instalmentFor_55 (show (zinx mo po pn ∨ md ≠ 7) ∧ zz = zins md mo po pn from ⟨hq.1.elim (fun q => Or.inl ((hie 0).2.mp ((znz hln.2.2.1).mp q))) Or.inr, hq.2.trans (hie md).1⟩))
      ·
        refine lv_aload_n hx hb dX3_instalmentFor_19 rfl (lv_at hl 1 rfl) ?_
        refine va_get (D := G.1) (ci := 4) (v := .ref q) (C := RX3) (T := TX3) (N := 8) hx hb hts iwX3 hown hK hP 0 rfl rfl 4 (by decide) (hts (.fieldLink RX3 31 "AnnuityHouse$Loan" "flow" "LAnnuityHouse$Flow;") (by decide +kernel)) (fun _ h9 => h9) rfl dX3_instalmentFor_20 ?_
        refine lv_lconst (v := lz (1)) hx hb dX3_instalmentFor_23 rfl ?_
        have hb1 := zrow_35 (U := zqu po) (P := zqd po) (A := 1) (f := zun) (by omega) (by omega) (i - 1).toNat (fun j _ _ => zun_rng j) (by decide) (Or.inr ⟨by omega, by decide⟩)
        have hs1 := zwv_small k2 (k := 37) (by have := z35_37; omega) (by have := z35_37; omega)
        have hb2 := zrp (P := zqd po) (k := i - 1) (by omega) (by omega)
        have hs2 := zwv_small k3 (k := 37) (by have := z35_37; omega) (by have := z35_37; omega)
        have hb3 := zrp (P := zqd po) (k := i + 1 - 1) (by omega) (by omega)
        have ep : (zqd po) ^ (i - 1).toNat * zqd po = (zqd po) ^ (i + 1 - 1).toNat := by rw [show (i + 1 - 1).toNat = (i - 1).toNat + 1 by omega, Int.pow_succ]
        refine zc_v (wr := [(y, .inr (4, [vv0, vv1, vv2, vv3, .ref q, .long (lz (le)), .int (iz (pp)), .int (iz (rws))])), (wa, .inr (9, [.ref wb, .int (iz (wn)), .long (lz (wt))])), (wb, zaL (G.2 0) 40 (wf)), (r, .inr (5, [.int (iz (md))]))]) (va_runV (As := [.long (lz (1))]) (rest := []) ⟨hx, hb, hml, hown, hts⟩ (c_X1_next l G q wa sa sb sg sm su da db dg dm du (zqu po) (zqd po) pq (zrow (zqu po) (zqd po) (zun) (i - 1).toNat) ((zqd po) ^ (i - 1).toNat) 1 (k2) (k3) (by omega) (by omega) (by omega) (by rw [ep]; have := z35_37; omega) H.size) (cwV 1 hts gX3_instalmentFor_X1_next rfl rfl rfl (by decide +kernel) ⟨Nat.le_of_ble_eq_true rfl, Nat.le_of_ble_eq_true rfl⟩) (zpV hKX hP hD [4, 5, 6, 7, 8] rfl rfl 4 2 rfl rfl) rfl rfl hl.1 rfl (lv_room (Nat.le_of_ble_eq_true rfl)) dX3_instalmentFor_24 ⟨(by first | exact Nat.le_of_ble_eq_true rfl | (show _ ≤ (1 : Nat); omega)), (by first | exact Nat.le_of_ble_eq_true rfl | (show _ ≤ (6 : Nat); omega))⟩) hP hD hS hA [4, 5, 6, 7, 8] [0, 1, 2, 3] rfl rfl rfl (by decide) (fun u_16 H locs qn hP hD hS => ?_)
        obtain ⟨sf3, sn3, st3, df3, dn3, dt3⟩ := u_16
        have hP : va_P G.1 vwCl [(y, .inr (4, [vv0, vv1, vv2, vv3, .ref q, .long (lz (le)), .int (iz (pp)), .int (iz (rws))])), (wa, .inr (9, [.ref wb, .int (iz (wn)), .long (lz (wt))])), (wb, zaL (G.2 0) 40 (wf)), (r, .inr (5, [.int (iz (md))])), (q, .inr (2, [.ref sa, .ref da, .ref wa, .long (lz ((zqu po))), .long (lz ((zqd po))), .int (iz (pq + 1))])), (sa, .inr (9, [.ref sb, .int (iz (sn3)), .long (lz (st3))])), (sb, zaL (G.2 0) 40 (sf3)), (da, .inr (9, [.ref db, .int (iz (dn3)), .long (lz (dt3))])), (db, zaL (G.2 0) 40 (df3))] H := hP
        have hD : va_D A [(y, .inr (4, [vv0, vv1, vv2, vv3, .ref q, .long (lz (le)), .int (iz (pp)), .int (iz (rws))])), (wa, .inr (9, [.ref wb, .int (iz (wn)), .long (lz (wt))])), (wb, zaL (G.2 0) 40 (wf)), (r, .inr (5, [.int (iz (md))])), (q, .inr (2, [.ref sa, .ref da, .ref wa, .long (lz ((zqu po))), .long (lz ((zqd po))), .int (iz (pq + 1))])), (sa, .inr (9, [.ref sb, .int (iz (sn3)), .long (lz (st3))])), (sb, zaL (G.2 0) 40 (sf3)), (da, .inr (9, [.ref db, .int (iz (dn3)), .long (lz (dt3))])), (db, zaL (G.2 0) 40 (df3))] := hD
        have qn : zwv sf3 sn3 st3 ((zrow (zqu po) (zqd po) (zun) (i - 1).toNat) * (zqu po) + ((zqd po) ^ (i - 1).toNat) * (zqd po) * (1 : Int)) ∧ zwv df3 dn3 dt3 (((zqd po) ^ (i - 1).toNat) * (zqd po)) := qn
        have qs := qn.1
        have qd := qn.2
        rw [ep] at qd
        rw [zrw_next (U := zqu po) (P := zqd po) (f := zun) k1.1 (zun_1 k1.1).symm] at qs
        refine lv_iinc (v := iz (i + 1)) (lv' := [(6, .int (iz (i + 1))), (0, .ref y), (1, .long (lz (mo))), (3, .int (iz (po))), (4, .int (iz (pn))), (5, .ref r)]) hx hb dX3_instalmentFor_27 hl (k := 0) rfl (by rw [show Int32.ofInt (1) = iz (1) from rfl, iz_add]) (by decide) rfl (fun ls hl => ?_)
        refine lv_goto (tgt := 12) hx hb dX3_instalmentFor_30 (by decide) ?_
        refine W.widen (k := 0 + 0) (n := 0 + 0) (by omega) (by omega) ?_
        exact ih_12 (i + 1) (pq + 1) sf3 sn3 st3 df3 dn3 dt3 _ _ _ (by omega) (by omega) (qs) (qd) (hP) (hD) hS (hl)
  exact hl_12 ((pn + 1 - 1 : Int).toNat + 1) 1 0 sf1 sn1 st1 df1 dn1 dt1 _ _ _ (Nat.lt_succ_self _) (by omega) (hbg.1) (by simpa using hbg.2) (hP) (hD) hS (hl)

def rm_c_X3_paidIn : Room := { frames := 1, cells := 0, slots := 0, locals := 23 }
theorem iw_X3_paidIn_X3 : ∀ w ∈ wsX30, w ∈ wsX3_paidIn := by decide +kernel
set_option maxHeartbeats 1000000 in
set_option maxRecDepth 100000 in
theorem c_X3_paidIn (l : Launch) (G : zG) (y : Nat) (nr : Nat) (ne : Nat) (nh : Nat) (tb : Nat) (q : Nat) (fe : Int → Int) (fh : Int → Int) (mo : Int) (pn : Int) (rws : Int) (i : Int) (ow : Int) (ins : Int) (h1 : 1 ≤ i ∧ i ≤ 60 ∧ 0 ≤ ow ∧ ow ≤ 1000000000000000 ∧ 0 ≤ ins ∧ ins ≤ 1000000000000000) (h2 : fh i = 0 ∨ fh i = 1) (h3 : 0 ≤ fe i ∧ fe i ≤ 1000000000) (h4 : 1 ≤ pn ∧ pn ≤ 60) : zM l G yX3_paidIn wsX3_paidIn rm_c_X3_paidIn [.ref y, .int (iz (i)), .long (lz (ow)), .long (lz (ins))] [(y, .inr (4, [.ref nr, .ref ne, .ref nh, .ref tb, .ref q, .long (lz (mo)), .int (iz (pn)), .int (iz (rws))])), (ne, zaL (G.2 0) 61 (fe)), (nh, zaZ (G.2 2) 61 (fh))] (fun A => zQl G (fun (z : Int) (_ : Unit) => z = zpd fe fh pn i ow ins) (fun (_ : Unit) => [(y, .inr (4, [.ref nr, .ref ne, .ref nh, .ref tb, .ref q, .long (lz (mo)), .int (iz (pn)), .int (iz (rws))])), (ne, zaL (G.2 0) 61 (fe)), (nh, zaZ (G.2 2) 61 (fh))]) A) 0 0 := by
  refine zM_of (cc := cX3_paidIn) (maxL := 6) (ret := (some .long)) (by decide) rfl (Nat.le_of_ble_eq_true rfl) ?_
  intro p e s m below meth c ls A Q hQ hx hb hr hts hown hlocks hml hnm hKX hP hD hA hS hl
  have hK := hKX.1
  have iwX3 := iw_X3_paidIn_X3
  obtain ⟨H, hH⟩ : ∃ h, h = s.heap := ⟨_, rfl⟩
  obtain ⟨locs, hlo⟩ : ∃ h : List Loc, h = [] := ⟨_, rfl⟩
  have hS : va_S A s.heap H locs := by rw [hH, hlo]; exact hS
  have hP : va_P G.1 vwCl [(y, .inr (4, [.ref nr, .ref ne, .ref nh, .ref tb, .ref q, .long (lz (mo)), .int (iz (pn)), .int (iz (rws))])), (ne, zaL (G.2 0) 61 (fe)), (nh, zaZ (G.2 2) 61 (fh))] H := by rw [hH]; exact hP
  have hD : va_D A [(y, .inr (4, [.ref nr, .ref ne, .ref nh, .ref tb, .ref q, .long (lz (mo)), .int (iz (pn)), .int (iz (rws))])), (ne, zaL (G.2 0) 61 (fe)), (nh, zaZ (G.2 2) 61 (fh))] := hD
  have hl : lv_has ls 6 [(0, .ref y), (1, .int (iz (i))), (2, .long (lz (ow))), (4, .long (lz (ins)))] := hl
  rw [← hH, ← hlo]
  refine lv_aload_n hx hb dX3_paidIn_0 rfl (lv_at hl 0 rfl) ?_
  refine va_get (D := G.1) (ci := 4) (v := .ref nh) (C := RX3) (T := TX3) (N := 8) hx hb hts iwX3 hown hK hP 0 rfl rfl 2 (by decide) (hts (.fieldLink RX3 19 "AnnuityHouse$Loan" "holidays" "[Z") (by decide +kernel)) (fun _ h9 => h9) rfl dX3_paidIn_1 ?_
  refine lv_iload_n hx hb dX3_paidIn_4 rfl (lv_at hl 1 rfl) ?_
  refine zr_zald hx hb hK hP 2 2 rfl rfl (i := i) (⟨by omega, by omega, by omega⟩) dX3_paidIn_5 ?_
  refine zr_if_eq (x := fh i) (tgt := 11) hx hb (by rcases h2 with q | q <;> rw [q] <;> exact ⟨by decide, by decide⟩) dX3_paidIn_6 (by decide) (fun h_1 => ?_) (fun h_1 => ?_)
  ·
    refine lv_iload_n hx hb dX3_paidIn_11 rfl (lv_at hl 1 rfl) ?_
    refine lv_aload_n hx hb dX3_paidIn_12 rfl (lv_at hl 0 rfl) ?_
    refine va_get (D := G.1) (ci := 4) (v := .int (iz (pn))) (C := RX3) (T := TX3) (N := 8) hx hb hts iwX3 hown hK hP 0 rfl rfl 6 (by decide) (hts (.fieldLink RX3 39 "AnnuityHouse$Loan" "periods" "I") (by decide +kernel)) (fun _ h9 => h9) rfl dX3_paidIn_13 ?_
    refine zr_icmp_eq (x := i) (y := pn) (tgt := 26) hx hb (⟨by omega, by omega⟩) (⟨by omega, by omega⟩) dX3_paidIn_16 (by decide) (fun h_2 => ?_) (fun h_2 => ?_)
    ·
      refine lv_lload_n hx hb dX3_paidIn_26 rfl (lv_at hl 2 rfl) ?_
      rw [hQ]
      exact zr_lret (z := ow) (u := ()) hx hb hr hlocks hP hD hS (by first | exact Nat.le_of_ble_eq_true rfl | omega) (by first | exact Nat.le_of_ble_eq_true rfl | omega) dX3_paidIn_27 (show ow = zpd fe fh pn i ow ins from ((if_neg (by omega)).trans (if_pos (by omega))).symm)
    ·
      refine lv_lload_n hx hb dX3_paidIn_19 rfl (lv_at hl 2 rfl) ?_
      refine lv_lload hx hb dX3_paidIn_20 (lv_at hl 3 rfl) ?_
      refine zr_lcmp_gt (x := ow) (y := ins) (tgt := 28) hx hb (⟨by omega, by omega⟩) (⟨by omega, by omega⟩) dX3_paidIn_22 dX3_paidIn_23 (by decide) (fun h_3 => ?_) (fun h_3 => ?_)
      ·
        refine lv_lload hx hb dX3_paidIn_28 (lv_at hl 3 rfl) ?_
        refine lv_aload_n hx hb dX3_paidIn_30 rfl (lv_at hl 0 rfl) ?_
        refine va_get (D := G.1) (ci := 4) (v := .ref ne) (C := RX3) (T := TX3) (N := 8) hx hb hts iwX3 hown hK hP 0 rfl rfl 1 (by decide) (hts (.fieldLink RX3 15 "AnnuityHouse$Loan" "earlies" "[J") (by decide +kernel)) (fun _ h9 => h9) rfl dX3_paidIn_31 ?_
        refine lv_iload_n hx hb dX3_paidIn_34 rfl (lv_at hl 1 rfl) ?_
        refine zr_lald hx hb hK hP 1 0 rfl rfl (i := i) (⟨by omega, by omega, by omega⟩) dX3_paidIn_35 ?_
        refine lv_lload_n hx hb dX3_paidIn_36 rfl (lv_at hl 2 rfl) ?_
        refine lv_lload hx hb dX3_paidIn_37 (lv_at hl 3 rfl) ?_
        refine zr_lsub hx hb dX3_paidIn_39 ?_
        refine zr_mminL (x := fe i) (y := ow - ins) hx hb (hml.trans hl.1.symm) hown (hts (.methodLink RX3 81 Lib.MathLoose.min_long.x) (by decide +kernel)) (hts (.static Lib.MathLoose.min_long.x) (by decide +kernel)) (hts (.initialized "java/lang/Math") (by decide +kernel)) (hts (.code Lib.MathLoose.min_long.x Lib.MathLoose.min_long.code 4 (some .long)) (by decide +kernel)) (Nat.le_of_ble_eq_true rfl) (Nat.le_of_ble_eq_true rfl) (by first | exact Nat.le_of_ble_eq_true rfl | (show _ ≤ (0 : Nat); omega)) (by first | exact Nat.le_of_ble_eq_true rfl | (show _ ≤ (0 : Nat); omega)) (⟨by omega, by omega⟩) (⟨by omega, by omega⟩) dX3_paidIn_40 ?_
        refine zr_ladd hx hb dX3_paidIn_43 ?_
        rw [hQ]
        exact zr_lret (z := ins + (min (fe i) (ow - ins))) (u := ()) hx hb hr hlocks hP hD hS (by first | exact Nat.le_of_ble_eq_true rfl | omega) (by first | exact Nat.le_of_ble_eq_true rfl | omega) dX3_paidIn_44 (show (ins + (min (fe i) (ow - ins))) = zpd fe fh pn i ow ins from ((if_neg (by omega)).trans (if_neg (by omega))).symm)
      ·
        refine lv_lload_n hx hb dX3_paidIn_26 rfl (lv_at hl 2 rfl) ?_
        rw [hQ]
        exact zr_lret (z := ow) (u := ()) hx hb hr hlocks hP hD hS (by first | exact Nat.le_of_ble_eq_true rfl | omega) (by first | exact Nat.le_of_ble_eq_true rfl | omega) dX3_paidIn_27 (show ow = zpd fe fh pn i ow ins from ((if_neg (by omega)).trans (if_pos (by omega))).symm)
  ·
    refine lv_lconst (v := lz (0)) hx hb dX3_paidIn_9 rfl ?_
    rw [hQ]
    exact zr_lret (z := 0) (u := ()) hx hb hr hlocks hP hD hS (by first | exact Nat.le_of_ble_eq_true rfl | omega) (by first | exact Nat.le_of_ble_eq_true rfl | omega) dX3_paidIn_10 (show 0 = zpd fe fh pn i ow ins from (if_pos (by omega)).symm)

def rm_c_X3_workOut : Room := { frames := 10, cells := 124, slots := 744, locals := 188 }
theorem iw_X3_workOut_X3 : ∀ w ∈ wsX30, w ∈ wsX3_workOut := by decide +kernel
set_option maxHeartbeats 1000000 in
set_option maxRecDepth 100000 in
theorem c_X3_workOut (l : Launch) (G : zG) (s1 : Nat) (s2 : Nat) (s3 : Nat) (y : Nat) (nr : Nat) (ne : Nat) (nh : Nat) (tb : Nat) (q : Nat) (r : Nat) (md : Int) (tr : Nat → Nat) (t0 : Int → Int) (t1 : Int → Int) (t2 : Int → Int) (t3 : Int → Int) (t4 : Int → Int) (t5 : Int → Int) (t6 : Int → Int) (fr : Int → Int) (fe : Int → Int) (fh : Int → Int) (mo : Int) (pn : Int) (rws : Int) (sa : Nat) (sb : Nat) (sf : Int → Int) (sn : Int) (st : Int) (da : Nat) (db : Nat) (df : Int → Int) (dn : Int) (dt : Int) (wa : Nat) (wb : Nat) (wf : Int → Int) (wn : Int) (wt : Int) (u0 : Int) (d0 : Int) (p0 : Int) (hl0 : l.stackTraces = false) (hmd : 0 ≤ md ∧ md ≤ 7) (ht : zterm fr fe fh mo pn) : zMt l (zXE s1 s2 s3) G yX3_workOut wsX3_workOut rm_c_X3_workOut [.ref y, .ref r] [(y, .inr (4, [.ref nr, .ref ne, .ref nh, .ref tb, .ref q, .long (lz (mo)), .int (iz (pn)), .int (iz (rws))])), (nr, zaI (G.2 1) 61 (fr)), (ne, zaL (G.2 0) 61 (fe)), (nh, zaZ (G.2 2) 61 (fh)), (tb, zaR (G.2 3) 7 (ztb tr)), ((tr 0), zaL (G.2 0) 61 (t0)), ((tr 1), zaL (G.2 0) 61 (t1)), ((tr 2), zaL (G.2 0) 61 (t2)), ((tr 3), zaL (G.2 0) 61 (t3)), ((tr 4), zaL (G.2 0) 61 (t4)), ((tr 5), zaL (G.2 0) 61 (t5)), ((tr 6), zaL (G.2 0) 61 (t6)), (q, .inr (2, [.ref sa, .ref da, .ref wa, .long (lz (u0)), .long (lz (d0)), .int (iz (p0))])), (sa, .inr (9, [.ref sb, .int (iz (sn)), .long (lz (st))])), (sb, zaL (G.2 0) 40 (sf)), (da, .inr (9, [.ref db, .int (iz (dn)), .long (lz (dt))])), (db, zaL (G.2 0) 40 (df)), (wa, .inr (9, [.ref wb, .int (iz (wn)), .long (lz (wt))])), (wb, zaL (G.2 0) 40 (wf)), (r, .inr (5, [.int (iz (md))]))] (fun A => zQv G (fun (u : (Int → Int) × (Int → Int) × (Int → Int) × (Int → Int) × (Int → Int) × (Int → Int) × (Int → Int) × Int × (Int → Int) × Int × Int × (Int → Int) × Int × Int × (Int → Int) × Int × Int × Int × Int × Int) => ztab md fr fe fh mo pn u.2.2.2.2.2.2.2.1 ∧ zcl md fr fe fh mo pn u.2.2.2.2.2.2.2.1 u.1 u.2.1 u.2.2.1 u.2.2.2.1 u.2.2.2.2.1 u.2.2.2.2.2.1 u.2.2.2.2.2.2.1 ∧ ∀ k : Int, 1 ≤ k → k ≤ u.2.2.2.2.2.2.2.1 → zxr md fr fe fh mo pn k) (fun (u : (Int → Int) × (Int → Int) × (Int → Int) × (Int → Int) × (Int → Int) × (Int → Int) × (Int → Int) × Int × (Int → Int) × Int × Int × (Int → Int) × Int × Int × (Int → Int) × Int × Int × Int × Int × Int) => [(y, .inr (4, [.ref nr, .ref ne, .ref nh, .ref tb, .ref q, .long (lz (mo)), .int (iz (pn)), .int (iz (u.2.2.2.2.2.2.2.1))])), (nr, zaI (G.2 1) 61 (fr)), (ne, zaL (G.2 0) 61 (fe)), (nh, zaZ (G.2 2) 61 (fh)), (tb, zaR (G.2 3) 7 (ztb tr)), ((tr 0), zaL (G.2 0) 61 (u.1)), ((tr 1), zaL (G.2 0) 61 (u.2.1)), ((tr 2), zaL (G.2 0) 61 (u.2.2.1)), ((tr 3), zaL (G.2 0) 61 (u.2.2.2.1)), ((tr 4), zaL (G.2 0) 61 (u.2.2.2.2.1)), ((tr 5), zaL (G.2 0) 61 (u.2.2.2.2.2.1)), ((tr 6), zaL (G.2 0) 61 (u.2.2.2.2.2.2.1)), (q, .inr (2, [.ref sa, .ref da, .ref wa, .long (lz (u.2.2.2.2.2.2.2.2.2.2.2.2.2.2.2.2.2.1)), .long (lz (u.2.2.2.2.2.2.2.2.2.2.2.2.2.2.2.2.2.2.1)), .int (iz (u.2.2.2.2.2.2.2.2.2.2.2.2.2.2.2.2.2.2.2))])), (sa, .inr (9, [.ref sb, .int (iz (u.2.2.2.2.2.2.2.2.2.1)), .long (lz (u.2.2.2.2.2.2.2.2.2.2.1))])), (sb, zaL (G.2 0) 40 (u.2.2.2.2.2.2.2.2.1)), (da, .inr (9, [.ref db, .int (iz (u.2.2.2.2.2.2.2.2.2.2.2.2.1)), .long (lz (u.2.2.2.2.2.2.2.2.2.2.2.2.2.1))])), (db, zaL (G.2 0) 40 (u.2.2.2.2.2.2.2.2.2.2.2.1)), (wa, .inr (9, [.ref wb, .int (iz (u.2.2.2.2.2.2.2.2.2.2.2.2.2.2.2.1)), .long (lz (u.2.2.2.2.2.2.2.2.2.2.2.2.2.2.2.2.1))])), (wb, zaL (G.2 0) 40 (u.2.2.2.2.2.2.2.2.2.2.2.2.2.2.1)), (r, .inr (5, [.int (iz (md))]))]) A) (SX := (Int → Int) × (Int → Int) × (Int → Int) × (Int → Int) × (Int → Int) × (Int → Int) × (Int → Int) × Int × (Int → Int) × Int × Int × (Int → Int) × Int × Int × (Int → Int) × Int × Int × Int × Int × Int) (fun (E9 : String) (ux : (Int → Int) × (Int → Int) × (Int → Int) × (Int → Int) × (Int → Int) × (Int → Int) × (Int → Int) × Int × (Int → Int) × Int × Int × (Int → Int) × Int × Int × (Int → Int) × Int × Int × Int × Int × Int) => (E9 = "java/lang/IllegalStateException" ∧ md = 7 ∧ zinex md fr fe fh mo pn)) (fun (ux : (Int → Int) × (Int → Int) × (Int → Int) × (Int → Int) × (Int → Int) × (Int → Int) × (Int → Int) × Int × (Int → Int) × Int × Int × (Int → Int) × Int × Int × (Int → Int) × Int × Int × Int × Int × Int) => [(y, .inr (4, [.ref nr, .ref ne, .ref nh, .ref tb, .ref q, .long (lz (mo)), .int (iz (pn)), .int (iz (ux.2.2.2.2.2.2.2.1))])), (nr, zaI (G.2 1) 61 (fr)), (ne, zaL (G.2 0) 61 (fe)), (nh, zaZ (G.2 2) 61 (fh)), (tb, zaR (G.2 3) 7 (ztb tr)), ((tr 0), zaL (G.2 0) 61 (ux.1)), ((tr 1), zaL (G.2 0) 61 (ux.2.1)), ((tr 2), zaL (G.2 0) 61 (ux.2.2.1)), ((tr 3), zaL (G.2 0) 61 (ux.2.2.2.1)), ((tr 4), zaL (G.2 0) 61 (ux.2.2.2.2.1)), ((tr 5), zaL (G.2 0) 61 (ux.2.2.2.2.2.1)), ((tr 6), zaL (G.2 0) 61 (ux.2.2.2.2.2.2.1)), (q, .inr (2, [.ref sa, .ref da, .ref wa, .long (lz (ux.2.2.2.2.2.2.2.2.2.2.2.2.2.2.2.2.2.1)), .long (lz (ux.2.2.2.2.2.2.2.2.2.2.2.2.2.2.2.2.2.2.1)), .int (iz (ux.2.2.2.2.2.2.2.2.2.2.2.2.2.2.2.2.2.2.2))])), (sa, .inr (9, [.ref sb, .int (iz (ux.2.2.2.2.2.2.2.2.2.1)), .long (lz (ux.2.2.2.2.2.2.2.2.2.2.1))])), (sb, zaL (G.2 0) 40 (ux.2.2.2.2.2.2.2.2.1)), (da, .inr (9, [.ref db, .int (iz (ux.2.2.2.2.2.2.2.2.2.2.2.2.1)), .long (lz (ux.2.2.2.2.2.2.2.2.2.2.2.2.2.1))])), (db, zaL (G.2 0) 40 (ux.2.2.2.2.2.2.2.2.2.2.2.1)), (wa, .inr (9, [.ref wb, .int (iz (ux.2.2.2.2.2.2.2.2.2.2.2.2.2.2.2.1)), .long (lz (ux.2.2.2.2.2.2.2.2.2.2.2.2.2.2.2.2.1))])), (wb, zaL (G.2 0) 40 (ux.2.2.2.2.2.2.2.2.2.2.2.2.2.2.1)), (r, .inr (5, [.int (iz (md))]))]) 124 744 := by
  refine zMt_of (cc := cX3_workOut) (maxL := 12) (ret := none) (by decide) rfl (Nat.le_of_ble_eq_true rfl) ?_
  intro p e s m below meth c ls A Q hQ hx hb hr hts hown hlocks hml hout hKX hE hP hD hA hS hl
  have hK := hKX.1
  have iwX3 := iw_X3_workOut_X3
  obtain ⟨H, hH⟩ : ∃ h, h = s.heap := ⟨_, rfl⟩
  obtain ⟨locs, hlo⟩ : ∃ h : List Loc, h = [] := ⟨_, rfl⟩
  have hS : va_S A s.heap H locs := by rw [hH, hlo]; exact hS
  have hP : va_P G.1 vwCl [(y, .inr (4, [.ref nr, .ref ne, .ref nh, .ref tb, .ref q, .long (lz (mo)), .int (iz (pn)), .int (iz (rws))])), (nr, zaI (G.2 1) 61 (fr)), (ne, zaL (G.2 0) 61 (fe)), (nh, zaZ (G.2 2) 61 (fh)), (tb, zaR (G.2 3) 7 (ztb tr)), ((tr 0), zaL (G.2 0) 61 (t0)), ((tr 1), zaL (G.2 0) 61 (t1)), ((tr 2), zaL (G.2 0) 61 (t2)), ((tr 3), zaL (G.2 0) 61 (t3)), ((tr 4), zaL (G.2 0) 61 (t4)), ((tr 5), zaL (G.2 0) 61 (t5)), ((tr 6), zaL (G.2 0) 61 (t6)), (q, .inr (2, [.ref sa, .ref da, .ref wa, .long (lz (u0)), .long (lz (d0)), .int (iz (p0))])), (sa, .inr (9, [.ref sb, .int (iz (sn)), .long (lz (st))])), (sb, zaL (G.2 0) 40 (sf)), (da, .inr (9, [.ref db, .int (iz (dn)), .long (lz (dt))])), (db, zaL (G.2 0) 40 (df)), (wa, .inr (9, [.ref wb, .int (iz (wn)), .long (lz (wt))])), (wb, zaL (G.2 0) 40 (wf)), (r, .inr (5, [.int (iz (md))]))] H := by rw [hH]; exact hP
  have hD : va_D A [(y, .inr (4, [.ref nr, .ref ne, .ref nh, .ref tb, .ref q, .long (lz (mo)), .int (iz (pn)), .int (iz (rws))])), (nr, zaI (G.2 1) 61 (fr)), (ne, zaL (G.2 0) 61 (fe)), (nh, zaZ (G.2 2) 61 (fh)), (tb, zaR (G.2 3) 7 (ztb tr)), ((tr 0), zaL (G.2 0) 61 (t0)), ((tr 1), zaL (G.2 0) 61 (t1)), ((tr 2), zaL (G.2 0) 61 (t2)), ((tr 3), zaL (G.2 0) 61 (t3)), ((tr 4), zaL (G.2 0) 61 (t4)), ((tr 5), zaL (G.2 0) 61 (t5)), ((tr 6), zaL (G.2 0) 61 (t6)), (q, .inr (2, [.ref sa, .ref da, .ref wa, .long (lz (u0)), .long (lz (d0)), .int (iz (p0))])), (sa, .inr (9, [.ref sb, .int (iz (sn)), .long (lz (st))])), (sb, zaL (G.2 0) 40 (sf)), (da, .inr (9, [.ref db, .int (iz (dn)), .long (lz (dt))])), (db, zaL (G.2 0) 40 (df)), (wa, .inr (9, [.ref wb, .int (iz (wn)), .long (lz (wt))])), (wb, zaL (G.2 0) 40 (wf)), (r, .inr (5, [.int (iz (md))]))] := hD
  have hl : lv_has ls 12 [(0, .ref y), (1, .ref r)] := hl
  rw [← hH, ← hlo]
  have ht1 := ht.1
  refine lv_aload_n hx hb dX3_workOut_0 rfl (lv_at hl 0 rfl) ?_
  refine va_get (D := G.1) (ci := 4) (v := .long (lz (mo))) (C := RX3) (T := TX3) (N := 8) hx hb hts iwX3 hown hK hP 0 rfl rfl 5 (by decide) (hts (.fieldLink RX3 35 "AnnuityHouse$Loan" "lent" "J") (by decide +kernel)) (fun _ h9 => h9) rfl dX3_workOut_1 ?_
  refine lv_lstore_n (lv' := [(2, .long (lz (mo))), (0, .ref y), (1, .ref r)]) hx hb dX3_workOut_4 rfl hl (by decide) rfl (fun ls hl => ?_)
  refine lv_lconst (v := lz (0)) hx hb dX3_workOut_5 rfl ?_
  refine lv_lstore (lv' := [(4, .long (lz (0))), (2, .long (lz (mo))), (0, .ref y), (1, .ref r)]) hx hb dX3_workOut_6 hl (by decide) rfl (fun ls hl => ?_)
  refine lv_iconst (v := iz (0)) hx hb dX3_workOut_8 rfl ?_
  refine lv_istore (lv' := [(6, .int (iz (0))), (4, .long (lz (0))), (2, .long (lz (mo))), (0, .ref y), (1, .ref r)]) hx hb dX3_workOut_9 hl (by decide) rfl (fun ls hl => ?_)
  refine lv_aload_n hx hb dX3_workOut_11 rfl (lv_at hl 3 rfl) ?_
  refine lv_iconst (v := iz (0)) hx hb dX3_workOut_12 rfl ?_
  refine va_put (D := G.1) (ci := 4) (v := .int (iz (0))) (ty := .int) (C := RX3) (T := TX3) (N := 8) hx hb hts iwX3 tyX3 tyX3_ok nmX3 hown hK hP hD hS 0 rfl rfl 7 (by decide) (hts (.fieldLink RX3 43 "AnnuityHouse$Loan" "tableRows" "I") (by decide +kernel)) (fun _ h9 => h9) rfl (by decide +kernel) rfl rfl (Nat.le_of_ble_eq_true rfl) dX3_workOut_13 (fun H locs hP hD hS => ?_)
  have hP : va_P G.1 vwCl [(y, .inr (4, [.ref nr, .ref ne, .ref nh, .ref tb, .ref q, .long (lz (mo)), .int (iz (pn)), .int (iz (0))])), (nr, zaI (G.2 1) 61 (fr)), (ne, zaL (G.2 0) 61 (fe)), (nh, zaZ (G.2 2) 61 (fh)), (tb, zaR (G.2 3) 7 (ztb tr)), ((tr 0), zaL (G.2 0) 61 (t0)), ((tr 1), zaL (G.2 0) 61 (t1)), ((tr 2), zaL (G.2 0) 61 (t2)), ((tr 3), zaL (G.2 0) 61 (t3)), ((tr 4), zaL (G.2 0) 61 (t4)), ((tr 5), zaL (G.2 0) 61 (t5)), ((tr 6), zaL (G.2 0) 61 (t6)), (q, .inr (2, [.ref sa, .ref da, .ref wa, .long (lz (u0)), .long (lz (d0)), .int (iz (p0))])), (sa, .inr (9, [.ref sb, .int (iz (sn)), .long (lz (st))])), (sb, zaL (G.2 0) 40 (sf)), (da, .inr (9, [.ref db, .int (iz (dn)), .long (lz (dt))])), (db, zaL (G.2 0) 40 (df)), (wa, .inr (9, [.ref wb, .int (iz (wn)), .long (lz (wt))])), (wb, zaL (G.2 0) 40 (wf)), (r, .inr (5, [.int (iz (md))]))] H := hP
  have hD : va_D A [(y, .inr (4, [.ref nr, .ref ne, .ref nh, .ref tb, .ref q, .long (lz (mo)), .int (iz (pn)), .int (iz (0))])), (nr, zaI (G.2 1) 61 (fr)), (ne, zaL (G.2 0) 61 (fe)), (nh, zaZ (G.2 2) 61 (fh)), (tb, zaR (G.2 3) 7 (ztb tr)), ((tr 0), zaL (G.2 0) 61 (t0)), ((tr 1), zaL (G.2 0) 61 (t1)), ((tr 2), zaL (G.2 0) 61 (t2)), ((tr 3), zaL (G.2 0) 61 (t3)), ((tr 4), zaL (G.2 0) 61 (t4)), ((tr 5), zaL (G.2 0) 61 (t5)), ((tr 6), zaL (G.2 0) 61 (t6)), (q, .inr (2, [.ref sa, .ref da, .ref wa, .long (lz (u0)), .long (lz (d0)), .int (iz (p0))])), (sa, .inr (9, [.ref sb, .int (iz (sn)), .long (lz (st))])), (sb, zaL (G.2 0) 40 (sf)), (da, .inr (9, [.ref db, .int (iz (dn)), .long (lz (dt))])), (db, zaL (G.2 0) 40 (df)), (wa, .inr (9, [.ref wb, .int (iz (wn)), .long (lz (wt))])), (wb, zaL (G.2 0) 40 (wf)), (r, .inr (5, [.int (iz (md))]))] := hD
  refine lv_iconst (v := iz (1)) hx hb dX3_workOut_16 rfl ?_
  refine lv_istore (lv' := [(7, .int (iz (1))), (6, .int (iz (0))), (4, .long (lz (0))), (2, .long (lz (mo))), (0, .ref y), (1, .ref r)]) hx hb dX3_workOut_17 hl (by decide) rfl (fun ls hl => ?_)
  have hl_19 : ∀ (zn_19 : Nat) (i : Int) (lf : Int) (po0 : Int) (in0 : Int) (rw2 : Int) (g0 : Int → Int) (g1 : Int → Int) (g2 : Int → Int) (g3 : Int → Int) (g4 : Int → Int) (g5 : Int → Int) (g6 : Int → Int) (xu : Int) (xd : Int) (xp : Int) (sg : Int → Int) (sm : Int) (su : Int) (dg : Int → Int) (dm : Int) (du : Int) (wg : Int → Int) (wm : Int) (wu : Int) (H : Heap) (locs : List Loc) (ls : Array Slot), (pn + 1 - i).toNat < zn_19 → (1 ≤ i ∧ i ≤ pn + 1 ∧ rw2 = i - 1) → (zst md fr fe fh mo pn (i - 1).toNat = (lf, po0, in0)) → (∀ k : Int, 1 ≤ k → k < i → 0 < (zst md fr fe fh mo pn (k - 1).toNat).1) → (zcl md fr fe fh mo pn (i - 1) g0 g1 g2 g3 g4 g5 g6) → (∀ k : Int, 1 ≤ k → k < i → zxr md fr fe fh mo pn k) → va_P G.1 vwCl [(y, .inr (4, [.ref nr, .ref ne, .ref nh, .ref tb, .ref q, .long (lz (mo)), .int (iz (pn)), .int (iz (rw2))])), (nr, zaI (G.2 1) 61 (fr)), (ne, zaL (G.2 0) 61 (fe)), (nh, zaZ (G.2 2) 61 (fh)), (tb, zaR (G.2 3) 7 (ztb tr)), ((tr 0), zaL (G.2 0) 61 (g0)), ((tr 1), zaL (G.2 0) 61 (g1)), ((tr 2), zaL (G.2 0) 61 (g2)), ((tr 3), zaL (G.2 0) 61 (g3)), ((tr 4), zaL (G.2 0) 61 (g4)), ((tr 5), zaL (G.2 0) 61 (g5)), ((tr 6), zaL (G.2 0) 61 (g6)), (q, .inr (2, [.ref sa, .ref da, .ref wa, .long (lz (xu)), .long (lz (xd)), .int (iz (xp))])), (sa, .inr (9, [.ref sb, .int (iz (sm)), .long (lz (su))])), (sb, zaL (G.2 0) 40 (sg)), (da, .inr (9, [.ref db, .int (iz (dm)), .long (lz (du))])), (db, zaL (G.2 0) 40 (dg)), (wa, .inr (9, [.ref wb, .int (iz (wm)), .long (lz (wu))])), (wb, zaL (G.2 0) 40 (wg)), (r, .inr (5, [.int (iz (md))]))] H → va_D A [(y, .inr (4, [.ref nr, .ref ne, .ref nh, .ref tb, .ref q, .long (lz (mo)), .int (iz (pn)), .int (iz (rw2))])), (nr, zaI (G.2 1) 61 (fr)), (ne, zaL (G.2 0) 61 (fe)), (nh, zaZ (G.2 2) 61 (fh)), (tb, zaR (G.2 3) 7 (ztb tr)), ((tr 0), zaL (G.2 0) 61 (g0)), ((tr 1), zaL (G.2 0) 61 (g1)), ((tr 2), zaL (G.2 0) 61 (g2)), ((tr 3), zaL (G.2 0) 61 (g3)), ((tr 4), zaL (G.2 0) 61 (g4)), ((tr 5), zaL (G.2 0) 61 (g5)), ((tr 6), zaL (G.2 0) 61 (g6)), (q, .inr (2, [.ref sa, .ref da, .ref wa, .long (lz (xu)), .long (lz (xd)), .int (iz (xp))])), (sa, .inr (9, [.ref sb, .int (iz (sm)), .long (lz (su))])), (sb, zaL (G.2 0) 40 (sg)), (da, .inr (9, [.ref db, .int (iz (dm)), .long (lz (du))])), (db, zaL (G.2 0) 40 (dg)), (wa, .inr (9, [.ref wb, .int (iz (wm)), .long (lz (wu))])), (wb, zaL (G.2 0) 40 (wg)), (r, .inr (5, [.int (iz (md))]))] → va_S A s.heap H locs → lv_has ls 12 [(7, .int (iz (i))), (6, .int (iz (po0))), (4, .long (lz (in0))), (2, .long (lz (lf))), (0, .ref y), (1, .ref r)] → W p l e rm_c_X3_workOut s m ([.ref y, .ref r] : List Value).toArray below meth c H locs (2 * (i).toNat) (12 * (i).toNat) Q (F0 m 19 ls []) := by
    intro zn_19
    induction zn_19 with
    | zero => intro i lf po0 in0 rw2 g0 g1 g2 g3 g4 g5 g6 xu xd xp sg sm su dg dm du wg wm wu H locs ls hm; exact absurd hm (Nat.not_lt_zero _)
    | succ zn_19 ih_19 =>
      intro i lf po0 in0 rw2 g0 g1 g2 g3 g4 g5 g6 xu xd xp sg sm su dg dm du wg wm wu H locs ls hm_19 k1 ks kp kc kx hP hD hS hl
      refine lv_iload hx hb dX3_workOut_19 (lv_at hl 0 rfl) ?_
      refine lv_aload_n hx hb dX3_workOut_21 rfl (lv_at hl 4 rfl) ?_
      refine va_get (D := G.1) (ci := 4) (v := .int (iz (pn))) (C := RX3) (T := TX3) (N := 8) hx hb hts iwX3 hown hK hP 0 rfl rfl 6 (by decide) (hts (.fieldLink RX3 39 "AnnuityHouse$Loan" "periods" "I") (by decide +kernel)) (fun _ h9 => h9) rfl dX3_workOut_22 ?_
      refine zr_icmp_gt (x := i) (y := pn) (tgt := 201) hx hb (⟨by omega, by omega⟩) (⟨by omega, by omega⟩) dX3_workOut_25 (by decide) (fun h_1 => ?_) (fun h_1 => ?_)
      ·
        rw [hQ]
        exact vx_ret (zr_vret (u := (g0, g1, g2, g3, g4, g5, g6, rw2, sg, sm, su, dg, dm, du, wg, wm, wu, xu, xd, xp)) hx hb hr hlocks hP hD hS (by first | exact Nat.le_of_ble_eq_true rfl | omega) (by first | exact Nat.le_of_ble_eq_true rfl | omega) dX3_workOut_201 (show ztab md fr fe fh mo pn rw2 ∧ zcl md fr fe fh mo pn rw2 g0 g1 g2 g3 g4 g5 g6 ∧ ∀ k : Int, 1 ≤ k → k ≤ rw2 → zxr md fr fe fh mo pn k from by rw [k1.2.2]; exact ⟨ztab_end ht ⟨k1.1, k1.2.1⟩ ks kp (by omega), kc, fun k a b => kx k a (by omega)⟩))
      ·
        have hbz := zst_b (md := md) ht (i - 1).toNat (by omega)
        rw [ks] at hbz
        have hb1 : 0 ≤ lf := hbz.1
        have hb2 : 5 ^ (i - 1).toNat * (lf + 5) ≤ 6 ^ (i - 1).toNat * (mo + 5) := hbz.2.1
        have hb3 : 0 ≤ po0 ∧ po0 ≤ 20000 := hbz.2.2.1
        have hlf := zlf_b (n := (i - 1).toNat) (by omega) (by omega) hb2
        refine lv_lload_n hx hb dX3_workOut_28 rfl (lv_at hl 3 rfl) ?_
        refine lv_lconst (v := lz (0)) hx hb dX3_workOut_29 rfl ?_
        refine zr_lcmp_le (x := lf) (y := 0) (tgt := 201) hx hb (⟨by omega, by omega⟩) (⟨by omega, by omega⟩) dX3_workOut_30 dX3_workOut_31 (by decide) (fun h_2 => ?_) (fun h_2 => ?_)
        ·
          rw [hQ]
          exact vx_ret (zr_vret (u := (g0, g1, g2, g3, g4, g5, g6, rw2, sg, sm, su, dg, dm, du, wg, wm, wu, xu, xd, xp)) hx hb hr hlocks hP hD hS (by first | exact Nat.le_of_ble_eq_true rfl | omega) (by first | exact Nat.le_of_ble_eq_true rfl | omega) dX3_workOut_201 (show ztab md fr fe fh mo pn rw2 ∧ zcl md fr fe fh mo pn rw2 g0 g1 g2 g3 g4 g5 g6 ∧ ∀ k : Int, 1 ≤ k → k ≤ rw2 → zxr md fr fe fh mo pn k from by rw [k1.2.2]; exact ⟨ztab_end ht ⟨k1.1, k1.2.1⟩ ks kp (by omega), kc, fun k a b => kx k a (by omega)⟩))
        ·
          have hlf0 : 0 < lf := h_2
          have hpo2 := ht.po (i := i) (by omega) hb3
          have hfri := ht.fr (i := i) (by omega)
          have hfe := ht.2.2.2.1 i (by omega) (by omega)
          have hrc : ∀ j : Int, 1 ≤ j → j ≤ i → 0 < (zst md fr fe fh mo pn (j - 1).toNat).1 := fun j a b => (show j < i ∨ j = i by omega).elim (fun q => kp j a q) (fun q => by rw [q, ks]; exact hlf0)
          have hl_73 : ∀ (po2 : Int) (in2 : Int) (xu2 : Int) (xd2 : Int) (xp2 : Int) (sg2 : Int → Int) (sm2 : Int) (su2 : Int) (dg2 : Int → Int) (dm2 : Int) (du2 : Int) (wg2 : Int → Int) (wm2 : Int) (wu2 : Int) (H : Heap) (locs : List Loc) (ls : Array Slot), (po2 = zpo fr i po0) → (in2 = zis md fr pn i lf in0) → (md ≠ 7 ∨ fr i = -1 ∨ zinx lf (fr i) (pn - i + 1)) → va_P G.1 vwCl [(y, .inr (4, [.ref nr, .ref ne, .ref nh, .ref tb, .ref q, .long (lz (mo)), .int (iz (pn)), .int (iz (rw2))])), (nr, zaI (G.2 1) 61 (fr)), (ne, zaL (G.2 0) 61 (fe)), (nh, zaZ (G.2 2) 61 (fh)), (tb, zaR (G.2 3) 7 (ztb tr)), ((tr 0), zaL (G.2 0) 61 (g0)), ((tr 1), zaL (G.2 0) 61 (g1)), ((tr 2), zaL (G.2 0) 61 (g2)), ((tr 3), zaL (G.2 0) 61 (g3)), ((tr 4), zaL (G.2 0) 61 (g4)), ((tr 5), zaL (G.2 0) 61 (g5)), ((tr 6), zaL (G.2 0) 61 (g6)), (q, .inr (2, [.ref sa, .ref da, .ref wa, .long (lz (xu2)), .long (lz (xd2)), .int (iz (xp2))])), (sa, .inr (9, [.ref sb, .int (iz (sm2)), .long (lz (su2))])), (sb, zaL (G.2 0) 40 (sg2)), (da, .inr (9, [.ref db, .int (iz (dm2)), .long (lz (du2))])), (db, zaL (G.2 0) 40 (dg2)), (wa, .inr (9, [.ref wb, .int (iz (wm2)), .long (lz (wu2))])), (wb, zaL (G.2 0) 40 (wg2)), (r, .inr (5, [.int (iz (md))]))] H → va_D A [(y, .inr (4, [.ref nr, .ref ne, .ref nh, .ref tb, .ref q, .long (lz (mo)), .int (iz (pn)), .int (iz (rw2))])), (nr, zaI (G.2 1) 61 (fr)), (ne, zaL (G.2 0) 61 (fe)), (nh, zaZ (G.2 2) 61 (fh)), (tb, zaR (G.2 3) 7 (ztb tr)), ((tr 0), zaL (G.2 0) 61 (g0)), ((tr 1), zaL (G.2 0) 61 (g1)), ((tr 2), zaL (G.2 0) 61 (g2)), ((tr 3), zaL (G.2 0) 61 (g3)), ((tr 4), zaL (G.2 0) 61 (g4)), ((tr 5), zaL (G.2 0) 61 (g5)), ((tr 6), zaL (G.2 0) 61 (g6)), (q, .inr (2, [.ref sa, .ref da, .ref wa, .long (lz (xu2)), .long (lz (xd2)), .int (iz (xp2))])), (sa, .inr (9, [.ref sb, .int (iz (sm2)), .long (lz (su2))])), (sb, zaL (G.2 0) 40 (sg2)), (da, .inr (9, [.ref db, .int (iz (dm2)), .long (lz (du2))])), (db, zaL (G.2 0) 40 (dg2)), (wa, .inr (9, [.ref wb, .int (iz (wm2)), .long (lz (wu2))])), (wb, zaL (G.2 0) 40 (wg2)), (r, .inr (5, [.int (iz (md))]))] → va_S A s.heap H locs → lv_has ls 12 [(7, .int (iz (i))), (6, .int (iz (po2))), (4, .long (lz (in2))), (2, .long (lz (lf))), (0, .ref y), (1, .ref r)] → W p l e rm_c_X3_workOut s m ([.ref y, .ref r] : List Value).toArray below meth c H locs (2 * (i).toNat + 1) (12 * (i).toNat + 6) Q (F0 m 73 ls []) := by
            intro po2 in2 xu2 xd2 xp2 sg2 sm2 su2 dg2 dm2 du2 wg2 wm2 wu2 H locs ls jp ji jx hP hD hS hl
            have hz0 := zst_n (i := i) (by omega) ks jp ji rfl rfl
            have hbn := zst_b (md := md) ht i.toNat (by omega)
            rw [hz0] at hbn
            have hin2 : 0 ≤ in2 ∧ in2 ≤ 200000000000000 := hbn.2.2.2
            have hpo3 : 0 ≤ po2 ∧ po2 ≤ 20000 := by rw [jp]; exact hpo2
            have hlp := zlp_b ⟨hb1, hlf⟩ hpo3
            have hitb := zit_b (md := md) hb1 hpo3
            refine lv_aload_n hx hb dX3_workOut_73 rfl (lv_at hl 5 rfl) ?_
            refine lv_lload_n hx hb dX3_workOut_74 rfl (lv_at hl 3 rfl) ?_
            refine lv_iload hx hb dX3_workOut_75 (lv_at hl 1 rfl) ?_
            refine zr_i2l hx hb (x := po2) (⟨by omega, by omega⟩) dX3_workOut_77 ?_
            refine zr_lmul hx hb dX3_workOut_78 ?_
            refine zr_ldc2 (z := 100000) hx hb hown (hts (.constantLong RX3 50 (100000)) (by decide +kernel)) rfl dX3_workOut_79 ?_
            refine zct_l (wr := [(y, .inr (4, [.ref nr, .ref ne, .ref nh, .ref tb, .ref q, .long (lz (mo)), .int (iz (pn)), .int (iz (rw2))])), (nr, zaI (G.2 1) 61 (fr)), (ne, zaL (G.2 0) 61 (fe)), (nh, zaZ (G.2 2) 61 (fh)), (tb, zaR (G.2 3) 7 (ztb tr)), ((tr 0), zaL (G.2 0) 61 (g0)), ((tr 1), zaL (G.2 0) 61 (g1)), ((tr 2), zaL (G.2 0) 61 (g2)), ((tr 3), zaL (G.2 0) 61 (g3)), ((tr 4), zaL (G.2 0) 61 (g4)), ((tr 5), zaL (G.2 0) 61 (g5)), ((tr 6), zaL (G.2 0) 61 (g6)), (q, .inr (2, [.ref sa, .ref da, .ref wa, .long (lz (xu2)), .long (lz (xd2)), .int (iz (xp2))])), (sa, .inr (9, [.ref sb, .int (iz (sm2)), .long (lz (su2))])), (sb, zaL (G.2 0) 40 (sg2)), (da, .inr (9, [.ref db, .int (iz (dm2)), .long (lz (du2))])), (db, zaL (G.2 0) 40 (dg2)), (wa, .inr (9, [.ref wb, .int (iz (wm2)), .long (lz (wu2))])), (wb, zaL (G.2 0) 40 (wg2))]) (vx_runV (As := [.long (lz (lf * po2)), .long (lz (100000))]) (rest := []) ⟨hx, hb, hml, hown, hts⟩ (c_X4_ratio l G s1 s2 s3 r md (lf * po2) 100000 hl0 (by omega) (by omega) (by omega) H.size) (cwV 2 hts gX3_workOut_X4_ratio rfl rfl rfl (by decide +kernel) ⟨Nat.le_of_ble_eq_true rfl, Nat.le_of_ble_eq_true rfl⟩) (zpVe zXE_ok hE hS hA hKX hP hD [19] rfl rfl (va_recv hK hP (ci := 5) (q0 := 19) rfl rfl)) rfl rfl hl.1 rfl (lv_room (Nat.le_of_ble_eq_true rfl)) dX3_workOut_82 ⟨(by first | exact Nat.le_of_ble_eq_true rfl | (show _ ≤ (124 : Nat); omega)), (by first | exact Nat.le_of_ble_eq_true rfl | (show _ ≤ (744 : Nat); omega))⟩) hP hD hS hA [19] [0, 1, 2, 3, 4, 5, 6, 7, 8, 9, 10, 11, 12, 13, 14, 15, 16, 17, 18] rfl rfl rfl (by decide) (fun E9 ce9 q9 ux_4 H locs hx9_5 hP hD hS hce9 hcv9 hcl9 => ?_) (fun it u_3 H locs hit hP hD hS => ?_)
            ·
              have hP : va_P G.1 vwCl [(y, .inr (4, [.ref nr, .ref ne, .ref nh, .ref tb, .ref q, .long (lz (mo)), .int (iz (pn)), .int (iz (rw2))])), (nr, zaI (G.2 1) 61 (fr)), (ne, zaL (G.2 0) 61 (fe)), (nh, zaZ (G.2 2) 61 (fh)), (tb, zaR (G.2 3) 7 (ztb tr)), ((tr 0), zaL (G.2 0) 61 (g0)), ((tr 1), zaL (G.2 0) 61 (g1)), ((tr 2), zaL (G.2 0) 61 (g2)), ((tr 3), zaL (G.2 0) 61 (g3)), ((tr 4), zaL (G.2 0) 61 (g4)), ((tr 5), zaL (G.2 0) 61 (g5)), ((tr 6), zaL (G.2 0) 61 (g6)), (q, .inr (2, [.ref sa, .ref da, .ref wa, .long (lz (xu2)), .long (lz (xd2)), .int (iz (xp2))])), (sa, .inr (9, [.ref sb, .int (iz (sm2)), .long (lz (su2))])), (sb, zaL (G.2 0) 40 (sg2)), (da, .inr (9, [.ref db, .int (iz (dm2)), .long (lz (du2))])), (db, zaL (G.2 0) 40 (dg2)), (wa, .inr (9, [.ref wb, .int (iz (wm2)), .long (lz (wu2))])), (wb, zaL (G.2 0) 40 (wg2)), (r, .inr (5, [.int (iz (md))]))] H := hP
              have hD : va_D A [(y, .inr (4, [.ref nr, .ref ne, .ref nh, .ref tb, .ref q, .long (lz (mo)), .int (iz (pn)), .int (iz (rw2))])), (nr, zaI (G.2 1) 61 (fr)), (ne, zaL (G.2 0) 61 (fe)), (nh, zaZ (G.2 2) 61 (fh)), (tb, zaR (G.2 3) 7 (ztb tr)), ((tr 0), zaL (G.2 0) 61 (g0)), ((tr 1), zaL (G.2 0) 61 (g1)), ((tr 2), zaL (G.2 0) 61 (g2)), ((tr 3), zaL (G.2 0) 61 (g3)), ((tr 4), zaL (G.2 0) 61 (g4)), ((tr 5), zaL (G.2 0) 61 (g5)), ((tr 6), zaL (G.2 0) 61 (g6)), (q, .inr (2, [.ref sa, .ref da, .ref wa, .long (lz (xu2)), .long (lz (xd2)), .int (iz (xp2))])), (sa, .inr (9, [.ref sb, .int (iz (sm2)), .long (lz (su2))])), (sb, zaL (G.2 0) 40 (sg2)), (da, .inr (9, [.ref db, .int (iz (dm2)), .long (lz (du2))])), (db, zaL (G.2 0) 40 (dg2)), (wa, .inr (9, [.ref wb, .int (iz (wm2)), .long (lz (wu2))])), (wb, zaL (G.2 0) 40 (wg2)), (r, .inr (5, [.int (iz (md))]))] := hD
              rcases hx9_5 with ⟨rfl, hxc⟩
              ·
                have hxc : md = 7 ∧ ((lf * po2).natAbs : Int) % (100000 : Int) ≠ 0 := hxc
                rw [hQ]
                exact zt_out (g0, g1, g2, g3, g4, g5, g6, rw2, sg2, sm2, su2, dg2, dm2, du2, wg2, wm2, wu2, xu2, xd2, xp2) hout hlocks hce9 hcv9 hcl9 hP hD hS ⟨rfl, (show md = 7 ∧ zinex md fr fe fh mo pn from ⟨hxc.1, i, k1.1, by omega, hrc, zxr_no2 ks hz0 hxc.1 hxc.2⟩)⟩ (by first | exact Nat.le_of_ble_eq_true rfl | omega) (by first | exact Nat.le_of_ble_eq_true rfl | omega)
            have hP : va_P G.1 vwCl [(y, .inr (4, [.ref nr, .ref ne, .ref nh, .ref tb, .ref q, .long (lz (mo)), .int (iz (pn)), .int (iz (rw2))])), (nr, zaI (G.2 1) 61 (fr)), (ne, zaL (G.2 0) 61 (fe)), (nh, zaZ (G.2 2) 61 (fh)), (tb, zaR (G.2 3) 7 (ztb tr)), ((tr 0), zaL (G.2 0) 61 (g0)), ((tr 1), zaL (G.2 0) 61 (g1)), ((tr 2), zaL (G.2 0) 61 (g2)), ((tr 3), zaL (G.2 0) 61 (g3)), ((tr 4), zaL (G.2 0) 61 (g4)), ((tr 5), zaL (G.2 0) 61 (g5)), ((tr 6), zaL (G.2 0) 61 (g6)), (q, .inr (2, [.ref sa, .ref da, .ref wa, .long (lz (xu2)), .long (lz (xd2)), .int (iz (xp2))])), (sa, .inr (9, [.ref sb, .int (iz (sm2)), .long (lz (su2))])), (sb, zaL (G.2 0) 40 (sg2)), (da, .inr (9, [.ref db, .int (iz (dm2)), .long (lz (du2))])), (db, zaL (G.2 0) 40 (dg2)), (wa, .inr (9, [.ref wb, .int (iz (wm2)), .long (lz (wu2))])), (wb, zaL (G.2 0) 40 (wg2)), (r, .inr (5, [.int (iz (md))]))] H := hP
            have hD : va_D A [(y, .inr (4, [.ref nr, .ref ne, .ref nh, .ref tb, .ref q, .long (lz (mo)), .int (iz (pn)), .int (iz (rw2))])), (nr, zaI (G.2 1) 61 (fr)), (ne, zaL (G.2 0) 61 (fe)), (nh, zaZ (G.2 2) 61 (fh)), (tb, zaR (G.2 3) 7 (ztb tr)), ((tr 0), zaL (G.2 0) 61 (g0)), ((tr 1), zaL (G.2 0) 61 (g1)), ((tr 2), zaL (G.2 0) 61 (g2)), ((tr 3), zaL (G.2 0) 61 (g3)), ((tr 4), zaL (G.2 0) 61 (g4)), ((tr 5), zaL (G.2 0) 61 (g5)), ((tr 6), zaL (G.2 0) 61 (g6)), (q, .inr (2, [.ref sa, .ref da, .ref wa, .long (lz (xu2)), .long (lz (xd2)), .int (iz (xp2))])), (sa, .inr (9, [.ref sb, .int (iz (sm2)), .long (lz (su2))])), (sb, zaL (G.2 0) 40 (sg2)), (da, .inr (9, [.ref db, .int (iz (dm2)), .long (lz (du2))])), (db, zaL (G.2 0) 40 (dg2)), (wa, .inr (9, [.ref wb, .int (iz (wm2)), .long (lz (wu2))])), (wb, zaL (G.2 0) 40 (wg2)), (r, .inr (5, [.int (iz (md))]))] := hD
            have hit : (((lf * po2).natAbs : Int) % (100000 : Int) = 0 ∨ md ≠ 7) ∧ it = zrd md (lf * po2) (100000 : Int) := hit
            have hit2 : it = zit md lf po2 := hit.2
            have hitc : 0 ≤ it ∧ 5 * it ≤ lf + 4 := by rw [hit2]; exact hitb
            refine lv_lstore (lv' := [(8, .long (lz (it))), (7, .int (iz (i))), (6, .int (iz (po2))), (4, .long (lz (in2))), (2, .long (lz (lf))), (0, .ref y), (1, .ref r)]) hx hb dX3_workOut_85 hl (by decide) rfl (fun ls hl => ?_)
            refine lv_aload_n hx hb dX3_workOut_87 rfl (lv_at hl 5 rfl) ?_
            refine lv_iload hx hb dX3_workOut_88 (lv_at hl 1 rfl) ?_
            refine lv_lload_n hx hb dX3_workOut_90 rfl (lv_at hl 4 rfl) ?_
            refine lv_lload hx hb dX3_workOut_91 (lv_at hl 0 rfl) ?_
            refine zr_ladd hx hb dX3_workOut_93 ?_
            refine lv_lload hx hb dX3_workOut_94 (lv_at hl 3 rfl) ?_
            refine zc_l (wr := [(nr, zaI (G.2 1) 61 (fr)), (tb, zaR (G.2 3) 7 (ztb tr)), ((tr 0), zaL (G.2 0) 61 (g0)), ((tr 1), zaL (G.2 0) 61 (g1)), ((tr 2), zaL (G.2 0) 61 (g2)), ((tr 3), zaL (G.2 0) 61 (g3)), ((tr 4), zaL (G.2 0) 61 (g4)), ((tr 5), zaL (G.2 0) 61 (g5)), ((tr 6), zaL (G.2 0) 61 (g6)), (q, .inr (2, [.ref sa, .ref da, .ref wa, .long (lz (xu2)), .long (lz (xd2)), .int (iz (xp2))])), (sa, .inr (9, [.ref sb, .int (iz (sm2)), .long (lz (su2))])), (sb, zaL (G.2 0) 40 (sg2)), (da, .inr (9, [.ref db, .int (iz (dm2)), .long (lz (du2))])), (db, zaL (G.2 0) 40 (dg2)), (wa, .inr (9, [.ref wb, .int (iz (wm2)), .long (lz (wu2))])), (wb, zaL (G.2 0) 40 (wg2)), (r, .inr (5, [.int (iz (md))]))]) (va_runV (As := [.int (iz (i)), .long (lz (lf + it)), .long (lz (in2))]) (rest := []) ⟨hx, hb, hml, hown, hts⟩ (c_X3_paidIn l G y nr ne nh tb q fe fh mo pn rw2 i (lf + it) in2 (by omega) (hfe.2.2) (⟨hfe.1, hfe.2.1⟩) (by omega) H.size) (cwV 3 hts gX3_workOut_X3_paidIn rfl rfl rfl (by decide +kernel) ⟨Nat.le_of_ble_eq_true rfl, Nat.le_of_ble_eq_true rfl⟩) (zpV hKX hP hD [0, 2, 3] rfl rfl 0 4 rfl rfl) rfl rfl hl.1 rfl (lv_room (Nat.le_of_ble_eq_true rfl)) dX3_workOut_96 ⟨(by first | exact Nat.le_of_ble_eq_true rfl | (show _ ≤ (124 : Nat); omega)), (by first | exact Nat.le_of_ble_eq_true rfl | (show _ ≤ (744 : Nat); omega))⟩) hP hD hS hA [0, 2, 3] [1, 4, 5, 6, 7, 8, 9, 10, 11, 12, 13, 14, 15, 16, 17, 18, 19] rfl rfl rfl (by decide) (fun pd u_6 H locs hpd hP hD hS => ?_)
            have hP : va_P G.1 vwCl [(nr, zaI (G.2 1) 61 (fr)), (tb, zaR (G.2 3) 7 (ztb tr)), ((tr 0), zaL (G.2 0) 61 (g0)), ((tr 1), zaL (G.2 0) 61 (g1)), ((tr 2), zaL (G.2 0) 61 (g2)), ((tr 3), zaL (G.2 0) 61 (g3)), ((tr 4), zaL (G.2 0) 61 (g4)), ((tr 5), zaL (G.2 0) 61 (g5)), ((tr 6), zaL (G.2 0) 61 (g6)), (q, .inr (2, [.ref sa, .ref da, .ref wa, .long (lz (xu2)), .long (lz (xd2)), .int (iz (xp2))])), (sa, .inr (9, [.ref sb, .int (iz (sm2)), .long (lz (su2))])), (sb, zaL (G.2 0) 40 (sg2)), (da, .inr (9, [.ref db, .int (iz (dm2)), .long (lz (du2))])), (db, zaL (G.2 0) 40 (dg2)), (wa, .inr (9, [.ref wb, .int (iz (wm2)), .long (lz (wu2))])), (wb, zaL (G.2 0) 40 (wg2)), (r, .inr (5, [.int (iz (md))])), (y, .inr (4, [.ref nr, .ref ne, .ref nh, .ref tb, .ref q, .long (lz (mo)), .int (iz (pn)), .int (iz (rw2))])), (ne, zaL (G.2 0) 61 (fe)), (nh, zaZ (G.2 2) 61 (fh))] H := hP
            have hD : va_D A [(nr, zaI (G.2 1) 61 (fr)), (tb, zaR (G.2 3) 7 (ztb tr)), ((tr 0), zaL (G.2 0) 61 (g0)), ((tr 1), zaL (G.2 0) 61 (g1)), ((tr 2), zaL (G.2 0) 61 (g2)), ((tr 3), zaL (G.2 0) 61 (g3)), ((tr 4), zaL (G.2 0) 61 (g4)), ((tr 5), zaL (G.2 0) 61 (g5)), ((tr 6), zaL (G.2 0) 61 (g6)), (q, .inr (2, [.ref sa, .ref da, .ref wa, .long (lz (xu2)), .long (lz (xd2)), .int (iz (xp2))])), (sa, .inr (9, [.ref sb, .int (iz (sm2)), .long (lz (su2))])), (sb, zaL (G.2 0) 40 (sg2)), (da, .inr (9, [.ref db, .int (iz (dm2)), .long (lz (du2))])), (db, zaL (G.2 0) 40 (dg2)), (wa, .inr (9, [.ref wb, .int (iz (wm2)), .long (lz (wu2))])), (wb, zaL (G.2 0) 40 (wg2)), (r, .inr (5, [.int (iz (md))])), (y, .inr (4, [.ref nr, .ref ne, .ref nh, .ref tb, .ref q, .long (lz (mo)), .int (iz (pn)), .int (iz (rw2))])), (ne, zaL (G.2 0) 61 (fe)), (nh, zaZ (G.2 2) 61 (fh))] := hD
            have hpd : pd = zpd fe fh pn i (lf + it) in2 := hpd
            have hpdb := zpd_b (fe := fe) (fh := fh) (pn := pn) (p := i) (due := lf + it) (ins := in2) (by omega) hin2.1 hfe.1
            rw [← hpd] at hpdb
            refine lv_lstore (lv' := [(10, .long (lz (pd))), (8, .long (lz (it))), (7, .int (iz (i))), (6, .int (iz (po2))), (4, .long (lz (in2))), (2, .long (lz (lf))), (0, .ref y), (1, .ref r)]) hx hb dX3_workOut_99 hl (by decide) rfl (fun ls hl => ?_)
            refine lv_aload_n hx hb dX3_workOut_101 rfl (lv_at hl 6 rfl) ?_
            refine va_get (D := G.1) (ci := 4) (v := .ref tb) (C := RX3) (T := TX3) (N := 8) hx hb hts iwX3 hown hK hP 17 rfl rfl 3 (by decide) (hts (.fieldLink RX3 25 "AnnuityHouse$Loan" "table" "[[J") (by decide +kernel)) (fun _ h9 => h9) rfl dX3_workOut_102 ?_
            refine lv_iconst (v := iz (0)) hx hb dX3_workOut_105 rfl ?_
            refine zr_aldA (v := (tr 0)) hx hb hK hP 1 rfl (i := 0) (⟨by omega, by omega, by omega⟩) (ztb_at (by decide)) dX3_workOut_106 ?_
            refine lv_iload hx hb dX3_workOut_107 (lv_at hl 2 rfl) ?_
            refine lv_lload_n hx hb dX3_workOut_109 rfl (lv_at hl 5 rfl) ?_
            refine zr_last hx hb hK hP hD hS 2 0 rfl rfl (i := i) (x := lf) (⟨by omega, by omega, by omega⟩) dX3_workOut_110 (fun H locs hP hD hS => ?_)
            have hP : va_P G.1 vwCl [(nr, zaI (G.2 1) 61 (fr)), (tb, zaR (G.2 3) 7 (ztb tr)), ((tr 0), zaL (G.2 0) 61 (zup g0 i lf)), ((tr 1), zaL (G.2 0) 61 (g1)), ((tr 2), zaL (G.2 0) 61 (g2)), ((tr 3), zaL (G.2 0) 61 (g3)), ((tr 4), zaL (G.2 0) 61 (g4)), ((tr 5), zaL (G.2 0) 61 (g5)), ((tr 6), zaL (G.2 0) 61 (g6)), (q, .inr (2, [.ref sa, .ref da, .ref wa, .long (lz (xu2)), .long (lz (xd2)), .int (iz (xp2))])), (sa, .inr (9, [.ref sb, .int (iz (sm2)), .long (lz (su2))])), (sb, zaL (G.2 0) 40 (sg2)), (da, .inr (9, [.ref db, .int (iz (dm2)), .long (lz (du2))])), (db, zaL (G.2 0) 40 (dg2)), (wa, .inr (9, [.ref wb, .int (iz (wm2)), .long (lz (wu2))])), (wb, zaL (G.2 0) 40 (wg2)), (r, .inr (5, [.int (iz (md))])), (y, .inr (4, [.ref nr, .ref ne, .ref nh, .ref tb, .ref q, .long (lz (mo)), .int (iz (pn)), .int (iz (rw2))])), (ne, zaL (G.2 0) 61 (fe)), (nh, zaZ (G.2 2) 61 (fh))] H := hP
            have hD : va_D A [(nr, zaI (G.2 1) 61 (fr)), (tb, zaR (G.2 3) 7 (ztb tr)), ((tr 0), zaL (G.2 0) 61 (zup g0 i lf)), ((tr 1), zaL (G.2 0) 61 (g1)), ((tr 2), zaL (G.2 0) 61 (g2)), ((tr 3), zaL (G.2 0) 61 (g3)), ((tr 4), zaL (G.2 0) 61 (g4)), ((tr 5), zaL (G.2 0) 61 (g5)), ((tr 6), zaL (G.2 0) 61 (g6)), (q, .inr (2, [.ref sa, .ref da, .ref wa, .long (lz (xu2)), .long (lz (xd2)), .int (iz (xp2))])), (sa, .inr (9, [.ref sb, .int (iz (sm2)), .long (lz (su2))])), (sb, zaL (G.2 0) 40 (sg2)), (da, .inr (9, [.ref db, .int (iz (dm2)), .long (lz (du2))])), (db, zaL (G.2 0) 40 (dg2)), (wa, .inr (9, [.ref wb, .int (iz (wm2)), .long (lz (wu2))])), (wb, zaL (G.2 0) 40 (wg2)), (r, .inr (5, [.int (iz (md))])), (y, .inr (4, [.ref nr, .ref ne, .ref nh, .ref tb, .ref q, .long (lz (mo)), .int (iz (pn)), .int (iz (rw2))])), (ne, zaL (G.2 0) 61 (fe)), (nh, zaZ (G.2 2) 61 (fh))] := hD
            refine lv_aload_n hx hb dX3_workOut_111 rfl (lv_at hl 6 rfl) ?_
            refine va_get (D := G.1) (ci := 4) (v := .ref tb) (C := RX3) (T := TX3) (N := 8) hx hb hts iwX3 hown hK hP 17 rfl rfl 3 (by decide) (hts (.fieldLink RX3 25 "AnnuityHouse$Loan" "table" "[[J") (by decide +kernel)) (fun _ h9 => h9) rfl dX3_workOut_112 ?_
            refine lv_iconst (v := iz (1)) hx hb dX3_workOut_115 rfl ?_
            refine zr_aldA (v := (tr 1)) hx hb hK hP 1 rfl (i := 1) (⟨by omega, by omega, by omega⟩) (ztb_at (by decide)) dX3_workOut_116 ?_
            refine lv_iload hx hb dX3_workOut_117 (lv_at hl 2 rfl) ?_
            refine lv_lload hx hb dX3_workOut_119 (lv_at hl 1 rfl) ?_
            refine zr_last hx hb hK hP hD hS 3 0 rfl rfl (i := i) (x := it) (⟨by omega, by omega, by omega⟩) dX3_workOut_121 (fun H locs hP hD hS => ?_)
            have hP : va_P G.1 vwCl [(nr, zaI (G.2 1) 61 (fr)), (tb, zaR (G.2 3) 7 (ztb tr)), ((tr 0), zaL (G.2 0) 61 (zup g0 i lf)), ((tr 1), zaL (G.2 0) 61 (zup g1 i it)), ((tr 2), zaL (G.2 0) 61 (g2)), ((tr 3), zaL (G.2 0) 61 (g3)), ((tr 4), zaL (G.2 0) 61 (g4)), ((tr 5), zaL (G.2 0) 61 (g5)), ((tr 6), zaL (G.2 0) 61 (g6)), (q, .inr (2, [.ref sa, .ref da, .ref wa, .long (lz (xu2)), .long (lz (xd2)), .int (iz (xp2))])), (sa, .inr (9, [.ref sb, .int (iz (sm2)), .long (lz (su2))])), (sb, zaL (G.2 0) 40 (sg2)), (da, .inr (9, [.ref db, .int (iz (dm2)), .long (lz (du2))])), (db, zaL (G.2 0) 40 (dg2)), (wa, .inr (9, [.ref wb, .int (iz (wm2)), .long (lz (wu2))])), (wb, zaL (G.2 0) 40 (wg2)), (r, .inr (5, [.int (iz (md))])), (y, .inr (4, [.ref nr, .ref ne, .ref nh, .ref tb, .ref q, .long (lz (mo)), .int (iz (pn)), .int (iz (rw2))])), (ne, zaL (G.2 0) 61 (fe)), (nh, zaZ (G.2 2) 61 (fh))] H := hP
            have hD : va_D A [(nr, zaI (G.2 1) 61 (fr)), (tb, zaR (G.2 3) 7 (ztb tr)), ((tr 0), zaL (G.2 0) 61 (zup g0 i lf)), ((tr 1), zaL (G.2 0) 61 (zup g1 i it)), ((tr 2), zaL (G.2 0) 61 (g2)), ((tr 3), zaL (G.2 0) 61 (g3)), ((tr 4), zaL (G.2 0) 61 (g4)), ((tr 5), zaL (G.2 0) 61 (g5)), ((tr 6), zaL (G.2 0) 61 (g6)), (q, .inr (2, [.ref sa, .ref da, .ref wa, .long (lz (xu2)), .long (lz (xd2)), .int (iz (xp2))])), (sa, .inr (9, [.ref sb, .int (iz (sm2)), .long (lz (su2))])), (sb, zaL (G.2 0) 40 (sg2)), (da, .inr (9, [.ref db, .int (iz (dm2)), .long (lz (du2))])), (db, zaL (G.2 0) 40 (dg2)), (wa, .inr (9, [.ref wb, .int (iz (wm2)), .long (lz (wu2))])), (wb, zaL (G.2 0) 40 (wg2)), (r, .inr (5, [.int (iz (md))])), (y, .inr (4, [.ref nr, .ref ne, .ref nh, .ref tb, .ref q, .long (lz (mo)), .int (iz (pn)), .int (iz (rw2))])), (ne, zaL (G.2 0) 61 (fe)), (nh, zaZ (G.2 2) 61 (fh))] := hD
            refine lv_aload_n hx hb dX3_workOut_122 rfl (lv_at hl 6 rfl) ?_
            refine va_get (D := G.1) (ci := 4) (v := .ref tb) (C := RX3) (T := TX3) (N := 8) hx hb hts iwX3 hown hK hP 17 rfl rfl 3 (by decide) (hts (.fieldLink RX3 25 "AnnuityHouse$Loan" "table" "[[J") (by decide +kernel)) (fun _ h9 => h9) rfl dX3_workOut_123 ?_
            refine lv_iconst (v := iz (2)) hx hb dX3_workOut_126 rfl ?_
            refine zr_aldA (v := (tr 2)) hx hb hK hP 1 rfl (i := 2) (⟨by omega, by omega, by omega⟩) (ztb_at (by decide)) dX3_workOut_127 ?_
            refine lv_iload hx hb dX3_workOut_128 (lv_at hl 2 rfl) ?_
            refine lv_lload hx hb dX3_workOut_130 (lv_at hl 0 rfl) ?_
            refine zr_last hx hb hK hP hD hS 4 0 rfl rfl (i := i) (x := pd) (⟨by omega, by omega, by omega⟩) dX3_workOut_132 (fun H locs hP hD hS => ?_)
            have hP : va_P G.1 vwCl [(nr, zaI (G.2 1) 61 (fr)), (tb, zaR (G.2 3) 7 (ztb tr)), ((tr 0), zaL (G.2 0) 61 (zup g0 i lf)), ((tr 1), zaL (G.2 0) 61 (zup g1 i it)), ((tr 2), zaL (G.2 0) 61 (zup g2 i pd)), ((tr 3), zaL (G.2 0) 61 (g3)), ((tr 4), zaL (G.2 0) 61 (g4)), ((tr 5), zaL (G.2 0) 61 (g5)), ((tr 6), zaL (G.2 0) 61 (g6)), (q, .inr (2, [.ref sa, .ref da, .ref wa, .long (lz (xu2)), .long (lz (xd2)), .int (iz (xp2))])), (sa, .inr (9, [.ref sb, .int (iz (sm2)), .long (lz (su2))])), (sb, zaL (G.2 0) 40 (sg2)), (da, .inr (9, [.ref db, .int (iz (dm2)), .long (lz (du2))])), (db, zaL (G.2 0) 40 (dg2)), (wa, .inr (9, [.ref wb, .int (iz (wm2)), .long (lz (wu2))])), (wb, zaL (G.2 0) 40 (wg2)), (r, .inr (5, [.int (iz (md))])), (y, .inr (4, [.ref nr, .ref ne, .ref nh, .ref tb, .ref q, .long (lz (mo)), .int (iz (pn)), .int (iz (rw2))])), (ne, zaL (G.2 0) 61 (fe)), (nh, zaZ (G.2 2) 61 (fh))] H := hP
            have hD : va_D A [(nr, zaI (G.2 1) 61 (fr)), (tb, zaR (G.2 3) 7 (ztb tr)), ((tr 0), zaL (G.2 0) 61 (zup g0 i lf)), ((tr 1), zaL (G.2 0) 61 (zup g1 i it)), ((tr 2), zaL (G.2 0) 61 (zup g2 i pd)), ((tr 3), zaL (G.2 0) 61 (g3)), ((tr 4), zaL (G.2 0) 61 (g4)), ((tr 5), zaL (G.2 0) 61 (g5)), ((tr 6), zaL (G.2 0) 61 (g6)), (q, .inr (2, [.ref sa, .ref da, .ref wa, .long (lz (xu2)), .long (lz (xd2)), .int (iz (xp2))])), (sa, .inr (9, [.ref sb, .int (iz (sm2)), .long (lz (su2))])), (sb, zaL (G.2 0) 40 (sg2)), (da, .inr (9, [.ref db, .int (iz (dm2)), .long (lz (du2))])), (db, zaL (G.2 0) 40 (dg2)), (wa, .inr (9, [.ref wb, .int (iz (wm2)), .long (lz (wu2))])), (wb, zaL (G.2 0) 40 (wg2)), (r, .inr (5, [.int (iz (md))])), (y, .inr (4, [.ref nr, .ref ne, .ref nh, .ref tb, .ref q, .long (lz (mo)), .int (iz (pn)), .int (iz (rw2))])), (ne, zaL (G.2 0) 61 (fe)), (nh, zaZ (G.2 2) 61 (fh))] := hD
            refine lv_aload_n hx hb dX3_workOut_133 rfl (lv_at hl 6 rfl) ?_
            refine va_get (D := G.1) (ci := 4) (v := .ref tb) (C := RX3) (T := TX3) (N := 8) hx hb hts iwX3 hown hK hP 17 rfl rfl 3 (by decide) (hts (.fieldLink RX3 25 "AnnuityHouse$Loan" "table" "[[J") (by decide +kernel)) (fun _ h9 => h9) rfl dX3_workOut_134 ?_
            refine lv_iconst (v := iz (3)) hx hb dX3_workOut_137 rfl ?_
            refine zr_aldA (v := (tr 3)) hx hb hK hP 1 rfl (i := 3) (⟨by omega, by omega, by omega⟩) (ztb_at (by decide)) dX3_workOut_138 ?_
            refine lv_iload hx hb dX3_workOut_139 (lv_at hl 2 rfl) ?_
            refine lv_lload hx hb dX3_workOut_141 (lv_at hl 0 rfl) ?_
            refine lv_lload hx hb dX3_workOut_143 (lv_at hl 1 rfl) ?_
            refine zr_lsub hx hb dX3_workOut_145 ?_
            refine zr_last hx hb hK hP hD hS 5 0 rfl rfl (i := i) (x := pd - it) (⟨by omega, by omega, by omega⟩) dX3_workOut_146 (fun H locs hP hD hS => ?_)
            have hP : va_P G.1 vwCl [(nr, zaI (G.2 1) 61 (fr)), (tb, zaR (G.2 3) 7 (ztb tr)), ((tr 0), zaL (G.2 0) 61 (zup g0 i lf)), ((tr 1), zaL (G.2 0) 61 (zup g1 i it)), ((tr 2), zaL (G.2 0) 61 (zup g2 i pd)), ((tr 3), zaL (G.2 0) 61 (zup g3 i (pd - it))), ((tr 4), zaL (G.2 0) 61 (g4)), ((tr 5), zaL (G.2 0) 61 (g5)), ((tr 6), zaL (G.2 0) 61 (g6)), (q, .inr (2, [.ref sa, .ref da, .ref wa, .long (lz (xu2)), .long (lz (xd2)), .int (iz (xp2))])), (sa, .inr (9, [.ref sb, .int (iz (sm2)), .long (lz (su2))])), (sb, zaL (G.2 0) 40 (sg2)), (da, .inr (9, [.ref db, .int (iz (dm2)), .long (lz (du2))])), (db, zaL (G.2 0) 40 (dg2)), (wa, .inr (9, [.ref wb, .int (iz (wm2)), .long (lz (wu2))])), (wb, zaL (G.2 0) 40 (wg2)), (r, .inr (5, [.int (iz (md))])), (y, .inr (4, [.ref nr, .ref ne, .ref nh, .ref tb, .ref q, .long (lz (mo)), .int (iz (pn)), .int (iz (rw2))])), (ne, zaL (G.2 0) 61 (fe)), (nh, zaZ (G.2 2) 61 (fh))] H := hP
            have hD : va_D A [(nr, zaI (G.2 1) 61 (fr)), (tb, zaR (G.2 3) 7 (ztb tr)), ((tr 0), zaL (G.2 0) 61 (zup g0 i lf)), ((tr 1), zaL (G.2 0) 61 (zup g1 i it)), ((tr 2), zaL (G.2 0) 61 (zup g2 i pd)), ((tr 3), zaL (G.2 0) 61 (zup g3 i (pd - it))), ((tr 4), zaL (G.2 0) 61 (g4)), ((tr 5), zaL (G.2 0) 61 (g5)), ((tr 6), zaL (G.2 0) 61 (g6)), (q, .inr (2, [.ref sa, .ref da, .ref wa, .long (lz (xu2)), .long (lz (xd2)), .int (iz (xp2))])), (sa, .inr (9, [.ref sb, .int (iz (sm2)), .long (lz (su2))])), (sb, zaL (G.2 0) 40 (sg2)), (da, .inr (9, [.ref db, .int (iz (dm2)), .long (lz (du2))])), (db, zaL (G.2 0) 40 (dg2)), (wa, .inr (9, [.ref wb, .int (iz (wm2)), .long (lz (wu2))])), (wb, zaL (G.2 0) 40 (wg2)), (r, .inr (5, [.int (iz (md))])), (y, .inr (4, [.ref nr, .ref ne, .ref nh, .ref tb, .ref q, .long (lz (mo)), .int (iz (pn)), .int (iz (rw2))])), (ne, zaL (G.2 0) 61 (fe)), (nh, zaZ (G.2 2) 61 (fh))] := hD
            refine lv_lload_n hx hb dX3_workOut_147 rfl (lv_at hl 5 rfl) ?_
            refine lv_lload hx hb dX3_workOut_148 (lv_at hl 1 rfl) ?_
            refine lv_lload hx hb dX3_workOut_150 (lv_at hl 0 rfl) ?_
            refine zr_lsub hx hb dX3_workOut_152 ?_
            refine zr_ladd hx hb dX3_workOut_153 ?_
            refine zr_namel (fun lf2 elf2 => ?_)
            have hzn := zst_n (i := i) k1.1 ks jp ji hit2 hpd
            rw [← elf2] at hzn
            refine lv_lstore_n (lv' := [(2, .long (lz (lf2))), (10, .long (lz (pd))), (8, .long (lz (it))), (7, .int (iz (i))), (6, .int (iz (po2))), (4, .long (lz (in2))), (0, .ref y), (1, .ref r)]) hx hb dX3_workOut_154 rfl hl (by decide) rfl (fun ls hl => ?_)
            refine lv_aload_n hx hb dX3_workOut_155 rfl (lv_at hl 6 rfl) ?_
            refine va_get (D := G.1) (ci := 4) (v := .ref tb) (C := RX3) (T := TX3) (N := 8) hx hb hts iwX3 hown hK hP 17 rfl rfl 3 (by decide) (hts (.fieldLink RX3 25 "AnnuityHouse$Loan" "table" "[[J") (by decide +kernel)) (fun _ h9 => h9) rfl dX3_workOut_156 ?_
            refine lv_iconst (v := iz (4)) hx hb dX3_workOut_159 rfl ?_
            refine zr_aldA (v := (tr 4)) hx hb hK hP 1 rfl (i := 4) (⟨by omega, by omega, by omega⟩) (ztb_at (by decide)) dX3_workOut_160 ?_
            refine lv_iload hx hb dX3_workOut_161 (lv_at hl 3 rfl) ?_
            refine lv_lload_n hx hb dX3_workOut_163 rfl (lv_at hl 0 rfl) ?_
            refine zr_last hx hb hK hP hD hS 6 0 rfl rfl (i := i) (x := lf2) (⟨by omega, by omega, by omega⟩) dX3_workOut_164 (fun H locs hP hD hS => ?_)
            have hP : va_P G.1 vwCl [(nr, zaI (G.2 1) 61 (fr)), (tb, zaR (G.2 3) 7 (ztb tr)), ((tr 0), zaL (G.2 0) 61 (zup g0 i lf)), ((tr 1), zaL (G.2 0) 61 (zup g1 i it)), ((tr 2), zaL (G.2 0) 61 (zup g2 i pd)), ((tr 3), zaL (G.2 0) 61 (zup g3 i (pd - it))), ((tr 4), zaL (G.2 0) 61 (zup g4 i lf2)), ((tr 5), zaL (G.2 0) 61 (g5)), ((tr 6), zaL (G.2 0) 61 (g6)), (q, .inr (2, [.ref sa, .ref da, .ref wa, .long (lz (xu2)), .long (lz (xd2)), .int (iz (xp2))])), (sa, .inr (9, [.ref sb, .int (iz (sm2)), .long (lz (su2))])), (sb, zaL (G.2 0) 40 (sg2)), (da, .inr (9, [.ref db, .int (iz (dm2)), .long (lz (du2))])), (db, zaL (G.2 0) 40 (dg2)), (wa, .inr (9, [.ref wb, .int (iz (wm2)), .long (lz (wu2))])), (wb, zaL (G.2 0) 40 (wg2)), (r, .inr (5, [.int (iz (md))])), (y, .inr (4, [.ref nr, .ref ne, .ref nh, .ref tb, .ref q, .long (lz (mo)), .int (iz (pn)), .int (iz (rw2))])), (ne, zaL (G.2 0) 61 (fe)), (nh, zaZ (G.2 2) 61 (fh))] H := hP
            have hD : va_D A [(nr, zaI (G.2 1) 61 (fr)), (tb, zaR (G.2 3) 7 (ztb tr)), ((tr 0), zaL (G.2 0) 61 (zup g0 i lf)), ((tr 1), zaL (G.2 0) 61 (zup g1 i it)), ((tr 2), zaL (G.2 0) 61 (zup g2 i pd)), ((tr 3), zaL (G.2 0) 61 (zup g3 i (pd - it))), ((tr 4), zaL (G.2 0) 61 (zup g4 i lf2)), ((tr 5), zaL (G.2 0) 61 (g5)), ((tr 6), zaL (G.2 0) 61 (g6)), (q, .inr (2, [.ref sa, .ref da, .ref wa, .long (lz (xu2)), .long (lz (xd2)), .int (iz (xp2))])), (sa, .inr (9, [.ref sb, .int (iz (sm2)), .long (lz (su2))])), (sb, zaL (G.2 0) 40 (sg2)), (da, .inr (9, [.ref db, .int (iz (dm2)), .long (lz (du2))])), (db, zaL (G.2 0) 40 (dg2)), (wa, .inr (9, [.ref wb, .int (iz (wm2)), .long (lz (wu2))])), (wb, zaL (G.2 0) 40 (wg2)), (r, .inr (5, [.int (iz (md))])), (y, .inr (4, [.ref nr, .ref ne, .ref nh, .ref tb, .ref q, .long (lz (mo)), .int (iz (pn)), .int (iz (rw2))])), (ne, zaL (G.2 0) 61 (fe)), (nh, zaZ (G.2 2) 61 (fh))] := hD
            refine lv_aload_n hx hb dX3_workOut_165 rfl (lv_at hl 6 rfl) ?_
            refine va_get (D := G.1) (ci := 4) (v := .ref tb) (C := RX3) (T := TX3) (N := 8) hx hb hts iwX3 hown hK hP 17 rfl rfl 3 (by decide) (hts (.fieldLink RX3 25 "AnnuityHouse$Loan" "table" "[[J") (by decide +kernel)) (fun _ h9 => h9) rfl dX3_workOut_166 ?_
            refine lv_iconst (v := iz (5)) hx hb dX3_workOut_169 rfl ?_
            refine zr_aldA (v := (tr 5)) hx hb hK hP 1 rfl (i := 5) (⟨by omega, by omega, by omega⟩) (ztb_at (by decide)) dX3_workOut_170 ?_
            refine lv_iload hx hb dX3_workOut_171 (lv_at hl 3 rfl) ?_
            refine lv_iload hx hb dX3_workOut_173 (lv_at hl 4 rfl) ?_
            refine zr_i2l hx hb (x := po2) (⟨by omega, by omega⟩) dX3_workOut_175 ?_
            refine zr_last hx hb hK hP hD hS 7 0 rfl rfl (i := i) (x := po2) (⟨by omega, by omega, by omega⟩) dX3_workOut_176 (fun H locs hP hD hS => ?_)
            have hP : va_P G.1 vwCl [(nr, zaI (G.2 1) 61 (fr)), (tb, zaR (G.2 3) 7 (ztb tr)), ((tr 0), zaL (G.2 0) 61 (zup g0 i lf)), ((tr 1), zaL (G.2 0) 61 (zup g1 i it)), ((tr 2), zaL (G.2 0) 61 (zup g2 i pd)), ((tr 3), zaL (G.2 0) 61 (zup g3 i (pd - it))), ((tr 4), zaL (G.2 0) 61 (zup g4 i lf2)), ((tr 5), zaL (G.2 0) 61 (zup g5 i po2)), ((tr 6), zaL (G.2 0) 61 (g6)), (q, .inr (2, [.ref sa, .ref da, .ref wa, .long (lz (xu2)), .long (lz (xd2)), .int (iz (xp2))])), (sa, .inr (9, [.ref sb, .int (iz (sm2)), .long (lz (su2))])), (sb, zaL (G.2 0) 40 (sg2)), (da, .inr (9, [.ref db, .int (iz (dm2)), .long (lz (du2))])), (db, zaL (G.2 0) 40 (dg2)), (wa, .inr (9, [.ref wb, .int (iz (wm2)), .long (lz (wu2))])), (wb, zaL (G.2 0) 40 (wg2)), (r, .inr (5, [.int (iz (md))])), (y, .inr (4, [.ref nr, .ref ne, .ref nh, .ref tb, .ref q, .long (lz (mo)), .int (iz (pn)), .int (iz (rw2))])), (ne, zaL (G.2 0) 61 (fe)), (nh, zaZ (G.2 2) 61 (fh))] H := hP
            have hD : va_D A [(nr, zaI (G.2 1) 61 (fr)), (tb, zaR (G.2 3) 7 (ztb tr)), ((tr 0), zaL (G.2 0) 61 (zup g0 i lf)), ((tr 1), zaL (G.2 0) 61 (zup g1 i it)), ((tr 2), zaL (G.2 0) 61 (zup g2 i pd)), ((tr 3), zaL (G.2 0) 61 (zup g3 i (pd - it))), ((tr 4), zaL (G.2 0) 61 (zup g4 i lf2)), ((tr 5), zaL (G.2 0) 61 (zup g5 i po2)), ((tr 6), zaL (G.2 0) 61 (g6)), (q, .inr (2, [.ref sa, .ref da, .ref wa, .long (lz (xu2)), .long (lz (xd2)), .int (iz (xp2))])), (sa, .inr (9, [.ref sb, .int (iz (sm2)), .long (lz (su2))])), (sb, zaL (G.2 0) 40 (sg2)), (da, .inr (9, [.ref db, .int (iz (dm2)), .long (lz (du2))])), (db, zaL (G.2 0) 40 (dg2)), (wa, .inr (9, [.ref wb, .int (iz (wm2)), .long (lz (wu2))])), (wb, zaL (G.2 0) 40 (wg2)), (r, .inr (5, [.int (iz (md))])), (y, .inr (4, [.ref nr, .ref ne, .ref nh, .ref tb, .ref q, .long (lz (mo)), .int (iz (pn)), .int (iz (rw2))])), (ne, zaL (G.2 0) 61 (fe)), (nh, zaZ (G.2 2) 61 (fh))] := hD
            refine lv_aload_n hx hb dX3_workOut_177 rfl (lv_at hl 6 rfl) ?_
            refine va_get (D := G.1) (ci := 4) (v := .ref tb) (C := RX3) (T := TX3) (N := 8) hx hb hts iwX3 hown hK hP 17 rfl rfl 3 (by decide) (hts (.fieldLink RX3 25 "AnnuityHouse$Loan" "table" "[[J") (by decide +kernel)) (fun _ h9 => h9) rfl dX3_workOut_178 ?_
            refine lv_bipush (v := iz (6)) hx hb dX3_workOut_181 rfl ?_
            refine zr_aldA (v := (tr 6)) hx hb hK hP 1 rfl (i := 6) (⟨by omega, by omega, by omega⟩) (ztb_at (by decide)) dX3_workOut_183 ?_
            refine lv_iload hx hb dX3_workOut_184 (lv_at hl 3 rfl) ?_
            refine lv_lload hx hb dX3_workOut_186 (lv_at hl 5 rfl) ?_
            refine zr_last hx hb hK hP hD hS 8 0 rfl rfl (i := i) (x := in2) (⟨by omega, by omega, by omega⟩) dX3_workOut_188 (fun H locs hP hD hS => ?_)
            have hP : va_P G.1 vwCl [(nr, zaI (G.2 1) 61 (fr)), (tb, zaR (G.2 3) 7 (ztb tr)), ((tr 0), zaL (G.2 0) 61 (zup g0 i lf)), ((tr 1), zaL (G.2 0) 61 (zup g1 i it)), ((tr 2), zaL (G.2 0) 61 (zup g2 i pd)), ((tr 3), zaL (G.2 0) 61 (zup g3 i (pd - it))), ((tr 4), zaL (G.2 0) 61 (zup g4 i lf2)), ((tr 5), zaL (G.2 0) 61 (zup g5 i po2)), ((tr 6), zaL (G.2 0) 61 (zup g6 i in2)), (q, .inr (2, [.ref sa, .ref da, .ref wa, .long (lz (xu2)), .long (lz (xd2)), .int (iz (xp2))])), (sa, .inr (9, [.ref sb, .int (iz (sm2)), .long (lz (su2))])), (sb, zaL (G.2 0) 40 (sg2)), (da, .inr (9, [.ref db, .int (iz (dm2)), .long (lz (du2))])), (db, zaL (G.2 0) 40 (dg2)), (wa, .inr (9, [.ref wb, .int (iz (wm2)), .long (lz (wu2))])), (wb, zaL (G.2 0) 40 (wg2)), (r, .inr (5, [.int (iz (md))])), (y, .inr (4, [.ref nr, .ref ne, .ref nh, .ref tb, .ref q, .long (lz (mo)), .int (iz (pn)), .int (iz (rw2))])), (ne, zaL (G.2 0) 61 (fe)), (nh, zaZ (G.2 2) 61 (fh))] H := hP
            have hD : va_D A [(nr, zaI (G.2 1) 61 (fr)), (tb, zaR (G.2 3) 7 (ztb tr)), ((tr 0), zaL (G.2 0) 61 (zup g0 i lf)), ((tr 1), zaL (G.2 0) 61 (zup g1 i it)), ((tr 2), zaL (G.2 0) 61 (zup g2 i pd)), ((tr 3), zaL (G.2 0) 61 (zup g3 i (pd - it))), ((tr 4), zaL (G.2 0) 61 (zup g4 i lf2)), ((tr 5), zaL (G.2 0) 61 (zup g5 i po2)), ((tr 6), zaL (G.2 0) 61 (zup g6 i in2)), (q, .inr (2, [.ref sa, .ref da, .ref wa, .long (lz (xu2)), .long (lz (xd2)), .int (iz (xp2))])), (sa, .inr (9, [.ref sb, .int (iz (sm2)), .long (lz (su2))])), (sb, zaL (G.2 0) 40 (sg2)), (da, .inr (9, [.ref db, .int (iz (dm2)), .long (lz (du2))])), (db, zaL (G.2 0) 40 (dg2)), (wa, .inr (9, [.ref wb, .int (iz (wm2)), .long (lz (wu2))])), (wb, zaL (G.2 0) 40 (wg2)), (r, .inr (5, [.int (iz (md))])), (y, .inr (4, [.ref nr, .ref ne, .ref nh, .ref tb, .ref q, .long (lz (mo)), .int (iz (pn)), .int (iz (rw2))])), (ne, zaL (G.2 0) 61 (fe)), (nh, zaZ (G.2 2) 61 (fh))] := hD
            refine lv_aload_n hx hb dX3_workOut_189 rfl (lv_at hl 6 rfl) ?_
            refine lv_iload hx hb dX3_workOut_190 (lv_at hl 3 rfl) ?_
            refine va_put (D := G.1) (ci := 4) (v := .int (iz (i))) (ty := .int) (C := RX3) (T := TX3) (N := 8) hx hb hts iwX3 tyX3 tyX3_ok nmX3 hown hK hP hD hS 17 rfl rfl 7 (by decide) (hts (.fieldLink RX3 43 "AnnuityHouse$Loan" "tableRows" "I") (by decide +kernel)) (fun _ h9 => h9) rfl (by decide +kernel) rfl rfl (Nat.le_of_ble_eq_true rfl) dX3_workOut_192 (fun H locs hP hD hS => ?_)
            have hP : va_P G.1 vwCl [(nr, zaI (G.2 1) 61 (fr)), (tb, zaR (G.2 3) 7 (ztb tr)), ((tr 0), zaL (G.2 0) 61 (zup g0 i lf)), ((tr 1), zaL (G.2 0) 61 (zup g1 i it)), ((tr 2), zaL (G.2 0) 61 (zup g2 i pd)), ((tr 3), zaL (G.2 0) 61 (zup g3 i (pd - it))), ((tr 4), zaL (G.2 0) 61 (zup g4 i lf2)), ((tr 5), zaL (G.2 0) 61 (zup g5 i po2)), ((tr 6), zaL (G.2 0) 61 (zup g6 i in2)), (q, .inr (2, [.ref sa, .ref da, .ref wa, .long (lz (xu2)), .long (lz (xd2)), .int (iz (xp2))])), (sa, .inr (9, [.ref sb, .int (iz (sm2)), .long (lz (su2))])), (sb, zaL (G.2 0) 40 (sg2)), (da, .inr (9, [.ref db, .int (iz (dm2)), .long (lz (du2))])), (db, zaL (G.2 0) 40 (dg2)), (wa, .inr (9, [.ref wb, .int (iz (wm2)), .long (lz (wu2))])), (wb, zaL (G.2 0) 40 (wg2)), (r, .inr (5, [.int (iz (md))])), (y, .inr (4, [.ref nr, .ref ne, .ref nh, .ref tb, .ref q, .long (lz (mo)), .int (iz (pn)), .int (iz (i))])), (ne, zaL (G.2 0) 61 (fe)), (nh, zaZ (G.2 2) 61 (fh))] H := hP
            have hD : va_D A [(nr, zaI (G.2 1) 61 (fr)), (tb, zaR (G.2 3) 7 (ztb tr)), ((tr 0), zaL (G.2 0) 61 (zup g0 i lf)), ((tr 1), zaL (G.2 0) 61 (zup g1 i it)), ((tr 2), zaL (G.2 0) 61 (zup g2 i pd)), ((tr 3), zaL (G.2 0) 61 (zup g3 i (pd - it))), ((tr 4), zaL (G.2 0) 61 (zup g4 i lf2)), ((tr 5), zaL (G.2 0) 61 (zup g5 i po2)), ((tr 6), zaL (G.2 0) 61 (zup g6 i in2)), (q, .inr (2, [.ref sa, .ref da, .ref wa, .long (lz (xu2)), .long (lz (xd2)), .int (iz (xp2))])), (sa, .inr (9, [.ref sb, .int (iz (sm2)), .long (lz (su2))])), (sb, zaL (G.2 0) 40 (sg2)), (da, .inr (9, [.ref db, .int (iz (dm2)), .long (lz (du2))])), (db, zaL (G.2 0) 40 (dg2)), (wa, .inr (9, [.ref wb, .int (iz (wm2)), .long (lz (wu2))])), (wb, zaL (G.2 0) 40 (wg2)), (r, .inr (5, [.int (iz (md))])), (y, .inr (4, [.ref nr, .ref ne, .ref nh, .ref tb, .ref q, .long (lz (mo)), .int (iz (pn)), .int (iz (i))])), (ne, zaL (G.2 0) 61 (fe)), (nh, zaZ (G.2 2) 61 (fh))] := hD
            refine lv_iinc (v := iz (i + 1)) (lv' := [(7, .int (iz (i + 1))), (2, .long (lz (lf2))), (10, .long (lz (pd))), (8, .long (lz (it))), (6, .int (iz (po2))), (4, .long (lz (in2))), (0, .ref y), (1, .ref r)]) hx hb dX3_workOut_195 hl (k := 3) rfl (by rw [show Int32.ofInt (1) = iz (1) from rfl, iz_add]) (by decide) rfl (fun ls hl => ?_)
            refine lv_goto (tgt := 19) hx hb dX3_workOut_198 (by decide) ?_
            refine W.widen (k := 2 * ((i + 1)).toNat) (n := 12 * ((i + 1)).toNat) (by omega) (by omega) ?_
            exact ih_19 (i + 1) lf2 po2 in2 i (zup g0 i lf) (zup g1 i it) (zup g2 i pd) (zup g3 i (pd - it)) (zup g4 i lf2) (zup g5 i po2) (zup g6 i in2) xu2 xd2 xp2 sg2 sm2 su2 dg2 dm2 du2 wg2 wm2 wu2 _ _ _ (by omega) (by omega) (by rw [show (i + 1 - 1).toNat = i.toNat by omega]; exact hzn) (fun k a b => hrc k a (by omega)) (zcl_up k1.1 kc ks hzn hit2 elf2) (fun k a b => (show k < i ∨ k = i by omega).elim (fun q => kx k a q) (fun q => by rw [q]; exact zxr_yes ks hzn jx hit.1)) (hP.sub [17, 0, 18, 19, 1, 2, 3, 4, 5, 6, 7, 8, 9, 10, 11, 12, 13, 14, 15, 16] rfl) (hD.sub [17, 0, 18, 19, 1, 2, 3, 4, 5, 6, 7, 8, 9, 10, 11, 12, 13, 14, 15, 16] (by decide) rfl) hS (lv_sub hl [0, 4, 5, 1, 6, 7] rfl)
          refine lv_aload_n hx hb dX3_workOut_34 rfl (lv_at hl 4 rfl) ?_
          refine va_get (D := G.1) (ci := 4) (v := .ref nr) (C := RX3) (T := TX3) (N := 8) hx hb hts iwX3 hown hK hP 0 rfl rfl 0 (by decide) (hts (.fieldLink RX3 9 "AnnuityHouse$Loan" "rates" "[I") (by decide +kernel)) (fun _ h9 => h9) rfl dX3_workOut_35 ?_
          refine lv_iload hx hb dX3_workOut_38 (lv_at hl 0 rfl) ?_
          refine zr_iald hx hb hK hP 1 1 rfl rfl (i := i) (⟨by omega, by omega, by omega⟩) dX3_workOut_40 ?_
          refine lv_iconst (v := iz (-1)) hx hb dX3_workOut_41 rfl ?_
          refine zr_icmp_eq (x := fr i) (y := -1) (tgt := 73) hx hb (⟨by omega, by omega⟩) (⟨by omega, by omega⟩) dX3_workOut_42 (by decide) (fun h_8 => ?_) (fun h_8 => ?_)
          ·
            have hfr1 : fr i = -1 := h_8
            refine W.widen (k := 2 * (i).toNat + 1) (n := 12 * (i).toNat + 6) (by omega) (by omega) ?_
            exact hl_73 po0 in0 xu xd xp sg sm su dg dm du wg wm wu _ _ _ (by unfold zpo; first | exact (if_pos hfr1).symm | exact (if_neg hfr0).symm) (by unfold zis; first | exact (if_pos hfr1).symm | exact hzi.2.trans (if_neg hfr0).symm) (by first | exact Or.inr (Or.inl hfr1) | exact hzi.1.elim (fun q => Or.inr (Or.inr q)) Or.inl) (hP) (hD) hS (hl)
          ·
            have hfr0 : ¬ fr i = -1 := h_8
            refine lv_aload_n hx hb dX3_workOut_45 rfl (lv_at hl 4 rfl) ?_
            refine va_get (D := G.1) (ci := 4) (v := .ref nr) (C := RX3) (T := TX3) (N := 8) hx hb hts iwX3 hown hK hP 0 rfl rfl 0 (by decide) (hts (.fieldLink RX3 9 "AnnuityHouse$Loan" "rates" "[I") (by decide +kernel)) (fun _ h9 => h9) rfl dX3_workOut_46 ?_
            refine lv_iload hx hb dX3_workOut_49 (lv_at hl 0 rfl) ?_
            refine zr_iald hx hb hK hP 1 1 rfl rfl (i := i) (⟨by omega, by omega, by omega⟩) dX3_workOut_51 ?_
            refine lv_istore (lv' := [(6, .int (iz (fr i))), (7, .int (iz (i))), (4, .long (lz (in0))), (2, .long (lz (lf))), (0, .ref y), (1, .ref r)]) hx hb dX3_workOut_52 hl (by decide) rfl (fun ls hl => ?_)
            refine lv_aload_n hx hb dX3_workOut_54 rfl (lv_at hl 4 rfl) ?_
            refine lv_lload_n hx hb dX3_workOut_55 rfl (lv_at hl 3 rfl) ?_
            refine lv_iload hx hb dX3_workOut_56 (lv_at hl 0 rfl) ?_
            refine lv_aload_n hx hb dX3_workOut_58 rfl (lv_at hl 4 rfl) ?_
            refine va_get (D := G.1) (ci := 4) (v := .int (iz (pn))) (C := RX3) (T := TX3) (N := 8) hx hb hts iwX3 hown hK hP 0 rfl rfl 6 (by decide) (hts (.fieldLink RX3 39 "AnnuityHouse$Loan" "periods" "I") (by decide +kernel)) (fun _ h9 => h9) rfl dX3_workOut_59 ?_
            refine lv_iload hx hb dX3_workOut_62 (lv_at hl 1 rfl) ?_
            refine zr_isub hx hb dX3_workOut_64 ?_
            refine lv_iconst (v := iz (1)) hx hb dX3_workOut_65 rfl ?_
            refine zr_iadd hx hb dX3_workOut_66 ?_
            refine lv_aload_n hx hb dX3_workOut_67 rfl (lv_at hl 5 rfl) ?_
            refine zct_l (wr := [(nr, zaI (G.2 1) 61 (fr)), (ne, zaL (G.2 0) 61 (fe)), (nh, zaZ (G.2 2) 61 (fh)), (tb, zaR (G.2 3) 7 (ztb tr)), ((tr 0), zaL (G.2 0) 61 (g0)), ((tr 1), zaL (G.2 0) 61 (g1)), ((tr 2), zaL (G.2 0) 61 (g2)), ((tr 3), zaL (G.2 0) 61 (g3)), ((tr 4), zaL (G.2 0) 61 (g4)), ((tr 5), zaL (G.2 0) 61 (g5)), ((tr 6), zaL (G.2 0) 61 (g6))]) (vx_runV (As := [.long (lz (lf)), .int (iz (fr i)), .int (iz ((pn - i) + 1)), .ref r]) (rest := []) ⟨hx, hb, hml, hown, hts⟩ (c_X3_instalmentFor l G s1 s2 s3 y q r md (.ref nr) (.ref ne) (.ref nh) (.ref tb) mo pn rw2 sa sb sg sm su da db dg dm du wa wb wg wm wu xu xd xp lf (fr i) ((pn - i) + 1) hl0 (by omega) (⟨hb1, by omega, by omega, by omega, by omega, by omega⟩) (zlf_35 (n := (i - 1).toNat) (by omega) hb1 (by omega) hb2) H.size) (cwV 4 hts gX3_workOut_X3_instalmentFor rfl rfl rfl (by decide +kernel) ⟨Nat.le_of_ble_eq_true rfl, Nat.le_of_ble_eq_true rfl⟩) (zpVe zXE_ok hE hS hA hKX hP hD [0, 12, 13, 14, 15, 16, 17, 18, 19] rfl rfl (va_recv hK hP (ci := 4) (q0 := 0) rfl rfl)) rfl rfl hl.1 rfl (lv_room (Nat.le_of_ble_eq_true rfl)) dX3_workOut_68 ⟨(by first | exact Nat.le_of_ble_eq_true rfl | (show _ ≤ (124 : Nat); omega)), (by first | exact Nat.le_of_ble_eq_true rfl | (show _ ≤ (744 : Nat); omega))⟩) hP hD hS hA [0, 12, 13, 14, 15, 16, 17, 18, 19] [1, 2, 3, 4, 5, 6, 7, 8, 9, 10, 11] rfl rfl rfl (by decide) (fun E9 ce9 q9 ux_30 H locs hx9_31 hP hD hS hce9 hcv9 hcl9 => ?_) (fun zi u_29 H locs hzi hP hD hS => ?_)
            ·
              obtain ⟨sf2_19, sn2_20, st2_21, df2_22, dn2_23, dt2_24, wf2_25, wn2_26, wt2_27, pe_28⟩ := ux_30
              have hP : va_P G.1 vwCl [(nr, zaI (G.2 1) 61 (fr)), (ne, zaL (G.2 0) 61 (fe)), (nh, zaZ (G.2 2) 61 (fh)), (tb, zaR (G.2 3) 7 (ztb tr)), ((tr 0), zaL (G.2 0) 61 (g0)), ((tr 1), zaL (G.2 0) 61 (g1)), ((tr 2), zaL (G.2 0) 61 (g2)), ((tr 3), zaL (G.2 0) 61 (g3)), ((tr 4), zaL (G.2 0) 61 (g4)), ((tr 5), zaL (G.2 0) 61 (g5)), ((tr 6), zaL (G.2 0) 61 (g6)), (y, .inr (4, [.ref nr, .ref ne, .ref nh, .ref tb, .ref q, .long (lz (mo)), .int (iz (pn)), .int (iz (rw2))])), (q, .inr (2, [.ref sa, .ref da, .ref wa, .long (lz (zqu (fr i))), .long (lz (zqd (fr i))), .int (iz (pe_28))])), (sa, .inr (9, [.ref sb, .int (iz (sn2_20)), .long (lz (st2_21))])), (sb, zaL (G.2 0) 40 (sf2_19)), (da, .inr (9, [.ref db, .int (iz (dn2_23)), .long (lz (dt2_24))])), (db, zaL (G.2 0) 40 (df2_22)), (wa, .inr (9, [.ref wb, .int (iz (wn2_26)), .long (lz (wt2_27))])), (wb, zaL (G.2 0) 40 (wf2_25)), (r, .inr (5, [.int (iz (md))]))] H := hP
              have hD : va_D A [(nr, zaI (G.2 1) 61 (fr)), (ne, zaL (G.2 0) 61 (fe)), (nh, zaZ (G.2 2) 61 (fh)), (tb, zaR (G.2 3) 7 (ztb tr)), ((tr 0), zaL (G.2 0) 61 (g0)), ((tr 1), zaL (G.2 0) 61 (g1)), ((tr 2), zaL (G.2 0) 61 (g2)), ((tr 3), zaL (G.2 0) 61 (g3)), ((tr 4), zaL (G.2 0) 61 (g4)), ((tr 5), zaL (G.2 0) 61 (g5)), ((tr 6), zaL (G.2 0) 61 (g6)), (y, .inr (4, [.ref nr, .ref ne, .ref nh, .ref tb, .ref q, .long (lz (mo)), .int (iz (pn)), .int (iz (rw2))])), (q, .inr (2, [.ref sa, .ref da, .ref wa, .long (lz (zqu (fr i))), .long (lz (zqd (fr i))), .int (iz (pe_28))])), (sa, .inr (9, [.ref sb, .int (iz (sn2_20)), .long (lz (st2_21))])), (sb, zaL (G.2 0) 40 (sf2_19)), (da, .inr (9, [.ref db, .int (iz (dn2_23)), .long (lz (dt2_24))])), (db, zaL (G.2 0) 40 (df2_22)), (wa, .inr (9, [.ref wb, .int (iz (wn2_26)), .long (lz (wt2_27))])), (wb, zaL (G.2 0) 40 (wf2_25)), (r, .inr (5, [.int (iz (md))]))] := hD
              rcases hx9_31 with ⟨rfl, hxc⟩
              ·
                have hxc : md = 7 ∧ ¬ zinx lf (fr i) ((pn - i) + 1) := hxc
                rw [hQ]
                exact zt_out (g0, g1, g2, g3, g4, g5, g6, rw2, sf2_19, sn2_20, st2_21, df2_22, dn2_23, dt2_24, wf2_25, wn2_26, wt2_27, zqu (fr i), zqd (fr i), pe_28) hout hlocks hce9 hcv9 hcl9 (hP.sub [11, 0, 1, 2, 3, 4, 5, 6, 7, 8, 9, 10, 12, 13, 14, 15, 16, 17, 18, 19] rfl) (hD.sub [11, 0, 1, 2, 3, 4, 5, 6, 7, 8, 9, 10, 12, 13, 14, 15, 16, 17, 18, 19] (by decide) rfl) hS ⟨rfl, (show md = 7 ∧ zinex md fr fe fh mo pn from ⟨hxc.1, i, k1.1, by omega, hrc, zxr_no1 ks hxc.1 hfr0 hxc.2⟩)⟩ (by first | exact Nat.le_of_ble_eq_true rfl | omega) (by first | exact Nat.le_of_ble_eq_true rfl | omega)
            obtain ⟨sf2_9, sn2_10, st2_11, df2_12, dn2_13, dt2_14, wf2_15, wn2_16, wt2_17, pe_18⟩ := u_29
            have hP : va_P G.1 vwCl [(nr, zaI (G.2 1) 61 (fr)), (ne, zaL (G.2 0) 61 (fe)), (nh, zaZ (G.2 2) 61 (fh)), (tb, zaR (G.2 3) 7 (ztb tr)), ((tr 0), zaL (G.2 0) 61 (g0)), ((tr 1), zaL (G.2 0) 61 (g1)), ((tr 2), zaL (G.2 0) 61 (g2)), ((tr 3), zaL (G.2 0) 61 (g3)), ((tr 4), zaL (G.2 0) 61 (g4)), ((tr 5), zaL (G.2 0) 61 (g5)), ((tr 6), zaL (G.2 0) 61 (g6)), (y, .inr (4, [.ref nr, .ref ne, .ref nh, .ref tb, .ref q, .long (lz (mo)), .int (iz (pn)), .int (iz (rw2))])), (q, .inr (2, [.ref sa, .ref da, .ref wa, .long (lz (zqu (fr i))), .long (lz (zqd (fr i))), .int (iz (pe_18))])), (sa, .inr (9, [.ref sb, .int (iz (sn2_10)), .long (lz (st2_11))])), (sb, zaL (G.2 0) 40 (sf2_9)), (da, .inr (9, [.ref db, .int (iz (dn2_13)), .long (lz (dt2_14))])), (db, zaL (G.2 0) 40 (df2_12)), (wa, .inr (9, [.ref wb, .int (iz (wn2_16)), .long (lz (wt2_17))])), (wb, zaL (G.2 0) 40 (wf2_15)), (r, .inr (5, [.int (iz (md))]))] H := hP
            have hD : va_D A [(nr, zaI (G.2 1) 61 (fr)), (ne, zaL (G.2 0) 61 (fe)), (nh, zaZ (G.2 2) 61 (fh)), (tb, zaR (G.2 3) 7 (ztb tr)), ((tr 0), zaL (G.2 0) 61 (g0)), ((tr 1), zaL (G.2 0) 61 (g1)), ((tr 2), zaL (G.2 0) 61 (g2)), ((tr 3), zaL (G.2 0) 61 (g3)), ((tr 4), zaL (G.2 0) 61 (g4)), ((tr 5), zaL (G.2 0) 61 (g5)), ((tr 6), zaL (G.2 0) 61 (g6)), (y, .inr (4, [.ref nr, .ref ne, .ref nh, .ref tb, .ref q, .long (lz (mo)), .int (iz (pn)), .int (iz (rw2))])), (q, .inr (2, [.ref sa, .ref da, .ref wa, .long (lz (zqu (fr i))), .long (lz (zqd (fr i))), .int (iz (pe_18))])), (sa, .inr (9, [.ref sb, .int (iz (sn2_10)), .long (lz (st2_11))])), (sb, zaL (G.2 0) 40 (sf2_9)), (da, .inr (9, [.ref db, .int (iz (dn2_13)), .long (lz (dt2_14))])), (db, zaL (G.2 0) 40 (df2_12)), (wa, .inr (9, [.ref wb, .int (iz (wn2_16)), .long (lz (wt2_17))])), (wb, zaL (G.2 0) 40 (wf2_15)), (r, .inr (5, [.int (iz (md))]))] := hD
            have hzi : (zinx lf (fr i) ((pn - i) + 1) ∨ md ≠ 7) ∧ zi = zins md lf (fr i) ((pn - i) + 1) := hzi
            refine lv_lstore (lv' := [(4, .long (lz (zi))), (6, .int (iz (fr i))), (7, .int (iz (i))), (2, .long (lz (lf))), (0, .ref y), (1, .ref r)]) hx hb dX3_workOut_71 hl (by decide) rfl (fun ls hl => ?_)
            exact hl_73 (fr i) zi (zqu (fr i)) (zqd (fr i)) pe_18 sf2_9 sn2_10 st2_11 df2_12 dn2_13 dt2_14 wf2_15 wn2_16 wt2_17 _ _ _ (by unfold zpo; first | exact (if_pos hfr1).symm | exact (if_neg hfr0).symm) (by unfold zis; first | exact (if_pos hfr1).symm | exact hzi.2.trans (if_neg hfr0).symm) (by first | exact Or.inr (Or.inl hfr1) | exact hzi.1.elim (fun q => Or.inr (Or.inr q)) Or.inl) (hP.sub [11, 0, 1, 2, 3, 4, 5, 6, 7, 8, 9, 10, 12, 13, 14, 15, 16, 17, 18, 19] rfl) (hD.sub [11, 0, 1, 2, 3, 4, 5, 6, 7, 8, 9, 10, 12, 13, 14, 15, 16, 17, 18, 19] (by decide) rfl) hS (lv_sub hl [2, 1, 0, 3, 4, 5] rfl)
  refine W.widen (k := 2 * ((1 : Int)).toNat) (n := 12 * ((1 : Int)).toNat) (by omega) (by omega) ?_
  exact hl_19 ((pn + 1 - 1 : Int).toNat + 1) 1 mo 0 0 0 t0 t1 t2 t3 t4 t5 t6 u0 d0 p0 sf sn st df dn dt wf wn wt _ _ _ (Nat.lt_succ_self _) (by omega) (rfl) (fun k a b => absurd b (by omega)) (fun k a b => absurd b (by omega)) (fun k a b => absurd b (by omega)) (hP) (hD) hS (hl)

def rm_c_X3_cell : Room := { frames := 0, cells := 0, slots := 0, locals := 0 }
theorem iw_X3_cell_X3 : ∀ w ∈ wsX30, w ∈ wsX3_cell := by decide +kernel
set_option maxHeartbeats 1000000 in
set_option maxRecDepth 100000 in
theorem c_X3_cell (l : Launch) (G : zG) (y : Nat) (nr : Nat) (ne : Nat) (nh : Nat) (tb : Nat) (q : Nat) (tr : Nat → Nat) (t0 : Int → Int) (t1 : Int → Int) (t2 : Int → Int) (t3 : Int → Int) (t4 : Int → Int) (t5 : Int → Int) (t6 : Int → Int) (mo : Int) (pn : Int) (rws : Int) (pe : Int) (wh : Int) (h1 : 0 ≤ pe ∧ pe ≤ 60) (h2 : 0 ≤ wh ∧ wh ≤ 6) : zM l G yX3_cell wsX3_cell rm_c_X3_cell [.ref y, .int (iz (pe)), .int (iz (wh))] [(y, .inr (4, [.ref nr, .ref ne, .ref nh, .ref tb, .ref q, .long (lz (mo)), .int (iz (pn)), .int (iz (rws))])), (tb, zaR (G.2 3) 7 (ztb tr)), ((tr 0), zaL (G.2 0) 61 (t0)), ((tr 1), zaL (G.2 0) 61 (t1)), ((tr 2), zaL (G.2 0) 61 (t2)), ((tr 3), zaL (G.2 0) 61 (t3)), ((tr 4), zaL (G.2 0) 61 (t4)), ((tr 5), zaL (G.2 0) 61 (t5)), ((tr 6), zaL (G.2 0) 61 (t6))] (fun A => zQl G (fun (z : Int) (_ : Unit) => z = zcol t0 t1 t2 t3 t4 t5 t6 wh pe) (fun (_ : Unit) => [(y, .inr (4, [.ref nr, .ref ne, .ref nh, .ref tb, .ref q, .long (lz (mo)), .int (iz (pn)), .int (iz (rws))])), (tb, zaR (G.2 3) 7 (ztb tr)), ((tr 0), zaL (G.2 0) 61 (t0)), ((tr 1), zaL (G.2 0) 61 (t1)), ((tr 2), zaL (G.2 0) 61 (t2)), ((tr 3), zaL (G.2 0) 61 (t3)), ((tr 4), zaL (G.2 0) 61 (t4)), ((tr 5), zaL (G.2 0) 61 (t5)), ((tr 6), zaL (G.2 0) 61 (t6))]) A) 0 0 := by
  refine zM_of (cc := cX3_cell) (maxL := 3) (ret := (some .long)) (by decide) rfl (Nat.le_of_ble_eq_true rfl) ?_
  intro p e s m below meth c ls A Q hQ hx hb hr hts hown hlocks hml hnm hKX hP hD hA hS hl
  have hK := hKX.1
  have iwX3 := iw_X3_cell_X3
  obtain ⟨H, hH⟩ : ∃ h, h = s.heap := ⟨_, rfl⟩
  obtain ⟨locs, hlo⟩ : ∃ h : List Loc, h = [] := ⟨_, rfl⟩
  have hS : va_S A s.heap H locs := by rw [hH, hlo]; exact hS
  have hP : va_P G.1 vwCl [(y, .inr (4, [.ref nr, .ref ne, .ref nh, .ref tb, .ref q, .long (lz (mo)), .int (iz (pn)), .int (iz (rws))])), (tb, zaR (G.2 3) 7 (ztb tr)), ((tr 0), zaL (G.2 0) 61 (t0)), ((tr 1), zaL (G.2 0) 61 (t1)), ((tr 2), zaL (G.2 0) 61 (t2)), ((tr 3), zaL (G.2 0) 61 (t3)), ((tr 4), zaL (G.2 0) 61 (t4)), ((tr 5), zaL (G.2 0) 61 (t5)), ((tr 6), zaL (G.2 0) 61 (t6))] H := by rw [hH]; exact hP
  have hD : va_D A [(y, .inr (4, [.ref nr, .ref ne, .ref nh, .ref tb, .ref q, .long (lz (mo)), .int (iz (pn)), .int (iz (rws))])), (tb, zaR (G.2 3) 7 (ztb tr)), ((tr 0), zaL (G.2 0) 61 (t0)), ((tr 1), zaL (G.2 0) 61 (t1)), ((tr 2), zaL (G.2 0) 61 (t2)), ((tr 3), zaL (G.2 0) 61 (t3)), ((tr 4), zaL (G.2 0) 61 (t4)), ((tr 5), zaL (G.2 0) 61 (t5)), ((tr 6), zaL (G.2 0) 61 (t6))] := hD
  have hl : lv_has ls 3 [(0, .ref y), (1, .int (iz (pe))), (2, .int (iz (wh)))] := hl
  rw [← hH, ← hlo]
  by_cases hcase : wh = 0
  ·
    have hl : lv_has ls 3 [(0, .ref y), (1, .int (iz (pe))), (2, .int (iz (0)))] := by rw [hcase] at hl; exact hl
    refine lv_aload_n hx hb dX3_cell_0 rfl (lv_at hl 0 rfl) ?_
    refine va_get (D := G.1) (ci := 4) (v := .ref tb) (C := RX3) (T := TX3) (N := 8) hx hb hts iwX3 hown hK hP 0 rfl rfl 3 (by decide) (hts (.fieldLink RX3 25 "AnnuityHouse$Loan" "table" "[[J") (by decide +kernel)) (fun _ h9 => h9) rfl dX3_cell_1 ?_
    refine lv_iload_n hx hb dX3_cell_4 rfl (lv_at hl 2 rfl) ?_
    refine zr_aldA (v := (tr 0)) hx hb hK hP 1 rfl (i := 0) (⟨by omega, by omega, by omega⟩) (ztb_at (by decide)) dX3_cell_5 ?_
    refine lv_iload_n hx hb dX3_cell_6 rfl (lv_at hl 1 rfl) ?_
    refine zr_lald hx hb hK hP 2 0 rfl rfl (i := pe) (⟨by omega, by omega, by omega⟩) dX3_cell_7 ?_
    rw [hQ]
    exact zr_lret (z := t0 pe) (u := ()) hx hb hr hlocks hP hD hS (by first | exact Nat.le_of_ble_eq_true rfl | omega) (by first | exact Nat.le_of_ble_eq_true rfl | omega) dX3_cell_8 (show (t0 pe) = zcol t0 t1 t2 t3 t4 t5 t6 wh pe from by rw [hcase]; rfl)
  by_cases hcase : wh = 1
  ·
    have hl : lv_has ls 3 [(0, .ref y), (1, .int (iz (pe))), (2, .int (iz (1)))] := by rw [hcase] at hl; exact hl
    refine lv_aload_n hx hb dX3_cell_0 rfl (lv_at hl 0 rfl) ?_
    refine va_get (D := G.1) (ci := 4) (v := .ref tb) (C := RX3) (T := TX3) (N := 8) hx hb hts iwX3 hown hK hP 0 rfl rfl 3 (by decide) (hts (.fieldLink RX3 25 "AnnuityHouse$Loan" "table" "[[J") (by decide +kernel)) (fun _ h9 => h9) rfl dX3_cell_1 ?_
    refine lv_iload_n hx hb dX3_cell_4 rfl (lv_at hl 2 rfl) ?_
    refine zr_aldA (v := (tr 1)) hx hb hK hP 1 rfl (i := 1) (⟨by omega, by omega, by omega⟩) (ztb_at (by decide)) dX3_cell_5 ?_
    refine lv_iload_n hx hb dX3_cell_6 rfl (lv_at hl 1 rfl) ?_
    refine zr_lald hx hb hK hP 3 0 rfl rfl (i := pe) (⟨by omega, by omega, by omega⟩) dX3_cell_7 ?_
    rw [hQ]
    exact zr_lret (z := t1 pe) (u := ()) hx hb hr hlocks hP hD hS (by first | exact Nat.le_of_ble_eq_true rfl | omega) (by first | exact Nat.le_of_ble_eq_true rfl | omega) dX3_cell_8 (show (t1 pe) = zcol t0 t1 t2 t3 t4 t5 t6 wh pe from by rw [hcase]; rfl)
  by_cases hcase : wh = 2
  ·
    have hl : lv_has ls 3 [(0, .ref y), (1, .int (iz (pe))), (2, .int (iz (2)))] := by rw [hcase] at hl; exact hl
    refine lv_aload_n hx hb dX3_cell_0 rfl (lv_at hl 0 rfl) ?_
    refine va_get (D := G.1) (ci := 4) (v := .ref tb) (C := RX3) (T := TX3) (N := 8) hx hb hts iwX3 hown hK hP 0 rfl rfl 3 (by decide) (hts (.fieldLink RX3 25 "AnnuityHouse$Loan" "table" "[[J") (by decide +kernel)) (fun _ h9 => h9) rfl dX3_cell_1 ?_
    refine lv_iload_n hx hb dX3_cell_4 rfl (lv_at hl 2 rfl) ?_
    refine zr_aldA (v := (tr 2)) hx hb hK hP 1 rfl (i := 2) (⟨by omega, by omega, by omega⟩) (ztb_at (by decide)) dX3_cell_5 ?_
    refine lv_iload_n hx hb dX3_cell_6 rfl (lv_at hl 1 rfl) ?_
    refine zr_lald hx hb hK hP 4 0 rfl rfl (i := pe) (⟨by omega, by omega, by omega⟩) dX3_cell_7 ?_
    rw [hQ]
    exact zr_lret (z := t2 pe) (u := ()) hx hb hr hlocks hP hD hS (by first | exact Nat.le_of_ble_eq_true rfl | omega) (by first | exact Nat.le_of_ble_eq_true rfl | omega) dX3_cell_8 (show (t2 pe) = zcol t0 t1 t2 t3 t4 t5 t6 wh pe from by rw [hcase]; rfl)
  by_cases hcase : wh = 3
  ·
    have hl : lv_has ls 3 [(0, .ref y), (1, .int (iz (pe))), (2, .int (iz (3)))] := by rw [hcase] at hl; exact hl
    refine lv_aload_n hx hb dX3_cell_0 rfl (lv_at hl 0 rfl) ?_
    refine va_get (D := G.1) (ci := 4) (v := .ref tb) (C := RX3) (T := TX3) (N := 8) hx hb hts iwX3 hown hK hP 0 rfl rfl 3 (by decide) (hts (.fieldLink RX3 25 "AnnuityHouse$Loan" "table" "[[J") (by decide +kernel)) (fun _ h9 => h9) rfl dX3_cell_1 ?_
    refine lv_iload_n hx hb dX3_cell_4 rfl (lv_at hl 2 rfl) ?_
    refine zr_aldA (v := (tr 3)) hx hb hK hP 1 rfl (i := 3) (⟨by omega, by omega, by omega⟩) (ztb_at (by decide)) dX3_cell_5 ?_
    refine lv_iload_n hx hb dX3_cell_6 rfl (lv_at hl 1 rfl) ?_
    refine zr_lald hx hb hK hP 5 0 rfl rfl (i := pe) (⟨by omega, by omega, by omega⟩) dX3_cell_7 ?_
    rw [hQ]
    exact zr_lret (z := t3 pe) (u := ()) hx hb hr hlocks hP hD hS (by first | exact Nat.le_of_ble_eq_true rfl | omega) (by first | exact Nat.le_of_ble_eq_true rfl | omega) dX3_cell_8 (show (t3 pe) = zcol t0 t1 t2 t3 t4 t5 t6 wh pe from by rw [hcase]; rfl)
  by_cases hcase : wh = 4
  ·
    have hl : lv_has ls 3 [(0, .ref y), (1, .int (iz (pe))), (2, .int (iz (4)))] := by rw [hcase] at hl; exact hl
    refine lv_aload_n hx hb dX3_cell_0 rfl (lv_at hl 0 rfl) ?_
    refine va_get (D := G.1) (ci := 4) (v := .ref tb) (C := RX3) (T := TX3) (N := 8) hx hb hts iwX3 hown hK hP 0 rfl rfl 3 (by decide) (hts (.fieldLink RX3 25 "AnnuityHouse$Loan" "table" "[[J") (by decide +kernel)) (fun _ h9 => h9) rfl dX3_cell_1 ?_
    refine lv_iload_n hx hb dX3_cell_4 rfl (lv_at hl 2 rfl) ?_
    refine zr_aldA (v := (tr 4)) hx hb hK hP 1 rfl (i := 4) (⟨by omega, by omega, by omega⟩) (ztb_at (by decide)) dX3_cell_5 ?_
    refine lv_iload_n hx hb dX3_cell_6 rfl (lv_at hl 1 rfl) ?_
    refine zr_lald hx hb hK hP 6 0 rfl rfl (i := pe) (⟨by omega, by omega, by omega⟩) dX3_cell_7 ?_
    rw [hQ]
    exact zr_lret (z := t4 pe) (u := ()) hx hb hr hlocks hP hD hS (by first | exact Nat.le_of_ble_eq_true rfl | omega) (by first | exact Nat.le_of_ble_eq_true rfl | omega) dX3_cell_8 (show (t4 pe) = zcol t0 t1 t2 t3 t4 t5 t6 wh pe from by rw [hcase]; rfl)
  by_cases hcase : wh = 5
  ·
    have hl : lv_has ls 3 [(0, .ref y), (1, .int (iz (pe))), (2, .int (iz (5)))] := by rw [hcase] at hl; exact hl
    refine lv_aload_n hx hb dX3_cell_0 rfl (lv_at hl 0 rfl) ?_
    refine va_get (D := G.1) (ci := 4) (v := .ref tb) (C := RX3) (T := TX3) (N := 8) hx hb hts iwX3 hown hK hP 0 rfl rfl 3 (by decide) (hts (.fieldLink RX3 25 "AnnuityHouse$Loan" "table" "[[J") (by decide +kernel)) (fun _ h9 => h9) rfl dX3_cell_1 ?_
    refine lv_iload_n hx hb dX3_cell_4 rfl (lv_at hl 2 rfl) ?_
    refine zr_aldA (v := (tr 5)) hx hb hK hP 1 rfl (i := 5) (⟨by omega, by omega, by omega⟩) (ztb_at (by decide)) dX3_cell_5 ?_
    refine lv_iload_n hx hb dX3_cell_6 rfl (lv_at hl 1 rfl) ?_
    refine zr_lald hx hb hK hP 7 0 rfl rfl (i := pe) (⟨by omega, by omega, by omega⟩) dX3_cell_7 ?_
    rw [hQ]
    exact zr_lret (z := t5 pe) (u := ()) hx hb hr hlocks hP hD hS (by first | exact Nat.le_of_ble_eq_true rfl | omega) (by first | exact Nat.le_of_ble_eq_true rfl | omega) dX3_cell_8 (show (t5 pe) = zcol t0 t1 t2 t3 t4 t5 t6 wh pe from by rw [hcase]; rfl)
  by_cases hcase : wh = 6
  ·
    have hl : lv_has ls 3 [(0, .ref y), (1, .int (iz (pe))), (2, .int (iz (6)))] := by rw [hcase] at hl; exact hl
    refine lv_aload_n hx hb dX3_cell_0 rfl (lv_at hl 0 rfl) ?_
    refine va_get (D := G.1) (ci := 4) (v := .ref tb) (C := RX3) (T := TX3) (N := 8) hx hb hts iwX3 hown hK hP 0 rfl rfl 3 (by decide) (hts (.fieldLink RX3 25 "AnnuityHouse$Loan" "table" "[[J") (by decide +kernel)) (fun _ h9 => h9) rfl dX3_cell_1 ?_
    refine lv_iload_n hx hb dX3_cell_4 rfl (lv_at hl 2 rfl) ?_
    refine zr_aldA (v := (tr 6)) hx hb hK hP 1 rfl (i := 6) (⟨by omega, by omega, by omega⟩) (ztb_at (by decide)) dX3_cell_5 ?_
    refine lv_iload_n hx hb dX3_cell_6 rfl (lv_at hl 1 rfl) ?_
    refine zr_lald hx hb hK hP 8 0 rfl rfl (i := pe) (⟨by omega, by omega, by omega⟩) dX3_cell_7 ?_
    rw [hQ]
    exact zr_lret (z := t6 pe) (u := ()) hx hb hr hlocks hP hD hS (by first | exact Nat.le_of_ble_eq_true rfl | omega) (by first | exact Nat.le_of_ble_eq_true rfl | omega) dX3_cell_8 (show (t6 pe) = zcol t0 t1 t2 t3 t4 t5 t6 wh pe from by rw [hcase]; rfl)
  exfalso; omega

def rm_c_X3_sumOf : Room := { frames := 0, cells := 0, slots := 0, locals := 0 }
theorem iw_X3_sumOf_X3 : ∀ w ∈ wsX30, w ∈ wsX3_sumOf := by decide +kernel
set_option maxHeartbeats 1000000 in
set_option maxRecDepth 100000 in
theorem c_X3_sumOf (l : Launch) (G : zG) (y : Nat) (nr : Nat) (ne : Nat) (nh : Nat) (tb : Nat) (q : Nat) (tr : Nat → Nat) (t0 : Int → Int) (t1 : Int → Int) (t2 : Int → Int) (t3 : Int → Int) (t4 : Int → Int) (t5 : Int → Int) (t6 : Int → Int) (mo : Int) (pn : Int) (rws : Int) (wh : Int) (h1 : 0 ≤ rws ∧ rws ≤ 60) (h2 : 1 ≤ wh ∧ wh ≤ 3) (hbt : ∀ k : Int, 1 ≤ k → k ≤ rws → (-100000000000000 ≤ t1 k ∧ t1 k ≤ 100000000000000) ∧ (-100000000000000 ≤ t2 k ∧ t2 k ≤ 100000000000000) ∧ (-100000000000000 ≤ t3 k ∧ t3 k ≤ 100000000000000)) : zM l G yX3_sumOf wsX3_sumOf rm_c_X3_sumOf [.ref y, .int (iz (wh))] [(y, .inr (4, [.ref nr, .ref ne, .ref nh, .ref tb, .ref q, .long (lz (mo)), .int (iz (pn)), .int (iz (rws))])), (tb, zaR (G.2 3) 7 (ztb tr)), ((tr 0), zaL (G.2 0) 61 (t0)), ((tr 1), zaL (G.2 0) 61 (t1)), ((tr 2), zaL (G.2 0) 61 (t2)), ((tr 3), zaL (G.2 0) 61 (t3)), ((tr 4), zaL (G.2 0) 61 (t4)), ((tr 5), zaL (G.2 0) 61 (t5)), ((tr 6), zaL (G.2 0) 61 (t6))] (fun A => zQl G (fun (z : Int) (_ : Unit) => z = zs1 (zcol t0 t1 t2 t3 t4 t5 t6 wh) rws.toNat ∧ -6000000000000000 ≤ z ∧ z ≤ 6000000000000000) (fun (_ : Unit) => [(y, .inr (4, [.ref nr, .ref ne, .ref nh, .ref tb, .ref q, .long (lz (mo)), .int (iz (pn)), .int (iz (rws))])), (tb, zaR (G.2 3) 7 (ztb tr)), ((tr 0), zaL (G.2 0) 61 (t0)), ((tr 1), zaL (G.2 0) 61 (t1)), ((tr 2), zaL (G.2 0) 61 (t2)), ((tr 3), zaL (G.2 0) 61 (t3)), ((tr 4), zaL (G.2 0) 61 (t4)), ((tr 5), zaL (G.2 0) 61 (t5)), ((tr 6), zaL (G.2 0) 61 (t6))]) A) 0 0 := by
  refine zM_of (cc := cX3_sumOf) (maxL := 5) (ret := (some .long)) (by decide) rfl (Nat.le_of_ble_eq_true rfl) ?_
  intro p e s m below meth c ls A Q hQ hx hb hr hts hown hlocks hml hnm hKX hP hD hA hS hl
  have hK := hKX.1
  have iwX3 := iw_X3_sumOf_X3
  obtain ⟨H, hH⟩ : ∃ h, h = s.heap := ⟨_, rfl⟩
  obtain ⟨locs, hlo⟩ : ∃ h : List Loc, h = [] := ⟨_, rfl⟩
  have hS : va_S A s.heap H locs := by rw [hH, hlo]; exact hS
  have hP : va_P G.1 vwCl [(y, .inr (4, [.ref nr, .ref ne, .ref nh, .ref tb, .ref q, .long (lz (mo)), .int (iz (pn)), .int (iz (rws))])), (tb, zaR (G.2 3) 7 (ztb tr)), ((tr 0), zaL (G.2 0) 61 (t0)), ((tr 1), zaL (G.2 0) 61 (t1)), ((tr 2), zaL (G.2 0) 61 (t2)), ((tr 3), zaL (G.2 0) 61 (t3)), ((tr 4), zaL (G.2 0) 61 (t4)), ((tr 5), zaL (G.2 0) 61 (t5)), ((tr 6), zaL (G.2 0) 61 (t6))] H := by rw [hH]; exact hP
  have hD : va_D A [(y, .inr (4, [.ref nr, .ref ne, .ref nh, .ref tb, .ref q, .long (lz (mo)), .int (iz (pn)), .int (iz (rws))])), (tb, zaR (G.2 3) 7 (ztb tr)), ((tr 0), zaL (G.2 0) 61 (t0)), ((tr 1), zaL (G.2 0) 61 (t1)), ((tr 2), zaL (G.2 0) 61 (t2)), ((tr 3), zaL (G.2 0) 61 (t3)), ((tr 4), zaL (G.2 0) 61 (t4)), ((tr 5), zaL (G.2 0) 61 (t5)), ((tr 6), zaL (G.2 0) 61 (t6))] := hD
  have hl : lv_has ls 5 [(0, .ref y), (1, .int (iz (wh)))] := hl
  rw [← hH, ← hlo]
  by_cases hcase : wh = 1
  ·
    have hl : lv_has ls 5 [(0, .ref y), (1, .int (iz (1)))] := by rw [hcase] at hl; exact hl
    refine lv_lconst (v := lz (0)) hx hb dX3_sumOf_0 rfl ?_
    refine lv_lstore_n (lv' := [(2, .long (lz (0))), (0, .ref y), (1, .int (iz (1)))]) hx hb dX3_sumOf_1 rfl hl (by decide) rfl (fun ls hl => ?_)
    refine lv_iconst (v := iz (1)) hx hb dX3_sumOf_2 rfl ?_
    refine lv_istore (lv' := [(4, .int (iz (1))), (2, .long (lz (0))), (0, .ref y), (1, .int (iz (1)))]) hx hb dX3_sumOf_3 hl (by decide) rfl (fun ls hl => ?_)
    have hl_5 : ∀ (zn_5 : Nat) (i : Int) (w : Int) (H : Heap) (locs : List Loc) (ls : Array Slot), (rws + 1 - i).toNat < zn_5 → (1 ≤ i ∧ i ≤ rws + 1) → (w = zs1 t1 (i - 1).toNat) → (-100000000000000 * (i - 1) ≤ w ∧ w ≤ 100000000000000 * (i - 1)) → va_P G.1 vwCl [(y, .inr (4, [.ref nr, .ref ne, .ref nh, .ref tb, .ref q, .long (lz (mo)), .int (iz (pn)), .int (iz (rws))])), (tb, zaR (G.2 3) 7 (ztb tr)), ((tr 0), zaL (G.2 0) 61 (t0)), ((tr 1), zaL (G.2 0) 61 (t1)), ((tr 2), zaL (G.2 0) 61 (t2)), ((tr 3), zaL (G.2 0) 61 (t3)), ((tr 4), zaL (G.2 0) 61 (t4)), ((tr 5), zaL (G.2 0) 61 (t5)), ((tr 6), zaL (G.2 0) 61 (t6))] H → va_D A [(y, .inr (4, [.ref nr, .ref ne, .ref nh, .ref tb, .ref q, .long (lz (mo)), .int (iz (pn)), .int (iz (rws))])), (tb, zaR (G.2 3) 7 (ztb tr)), ((tr 0), zaL (G.2 0) 61 (t0)), ((tr 1), zaL (G.2 0) 61 (t1)), ((tr 2), zaL (G.2 0) 61 (t2)), ((tr 3), zaL (G.2 0) 61 (t3)), ((tr 4), zaL (G.2 0) 61 (t4)), ((tr 5), zaL (G.2 0) 61 (t5)), ((tr 6), zaL (G.2 0) 61 (t6))] → va_S A s.heap H locs → lv_has ls 5 [(4, .int (iz (i))), (2, .long (lz (w))), (0, .ref y), (1, .int (iz (1)))] → W p l e rm_c_X3_sumOf s m ([.ref y, .int (iz (wh))] : List Value).toArray below meth c H locs 0 0 Q (F0 m 5 ls []) := by
      intro zn_5
      induction zn_5 with
      | zero => intro i w H locs ls hm; exact absurd hm (Nat.not_lt_zero _)
      | succ zn_5 ih_5 =>
        intro i w H locs ls hm_5 k1 k2 k3 hP hD hS hl
        refine lv_iload hx hb dX3_sumOf_5 (lv_at hl 0 rfl) ?_
        refine lv_aload_n hx hb dX3_sumOf_7 rfl (lv_at hl 2 rfl) ?_
        refine va_get (D := G.1) (ci := 4) (v := .int (iz (rws))) (C := RX3) (T := TX3) (N := 8) hx hb hts iwX3 hown hK hP 0 rfl rfl 7 (by decide) (hts (.fieldLink RX3 43 "AnnuityHouse$Loan" "tableRows" "I") (by decide +kernel)) (fun _ h9 => h9) rfl dX3_sumOf_8 ?_
        refine zr_icmp_gt (x := i) (y := rws) (tgt := 32) hx hb (⟨by omega, by omega⟩) (⟨by omega, by omega⟩) dX3_sumOf_11 (by decide) (fun h_1 => ?_) (fun h_1 => ?_)
        ·
          refine lv_lload_n hx hb dX3_sumOf_32 rfl (lv_at hl 1 rfl) ?_
          rw [hQ]
          exact zr_lret (z := w) (u := ()) hx hb hr hlocks hP hD hS (by first | exact Nat.le_of_ble_eq_true rfl | omega) (by first | exact Nat.le_of_ble_eq_true rfl | omega) dX3_sumOf_33 (show w = zs1 (zcol t0 t1 t2 t3 t4 t5 t6 wh) rws.toNat ∧ -6000000000000000 ≤ w ∧ w ≤ 6000000000000000 from by rw [hcase]; exact ⟨by show w = zs1 _ rws.toNat; rw [k2, show rws = i - 1 by omega]; rfl, by omega⟩)
        ·
          refine lv_lload_n hx hb dX3_sumOf_14 rfl (lv_at hl 1 rfl) ?_
          have hti := hbt i k1.1 (by omega)
          refine lv_aload_n hx hb dX3_sumOf_15 rfl (lv_at hl 2 rfl) ?_
          refine va_get (D := G.1) (ci := 4) (v := .ref tb) (C := RX3) (T := TX3) (N := 8) hx hb hts iwX3 hown hK hP 0 rfl rfl 3 (by decide) (hts (.fieldLink RX3 25 "AnnuityHouse$Loan" "table" "[[J") (by decide +kernel)) (fun _ h9 => h9) rfl dX3_sumOf_16 ?_
          refine lv_iload_n hx hb dX3_sumOf_19 rfl (lv_at hl 3 rfl) ?_
          refine zr_aldA (v := (tr 1)) hx hb hK hP 1 rfl (i := 1) (⟨by omega, by omega, by omega⟩) (ztb_at (by decide)) dX3_sumOf_20 ?_
          refine lv_iload hx hb dX3_sumOf_21 (lv_at hl 0 rfl) ?_
          refine zr_lald hx hb hK hP 3 0 rfl rfl (i := i) (⟨by omega, by omega, by omega⟩) dX3_sumOf_23 ?_
          refine zr_ladd hx hb dX3_sumOf_24 ?_
          refine lv_lstore_n (lv' := [(2, .long (lz (w + (t1 i)))), (4, .int (iz (i))), (0, .ref y), (1, .int (iz (1)))]) hx hb dX3_sumOf_25 rfl hl (by decide) rfl (fun ls hl => ?_)
          refine lv_iinc (v := iz (i + 1)) (lv' := [(4, .int (iz (i + 1))), (2, .long (lz (w + (t1 i)))), (0, .ref y), (1, .int (iz (1)))]) hx hb dX3_sumOf_26 hl (k := 1) rfl (by rw [show Int32.ofInt (1) = iz (1) from rfl, iz_add]) (by decide) rfl (fun ls hl => ?_)
          refine lv_goto (tgt := 5) hx hb dX3_sumOf_29 (by decide) ?_
          exact ih_5 (i + 1) (w + (t1 i)) _ _ _ (by omega) (by omega) (zs1_i k1.1 k2) (by omega) (hP) (hD) hS (hl)
    exact hl_5 ((rws + 1 - 1 : Int).toNat + 1) 1 0 _ _ _ (Nat.lt_succ_self _) (by omega) (rfl) (by omega) (hP) (hD) hS (hl)
  by_cases hcase : wh = 2
  ·
    have hl : lv_has ls 5 [(0, .ref y), (1, .int (iz (2)))] := by rw [hcase] at hl; exact hl
    refine lv_lconst (v := lz (0)) hx hb dX3_sumOf_0 rfl ?_
    refine lv_lstore_n (lv' := [(2, .long (lz (0))), (0, .ref y), (1, .int (iz (2)))]) hx hb dX3_sumOf_1 rfl hl (by decide) rfl (fun ls hl => ?_)
    refine lv_iconst (v := iz (1)) hx hb dX3_sumOf_2 rfl ?_
    refine lv_istore (lv' := [(4, .int (iz (1))), (2, .long (lz (0))), (0, .ref y), (1, .int (iz (2)))]) hx hb dX3_sumOf_3 hl (by decide) rfl (fun ls hl => ?_)
    have hl_5 : ∀ (zn_5 : Nat) (i : Int) (w : Int) (H : Heap) (locs : List Loc) (ls : Array Slot), (rws + 1 - i).toNat < zn_5 → (1 ≤ i ∧ i ≤ rws + 1) → (w = zs1 t2 (i - 1).toNat) → (-100000000000000 * (i - 1) ≤ w ∧ w ≤ 100000000000000 * (i - 1)) → va_P G.1 vwCl [(y, .inr (4, [.ref nr, .ref ne, .ref nh, .ref tb, .ref q, .long (lz (mo)), .int (iz (pn)), .int (iz (rws))])), (tb, zaR (G.2 3) 7 (ztb tr)), ((tr 0), zaL (G.2 0) 61 (t0)), ((tr 1), zaL (G.2 0) 61 (t1)), ((tr 2), zaL (G.2 0) 61 (t2)), ((tr 3), zaL (G.2 0) 61 (t3)), ((tr 4), zaL (G.2 0) 61 (t4)), ((tr 5), zaL (G.2 0) 61 (t5)), ((tr 6), zaL (G.2 0) 61 (t6))] H → va_D A [(y, .inr (4, [.ref nr, .ref ne, .ref nh, .ref tb, .ref q, .long (lz (mo)), .int (iz (pn)), .int (iz (rws))])), (tb, zaR (G.2 3) 7 (ztb tr)), ((tr 0), zaL (G.2 0) 61 (t0)), ((tr 1), zaL (G.2 0) 61 (t1)), ((tr 2), zaL (G.2 0) 61 (t2)), ((tr 3), zaL (G.2 0) 61 (t3)), ((tr 4), zaL (G.2 0) 61 (t4)), ((tr 5), zaL (G.2 0) 61 (t5)), ((tr 6), zaL (G.2 0) 61 (t6))] → va_S A s.heap H locs → lv_has ls 5 [(4, .int (iz (i))), (2, .long (lz (w))), (0, .ref y), (1, .int (iz (2)))] → W p l e rm_c_X3_sumOf s m ([.ref y, .int (iz (wh))] : List Value).toArray below meth c H locs 0 0 Q (F0 m 5 ls []) := by
      intro zn_5
      induction zn_5 with
      | zero => intro i w H locs ls hm; exact absurd hm (Nat.not_lt_zero _)
      | succ zn_5 ih_5 =>
        intro i w H locs ls hm_5 k1 k2 k3 hP hD hS hl
        refine lv_iload hx hb dX3_sumOf_5 (lv_at hl 0 rfl) ?_
        refine lv_aload_n hx hb dX3_sumOf_7 rfl (lv_at hl 2 rfl) ?_
        refine va_get (D := G.1) (ci := 4) (v := .int (iz (rws))) (C := RX3) (T := TX3) (N := 8) hx hb hts iwX3 hown hK hP 0 rfl rfl 7 (by decide) (hts (.fieldLink RX3 43 "AnnuityHouse$Loan" "tableRows" "I") (by decide +kernel)) (fun _ h9 => h9) rfl dX3_sumOf_8 ?_
        refine zr_icmp_gt (x := i) (y := rws) (tgt := 32) hx hb (⟨by omega, by omega⟩) (⟨by omega, by omega⟩) dX3_sumOf_11 (by decide) (fun h_2 => ?_) (fun h_2 => ?_)
        ·
          refine lv_lload_n hx hb dX3_sumOf_32 rfl (lv_at hl 1 rfl) ?_
          rw [hQ]
          exact zr_lret (z := w) (u := ()) hx hb hr hlocks hP hD hS (by first | exact Nat.le_of_ble_eq_true rfl | omega) (by first | exact Nat.le_of_ble_eq_true rfl | omega) dX3_sumOf_33 (show w = zs1 (zcol t0 t1 t2 t3 t4 t5 t6 wh) rws.toNat ∧ -6000000000000000 ≤ w ∧ w ≤ 6000000000000000 from by rw [hcase]; exact ⟨by show w = zs1 _ rws.toNat; rw [k2, show rws = i - 1 by omega]; rfl, by omega⟩)
        ·
          refine lv_lload_n hx hb dX3_sumOf_14 rfl (lv_at hl 1 rfl) ?_
          have hti := hbt i k1.1 (by omega)
          refine lv_aload_n hx hb dX3_sumOf_15 rfl (lv_at hl 2 rfl) ?_
          refine va_get (D := G.1) (ci := 4) (v := .ref tb) (C := RX3) (T := TX3) (N := 8) hx hb hts iwX3 hown hK hP 0 rfl rfl 3 (by decide) (hts (.fieldLink RX3 25 "AnnuityHouse$Loan" "table" "[[J") (by decide +kernel)) (fun _ h9 => h9) rfl dX3_sumOf_16 ?_
          refine lv_iload_n hx hb dX3_sumOf_19 rfl (lv_at hl 3 rfl) ?_
          refine zr_aldA (v := (tr 2)) hx hb hK hP 1 rfl (i := 2) (⟨by omega, by omega, by omega⟩) (ztb_at (by decide)) dX3_sumOf_20 ?_
          refine lv_iload hx hb dX3_sumOf_21 (lv_at hl 0 rfl) ?_
          refine zr_lald hx hb hK hP 4 0 rfl rfl (i := i) (⟨by omega, by omega, by omega⟩) dX3_sumOf_23 ?_
          refine zr_ladd hx hb dX3_sumOf_24 ?_
          refine lv_lstore_n (lv' := [(2, .long (lz (w + (t2 i)))), (4, .int (iz (i))), (0, .ref y), (1, .int (iz (2)))]) hx hb dX3_sumOf_25 rfl hl (by decide) rfl (fun ls hl => ?_)
          refine lv_iinc (v := iz (i + 1)) (lv' := [(4, .int (iz (i + 1))), (2, .long (lz (w + (t2 i)))), (0, .ref y), (1, .int (iz (2)))]) hx hb dX3_sumOf_26 hl (k := 1) rfl (by rw [show Int32.ofInt (1) = iz (1) from rfl, iz_add]) (by decide) rfl (fun ls hl => ?_)
          refine lv_goto (tgt := 5) hx hb dX3_sumOf_29 (by decide) ?_
          exact ih_5 (i + 1) (w + (t2 i)) _ _ _ (by omega) (by omega) (zs1_i k1.1 k2) (by omega) (hP) (hD) hS (hl)
    exact hl_5 ((rws + 1 - 1 : Int).toNat + 1) 1 0 _ _ _ (Nat.lt_succ_self _) (by omega) (rfl) (by omega) (hP) (hD) hS (hl)
  by_cases hcase : wh = 3
  ·
    have hl : lv_has ls 5 [(0, .ref y), (1, .int (iz (3)))] := by rw [hcase] at hl; exact hl
    refine lv_lconst (v := lz (0)) hx hb dX3_sumOf_0 rfl ?_
    refine lv_lstore_n (lv' := [(2, .long (lz (0))), (0, .ref y), (1, .int (iz (3)))]) hx hb dX3_sumOf_1 rfl hl (by decide) rfl (fun ls hl => ?_)
    refine lv_iconst (v := iz (1)) hx hb dX3_sumOf_2 rfl ?_
    refine lv_istore (lv' := [(4, .int (iz (1))), (2, .long (lz (0))), (0, .ref y), (1, .int (iz (3)))]) hx hb dX3_sumOf_3 hl (by decide) rfl (fun ls hl => ?_)
    have hl_5 : ∀ (zn_5 : Nat) (i : Int) (w : Int) (H : Heap) (locs : List Loc) (ls : Array Slot), (rws + 1 - i).toNat < zn_5 → (1 ≤ i ∧ i ≤ rws + 1) → (w = zs1 t3 (i - 1).toNat) → (-100000000000000 * (i - 1) ≤ w ∧ w ≤ 100000000000000 * (i - 1)) → va_P G.1 vwCl [(y, .inr (4, [.ref nr, .ref ne, .ref nh, .ref tb, .ref q, .long (lz (mo)), .int (iz (pn)), .int (iz (rws))])), (tb, zaR (G.2 3) 7 (ztb tr)), ((tr 0), zaL (G.2 0) 61 (t0)), ((tr 1), zaL (G.2 0) 61 (t1)), ((tr 2), zaL (G.2 0) 61 (t2)), ((tr 3), zaL (G.2 0) 61 (t3)), ((tr 4), zaL (G.2 0) 61 (t4)), ((tr 5), zaL (G.2 0) 61 (t5)), ((tr 6), zaL (G.2 0) 61 (t6))] H → va_D A [(y, .inr (4, [.ref nr, .ref ne, .ref nh, .ref tb, .ref q, .long (lz (mo)), .int (iz (pn)), .int (iz (rws))])), (tb, zaR (G.2 3) 7 (ztb tr)), ((tr 0), zaL (G.2 0) 61 (t0)), ((tr 1), zaL (G.2 0) 61 (t1)), ((tr 2), zaL (G.2 0) 61 (t2)), ((tr 3), zaL (G.2 0) 61 (t3)), ((tr 4), zaL (G.2 0) 61 (t4)), ((tr 5), zaL (G.2 0) 61 (t5)), ((tr 6), zaL (G.2 0) 61 (t6))] → va_S A s.heap H locs → lv_has ls 5 [(4, .int (iz (i))), (2, .long (lz (w))), (0, .ref y), (1, .int (iz (3)))] → W p l e rm_c_X3_sumOf s m ([.ref y, .int (iz (wh))] : List Value).toArray below meth c H locs 0 0 Q (F0 m 5 ls []) := by
      intro zn_5
      induction zn_5 with
      | zero => intro i w H locs ls hm; exact absurd hm (Nat.not_lt_zero _)
      | succ zn_5 ih_5 =>
        intro i w H locs ls hm_5 k1 k2 k3 hP hD hS hl
        refine lv_iload hx hb dX3_sumOf_5 (lv_at hl 0 rfl) ?_
        refine lv_aload_n hx hb dX3_sumOf_7 rfl (lv_at hl 2 rfl) ?_
        refine va_get (D := G.1) (ci := 4) (v := .int (iz (rws))) (C := RX3) (T := TX3) (N := 8) hx hb hts iwX3 hown hK hP 0 rfl rfl 7 (by decide) (hts (.fieldLink RX3 43 "AnnuityHouse$Loan" "tableRows" "I") (by decide +kernel)) (fun _ h9 => h9) rfl dX3_sumOf_8 ?_
        refine zr_icmp_gt (x := i) (y := rws) (tgt := 32) hx hb (⟨by omega, by omega⟩) (⟨by omega, by omega⟩) dX3_sumOf_11 (by decide) (fun h_3 => ?_) (fun h_3 => ?_)
        ·
          refine lv_lload_n hx hb dX3_sumOf_32 rfl (lv_at hl 1 rfl) ?_
          rw [hQ]
          exact zr_lret (z := w) (u := ()) hx hb hr hlocks hP hD hS (by first | exact Nat.le_of_ble_eq_true rfl | omega) (by first | exact Nat.le_of_ble_eq_true rfl | omega) dX3_sumOf_33 (show w = zs1 (zcol t0 t1 t2 t3 t4 t5 t6 wh) rws.toNat ∧ -6000000000000000 ≤ w ∧ w ≤ 6000000000000000 from by rw [hcase]; exact ⟨by show w = zs1 _ rws.toNat; rw [k2, show rws = i - 1 by omega]; rfl, by omega⟩)
        ·
          refine lv_lload_n hx hb dX3_sumOf_14 rfl (lv_at hl 1 rfl) ?_
          have hti := hbt i k1.1 (by omega)
          refine lv_aload_n hx hb dX3_sumOf_15 rfl (lv_at hl 2 rfl) ?_
          refine va_get (D := G.1) (ci := 4) (v := .ref tb) (C := RX3) (T := TX3) (N := 8) hx hb hts iwX3 hown hK hP 0 rfl rfl 3 (by decide) (hts (.fieldLink RX3 25 "AnnuityHouse$Loan" "table" "[[J") (by decide +kernel)) (fun _ h9 => h9) rfl dX3_sumOf_16 ?_
          refine lv_iload_n hx hb dX3_sumOf_19 rfl (lv_at hl 3 rfl) ?_
          refine zr_aldA (v := (tr 3)) hx hb hK hP 1 rfl (i := 3) (⟨by omega, by omega, by omega⟩) (ztb_at (by decide)) dX3_sumOf_20 ?_
          refine lv_iload hx hb dX3_sumOf_21 (lv_at hl 0 rfl) ?_
          refine zr_lald hx hb hK hP 5 0 rfl rfl (i := i) (⟨by omega, by omega, by omega⟩) dX3_sumOf_23 ?_
          refine zr_ladd hx hb dX3_sumOf_24 ?_
          refine lv_lstore_n (lv' := [(2, .long (lz (w + (t3 i)))), (4, .int (iz (i))), (0, .ref y), (1, .int (iz (3)))]) hx hb dX3_sumOf_25 rfl hl (by decide) rfl (fun ls hl => ?_)
          refine lv_iinc (v := iz (i + 1)) (lv' := [(4, .int (iz (i + 1))), (2, .long (lz (w + (t3 i)))), (0, .ref y), (1, .int (iz (3)))]) hx hb dX3_sumOf_26 hl (k := 1) rfl (by rw [show Int32.ofInt (1) = iz (1) from rfl, iz_add]) (by decide) rfl (fun ls hl => ?_)
          refine lv_goto (tgt := 5) hx hb dX3_sumOf_29 (by decide) ?_
          exact ih_5 (i + 1) (w + (t3 i)) _ _ _ (by omega) (by omega) (zs1_i k1.1 k2) (by omega) (hP) (hD) hS (hl)
    exact hl_5 ((rws + 1 - 1 : Int).toNat + 1) 1 0 _ _ _ (Nat.lt_succ_self _) (by omega) (rfl) (by omega) (hP) (hD) hS (hl)
  exfalso; omega

def rm_c_X3_isRepaid : Room := { frames := 1, cells := 0, slots := 0, locals := 24 }
theorem iw_X3_isRepaid_X3 : ∀ w ∈ wsX30, w ∈ wsX3_isRepaid := by decide +kernel
set_option maxHeartbeats 1000000 in
set_option maxRecDepth 100000 in
theorem c_X3_isRepaid (l : Launch) (G : zG) (y : Nat) (nr : Nat) (ne : Nat) (nh : Nat) (tb : Nat) (q : Nat) (tr : Nat → Nat) (t0 : Int → Int) (t1 : Int → Int) (t2 : Int → Int) (t3 : Int → Int) (t4 : Int → Int) (t5 : Int → Int) (t6 : Int → Int) (mo : Int) (pn : Int) (rws : Int) (h1 : 0 ≤ rws ∧ rws ≤ 60) (hbt : ∀ k : Int, 1 ≤ k → k ≤ rws → (-100000000000000 ≤ t1 k ∧ t1 k ≤ 100000000000000) ∧ (-100000000000000 ≤ t2 k ∧ t2 k ≤ 100000000000000) ∧ (-100000000000000 ≤ t3 k ∧ t3 k ≤ 100000000000000)) (hm : 0 ≤ mo ∧ mo ≤ 1000000000) (h3 : zs1 t3 rws.toNat = mo ∧ zs1 t2 rws.toNat = mo + zs1 t1 rws.toNat) : zM l G yX3_isRepaid wsX3_isRepaid rm_c_X3_isRepaid [.ref y] [(y, .inr (4, [.ref nr, .ref ne, .ref nh, .ref tb, .ref q, .long (lz (mo)), .int (iz (pn)), .int (iz (rws))])), (tb, zaR (G.2 3) 7 (ztb tr)), ((tr 0), zaL (G.2 0) 61 (t0)), ((tr 1), zaL (G.2 0) 61 (t1)), ((tr 2), zaL (G.2 0) 61 (t2)), ((tr 3), zaL (G.2 0) 61 (t3)), ((tr 4), zaL (G.2 0) 61 (t4)), ((tr 5), zaL (G.2 0) 61 (t5)), ((tr 6), zaL (G.2 0) 61 (t6))] (fun A => zQz G (fun (z : Bool) (_ : Unit) => z = true) (fun (_ : Unit) => [(y, .inr (4, [.ref nr, .ref ne, .ref nh, .ref tb, .ref q, .long (lz (mo)), .int (iz (pn)), .int (iz (rws))])), (tb, zaR (G.2 3) 7 (ztb tr)), ((tr 0), zaL (G.2 0) 61 (t0)), ((tr 1), zaL (G.2 0) 61 (t1)), ((tr 2), zaL (G.2 0) 61 (t2)), ((tr 3), zaL (G.2 0) 61 (t3)), ((tr 4), zaL (G.2 0) 61 (t4)), ((tr 5), zaL (G.2 0) 61 (t5)), ((tr 6), zaL (G.2 0) 61 (t6))]) A) 0 0 := by
  refine zM_of (cc := cX3_isRepaid) (maxL := 1) (ret := (some .boolean)) (by decide) rfl (Nat.le_of_ble_eq_true rfl) ?_
  intro p e s m below meth c ls A Q hQ hx hb hr hts hown hlocks hml hnm hKX hP hD hA hS hl
  have hK := hKX.1
  have iwX3 := iw_X3_isRepaid_X3
  obtain ⟨H, hH⟩ : ∃ h, h = s.heap := ⟨_, rfl⟩
  obtain ⟨locs, hlo⟩ : ∃ h : List Loc, h = [] := ⟨_, rfl⟩
  have hS : va_S A s.heap H locs := by rw [hH, hlo]; exact hS
  have hP : va_P G.1 vwCl [(y, .inr (4, [.ref nr, .ref ne, .ref nh, .ref tb, .ref q, .long (lz (mo)), .int (iz (pn)), .int (iz (rws))])), (tb, zaR (G.2 3) 7 (ztb tr)), ((tr 0), zaL (G.2 0) 61 (t0)), ((tr 1), zaL (G.2 0) 61 (t1)), ((tr 2), zaL (G.2 0) 61 (t2)), ((tr 3), zaL (G.2 0) 61 (t3)), ((tr 4), zaL (G.2 0) 61 (t4)), ((tr 5), zaL (G.2 0) 61 (t5)), ((tr 6), zaL (G.2 0) 61 (t6))] H := by rw [hH]; exact hP
  have hD : va_D A [(y, .inr (4, [.ref nr, .ref ne, .ref nh, .ref tb, .ref q, .long (lz (mo)), .int (iz (pn)), .int (iz (rws))])), (tb, zaR (G.2 3) 7 (ztb tr)), ((tr 0), zaL (G.2 0) 61 (t0)), ((tr 1), zaL (G.2 0) 61 (t1)), ((tr 2), zaL (G.2 0) 61 (t2)), ((tr 3), zaL (G.2 0) 61 (t3)), ((tr 4), zaL (G.2 0) 61 (t4)), ((tr 5), zaL (G.2 0) 61 (t5)), ((tr 6), zaL (G.2 0) 61 (t6))] := hD
  have hl : lv_has ls 1 [(0, .ref y)] := hl
  rw [← hH, ← hlo]
  refine lv_aload_n hx hb dX3_isRepaid_0 rfl (lv_at hl 0 rfl) ?_
  refine lv_iconst (v := iz (3)) hx hb dX3_isRepaid_1 rfl ?_
  refine zc_l (wr := []) (va_runV (As := [.int (iz (3))]) (rest := []) ⟨hx, hb, hml, hown, hts⟩ (c_X3_sumOf l G y nr ne nh tb q tr t0 t1 t2 t3 t4 t5 t6 mo pn rws 3 (by omega) (by omega) (hbt) H.size) (cwV 1 hts gX3_isRepaid_X3_sumOf rfl rfl rfl (by decide +kernel) ⟨Nat.le_of_ble_eq_true rfl, Nat.le_of_ble_eq_true rfl⟩) (zpV hKX hP hD [0, 1, 2, 3, 4, 5, 6, 7, 8] rfl rfl 0 4 rfl rfl) rfl rfl hl.1 rfl (lv_room (Nat.le_of_ble_eq_true rfl)) dX3_isRepaid_2 ⟨(by first | exact Nat.le_of_ble_eq_true rfl | (show _ ≤ (0 : Nat); omega)), (by first | exact Nat.le_of_ble_eq_true rfl | (show _ ≤ (0 : Nat); omega))⟩) hP hD hS hA [0, 1, 2, 3, 4, 5, 6, 7, 8] [] rfl rfl rfl (by decide) (fun z3 u_1 H locs hz3 hP hD hS => ?_)
  have hP : va_P G.1 vwCl [(y, .inr (4, [.ref nr, .ref ne, .ref nh, .ref tb, .ref q, .long (lz (mo)), .int (iz (pn)), .int (iz (rws))])), (tb, zaR (G.2 3) 7 (ztb tr)), ((tr 0), zaL (G.2 0) 61 (t0)), ((tr 1), zaL (G.2 0) 61 (t1)), ((tr 2), zaL (G.2 0) 61 (t2)), ((tr 3), zaL (G.2 0) 61 (t3)), ((tr 4), zaL (G.2 0) 61 (t4)), ((tr 5), zaL (G.2 0) 61 (t5)), ((tr 6), zaL (G.2 0) 61 (t6))] H := hP
  have hD : va_D A [(y, .inr (4, [.ref nr, .ref ne, .ref nh, .ref tb, .ref q, .long (lz (mo)), .int (iz (pn)), .int (iz (rws))])), (tb, zaR (G.2 3) 7 (ztb tr)), ((tr 0), zaL (G.2 0) 61 (t0)), ((tr 1), zaL (G.2 0) 61 (t1)), ((tr 2), zaL (G.2 0) 61 (t2)), ((tr 3), zaL (G.2 0) 61 (t3)), ((tr 4), zaL (G.2 0) 61 (t4)), ((tr 5), zaL (G.2 0) 61 (t5)), ((tr 6), zaL (G.2 0) 61 (t6))] := hD
  have hz3 : z3 = zs1 (zcol t0 t1 t2 t3 t4 t5 t6 (3 : Int)) rws.toNat ∧ -6000000000000000 ≤ z3 ∧ z3 ≤ 6000000000000000 := hz3
  have hz3_ : z3 = zs1 t3 rws.toNat := hz3.1
  refine lv_aload_n hx hb dX3_isRepaid_5 rfl (lv_at hl 0 rfl) ?_
  refine va_get (D := G.1) (ci := 4) (v := .long (lz (mo))) (C := RX3) (T := TX3) (N := 8) hx hb hts iwX3 hown hK hP 0 rfl rfl 5 (by decide) (hts (.fieldLink RX3 35 "AnnuityHouse$Loan" "lent" "J") (by decide +kernel)) (fun _ h9 => h9) rfl dX3_isRepaid_6 ?_
  refine zr_lcmp_ne (x := z3) (y := mo) (tgt := 36) hx hb (⟨by omega, by omega⟩) (⟨by omega, by omega⟩) dX3_isRepaid_9 dX3_isRepaid_10 (by decide) (fun h_3 => ?_) (fun h_3 => ?_)
  · exact absurd h_3 (by omega)
  ·
    refine lv_aload_n hx hb dX3_isRepaid_13 rfl (lv_at hl 0 rfl) ?_
    refine lv_iconst (v := iz (2)) hx hb dX3_isRepaid_14 rfl ?_
    refine zc_l (wr := []) (va_runV (As := [.int (iz (2))]) (rest := []) ⟨hx, hb, hml, hown, hts⟩ (c_X3_sumOf l G y nr ne nh tb q tr t0 t1 t2 t3 t4 t5 t6 mo pn rws 2 (by omega) (by omega) (hbt) H.size) (cwV 1 hts gX3_isRepaid_X3_sumOf rfl rfl rfl (by decide +kernel) ⟨Nat.le_of_ble_eq_true rfl, Nat.le_of_ble_eq_true rfl⟩) (zpV hKX hP hD [0, 1, 2, 3, 4, 5, 6, 7, 8] rfl rfl 0 4 rfl rfl) rfl rfl hl.1 rfl (lv_room (Nat.le_of_ble_eq_true rfl)) dX3_isRepaid_15 ⟨(by first | exact Nat.le_of_ble_eq_true rfl | (show _ ≤ (0 : Nat); omega)), (by first | exact Nat.le_of_ble_eq_true rfl | (show _ ≤ (0 : Nat); omega))⟩) hP hD hS hA [0, 1, 2, 3, 4, 5, 6, 7, 8] [] rfl rfl rfl (by decide) (fun z2 u_4 H locs hz2 hP hD hS => ?_)
    have hP : va_P G.1 vwCl [(y, .inr (4, [.ref nr, .ref ne, .ref nh, .ref tb, .ref q, .long (lz (mo)), .int (iz (pn)), .int (iz (rws))])), (tb, zaR (G.2 3) 7 (ztb tr)), ((tr 0), zaL (G.2 0) 61 (t0)), ((tr 1), zaL (G.2 0) 61 (t1)), ((tr 2), zaL (G.2 0) 61 (t2)), ((tr 3), zaL (G.2 0) 61 (t3)), ((tr 4), zaL (G.2 0) 61 (t4)), ((tr 5), zaL (G.2 0) 61 (t5)), ((tr 6), zaL (G.2 0) 61 (t6))] H := hP
    have hD : va_D A [(y, .inr (4, [.ref nr, .ref ne, .ref nh, .ref tb, .ref q, .long (lz (mo)), .int (iz (pn)), .int (iz (rws))])), (tb, zaR (G.2 3) 7 (ztb tr)), ((tr 0), zaL (G.2 0) 61 (t0)), ((tr 1), zaL (G.2 0) 61 (t1)), ((tr 2), zaL (G.2 0) 61 (t2)), ((tr 3), zaL (G.2 0) 61 (t3)), ((tr 4), zaL (G.2 0) 61 (t4)), ((tr 5), zaL (G.2 0) 61 (t5)), ((tr 6), zaL (G.2 0) 61 (t6))] := hD
    have hz2 : z2 = zs1 (zcol t0 t1 t2 t3 t4 t5 t6 (2 : Int)) rws.toNat ∧ -6000000000000000 ≤ z2 ∧ z2 ≤ 6000000000000000 := hz2
    have hz2_ : z2 = zs1 t2 rws.toNat := hz2.1
    refine lv_aload_n hx hb dX3_isRepaid_18 rfl (lv_at hl 0 rfl) ?_
    refine va_get (D := G.1) (ci := 4) (v := .long (lz (mo))) (C := RX3) (T := TX3) (N := 8) hx hb hts iwX3 hown hK hP 0 rfl rfl 5 (by decide) (hts (.fieldLink RX3 35 "AnnuityHouse$Loan" "lent" "J") (by decide +kernel)) (fun _ h9 => h9) rfl dX3_isRepaid_19 ?_
    refine lv_aload_n hx hb dX3_isRepaid_22 rfl (lv_at hl 0 rfl) ?_
    refine lv_iconst (v := iz (1)) hx hb dX3_isRepaid_23 rfl ?_
    refine zc_l (wr := []) (va_runV (As := [.int (iz (1))]) (rest := [.long (lz (mo)), .long (lz (z2))]) ⟨hx, hb, hml, hown, hts⟩ (c_X3_sumOf l G y nr ne nh tb q tr t0 t1 t2 t3 t4 t5 t6 mo pn rws 1 (by omega) (by omega) (hbt) H.size) (cwV 1 hts gX3_isRepaid_X3_sumOf rfl rfl rfl (by decide +kernel) ⟨Nat.le_of_ble_eq_true rfl, Nat.le_of_ble_eq_true rfl⟩) (zpV hKX hP hD [0, 1, 2, 3, 4, 5, 6, 7, 8] rfl rfl 0 4 rfl rfl) rfl rfl hl.1 rfl (lv_room (Nat.le_of_ble_eq_true rfl)) dX3_isRepaid_24 ⟨(by first | exact Nat.le_of_ble_eq_true rfl | (show _ ≤ (0 : Nat); omega)), (by first | exact Nat.le_of_ble_eq_true rfl | (show _ ≤ (0 : Nat); omega))⟩) hP hD hS hA [0, 1, 2, 3, 4, 5, 6, 7, 8] [] rfl rfl rfl (by decide) (fun z1 u_6 H locs hz1 hP hD hS => ?_)
    have hP : va_P G.1 vwCl [(y, .inr (4, [.ref nr, .ref ne, .ref nh, .ref tb, .ref q, .long (lz (mo)), .int (iz (pn)), .int (iz (rws))])), (tb, zaR (G.2 3) 7 (ztb tr)), ((tr 0), zaL (G.2 0) 61 (t0)), ((tr 1), zaL (G.2 0) 61 (t1)), ((tr 2), zaL (G.2 0) 61 (t2)), ((tr 3), zaL (G.2 0) 61 (t3)), ((tr 4), zaL (G.2 0) 61 (t4)), ((tr 5), zaL (G.2 0) 61 (t5)), ((tr 6), zaL (G.2 0) 61 (t6))] H := hP
    have hD : va_D A [(y, .inr (4, [.ref nr, .ref ne, .ref nh, .ref tb, .ref q, .long (lz (mo)), .int (iz (pn)), .int (iz (rws))])), (tb, zaR (G.2 3) 7 (ztb tr)), ((tr 0), zaL (G.2 0) 61 (t0)), ((tr 1), zaL (G.2 0) 61 (t1)), ((tr 2), zaL (G.2 0) 61 (t2)), ((tr 3), zaL (G.2 0) 61 (t3)), ((tr 4), zaL (G.2 0) 61 (t4)), ((tr 5), zaL (G.2 0) 61 (t5)), ((tr 6), zaL (G.2 0) 61 (t6))] := hD
    have hz1 : z1 = zs1 (zcol t0 t1 t2 t3 t4 t5 t6 (1 : Int)) rws.toNat ∧ -6000000000000000 ≤ z1 ∧ z1 ≤ 6000000000000000 := hz1
    have hz1_ : z1 = zs1 t1 rws.toNat := hz1.1
    refine zr_ladd hx hb dX3_isRepaid_27 ?_
    refine zr_lcmp_ne (x := z2) (y := mo + z1) (tgt := 36) hx hb (⟨by omega, by omega⟩) (⟨by omega, by omega⟩) dX3_isRepaid_28 dX3_isRepaid_29 (by decide) (fun h_8 => ?_) (fun h_8 => ?_)
    · exact absurd h_8 (by omega)
    ·
      refine lv_iconst (v := iz (1)) hx hb dX3_isRepaid_32 rfl ?_
      refine lv_goto (tgt := 37) hx hb dX3_isRepaid_33 (by decide) ?_
      rw [hQ]
      exact zr_zret (z := true) (rfl) (u := ()) hx hb hr hlocks hP hD hS (by first | exact Nat.le_of_ble_eq_true rfl | omega) (by first | exact Nat.le_of_ble_eq_true rfl | omega) dX3_isRepaid_37 (show true = true from rfl)
