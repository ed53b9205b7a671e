-- THE REFERENCE'S WHOLE NUMBERS: contracts, third part (laid by wip/walk/x11c.py)
-- a method of a class some of whose methods the machine has rows of its own for
theorem Met_ofWF {l : Launch} {y : MethodName} {ws ws' : List Cond} {rm : Room} {Pc : Array Value → State → Prop} {Qc : Array Value → State → Outcome → State → Prop} {mc ms : Nat} {free : Addr → Prop} {cc : ByteArray} {maxL : Nat} {ret : Option FieldType}
    (hy : plainFor y = true) (hw : ws = Cond.code y cc maxL ret :: ws')
    (body : ∀ p e s m args below meth c s₁, BodyLoose p l y (headSpec ws rm) cc maxL ret e s m args below meth c s₁ → c.maxLocals = maxL → Pc args s →
      W p l e (headSpec ws rm).room s m args below meth c s.heap [] 0 0 (MQ below Qc args s mc ms free) (entryFrame m args maxL)) : Met l y ws rm Pc Qc mc ms free := by
  refine MetFree.of_bodySF (code := cc) (maxLocals := maxL) (ret := ret) hy ?_ ?_
  · intro args s m h hn
    obtain ⟨meth, c, h1, h2, h3, h4, h5, h6, -, -⟩ := Cond.code_spec hn (atoms_spec (ws := ws) h _ (by rw [hw]; exact List.mem_cons_self))
    exact ⟨meth, c, h1, h2, h3, h4, h5, h6⟩
  · intro p e s m args below meth c s₁ B hml hP _
    have hh0 : s₁.heap = s.heap := by rw [B.state]; rfl
    obtain ⟨t, a1, o, b1, b2, b3⟩ := body p e s m args below meth c s₁ B hml hP s₁ hh0 (Stand.of_body B)
    exact ⟨t, o, a1, b1, b2, ⟨b3.1, b3.2⟩⟩
theorem zM_ofF {l : Launch} {G : zG} {y : MethodName} {wsy ws' : List Cond} {rm : Room} {cc : ByteArray} {maxL : Nat} {ret : Option FieldType} {av : List Value} {W0 : va_W} {Qf : (Nat → Prop) → Array Value → State → Outcome → State → Prop} {mc ms : Nat} (hy : plainFor y = true) (hw : wsy = Cond.code y cc maxL ret :: ws') (hn : (lg_sl av).length ≤ maxL)
    (body : ∀ (p : Program) (e : Env) (s : State) (m : MethodId) (below : List Frame) (meth : Method) (c : Code) (ls : Array Slot) (A : Nat → Prop) (Q : State → Prop), Q = MQ below (Qf A) av.toArray s mc ms A → p.tables.exec = Jvm.exec → c.code = cc → meth.sig.returnType = ret → (∀ w ∈ wsy, w.before av.toArray s = true) → s.vm.findClass y.cls = some m.cls → meth.locks = false → c.maxLocals = maxL → meth.name = y.name → zK G s → va_P G.1 vwCl W0 s.heap → va_D A W0 → (∀ q : Nat, s.heap.size ≤ q → A q) → va_S A s.heap s.heap [] → lv_has ls maxL (lv_args 0 av) →
      W p l e rm s m av.toArray below meth c s.heap [] 0 0 Q (F0 m 0 ls [])) : zM l G y wsy rm av W0 Qf mc ms := by
  intro sz
  refine Met_ofWF (cc := cc) (maxL := maxL) (ret := ret) hy hw ?_
  intro p e s m args below meth c s₁ B hml hv
  obtain ⟨rfl, hsz, hP, hK, hD0⟩ := hv
  subst hsz
  have hown : s.vm.findClass y.cls = some m.cls := findClass_of_methodNamed B.named
  rw [lg_entry_eq]
  exact body p e s m below meth c _ (va_A W0 s.heap.size) _ rfl B.exec B.bytes B.returns (atoms_spec (ws := wsy) B.pre) hown B.notSynchronized hml (name_of_methodNamed B.named B.method).1 hK hP hD0.self (fun q h => Or.inr h) va_S.rf (lv_entry av hn)
-- floorDiv by a number above 0
theorem tfd_pos {x y : Int} (hx : 0 ≤ x) : x.tdiv y = x / y := Int.tdiv_eq_ediv_of_nonneg hx
theorem tfd_neg {x y : Int} (hx : x < 0) (hy : 1 ≤ y) : (x.tdiv y * y = x → x.tdiv y = x / y) ∧ (x.tdiv y * y ≠ x → x.tdiv y - 1 = x / y) ∧ x ≤ x.tdiv y * y ∧ x.tdiv y * y < x + y := by
  have e := Int.tdiv_eq_ediv (a := x) (b := y)
  have m := Int.mul_ediv_add_emod x y
  have m0 := Int.emod_nonneg x (show y ≠ 0 by omega)
  have m1 := Int.emod_lt_of_pos x (show 0 < y by omega)
  by_cases c : y ∣ x
  · rw [if_pos (Or.inr c)] at e
    have e2 : x.tdiv y = x / y := by omega
    have z := Int.emod_eq_zero_of_dvd c
    have e3 : x / y * y = y * (x / y) := Int.mul_comm _ _
    rw [e2]
    exact ⟨fun _ => rfl, fun h => absurd (by omega) h, by omega, by omega⟩
  · rw [if_neg (by intro h; rcases h with h | h; omega; exact c h), Int.sign_eq_one_of_pos (by omega)] at e
    have z : x % y ≠ 0 := fun h => c (Int.dvd_of_emod_eq_zero h)
    have e3 : (x / y + 1) * y = y * (x / y) + y := by rw [Int.add_mul, Int.one_mul, Int.mul_comm]
    rw [e]
    exact ⟨fun h => absurd h (by omega), fun _ => by omega, by omega, by omega⟩
-- taking and giving
theorem ttake_rng {o d : Int} (ho : 0 ≤ o ∧ o ≤ 9999) (hd : 0 ≤ d ∧ d < 10000) : 0 ≤ o * d ∧ o * d ≤ 99980001 := tmul_rng (by omega) hd
theorem ttake_step {g h h0 : Int → Int} {n : Nat} {L pl k q w o P : Int} (hp : 0 ≤ pl) (hk0 : 0 ≤ k) (hL : pl + k < L) (hP : P = 10000 ^ pl.toNat) (hk : tsum h (L).toNat + q * 10000 ^ (pl + k).toNat = tsum h0 (L).toNat - o * P * tsum (tx g n) k.toNat) (hw : w = h (pl + k) - o * tx g n k + q) : tsum (zup h (pl + k) (w - w / 10000 * 10000)) (L).toNat + w / 10000 * 10000 ^ (pl + (k + 1)).toNat = tsum h0 (L).toNat - o * P * tsum (tx g n) (k + 1).toNat := by
  rw [tsum_zup (by omega) _ (by omega), show (pl + (k + 1)).toNat = (pl + k).toNat + 1 by omega, show (k + 1).toNat = k.toNat + 1 by omega, tsum_s, tB_s, Int.mul_add, show ((k.toNat : Nat) : Int) = k by omega]
  have e1 : o * P * (tx g n k * 10000 ^ k.toNat) = o * tx g n k * 10000 ^ (pl + k).toNat := by
    rw [hP, show (pl + k).toNat = pl.toNat + k.toNat by omega, Int.pow_add]; ac_rfl
  have e2 : w / 10000 * (10000 ^ (pl + k).toNat * 10000) = w / 10000 * 10000 * 10000 ^ (pl + k).toNat := by ac_rfl
  have e3 : (w - w / 10000 * 10000 - h (pl + k)) * 10000 ^ (pl + k).toNat + w / 10000 * 10000 * 10000 ^ (pl + k).toNat = (w - h (pl + k)) * 10000 ^ (pl + k).toNat := by
    rw [← Int.add_mul]; congr 1; omega
  have e4 : (w - h (pl + k)) * 10000 ^ (pl + k).toNat = q * 10000 ^ (pl + k).toNat - o * tx g n k * 10000 ^ (pl + k).toNat := by
    rw [← Int.sub_mul]; congr 1; omega
  omega
theorem tgive_step {g h h0 : Int → Int} {n : Nat} {L pl k q w P : Int} (hp : 0 ≤ pl) (hk0 : 0 ≤ k) (hL : pl + k < L) (hP : P = 10000 ^ pl.toNat) (hk : tsum h (L).toNat + q * 10000 ^ (pl + k).toNat = tsum h0 (L).toNat + P * tsum (tx g n) k.toNat) (hw : w = h (pl + k) + tx g n k + q) : tsum (zup h (pl + k) (w % 10000)) (L).toNat + w / 10000 * 10000 ^ (pl + (k + 1)).toNat = tsum h0 (L).toNat + P * tsum (tx g n) (k + 1).toNat := by
  rw [tsum_zup (by omega) _ (by omega), show (pl + (k + 1)).toNat = (pl + k).toNat + 1 by omega, show (k + 1).toNat = k.toNat + 1 by omega, tsum_s, tB_s, Int.mul_add, show ((k.toNat : Nat) : Int) = k by omega]
  have e1 : P * (tx g n k * 10000 ^ k.toNat) = tx g n k * 10000 ^ (pl + k).toNat := by
    rw [hP, show (pl + k).toNat = pl.toNat + k.toNat by omega, Int.pow_add]; ac_rfl
  have e2 : w / 10000 * (10000 ^ (pl + k).toNat * 10000) = w / 10000 * 10000 * 10000 ^ (pl + k).toNat := by ac_rfl
  have e3 : (w % 10000 - h (pl + k)) * 10000 ^ (pl + k).toNat + w / 10000 * 10000 * 10000 ^ (pl + k).toNat = (w - h (pl + k)) * 10000 ^ (pl + k).toNat := by
    rw [← Int.add_mul]; congr 1; omega
  have e4 : (w - h (pl + k)) * 10000 ^ (pl + k).toNat = q * 10000 ^ (pl + k).toNat + tx g n k * 10000 ^ (pl + k).toNat := by
    rw [← Int.add_mul]; congr 1; omega
  omega
-- the number
theorem tnum_end {f : Int → Int} {N : Nat} {sg v q k : Int} (h : tmw f N sg v) (hk : k = -1) (hq : q = tsum f N / 10000 ^ (k + 1).toNat) : (sg < 0 → -q = v) ∧ (0 ≤ sg → q = v) := by
  subst hk
  rw [show ((-1 : Int) + 1).toNat = 0 by decide] at hq
  have e : q = tsum f N := by rw [hq]; simp
  have hv := h.val
  rcases h.sg with s | s | s
  · rw [s] at hv; exact ⟨fun _ => by omega, fun h0 => absurd h0 (by omega)⟩
  · have z := h.s00 s
    rw [s] at hv
    exact ⟨fun h0 => absurd h0 (by omega), fun _ => by omega⟩
  · rw [s] at hv; exact ⟨fun h0 => absurd h0 (by omega), fun _ => by omega⟩
def rm_c_J9_floorDiv : Room := { frames := 0, cells := 0, slots := 0, locals := 0 }
set_option maxHeartbeats 1000000 in
set_option maxRecDepth 100000 in
theorem c_J9_floorDiv (l : Launch) (G : zG) (x : Int) (y : Int) (h1 : -2147483648 ≤ x ∧ x < 2147483648) (h2 : 1 ≤ y ∧ y < 2147483648) : zM l G yJ9_floorDiv_7cf53 wsJ9_floorDiv_7cf53 rm_c_J9_floorDiv [.int (iz (x)), .int (iz (y))] [] (fun A => zQi G (fun (z : Int) (_ : Unit) => z = x / y) (fun (_ : Unit) => []) A) 0 0 := by
  refine zM_ofF (cc := cJ9_floorDiv_7cf53) (maxL := 3) (ret := (some .int)) (by decide +kernel) rfl (Nat.le_of_ble_eq_true rfl) ?_
  intro p e s m below meth c ls A Q hQ hx hb hr hts hown hlocks hml hnm hKX hP hD hA hS hl
  have hK := hKX.1
  obtain ⟨H, hH⟩ : ∃ h, h = s.heap := ⟨_, rfl⟩
  obtain ⟨locs, hlo⟩ : ∃ h : List Loc, h = [] := ⟨_, rfl⟩
  have hS : va_S A s.heap H locs := by rw [hH, hlo]; exact hS
  have hP : va_P G.1 vwCl [] H := by rw [hH]; exact hP
  have hD : va_D A [] := hD
  have hl : lv_has ls 3 [(0, .int (iz (x))), (1, .int (iz (y)))] := hl
  rw [← hH, ← hlo]
  refine lv_iload_n hx hb dJ9_floorDiv_7cf53_0 rfl (lv_at hl 0 rfl) ?_
  refine lv_iload_n hx hb dJ9_floorDiv_7cf53_1 rfl (lv_at hl 1 rfl) ?_
  refine zr_idivT hx hb (x := x) (y := y) ⟨by omega, by omega⟩ ⟨by omega, by omega⟩ (by omega) dJ9_floorDiv_7cf53_2 ?_
  refine zr_namei (fun q eq => ?_)
  refine lv_istore_n (lv' := [(2, .int (iz (q))), (0, .int (iz (x))), (1, .int (iz (y)))]) hx hb dJ9_floorDiv_7cf53_3 rfl hl (by decide) rfl (fun ls hl => ?_)
  refine lv_iload_n hx hb dJ9_floorDiv_7cf53_4 rfl (lv_at hl 1 rfl) ?_
  refine lv_iload_n hx hb dJ9_floorDiv_7cf53_5 rfl (lv_at hl 2 rfl) ?_
  refine zr_ixorS hx hb (x := x) (y := y) (⟨by omega, by omega⟩) (⟨by omega, by omega⟩) dJ9_floorDiv_7cf53_6 (fun xr hxr_rng hxr => ?_)
  refine zr_if_ge (x := xr) (tgt := 21) hx hb (⟨by omega, by omega⟩) dJ9_floorDiv_7cf53_7 (by decide) (fun h_1 => ?_) (fun h_1 => ?_)
  ·
    have hx0 : 0 ≤ x := hxr.mp h_1
    refine lv_iload_n hx hb dJ9_floorDiv_7cf53_21 rfl (lv_at hl 0 rfl) ?_
    rw [hQ]
    exact zr_iret (z := q) (u := ()) hx hb hr hlocks hP hD hS (by first | exact Nat.le_of_ble_eq_true rfl | omega) (by first | exact Nat.le_of_ble_eq_true rfl | omega) dJ9_floorDiv_7cf53_22 (show q = x / y from by first | exact (eq.trans (tfd_pos hx0)) | exact hn.1 (by omega))
  ·
    have hx0 : x < 0 := by omega
    have hn := tfd_neg hx0 h2.1
    rw [← eq] at hn
    refine lv_iload_n hx hb dJ9_floorDiv_7cf53_10 rfl (lv_at hl 0 rfl) ?_
    refine lv_iload_n hx hb dJ9_floorDiv_7cf53_11 rfl (lv_at hl 2 rfl) ?_
    refine zr_imul hx hb dJ9_floorDiv_7cf53_12 ?_
    refine lv_iload_n hx hb dJ9_floorDiv_7cf53_13 rfl (lv_at hl 1 rfl) ?_
    refine zr_icmp_eq (x := q * y) (y := x) (tgt := 21) hx hb (⟨by omega, by omega⟩) (⟨by omega, by omega⟩) dJ9_floorDiv_7cf53_14 (by decide) (fun h_2 => ?_) (fun h_2 => ?_)
    ·
      refine lv_iload_n hx hb dJ9_floorDiv_7cf53_21 rfl (lv_at hl 0 rfl) ?_
      rw [hQ]
      exact zr_iret (z := q) (u := ()) hx hb hr hlocks hP hD hS (by first | exact Nat.le_of_ble_eq_true rfl | omega) (by first | exact Nat.le_of_ble_eq_true rfl | omega) dJ9_floorDiv_7cf53_22 (show q = x / y from by first | exact (eq.trans (tfd_pos hx0)) | exact hn.1 (by omega))
    ·
      refine lv_iload_n hx hb dJ9_floorDiv_7cf53_17 rfl (lv_at hl 0 rfl) ?_
      refine lv_iconst (v := iz (1)) hx hb dJ9_floorDiv_7cf53_18 rfl ?_
      refine zr_isub hx hb dJ9_floorDiv_7cf53_19 ?_
      rw [hQ]
      exact zr_iret (z := q - 1) (u := ()) hx hb hr hlocks hP hD hS (by first | exact Nat.le_of_ble_eq_true rfl | omega) (by first | exact Nat.le_of_ble_eq_true rfl | omega) dJ9_floorDiv_7cf53_20 (show (q - 1) = x / y from hn.2.1 (by omega))

def rm_c_X11_takes : Room := { frames := 1, cells := 0, slots := 0, locals := 22 }
set_option maxHeartbeats 1000000 in
set_option maxRecDepth 100000 in
theorem c_X11_takes (l : Launch) (G : zG) (al : Nat) (h : Int → Int) (L : Nat) (ad : Nat) (g : Int → Int) (n : Nat) (pl : Int) (o : Int) (h1 : tdig h L) (h2 : tdig g n) (h3 : 0 ≤ pl ∧ pl + n < (L : Int)) (h4 : L ≤ 260) (h5 : 0 ≤ o ∧ o ≤ 9999) : zM l G yX11_takes wsX11_takes rm_c_X11_takes [.ref al, .ref ad, .int (iz (pl)), .int (iz (o))] [(al, zaI (G.2 1) L (h)), (ad, zaI (G.2 1) n (g))] (fun A => zQi G (fun (z : Int) (h0 : (Int → Int)) => tdig h0 L ∧ tsum h0 (L : Int).toNat + z * 10000 ^ (pl + ((n : Int) + 1)).toNat = tsum h (L : Int).toNat - o * 10000 ^ pl.toNat * tsum g n ∧ -10000 ≤ z ∧ z ≤ 0 ∧ ∀ j : Int, pl + n < j → h0 j = h j) (fun (h0 : (Int → Int)) => [(al, zaI (G.2 1) L (h0)), (ad, zaI (G.2 1) n (g))]) A) 0 0 := by
  refine zM_of (cc := cX11_takes) (maxL := 7) (ret := (some .int)) (by decide) rfl (Nat.le_of_ble_eq_true rfl) ?_
  intro p e s m below meth c ls A Q hQ hx hb hr hts hown hlocks hml hnm hKX hP hD hA hS hl
  have hK := hKX.1
  obtain ⟨H, hH⟩ : ∃ h, h = s.heap := ⟨_, rfl⟩
  obtain ⟨locs, hlo⟩ : ∃ h : List Loc, h = [] := ⟨_, rfl⟩
  have hS : va_S A s.heap H locs := by rw [hH, hlo]; exact hS
  have hP : va_P G.1 vwCl [(al, zaI (G.2 1) L (h)), (ad, zaI (G.2 1) n (g))] H := by rw [hH]; exact hP
  have hD : va_D A [(al, zaI (G.2 1) L (h)), (ad, zaI (G.2 1) n (g))] := hD
  have hl : lv_has ls 7 [(0, .ref al), (1, .ref ad), (2, .int (iz (pl))), (3, .int (iz (o)))] := hl
  rw [← hH, ← hlo]
  refine lv_iconst (v := iz (0)) hx hb dX11_takes_0 rfl ?_
  refine lv_istore (lv' := [(4, .int (iz (0))), (0, .ref al), (1, .ref ad), (2, .int (iz (pl))), (3, .int (iz (o)))]) hx hb dX11_takes_1 hl (by decide) rfl (fun ls hl => ?_)
  refine lv_iconst (v := iz (0)) hx hb dX11_takes_3 rfl ?_
  refine lv_istore (lv' := [(5, .int (iz (0))), (4, .int (iz (0))), (0, .ref al), (1, .ref ad), (2, .int (iz (pl))), (3, .int (iz (o)))]) hx hb dX11_takes_4 hl (by decide) rfl (fun ls hl => ?_)
  have hl_6 : ∀ (zn_6 : Nat) (k : Int) (q : Int) (hh : Int → Int) (H : Heap) (locs : List Loc) (ls : Array Slot), ((n : Int) + 1 - k).toNat < zn_6 → (0 ≤ k ∧ k ≤ (n : Int) + 1) → (tdig hh L) → (tsum hh (L : Int).toNat + q * 10000 ^ (pl + k).toNat = tsum h (L : Int).toNat - o * 10000 ^ pl.toNat * tsum (tx g n) k.toNat) → (-10000 ≤ q ∧ q ≤ 0) → (∀ j : Int, pl + n < j → hh j = h j) → va_P G.1 vwCl [(al, zaI (G.2 1) L (hh)), (ad, zaI (G.2 1) n (g))] H → va_D A [(al, zaI (G.2 1) L (hh)), (ad, zaI (G.2 1) n (g))] → va_S A s.heap H locs → lv_has ls 7 [(5, .int (iz (k))), (4, .int (iz (q))), (0, .ref al), (1, .ref ad), (2, .int (iz (pl))), (3, .int (iz (o)))] → W p l e rm_c_X11_takes s m ([.ref al, .ref ad, .int (iz (pl)), .int (iz (o))] : List Value).toArray below meth c H locs 0 0 Q (F0 m 6 ls []) := by
    intro zn_6
    induction zn_6 with
    | zero => intro k q hh H locs ls hm; exact absurd hm (Nat.not_lt_zero _)
    | succ zn_6 ih_6 =>
      intro k q hh H locs ls hm_6 k1 k2 k3 k4 k5 hP hD hS hl
      refine lv_iload hx hb dX11_takes_6 (lv_at hl 0 rfl) ?_
      refine lv_aload_n hx hb dX11_takes_8 rfl (lv_at hl 3 rfl) ?_
      refine zr_alenI hx hb hK hP 1 1 rfl rfl dX11_takes_9 ?_
      refine zr_icmp_gt (x := k) (y := n) (tgt := 73) hx hb (⟨by omega, by omega⟩) (⟨by omega, by omega⟩) dX11_takes_10 (by decide) (fun h_1 => ?_) (fun h_1 => ?_)
      ·
        refine lv_iload hx hb dX11_takes_73 (lv_at hl 1 rfl) ?_
        have ek : k = (n : Int) + 1 := by omega
        rw [ek, tx_sum _ (by omega)] at k3
        rw [hQ]
        exact zr_iret (z := q) (u := (hh)) hx hb hr hlocks hP hD hS (by first | exact Nat.le_of_ble_eq_true rfl | omega) (by first | exact Nat.le_of_ble_eq_true rfl | omega) dX11_takes_75 (show tdig hh L ∧ tsum hh (L : Int).toNat + q * 10000 ^ (pl + ((n : Int) + 1)).toNat = tsum h (L : Int).toNat - o * 10000 ^ pl.toNat * tsum g n ∧ -10000 ≤ q ∧ q ≤ 0 ∧ ∀ j : Int, pl + n < j → hh j = h j from ⟨k2, k3, k4.1, k4.2, k5⟩)
      ·
        refine lv_aload_n hx hb dX11_takes_13 rfl (lv_at hl 2 rfl) ?_
        refine lv_iload_n hx hb dX11_takes_14 rfl (lv_at hl 4 rfl) ?_
        refine lv_iload hx hb dX11_takes_15 (lv_at hl 0 rfl) ?_
        refine zr_iadd hx hb dX11_takes_17 ?_
        refine zr_iald hx hb hK hP 0 1 rfl rfl (i := pl + k) (⟨by omega, by omega, by omega⟩) dX11_takes_18 ?_
        have hl_36 : ∀ (y : Int) (H : Heap) (locs : List Loc) (ls : Array Slot), (y = o * tx g n k) → (0 ≤ y ∧ y ≤ 99980001) → va_P G.1 vwCl [(al, zaI (G.2 1) L (hh)), (ad, zaI (G.2 1) n (g))] H → va_D A [(al, zaI (G.2 1) L (hh)), (ad, zaI (G.2 1) n (g))] → va_S A s.heap H locs → lv_has ls 7 [(5, .int (iz (k))), (4, .int (iz (q))), (0, .ref al), (1, .ref ad), (2, .int (iz (pl))), (3, .int (iz (o)))] → W p l e rm_c_X11_takes s m ([.ref al, .ref ad, .int (iz (pl)), .int (iz (o))] : List Value).toArray below meth c H locs 0 0 Q (F0 m 36 ls [.int (iz (y)), .int (iz (hh (pl + k)))]) := by
          intro y H locs ls j1 j2 hP hD hS hl
          refine zr_isub hx hb dX11_takes_36 ?_
          refine lv_iload hx hb dX11_takes_37 (lv_at hl 1 rfl) ?_
          refine zr_iadd hx hb dX11_takes_39 ?_
          refine zr_namei (fun w ew => ?_)
          have dh := k2 (pl + k) (by omega) (by omega)
          have hw : w = hh (pl + k) - o * tx g n k + q := by rw [ew, j1]
          refine lv_istore (lv' := [(6, .int (iz (w))), (5, .int (iz (k))), (4, .int (iz (q))), (0, .ref al), (1, .ref ad), (2, .int (iz (pl))), (3, .int (iz (o)))]) hx hb dX11_takes_40 hl (by decide) rfl (fun ls hl => ?_)
          refine lv_iload hx hb dX11_takes_42 (lv_at hl 0 rfl) ?_
          refine lv_sipush (v := iz (10000)) hx hb dX11_takes_44 rfl ?_
          refine zc_i (wr := [(al, zaI (G.2 1) L (hh)), (ad, zaI (G.2 1) n (g))]) (va_runS (As := [.int (iz (w)), .int (iz (10000))]) (rest := []) ⟨hx, hb, hml, hown, hts⟩ (c_J9_floorDiv l G w 10000 (by omega) (by omega) H.size) (va_cwS 2 hts gX11_takes_J9_floorDiv_7cf53 rfl rfl rfl (by decide +kernel) ⟨Nat.le_of_ble_eq_true rfl, Nat.le_of_ble_eq_true rfl⟩) (zpS hKX hP hD [] rfl rfl) rfl rfl hl.1 rfl (lv_room (Nat.le_of_ble_eq_true rfl)) dX11_takes_47 ⟨(by first | exact Nat.le_of_ble_eq_true rfl | (show _ ≤ (0 : Nat); omega)), (by first | exact Nat.le_of_ble_eq_true rfl | (show _ ≤ (0 : Nat); omega))⟩) hP hD hS hA [] [0, 1] rfl rfl rfl (by decide) (fun cq u_2 H locs hc hP hD hS => ?_)
          have hP : va_P G.1 vwCl [(al, zaI (G.2 1) L (hh)), (ad, zaI (G.2 1) n (g))] H := hP
          have hD : va_D A [(al, zaI (G.2 1) L (hh)), (ad, zaI (G.2 1) n (g))] := hD
          have hc : cq = w / (10000 : Int) := hc
          refine lv_istore (lv' := [(4, .int (iz (cq))), (6, .int (iz (w))), (5, .int (iz (k))), (0, .ref al), (1, .ref ad), (2, .int (iz (pl))), (3, .int (iz (o)))]) hx hb dX11_takes_50 hl (by decide) rfl (fun ls hl => ?_)
          refine lv_aload_n hx hb dX11_takes_52 rfl (lv_at hl 3 rfl) ?_
          refine lv_iload_n hx hb dX11_takes_53 rfl (lv_at hl 5 rfl) ?_
          refine lv_iload hx hb dX11_takes_54 (lv_at hl 2 rfl) ?_
          refine zr_iadd hx hb dX11_takes_56 ?_
          refine lv_iload hx hb dX11_takes_57 (lv_at hl 1 rfl) ?_
          refine lv_iload hx hb dX11_takes_59 (lv_at hl 0 rfl) ?_
          refine lv_sipush (v := iz (10000)) hx hb dX11_takes_61 rfl ?_
          refine zr_imul hx hb dX11_takes_64 ?_
          refine zr_isub hx hb dX11_takes_65 ?_
          refine zr_iast hx hb hK hP hD hS 0 1 rfl rfl (i := pl + k) (x := w - (cq * 10000)) (⟨by omega, by omega, by omega⟩) dX11_takes_66 (fun H locs hP hD hS => ?_)
          have hP : va_P G.1 vwCl [(al, zaI (G.2 1) L (zup hh (pl + k) (w - (cq * 10000)))), (ad, zaI (G.2 1) n (g))] H := hP
          have hD : va_D A [(al, zaI (G.2 1) L (zup hh (pl + k) (w - (cq * 10000)))), (ad, zaI (G.2 1) n (g))] := hD
          refine lv_iinc (v := iz (k + 1)) (lv' := [(5, .int (iz (k + 1))), (4, .int (iz (cq))), (6, .int (iz (w))), (0, .ref al), (1, .ref ad), (2, .int (iz (pl))), (3, .int (iz (o)))]) hx hb dX11_takes_67 hl (k := 2) rfl (by rw [show Int32.ofInt (1) = iz (1) from rfl, iz_add]) (by decide) rfl (fun ls hl => ?_)
          refine lv_goto (tgt := 6) hx hb dX11_takes_70 (by decide) ?_
          refine W.widen (k := 0) (n := 0) (by omega) (by omega) ?_
          exact ih_6 (k + 1) cq (zup hh (pl + k) (w - (cq * 10000))) _ _ _ (by omega) (by omega) (ttimes_dig k2 (by omega)) (hc ▸ ttake_step h3.1 k1.1 (by omega) rfl k3 hw) (by omega) (fun j a => (zup_n (by omega)).trans (k5 j a)) (hP) (hD) hS (lv_sub hl [0, 1, 3, 4, 5, 6] rfl)
        refine lv_iload hx hb dX11_takes_19 (lv_at hl 0 rfl) ?_
        refine lv_aload_n hx hb dX11_takes_21 rfl (lv_at hl 3 rfl) ?_
        refine zr_alenI hx hb hK hP 1 1 rfl rfl dX11_takes_22 ?_
        refine zr_icmp_ge (x := k) (y := n) (tgt := 35) hx hb (⟨by omega, by omega⟩) (⟨by omega, by omega⟩) dX11_takes_23 (by decide) (fun h_4 => ?_) (fun h_4 => ?_)
        ·
          refine lv_iconst (v := iz (0)) hx hb dX11_takes_35 rfl ?_
          exact hl_36 0 _ _ _ (by first | (rw [tx_in (by omega)]; exact ep) | (rw [tx_out (by omega)]; omega)) (by omega) (hP) (hD) hS (hl)
        ·
          refine lv_iload_n hx hb dX11_takes_26 rfl (lv_at hl 5 rfl) ?_
          refine lv_aload_n hx hb dX11_takes_27 rfl (lv_at hl 3 rfl) ?_
          refine lv_iload hx hb dX11_takes_28 (lv_at hl 0 rfl) ?_
          refine zr_iald hx hb hK hP 1 1 rfl rfl (i := k) (⟨by omega, by omega, by omega⟩) dX11_takes_30 ?_
          refine zr_imul hx hb dX11_takes_31 ?_
          refine zr_namei (fun p ep => ?_)
          have hp := ttake_rng h5 (h2 k (by omega) (by omega))
          rw [← ep] at hp
          refine lv_goto (tgt := 36) hx hb dX11_takes_32 (by decide) ?_
          exact hl_36 p _ _ _ (by first | (rw [tx_in (by omega)]; exact ep) | (rw [tx_out (by omega)]; omega)) (by omega) (hP) (hD) hS (hl)
  exact hl_6 (((n : Int) + 1 - 0 : Int).toNat + 1) 0 0 h _ _ _ (Nat.lt_succ_self _) (by omega) (h1) (by simp [tsum]) (by omega) (fun _ _ => rfl) (hP) (hD) hS (hl)

def rm_c_X11_gives : Room := { frames := 0, cells := 0, slots := 0, locals := 0 }
set_option maxHeartbeats 1000000 in
set_option maxRecDepth 100000 in
theorem c_X11_gives (l : Launch) (G : zG) (al : Nat) (h : Int → Int) (L : Nat) (ad : Nat) (g : Int → Int) (n : Nat) (pl : Int) (h1 : tdig h L) (h2 : tdig g n) (h3 : 0 ≤ pl ∧ pl + n < (L : Int)) (h4 : L ≤ 260) : zM l G yX11_gives wsX11_gives rm_c_X11_gives [.ref al, .ref ad, .int (iz (pl))] [(al, zaI (G.2 1) L (h)), (ad, zaI (G.2 1) n (g))] (fun A => zQi G (fun (z : Int) (h0 : (Int → Int)) => tdig h0 L ∧ tsum h0 (L : Int).toNat + z * 10000 ^ (pl + ((n : Int) + 1)).toNat = tsum h (L : Int).toNat + 10000 ^ pl.toNat * tsum g n ∧ 0 ≤ z ∧ z ≤ 1 ∧ ∀ j : Int, pl + n < j → h0 j = h j) (fun (h0 : (Int → Int)) => [(al, zaI (G.2 1) L (h0)), (ad, zaI (G.2 1) n (g))]) A) 0 0 := by
  refine zM_of (cc := cX11_gives) (maxL := 6) (ret := (some .int)) (by decide) rfl (Nat.le_of_ble_eq_true rfl) ?_
  intro p e s m below meth c ls A Q hQ hx hb hr hts hown hlocks hml hnm hKX hP hD hA hS hl
  have hK := hKX.1
  obtain ⟨H, hH⟩ : ∃ h, h = s.heap := ⟨_, rfl⟩
  obtain ⟨locs, hlo⟩ : ∃ h : List Loc, h = [] := ⟨_, rfl⟩
  have hS : va_S A s.heap H locs := by rw [hH, hlo]; exact hS
  have hP : va_P G.1 vwCl [(al, zaI (G.2 1) L (h)), (ad, zaI (G.2 1) n (g))] H := by rw [hH]; exact hP
  have hD : va_D A [(al, zaI (G.2 1) L (h)), (ad, zaI (G.2 1) n (g))] := hD
  have hl : lv_has ls 6 [(0, .ref al), (1, .ref ad), (2, .int (iz (pl)))] := hl
  rw [← hH, ← hlo]
  refine lv_iconst (v := iz (0)) hx hb dX11_gives_0 rfl ?_
  refine lv_istore_n (lv' := [(3, .int (iz (0))), (0, .ref al), (1, .ref ad), (2, .int (iz (pl)))]) hx hb dX11_gives_1 rfl hl (by decide) rfl (fun ls hl => ?_)
  refine lv_iconst (v := iz (0)) hx hb dX11_gives_2 rfl ?_
  refine lv_istore (lv' := [(4, .int (iz (0))), (3, .int (iz (0))), (0, .ref al), (1, .ref ad), (2, .int (iz (pl)))]) hx hb dX11_gives_3 hl (by decide) rfl (fun ls hl => ?_)
  have hl_5 : ∀ (zn_5 : Nat) (k : Int) (q : Int) (hh : Int → Int) (H : Heap) (locs : List Loc) (ls : Array Slot), ((n : Int) + 1 - k).toNat < zn_5 → (0 ≤ k ∧ k ≤ (n : Int) + 1) → (tdig hh L) → (tsum hh (L : Int).toNat + q * 10000 ^ (pl + k).toNat = tsum h (L : Int).toNat + 10000 ^ pl.toNat * tsum (tx g n) k.toNat) → (0 ≤ q ∧ q ≤ 1) → (∀ j : Int, pl + n < j → hh j = h j) → va_P G.1 vwCl [(al, zaI (G.2 1) L (hh)), (ad, zaI (G.2 1) n (g))] H → va_D A [(al, zaI (G.2 1) L (hh)), (ad, zaI (G.2 1) n (g))] → va_S A s.heap H locs → lv_has ls 6 [(4, .int (iz (k))), (3, .int (iz (q))), (0, .ref al), (1, .ref ad), (2, .int (iz (pl)))] → W p l e rm_c_X11_gives s m ([.ref al, .ref ad, .int (iz (pl))] : List Value).toArray below meth c H locs 0 0 Q (F0 m 5 ls []) := by
    intro zn_5
    induction zn_5 with
    | zero => intro k q hh H locs ls hm; exact absurd hm (Nat.not_lt_zero _)
    | succ zn_5 ih_5 =>
      intro k q hh H locs ls hm_5 k1 k2 k3 k4 k5 hP hD hS hl
      refine lv_iload hx hb dX11_gives_5 (lv_at hl 0 rfl) ?_
      refine lv_aload_n hx hb dX11_gives_7 rfl (lv_at hl 3 rfl) ?_
      refine zr_alenI hx hb hK hP 1 1 rfl rfl dX11_gives_8 ?_
      refine zr_icmp_gt (x := k) (y := n) (tgt := 63) hx hb (⟨by omega, by omega⟩) (⟨by omega, by omega⟩) dX11_gives_9 (by decide) (fun h_1 => ?_) (fun h_1 => ?_)
      ·
        refine lv_iload_n hx hb dX11_gives_63 rfl (lv_at hl 1 rfl) ?_
        have ek : k = (n : Int) + 1 := by omega
        rw [ek, tx_sum _ (by omega)] at k3
        rw [hQ]
        exact zr_iret (z := q) (u := (hh)) hx hb hr hlocks hP hD hS (by first | exact Nat.le_of_ble_eq_true rfl | omega) (by first | exact Nat.le_of_ble_eq_true rfl | omega) dX11_gives_64 (show tdig hh L ∧ tsum hh (L : Int).toNat + q * 10000 ^ (pl + ((n : Int) + 1)).toNat = tsum h (L : Int).toNat + 10000 ^ pl.toNat * tsum g n ∧ 0 ≤ q ∧ q ≤ 1 ∧ ∀ j : Int, pl + n < j → hh j = h j from ⟨k2, k3, k4.1, k4.2, k5⟩)
      ·
        refine lv_aload_n hx hb dX11_gives_12 rfl (lv_at hl 2 rfl) ?_
        refine lv_iload_n hx hb dX11_gives_13 rfl (lv_at hl 4 rfl) ?_
        refine lv_iload hx hb dX11_gives_14 (lv_at hl 0 rfl) ?_
        refine zr_iadd hx hb dX11_gives_16 ?_
        refine zr_iald hx hb hK hP 0 1 rfl rfl (i := pl + k) (⟨by omega, by omega, by omega⟩) dX11_gives_17 ?_
        have hl_33 : ∀ (y : Int) (H : Heap) (locs : List Loc) (ls : Array Slot), (y = tx g n k) → (0 ≤ y ∧ y < 10000) → va_P G.1 vwCl [(al, zaI (G.2 1) L (hh)), (ad, zaI (G.2 1) n (g))] H → va_D A [(al, zaI (G.2 1) L (hh)), (ad, zaI (G.2 1) n (g))] → va_S A s.heap H locs → lv_has ls 6 [(4, .int (iz (k))), (3, .int (iz (q))), (0, .ref al), (1, .ref ad), (2, .int (iz (pl)))] → W p l e rm_c_X11_gives s m ([.ref al, .ref ad, .int (iz (pl))] : List Value).toArray below meth c H locs 0 0 Q (F0 m 33 ls [.int (iz (y)), .int (iz (hh (pl + k)))]) := by
          intro y H locs ls j1 j2 hP hD hS hl
          refine zr_iadd hx hb dX11_gives_33 ?_
          refine lv_iload_n hx hb dX11_gives_34 rfl (lv_at hl 1 rfl) ?_
          refine zr_iadd hx hb dX11_gives_35 ?_
          refine zr_namei (fun w ew => ?_)
          have dh := k2 (pl + k) (by omega) (by omega)
          have hw : w = hh (pl + k) + tx g n k + q := by rw [ew, j1]
          refine lv_istore (lv' := [(5, .int (iz (w))), (4, .int (iz (k))), (3, .int (iz (q))), (0, .ref al), (1, .ref ad), (2, .int (iz (pl)))]) hx hb dX11_gives_36 hl (by decide) rfl (fun ls hl => ?_)
          refine lv_iload hx hb dX11_gives_38 (lv_at hl 0 rfl) ?_
          refine lv_sipush (v := iz (10000)) hx hb dX11_gives_40 rfl ?_
          refine zr_idiv hx hb (x := w) (y := 10000) ⟨by omega, by omega⟩ ⟨by omega, by omega⟩ (by omega) (by omega) dX11_gives_43 ?_
          refine lv_istore_n (lv' := [(3, .int (iz (w / 10000))), (5, .int (iz (w))), (4, .int (iz (k))), (0, .ref al), (1, .ref ad), (2, .int (iz (pl)))]) hx hb dX11_gives_44 rfl hl (by decide) rfl (fun ls hl => ?_)
          refine lv_aload_n hx hb dX11_gives_45 rfl (lv_at hl 3 rfl) ?_
          refine lv_iload_n hx hb dX11_gives_46 rfl (lv_at hl 5 rfl) ?_
          refine lv_iload hx hb dX11_gives_47 (lv_at hl 2 rfl) ?_
          refine zr_iadd hx hb dX11_gives_49 ?_
          refine lv_iload hx hb dX11_gives_50 (lv_at hl 1 rfl) ?_
          refine lv_sipush (v := iz (10000)) hx hb dX11_gives_52 rfl ?_
          refine zr_irem hx hb (x := w) (y := 10000) ⟨by omega, by omega⟩ ⟨by omega, by omega⟩ (by omega) (by omega) dX11_gives_55 ?_
          refine zr_iast hx hb hK hP hD hS 0 1 rfl rfl (i := pl + k) (x := w % 10000) (⟨by omega, by omega, by omega⟩) dX11_gives_56 (fun H locs hP hD hS => ?_)
          have hP : va_P G.1 vwCl [(al, zaI (G.2 1) L (zup hh (pl + k) (w % 10000))), (ad, zaI (G.2 1) n (g))] H := hP
          have hD : va_D A [(al, zaI (G.2 1) L (zup hh (pl + k) (w % 10000))), (ad, zaI (G.2 1) n (g))] := hD
          refine lv_iinc (v := iz (k + 1)) (lv' := [(4, .int (iz (k + 1))), (3, .int (iz (w / 10000))), (5, .int (iz (w))), (0, .ref al), (1, .ref ad), (2, .int (iz (pl)))]) hx hb dX11_gives_57 hl (k := 2) rfl (by rw [show Int32.ofInt (1) = iz (1) from rfl, iz_add]) (by decide) rfl (fun ls hl => ?_)
          refine lv_goto (tgt := 5) hx hb dX11_gives_60 (by decide) ?_
          exact ih_5 (k + 1) (w / 10000) (zup hh (pl + k) (w % 10000)) _ _ _ (by omega) (by omega) (ttimes_dig k2 (by omega)) (tgive_step h3.1 k1.1 (by omega) rfl k3 hw) (by omega) (fun j a => (zup_n (by omega)).trans (k5 j a)) (hP) (hD) hS (lv_sub hl [0, 1, 3, 4, 5] rfl)
        refine lv_iload hx hb dX11_gives_18 (lv_at hl 0 rfl) ?_
        refine lv_aload_n hx hb dX11_gives_20 rfl (lv_at hl 3 rfl) ?_
        refine zr_alenI hx hb hK hP 1 1 rfl rfl dX11_gives_21 ?_
        refine zr_icmp_ge (x := k) (y := n) (tgt := 32) hx hb (⟨by omega, by omega⟩) (⟨by omega, by omega⟩) dX11_gives_22 (by decide) (fun h_2 => ?_) (fun h_2 => ?_)
        ·
          refine lv_iconst (v := iz (0)) hx hb dX11_gives_32 rfl ?_
          exact hl_33 0 _ _ _ (by first | (rw [tx_in (by omega)]) | (rw [tx_out (by omega)])) (by first | exact h2 k (by omega) (by omega) | omega) (hP) (hD) hS (hl)
        ·
          refine lv_aload_n hx hb dX11_gives_25 rfl (lv_at hl 3 rfl) ?_
          refine lv_iload hx hb dX11_gives_26 (lv_at hl 0 rfl) ?_
          refine zr_iald hx hb hK hP 1 1 rfl rfl (i := k) (⟨by omega, by omega, by omega⟩) dX11_gives_28 ?_
          refine lv_goto (tgt := 33) hx hb dX11_gives_29 (by decide) ?_
          exact hl_33 (g k) _ _ _ (by first | (rw [tx_in (by omega)]) | (rw [tx_out (by omega)])) (by first | exact h2 k (by omega) (by omega) | omega) (hP) (hD) hS (hl)
  exact hl_5 (((n : Int) + 1 - 0 : Int).toNat + 1) 0 0 h _ _ _ (Nat.lt_succ_self _) (by omega) (h1) (by simp [tsum]) (by omega) (fun _ _ => rfl) (hP) (hD) hS (hl)

def rm_c_X11_number : Room := { frames := 0, cells := 0, slots := 0, locals := 0 }
theorem iw_X11_number_X11 : ∀ w ∈ wsX110, w ∈ wsX11_number := by decide +kernel
set_option maxHeartbeats 1000000 in
set_option maxRecDepth 100000 in
theorem c_X11_number (l : Launch) (G : zG) (a : Nat) (b : Nat) (f : Int → Int) (N : Nat) (sg : Int) (v : Int) (h1 : tmw f N sg v) : zM l G yX11_number wsX11_number rm_c_X11_number [.ref a] [(a, .inr (12, [.int (iz (sg)), .ref b])), (b, zaI (G.2 1) N (f))] (fun A => zQl G (fun (z : Int) (_ : Unit) => z = v) (fun (_ : Unit) => [(a, .inr (12, [.int (iz (sg)), .ref b])), (b, zaI (G.2 1) N (f))]) A) 0 0 := by
  refine zM_of (cc := cX11_number) (maxL := 4) (ret := (some .long)) (by decide) rfl (Nat.le_of_ble_eq_true rfl) ?_
  intro p e s m below meth c ls A Q hQ hx hb hr hts hown hlocks hml hnm hKX hP hD hA hS hl
  have hK := hKX.1
  have iwX11 := iw_X11_number_X11
  obtain ⟨H, hH⟩ : ∃ h, h = s.heap := ⟨_, rfl⟩
  obtain ⟨locs, hlo⟩ : ∃ h : List Loc, h = [] := ⟨_, rfl⟩
  have hS : va_S A s.heap H locs := by rw [hH, hlo]; exact hS
  have hP : va_P G.1 vwCl [(a, .inr (12, [.int (iz (sg)), .ref b])), (b, zaI (G.2 1) N (f))] H := by rw [hH]; exact hP
  have hD : va_D A [(a, .inr (12, [.int (iz (sg)), .ref b])), (b, zaI (G.2 1) N (f))] := hD
  have hl : lv_has ls 4 [(0, .ref a)] := hl
  rw [← hH, ← hlo]
  have n1 := h1.n
  refine lv_lconst (v := lz (0)) hx hb dX11_number_0 rfl ?_
  refine lv_lstore_n (lv' := [(1, .long (lz (0))), (0, .ref a)]) hx hb dX11_number_1 rfl hl (by decide) rfl (fun ls hl => ?_)
  refine lv_aload_n hx hb dX11_number_2 rfl (lv_at hl 1 rfl) ?_
  refine va_get (D := G.1) (ci := 12) (v := .ref b) (C := RX11) (T := TX11) (N := 2) hx hb hts iwX11 hown hK hP 0 rfl rfl 1 (by decide) (hts (.fieldLink RX11 13 "AnnuityHouseModel$Whole" "limbs" "[I") (by decide +kernel)) (fun _ h9 => h9) rfl dX11_number_3 ?_
  refine zr_alenI hx hb hK hP 1 1 rfl rfl dX11_number_6 ?_
  refine lv_iconst (v := iz (1)) hx hb dX11_number_7 rfl ?_
  refine zr_isub hx hb dX11_number_8 ?_
  refine lv_istore_n (lv' := [(3, .int (iz (N - 1))), (1, .long (lz (0))), (0, .ref a)]) hx hb dX11_number_9 rfl hl (by decide) rfl (fun ls hl => ?_)
  have hl_10 : ∀ (zn_10 : Nat) (k : Int) (q : Int) (H : Heap) (locs : List Loc) (ls : Array Slot), (k + 1).toNat < zn_10 → (-1 ≤ k ∧ k < N) → (q = tsum f N / 10000 ^ (k + 1).toNat) → va_P G.1 vwCl [(a, .inr (12, [.int (iz (sg)), .ref b])), (b, zaI (G.2 1) N (f))] H → va_D A [(a, .inr (12, [.int (iz (sg)), .ref b])), (b, zaI (G.2 1) N (f))] → va_S A s.heap H locs → lv_has ls 4 [(3, .int (iz (k))), (1, .long (lz (q))), (0, .ref a)] → W p l e rm_c_X11_number s m ([.ref a] : List Value).toArray below meth c H locs 0 0 Q (F0 m 10 ls []) := by
    intro zn_10
    induction zn_10 with
    | zero => intro k q H locs ls hm; exact absurd hm (Nat.not_lt_zero _)
    | succ zn_10 ih_10 =>
      intro k q H locs ls hm_10 k1 k2 hP hD hS hl
      refine lv_iload_n hx hb dX11_number_10 rfl (lv_at hl 0 rfl) ?_
      refine zr_if_lt (x := k) (tgt := 34) hx hb (⟨by omega, by omega⟩) dX11_number_11 (by decide) (fun h_1 => ?_) (fun h_1 => ?_)
      ·
        have hend := tnum_end h1 (show k = -1 by omega) k2
        have g1 := h1.sgi
        refine lv_aload_n hx hb dX11_number_34 rfl (lv_at hl 2 rfl) ?_
        refine va_get (D := G.1) (ci := 12) (v := .int (iz (sg))) (C := RX11) (T := TX11) (N := 2) hx hb hts iwX11 hown hK hP 0 rfl rfl 0 (by decide) (hts (.fieldLink RX11 7 "AnnuityHouseModel$Whole" "sign" "I") (by decide +kernel)) (fun _ h9 => h9) rfl dX11_number_35 ?_
        refine zr_if_ge (x := sg) (tgt := 46) hx hb (⟨by omega, by omega⟩) dX11_number_38 (by decide) (fun h_2 => ?_) (fun h_2 => ?_)
        ·
          refine lv_lload_n hx hb dX11_number_46 rfl (lv_at hl 1 rfl) ?_
          rw [hQ]
          exact zr_lret (z := q) (u := ()) hx hb hr hlocks hP hD hS (by first | exact Nat.le_of_ble_eq_true rfl | omega) (by first | exact Nat.le_of_ble_eq_true rfl | omega) dX11_number_47 (show q = v from by first | exact hend.1 (by omega) | exact hend.2 (by omega))
        ·
          refine lv_lload_n hx hb dX11_number_41 rfl (lv_at hl 1 rfl) ?_
          refine zr_lneg hx hb dX11_number_42 ?_
          refine lv_goto (tgt := 47) hx hb dX11_number_43 (by decide) ?_
          rw [hQ]
          exact zr_lret (z := -(q)) (u := ()) hx hb hr hlocks hP hD hS (by first | exact Nat.le_of_ble_eq_true rfl | omega) (by first | exact Nat.le_of_ble_eq_true rfl | omega) dX11_number_47 (show (-(q)) = v from by first | exact hend.1 (by omega) | exact hend.2 (by omega))
      ·
        have d1 := h1.dig k (by omega) (by omega)
        refine lv_lload_n hx hb dX11_number_14 rfl (lv_at hl 1 rfl) ?_
        refine zr_ldc2 (z := 10000) hx hb hown (hts (.constantLong RX11 17 (10000)) (by decide +kernel)) rfl dX11_number_15 ?_
        refine zr_lmul hx hb dX11_number_18 ?_
        refine lv_aload_n hx hb dX11_number_19 rfl (lv_at hl 2 rfl) ?_
        refine va_get (D := G.1) (ci := 12) (v := .ref b) (C := RX11) (T := TX11) (N := 2) hx hb hts iwX11 hown hK hP 0 rfl rfl 1 (by decide) (hts (.fieldLink RX11 13 "AnnuityHouseModel$Whole" "limbs" "[I") (by decide +kernel)) (fun _ h9 => h9) rfl dX11_number_20 ?_
        refine lv_iload_n hx hb dX11_number_23 rfl (lv_at hl 0 rfl) ?_
        refine zr_iald hx hb hK hP 1 1 rfl rfl (i := k) (⟨by omega, by omega, by omega⟩) dX11_number_24 ?_
        refine zr_i2l hx hb (x := f k) (⟨by omega, by omega⟩) dX11_number_25 ?_
        refine zr_ladd hx hb dX11_number_26 ?_
        refine lv_lstore_n (lv' := [(1, .long (lz ((q * 10000) + (f k)))), (3, .int (iz (k))), (0, .ref a)]) hx hb dX11_number_27 rfl hl (by decide) rfl (fun ls hl => ?_)
        refine lv_iinc (v := iz (k - 1)) (lv' := [(3, .int (iz (k - 1))), (1, .long (lz ((q * 10000) + (f k)))), (0, .ref a)]) hx hb dX11_number_28 hl (k := 1) rfl (by rw [show Int32.ofInt (-1) = iz (-1) from rfl, iz_add]; exact congrArg iz (by omega)) (by decide) rfl (fun ls hl => ?_)
        refine lv_goto (tgt := 10) hx hb dX11_number_31 (by decide) ?_
        exact ih_10 (k - 1) ((q * 10000) + (f k)) _ _ _ (by omega) (by omega) (by rw [show k - 1 + 1 = k by omega, tquot_step h1.dig (by omega) (by omega), k2]) (hP) (hD) hS (hl)
  exact hl_10 (((N - 1) + 1 : Int).toNat + 1) (N - 1) 0 _ _ _ (Nat.lt_succ_self _) (by omega) (by rw [show ((N : Int) - 1 + 1).toNat = N by omega, Int.ediv_eq_zero_of_lt h1.s0 (tsum_rng h1.dig).2]) (hP) (hD) hS (hl)
