-- THE LAW: rows of its own
abbrev zlA (s : State) : Nat → Prop := fun q : Nat => s.heap.size ≤ q
/-- the script's k-th number -/
def zv (xs : Nat → Int32) (k : Nat) : Int := (xs k).toInt
theorem zv_rng (xs : Nat → Int32) (k : Nat) : -2147483648 ≤ zv xs k ∧ zv xs k < 2147483648 := iz_rng (xs k)
/-- a long out of two ints -/
def zsh (x : Int) : Int := (lz x <<< ((iz 32).toInt64 &&& 63)).toInt
def zan (x : Int) : Int := (lz x &&& lz 4294967295).toInt
def zlo (x y : Int) : Int := (lz (zsh x) ||| lz (zan y)).toInt
theorem zlo_rng (x y : Int) : -9223372036854775808 ≤ zlo x y ∧ zlo x y < 9223372036854775808 := lz_rng _
section ZLW
variable {p : Program} {l : Launch} {e : Env} {R : Room} {s : State} {m : MethodId} {args : Array Value} {below : List Frame} {meth : Method} {c : Code} {H : Heap} {locs : List Loc} {cells slots : Nat} {Q : State → Prop}
variable {cc : ByteArray} {pc : Nat} {ls : Array Slot} {rest st0 : List Value} {A : Nat → Prop} {b L : Nat} {xs : Nat → Int32}
theorem zr_sld (hexec : p.tables.exec = Jvm.exec) (hb : c.code = cc) (hX : va_X b L xs s s.heap) (hbl : b < s.heap.size) (hbA : ¬ A b) (hS : va_S A s.heap H locs) {i : Int} (k : Nat) (hk : i = (k : Int)) (h : k < L) (hL : L < 2147483648) (hdg : decode cc pc = .ok (.iaload, 1)) (kk : W p l e R s m args below meth c H locs cells slots Q (F0 m (pc + 1) ls (.int (iz (zv xs k)) :: rest))) : W p l e R s m args below meth c H locs cells slots Q (F0 m pc ls (.int (iz i) :: .ref b :: rest)) := by
  refine va_sld hexec hb hX hbl hbA hS (iz_in (by omega) (by omega) hL) hdg ?_
  have e1 : (iz i).toNatClampNeg = k := by rw [iz_cl (by omega) (by omega)]; omega
  rw [e1, iz_of (xs k)]
  exact kk
theorem zr_lcmpS (hexec : p.tables.exec = Jvm.exec) (hb : c.code = cc) {x y : Int} (hxy : x = y) {off : Int} {tgt : Nat} (hd0 : decode cc pc = .ok (.lcmp, 1)) (hdg : decode cc (pc + 1) = .ok (.ifCond .eq off, 3)) (ht : ((pc + 1 : Nat) : Int) + off = (tgt : Int)) (k : W p l e R s m args below meth c H locs cells slots Q (F0 m tgt ls rest)) : W p l e R s m args below meth c H locs cells slots Q (F0 m pc ls (.long (lz y) :: .long (lz x) :: rest)) := W.lcmp hexec hb hd0 (lv_if_eq hexec hb hdg ht (fun _ => k) (fun h => absurd ((lg_cmp_eq (lz x) (lz y)).mpr (congrArg lz hxy)) h))
theorem zr_icmpS (hexec : p.tables.exec = Jvm.exec) (hb : c.code = cc) {x y : Int} (hxy : x = y) {off : Int} {tgt : Nat} (hdg : decode cc pc = .ok (.if_icmp .eq off, 3)) (ht : (pc : Int) + off = (tgt : Int)) (k : W p l e R s m args below meth c H locs cells slots Q (F0 m tgt ls rest)) : W p l e R s m args below meth c H locs cells slots Q (F0 m pc ls (.int (iz y) :: .int (iz x) :: rest)) := lv_icmp_eq hexec hb hdg ht (fun _ => k) (fun h => absurd (congrArg iz hxy) h)
theorem zr_lshl32 (hexec : p.tables.exec = Jvm.exec) (hb : c.code = cc) {x : Int} (hdg : decode cc pc = .ok (.lshl, 1)) (kk : W p l e R s m args below meth c H locs cells slots Q (F0 m (pc + 1) ls (.long (lz (zsh x)) :: rest))) : W p l e R s m args below meth c H locs cells slots Q (F0 m pc ls (.int (iz 32) :: .long (lz x) :: rest)) := lv_lshl hexec hb hdg (lz_of _) kk
theorem zr_land32 (hexec : p.tables.exec = Jvm.exec) (hb : c.code = cc) {x : Int} (hdg : decode cc pc = .ok (.land, 1)) (kk : W p l e R s m args below meth c H locs cells slots Q (F0 m (pc + 1) ls (.long (lz (zan x)) :: rest))) : W p l e R s m args below meth c H locs cells slots Q (F0 m pc ls (.long (lz 4294967295) :: .long (lz x) :: rest)) := lv_land hexec hb hdg (by rw [lz_of (lz x &&& lz 4294967295)]; exact kk)
theorem zr_lor32 (hexec : p.tables.exec = Jvm.exec) (hb : c.code = cc) {x y : Int} (hdg : decode cc pc = .ok (.lor, 1)) (kk : W p l e R s m args below meth c H locs cells slots Q (F0 m (pc + 1) ls (.long (lz (zlo x y)) :: rest))) : W p l e R s m args below meth c H locs cells slots Q (F0 m pc ls (.long (lz (zan y)) :: .long (lz (zsh x)) :: rest)) := lv_lor hexec hb hdg (by rw [lz_of (lz (zsh x) ||| lz (zan y))]; exact kk)
theorem zr_f2d0 (hexec : p.tables.exec = Jvm.exec) (hb : c.code = cc) (hdg : decode cc pc = .ok (.f2d, 1)) (kk : W p l e R s m args below meth c H locs cells slots Q (F0 m (pc + 1) ls (.double FP.dconst0 :: rest))) : W p l e R s m args below meth c H locs cells slots Q (F0 m pc ls (.float FP.fconst0 :: rest)) := lv_f2d hexec hb hdg (by show FP.f2d FP.fconst0 &&& 0x7fffffffffffffff ≤ 0x7ff0000000000000; decide +kernel) (by rw [show FP.f2d FP.fconst0 = FP.dconst0 from by decide +kernel]; exact kk)
theorem zr_dcmp0 (hexec : p.tables.exec = Jvm.exec) (hb : c.code = cc) {op : CmpOp} (hdg : decode cc pc = .ok (.dcmp op, 1)) (hop : Op.cmpValue (FP.dcmp FP.dconst0 FP.dconst0) op = 0) (kk : W p l e R s m args below meth c H locs cells slots Q (F0 m (pc + 1) ls (.int (iz 0) :: rest))) : W p l e R s m args below meth c H locs cells slots Q (F0 m pc ls (.double FP.dconst0 :: .double FP.dconst0 :: rest)) := lv_dcmp hexec hb hdg (by rw [hop]; exact kk)
end ZLW
section ZCD
variable {p : Program} {l : Launch} {e : Env} {R : Room} {s : State} {m : MethodId} {args : Array Value} {below : List Frame} {meth : Method} {c : Code} {H : Heap} {locs : List Loc} {cells slots : Nat} {Q : State → Prop}
variable {cc : ByteArray} {pc : Nat} {ls : Array Slot} {rest st0 : List Value} {G : zG} {A : Nat → Prop} {ws W0 wr : va_W} {H0 : Heap} {mc ms : Nat} {av : Array Value} {S : Type}
theorem zc_d {post : UInt64 → S → Prop} {W1 : S → va_W} (hr : va_Run p l e R s m args below meth c H locs cells slots mc ms (F0 m pc ls st0) rest (zQd G post W1 (va_A W0 H.size) av) (va_A W0 H.size)) (hP : va_P G.1 vwCl ws H) (hD : va_D A ws) (hS : va_S A H0 H locs) (hA : ∀ q : Nat, H0.size ≤ q → A q) (isC isR : List Nat) (hC : isC.map (fun i => ws[i]?) = W0.map some) (hR : isR.map (fun i => ws[i]?) = wr.map some) (hn : va_nd isR = true) (hdis : ∀ i ∈ isR, i ∉ isC)
    (kk : ∀ (z : UInt64) (u : S) (H1 : Heap) (locs1 : List Loc), post z u → va_P G.1 vwCl (wr ++ W1 u) H1 → va_D A (wr ++ W1 u) → va_S A H0 H1 locs1 → W p l e R s m args below meth c H1 locs1 (cells + mc) (slots + ms) Q (F0 m (pc + 3) ls (.double z :: rest))) : W p l e R s m args below meth c H locs cells slots Q (F0 m pc ls st0) := by
  have hF := va_free (wc := W0) hD hS hA isC hC
  refine va_calld hr hS (fun q _ h => hF q h) hF (fun r u t H1 locs1 ht hvm hw hB hz1 hk1 hS1 => ?_)
  obtain ⟨hP1, hD1⟩ := hB
  rw [ht] at hP1
  obtain ⟨hP2, hD2⟩ := va_join (wr := wr) (w1 := W1 u) hP hD isC isR hC hR hn hdis hk1 hF hP1 hD1
  exact kk r u H1 locs1 hw hP2 hD2 hS1
theorem zc_f {post : UInt32 → S → Prop} {W1 : S → va_W} (hr : va_Run p l e R s m args below meth c H locs cells slots mc ms (F0 m pc ls st0) rest (zQf G post W1 (va_A W0 H.size) av) (va_A W0 H.size)) (hP : va_P G.1 vwCl ws H) (hD : va_D A ws) (hS : va_S A H0 H locs) (hA : ∀ q : Nat, H0.size ≤ q → A q) (isC isR : List Nat) (hC : isC.map (fun i => ws[i]?) = W0.map some) (hR : isR.map (fun i => ws[i]?) = wr.map some) (hn : va_nd isR = true) (hdis : ∀ i ∈ isR, i ∉ isC)
    (kk : ∀ (z : UInt32) (u : S) (H1 : Heap) (locs1 : List Loc), post z u → va_P G.1 vwCl (wr ++ W1 u) H1 → va_D A (wr ++ W1 u) → va_S A H0 H1 locs1 → W p l e R s m args below meth c H1 locs1 (cells + mc) (slots + ms) Q (F0 m (pc + 3) ls (.float z :: rest))) : W p l e R s m args below meth c H locs cells slots Q (F0 m pc ls st0) := by
  have hF := va_free (wc := W0) hD hS hA isC hC
  refine va_callf hr hS (fun q _ h => hF q h) hF (fun r u t H1 locs1 ht hvm hw hB hz1 hk1 hS1 => ?_)
  obtain ⟨hP1, hD1⟩ := hB
  rw [ht] at hP1
  obtain ⟨hP2, hD2⟩ := va_join (wr := wr) (w1 := W1 u) hP hD isC isR hC hR hn hdis hk1 hF hP1 hD1
  exact kk r u H1 locs1 hw hP2 hD2 hS1
end ZCD
theorem zby_uni {cp fa pr mo z1 z2 : Int} (h1 : (z1 = -1 ∧ ¬ zcheap cp fa pr mo 20000) ∨ (0 ≤ z1 ∧ z1 ≤ 20000 ∧ zcheap cp fa pr mo z1 ∧ ∀ p : Int, 0 ≤ p → p < z1 → ¬ zcheap cp fa pr mo p)) (h2 : (z2 = -1 ∧ ¬ zcheap cp fa pr mo 20000) ∨ (0 ≤ z2 ∧ z2 ≤ 20000 ∧ zcheap cp fa pr mo z2 ∧ ∀ p : Int, 0 ≤ p → p < z2 → ¬ zcheap cp fa pr mo p)) (hc : 0 ≤ cp ∧ cp ≤ 1000000000 ∧ 0 ≤ fa ∧ fa ≤ 1000000000) : z1 = z2 := by
  rcases h1 with ⟨a1, a2⟩ | ⟨a1, a2, a3, a4⟩ <;> rcases h2 with ⟨b1, b2⟩ | ⟨b1, b2, b3, b4⟩
  · omega
  · exact absurd (zcheap_mono hc b1 b2 b3) a2
  · exact absurd (zcheap_mono hc a1 a2 a3) b2
  · rcases Int.lt_trichotomy z1 z2 with q | q | q
    · exact absurd a3 (b4 z1 a1 q)
    · exact q
    · exact absurd b3 (a4 z2 b1 q)
-- the law's end
set_option maxHeartbeats 1000000 in
theorem zl_end {p : Program} {e : Env} {s : State} {m : MethodId} {below : List Frame} {meth : Method} {c : Code} {l : Launch} {b L : Nat} {xs : Nat → Int32} (hL8 : L = 8) (C0 : lw_At p s m meth c b L xs) {H : Heap} {locs : List Loc} {ls : Array Slot} {cells slots : Nat} (hS : va_S (zlA s) s.heap H locs) (hl : lv_has ls 9 [(0, .ref b), (4, .int (iz 0))]) (hc : cells ≤ 600002) (hs : slots ≤ 7302232) : W p l e room_1 s m #[Value.ref b] below meth c H locs cells slots (lw_Z below #[Value.ref b] s) (F0 m 3039 ls []) := by
  obtain ⟨hx, hb, hr, hml, hown, hts, hX, hbl, hlocks, hgv⟩ := id C0
  have hbA : ¬ zlA s b := Nat.not_le.mpr hbl
  refine lv_iinc (v := iz (0 + 8)) (lv' := [(4, .int (iz (0 + 8))), (0, .ref b)]) hx hb dL_law_3039 hl (k := 1) rfl (by rw [show Int32.ofInt (8) = iz (8) from rfl, iz_add]) (by decide) rfl (fun ls hl => ?_)
  refine lv_goto (tgt := 23) hx hb dL_law_3042 (by decide) ?_
  refine lv_iload hx hb dL_law_23 (lv_at hl 0 rfl) ?_
  refine lv_aload_n hx hb dL_law_25 rfl (lv_at hl 1 rfl) ?_
  refine va_slen hx hb hX hbl hbA hS dL_law_26 ?_
  rw [iz_nat, hL8]
  refine lv_bipush (v := iz (8)) hx hb dL_law_27 rfl ?_
  refine zr_isub hx hb dL_law_29 ?_
  refine zr_icmp_gt (x := 0 + 8) (y := ((8 : Nat) : Int) - 8) (tgt := 3045) hx hb (by decide) (by decide) dL_law_30 (by decide) (fun h => ?_) (fun h => absurd h (by decide))
  refine lv_iconst (v := iz (1)) hx hb dL_law_3045 rfl ?_
  refine va_forget (fun q hq => hS.2.2 q hq) ?_
  refine W.widen (k := 600002) (n := 7302232) hc hs ?_
  exact lw_ret (d0 := s.drawn) (Drawn.sameBut.refl s.drawn lw_cs) hx hb hr hlocks dL_law_3046
def rm_c_X12_thrown_v : Room := { frames := 0, cells := 0, slots := 0, locals := 0 }
set_option maxHeartbeats 1000000 in
set_option maxRecDepth 100000 in
theorem c_X12_thrown_v (l : Launch) (G : zG) (x : Nat) (th : Int) (w1 : Value) (w2 : Value) (w3 : Value) (w4 : Value) (w5 : Value) (w6 : Value) (w7 : Value) (w8 : Value) (w9 : Value) (w10 : Value) (md : Int)  : zM l G yX12_thrown wsX12_thrown rm_c_X12_thrown_v [.ref x] [(x, .inr (13, [.int (iz (th)), .int (iz (md)), w1, w2, w3, w4, w5, w6, w7, w8, w9, w10]))] (fun A => zQi G (fun (z : Int) (_ : Unit) => z = th) (fun (_ : Unit) => [(x, .inr (13, [.int (iz (th)), .int (iz (md)), w1, w2, w3, w4, w5, w6, w7, w8, w9, w10]))]) A) 0 0 := by
  refine zM_of (cc := cX12_thrown) (maxL := 1) (ret := (some .int)) (by decide) rfl (Nat.le_of_ble_eq_true rfl) ?_
  intro p e s m below meth c ls A Q hQ hx hb hr hts hown hlocks hml hnm hKX hP hD hA hS hl
  have hK := hKX.1
  have iwX12 := iw_X12_thrown_X12
  obtain ⟨H, hH⟩ : ∃ h, h = s.heap := ⟨_, rfl⟩
  obtain ⟨locs, hlo⟩ : ∃ h : List Loc, h = [] := ⟨_, rfl⟩
  have hS : va_S A s.heap H locs := by rw [hH, hlo]; exact hS
  have hP : va_P G.1 vwCl [(x, .inr (13, [.int (iz (th)), .int (iz (md)), w1, w2, w3, w4, w5, w6, w7, w8, w9, w10]))] H := by rw [hH]; exact hP
  have hD : va_D A [(x, .inr (13, [.int (iz (th)), .int (iz (md)), w1, w2, w3, w4, w5, w6, w7, w8, w9, w10]))] := hD
  have hl : lv_has ls 1 [(0, .ref x)] := hl
  rw [← hH, ← hlo]
  refine lv_aload_n hx hb dX12_thrown_0 rfl (lv_at hl 0 rfl) ?_
  refine va_get (D := G.1) (ci := 13) (v := .int (iz (th))) (C := RX12) (T := TX12) (N := 12) hx hb hts iwX12 hown hK hP 0 rfl rfl 0 (by decide) (hts (.fieldLink RX12 1 "AnnuityHouseModel" "thrown" "I") (by decide +kernel)) (fun _ h9 => h9) rfl dX12_thrown_1 ?_
  rw [hQ]
  exact zr_iret (z := th) (u := ()) hx hb hr hlocks hP hD hS (by first | exact Nat.le_of_ble_eq_true rfl | omega) (by first | exact Nat.le_of_ble_eq_true rfl | omega) dX12_thrown_4 (show th = th from rfl)
