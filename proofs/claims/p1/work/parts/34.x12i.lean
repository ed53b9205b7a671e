-- THE REFERENCE ON A FRESH OBJECT: meanAmount, interestShare (laid by wip/walk/x12i.py)
-- double and float returned
section ZD
variable {p : Program} {l : Launch} {e : Env} {R : Room} {s : State} {m : MethodId} {args : Array Value} {below : List Frame} {meth : Method} {c : Code} {H : Heap} {locs : List Loc} {cells slots : Nat} {Q : State → Prop}
variable {cc : ByteArray} {pc : Nat} {ls : Array Slot} {rest st0 : List Value} {G : zG} {A : Nat → Prop} {ws W0 wr : va_W} {H0 : Heap} {mc ms : Nat} {av : Array Value} {S : Type}
abbrev zQd (G : zG) {S : Type} (post : UInt64 → S → Prop) (W1 : S → va_W) (A : Nat → Prop) := va_Qd (fun (r : UInt64) (u : S) => post r u) (fun u t => va_P G.1 vwCl (W1 u) t.heap ∧ va_D A (W1 u)) A
theorem zr_dret {post : UInt64 → S → Prop} {W1 : S → va_W} {u : S} {z : UInt64} (hexec : p.tables.exec = Jvm.exec) (hb : c.code = cc) (hr : meth.sig.returnType = some .double) (hlocks : meth.locks = false) (hP : va_P G.1 vwCl (W1 u) H) (hD : va_D A (W1 u)) (hS : va_S A s.heap H locs) (hc : cells ≤ mc) (hs : slots ≤ ms) (hdg : decode cc pc = .ok (.dreturn, 1)) (hpost : post z u) : W p l e R s m args below meth c H locs cells slots (MQ below (zQd G post W1 A) args s mc ms A) (F0 m pc ls [.double z]) := W.widen hc hs (W.dret (Qc := zQd G post W1 A) hexec hb hr (fun t ht hW => ⟨⟨_, u, rfl, hpost, by rw [ht]; exact hP, hD⟩, hS.F ht⟩) hS.2.2 hdg hlocks)
abbrev zQf (G : zG) {S : Type} (post : UInt32 → S → Prop) (W1 : S → va_W) (A : Nat → Prop) := va_Qf (fun (r : UInt32) (u : S) => post r u) (fun u t => va_P G.1 vwCl (W1 u) t.heap ∧ va_D A (W1 u)) A
theorem zr_fret {post : UInt32 → S → Prop} {W1 : S → va_W} {u : S} {z : UInt32} (hexec : p.tables.exec = Jvm.exec) (hb : c.code = cc) (hr : meth.sig.returnType = some .float) (hlocks : meth.locks = false) (hP : va_P G.1 vwCl (W1 u) H) (hD : va_D A (W1 u)) (hS : va_S A s.heap H locs) (hc : cells ≤ mc) (hs : slots ≤ ms) (hdg : decode cc pc = .ok (.freturn, 1)) (hpost : post z u) : W p l e R s m args below meth c H locs cells slots (MQ below (zQf G post W1 A) args s mc ms A) (F0 m pc ls [.float z]) := W.widen hc hs (W.fret (Qc := zQf G post W1 A) hexec hb hr (fun t ht hW => ⟨⟨_, u, rfl, hpost, by rw [ht]; exact hP, hD⟩, hS.F ht⟩) hS.2.2 hdg hlocks)
end ZD
def rm_c_X12_meanAmount : Room := { frames := 1, cells := 0, slots := 0, locals := 22 }
theorem iw_X12_meanAmount_X12 : ∀ w ∈ wsX120, w ∈ wsX12_meanAmount := by decide +kernel
set_option maxHeartbeats 1000000 in
set_option maxRecDepth 100000 in
theorem c_X12_meanAmount (l : Launch) (G : zG) (x : Nat) (am : Nat) (tb : Nat) (lv : Nat) (wt : Nat) (bg : Nat) (pm : Nat) (th : Int)  : zM l G yX12_meanAmount wsX12_meanAmount rm_c_X12_meanAmount [.ref x] [(x, .inr (13, [.int (iz (th)), .int (iz (6)), .ref am, .null, .ref tb, .ref lv, .int (iz (0)), .ref wt, .int (iz (0)), .ref bg, .ref pm, .int (iz (0))])), (am, zaL (G.2 0) 41 (fun _ => 0))] (fun A => zQd G (fun (z : UInt64) (th2 : Int) => z = FP.dconst0 ∧ th2 = 0) (fun (th2 : Int) => [(x, .inr (13, [.int (iz (th2)), .int (iz (6)), .ref am, .null, .ref tb, .ref lv, .int (iz (0)), .ref wt, .int (iz (0)), .ref bg, .ref pm, .int (iz (0))]))]) A) 0 0 := by
  refine zM_of (cc := cX12_meanAmount) (maxL := 4) (ret := (some .double)) (by decide) rfl (Nat.le_of_ble_eq_true rfl) ?_
  intro p e s m below meth c ls A Q hQ hx hb hr hts hown hlocks hml hnm hKX hP hD hA hS hl
  have hK := hKX.1
  have iwX12 := iw_X12_meanAmount_X12
  obtain ⟨H, hH⟩ : ∃ h, h = s.heap := ⟨_, rfl⟩
  obtain ⟨locs, hlo⟩ : ∃ h : List Loc, h = [] := ⟨_, rfl⟩
  have hS : va_S A s.heap H locs := by rw [hH, hlo]; exact hS
  have hP : va_P G.1 vwCl [(x, .inr (13, [.int (iz (th)), .int (iz (6)), .ref am, .null, .ref tb, .ref lv, .int (iz (0)), .ref wt, .int (iz (0)), .ref bg, .ref pm, .int (iz (0))])), (am, zaL (G.2 0) 41 (fun _ => 0))] H := by rw [hH]; exact hP
  have hD : va_D A [(x, .inr (13, [.int (iz (th)), .int (iz (6)), .ref am, .null, .ref tb, .ref lv, .int (iz (0)), .ref wt, .int (iz (0)), .ref bg, .ref pm, .int (iz (0))])), (am, zaL (G.2 0) 41 (fun _ => 0))] := hD
  have hl : lv_has ls 4 [(0, .ref x)] := hl
  rw [← hH, ← hlo]
  refine lv_aload_n hx hb dX12_meanAmount_0 rfl (lv_at hl 0 rfl) ?_
  refine lv_iconst (v := iz (0)) hx hb dX12_meanAmount_1 rfl ?_
  refine va_put (D := G.1) (ci := 13) (v := .int (iz (0))) (ty := .int) (C := RX12) (T := TX12) (N := 12) hx hb hts iwX12 tyX12 tyX12_ok nmX12 hown hK hP hD hS 0 rfl rfl 0 (by decide) (hts (.fieldLink RX12 1 "AnnuityHouseModel" "thrown" "I") (by decide +kernel)) (fun _ h9 => h9) rfl (by decide +kernel) rfl rfl (Nat.le_of_ble_eq_true rfl) dX12_meanAmount_2 (fun H locs hP hD hS => ?_)
  have hP : va_P G.1 vwCl [(x, .inr (13, [.int (iz (0)), .int (iz (6)), .ref am, .null, .ref tb, .ref lv, .int (iz (0)), .ref wt, .int (iz (0)), .ref bg, .ref pm, .int (iz (0))])), (am, zaL (G.2 0) 41 (fun _ => 0))] H := hP
  have hD : va_D A [(x, .inr (13, [.int (iz (0)), .int (iz (6)), .ref am, .null, .ref tb, .ref lv, .int (iz (0)), .ref wt, .int (iz (0)), .ref bg, .ref pm, .int (iz (0))])), (am, zaL (G.2 0) 41 (fun _ => 0))] := hD
  refine lv_lconst (v := lz (0)) hx hb dX12_meanAmount_5 rfl ?_
  refine lv_lstore_n (lv' := [(1, .long (lz (0))), (0, .ref x)]) hx hb dX12_meanAmount_6 rfl hl (by decide) rfl (fun ls hl => ?_)
  refine lv_iconst (v := iz (0)) hx hb dX12_meanAmount_7 rfl ?_
  refine lv_istore_n (lv' := [(3, .int (iz (0))), (1, .long (lz (0))), (0, .ref x)]) hx hb dX12_meanAmount_8 rfl hl (by decide) rfl (fun ls hl => ?_)
  have hl_9 : ∀ (zn_9 : Nat) (i : Int) (w : Int) (H : Heap) (locs : List Loc) (ls : Array Slot), (41 - i).toNat < zn_9 → (0 ≤ i ∧ i ≤ 41) → (w = 0) → va_P G.1 vwCl [(x, .inr (13, [.int (iz (0)), .int (iz (6)), .ref am, .null, .ref tb, .ref lv, .int (iz (0)), .ref wt, .int (iz (0)), .ref bg, .ref pm, .int (iz (0))])), (am, zaL (G.2 0) 41 (fun _ => 0))] H → va_D A [(x, .inr (13, [.int (iz (0)), .int (iz (6)), .ref am, .null, .ref tb, .ref lv, .int (iz (0)), .ref wt, .int (iz (0)), .ref bg, .ref pm, .int (iz (0))])), (am, zaL (G.2 0) 41 (fun _ => 0))] → va_S A s.heap H locs → lv_has ls 4 [(3, .int (iz (i))), (1, .long (lz (w))), (0, .ref x)] → W p l e rm_c_X12_meanAmount s m ([.ref x] : List Value).toArray below meth c H locs 0 0 Q (F0 m 9 ls []) := by
    intro zn_9
    induction zn_9 with
    | zero => intro i w H locs ls hm; exact absurd hm (Nat.not_lt_zero _)
    | succ zn_9 ih_9 =>
      intro i w H locs ls hm_9 k1 k2 hP hD hS hl
      refine lv_iload_n hx hb dX12_meanAmount_9 rfl (lv_at hl 0 rfl) ?_
      refine lv_bipush (v := iz (41)) hx hb dX12_meanAmount_10 rfl ?_
      refine zr_icmp_ge (x := i) (y := 41) (tgt := 30) hx hb (⟨by omega, by omega⟩) (⟨by omega, by omega⟩) dX12_meanAmount_12 (by decide) (fun h_1 => ?_) (fun h_1 => ?_)
      ·
        refine lv_aload_n hx hb dX12_meanAmount_30 rfl (lv_at hl 2 rfl) ?_
        refine zc_i (wr := []) (va_runV (As := []) (rest := []) ⟨hx, hb, hml, hown, hts⟩ (c_X12_amountsThere l G x am tb lv wt bg pm 0  H.size) (cwV 0 hts gX12_meanAmount_X12_amountsThere rfl rfl rfl (by decide +kernel) ⟨Nat.le_of_ble_eq_true rfl, Nat.le_of_ble_eq_true rfl⟩) (zpV hKX hP hD [0, 1] rfl rfl 0 13 rfl rfl) rfl rfl hl.1 rfl (lv_room (Nat.le_of_ble_eq_true rfl)) dX12_meanAmount_31 ⟨(by first | exact Nat.le_of_ble_eq_true rfl | (show _ ≤ (0 : Nat); omega)), (by first | exact Nat.le_of_ble_eq_true rfl | (show _ ≤ (0 : Nat); omega))⟩) hP hD hS hA [0, 1] [] rfl rfl rfl (by decide) (fun y1 u_2 H locs hy1 hP hD hS => ?_)
        have hP : va_P G.1 vwCl [(x, .inr (13, [.int (iz ((0 : Int))), .int (iz (6)), .ref am, .null, .ref tb, .ref lv, .int (iz (0)), .ref wt, .int (iz (0)), .ref bg, .ref pm, .int (iz (0))])), (am, zaL (G.2 0) 41 (fun _ => 0))] H := hP
        have hD : va_D A [(x, .inr (13, [.int (iz ((0 : Int))), .int (iz (6)), .ref am, .null, .ref tb, .ref lv, .int (iz (0)), .ref wt, .int (iz (0)), .ref bg, .ref pm, .int (iz (0))])), (am, zaL (G.2 0) 41 (fun _ => 0))] := hD
        have hy1 : y1 = 0 := hy1
        refine zr_if_ne (x := y1) (tgt := 41) hx hb (⟨by omega, by omega⟩) dX12_meanAmount_34 (by decide) (fun h_4 => ?_) (fun h_4 => ?_)
        · exact absurd h_4 (by omega)
        ·
          refine lv_dconst0 hx hb dX12_meanAmount_37 ?_
          refine lv_goto (tgt := 49) hx hb dX12_meanAmount_38 (by decide) ?_
          rw [hQ]
          exact zr_dret (z := FP.dconst0) (u := ((0 : Int))) hx hb hr hlocks (hP.sub [0] rfl) (hD.sub [0] (by decide) rfl) hS (by first | exact Nat.le_of_ble_eq_true rfl | omega) (by first | exact Nat.le_of_ble_eq_true rfl | omega) dX12_meanAmount_49 (show FP.dconst0 = FP.dconst0 ∧ 0 = 0 from ⟨rfl, rfl⟩)
      ·
        refine lv_lload_n hx hb dX12_meanAmount_15 rfl (lv_at hl 1 rfl) ?_
        refine lv_aload_n hx hb dX12_meanAmount_16 rfl (lv_at hl 2 rfl) ?_
        refine va_get (D := G.1) (ci := 13) (v := .ref am) (C := RX12) (T := TX12) (N := 12) hx hb hts iwX12 hown hK hP 0 rfl rfl 2 (by decide) (hts (.fieldLink RX12 65 "AnnuityHouseModel" "amounts" "[J") (by decide +kernel)) (fun _ h9 => h9) rfl dX12_meanAmount_17 ?_
        refine lv_iload_n hx hb dX12_meanAmount_20 rfl (lv_at hl 0 rfl) ?_
        refine zr_lald hx hb hK hP 1 0 rfl rfl (i := i) (⟨by omega, by omega, by omega⟩) dX12_meanAmount_21 ?_
        refine zr_eql (x := (fun _ => 0) i) (y := 0) rfl ?_
        refine zr_ladd hx hb dX12_meanAmount_22 ?_
        refine lv_lstore_n (lv' := [(1, .long (lz (w + 0))), (3, .int (iz (i))), (0, .ref x)]) hx hb dX12_meanAmount_23 rfl hl (by decide) rfl (fun ls hl => ?_)
        refine lv_iinc (v := iz (i + 1)) (lv' := [(3, .int (iz (i + 1))), (1, .long (lz (w + 0))), (0, .ref x)]) hx hb dX12_meanAmount_24 hl (k := 1) rfl (by rw [show Int32.ofInt (1) = iz (1) from rfl, iz_add]) (by decide) rfl (fun ls hl => ?_)
        refine lv_goto (tgt := 9) hx hb dX12_meanAmount_27 (by decide) ?_
        exact ih_9 (i + 1) (w + 0) _ _ _ (by omega) (by omega) (by omega) (hP) (hD) hS (hl)
  exact hl_9 ((41 - 0 : Int).toNat + 1) 0 0 _ _ _ (Nat.lt_succ_self _) (by omega) (by omega) (hP) (hD) hS (hl)

def rm_c_X12_interestShare : Room := { frames := 0, cells := 0, slots := 0, locals := 0 }
theorem iw_X12_interestShare_X12 : ∀ w ∈ wsX120, w ∈ wsX12_interestShare := by decide +kernel
set_option maxHeartbeats 1000000 in
set_option maxRecDepth 100000 in
theorem c_X12_interestShare (l : Launch) (G : zG) (x : Nat) (am : Nat) (tb : Nat) (lv : Nat) (wt : Nat) (bg : Nat) (pm : Nat) (th : Int)  : zM l G yX12_interestShare wsX12_interestShare rm_c_X12_interestShare [.ref x] [(x, .inr (13, [.int (iz (th)), .int (iz (6)), .ref am, .null, .ref tb, .ref lv, .int (iz (0)), .ref wt, .int (iz (0)), .ref bg, .ref pm, .int (iz (0))]))] (fun A => zQf G (fun (z : UInt32) (th2 : Int) => z = FP.fconst0 ∧ th2 = 0) (fun (th2 : Int) => [(x, .inr (13, [.int (iz (th2)), .int (iz (6)), .ref am, .null, .ref tb, .ref lv, .int (iz (0)), .ref wt, .int (iz (0)), .ref bg, .ref pm, .int (iz (0))]))]) A) 0 0 := by
  refine zM_of (cc := cX12_interestShare) (maxL := 1) (ret := (some .float)) (by decide) rfl (Nat.le_of_ble_eq_true rfl) ?_
  intro p e s m below meth c ls A Q hQ hx hb hr hts hown hlocks hml hnm hKX hP hD hA hS hl
  have hK := hKX.1
  have iwX12 := iw_X12_interestShare_X12
  obtain ⟨H, hH⟩ : ∃ h, h = s.heap := ⟨_, rfl⟩
  obtain ⟨locs, hlo⟩ : ∃ h : List Loc, h = [] := ⟨_, rfl⟩
  have hS : va_S A s.heap H locs := by rw [hH, hlo]; exact hS
  have hP : va_P G.1 vwCl [(x, .inr (13, [.int (iz (th)), .int (iz (6)), .ref am, .null, .ref tb, .ref lv, .int (iz (0)), .ref wt, .int (iz (0)), .ref bg, .ref pm, .int (iz (0))]))] H := by rw [hH]; exact hP
  have hD : va_D A [(x, .inr (13, [.int (iz (th)), .int (iz (6)), .ref am, .null, .ref tb, .ref lv, .int (iz (0)), .ref wt, .int (iz (0)), .ref bg, .ref pm, .int (iz (0))]))] := hD
  have hl : lv_has ls 1 [(0, .ref x)] := hl
  rw [← hH, ← hlo]
  refine lv_aload_n hx hb dX12_interestShare_0 rfl (lv_at hl 0 rfl) ?_
  refine lv_iconst (v := iz (0)) hx hb dX12_interestShare_1 rfl ?_
  refine va_put (D := G.1) (ci := 13) (v := .int (iz (0))) (ty := .int) (C := RX12) (T := TX12) (N := 12) hx hb hts iwX12 tyX12 tyX12_ok nmX12 hown hK hP hD hS 0 rfl rfl 0 (by decide) (hts (.fieldLink RX12 1 "AnnuityHouseModel" "thrown" "I") (by decide +kernel)) (fun _ h9 => h9) rfl (by decide +kernel) rfl rfl (Nat.le_of_ble_eq_true rfl) dX12_interestShare_2 (fun H locs hP hD hS => ?_)
  have hP : va_P G.1 vwCl [(x, .inr (13, [.int (iz (0)), .int (iz (6)), .ref am, .null, .ref tb, .ref lv, .int (iz (0)), .ref wt, .int (iz (0)), .ref bg, .ref pm, .int (iz (0))]))] H := hP
  have hD : va_D A [(x, .inr (13, [.int (iz (0)), .int (iz (6)), .ref am, .null, .ref tb, .ref lv, .int (iz (0)), .ref wt, .int (iz (0)), .ref bg, .ref pm, .int (iz (0))]))] := hD
  refine lv_aload_n hx hb dX12_interestShare_5 rfl (lv_at hl 0 rfl) ?_
  refine va_get (D := G.1) (ci := 13) (v := .null) (C := RX12) (T := TX12) (N := 12) hx hb hts iwX12 hown hK hP 0 rfl rfl 3 (by decide) (hts (.fieldLink RX12 217 "AnnuityHouseModel" "loan" "LAnnuityHouseModel$Loan;") (by decide +kernel)) (fun _ h9 => h9) rfl dX12_interestShare_6 ?_
  refine lv_ifnonnullN hx hb dX12_interestShare_9 ?_
  refine lv_fconst0 hx hb dX12_interestShare_12 ?_
  refine lv_goto (tgt := 29) hx hb dX12_interestShare_13 (by decide) ?_
  rw [hQ]
  exact zr_fret (z := FP.fconst0) (u := (0)) hx hb hr hlocks hP hD hS (by first | exact Nat.le_of_ble_eq_true rfl | omega) (by first | exact Nat.le_of_ble_eq_true rfl | omega) dX12_interestShare_29 (show FP.fconst0 = FP.fconst0 ∧ 0 = 0 from ⟨rfl, rfl⟩)
