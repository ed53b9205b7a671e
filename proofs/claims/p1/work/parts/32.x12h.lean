-- THE REFERENCE: Loan (laid by wip/walk/x12h.py)
-- arrays of boolean over Int
section ZB
variable {p : Program} {l : Launch} {e : Env} {R : Room} {s : State} {m : MethodId} {args : Array Value} {below : List Frame} {meth : Method} {c : Code} {H : Heap} {locs : List Loc} {cells slots : Nat} {Q : State → Prop}
variable {cc : ByteArray} {pc : Nat} {ls : Array Slot} {rest st0 : List Value} {G : zG} {A : Nat → Prop} {ws W0 wr : va_W} {H0 : Heap} {mc ms : Nat} {av : Array Value} {S : Type}
abbrev zaZ (k : ClassId) (n : Nat) (f : Int → Int) : va_E := .inl (k, n, .inl (zrowI f))
theorem zr_newaZ (hexec : p.tables.exec = Jvm.exec) (hb : c.code = cc) (harr : (Cond.arrayClass .boolean).before args s = true) (hK : va_K G.1 vwCl (zT G.2) s) (hP : va_P G.1 vwCl ws H) (hD : va_D A ws) (hS : va_S A H0 H locs) (hA : ∀ q : Nat, H0.size ≤ q → A q) {n : Int} {N : Nat} (h0 : 0 ≤ n) (hN : N = n.toNat) (hN2 : n ≤ 60000000) (hcells : cells + 1 ≤ R.cells) (hslots : slots + N ≤ R.slots) (hdg : decode cc pc = .ok (.newarray .boolean, 2))
    (kk : ∀ (q : Nat) (H1 : Heap), va_P G.1 vwCl (ws ++ [(q, zaZ (G.2 2) N (fun _ => 0))]) H1 → va_D A (ws ++ [(q, zaZ (G.2 2) N (fun _ => 0))]) → va_S A H0 H1 locs → W p l e R s m args below meth c H1 locs (cells + 1) (slots + N) Q (F0 m (pc + 2) ls (.ref q :: rest))) : W p l e R s m args below meth c H locs cells slots Q (F0 m pc ls (.int (iz n) :: rest)) := by
  refine va_newa (atype := .boolean) (ty := .boolean) (N' := N) (a0 := (N, .inl (zrowI (fun _ => 0)))) hexec hb harr rfl hK hP hD hS hA (fun cA => rfl) (iz_nneg h0 (by omega)) (by rw [iz_cl h0 (by omega), hN]) (by show N * 1 ≤ _; omega) hcells hslots hdg (fun q cA H1 hK1 hP1 hD1 hS1 => ?_)
  have e1 : cA = G.2 2 := by
    have a1 := (hK1.2 6 (cA, .boolean) rfl).2
    have a2 := (hK.2 2 (G.2 2, .boolean) rfl).2
    exact Option.some.inj (a1.symm.trans a2)
  subst e1
  exact kk q H1 hP1 hD1 hS1
theorem zr_zald {D : va_G} {cl : List vw_C} {tys : List (ClassId × FieldType)} {a : Nat} (hexec : p.tables.exec = Jvm.exec) (hb : c.code = cc) (hK : va_K D cl tys s) (hP : va_P D cl ws H) (q0 t0 : Nat) {cA : ClassId} {n : Nat} {f : Int → Int} (ha : ws[q0]? = some (a, zaZ cA n f)) (ht : tys[t0]? = some (cA, .boolean)) {i : Int} (hi : 0 ≤ i ∧ i < n ∧ n < 2147483648) (hdg : decode cc pc = .ok (.baload, 1)) (kk : W p l e R s m args below meth c H locs cells slots Q (F0 m (pc + 1) ls (.int (iz (f i)) :: rest))) : W p l e R s m args below meth c H locs cells slots Q (F0 m pc ls (.int (iz i) :: .ref a :: rest)) := va_zald hexec hb hK hP q0 t0 ha ht (iz_in hi.1 hi.2.1 hi.2.2) hdg (by rw [zrowI_at f hi.1 (by omega)]; exact kk)
end ZB
def rm_c_X10_init : Room := { frames := 1, cells := 3, slots := 183, locals := 12 }
theorem iw_X10_init_X10 : ∀ w ∈ wsX100, w ∈ wsX10_init := by decide +kernel
set_option maxHeartbeats 1000000 in
set_option maxRecDepth 100000 in
theorem c_X10_init (l : Launch) (G : zG) (y : Nat) (mo : Int) (po : Int) (pn : Int) (h1 : 1 ≤ mo ∧ mo ≤ 1000000000 ∧ 0 ≤ po ∧ po ≤ 20000 ∧ 1 ≤ pn ∧ pn ≤ 60) : zM l G yX10_init wsX10_init rm_c_X10_init [.ref y, .long (lz (mo)), .int (iz (po)), .int (iz (pn))] [(y, .inr (11, [.long (lz (0)), .int (iz (0)), .int (iz (0)), .null, .null, .null]))] (fun A => zQv G (fun (u : (Nat × Nat × Nat × (Int → Int))) => ∀ k : Int, 0 ≤ k → k ≤ 60 → u.2.2.2 k = -1) (fun (u : (Nat × Nat × Nat × (Int → Int))) => [(y, .inr (11, [.long (lz (mo)), .int (iz (po)), .int (iz (pn)), .ref u.1, .ref u.2.1, .ref u.2.2.1])), (u.1, zaZ (G.2 2) 61 (fun _ => 0)), (u.2.1, zaI (G.2 1) 61 (u.2.2.2)), (u.2.2.1, zaL (G.2 0) 61 (fun _ => 0))]) A) 3 183 := by
  refine zM_of (cc := cX10_init) (maxL := 6) (ret := none) (by decide) rfl (Nat.le_of_ble_eq_true rfl) ?_
  intro p e s m below meth c ls A Q hQ hx hb hr hts hown hlocks hml hnm hKX hP hD hA hS hl
  have hK := hKX.1
  have iwX10 := iw_X10_init_X10
  obtain ⟨H, hH⟩ : ∃ h, h = s.heap := ⟨_, rfl⟩
  obtain ⟨locs, hlo⟩ : ∃ h : List Loc, h = [] := ⟨_, rfl⟩
  have hS : va_S A s.heap H locs := by rw [hH, hlo]; exact hS
  have hP : va_P G.1 vwCl [(y, .inr (11, [.long (lz (0)), .int (iz (0)), .int (iz (0)), .null, .null, .null]))] H := by rw [hH]; exact hP
  have hD : va_D A [(y, .inr (11, [.long (lz (0)), .int (iz (0)), .int (iz (0)), .null, .null, .null]))] := hD
  have hl : lv_has ls 6 [(0, .ref y), (1, .long (lz (mo))), (3, .int (iz (po))), (4, .int (iz (pn)))] := hl
  rw [← hH, ← hlo]
  refine lv_aload_n hx hb dX10_init_0 rfl (lv_at hl 0 rfl) ?_
  refine W.objInit hx hb hown (hts (.methodLink RX10 3 objectInit) (by decide +kernel)) (hts (.instanceMethod objectInit) (by decide +kernel)) (hts (.code objectInit ⟨#[0xb1]⟩ 1 none) (by decide +kernel)) rfl (by rw [hml]; exact hl.1) rfl dX10_init_1 (Nat.le_of_ble_eq_true rfl) (Nat.le_of_ble_eq_true rfl) ?_
  refine lv_aload_n hx hb dX10_init_4 rfl (lv_at hl 0 rfl) ?_
  refine lv_bipush (v := iz (61)) hx hb dX10_init_5 rfl ?_
  refine zr_newaZ (G := G) (n := 61) (N := 61) hx hb (hts (.arrayClass .boolean) (by decide +kernel)) hK hP hD hS hA (by omega) (by omega) (by omega) (by first | exact Nat.le_of_ble_eq_true rfl | (show _ ≤ (3 : Nat); omega)) (by first | exact Nat.le_of_ble_eq_true rfl | (show _ ≤ (183 : Nat); omega)) dX10_init_7 (fun nz H hP hD hS => ?_)
  have hP : va_P G.1 vwCl [(y, .inr (11, [.long (lz (0)), .int (iz (0)), .int (iz (0)), .null, .null, .null])), (nz, zaZ (G.2 2) 61 (fun _ => 0))] H := hP
  have hD : va_D A [(y, .inr (11, [.long (lz (0)), .int (iz (0)), .int (iz (0)), .null, .null, .null])), (nz, zaZ (G.2 2) 61 (fun _ => 0))] := hD
  refine va_putF (D := G.1) (ci := 11) (v := .ref nz) (ty := (.array .boolean)) (C := RX10) (T := TX10) (N := 6) hx hb hts iwX10 tyX10 tyX10_ok nmX10 hown hK hP hD hS 0 rfl rfl 3 (by decide) (hts (.fieldLink RX10 9 "AnnuityHouseModel$Loan" "isHoliday" "[Z") (by decide +kernel)) (fun _ h9 => h9) rfl hnm rfl (by decide +kernel) rfl rfl (Nat.le_of_ble_eq_true rfl) dX10_init_9 (fun H locs hP hD hS => ?_)
  have hP : va_P G.1 vwCl [(y, .inr (11, [.long (lz (0)), .int (iz (0)), .int (iz (0)), .ref nz, .null, .null])), (nz, zaZ (G.2 2) 61 (fun _ => 0))] H := hP
  have hD : va_D A [(y, .inr (11, [.long (lz (0)), .int (iz (0)), .int (iz (0)), .ref nz, .null, .null])), (nz, zaZ (G.2 2) 61 (fun _ => 0))] := hD
  refine lv_aload_n hx hb dX10_init_12 rfl (lv_at hl 0 rfl) ?_
  refine lv_bipush (v := iz (61)) hx hb dX10_init_13 rfl ?_
  refine zr_newaI (G := G) (n := 61) (N := 61) hx hb (hts (.arrayClass .int) (by decide +kernel)) hK hP hD hS hA (by omega) (by omega) (by omega) (by first | exact Nat.le_of_ble_eq_true rfl | (show _ ≤ (3 : Nat); omega)) (by first | exact Nat.le_of_ble_eq_true rfl | (show _ ≤ (183 : Nat); omega)) dX10_init_15 (fun nr H hP hD hS => ?_)
  have hP : va_P G.1 vwCl [(y, .inr (11, [.long (lz (0)), .int (iz (0)), .int (iz (0)), .ref nz, .null, .null])), (nz, zaZ (G.2 2) 61 (fun _ => 0)), (nr, zaI (G.2 1) 61 (fun _ => 0))] H := hP
  have hD : va_D A [(y, .inr (11, [.long (lz (0)), .int (iz (0)), .int (iz (0)), .ref nz, .null, .null])), (nz, zaZ (G.2 2) 61 (fun _ => 0)), (nr, zaI (G.2 1) 61 (fun _ => 0))] := hD
  refine va_putF (D := G.1) (ci := 11) (v := .ref nr) (ty := (.array .int)) (C := RX10) (T := TX10) (N := 6) hx hb hts iwX10 tyX10 tyX10_ok nmX10 hown hK hP hD hS 0 rfl rfl 4 (by decide) (hts (.fieldLink RX10 15 "AnnuityHouseModel$Loan" "rates" "[I") (by decide +kernel)) (fun _ h9 => h9) rfl hnm rfl (by decide +kernel) rfl rfl (Nat.le_of_ble_eq_true rfl) dX10_init_17 (fun H locs hP hD hS => ?_)
  have hP : va_P G.1 vwCl [(y, .inr (11, [.long (lz (0)), .int (iz (0)), .int (iz (0)), .ref nz, .ref nr, .null])), (nz, zaZ (G.2 2) 61 (fun _ => 0)), (nr, zaI (G.2 1) 61 (fun _ => 0))] H := hP
  have hD : va_D A [(y, .inr (11, [.long (lz (0)), .int (iz (0)), .int (iz (0)), .ref nz, .ref nr, .null])), (nz, zaZ (G.2 2) 61 (fun _ => 0)), (nr, zaI (G.2 1) 61 (fun _ => 0))] := hD
  refine lv_aload_n hx hb dX10_init_20 rfl (lv_at hl 0 rfl) ?_
  refine lv_bipush (v := iz (61)) hx hb dX10_init_21 rfl ?_
  refine zr_newaL (G := G) (n := 61) (N := 61) hx hb (hts (.arrayClass .long) (by decide +kernel)) hK hP hD hS hA (by omega) (by omega) (by omega) (by first | exact Nat.le_of_ble_eq_true rfl | (show _ ≤ (3 : Nat); omega)) (by first | exact Nat.le_of_ble_eq_true rfl | (show _ ≤ (183 : Nat); omega)) dX10_init_23 (fun ne H hP hD hS => ?_)
  have hP : va_P G.1 vwCl [(y, .inr (11, [.long (lz (0)), .int (iz (0)), .int (iz (0)), .ref nz, .ref nr, .null])), (nz, zaZ (G.2 2) 61 (fun _ => 0)), (nr, zaI (G.2 1) 61 (fun _ => 0)), (ne, zaL (G.2 0) 61 (fun _ => 0))] H := hP
  have hD : va_D A [(y, .inr (11, [.long (lz (0)), .int (iz (0)), .int (iz (0)), .ref nz, .ref nr, .null])), (nz, zaZ (G.2 2) 61 (fun _ => 0)), (nr, zaI (G.2 1) 61 (fun _ => 0)), (ne, zaL (G.2 0) 61 (fun _ => 0))] := hD
  refine va_putF (D := G.1) (ci := 11) (v := .ref ne) (ty := (.array .long)) (C := RX10) (T := TX10) (N := 6) hx hb hts iwX10 tyX10 tyX10_ok nmX10 hown hK hP hD hS 0 rfl rfl 5 (by decide) (hts (.fieldLink RX10 19 "AnnuityHouseModel$Loan" "early" "[J") (by decide +kernel)) (fun _ h9 => h9) rfl hnm rfl (by decide +kernel) rfl rfl (Nat.le_of_ble_eq_true rfl) dX10_init_25 (fun H locs hP hD hS => ?_)
  have hP : va_P G.1 vwCl [(y, .inr (11, [.long (lz (0)), .int (iz (0)), .int (iz (0)), .ref nz, .ref nr, .ref ne])), (nz, zaZ (G.2 2) 61 (fun _ => 0)), (nr, zaI (G.2 1) 61 (fun _ => 0)), (ne, zaL (G.2 0) 61 (fun _ => 0))] H := hP
  have hD : va_D A [(y, .inr (11, [.long (lz (0)), .int (iz (0)), .int (iz (0)), .ref nz, .ref nr, .ref ne])), (nz, zaZ (G.2 2) 61 (fun _ => 0)), (nr, zaI (G.2 1) 61 (fun _ => 0)), (ne, zaL (G.2 0) 61 (fun _ => 0))] := hD
  refine lv_aload_n hx hb dX10_init_28 rfl (lv_at hl 0 rfl) ?_
  refine lv_lload_n hx hb dX10_init_29 rfl (lv_at hl 1 rfl) ?_
  refine va_putF (D := G.1) (ci := 11) (v := .long (lz (mo))) (ty := .long) (C := RX10) (T := TX10) (N := 6) hx hb hts iwX10 tyX10 tyX10_ok nmX10 hown hK hP hD hS 0 rfl rfl 0 (by decide) (hts (.fieldLink RX10 23 "AnnuityHouseModel$Loan" "money" "J") (by decide +kernel)) (fun _ h9 => h9) rfl hnm rfl (by decide +kernel) rfl rfl (Nat.le_of_ble_eq_true rfl) dX10_init_30 (fun H locs hP hD hS => ?_)
  have hP : va_P G.1 vwCl [(y, .inr (11, [.long (lz (mo)), .int (iz (0)), .int (iz (0)), .ref nz, .ref nr, .ref ne])), (nz, zaZ (G.2 2) 61 (fun _ => 0)), (nr, zaI (G.2 1) 61 (fun _ => 0)), (ne, zaL (G.2 0) 61 (fun _ => 0))] H := hP
  have hD : va_D A [(y, .inr (11, [.long (lz (mo)), .int (iz (0)), .int (iz (0)), .ref nz, .ref nr, .ref ne])), (nz, zaZ (G.2 2) 61 (fun _ => 0)), (nr, zaI (G.2 1) 61 (fun _ => 0)), (ne, zaL (G.2 0) 61 (fun _ => 0))] := hD
  refine lv_aload_n hx hb dX10_init_33 rfl (lv_at hl 0 rfl) ?_
  refine lv_iload_n hx hb dX10_init_34 rfl (lv_at hl 2 rfl) ?_
  refine va_putF (D := G.1) (ci := 11) (v := .int (iz (po))) (ty := .int) (C := RX10) (T := TX10) (N := 6) hx hb hts iwX10 tyX10 tyX10_ok nmX10 hown hK hP hD hS 0 rfl rfl 1 (by decide) (hts (.fieldLink RX10 27 "AnnuityHouseModel$Loan" "points" "I") (by decide +kernel)) (fun _ h9 => h9) rfl hnm rfl (by decide +kernel) rfl rfl (Nat.le_of_ble_eq_true rfl) dX10_init_35 (fun H locs hP hD hS => ?_)
  have hP : va_P G.1 vwCl [(y, .inr (11, [.long (lz (mo)), .int (iz (po)), .int (iz (0)), .ref nz, .ref nr, .ref ne])), (nz, zaZ (G.2 2) 61 (fun _ => 0)), (nr, zaI (G.2 1) 61 (fun _ => 0)), (ne, zaL (G.2 0) 61 (fun _ => 0))] H := hP
  have hD : va_D A [(y, .inr (11, [.long (lz (mo)), .int (iz (po)), .int (iz (0)), .ref nz, .ref nr, .ref ne])), (nz, zaZ (G.2 2) 61 (fun _ => 0)), (nr, zaI (G.2 1) 61 (fun _ => 0)), (ne, zaL (G.2 0) 61 (fun _ => 0))] := hD
  refine lv_aload_n hx hb dX10_init_38 rfl (lv_at hl 0 rfl) ?_
  refine lv_iload hx hb dX10_init_39 (lv_at hl 3 rfl) ?_
  refine va_putF (D := G.1) (ci := 11) (v := .int (iz (pn))) (ty := .int) (C := RX10) (T := TX10) (N := 6) hx hb hts iwX10 tyX10 tyX10_ok nmX10 hown hK hP hD hS 0 rfl rfl 2 (by decide) (hts (.fieldLink RX10 31 "AnnuityHouseModel$Loan" "periods" "I") (by decide +kernel)) (fun _ h9 => h9) rfl hnm rfl (by decide +kernel) rfl rfl (Nat.le_of_ble_eq_true rfl) dX10_init_41 (fun H locs hP hD hS => ?_)
  have hP : va_P G.1 vwCl [(y, .inr (11, [.long (lz (mo)), .int (iz (po)), .int (iz (pn)), .ref nz, .ref nr, .ref ne])), (nz, zaZ (G.2 2) 61 (fun _ => 0)), (nr, zaI (G.2 1) 61 (fun _ => 0)), (ne, zaL (G.2 0) 61 (fun _ => 0))] H := hP
  have hD : va_D A [(y, .inr (11, [.long (lz (mo)), .int (iz (po)), .int (iz (pn)), .ref nz, .ref nr, .ref ne])), (nz, zaZ (G.2 2) 61 (fun _ => 0)), (nr, zaI (G.2 1) 61 (fun _ => 0)), (ne, zaL (G.2 0) 61 (fun _ => 0))] := hD
  refine lv_iconst (v := iz (0)) hx hb dX10_init_44 rfl ?_
  refine lv_istore (lv' := [(5, .int (iz (0))), (0, .ref y), (1, .long (lz (mo))), (3, .int (iz (po))), (4, .int (iz (pn)))]) hx hb dX10_init_45 hl (by decide) rfl (fun ls hl => ?_)
  have hl_47 : ∀ (zn_47 : Nat) (i : Int) (hh : Int → Int) (H : Heap) (locs : List Loc) (ls : Array Slot), (61 - i).toNat < zn_47 → (0 ≤ i ∧ i ≤ 61) → (∀ k : Int, 0 ≤ k → k < i → hh k = -1) → va_P G.1 vwCl [(y, .inr (11, [.long (lz (mo)), .int (iz (po)), .int (iz (pn)), .ref nz, .ref nr, .ref ne])), (nz, zaZ (G.2 2) 61 (fun _ => 0)), (nr, zaI (G.2 1) 61 (hh)), (ne, zaL (G.2 0) 61 (fun _ => 0))] H → va_D A [(y, .inr (11, [.long (lz (mo)), .int (iz (po)), .int (iz (pn)), .ref nz, .ref nr, .ref ne])), (nz, zaZ (G.2 2) 61 (fun _ => 0)), (nr, zaI (G.2 1) 61 (hh)), (ne, zaL (G.2 0) 61 (fun _ => 0))] → va_S A s.heap H locs → lv_has ls 6 [(5, .int (iz (i))), (0, .ref y), (1, .long (lz (mo))), (3, .int (iz (po))), (4, .int (iz (pn)))] → W p l e rm_c_X10_init s m ([.ref y, .long (lz (mo)), .int (iz (po)), .int (iz (pn))] : List Value).toArray below meth c H locs (0 + 1 + 1 + 1) (0 + 61 + 61 + 61) Q (F0 m 47 ls []) := by
    intro zn_47
    induction zn_47 with
    | zero => intro i hh H locs ls hm; exact absurd hm (Nat.not_lt_zero _)
    | succ zn_47 ih_47 =>
      intro i hh H locs ls hm_47 k1 k2 hP hD hS hl
      refine lv_iload hx hb dX10_init_47 (lv_at hl 0 rfl) ?_
      refine lv_bipush (v := iz (60)) hx hb dX10_init_49 rfl ?_
      refine zr_icmp_gt (x := i) (y := 60) (tgt := 68) hx hb (⟨by omega, by omega⟩) (⟨by omega, by omega⟩) dX10_init_51 (by decide) (fun h_4 => ?_) (fun h_4 => ?_)
      ·
        rw [hQ]
        exact zr_vret (u := (nz, nr, ne, hh)) hx hb hr hlocks hP hD hS (by first | exact Nat.le_of_ble_eq_true rfl | omega) (by first | exact Nat.le_of_ble_eq_true rfl | omega) dX10_init_68 (show ∀ k : Int, 0 ≤ k → k ≤ 60 → hh k = -1 from fun k a b => k2 k a (by omega))
      ·
        refine lv_aload_n hx hb dX10_init_54 rfl (lv_at hl 1 rfl) ?_
        refine va_get (D := G.1) (ci := 11) (v := .ref nr) (C := RX10) (T := TX10) (N := 6) hx hb hts iwX10 hown hK hP 0 rfl rfl 4 (by decide) (hts (.fieldLink RX10 15 "AnnuityHouseModel$Loan" "rates" "[I") (by decide +kernel)) (fun _ h9 => h9) rfl dX10_init_55 ?_
        refine lv_iload hx hb dX10_init_58 (lv_at hl 0 rfl) ?_
        refine lv_iconst (v := iz (-1)) hx hb dX10_init_60 rfl ?_
        refine zr_iast hx hb hK hP hD hS 2 1 rfl rfl (i := i) (x := -1) (⟨by omega, by omega, by omega⟩) dX10_init_61 (fun H locs hP hD hS => ?_)
        have hP : va_P G.1 vwCl [(y, .inr (11, [.long (lz (mo)), .int (iz (po)), .int (iz (pn)), .ref nz, .ref nr, .ref ne])), (nz, zaZ (G.2 2) 61 (fun _ => 0)), (nr, zaI (G.2 1) 61 (zup hh i (-1))), (ne, zaL (G.2 0) 61 (fun _ => 0))] H := hP
        have hD : va_D A [(y, .inr (11, [.long (lz (mo)), .int (iz (po)), .int (iz (pn)), .ref nz, .ref nr, .ref ne])), (nz, zaZ (G.2 2) 61 (fun _ => 0)), (nr, zaI (G.2 1) 61 (zup hh i (-1))), (ne, zaL (G.2 0) 61 (fun _ => 0))] := hD
        refine lv_iinc (v := iz (i + 1)) (lv' := [(5, .int (iz (i + 1))), (0, .ref y), (1, .long (lz (mo))), (3, .int (iz (po))), (4, .int (iz (pn)))]) hx hb dX10_init_62 hl (k := 0) rfl (by rw [show Int32.ofInt (1) = iz (1) from rfl, iz_add]) (by decide) rfl (fun ls hl => ?_)
        refine lv_goto (tgt := 47) hx hb dX10_init_65 (by decide) ?_
        exact ih_47 (i + 1) (zup hh i (-1)) _ _ _ (by omega) (by omega) (fun k a b => (show k = i ∨ k < i by omega).elim (fun q => by rw [q]; exact zup_s _ _ _) (fun q => (zup_n (by omega)).trans (k2 k a q))) (hP) (hD) hS (hl)
  exact hl_47 ((61 - 0 : Int).toNat + 1) 0 (fun _ => 0) _ _ _ (Nat.lt_succ_self _) (by omega) (fun k a b => absurd b (by omega)) (hP) (hD) hS (hl)
