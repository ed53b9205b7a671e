-- ArrayList made; the reference made (laid by wip/walk/x12j.py)
theorem zMe_ofF {l : Launch} {E : (Nat → Prop) → State → Prop} {G : zG} {y : MethodName} {wsy ws' : List Cond} {rm : Room} {cc : ByteArray} {maxL : Nat} {ret : Option FieldType} {av : List Value} {W0 : va_W} {Qf : (Nat → Prop) → Array Value → State → Outcome → State → Prop} {mc ms : Nat} (hy : plainFor y = true) (hw : wsy = Cond.code y cc maxL ret :: ws') (hn : (lg_sl av).length ≤ maxL)
    (body : ∀ (p : Program) (e : Env) (s : State) (m : MethodId) (below : List Frame) (meth : Method) (c : Code) (ls : Array Slot) (A : Nat → Prop) (Q : State → Prop), Q = MQ below (Qf A) av.toArray s mc ms A → p.tables.exec = Jvm.exec → c.code = cc → meth.sig.returnType = ret → (∀ w ∈ wsy, w.before av.toArray s = true) → s.vm.findClass y.cls = some m.cls → meth.locks = false → c.maxLocals = maxL → meth.name = y.name → zK G s → E A s → va_P G.1 vwCl W0 s.heap → va_D A W0 → (∀ q : Nat, s.heap.size ≤ q → A q) → va_S A s.heap s.heap [] → lv_has ls maxL (lv_args 0 av) →
      W p l e rm s m av.toArray below meth c s.heap [] 0 0 Q (F0 m 0 ls [])) : zMe l E G y wsy rm av W0 Qf mc ms := by
  intro sz
  refine Met_ofWF (cc := cc) (maxL := maxL) (ret := ret) hy hw ?_
  intro p e s m args below meth c s₁ B hml hv
  obtain ⟨rfl, hsz, hP, hK, hD0, hE⟩ := hv
  subst hsz
  have hown : s.vm.findClass y.cls = some m.cls := findClass_of_methodNamed B.named
  rw [lg_entry_eq]
  exact body p e s m below meth c _ (va_A W0 s.heap.size) _ rfl B.exec B.bytes B.returns (atoms_spec (ws := wsy) B.pre) hown B.notSynchronized hml (name_of_methodNamed B.named B.method).1 hK hE hP hD0.self (fun q h => Or.inr h) va_S.rf (lv_entry av hn)
-- an array of long may lie in a row of Object
section ZA
variable {p : Program} {l : Launch} {e : Env} {R : Room} {s : State} {m : MethodId} {args : Array Value} {below : List Frame} {meth : Method} {c : Code} {H : Heap} {locs : List Loc} {cells slots : Nat} {Q : State → Prop}
variable {cc : ByteArray} {pc : Nat} {ls : Array Slot} {rest st0 : List Value} {G : zG} {A : Nat → Prop} {ws W0 wr : va_W} {H0 : Heap} {mc ms : Nat} {av : Array Value} {S : Type}
theorem zany_L (hK : zK G s) (hP : va_P G.1 vwCl ws H) (q0 : Nat) {a n : Nat} {f : Int → Int} (ha : ws[q0]? = some (a, zaL (G.2 0) n f)) : va_Any "java/lang/Object" s H a := by
  have h1 : s.vm.findClass "[J" = some (G.2 0) := (hK.1.2 0 (G.2 0, .long) rfl).2
  obtain ⟨kC, hkC, -⟩ := Vm.findClass_spec h1
  have h2 : va_Nw (.castable "[J" "java/lang/Object") s := hK.2.2.2 _ (by decide +kernel)
  exact ⟨_, hP q0 _ ha, rfl, ⟨kC, hkC⟩, fun comp h => vb_asgC h2 comp _ h h1⟩
theorem zr_astqL (hexec : p.tables.exec = Jvm.exec) (hb : c.code = cc) (hK : zK G s) (hP : va_P G.1 vwCl ws H) (hD : va_D A ws) (hS : va_S A H0 H locs) (q0 t0 qk : Nat) {cA : ClassId} {n v a nv : Nat} {f : Nat → Option Nat} {fv : Int → Int} (ha : ws[q0]? = some (a, zaR cA n f)) (ht : (zT G.2)[t0]? = some (cA, .object "java/lang/Object")) (hv : ws[qk]? = some (v, zaL (G.2 0) nv fv)) {i : Int} (hi : 0 ≤ i ∧ i < n ∧ n < 2147483648) (hdg : decode cc pc = .ok (.aastore, 1))
    (kk : ∀ (H1 : Heap) (locs1 : List Loc), va_P G.1 vwCl (ws.set q0 (a, zaR cA n (va_up f i.toNat (some v)))) H1 → va_D A (ws.set q0 (a, zaR cA n (va_up f i.toNat (some v)))) → va_S A H0 H1 locs1 → W p l e R s m args below meth c H1 locs1 cells slots Q (F0 m (pc + 1) ls rest)) : W p l e R s m args below meth c H locs cells slots Q (F0 m pc ls (.ref v :: .int (iz i) :: .ref a :: rest)) :=
  va_astqM hexec hb hK.1 hP hD hS q0 t0 ha ht (zany_L hK hP qk hv) (iz_in hi.1 hi.2.1 hi.2.2) hdg (by rw [iz_cl hi.1 (by omega)]; exact kk)
end ZA
def rm_c_ac_init : Room := { frames := 1, cells := 0, slots := 0, locals := 12 }
set_option maxHeartbeats 1000000 in
set_option maxRecDepth 100000 in
theorem c_ac_init (l : Launch) (G : zG) (a : Nat)  : zM l G yJxa1e45_init_da8c8 wsJxa1e45_init_da8c8 rm_c_ac_init [.ref a] [(a, .inr (0, [.int (iz (0)), .null, .int (iz (0))]))] (fun A => zQv G (fun (_ : Unit) => True) (fun (_ : Unit) => [(a, .inr (0, [.int (iz (0)), .null, .int (iz (0))]))]) A) 0 0 := by
  refine zM_ofF (cc := cJxa1e45_init_da8c8) (maxL := 1) (ret := none) (by decide +kernel) rfl (Nat.le_of_ble_eq_true rfl) ?_
  intro p e s m below meth c ls A Q hQ hx hb hr hts hown hlocks hml hnm hKX hP hD hA hS hl
  have hK := hKX.1
  obtain ⟨H, hH⟩ : ∃ h, h = s.heap := ⟨_, rfl⟩
  obtain ⟨locs, hlo⟩ : ∃ h : List Loc, h = [] := ⟨_, rfl⟩
  have hS : va_S A s.heap H locs := by rw [hH, hlo]; exact hS
  have hP : va_P G.1 vwCl [(a, .inr (0, [.int (iz (0)), .null, .int (iz (0))]))] H := by rw [hH]; exact hP
  have hD : va_D A [(a, .inr (0, [.int (iz (0)), .null, .int (iz (0))]))] := hD
  have hl : lv_has ls 1 [(0, .ref a)] := hl
  rw [← hH, ← hlo]
  refine lv_aload_n hx hb dJxa1e45_init_da8c8_0 rfl (lv_at hl 0 rfl) ?_
  refine W.objInit hx hb hown (hts (.methodLink RJxa1e45 1 objectInit) (by decide +kernel)) (hts (.instanceMethod objectInit) (by decide +kernel)) (hts (.code objectInit ⟨#[0xb1]⟩ 1 none) (by decide +kernel)) rfl (by rw [hml]; exact hl.1) rfl dJxa1e45_init_da8c8_1 (Nat.le_of_ble_eq_true rfl) (Nat.le_of_ble_eq_true rfl) ?_
  rw [hQ]
  exact zr_vret (u := ()) hx hb hr hlocks hP hD hS (by first | exact Nat.le_of_ble_eq_true rfl | omega) (by first | exact Nat.le_of_ble_eq_true rfl | omega) dJxa1e45_init_da8c8_4 (show True from trivial)

def rm_c_al_init0 : Room := { frames := 2, cells := 0, slots := 0, locals := 32 }
theorem iw_Jxc12de_init_da8c8_Jx4a65c : ∀ w ∈ wsJx4a65c0, w ∈ wsJxc12de_init_da8c8 := by decide +kernel
set_option maxHeartbeats 1000000 in
set_option maxRecDepth 100000 in
theorem c_al_init0 (l : Launch) (G : zG) (a : Nat)  : zM l G yJxc12de_init_da8c8 wsJxc12de_init_da8c8 rm_c_al_init0 [.ref a] [(a, .inr (0, [.int (iz (0)), .null, .int (iz (0))]))] (fun A => zQv G (fun (_ : Unit) => True) (fun (_ : Unit) => [(a, .inr (0, [.int (iz (0)), .null, .int (iz (0))]))]) A) 0 0 := by
  refine zM_ofF (cc := cJxc12de_init_da8c8) (maxL := 1) (ret := none) (by decide +kernel) rfl (Nat.le_of_ble_eq_true rfl) ?_
  intro p e s m below meth c ls A Q hQ hx hb hr hts hown hlocks hml hnm hKX hP hD hA hS hl
  have hK := hKX.1
  have iwJx4a65c := iw_Jxc12de_init_da8c8_Jx4a65c
  obtain ⟨H, hH⟩ : ∃ h, h = s.heap := ⟨_, rfl⟩
  obtain ⟨locs, hlo⟩ : ∃ h : List Loc, h = [] := ⟨_, rfl⟩
  have hS : va_S A s.heap H locs := by rw [hH, hlo]; exact hS
  have hP : va_P G.1 vwCl [(a, .inr (0, [.int (iz (0)), .null, .int (iz (0))]))] H := by rw [hH]; exact hP
  have hD : va_D A [(a, .inr (0, [.int (iz (0)), .null, .int (iz (0))]))] := hD
  have hl : lv_has ls 1 [(0, .ref a)] := hl
  rw [← hH, ← hlo]
  refine lv_aload_n hx hb dJxc12de_init_da8c8_0 rfl (lv_at hl 0 rfl) ?_
  refine zc_v (wr := []) (va_runI (As := []) (rest := []) ⟨hx, hb, hml, hown, hts⟩ (c_ac_init l G a  H.size) (cwI 0 hts gJxc12de_init_da8c8_Jxa1e45_init_da8c8 rfl rfl rfl (hts (.initialized RJxa1e45) (by decide +kernel)) (hts (.methodLink RJxc12de 1 yJxa1e45_init_da8c8) (by decide +kernel)) (hts (.instanceMethod yJxa1e45_init_da8c8) (by decide +kernel)) rfl (by decide +kernel) ⟨Nat.le_of_ble_eq_true rfl, Nat.le_of_ble_eq_true rfl⟩) (zpS hKX hP hD [0] rfl rfl) rfl rfl hl.1 rfl (lv_room (Nat.le_of_ble_eq_true rfl)) dJxc12de_init_da8c8_1 ⟨(by first | exact Nat.le_of_ble_eq_true rfl | (show _ ≤ (0 : Nat); omega)), (by first | exact Nat.le_of_ble_eq_true rfl | (show _ ≤ (0 : Nat); omega))⟩) hP hD hS hA [0] [] rfl rfl rfl (by decide) (fun u_1 H locs hq_4 hP hD hS => ?_)
  have hP : va_P G.1 vwCl [(a, .inr (0, [.int (iz (0)), .null, .int (iz (0))]))] H := hP
  have hD : va_D A [(a, .inr (0, [.int (iz (0)), .null, .int (iz (0))]))] := hD
  refine lv_aload_n hx hb dJxc12de_init_da8c8_4 rfl (lv_at hl 0 rfl) ?_
  refine lv_iconst (v := iz (0)) hx hb dJxc12de_init_da8c8_5 rfl ?_
  refine va_put (D := G.1) (ci := 0) (v := .int (iz (0))) (ty := .int) (C := RJx4a65c) (T := TJx4a65c) (N := 3) hx hb hts iwJx4a65c tyJx4a65c tyJx4a65c_ok nmJx4a65c hown hK hP hD hS 0 rfl rfl 0 (by decide) (hts (.fieldLink RJxc12de 7 "java/util/AbstractList" "modCount" "I") (by decide +kernel)) (fun _ h9 => h9) rfl (by decide +kernel) rfl rfl (Nat.le_of_ble_eq_true rfl) dJxc12de_init_da8c8_6 (fun H locs hP hD hS => ?_)
  have hP : va_P G.1 vwCl [(a, .inr (0, [.int (iz (0)), .null, .int (iz (0))]))] H := hP
  have hD : va_D A [(a, .inr (0, [.int (iz (0)), .null, .int (iz (0))]))] := hD
  rw [hQ]
  exact zr_vret (u := ()) hx hb hr hlocks hP hD hS (by first | exact Nat.le_of_ble_eq_true rfl | omega) (by first | exact Nat.le_of_ble_eq_true rfl | omega) dJxc12de_init_da8c8_9 (show True from trivial)

def rm_c_al_init : Room := { frames := 3, cells := 0, slots := 0, locals := 52 }
theorem iw_Jx4a65c_init_da8c8_Jx4a65c : ∀ w ∈ wsJx4a65c0, w ∈ wsJx4a65c_init_da8c8 := by decide +kernel
set_option maxHeartbeats 1000000 in
set_option maxRecDepth 100000 in
theorem c_al_init (l : Launch) (G : zG) (nA : Nat) (nB : Nat) (nE : Nat) (a : Nat)  : zMe l (zE G nA nB nE) G yJx4a65c_init_da8c8 wsJx4a65c_init_da8c8 rm_c_al_init [.ref a] [(a, .inr (0, [.int (iz (0)), .null, .int (iz (0))]))] (fun A => zQv G (fun (_ : Unit) => True) (fun (_ : Unit) => [(a, .inr (0, [.int (iz (0)), .ref nE, .int (iz (0))]))]) A) 0 0 := by
  refine zMe_ofF (cc := cJx4a65c_init_da8c8) (maxL := 1) (ret := none) (by decide +kernel) rfl (Nat.le_of_ble_eq_true rfl) ?_
  intro p e s m below meth c ls A Q hQ hx hb hr hts hown hlocks hml hnm hKX hE hP hD hA hS hl
  have hK := hKX.1
  have iwJx4a65c := iw_Jx4a65c_init_da8c8_Jx4a65c
  obtain ⟨H, hH⟩ : ∃ h, h = s.heap := ⟨_, rfl⟩
  obtain ⟨locs, hlo⟩ : ∃ h : List Loc, h = [] := ⟨_, rfl⟩
  have hS : va_S A s.heap H locs := by rw [hH, hlo]; exact hS
  have hP : va_P G.1 vwCl [(a, .inr (0, [.int (iz (0)), .null, .int (iz (0))]))] H := by rw [hH]; exact hP
  have hD : va_D A [(a, .inr (0, [.int (iz (0)), .null, .int (iz (0))]))] := hD
  have hl : lv_has ls 1 [(0, .ref a)] := hl
  rw [← hH, ← hlo]
  refine lv_aload_n hx hb dJx4a65c_init_da8c8_0 rfl (lv_at hl 0 rfl) ?_
  refine zc_v (wr := []) (va_runI (As := []) (rest := []) ⟨hx, hb, hml, hown, hts⟩ (c_al_init0 l G a  H.size) (cwI 0 hts gJx4a65c_init_da8c8_Jxc12de_init_da8c8 rfl rfl rfl (hts (.initialized RJxc12de) (by decide +kernel)) (hts (.methodLink RJx4a65c 1 yJxc12de_init_da8c8) (by decide +kernel)) (hts (.instanceMethod yJxc12de_init_da8c8) (by decide +kernel)) rfl (by decide +kernel) ⟨Nat.le_of_ble_eq_true rfl, Nat.le_of_ble_eq_true rfl⟩) (zpS hKX hP hD [0] rfl rfl) rfl rfl hl.1 rfl (lv_room (Nat.le_of_ble_eq_true rfl)) dJx4a65c_init_da8c8_1 ⟨(by first | exact Nat.le_of_ble_eq_true rfl | (show _ ≤ (0 : Nat); omega)), (by first | exact Nat.le_of_ble_eq_true rfl | (show _ ≤ (0 : Nat); omega))⟩) hP hD hS hA [0] [] rfl rfl rfl (by decide) (fun u_1 H locs hq_4 hP hD hS => ?_)
  have hP : va_P G.1 vwCl [(a, .inr (0, [.int (iz (0)), .null, .int (iz (0))]))] H := hP
  have hD : va_D A [(a, .inr (0, [.int (iz (0)), .null, .int (iz (0))]))] := hD
  refine lv_aload_n hx hb dJx4a65c_init_da8c8_4 rfl (lv_at hl 0 rfl) ?_
  refine va_gets hx hb hE.1.2 hS hown (hts (.fieldLink RJx4a65c 39 "java/util/ArrayList" "DEFAULTCAPACITY_EMPTY_ELEMENTDATA" "[Ljava/lang/Object;") (by decide +kernel)) (fun _ h9 => h9) dJx4a65c_init_da8c8_5 ?_
  refine va_put (D := G.1) (ci := 0) (v := .ref nE) (ty := (.array (.object "java/lang/Object"))) (C := RJx4a65c) (T := TJx4a65c) (N := 3) hx hb hts iwJx4a65c tyJx4a65c tyJx4a65c_ok nmJx4a65c hown hK hP hD hS 0 rfl rfl 1 (by decide) (hts (.fieldLink RJx4a65c 9 "java/util/ArrayList" "elementData" "[Ljava/lang/Object;") (by decide +kernel)) (fun _ h9 => h9) rfl (by decide +kernel) rfl rfl (Nat.le_of_ble_eq_true rfl) dJx4a65c_init_da8c8_8 (fun H locs hP hD hS => ?_)
  have hP : va_P G.1 vwCl [(a, .inr (0, [.int (iz (0)), .ref nE, .int (iz (0))]))] H := hP
  have hD : va_D A [(a, .inr (0, [.int (iz (0)), .ref nE, .int (iz (0))]))] := hD
  rw [hQ]
  exact zr_vret (u := ()) hx hb hr hlocks hP hD hS (by first | exact Nat.le_of_ble_eq_true rfl | omega) (by first | exact Nat.le_of_ble_eq_true rfl | omega) dJx4a65c_init_da8c8_11 (show True from trivial)

def rm_c_al_grow1 : Room := { frames := 1, cells := 1, slots := 10, locals := 21 }
theorem iw_Jx4a65c_grow_92f84_Jx4a65c : ∀ w ∈ wsJx4a65c0, w ∈ wsJx4a65c_grow_92f84 := by decide +kernel
set_option maxHeartbeats 1000000 in
set_option maxRecDepth 100000 in
theorem c_al_grow1 (l : Launch) (G : zG) (nA : Nat) (nB : Nat) (nE : Nat) (a : Nat) (md : Int) (sz : Int) (mn : Int) (h1 : 0 ≤ mn ∧ mn ≤ 10) : zMe l (zE G nA nB nE) G yJx4a65c_grow_92f84 wsJx4a65c_grow_92f84 rm_c_al_grow1 [.ref a, .int (iz (mn))] [(a, .inr (0, [.int (iz (md)), .ref nE, .int (iz (sz))]))] (fun A => zQr G (fun (_ : Unit) (ra : Nat) => True) (fun (_ : Unit) (ra : Nat) => [(a, .inr (0, [.int (iz (md)), .ref ra, .int (iz (sz))])), (ra, zaR (G.2 5) 10 (fun _ => none))]) A) 1 10 := by
  refine zMe_ofF (cc := cJx4a65c_grow_92f84) (maxL := 4) (ret := (some (.array (.object "java/lang/Object")))) (by decide +kernel) rfl (Nat.le_of_ble_eq_true rfl) ?_
  intro p e s m below meth c ls A Q hQ hx hb hr hts hown hlocks hml hnm hKX hE hP hD hA hS hl
  have hK := hKX.1
  have iwJx4a65c := iw_Jx4a65c_grow_92f84_Jx4a65c
  obtain ⟨H, hH⟩ : ∃ h, h = s.heap := ⟨_, rfl⟩
  obtain ⟨locs, hlo⟩ : ∃ h : List Loc, h = [] := ⟨_, rfl⟩
  have hS : va_S A s.heap H locs := by rw [hH, hlo]; exact hS
  have hP : va_P G.1 vwCl [(a, .inr (0, [.int (iz (md)), .ref nE, .int (iz (sz))]))] H := by rw [hH]; exact hP
  have hD : va_D A [(a, .inr (0, [.int (iz (md)), .ref nE, .int (iz (sz))]))] := hD
  have hl : lv_has ls 4 [(0, .ref a), (1, .int (iz (mn)))] := hl
  rw [← hH, ← hlo]
  refine lv_aload_n hx hb dJx4a65c_grow_92f84_0 rfl (lv_at hl 0 rfl) ?_
  refine va_get (D := G.1) (ci := 0) (v := .ref nE) (C := RJx4a65c) (T := TJx4a65c) (N := 3) hx hb hts iwJx4a65c hown hK hP 0 rfl rfl 1 (by decide) (hts (.fieldLink RJx4a65c 9 "java/util/ArrayList" "elementData" "[Ljava/lang/Object;") (by decide +kernel)) (fun _ h9 => h9) rfl dJx4a65c_grow_92f84_1 ?_
  refine va_tlen hx hb hE.2.2.2.2.2 hS (v := iz 0) rfl dJx4a65c_grow_92f84_4 ?_
  refine lv_istore_n (lv' := [(2, .int (iz (0))), (0, .ref a), (1, .int (iz (mn)))]) hx hb dJx4a65c_grow_92f84_5 rfl hl (by decide) rfl (fun ls hl => ?_)
  refine lv_iload_n hx hb dJx4a65c_grow_92f84_6 rfl (lv_at hl 0 rfl) ?_
  refine zr_if_gt (x := 0) (tgt := 20) hx hb (⟨by omega, by omega⟩) dJx4a65c_grow_92f84_7 (by decide) (fun h_1 => ?_) (fun h_1 => ?_)
  · exact absurd h_1 (by omega)
  ·
    refine lv_aload_n hx hb dJx4a65c_grow_92f84_10 rfl (lv_at hl 1 rfl) ?_
    refine va_get (D := G.1) (ci := 0) (v := .ref nE) (C := RJx4a65c) (T := TJx4a65c) (N := 3) hx hb hts iwJx4a65c hown hK hP 0 rfl rfl 1 (by decide) (hts (.fieldLink RJx4a65c 9 "java/util/ArrayList" "elementData" "[Ljava/lang/Object;") (by decide +kernel)) (fun _ h9 => h9) rfl dJx4a65c_grow_92f84_11 ?_
    refine va_gets hx hb hE.1.2 hS hown (hts (.fieldLink RJx4a65c 39 "java/util/ArrayList" "DEFAULTCAPACITY_EMPTY_ELEMENTDATA" "[Ljava/lang/Object;") (by decide +kernel)) (fun _ h9 => h9) dJx4a65c_grow_92f84_14 ?_
    refine lv_acmp_eq (rx := (some nE)) (ry := (some nE)) (tgt := 45) hx hb dJx4a65c_grow_92f84_17 (by decide) (fun h_2 => ?_) (fun h_2 => ?_)
    rotate_left
    · exact absurd rfl h_2
    refine lv_aload_n hx hb dJx4a65c_grow_92f84_45 rfl (lv_at hl 1 rfl) ?_
    refine lv_bipush (v := iz (10)) hx hb dJx4a65c_grow_92f84_46 rfl ?_
    refine lv_iload_n hx hb dJx4a65c_grow_92f84_48 rfl (lv_at hl 2 rfl) ?_
    refine zr_mmax (x := 10) (y := mn) hx hb (hml.trans hl.1.symm) hown (hts (.methodLink RJx4a65c 79 Lib.Math.max.name) (by decide +kernel)) (hts (.static Lib.Math.max.name) (by decide +kernel)) (hts (.initialized "java/lang/Math") (by decide +kernel)) (hts (.code Lib.Math.max.name Lib.Math.max.code 2 (some .int)) (by decide +kernel)) (Nat.le_of_ble_eq_true rfl) (Nat.le_of_ble_eq_true rfl) (by first | exact Nat.le_of_ble_eq_true rfl | (show _ ≤ (1 : Nat); omega)) (by first | exact Nat.le_of_ble_eq_true rfl | (show _ ≤ (10 : Nat); omega)) (⟨by omega, by omega⟩) (⟨by omega, by omega⟩) dJx4a65c_grow_92f84_49 ?_
    refine zr_newqO (G := G) (n := max 10 mn) (N := 10) hx hb hown (hts (.classLink RJx4a65c 7 "java/lang/Object") (by decide +kernel)) hKX hP hD hS hA (by omega) (by omega) (by omega) (by first | exact Nat.le_of_ble_eq_true rfl | (show _ ≤ (1 : Nat); omega)) (by first | exact Nat.le_of_ble_eq_true rfl | (show _ ≤ (10 : Nat); omega)) dJx4a65c_grow_92f84_52 (fun ra H hP hD hS => ?_)
    have hP : va_P G.1 vwCl [(a, .inr (0, [.int (iz (md)), .ref nE, .int (iz (sz))])), (ra, zaR (G.2 5) 10 (fun _ => none))] H := hP
    have hD : va_D A [(a, .inr (0, [.int (iz (md)), .ref nE, .int (iz (sz))])), (ra, zaR (G.2 5) 10 (fun _ => none))] := hD
    refine lv_dup_x1 hx hb dJx4a65c_grow_92f84_55 rfl rfl ?_
    refine va_put (D := G.1) (ci := 0) (v := .ref ra) (ty := (.array (.object "java/lang/Object"))) (C := RJx4a65c) (T := TJx4a65c) (N := 3) hx hb hts iwJx4a65c tyJx4a65c tyJx4a65c_ok nmJx4a65c hown hK hP hD hS 0 rfl rfl 1 (by decide) (hts (.fieldLink RJx4a65c 9 "java/util/ArrayList" "elementData" "[Ljava/lang/Object;") (by decide +kernel)) (fun _ h9 => h9) rfl (by decide +kernel) rfl rfl (Nat.le_of_ble_eq_true rfl) dJx4a65c_grow_92f84_56 (fun H locs hP hD hS => ?_)
    have hP : va_P G.1 vwCl [(a, .inr (0, [.int (iz (md)), .ref ra, .int (iz (sz))])), (ra, zaR (G.2 5) 10 (fun _ => none))] H := hP
    have hD : va_D A [(a, .inr (0, [.int (iz (md)), .ref ra, .int (iz (sz))])), (ra, zaR (G.2 5) 10 (fun _ => none))] := hD
    rw [hQ]
    exact zr_aret (ra := ra) (Or.inr ⟨_, rfl⟩) (u := ()) hx hb hr hlocks hP hD hS (by first | exact Nat.le_of_ble_eq_true rfl | omega) (by first | exact Nat.le_of_ble_eq_true rfl | omega) dJx4a65c_grow_92f84_59 (show True from trivial)

def rm_c_al_grow1b : Room := { frames := 2, cells := 1, slots := 10, locals := 44 }
theorem iw_Jx4a65c_grow_d5877_Jx4a65c : ∀ w ∈ wsJx4a65c0, w ∈ wsJx4a65c_grow_d5877 := by decide +kernel
set_option maxHeartbeats 1000000 in
set_option maxRecDepth 100000 in
theorem c_al_grow1b (l : Launch) (G : zG) (nA : Nat) (nB : Nat) (nE : Nat) (a : Nat) (md : Int) (sz : Int) (h1 : 0 ≤ sz ∧ sz ≤ 9) : zMe l (zE G nA nB nE) G yJx4a65c_grow_d5877 wsJx4a65c_grow_d5877 rm_c_al_grow1b [.ref a] [(a, .inr (0, [.int (iz (md)), .ref nE, .int (iz (sz))]))] (fun A => zQr G (fun (_ : Unit) (ra : Nat) => True) (fun (_ : Unit) (ra : Nat) => [(a, .inr (0, [.int (iz (md)), .ref ra, .int (iz (sz))])), (ra, zaR (G.2 5) 10 (fun _ => none))]) A) 1 10 := by
  refine zMe_ofF (cc := cJx4a65c_grow_d5877) (maxL := 1) (ret := (some (.array (.object "java/lang/Object")))) (by decide +kernel) rfl (Nat.le_of_ble_eq_true rfl) ?_
  intro p e s m below meth c ls A Q hQ hx hb hr hts hown hlocks hml hnm hKX hE hP hD hA hS hl
  have hK := hKX.1
  have iwJx4a65c := iw_Jx4a65c_grow_d5877_Jx4a65c
  obtain ⟨H, hH⟩ : ∃ h, h = s.heap := ⟨_, rfl⟩
  obtain ⟨locs, hlo⟩ : ∃ h : List Loc, h = [] := ⟨_, rfl⟩
  have hS : va_S A s.heap H locs := by rw [hH, hlo]; exact hS
  have hP : va_P G.1 vwCl [(a, .inr (0, [.int (iz (md)), .ref nE, .int (iz (sz))]))] H := by rw [hH]; exact hP
  have hD : va_D A [(a, .inr (0, [.int (iz (md)), .ref nE, .int (iz (sz))]))] := hD
  have hl : lv_has ls 1 [(0, .ref a)] := hl
  rw [← hH, ← hlo]
  refine lv_aload_n hx hb dJx4a65c_grow_d5877_0 rfl (lv_at hl 0 rfl) ?_
  refine lv_aload_n hx hb dJx4a65c_grow_d5877_1 rfl (lv_at hl 0 rfl) ?_
  refine va_get (D := G.1) (ci := 0) (v := .int (iz (sz))) (C := RJx4a65c) (T := TJx4a65c) (N := 3) hx hb hts iwJx4a65c hown hK hP 0 rfl rfl 2 (by decide) (hts (.fieldLink RJx4a65c 48 "java/util/ArrayList" "size" "I") (by decide +kernel)) (fun _ h9 => h9) rfl dJx4a65c_grow_d5877_2 ?_
  refine lv_iconst (v := iz (1)) hx hb dJx4a65c_grow_d5877_5 rfl ?_
  refine zr_iadd hx hb dJx4a65c_grow_d5877_6 ?_
  refine zc_r (wr := []) (va_runV (As := [.int (iz (sz + 1))]) (rest := []) ⟨hx, hb, hml, hown, hts⟩ (c_al_grow1 l G nA nB nE a md sz (sz + 1) (by omega) H.size) (cwV 1 hts gJx4a65c_grow_d5877_Jx4a65c_grow_92f84 rfl rfl rfl (by decide +kernel) ⟨Nat.le_of_ble_eq_true rfl, Nat.le_of_ble_eq_true rfl⟩) (zpVe zE_ok hE hS hA hKX hP hD [0] rfl rfl (va_recv hK hP (ci := 0) (q0 := 0) rfl rfl)) rfl rfl hl.1 rfl (lv_room (Nat.le_of_ble_eq_true rfl)) dJx4a65c_grow_d5877_7 ⟨(by first | exact Nat.le_of_ble_eq_true rfl | (show _ ≤ (1 : Nat); omega)), (by first | exact Nat.le_of_ble_eq_true rfl | (show _ ≤ (10 : Nat); omega))⟩) hP hD hS hA [0] [] rfl rfl rfl (by decide) (fun u_1 ra H locs tr hP hD hS => ?_)
  have hP : va_P G.1 vwCl [(a, .inr (0, [.int (iz (md)), .ref ra, .int (iz (sz))])), (ra, zaR (G.2 5) 10 (fun _ => none))] H := hP
  have hD : va_D A [(a, .inr (0, [.int (iz (md)), .ref ra, .int (iz (sz))])), (ra, zaR (G.2 5) 10 (fun _ => none))] := hD
  rw [hQ]
  exact zr_aret (ra := ra) (Or.inr ⟨_, rfl⟩) (u := ()) hx hb hr hlocks hP hD hS (by first | exact Nat.le_of_ble_eq_true rfl | omega) (by first | exact Nat.le_of_ble_eq_true rfl | omega) dJx4a65c_grow_d5877_10 (show True from trivial)

def rm_c_al_add3_1 : Room := { frames := 3, cells := 1, slots := 10, locals := 64 }
theorem iw_Jx4a65c_add_72be8_Jx4a65c : ∀ w ∈ wsJx4a65c0, w ∈ wsJx4a65c_add_72be8 := by decide +kernel
set_option maxHeartbeats 1000000 in
set_option maxRecDepth 100000 in
theorem c_al_add3_1 (l : Launch) (G : zG) (nA : Nat) (nB : Nat) (nE : Nat) (a : Nat) (md : Int) (v : Nat) (nv : Nat) (fv : Int → Int)  : zMe l (zE G nA nB nE) G yJx4a65c_add_72be8 wsJx4a65c_add_72be8 rm_c_al_add3_1 [.ref a, .ref v, .ref nE, .int (iz (0))] [(a, .inr (0, [.int (iz (md)), .ref nE, .int (iz (0))])), (v, zaL (G.2 0) nv (fv))] (fun A => zQv G (fun (ra : Nat) => True) (fun (ra : Nat) => [(a, .inr (0, [.int (iz (md)), .ref ra, .int (iz (0 + 1))])), (ra, zaR (G.2 5) 10 (va_up (fun _ => none) (0 : Int).toNat (some v))), (v, zaL (G.2 0) nv (fv))]) A) 1 10 := by
  refine zMe_ofF (cc := cJx4a65c_add_72be8) (maxL := 4) (ret := none) (by decide +kernel) rfl (Nat.le_of_ble_eq_true rfl) ?_
  intro p e s m below meth c ls A Q hQ hx hb hr hts hown hlocks hml hnm hKX hE hP hD hA hS hl
  have hK := hKX.1
  have iwJx4a65c := iw_Jx4a65c_add_72be8_Jx4a65c
  obtain ⟨H, hH⟩ : ∃ h, h = s.heap := ⟨_, rfl⟩
  obtain ⟨locs, hlo⟩ : ∃ h : List Loc, h = [] := ⟨_, rfl⟩
  have hS : va_S A s.heap H locs := by rw [hH, hlo]; exact hS
  have hP : va_P G.1 vwCl [(a, .inr (0, [.int (iz (md)), .ref nE, .int (iz (0))])), (v, zaL (G.2 0) nv (fv))] H := by rw [hH]; exact hP
  have hD : va_D A [(a, .inr (0, [.int (iz (md)), .ref nE, .int (iz (0))])), (v, zaL (G.2 0) nv (fv))] := hD
  have hl : lv_has ls 4 [(0, .ref a), (1, .ref v), (2, .ref nE), (3, .int (iz (0)))] := hl
  rw [← hH, ← hlo]
  refine lv_iload_n hx hb dJx4a65c_add_72be8_0 rfl (lv_at hl 3 rfl) ?_
  refine lv_aload_n hx hb dJx4a65c_add_72be8_1 rfl (lv_at hl 2 rfl) ?_
  refine va_tlen hx hb hE.2.2.2.2.2 hS (v := iz 0) rfl dJx4a65c_add_72be8_2 ?_
  refine zr_icmp_ne (x := 0) (y := 0) (tgt := 11) hx hb (⟨by omega, by omega⟩) (⟨by omega, by omega⟩) dJx4a65c_add_72be8_3 (by decide) (fun h_1 => ?_) (fun h_1 => ?_)
  · exact absurd h_1 (by omega)
  ·
    refine lv_aload_n hx hb dJx4a65c_add_72be8_6 rfl (lv_at hl 0 rfl) ?_
    refine zc_r (wr := [(v, zaL (G.2 0) nv (fv))]) (va_runV (As := []) (rest := []) ⟨hx, hb, hml, hown, hts⟩ (c_al_grow1b l G nA nB nE a md 0 (by omega) H.size) (cwV 0 hts gJx4a65c_add_72be8_Jx4a65c_grow_d5877 rfl rfl rfl (by decide +kernel) ⟨Nat.le_of_ble_eq_true rfl, Nat.le_of_ble_eq_true rfl⟩) (zpVe zE_ok hE hS hA hKX hP hD [0] rfl rfl (va_recv hK hP (ci := 0) (q0 := 0) rfl rfl)) rfl rfl hl.1 rfl (lv_room (Nat.le_of_ble_eq_true rfl)) dJx4a65c_add_72be8_7 ⟨(by first | exact Nat.le_of_ble_eq_true rfl | (show _ ≤ (1 : Nat); omega)), (by first | exact Nat.le_of_ble_eq_true rfl | (show _ ≤ (10 : Nat); omega))⟩) hP hD hS hA [0] [1] rfl rfl rfl (by decide) (fun u_2 ra H locs tr hP hD hS => ?_)
    have hP : va_P G.1 vwCl [(v, zaL (G.2 0) nv (fv)), (a, .inr (0, [.int (iz (md)), .ref ra, .int (iz ((0 : Int)))])), (ra, zaR (G.2 5) 10 (fun _ => none))] H := hP
    have hD : va_D A [(v, zaL (G.2 0) nv (fv)), (a, .inr (0, [.int (iz (md)), .ref ra, .int (iz ((0 : Int)))])), (ra, zaR (G.2 5) 10 (fun _ => none))] := hD
    refine lv_astore_n (lv' := [(2, .ref ra), (0, .ref a), (1, .ref v), (3, .int (iz (0)))]) hx hb dJx4a65c_add_72be8_10 rfl hl (by decide) rfl (fun ls hl => ?_)
    refine lv_aload_n hx hb dJx4a65c_add_72be8_11 rfl (lv_at hl 0 rfl) ?_
    refine lv_iload_n hx hb dJx4a65c_add_72be8_12 rfl (lv_at hl 3 rfl) ?_
    refine lv_aload_n hx hb dJx4a65c_add_72be8_13 rfl (lv_at hl 2 rfl) ?_
    refine zr_astqL hx hb hKX hP hD hS 2 5 0 rfl rfl rfl (i := 0) (⟨by omega, by omega, by omega⟩) dJx4a65c_add_72be8_14 (fun H locs hP hD hS => ?_)
    have hP : va_P G.1 vwCl [(v, zaL (G.2 0) nv (fv)), (a, .inr (0, [.int (iz (md)), .ref ra, .int (iz ((0 : Int)))])), (ra, zaR (G.2 5) 10 (va_up (fun _ => none) (0 : Int).toNat (some v)))] H := hP
    have hD : va_D A [(v, zaL (G.2 0) nv (fv)), (a, .inr (0, [.int (iz (md)), .ref ra, .int (iz ((0 : Int)))])), (ra, zaR (G.2 5) 10 (va_up (fun _ => none) (0 : Int).toNat (some v)))] := hD
    refine lv_aload_n hx hb dJx4a65c_add_72be8_15 rfl (lv_at hl 1 rfl) ?_
    refine lv_iload_n hx hb dJx4a65c_add_72be8_16 rfl (lv_at hl 3 rfl) ?_
    refine lv_iconst (v := iz (1)) hx hb dJx4a65c_add_72be8_17 rfl ?_
    refine zr_iadd hx hb dJx4a65c_add_72be8_18 ?_
    refine va_put (D := G.1) (ci := 0) (v := .int (iz (0 + 1))) (ty := .int) (C := RJx4a65c) (T := TJx4a65c) (N := 3) hx hb hts iwJx4a65c tyJx4a65c tyJx4a65c_ok nmJx4a65c hown hK hP hD hS 1 rfl rfl 2 (by decide) (hts (.fieldLink RJx4a65c 48 "java/util/ArrayList" "size" "I") (by decide +kernel)) (fun _ h9 => h9) rfl (by decide +kernel) rfl rfl (Nat.le_of_ble_eq_true rfl) dJx4a65c_add_72be8_19 (fun H locs hP hD hS => ?_)
    have hP : va_P G.1 vwCl [(v, zaL (G.2 0) nv (fv)), (a, .inr (0, [.int (iz (md)), .ref ra, .int (iz (0 + 1))])), (ra, zaR (G.2 5) 10 (va_up (fun _ => none) (0 : Int).toNat (some v)))] H := hP
    have hD : va_D A [(v, zaL (G.2 0) nv (fv)), (a, .inr (0, [.int (iz (md)), .ref ra, .int (iz (0 + 1))])), (ra, zaR (G.2 5) 10 (va_up (fun _ => none) (0 : Int).toNat (some v)))] := hD
    rw [hQ]
    exact zr_vret (u := (ra)) hx hb hr hlocks (hP.sub [1, 2, 0] rfl) (hD.sub [1, 2, 0] (by decide) rfl) hS (by first | exact Nat.le_of_ble_eq_true rfl | omega) (by first | exact Nat.le_of_ble_eq_true rfl | omega) dJx4a65c_add_72be8_22 (show True from trivial)

def rm_c_al_add_1 : Room := { frames := 4, cells := 1, slots := 10, locals := 87 }
theorem iw_Jx4a65c_add_9ea2d_Jx4a65c : ∀ w ∈ wsJx4a65c0, w ∈ wsJx4a65c_add_9ea2d := by decide +kernel
set_option maxHeartbeats 1000000 in
set_option maxRecDepth 100000 in
theorem c_al_add_1 (l : Launch) (G : zG) (nA : Nat) (nB : Nat) (nE : Nat) (a : Nat) (md : Int) (v : Nat) (nv : Nat) (fv : Int → Int) (hm : 0 ≤ md ∧ md ≤ 1000) : zMe l (zE G nA nB nE) G yJx4a65c_add_9ea2d wsJx4a65c_add_9ea2d rm_c_al_add_1 [.ref a, .ref v] [(a, .inr (0, [.int (iz (md)), .ref nE, .int (iz (0))])), (v, zaL (G.2 0) nv (fv))] (fun A => zQz G (fun (z : Bool) (ra : Nat) => z = true) (fun (ra : Nat) => [(a, .inr (0, [.int (iz (md + 1)), .ref ra, .int (iz (0 + 1))])), (ra, zaR (G.2 5) 10 (va_up (fun _ => none) (0 : Int).toNat (some v))), (v, zaL (G.2 0) nv (fv))]) A) 1 10 := by
  refine zMe_ofF (cc := cJx4a65c_add_9ea2d) (maxL := 2) (ret := (some .boolean)) (by decide +kernel) rfl (Nat.le_of_ble_eq_true rfl) ?_
  intro p e s m below meth c ls A Q hQ hx hb hr hts hown hlocks hml hnm hKX hE hP hD hA hS hl
  have hK := hKX.1
  have iwJx4a65c := iw_Jx4a65c_add_9ea2d_Jx4a65c
  obtain ⟨H, hH⟩ : ∃ h, h = s.heap := ⟨_, rfl⟩
  obtain ⟨locs, hlo⟩ : ∃ h : List Loc, h = [] := ⟨_, rfl⟩
  have hS : va_S A s.heap H locs := by rw [hH, hlo]; exact hS
  have hP : va_P G.1 vwCl [(a, .inr (0, [.int (iz (md)), .ref nE, .int (iz (0))])), (v, zaL (G.2 0) nv (fv))] H := by rw [hH]; exact hP
  have hD : va_D A [(a, .inr (0, [.int (iz (md)), .ref nE, .int (iz (0))])), (v, zaL (G.2 0) nv (fv))] := hD
  have hl : lv_has ls 2 [(0, .ref a), (1, .ref v)] := hl
  rw [← hH, ← hlo]
  refine lv_aload_n hx hb dJx4a65c_add_9ea2d_0 rfl (lv_at hl 0 rfl) ?_
  refine lv_dup hx hb dJx4a65c_add_9ea2d_1 rfl ?_
  refine va_get (D := G.1) (ci := 0) (v := .int (iz (md))) (C := RJx4a65c) (T := TJx4a65c) (N := 3) hx hb hts iwJx4a65c hown hK hP 0 rfl rfl 0 (by decide) (hts (.fieldLink RJx4a65c 63 "java/util/ArrayList" "modCount" "I") (by decide +kernel)) (u_same (hts (.sameField "java/util/ArrayList" "java/util/AbstractList" "modCount" "I") (by decide +kernel))) rfl dJx4a65c_add_9ea2d_2 ?_
  refine lv_iconst (v := iz (1)) hx hb dJx4a65c_add_9ea2d_5 rfl ?_
  refine zr_iadd hx hb dJx4a65c_add_9ea2d_6 ?_
  refine va_put (D := G.1) (ci := 0) (v := .int (iz (md + 1))) (ty := .int) (C := RJx4a65c) (T := TJx4a65c) (N := 3) hx hb hts iwJx4a65c tyJx4a65c tyJx4a65c_ok nmJx4a65c hown hK hP hD hS 0 rfl rfl 0 (by decide) (hts (.fieldLink RJx4a65c 63 "java/util/ArrayList" "modCount" "I") (by decide +kernel)) (u_same (hts (.sameField "java/util/ArrayList" "java/util/AbstractList" "modCount" "I") (by decide +kernel))) rfl (by decide +kernel) rfl rfl (Nat.le_of_ble_eq_true rfl) dJx4a65c_add_9ea2d_7 (fun H locs hP hD hS => ?_)
  have hP : va_P G.1 vwCl [(a, .inr (0, [.int (iz (md + 1)), .ref nE, .int (iz (0))])), (v, zaL (G.2 0) nv (fv))] H := hP
  have hD : va_D A [(a, .inr (0, [.int (iz (md + 1)), .ref nE, .int (iz (0))])), (v, zaL (G.2 0) nv (fv))] := hD
  refine lv_aload_n hx hb dJx4a65c_add_9ea2d_10 rfl (lv_at hl 0 rfl) ?_
  refine lv_aload_n hx hb dJx4a65c_add_9ea2d_11 rfl (lv_at hl 1 rfl) ?_
  refine lv_aload_n hx hb dJx4a65c_add_9ea2d_12 rfl (lv_at hl 0 rfl) ?_
  refine va_get (D := G.1) (ci := 0) (v := .ref nE) (C := RJx4a65c) (T := TJx4a65c) (N := 3) hx hb hts iwJx4a65c hown hK hP 0 rfl rfl 1 (by decide) (hts (.fieldLink RJx4a65c 9 "java/util/ArrayList" "elementData" "[Ljava/lang/Object;") (by decide +kernel)) (fun _ h9 => h9) rfl dJx4a65c_add_9ea2d_13 ?_
  refine lv_aload_n hx hb dJx4a65c_add_9ea2d_16 rfl (lv_at hl 0 rfl) ?_
  refine va_get (D := G.1) (ci := 0) (v := .int (iz (0))) (C := RJx4a65c) (T := TJx4a65c) (N := 3) hx hb hts iwJx4a65c hown hK hP 0 rfl rfl 2 (by decide) (hts (.fieldLink RJx4a65c 48 "java/util/ArrayList" "size" "I") (by decide +kernel)) (fun _ h9 => h9) rfl dJx4a65c_add_9ea2d_17 ?_
  refine zc_v (wr := []) (va_runV (As := [.ref v, .ref nE, .int (iz (0))]) (rest := []) ⟨hx, hb, hml, hown, hts⟩ (c_al_add3_1 l G nA nB nE a (md + 1) v nv fv  H.size) (cwV 3 hts gJx4a65c_add_9ea2d_Jx4a65c_add_72be8 rfl rfl rfl (by decide +kernel) ⟨Nat.le_of_ble_eq_true rfl, Nat.le_of_ble_eq_true rfl⟩) (zpVe zE_ok hE hS hA hKX hP hD [0, 1] rfl rfl (va_recv hK hP (ci := 0) (q0 := 0) rfl rfl)) rfl rfl hl.1 rfl (lv_room (Nat.le_of_ble_eq_true rfl)) dJx4a65c_add_9ea2d_20 ⟨(by first | exact Nat.le_of_ble_eq_true rfl | (show _ ≤ (1 : Nat); omega)), (by first | exact Nat.le_of_ble_eq_true rfl | (show _ ≤ (10 : Nat); omega))⟩) hP hD hS hA [0, 1] [] rfl rfl rfl (by decide) (fun u_1 H locs tr hP hD hS => ?_)
  generalize u_1 = ra at hP hD tr
  have hP : va_P G.1 vwCl [(a, .inr (0, [.int (iz ((md + 1))), .ref ra, .int (iz (0 + 1))])), (ra, zaR (G.2 5) 10 (va_up (fun _ => none) (0 : Int).toNat (some v))), (v, zaL (G.2 0) nv (fv))] H := hP
  have hD : va_D A [(a, .inr (0, [.int (iz ((md + 1))), .ref ra, .int (iz (0 + 1))])), (ra, zaR (G.2 5) 10 (va_up (fun _ => none) (0 : Int).toNat (some v))), (v, zaL (G.2 0) nv (fv))] := hD
  refine lv_iconst (v := iz (1)) hx hb dJx4a65c_add_9ea2d_23 rfl ?_
  rw [hQ]
  exact zr_zret (z := true) (rfl) (u := (ra)) hx hb hr hlocks hP hD hS (by first | exact Nat.le_of_ble_eq_true rfl | omega) (by first | exact Nat.le_of_ble_eq_true rfl | omega) dJx4a65c_add_9ea2d_24 (show true = true from rfl)

def rm_c_al_add3_k : Room := { frames := 0, cells := 0, slots := 0, locals := 0 }
set_option maxHeartbeats 1000000 in
set_option maxRecDepth 100000 in
theorem c_al_add3_k (l : Launch) (G : zG) (nA : Nat) (nB : Nat) (nE : Nat) (a : Nat) (md : Int) (v : Nat) (nv : Nat) (fv : Int → Int) (el : Nat) (N : Nat) (g : Nat → Option Nat) (sz : Int) (hz : 0 ≤ sz ∧ sz < N ∧ N < 100000) : zMe l (zE G nA nB nE) G yJx4a65c_add_72be8 wsJx4a65c_add_72be8 rm_c_al_add3_k [.ref a, .ref v, .ref el, .int (iz (sz))] [(a, .inr (0, [.int (iz (md)), .ref el, .int (iz (sz))])), (el, zaR (G.2 5) N (g)), (v, zaL (G.2 0) nv (fv))] (fun A => zQv G (fun (_ : Unit) => True) (fun (_ : Unit) => [(a, .inr (0, [.int (iz (md)), .ref el, .int (iz (sz + 1))])), (el, zaR (G.2 5) N (va_up g (sz).toNat (some v))), (v, zaL (G.2 0) nv (fv))]) A) 0 0 := by
  refine zMe_ofF (cc := cJx4a65c_add_72be8) (maxL := 4) (ret := none) (by decide +kernel) rfl (Nat.le_of_ble_eq_true rfl) ?_
  intro p e s m below meth c ls A Q hQ hx hb hr hts hown hlocks hml hnm hKX hE hP hD hA hS hl
  have hK := hKX.1
  have iwJx4a65c := iw_Jx4a65c_add_72be8_Jx4a65c
  obtain ⟨H, hH⟩ : ∃ h, h = s.heap := ⟨_, rfl⟩
  obtain ⟨locs, hlo⟩ : ∃ h : List Loc, h = [] := ⟨_, rfl⟩
  have hS : va_S A s.heap H locs := by rw [hH, hlo]; exact hS
  have hP : va_P G.1 vwCl [(a, .inr (0, [.int (iz (md)), .ref el, .int (iz (sz))])), (el, zaR (G.2 5) N (g)), (v, zaL (G.2 0) nv (fv))] H := by rw [hH]; exact hP
  have hD : va_D A [(a, .inr (0, [.int (iz (md)), .ref el, .int (iz (sz))])), (el, zaR (G.2 5) N (g)), (v, zaL (G.2 0) nv (fv))] := hD
  have hl : lv_has ls 4 [(0, .ref a), (1, .ref v), (2, .ref el), (3, .int (iz (sz)))] := hl
  rw [← hH, ← hlo]
  refine lv_iload_n hx hb dJx4a65c_add_72be8_0 rfl (lv_at hl 3 rfl) ?_
  refine lv_aload_n hx hb dJx4a65c_add_72be8_1 rfl (lv_at hl 2 rfl) ?_
  refine va_alen hx hb hK hP 1 5 rfl rfl (v := iz (N)) (by first | rfl | exact zofn _) dJx4a65c_add_72be8_2 ?_
  refine zr_icmp_ne (x := sz) (y := N) (tgt := 11) hx hb (⟨by omega, by omega⟩) (⟨by omega, by omega⟩) dJx4a65c_add_72be8_3 (by decide) (fun h_1 => ?_) (fun h_1 => ?_)
  ·
    refine lv_aload_n hx hb dJx4a65c_add_72be8_11 rfl (lv_at hl 2 rfl) ?_
    refine lv_iload_n hx hb dJx4a65c_add_72be8_12 rfl (lv_at hl 3 rfl) ?_
    refine lv_aload_n hx hb dJx4a65c_add_72be8_13 rfl (lv_at hl 1 rfl) ?_
    refine zr_astqL hx hb hKX hP hD hS 1 5 2 rfl rfl rfl (i := sz) (⟨by omega, by omega, by omega⟩) dJx4a65c_add_72be8_14 (fun H locs hP hD hS => ?_)
    have hP : va_P G.1 vwCl [(a, .inr (0, [.int (iz (md)), .ref el, .int (iz (sz))])), (el, zaR (G.2 5) N (va_up g (sz).toNat (some v))), (v, zaL (G.2 0) nv (fv))] H := hP
    have hD : va_D A [(a, .inr (0, [.int (iz (md)), .ref el, .int (iz (sz))])), (el, zaR (G.2 5) N (va_up g (sz).toNat (some v))), (v, zaL (G.2 0) nv (fv))] := hD
    refine lv_aload_n hx hb dJx4a65c_add_72be8_15 rfl (lv_at hl 0 rfl) ?_
    refine lv_iload_n hx hb dJx4a65c_add_72be8_16 rfl (lv_at hl 3 rfl) ?_
    refine lv_iconst (v := iz (1)) hx hb dJx4a65c_add_72be8_17 rfl ?_
    refine zr_iadd hx hb dJx4a65c_add_72be8_18 ?_
    refine va_put (D := G.1) (ci := 0) (v := .int (iz (sz + 1))) (ty := .int) (C := RJx4a65c) (T := TJx4a65c) (N := 3) hx hb hts iwJx4a65c tyJx4a65c tyJx4a65c_ok nmJx4a65c hown hK hP hD hS 0 rfl rfl 2 (by decide) (hts (.fieldLink RJx4a65c 48 "java/util/ArrayList" "size" "I") (by decide +kernel)) (fun _ h9 => h9) rfl (by decide +kernel) rfl rfl (Nat.le_of_ble_eq_true rfl) dJx4a65c_add_72be8_19 (fun H locs hP hD hS => ?_)
    have hP : va_P G.1 vwCl [(a, .inr (0, [.int (iz (md)), .ref el, .int (iz (sz + 1))])), (el, zaR (G.2 5) N (va_up g (sz).toNat (some v))), (v, zaL (G.2 0) nv (fv))] H := hP
    have hD : va_D A [(a, .inr (0, [.int (iz (md)), .ref el, .int (iz (sz + 1))])), (el, zaR (G.2 5) N (va_up g (sz).toNat (some v))), (v, zaL (G.2 0) nv (fv))] := hD
    rw [hQ]
    exact zr_vret (u := ()) hx hb hr hlocks hP hD hS (by first | exact Nat.le_of_ble_eq_true rfl | omega) (by first | exact Nat.le_of_ble_eq_true rfl | omega) dJx4a65c_add_72be8_22 (show True from trivial)
  · exact absurd h_1 (by omega)

def rm_c_al_add_k : Room := { frames := 1, cells := 0, slots := 0, locals := 23 }
set_option maxHeartbeats 1000000 in
set_option maxRecDepth 100000 in
theorem c_al_add_k (l : Launch) (G : zG) (nA : Nat) (nB : Nat) (nE : Nat) (a : Nat) (md : Int) (v : Nat) (nv : Nat) (fv : Int → Int) (el : Nat) (N : Nat) (g : Nat → Option Nat) (sz : Int) (hm : 0 ≤ md ∧ md ≤ 1000) (hz : 0 ≤ sz ∧ sz < N ∧ N < 100000) : zMe l (zE G nA nB nE) G yJx4a65c_add_9ea2d wsJx4a65c_add_9ea2d rm_c_al_add_k [.ref a, .ref v] [(a, .inr (0, [.int (iz (md)), .ref el, .int (iz (sz))])), (el, zaR (G.2 5) N (g)), (v, zaL (G.2 0) nv (fv))] (fun A => zQz G (fun (z : Bool) (_ : Unit) => z = true) (fun (_ : Unit) => [(a, .inr (0, [.int (iz (md + 1)), .ref el, .int (iz (sz + 1))])), (el, zaR (G.2 5) N (va_up g (sz).toNat (some v))), (v, zaL (G.2 0) nv (fv))]) A) 0 0 := by
  refine zMe_ofF (cc := cJx4a65c_add_9ea2d) (maxL := 2) (ret := (some .boolean)) (by decide +kernel) rfl (Nat.le_of_ble_eq_true rfl) ?_
  intro p e s m below meth c ls A Q hQ hx hb hr hts hown hlocks hml hnm hKX hE hP hD hA hS hl
  have hK := hKX.1
  have iwJx4a65c := iw_Jx4a65c_add_9ea2d_Jx4a65c
  obtain ⟨H, hH⟩ : ∃ h, h = s.heap := ⟨_, rfl⟩
  obtain ⟨locs, hlo⟩ : ∃ h : List Loc, h = [] := ⟨_, rfl⟩
  have hS : va_S A s.heap H locs := by rw [hH, hlo]; exact hS
  have hP : va_P G.1 vwCl [(a, .inr (0, [.int (iz (md)), .ref el, .int (iz (sz))])), (el, zaR (G.2 5) N (g)), (v, zaL (G.2 0) nv (fv))] H := by rw [hH]; exact hP
  have hD : va_D A [(a, .inr (0, [.int (iz (md)), .ref el, .int (iz (sz))])), (el, zaR (G.2 5) N (g)), (v, zaL (G.2 0) nv (fv))] := hD
  have hl : lv_has ls 2 [(0, .ref a), (1, .ref v)] := hl
  rw [← hH, ← hlo]
  refine lv_aload_n hx hb dJx4a65c_add_9ea2d_0 rfl (lv_at hl 0 rfl) ?_
  refine lv_dup hx hb dJx4a65c_add_9ea2d_1 rfl ?_
  refine va_get (D := G.1) (ci := 0) (v := .int (iz (md))) (C := RJx4a65c) (T := TJx4a65c) (N := 3) hx hb hts iwJx4a65c hown hK hP 0 rfl rfl 0 (by decide) (hts (.fieldLink RJx4a65c 63 "java/util/ArrayList" "modCount" "I") (by decide +kernel)) (u_same (hts (.sameField "java/util/ArrayList" "java/util/AbstractList" "modCount" "I") (by decide +kernel))) rfl dJx4a65c_add_9ea2d_2 ?_
  refine lv_iconst (v := iz (1)) hx hb dJx4a65c_add_9ea2d_5 rfl ?_
  refine zr_iadd hx hb dJx4a65c_add_9ea2d_6 ?_
  refine va_put (D := G.1) (ci := 0) (v := .int (iz (md + 1))) (ty := .int) (C := RJx4a65c) (T := TJx4a65c) (N := 3) hx hb hts iwJx4a65c tyJx4a65c tyJx4a65c_ok nmJx4a65c hown hK hP hD hS 0 rfl rfl 0 (by decide) (hts (.fieldLink RJx4a65c 63 "java/util/ArrayList" "modCount" "I") (by decide +kernel)) (u_same (hts (.sameField "java/util/ArrayList" "java/util/AbstractList" "modCount" "I") (by decide +kernel))) rfl (by decide +kernel) rfl rfl (Nat.le_of_ble_eq_true rfl) dJx4a65c_add_9ea2d_7 (fun H locs hP hD hS => ?_)
  have hP : va_P G.1 vwCl [(a, .inr (0, [.int (iz (md + 1)), .ref el, .int (iz (sz))])), (el, zaR (G.2 5) N (g)), (v, zaL (G.2 0) nv (fv))] H := hP
  have hD : va_D A [(a, .inr (0, [.int (iz (md + 1)), .ref el, .int (iz (sz))])), (el, zaR (G.2 5) N (g)), (v, zaL (G.2 0) nv (fv))] := hD
  refine lv_aload_n hx hb dJx4a65c_add_9ea2d_10 rfl (lv_at hl 0 rfl) ?_
  refine lv_aload_n hx hb dJx4a65c_add_9ea2d_11 rfl (lv_at hl 1 rfl) ?_
  refine lv_aload_n hx hb dJx4a65c_add_9ea2d_12 rfl (lv_at hl 0 rfl) ?_
  refine va_get (D := G.1) (ci := 0) (v := .ref el) (C := RJx4a65c) (T := TJx4a65c) (N := 3) hx hb hts iwJx4a65c hown hK hP 0 rfl rfl 1 (by decide) (hts (.fieldLink RJx4a65c 9 "java/util/ArrayList" "elementData" "[Ljava/lang/Object;") (by decide +kernel)) (fun _ h9 => h9) rfl dJx4a65c_add_9ea2d_13 ?_
  refine lv_aload_n hx hb dJx4a65c_add_9ea2d_16 rfl (lv_at hl 0 rfl) ?_
  refine va_get (D := G.1) (ci := 0) (v := .int (iz (sz))) (C := RJx4a65c) (T := TJx4a65c) (N := 3) hx hb hts iwJx4a65c hown hK hP 0 rfl rfl 2 (by decide) (hts (.fieldLink RJx4a65c 48 "java/util/ArrayList" "size" "I") (by decide +kernel)) (fun _ h9 => h9) rfl dJx4a65c_add_9ea2d_17 ?_
  refine zc_v (wr := []) (va_runV (As := [.ref v, .ref el, .int (iz (sz))]) (rest := []) ⟨hx, hb, hml, hown, hts⟩ (c_al_add3_k l G nA nB nE a (md + 1) v nv fv el N g sz (by omega) H.size) (cwV 3 hts gJx4a65c_add_9ea2d_Jx4a65c_add_72be8 rfl rfl rfl (by decide +kernel) ⟨Nat.le_of_ble_eq_true rfl, Nat.le_of_ble_eq_true rfl⟩) (zpVe zE_ok hE hS hA hKX hP hD [0, 1, 2] rfl rfl (va_recv hK hP (ci := 0) (q0 := 0) rfl rfl)) rfl rfl hl.1 rfl (lv_room (Nat.le_of_ble_eq_true rfl)) dJx4a65c_add_9ea2d_20 ⟨(by first | exact Nat.le_of_ble_eq_true rfl | (show _ ≤ (0 : Nat); omega)), (by first | exact Nat.le_of_ble_eq_true rfl | (show _ ≤ (0 : Nat); omega))⟩) hP hD hS hA [0, 1, 2] [] rfl rfl rfl (by decide) (fun u_1 H locs tr hP hD hS => ?_)
  have hP : va_P G.1 vwCl [(a, .inr (0, [.int (iz ((md + 1))), .ref el, .int (iz (sz + 1))])), (el, zaR (G.2 5) N (va_up g (sz).toNat (some v))), (v, zaL (G.2 0) nv (fv))] H := hP
  have hD : va_D A [(a, .inr (0, [.int (iz ((md + 1))), .ref el, .int (iz (sz + 1))])), (el, zaR (G.2 5) N (va_up g (sz).toNat (some v))), (v, zaL (G.2 0) nv (fv))] := hD
  refine lv_iconst (v := iz (1)) hx hb dJx4a65c_add_9ea2d_23 rfl ?_
  rw [hQ]
  exact zr_zret (z := true) (rfl) (u := ()) hx hb hr hlocks hP hD hS (by first | exact Nat.le_of_ble_eq_true rfl | omega) (by first | exact Nat.le_of_ble_eq_true rfl | omega) dJx4a65c_add_9ea2d_24 (show true = true from rfl)

def rm_c_al_size : Room := { frames := 0, cells := 0, slots := 0, locals := 0 }
theorem iw_Jx4a65c_size_8abf5_Jx4a65c : ∀ w ∈ wsJx4a65c0, w ∈ wsJx4a65c_size_8abf5 := by decide +kernel
set_option maxHeartbeats 1000000 in
set_option maxRecDepth 100000 in
theorem c_al_size (l : Launch) (G : zG) (a : Nat) (md : Int) (el : Nat) (sz : Int)  : zM l G yJx4a65c_size_8abf5 wsJx4a65c_size_8abf5 rm_c_al_size [.ref a] [(a, .inr (0, [.int (iz (md)), .ref el, .int (iz (sz))]))] (fun A => zQi G (fun (z : Int) (_ : Unit) => z = sz) (fun (_ : Unit) => [(a, .inr (0, [.int (iz (md)), .ref el, .int (iz (sz))]))]) A) 0 0 := by
  refine zM_ofF (cc := cJx4a65c_size_8abf5) (maxL := 1) (ret := (some .int)) (by decide +kernel) rfl (Nat.le_of_ble_eq_true rfl) ?_
  intro p e s m below meth c ls A Q hQ hx hb hr hts hown hlocks hml hnm hKX hP hD hA hS hl
  have hK := hKX.1
  have iwJx4a65c := iw_Jx4a65c_size_8abf5_Jx4a65c
  obtain ⟨H, hH⟩ : ∃ h, h = s.heap := ⟨_, rfl⟩
  obtain ⟨locs, hlo⟩ : ∃ h : List Loc, h = [] := ⟨_, rfl⟩
  have hS : va_S A s.heap H locs := by rw [hH, hlo]; exact hS
  have hP : va_P G.1 vwCl [(a, .inr (0, [.int (iz (md)), .ref el, .int (iz (sz))]))] H := by rw [hH]; exact hP
  have hD : va_D A [(a, .inr (0, [.int (iz (md)), .ref el, .int (iz (sz))]))] := hD
  have hl : lv_has ls 1 [(0, .ref a)] := hl
  rw [← hH, ← hlo]
  refine lv_aload_n hx hb dJx4a65c_size_8abf5_0 rfl (lv_at hl 0 rfl) ?_
  refine va_get (D := G.1) (ci := 0) (v := .int (iz (sz))) (C := RJx4a65c) (T := TJx4a65c) (N := 3) hx hb hts iwJx4a65c hown hK hP 0 rfl rfl 2 (by decide) (hts (.fieldLink RJx4a65c 48 "java/util/ArrayList" "size" "I") (by decide +kernel)) (fun _ h9 => h9) rfl dJx4a65c_size_8abf5_1 ?_
  rw [hQ]
  exact zr_iret (z := sz) (u := ()) hx hb hr hlocks hP hD hS (by first | exact Nat.le_of_ble_eq_true rfl | omega) (by first | exact Nat.le_of_ble_eq_true rfl | omega) dJx4a65c_size_8abf5_4 (show sz = sz from rfl)

def rm_c_ci3 : Room := { frames := 0, cells := 0, slots := 0, locals := 0 }
set_option maxHeartbeats 1000000 in
set_option maxRecDepth 100000 in
theorem c_ci3 (l : Launch) (G : zG) (i : Int) (n : Int) (h1 : 0 ≤ i ∧ i < n ∧ n < 2147483648) : zM l G yJ3_checkIndex_8e157 wsJ3_checkIndex_8e157 rm_c_ci3 [.int (iz (i)), .int (iz (n)), .null] [] (fun A => zQi G (fun (z : Int) (_ : Unit) => z = i) (fun (_ : Unit) => []) A) 0 0 := by
  refine zM_ofF (cc := cJ3_checkIndex_8e157) (maxL := 3) (ret := (some .int)) (by decide +kernel) rfl (Nat.le_of_ble_eq_true rfl) ?_
  intro p e s m below meth c ls A Q hQ hx hb hr hts hown hlocks hml hnm hKX hP hD hA hS hl
  have hK := hKX.1
  obtain ⟨H, hH⟩ : ∃ h, h = s.heap := ⟨_, rfl⟩
  obtain ⟨locs, hlo⟩ : ∃ h : List Loc, h = [] := ⟨_, rfl⟩
  have hS : va_S A s.heap H locs := by rw [hH, hlo]; exact hS
  have hP : va_P G.1 vwCl [] H := by rw [hH]; exact hP
  have hD : va_D A [] := hD
  have hl : lv_has ls 3 [(0, .int (iz (i))), (1, .int (iz (n))), (2, .null)] := hl
  rw [← hH, ← hlo]
  refine lv_iload_n hx hb dJ3_checkIndex_8e157_0 rfl (lv_at hl 0 rfl) ?_
  refine zr_if_lt (x := i) (tgt := 9) hx hb (⟨by omega, by omega⟩) dJ3_checkIndex_8e157_1 (by decide) (fun h_1 => ?_) (fun h_1 => ?_)
  · exact absurd h_1 (by omega)
  ·
    refine lv_iload_n hx hb dJ3_checkIndex_8e157_4 rfl (lv_at hl 0 rfl) ?_
    refine lv_iload_n hx hb dJ3_checkIndex_8e157_5 rfl (lv_at hl 1 rfl) ?_
    refine zr_icmp_lt (x := i) (y := n) (tgt := 16) hx hb (⟨by omega, by omega⟩) (⟨by omega, by omega⟩) dJ3_checkIndex_8e157_6 (by decide) (fun h_2 => ?_) (fun h_2 => ?_)
    ·
      refine lv_iload_n hx hb dJ3_checkIndex_8e157_16 rfl (lv_at hl 0 rfl) ?_
      rw [hQ]
      exact zr_iret (z := i) (u := ()) hx hb hr hlocks hP hD hS (by first | exact Nat.le_of_ble_eq_true rfl | omega) (by first | exact Nat.le_of_ble_eq_true rfl | omega) dJ3_checkIndex_8e157_17 (show i = i from rfl)
    · exact absurd h_2 (by omega)

def rm_c_ci : Room := { frames := 1, cells := 0, slots := 0, locals := 22 }
set_option maxHeartbeats 1000000 in
set_option maxRecDepth 100000 in
theorem c_ci (l : Launch) (G : zG) (i : Int) (n : Int) (h1 : 0 ≤ i ∧ i < n ∧ n < 2147483648) : zM l G yJ15_checkIndex_7cf53 wsJ15_checkIndex_7cf53 rm_c_ci [.int (iz (i)), .int (iz (n))] [] (fun A => zQi G (fun (z : Int) (_ : Unit) => z = i) (fun (_ : Unit) => []) A) 0 0 := by
  refine zM_ofF (cc := cJ15_checkIndex_7cf53) (maxL := 2) (ret := (some .int)) (by decide +kernel) rfl (Nat.le_of_ble_eq_true rfl) ?_
  intro p e s m below meth c ls A Q hQ hx hb hr hts hown hlocks hml hnm hKX hP hD hA hS hl
  have hK := hKX.1
  obtain ⟨H, hH⟩ : ∃ h, h = s.heap := ⟨_, rfl⟩
  obtain ⟨locs, hlo⟩ : ∃ h : List Loc, h = [] := ⟨_, rfl⟩
  have hS : va_S A s.heap H locs := by rw [hH, hlo]; exact hS
  have hP : va_P G.1 vwCl [] H := by rw [hH]; exact hP
  have hD : va_D A [] := hD
  have hl : lv_has ls 2 [(0, .int (iz (i))), (1, .int (iz (n)))] := hl
  rw [← hH, ← hlo]
  refine lv_iload_n hx hb dJ15_checkIndex_7cf53_0 rfl (lv_at hl 0 rfl) ?_
  refine lv_iload_n hx hb dJ15_checkIndex_7cf53_1 rfl (lv_at hl 1 rfl) ?_
  refine lv_null hx hb dJ15_checkIndex_7cf53_2 ?_
  refine zc_i (wr := []) (va_runS (As := [.int (iz (i)), .int (iz (n)), .null]) (rest := []) ⟨hx, hb, hml, hown, hts⟩ (c_ci3 l G i n (by omega) H.size) (va_cwS 3 hts gJ15_checkIndex_7cf53_J3_checkIndex_8e157 rfl rfl rfl (by decide +kernel) ⟨Nat.le_of_ble_eq_true rfl, Nat.le_of_ble_eq_true rfl⟩) (zpS hKX hP hD [] rfl rfl) rfl rfl hl.1 rfl (lv_room (Nat.le_of_ble_eq_true rfl)) dJ15_checkIndex_7cf53_3 ⟨(by first | exact Nat.le_of_ble_eq_true rfl | (show _ ≤ (0 : Nat); omega)), (by first | exact Nat.le_of_ble_eq_true rfl | (show _ ≤ (0 : Nat); omega))⟩) hP hD hS hA [] [] rfl rfl rfl (by decide) (fun zz u_1 H locs hzz hP hD hS => ?_)
  have hP : va_P G.1 vwCl [] H := hP
  have hD : va_D A [] := hD
  have hzz : zz = i := hzz
  rw [hQ]
  exact zr_iret (z := zz) (u := ()) hx hb hr hlocks hP hD hS (by first | exact Nat.le_of_ble_eq_true rfl | omega) (by first | exact Nat.le_of_ble_eq_true rfl | omega) dJ15_checkIndex_7cf53_6 (show zz = i from hzz)

def rm_c_al_eld : Room := { frames := 0, cells := 0, slots := 0, locals := 0 }
theorem iw_Jx4a65c_elementData_915e3_Jx4a65c : ∀ w ∈ wsJx4a65c0, w ∈ wsJx4a65c_elementData_915e3 := by decide +kernel
set_option maxHeartbeats 1000000 in
set_option maxRecDepth 100000 in
theorem c_al_eld (l : Launch) (G : zG) (a : Nat) (md : Int) (el : Nat) (N : Nat) (g : Nat → Option Nat) (sz : Int) (i : Int) (v : Nat) (hz : 0 ≤ i ∧ i < sz ∧ sz ≤ N ∧ N < 100000) (hv : g i.toNat = some v) : zM l G yJx4a65c_elementData_915e3 wsJx4a65c_elementData_915e3 rm_c_al_eld [.ref a, .int (iz (i))] [(a, .inr (0, [.int (iz (md)), .ref el, .int (iz (sz))])), (el, zaR (G.2 5) N (g))] (fun A => zQr G (fun (_ : Unit) (ra : Nat) => ra = v) (fun (_ : Unit) (ra : Nat) => [(a, .inr (0, [.int (iz (md)), .ref el, .int (iz (sz))])), (el, zaR (G.2 5) N (g))]) A) 0 0 := by
  refine zM_ofF (cc := cJx4a65c_elementData_915e3) (maxL := 2) (ret := (some (.object "java/lang/Object"))) (by decide +kernel) rfl (Nat.le_of_ble_eq_true rfl) ?_
  intro p e s m below meth c ls A Q hQ hx hb hr hts hown hlocks hml hnm hKX hP hD hA hS hl
  have hK := hKX.1
  have iwJx4a65c := iw_Jx4a65c_elementData_915e3_Jx4a65c
  obtain ⟨H, hH⟩ : ∃ h, h = s.heap := ⟨_, rfl⟩
  obtain ⟨locs, hlo⟩ : ∃ h : List Loc, h = [] := ⟨_, rfl⟩
  have hS : va_S A s.heap H locs := by rw [hH, hlo]; exact hS
  have hP : va_P G.1 vwCl [(a, .inr (0, [.int (iz (md)), .ref el, .int (iz (sz))])), (el, zaR (G.2 5) N (g))] H := by rw [hH]; exact hP
  have hD : va_D A [(a, .inr (0, [.int (iz (md)), .ref el, .int (iz (sz))])), (el, zaR (G.2 5) N (g))] := hD
  have hl : lv_has ls 2 [(0, .ref a), (1, .int (iz (i)))] := hl
  rw [← hH, ← hlo]
  refine lv_aload_n hx hb dJx4a65c_elementData_915e3_0 rfl (lv_at hl 0 rfl) ?_
  refine va_get (D := G.1) (ci := 0) (v := .ref el) (C := RJx4a65c) (T := TJx4a65c) (N := 3) hx hb hts iwJx4a65c hown hK hP 0 rfl rfl 1 (by decide) (hts (.fieldLink RJx4a65c 9 "java/util/ArrayList" "elementData" "[Ljava/lang/Object;") (by decide +kernel)) (fun _ h9 => h9) rfl dJx4a65c_elementData_915e3_1 ?_
  refine lv_iload_n hx hb dJx4a65c_elementData_915e3_4 rfl (lv_at hl 1 rfl) ?_
  refine zr_aldq (v := v) hx hb hK hP 1 5 rfl rfl (i := i) (⟨by omega, by omega, by omega⟩) (hv) dJx4a65c_elementData_915e3_5 ?_
  rw [hQ]
  exact zr_aret (ra := v) (Or.inl ⟨_, rfl⟩) (u := ()) hx hb hr hlocks hP hD hS (by first | exact Nat.le_of_ble_eq_true rfl | omega) (by first | exact Nat.le_of_ble_eq_true rfl | omega) dJx4a65c_elementData_915e3_6 (show v = v from rfl)

def rm_c_al_get : Room := { frames := 2, cells := 0, slots := 0, locals := 43 }
theorem iw_Jx4a65c_get_915e3_Jx4a65c : ∀ w ∈ wsJx4a65c0, w ∈ wsJx4a65c_get_915e3 := by decide +kernel
set_option maxHeartbeats 1000000 in
set_option maxRecDepth 100000 in
theorem c_al_get (l : Launch) (G : zG) (a : Nat) (md : Int) (el : Nat) (N : Nat) (g : Nat → Option Nat) (sz : Int) (i : Int) (v : Nat) (hz : 0 ≤ i ∧ i < sz ∧ sz ≤ N ∧ N < 100000) (hv : g i.toNat = some v) : zM l G yJx4a65c_get_915e3 wsJx4a65c_get_915e3 rm_c_al_get [.ref a, .int (iz (i))] [(a, .inr (0, [.int (iz (md)), .ref el, .int (iz (sz))])), (el, zaR (G.2 5) N (g))] (fun A => zQr G (fun (_ : Unit) (ra : Nat) => ra = v) (fun (_ : Unit) (ra : Nat) => [(a, .inr (0, [.int (iz (md)), .ref el, .int (iz (sz))])), (el, zaR (G.2 5) N (g))]) A) 0 0 := by
  refine zM_ofF (cc := cJx4a65c_get_915e3) (maxL := 2) (ret := (some (.object "java/lang/Object"))) (by decide +kernel) rfl (Nat.le_of_ble_eq_true rfl) ?_
  intro p e s m below meth c ls A Q hQ hx hb hr hts hown hlocks hml hnm hKX hP hD hA hS hl
  have hK := hKX.1
  have iwJx4a65c := iw_Jx4a65c_get_915e3_Jx4a65c
  obtain ⟨H, hH⟩ : ∃ h, h = s.heap := ⟨_, rfl⟩
  obtain ⟨locs, hlo⟩ : ∃ h : List Loc, h = [] := ⟨_, rfl⟩
  have hS : va_S A s.heap H locs := by rw [hH, hlo]; exact hS
  have hP : va_P G.1 vwCl [(a, .inr (0, [.int (iz (md)), .ref el, .int (iz (sz))])), (el, zaR (G.2 5) N (g))] H := by rw [hH]; exact hP
  have hD : va_D A [(a, .inr (0, [.int (iz (md)), .ref el, .int (iz (sz))])), (el, zaR (G.2 5) N (g))] := hD
  have hl : lv_has ls 2 [(0, .ref a), (1, .int (iz (i)))] := hl
  rw [← hH, ← hlo]
  refine lv_iload_n hx hb dJx4a65c_get_915e3_0 rfl (lv_at hl 1 rfl) ?_
  refine lv_aload_n hx hb dJx4a65c_get_915e3_1 rfl (lv_at hl 0 rfl) ?_
  refine va_get (D := G.1) (ci := 0) (v := .int (iz (sz))) (C := RJx4a65c) (T := TJx4a65c) (N := 3) hx hb hts iwJx4a65c hown hK hP 0 rfl rfl 2 (by decide) (hts (.fieldLink RJx4a65c 48 "java/util/ArrayList" "size" "I") (by decide +kernel)) (fun _ h9 => h9) rfl dJx4a65c_get_915e3_2 ?_
  refine zc_i (wr := [(a, .inr (0, [.int (iz (md)), .ref el, .int (iz (sz))])), (el, zaR (G.2 5) N (g))]) (va_runS (As := [.int (iz (i)), .int (iz (sz))]) (rest := []) ⟨hx, hb, hml, hown, hts⟩ (c_ci l G i sz (by omega) H.size) (va_cwS 2 hts gJx4a65c_get_915e3_J15_checkIndex_7cf53 rfl rfl rfl (by decide +kernel) ⟨Nat.le_of_ble_eq_true rfl, Nat.le_of_ble_eq_true rfl⟩) (zpS hKX hP hD [] rfl rfl) rfl rfl hl.1 rfl (lv_room (Nat.le_of_ble_eq_true rfl)) dJx4a65c_get_915e3_5 ⟨(by first | exact Nat.le_of_ble_eq_true rfl | (show _ ≤ (0 : Nat); omega)), (by first | exact Nat.le_of_ble_eq_true rfl | (show _ ≤ (0 : Nat); omega))⟩) hP hD hS hA [] [0, 1] rfl rfl rfl (by decide) (fun zz u_1 H locs hzz hP hD hS => ?_)
  have hP : va_P G.1 vwCl [(a, .inr (0, [.int (iz (md)), .ref el, .int (iz (sz))])), (el, zaR (G.2 5) N (g))] H := hP
  have hD : va_D A [(a, .inr (0, [.int (iz (md)), .ref el, .int (iz (sz))])), (el, zaR (G.2 5) N (g))] := hD
  have hzz : zz = i := hzz
  refine lv_pop hx hb dJx4a65c_get_915e3_8 rfl ?_
  refine lv_aload_n hx hb dJx4a65c_get_915e3_9 rfl (lv_at hl 0 rfl) ?_
  refine lv_iload_n hx hb dJx4a65c_get_915e3_10 rfl (lv_at hl 1 rfl) ?_
  refine zc_r (wr := []) (va_runV (As := [.int (iz (i))]) (rest := []) ⟨hx, hb, hml, hown, hts⟩ (c_al_eld l G a md el N g sz i v (by omega) (hv) H.size) (cwV 1 hts gJx4a65c_get_915e3_Jx4a65c_elementData_915e3 rfl rfl rfl (by decide +kernel) ⟨Nat.le_of_ble_eq_true rfl, Nat.le_of_ble_eq_true rfl⟩) (zpV hKX hP hD [0, 1] rfl rfl 0 0 rfl rfl) rfl rfl hl.1 rfl (lv_room (Nat.le_of_ble_eq_true rfl)) dJx4a65c_get_915e3_11 ⟨(by first | exact Nat.le_of_ble_eq_true rfl | (show _ ≤ (0 : Nat); omega)), (by first | exact Nat.le_of_ble_eq_true rfl | (show _ ≤ (0 : Nat); omega))⟩) hP hD hS hA [0, 1] [] rfl rfl rfl (by decide) (fun u_3 rv H locs tr hP hD hS => ?_)
  have hP : va_P G.1 vwCl [(a, .inr (0, [.int (iz (md)), .ref el, .int (iz (sz))])), (el, zaR (G.2 5) N (g))] H := hP
  have hD : va_D A [(a, .inr (0, [.int (iz (md)), .ref el, .int (iz (sz))])), (el, zaR (G.2 5) N (g))] := hD
  have tr : rv = v := tr
  rw [tr]
  rw [hQ]
  exact zr_aret (ra := v) (Or.inl ⟨_, rfl⟩) (u := ()) hx hb hr hlocks hP hD hS (by first | exact Nat.le_of_ble_eq_true rfl | omega) (by first | exact Nat.le_of_ble_eq_true rfl | omega) dJx4a65c_get_915e3_14 (show v = v from rfl)

def rm_c_X12_init : Room := { frames := 4, cells := 6, slots := 103, locals := 72 }
theorem iw_X12_init_Jx4a65c : ∀ w ∈ wsJx4a65c0, w ∈ wsX12_init := by decide +kernel
theorem iw_X12_init_X12 : ∀ w ∈ wsX120, w ∈ wsX12_init := by decide +kernel
set_option maxHeartbeats 1000000 in
set_option maxRecDepth 100000 in
theorem c_X12_init (l : Launch) (G : zG) (nA : Nat) (nB : Nat) (nE : Nat) (x : Nat)  : zMe l (zE G nA nB nE) G yX12_init wsX12_init rm_c_X12_init [.ref x] [(x, .inr (13, [.int (iz (0)), .int (iz (0)), .null, .null, .null, .null, .int (iz (0)), .null, .int (iz (0)), .null, .null, .int (iz (0))]))] (fun A => zQv G (fun (u : (Nat × Nat × Nat × Nat × Nat × Nat)) => True) (fun (u : (Nat × Nat × Nat × Nat × Nat × Nat)) => [(x, .inr (13, [.int (iz (0)), .int (iz (6)), .ref u.1, .null, .ref u.2.1, .ref u.2.2.1, .int (iz (0)), .ref u.2.2.2.1, .int (iz (0)), .ref u.2.2.2.2.1, .ref u.2.2.2.2.2, .int (iz (0))])), (u.1, zaL (G.2 0) 41 (fun _ => 0)), (u.2.1, .inr (0, [.int (iz (0)), .ref nE, .int (iz (0))])), (u.2.2.1, zaI (G.2 1) 31 (fun _ => 0)), (u.2.2.2.1, zaI (G.2 1) 12 (fun _ => 0)), (u.2.2.2.2.1, zaL (G.2 0) 8 (fun _ => 0)), (u.2.2.2.2.2, zaI (G.2 1) 8 (fun _ => 0))]) A) 6 103 := by
  refine zMe_of (cc := cX12_init) (maxL := 1) (ret := none) (by decide) rfl (Nat.le_of_ble_eq_true rfl) ?_
  intro p e s m below meth c ls A Q hQ hx hb hr hts hown hlocks hml hnm hKX hE hP hD hA hS hl
  have hK := hKX.1
  have iwJx4a65c := iw_X12_init_Jx4a65c
  have iwX12 := iw_X12_init_X12
  obtain ⟨H, hH⟩ : ∃ h, h = s.heap := ⟨_, rfl⟩
  obtain ⟨locs, hlo⟩ : ∃ h : List Loc, h = [] := ⟨_, rfl⟩
  have hS : va_S A s.heap H locs := by rw [hH, hlo]; exact hS
  have hP : va_P G.1 vwCl [(x, .inr (13, [.int (iz (0)), .int (iz (0)), .null, .null, .null, .null, .int (iz (0)), .null, .int (iz (0)), .null, .null, .int (iz (0))]))] H := by rw [hH]; exact hP
  have hD : va_D A [(x, .inr (13, [.int (iz (0)), .int (iz (0)), .null, .null, .null, .null, .int (iz (0)), .null, .int (iz (0)), .null, .null, .int (iz (0))]))] := hD
  have hl : lv_has ls 1 [(0, .ref x)] := hl
  rw [← hH, ← hlo]
  refine lv_aload_n hx hb dX12_init_0 rfl (lv_at hl 0 rfl) ?_
  refine W.objInit hx hb hown (hts (.methodLink RX12 59 objectInit) (by decide +kernel)) (hts (.instanceMethod objectInit) (by decide +kernel)) (hts (.code objectInit ⟨#[0xb1]⟩ 1 none) (by decide +kernel)) rfl (by rw [hml]; exact hl.1) rfl dX12_init_1 (Nat.le_of_ble_eq_true rfl) (Nat.le_of_ble_eq_true rfl) ?_
  refine lv_aload_n hx hb dX12_init_4 rfl (lv_at hl 0 rfl) ?_
  refine lv_bipush (v := iz (6)) hx hb dX12_init_5 rfl ?_
  refine va_put (D := G.1) (ci := 13) (v := .int (iz (6))) (ty := .int) (C := RX12) (T := TX12) (N := 12) hx hb hts iwX12 tyX12 tyX12_ok nmX12 hown hK hP hD hS 0 rfl rfl 1 (by decide) (hts (.fieldLink RX12 29 "AnnuityHouseModel" "mode" "I") (by decide +kernel)) (fun _ h9 => h9) rfl (by decide +kernel) rfl rfl (Nat.le_of_ble_eq_true rfl) dX12_init_7 (fun H locs hP hD hS => ?_)
  have hP : va_P G.1 vwCl [(x, .inr (13, [.int (iz (0)), .int (iz (6)), .null, .null, .null, .null, .int (iz (0)), .null, .int (iz (0)), .null, .null, .int (iz (0))]))] H := hP
  have hD : va_D A [(x, .inr (13, [.int (iz (0)), .int (iz (6)), .null, .null, .null, .null, .int (iz (0)), .null, .int (iz (0)), .null, .null, .int (iz (0))]))] := hD
  refine lv_aload_n hx hb dX12_init_10 rfl (lv_at hl 0 rfl) ?_
  refine lv_bipush (v := iz (41)) hx hb dX12_init_11 rfl ?_
  refine zr_newaL (G := G) (n := 41) (N := 41) hx hb (hts (.arrayClass .long) (by decide +kernel)) hK hP hD hS hA (by omega) (by omega) (by omega) (by first | exact Nat.le_of_ble_eq_true rfl | (show _ ≤ (6 : Nat); omega)) (by first | exact Nat.le_of_ble_eq_true rfl | (show _ ≤ (103 : Nat); omega)) dX12_init_13 (fun am H hP hD hS => ?_)
  have hP : va_P G.1 vwCl [(x, .inr (13, [.int (iz (0)), .int (iz (6)), .null, .null, .null, .null, .int (iz (0)), .null, .int (iz (0)), .null, .null, .int (iz (0))])), (am, zaL (G.2 0) 41 (fun _ => 0))] H := hP
  have hD : va_D A [(x, .inr (13, [.int (iz (0)), .int (iz (6)), .null, .null, .null, .null, .int (iz (0)), .null, .int (iz (0)), .null, .null, .int (iz (0))])), (am, zaL (G.2 0) 41 (fun _ => 0))] := hD
  refine va_putF (D := G.1) (ci := 13) (v := .ref am) (ty := (.array .long)) (C := RX12) (T := TX12) (N := 12) hx hb hts iwX12 tyX12 tyX12_ok nmX12 hown hK hP hD hS 0 rfl rfl 2 (by decide) (hts (.fieldLink RX12 65 "AnnuityHouseModel" "amounts" "[J") (by decide +kernel)) (fun _ h9 => h9) rfl hnm rfl (by decide +kernel) rfl rfl (Nat.le_of_ble_eq_true rfl) dX12_init_15 (fun H locs hP hD hS => ?_)
  have hP : va_P G.1 vwCl [(x, .inr (13, [.int (iz (0)), .int (iz (6)), .ref am, .null, .null, .null, .int (iz (0)), .null, .int (iz (0)), .null, .null, .int (iz (0))])), (am, zaL (G.2 0) 41 (fun _ => 0))] H := hP
  have hD : va_D A [(x, .inr (13, [.int (iz (0)), .int (iz (6)), .ref am, .null, .null, .null, .int (iz (0)), .null, .int (iz (0)), .null, .null, .int (iz (0))])), (am, zaL (G.2 0) 41 (fun _ => 0))] := hD
  refine lv_aload_n hx hb dX12_init_18 rfl (lv_at hl 0 rfl) ?_
  refine va_new (D := G.1) (ci := 0) (fs := [.int 0, .null, .int 0]) (C := RJx4a65c) (T := TJx4a65c) (N := 3) hx hb hts iwJx4a65c tyJx4a65c tyJx4a65c_ok hown (hts (.classLink RX12 69 RJx4a65c) (by decide +kernel)) (hts (.instantiable RJx4a65c 3) (by decide +kernel)) (hts (.initialized RJx4a65c) (by decide +kernel)) hK hP hD hS hA rfl (by decide +kernel) (by first | exact Nat.le_of_ble_eq_true rfl | (show _ ≤ (6 : Nat); omega)) (by first | exact Nat.le_of_ble_eq_true rfl | (show _ ≤ (103 : Nat); omega)) dX12_init_19 (fun tb H hP hD hS => ?_)
  have hP : va_P G.1 vwCl [(x, .inr (13, [.int (iz (0)), .int (iz (6)), .ref am, .null, .null, .null, .int (iz (0)), .null, .int (iz (0)), .null, .null, .int (iz (0))])), (am, zaL (G.2 0) 41 (fun _ => 0)), (tb, .inr (0, [.int (iz (0)), .null, .int (iz (0))]))] H := hP
  have hD : va_D A [(x, .inr (13, [.int (iz (0)), .int (iz (6)), .ref am, .null, .null, .null, .int (iz (0)), .null, .int (iz (0)), .null, .null, .int (iz (0))])), (am, zaL (G.2 0) 41 (fun _ => 0)), (tb, .inr (0, [.int (iz (0)), .null, .int (iz (0))]))] := hD
  refine lv_dup hx hb dX12_init_22 rfl ?_
  refine zc_v (wr := [(x, .inr (13, [.int (iz (0)), .int (iz (6)), .ref am, .null, .null, .null, .int (iz (0)), .null, .int (iz (0)), .null, .null, .int (iz (0))])), (am, zaL (G.2 0) 41 (fun _ => 0))]) (va_runI (As := []) (rest := [.ref tb, .ref x]) ⟨hx, hb, hml, hown, hts⟩ (c_al_init l G nA nB nE tb  H.size) (cwI 0 hts gX12_init_Jx4a65c_init_da8c8 rfl rfl rfl (hts (.initialized RJx4a65c) (by decide +kernel)) (hts (.methodLink RX12 71 yJx4a65c_init_da8c8) (by decide +kernel)) (hts (.instanceMethod yJx4a65c_init_da8c8) (by decide +kernel)) rfl (by decide +kernel) ⟨Nat.le_of_ble_eq_true rfl, Nat.le_of_ble_eq_true rfl⟩) (zpSe zE_ok hE hS hA hKX hP hD [2] rfl rfl) rfl rfl hl.1 rfl (lv_room (Nat.le_of_ble_eq_true rfl)) dX12_init_23 ⟨(by first | exact Nat.le_of_ble_eq_true rfl | (show _ ≤ (6 : Nat); omega)), (by first | exact Nat.le_of_ble_eq_true rfl | (show _ ≤ (103 : Nat); omega))⟩) hP hD hS hA [2] [0, 1] rfl rfl rfl (by decide) (fun u_2 H locs hq_5 hP hD hS => ?_)
  have hP : va_P G.1 vwCl [(x, .inr (13, [.int (iz (0)), .int (iz (6)), .ref am, .null, .null, .null, .int (iz (0)), .null, .int (iz (0)), .null, .null, .int (iz (0))])), (am, zaL (G.2 0) 41 (fun _ => 0)), (tb, .inr (0, [.int (iz (0)), .ref nE, .int (iz (0))]))] H := hP
  have hD : va_D A [(x, .inr (13, [.int (iz (0)), .int (iz (6)), .ref am, .null, .null, .null, .int (iz (0)), .null, .int (iz (0)), .null, .null, .int (iz (0))])), (am, zaL (G.2 0) 41 (fun _ => 0)), (tb, .inr (0, [.int (iz (0)), .ref nE, .int (iz (0))]))] := hD
  refine va_put (D := G.1) (ci := 13) (v := .ref tb) (ty := (.object "java/util/List")) (C := RX12) (T := TX12) (N := 12) hx hb hts iwX12 tyX12 tyX12_ok nmX12 hown hK hP hD hS 0 rfl rfl 4 (by decide) (hts (.fieldLink RX12 72 "AnnuityHouseModel" "table" "Ljava/util/List;") (by decide +kernel)) (fun _ h9 => h9) rfl (by decide +kernel) rfl rfl (Nat.le_of_ble_eq_true rfl) dX12_init_26 (fun H locs hP hD hS => ?_)
  have hP : va_P G.1 vwCl [(x, .inr (13, [.int (iz (0)), .int (iz (6)), .ref am, .null, .ref tb, .null, .int (iz (0)), .null, .int (iz (0)), .null, .null, .int (iz (0))])), (am, zaL (G.2 0) 41 (fun _ => 0)), (tb, .inr (0, [.int (iz (0)), .ref nE, .int (iz (0))]))] H := hP
  have hD : va_D A [(x, .inr (13, [.int (iz (0)), .int (iz (6)), .ref am, .null, .ref tb, .null, .int (iz (0)), .null, .int (iz (0)), .null, .null, .int (iz (0))])), (am, zaL (G.2 0) 41 (fun _ => 0)), (tb, .inr (0, [.int (iz (0)), .ref nE, .int (iz (0))]))] := hD
  refine lv_aload_n hx hb dX12_init_29 rfl (lv_at hl 0 rfl) ?_
  refine lv_bipush (v := iz (31)) hx hb dX12_init_30 rfl ?_
  refine zr_newaI (G := G) (n := 31) (N := 31) hx hb (hts (.arrayClass .int) (by decide +kernel)) hK hP hD hS hA (by omega) (by omega) (by omega) (by first | exact Nat.le_of_ble_eq_true rfl | (show _ ≤ (6 : Nat); omega)) (by first | exact Nat.le_of_ble_eq_true rfl | (show _ ≤ (103 : Nat); omega)) dX12_init_32 (fun lv H hP hD hS => ?_)
  have hP : va_P G.1 vwCl [(x, .inr (13, [.int (iz (0)), .int (iz (6)), .ref am, .null, .ref tb, .null, .int (iz (0)), .null, .int (iz (0)), .null, .null, .int (iz (0))])), (am, zaL (G.2 0) 41 (fun _ => 0)), (tb, .inr (0, [.int (iz (0)), .ref nE, .int (iz (0))])), (lv, zaI (G.2 1) 31 (fun _ => 0))] H := hP
  have hD : va_D A [(x, .inr (13, [.int (iz (0)), .int (iz (6)), .ref am, .null, .ref tb, .null, .int (iz (0)), .null, .int (iz (0)), .null, .null, .int (iz (0))])), (am, zaL (G.2 0) 41 (fun _ => 0)), (tb, .inr (0, [.int (iz (0)), .ref nE, .int (iz (0))])), (lv, zaI (G.2 1) 31 (fun _ => 0))] := hD
  refine va_putF (D := G.1) (ci := 13) (v := .ref lv) (ty := (.array .int)) (C := RX12) (T := TX12) (N := 12) hx hb hts iwX12 tyX12 tyX12_ok nmX12 hown hK hP hD hS 0 rfl rfl 5 (by decide) (hts (.fieldLink RX12 76 "AnnuityHouseModel" "lives" "[I") (by decide +kernel)) (fun _ h9 => h9) rfl hnm rfl (by decide +kernel) rfl rfl (Nat.le_of_ble_eq_true rfl) dX12_init_34 (fun H locs hP hD hS => ?_)
  have hP : va_P G.1 vwCl [(x, .inr (13, [.int (iz (0)), .int (iz (6)), .ref am, .null, .ref tb, .ref lv, .int (iz (0)), .null, .int (iz (0)), .null, .null, .int (iz (0))])), (am, zaL (G.2 0) 41 (fun _ => 0)), (tb, .inr (0, [.int (iz (0)), .ref nE, .int (iz (0))])), (lv, zaI (G.2 1) 31 (fun _ => 0))] H := hP
  have hD : va_D A [(x, .inr (13, [.int (iz (0)), .int (iz (6)), .ref am, .null, .ref tb, .ref lv, .int (iz (0)), .null, .int (iz (0)), .null, .null, .int (iz (0))])), (am, zaL (G.2 0) 41 (fun _ => 0)), (tb, .inr (0, [.int (iz (0)), .ref nE, .int (iz (0))])), (lv, zaI (G.2 1) 31 (fun _ => 0))] := hD
  refine lv_aload_n hx hb dX12_init_37 rfl (lv_at hl 0 rfl) ?_
  refine lv_bipush (v := iz (12)) hx hb dX12_init_38 rfl ?_
  refine zr_newaI (G := G) (n := 12) (N := 12) hx hb (hts (.arrayClass .int) (by decide +kernel)) hK hP hD hS hA (by omega) (by omega) (by omega) (by first | exact Nat.le_of_ble_eq_true rfl | (show _ ≤ (6 : Nat); omega)) (by first | exact Nat.le_of_ble_eq_true rfl | (show _ ≤ (103 : Nat); omega)) dX12_init_40 (fun wt H hP hD hS => ?_)
  have hP : va_P G.1 vwCl [(x, .inr (13, [.int (iz (0)), .int (iz (6)), .ref am, .null, .ref tb, .ref lv, .int (iz (0)), .null, .int (iz (0)), .null, .null, .int (iz (0))])), (am, zaL (G.2 0) 41 (fun _ => 0)), (tb, .inr (0, [.int (iz (0)), .ref nE, .int (iz (0))])), (lv, zaI (G.2 1) 31 (fun _ => 0)), (wt, zaI (G.2 1) 12 (fun _ => 0))] H := hP
  have hD : va_D A [(x, .inr (13, [.int (iz (0)), .int (iz (6)), .ref am, .null, .ref tb, .ref lv, .int (iz (0)), .null, .int (iz (0)), .null, .null, .int (iz (0))])), (am, zaL (G.2 0) 41 (fun _ => 0)), (tb, .inr (0, [.int (iz (0)), .ref nE, .int (iz (0))])), (lv, zaI (G.2 1) 31 (fun _ => 0)), (wt, zaI (G.2 1) 12 (fun _ => 0))] := hD
  refine va_putF (D := G.1) (ci := 13) (v := .ref wt) (ty := (.array .int)) (C := RX12) (T := TX12) (N := 12) hx hb hts iwX12 tyX12 tyX12_ok nmX12 hown hK hP hD hS 0 rfl rfl 7 (by decide) (hts (.fieldLink RX12 80 "AnnuityHouseModel" "weights" "[I") (by decide +kernel)) (fun _ h9 => h9) rfl hnm rfl (by decide +kernel) rfl rfl (Nat.le_of_ble_eq_true rfl) dX12_init_42 (fun H locs hP hD hS => ?_)
  have hP : va_P G.1 vwCl [(x, .inr (13, [.int (iz (0)), .int (iz (6)), .ref am, .null, .ref tb, .ref lv, .int (iz (0)), .ref wt, .int (iz (0)), .null, .null, .int (iz (0))])), (am, zaL (G.2 0) 41 (fun _ => 0)), (tb, .inr (0, [.int (iz (0)), .ref nE, .int (iz (0))])), (lv, zaI (G.2 1) 31 (fun _ => 0)), (wt, zaI (G.2 1) 12 (fun _ => 0))] H := hP
  have hD : va_D A [(x, .inr (13, [.int (iz (0)), .int (iz (6)), .ref am, .null, .ref tb, .ref lv, .int (iz (0)), .ref wt, .int (iz (0)), .null, .null, .int (iz (0))])), (am, zaL (G.2 0) 41 (fun _ => 0)), (tb, .inr (0, [.int (iz (0)), .ref nE, .int (iz (0))])), (lv, zaI (G.2 1) 31 (fun _ => 0)), (wt, zaI (G.2 1) 12 (fun _ => 0))] := hD
  refine lv_aload_n hx hb dX12_init_45 rfl (lv_at hl 0 rfl) ?_
  refine lv_bipush (v := iz (8)) hx hb dX12_init_46 rfl ?_
  refine zr_newaL (G := G) (n := 8) (N := 8) hx hb (hts (.arrayClass .long) (by decide +kernel)) hK hP hD hS hA (by omega) (by omega) (by omega) (by first | exact Nat.le_of_ble_eq_true rfl | (show _ ≤ (6 : Nat); omega)) (by first | exact Nat.le_of_ble_eq_true rfl | (show _ ≤ (103 : Nat); omega)) dX12_init_48 (fun bg H hP hD hS => ?_)
  have hP : va_P G.1 vwCl [(x, .inr (13, [.int (iz (0)), .int (iz (6)), .ref am, .null, .ref tb, .ref lv, .int (iz (0)), .ref wt, .int (iz (0)), .null, .null, .int (iz (0))])), (am, zaL (G.2 0) 41 (fun _ => 0)), (tb, .inr (0, [.int (iz (0)), .ref nE, .int (iz (0))])), (lv, zaI (G.2 1) 31 (fun _ => 0)), (wt, zaI (G.2 1) 12 (fun _ => 0)), (bg, zaL (G.2 0) 8 (fun _ => 0))] H := hP
  have hD : va_D A [(x, .inr (13, [.int (iz (0)), .int (iz (6)), .ref am, .null, .ref tb, .ref lv, .int (iz (0)), .ref wt, .int (iz (0)), .null, .null, .int (iz (0))])), (am, zaL (G.2 0) 41 (fun _ => 0)), (tb, .inr (0, [.int (iz (0)), .ref nE, .int (iz (0))])), (lv, zaI (G.2 1) 31 (fun _ => 0)), (wt, zaI (G.2 1) 12 (fun _ => 0)), (bg, zaL (G.2 0) 8 (fun _ => 0))] := hD
  refine va_putF (D := G.1) (ci := 13) (v := .ref bg) (ty := (.array .long)) (C := RX12) (T := TX12) (N := 12) hx hb hts iwX12 tyX12 tyX12_ok nmX12 hown hK hP hD hS 0 rfl rfl 9 (by decide) (hts (.fieldLink RX12 83 "AnnuityHouseModel" "begins" "[J") (by decide +kernel)) (fun _ h9 => h9) rfl hnm rfl (by decide +kernel) rfl rfl (Nat.le_of_ble_eq_true rfl) dX12_init_50 (fun H locs hP hD hS => ?_)
  have hP : va_P G.1 vwCl [(x, .inr (13, [.int (iz (0)), .int (iz (6)), .ref am, .null, .ref tb, .ref lv, .int (iz (0)), .ref wt, .int (iz (0)), .ref bg, .null, .int (iz (0))])), (am, zaL (G.2 0) 41 (fun _ => 0)), (tb, .inr (0, [.int (iz (0)), .ref nE, .int (iz (0))])), (lv, zaI (G.2 1) 31 (fun _ => 0)), (wt, zaI (G.2 1) 12 (fun _ => 0)), (bg, zaL (G.2 0) 8 (fun _ => 0))] H := hP
  have hD : va_D A [(x, .inr (13, [.int (iz (0)), .int (iz (6)), .ref am, .null, .ref tb, .ref lv, .int (iz (0)), .ref wt, .int (iz (0)), .ref bg, .null, .int (iz (0))])), (am, zaL (G.2 0) 41 (fun _ => 0)), (tb, .inr (0, [.int (iz (0)), .ref nE, .int (iz (0))])), (lv, zaI (G.2 1) 31 (fun _ => 0)), (wt, zaI (G.2 1) 12 (fun _ => 0)), (bg, zaL (G.2 0) 8 (fun _ => 0))] := hD
  refine lv_aload_n hx hb dX12_init_53 rfl (lv_at hl 0 rfl) ?_
  refine lv_bipush (v := iz (8)) hx hb dX12_init_54 rfl ?_
  refine zr_newaI (G := G) (n := 8) (N := 8) hx hb (hts (.arrayClass .int) (by decide +kernel)) hK hP hD hS hA (by omega) (by omega) (by omega) (by first | exact Nat.le_of_ble_eq_true rfl | (show _ ≤ (6 : Nat); omega)) (by first | exact Nat.le_of_ble_eq_true rfl | (show _ ≤ (103 : Nat); omega)) dX12_init_56 (fun pm H hP hD hS => ?_)
  have hP : va_P G.1 vwCl [(x, .inr (13, [.int (iz (0)), .int (iz (6)), .ref am, .null, .ref tb, .ref lv, .int (iz (0)), .ref wt, .int (iz (0)), .ref bg, .null, .int (iz (0))])), (am, zaL (G.2 0) 41 (fun _ => 0)), (tb, .inr (0, [.int (iz (0)), .ref nE, .int (iz (0))])), (lv, zaI (G.2 1) 31 (fun _ => 0)), (wt, zaI (G.2 1) 12 (fun _ => 0)), (bg, zaL (G.2 0) 8 (fun _ => 0)), (pm, zaI (G.2 1) 8 (fun _ => 0))] H := hP
  have hD : va_D A [(x, .inr (13, [.int (iz (0)), .int (iz (6)), .ref am, .null, .ref tb, .ref lv, .int (iz (0)), .ref wt, .int (iz (0)), .ref bg, .null, .int (iz (0))])), (am, zaL (G.2 0) 41 (fun _ => 0)), (tb, .inr (0, [.int (iz (0)), .ref nE, .int (iz (0))])), (lv, zaI (G.2 1) 31 (fun _ => 0)), (wt, zaI (G.2 1) 12 (fun _ => 0)), (bg, zaL (G.2 0) 8 (fun _ => 0)), (pm, zaI (G.2 1) 8 (fun _ => 0))] := hD
  refine va_putF (D := G.1) (ci := 13) (v := .ref pm) (ty := (.array .int)) (C := RX12) (T := TX12) (N := 12) hx hb hts iwX12 tyX12 tyX12_ok nmX12 hown hK hP hD hS 0 rfl rfl 10 (by decide) (hts (.fieldLink RX12 86 "AnnuityHouseModel" "permilles" "[I") (by decide +kernel)) (fun _ h9 => h9) rfl hnm rfl (by decide +kernel) rfl rfl (Nat.le_of_ble_eq_true rfl) dX12_init_58 (fun H locs hP hD hS => ?_)
  have hP : va_P G.1 vwCl [(x, .inr (13, [.int (iz (0)), .int (iz (6)), .ref am, .null, .ref tb, .ref lv, .int (iz (0)), .ref wt, .int (iz (0)), .ref bg, .ref pm, .int (iz (0))])), (am, zaL (G.2 0) 41 (fun _ => 0)), (tb, .inr (0, [.int (iz (0)), .ref nE, .int (iz (0))])), (lv, zaI (G.2 1) 31 (fun _ => 0)), (wt, zaI (G.2 1) 12 (fun _ => 0)), (bg, zaL (G.2 0) 8 (fun _ => 0)), (pm, zaI (G.2 1) 8 (fun _ => 0))] H := hP
  have hD : va_D A [(x, .inr (13, [.int (iz (0)), .int (iz (6)), .ref am, .null, .ref tb, .ref lv, .int (iz (0)), .ref wt, .int (iz (0)), .ref bg, .ref pm, .int (iz (0))])), (am, zaL (G.2 0) 41 (fun _ => 0)), (tb, .inr (0, [.int (iz (0)), .ref nE, .int (iz (0))])), (lv, zaI (G.2 1) 31 (fun _ => 0)), (wt, zaI (G.2 1) 12 (fun _ => 0)), (bg, zaL (G.2 0) 8 (fun _ => 0)), (pm, zaI (G.2 1) 8 (fun _ => 0))] := hD
  refine lv_aload_n hx hb dX12_init_61 rfl (lv_at hl 0 rfl) ?_
  refine lv_iconst (v := iz (0)) hx hb dX12_init_62 rfl ?_
  refine va_put (D := G.1) (ci := 13) (v := .int (iz (0))) (ty := .int) (C := RX12) (T := TX12) (N := 12) hx hb hts iwX12 tyX12 tyX12_ok nmX12 hown hK hP hD hS 0 rfl rfl 0 (by decide) (hts (.fieldLink RX12 1 "AnnuityHouseModel" "thrown" "I") (by decide +kernel)) (fun _ h9 => h9) rfl (by decide +kernel) rfl rfl (Nat.le_of_ble_eq_true rfl) dX12_init_63 (fun H locs hP hD hS => ?_)
  have hP : va_P G.1 vwCl [(x, .inr (13, [.int (iz (0)), .int (iz (6)), .ref am, .null, .ref tb, .ref lv, .int (iz (0)), .ref wt, .int (iz (0)), .ref bg, .ref pm, .int (iz (0))])), (am, zaL (G.2 0) 41 (fun _ => 0)), (tb, .inr (0, [.int (iz (0)), .ref nE, .int (iz (0))])), (lv, zaI (G.2 1) 31 (fun _ => 0)), (wt, zaI (G.2 1) 12 (fun _ => 0)), (bg, zaL (G.2 0) 8 (fun _ => 0)), (pm, zaI (G.2 1) 8 (fun _ => 0))] H := hP
  have hD : va_D A [(x, .inr (13, [.int (iz (0)), .int (iz (6)), .ref am, .null, .ref tb, .ref lv, .int (iz (0)), .ref wt, .int (iz (0)), .ref bg, .ref pm, .int (iz (0))])), (am, zaL (G.2 0) 41 (fun _ => 0)), (tb, .inr (0, [.int (iz (0)), .ref nE, .int (iz (0))])), (lv, zaI (G.2 1) 31 (fun _ => 0)), (wt, zaI (G.2 1) 12 (fun _ => 0)), (bg, zaL (G.2 0) 8 (fun _ => 0)), (pm, zaI (G.2 1) 8 (fun _ => 0))] := hD
  rw [hQ]
  exact zr_vret (u := (am, tb, lv, wt, bg, pm)) hx hb hr hlocks hP hD hS (by first | exact Nat.le_of_ble_eq_true rfl | omega) (by first | exact Nat.le_of_ble_eq_true rfl | omega) dX12_init_66 (show True from trivial)
