-- ArrayList made; the reference made (laid by wip/walk/x12j.py)
theorem zMe_ofF {l : Launch} {E : (Nat → Prop) → State → Prop} {G : zG} {y : MethodName} {wsy ws' : List Cond} {rm : Room} {cc : ByteArray} {maxL : Nat} {ret : Option FieldType} {av : List Value} {W0 : va_W} {Qf : (Nat → Prop) → Array Value → State → Outcome → State → Prop} {mc ms : Nat} (hy : plainFor y = true) (hw : wsy = Cond.code y cc maxL ret :: ws') (hn : (lg_sl av).length ≤ maxL)
    (body : ∀ (p : Program) (e : Env) (s : State) (m : MethodId) (below : List Frame) (meth : Method) (c : Code) (ls : Array Slot) (A : Nat → Prop) (Q : State → Prop), Q = MQ below (Qf A) av.toArray s mc ms A → p.tables.exec = Jvm.exec → c.code = cc → meth.sig.returnType = ret → (∀ w ∈ wsy, w.before av.toArray s = true) → s.vm.findClass y.cls = some m.cls → meth.locks = false → c.maxLocals = maxL → meth.name = y.name → zK G s → E A s → va_P G.1 vwCl W0 s.heap → va_D A W0 → (∀ q : Nat, s.heap.size ≤ q → A q) → va_S A s.heap s.heap [] → lv_has ls maxL (lv_args 0 av) →
      W p l e rm s m av.toArray below meth c s.heap [] 0 0 Q (F0 m 0 ls [])) : zMe l E G y wsy rm av W0 Qf mc ms := by
  intro sz
  refine Met_ofWF (cc := cc) (maxL := maxL) (ret := ret) hy hw ?_
  intro p e s m args below meth c s₁ B hml hv
  obtain ⟨rfl, hsz, hP, hK, hD0, hE⟩ := hv
  subst hsz
  have hown : s.vm.findClass y.cls = some m.cls := findClass_of_methodNamed B.named
  rw [lg_entry_eq]
  exact body p e s m below meth c _ (va_A W0 s.heap.size) _ rfl B.exec B.bytes B.returns (atoms_spec (ws := wsy) B.pre) hown B.notSynchronized hml (name_of_methodNamed B.named B.method).1 hK hE hP hD0.self (fun q h => Or.inr h) va_S.rf (lv_entry av hn)
def rm_c_ac_init : Room := { frames := 1, cells := 0, slots := 0, locals := 12 }
set_option maxHeartbeats 1000000 in
set_option maxRecDepth 100000 in
theorem c_ac_init (l : Launch) (G : zG) (a : Nat)  : zM l G yJxa1e45_init_da8c8 wsJxa1e45_init_da8c8 rm_c_ac_init [.ref a] [(a, .inr (0, [.int (iz (0)), .null, .int (iz (0))]))] (fun A => zQv G (fun (_ : Unit) => True) (fun (_ : Unit) => [(a, .inr (0, [.int (iz (0)), .null, .int (iz (0))]))]) A) 0 0 := by
  refine zM_ofF (cc := cJxa1e45_init_da8c8) (maxL := 1) (ret := none) (by decide +kernel) rfl (Nat.le_of_ble_eq_true rfl) ?_
  intro p e s m below meth c ls A Q hQ hx hb hr hts hown hlocks hml hnm hKX hP hD hA hS hl
  have hK := hKX.1
  obtain ⟨H, hH⟩ : ∃ h, h = s.heap := ⟨_, rfl⟩
  obtain ⟨locs, hlo⟩ : ∃ h : List Loc, h = [] := ⟨_, rfl⟩
  have hS : va_S A s.heap H locs := by rw [hH, hlo]; exact hS
  have hP : va_P G.1 vwCl [(a, .inr (0, [.int (iz (0)), .null, .int (iz (0))]))] H := by rw [hH]; exact hP
  have hD : va_D A [(a, .inr (0, [.int (iz (0)), .null, .int (iz (0))]))] := hD
  have hl : lv_has ls 1 [(0, .ref a)] := hl
  rw [← hH, ← hlo]
  refine lv_aload_n hx hb dJxa1e45_init_da8c8_0 rfl (lv_at hl 0 rfl) ?_
  refine W.objInit hx hb hown (hts (.methodLink RJxa1e45 1 objectInit) (by decide +kernel)) (hts (.instanceMethod objectInit) (by decide +kernel)) (hts (.code objectInit ⟨#[0xb1]⟩ 1 none) (by decide +kernel)) rfl (by rw [hml]; exact hl.1) rfl dJxa1e45_init_da8c8_1 (Nat.le_of_ble_eq_true rfl) (Nat.le_of_ble_eq_true rfl) ?_
  rw [hQ]
  exact zr_vret (u := ()) hx hb hr hlocks hP hD hS (by first | exact Nat.le_of_ble_eq_true rfl | omega) (by first | exact Nat.le_of_ble_eq_true rfl | omega) dJxa1e45_init_da8c8_4 (show True from trivial)

def rm_c_al_init0 : Room := { frames := 2, cells := 0, slots := 0, locals := 32 }
theorem iw_Jxc12de_init_da8c8_Jx4a65c : ∀ w ∈ wsJx4a65c0, w ∈ wsJxc12de_init_da8c8 := by decide +kernel
set_option maxHeartbeats 1000000 in
set_option maxRecDepth 100000 in
theorem c_al_init0 (l : Launch) (G : zG) (a : Nat)  : zM l G yJxc12de_init_da8c8 wsJxc12de_init_da8c8 rm_c_al_init0 [.ref a] [(a, .inr (0, [.int (iz (0)), .null, .int (iz (0))]))] (fun A => zQv G (fun (_ : Unit) => True) (fun (_ : Unit) => [(a, .inr (0, [.int (iz (0)), .null, .int (iz (0))]))]) A) 0 0 := by
  refine zM_ofF (cc := cJxc12de_init_da8c8) (maxL := 1) (ret := none) (by decide +kernel) rfl (Nat.le_of_ble_eq_true rfl) ?_
  intro p e s m below meth c ls A Q hQ hx hb hr hts hown hlocks hml hnm hKX hP hD hA hS hl
  have hK := hKX.1
  have iwJx4a65c := iw_Jxc12de_init_da8c8_Jx4a65c
  obtain ⟨H, hH⟩ : ∃ h, h = s.heap := ⟨_, rfl⟩
  obtain ⟨locs, hlo⟩ : ∃ h : List Loc, h = [] := ⟨_, rfl⟩
  have hS : va_S A s.heap H locs := by rw [hH, hlo]; exact hS
  have hP : va_P G.1 vwCl [(a, .inr (0, [.int (iz (0)), .null, .int (iz (0))]))] H := by rw [hH]; exact hP
  have hD : va_D A [(a, .inr (0, [.int (iz (0)), .null, .int (iz (0))]))] := hD
  have hl : lv_has ls 1 [(0, .ref a)] := hl
  rw [← hH, ← hlo]
  refine lv_aload_n hx hb dJxc12de_init_da8c8_0 rfl (lv_at hl 0 rfl) ?_
  refine zc_v (wr := []) (va_runI (As := []) (rest := []) ⟨hx, hb, hml, hown, hts⟩ (c_ac_init l G a  H.size) (cwI 0 hts gJxc12de_init_da8c8_Jxa1e45_init_da8c8 rfl rfl rfl (hts (.initialized RJxa1e45) (by decide +kernel)) (hts (.methodLink RJxc12de 1 yJxa1e45_init_da8c8) (by decide +kernel)) (hts (.instanceMethod yJxa1e45_init_da8c8) (by decide +kernel)) rfl (by decide +kernel) ⟨Nat.le_of_ble_eq_true rfl, Nat.le_of_ble_eq_true rfl⟩) (zpS hKX hP hD [0] rfl rfl) rfl rfl hl.1 rfl (lv_room (Nat.le_of_ble_eq_true rfl)) dJxc12de_init_da8c8_1 ⟨(by first | exact Nat.le_of_ble_eq_true rfl | (show _ ≤ (0 : Nat); omega)), (by first | exact Nat.le_of_ble_eq_true rfl | (show _ ≤ (0 : Nat); omega))⟩) hP hD hS hA [0] [] rfl rfl rfl (by decide) (fun u_1 H locs hq_4 hP hD hS => ?_)
  have hP : va_P G.1 vwCl [(a, .inr (0, [.int (iz (0)), .null, .int (iz (0))]))] H := hP
  have hD : va_D A [(a, .inr (0, [.int (iz (0)), .null, .int (iz (0))]))] := hD
  refine lv_aload_n hx hb dJxc12de_init_da8c8_4 rfl (lv_at hl 0 rfl) ?_
  refine lv_iconst (v := iz (0)) hx hb dJxc12de_init_da8c8_5 rfl ?_
  refine va_put (D := G.1) (ci := 0) (v := .int (iz (0))) (ty := .int) (C := RJx4a65c) (T := TJx4a65c) (N := 3) hx hb hts iwJx4a65c tyJx4a65c tyJx4a65c_ok nmJx4a65c hown hK hP hD hS 0 rfl rfl 0 (by decide) (hts (.fieldLink RJxc12de 7 "java/util/AbstractList" "modCount" "I") (by decide +kernel)) (fun _ h9 => h9) rfl (by decide +kernel) rfl rfl (Nat.le_of_ble_eq_true rfl) dJxc12de_init_da8c8_6 (fun H locs hP hD hS => ?_)
  have hP : va_P G.1 vwCl [(a, .inr (0, [.int (iz (0)), .null, .int (iz (0))]))] H := hP
  have hD : va_D A [(a, .inr (0, [.int (iz (0)), .null, .int (iz (0))]))] := hD
  rw [hQ]
  exact zr_vret (u := ()) hx hb hr hlocks hP hD hS (by first | exact Nat.le_of_ble_eq_true rfl | omega) (by first | exact Nat.le_of_ble_eq_true rfl | omega) dJxc12de_init_da8c8_9 (show True from trivial)

def rm_c_al_init : Room := { frames := 3, cells := 0, slots := 0, locals := 52 }
theorem iw_Jx4a65c_init_da8c8_Jx4a65c : ∀ w ∈ wsJx4a65c0, w ∈ wsJx4a65c_init_da8c8 := by decide +kernel
set_option maxHeartbeats 1000000 in
set_option maxRecDepth 100000 in
theorem c_al_init (l : Launch) (G : zG) (nA : Nat) (nB : Nat) (nE : Nat) (a : Nat)  : zMe l (zE G nA nB nE) G yJx4a65c_init_da8c8 wsJx4a65c_init_da8c8 rm_c_al_init [.ref a] [(a, .inr (0, [.int (iz (0)), .null, .int (iz (0))]))] (fun A => zQv G (fun (_ : Unit) => True) (fun (_ : Unit) => [(a, .inr (0, [.int (iz (0)), .ref nE, .int (iz (0))]))]) A) 0 0 := by
  refine zMe_ofF (cc := cJx4a65c_init_da8c8) (maxL := 1) (ret := none) (by decide +kernel) rfl (Nat.le_of_ble_eq_true rfl) ?_
  intro p e s m below meth c ls A Q hQ hx hb hr hts hown hlocks hml hnm hKX hE hP hD hA hS hl
  have hK := hKX.1
  have iwJx4a65c := iw_Jx4a65c_init_da8c8_Jx4a65c
  obtain ⟨H, hH⟩ : ∃ h, h = s.heap := ⟨_, rfl⟩
  obtain ⟨locs, hlo⟩ : ∃ h : List Loc, h = [] := ⟨_, rfl⟩
  have hS : va_S A s.heap H locs := by rw [hH, hlo]; exact hS
  have hP : va_P G.1 vwCl [(a, .inr (0, [.int (iz (0)), .null, .int (iz (0))]))] H := by rw [hH]; exact hP
  have hD : va_D A [(a, .inr (0, [.int (iz (0)), .null, .int (iz (0))]))] := hD
  have hl : lv_has ls 1 [(0, .ref a)] := hl
  rw [← hH, ← hlo]
  refine lv_aload_n hx hb dJx4a65c_init_da8c8_0 rfl (lv_at hl 0 rfl) ?_
  refine zc_v (wr := []) (va_runI (As := []) (rest := []) ⟨hx, hb, hml, hown, hts⟩ (c_al_init0 l G a  H.size) (cwI 0 hts gJx4a65c_init_da8c8_Jxc12de_init_da8c8 rfl rfl rfl (hts (.initialized RJxc12de) (by decide +kernel)) (hts (.methodLink RJx4a65c 1 yJxc12de_init_da8c8) (by decide +kernel)) (hts (.instanceMethod yJxc12de_init_da8c8) (by decide +kernel)) rfl (by decide +kernel) ⟨Nat.le_of_ble_eq_true rfl, Nat.le_of_ble_eq_true rfl⟩) (zpS hKX hP hD [0] rfl rfl) rfl rfl hl.1 rfl (lv_room (Nat.le_of_ble_eq_true rfl)) dJx4a65c_init_da8c8_1 ⟨(by first | exact Nat.le_of_ble_eq_true rfl | (show _ ≤ (0 : Nat); omega)), (by first | exact Nat.le_of_ble_eq_true rfl | (show _ ≤ (0 : Nat); omega))⟩) hP hD hS hA [0] [] rfl rfl rfl (by decide) (fun u_1 H locs hq_4 hP hD hS => ?_)
  have hP : va_P G.1 vwCl [(a, .inr (0, [.int (iz (0)), .null, .int (iz (0))]))] H := hP
  have hD : va_D A [(a, .inr (0, [.int (iz (0)), .null, .int (iz (0))]))] := hD
  refine lv_aload_n hx hb dJx4a65c_init_da8c8_4 rfl (lv_at hl 0 rfl) ?_
  refine va_gets hx hb hE.1.2 hS hown (hts (.fieldLink RJx4a65c 39 "java/util/ArrayList" "DEFAULTCAPACITY_EMPTY_ELEMENTDATA" "[Ljava/lang/Object;") (by decide +kernel)) (fun _ h9 => h9) dJx4a65c_init_da8c8_5 ?_
  refine va_put (D := G.1) (ci := 0) (v := .ref nE) (ty := (.array (.object "java/lang/Object"))) (C := RJx4a65c) (T := TJx4a65c) (N := 3) hx hb hts iwJx4a65c tyJx4a65c tyJx4a65c_ok nmJx4a65c hown hK hP hD hS 0 rfl rfl 1 (by decide) (hts (.fieldLink RJx4a65c 9 "java/util/ArrayList" "elementData" "[Ljava/lang/Object;") (by decide +kernel)) (fun _ h9 => h9) rfl (by decide +kernel) rfl rfl (Nat.le_of_ble_eq_true rfl) dJx4a65c_init_da8c8_8 (fun H locs hP hD hS => ?_)
  have hP : va_P G.1 vwCl [(a, .inr (0, [.int (iz (0)), .ref nE, .int (iz (0))]))] H := hP
  have hD : va_D A [(a, .inr (0, [.int (iz (0)), .ref nE, .int (iz (0))]))] := hD
  rw [hQ]
  exact zr_vret (u := ()) hx hb hr hlocks hP hD hS (by first | exact Nat.le_of_ble_eq_true rfl | omega) (by first | exact Nat.le_of_ble_eq_true rfl | omega) dJx4a65c_init_da8c8_11 (show True from trivial)
