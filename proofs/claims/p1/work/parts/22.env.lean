-- CONTRACTS WITH SURROUNDINGS: what lies in the heap outside a method's world, and stays
def zPe (E : (Nat → Prop) → State → Prop) (G : zG) (av : List Value) (W0 : va_W) (sz : Nat) : Array Value → State → Prop := va_Pc av (fun U => U.heap.size = sz ∧ va_P G.1 vwCl W0 U.heap ∧ zK G U ∧ va_D (fun _ => True) W0 ∧ E (va_A W0 sz) U)
/-- surroundings that stay where nothing outside A is written -/
def zOK (E : (Nat → Prop) → State → Prop) : Prop := ∀ (A B : Nat → Prop) (s U : State), E A s → (∀ q, B q → A q) → (∀ a : Nat, a < s.heap.size → ¬ A a → U.heap[a]? = s.heap[a]?) → s.WarmedH U.vm → E B U
theorem zPe_blind {E : (Nat → Prop) → State → Prop} (hO : zOK E) {G : zG} {av : List Value} {W0 : va_W} {sz : Nat} : FrameBlind (zPe E G av W0 sz) := fun a U g mk q => by
  obtain ⟨q0, q1, qP, qK, qD, qE⟩ := q
  exact ⟨q0, q1, qP, zK.same (u := U) (U := U.calling g mk a) rfl qK, qD, hO _ _ U (U.calling g mk a) qE (fun _ h => h) (fun _ _ _ => rfl) (State.WarmedH.refl U)⟩
theorem zEnext {E : (Nat → Prop) → State → Prop} (hO : zOK E) {s U : State} {H : Heap} {locs : List Loc} {ws W0 : va_W} {A : Nat → Prop} (hE : E A s) (hD : va_D A ws) (hS : va_S A s.heap H locs) (hA : ∀ q : Nat, s.heap.size ≤ q → A q) (isC : List Nat) (hC : isC.map (fun i => ws[i]?) = W0.map some) (hU : U.heap = H) (hW : s.WarmedH U.vm) : E (va_A W0 H.size) U :=
  hO A _ s U hE (va_free hD hS hA isC hC) (fun a h1 h2 => by rw [hU]; exact hS.2.1 a h1 h2) hW
theorem zpSe {E : (Nat → Prop) → State → Prop} (hO : zOK E) {G : zG} {s : State} {H : Heap} {locs : List Loc} {ws W0 : va_W} {A : Nat → Prop} {As : List Value} (hE : E A s) (hS : va_S A s.heap H locs) (hA : ∀ q : Nat, s.heap.size ≤ q → A q) (hK : zK G s) (hP : va_P G.1 vwCl ws H) (hD : va_D A ws) (isC : List Nat) (hC : isC.map (fun i => ws[i]?) = W0.map some) (hn : va_nd isC = true) : PreS s H (zPe E G As W0 H.size) As :=
  ⟨zPe_blind hO, fun U hU hW => ⟨rfl, by rw [hU], by rw [hU]; exact zsubP hP isC hC, zK.warm hW hK, (hD.sub isC hn hC).weaken (fun _ _ _ _ => trivial), zEnext hO hE hD hS hA isC hC hU hW⟩⟩
theorem zpVe {E : (Nat → Prop) → State → Prop} (hO : zOK E) {G : zG} {s : State} {H : Heap} {locs : List Loc} {ws W0 : va_W} {A : Nat → Prop} {As : List Value} {b : Addr} {C : String} (hE : E A s) (hS : va_S A s.heap H locs) (hA : ∀ q : Nat, s.heap.size ≤ q → A q) (hK : zK G s) (hP : va_P G.1 vwCl ws H) (hD : va_D A ws) (isC : List Nat) (hC : isC.map (fun i => ws[i]?) = W0.map some) (hn : va_nd isC = true) (hr : ∃ cell : Cell, H[b]? = some cell ∧ cell.vm.isStatics = false ∧ s.vm.findClass C = some cell.cls) : PreV s H C b (zPe E G (.ref b :: As) W0 H.size) As :=
  ⟨zPe_blind hO, hr, fun U hU hW => ⟨rfl, by rw [hU], by rw [hU]; exact zsubP hP isC hC, zK.warm hW hK, (hD.sub isC hn hC).weaken (fun _ _ _ _ => trivial), zEnext hO hE hD hS hA isC hC hU hW⟩⟩
abbrev zMe (l : Launch) (E : (Nat → Prop) → State → Prop) (G : zG) (y : MethodName) (wsy : List Cond) (rm : Room) (av : List Value) (W0 : va_W) (Qf : (Nat → Prop) → Array Value → State → Outcome → State → Prop) (mc ms : Nat) : Prop := ∀ sz : Nat, Met l y wsy rm (zPe E G av W0 sz) (Qf (va_A W0 sz)) mc ms (va_A W0 sz)
theorem zMe_of {l : Launch} {E : (Nat → Prop) → State → Prop} {G : zG} {y : MethodName} {wsy ws' : List Cond} {rm : Room} {cc : ByteArray} {maxL : Nat} {ret : Option FieldType} {av : List Value} {W0 : va_W} {Qf : (Nat → Prop) → Array Value → State → Outcome → State → Prop} {mc ms : Nat} (hy : plainName y.cls = true) (hw : wsy = Cond.code y cc maxL ret :: ws') (hn : (lg_sl av).length ≤ maxL)
    (body : ∀ (p : Program) (e : Env) (s : State) (m : MethodId) (below : List Frame) (meth : Method) (c : Code) (ls : Array Slot) (A : Nat → Prop) (Q : State → Prop), Q = MQ below (Qf A) av.toArray s mc ms A → p.tables.exec = Jvm.exec → c.code = cc → meth.sig.returnType = ret → (∀ w ∈ wsy, w.before av.toArray s = true) → s.vm.findClass y.cls = some m.cls → meth.locks = false → c.maxLocals = maxL → meth.name = y.name → zK G s → E A s → va_P G.1 vwCl W0 s.heap → va_D A W0 → (∀ q : Nat, s.heap.size ≤ q → A q) → va_S A s.heap s.heap [] → lv_has ls maxL (lv_args 0 av) →
      W p l e rm s m av.toArray below meth c s.heap [] 0 0 Q (F0 m 0 ls [])) : zMe l E G y wsy rm av W0 Qf mc ms := by
  intro sz
  refine Met.ofW (cc := cc) (maxL := maxL) (ret := ret) hy hw ?_
  intro p e s m args below meth c s₁ B hml hv
  obtain ⟨rfl, hsz, hP, hK, hD0, hE⟩ := hv
  subst hsz
  have hown : s.vm.findClass y.cls = some m.cls := findClass_of_methodNamed B.named
  rw [lg_entry_eq]
  exact body p e s m below meth c _ (va_A W0 s.heap.size) _ rfl B.exec B.bytes B.returns (atoms_spec (ws := wsy) B.pre) hown B.notSynchronized hml (name_of_methodNamed B.named B.method).1 hK hE hP hD0.self (fun q h => Or.inr h) va_S.rf (lv_entry av hn)
-- THE CONSTANT OF THE REFERENCE: 0, an object made before
def zE (G : zG) (nA nB nE : Nat) (A : Nat → Prop) (U : State) : Prop := (va_Z "AnnuityHouseModel" "NOTHING" "LAnnuityHouseModel$Whole;" (.ref nA) A U U.heap ∧ va_Z "java/util/ArrayList" "DEFAULTCAPACITY_EMPTY_ELEMENTDATA" "[Ljava/lang/Object;" (.ref nE) A U U.heap) ∧ va_O "AnnuityHouseModel$Whole" nA A U U.heap ∧ va_OF "AnnuityHouseModel$Whole" "sign" "I" (.int (iz 0)) nA A U U.heap ∧ va_OF "AnnuityHouseModel$Whole" "limbs" "[I" (.ref nB) nA A U U.heap ∧ va_T .int nB 0 (fun _ => .null) A U U.heap ∧ va_T (.object "java/lang/Object") nE 0 (fun _ => .null) A U U.heap
theorem zE_ok {G : zG} {nA nB nE : Nat} : zOK (zE G nA nB nE) := fun A B s U h hAB hH hW =>
  ⟨⟨((h.1.1.kept (H1 := U.heap) hH).moved hW.alike).narrow hAB, ((h.1.2.kept (H1 := U.heap) hH).moved hW.alike).narrow hAB⟩, va_O.narrow (va_O.moved hW.alike (h.2.1.kept (H1 := U.heap) hH)) hAB, va_OF.narrow (va_OF.moved hW.alike (h.2.2.1.kept (H1 := U.heap) hH)) hAB, va_OF.narrow (va_OF.moved hW.alike (h.2.2.2.1.kept (H1 := U.heap) hH)) hAB, va_T.narrow (va_T.moved hW.alike (h.2.2.2.2.1.kept (H1 := U.heap) hH)) hAB, va_T.narrow (va_T.moved hW.alike (h.2.2.2.2.2.kept (H1 := U.heap) hH)) hAB⟩
theorem zE_recv {G : zG} {nA nB nE : Nat} {A : Nat → Prop} {s : State} {H : Heap} {locs : List Loc} (hE : zE G nA nB nE A s) (hS : va_S A s.heap H locs) : ∃ cell : Cell, H[nA]? = some cell ∧ cell.vm.isStatics = false ∧ s.vm.findClass "AnnuityHouseModel$Whole" = some cell.cls := by
  obtain ⟨cell, h1, h2, h3, -⟩ := hE.2.1.kept hS.2.1
  exact ⟨cell, h1, h2, h3⟩
section ZEN
variable {p : Program} {l : Launch} {e : Env} {R : Room} {s : State} {m : MethodId} {args : Array Value} {below : List Frame} {meth : Method} {c : Code} {H : Heap} {locs : List Loc} {cells slots : Nat} {Q : State → Prop}
variable {cc : ByteArray} {pc : Nat} {ls : Array Slot} {rest : List Value} {A : Nat → Prop}
theorem zr_getO (hexec : p.tables.exec = Jvm.exec) (hb : c.code = cc) {o n d own ref : String} {v : Value} {t : Nat} {index : Nat} (hE : va_OF o n d v t A s s.heap) (hS : va_S A s.heap H locs) (hown : s.vm.findClass own = some m.cls) (hlink : (Cond.fieldLink own index ref n d).before args s = true) (hsame : ∀ x, s.fieldFound? o n d = some x → s.fieldFound? ref n d = some x) (hdg : decode cc pc = .ok (.getfield index, 3))
    (kk : W p l e R s m args below meth c H locs cells slots Q (F0 m (pc + 3) ls (v :: rest))) : W p l e R s m args below meth c H locs cells slots Q (F0 m pc ls (.ref t :: rest)) :=
  va_getX (N := 1) (i := 0) (v := fun _ => v) (ad := fun _ => t) hexec hb (fun _ _ => hE) Nat.zero_lt_one hS hown hlink hsame hdg kk
end ZEN
-- a row of payments, carried on
def zflow (U P : Int) (am : Nat → Int) : Nat → Int
  | 0 => 0
  | k + 1 => zflow U P am k * U + P ^ (k + 1) * am (k + 1)
theorem zflow_s (U P : Int) (am : Nat → Int) (k : Nat) : zflow U P am (k + 1) = zflow U P am k * U + P ^ (k + 1) * am (k + 1) := rfl
theorem zpw_le {a b : Int} (ha : 0 ≤ a) (h : a ≤ b) : ∀ k : Nat, a ^ k ≤ b ^ k
  | 0 => by simp
  | k + 1 => by
    rw [Int.pow_succ, Int.pow_succ]
    have h1 := zpw_le ha h k
    have h2 : 0 ≤ a ^ k := Int.pow_nonneg ha
    have h3 : a ^ k * a ≤ a ^ k * b := Int.mul_le_mul_of_nonneg_left h h2
    have h4 : a ^ k * b ≤ b ^ k * b := Int.mul_le_mul_of_nonneg_right h1 (by omega)
    omega
theorem zflow_rng {U P B : Int} {am : Nat → Int} (hP : 1 ≤ P ∧ P ≤ U) (hB : ∀ k, 0 ≤ am k ∧ am k ≤ B) : ∀ k : Nat, 0 ≤ zflow U P am k ∧ zflow U P am k ≤ k * B * U ^ k
  | 0 => ⟨Int.le_refl _, by simp [zflow]⟩
  | k + 1 => by
    obtain ⟨h1, h2⟩ := zflow_rng hP hB k
    have hb := hB (k + 1)
    have p1 := zpw_le (a := P) (b := U) (by omega) hP.2 (k + 1)
    have p0 := zpow_pos hP.1 (k + 1)
    rw [zflow_s]
    have a1 : 0 ≤ zflow U P am k * U := Int.mul_nonneg h1 (by omega)
    have a2 : 0 ≤ P ^ (k + 1) * am (k + 1) := Int.mul_nonneg (by omega) hb.1
    have a3 : zflow U P am k * U ≤ k * B * U ^ k * U := Int.mul_le_mul_of_nonneg_right h2 (by omega)
    have a4 : P ^ (k + 1) * am (k + 1) ≤ P ^ (k + 1) * B := Int.mul_le_mul_of_nonneg_left hb.2 (by omega)
    have a5 : P ^ (k + 1) * B ≤ U ^ (k + 1) * B := Int.mul_le_mul_of_nonneg_right p1 (by omega)
    refine ⟨by omega, ?_⟩
    have e1 : ((k + 1 : Nat) : Int) * B * U ^ (k + 1) = k * B * U ^ k * U + U ^ (k + 1) * B := by
      rw [show ((k + 1 : Nat) : Int) = (k : Int) + 1 by omega, Int.add_mul, Int.add_mul, Int.pow_succ, Int.one_mul]
      have : (k : Int) * B * (U ^ k * U) = k * B * U ^ k * U := by ac_rfl
      have : B * (U ^ k * U) = U ^ k * U * B := by ac_rfl
      omega
    omega
/-- the greater the rate, the less what it is worth -/
theorem zflow_mono {U V P : Int} {am : Nat → Int} (hU : 1 ≤ U) (hUV : U ≤ V) (hP : 0 ≤ P) (ha : ∀ k, 0 ≤ am k) : ∀ k : Nat, zflow V P am k * U ^ k ≤ zflow U P am k * V ^ k
  | 0 => by simp [zflow]
  | k + 1 => by
    have ih := zflow_mono hU hUV hP ha k
    have eU : U ^ (k + 1) = U ^ k * U := Int.pow_succ U k
    have eV : V ^ (k + 1) = V ^ k * V := Int.pow_succ V k
    rw [zflow_s, zflow_s, eU, eV, Int.add_mul, Int.add_mul]
    have e1 : zflow V P am k * V * (U ^ k * U) = zflow V P am k * U ^ k * (U * V) := by ac_rfl
    have e2 : zflow U P am k * U * (V ^ k * V) = zflow U P am k * V ^ k * (U * V) := by ac_rfl
    have h1 : zflow V P am k * U ^ k * (U * V) ≤ zflow U P am k * V ^ k * (U * V) := Int.mul_le_mul_of_nonneg_right ih (Int.mul_nonneg (by omega) (by omega))
    have h2 := zpw_le (a := U) (b := V) (by omega) hUV (k + 1)
    rw [eU, eV] at h2
    have h3 : 0 ≤ P ^ (k + 1) * am (k + 1) := Int.mul_nonneg (Int.pow_nonneg hP) (ha _)
    have h4 : P ^ (k + 1) * am (k + 1) * (U ^ k * U) ≤ P ^ (k + 1) * am (k + 1) * (V ^ k * V) := Int.mul_le_mul_of_nonneg_left h2 h3
    omega
/-- a bond's payments -/
def zbond (cp fa : Int) (n : Nat) (k : Nat) : Int := cp + (if k = n then fa else 0)
theorem zbond_rng {cp fa : Int} (h : 0 ≤ cp ∧ cp ≤ 1000000000 ∧ 0 ≤ fa ∧ fa ≤ 1000000000) (n k : Nat) : 0 ≤ zbond cp fa n k ∧ zbond cp fa n k ≤ 2000000000 := by
  unfold zbond
  by_cases c : k = n
  · rw [if_pos c]; omega
  · rw [if_neg c]; omega
/-- what a bond is worth, times as many powers of the rate -/
def zbt (cp fa pr po : Int) : Int := zflow (100000 + po) 100000 (zbond cp fa pr.toNat) pr.toNat
/-- it is worth, exactly, not more than this -/
def zcheap (cp fa pr mo po : Int) : Prop := zbt cp fa pr po ≤ mo * (100000 + po) ^ pr.toNat
theorem zcheap_mono {cp fa pr mo p q : Int} (h : 0 ≤ cp ∧ cp ≤ 1000000000 ∧ 0 ≤ fa ∧ fa ≤ 1000000000) (hp : 0 ≤ p) (hpq : p ≤ q) (hc : zcheap cp fa pr mo p) : zcheap cp fa pr mo q := by
  unfold zcheap zbt at *
  have m := zflow_mono (U := 100000 + p) (V := 100000 + q) (P := 100000) (am := zbond cp fa pr.toNat) (by omega) (by omega) (by omega) (fun k => (zbond_rng h _ k).1) pr.toNat
  have p0 := zpow_pos (x := 100000 + p) (by omega) pr.toNat
  have q0 := zpow_pos (x := 100000 + q) (by omega) pr.toNat
  have a1 := Int.mul_le_mul_of_nonneg_right hc (show 0 ≤ (100000 + q) ^ pr.toNat by omega)
  have a2 : mo * (100000 + p) ^ pr.toNat * (100000 + q) ^ pr.toNat = mo * (100000 + q) ^ pr.toNat * (100000 + p) ^ pr.toNat := by ac_rfl
  exact Int.le_of_mul_le_mul_right (a := (100000 + p) ^ pr.toNat) (by omega) (by omega)
theorem zrate_pow {po k : Int} (h : 0 ≤ po ∧ po ≤ 20000) (hk : 0 ≤ k ∧ k ≤ 41) : 1 ≤ (100000 + po) ^ k.toNat ∧ (100000 + po) ^ k.toNat ≤ 10000 ^ 62 := by
  have a := zpw_le (a := 100000 + po) (b := 10000000) (by omega) (by omega) k.toNat
  have b := zpow_le (b := 10000000) (by decide) (show k.toNat ≤ 41 by omega)
  have c : (10000000 : Int) ^ 41 ≤ 10000 ^ 72 := by decide +kernel
  have d := zpow_pos (x := 100000 + po) (by omega) k.toNat
  have a2 := zpw_le (a := 100000 + po) (b := 1000000) (by omega) (by omega) k.toNat
  have b2 := zpow_le (b := 1000000) (by decide) (show k.toNat ≤ 41 by omega)
  have c2 : (1000000 : Int) ^ 41 ≤ 10000 ^ 62 := by decide +kernel
  exact ⟨d, by omega⟩
theorem zpt_rng {cp fa po k : Int} {n : Nat} (h : 0 ≤ cp ∧ cp ≤ 1000000000 ∧ 0 ≤ fa ∧ fa ≤ 1000000000) (hp : 0 ≤ po ∧ po ≤ 20000) (hk : 0 ≤ k ∧ k ≤ 41) : 0 ≤ zflow (100000 + po) 100000 (zbond cp fa n) k.toNat ∧ zflow (100000 + po) 100000 (zbond cp fa n) k.toNat ≤ 10000 ^ 70 := by
  have a := zflow_rng (U := 100000 + po) (P := 100000) (B := 2000000000) (am := zbond cp fa n) (by omega) (fun j => zbond_rng h n j) k.toNat
  have b := zrate_pow hp hk
  refine ⟨a.1, ?_⟩
  have e1 : ((k.toNat : Nat) : Int) * 2000000000 * (100000 + po) ^ k.toNat ≤ 100000000000 * (100000 + po) ^ k.toNat := Int.mul_le_mul_of_nonneg_right (by omega) (by omega)
  have e2 : 100000000000 * (100000 + po) ^ k.toNat ≤ 100000000000 * 10000 ^ 62 := Int.mul_le_mul_of_nonneg_left b.2 (by omega)
  have e3 : (100000000000 : Int) * 10000 ^ 62 ≤ 10000 ^ 70 := by decide +kernel
  omega
theorem zbig {a b : Int} (ha : 0 ≤ a ∧ a ≤ 10000 ^ 70) (hb : 0 ≤ b ∧ b ≤ 10000 ^ 8) : (a.natAbs : Int) * (b.natAbs : Int) < 10000 ^ 128 ∧ 0 ≤ a * b ∧ a * b ≤ 10000 ^ 78 := by
  rw [show (a.natAbs : Int) = a by omega, show (b.natAbs : Int) = b by omega]
  have h1 : a * b ≤ a * 10000 ^ 8 := Int.mul_le_mul_of_nonneg_left hb.2 ha.1
  have h2 : a * 10000 ^ 8 ≤ 10000 ^ 70 * 10000 ^ 8 := Int.mul_le_mul_of_nonneg_right ha.2 (by decide +kernel)
  have h3 : (10000 : Int) ^ 70 * 10000 ^ 8 = 10000 ^ 78 := by rw [← Int.pow_add]
  have h4 : (10000 : Int) ^ 78 < 10000 ^ 128 := by decide +kernel
  have h5 : 0 ≤ a * b := Int.mul_nonneg ha.1 hb.1
  exact ⟨by omega, h5, by omega⟩
theorem zbig_add {a b : Int} (ha : 0 ≤ a ∧ a ≤ 10000 ^ 78) (hb : 0 ≤ b ∧ b ≤ 10000 ^ 78) : (a.natAbs : Int) + (b.natAbs : Int) < 10000 ^ 128 := by
  have h4 : (10000 : Int) ^ 78 * 2 < 10000 ^ 128 := by decide +kernel
  omega
