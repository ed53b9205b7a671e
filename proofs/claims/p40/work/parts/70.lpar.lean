-- THE LAW: isParted (laid by wip/p40/ypa.py)
-- PARTS: who is ahead, how many get a cent more, the sum
theorem zsm_0 : ∀ n : Nat, zsm (fun _ => 0) n = 0
  | 0 => rfl
  | n + 1 => by rw [zsm_s, zsm_0 n]; rfl
theorem zsm_z {f : Int → Int} (n : Nat) (h : ∀ i : Int, 0 ≤ i → i < n → f i = 0) : zsm f n = 0 := by
  rw [zsm_same (g := fun _ => 0) n h]; exact zsm_0 n
theorem zsm_mulc (c : Int) (f : Int → Int) : ∀ n : Nat, zsm (fun i => c * f i) n = c * zsm f n
  | 0 => by show (0 : Int) = c * 0; omega
  | n + 1 => by
    rw [zsm_s, zsm_s, zsm_mulc c f n, Int.mul_add]
theorem zsm_swap (F : Int → Int → Int) (m : Nat) : ∀ n : Nat, zsm (fun i => zsm (fun r => F i r) m) n = zsm (fun r => zsm (fun i => F i r) n) m
  | 0 => (zsm_0 m).symm
  | n + 1 => by
    rw [zsm_s, zsm_swap F m n, ← zsm_add]
    exact zsm_same m (fun i _ _ => rfl)
theorem zsm_ind {x : Int} (hx : 0 ≤ x) : ∀ m : Nat, zsm (fun r => if x = r then 1 else 0) m = if x < m then 1 else 0
  | 0 => by rw [if_neg (by omega)]; rfl
  | m + 1 => by
    rw [zsm_s, zsm_ind hx m]
    split <;> split <;> split <;> omega
theorem zsm_one {R : Int → Int} {r : Int} : ∀ n : Nat, (∀ i j : Int, 0 ≤ i → i < n → 0 ≤ j → j < n → R i = R j → i = j) → zsm (fun i => if R i = r then 1 else 0) n ≤ 1
  | 0, _ => by show (0 : Int) ≤ 1; decide
  | n + 1, h => by
    rw [zsm_s]
    by_cases c : R n = r
    · rw [if_pos c, zsm_z n (fun i a b => if_neg (fun q => by have := h i n a (by omega) (by omega) (by omega) (q.trans c.symm); omega))]
      decide
    · rw [if_neg c]
      have := zsm_one (R := R) (r := r) n (fun i j a b p q => h i j a (by omega) p (by omega))
      omega
theorem zsm_leN {g : Int → Int} : ∀ n : Nat, (∀ i : Int, 0 ≤ i → i < n → g i ≤ 1) → zsm g n ≤ n
  | 0, _ => Int.le_refl _
  | n + 1, h => by
    have a := zsm_leN n (fun i p q => h i p (by omega))
    have b := h n (by omega) (by omega)
    rw [zsm_s]; omega
theorem zsm_eqN {g : Int → Int} : ∀ n : Nat, (∀ i : Int, 0 ≤ i → i < n → g i ≤ 1) → zsm g n = n → ∀ i : Int, 0 ≤ i → i < n → g i = 1
  | 0, _, _, i, a, b => by omega
  | n + 1, h, e, i, a, b => by
    have p := zsm_leN n (fun i p q => h i p (by omega))
    have q := h n (by omega) (by omega)
    rw [zsm_s] at e
    by_cases c : i = n
    · rw [c]; omega
    · exact zsm_eqN n (fun i p q => h i p (by omega)) (by omega) i a (by omega)
theorem zsm_k1 (k : Int) : ∀ n : Nat, zsm (fun _ => k) n = n * k
  | 0 => by show (0 : Int) = ((0 : Nat) : Int) * k; omega
  | n + 1 => by rw [zsm_s, zsm_k1 k n, show ((n + 1 : Nat) : Int) = (n : Int) + 1 by omega, Int.add_mul, Int.one_mul]
/-- places without repetition: each is taken -/
theorem zperm {R : Int → Int} (n : Nat) (hb : ∀ i : Int, 0 ≤ i → i < n → 0 ≤ R i ∧ R i < n) (hi : ∀ i j : Int, 0 ≤ i → i < n → 0 ≤ j → j < n → R i = R j → i = j) {q : Int} (hq : 0 ≤ q ∧ q ≤ n) : zsm (fun i => if R i < q then 1 else 0) n = q := by
  have h1 : zsm (fun r => zsm (fun i => if R i = r then 1 else 0) n) n = n := by
    rw [← zsm_swap (fun i r => if R i = r then 1 else 0) n n, zsm_same (g := fun _ => 1) n (fun i a b => by rw [zsm_ind (hb i a b).1, if_pos (hb i a b).2]), zsm_k1]; omega
  have h2 := zsm_eqN n (fun r _ _ => zsm_one (R := R) (r := r) n hi) h1
  have h3 : zsm (fun i => if R i < q then 1 else 0) n = zsm (fun i => zsm (fun r => if R i = r then 1 else 0) q.toNat) n := zsm_same n (fun i a b => by
    rw [zsm_ind (hb i a b).1, show ((q.toNat : Nat) : Int) = q by omega])
  rw [h3, zsm_swap (fun i r => if R i = r then 1 else 0) q.toNat n, zsm_same (g := fun _ => 1) q.toNat (fun r a b => h2 r a (by omega)), zsm_k1]
  omega
/-- how many are ahead -/
def zrk (f : Int → Int) (al mo : Int) (n : Nat) (i : Int) : Int := zsm (zah1 f al mo i) n
theorem zsm_mono {f g : Int → Int} : ∀ n : Nat, (∀ i : Int, 0 ≤ i → i < n → f i ≤ g i) → zsm f n ≤ zsm g n
  | 0, _ => Int.le_refl _
  | n + 1, h => by
    have a := zsm_mono n (fun i p q => h i p (by omega))
    have b := h n (by omega) (by omega)
    rw [zsm_s, zsm_s]; omega
theorem zsm_strict {f g : Int → Int} {k : Int} : ∀ n : Nat, (∀ i : Int, 0 ≤ i → i < n → f i ≤ g i) → 0 ≤ k → k < n → f k < g k → zsm f n < zsm g n
  | 0, _, _, b, _ => by omega
  | n + 1, h, a, b, c => by
    have q := h n (by omega) (by omega)
    rw [zsm_s, zsm_s]
    by_cases d : k = n
    · have p := zsm_mono n (fun i p q => h i p (by omega))
      rw [d] at c; omega
    · have p := zsm_strict n (fun i p q => h i p (by omega)) a (by omega) c
      omega
section ZRK
variable {f : Int → Int} {al mo n : Int}
theorem zah1_0 (i : Int) : zah1 f al mo i i = 0 := by unfold zah1; rw [if_neg (by omega)]
theorem zrk_lt {N : Nat} {v u : Int} (hv : 0 ≤ v ∧ v < N) (h : zlos f al mo u < zlos f al mo v ∨ (zlos f al mo v = zlos f al mo u ∧ v < u)) : zrk f al mo N v < zrk f al mo N u := by
  refine zsm_strict (k := v) N (fun j a b => ?_) hv.1 hv.2 ?_
  · unfold zah1
    split
    · rw [if_pos (by omega)]; exact Int.le_refl _
    · split <;> omega
  · rw [zah1_0]; unfold zah1; rw [if_pos h]; decide
theorem zrk_b {N : Nat} {i : Int} (hi : 0 ≤ i ∧ i < N) : 0 ≤ zrk f al mo N i ∧ zrk f al mo N i < N := by
  constructor
  · exact (zsm_b (f := zah1 f al mo i) (A := 1) (by decide) N (fun j _ _ => zah1_r f al mo i j)).1
  · have := zsm_strict (f := zah1 f al mo i) (g := fun _ => 1) (k := i) N (fun j _ _ => (zah1_r f al mo i j).2) hi.1 hi.2 (by rw [zah1_0]; decide)
    rw [zsm_k1] at this
    unfold zrk; omega
theorem zrk_inj {N : Nat} : ∀ i j : Int, 0 ≤ i → i < N → 0 ≤ j → j < N → zrk f al mo N i = zrk f al mo N j → i = j := fun i j a b c d e => by
  rcases Int.lt_trichotomy (zlos f al mo i) (zlos f al mo j) with q | q | q
  · have := zrk_lt (f := f) (al := al) (mo := mo) (u := i) (v := j) ⟨c, d⟩ (Or.inl q); omega
  · rcases Int.lt_trichotomy i j with w | w | w
    · have := zrk_lt (f := f) (al := al) (mo := mo) (u := j) (v := i) ⟨a, b⟩ (Or.inr ⟨q, w⟩); omega
    · exact w
    · have := zrk_lt (f := f) (al := al) (mo := mo) (u := i) (v := j) ⟨c, d⟩ (Or.inr ⟨q.symm, w⟩); omega
  · have := zrk_lt (f := f) (al := al) (mo := mo) (u := j) (v := i) ⟨a, b⟩ (Or.inl q); omega
/-- who gets a cent more -/
def zupw (f : Int → Int) (n mo i : Int) : Prop := zrk f (zsm f n.toNat) mo n.toNat i < zsm (zlos f (zsm f n.toNat) mo) n.toNat / zsm f n.toNat
theorem zpart_u {i : Int} : (zpart f n mo i = mo * f i / zsm f n.toNat + 1 ∧ zupw f n mo i) ∨ (zpart f n mo i = mo * f i / zsm f n.toNat ∧ ¬ zupw f n mo i) := by
  unfold zpart zupw
  by_cases c : zsm (zah1 f (zsm f n.toNat) mo i) n.toNat < zsm (zlos f (zsm f n.toNat) mo) n.toNat / zsm f n.toNat
  · rw [if_pos c]; exact Or.inl ⟨rfl, c⟩
  · rw [if_neg c]; exact Or.inr ⟨Int.add_zero _, c⟩
theorem zupw_o {u v : Int} (hv : 0 ≤ u ∧ u < n) (hu' : 0 ≤ v ∧ v < n) (hu : zupw f n mo u) (hn : ¬ zupw f n mo v) : zlos f (zsm f n.toNat) mo v < zlos f (zsm f n.toNat) mo u ∨ (zlos f (zsm f n.toNat) mo v = zlos f (zsm f n.toNat) mo u ∧ u < v) := by
  unfold zupw at hu hn
  have key : ¬ (zlos f (zsm f n.toNat) mo u < zlos f (zsm f n.toNat) mo v ∨ (zlos f (zsm f n.toNat) mo v = zlos f (zsm f n.toNat) mo u ∧ v < u)) := fun q => by
    have := zrk_lt (N := n.toNat) (v := v) (u := u) (by omega) q
    omega
  have ne : u ≠ v := fun q => hn (q ▸ hu)
  omega
theorem zparts_sum (hw : zwts f n) (ha : 1 ≤ zsm f n.toNat) (hm : 0 ≤ mo) : zsm (zpart f n mo) n.toNat = mo := by
  have h1 := hw.1
  have e1 : zsm (zpart f n mo) n.toNat = zsm (fun i => mo * f i / zsm f n.toNat + (if zrk f (zsm f n.toNat) mo n.toNat i < zsm (zlos f (zsm f n.toNat) mo) n.toNat / zsm f n.toNat then 1 else 0)) n.toNat := zsm_same _ (fun i _ _ => rfl)
  rw [e1, zsm_add]
  have e2 : zsm (fun i => mo * f i) n.toNat = mo * zsm f n.toNat := zsm_mulc mo f n.toNat
  generalize hW : zsm f n.toNat = W at *
  have e3 : zsm (fun i => mo * f i) n.toNat = W * zsm (fun i => mo * f i / W) n.toNat + zsm (zlos f W mo) n.toNat := by
    rw [← zsm_mulc, ← zsm_add]
    exact zsm_same _ (fun i _ _ => (Int.mul_ediv_add_emod (mo * f i) W).symm)
  have b := zsm_b (f := zlos f W mo) (A := W) (by omega) n.toNat (fun i _ _ => by
    have p1 := Int.emod_nonneg (mo * f i) (show W ≠ 0 by omega)
    have p2 := Int.emod_lt_of_pos (mo * f i) (show 0 < W by omega)
    show 0 ≤ mo * f i % W ∧ mo * f i % W ≤ W
    omega)
  generalize zsm (zlos f W mo) n.toNat = S at *
  generalize zsm (fun i => mo * f i / W) n.toNat = A at *
  have e4 : S = W * (mo - A) := by
    rw [Int.mul_sub, Int.mul_comm W mo]; omega
  have e5 : S / W = mo - A := by rw [e4]; exact Int.mul_ediv_cancel_left _ (by omega)
  have hq : 0 ≤ S / W ∧ S / W ≤ (n.toNat : Int) := by
    refine ⟨Int.ediv_nonneg b.1 (by omega), ?_⟩
    have : S / W < (n.toNat : Int) + 1 := (Int.ediv_lt_iff_lt_mul (by omega)).mpr (by rw [Int.add_mul, Int.one_mul]; omega)
    omega
  rw [zperm n.toNat (fun i a b => zrk_b ⟨a, b⟩) zrk_inj hq, e5]
  omega
def zI1 (f : Int → Int) (n mo k la le : Int) : Prop := (la = n ∧ le = zsm f n.toNat) ∨ (0 ≤ la ∧ la < k ∧ zupw f n mo la ∧ zlos f (zsm f n.toNat) mo la = le)
def zI2 (f : Int → Int) (n mo k ma ms : Int) : Prop := (ma = -1 ∧ ms = -1) ∨ (0 ≤ ma ∧ ma < k ∧ ¬ zupw f n mo ma ∧ zlos f (zsm f n.toNat) mo ma = ms)
theorem zI1.a {k la le x : Int} (h : zI1 f n mo k la le) (hk : 0 ≤ k) (hu : zupw f n mo k) (hx : zlos f (zsm f n.toNat) mo k = x) (hl : x ≤ le) : zI1 f n mo (k + 1) k (min le x) := Or.inr ⟨hk, by omega, hu, by omega⟩
theorem zI1.b {k la le x : Int} (h : zI1 f n mo k la le) (hl : ¬ x ≤ le) : zI1 f n mo (k + 1) la (min le x) := by
  rw [show min le x = le by omega]
  rcases h with h | ⟨a, b, c, d⟩
  · exact Or.inl h
  · exact Or.inr ⟨a, by omega, c, d⟩
theorem zI1.c {k la le : Int} (h : zI1 f n mo k la le) : zI1 f n mo (k + 1) la le := by
  rcases h with h | ⟨a, b, c, d⟩
  · exact Or.inl h
  · exact Or.inr ⟨a, by omega, c, d⟩
theorem zI2.a {k ma ms x : Int} (h : zI2 f n mo k ma ms) (hk : 0 ≤ k) (hu : ¬ zupw f n mo k) (hx : zlos f (zsm f n.toNat) mo k = x) (hl : ms < x) : zI2 f n mo (k + 1) k (max ms x) := Or.inr ⟨hk, by omega, hu, by omega⟩
theorem zI2.b {k ma ms x : Int} (h : zI2 f n mo k ma ms) (hl : ¬ ms < x) : zI2 f n mo (k + 1) ma (max ms x) := by
  rw [show max ms x = ms by omega]
  rcases h with h | ⟨a, b, c, d⟩
  · exact Or.inl h
  · exact Or.inr ⟨a, by omega, c, d⟩
theorem zI2.c {k ma ms : Int} (h : zI2 f n mo k ma ms) : zI2 f n mo (k + 1) ma ms := by
  rcases h with h | ⟨a, b, c, d⟩
  · exact Or.inl h
  · exact Or.inr ⟨a, by omega, c, d⟩
theorem zI_end {k la le ma ms : Int} (h1 : zI1 f n mo k la le) (h2 : zI2 f n mo k ma ms) (hk : k ≤ n) (ha : 1 ≤ zsm f n.toNat) : la = n ∨ ms < le ∨ (ms = le ∧ la < ma) := by
  rcases h1 with ⟨a, -⟩ | ⟨a, b, c, d⟩
  · exact Or.inl a
  · rcases h2 with ⟨p, q⟩ | ⟨p, q, r, s⟩
    · have : 0 ≤ mo * f la % zsm f n.toNat := Int.emod_nonneg _ (by omega)
      have d : mo * f la % zsm f n.toNat = le := d
      omega
    · have := zupw_o (f := f) (n := n) (mo := mo) (u := la) (v := ma) (by omega) (by omega) c r
      omega
end ZRK
theorem zlos_b {f : Int → Int} {al mo i : Int} (h : 1 ≤ al) : 0 ≤ zlos f al mo i ∧ zlos f al mo i < al := ⟨Int.emod_nonneg _ (by omega), Int.emod_lt_of_pos _ (by omega)⟩
def rm_c_L_isParted : Room := { frames := 9, cells := 90, slots := 520, locals := 159 }
set_option maxHeartbeats 40000000 in
set_option maxRecDepth 100000 in
theorem c_L_isParted (l : Launch) (G : zG) (s1 : Nat) (s2 : Nat) (s3 : Nat) (x : Nat) (ro : Nat) (rw : Nat) (bo : Nat) (li : Nat) (sh : Nat) (tx : Nat) (lo : Nat) (nl : Nat) (wt : Nat) (f : Int → Int) (n : Int) (rr : Nat) (g : Int → Int) (hl0 : l.stackTraces = false) : zMe l (zXM s1 s2 s3) G yL_isParted wsL_isParted rm_c_L_isParted [.ref x, .ref rr] [(x, .inr (10, [.ref ro, .ref rw, .ref bo, .ref li, .ref sh, .ref tx, .ref lo, .ref nl])), (sh, .inr (7, [.ref wt, .int (iz (n))])), (wt, zaI (G.2 1) 12 (f)), (rr, zaI (G.2 1) 2 (g))] (fun A => zQz G (fun (z : Bool) (u : (Int → Int) × Int × (Int → Int)) => z = true ∧ zwts u.1 u.2.1) (fun (u : (Int → Int) × Int × (Int → Int)) => [(x, .inr (10, [.ref ro, .ref rw, .ref bo, .ref li, .ref sh, .ref tx, .ref lo, .ref nl])), (sh, .inr (7, [.ref wt, .int (iz (u.2.1))])), (wt, zaI (G.2 1) 12 (u.1)), (rr, zaI (G.2 1) 2 (u.2.2))]) A) 90 520 := by
  refine zMe_of (cc := cL_isParted) (maxL := 24) (ret := (some .boolean)) (by decide) rfl (Nat.le_of_ble_eq_true rfl) ?_
  intro p e s m below meth c ls A Q hQ hx hb hr hts hown hlocks hml hnm hKX hE hP hD hA hS hl
  have hK := hKX.1
  obtain ⟨H, hH⟩ : ∃ h, h = s.heap := ⟨_, rfl⟩
  obtain ⟨locs, hlo⟩ : ∃ h : List Loc, h = [] := ⟨_, rfl⟩
  have hS : va_S A s.heap H locs := by rw [hH, hlo]; exact hS
  have hP : va_P G.1 vwCl [(x, .inr (10, [.ref ro, .ref rw, .ref bo, .ref li, .ref sh, .ref tx, .ref lo, .ref nl])), (sh, .inr (7, [.ref wt, .int (iz (n))])), (wt, zaI (G.2 1) 12 (f)), (rr, zaI (G.2 1) 2 (g))] H := by rw [hH]; exact hP
  have hD : va_D A [(x, .inr (10, [.ref ro, .ref rw, .ref bo, .ref li, .ref sh, .ref tx, .ref lo, .ref nl])), (sh, .inr (7, [.ref wt, .int (iz (n))])), (wt, zaI (G.2 1) 12 (f)), (rr, zaI (G.2 1) 2 (g))] := hD
  have hl : lv_has ls 24 [(0, .ref x), (1, .ref rr)] := hl
  rw [← hH, ← hlo]
  refine lv_aload_n hx hb dL_isParted_0 rfl (lv_at hl 0 rfl) ?_
  refine zc_i (wr := [(wt, zaI (G.2 1) 12 (f)), (rr, zaI (G.2 1) 2 (g))]) (va_runV (As := []) (rest := []) ⟨hx, hb, hml, hown, hts⟩ (c_X9_clearWeights l G x ro rw bo li sh tx lo nl wt n  H.size) (cwV 0 hts gL_isParted_X9_clearWeights rfl rfl rfl (by decide +kernel) ⟨Nat.le_of_ble_eq_true rfl, Nat.le_of_ble_eq_true rfl⟩) (zpV hKX hP hD [0, 1] rfl rfl 0 10 rfl rfl) rfl rfl hl.1 rfl (lv_room (Nat.le_of_ble_eq_true rfl)) dL_isParted_1 ⟨(by first | exact Nat.le_of_ble_eq_true rfl | (show _ ≤ (90 : Nat); omega)), (by first | exact Nat.le_of_ble_eq_true rfl | (show _ ≤ (520 : Nat); omega))⟩) hP hD hS hA [0, 1] [2, 3] rfl rfl rfl (by decide) (fun cw9 u_1 H locs hcw9 hP hD hS => ?_)
  have hP : va_P G.1 vwCl [(wt, zaI (G.2 1) 12 (f)), (rr, zaI (G.2 1) 2 (g)), (x, .inr (10, [.ref ro, .ref rw, .ref bo, .ref li, .ref sh, .ref tx, .ref lo, .ref nl])), (sh, .inr (7, [.ref wt, .int (iz (0))]))] H := hP
  have hD : va_D A [(wt, zaI (G.2 1) 12 (f)), (rr, zaI (G.2 1) 2 (g)), (x, .inr (10, [.ref ro, .ref rw, .ref bo, .ref li, .ref sh, .ref tx, .ref lo, .ref nl])), (sh, .inr (7, [.ref wt, .int (iz (0))]))] := hD
  have hcw9 : cw9 = n := hcw9
  refine lv_istore_n (lv' := [(2, .int (iz (cw9))), (0, .ref x), (1, .ref rr)]) hx hb dL_isParted_4 rfl hl (by decide) rfl (fun ls hl => ?_)
  refine lv_iconst (v := iz (1)) hx hb dL_isParted_5 rfl ?_
  refine lv_aload_n hx hb dL_isParted_6 rfl (lv_at hl 2 rfl) ?_
  refine lv_bipush (v := iz (12)) hx hb dL_isParted_7 rfl ?_
  refine zc_i (wr := [(wt, zaI (G.2 1) 12 (f)), (x, .inr (10, [.ref ro, .ref rw, .ref bo, .ref li, .ref sh, .ref tx, .ref lo, .ref nl])), (sh, .inr (7, [.ref wt, .int (iz (0))]))]) (va_runS (As := [.ref rr, .int (iz (12))]) (rest := [.int (iz (1))]) ⟨hx, hb, hml, hown, hts⟩ (c_L_draw l G rr g 12 (by omega) H.size) (va_cwS 2 hts gL_isParted_L_draw rfl rfl rfl (by decide +kernel) ⟨Nat.le_of_ble_eq_true rfl, Nat.le_of_ble_eq_true rfl⟩) (zpS hKX hP hD [1] rfl rfl) rfl rfl hl.1 rfl (lv_room (Nat.le_of_ble_eq_true rfl)) dL_isParted_9 ⟨(by first | exact Nat.le_of_ble_eq_true rfl | (show _ ≤ (90 : Nat); omega)), (by first | exact Nat.le_of_ble_eq_true rfl | (show _ ≤ (520 : Nat); omega))⟩) hP hD hS hA [1] [0, 2, 3] rfl rfl rfl (by decide) (fun z_d0 u_3 H locs h_d0 hP hD hS => ?_)
  generalize u_3 = g_d0 at hP hD h_d0
  have hP : va_P G.1 vwCl [(wt, zaI (G.2 1) 12 (f)), (x, .inr (10, [.ref ro, .ref rw, .ref bo, .ref li, .ref sh, .ref tx, .ref lo, .ref nl])), (sh, .inr (7, [.ref wt, .int (iz (0))])), (rr, zaI (G.2 1) 2 (g_d0))] H := hP
  have hD : va_D A [(wt, zaI (G.2 1) 12 (f)), (x, .inr (10, [.ref ro, .ref rw, .ref bo, .ref li, .ref sh, .ref tx, .ref lo, .ref nl])), (sh, .inr (7, [.ref wt, .int (iz (0))])), (rr, zaI (G.2 1) 2 (g_d0))] := hD
  have h_d0 : 0 ≤ z_d0 ∧ z_d0 < (12 : Int) ∧ z_d0 < 268435456 := h_d0
  refine zr_iadd hx hb dL_isParted_12 ?_
  refine zr_namei (fun nw enw => ?_)
  refine lv_istore_n (lv' := [(3, .int (iz (nw))), (2, .int (iz (cw9))), (0, .ref x), (1, .ref rr)]) hx hb dL_isParted_13 rfl hl (by decide) rfl (fun ls hl => ?_)
  refine lv_iload_n hx hb dL_isParted_14 rfl (lv_at hl 0 rfl) ?_
  refine zr_newaL (G := G) (n := nw) (N := (nw).toNat) hx hb (hts (.arrayClass .long) (by decide +kernel)) hK hP hD hS hA (by omega) (by omega) (by omega) (by first | exact Nat.le_of_ble_eq_true rfl | (show _ ≤ (90 : Nat); omega)) (by first | exact Nat.le_of_ble_eq_true rfl | (show _ ≤ (520 : Nat); omega)) dL_isParted_15 (fun wl H hP hD hS => ?_)
  have hP : va_P G.1 vwCl [(wt, zaI (G.2 1) 12 (f)), (x, .inr (10, [.ref ro, .ref rw, .ref bo, .ref li, .ref sh, .ref tx, .ref lo, .ref nl])), (sh, .inr (7, [.ref wt, .int (iz (0))])), (rr, zaI (G.2 1) 2 (g_d0)), (wl, zaL (G.2 0) ((nw).toNat) (fun _ => 0))] H := hP
  have hD : va_D A [(wt, zaI (G.2 1) 12 (f)), (x, .inr (10, [.ref ro, .ref rw, .ref bo, .ref li, .ref sh, .ref tx, .ref lo, .ref nl])), (sh, .inr (7, [.ref wt, .int (iz (0))])), (rr, zaI (G.2 1) 2 (g_d0)), (wl, zaL (G.2 0) ((nw).toNat) (fun _ => 0))] := hD
  refine lv_astore (lv' := [(4, .ref wl), (3, .int (iz (nw))), (2, .int (iz (cw9))), (0, .ref x), (1, .ref rr)]) hx hb dL_isParted_17 hl (by decide) rfl (fun ls hl => ?_)
  refine lv_lconst (v := lz (0)) hx hb dL_isParted_19 rfl ?_
  refine lv_lstore (lv' := [(5, .long (lz (0))), (4, .ref wl), (3, .int (iz (nw))), (2, .int (iz (cw9))), (0, .ref x), (1, .ref rr)]) hx hb dL_isParted_20 hl (by decide) rfl (fun ls hl => ?_)
  refine lv_iconst (v := iz (0)) hx hb dL_isParted_22 rfl ?_
  refine lv_istore (lv' := [(7, .int (iz (0))), (5, .long (lz (0))), (4, .ref wl), (3, .int (iz (nw))), (2, .int (iz (cw9))), (0, .ref x), (1, .ref rr)]) hx hb dL_isParted_23 hl (by decide) rfl (fun ls hl => ?_)
  have hl_25 : ∀ (zn_25 : Nat) (k : Int) (wu : Int → Int) (wf : Int → Int) (al : Int) (ga : Int → Int) (H : Heap) (locs : List Loc) (ls : Array Slot), (nw - k).toNat < zn_25 → (0 ≤ k ∧ k ≤ nw) → (zwts wf k) → (∀ i : Int, 0 ≤ i → i < k → wu i = wf i) → (∀ i : Int, 0 ≤ i → i < k → 0 ≤ wu i ∧ wu i ≤ 1000000) → (al = zsm wf k.toNat) → va_P G.1 vwCl [(wt, zaI (G.2 1) 12 (wf)), (x, .inr (10, [.ref ro, .ref rw, .ref bo, .ref li, .ref sh, .ref tx, .ref lo, .ref nl])), (sh, .inr (7, [.ref wt, .int (iz (k))])), (rr, zaI (G.2 1) 2 (ga)), (wl, zaL (G.2 0) ((nw).toNat) (wu))] H → va_D A [(wt, zaI (G.2 1) 12 (wf)), (x, .inr (10, [.ref ro, .ref rw, .ref bo, .ref li, .ref sh, .ref tx, .ref lo, .ref nl])), (sh, .inr (7, [.ref wt, .int (iz (k))])), (rr, zaI (G.2 1) 2 (ga)), (wl, zaL (G.2 0) ((nw).toNat) (wu))] → va_S A s.heap H locs → lv_has ls 24 [(7, .int (iz (k))), (5, .long (lz (al))), (4, .ref wl), (3, .int (iz (nw))), (2, .int (iz (cw9))), (0, .ref x), (1, .ref rr)] → W p l e rm_c_L_isParted s m ([.ref x, .ref rr] : List Value).toArray below meth c H locs (1 + 2 * (k).toNat) (12 + 12 * (k).toNat) Q (F0 m 25 ls []) := by
    intro zn_25
    induction zn_25 with
    | zero => intro k wu wf al ga H locs ls hm; exact absurd hm (Nat.not_lt_zero _)
    | succ zn_25 ih_25 =>
      intro k wu wf al ga H locs ls hm_25 k1 hw hsm hub hal hP hD hS hl
      refine lv_iload hx hb dL_isParted_25 (lv_at hl 0 rfl) ?_
      refine lv_iload_n hx hb dL_isParted_27 rfl (lv_at hl 3 rfl) ?_
      refine zr_icmp_ge (x := k) (y := nw) (tgt := 112) hx hb (⟨by omega, by omega⟩) (⟨by omega, by omega⟩) dL_isParted_28 (by decide) (fun h_6 => ?_) (fun h_6 => ?_)
      ·
        obtain rfl : nw = k := by omega
        have hw1 := hw.1
        have hall := hw.all
        rw [← hal] at hall
        refine lv_aload_n hx hb dL_isParted_112 rfl (lv_at hl 6 rfl) ?_
        refine lv_iconst (v := iz (3)) hx hb dL_isParted_113 rfl ?_
        refine zc_i (wr := [(wt, zaI (G.2 1) 12 (wf)), (x, .inr (10, [.ref ro, .ref rw, .ref bo, .ref li, .ref sh, .ref tx, .ref lo, .ref nl])), (sh, .inr (7, [.ref wt, .int (iz (nw))])), (wl, zaL (G.2 0) ((nw).toNat) (wu))]) (va_runS (As := [.ref rr, .int (iz (3))]) (rest := []) ⟨hx, hb, hml, hown, hts⟩ (c_L_draw l G rr ga 3 (by omega) H.size) (va_cwS 2 hts gL_isParted_L_draw rfl rfl rfl (by decide +kernel) ⟨Nat.le_of_ble_eq_true rfl, Nat.le_of_ble_eq_true rfl⟩) (zpS hKX hP hD [3] rfl rfl) rfl rfl hl.1 rfl (lv_room (Nat.le_of_ble_eq_true rfl)) dL_isParted_114 ⟨(by first | exact Nat.le_of_ble_eq_true rfl | (show _ ≤ (90 : Nat); omega)), (by first | exact Nat.le_of_ble_eq_true rfl | (show _ ≤ (520 : Nat); omega))⟩) hP hD hS hA [3] [0, 1, 2, 4] rfl rfl rfl (by decide) (fun z_e0 u_7 H locs h_e0 hP hD hS => ?_)
        generalize u_7 = g_e0 at hP hD h_e0
        have hP : va_P G.1 vwCl [(wt, zaI (G.2 1) 12 (wf)), (x, .inr (10, [.ref ro, .ref rw, .ref bo, .ref li, .ref sh, .ref tx, .ref lo, .ref nl])), (sh, .inr (7, [.ref wt, .int (iz (nw))])), (wl, zaL (G.2 0) ((nw).toNat) (wu)), (rr, zaI (G.2 1) 2 (g_e0))] H := hP
        have hD : va_D A [(wt, zaI (G.2 1) 12 (wf)), (x, .inr (10, [.ref ro, .ref rw, .ref bo, .ref li, .ref sh, .ref tx, .ref lo, .ref nl])), (sh, .inr (7, [.ref wt, .int (iz (nw))])), (wl, zaL (G.2 0) ((nw).toNat) (wu)), (rr, zaI (G.2 1) 2 (g_e0))] := hD
        have h_e0 : 0 ≤ z_e0 ∧ z_e0 < (3 : Int) ∧ z_e0 < 268435456 := h_e0
        have hl_142 : ∀ (mo : Int) (gc : Int → Int) (H : Heap) (locs : List Loc) (ls : Array Slot), (0 ≤ mo ∧ mo ≤ 1000000000000) → va_P G.1 vwCl [(wt, zaI (G.2 1) 12 (wf)), (x, .inr (10, [.ref ro, .ref rw, .ref bo, .ref li, .ref sh, .ref tx, .ref lo, .ref nl])), (sh, .inr (7, [.ref wt, .int (iz (nw))])), (wl, zaL (G.2 0) ((nw).toNat) (wu)), (rr, zaI (G.2 1) 2 (gc))] H → va_D A [(wt, zaI (G.2 1) 12 (wf)), (x, .inr (10, [.ref ro, .ref rw, .ref bo, .ref li, .ref sh, .ref tx, .ref lo, .ref nl])), (sh, .inr (7, [.ref wt, .int (iz (nw))])), (wl, zaL (G.2 0) ((nw).toNat) (wu)), (rr, zaI (G.2 1) 2 (gc))] → va_S A s.heap H locs → lv_has ls 24 [(7, .int (iz (nw))), (5, .long (lz (al))), (4, .ref wl), (3, .int (iz (nw))), (2, .int (iz (cw9))), (0, .ref x), (1, .ref rr)] → W p l e rm_c_L_isParted s m ([.ref x, .ref rr] : List Value).toArray below meth c H locs (1 + 2 * (nw).toNat + 0) (12 + 12 * (nw).toNat + 0) Q (F0 m 142 ls [.long (lz (mo))]) := by
          intro mo gc H locs ls jo hP hD hS hl
          refine lv_lstore (lv' := [(7, .long (lz (mo))), (5, .long (lz (al))), (4, .ref wl), (3, .int (iz (nw))), (2, .int (iz (cw9))), (0, .ref x), (1, .ref rr)]) hx hb dL_isParted_142 hl (by decide) rfl (fun ls hl => ?_)
          refine lv_aload_n hx hb dL_isParted_144 rfl (lv_at hl 5 rfl) ?_
          refine lv_bipush (v := iz (18)) hx hb dL_isParted_145 rfl ?_
          refine lv_lload hx hb dL_isParted_147 (lv_at hl 0 rfl) ?_
          refine lv_iload_n hx hb dL_isParted_149 rfl (lv_at hl 3 rfl) ?_
          refine lv_iconst (v := iz (0)) hx hb dL_isParted_150 rfl ?_
          refine zc_l (wr := [(wl, zaL (G.2 0) ((nw).toNat) (wu)), (rr, zaI (G.2 1) 2 (gc))]) (vx_runSW (As := [.ref x, .int (iz (18)), .long (lz (mo)), .int (iz (nw)), .int (iz (0))]) (rest := []) ⟨hx, hb, hml, hown, hts⟩ (c_L_asks_18 l G s1 s2 s3 x ro rw bo li sh tx lo nl wt wf nw mo nw 0 hl0 (hw) (by omega) (by omega) (by omega) H.size) (vx_cwSW 5 hts gL_isParted_L_asks rfl rfl rfl (by decide +kernel) ⟨Nat.le_of_ble_eq_true rfl, Nat.le_of_ble_eq_true rfl⟩) (zpSe zXM_ok hE hS hA hKX hP hD [1, 2, 0] rfl rfl) rfl rfl hl.1 rfl (lv_room (Nat.le_of_ble_eq_true rfl)) dL_isParted_151 ⟨(by first | exact Nat.le_of_ble_eq_true rfl | (show _ ≤ (90 : Nat); omega)), (by first | exact Nat.le_of_ble_eq_true rfl | (show _ ≤ (520 : Nat); omega))⟩) hP hD hS hA [1, 2, 0] [3, 4] rfl rfl rfl (by decide) (fun a1 u_9 H locs ha1 hP hD hS => ?_)
          have hP : va_P G.1 vwCl [(wl, zaL (G.2 0) ((nw).toNat) (wu)), (rr, zaI (G.2 1) 2 (gc)), (x, .inr (10, [.ref ro, .ref rw, .ref bo, .ref li, .ref sh, .ref tx, .ref lo, .ref nl])), (sh, .inr (7, [.ref wt, .int (iz (nw))])), (wt, zaI (G.2 1) 12 (wf))] H := hP
          have hD : va_D A [(wl, zaL (G.2 0) ((nw).toNat) (wu)), (rr, zaI (G.2 1) 2 (gc)), (x, .inr (10, [.ref ro, .ref rw, .ref bo, .ref li, .ref sh, .ref tx, .ref lo, .ref nl])), (sh, .inr (7, [.ref wt, .int (iz (nw))])), (wt, zaI (G.2 1) 12 (wf))] := hD
          have ha1 : ((((0 ≤ mo ∧ mo ≤ 1000000000000) ∧ (0 ≤ nw ∧ nw < nw) ∧ 0 < zsm wf nw.toNat ∧ a1 = zpart wf nw mo nw)) ∨ (a1 = -4000000000000000003 ∧ (¬ (0 ≤ mo ∧ mo ≤ 1000000000000)))) ∨ (a1 = -4000000000000000002 ∧ ((0 ≤ mo ∧ mo ≤ 1000000000000) ∧ (¬ (0 ≤ nw ∧ nw < nw) ∨ ¬ 0 < zsm wf nw.toNat))) := ha1
          refine zr_ldc2 (z := -4000000000000000002) hx hb hown (hts (.constantLong RL 123 (-4000000000000000002)) (by decide +kernel)) rfl dL_isParted_154 ?_
          refine zr_lcmp_ne (x := a1) (y := -4000000000000000002) (tgt := 179) hx hb (⟨by omega, by omega⟩) (⟨by omega, by omega⟩) dL_isParted_157 dL_isParted_158 (by decide) (fun h_11 => ?_) (fun h_11 => ?_)
          · exact absurd h_11 (by omega)
          ·
            refine lv_aload_n hx hb dL_isParted_161 rfl (lv_at hl 5 rfl) ?_
            refine lv_bipush (v := iz (18)) hx hb dL_isParted_162 rfl ?_
            refine zr_ldc2 (z := -1) hx hb hown (hts (.constantLong RL 191 (-1)) (by decide +kernel)) rfl dL_isParted_164 ?_
            refine lv_iload_n hx hb dL_isParted_167 rfl (lv_at hl 3 rfl) ?_
            refine lv_iconst (v := iz (0)) hx hb dL_isParted_168 rfl ?_
            refine zc_l (wr := [(wl, zaL (G.2 0) ((nw).toNat) (wu)), (rr, zaI (G.2 1) 2 (gc))]) (vx_runSW (As := [.ref x, .int (iz (18)), .long (lz (-1)), .int (iz (nw)), .int (iz (0))]) (rest := []) ⟨hx, hb, hml, hown, hts⟩ (c_L_asks_18 l G s1 s2 s3 x ro rw bo li sh tx lo nl wt wf nw (-1) nw 0 hl0 (hw) (by omega) (by omega) (by omega) H.size) (vx_cwSW 5 hts gL_isParted_L_asks rfl rfl rfl (by decide +kernel) ⟨Nat.le_of_ble_eq_true rfl, Nat.le_of_ble_eq_true rfl⟩) (zpSe zXM_ok hE hS hA hKX hP hD [2, 3, 4] rfl rfl) rfl rfl hl.1 rfl (lv_room (Nat.le_of_ble_eq_true rfl)) dL_isParted_169 ⟨(by first | exact Nat.le_of_ble_eq_true rfl | (show _ ≤ (90 : Nat); omega)), (by first | exact Nat.le_of_ble_eq_true rfl | (show _ ≤ (520 : Nat); omega))⟩) hP hD hS hA [2, 3, 4] [0, 1] rfl rfl rfl (by decide) (fun a2 u_12 H locs ha2 hP hD hS => ?_)
            have hP : va_P G.1 vwCl [(wl, zaL (G.2 0) ((nw).toNat) (wu)), (rr, zaI (G.2 1) 2 (gc)), (x, .inr (10, [.ref ro, .ref rw, .ref bo, .ref li, .ref sh, .ref tx, .ref lo, .ref nl])), (sh, .inr (7, [.ref wt, .int (iz (nw))])), (wt, zaI (G.2 1) 12 (wf))] H := hP
            have hD : va_D A [(wl, zaL (G.2 0) ((nw).toNat) (wu)), (rr, zaI (G.2 1) 2 (gc)), (x, .inr (10, [.ref ro, .ref rw, .ref bo, .ref li, .ref sh, .ref tx, .ref lo, .ref nl])), (sh, .inr (7, [.ref wt, .int (iz (nw))])), (wt, zaI (G.2 1) 12 (wf))] := hD
            have ha2 : ((((0 ≤ (-1 : Int) ∧ (-1 : Int) ≤ 1000000000000) ∧ (0 ≤ nw ∧ nw < nw) ∧ 0 < zsm wf nw.toNat ∧ a2 = zpart wf nw (-1 : Int) nw)) ∨ (a2 = -4000000000000000003 ∧ (¬ (0 ≤ (-1 : Int) ∧ (-1 : Int) ≤ 1000000000000)))) ∨ (a2 = -4000000000000000002 ∧ ((0 ≤ (-1 : Int) ∧ (-1 : Int) ≤ 1000000000000) ∧ (¬ (0 ≤ nw ∧ nw < nw) ∨ ¬ 0 < zsm wf nw.toNat))) := ha2
            refine zr_ldc2 (z := -4000000000000000003) hx hb hown (hts (.constantLong RL 127 (-4000000000000000003)) (by decide +kernel)) rfl dL_isParted_172 ?_
            refine zr_lcmp_eq (x := a2) (y := -4000000000000000003) (tgt := 181) hx hb (⟨by omega, by omega⟩) (⟨by omega, by omega⟩) dL_isParted_175 dL_isParted_176 (by decide) (fun h_14 => ?_) (fun h_14 => ?_)
            ·
              refine lv_lload hx hb dL_isParted_181 (lv_at hl 1 rfl) ?_
              refine lv_lconst (v := lz (0)) hx hb dL_isParted_183 rfl ?_
              refine zr_lcmp_ne (x := al) (y := 0) (tgt := 211) hx hb (⟨by omega, by omega⟩) (⟨by omega, by omega⟩) dL_isParted_184 dL_isParted_185 (by decide) (fun h_15 => ?_) (fun h_15 => ?_)
              ·
                have hal1 : 1 ≤ al := by omega
                refine lv_lconst (v := lz (0)) hx hb dL_isParted_211 rfl ?_
                refine lv_lstore (lv' := [(9, .long (lz (0))), (7, .long (lz (mo))), (5, .long (lz (al))), (4, .ref wl), (3, .int (iz (nw))), (2, .int (iz (cw9))), (0, .ref x), (1, .ref rr)]) hx hb dL_isParted_212 hl (by decide) rfl (fun ls hl => ?_)
                refine lv_lload hx hb dL_isParted_214 (lv_at hl 2 rfl) ?_
                refine lv_lstore (lv' := [(11, .long (lz (al))), (9, .long (lz (0))), (7, .long (lz (mo))), (5, .long (lz (al))), (4, .ref wl), (3, .int (iz (nw))), (2, .int (iz (cw9))), (0, .ref x), (1, .ref rr)]) hx hb dL_isParted_216 hl (by decide) rfl (fun ls hl => ?_)
                refine lv_iload_n hx hb dL_isParted_218 rfl (lv_at hl 5 rfl) ?_
                refine lv_istore (lv' := [(13, .int (iz (nw))), (11, .long (lz (al))), (9, .long (lz (0))), (7, .long (lz (mo))), (5, .long (lz (al))), (4, .ref wl), (3, .int (iz (nw))), (2, .int (iz (cw9))), (0, .ref x), (1, .ref rr)]) hx hb dL_isParted_219 hl (by decide) rfl (fun ls hl => ?_)
                refine zr_ldc2 (z := -1) hx hb hown (hts (.constantLong RL 191 (-1)) (by decide +kernel)) rfl dL_isParted_221 ?_
                refine lv_lstore (lv' := [(14, .long (lz (-1))), (13, .int (iz (nw))), (11, .long (lz (al))), (9, .long (lz (0))), (7, .long (lz (mo))), (5, .long (lz (al))), (4, .ref wl), (3, .int (iz (nw))), (2, .int (iz (cw9))), (0, .ref x), (1, .ref rr)]) hx hb dL_isParted_224 hl (by decide) rfl (fun ls hl => ?_)
                refine lv_iconst (v := iz (-1)) hx hb dL_isParted_226 rfl ?_
                refine lv_istore (lv' := [(16, .int (iz (-1))), (14, .long (lz (-1))), (13, .int (iz (nw))), (11, .long (lz (al))), (9, .long (lz (0))), (7, .long (lz (mo))), (5, .long (lz (al))), (4, .ref wl), (3, .int (iz (nw))), (2, .int (iz (cw9))), (0, .ref x), (1, .ref rr)]) hx hb dL_isParted_227 hl (by decide) rfl (fun ls hl => ?_)
                refine lv_iconst (v := iz (0)) hx hb dL_isParted_229 rfl ?_
                refine lv_istore (lv' := [(17, .int (iz (0))), (16, .int (iz (-1))), (14, .long (lz (-1))), (13, .int (iz (nw))), (11, .long (lz (al))), (9, .long (lz (0))), (7, .long (lz (mo))), (5, .long (lz (al))), (4, .ref wl), (3, .int (iz (nw))), (2, .int (iz (cw9))), (0, .ref x), (1, .ref rr)]) hx hb dL_isParted_230 hl (by decide) rfl (fun ls hl => ?_)
                have hl_232 : ∀ (zn_232 : Nat) (k2 : Int) (sm : Int) (le : Int) (la : Int) (ms_ : Int) (ma : Int) (H : Heap) (locs : List Loc) (ls : Array Slot), (nw - k2).toNat < zn_232 → (0 ≤ k2 ∧ k2 ≤ nw) → (sm = zsm (zpart wf nw mo) k2.toNat) → (zI1 wf nw mo k2 la le) → (zI2 wf nw mo k2 ma ms_) → (0 ≤ le ∧ le ≤ 12000000 ∧ -1 ≤ ms_ ∧ ms_ ≤ 12000000 ∧ -1 ≤ ma ∧ ma ≤ 12 ∧ 0 ≤ la ∧ la ≤ 12) → va_P G.1 vwCl [(wl, zaL (G.2 0) ((nw).toNat) (wu)), (rr, zaI (G.2 1) 2 (gc)), (x, .inr (10, [.ref ro, .ref rw, .ref bo, .ref li, .ref sh, .ref tx, .ref lo, .ref nl])), (sh, .inr (7, [.ref wt, .int (iz (nw))])), (wt, zaI (G.2 1) 12 (wf))] H → va_D A [(wl, zaL (G.2 0) ((nw).toNat) (wu)), (rr, zaI (G.2 1) 2 (gc)), (x, .inr (10, [.ref ro, .ref rw, .ref bo, .ref li, .ref sh, .ref tx, .ref lo, .ref nl])), (sh, .inr (7, [.ref wt, .int (iz (nw))])), (wt, zaI (G.2 1) 12 (wf))] → va_S A s.heap H locs → lv_has ls 24 [(17, .int (iz (k2))), (16, .int (iz (ma))), (14, .long (lz (ms_))), (13, .int (iz (la))), (11, .long (lz (le))), (9, .long (lz (sm))), (7, .long (lz (mo))), (5, .long (lz (al))), (4, .ref wl), (3, .int (iz (nw))), (2, .int (iz (cw9))), (0, .ref x), (1, .ref rr)] → W p l e rm_c_L_isParted s m ([.ref x, .ref rr] : List Value).toArray below meth c H locs (40 + 3 * (k2).toNat) (240 + 18 * (k2).toNat) Q (F0 m 232 ls []) := by
                  intro zn_232
                  induction zn_232 with
                  | zero => intro k2 sm le la ms_ ma H locs ls hm; exact absurd hm (Nat.not_lt_zero _)
                  | succ zn_232 ih_232 =>
                    intro k2 sm le la ms_ ma H locs ls hm_232 k3 hs i1 i2 hrg hP hD hS hl
                    refine lv_iload hx hb dL_isParted_232 (lv_at hl 0 rfl) ?_
                    refine lv_iload_n hx hb dL_isParted_234 rfl (lv_at hl 9 rfl) ?_
                    refine zr_icmp_ge (x := k2) (y := nw) (tgt := 355) hx hb (⟨by omega, by omega⟩) (⟨by omega, by omega⟩) dL_isParted_235 (by decide) (fun h_16 => ?_) (fun h_16 => ?_)
                    ·
                      have hend := zI_end i1 i2 (by omega) (by rw [← hal]; omega)
                      have hsum : sm = mo := by rw [hs, show k2 = nw by omega]; exact zparts_sum hw (by rw [← hal]; omega) (by omega)
                      refine lv_lload hx hb dL_isParted_355 (lv_at hl 5 rfl) ?_
                      refine lv_lload hx hb dL_isParted_357 (lv_at hl 6 rfl) ?_
                      refine zr_lcmp_ne (x := sm) (y := mo) (tgt := 404) hx hb (⟨by omega, by omega⟩) (⟨by omega, by omega⟩) dL_isParted_359 dL_isParted_360 (by decide) (fun h_17 => ?_) (fun h_17 => ?_)
                      · exact absurd h_17 (by omega)
                      ·
                        refine lv_lload hx hb dL_isParted_363 (lv_at hl 2 rfl) ?_
                        refine lv_lload hx hb dL_isParted_365 (lv_at hl 4 rfl) ?_
                        refine zr_lcmp_lt (x := ms_) (y := le) (tgt := 392) hx hb (⟨by omega, by omega⟩) (⟨by omega, by omega⟩) dL_isParted_367 dL_isParted_368 (by decide) (fun h_18 => ?_) (fun h_18 => ?_)
                        ·
                          refine lv_aload_n hx hb dL_isParted_392 rfl (lv_at hl 11 rfl) ?_
                          refine zc_i (wr := [(wl, zaL (G.2 0) ((nw).toNat) (wu)), (rr, zaI (G.2 1) 2 (gc)), (wt, zaI (G.2 1) 12 (wf))]) (va_runV (As := []) (rest := []) ⟨hx, hb, hml, hown, hts⟩ (c_X9_clearWeights l G x ro rw bo li sh tx lo nl wt nw  H.size) (cwV 0 hts gL_isParted_X9_clearWeights rfl rfl rfl (by decide +kernel) ⟨Nat.le_of_ble_eq_true rfl, Nat.le_of_ble_eq_true rfl⟩) (zpV hKX hP hD [2, 3] rfl rfl 2 10 rfl rfl) rfl rfl hl.1 rfl (lv_room (Nat.le_of_ble_eq_true rfl)) dL_isParted_393 ⟨(by first | exact Nat.le_of_ble_eq_true rfl | (show _ ≤ (90 : Nat); omega)), (by first | exact Nat.le_of_ble_eq_true rfl | (show _ ≤ (520 : Nat); omega))⟩) hP hD hS hA [2, 3] [0, 1, 4] rfl rfl rfl (by decide) (fun cw8 u_19 H locs hcw8 hP hD hS => ?_)
                          have hP : va_P G.1 vwCl [(wl, zaL (G.2 0) ((nw).toNat) (wu)), (rr, zaI (G.2 1) 2 (gc)), (wt, zaI (G.2 1) 12 (wf)), (x, .inr (10, [.ref ro, .ref rw, .ref bo, .ref li, .ref sh, .ref tx, .ref lo, .ref nl])), (sh, .inr (7, [.ref wt, .int (iz (0))]))] H := hP
                          have hD : va_D A [(wl, zaL (G.2 0) ((nw).toNat) (wu)), (rr, zaI (G.2 1) 2 (gc)), (wt, zaI (G.2 1) 12 (wf)), (x, .inr (10, [.ref ro, .ref rw, .ref bo, .ref li, .ref sh, .ref tx, .ref lo, .ref nl])), (sh, .inr (7, [.ref wt, .int (iz (0))]))] := hD
                          have hcw8 : cw8 = nw := hcw8
                          refine lv_iload_n hx hb dL_isParted_396 rfl (lv_at hl 9 rfl) ?_
                          refine zr_icmp_ne (x := cw8) (y := nw) (tgt := 404) hx hb (⟨by omega, by omega⟩) (⟨by omega, by omega⟩) dL_isParted_397 (by decide) (fun h_21 => ?_) (fun h_21 => ?_)
                          · exact absurd h_21 (by omega)
                          ·
                            refine lv_iconst (v := iz (1)) hx hb dL_isParted_400 rfl ?_
                            refine lv_goto (tgt := 405) hx hb dL_isParted_401 (by decide) ?_
                            rw [hQ]
                            exact zr_zret (z := true) (rfl) (u := (wf, 0, gc)) hx hb hr hlocks (hP.sub [3, 4, 2, 1] rfl) (hD.sub [3, 4, 2, 1] (by decide) rfl) hS (by first | exact Nat.le_of_ble_eq_true rfl | omega) (by first | exact Nat.le_of_ble_eq_true rfl | omega) dL_isParted_405 (show true = true ∧ zwts wf 0 from ⟨rfl, by first | exact hw | exact ⟨by omega, fun i a b => absurd b (by omega)⟩⟩)
                        ·
                          refine lv_lload hx hb dL_isParted_371 (lv_at hl 2 rfl) ?_
                          refine lv_lload hx hb dL_isParted_373 (lv_at hl 4 rfl) ?_
                          refine zr_lcmp_ne (x := ms_) (y := le) (tgt := 386) hx hb (⟨by omega, by omega⟩) (⟨by omega, by omega⟩) dL_isParted_375 dL_isParted_376 (by decide) (fun h_22 => ?_) (fun h_22 => ?_)
                          ·
                            refine lv_iload hx hb dL_isParted_386 (lv_at hl 3 rfl) ?_
                            refine lv_iload_n hx hb dL_isParted_388 rfl (lv_at hl 9 rfl) ?_
                            refine zr_icmp_ne (x := la) (y := nw) (tgt := 404) hx hb (⟨by omega, by omega⟩) (⟨by omega, by omega⟩) dL_isParted_389 (by decide) (fun h_23 => ?_) (fun h_23 => ?_)
                            · exact absurd h_23 (by omega)
                            ·
                              refine lv_aload_n hx hb dL_isParted_392 rfl (lv_at hl 11 rfl) ?_
                              refine zc_i (wr := [(wl, zaL (G.2 0) ((nw).toNat) (wu)), (rr, zaI (G.2 1) 2 (gc)), (wt, zaI (G.2 1) 12 (wf))]) (va_runV (As := []) (rest := []) ⟨hx, hb, hml, hown, hts⟩ (c_X9_clearWeights l G x ro rw bo li sh tx lo nl wt nw  H.size) (cwV 0 hts gL_isParted_X9_clearWeights rfl rfl rfl (by decide +kernel) ⟨Nat.le_of_ble_eq_true rfl, Nat.le_of_ble_eq_true rfl⟩) (zpV hKX hP hD [2, 3] rfl rfl 2 10 rfl rfl) rfl rfl hl.1 rfl (lv_room (Nat.le_of_ble_eq_true rfl)) dL_isParted_393 ⟨(by first | exact Nat.le_of_ble_eq_true rfl | (show _ ≤ (90 : Nat); omega)), (by first | exact Nat.le_of_ble_eq_true rfl | (show _ ≤ (520 : Nat); omega))⟩) hP hD hS hA [2, 3] [0, 1, 4] rfl rfl rfl (by decide) (fun cw8 u_24 H locs hcw8 hP hD hS => ?_)
                              have hP : va_P G.1 vwCl [(wl, zaL (G.2 0) ((nw).toNat) (wu)), (rr, zaI (G.2 1) 2 (gc)), (wt, zaI (G.2 1) 12 (wf)), (x, .inr (10, [.ref ro, .ref rw, .ref bo, .ref li, .ref sh, .ref tx, .ref lo, .ref nl])), (sh, .inr (7, [.ref wt, .int (iz (0))]))] H := hP
                              have hD : va_D A [(wl, zaL (G.2 0) ((nw).toNat) (wu)), (rr, zaI (G.2 1) 2 (gc)), (wt, zaI (G.2 1) 12 (wf)), (x, .inr (10, [.ref ro, .ref rw, .ref bo, .ref li, .ref sh, .ref tx, .ref lo, .ref nl])), (sh, .inr (7, [.ref wt, .int (iz (0))]))] := hD
                              have hcw8 : cw8 = nw := hcw8
                              refine lv_iload_n hx hb dL_isParted_396 rfl (lv_at hl 9 rfl) ?_
                              refine zr_icmp_ne (x := cw8) (y := nw) (tgt := 404) hx hb (⟨by omega, by omega⟩) (⟨by omega, by omega⟩) dL_isParted_397 (by decide) (fun h_26 => ?_) (fun h_26 => ?_)
                              · exact absurd h_26 (by omega)
                              ·
                                refine lv_iconst (v := iz (1)) hx hb dL_isParted_400 rfl ?_
                                refine lv_goto (tgt := 405) hx hb dL_isParted_401 (by decide) ?_
                                rw [hQ]
                                exact zr_zret (z := true) (rfl) (u := (wf, 0, gc)) hx hb hr hlocks (hP.sub [3, 4, 2, 1] rfl) (hD.sub [3, 4, 2, 1] (by decide) rfl) hS (by first | exact Nat.le_of_ble_eq_true rfl | omega) (by first | exact Nat.le_of_ble_eq_true rfl | omega) dL_isParted_405 (show true = true ∧ zwts wf 0 from ⟨rfl, by first | exact hw | exact ⟨by omega, fun i a b => absurd b (by omega)⟩⟩)
                          ·
                            refine lv_iload hx hb dL_isParted_379 (lv_at hl 3 rfl) ?_
                            refine lv_iload hx hb dL_isParted_381 (lv_at hl 1 rfl) ?_
                            refine zr_icmp_lt (x := la) (y := ma) (tgt := 392) hx hb (⟨by omega, by omega⟩) (⟨by omega, by omega⟩) dL_isParted_383 (by decide) (fun h_27 => ?_) (fun h_27 => ?_)
                            ·
                              refine lv_aload_n hx hb dL_isParted_392 rfl (lv_at hl 11 rfl) ?_
                              refine zc_i (wr := [(wl, zaL (G.2 0) ((nw).toNat) (wu)), (rr, zaI (G.2 1) 2 (gc)), (wt, zaI (G.2 1) 12 (wf))]) (va_runV (As := []) (rest := []) ⟨hx, hb, hml, hown, hts⟩ (c_X9_clearWeights l G x ro rw bo li sh tx lo nl wt nw  H.size) (cwV 0 hts gL_isParted_X9_clearWeights rfl rfl rfl (by decide +kernel) ⟨Nat.le_of_ble_eq_true rfl, Nat.le_of_ble_eq_true rfl⟩) (zpV hKX hP hD [2, 3] rfl rfl 2 10 rfl rfl) rfl rfl hl.1 rfl (lv_room (Nat.le_of_ble_eq_true rfl)) dL_isParted_393 ⟨(by first | exact Nat.le_of_ble_eq_true rfl | (show _ ≤ (90 : Nat); omega)), (by first | exact Nat.le_of_ble_eq_true rfl | (show _ ≤ (520 : Nat); omega))⟩) hP hD hS hA [2, 3] [0, 1, 4] rfl rfl rfl (by decide) (fun cw8 u_28 H locs hcw8 hP hD hS => ?_)
                              have hP : va_P G.1 vwCl [(wl, zaL (G.2 0) ((nw).toNat) (wu)), (rr, zaI (G.2 1) 2 (gc)), (wt, zaI (G.2 1) 12 (wf)), (x, .inr (10, [.ref ro, .ref rw, .ref bo, .ref li, .ref sh, .ref tx, .ref lo, .ref nl])), (sh, .inr (7, [.ref wt, .int (iz (0))]))] H := hP
                              have hD : va_D A [(wl, zaL (G.2 0) ((nw).toNat) (wu)), (rr, zaI (G.2 1) 2 (gc)), (wt, zaI (G.2 1) 12 (wf)), (x, .inr (10, [.ref ro, .ref rw, .ref bo, .ref li, .ref sh, .ref tx, .ref lo, .ref nl])), (sh, .inr (7, [.ref wt, .int (iz (0))]))] := hD
                              have hcw8 : cw8 = nw := hcw8
                              refine lv_iload_n hx hb dL_isParted_396 rfl (lv_at hl 9 rfl) ?_
                              refine zr_icmp_ne (x := cw8) (y := nw) (tgt := 404) hx hb (⟨by omega, by omega⟩) (⟨by omega, by omega⟩) dL_isParted_397 (by decide) (fun h_30 => ?_) (fun h_30 => ?_)
                              · exact absurd h_30 (by omega)
                              ·
                                refine lv_iconst (v := iz (1)) hx hb dL_isParted_400 rfl ?_
                                refine lv_goto (tgt := 405) hx hb dL_isParted_401 (by decide) ?_
                                rw [hQ]
                                exact zr_zret (z := true) (rfl) (u := (wf, 0, gc)) hx hb hr hlocks (hP.sub [3, 4, 2, 1] rfl) (hD.sub [3, 4, 2, 1] (by decide) rfl) hS (by first | exact Nat.le_of_ble_eq_true rfl | omega) (by first | exact Nat.le_of_ble_eq_true rfl | omega) dL_isParted_405 (show true = true ∧ zwts wf 0 from ⟨rfl, by first | exact hw | exact ⟨by omega, fun i a b => absurd b (by omega)⟩⟩)
                            ·
                              refine lv_iload hx hb dL_isParted_386 (lv_at hl 3 rfl) ?_
                              refine lv_iload_n hx hb dL_isParted_388 rfl (lv_at hl 9 rfl) ?_
                              refine zr_icmp_ne (x := la) (y := nw) (tgt := 404) hx hb (⟨by omega, by omega⟩) (⟨by omega, by omega⟩) dL_isParted_389 (by decide) (fun h_31 => ?_) (fun h_31 => ?_)
                              · exact absurd h_31 (by omega)
                              ·
                                refine lv_aload_n hx hb dL_isParted_392 rfl (lv_at hl 11 rfl) ?_
                                refine zc_i (wr := [(wl, zaL (G.2 0) ((nw).toNat) (wu)), (rr, zaI (G.2 1) 2 (gc)), (wt, zaI (G.2 1) 12 (wf))]) (va_runV (As := []) (rest := []) ⟨hx, hb, hml, hown, hts⟩ (c_X9_clearWeights l G x ro rw bo li sh tx lo nl wt nw  H.size) (cwV 0 hts gL_isParted_X9_clearWeights rfl rfl rfl (by decide +kernel) ⟨Nat.le_of_ble_eq_true rfl, Nat.le_of_ble_eq_true rfl⟩) (zpV hKX hP hD [2, 3] rfl rfl 2 10 rfl rfl) rfl rfl hl.1 rfl (lv_room (Nat.le_of_ble_eq_true rfl)) dL_isParted_393 ⟨(by first | exact Nat.le_of_ble_eq_true rfl | (show _ ≤ (90 : Nat); omega)), (by first | exact Nat.le_of_ble_eq_true rfl | (show _ ≤ (520 : Nat); omega))⟩) hP hD hS hA [2, 3] [0, 1, 4] rfl rfl rfl (by decide) (fun cw8 u_32 H locs hcw8 hP hD hS => ?_)
                                have hP : va_P G.1 vwCl [(wl, zaL (G.2 0) ((nw).toNat) (wu)), (rr, zaI (G.2 1) 2 (gc)), (wt, zaI (G.2 1) 12 (wf)), (x, .inr (10, [.ref ro, .ref rw, .ref bo, .ref li, .ref sh, .ref tx, .ref lo, .ref nl])), (sh, .inr (7, [.ref wt, .int (iz (0))]))] H := hP
                                have hD : va_D A [(wl, zaL (G.2 0) ((nw).toNat) (wu)), (rr, zaI (G.2 1) 2 (gc)), (wt, zaI (G.2 1) 12 (wf)), (x, .inr (10, [.ref ro, .ref rw, .ref bo, .ref li, .ref sh, .ref tx, .ref lo, .ref nl])), (sh, .inr (7, [.ref wt, .int (iz (0))]))] := hD
                                have hcw8 : cw8 = nw := hcw8
                                refine lv_iload_n hx hb dL_isParted_396 rfl (lv_at hl 9 rfl) ?_
                                refine zr_icmp_ne (x := cw8) (y := nw) (tgt := 404) hx hb (⟨by omega, by omega⟩) (⟨by omega, by omega⟩) dL_isParted_397 (by decide) (fun h_34 => ?_) (fun h_34 => ?_)
                                · exact absurd h_34 (by omega)
                                ·
                                  refine lv_iconst (v := iz (1)) hx hb dL_isParted_400 rfl ?_
                                  refine lv_goto (tgt := 405) hx hb dL_isParted_401 (by decide) ?_
                                  rw [hQ]
                                  exact zr_zret (z := true) (rfl) (u := (wf, 0, gc)) hx hb hr hlocks (hP.sub [3, 4, 2, 1] rfl) (hD.sub [3, 4, 2, 1] (by decide) rfl) hS (by first | exact Nat.le_of_ble_eq_true rfl | omega) (by first | exact Nat.le_of_ble_eq_true rfl | omega) dL_isParted_405 (show true = true ∧ zwts wf 0 from ⟨rfl, by first | exact hw | exact ⟨by omega, fun i a b => absurd b (by omega)⟩⟩)
                    ·
                      have hsk := hsm k2 (by omega) (by omega)
                      have hub2 := hub k2 (by omega) (by omega)
                      refine lv_aload_n hx hb dL_isParted_238 rfl (lv_at hl 11 rfl) ?_
                      refine lv_lload hx hb dL_isParted_239 (lv_at hl 6 rfl) ?_
                      refine lv_iload hx hb dL_isParted_241 (lv_at hl 0 rfl) ?_
                      refine zct_l (wr := [(wl, zaL (G.2 0) ((nw).toNat) (wu)), (rr, zaI (G.2 1) 2 (gc))]) (vx_runV (As := [.long (lz (mo)), .int (iz (k2))]) (rest := []) ⟨hx, hb, hml, hown, hts⟩ (c_X9_part l G s1 s2 s3 x ro rw bo li sh tx lo nl wt wf nw mo k2 hl0 (by omega) (by omega) (hw) H.size) (cwV 2 hts gL_isParted_X9_part rfl rfl rfl (by decide +kernel) ⟨Nat.le_of_ble_eq_true rfl, Nat.le_of_ble_eq_true rfl⟩) (zpVe zXE_ok hE.1 hS hA hKX hP hD [2, 3, 4] rfl rfl (va_recv hK hP (ci := 10) (q0 := 2) rfl rfl)) rfl rfl hl.1 rfl (lv_room (Nat.le_of_ble_eq_true rfl)) dL_isParted_243 ⟨(by first | exact Nat.le_of_ble_eq_true rfl | (show _ ≤ (90 : Nat); omega)), (by first | exact Nat.le_of_ble_eq_true rfl | (show _ ≤ (520 : Nat); omega))⟩) hP hD hS hA [2, 3, 4] [0, 1] rfl rfl rfl (by decide) (fun E9 ce9 q9 ux_36 H locs hx9_37 hP hD hS hce9 hcv9 hcl9 => ?_) (fun its u_35 H locs hits hP hD hS => ?_)
                      ·
                        have hP : va_P G.1 vwCl [(wl, zaL (G.2 0) ((nw).toNat) (wu)), (rr, zaI (G.2 1) 2 (gc)), (x, .inr (10, [.ref ro, .ref rw, .ref bo, .ref li, .ref sh, .ref tx, .ref lo, .ref nl])), (sh, .inr (7, [.ref wt, .int (iz (nw))])), (wt, zaI (G.2 1) 12 (wf))] H := hP
                        have hD : va_D A [(wl, zaL (G.2 0) ((nw).toNat) (wu)), (rr, zaI (G.2 1) 2 (gc)), (x, .inr (10, [.ref ro, .ref rw, .ref bo, .ref li, .ref sh, .ref tx, .ref lo, .ref nl])), (sh, .inr (7, [.ref wt, .int (iz (nw))])), (wt, zaI (G.2 1) 12 (wf))] := hD
                        rcases hx9_37 with ⟨rfl, hxc⟩ | ⟨rfl, hxc⟩
                        ·
                          have hxc : ¬ (0 ≤ mo ∧ mo ≤ 1000000000000) := hxc
                          exact absurd hxc (by omega)
                        ·
                          have hxc : (0 ≤ mo ∧ mo ≤ 1000000000000) ∧ (¬ (0 ≤ k2 ∧ k2 < nw) ∨ ¬ 0 < zsm wf nw.toNat) := hxc
                          exact absurd hxc (fun q => by have w := q.2; rw [← hal] at w; omega)
                      have hP : va_P G.1 vwCl [(wl, zaL (G.2 0) ((nw).toNat) (wu)), (rr, zaI (G.2 1) 2 (gc)), (x, .inr (10, [.ref ro, .ref rw, .ref bo, .ref li, .ref sh, .ref tx, .ref lo, .ref nl])), (sh, .inr (7, [.ref wt, .int (iz (nw))])), (wt, zaI (G.2 1) 12 (wf))] H := hP
                      have hD : va_D A [(wl, zaL (G.2 0) ((nw).toNat) (wu)), (rr, zaI (G.2 1) 2 (gc)), (x, .inr (10, [.ref ro, .ref rw, .ref bo, .ref li, .ref sh, .ref tx, .ref lo, .ref nl])), (sh, .inr (7, [.ref wt, .int (iz (nw))])), (wt, zaI (G.2 1) 12 (wf))] := hD
                      have hits : (0 ≤ mo ∧ mo ≤ 1000000000000) ∧ (0 ≤ k2 ∧ k2 < nw) ∧ 0 < zsm wf nw.toNat ∧ its = zpart wf nw mo k2 := hits
                      have hzp := zpart_u (f := wf) (n := nw) (mo := mo) (i := k2)
                      rw [← hits.2.2.2] at hzp
                      refine lv_lstore (lv' := [(18, .long (lz (its))), (17, .int (iz (k2))), (16, .int (iz (ma))), (14, .long (lz (ms_))), (13, .int (iz (la))), (11, .long (lz (le))), (9, .long (lz (sm))), (7, .long (lz (mo))), (5, .long (lz (al))), (4, .ref wl), (3, .int (iz (nw))), (2, .int (iz (cw9))), (0, .ref x), (1, .ref rr)]) hx hb dL_isParted_246 hl (by decide) rfl (fun ls hl => ?_)
                      refine lv_lload hx hb dL_isParted_248 (lv_at hl 7 rfl) ?_
                      refine lv_aload hx hb dL_isParted_250 (lv_at hl 9 rfl) ?_
                      refine lv_iload hx hb dL_isParted_252 (lv_at hl 1 rfl) ?_
                      refine zr_lald hx hb hK hP 0 0 rfl rfl (i := k2) (⟨by omega, by omega, by omega⟩) dL_isParted_254 ?_
                      refine zr_lmul hx hb dL_isParted_255 ?_
                      refine zr_namel (fun pq1 epq1 => ?_)
                      have hpq := zmf_b (mo := mo) (x := wu k2) (by omega) (by omega)
                      rw [← epq1] at hpq
                      refine lv_lload hx hb dL_isParted_256 (lv_at hl 8 rfl) ?_
                      refine zr_ldiv hx hb (x := pq1) (y := al) ⟨by omega, by omega⟩ ⟨by omega, by omega⟩ (by omega) (by omega) dL_isParted_258 ?_
                      refine zr_namel (fun less eless => ?_)
                      have hlb := zfd_rng (v := pq1) (u := al) (B := 1000000000000000000) (by omega) ⟨by omega, by omega⟩
                      rw [← eless] at hlb
                      rw [← hal, ← hsk, ← epq1, ← eless] at hzp
                      refine lv_lstore (lv' := [(20, .long (lz (less))), (18, .long (lz (its))), (17, .int (iz (k2))), (16, .int (iz (ma))), (14, .long (lz (ms_))), (13, .int (iz (la))), (11, .long (lz (le))), (9, .long (lz (sm))), (7, .long (lz (mo))), (5, .long (lz (al))), (4, .ref wl), (3, .int (iz (nw))), (2, .int (iz (cw9))), (0, .ref x), (1, .ref rr)]) hx hb dL_isParted_259 hl (by decide) rfl (fun ls hl => ?_)
                      refine lv_lload hx hb dL_isParted_261 (lv_at hl 8 rfl) ?_
                      refine lv_aload hx hb dL_isParted_263 (lv_at hl 10 rfl) ?_
                      refine lv_iload hx hb dL_isParted_265 (lv_at hl 2 rfl) ?_
                      refine zr_lald hx hb hK hP 0 0 rfl rfl (i := k2) (⟨by omega, by omega, by omega⟩) dL_isParted_267 ?_
                      refine zr_lmul hx hb dL_isParted_268 ?_
                      refine zr_eql (y := pq1) (epq1.symm) ?_
                      refine lv_lload hx hb dL_isParted_269 (lv_at hl 9 rfl) ?_
                      refine zr_lrem hx hb (x := pq1) (y := al) ⟨by omega, by omega⟩ ⟨by omega, by omega⟩ (by omega) (by omega) dL_isParted_271 ?_
                      refine zr_namel (fun lost elost => ?_)
                      have hlo : zlos wf (zsm wf nw.toNat) mo k2 = lost := by unfold zlos; rw [← hal, ← hsk, ← epq1, elost]
                      have hlob := zlos_b (f := wf) (mo := mo) (i := k2) (show 1 ≤ zsm wf nw.toNat by rw [← hal]; omega)
                      rw [hlo, ← hal] at hlob
                      refine lv_lstore (lv' := [(22, .long (lz (lost))), (20, .long (lz (less))), (18, .long (lz (its))), (17, .int (iz (k2))), (16, .int (iz (ma))), (14, .long (lz (ms_))), (13, .int (iz (la))), (11, .long (lz (le))), (9, .long (lz (sm))), (7, .long (lz (mo))), (5, .long (lz (al))), (4, .ref wl), (3, .int (iz (nw))), (2, .int (iz (cw9))), (0, .ref x), (1, .ref rr)]) hx hb dL_isParted_272 hl (by decide) rfl (fun ls hl => ?_)
                      refine lv_lload hx hb dL_isParted_274 (lv_at hl 8 rfl) ?_
                      refine lv_lload hx hb dL_isParted_276 (lv_at hl 2 rfl) ?_
                      refine zr_ladd hx hb dL_isParted_278 ?_
                      refine lv_lstore (lv' := [(9, .long (lz (sm + its))), (22, .long (lz (lost))), (20, .long (lz (less))), (18, .long (lz (its))), (17, .int (iz (k2))), (16, .int (iz (ma))), (14, .long (lz (ms_))), (13, .int (iz (la))), (11, .long (lz (le))), (7, .long (lz (mo))), (5, .long (lz (al))), (4, .ref wl), (3, .int (iz (nw))), (2, .int (iz (cw9))), (0, .ref x), (1, .ref rr)]) hx hb dL_isParted_279 hl (by decide) rfl (fun ls hl => ?_)
                      refine lv_lload hx hb dL_isParted_281 (lv_at hl 3 rfl) ?_
                      refine lv_lload hx hb dL_isParted_283 (lv_at hl 2 rfl) ?_
                      refine lv_lconst (v := lz (1)) hx hb dL_isParted_285 rfl ?_
                      refine zr_ladd hx hb dL_isParted_286 ?_
                      refine zr_lcmp_ne (x := its) (y := less + 1) (tgt := 315) hx hb (⟨by omega, by omega⟩) (⟨by omega, by omega⟩) dL_isParted_287 dL_isParted_288 (by decide) (fun h_38 => ?_) (fun h_38 => ?_)
                      ·
                        refine lv_lload hx hb dL_isParted_315 (lv_at hl 3 rfl) ?_
                        refine lv_lload hx hb dL_isParted_317 (lv_at hl 2 rfl) ?_
                        refine zr_lcmp_ne (x := its) (y := less) (tgt := 347) hx hb (⟨by omega, by omega⟩) (⟨by omega, by omega⟩) dL_isParted_319 dL_isParted_320 (by decide) (fun h_39 => ?_) (fun h_39 => ?_)
                        · exact absurd h_39 (by omega)
                        ·
                          refine lv_lload hx hb dL_isParted_323 (lv_at hl 1 rfl) ?_
                          refine lv_lload hx hb dL_isParted_325 (lv_at hl 6 rfl) ?_
                          refine zr_lcmp_le (x := lost) (y := ms_) (tgt := 335) hx hb (⟨by omega, by omega⟩) (⟨by omega, by omega⟩) dL_isParted_327 dL_isParted_328 (by decide) (fun h_40 => ?_) (fun h_40 => ?_)
                          ·
                            refine lv_lload hx hb dL_isParted_335 (lv_at hl 6 rfl) ?_
                            refine lv_lload hx hb dL_isParted_337 (lv_at hl 1 rfl) ?_
                            refine zr_mmaxL (x := ms_) (y := lost) hx hb (hml.trans hl.1.symm) hown (hts (.methodLink RL 242 Lib.MathLoose.max_long.x) (by decide +kernel)) (hts (.static Lib.MathLoose.max_long.x) (by decide +kernel)) (hts (.initialized "java/lang/Math") (by decide +kernel)) (hts (.code Lib.MathLoose.max_long.x Lib.MathLoose.max_long.code 4 (some .long)) (by decide +kernel)) (Nat.le_of_ble_eq_true rfl) (Nat.le_of_ble_eq_true rfl) (by first | exact Nat.le_of_ble_eq_true rfl | (show _ ≤ (90 : Nat); omega)) (by first | exact Nat.le_of_ble_eq_true rfl | (show _ ≤ (520 : Nat); omega)) (⟨by omega, by omega⟩) (⟨by omega, by omega⟩) dL_isParted_339 ?_
                            refine lv_lstore (lv' := [(14, .long (lz (max ms_ lost))), (9, .long (lz (sm + its))), (22, .long (lz (lost))), (20, .long (lz (less))), (18, .long (lz (its))), (17, .int (iz (k2))), (16, .int (iz (ma))), (13, .int (iz (la))), (11, .long (lz (le))), (7, .long (lz (mo))), (5, .long (lz (al))), (4, .ref wl), (3, .int (iz (nw))), (2, .int (iz (cw9))), (0, .ref x), (1, .ref rr)]) hx hb dL_isParted_342 hl (by decide) rfl (fun ls hl => ?_)
                            refine lv_goto (tgt := 349) hx hb dL_isParted_344 (by decide) ?_
                            refine lv_iinc (v := iz (k2 + 1)) (lv' := [(17, .int (iz (k2 + 1))), (14, .long (lz (max ms_ lost))), (9, .long (lz (sm + its))), (22, .long (lz (lost))), (20, .long (lz (less))), (18, .long (lz (its))), (16, .int (iz (ma))), (13, .int (iz (la))), (11, .long (lz (le))), (7, .long (lz (mo))), (5, .long (lz (al))), (4, .ref wl), (3, .int (iz (nw))), (2, .int (iz (cw9))), (0, .ref x), (1, .ref rr)]) hx hb dL_isParted_349 hl (k := 5) rfl (by rw [show Int32.ofInt (1) = iz (1) from rfl, iz_add]) (by decide) rfl (fun ls hl => ?_)
                            refine lv_goto (tgt := 232) hx hb dL_isParted_352 (by decide) ?_
                            refine W.widen (k := 40 + 3 * ((k2 + 1)).toNat) (n := 240 + 18 * ((k2 + 1)).toNat) (by omega) (by omega) ?_
                            exact ih_232 (k2 + 1) (sm + its) le la (max ms_ lost) ma _ _ _ (by omega) (by omega) (by have q := zsm_i (f := zpart wf nw mo) k3.1 hs; rw [← hits.2.2.2] at q; exact q) (by first | exact i1.a k3.1 (hzp.resolve_right (by omega)).2 hlo (by omega) | exact i1.b (by omega) | exact i1.c) (by first | exact i2.a k3.1 (hzp.resolve_left (by omega)).2 hlo (by omega) | exact i2.b (by omega) | exact i2.c) (by omega) (hP) (hD) hS (lv_sub hl [0, 6, 1, 7, 8, 2, 9, 10, 11, 12, 13, 14, 15] rfl)
                          ·
                            refine lv_iload hx hb dL_isParted_331 (lv_at hl 4 rfl) ?_
                            refine lv_istore (lv' := [(16, .int (iz (k2))), (9, .long (lz (sm + its))), (22, .long (lz (lost))), (20, .long (lz (less))), (18, .long (lz (its))), (17, .int (iz (k2))), (14, .long (lz (ms_))), (13, .int (iz (la))), (11, .long (lz (le))), (7, .long (lz (mo))), (5, .long (lz (al))), (4, .ref wl), (3, .int (iz (nw))), (2, .int (iz (cw9))), (0, .ref x), (1, .ref rr)]) hx hb dL_isParted_333 hl (by decide) rfl (fun ls hl => ?_)
                            refine lv_lload hx hb dL_isParted_335 (lv_at hl 6 rfl) ?_
                            refine lv_lload hx hb dL_isParted_337 (lv_at hl 2 rfl) ?_
                            refine zr_mmaxL (x := ms_) (y := lost) hx hb (hml.trans hl.1.symm) hown (hts (.methodLink RL 242 Lib.MathLoose.max_long.x) (by decide +kernel)) (hts (.static Lib.MathLoose.max_long.x) (by decide +kernel)) (hts (.initialized "java/lang/Math") (by decide +kernel)) (hts (.code Lib.MathLoose.max_long.x Lib.MathLoose.max_long.code 4 (some .long)) (by decide +kernel)) (Nat.le_of_ble_eq_true rfl) (Nat.le_of_ble_eq_true rfl) (by first | exact Nat.le_of_ble_eq_true rfl | (show _ ≤ (90 : Nat); omega)) (by first | exact Nat.le_of_ble_eq_true rfl | (show _ ≤ (520 : Nat); omega)) (⟨by omega, by omega⟩) (⟨by omega, by omega⟩) dL_isParted_339 ?_
                            refine lv_lstore (lv' := [(14, .long (lz (max ms_ lost))), (16, .int (iz (k2))), (9, .long (lz (sm + its))), (22, .long (lz (lost))), (20, .long (lz (less))), (18, .long (lz (its))), (17, .int (iz (k2))), (13, .int (iz (la))), (11, .long (lz (le))), (7, .long (lz (mo))), (5, .long (lz (al))), (4, .ref wl), (3, .int (iz (nw))), (2, .int (iz (cw9))), (0, .ref x), (1, .ref rr)]) hx hb dL_isParted_342 hl (by decide) rfl (fun ls hl => ?_)
                            refine lv_goto (tgt := 349) hx hb dL_isParted_344 (by decide) ?_
                            refine lv_iinc (v := iz (k2 + 1)) (lv' := [(17, .int (iz (k2 + 1))), (14, .long (lz (max ms_ lost))), (16, .int (iz (k2))), (9, .long (lz (sm + its))), (22, .long (lz (lost))), (20, .long (lz (less))), (18, .long (lz (its))), (13, .int (iz (la))), (11, .long (lz (le))), (7, .long (lz (mo))), (5, .long (lz (al))), (4, .ref wl), (3, .int (iz (nw))), (2, .int (iz (cw9))), (0, .ref x), (1, .ref rr)]) hx hb dL_isParted_349 hl (k := 6) rfl (by rw [show Int32.ofInt (1) = iz (1) from rfl, iz_add]) (by decide) rfl (fun ls hl => ?_)
                            refine lv_goto (tgt := 232) hx hb dL_isParted_352 (by decide) ?_
                            refine W.widen (k := 40 + 3 * ((k2 + 1)).toNat) (n := 240 + 18 * ((k2 + 1)).toNat) (by omega) (by omega) ?_
                            exact ih_232 (k2 + 1) (sm + its) le la (max ms_ lost) k2 _ _ _ (by omega) (by omega) (by have q := zsm_i (f := zpart wf nw mo) k3.1 hs; rw [← hits.2.2.2] at q; exact q) (by first | exact i1.a k3.1 (hzp.resolve_right (by omega)).2 hlo (by omega) | exact i1.b (by omega) | exact i1.c) (by first | exact i2.a k3.1 (hzp.resolve_left (by omega)).2 hlo (by omega) | exact i2.b (by omega) | exact i2.c) (by omega) (hP) (hD) hS (lv_sub hl [0, 2, 1, 7, 8, 3, 9, 10, 11, 12, 13, 14, 15] rfl)
                      ·
                        refine lv_lload hx hb dL_isParted_291 (lv_at hl 1 rfl) ?_
                        refine lv_lload hx hb dL_isParted_293 (lv_at hl 8 rfl) ?_
                        refine zr_lcmp_gt (x := lost) (y := le) (tgt := 303) hx hb (⟨by omega, by omega⟩) (⟨by omega, by omega⟩) dL_isParted_295 dL_isParted_296 (by decide) (fun h_41 => ?_) (fun h_41 => ?_)
                        ·
                          refine lv_lload hx hb dL_isParted_303 (lv_at hl 8 rfl) ?_
                          refine lv_lload hx hb dL_isParted_305 (lv_at hl 1 rfl) ?_
                          refine zr_mminL (x := le) (y := lost) hx hb (hml.trans hl.1.symm) hown (hts (.methodLink RL 208 Lib.MathLoose.min_long.x) (by decide +kernel)) (hts (.static Lib.MathLoose.min_long.x) (by decide +kernel)) (hts (.initialized "java/lang/Math") (by decide +kernel)) (hts (.code Lib.MathLoose.min_long.x Lib.MathLoose.min_long.code 4 (some .long)) (by decide +kernel)) (Nat.le_of_ble_eq_true rfl) (Nat.le_of_ble_eq_true rfl) (by first | exact Nat.le_of_ble_eq_true rfl | (show _ ≤ (90 : Nat); omega)) (by first | exact Nat.le_of_ble_eq_true rfl | (show _ ≤ (520 : Nat); omega)) (⟨by omega, by omega⟩) (⟨by omega, by omega⟩) dL_isParted_307 ?_
                          refine lv_lstore (lv' := [(11, .long (lz (min le lost))), (9, .long (lz (sm + its))), (22, .long (lz (lost))), (20, .long (lz (less))), (18, .long (lz (its))), (17, .int (iz (k2))), (16, .int (iz (ma))), (14, .long (lz (ms_))), (13, .int (iz (la))), (7, .long (lz (mo))), (5, .long (lz (al))), (4, .ref wl), (3, .int (iz (nw))), (2, .int (iz (cw9))), (0, .ref x), (1, .ref rr)]) hx hb dL_isParted_310 hl (by decide) rfl (fun ls hl => ?_)
                          refine lv_goto (tgt := 349) hx hb dL_isParted_312 (by decide) ?_
                          refine lv_iinc (v := iz (k2 + 1)) (lv' := [(17, .int (iz (k2 + 1))), (11, .long (lz (min le lost))), (9, .long (lz (sm + its))), (22, .long (lz (lost))), (20, .long (lz (less))), (18, .long (lz (its))), (16, .int (iz (ma))), (14, .long (lz (ms_))), (13, .int (iz (la))), (7, .long (lz (mo))), (5, .long (lz (al))), (4, .ref wl), (3, .int (iz (nw))), (2, .int (iz (cw9))), (0, .ref x), (1, .ref rr)]) hx hb dL_isParted_349 hl (k := 5) rfl (by rw [show Int32.ofInt (1) = iz (1) from rfl, iz_add]) (by decide) rfl (fun ls hl => ?_)
                          refine lv_goto (tgt := 232) hx hb dL_isParted_352 (by decide) ?_
                          refine W.widen (k := 40 + 3 * ((k2 + 1)).toNat) (n := 240 + 18 * ((k2 + 1)).toNat) (by omega) (by omega) ?_
                          exact ih_232 (k2 + 1) (sm + its) (min le lost) la ms_ ma _ _ _ (by omega) (by omega) (by have q := zsm_i (f := zpart wf nw mo) k3.1 hs; rw [← hits.2.2.2] at q; exact q) (by first | exact i1.a k3.1 (hzp.resolve_right (by omega)).2 hlo (by omega) | exact i1.b (by omega) | exact i1.c) (by first | exact i2.a k3.1 (hzp.resolve_left (by omega)).2 hlo (by omega) | exact i2.b (by omega) | exact i2.c) (by omega) (hP) (hD) hS (lv_sub hl [0, 6, 7, 8, 1, 2, 9, 10, 11, 12, 13, 14, 15] rfl)
                        ·
                          refine lv_iload hx hb dL_isParted_299 (lv_at hl 4 rfl) ?_
                          refine lv_istore (lv' := [(13, .int (iz (k2))), (9, .long (lz (sm + its))), (22, .long (lz (lost))), (20, .long (lz (less))), (18, .long (lz (its))), (17, .int (iz (k2))), (16, .int (iz (ma))), (14, .long (lz (ms_))), (11, .long (lz (le))), (7, .long (lz (mo))), (5, .long (lz (al))), (4, .ref wl), (3, .int (iz (nw))), (2, .int (iz (cw9))), (0, .ref x), (1, .ref rr)]) hx hb dL_isParted_301 hl (by decide) rfl (fun ls hl => ?_)
                          refine lv_lload hx hb dL_isParted_303 (lv_at hl 8 rfl) ?_
                          refine lv_lload hx hb dL_isParted_305 (lv_at hl 2 rfl) ?_
                          refine zr_mminL (x := le) (y := lost) hx hb (hml.trans hl.1.symm) hown (hts (.methodLink RL 208 Lib.MathLoose.min_long.x) (by decide +kernel)) (hts (.static Lib.MathLoose.min_long.x) (by decide +kernel)) (hts (.initialized "java/lang/Math") (by decide +kernel)) (hts (.code Lib.MathLoose.min_long.x Lib.MathLoose.min_long.code 4 (some .long)) (by decide +kernel)) (Nat.le_of_ble_eq_true rfl) (Nat.le_of_ble_eq_true rfl) (by first | exact Nat.le_of_ble_eq_true rfl | (show _ ≤ (90 : Nat); omega)) (by first | exact Nat.le_of_ble_eq_true rfl | (show _ ≤ (520 : Nat); omega)) (⟨by omega, by omega⟩) (⟨by omega, by omega⟩) dL_isParted_307 ?_
                          refine lv_lstore (lv' := [(11, .long (lz (min le lost))), (13, .int (iz (k2))), (9, .long (lz (sm + its))), (22, .long (lz (lost))), (20, .long (lz (less))), (18, .long (lz (its))), (17, .int (iz (k2))), (16, .int (iz (ma))), (14, .long (lz (ms_))), (7, .long (lz (mo))), (5, .long (lz (al))), (4, .ref wl), (3, .int (iz (nw))), (2, .int (iz (cw9))), (0, .ref x), (1, .ref rr)]) hx hb dL_isParted_310 hl (by decide) rfl (fun ls hl => ?_)
                          refine lv_goto (tgt := 349) hx hb dL_isParted_312 (by decide) ?_
                          refine lv_iinc (v := iz (k2 + 1)) (lv' := [(17, .int (iz (k2 + 1))), (11, .long (lz (min le lost))), (13, .int (iz (k2))), (9, .long (lz (sm + its))), (22, .long (lz (lost))), (20, .long (lz (less))), (18, .long (lz (its))), (16, .int (iz (ma))), (14, .long (lz (ms_))), (7, .long (lz (mo))), (5, .long (lz (al))), (4, .ref wl), (3, .int (iz (nw))), (2, .int (iz (cw9))), (0, .ref x), (1, .ref rr)]) hx hb dL_isParted_349 hl (k := 6) rfl (by rw [show Int32.ofInt (1) = iz (1) from rfl, iz_add]) (by decide) rfl (fun ls hl => ?_)
                          refine lv_goto (tgt := 232) hx hb dL_isParted_352 (by decide) ?_
                          refine W.widen (k := 40 + 3 * ((k2 + 1)).toNat) (n := 240 + 18 * ((k2 + 1)).toNat) (by omega) (by omega) ?_
                          exact ih_232 (k2 + 1) (sm + its) (min le lost) k2 ms_ ma _ _ _ (by omega) (by omega) (by have q := zsm_i (f := zpart wf nw mo) k3.1 hs; rw [← hits.2.2.2] at q; exact q) (by first | exact i1.a k3.1 (hzp.resolve_right (by omega)).2 hlo (by omega) | exact i1.b (by omega) | exact i1.c) (by first | exact i2.a k3.1 (hzp.resolve_left (by omega)).2 hlo (by omega) | exact i2.b (by omega) | exact i2.c) (by omega) (hP) (hD) hS (lv_sub hl [0, 7, 8, 2, 1, 3, 9, 10, 11, 12, 13, 14, 15] rfl)
                refine W.widen (k := 40 + 3 * ((0 : Int)).toNat) (n := 240 + 18 * ((0 : Int)).toNat) (by omega) (by omega) ?_
                exact hl_232 ((nw - 0 : Int).toNat + 1) 0 0 al nw (-1) (-1) _ _ _ (Nat.lt_succ_self _) (by omega) (rfl) (Or.inl ⟨rfl, hal⟩) (Or.inl ⟨rfl, rfl⟩) (by omega) (hP) (hD) hS (hl)
              ·
                refine lv_aload_n hx hb dL_isParted_188 rfl (lv_at hl 5 rfl) ?_
                refine lv_bipush (v := iz (18)) hx hb dL_isParted_189 rfl ?_
                refine lv_lload hx hb dL_isParted_191 (lv_at hl 0 rfl) ?_
                refine lv_iconst (v := iz (0)) hx hb dL_isParted_193 rfl ?_
                refine lv_iconst (v := iz (0)) hx hb dL_isParted_194 rfl ?_
                refine zc_l (wr := [(wl, zaL (G.2 0) ((nw).toNat) (wu)), (rr, zaI (G.2 1) 2 (gc))]) (vx_runSW (As := [.ref x, .int (iz (18)), .long (lz (mo)), .int (iz (0)), .int (iz (0))]) (rest := []) ⟨hx, hb, hml, hown, hts⟩ (c_L_asks_18 l G s1 s2 s3 x ro rw bo li sh tx lo nl wt wf nw mo 0 0 hl0 (hw) (by omega) (by omega) (by omega) H.size) (vx_cwSW 5 hts gL_isParted_L_asks rfl rfl rfl (by decide +kernel) ⟨Nat.le_of_ble_eq_true rfl, Nat.le_of_ble_eq_true rfl⟩) (zpSe zXM_ok hE hS hA hKX hP hD [2, 3, 4] rfl rfl) rfl rfl hl.1 rfl (lv_room (Nat.le_of_ble_eq_true rfl)) dL_isParted_195 ⟨(by first | exact Nat.le_of_ble_eq_true rfl | (show _ ≤ (90 : Nat); omega)), (by first | exact Nat.le_of_ble_eq_true rfl | (show _ ≤ (520 : Nat); omega))⟩) hP hD hS hA [2, 3, 4] [0, 1] rfl rfl rfl (by decide) (fun a3 u_42 H locs ha3 hP hD hS => ?_)
                have hP : va_P G.1 vwCl [(wl, zaL (G.2 0) ((nw).toNat) (wu)), (rr, zaI (G.2 1) 2 (gc)), (x, .inr (10, [.ref ro, .ref rw, .ref bo, .ref li, .ref sh, .ref tx, .ref lo, .ref nl])), (sh, .inr (7, [.ref wt, .int (iz (nw))])), (wt, zaI (G.2 1) 12 (wf))] H := hP
                have hD : va_D A [(wl, zaL (G.2 0) ((nw).toNat) (wu)), (rr, zaI (G.2 1) 2 (gc)), (x, .inr (10, [.ref ro, .ref rw, .ref bo, .ref li, .ref sh, .ref tx, .ref lo, .ref nl])), (sh, .inr (7, [.ref wt, .int (iz (nw))])), (wt, zaI (G.2 1) 12 (wf))] := hD
                have ha3 : ((((0 ≤ mo ∧ mo ≤ 1000000000000) ∧ (0 ≤ (0 : Int) ∧ (0 : Int) < nw) ∧ 0 < zsm wf nw.toNat ∧ a3 = zpart wf nw mo (0 : Int))) ∨ (a3 = -4000000000000000003 ∧ (¬ (0 ≤ mo ∧ mo ≤ 1000000000000)))) ∨ (a3 = -4000000000000000002 ∧ ((0 ≤ mo ∧ mo ≤ 1000000000000) ∧ (¬ (0 ≤ (0 : Int) ∧ (0 : Int) < nw) ∨ ¬ 0 < zsm wf nw.toNat))) := ha3
                refine zr_ldc2 (z := -4000000000000000002) hx hb hown (hts (.constantLong RL 123 (-4000000000000000002)) (by decide +kernel)) rfl dL_isParted_198 ?_
                refine zr_lcmp_ne (x := a3) (y := -4000000000000000002) (tgt := 209) hx hb (⟨by omega, by omega⟩) (⟨by omega, by omega⟩) dL_isParted_201 dL_isParted_202 (by decide) (fun h_44 => ?_) (fun h_44 => ?_)
                · exact absurd h_44 (by rw [← hal] at ha3; omega)
                ·
                  refine lv_iconst (v := iz (1)) hx hb dL_isParted_205 rfl ?_
                  refine lv_goto (tgt := 210) hx hb dL_isParted_206 (by decide) ?_
                  rw [hQ]
                  exact zr_zret (z := true) (rfl) (u := (wf, nw, gc)) hx hb hr hlocks (hP.sub [2, 3, 4, 1] rfl) (hD.sub [2, 3, 4, 1] (by decide) rfl) hS (by first | exact Nat.le_of_ble_eq_true rfl | omega) (by first | exact Nat.le_of_ble_eq_true rfl | omega) dL_isParted_210 (show true = true ∧ zwts wf nw from ⟨rfl, by first | exact hw | exact ⟨by omega, fun i a b => absurd b (by omega)⟩⟩)
            · exact absurd h_14 (by omega)
        refine zr_if_ne (x := z_e0) (tgt := 134) hx hb (⟨by omega, by omega⟩) dL_isParted_117 (by decide) (fun h_45 => ?_) (fun h_45 => ?_)
        ·
          refine lv_aload_n hx hb dL_isParted_134 rfl (lv_at hl 6 rfl) ?_
          refine lv_sipush (v := iz (1000)) hx hb dL_isParted_135 rfl ?_
          refine zc_i (wr := [(wt, zaI (G.2 1) 12 (wf)), (x, .inr (10, [.ref ro, .ref rw, .ref bo, .ref li, .ref sh, .ref tx, .ref lo, .ref nl])), (sh, .inr (7, [.ref wt, .int (iz (nw))])), (wl, zaL (G.2 0) ((nw).toNat) (wu))]) (va_runS (As := [.ref rr, .int (iz (1000))]) (rest := []) ⟨hx, hb, hml, hown, hts⟩ (c_L_draw l G rr g_e0 1000 (by omega) H.size) (va_cwS 2 hts gL_isParted_L_draw rfl rfl rfl (by decide +kernel) ⟨Nat.le_of_ble_eq_true rfl, Nat.le_of_ble_eq_true rfl⟩) (zpS hKX hP hD [4] rfl rfl) rfl rfl hl.1 rfl (lv_room (Nat.le_of_ble_eq_true rfl)) dL_isParted_138 ⟨(by first | exact Nat.le_of_ble_eq_true rfl | (show _ ≤ (90 : Nat); omega)), (by first | exact Nat.le_of_ble_eq_true rfl | (show _ ≤ (520 : Nat); omega))⟩) hP hD hS hA [4] [0, 1, 2, 3] rfl rfl rfl (by decide) (fun z_e2 u_46 H locs h_e2 hP hD hS => ?_)
          generalize u_46 = g_e2 at hP hD h_e2
          have hP : va_P G.1 vwCl [(wt, zaI (G.2 1) 12 (wf)), (x, .inr (10, [.ref ro, .ref rw, .ref bo, .ref li, .ref sh, .ref tx, .ref lo, .ref nl])), (sh, .inr (7, [.ref wt, .int (iz (nw))])), (wl, zaL (G.2 0) ((nw).toNat) (wu)), (rr, zaI (G.2 1) 2 (g_e2))] H := hP
          have hD : va_D A [(wt, zaI (G.2 1) 12 (wf)), (x, .inr (10, [.ref ro, .ref rw, .ref bo, .ref li, .ref sh, .ref tx, .ref lo, .ref nl])), (sh, .inr (7, [.ref wt, .int (iz (nw))])), (wl, zaL (G.2 0) ((nw).toNat) (wu)), (rr, zaI (G.2 1) 2 (g_e2))] := hD
          have h_e2 : 0 ≤ z_e2 ∧ z_e2 < (1000 : Int) ∧ z_e2 < 268435456 := h_e2
          refine zr_i2l hx hb (x := z_e2) (⟨by omega, by omega⟩) dL_isParted_141 ?_
          refine W.widen (k := 1 + 2 * (nw).toNat + 0) (n := 12 + 12 * (nw).toNat + 0) (by omega) (by omega) ?_
          exact hl_142 z_e2 g_e2 _ _ _ (by omega) (hP) (hD) hS (hl)
        ·
          refine lv_aload_n hx hb dL_isParted_120 rfl (lv_at hl 6 rfl) ?_
          refine zr_ldc (z := 1000000000) hx hb hown (hts (.constant RL 239 (1000000000)) (by decide +kernel)) rfl dL_isParted_121 ?_
          refine zc_i (wr := [(wt, zaI (G.2 1) 12 (wf)), (x, .inr (10, [.ref ro, .ref rw, .ref bo, .ref li, .ref sh, .ref tx, .ref lo, .ref nl])), (sh, .inr (7, [.ref wt, .int (iz (nw))])), (wl, zaL (G.2 0) ((nw).toNat) (wu))]) (va_runS (As := [.ref rr, .int (iz (1000000000))]) (rest := []) ⟨hx, hb, hml, hown, hts⟩ (c_L_draw l G rr g_e0 1000000000 (by omega) H.size) (va_cwS 2 hts gL_isParted_L_draw rfl rfl rfl (by decide +kernel) ⟨Nat.le_of_ble_eq_true rfl, Nat.le_of_ble_eq_true rfl⟩) (zpS hKX hP hD [4] rfl rfl) rfl rfl hl.1 rfl (lv_room (Nat.le_of_ble_eq_true rfl)) dL_isParted_123 ⟨(by first | exact Nat.le_of_ble_eq_true rfl | (show _ ≤ (90 : Nat); omega)), (by first | exact Nat.le_of_ble_eq_true rfl | (show _ ≤ (520 : Nat); omega))⟩) hP hD hS hA [4] [0, 1, 2, 3] rfl rfl rfl (by decide) (fun z_e1 u_48 H locs h_e1 hP hD hS => ?_)
          generalize u_48 = g_e1 at hP hD h_e1
          have hP : va_P G.1 vwCl [(wt, zaI (G.2 1) 12 (wf)), (x, .inr (10, [.ref ro, .ref rw, .ref bo, .ref li, .ref sh, .ref tx, .ref lo, .ref nl])), (sh, .inr (7, [.ref wt, .int (iz (nw))])), (wl, zaL (G.2 0) ((nw).toNat) (wu)), (rr, zaI (G.2 1) 2 (g_e1))] H := hP
          have hD : va_D A [(wt, zaI (G.2 1) 12 (wf)), (x, .inr (10, [.ref ro, .ref rw, .ref bo, .ref li, .ref sh, .ref tx, .ref lo, .ref nl])), (sh, .inr (7, [.ref wt, .int (iz (nw))])), (wl, zaL (G.2 0) ((nw).toNat) (wu)), (rr, zaI (G.2 1) 2 (g_e1))] := hD
          have h_e1 : 0 ≤ z_e1 ∧ z_e1 < (1000000000 : Int) ∧ z_e1 < 268435456 := h_e1
          refine zr_i2l hx hb (x := z_e1) (⟨by omega, by omega⟩) dL_isParted_126 ?_
          refine zr_ldc2 (z := 1000) hx hb hown (hts (.constantLong RL 240 (1000)) (by decide +kernel)) rfl dL_isParted_127 ?_
          refine zr_lmul hx hb dL_isParted_130 ?_
          refine lv_goto (tgt := 142) hx hb dL_isParted_131 (by decide) ?_
          refine W.widen (k := 1 + 2 * (nw).toNat + 0) (n := 12 + 12 * (nw).toNat + 0) (by omega) (by omega) ?_
          exact hl_142 (z_e1 * 1000) g_e1 _ _ _ (by omega) (hP) (hD) hS (hl)
      ·
        have hl_76 : ∀ (wv : Int) (gb : Int → Int) (H : Heap) (locs : List Loc) (ls : Array Slot), (0 ≤ wv ∧ wv ≤ 1000000) → va_P G.1 vwCl [(wt, zaI (G.2 1) 12 (wf)), (x, .inr (10, [.ref ro, .ref rw, .ref bo, .ref li, .ref sh, .ref tx, .ref lo, .ref nl])), (sh, .inr (7, [.ref wt, .int (iz (k))])), (rr, zaI (G.2 1) 2 (gb)), (wl, zaL (G.2 0) ((nw).toNat) (wu))] H → va_D A [(wt, zaI (G.2 1) 12 (wf)), (x, .inr (10, [.ref ro, .ref rw, .ref bo, .ref li, .ref sh, .ref tx, .ref lo, .ref nl])), (sh, .inr (7, [.ref wt, .int (iz (k))])), (rr, zaI (G.2 1) 2 (gb)), (wl, zaL (G.2 0) ((nw).toNat) (wu))] → va_S A s.heap H locs → lv_has ls 24 [(7, .int (iz (k))), (5, .long (lz (al))), (4, .ref wl), (3, .int (iz (nw))), (2, .int (iz (cw9))), (0, .ref x), (1, .ref rr)] → W p l e rm_c_L_isParted s m ([.ref x, .ref rr] : List Value).toArray below meth c H locs (1 + 2 * (k).toNat) (12 + 12 * (k).toNat) Q (F0 m 76 ls [.long (lz (wv)), .int (iz (k)), .ref wl]) := by
          intro wv gb H locs ls jw hP hD hS hl
          refine zr_last hx hb hK hP hD hS 4 0 rfl rfl (i := k) (x := wv) (⟨by omega, by omega, by omega⟩) dL_isParted_76 (fun H locs hP hD hS => ?_)
          have hP : va_P G.1 vwCl [(wt, zaI (G.2 1) 12 (wf)), (x, .inr (10, [.ref ro, .ref rw, .ref bo, .ref li, .ref sh, .ref tx, .ref lo, .ref nl])), (sh, .inr (7, [.ref wt, .int (iz (k))])), (rr, zaI (G.2 1) 2 (gb)), (wl, zaL (G.2 0) ((nw).toNat) (zup wu k wv))] H := hP
          have hD : va_D A [(wt, zaI (G.2 1) 12 (wf)), (x, .inr (10, [.ref ro, .ref rw, .ref bo, .ref li, .ref sh, .ref tx, .ref lo, .ref nl])), (sh, .inr (7, [.ref wt, .int (iz (k))])), (rr, zaI (G.2 1) 2 (gb)), (wl, zaL (G.2 0) ((nw).toNat) (zup wu k wv))] := hD
          have hzk : (zup wu k wv) k = wv := by rw [zup_s]
          refine lv_aload_n hx hb dL_isParted_77 rfl (lv_at hl 5 rfl) ?_
          refine lv_aload hx hb dL_isParted_78 (lv_at hl 2 rfl) ?_
          refine lv_iload hx hb dL_isParted_80 (lv_at hl 0 rfl) ?_
          refine zr_lald hx hb hK hP 4 0 rfl rfl (i := k) (⟨by omega, by omega, by omega⟩) dL_isParted_82 ?_
          refine zr_l2i hx hb dL_isParted_83 ?_
          refine zct_i (wr := [(rr, zaI (G.2 1) 2 (gb)), (wl, zaL (G.2 0) ((nw).toNat) (zup wu k wv))]) (vx_runV (As := [.int (iz ((zup wu k wv) k))]) (rest := []) ⟨hx, hb, hml, hown, hts⟩ (c_X9_weigh l G s1 s2 s3 x ro rw bo li sh tx lo nl wt wf k ((zup wu k wv) k) hl0 (by omega) (hw) H.size) (cwV 1 hts gL_isParted_X9_weigh rfl rfl rfl (by decide +kernel) ⟨Nat.le_of_ble_eq_true rfl, Nat.le_of_ble_eq_true rfl⟩) (zpVe zXE_ok hE.1 hS hA hKX hP hD [1, 2, 0] rfl rfl (va_recv hK hP (ci := 10) (q0 := 1) rfl rfl)) rfl rfl hl.1 rfl (lv_room (Nat.le_of_ble_eq_true rfl)) dL_isParted_84 ⟨(by first | exact Nat.le_of_ble_eq_true rfl | (show _ ≤ (90 : Nat); omega)), (by first | exact Nat.le_of_ble_eq_true rfl | (show _ ≤ (520 : Nat); omega))⟩) hP hD hS hA [1, 2, 0] [3, 4] rfl rfl rfl (by decide) (fun E9 ce9 q9 ux_51 H locs hx9_52 hP hD hS hce9 hcv9 hcl9 => ?_) (fun we9 u_50 H locs hwe9 hP hD hS => ?_)
          ·
            have hP : va_P G.1 vwCl [(rr, zaI (G.2 1) 2 (gb)), (wl, zaL (G.2 0) ((nw).toNat) (zup wu k wv)), (x, .inr (10, [.ref ro, .ref rw, .ref bo, .ref li, .ref sh, .ref tx, .ref lo, .ref nl])), (sh, .inr (7, [.ref wt, .int (iz (k))])), (wt, zaI (G.2 1) 12 (wf))] H := hP
            have hD : va_D A [(rr, zaI (G.2 1) 2 (gb)), (wl, zaL (G.2 0) ((nw).toNat) (zup wu k wv)), (x, .inr (10, [.ref ro, .ref rw, .ref bo, .ref li, .ref sh, .ref tx, .ref lo, .ref nl])), (sh, .inr (7, [.ref wt, .int (iz (k))])), (wt, zaI (G.2 1) 12 (wf))] := hD
            rcases hx9_52 with ⟨rfl, hxc⟩ | ⟨rfl, hxc⟩
            ·
              have hxc : ¬ (0 ≤ ((zup wu k wv) k) ∧ ((zup wu k wv) k) ≤ 1000000) := hxc
              exact absurd hxc (by omega)
            ·
              have hxc : (0 ≤ ((zup wu k wv) k) ∧ ((zup wu k wv) k) ≤ 1000000) ∧ ¬ k < 12 := hxc
              exact absurd hxc (by omega)
          have hP : va_P G.1 vwCl [(rr, zaI (G.2 1) 2 (gb)), (wl, zaL (G.2 0) ((nw).toNat) (zup wu k wv)), (x, .inr (10, [.ref ro, .ref rw, .ref bo, .ref li, .ref sh, .ref tx, .ref lo, .ref nl])), (sh, .inr (7, [.ref wt, .int (iz (k + 1))])), (wt, zaI (G.2 1) 12 (zup wf k ((zup wu k wv) k)))] H := hP
          have hD : va_D A [(rr, zaI (G.2 1) 2 (gb)), (wl, zaL (G.2 0) ((nw).toNat) (zup wu k wv)), (x, .inr (10, [.ref ro, .ref rw, .ref bo, .ref li, .ref sh, .ref tx, .ref lo, .ref nl])), (sh, .inr (7, [.ref wt, .int (iz (k + 1))])), (wt, zaI (G.2 1) 12 (zup wf k ((zup wu k wv) k)))] := hD
          have hwe9 : (0 ≤ ((zup wu k wv) k) ∧ ((zup wu k wv) k) ≤ 1000000) ∧ k < 12 ∧ we9 = k + 1 ∧ zwts (zup wf k ((zup wu k wv) k)) (k + 1) := hwe9
          refine lv_iload hx hb dL_isParted_87 (lv_at hl 0 rfl) ?_
          refine lv_iconst (v := iz (1)) hx hb dL_isParted_89 rfl ?_
          refine zr_iadd hx hb dL_isParted_90 ?_
          refine zr_icmp_eq (x := we9) (y := k + 1) (tgt := 96) hx hb (⟨by omega, by omega⟩) (⟨by omega, by omega⟩) dL_isParted_91 (by decide) (fun h_53 => ?_) (fun h_53 => ?_)
          ·
            refine lv_lload hx hb dL_isParted_96 (lv_at hl 1 rfl) ?_
            refine lv_aload hx hb dL_isParted_98 (lv_at hl 2 rfl) ?_
            refine lv_iload hx hb dL_isParted_100 (lv_at hl 0 rfl) ?_
            refine zr_lald hx hb hK hP 1 0 rfl rfl (i := k) (⟨by omega, by omega, by omega⟩) dL_isParted_102 ?_
            refine zr_ladd hx hb dL_isParted_103 ?_
            refine lv_lstore (lv' := [(5, .long (lz (al + ((zup wu k wv) k)))), (7, .int (iz (k))), (4, .ref wl), (3, .int (iz (nw))), (2, .int (iz (cw9))), (0, .ref x), (1, .ref rr)]) hx hb dL_isParted_104 hl (by decide) rfl (fun ls hl => ?_)
            refine lv_iinc (v := iz (k + 1)) (lv' := [(7, .int (iz (k + 1))), (5, .long (lz (al + ((zup wu k wv) k)))), (4, .ref wl), (3, .int (iz (nw))), (2, .int (iz (cw9))), (0, .ref x), (1, .ref rr)]) hx hb dL_isParted_106 hl (k := 1) rfl (by rw [show Int32.ofInt (1) = iz (1) from rfl, iz_add]) (by decide) rfl (fun ls hl => ?_)
            refine lv_goto (tgt := 25) hx hb dL_isParted_109 (by decide) ?_
            refine W.widen (k := 1 + 2 * ((k + 1)).toNat) (n := 12 + 12 * ((k + 1)).toNat) (by omega) (by omega) ?_
            exact ih_25 (k + 1) (zup wu k wv) (zup wf k ((zup wu k wv) k)) (al + ((zup wu k wv) k)) gb _ _ _ (by omega) (by omega) (hwe9.2.2.2) (fun i a b => by by_cases c : i = k; (rw [c, zup_s, zup_s]); (rw [zup_n c, zup_n c]; exact hsm i a (by omega))) (fun i a b => by by_cases c : i = k; (rw [c, zup_s]; omega); (rw [zup_n c]; exact hub i a (by omega))) (by have q := zsm_i (f := zup wf k wv) k1.1 (zsm_upk k1.1).symm; rw [zup_s] at q; rw [hzk]; omega) (hP.sub [4, 2, 3, 0, 1] rfl) (hD.sub [4, 2, 3, 0, 1] (by decide) rfl) hS (hl)
          · exact absurd h_53 (by omega)
        refine lv_aload hx hb dL_isParted_31 (lv_at hl 2 rfl) ?_
        refine lv_iload hx hb dL_isParted_33 (lv_at hl 0 rfl) ?_
        refine lv_aload_n hx hb dL_isParted_35 rfl (lv_at hl 6 rfl) ?_
        refine lv_iconst (v := iz (4)) hx hb dL_isParted_36 rfl ?_
        refine zc_i (wr := [(wt, zaI (G.2 1) 12 (wf)), (x, .inr (10, [.ref ro, .ref rw, .ref bo, .ref li, .ref sh, .ref tx, .ref lo, .ref nl])), (sh, .inr (7, [.ref wt, .int (iz (k))])), (wl, zaL (G.2 0) ((nw).toNat) (wu))]) (va_runS (As := [.ref rr, .int (iz (4))]) (rest := [.int (iz (k)), .ref wl]) ⟨hx, hb, hml, hown, hts⟩ (c_L_draw l G rr ga 4 (by omega) H.size) (va_cwS 2 hts gL_isParted_L_draw rfl rfl rfl (by decide +kernel) ⟨Nat.le_of_ble_eq_true rfl, Nat.le_of_ble_eq_true rfl⟩) (zpS hKX hP hD [3] rfl rfl) rfl rfl hl.1 rfl (lv_room (Nat.le_of_ble_eq_true rfl)) dL_isParted_37 ⟨(by first | exact Nat.le_of_ble_eq_true rfl | (show _ ≤ (90 : Nat); omega)), (by first | exact Nat.le_of_ble_eq_true rfl | (show _ ≤ (520 : Nat); omega))⟩) hP hD hS hA [3] [0, 1, 2, 4] rfl rfl rfl (by decide) (fun z_d1 u_54 H locs h_d1 hP hD hS => ?_)
        generalize u_54 = g_d1 at hP hD h_d1
        have hP : va_P G.1 vwCl [(wt, zaI (G.2 1) 12 (wf)), (x, .inr (10, [.ref ro, .ref rw, .ref bo, .ref li, .ref sh, .ref tx, .ref lo, .ref nl])), (sh, .inr (7, [.ref wt, .int (iz (k))])), (wl, zaL (G.2 0) ((nw).toNat) (wu)), (rr, zaI (G.2 1) 2 (g_d1))] H := hP
        have hD : va_D A [(wt, zaI (G.2 1) 12 (wf)), (x, .inr (10, [.ref ro, .ref rw, .ref bo, .ref li, .ref sh, .ref tx, .ref lo, .ref nl])), (sh, .inr (7, [.ref wt, .int (iz (k))])), (wl, zaL (G.2 0) ((nw).toNat) (wu)), (rr, zaI (G.2 1) 2 (g_d1))] := hD
        have h_d1 : 0 ≤ z_d1 ∧ z_d1 < (4 : Int) ∧ z_d1 < 268435456 := h_d1
        refine zr_if_ne (x := z_d1) (tgt := 47) hx hb (⟨by omega, by omega⟩) dL_isParted_40 (by decide) (fun h_56 => ?_) (fun h_56 => ?_)
        ·
          refine lv_aload_n hx hb dL_isParted_47 rfl (lv_at hl 6 rfl) ?_
          refine lv_iconst (v := iz (3)) hx hb dL_isParted_48 rfl ?_
          refine zc_i (wr := [(wt, zaI (G.2 1) 12 (wf)), (x, .inr (10, [.ref ro, .ref rw, .ref bo, .ref li, .ref sh, .ref tx, .ref lo, .ref nl])), (sh, .inr (7, [.ref wt, .int (iz (k))])), (wl, zaL (G.2 0) ((nw).toNat) (wu))]) (va_runS (As := [.ref rr, .int (iz (3))]) (rest := [.int (iz (k)), .ref wl]) ⟨hx, hb, hml, hown, hts⟩ (c_L_draw l G rr g_d1 3 (by omega) H.size) (va_cwS 2 hts gL_isParted_L_draw rfl rfl rfl (by decide +kernel) ⟨Nat.le_of_ble_eq_true rfl, Nat.le_of_ble_eq_true rfl⟩) (zpS hKX hP hD [4] rfl rfl) rfl rfl hl.1 rfl (lv_room (Nat.le_of_ble_eq_true rfl)) dL_isParted_49 ⟨(by first | exact Nat.le_of_ble_eq_true rfl | (show _ ≤ (90 : Nat); omega)), (by first | exact Nat.le_of_ble_eq_true rfl | (show _ ≤ (520 : Nat); omega))⟩) hP hD hS hA [4] [0, 1, 2, 3] rfl rfl rfl (by decide) (fun z_d2 u_57 H locs h_d2 hP hD hS => ?_)
          generalize u_57 = g_d2 at hP hD h_d2
          have hP : va_P G.1 vwCl [(wt, zaI (G.2 1) 12 (wf)), (x, .inr (10, [.ref ro, .ref rw, .ref bo, .ref li, .ref sh, .ref tx, .ref lo, .ref nl])), (sh, .inr (7, [.ref wt, .int (iz (k))])), (wl, zaL (G.2 0) ((nw).toNat) (wu)), (rr, zaI (G.2 1) 2 (g_d2))] H := hP
          have hD : va_D A [(wt, zaI (G.2 1) 12 (wf)), (x, .inr (10, [.ref ro, .ref rw, .ref bo, .ref li, .ref sh, .ref tx, .ref lo, .ref nl])), (sh, .inr (7, [.ref wt, .int (iz (k))])), (wl, zaL (G.2 0) ((nw).toNat) (wu)), (rr, zaI (G.2 1) 2 (g_d2))] := hD
          have h_d2 : 0 ≤ z_d2 ∧ z_d2 < (3 : Int) ∧ z_d2 < 268435456 := h_d2
          refine zr_if_ne (x := z_d2) (tgt := 67) hx hb (⟨by omega, by omega⟩) dL_isParted_52 (by decide) (fun h_59 => ?_) (fun h_59 => ?_)
          ·
            refine lv_iconst (v := iz (1)) hx hb dL_isParted_67 rfl ?_
            refine lv_aload_n hx hb dL_isParted_68 rfl (lv_at hl 6 rfl) ?_
            refine lv_bipush (v := iz (9)) hx hb dL_isParted_69 rfl ?_
            refine zc_i (wr := [(wt, zaI (G.2 1) 12 (wf)), (x, .inr (10, [.ref ro, .ref rw, .ref bo, .ref li, .ref sh, .ref tx, .ref lo, .ref nl])), (sh, .inr (7, [.ref wt, .int (iz (k))])), (wl, zaL (G.2 0) ((nw).toNat) (wu))]) (va_runS (As := [.ref rr, .int (iz (9))]) (rest := [.int (iz (1)), .int (iz (k)), .ref wl]) ⟨hx, hb, hml, hown, hts⟩ (c_L_draw l G rr g_d2 9 (by omega) H.size) (va_cwS 2 hts gL_isParted_L_draw rfl rfl rfl (by decide +kernel) ⟨Nat.le_of_ble_eq_true rfl, Nat.le_of_ble_eq_true rfl⟩) (zpS hKX hP hD [4] rfl rfl) rfl rfl hl.1 rfl (lv_room (Nat.le_of_ble_eq_true rfl)) dL_isParted_71 ⟨(by first | exact Nat.le_of_ble_eq_true rfl | (show _ ≤ (90 : Nat); omega)), (by first | exact Nat.le_of_ble_eq_true rfl | (show _ ≤ (520 : Nat); omega))⟩) hP hD hS hA [4] [0, 1, 2, 3] rfl rfl rfl (by decide) (fun z_d4 u_60 H locs h_d4 hP hD hS => ?_)
            generalize u_60 = g_d4 at hP hD h_d4
            have hP : va_P G.1 vwCl [(wt, zaI (G.2 1) 12 (wf)), (x, .inr (10, [.ref ro, .ref rw, .ref bo, .ref li, .ref sh, .ref tx, .ref lo, .ref nl])), (sh, .inr (7, [.ref wt, .int (iz (k))])), (wl, zaL (G.2 0) ((nw).toNat) (wu)), (rr, zaI (G.2 1) 2 (g_d4))] H := hP
            have hD : va_D A [(wt, zaI (G.2 1) 12 (wf)), (x, .inr (10, [.ref ro, .ref rw, .ref bo, .ref li, .ref sh, .ref tx, .ref lo, .ref nl])), (sh, .inr (7, [.ref wt, .int (iz (k))])), (wl, zaL (G.2 0) ((nw).toNat) (wu)), (rr, zaI (G.2 1) 2 (g_d4))] := hD
            have h_d4 : 0 ≤ z_d4 ∧ z_d4 < (9 : Int) ∧ z_d4 < 268435456 := h_d4
            refine zr_iadd hx hb dL_isParted_74 ?_
            refine zr_i2l hx hb (x := 1 + z_d4) (⟨by omega, by omega⟩) dL_isParted_75 ?_
            refine W.widen (k := 1 + 2 * (k).toNat) (n := 12 + 12 * (k).toNat) (by omega) (by omega) ?_
            exact hl_76 (1 + z_d4) g_d4 _ _ _ (by omega) (hP.sub [0, 1, 2, 4, 3] rfl) (hD.sub [0, 1, 2, 4, 3] (by decide) rfl) hS (hl)
          ·
            refine lv_iconst (v := iz (1)) hx hb dL_isParted_55 rfl ?_
            refine lv_aload_n hx hb dL_isParted_56 rfl (lv_at hl 6 rfl) ?_
            refine zr_ldc (z := 1000000) hx hb hown (hts (.constant RL 152 (1000000)) (by decide +kernel)) rfl dL_isParted_57 ?_
            refine zc_i (wr := [(wt, zaI (G.2 1) 12 (wf)), (x, .inr (10, [.ref ro, .ref rw, .ref bo, .ref li, .ref sh, .ref tx, .ref lo, .ref nl])), (sh, .inr (7, [.ref wt, .int (iz (k))])), (wl, zaL (G.2 0) ((nw).toNat) (wu))]) (va_runS (As := [.ref rr, .int (iz (1000000))]) (rest := [.int (iz (1)), .int (iz (k)), .ref wl]) ⟨hx, hb, hml, hown, hts⟩ (c_L_draw l G rr g_d2 1000000 (by omega) H.size) (va_cwS 2 hts gL_isParted_L_draw rfl rfl rfl (by decide +kernel) ⟨Nat.le_of_ble_eq_true rfl, Nat.le_of_ble_eq_true rfl⟩) (zpS hKX hP hD [4] rfl rfl) rfl rfl hl.1 rfl (lv_room (Nat.le_of_ble_eq_true rfl)) dL_isParted_59 ⟨(by first | exact Nat.le_of_ble_eq_true rfl | (show _ ≤ (90 : Nat); omega)), (by first | exact Nat.le_of_ble_eq_true rfl | (show _ ≤ (520 : Nat); omega))⟩) hP hD hS hA [4] [0, 1, 2, 3] rfl rfl rfl (by decide) (fun z_d3 u_62 H locs h_d3 hP hD hS => ?_)
            generalize u_62 = g_d3 at hP hD h_d3
            have hP : va_P G.1 vwCl [(wt, zaI (G.2 1) 12 (wf)), (x, .inr (10, [.ref ro, .ref rw, .ref bo, .ref li, .ref sh, .ref tx, .ref lo, .ref nl])), (sh, .inr (7, [.ref wt, .int (iz (k))])), (wl, zaL (G.2 0) ((nw).toNat) (wu)), (rr, zaI (G.2 1) 2 (g_d3))] H := hP
            have hD : va_D A [(wt, zaI (G.2 1) 12 (wf)), (x, .inr (10, [.ref ro, .ref rw, .ref bo, .ref li, .ref sh, .ref tx, .ref lo, .ref nl])), (sh, .inr (7, [.ref wt, .int (iz (k))])), (wl, zaL (G.2 0) ((nw).toNat) (wu)), (rr, zaI (G.2 1) 2 (g_d3))] := hD
            have h_d3 : 0 ≤ z_d3 ∧ z_d3 < (1000000 : Int) ∧ z_d3 < 268435456 := h_d3
            refine zr_iadd hx hb dL_isParted_62 ?_
            refine zr_i2l hx hb (x := 1 + z_d3) (⟨by omega, by omega⟩) dL_isParted_63 ?_
            refine lv_goto (tgt := 76) hx hb dL_isParted_64 (by decide) ?_
            refine W.widen (k := 1 + 2 * (k).toNat) (n := 12 + 12 * (k).toNat) (by omega) (by omega) ?_
            exact hl_76 (1 + z_d3) g_d3 _ _ _ (by omega) (hP.sub [0, 1, 2, 4, 3] rfl) (hD.sub [0, 1, 2, 4, 3] (by decide) rfl) hS (hl)
        ·
          refine lv_lconst (v := lz (0)) hx hb dL_isParted_43 rfl ?_
          refine lv_goto (tgt := 76) hx hb dL_isParted_44 (by decide) ?_
          refine W.widen (k := 1 + 2 * (k).toNat) (n := 12 + 12 * (k).toNat) (by omega) (by omega) ?_
          exact hl_76 0 g_d1 _ _ _ (by omega) (hP.sub [0, 1, 2, 4, 3] rfl) (hD.sub [0, 1, 2, 4, 3] (by decide) rfl) hS (hl)
  refine W.widen (k := 1 + 2 * ((0 : Int)).toNat) (n := 12 + 12 * ((0 : Int)).toNat) (by omega) (by omega) ?_
  exact hl_25 ((nw - 0 : Int).toNat + 1) 0 (fun _ => 0) f 0 g_d0 _ _ _ (Nat.lt_succ_self _) (by omega) (⟨by omega, fun i a b => absurd b (by omega)⟩) (fun i a b => absurd b (by omega)) (fun i a b => absurd b (by omega)) (rfl) (hP) (hD) hS (hl)
