-- THE MACHINE'S NUMBERS BY INTEGERS: iz z and lz z are the int and the long that z wraps to
def iz (z : Int) : Int32 := Int32.ofInt z
def lz (z : Int) : Int64 := Int64.ofInt z
abbrev zi (z : Int) : Prop := -2147483648 ≤ z ∧ z < 2147483648
abbrev zl (z : Int) : Prop := -9223372036854775808 ≤ z ∧ z < 9223372036854775808
theorem iz_toInt {z : Int} (h : zi z) : (iz z).toInt = z := Int32.toInt_ofInt_of_le (by have := h.1; omega) (by have := h.2; omega)
theorem lz_toInt {z : Int} (h : zl z) : (lz z).toInt = z := Int64.toInt_ofInt_of_le (by have := h.1; omega) (by have := h.2; omega)
theorem iz_of (x : Int32) : x = iz x.toInt := (Int32.ofInt_toInt x).symm
theorem lz_of (x : Int64) : x = lz x.toInt := (Int64.ofInt_toInt x).symm
theorem iz_rng (x : Int32) : zi x.toInt := ⟨by have := Int32.le_toInt x; omega, by have := Int32.toInt_lt x; omega⟩
theorem lz_rng (x : Int64) : zl x.toInt := ⟨by have := Int64.le_toInt x; omega, by have := Int64.toInt_lt x; omega⟩
theorem iz_some (x : Int32) : ∃ z : Int, zi z ∧ x = iz z := ⟨x.toInt, iz_rng x, iz_of x⟩
theorem lz_some (x : Int64) : ∃ z : Int, zl z ∧ x = lz z := ⟨x.toInt, lz_rng x, lz_of x⟩
theorem iz_add (a b : Int) : iz a + iz b = iz (a + b) := (Int32.ofInt_add a b).symm
theorem iz_sub (a b : Int) : iz a - iz b = iz (a - b) := (Int32.ofInt_sub a b).symm
theorem iz_mul (a b : Int) : iz a * iz b = iz (a * b) := (Int32.ofInt_mul a b).symm
theorem iz_neg (a : Int) : -iz a = iz (-a) := (Int32.ofInt_neg a).symm
theorem lz_add (a b : Int) : lz a + lz b = lz (a + b) := (Int64.ofInt_add a b).symm
theorem lz_sub (a b : Int) : lz a - lz b = lz (a - b) := (Int64.ofInt_sub a b).symm
theorem lz_mul (a b : Int) : lz a * lz b = lz (a * b) := (Int64.ofInt_mul a b).symm
theorem lz_neg (a : Int) : -lz a = lz (-a) := (Int64.ofInt_neg a).symm
theorem iz_le {a b : Int} (ha : zi a) (hb : zi b) : iz a ≤ iz b ↔ a ≤ b := by rw [Int32.le_iff_toInt_le, iz_toInt ha, iz_toInt hb]
theorem iz_lt {a b : Int} (ha : zi a) (hb : zi b) : iz a < iz b ↔ a < b := by rw [Int32.lt_iff_toInt_lt, iz_toInt ha, iz_toInt hb]
theorem iz_eq {a b : Int} (ha : zi a) (hb : zi b) : iz a = iz b ↔ a = b := by rw [← Int32.toInt_inj, iz_toInt ha, iz_toInt hb]
theorem lz_le {a b : Int} (ha : zl a) (hb : zl b) : lz a ≤ lz b ↔ a ≤ b := by rw [Int64.le_iff_toInt_le, lz_toInt ha, lz_toInt hb]
theorem lz_lt {a b : Int} (ha : zl a) (hb : zl b) : lz a < lz b ↔ a < b := by rw [Int64.lt_iff_toInt_lt, lz_toInt ha, lz_toInt hb]
theorem lz_eq {a b : Int} (ha : zl a) (hb : zl b) : lz a = lz b ↔ a = b := by rw [← Int64.toInt_inj, lz_toInt ha, lz_toInt hb]
theorem iz_cl {a : Int} (h : 0 ≤ a) (h2 : a < 2147483648) : (iz a).toNatClampNeg = a.toNat := by
  show (iz a).toInt.toNat = a.toNat
  rw [iz_toInt ⟨by omega, h2⟩]
theorem iz_in {a : Int} {n : Nat} (h : 0 ≤ a) (h2 : a < n) (hn : n < 2147483648) : vp_in (iz a) n := by
  refine vp_in_iff.mpr ?_
  rw [iz_toInt ⟨by omega, by omega⟩]
  exact ⟨h, h2⟩
theorem iz_nneg {a : Int} (h : 0 ≤ a) (h2 : a < 2147483648) : ¬ iz a < 0 := by
  rw [show (0 : Int32) = iz 0 from rfl, iz_lt ⟨by omega, h2⟩ ⟨by omega, by omega⟩]
  omega
theorem iz_nat (n : Nat) : Int32.ofNat n = iz n := rfl
theorem iz_nI (n : Nat) : nI n = iz n := rfl
theorem lz_nat (n : Nat) : Int64.ofNat n = lz n := rfl
theorem iz_l {a : Int} (h : zi a) : (iz a).toInt64 = lz a := by
  apply Int64.toInt_inj.mp
  rw [Int32.toInt_toInt64, iz_toInt h, lz_toInt ⟨by omega, by omega⟩]
theorem lz_i (a : Int) : (lz a).toInt32 = iz a := Int64.toInt32_ofInt
theorem lz_tdiv {a b : Int} (ha : zl a) (hb : zl b) : lz a / lz b = lz (a.tdiv b) := by
  apply Int64.toInt_inj.mp
  rw [Int64.toInt_div, lz_toInt ha, lz_toInt hb]
  unfold lz
  rw [Int64.toInt_ofInt]
theorem iz_tdiv {a b : Int} (ha : zi a) (hb : zi b) : iz a / iz b = iz (a.tdiv b) := by
  apply Int32.toInt_inj.mp
  rw [Int32.toInt_div, iz_toInt ha, iz_toInt hb]
  unfold iz
  rw [Int32.toInt_ofInt]
theorem lz_tmod {a b : Int} (ha : zl a) (hb : zl b) : lz a - lz a / lz b * lz b = lz (a.tmod b) := by
  rw [lz_tdiv ha hb, lz_mul, lz_sub, Int.tmod_def, Int.mul_comm b]
theorem iz_tmod {a b : Int} (ha : zi a) (hb : zi b) : iz a - iz a / iz b * iz b = iz (a.tmod b) := by
  rw [iz_tdiv ha hb, iz_mul, iz_sub, Int.tmod_def, Int.mul_comm b]
theorem lz_div {a b : Int} (ha : zl a) (hb : zl b) (h : 0 ≤ a) : lz a / lz b = lz (a / b) := by
  rw [lz_tdiv ha hb, Int.tdiv_eq_ediv_of_nonneg h]
theorem lz_mod {a b : Int} (ha : zl a) (hb : zl b) (h : 0 ≤ a) : lz a - lz a / lz b * lz b = lz (a % b) := by
  rw [lz_tmod ha hb, Int.tmod_eq_emod_of_nonneg h]
theorem iz_div {a b : Int} (ha : zi a) (hb : zi b) (h : 0 ≤ a) : iz a / iz b = iz (a / b) := by
  rw [iz_tdiv ha hb, Int.tdiv_eq_ediv_of_nonneg h]
theorem iz_mod {a b : Int} (ha : zi a) (hb : zi b) (h : 0 ≤ a) : iz a - iz a / iz b * iz b = iz (a % b) := by
  rw [iz_tmod ha hb, Int.tmod_eq_emod_of_nonneg h]
theorem lz_ne0 {b : Int} (hb : zl b) (h : b ≠ 0) : ¬ lz b = 0 := by
  rw [show (0 : Int64) = lz 0 from rfl, lz_eq hb ⟨by omega, by omega⟩]
  exact h
theorem iz_ne0 {b : Int} (hb : zi b) (h : b ≠ 0) : ¬ iz b = 0 := by
  rw [show (0 : Int32) = iz 0 from rfl, iz_eq hb ⟨by omega, by omega⟩]
  exact h
theorem lz_shr30 {a : Int} (h : zl a) : lz a >>> ((iz 30).toInt64 &&& 63) = lz (a / 1073741824) := by
  apply Int64.toInt_inj.mp
  have e : (lz a >>> ((iz 30).toInt64 &&& 63)).toInt = (lz a).toInt >>> 30 := BitVec.toInt_sshiftRight ..
  rw [e, Int.shiftRight_eq_div_pow, lz_toInt h, lz_toInt ⟨by omega, by omega⟩]
  rfl
theorem lz_tn (z : Int) : (lz z).toBitVec.toNat = (z % 18446744073709551616).toNat := by
  show (BitVec.ofInt 64 z).toNat = _
  rw [BitVec.toNat_ofInt]
  rfl
theorem lz_mask30 (a : Int) : lz a &&& lz 1073741823 = lz (a % 1073741824) := by
  apply Int64.toBitVec_inj.mp
  apply BitVec.eq_of_toNat_eq
  show ((lz a).toBitVec &&& (lz 1073741823).toBitVec).toNat = _
  rw [BitVec.toNat_and, lz_tn, lz_tn, lz_tn]
  rw [show ((1073741823 : Int) % 18446744073709551616).toNat = 2 ^ 30 - 1 from rfl, Nat.and_two_pow_sub_one_eq_mod]
  omega
theorem lz_shl {a : Int} (k : Nat) (p : Int) (hk : ((iz k).toInt64 &&& 63).toBitVec.smod 64 = BitVec.ofNat 64 k) (hk2 : k < 64) (hp : (2 : Int) ^ k = p) : lz a <<< ((iz k).toInt64 &&& 63) = lz (a * p) := by
  subst hp
  apply Int64.toBitVec_inj.mp
  apply BitVec.eq_of_toNat_eq
  show ((lz a).toBitVec <<< (((iz k).toInt64 &&& 63).toBitVec.smod 64)).toNat = _
  rw [hk]
  have e : ((lz a).toBitVec <<< (BitVec.ofNat 64 k)) = (lz a).toBitVec <<< k := by
    rw [BitVec.shiftLeft_eq', BitVec.toNat_ofNat, Nat.mod_eq_of_lt (Nat.lt_of_lt_of_le hk2 (by decide))]
  rw [e, BitVec.toNat_shiftLeft, lz_tn, lz_tn, Nat.shiftLeft_eq]
  apply Int.ofNat.inj
  show (((a % 18446744073709551616).toNat * 2 ^ k % 2 ^ 64 : Nat) : Int) = ((a * 2 ^ k % 18446744073709551616).toNat : Int)
  rw [Int.toNat_of_nonneg (by omega), Int.natCast_emod, Int.natCast_mul, Int.toNat_of_nonneg (by omega), Int.natCast_pow, Int.natCast_pow]
  show a % 18446744073709551616 * 2 ^ k % 18446744073709551616 = _
  rw [Int.mul_emod (a % 18446744073709551616), Int.emod_emod, ← Int.mul_emod]
theorem lz_shl30 (a : Int) : lz a <<< ((iz 30).toInt64 &&& 63) = lz (a * 1073741824) := lz_shl 30 _ (by decide) (by decide) rfl
theorem lz_shl0 (a : Int) : lz a <<< ((iz 0).toInt64 &&& 63) = lz (a * 1) := lz_shl 0 _ (by decide) (by decide) rfl
theorem lz_cmp_ge {a b : Int} (ha : zl a) (hb : zl b) : (0 ≤ lg_cmp (lz a) (lz b)) ↔ b ≤ a := by rw [lg_cmp_ge, lz_le hb ha]
-- rows of arrays, from functions over the integers
def zrowL (f : Int → Int) : Nat → Int64 := fun j => lz (f (j : Int))
def zrowI (f : Int → Int) : Nat → Int32 := fun j => iz (f (j : Int))
def zup (f : Int → Int) (i v : Int) : Int → Int := fun j => if j = i then v else f j
theorem zup_s (f : Int → Int) (i v : Int) : zup f i v i = v := if_pos rfl
theorem zup_n {f : Int → Int} {i v j : Int} (h : j ≠ i) : zup f i v j = f j := if_neg h
theorem zrowL_up (f : Int → Int) {i : Int} (v : Int) (h : 0 ≤ i) (h2 : i < 2147483648) : vp_updL (zrowL f) (iz i).toNatClampNeg (lz v) = zrowL (zup f i v) := by
  funext j
  rw [iz_cl h h2]
  show (if j = i.toNat then lz v else lz (f j)) = lz (if (j : Int) = i then v else f j)
  by_cases e : j = i.toNat
  · rw [if_pos e, if_pos (by omega)]
  · rw [if_neg e, if_neg (by omega)]
theorem zrowI_up (f : Int → Int) {i : Int} (v : Int) (h : 0 ≤ i) (h2 : i < 2147483648) : upd (zrowI f) (iz i).toNatClampNeg (iz v) = zrowI (zup f i v) := by
  funext j
  rw [iz_cl h h2]
  show (if j = i.toNat then iz v else iz (f j)) = iz (if (j : Int) = i then v else f j)
  by_cases e : j = i.toNat
  · rw [if_pos e, if_pos (by omega)]
  · rw [if_neg e, if_neg (by omega)]
theorem zrowL_at (f : Int → Int) {i : Int} (h : 0 ≤ i) (h2 : i < 2147483648) : zrowL f (iz i).toNatClampNeg = lz (f i) := by
  show lz (f ((iz i).toNatClampNeg : Int)) = _
  rw [iz_cl h h2, Int.toNat_of_nonneg h]
theorem zrowI_at (f : Int → Int) {i : Int} (h : 0 ≤ i) (h2 : i < 2147483648) : zrowI f (iz i).toNatClampNeg = iz (f i) := by
  show iz (f ((iz i).toNatClampNeg : Int)) = _
  rw [iz_cl h h2, Int.toNat_of_nonneg h]
