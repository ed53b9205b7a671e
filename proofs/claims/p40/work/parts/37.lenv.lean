-- the law's surroundings: exceptions and what they can't be cast to, by the order of its handlers
def zXM (s1 s2 s3 : Nat) (A : Nat → Prop) (U : State) : Prop := zXE s1 s2 s3 A U ∧ va_Nc "java/lang/IllegalStateException" "java/lang/IllegalArgumentException" U ∧ va_Nc "java/lang/IllegalStateException" "java/util/NoSuchElementException" U ∧ va_Nc "java/lang/IllegalArgumentException" "java/util/NoSuchElementException" U
theorem zXM_ok {s1 s2 s3 : Nat} : zOK (zXM s1 s2 s3) := fun A B s U h hAB hH hW => ⟨zXE_ok A B s U h.1 hAB hH hW, h.2.1.moved hW.alike, h.2.2.1.moved hW.alike, h.2.2.2.moved hW.alike⟩
theorem zcnt_rng (f : Int → Int) : ∀ n : Nat, 0 ≤ zcnt f n ∧ zcnt f n ≤ n
  | 0 => ⟨Int.le_refl _, Int.le_refl _⟩
  | n + 1 => by
    have h := zcnt_rng f n
    show 0 ≤ zcnt f n + (if f n = 0 then 0 else 1) ∧ zcnt f n + (if f n = 0 then 0 else 1) ≤ ((n + 1 : Nat) : Int)
    by_cases c : f n = 0
    · rw [if_pos c]; omega
    · rw [if_neg c]; omega
