/-! ruled of the reference -/
theorem rb_bits (f : Nat → Bool) : ∀ n, n ≤ 24 → ∀ i, n ≤ i → i < 32 → (rbits f n).toBitVec.getLsbD i = false := by
  intro n
  induction n with
  | zero => intro _ i _ _; simp [rbits]
  | succ n ih =>
    intro hn i hi h32
    have h1 := ih (by omega) i (by omega) h32
    simp only [rbits]
    split
    · have hsh : (1 <<< (nI n &&& 31) : Int32).toBitVec.getLsbD i = false := by
        have : ∀ n, n ≤ 23 → ∀ i, i < 32 → n < i → (1 <<< (nI n &&& 31) : Int32).toBitVec.getLsbD i = false := by decide +kernel
        exact this n (by omega) i h32 (by omega)
      rw [Int32.toBitVec_or, BitVec.getLsbD_or, h1, hsh]; rfl
    · exact h1
theorem bit_test {x : Int32} {k : Nat} (hk : k < 24) : (x >>> (nI k &&& 31)) &&& 1 = if x.toBitVec.getLsbD k = true then 1 else 0 := by
  have hs : ((nI k &&& 31).toBitVec.smod 32).toNat = k := by
    have : ∀ k, k < 24 → ((nI k &&& 31).toBitVec.smod 32).toNat = k := by decide +kernel
    exact this k hk
  apply Int32.toBitVec_inj.mp
  rw [Int32.toBitVec_and, Int32.toBitVec_shiftRight]
  apply BitVec.eq_of_getLsbD_eq
  intro i hi
  rw [BitVec.getLsbD_and, BitVec.sshiftRight_eq', BitVec.getLsbD_sshiftRight, hs]
  by_cases h0 : i = 0
  · subst h0
    have h1 : (Int32.toBitVec 1).getLsbD 0 = true := by decide
    rw [h1]
    by_cases hb : x.toBitVec.getLsbD k = true
    · rw [if_pos hb, h1]; simp [hb]; omega
    · rw [if_neg hb]
      have hb2 : x.toBitVec.getLsbD k = false := by simpa using hb
      simp [hb2]; omega
  · have h1 : (Int32.toBitVec 1).getLsbD i = false := by
      have : ∀ i, i < 32 → i ≠ 0 → (Int32.toBitVec 1).getLsbD i = false := by decide +kernel
      exact this i hi h0
    have h2 : (Int32.toBitVec 0).getLsbD i = false := by
      have : ∀ i, i < 32 → (Int32.toBitVec 0).getLsbD i = false := by decide +kernel
      exact this i hi
    rw [h1, Bool.and_false]
    split
    · exact h1.symm
    · exact h2.symm
theorem rb_test0 (f : Nat → Bool) {k : Nat} (hk : k < 24) : (rbits f k >>> (nI k &&& 31)) &&& 1 = 0 := by
  rw [bit_test hk, if_neg (by rw [rb_bits f k (by omega) k (Nat.le_refl k) (by omega)]; decide)]
theorem rb_test1 (x : Int32) {k : Nat} (hk : k < 24) : ((x ||| (1 <<< (nI k &&& 31))) >>> (nI k &&& 31)) &&& 1 = 1 := by
  have h1 : ∀ k, k < 24 → (1 <<< (nI k &&& 31) : Int32).toBitVec.getLsbD k = true := by decide +kernel
  rw [bit_test hk, if_pos (by rw [Int32.toBitVec_or, BitVec.getLsbD_or, h1 k hk, Bool.or_true])]
