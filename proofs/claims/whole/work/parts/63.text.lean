/-! TEXT AND TOKENS: a text is a list of bytes; a token is read at a place -/
theorem getD_of {T : List Int32} {p : Nat} (h : p < T.length) : T.getD p 0 = T[p] := by
  simp [List.getD, List.getElem?_eq_getElem h]
theorem getD_ge {T : List Int32} {p : Nat} (h : T.length ≤ p) : T.getD p 0 = 0 := by
  simp [List.getD, List.getElem?_eq_none h]
def tw (q : Int32 → Bool) (T : List Int32) (p : Nat) : List Int32 := (T.drop p).takeWhile q
theorem tw_c {q : Int32 → Bool} {T : List Int32} {p : Nat} (h : p < T.length) (hq : q (T.getD p 0) = true) : tw q T p = T.getD p 0 :: tw q T (p + 1) := by
  unfold tw
  rw [List.drop_eq_getElem_cons h, List.takeWhile_cons, ← getD_of h, if_pos hq]
theorem tw_n {q : Int32 → Bool} {T : List Int32} {p : Nat} (h : ¬ (p < T.length ∧ q (T.getD p 0) = true)) : tw q T p = [] := by
  unfold tw
  rcases Nat.lt_or_ge p T.length with g | g
  · rw [List.drop_eq_getElem_cons g, List.takeWhile_cons, ← getD_of g, if_neg (fun z => h ⟨g, z⟩)]
  · rw [List.drop_eq_nil_of_le g]; rfl
theorem tw_le (q : Int32 → Bool) (T : List Int32) {p : Nat} (h : p ≤ T.length) : p + (tw q T p).length ≤ T.length := by
  have := (List.takeWhile_sublist q (l := T.drop p)).length_le
  rw [List.length_drop] at this
  unfold tw
  omega
theorem tw_all {q : Int32 → Bool} {T : List Int32} {p : Nat} : ∀ c ∈ tw q T p, q c = true := fun c hc => by
  have := List.all_takeWhile (p := q) (l := T.drop p)
  exact List.all_eq_true.mp this c hc
def qB (x : Int32) : Bool := decide (x = 32)
def qL (x : Int32) : Bool := decide (¬ isLe x = 0)
def qD (x : Int32) : Bool := decide (¬ isDi x = 0)
/-- a byte of the text, -1 behind its end -/
def bt (T : List Int32) (p : Nat) : Int32 := if p < T.length then T.getD p 0 else -1
theorem bt_in {T : List Int32} {p : Nat} (hT : T.length < 2 ^ 31) (hp : p < 2 ^ 31) : inAt T (nI p) = bt T p := by
  unfold inAt bt
  rw [if_neg (nI_pos hp)]
  by_cases h : p < T.length
  · rw [if_pos h, if_neg (nI_ge h hT), nI_clamp hp]
  · rw [if_neg h, if_pos (nI_le (by omega) hp)]
theorem bt_Le (T : List Int32) (p : Nat) : isLe (bt T p) = isLe (T.getD p 0) := by
  unfold bt
  by_cases h : p < T.length
  · rw [if_pos h]
  · rw [if_neg h, getD_ge (by omega)]; decide
theorem bt_Di (T : List Int32) (p : Nat) : isDi (bt T p) = isDi (T.getD p 0) := by
  unfold bt
  by_cases h : p < T.length
  · rw [if_pos h]
  · rw [if_neg h, getD_ge (by omega)]; decide
theorem bt_eq {T : List Int32} {p : Nat} {c : Int32} (h1 : ¬ c = -1) (h0 : ¬ c = 0) : bt T p = c ↔ T.getD p 0 = c := by
  unfold bt
  by_cases h : p < T.length
  · rw [if_pos h]
  · rw [if_neg h, getD_ge (by omega)]; exact ⟨fun z => absurd z.symm h1, fun z => absurd z.symm h0⟩
theorem qB_t {T : List Int32} {p : Nat} : (p < T.length ∧ qB (T.getD p 0) = true) ↔ T.getD p 0 = 32 := by
  constructor
  · intro h; exact of_decide_eq_true h.2
  · intro h
    refine ⟨?_, decide_eq_true h⟩
    rcases Nat.lt_or_ge p T.length with g | g
    · exact g
    · rw [getD_ge g] at h; exact absurd h (by decide)
theorem qL_t {T : List Int32} {p : Nat} : (p < T.length ∧ qL (T.getD p 0) = true) ↔ ¬ isLe (T.getD p 0) = 0 := by
  constructor
  · intro h; exact of_decide_eq_true h.2
  · intro h
    refine ⟨?_, decide_eq_true h⟩
    rcases Nat.lt_or_ge p T.length with g | g
    · exact g
    · rw [getD_ge g] at h; exact absurd (show isLe 0 = 0 by decide) h
theorem qD_t {T : List Int32} {p : Nat} : (p < T.length ∧ qD (T.getD p 0) = true) ↔ ¬ isDi (T.getD p 0) = 0 := by
  constructor
  · intro h; exact of_decide_eq_true h.2
  · intro h
    refine ⟨?_, decide_eq_true h⟩
    rcases Nat.lt_or_ge p T.length with g | g
    · exact g
    · rw [getD_ge g] at h; exact absurd (show isDi 0 = 0 by decide) h
def skp (T : List Int32) (p : Nat) : Nat := p + (tw qB T p).length
theorem skp_c {T : List Int32} {p : Nat} (h : T.getD p 0 = 32) : skp T p = skp T (p + 1) := by
  unfold skp
  rw [tw_c (qB_t.mpr h).1 (qB_t.mpr h).2, List.length_cons]; omega
theorem skp_n {T : List Int32} {p : Nat} (h : ¬ T.getD p 0 = 32) : skp T p = p := by
  unfold skp
  rw [tw_n (fun z => h (qB_t.mp z))]; rfl
theorem skp_ge (T : List Int32) (p : Nat) : p ≤ skp T p := by unfold skp; omega
theorem skp_le (T : List Int32) {p : Nat} (h : p ≤ T.length) : skp T p ≤ T.length := tw_le qB T h
/-- words and numbers -/
def f5 (v : Int64) (c : Int32) : Int64 := v * 32 + (c - 97 + 1).toInt64
def f8 (v : Int64) (c : Int32) : Int64 := v <<< ((8 : Int32).toInt64 &&& 63) ||| c.toInt64
def fl (v : Int64) (c : Int32) : Int64 := v * 10 + (c - 48).toInt64
def fi (v : Int32) (c : Int32) : Int32 := 10 * v + c - 48
def enc5 (W : List Int32) : Int64 := W.foldl f5 0
def enc8 (W : List Int32) : Int64 := W.foldl f8 0
def numl (W : List Int32) : Int64 := W.foldl fl 0
def numi (W : List Int32) : Int32 := W.foldl fi 0
theorem fl_fi (v : Int64) (c : Int32) : (fl v c).toInt32 = fi v.toInt32 c := by
  unfold fl fi
  rw [Int64.toInt32_add, Int64.toInt32_mul, Int32.toInt32_toInt64, show (10 : Int64).toInt32 = 10 from by decide, Int32.mul_comm, Int32.sub_eq_add_neg, Int32.sub_eq_add_neg, Int32.add_assoc]
theorem numl_numi' (W : List Int32) : ∀ v : Int64, (W.foldl fl v).toInt32 = W.foldl fi v.toInt32 := by
  induction W with
  | nil => intro v; rfl
  | cons c W ih => intro v; rw [List.foldl_cons, List.foldl_cons, ih, fl_fi]
theorem numl_numi (W : List Int32) : (numl W).toInt32 = numi W := numl_numi' W 0
theorem letter_nat {c : Int32} (h : ¬ isLe c = 0) : ∃ m : Nat, 97 ≤ m ∧ m ≤ 122 ∧ c = nI m := by
  have h1 : ¬ c < 97 := fun z => h (by simp only [isLe, if_pos z])
  have h2 : ¬ 122 < c := fun z => h (by simp only [isLe, if_neg h1, if_pos z])
  have h0 : ¬ c < 0 := fun z => h1 (by rw [Int32.lt_iff_toInt_lt] at z ⊢; have : (0 : Int32).toInt = 0 := by decide
                                       have : (97 : Int32).toInt = 97 := by decide
                                       omega)
  obtain ⟨m, hm, rfl⟩ := nI_of h0
  refine ⟨m, ?_, ?_, rfl⟩
  · rcases Nat.lt_or_ge m 97 with g | g
    · exact absurd (nI_lt (b := 97) g (by decide)) h1
    · exact g
  · rcases Nat.lt_or_ge 122 m with g | g
    · exact absurd (nI_lt (a := 122) g hm) h2
    · exact g
def okW (W : List Int32) : Prop := W.length ≤ 8 ∧ ∀ c ∈ W, ¬ isLe c = 0
def g5 (v : Nat) (c : Int32) : Nat := v * 32 + (c.toNatClampNeg - 96)
def g8 (v : Nat) (c : Int32) : Nat := v * 256 + c.toNatClampNeg
theorem f5_g5 (v : Nat) {c : Int32} (h : ¬ isLe c = 0) : f5 (Int64.ofNat v) c = Int64.ofNat (g5 v c) := by
  obtain ⟨m, h1, h2, rfl⟩ := letter_nat h
  unfold f5 g5
  rw [Int64.ofNat_add, Int64.ofNat_mul, nI_clamp (by omega)]
  have hd : ∀ m, m < 123 → 97 ≤ m → (nI m - 97 + 1).toInt64 = Int64.ofNat (m - 96) := by decide +kernel
  rw [hd m (by omega) h1]; rfl
theorem f8_g8 {v : Nat} (hv : v < 2 ^ 56) {c : Int32} (h : ¬ isLe c = 0) : f8 (Int64.ofNat v) c = Int64.ofNat (g8 v c) := by
  obtain ⟨m, h1, h2, rfl⟩ := letter_nat h
  unfold f8 g8
  rw [nI_clamp (by omega)]
  have hd : ∀ m, m < 123 → (nI m).toInt64 = Int64.ofNat m := by decide +kernel
  rw [hd m (by omega), show ((8 : Int32).toInt64 &&& 63) = 8 from by decide]
  apply Int64.toBitVec.inj
  apply BitVec.eq_of_toNat_eq
  have e1 : (Int64.ofNat v <<< (8 : Int64) ||| Int64.ofNat m).toBitVec = (BitVec.ofNat 64 v <<< 8) ||| BitVec.ofNat 64 m := by
    rfl
  have e2 : (Int64.ofNat (v * 256 + m)).toBitVec = BitVec.ofNat 64 (v * 256 + m) := rfl
  rw [e1, e2, BitVec.toNat_or, BitVec.toNat_shiftLeft, BitVec.toNat_ofNat, BitVec.toNat_ofNat, BitVec.toNat_ofNat, Nat.mod_eq_of_lt (show v < 2 ^ 64 by omega), Nat.mod_eq_of_lt (show m < 2 ^ 64 by omega), Nat.mod_eq_of_lt (show v * 256 + m < 2 ^ 64 by omega)]
  rw [Nat.mod_eq_of_lt (show v <<< 8 < 2 ^ 64 by rw [Nat.shiftLeft_eq]; omega), ← Nat.shiftLeft_add_eq_or_of_lt (show m < 2 ^ 8 by omega), Nat.shiftLeft_eq]
theorem f5_fold : ∀ (W : List Int32) (v : Nat), (∀ c ∈ W, ¬ isLe c = 0) → W.foldl f5 (Int64.ofNat v) = Int64.ofNat (W.foldl g5 v) := by
  intro W
  induction W with
  | nil => intro v _; rfl
  | cons c W ih => intro v h; rw [List.foldl_cons, List.foldl_cons, f5_g5 v (h c List.mem_cons_self)]; exact ih _ (fun d hd => h d (List.mem_cons_of_mem _ hd))
theorem f8_fold : ∀ (W : List Int32) (v b : Nat), v < 2 ^ (8 * b) → b + W.length ≤ 8 → (∀ c ∈ W, ¬ isLe c = 0) → W.foldl f8 (Int64.ofNat v) = Int64.ofNat (W.foldl g8 v) := by
  intro W
  induction W with
  | nil => intro v b _ _ _; rfl
  | cons c W ih =>
    intro v b hv hb h
    have hv56 : v < 2 ^ 56 := Nat.lt_of_lt_of_le hv (Nat.pow_le_pow_right (by decide) (by rw [List.length_cons] at hb; omega))
    rw [List.foldl_cons, List.foldl_cons, f8_g8 hv56 (h c List.mem_cons_self)]
    refine ih _ (b + 1) ?_ (by rw [List.length_cons] at hb; omega) (fun d hd => h d (List.mem_cons_of_mem _ hd))
    obtain ⟨m, h1, h2, e⟩ := letter_nat (h c List.mem_cons_self)
    rw [g8, e, nI_clamp (by omega), show 8 * (b + 1) = 8 * b + 8 by omega, Nat.pow_add]
    omega
theorem g5_lt : ∀ (W : List Int32) (v b : Nat), v < 2 ^ (5 * b) → (∀ c ∈ W, ¬ isLe c = 0) → W.foldl g5 v < 2 ^ (5 * (b + W.length)) := by
  intro W
  induction W with
  | nil => intro v b hv _; exact hv
  | cons c W ih =>
    intro v b hv h
    rw [List.foldl_cons, List.length_cons, show b + (W.length + 1) = b + 1 + W.length by omega]
    refine ih _ (b + 1) ?_ (fun d hd => h d (List.mem_cons_of_mem _ hd))
    obtain ⟨m, h1, h2, e⟩ := letter_nat (h c List.mem_cons_self)
    rw [g5, e, nI_clamp (by omega), show 5 * (b + 1) = 5 * b + 5 by omega, Nat.pow_add]
    omega
theorem g8_lt : ∀ (W : List Int32) (v b : Nat), 2 * v < 2 ^ (8 * b) → (∀ c ∈ W, ¬ isLe c = 0) → 2 * W.foldl g8 v < 2 ^ (8 * (b + W.length)) := by
  intro W
  induction W with
  | nil => intro v b hv _; exact hv
  | cons c W ih =>
    intro v b hv h
    rw [List.foldl_cons, List.length_cons, show b + (W.length + 1) = b + 1 + W.length by omega]
    refine ih _ (b + 1) ?_ (fun d hd => h d (List.mem_cons_of_mem _ hd))
    obtain ⟨m, h1, h2, e⟩ := letter_nat (h c List.mem_cons_self)
    rw [g8, e, nI_clamp (by omega), show 8 * (b + 1) = 8 * b + 8 by omega, Nat.pow_add]
    omega
theorem snoc_of (W : List Int32) : W = [] ∨ ∃ V c, W = V ++ [c] := by
  rcases List.eq_nil_or_concat W with h | ⟨V, c, h⟩
  · exact Or.inl h
  · exact Or.inr ⟨V, c, by rw [h, List.concat_eq_append]⟩
theorem g5_inj : ∀ (n : Nat) (A B : List Int32), A.length = n → (∀ c ∈ A, ¬ isLe c = 0) → (∀ c ∈ B, ¬ isLe c = 0) → A.foldl g5 0 = B.foldl g5 0 → A = B := by
  have sn : ∀ (V : List Int32) (c : Int32), (V ++ [c]).foldl g5 0 = g5 (V.foldl g5 0) c := fun V c => by rw [List.foldl_append]; rfl
  have dg : ∀ {c : Int32}, ¬ isLe c = 0 → 1 ≤ c.toNatClampNeg - 96 ∧ c.toNatClampNeg - 96 < 32 := fun {c} h => by
    obtain ⟨m, h1, h2, e⟩ := letter_nat h
    rw [e, nI_clamp (by omega)]; omega
  intro n
  induction n with
  | zero =>
    intro A B hA h1 h2 h
    have hA0 : A = [] := List.length_eq_zero_iff.mp hA
    subst hA0
    rcases snoc_of B with e | ⟨V, c, e⟩
    · exact e.symm
    · subst e
      rw [sn] at h
      have := dg (h2 c (by simp))
      simp only [List.foldl_nil, g5] at h
      omega
  | succ n ih =>
    intro A B hA h1 h2 h
    rcases snoc_of A with e | ⟨V, c, e⟩
    · subst e; simp at hA
    · subst e
      have d1 := dg (h1 c (by simp))
      rcases snoc_of B with e2 | ⟨V2, c2, e2⟩
      · subst e2
        rw [sn] at h
        simp only [List.foldl_nil, g5] at h
        omega
      · subst e2
        have d2 := dg (h2 c2 (by simp))
        rw [sn, sn] at h
        simp only [g5] at h
        have q1 : V.foldl g5 0 = V2.foldl g5 0 := by omega
        have q2 : c.toNatClampNeg - 96 = c2.toNatClampNeg - 96 := by omega
        have hV := ih V V2 (by simpa using hA) (fun d hd => h1 d (by simp [hd])) (fun d hd => h2 d (by simp [hd])) q1
        obtain ⟨m, a1, a2, e3⟩ := letter_nat (h1 c (by simp))
        obtain ⟨m2, b1, b2, e4⟩ := letter_nat (h2 c2 (by simp))
        rw [e3, e4, nI_clamp (by omega), nI_clamp (by omega)] at q2
        rw [hV, e3, e4, show m = m2 by omega]
theorem g8_inj : ∀ (n : Nat) (A B : List Int32), A.length = n → (∀ c ∈ A, ¬ isLe c = 0) → (∀ c ∈ B, ¬ isLe c = 0) → A.foldl g8 0 = B.foldl g8 0 → A = B := by
  have sn : ∀ (V : List Int32) (c : Int32), (V ++ [c]).foldl g8 0 = g8 (V.foldl g8 0) c := fun V c => by rw [List.foldl_append]; rfl
  have dg : ∀ {c : Int32}, ¬ isLe c = 0 → 1 ≤ c.toNatClampNeg ∧ c.toNatClampNeg < 256 := fun {c} h => by
    obtain ⟨m, h1, h2, e⟩ := letter_nat h
    rw [e, nI_clamp (by omega)]; omega
  intro n
  induction n with
  | zero =>
    intro A B hA h1 h2 h
    have hA0 : A = [] := List.length_eq_zero_iff.mp hA
    subst hA0
    rcases snoc_of B with e | ⟨V, c, e⟩
    · exact e.symm
    · subst e
      rw [sn] at h
      have := dg (h2 c (by simp))
      simp only [List.foldl_nil, g8] at h
      omega
  | succ n ih =>
    intro A B hA h1 h2 h
    rcases snoc_of A with e | ⟨V, c, e⟩
    · subst e; simp at hA
    · subst e
      have d1 := dg (h1 c (by simp))
      rcases snoc_of B with e2 | ⟨V2, c2, e2⟩
      · subst e2
        rw [sn] at h
        simp only [List.foldl_nil, g8] at h
        omega
      · subst e2
        have d2 := dg (h2 c2 (by simp))
        rw [sn, sn] at h
        simp only [g8] at h
        have q1 : V.foldl g8 0 = V2.foldl g8 0 := by omega
        have q2 : c.toNatClampNeg = c2.toNatClampNeg := by omega
        have hV := ih V V2 (by simpa using hA) (fun d hd => h1 d (by simp [hd])) (fun d hd => h2 d (by simp [hd])) q1
        obtain ⟨m, a1, a2, e3⟩ := letter_nat (h1 c (by simp))
        obtain ⟨m2, b1, b2, e4⟩ := letter_nat (h2 c2 (by simp))
        rw [e3, e4, nI_clamp (by omega), nI_clamp (by omega)] at q2
        rw [hV, e3, e4, q2]
theorem ofNat64_inj {a b : Nat} (ha : a < 2 ^ 63) (hb : b < 2 ^ 63) (h : Int64.ofNat a = Int64.ofNat b) : a = b := by
  have := congrArg Int64.toInt h
  rw [Int64.toInt_ofNat_of_lt ha, Int64.toInt_ofNat_of_lt hb] at this
  omega
theorem enc5_inj {A B : List Int32} (hA : okW A) (hB : okW B) (h : enc5 A = enc5 B) : A = B := by
  refine g5_inj _ A B rfl hA.2 hB.2 ?_
  have e1 := f5_fold A 0 hA.2
  have e2 := f5_fold B 0 hB.2
  have l1 := g5_lt A 0 0 (by decide) hA.2
  have l2 := g5_lt B 0 0 (by decide) hB.2
  have b1 : 2 ^ (5 * (0 + A.length)) ≤ 2 ^ 40 := Nat.pow_le_pow_right (by decide) (by have := hA.1; omega)
  have b2 : 2 ^ (5 * (0 + B.length)) ≤ 2 ^ 40 := Nat.pow_le_pow_right (by decide) (by have := hB.1; omega)
  exact ofNat64_inj (by omega) (by omega) (e1.symm.trans (h.trans e2))
theorem g8_lt7 {W : List Int32} (hW : okW W) : W.foldl g8 0 < 2 ^ 63 := by
  have l1 := g8_lt W 0 0 (by decide) hW.2
  have b1 : 2 ^ (8 * (0 + W.length)) ≤ 2 ^ 64 := Nat.pow_le_pow_right (by decide) (by have := hW.1; omega)
  omega
theorem enc8_inj {A B : List Int32} (hA : okW A) (hB : okW B) (h : enc8 A = enc8 B) : A = B := by
  refine g8_inj _ A B rfl hA.2 hB.2 ?_
  have e1 := f8_fold A 0 0 (by decide) (by have := hA.1; omega) hA.2
  have e2 := f8_fold B 0 0 (by decide) (by have := hB.1; omega) hB.2
  exact ofNat64_inj (g8_lt7 hA) (g8_lt7 hB) (e1.symm.trans (h.trans e2))
/-- names of the acts -/
def nmL : List (List Int32) := [[105, 110], [115, 101, 116], [99, 111, 112, 121], [97, 100, 100], [115, 117, 98], [109, 117, 108], [108, 111, 97, 100], [115, 116, 111, 114, 101], [108, 101, 115, 115], [115, 97, 109, 101], [103, 111], [106, 117, 109, 112], [111, 117, 116], [115, 116, 111, 112]]
def nm (k : Nat) : List Int32 := nmL.getD k []
theorem nm_ok : ∀ k, k < 14 → okW (nm k) := by
  have h : ∀ k, k < 14 → (nm k).length ≤ 8 ∧ (nm k).all (fun c => decide (¬ isLe c = 0)) = true := by decide +kernel
  intro k hk
  exact ⟨(h k hk).1, fun c hc => of_decide_eq_true (List.all_eq_true.mp (h k hk).2 c hc)⟩
def kwd (W : List Int32) : Int32 := optI (hfd (fun k => nm k = W) 14)
theorem kwd_cases (W : List Int32) : (kwd W = -1 ∧ ∀ k, k < 14 → ¬ nm k = W) ∨ ∃ k, k < 14 ∧ kwd W = nI k ∧ nm k = W := by
  unfold kwd
  rcases h : hfd (fun k => nm k = W) 14 with _ | k
  · exact Or.inl ⟨rfl, hfd_none h⟩
  · exact Or.inr ⟨k, (hfd_spec h).1, rfl, (hfd_spec h).2⟩
/-- a token at a place: its kind, where it ends, its number, its letters -/
abbrev tok4 : Type := Int32 × Nat × Int32 × List Int32
abbrev isRg (T : List Int32) (a : Nat) : Prop := T.getD a 0 = 114 ∧ ¬ T.getD (a + 1) 0 < 48 ∧ T.getD (a + 1) 0 < 56 ∧ isLe (T.getD (a + 2) 0) = 0 ∧ isDi (T.getD (a + 2) 0) = 0
def nst (T : List Int32) (a : Nat) : Nat := if T.getD a 0 = 45 then a + 1 else a
def ndg (T : List Int32) (a : Nat) : List Int32 := tw qD T (nst T a)
def tkA (T : List Int32) (a : Nat) : tok4 :=
  if T.length ≤ a then (6, a, 0, [])
  else if isRg T a then (2, a + 2, T.getD (a + 1) 0 - 48, [])
  else if ¬ isLe (T.getD a 0) = 0 then (if (tw qL T a).length ≤ 8 then 1 else 0, a + (tw qL T a).length, 0, tw qL T a)
  else if ¬ isDi (T.getD a 0) = 0 ∨ T.getD a 0 = 45 then (if 1 ≤ (ndg T a).length ∧ (ndg T a).length ≤ 6 ∧ isLe (T.getD (nst T a + (ndg T a).length) 0) = 0 then 3 else 0, nst T a + (ndg T a).length, if T.getD a 0 = 45 then - numi (ndg T a) else numi (ndg T a), [])
  else (if T.getD a 0 = 10 then 5 else if T.getD a 0 = 58 then 4 else 0, a + 1, 0, [])
theorem tkA_6 {T : List Int32} {a : Nat} (h : T.length ≤ a) : tkA T a = (6, a, 0, []) := by unfold tkA; rw [if_pos h]
theorem tkA_2 {T : List Int32} {a : Nat} (h : ¬ T.length ≤ a) (h2 : isRg T a) : tkA T a = (2, a + 2, T.getD (a + 1) 0 - 48, []) := by unfold tkA; rw [if_neg h, if_pos h2]
theorem tkA_1 {T : List Int32} {a : Nat} (h : ¬ T.length ≤ a) (h2 : ¬ isRg T a) (h3 : ¬ isLe (T.getD a 0) = 0) : tkA T a = (if (tw qL T a).length ≤ 8 then 1 else 0, a + (tw qL T a).length, 0, tw qL T a) := by unfold tkA; rw [if_neg h, if_neg h2, if_pos h3]
theorem tkA_3 {T : List Int32} {a : Nat} (h : ¬ T.length ≤ a) (h2 : ¬ isRg T a) (h3 : isLe (T.getD a 0) = 0) (h4 : ¬ isDi (T.getD a 0) = 0 ∨ T.getD a 0 = 45) : tkA T a = (if 1 ≤ (ndg T a).length ∧ (ndg T a).length ≤ 6 ∧ isLe (T.getD (nst T a + (ndg T a).length) 0) = 0 then 3 else 0, nst T a + (ndg T a).length, if T.getD a 0 = 45 then - numi (ndg T a) else numi (ndg T a), []) := by unfold tkA; rw [if_neg h, if_neg h2, if_neg (not_not_intro h3), if_pos h4]
theorem tkA_0 {T : List Int32} {a : Nat} (h : ¬ T.length ≤ a) (h2 : ¬ isRg T a) (h3 : isLe (T.getD a 0) = 0) (h4 : ¬ (¬ isDi (T.getD a 0) = 0 ∨ T.getD a 0 = 45)) : tkA T a = (if T.getD a 0 = 10 then 5 else if T.getD a 0 = 58 then 4 else 0, a + 1, 0, []) := by unfold tkA; rw [if_neg h, if_neg h2, if_neg (not_not_intro h3), if_neg h4]
theorem lt_of_getD {T : List Int32} {a : Nat} (h : ¬ T.getD a 0 = 0) : a < T.length := by
  rcases Nat.lt_or_ge a T.length with g | g
  · exact g
  · exact absurd (getD_ge g) h
/-- a token that is no end is at least a byte long, and lies in the text -/
theorem tkA_end {T : List Int32} {a : Nat} (h : a < T.length) : a < (tkA T a).2.1 ∧ (tkA T a).2.1 ≤ T.length ∧ ¬ (tkA T a).1 = 6 := by
  have h' : ¬ T.length ≤ a := by omega
  by_cases h2 : isRg T a
  · rw [tkA_2 h' h2]
    have : a + 1 < T.length := lt_of_getD (fun z => h2.2.1 (by rw [z]; decide))
    exact ⟨show a < a + 2 by omega, show a + 2 ≤ T.length by omega, by show ¬ (2 : Int32) = 6; decide⟩
  by_cases h3 : isLe (T.getD a 0) = 0
  · by_cases h4 : ¬ isDi (T.getD a 0) = 0 ∨ T.getD a 0 = 45
    · rw [tkA_3 h' h2 h3 h4]
      have hs : nst T a ≤ T.length := by unfold nst; split <;> omega
      have hl := tw_le qD T hs
      refine ⟨?_, hl, ?_⟩
      · show a < nst T a + (ndg T a).length
        by_cases h5 : T.getD a 0 = 45
        · have : nst T a = a + 1 := by unfold nst; rw [if_pos h5]
          omega
        · have hd : ¬ isDi (T.getD a 0) = 0 := h4.resolve_right h5
          have e : nst T a = a := by unfold nst; rw [if_neg h5]
          have : ndg T a = T.getD a 0 :: tw qD T (a + 1) := by unfold ndg; rw [e]; exact tw_c (qD_t.mpr hd).1 (qD_t.mpr hd).2
          rw [e, this, List.length_cons]; omega
      · show ¬ (if 1 ≤ (ndg T a).length ∧ (ndg T a).length ≤ 6 ∧ isLe (T.getD (nst T a + (ndg T a).length) 0) = 0 then (3 : Int32) else 0) = 6
        split <;> decide
    · rw [tkA_0 h' h2 h3 h4]
      refine ⟨show a < a + 1 by omega, show a + 1 ≤ T.length by omega, ?_⟩
      show ¬ (if T.getD a 0 = 10 then (5 : Int32) else if T.getD a 0 = 58 then 4 else 0) = 6
      split
      · decide
      · split <;> decide
  · rw [tkA_1 h' h2 h3]
    have hc := tw_c (q := qL) h (qL_t.mpr h3).2
    refine ⟨?_, tw_le qL T (by omega), ?_⟩
    · show a < a + (tw qL T a).length
      rw [hc, List.length_cons]; omega
    · show ¬ (if (tw qL T a).length ≤ 8 then (1 : Int32) else 0) = 6
      split <;> decide
theorem tkA_w {T : List Int32} {a : Nat} (h : (tkA T a).1 = 1) : okW (tkA T a).2.2.2 := by
  by_cases h1 : T.length ≤ a
  · rw [tkA_6 h1] at h; exact absurd h (by show ¬ (6 : Int32) = 1; decide)
  by_cases h2 : isRg T a
  · rw [tkA_2 h1 h2] at h; exact absurd h (by show ¬ (2 : Int32) = 1; decide)
  by_cases h3 : isLe (T.getD a 0) = 0
  · by_cases h4 : ¬ isDi (T.getD a 0) = 0 ∨ T.getD a 0 = 45
    · rw [tkA_3 h1 h2 h3 h4] at h
      refine absurd h ?_
      show ¬ (if 1 ≤ (ndg T a).length ∧ (ndg T a).length ≤ 6 ∧ isLe (T.getD (nst T a + (ndg T a).length) 0) = 0 then (3 : Int32) else 0) = 1
      split <;> decide
    · rw [tkA_0 h1 h2 h3 h4] at h
      refine absurd h ?_
      show ¬ (if T.getD a 0 = 10 then (5 : Int32) else if T.getD a 0 = 58 then 4 else 0) = 1
      split
      · decide
      · split <;> decide
  · rw [tkA_1 h1 h2 h3] at h ⊢
    have h : (if (tw qL T a).length ≤ 8 then (1 : Int32) else 0) = 1 := h
    refine ⟨?_, fun c hc => of_decide_eq_true (tw_all c hc)⟩
    show (tw qL T a).length ≤ 8
    by_cases g : (tw qL T a).length ≤ 8
    · exact g
    · rw [if_neg g] at h; exact absurd h (by decide)
/-- a register's number is below 8 -/
theorem tkA_r {T : List Int32} {a : Nat} (h : (tkA T a).1 = 2) : vp_in (tkA T a).2.2.1 8 := by
  by_cases h1 : T.length ≤ a
  · rw [tkA_6 h1] at h; exact absurd h (by show ¬ (6 : Int32) = 2; decide)
  by_cases h2 : isRg T a
  · rw [tkA_2 h1 h2]
    show vp_in (T.getD (a + 1) 0 - 48) 8
    obtain ⟨-, g1, g2, -⟩ := h2
    have h0 : ¬ T.getD (a + 1) 0 < 0 := fun z => g1 (by rw [Int32.lt_iff_toInt_lt] at z ⊢; have : (0 : Int32).toInt = 0 := by decide
                                                        have : (48 : Int32).toInt = 48 := by decide
                                                        omega)
    obtain ⟨m, hm, e⟩ := nI_of h0
    rw [e] at g1 g2 ⊢
    have m1 : 48 ≤ m := by
      rcases Nat.lt_or_ge m 48 with g | g
      · exact absurd (nI_lt (b := 48) g (by decide)) g1
      · exact g
    have m2 : m < 56 := by
      rcases Nat.lt_or_ge m 56 with g | g
      · exact g
      · exact absurd g2 (fun z => absurd ((nI_ltI (b := 56) hm (by decide)).mp z) (by omega))
    have e2 : nI m - 48 = nI (m - 48) := by
      have hd : ∀ m, m < 56 → 48 ≤ m → nI m - 48 = nI (m - 48) := by decide +kernel
      exact hd m m2 m1
    rw [e2]
    exact vp_in_nI (by omega) (by decide)
  by_cases h3 : isLe (T.getD a 0) = 0
  · by_cases h4 : ¬ isDi (T.getD a 0) = 0 ∨ T.getD a 0 = 45
    · rw [tkA_3 h1 h2 h3 h4] at h
      refine absurd h ?_
      show ¬ (if 1 ≤ (ndg T a).length ∧ (ndg T a).length ≤ 6 ∧ isLe (T.getD (nst T a + (ndg T a).length) 0) = 0 then (3 : Int32) else 0) = 2
      split <;> decide
    · rw [tkA_0 h1 h2 h3 h4] at h
      refine absurd h ?_
      show ¬ (if T.getD a 0 = 10 then (5 : Int32) else if T.getD a 0 = 58 then 4 else 0) = 2
      split
      · decide
      · split <;> decide
  · rw [tkA_1 h1 h2 h3] at h
    refine absurd h ?_
    show ¬ (if (tw qL T a).length ≤ 8 then (1 : Int32) else 0) = 2
    split <;> decide
/-- the tokens of a text, by number -/
def tpos (T : List Int32) : Nat → Nat
  | 0 => 0
  | n + 1 => (tkA T (skp T (tpos T n))).2.1
def tplc (T : List Int32) (n : Nat) : Nat := skp T (tpos T n)
def tK (T : List Int32) (n : Nat) : Int32 := (tkA T (tplc T n)).1
def tP (T : List Int32) (n : Nat) : Int32 := nI (tplc T n)
def tV (T : List Int32) (n : Nat) : Int32 := (tkA T (tplc T n)).2.2.1
def tW (T : List Int32) (n : Nat) : List Int32 := (tkA T (tplc T n)).2.2.2
theorem tpos_s (T : List Int32) (n : Nat) : tpos T (n + 1) = (tkA T (tplc T n)).2.1 := rfl
theorem tpos_le (T : List Int32) : ∀ n, tpos T n ≤ T.length := by
  intro n
  induction n with
  | zero => exact Nat.zero_le _
  | succ n ih =>
    rw [tpos_s]
    have h := skp_le T ih
    rcases Nat.lt_or_ge (tplc T n) T.length with g | g
    · exact (tkA_end g).2.1
    · rw [tkA_6 g]; exact h
theorem tplc_le (T : List Int32) (n : Nat) : tplc T n ≤ T.length := skp_le T (tpos_le T n)
/-- token n is one that is read: none before it ends the reading -/
def live (T : List Int32) (n : Nat) : Prop := ∀ j, j < n → ¬ tK T j = 0 ∧ ¬ tK T j = 6
theorem live_0 (T : List Int32) : live T 0 := fun j hj => absurd hj (Nat.not_lt_zero j)
theorem live_s {T : List Int32} {n : Nat} (h : live T n) (h0 : ¬ tK T n = 0) (h6 : ¬ tK T n = 6) : live T (n + 1) := fun j hj => by
  rcases Nat.lt_or_ge j n with g | g
  · exact h j g
  · obtain rfl : j = n := by omega
    exact ⟨h0, h6⟩
theorem live_pos {T : List Int32} : ∀ {n : Nat}, live T n → n ≤ tpos T n := by
  intro n
  induction n with
  | zero => intro _; exact Nat.zero_le _
  | succ n ih =>
    intro h
    have h1 := ih (fun j hj => h j (by omega))
    have h2 : tpos T n ≤ tplc T n := skp_ge T _
    have h6 := (h n (by omega)).2
    have g : tplc T n < T.length := by
      rcases Nat.lt_or_ge (tplc T n) T.length with g | g
      · exact g
      · exact absurd (show tK T n = 6 by unfold tK; rw [tkA_6 g]) h6
    have := (tkA_end g).1
    rw [tpos_s]; omega
theorem live_le {T : List Int32} (hT : T.length ≤ 1000) {n : Nat} (h : live T n) : n ≤ 1000 := by
  have := live_pos h
  have := tpos_le T n
  omega
theorem live_lt {T : List Int32} (hT : T.length ≤ 1000) {n : Nat} (h : live T n) (h0 : ¬ tK T n = 0) (h6 : ¬ tK T n = 6) : n < 1000 := live_le hT (live_s h h0 h6)
