/-! locals as a list by slots -/
def lvp (lv : List (Option Value)) : List (Nat × Value) := (List.range lv.length).filterMap (fun k => match lv[k]? with
  | some (some v) => some (k, v)
  | _ => none)
theorem lvp_mem {lv : List (Option Value)} {k : Nat} {v : Value} : (k, v) ∈ lvp lv ↔ lv[k]? = some (some v) := by
  constructor
  · intro h
    obtain ⟨j, hj, he⟩ := List.mem_filterMap.mp h
    split at he
    · rename_i v' hv'
      have h2 := Option.some.inj he
      have h3 : j = k := congrArg Prod.fst h2
      have h4 : v' = v := congrArg Prod.snd h2
      rw [← h3, ← h4]; exact hv'
    · cases he
  · intro h
    have hk : k < lv.length := by
      rcases Nat.lt_or_ge k lv.length with h1 | h1
      · exact h1
      · rw [List.getElem?_eq_none h1] at h; cases h
    exact List.mem_filterMap.mpr ⟨k, List.mem_range.mpr hk, by simp [h]⟩
theorem lvo.has {ls : Array Slot} {nL : Nat} {lv : List (Option Value)} (h : lvo ls nL lv) : lv_has ls nL (lvp lv) := ⟨h.1, h.2.1, fun q hq => h.2.2 q.1 q.2 (lvp_mem.mp hq)⟩
theorem lvo.at {ls : Array Slot} {nL : Nat} {lv : List (Option Value)} (h : lvo ls nL lv) {k : Nat} {v : Value} (hk : lv[k]? = some (some v)) : ls[k]? = some (.val v) := h.2.2 k v hk
def okst (lv : List (Option Value)) (i : Nat) : Bool := match i with
  | 0 => true
  | j + 1 => match lv[j]? with
    | some (some u) => u.category == 1
    | _ => true
theorem okst_spec {lv : List (Option Value)} {i : Nat} (h : okst lv i = true) {k : Nat} {u : Value} (hk : lv[k]? = some (some u)) : ¬ (k + 1 = i ∧ u.category = 2) := by
  rintro ⟨rfl, h2⟩
  simp [okst, hk, h2] at h
theorem lvo.st1 {ls' : Array Slot} {nL i : Nat} {lv : List (Option Value)} {v : Value} (hk : okst lv i = true) (h : lv_has ls' nL ((i, v) :: (lvp lv).filter (fun q => !(q.1 == i) && !(q.1 + 1 == i && q.2.category == 2)))) : lvo ls' nL (lv.set i (some v)) := by
  refine ⟨h.1, h.2.1, fun k u hu => ?_⟩
  by_cases e : k = i
  · subst e
    have hl : k < lv.length := by
      rcases Nat.lt_or_ge k lv.length with h1 | h1
      · exact h1
      · rw [List.getElem?_eq_none (by simpa using h1)] at hu; cases hu
    rw [List.getElem?_set_self hl] at hu
    have := Option.some.inj (Option.some.inj hu)
    subst this
    exact h.2.2 (k, v) List.mem_cons_self
  · rw [List.getElem?_set_ne (fun q => e q.symm)] at hu
    refine h.2.2 (k, u) (List.mem_cons_of_mem _ (List.mem_filter.mpr ⟨lvp_mem.mpr hu, ?_⟩))
    have := okst_spec hk hu
    simp [e]
    by_cases h1 : k + 1 = i
    · exact Or.inr (fun h2 => this ⟨h1, h2⟩)
    · exact Or.inl h1
theorem lvo.st2 {ls' : Array Slot} {nL i : Nat} {lv : List (Option Value)} {v : Value} (hk : okst lv i = true) (h : lv_has ls' nL ((i, v) :: (lvp lv).filter (fun q => !(q.1 == i) && (!(q.1 == i + 1) && !(q.1 + 1 == i && q.2.category == 2))))) : lvo ls' nL ((lv.set i (some v)).set (i + 1) none) := by
  refine ⟨h.1, h.2.1, fun k u hu => ?_⟩
  by_cases e1 : k = i + 1
  · subst e1
    rcases Nat.lt_or_ge (i + 1) (lv.set i (some v)).length with h1 | h1
    · rw [List.getElem?_set_self h1] at hu; cases hu
    · rw [List.getElem?_eq_none (by simpa using h1)] at hu; cases hu
  · rw [List.getElem?_set_ne (fun q => e1 q.symm)] at hu
    by_cases e : k = i
    · subst e
      have hl : k < lv.length := by
        rcases Nat.lt_or_ge k lv.length with h1 | h1
        · exact h1
        · rw [List.getElem?_eq_none (by simpa using h1)] at hu; cases hu
      rw [List.getElem?_set_self hl] at hu
      have := Option.some.inj (Option.some.inj hu)
      subst this
      exact h.2.2 (k, v) List.mem_cons_self
    · rw [List.getElem?_set_ne (fun q => e q.symm)] at hu
      refine h.2.2 (k, u) (List.mem_cons_of_mem _ (List.mem_filter.mpr ⟨lvp_mem.mpr hu, ?_⟩))
      have := okst_spec hk hu
      simp [e, e1]
      by_cases h1 : k + 1 = i
      · exact Or.inr (fun h2 => this ⟨h1, h2⟩)
      · exact Or.inl h1
def lvs : List Value → List (Option Value)
  | [] => []
  | v :: vs => if v.category = 2 then some v :: none :: lvs vs else some v :: lvs vs
theorem lvs_args : ∀ (vs : List Value) (o k : Nat) (v : Value), (lvs vs)[k]? = some (some v) → (o + k, v) ∈ lv_args o vs
  | [], o, k, v, h => by simp [lvs] at h
  | x :: vs, o, k, v, h => by
    by_cases hx : x.category = 2
    · simp only [lvs, hx, if_true] at h
      match k, h with
      | 0, h => simp at h; subst h; simp [lv_args]
      | 1, h => simp at h
      | k + 2, h =>
        have h9 := lvs_args vs (o + 2) k v (by simpa using h)
        simp only [lv_args, hx, if_true]
        exact List.mem_cons_of_mem _ (by rw [show o + (k + 2) = o + 2 + k by omega]; exact h9)
    · simp only [lvs, hx, if_false] at h
      match k, h with
      | 0, h => simp at h; subst h; simp [lv_args]
      | k + 1, h =>
        have h9 := lvs_args vs (o + 1) k v (by simpa using h)
        simp only [lv_args, hx, if_false]
        exact List.mem_cons_of_mem _ (by rw [show o + (k + 1) = o + 1 + k by omega]; exact h9)
theorem lvo.entry (vs : List Value) {n : Nat} (z : Nat) (h : (lg_sl vs).length ≤ n) : lvo ((lg_sl vs ++ List.replicate (n - (lg_sl vs).length) Slot.unset).toArray) n (lvs vs ++ List.replicate z none) := by
  have h1 := lv_entry vs h
  refine ⟨h1.1, h1.2.1, fun k v hk => ?_⟩
  rcases Nat.lt_or_ge k (lvs vs).length with h2 | h2
  · rw [List.getElem?_append_left h2] at hk
    have := lvs_args vs 0 k v hk
    rw [Nat.zero_add] at this
    exact h1.2.2 (k, v) this
  · rw [List.getElem?_append_right h2, List.getElem?_replicate] at hk
    split at hk
    · cases hk
    · cases hk
section GR
variable {X : gX} {own : String} {cc : ByteArray} {a b pc : Nat} {w : gw} {M : Nat → Nat → Int32} {J : Nat → Nat → Int64} {R : Nat → Nat → Option Nat} {lv : List (Option Value)} {rest : List Value}
theorem g_iconst (C : Cx X own cc) {n : Int} {v : Int32} (d : decode cc pc = .ok (.iconst n, 1)) (hv : Int32.ofInt n = v) (k : Gj X a b w M J R (pc + 1) lv (.int v :: rest)) : Gj X a b w M J R pc lv rest :=
  fun H locs ls h1 h2 h3 h4 h5 h6 => lv_iconst C.1 C.2.1 d hv (k H locs ls h1 h2 h3 h4 h5 h6)
theorem g_bipush (C : Cx X own cc) {n : Int} {v : Int32} (d : decode cc pc = .ok (.bipush n, 2)) (hv : (Int8.ofInt n).toInt32 = v) (k : Gj X a b w M J R (pc + 2) lv (.int v :: rest)) : Gj X a b w M J R pc lv rest :=
  fun H locs ls h1 h2 h3 h4 h5 h6 => lv_bipush C.1 C.2.1 d hv (k H locs ls h1 h2 h3 h4 h5 h6)
theorem g_sipush (C : Cx X own cc) {n : Int} {v : Int32} (d : decode cc pc = .ok (.sipush n, 3)) (hv : (Int16.ofInt n).toInt32 = v) (k : Gj X a b w M J R (pc + 3) lv (.int v :: rest)) : Gj X a b w M J R pc lv rest :=
  fun H locs ls h1 h2 h3 h4 h5 h6 => lv_sipush C.1 C.2.1 d hv (k H locs ls h1 h2 h3 h4 h5 h6)
theorem g_lconst (C : Cx X own cc) {n : Fin 2} {v : Int64} (d : decode cc pc = .ok (.lconst n, 1)) (hv : Int64.ofNat (n : Nat) = v) (k : Gj X a b w M J R (pc + 1) lv (.long v :: rest)) : Gj X a b w M J R pc lv rest :=
  fun H locs ls h1 h2 h3 h4 h5 h6 => lv_lconst C.1 C.2.1 d hv (k H locs ls h1 h2 h3 h4 h5 h6)
theorem g_ldc (C : Cx X own cc) {index : Nat} {v : Int32} (hc : CB X (.constant own index v)) (d : decode cc pc = .ok (.ldc index, 2)) (k : Gj X a b w M J R (pc + 2) lv (.int v :: rest)) : Gj X a b w M J R pc lv rest :=
  fun H locs ls h1 h2 h3 h4 h5 h6 => lv_ldc C.1 C.2.1 C.2.2.1 hc d (k H locs ls h1 h2 h3 h4 h5 h6)
theorem g_ldc2 (C : Cx X own cc) {index : Nat} {v : Int64} (hc : CB X (.constantLong own index v)) (d : decode cc pc = .ok (.ldc2_w index, 3)) (k : Gj X a b w M J R (pc + 3) lv (.long v :: rest)) : Gj X a b w M J R pc lv rest :=
  fun H locs ls h1 h2 h3 h4 h5 h6 => lv_ldc2 C.1 C.2.1 C.2.2.1 hc d (k H locs ls h1 h2 h3 h4 h5 h6)
theorem g_iload_n (C : Cx X own cc) {k : Fin 4} {x : Int32} (d : decode cc pc = .ok (.iload_n k, 1)) (hl : lv[(k : Nat)]? = some (some (.int x))) (kk : Gj X a b w M J R (pc + 1) lv (.int x :: rest)) : Gj X a b w M J R pc lv rest :=
  fun H locs ls h1 h2 h3 h4 h5 h6 => lv_iload_n C.1 C.2.1 d rfl (h6.at hl) (kk H locs ls h1 h2 h3 h4 h5 h6)
theorem g_iload (C : Cx X own cc) {k : Nat} {x : Int32} (d : decode cc pc = .ok (.iload k, 2)) (hl : lv[k]? = some (some (.int x))) (kk : Gj X a b w M J R (pc + 2) lv (.int x :: rest)) : Gj X a b w M J R pc lv rest :=
  fun H locs ls h1 h2 h3 h4 h5 h6 => lv_iload C.1 C.2.1 d (h6.at hl) (kk H locs ls h1 h2 h3 h4 h5 h6)
theorem g_lload_n (C : Cx X own cc) {k : Fin 4} {x : Int64} (d : decode cc pc = .ok (.lload_n k, 1)) (hl : lv[(k : Nat)]? = some (some (.long x))) (kk : Gj X a b w M J R (pc + 1) lv (.long x :: rest)) : Gj X a b w M J R pc lv rest :=
  fun H locs ls h1 h2 h3 h4 h5 h6 => lv_lload_n C.1 C.2.1 d rfl (h6.at hl) (kk H locs ls h1 h2 h3 h4 h5 h6)
theorem g_lload (C : Cx X own cc) {k : Nat} {x : Int64} (d : decode cc pc = .ok (.lload k, 2)) (hl : lv[k]? = some (some (.long x))) (kk : Gj X a b w M J R (pc + 2) lv (.long x :: rest)) : Gj X a b w M J R pc lv rest :=
  fun H locs ls h1 h2 h3 h4 h5 h6 => lv_lload C.1 C.2.1 d (h6.at hl) (kk H locs ls h1 h2 h3 h4 h5 h6)
theorem g_aload_n (C : Cx X own cc) {k : Fin 4} {x : Nat} (d : decode cc pc = .ok (.aload_n k, 1)) (hl : lv[(k : Nat)]? = some (some (.ref x))) (kk : Gj X a b w M J R (pc + 1) lv (.ref x :: rest)) : Gj X a b w M J R pc lv rest :=
  fun H locs ls h1 h2 h3 h4 h5 h6 => lv_aload_n C.1 C.2.1 d rfl (h6.at hl) (kk H locs ls h1 h2 h3 h4 h5 h6)
theorem g_aload (C : Cx X own cc) {k : Nat} {x : Nat} (d : decode cc pc = .ok (.aload k, 2)) (hl : lv[k]? = some (some (.ref x))) (kk : Gj X a b w M J R (pc + 2) lv (.ref x :: rest)) : Gj X a b w M J R pc lv rest :=
  fun H locs ls h1 h2 h3 h4 h5 h6 => lv_aload C.1 C.2.1 d (h6.at hl) (kk H locs ls h1 h2 h3 h4 h5 h6)
theorem g_istore_n (C : Cx X own cc) {nL : Nat} (hml : (x_c X).maxLocals = nL) {k : Fin 4} {x : Int32} (d : decode cc pc = .ok (.istore_n k, 1)) (hn : (k : Nat) < nL) (ho : okst lv k = true) (kk : Gj X a b w M J R (pc + 1) (lv.set k (some (.int x))) rest) : Gj X a b w M J R pc lv (.int x :: rest) :=
  fun H locs ls h1 h2 h3 h4 h5 h6 => lv_istore_n C.1 C.2.1 d rfl h6.has (by rw [hml]; exact hn) rfl (fun ls' h' => kk H locs ls' h1 h2 h3 h4 h5 (lvo.st1 ho h'))
theorem g_istore (C : Cx X own cc) {nL : Nat} (hml : (x_c X).maxLocals = nL) {k : Nat} {x : Int32} (d : decode cc pc = .ok (.istore k, 2)) (hn : k < nL) (ho : okst lv k = true) (kk : Gj X a b w M J R (pc + 2) (lv.set k (some (.int x))) rest) : Gj X a b w M J R pc lv (.int x :: rest) :=
  fun H locs ls h1 h2 h3 h4 h5 h6 => lv_istore C.1 C.2.1 d h6.has (by rw [hml]; exact hn) rfl (fun ls' h' => kk H locs ls' h1 h2 h3 h4 h5 (lvo.st1 ho h'))
theorem g_astore_n (C : Cx X own cc) {nL : Nat} (hml : (x_c X).maxLocals = nL) {k : Fin 4} {x : Nat} (d : decode cc pc = .ok (.astore_n k, 1)) (hn : (k : Nat) < nL) (ho : okst lv k = true) (kk : Gj X a b w M J R (pc + 1) (lv.set k (some (.ref x))) rest) : Gj X a b w M J R pc lv (.ref x :: rest) :=
  fun H locs ls h1 h2 h3 h4 h5 h6 => lv_astore_n C.1 C.2.1 d rfl h6.has (by rw [hml]; exact hn) rfl (fun ls' h' => kk H locs ls' h1 h2 h3 h4 h5 (lvo.st1 ho h'))
theorem g_astore (C : Cx X own cc) {nL : Nat} (hml : (x_c X).maxLocals = nL) {k : Nat} {x : Nat} (d : decode cc pc = .ok (.astore k, 2)) (hn : k < nL) (ho : okst lv k = true) (kk : Gj X a b w M J R (pc + 2) (lv.set k (some (.ref x))) rest) : Gj X a b w M J R pc lv (.ref x :: rest) :=
  fun H locs ls h1 h2 h3 h4 h5 h6 => lv_astore C.1 C.2.1 d h6.has (by rw [hml]; exact hn) rfl (fun ls' h' => kk H locs ls' h1 h2 h3 h4 h5 (lvo.st1 ho h'))
theorem g_lstore_n (C : Cx X own cc) {nL : Nat} (hml : (x_c X).maxLocals = nL) {k : Fin 4} {x : Int64} (d : decode cc pc = .ok (.lstore_n k, 1)) (hn : (k : Nat) + 1 < nL) (ho : okst lv k = true) (kk : Gj X a b w M J R (pc + 1) ((lv.set k (some (.long x))).set ((k : Nat) + 1) none) rest) : Gj X a b w M J R pc lv (.long x :: rest) :=
  fun H locs ls h1 h2 h3 h4 h5 h6 => lv_lstore_n C.1 C.2.1 d rfl h6.has (by rw [hml]; exact hn) rfl (fun ls' h' => kk H locs ls' h1 h2 h3 h4 h5 (lvo.st2 ho h'))
theorem g_lstore (C : Cx X own cc) {nL : Nat} (hml : (x_c X).maxLocals = nL) {k : Nat} {x : Int64} (d : decode cc pc = .ok (.lstore k, 2)) (hn : k + 1 < nL) (ho : okst lv k = true) (kk : Gj X a b w M J R (pc + 2) ((lv.set k (some (.long x))).set (k + 1) none) rest) : Gj X a b w M J R pc lv (.long x :: rest) :=
  fun H locs ls h1 h2 h3 h4 h5 h6 => lv_lstore C.1 C.2.1 d h6.has (by rw [hml]; exact hn) rfl (fun ls' h' => kk H locs ls' h1 h2 h3 h4 h5 (lvo.st2 ho h'))
theorem g_iinc (C : Cx X own cc) {nL : Nat} (hml : (x_c X).maxLocals = nL) {k : Nat} {n : Int} {x v : Int32} (d : decode cc pc = .ok (.iinc k n, 3)) (hl : lv[k]? = some (some (.int x))) (hv : x + Int32.ofInt n = v) (hn : k < nL) (ho : okst lv k = true) (kk : Gj X a b w M J R (pc + 3) (lv.set k (some (.int v))) rest) : Gj X a b w M J R pc lv rest := by
  intro H locs ls h1 h2 h3 h4 h5 h6
  obtain ⟨q, hq⟩ := List.getElem?_of_mem (lvp_mem.mpr hl)
  exact lv_iinc C.1 C.2.1 d h6.has hq hv (by rw [hml]; exact hn) rfl (fun ls' h' => kk H locs ls' h1 h2 h3 h4 h5 (lvo.st1 ho h'))
theorem g_iadd (C : Cx X own cc) {x y : Int32} (d : decode cc pc = .ok (.iadd, 1)) (k : Gj X a b w M J R (pc + 1) lv (.int (x + y) :: rest)) : Gj X a b w M J R pc lv (.int y :: .int x :: rest) :=
  fun H locs ls h1 h2 h3 h4 h5 h6 => lv_iadd C.1 C.2.1 d (k H locs ls h1 h2 h3 h4 h5 h6)
theorem g_isub (C : Cx X own cc) {x y : Int32} (d : decode cc pc = .ok (.isub, 1)) (k : Gj X a b w M J R (pc + 1) lv (.int (x - y) :: rest)) : Gj X a b w M J R pc lv (.int y :: .int x :: rest) :=
  fun H locs ls h1 h2 h3 h4 h5 h6 => lv_isub C.1 C.2.1 d (k H locs ls h1 h2 h3 h4 h5 h6)
theorem g_imul (C : Cx X own cc) {x y : Int32} (d : decode cc pc = .ok (.imul, 1)) (k : Gj X a b w M J R (pc + 1) lv (.int (x * y) :: rest)) : Gj X a b w M J R pc lv (.int y :: .int x :: rest) :=
  fun H locs ls h1 h2 h3 h4 h5 h6 => lv_imul C.1 C.2.1 d (k H locs ls h1 h2 h3 h4 h5 h6)
theorem g_ior (C : Cx X own cc) {x y : Int32} (d : decode cc pc = .ok (.ior, 1)) (k : Gj X a b w M J R (pc + 1) lv (.int (x ||| y) :: rest)) : Gj X a b w M J R pc lv (.int y :: .int x :: rest) :=
  fun H locs ls h1 h2 h3 h4 h5 h6 => lv_ior C.1 C.2.1 d (k H locs ls h1 h2 h3 h4 h5 h6)
theorem g_iand (C : Cx X own cc) {x y : Int32} (d : decode cc pc = .ok (.iand, 1)) (k : Gj X a b w M J R (pc + 1) lv (.int (x &&& y) :: rest)) : Gj X a b w M J R pc lv (.int y :: .int x :: rest) :=
  fun H locs ls h1 h2 h3 h4 h5 h6 => lv_iand C.1 C.2.1 d (k H locs ls h1 h2 h3 h4 h5 h6)
theorem g_ineg (C : Cx X own cc) {x : Int32} (d : decode cc pc = .ok (.ineg, 1)) (k : Gj X a b w M J R (pc + 1) lv (.int (-x) :: rest)) : Gj X a b w M J R pc lv (.int x :: rest) :=
  fun H locs ls h1 h2 h3 h4 h5 h6 => lv_ineg C.1 C.2.1 d (k H locs ls h1 h2 h3 h4 h5 h6)
theorem g_ishl (C : Cx X own cc) {x y : Int32} (d : decode cc pc = .ok (.ishl, 1)) (k : Gj X a b w M J R (pc + 1) lv (.int (x <<< (y &&& 31)) :: rest)) : Gj X a b w M J R pc lv (.int y :: .int x :: rest) :=
  fun H locs ls h1 h2 h3 h4 h5 h6 => lv_ishl C.1 C.2.1 d (k H locs ls h1 h2 h3 h4 h5 h6)
theorem g_ishr (C : Cx X own cc) {x y : Int32} (d : decode cc pc = .ok (.ishr, 1)) (k : Gj X a b w M J R (pc + 1) lv (.int (x >>> (y &&& 31)) :: rest)) : Gj X a b w M J R pc lv (.int y :: .int x :: rest) :=
  fun H locs ls h1 h2 h3 h4 h5 h6 => lv_ishr C.1 C.2.1 d (k H locs ls h1 h2 h3 h4 h5 h6)
theorem g_ladd (C : Cx X own cc) {x y : Int64} (d : decode cc pc = .ok (.ladd, 1)) (k : Gj X a b w M J R (pc + 1) lv (.long (x + y) :: rest)) : Gj X a b w M J R pc lv (.long y :: .long x :: rest) :=
  fun H locs ls h1 h2 h3 h4 h5 h6 => lv_ladd C.1 C.2.1 d (k H locs ls h1 h2 h3 h4 h5 h6)
theorem g_lmul (C : Cx X own cc) {x y : Int64} (d : decode cc pc = .ok (.lmul, 1)) (k : Gj X a b w M J R (pc + 1) lv (.long (x * y) :: rest)) : Gj X a b w M J R pc lv (.long y :: .long x :: rest) :=
  fun H locs ls h1 h2 h3 h4 h5 h6 => lv_lmul C.1 C.2.1 d (k H locs ls h1 h2 h3 h4 h5 h6)
theorem g_lor (C : Cx X own cc) {x y : Int64} (d : decode cc pc = .ok (.lor, 1)) (k : Gj X a b w M J R (pc + 1) lv (.long (x ||| y) :: rest)) : Gj X a b w M J R pc lv (.long y :: .long x :: rest) :=
  fun H locs ls h1 h2 h3 h4 h5 h6 => lv_lor C.1 C.2.1 d (k H locs ls h1 h2 h3 h4 h5 h6)
theorem g_lneg (C : Cx X own cc) {x : Int64} (d : decode cc pc = .ok (.lneg, 1)) (k : Gj X a b w M J R (pc + 1) lv (.long (-x) :: rest)) : Gj X a b w M J R pc lv (.long x :: rest) :=
  fun H locs ls h1 h2 h3 h4 h5 h6 => lv_lneg C.1 C.2.1 d (k H locs ls h1 h2 h3 h4 h5 h6)
theorem g_lshl (C : Cx X own cc) {x : Int64} {y : Int32} (d : decode cc pc = .ok (.lshl, 1)) (k : Gj X a b w M J R (pc + 1) lv (.long (x <<< (y.toInt64 &&& 63)) :: rest)) : Gj X a b w M J R pc lv (.int y :: .long x :: rest) :=
  fun H locs ls h1 h2 h3 h4 h5 h6 => lv_lshl C.1 C.2.1 d rfl (k H locs ls h1 h2 h3 h4 h5 h6)
theorem g_i2l (C : Cx X own cc) {x : Int32} (d : decode cc pc = .ok (.i2l, 1)) (k : Gj X a b w M J R (pc + 1) lv (.long x.toInt64 :: rest)) : Gj X a b w M J R pc lv (.int x :: rest) :=
  fun H locs ls h1 h2 h3 h4 h5 h6 => lv_i2l C.1 C.2.1 d rfl (k H locs ls h1 h2 h3 h4 h5 h6)
theorem g_l2i (C : Cx X own cc) {x : Int64} (d : decode cc pc = .ok (.l2i, 1)) (k : Gj X a b w M J R (pc + 1) lv (.int x.toInt32 :: rest)) : Gj X a b w M J R pc lv (.long x :: rest) :=
  fun H locs ls h1 h2 h3 h4 h5 h6 => lv_l2i C.1 C.2.1 d rfl (k H locs ls h1 h2 h3 h4 h5 h6)
theorem g_i2b (C : Cx X own cc) {x : Int32} (d : decode cc pc = .ok (.i2b, 1)) (k : Gj X a b w M J R (pc + 1) lv (.int x.toInt8.toInt32 :: rest)) : Gj X a b w M J R pc lv (.int x :: rest) :=
  fun H locs ls h1 h2 h3 h4 h5 h6 => lv_i2b C.1 C.2.1 d rfl (k H locs ls h1 h2 h3 h4 h5 h6)
theorem g_lcmp (C : Cx X own cc) {x y : Int64} (d : decode cc pc = .ok (.lcmp, 1)) (k : Gj X a b w M J R (pc + 1) lv (.int (lg_cmp x y) :: rest)) : Gj X a b w M J R pc lv (.long y :: .long x :: rest) :=
  fun H locs ls h1 h2 h3 h4 h5 h6 => W.lcmp C.1 C.2.1 d (k H locs ls h1 h2 h3 h4 h5 h6)
theorem g_dup (C : Cx X own cc) {v : Value} (d : decode cc pc = .ok (.dup, 1)) (hv : v.category = 1) (k : Gj X a b w M J R (pc + 1) lv (v :: v :: rest)) : Gj X a b w M J R pc lv (v :: rest) :=
  fun H locs ls h1 h2 h3 h4 h5 h6 => lv_dup C.1 C.2.1 d hv (k H locs ls h1 h2 h3 h4 h5 h6)
theorem g_pop (C : Cx X own cc) {v : Value} (d : decode cc pc = .ok (.pop, 1)) (hv : v.category = 1) (k : Gj X a b w M J R (pc + 1) lv rest) : Gj X a b w M J R pc lv (v :: rest) :=
  fun H locs ls h1 h2 h3 h4 h5 h6 => lv_pop C.1 C.2.1 d hv (k H locs ls h1 h2 h3 h4 h5 h6)
theorem g_dup2 (C : Cx X own cc) {v u : Value} (d : decode cc pc = .ok (.dup2, 1)) (hv : v.category = 1) (hu : u.category = 1) (k : Gj X a b w M J R (pc + 1) lv (v :: u :: v :: u :: rest)) : Gj X a b w M J R pc lv (v :: u :: rest) :=
  fun H locs ls h1 h2 h3 h4 h5 h6 => lv_dup2_11 C.1 C.2.1 d hv hu (k H locs ls h1 h2 h3 h4 h5 h6)
theorem g_goto (C : Cx X own cc) {off : Int} {tgt : Nat} (d : decode cc pc = .ok (.goto off, 3)) (ht : (pc : Int) + off = (tgt : Int)) (k : Gj X a b w M J R tgt lv rest) : Gj X a b w M J R pc lv rest :=
  fun H locs ls h1 h2 h3 h4 h5 h6 => lv_goto C.1 C.2.1 d ht (k H locs ls h1 h2 h3 h4 h5 h6)
theorem g_if_eq (C : Cx X own cc) {x : Int32} {off : Int} {tgt : Nat} (d : decode cc pc = .ok (.ifCond .eq off, 3)) (ht : (pc : Int) + off = (tgt : Int)) (kt : x = 0 → Gj X a b w M J R tgt lv rest) (kf : ¬ x = 0 → Gj X a b w M J R (pc + 3) lv rest) : Gj X a b w M J R pc lv (.int x :: rest) :=
  fun H locs ls h1 h2 h3 h4 h5 h6 => lv_if_eq C.1 C.2.1 d ht (fun q => kt q H locs ls h1 h2 h3 h4 h5 h6) (fun q => kf q H locs ls h1 h2 h3 h4 h5 h6)
theorem g_if_ne (C : Cx X own cc) {x : Int32} {off : Int} {tgt : Nat} (d : decode cc pc = .ok (.ifCond .ne off, 3)) (ht : (pc : Int) + off = (tgt : Int)) (kt : ¬ x = 0 → Gj X a b w M J R tgt lv rest) (kf : x = 0 → Gj X a b w M J R (pc + 3) lv rest) : Gj X a b w M J R pc lv (.int x :: rest) :=
  fun H locs ls h1 h2 h3 h4 h5 h6 => lv_if_ne C.1 C.2.1 d ht (fun q => kt q H locs ls h1 h2 h3 h4 h5 h6) (fun q => kf q H locs ls h1 h2 h3 h4 h5 h6)
theorem g_if_lt (C : Cx X own cc) {x : Int32} {off : Int} {tgt : Nat} (d : decode cc pc = .ok (.ifCond .lt off, 3)) (ht : (pc : Int) + off = (tgt : Int)) (kt : x < 0 → Gj X a b w M J R tgt lv rest) (kf : ¬ x < 0 → Gj X a b w M J R (pc + 3) lv rest) : Gj X a b w M J R pc lv (.int x :: rest) :=
  fun H locs ls h1 h2 h3 h4 h5 h6 => lv_if_lt C.1 C.2.1 d ht (fun q => kt q H locs ls h1 h2 h3 h4 h5 h6) (fun q => kf q H locs ls h1 h2 h3 h4 h5 h6)
theorem g_if_ge (C : Cx X own cc) {x : Int32} {off : Int} {tgt : Nat} (d : decode cc pc = .ok (.ifCond .ge off, 3)) (ht : (pc : Int) + off = (tgt : Int)) (kt : 0 ≤ x → Gj X a b w M J R tgt lv rest) (kf : ¬ 0 ≤ x → Gj X a b w M J R (pc + 3) lv rest) : Gj X a b w M J R pc lv (.int x :: rest) :=
  fun H locs ls h1 h2 h3 h4 h5 h6 => lv_if_ge C.1 C.2.1 d ht (fun q => kt q H locs ls h1 h2 h3 h4 h5 h6) (fun q => kf q H locs ls h1 h2 h3 h4 h5 h6)
theorem g_if_gt (C : Cx X own cc) {x : Int32} {off : Int} {tgt : Nat} (d : decode cc pc = .ok (.ifCond .gt off, 3)) (ht : (pc : Int) + off = (tgt : Int)) (kt : 0 < x → Gj X a b w M J R tgt lv rest) (kf : ¬ 0 < x → Gj X a b w M J R (pc + 3) lv rest) : Gj X a b w M J R pc lv (.int x :: rest) :=
  fun H locs ls h1 h2 h3 h4 h5 h6 => lv_if_gt C.1 C.2.1 d ht (fun q => kt q H locs ls h1 h2 h3 h4 h5 h6) (fun q => kf q H locs ls h1 h2 h3 h4 h5 h6)
theorem g_if_le (C : Cx X own cc) {x : Int32} {off : Int} {tgt : Nat} (d : decode cc pc = .ok (.ifCond .le off, 3)) (ht : (pc : Int) + off = (tgt : Int)) (kt : x ≤ 0 → Gj X a b w M J R tgt lv rest) (kf : ¬ x ≤ 0 → Gj X a b w M J R (pc + 3) lv rest) : Gj X a b w M J R pc lv (.int x :: rest) :=
  fun H locs ls h1 h2 h3 h4 h5 h6 => lv_if_le C.1 C.2.1 d ht (fun q => kt q H locs ls h1 h2 h3 h4 h5 h6) (fun q => kf q H locs ls h1 h2 h3 h4 h5 h6)
theorem g_icmp_eq (C : Cx X own cc) {x y : Int32} {off : Int} {tgt : Nat} (d : decode cc pc = .ok (.if_icmp .eq off, 3)) (ht : (pc : Int) + off = (tgt : Int)) (kt : x = y → Gj X a b w M J R tgt lv rest) (kf : ¬ x = y → Gj X a b w M J R (pc + 3) lv rest) : Gj X a b w M J R pc lv (.int y :: .int x :: rest) :=
  fun H locs ls h1 h2 h3 h4 h5 h6 => lv_icmp_eq C.1 C.2.1 d ht (fun q => kt q H locs ls h1 h2 h3 h4 h5 h6) (fun q => kf q H locs ls h1 h2 h3 h4 h5 h6)
theorem g_icmp_ne (C : Cx X own cc) {x y : Int32} {off : Int} {tgt : Nat} (d : decode cc pc = .ok (.if_icmp .ne off, 3)) (ht : (pc : Int) + off = (tgt : Int)) (kt : ¬ x = y → Gj X a b w M J R tgt lv rest) (kf : x = y → Gj X a b w M J R (pc + 3) lv rest) : Gj X a b w M J R pc lv (.int y :: .int x :: rest) :=
  fun H locs ls h1 h2 h3 h4 h5 h6 => lv_icmp_ne C.1 C.2.1 d ht (fun q => kt q H locs ls h1 h2 h3 h4 h5 h6) (fun q => kf q H locs ls h1 h2 h3 h4 h5 h6)
theorem g_icmp_lt (C : Cx X own cc) {x y : Int32} {off : Int} {tgt : Nat} (d : decode cc pc = .ok (.if_icmp .lt off, 3)) (ht : (pc : Int) + off = (tgt : Int)) (kt : x < y → Gj X a b w M J R tgt lv rest) (kf : ¬ x < y → Gj X a b w M J R (pc + 3) lv rest) : Gj X a b w M J R pc lv (.int y :: .int x :: rest) :=
  fun H locs ls h1 h2 h3 h4 h5 h6 => lv_icmp_lt C.1 C.2.1 d ht (fun q => kt q H locs ls h1 h2 h3 h4 h5 h6) (fun q => kf q H locs ls h1 h2 h3 h4 h5 h6)
theorem g_icmp_ge (C : Cx X own cc) {x y : Int32} {off : Int} {tgt : Nat} (d : decode cc pc = .ok (.if_icmp .ge off, 3)) (ht : (pc : Int) + off = (tgt : Int)) (kt : y ≤ x → Gj X a b w M J R tgt lv rest) (kf : ¬ y ≤ x → Gj X a b w M J R (pc + 3) lv rest) : Gj X a b w M J R pc lv (.int y :: .int x :: rest) :=
  fun H locs ls h1 h2 h3 h4 h5 h6 => lv_icmp_ge C.1 C.2.1 d ht (fun q => kt q H locs ls h1 h2 h3 h4 h5 h6) (fun q => kf q H locs ls h1 h2 h3 h4 h5 h6)
theorem g_icmp_gt (C : Cx X own cc) {x y : Int32} {off : Int} {tgt : Nat} (d : decode cc pc = .ok (.if_icmp .gt off, 3)) (ht : (pc : Int) + off = (tgt : Int)) (kt : y < x → Gj X a b w M J R tgt lv rest) (kf : ¬ y < x → Gj X a b w M J R (pc + 3) lv rest) : Gj X a b w M J R pc lv (.int y :: .int x :: rest) :=
  fun H locs ls h1 h2 h3 h4 h5 h6 => lv_icmp_gt C.1 C.2.1 d ht (fun q => kt q H locs ls h1 h2 h3 h4 h5 h6) (fun q => kf q H locs ls h1 h2 h3 h4 h5 h6)
theorem g_icmp_le (C : Cx X own cc) {x y : Int32} {off : Int} {tgt : Nat} (d : decode cc pc = .ok (.if_icmp .le off, 3)) (ht : (pc : Int) + off = (tgt : Int)) (kt : x ≤ y → Gj X a b w M J R tgt lv rest) (kf : ¬ x ≤ y → Gj X a b w M J R (pc + 3) lv rest) : Gj X a b w M J R pc lv (.int y :: .int x :: rest) :=
  fun H locs ls h1 h2 h3 h4 h5 h6 => lv_icmp_le C.1 C.2.1 d ht (fun q => kt q H locs ls h1 h2 h3 h4 h5 h6) (fun q => kf q H locs ls h1 h2 h3 h4 h5 h6)
end GR
