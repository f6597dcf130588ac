/-! THE FRAME: one memory for all cells. kd: the kind of cell i (0 .. 8 an object of that class, 9 int[], 10 long[], 11 byte[], 12 Program[], 13 Row[]); ln: an array's length. M, J, R: ints, longs, references (by cell numbers) by cell and place. -/
def kdL : List Nat := [7, 3,9, 12, 1, 5,9,9,10, 10,10,9,10,9, 2,9,9,9,9, 13, 0,9,9,9,9, 0,9,9,9,9, 0,9,9,9,9, 4,9,9,9,9,9,9, 6, 3,9, 3,9, 3,9, 0,9,9,9,9, 0,9,9,9,9, 2,9,9,9,9, 2,9,9,9,9, 2,9,9,9,9, 3,9,3,9,3,9,3,9,3,9,3,9,3,9,3,9,3,9,3,9, 3,9,3,9,3,9,3,9,3,9,3,9,3,9,3,9,3,9,3,9, 3,9,3,9,3,9,3,9,3,9,3,9,3,9,3,9,3,9,3,9, 8, 11,11, 9,9,9,9,9,9,9, 10,10, 9,9, 9,9,9,9,9, 9,9,9,9,9, 9,9,9,9,9, 9,9, 9]
def lnL : List Nat := [0, 0,1000, 3, 0, 0,1001,1001,1001, 14,20,20,80,80, 0,80,80,80,80, 30, 0,40,40,40,40, 0,40,40,40,40, 0,40,40,40,40, 0,30,30,30,30,30,30, 0, 0,24, 0,24, 0,24, 0,40,40,40,40, 0,40,40,40,40, 0,80,80,80,80, 0,80,80,80,80, 0,80,80,80,80, 0,24,0,24,0,24,0,24,0,24,0,24,0,24,0,24,0,24,0,24, 0,24,0,24,0,24,0,24,0,24,0,24,0,24,0,24,0,24,0,24, 0,24,0,24,0,24,0,24,0,24,0,24,0,24,0,24,0,24,0,24, 0, 1020,1000, 320,320,320,320,4,20,80, 20,80, 720,30, 24,40,40,40,40, 40,40,40,40,7, 30,30,30,30,30, 24,24, 40]
def kd (i : Nat) : Nat := kdL.getD i 0
def ln (i : Nat) : Nat := lnL.getD i 0
def cN (c : Nat) : Nat := match c with | 0 => 13 | 1 => 11 | 2 => 5 | 3 => 2 | 4 => 7 | 5 => 4 | 6 => 7 | 7 => 11 | _ => 60
def cR (c : Nat) : String := match c with | 0 => RX0 | 1 => RX1 | 2 => RX2 | 3 => RX3 | 4 => RX4 | 5 => RX5 | 6 => RX6 | 7 => RX7 | _ => RX8
def cT (c : Nat) : u_T := match c with | 0 => TX0 | 1 => TX1 | 2 => TX2 | 3 => TX3 | 4 => TX4 | 5 => TX5 | 6 => TX6 | 7 => TX7 | _ => TX8
def cTy (c : Nat) : Nat → FieldType := match c with | 0 => tyX0 | 1 => tyX1 | 2 => tyX2 | 3 => tyX3 | 4 => tyX4 | 5 => tyX5 | 6 => tyX6 | 7 => tyX7 | _ => tyX8
def aTy (c : Nat) : FieldType := match c with | 9 => .int | 10 => .long | 11 => .byte | 12 => .object "FallBench$Program" | _ => .object "FallBench$Row"
theorem c_cl {c : Nat} (h : c < 9) : vwCl[c]? = some (cR c, cT c, cN c) := by
  match c, h with
  | 0, _ => rfl
  | 1, _ => rfl
  | 2, _ => rfl
  | 3, _ => rfl
  | 4, _ => rfl
  | 5, _ => rfl
  | 6, _ => rfl
  | 7, _ => rfl
  | 8, _ => rfl
  | n + 9, h => omega
theorem c_nm {c : Nat} (h : c < 9) : ∀ a, a < cN c → ∀ b, b < cN c → a ≠ b → (cT c a).2.1 ≠ (cT c b).2.1 := by
  match c, h with
  | 0, _ => exact nmX0
  | 1, _ => exact nmX1
  | 2, _ => exact nmX2
  | 3, _ => exact nmX3
  | 4, _ => exact nmX4
  | 5, _ => exact nmX5
  | 6, _ => exact nmX6
  | 7, _ => exact nmX7
  | 8, _ => exact nmX8
  | n + 9, h => omega
theorem c_ty {c : Nat} (h : c < 9) : ∀ k, k < cN c → parseFieldDescriptor (cT c k).2.2.1 = some (cTy c k) := by
  match c, h with
  | 0, _ => exact tyX0_ok
  | 1, _ => exact tyX1_ok
  | 2, _ => exact tyX2_ok
  | 3, _ => exact tyX3_ok
  | 4, _ => exact tyX4_ok
  | 5, _ => exact tyX5_ok
  | 6, _ => exact tyX6_ok
  | 7, _ => exact tyX7_ok
  | 8, _ => exact tyX8_ok
  | n + 9, h => omega
abbrev gw : Type := Nat × (Nat → Nat) × (Nat → ClassId)
abbrev gm : Type := (Nat → Nat → Int32) × (Nat → Nat → Int64) × (Nat → Nat → Option Nat)
def up2 {α : Type} (M : Nat → Nat → α) (i k : Nat) (v : α) : Nat → Nat → α := fun a b => if a = i ∧ b = k then v else M a b
theorem up2_eq {α : Type} (M : Nat → Nat → α) (i k : Nat) (v : α) : up2 M i k v i k = v := by simp [up2]
theorem up2_n1 {α : Type} (M : Nat → Nat → α) {i k a b : Nat} (v : α) (h : a ≠ i) : up2 M i k v a b = M a b := by simp [up2, h]
theorem up2_n2 {α : Type} (M : Nat → Nat → α) {i k a b : Nat} (v : α) (h : b ≠ k) : up2 M i k v a b = M a b := by simp [up2, h]
def fv (ad : Nat → Nat) (ty : FieldType) (x : Int32) (y : Int64) (r : Option Nat) : Value := match ty with
  | .long => .long y
  | .object _ => va_rf (r.map ad)
  | .array _ => va_rf (r.map ad)
  | _ => .int x
def isI (ty : FieldType) : Bool := match ty with
  | .int => true
  | .boolean => true
  | _ => false
def isL (ty : FieldType) : Bool := match ty with
  | .long => true
  | _ => false
def isR (ty : FieldType) : Bool := match ty with
  | .object _ => true
  | .array _ => true
  | _ => false
theorem fv_i {ad : Nat → Nat} {ty : FieldType} (h : isI ty = true) (x : Int32) (y : Int64) (r : Option Nat) : fv ad ty x y r = .int x := by
  cases ty <;> simp_all [fv, isI]
theorem fv_l {ad : Nat → Nat} {ty : FieldType} (h : isL ty = true) (x : Int32) (y : Int64) (r : Option Nat) : fv ad ty x y r = .long y := by
  cases ty <;> simp_all [fv, isL]
theorem fv_r {ad : Nat → Nat} {ty : FieldType} (h : isR ty = true) (x : Int32) (y : Int64) (r : Option Nat) : fv ad ty x y r = va_rf (r.map ad) := by
  cases ty <;> simp_all [fv, isR]
def fvs (ad : Nat → Nat) (c : Nat) (f : Nat → Int32) (g : Nat → Int64) (r : Nat → Option Nat) : List Value := (List.range (cN c)).map (fun k => fv ad (cTy c k) (f k) (g k) (r k))
def acs (ad : Nat → Nat) (c : Nat) (f : Nat → Int32) (g : Nat → Int64) (r : Nat → Option Nat) : (Nat → Int32) ⊕ (Nat → Int64) ⊕ (Nat → UInt32) ⊕ (Nat → UInt64) ⊕ (Nat → Option Nat) :=
  if c = 10 then .inr (.inl g) else if 12 ≤ c then .inr (.inr (.inr (.inr (fun j => (r j).map ad)))) else .inl f
def gE (w : gw) (M : Nat → Nat → Int32) (J : Nat → Nat → Int64) (R : Nat → Nat → Option Nat) (i : Nat) : va_E :=
  if kd i < 9 then .inr (kd i, fvs w.2.1 (kd i) (M i) (J i) (R i)) else .inl (w.2.2 i, ln i, acs w.2.1 (kd i) (M i) (J i) (R i))
def gW (w : gw) (M : Nat → Nat → Int32) (J : Nat → Nat → Int64) (R : Nat → Nat → Option Nat) : va_W := (List.range w.1).map (fun i => (w.2.1 i, gE w M J R i))
theorem gW_at {w : gw} {M : Nat → Nat → Int32} {J : Nat → Nat → Int64} {R : Nat → Nat → Option Nat} {i : Nat} (h : i < w.1) : (gW w M J R)[i]? = some (w.2.1 i, gE w M J R i) := by
  simp [gW, h]
theorem gW_of {w : gw} {M : Nat → Nat → Int32} {J : Nat → Nat → Int64} {R : Nat → Nat → Option Nat} {i : Nat} {q : Nat × va_E} (h : (gW w M J R)[i]? = some q) : i < w.1 ∧ q = (w.2.1 i, gE w M J R i) := by
  have hi : i < w.1 := by
    rcases Nat.lt_or_ge i w.1 with h1 | h1
    · exact h1
    · simp [gW, h1] at h
  rw [gW_at hi] at h
  exact ⟨hi, (Option.some.inj h).symm⟩
theorem gW_set {w : gw} {M M' : Nat → Nat → Int32} {J J' : Nat → Nat → Int64} {R R' : Nat → Nat → Option Nat} {i : Nat} {e : va_E} (he : gE w M' J' R' i = e) (ho : ∀ j, j ≠ i → gE w M' J' R' j = gE w M J R j) : (gW w M J R).set i (w.2.1 i, e) = gW w M' J' R' := by
  apply List.ext_getElem?
  intro j
  rcases Nat.lt_or_ge j w.1 with hj | hj
  · rw [gW_at hj]
    by_cases hji : j = i
    · subst hji
      rw [List.getElem?_set_self (by simpa [gW] using hj), he]
    · rw [List.getElem?_set_ne (fun q => hji q.symm), gW_at hj, ho j hji]
  · rw [List.getElem?_eq_none (by simpa [gW] using hj), List.getElem?_eq_none (by simpa [gW] using hj)]
theorem gE_o {w : gw} {M : Nat → Nat → Int32} {J : Nat → Nat → Int64} {R : Nat → Nat → Option Nat} {i c : Nat} (h : kd i = c) (hc : c < 9) : gE w M J R i = .inr (c, fvs w.2.1 c (M i) (J i) (R i)) := by
  simp [gE, h, hc]
theorem gE_a {w : gw} {M : Nat → Nat → Int32} {J : Nat → Nat → Int64} {R : Nat → Nat → Option Nat} {i c : Nat} (h : kd i = c) (hc : 9 ≤ c) : gE w M J R i = .inl (w.2.2 i, ln i, acs w.2.1 c (M i) (J i) (R i)) := by
  simp [gE, h, Nat.not_lt.mpr hc]
theorem gE_ne {w : gw} {M M' : Nat → Nat → Int32} {J J' : Nat → Nat → Int64} {R R' : Nat → Nat → Option Nat} {j : Nat} (h1 : M' j = M j) (h2 : J' j = J j) (h3 : R' j = R j) : gE w M' J' R' j = gE w M J R j := by
  simp [gE, h1, h2, h3]
theorem up2_row {α : Type} (M : Nat → Nat → α) {i k j : Nat} (v : α) (h : j ≠ i) : up2 M i k v j = M j := by
  funext b; simp [up2, h]
theorem fvs_at {ad : Nat → Nat} {c k : Nat} {f : Nat → Int32} {g : Nat → Int64} {r : Nat → Option Nat} (h : k < cN c) : (fvs ad c f g r)[k]? = some (fv ad (cTy c k) (f k) (g k) (r k)) := by
  simp [fvs, h]
theorem fvs_len {ad : Nat → Nat} {c : Nat} {f : Nat → Int32} {g : Nat → Int64} {r : Nat → Option Nat} : (fvs ad c f g r).length = cN c := by simp [fvs]
theorem fvs_set {ad : Nat → Nat} {c k : Nat} {f f' : Nat → Int32} {g g' : Nat → Int64} {r r' : Nat → Option Nat} {v : Value} (hv : fv ad (cTy c k) (f' k) (g' k) (r' k) = v) (ho : ∀ j, j ≠ k → f' j = f j ∧ g' j = g j ∧ r' j = r j) : fvs ad c f' g' r' = (fvs ad c f g r).set k v := by
  apply List.ext_getElem?
  intro j
  rcases Nat.lt_or_ge j (cN c) with hj | hj
  · rw [fvs_at hj]
    by_cases hjk : j = k
    · subst hjk
      rw [List.getElem?_set_self (by rw [fvs_len]; exact hj), hv]
    · rw [List.getElem?_set_ne (fun q => hjk q.symm), fvs_at hj, (ho j hjk).1, (ho j hjk).2.1, (ho j hjk).2.2]
  · rw [List.getElem?_eq_none (by rw [fvs_len]; exact hj), List.getElem?_eq_none (by rw [List.length_set, fvs_len]; exact hj)]
def gInj (w : gw) : Prop := ∀ i j, i < w.1 → j < w.1 → w.2.1 i = w.2.1 j → i = j
def gTy (U : State) (w : gw) : Prop := ∀ i, i < w.1 → 9 ≤ kd i → ArrOfT U (w.2.2 i) (aTy (kd i)) ∧ va_RA U (w.2.2 i) (aTy (kd i))
def gKn (D : va_G) (U : State) : Prop := ∀ (c : Nat) (q : vw_C), vwCl[c]? = some q → u_Kn U q.1 q.2.1 q.2.2 (D.1 c) (D.2 c)
theorem gTy.moved {u U : State} {w : gw} (hvm : u.vm.Alike U.vm) (h : gTy u w) : gTy U w := fun i hi hk => ⟨arrOfT_moved hvm (h i hi hk).1, (h i hi hk).2.moved hvm⟩
theorem gKn.moved {D : va_G} {u U : State} (hvm : u.vm.Alike U.vm) (h : gKn D u) : gKn D U := fun c q hq => u_Kn_moved hvm (h c q hq)
theorem gD_of {w : gw} {M : Nat → Nat → Int32} {J : Nat → Nat → Int64} {R : Nat → Nat → Option Nat} {A : Nat → Prop} (h1 : gInj w) (h2 : ∀ i, i < w.1 → A (w.2.1 i)) : va_D A (gW w M J R) := by
  refine ⟨fun i j p q hp hq he => ?_, fun k q hk => ?_⟩
  · obtain ⟨a1, rfl⟩ := gW_of hp
    obtain ⟨b1, rfl⟩ := gW_of hq
    exact h1 i j a1 b1 he
  · obtain ⟨a1, rfl⟩ := gW_of hk
    exact h2 k a1
/-! THE SURROUNDINGS: what a method may use that is no cell of the memory: links among nest mates, the one static row, the one text, three statics of the JDK -/
def gNest (U : State) : Prop := va_Nw (.methodLinkNest RX1 11 yX5_init RX7) U ∧ va_Nw (.methodLinkNest RX1 44 yX2_init RX7) U ∧ va_Nw (.methodLinkNest RX1 67 yX7_withLetter RX7) U ∧ va_Nw (.methodLinkNest RX7 37 yX0_init RX7) U ∧ va_Nw (.methodLinkNest RX7 50 yX4_init RX7) U ∧ va_Nw (.methodLinkNest RX7 57 yX6_init RX7) U ∧ va_Nw (.methodLinkNest RX6 35 yX0_init RX7) U ∧ va_Nw (.methodLinkNest RX7 70 yX2_init RX7) U ∧ va_Nw (.methodLinkNest RX5 44 yX7_isLetter RX7) U ∧ va_Nw (.methodLinkNest RX5 51 yX7_isDigit RX7) U ∧ va_Nw (.methodLinkNest RX5 57 yX7_withLetter RX7) U ∧ va_Nw (.fieldLinkNest RX1 121 RX7 "REGISTERS_OF" "[I" RX7) U
theorem gNest.warm {s U : State} (hW : s.WarmedH U.vm) (h : gNest s) : gNest U := by
  obtain ⟨a1, a2, a3, a4, a5, a6, a7, a8, a9, b1, b2, b3⟩ := h
  exact ⟨a1.warmM hW, a2.warmM hW, a3.warmM hW, a4.warmM hW, a5.warmM hW, a6.warmM hW, a7.warmM hW, a8.warmM hW, a9.warmM hW, b1.warmM hW, b2.warmM hW, b3.warmF hW⟩
theorem gNest.same {u U : State} (hv : u.vm = U.vm) (h : gNest u) : gNest U := by
  obtain ⟨a1, a2, a3, a4, a5, a6, a7, a8, a9, b1, b2, b3⟩ := h
  exact ⟨va_Nw.same rfl hv a1, va_Nw.same rfl hv a2, va_Nw.same rfl hv a3, va_Nw.same rfl hv a4, va_Nw.same rfl hv a5, va_Nw.same rfl hv a6, va_Nw.same rfl hv a7, va_Nw.same rfl hv a8, va_Nw.same rfl hv a9, va_Nw.same rfl hv b1, va_Nw.same rfl hv b2, va_Nw.same rfl hv b3⟩
def regL : List Int32 := [1, 1, 2, 2, 2, 2, 2, 2, 2, 2, 0, 1, 1, 0]
def regs (j : Nat) : Int32 := regL.getD j 0
def actText : String := "in set copy add sub mul load store less same go jump out stop "
def actL : List Int32 := [105, 110, 32, 115, 101, 116, 32, 99, 111, 112, 121, 32, 97, 100, 100, 32, 115, 117, 98, 32, 109, 117, 108, 32, 108, 111, 97, 100, 32, 115, 116, 111, 114, 101, 32, 108, 101, 115, 115, 32, 115, 97, 109, 101, 32, 103, 111, 32, 106, 117, 109, 112, 32, 111, 117, 116, 32, 115, 116, 111, 112, 32]
def gStat (A : Nat → Prop) (U : State) (H : Heap) : Prop := ∃ q : Nat, va_Z RX7 "REGISTERS_OF" "[I" (.ref q) A U H ∧ va_X q 14 regs U H ∧ ¬ A q
def gText (A : Nat → Prop) (U : State) (H : Heap) : Prop := (∃ adK adV : Nat → Nat, vk_S 1 [62] [actL] adK adV A U H ∧ vk_R RX1 55 actText (adK 0) U) ∧ va_Z "java/lang/String" "COMPACT_STRINGS" "Z" (.int 1) A U H ∧ va_Zq "jdk/internal/util/Preconditions" "SIOOBE_FORMATTER" "Ljava/util/function/BiFunction;" A U H
def gEnv (A : Nat → Prop) (U : State) (H : Heap) : Prop := gNest U ∧ gStat A U H ∧ gText A U H
theorem gEnv.pass {A B : Nat → Prop} {s U : State} {H0 H : Heap} (hW : s.WarmedH U.vm) (hk : ∀ a : Nat, a < H0.size → ¬ A a → H[a]? = H0[a]?) (hAB : ∀ q, B q → A q) (h : gEnv A s H0) : gEnv B U H := by
  obtain ⟨h1, ⟨q, z1, z2, z3⟩, ⟨adK, adV, t1, t2⟩, t3, t4⟩ := h
  have hq : q < H0.size := by
    obtain ⟨scr, g, -⟩ := z2
    exact (Array.getElem?_eq_some_iff.mp g).1
  exact ⟨h1.warm hW, ⟨q, ((z1.kept hk).narrow hAB).moved hW.alike, (z2.kept (hk q hq z3)).moved hW.alike, fun z => z3 (hAB q z)⟩, ⟨adK, adV, ((t1.kept hk).narrow hAB).moved hW.alike, t2.warm hW⟩, ((t3.kept hk).narrow hAB).moved hW.alike, ((t4.kept hk).narrow hAB).moved hW.alike⟩
theorem gEnv.same {A : Nat → Prop} {u U : State} {H : Heap} (hv : u.vm = U.vm) (h : gEnv A u H) : gEnv A U H := by
  obtain ⟨h1, ⟨q, z1, z2, z3⟩, ⟨adK, adV, t1, t2⟩, t3, t4⟩ := h
  have ha : u.vm.Alike U.vm := hv ▸ Vm.Alike.refl u.vm
  exact ⟨h1.same hv, ⟨q, z1.moved ha, z2.moved ha, z3⟩, ⟨adK, adV, t1.moved ha, t2.same hv.symm⟩, t3.moved ha, t4.moved ha⟩
def gI (D : va_G) (w : gw) (M : Nat → Nat → Int32) (J : Nat → Nat → Int64) (R : Nat → Nat → Option Nat) (U : State) (H : Heap) : Prop := va_P D vwCl (gW w M J R) H ∧ gKn D U ∧ gTy U w ∧ gInj w
def gA (w : gw) (sz : Nat) : Nat → Prop := fun q => (∃ i, i < w.1 ∧ w.2.1 i = q) ∨ sz ≤ q
def gQ (D : va_G) (post : Option Value → gw → gm → Prop) (A : Nat → Prop) : Array Value → State → Outcome → State → Prop := fun _ st oc t => (∃ (v : Option Value) (w : gw) (u : gm), oc = .returned v ∧ post v w u ∧ gI D w u.1 u.2.1 u.2.2 t t.heap ∧ ∀ i, i < w.1 → A (w.2.1 i)) ∧ va_F A st t
def Cg (l : Launch) (y : MethodName) (ws : List Cond) (rm : Room) (D : va_G) (w : gw) (av : List Value) (u : gm) (mc ms : Nat) (post : Option Value → gw → gm → Prop) : Prop := ∀ sz : Nat, Met l y ws rm (va_Pc av (fun U => U.heap.size = sz ∧ gI D w u.1 u.2.1 u.2.2 U U.heap ∧ gEnv (gA w sz) U U.heap)) (gQ D post (gA w sz)) mc ms (gA w sz)
/-- an ordinary method: no new cells -/
def Ct (l : Launch) (y : MethodName) (ws : List Cond) (rm : Room) (D : va_G) (w : gw) (av : List Value) (u : gm) (post : Option Value → gm → Prop) : Prop := Cg l y ws rm D w av u 0 0 (fun v w' u' => w' = w ∧ post v u')
/-- the fixed things of a walk -/
abbrev gX : Type := Program × Launch × Env × Room × State × MethodId × Array Value × List Frame × Method × Code × va_G × (Nat → Prop) × (State → Prop)
abbrev x_p (X : gX) : Program := X.1
abbrev x_l (X : gX) : Launch := X.2.1
abbrev x_e (X : gX) : Env := X.2.2.1
abbrev x_R (X : gX) : Room := X.2.2.2.1
abbrev x_s (X : gX) : State := X.2.2.2.2.1
abbrev x_m (X : gX) : MethodId := X.2.2.2.2.2.1
abbrev x_a (X : gX) : Array Value := X.2.2.2.2.2.2.1
abbrev x_b (X : gX) : List Frame := X.2.2.2.2.2.2.2.1
abbrev x_h (X : gX) : Method := X.2.2.2.2.2.2.2.2.1
abbrev x_c (X : gX) : Code := X.2.2.2.2.2.2.2.2.2.1
abbrev x_D (X : gX) : va_G := X.2.2.2.2.2.2.2.2.2.2.1
abbrev x_A (X : gX) : Nat → Prop := X.2.2.2.2.2.2.2.2.2.2.2.1
abbrev x_Q (X : gX) : State → Prop := X.2.2.2.2.2.2.2.2.2.2.2.2
def lvo (ls : Array Slot) (nL : Nat) (lv : List (Option Value)) : Prop := ls.size = nL ∧ lv_wf ls ∧ ∀ (k : Nat) (v : Value), lv[k]? = some (some v) → ls[k]? = some (Slot.val v)
def Gj (X : gX) (a b : Nat) (w : gw) (M : Nat → Nat → Int32) (J : Nat → Nat → Int64) (R : Nat → Nat → Option Nat) (pc : Nat) (lv : List (Option Value)) (st : List Value) : Prop :=
  ∀ (H : Heap) (locs : List Loc) (ls : Array Slot), va_P (x_D X) vwCl (gW w M J R) H → gTy (x_s X) w → gInj w → (∀ i, i < w.1 → x_A X (w.2.1 i)) → va_S (x_A X) (x_s X).heap H locs → lvo ls (x_c X).maxLocals lv →
    W (x_p X) (x_l X) (x_e X) (x_R X) (x_s X) (x_m X) (x_a X) (x_b X) (x_h X) (x_c X) H locs a b (x_Q X) (F0 (x_m X) pc ls st)
def CB (X : gX) (w : Cond) : Prop := w.before (x_a X) (x_s X) = true
def Cx (X : gX) (own : String) (cc : ByteArray) : Prop := (x_p X).tables.exec = Jvm.exec ∧ (x_c X).code = cc ∧ (x_s X).vm.findClass own = some (x_m X).cls ∧ (∀ q, (x_s X).heap.size ≤ q → x_A X q) ∧ gKn (x_D X) (x_s X) ∧ gEnv (x_A X) (x_s X) (x_s X).heap
def FW (X : gX) (c : Nat) : Prop := ∀ w ∈ u_ws (cR c) (cT c) (cN c), CB X w
/-- a method that answers res and leaves M', J', R' -/
def Cf (l : Launch) (y : MethodName) (ws : List Cond) (rm : Room) (D : va_G) (w : gw) (av : List Value) (M : Nat → Nat → Int32) (J : Nat → Nat → Int64) (R : Nat → Nat → Option Nat) (res : Option Value) (M' : Nat → Nat → Int32) (J' : Nat → Nat → Int64) (R' : Nat → Nat → Option Nat) : Prop := Ct l y ws rm D w av (M, J, R) (fun v u => v = res ∧ u = (M', J', R'))
