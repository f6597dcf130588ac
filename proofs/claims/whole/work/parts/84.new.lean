/-! NEW CELLS: worlds that grow; contracts of constructors -/
def gle (w w' : gw) : Prop := w.1 ≤ w'.1 ∧ ∀ i, i < w.1 → w'.2.1 i = w.2.1 i
theorem gle.rf (w : gw) : gle w w := ⟨Nat.le_refl _, fun _ _ => rfl⟩
theorem gle.tr {a b c : gw} (h : gle a b) (g : gle b c) : gle a c := ⟨Nat.le_trans h.1 g.1, fun i hi => (g.2 i (Nat.lt_of_lt_of_le hi h.1)).trans (h.2 i hi)⟩
/-- nothing lies from cell n on, and no reference goes there -/
def Fr (n : Nat) (M : Nat → Nat → Int32) (J : Nat → Nat → Int64) (R : Nat → Nat → Option Nat) : Prop := (∀ i k, n ≤ i → M i k = 0 ∧ J i k = 0 ∧ R i k = none) ∧ ∀ i k j, R i k = some j → j < n
section FR
variable {n m i k j : Nat} {M : Nat → Nat → Int32} {J : Nat → Nat → Int64} {R : Nat → Nat → Option Nat}
theorem Fr.mono (h : Fr n M J R) (hn : n ≤ m) : Fr m M J R := ⟨fun i k q => h.1 i k (by omega), fun i k j q => Nat.lt_of_lt_of_le (h.2 i k j q) hn⟩
theorem Fr.uM (h : Fr n M J R) {v : Int32} (hi : i < n) : Fr n (up2 M i k v) J R := ⟨fun a b q => ⟨by rw [up2_n1 _ _ (by omega)]; exact (h.1 a b q).1, (h.1 a b q).2⟩, h.2⟩
theorem Fr.uJ (h : Fr n M J R) {v : Int64} (hi : i < n) : Fr n M (up2 J i k v) R := ⟨fun a b q => ⟨(h.1 a b q).1, by rw [up2_n1 _ _ (by omega)]; exact (h.1 a b q).2.1, (h.1 a b q).2.2⟩, h.2⟩
theorem Fr.uR (h : Fr n M J R) (hi : i < n) (hj : j < n) : Fr n M J (up2 R i k (some j)) := ⟨fun a b q => ⟨(h.1 a b q).1, (h.1 a b q).2.1, by rw [up2_n1 _ _ (by omega)]; exact (h.1 a b q).2.2⟩, fun a b c q => by
  by_cases z : a = i ∧ b = k
  · obtain ⟨rfl, rfl⟩ := z; rw [up2_eq] at q; cases q; exact hj
  · rw [up2_nb z] at q; exact h.2 a b c q⟩
end FR
def gw1 (w : gw) (q : Nat) (cA : ClassId) : gw := (w.1 + 1, fun i => if i = w.1 then q else w.2.1 i, fun i => if i = w.1 then cA else w.2.2 i)
theorem gw1_n (w : gw) (q : Nat) (cA : ClassId) : (gw1 w q cA).2.1 w.1 = q := if_pos rfl
theorem gw1_o {w : gw} {q : Nat} {cA : ClassId} {i : Nat} (h : i < w.1) : (gw1 w q cA).2.1 i = w.2.1 i := if_neg (by omega)
theorem gw1_c {w : gw} {q : Nat} {cA : ClassId} {i : Nat} (h : i < w.1) : (gw1 w q cA).2.2 i = w.2.2 i := if_neg (by omega)
theorem gle_1 (w : gw) (q : Nat) (cA : ClassId) : gle w (gw1 w q cA) := ⟨Nat.le_succ _, fun i hi => gw1_o hi⟩
theorem fv_none {ad ad' : Nat → Nat} {ty : FieldType} {x : Int32} {y : Int64} {r : Option Nat} (h : r.map ad = r.map ad') : fv ad ty x y r = fv ad' ty x y r := by
  cases ty <;> simp only [fv, h]
section GN
variable {w : gw} {M : Nat → Nat → Int32} {J : Nat → Nat → Int64} {R : Nat → Nat → Option Nat} {q : Nat} {cA : ClassId}
theorem map_ad (hz : Fr w.1 M J R) (i k : Nat) : (R i k).map (gw1 w q cA).2.1 = (R i k).map w.2.1 := by
  rcases h : R i k with _ | j
  · rfl
  · exact congrArg some (gw1_o (hz.2 i k j h))
theorem fvs_ad (hz : Fr w.1 M J R) (c i : Nat) : fvs (gw1 w q cA).2.1 c (M i) (J i) (R i) = fvs w.2.1 c (M i) (J i) (R i) := by
  unfold fvs
  exact List.map_congr_left (fun k _ => fv_none (map_ad hz i k))
theorem acs_ad (hz : Fr w.1 M J R) (c i : Nat) : acs (gw1 w q cA).2.1 c (M i) (J i) (R i) = acs w.2.1 c (M i) (J i) (R i) := by
  unfold acs
  rw [show (fun j => (R i j).map (gw1 w q cA).2.1) = (fun j => (R i j).map w.2.1) from funext (fun j => map_ad hz i j)]
theorem gE_ad (hz : Fr w.1 M J R) {i : Nat} (hi : i < w.1) : gE (gw1 w q cA) M J R i = gE w M J R i := by
  unfold gE
  rw [fvs_ad hz, acs_ad hz, gw1_c hi]
theorem gW_1 (hz : Fr w.1 M J R) : gW (gw1 w q cA) M J R = gW w M J R ++ [(q, gE (gw1 w q cA) M J R w.1)] := by
  unfold gW
  show (List.range (w.1 + 1)).map _ = _
  rw [List.range_succ, List.map_append]
  congr 1
  · exact List.map_congr_left (fun i hi => by rw [gE_ad hz (List.mem_range.mp hi), gw1_o (List.mem_range.mp hi)])
  · show [((gw1 w q cA).2.1 w.1, gE (gw1 w q cA) M J R w.1)] = _
    rw [gw1_n]
theorem gInj_1 {A : Nat → Prop} {e : va_E} (h3 : gInj w) (g2 : va_D A (gW w M J R ++ [(q, e)])) : gInj (gw1 w q cA) := by
  have hl : (gW w M J R).length = w.1 := by simp [gW]
  have key : ∀ i, i < w.1 → ¬ w.2.1 i = q := fun i hi z => by
    have := g2.1 i w.1 (w.2.1 i, gE w M J R i) (q, e) (by rw [List.getElem?_append_left (by omega)]; exact gW_at hi) (by rw [List.getElem?_append_right (by omega), hl]; simp) z
    omega
  intro i j hi hj e9
  have hi : i < w.1 + 1 := hi
  have hj : j < w.1 + 1 := hj
  rcases Nat.lt_or_ge i w.1 with a | a
  · rw [gw1_o a] at e9
    rcases Nat.lt_or_ge j w.1 with b | b
    · rw [gw1_o b] at e9; exact h3 i j a b e9
    · rw [show j = w.1 by omega, gw1_n] at e9; exact absurd e9 (key i a)
  · rw [show i = w.1 by omega, gw1_n] at e9
    rcases Nat.lt_or_ge j w.1 with b | b
    · rw [gw1_o b] at e9; exact absurd e9.symm (key j b)
    · omega
theorem gA_1 {A : Nat → Prop} {e : va_E} (h4 : ∀ i, i < w.1 → A (w.2.1 i)) (g2 : va_D A (gW w M J R ++ [(q, e)])) : ∀ i, i < (gw1 w q cA).1 → A ((gw1 w q cA).2.1 i) := fun i hi => by
  have hi : i < w.1 + 1 := hi
  have hl : (gW w M J R).length = w.1 := by simp [gW]
  rcases Nat.lt_or_ge i w.1 with a | a
  · rw [gw1_o a]; exact h4 i a
  · rw [show i = w.1 by omega, gw1_n]
    exact g2.2 w.1 (q, e) (by rw [List.getElem?_append_right (by omega), hl]; simp)
end GN
theorem c_dv {c : Nat} (h : c < 9) {k : Nat} (hk : k < cN c) : isI (cTy c k) = true ∨ isL (cTy c k) = true ∨ isR (cTy c k) = true := by
  have d : ∀ c, c < 9 → ∀ k, k < cN c → isI (cTy c k) = true ∨ isL (cTy c k) = true ∨ isR (cTy c k) = true := by decide +kernel
  exact d c h k hk
theorem fv_dv {ad : Nat → Nat} {ty : FieldType} (h : isI ty = true ∨ isL ty = true ∨ isR ty = true) : defaultValue ty = fv ad ty 0 0 none := by
  cases ty <;> first | rfl | (simp [isI, isL, isR] at h)
section GNR
variable {X : gX} {own : String} {cc : ByteArray} {a b pc : Nat} {w : gw} {M : Nat → Nat → Int32} {J : Nat → Nat → Int64} {R : Nat → Nat → Option Nat} {lv : List (Option Value)} {rest : List Value}
theorem g_new (C : Cx X own cc) {l : Launch} {D : va_G} {rm0 : Room} {nL : Nat} {nm : String} (V : Cv X l D rm0 nL nm) {ci index N : Nat} (hF : FW X ci) (hc : ci < 9) (hk : kd w.1 = ci) (hz : Fr w.1 M J R) (hcl : CB X (.classLink own index (cR ci))) (hinst : CB X (.instantiable (cR ci) (cN ci))) (hini : CB X (.initialized (cR ci))) (hN : cN ci = N) (hroom : a + 1 ≤ rm0.cells ∧ b + N ≤ rm0.slots) (d : decode cc pc = .ok (.new index, 3)) (kk : ∀ w' : gw, gle w w' → w'.1 = w.1 + 1 → Gj X (a + 1) (b + N) w' M J R (pc + 3) lv (.ref (w'.2.1 w.1) :: rest)) : Gj X a b w M J R pc lv rest := by
  subst hN
  intro H locs ls h1 h2 h3 h4 h5 h6
  refine va_new (D := x_D X) (ci := ci) (C := cR ci) (T := cT ci) (N := cN ci) (Ts := u_ws (cR ci) (cT ci) (cN ci)) C.1 C.2.1 hF (fun _ h => h) (cTy ci) (c_ty hc) C.2.2.1 hcl hinst hini (gK_0 C) h1 (gD_of h3 h4) h5 C.2.2.2.1 (c_cl hc) (fs := fvs w.2.1 ci (M w.1) (J w.1) (R w.1)) (fun j hj => ?_) (by rw [V.1]; exact hroom.1) (by rw [V.1]; exact hroom.2) d (fun q H1 g1 g2 g3 => ?_)
  · unfold vp_V
    rw [List.getD, fvs_at hj, (hz.1 w.1 j (Nat.le_refl _)).1, (hz.1 w.1 j (Nat.le_refl _)).2.1, (hz.1 w.1 j (Nat.le_refl _)).2.2]
    exact fv_dv (c_dv hc hj)
  · have e : gE (gw1 w q 0) M J R w.1 = .inr (ci, fvs w.2.1 ci (M w.1) (J w.1) (R w.1)) := by rw [gE_o hk hc, fvs_ad hz]
    have h := kk (gw1 w q 0) (gle_1 w q 0) rfl
    rw [gw1_n] at h
    refine h H1 locs ls (by rw [gW_1 hz, e]; exact g1) (fun i hi hk9 => ?_) (gInj_1 h3 g2) (gA_1 h4 g2) g3 h6
    have hi : i < w.1 + 1 := hi
    rcases Nat.lt_or_ge i w.1 with z | z
    · rw [gw1_c z]; exact h2 i z hk9
    · rw [show i = w.1 by omega, hk] at hk9; omega
theorem gTy_1 {U : State} {q : Nat} {cA : ClassId} (h2 : gTy U w) (h : ArrOfT U cA (aTy (kd w.1)) ∧ va_RA U cA (aTy (kd w.1))) : gTy U (gw1 w q cA) := fun i hi hk9 => by
  have hi : i < w.1 + 1 := hi
  rcases Nat.lt_or_ge i w.1 with z | z
  · rw [gw1_c z]; exact h2 i z hk9
  · obtain rfl : i = w.1 := by omega
    rw [show (gw1 w q cA).2.2 w.1 = cA from if_pos rfl]; exact h
theorem g_newa (C : Cx X own cc) {l : Launch} {D : va_G} {rm0 : Room} {nL : Nat} {nm : String} (V : Cv X l D rm0 nL nm) {at9 : ArrayType} {N : Nat} {x : Int32} (hk : (kd w.1 = 9 ∧ newarray.typeOf at9 = .int) ∨ (kd w.1 = 10 ∧ newarray.typeOf at9 = .long) ∨ (kd w.1 = 11 ∧ newarray.typeOf at9 = .byte)) (hl : ln w.1 = N) (hz : Fr w.1 M J R) (harr : CB X (.arrayClass (newarray.typeOf at9))) (hx : ¬ x < 0) (hxN : x.toNatClampNeg = N) (hb8 : N * 8 ≤ 536870912) (hroom : a + 1 ≤ rm0.cells ∧ b + N ≤ rm0.slots) (d : decode cc pc = .ok (.newarray at9, 2)) (kk : ∀ w' : gw, gle w w' → w'.1 = w.1 + 1 → Gj X (a + 1) (b + N) w' M J R (pc + 2) lv (.ref (w'.2.1 w.1) :: rest)) : Gj X a b w M J R pc lv (.int x :: rest) := by
  intro H locs ls h1 h2 h3 h4 h5 h6
  have hk9 : 9 ≤ kd w.1 := by omega
  have hty : newarray.typeOf at9 = aTy (kd w.1) := by
    rcases hk with ⟨k1, k2⟩ | ⟨k1, k2⟩ | ⟨k1, k2⟩ <;> (rw [k1, k2]; rfl)
  have hcb : N * componentBytes (aTy (kd w.1)) ≤ 536870912 := by
    rcases hk with ⟨k1, k2⟩ | ⟨k1, k2⟩ | ⟨k1, k2⟩
    · rw [k1]; show N * 4 ≤ _; omega
    · rw [k1]; show N * 8 ≤ _; omega
    · rw [k1]; show N * 1 ≤ _; omega
  have ha : ∀ cA : ClassId, vp_cell cA (ln w.1, acs w.2.1 (kd w.1) (M w.1) (J w.1) (R w.1)) = arrV cA N (fun _ => defaultValue (aTy (kd w.1))) := fun cA => by
    have e1 : (fun j => Value.int (M w.1 j)) = fun _ => Value.int 0 := funext (fun j => by rw [(hz.1 w.1 j (Nat.le_refl _)).1])
    have e2 : (fun j => Value.long (J w.1 j)) = fun _ => Value.long 0 := funext (fun j => by rw [(hz.1 w.1 j (Nat.le_refl _)).2.1])
    rcases hk with ⟨k1, k2⟩ | ⟨k1, k2⟩ | ⟨k1, k2⟩
    · rw [k1, acs_i (Or.inl rfl), vp_cell_i, hl, e1]; rfl
    · rw [k1, acs_l, vp_cell_l, hl, e2]; rfl
    · rw [k1, acs_i (Or.inr rfl), vp_cell_i, hl, e1]; rfl
  refine va_newa (D := x_D X) (tys := []) C.1 C.2.1 harr hty (gK_0 C) h1 (gD_of h3 h4) h5 C.2.2.2.1 ha hx hxN hcb (by rw [V.1]; exact hroom.1) (by rw [V.1]; exact hroom.2) d (fun q cA H1 g0 g1 g2 g3 => ?_)
  have e : gE (gw1 w q cA) M J R w.1 = .inl (cA, ln w.1, acs w.2.1 (kd w.1) (M w.1) (J w.1) (R w.1)) := by
    rw [gE_a rfl hk9, acs_ad hz, show (gw1 w q cA).2.2 w.1 = cA from if_pos rfl]
  have h := kk (gw1 w q cA) (gle_1 w q cA) rfl
  rw [gw1_n] at h
  exact h H1 locs ls (by rw [gW_1 hz, e]; exact g1) (gTy_1 h2 (g0.2 0 (cA, aTy (kd w.1)) rfl)) (gInj_1 h3 g2) (gA_1 h4 g2) g3 h6
theorem g_newq (C : Cx X own cc) {l : Launch} {D : va_G} {rm0 : Room} {nL : Nat} {nm : String} (V : Cv X l D rm0 nL nm) {index N : Nat} {x : Int32} {Cn : String} (hk : (kd w.1 = 12 ∧ Cn = "FallBench$Program") ∨ (kd w.1 = 13 ∧ Cn = "FallBench$Row")) (hl : ln w.1 = N) (hz : Fr w.1 M J R) (hcl : CB X (.classLink own index Cn)) (hao : va_AO Cn (x_s X)) (hx : ¬ x < 0) (hxN : x.toNatClampNeg = N) (hb8 : N * 4 ≤ 536870912) (hroom : a + 1 ≤ rm0.cells ∧ b + N ≤ rm0.slots) (d : decode cc pc = .ok (.anewarray index, 3)) (kk : ∀ w' : gw, gle w w' → w'.1 = w.1 + 1 → Gj X (a + 1) (b + N) w' M J R (pc + 3) lv (.ref (w'.2.1 w.1) :: rest)) : Gj X a b w M J R pc lv (.int x :: rest) := by
  intro H locs ls h1 h2 h3 h4 h5 h6
  have hk9 : 9 ≤ kd w.1 := by omega
  have hty : FieldType.object Cn = aTy (kd w.1) := by
    rcases hk with ⟨k1, k2⟩ | ⟨k1, k2⟩ <;> (rw [k1, k2]; rfl)
  have ha : acs w.2.1 (kd w.1) (M w.1) (J w.1) (R w.1) = .inr (.inr (.inr (.inr (fun _ => none)))) := by
    have e1 : (fun j => (R w.1 j).map w.2.1) = fun _ => none := funext (fun j => by rw [(hz.1 w.1 j (Nat.le_refl _)).2.2]; rfl)
    rcases hk with ⟨k1, k2⟩ | ⟨k1, k2⟩
    · rw [k1, acs_r (Or.inl rfl), e1]
    · rw [k1, acs_r (Or.inr rfl), e1]
  refine va_newq (D := x_D X) (tys := []) C.1 C.2.1 C.2.2.1 hcl hao (gK_0 C) h1 (gD_of h3 h4) h5 C.2.2.2.1 hx hxN hb8 (by rw [V.1]; exact hroom.1) (by rw [V.1]; exact hroom.2) d (fun q cA H1 g0 g1 g2 g3 => ?_)
  have e : gE (gw1 w q cA) M J R w.1 = .inl (cA, N, .inr (.inr (.inr (.inr (fun _ => none))))) := by
    rw [gE_a rfl hk9, acs_ad hz, ha, hl, show (gw1 w q cA).2.2 w.1 = cA from if_pos rfl]
  have h := kk (gw1 w q cA) (gle_1 w q cA) rfl
  rw [gw1_n] at h
  exact h H1 locs ls (by rw [gW_1 hz, e]; exact g1) (gTy_1 h2 (by rw [← hty]; exact g0.2 0 (cA, .object Cn) rfl)) (gInj_1 h3 g2) (gA_1 h4 g2) g3 h6
/-- a final field in a constructor -/
theorem g_putF (C : Cx X own cc) {l : Launch} {D : va_G} {rm0 : Room} {nL : Nat} (V : Cv X l D rm0 nL "<init>") {ci i : Nat} (hF : FW X ci) (hi : i < w.1) (hk : kd i = ci) (hc : ci < 9) (k : Nat) {index : Nat} {ref : String} (hkn : k < cN ci) (hty : isR (cTy ci k) = true) (hl : CB X (.fieldLink own index ref (cT ci k).2.1 (cT ci k).2.2.1)) (hre : (cT ci k).1 = ref) (hfin : (cT ci k).2.2.2 = true) (hdecl : (cT ci k).1 = own) {j : Nat} (hn : narrow (cTy ci k) (.ref (w.2.1 j)) = .ref (w.2.1 j)) (hfit : fits (cTy ci k) (.ref (w.2.1 j)) = true) (d : decode cc pc = .ok (.putfield index, 3)) (kk : Gj X a b w M J (up2 R i k (some j)) (pc + 3) lv rest) : Gj X a b w M J R pc lv (.ref (w.2.1 j) :: .ref (w.2.1 i) :: rest) := by
  intro H locs ls h1 h2 h3 h4 h5 h6
  have he := gW_at (w := w) (M := M) (J := J) (R := R) hi
  rw [gE_o hk hc] at he
  refine va_putF (D := x_D X) (ci := ci) (C := cR ci) (T := cT ci) (N := cN ci) (Ts := u_ws (cR ci) (cT ci) (cN ci)) C.1 C.2.1 hF (fun _ h => h) (cTy ci) (c_ty hc) (c_nm hc) C.2.2.1 (gK_0 C) h1 (gD_of h3 h4) h5 i he (c_cl hc) k hkn hl (fun x h => by rw [← hre]; exact h) hfin V.2.2.2.2 hdecl (c_ty hc k hkn) hn hfit (by rw [fvs_len]; exact hkn) d (fun H1 locs1 g1 g2 g3 => ?_)
  have hv : fv w.2.1 (cTy ci k) (M i k) (J i k) (up2 R i k (some j) i k) = .ref (w.2.1 j) := by rw [fv_r hty, up2_eq]; rfl
  have ho : ∀ y, y ≠ k → M i y = M i y ∧ J i y = J i y ∧ up2 R i k (some j) i y = R i y := fun y hy => ⟨rfl, rfl, up2_n2 R _ hy⟩
  rw [gW_set (M' := M) (J' := J) (R' := up2 R i k (some j)) (by rw [gE_o hk hc, fvs_set hv ho]) (fun j hj => gE_ne rfl rfl (up2_row R _ hj))] at g1
  exact kk H1 locs1 ls g1 h2 h3 h4 g3 h6
theorem g_objInit (C : Cx X own cc) {l : Launch} {D : va_G} {rm0 : Room} {nL : Nat} {nm : String} (V : Cv X l D rm0 nL nm) {index x : Nat} (hlk : CB X (.methodLink own index objectInit)) (hin : CB X (.instanceMethod objectInit)) (hcode : CB X (.code objectInit ⟨#[0xb1]⟩ 1 none)) (hroom : 1 ≤ rm0.frames ∧ (rest.map fun v => v.category).sum + 12 ≤ rm0.locals) (d : decode cc pc = .ok (.invokespecial index, 3)) (kk : Gj X a b w M J R (pc + 3) lv rest) : Gj X a b w M J R pc lv (.ref x :: rest) := by
  intro H locs ls h1 h2 h3 h4 h5 h6
  exact W.objInit C.1 C.2.1 C.2.2.1 hlk hin hcode (g := F0 (x_m X) pc ls (.ref x :: rest)) rfl h6.1 rfl d (by rw [V.1]; exact hroom.1) (by rw [V.1]; show 2 * 0 + _ + 12 ≤ _; have := hroom.2; omega) (kk H locs ls h1 h2 h3 h4 h5 h6)
end GNR
