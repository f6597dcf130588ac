section GM
variable {X : gX} {own : String} {cc : ByteArray} {a b pc : Nat} {w : gw} {M : Nat → Nat → Int32} {J : Nat → Nat → Int64} {R : Nat → Nat → Option Nat} {lv : List (Option Value)} {rest : List Value}
theorem gK_0 (C : Cx X own cc) : va_K (x_D X) vwCl [] (x_s X) := ⟨C.2.2.2.2.1, fun k q h => by simp at h⟩
theorem gK_1 (C : Cx X own cc) {i : Nat} {ty : FieldType} (h2 : gTy (x_s X) w) (hi : i < w.1) (hk : 9 ≤ kd i) (ht : aTy (kd i) = ty) : va_K (x_D X) vwCl [(w.2.2 i, ty)] (x_s X) := ⟨C.2.2.2.2.1, fun k q h => by
  match k, h with
  | 0, h => simp at h; subst h; rw [← ht]; exact h2 i hi hk
  | k + 1, h => simp at h⟩
theorem g_get (C : Cx X own cc) {ci i : Nat} (hF : FW X ci) (hi : i < w.1) (hk : kd i = ci) (hc : ci < 9) (k : Nat) {index : Nat} {ref : String} (hkn : k < cN ci) (hl : CB X (.fieldLink own index ref (cT ci k).2.1 (cT ci k).2.2.1)) (hre : (cT ci k).1 = ref) (d : decode cc pc = .ok (.getfield index, 3)) (kk : Gj X a b w M J R (pc + 3) lv (fv w.2.1 (cTy ci k) (M i k) (J i k) (R i k) :: rest)) : Gj X a b w M J R pc lv (.ref (w.2.1 i) :: rest) := by
  intro H locs ls h1 h2 h3 h4 h5 h6
  have he := gW_at (w := w) (M := M) (J := J) (R := R) hi
  rw [gE_o hk hc] at he
  exact va_get (D := x_D X) (ci := ci) (C := cR ci) (T := cT ci) (N := cN ci) (Ts := u_ws (cR ci) (cT ci) (cN ci)) C.1 C.2.1 hF (fun _ h => h) C.2.2.1 (gK_0 C) h1 i he (c_cl hc) k hkn hl (fun x h => by rw [← hre]; exact h) (fvs_at hkn) d (kk H locs ls h1 h2 h3 h4 h5 h6)
theorem g_geti (C : Cx X own cc) {ci i : Nat} (hF : FW X ci) (hi : i < w.1) (hk : kd i = ci) (hc : ci < 9) (k : Nat) {index : Nat} {ref : String} (hkn : k < cN ci) (hty : isI (cTy ci k) = true) (hl : CB X (.fieldLink own index ref (cT ci k).2.1 (cT ci k).2.2.1)) (hre : (cT ci k).1 = ref) {v : Int32} (hv : M i k = v) (d : decode cc pc = .ok (.getfield index, 3)) (kk : Gj X a b w M J R (pc + 3) lv (.int v :: rest)) : Gj X a b w M J R pc lv (.ref (w.2.1 i) :: rest) :=
  g_get C hF hi hk hc k hkn hl hre d (by rw [fv_i hty, hv]; exact kk)
theorem g_getl (C : Cx X own cc) {ci i : Nat} (hF : FW X ci) (hi : i < w.1) (hk : kd i = ci) (hc : ci < 9) (k : Nat) {index : Nat} {ref : String} (hkn : k < cN ci) (hty : isL (cTy ci k) = true) (hl : CB X (.fieldLink own index ref (cT ci k).2.1 (cT ci k).2.2.1)) (hre : (cT ci k).1 = ref) {v : Int64} (hv : J i k = v) (d : decode cc pc = .ok (.getfield index, 3)) (kk : Gj X a b w M J R (pc + 3) lv (.long v :: rest)) : Gj X a b w M J R pc lv (.ref (w.2.1 i) :: rest) :=
  g_get C hF hi hk hc k hkn hl hre d (by rw [fv_l hty, hv]; exact kk)
theorem g_getr (C : Cx X own cc) {ci i : Nat} (hF : FW X ci) (hi : i < w.1) (hk : kd i = ci) (hc : ci < 9) (k : Nat) {index : Nat} {ref : String} (hkn : k < cN ci) (hty : isR (cTy ci k) = true) (hl : CB X (.fieldLink own index ref (cT ci k).2.1 (cT ci k).2.2.1)) (hre : (cT ci k).1 = ref) {j : Nat} (hv : R i k = some j) (d : decode cc pc = .ok (.getfield index, 3)) (kk : Gj X a b w M J R (pc + 3) lv (.ref (w.2.1 j) :: rest)) : Gj X a b w M J R pc lv (.ref (w.2.1 i) :: rest) :=
  g_get C hF hi hk hc k hkn hl hre d (by rw [fv_r hty, hv]; exact kk)
theorem g_put (C : Cx X own cc) {ci i : Nat} (hF : FW X ci) (hi : i < w.1) (hk : kd i = ci) (hc : ci < 9) (k : Nat) {index : Nat} {ref : String} (hkn : k < cN ci) (hl : CB X (.fieldLink own index ref (cT ci k).2.1 (cT ci k).2.2.1)) (hre : (cT ci k).1 = ref) (hfin : (cT ci k).2.2.2 = false) {v : Value} (hn : narrow (cTy ci k) v = v) (hfit : fits (cTy ci k) v = true) {M' : Nat → Nat → Int32} {J' : Nat → Nat → Int64} {R' : Nat → Nat → Option Nat} (hv : fv w.2.1 (cTy ci k) (M' i k) (J' i k) (R' i k) = v) (ho : ∀ j, j ≠ k → M' i j = M i j ∧ J' i j = J i j ∧ R' i j = R i j) (hq : ∀ j, j ≠ i → M' j = M j ∧ J' j = J j ∧ R' j = R j) (d : decode cc pc = .ok (.putfield index, 3)) (kk : Gj X a b w M' J' R' (pc + 3) lv rest) : Gj X a b w M J R pc lv (v :: .ref (w.2.1 i) :: rest) := by
  intro H locs ls h1 h2 h3 h4 h5 h6
  have he := gW_at (w := w) (M := M) (J := J) (R := R) hi
  rw [gE_o hk hc] at he
  refine va_put (D := x_D X) (ci := ci) (C := cR ci) (T := cT ci) (N := cN ci) (Ts := u_ws (cR ci) (cT ci) (cN ci)) C.1 C.2.1 hF (fun _ h => h) (cTy ci) (c_ty hc) (c_nm hc) C.2.2.1 (gK_0 C) h1 (gD_of h3 h4) h5 i he (c_cl hc) k hkn hl (fun x h => by rw [← hre]; exact h) hfin (c_ty hc k hkn) hn hfit (by rw [fvs_len]; exact hkn) d (fun H1 locs1 g1 g2 g3 => ?_)
  rw [gW_set (M' := M') (J' := J') (R' := R') (by rw [gE_o hk hc, fvs_set hv ho]) (fun j hj => gE_ne (hq j hj).1 (hq j hj).2.1 (hq j hj).2.2)] at g1
  exact kk H1 locs1 ls g1 h2 h3 h4 g3 h6
theorem g_puti (C : Cx X own cc) {ci i : Nat} (hF : FW X ci) (hi : i < w.1) (hk : kd i = ci) (hc : ci < 9) (k : Nat) {index : Nat} {ref : String} (hkn : k < cN ci) (hty : isI (cTy ci k) = true) (hl : CB X (.fieldLink own index ref (cT ci k).2.1 (cT ci k).2.2.1)) (hre : (cT ci k).1 = ref) (hfin : (cT ci k).2.2.2 = false) {x : Int32} (hn : narrow (cTy ci k) (.int x) = .int x) (hfit : fits (cTy ci k) (.int x) = true) (d : decode cc pc = .ok (.putfield index, 3)) (kk : Gj X a b w (up2 M i k x) J R (pc + 3) lv rest) : Gj X a b w M J R pc lv (.int x :: .ref (w.2.1 i) :: rest) :=
  g_put C hF hi hk hc k hkn hl hre hfin hn hfit (by rw [fv_i hty, up2_eq]) (fun j hj => ⟨up2_n2 M x hj, rfl, rfl⟩) (fun j hj => ⟨up2_row M x hj, rfl, rfl⟩) d kk
theorem g_putl (C : Cx X own cc) {ci i : Nat} (hF : FW X ci) (hi : i < w.1) (hk : kd i = ci) (hc : ci < 9) (k : Nat) {index : Nat} {ref : String} (hkn : k < cN ci) (hty : isL (cTy ci k) = true) (hl : CB X (.fieldLink own index ref (cT ci k).2.1 (cT ci k).2.2.1)) (hre : (cT ci k).1 = ref) (hfin : (cT ci k).2.2.2 = false) {x : Int64} (hn : narrow (cTy ci k) (.long x) = .long x) (hfit : fits (cTy ci k) (.long x) = true) (d : decode cc pc = .ok (.putfield index, 3)) (kk : Gj X a b w M (up2 J i k x) R (pc + 3) lv rest) : Gj X a b w M J R pc lv (.long x :: .ref (w.2.1 i) :: rest) :=
  g_put C hF hi hk hc k hkn hl hre hfin hn hfit (by rw [fv_l hty, up2_eq]) (fun j hj => ⟨rfl, up2_n2 J x hj, rfl⟩) (fun j hj => ⟨rfl, up2_row J x hj, rfl⟩) d kk
theorem g_putr (C : Cx X own cc) {ci i : Nat} (hF : FW X ci) (hi : i < w.1) (hk : kd i = ci) (hc : ci < 9) (k : Nat) {index : Nat} {ref : String} (hkn : k < cN ci) (hty : isR (cTy ci k) = true) (hl : CB X (.fieldLink own index ref (cT ci k).2.1 (cT ci k).2.2.1)) (hre : (cT ci k).1 = ref) (hfin : (cT ci k).2.2.2 = false) {j : Nat} (hn : narrow (cTy ci k) (.ref (w.2.1 j)) = .ref (w.2.1 j)) (hfit : fits (cTy ci k) (.ref (w.2.1 j)) = true) (d : decode cc pc = .ok (.putfield index, 3)) (kk : Gj X a b w M J (up2 R i k (some j)) (pc + 3) lv rest) : Gj X a b w M J R pc lv (.ref (w.2.1 j) :: .ref (w.2.1 i) :: rest) :=
  g_put C hF hi hk hc k hkn hl hre hfin hn hfit (by rw [fv_r hty, up2_eq]; rfl) (fun j hj => ⟨rfl, rfl, up2_n2 R _ hj⟩) (fun j hj => ⟨rfl, rfl, up2_row R _ hj⟩) d kk
theorem acs_i {ad : Nat → Nat} {c : Nat} {f : Nat → Int32} {g : Nat → Int64} {r : Nat → Option Nat} (h : c = 9 ∨ c = 11) : acs ad c f g r = .inl f := by
  rcases h with rfl | rfl <;> rfl
theorem acs_l {ad : Nat → Nat} {f : Nat → Int32} {g : Nat → Int64} {r : Nat → Option Nat} : acs ad 10 f g r = .inr (.inl g) := rfl
theorem acs_r {ad : Nat → Nat} {c : Nat} {f : Nat → Int32} {g : Nat → Int64} {r : Nat → Option Nat} (h : c = 12 ∨ c = 13) : acs ad c f g r = .inr (.inr (.inr (.inr (fun j => (r j).map ad)))) := by
  rcases h with rfl | rfl <;> rfl
theorem gE_i {i c : Nat} (hk : kd i = c) (h : c = 9 ∨ c = 11) : gE w M J R i = .inl (w.2.2 i, ln i, .inl (M i)) := by rw [gE_a hk (by omega), acs_i h]
theorem gE_l {i : Nat} (hk : kd i = 10) : gE w M J R i = .inl (w.2.2 i, ln i, .inr (.inl (J i))) := by rw [gE_a hk (by omega), acs_l]
theorem gE_r {i c : Nat} (hk : kd i = c) (h : c = 12 ∨ c = 13) : gE w M J R i = .inl (w.2.2 i, ln i, .inr (.inr (.inr (.inr (fun j => (R i j).map w.2.1))))) := by rw [gE_a hk (by omega), acs_r h]
theorem upd_up2 (M : Nat → Nat → Int32) (i k : Nat) (v : Int32) : upd (M i) k v = up2 M i k v i := by funext j; simp [upd, up2]
theorem updL_up2 (J : Nat → Nat → Int64) (i k : Nat) (v : Int64) : vp_updL (J i) k v = up2 J i k v i := by funext j; simp [vp_updL, up2]
theorem g_iald (C : Cx X own cc) {i : Nat} (hi : i < w.1) (hk : kd i = 9) {x : Int32} (hin : vp_in x (ln i)) {v : Int32} (hv : M i x.toNatClampNeg = v) (d : decode cc pc = .ok (.iaload, 1)) (kk : Gj X a b w M J R (pc + 1) lv (.int v :: rest)) : Gj X a b w M J R pc lv (.int x :: .ref (w.2.1 i) :: rest) := by
  intro H locs ls h1 h2 h3 h4 h5 h6
  have he := gW_at (w := w) (M := M) (J := J) (R := R) hi
  rw [gE_i hk (Or.inl rfl)] at he
  subst hv
  exact va_iald C.1 C.2.1 (gK_1 C h2 hi (by omega) (by rw [hk]; rfl)) h1 i 0 he rfl hin d (kk H locs ls h1 h2 h3 h4 h5 h6)
theorem g_bald (C : Cx X own cc) {i : Nat} (hi : i < w.1) (hk : kd i = 11) {x : Int32} (hin : vp_in x (ln i)) {v : Int32} (hv : M i x.toNatClampNeg = v) (d : decode cc pc = .ok (.baload, 1)) (kk : Gj X a b w M J R (pc + 1) lv (.int v :: rest)) : Gj X a b w M J R pc lv (.int x :: .ref (w.2.1 i) :: rest) := by
  intro H locs ls h1 h2 h3 h4 h5 h6
  have he := gW_at (w := w) (M := M) (J := J) (R := R) hi
  rw [gE_i hk (Or.inr rfl)] at he
  subst hv
  exact va_bald C.1 C.2.1 (gK_1 C h2 hi (by omega) (by rw [hk]; rfl)) h1 i 0 he rfl hin d (kk H locs ls h1 h2 h3 h4 h5 h6)
theorem g_lald (C : Cx X own cc) {i : Nat} (hi : i < w.1) (hk : kd i = 10) {x : Int32} (hin : vp_in x (ln i)) {v : Int64} (hv : J i x.toNatClampNeg = v) (d : decode cc pc = .ok (.laload, 1)) (kk : Gj X a b w M J R (pc + 1) lv (.long v :: rest)) : Gj X a b w M J R pc lv (.int x :: .ref (w.2.1 i) :: rest) := by
  intro H locs ls h1 h2 h3 h4 h5 h6
  have he := gW_at (w := w) (M := M) (J := J) (R := R) hi
  rw [gE_l hk] at he
  subst hv
  exact va_lald C.1 C.2.1 (gK_1 C h2 hi (by omega) (by rw [hk]; rfl)) h1 i 0 he rfl hin d (kk H locs ls h1 h2 h3 h4 h5 h6)
theorem g_aald (C : Cx X own cc) {i : Nat} (hi : i < w.1) (hk : kd i = 12 ∨ kd i = 13) {x : Int32} (hin : vp_in x (ln i)) {j : Nat} (hv : R i x.toNatClampNeg = some j) (d : decode cc pc = .ok (.aaload, 1)) (kk : Gj X a b w M J R (pc + 1) lv (.ref (w.2.1 j) :: rest)) : Gj X a b w M J R pc lv (.int x :: .ref (w.2.1 i) :: rest) := by
  intro H locs ls h1 h2 h3 h4 h5 h6
  have he := gW_at (w := w) (M := M) (J := J) (R := R) hi
  rw [gE_r rfl hk] at he
  have hq : va_rf ((R i x.toNatClampNeg).map w.2.1) = .ref (w.2.1 j) := by rw [hv]; rfl
  rcases hk with hk | hk
  · exact va_aldq (C := "FallBench$Program") C.1 C.2.1 (gK_1 C h2 hi (by omega) (by rw [hk]; rfl)) h1 i 0 he rfl hin d (by rw [hq]; exact kk H locs ls h1 h2 h3 h4 h5 h6)
  · exact va_aldq (C := "FallBench$Row") C.1 C.2.1 (gK_1 C h2 hi (by omega) (by rw [hk]; rfl)) h1 i 0 he rfl hin d (by rw [hq]; exact kk H locs ls h1 h2 h3 h4 h5 h6)
theorem g_iast (C : Cx X own cc) {i : Nat} (hi : i < w.1) (hk : kd i = 9) {x v : Int32} (hin : vp_in x (ln i)) (d : decode cc pc = .ok (.iastore, 1)) (kk : Gj X a b w (up2 M i x.toNatClampNeg v) J R (pc + 1) lv rest) : Gj X a b w M J R pc lv (.int v :: .int x :: .ref (w.2.1 i) :: rest) := by
  intro H locs ls h1 h2 h3 h4 h5 h6
  have he := gW_at (w := w) (M := M) (J := J) (R := R) hi
  rw [gE_i hk (Or.inl rfl)] at he
  refine va_iast C.1 C.2.1 (gK_1 C h2 hi (by omega) (by rw [hk]; rfl)) h1 (gD_of h3 h4) h5 i 0 he rfl hin d (fun H1 locs1 g1 g2 g3 => ?_)
  rw [gW_set (M' := up2 M i x.toNatClampNeg v) (J' := J) (R' := R) (by rw [gE_i hk (Or.inl rfl), upd_up2]) (fun j hj => gE_ne (up2_row M v hj) rfl rfl)] at g1
  exact kk H1 locs1 ls g1 h2 h3 h4 g3 h6
theorem g_bast (C : Cx X own cc) {i : Nat} (hi : i < w.1) (hk : kd i = 11) {x v : Int32} (hin : vp_in x (ln i)) (d : decode cc pc = .ok (.bastore, 1)) (kk : Gj X a b w (up2 M i x.toNatClampNeg (vp_nar .byte v)) J R (pc + 1) lv rest) : Gj X a b w M J R pc lv (.int v :: .int x :: .ref (w.2.1 i) :: rest) := by
  intro H locs ls h1 h2 h3 h4 h5 h6
  have he := gW_at (w := w) (M := M) (J := J) (R := R) hi
  rw [gE_i hk (Or.inr rfl)] at he
  refine va_bast C.1 C.2.1 (gK_1 C h2 hi (by omega) (by rw [hk]; rfl)) h1 (gD_of h3 h4) h5 i 0 he rfl hin d (fun H1 locs1 g1 g2 g3 => ?_)
  rw [gW_set (M' := up2 M i x.toNatClampNeg (vp_nar .byte v)) (J' := J) (R' := R) (by rw [gE_i hk (Or.inr rfl), upd_up2]) (fun j hj => gE_ne (up2_row M _ hj) rfl rfl)] at g1
  exact kk H1 locs1 ls g1 h2 h3 h4 g3 h6
theorem g_last (C : Cx X own cc) {i : Nat} (hi : i < w.1) (hk : kd i = 10) {x : Int32} {v : Int64} (hin : vp_in x (ln i)) (d : decode cc pc = .ok (.lastore, 1)) (kk : Gj X a b w M (up2 J i x.toNatClampNeg v) R (pc + 1) lv rest) : Gj X a b w M J R pc lv (.long v :: .int x :: .ref (w.2.1 i) :: rest) := by
  intro H locs ls h1 h2 h3 h4 h5 h6
  have he := gW_at (w := w) (M := M) (J := J) (R := R) hi
  rw [gE_l hk] at he
  refine va_last C.1 C.2.1 (gK_1 C h2 hi (by omega) (by rw [hk]; rfl)) h1 (gD_of h3 h4) h5 i 0 he rfl hin d (fun H1 locs1 g1 g2 g3 => ?_)
  rw [gW_set (M' := M) (J' := up2 J i x.toNatClampNeg v) (R' := R) (by rw [gE_l hk, updL_up2]) (fun j hj => gE_ne rfl (up2_row J v hj) rfl)] at g1
  exact kk H1 locs1 ls g1 h2 h3 h4 g3 h6
theorem g_alen (C : Cx X own cc) {i : Nat} (hi : i < w.1) (hk : 9 ≤ kd i) {v : Int32} (hv : Int32.ofNat (ln i) = v) (d : decode cc pc = .ok (.arraylength, 1)) (kk : Gj X a b w M J R (pc + 1) lv (.int v :: rest)) : Gj X a b w M J R pc lv (.ref (w.2.1 i) :: rest) := by
  intro H locs ls h1 h2 h3 h4 h5 h6
  have he := gW_at (w := w) (M := M) (J := J) (R := R) hi
  rw [gE_a rfl hk] at he
  exact va_alen C.1 C.2.1 (gK_1 C h2 hi hk rfl) h1 i 0 he rfl hv d (kk H locs ls h1 h2 h3 h4 h5 h6)
theorem g_tableIn (C : Cx X own cc) {dflt lo hi : Int} {offs : Array Int} {len : Nat} {x : Int32} {off : Int} {tgt : Nat} (d : decode cc pc = .ok (.tableswitch dflt lo hi offs, len)) (h1 : ¬ x.toInt < lo) (h2 : ¬ hi < x.toInt) (ho : offs[(x.toInt - lo).toNat]? = some off) (ht : (pc : Int) + off = (tgt : Int)) (k : Gj X a b w M J R tgt lv rest) : Gj X a b w M J R pc lv (.int x :: rest) :=
  fun H locs ls g1 g2 g3 g4 g5 g6 => lv_tableIn C.1 C.2.1 d h1 h2 ho ht (k H locs ls g1 g2 g3 g4 g5 g6)
theorem g_tableOut (C : Cx X own cc) {dflt lo hi : Int} {offs : Array Int} {len : Nat} {x : Int32} {tgt : Nat} (d : decode cc pc = .ok (.tableswitch dflt lo hi offs, len)) (h : x.toInt < lo ∨ hi < x.toInt) (ht : (pc : Int) + dflt = (tgt : Int)) (k : Gj X a b w M J R tgt lv rest) : Gj X a b w M J R pc lv (.int x :: rest) :=
  fun H locs ls g1 g2 g3 g4 g5 g6 => lv_tableOut C.1 C.2.1 d h ht (k H locs ls g1 g2 g3 g4 g5 g6)
theorem g_lookup (C : Cx X own cc) {dflt : Int} {ps : Array (Int × Int)} {len : Nat} {x : Int32} {off : Int} {tgt : Nat} (d : decode cc pc = .ok (.lookupswitch dflt ps, len)) (hp : (ps.toList.zip (ps.toList.drop 1)).all (fun (a, next) => a.1 < next.1) = true) (ho : Op.lookupswitch.offset ps.toList dflt x.toInt = off) (ht : (pc : Int) + off = (tgt : Int)) (k : Gj X a b w M J R tgt lv rest) : Gj X a b w M J R pc lv (.int x :: rest) :=
  fun H locs ls g1 g2 g3 g4 g5 g6 => lv_lookup C.1 C.2.1 d hp ho ht (k H locs ls g1 g2 g3 g4 g5 g6)
end GM
