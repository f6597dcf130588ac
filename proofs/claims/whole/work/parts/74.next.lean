/-! THE REFERENCE'S PARSER: next -/
def rk (k : Int32) : Int32 := if k = 6 then 0 else k + 1
def nxP (T : List Int32) (a : Nat) (M : Nat → Nat → Int32) (J : Nat → Nat → Int64) (m : Nat → Nat → Int32) (j : Nat → Nat → Int64) : Prop := m 134 6 = nI a ∧ m 134 8 = rk (tkA T a).1 ∧ (¬ (tkA T a).1 = 0 → m 134 7 = nI (tkA T a).2.1) ∧ ((tkA T a).1 = 2 ∨ (tkA T a).1 = 3 → m 134 9 = (tkA T a).2.2.1) ∧ ((tkA T a).1 = 1 → j 134 10 = enc8 (tkA T a).2.2.2) ∧ (∀ x y, ¬ (x = 134 ∧ 6 ≤ y ∧ y ≤ 9) → m x y = M x y) ∧ (∀ x y, ¬ (x = 134 ∧ y = 10) → j x y = J x y)
section NX
variable {T : List Int32} {a : Nat} {M m : Nat → Nat → Int32} {J j : Nat → Nat → Int64}
theorem nx6 (h : T.length ≤ a) (h6 : m 134 6 = nI a) (h8 : m 134 8 = 0) (h7 : m 134 7 = nI a) (hF : ∀ x y, ¬ (x = 134 ∧ 6 ≤ y ∧ y ≤ 9) → m x y = M x y) (hJ : ∀ x y, ¬ (x = 134 ∧ y = 10) → j x y = J x y) : nxP T a M J m j := by
  unfold nxP
  rw [tkA_6 h]
  exact ⟨h6, h8, fun _ => h7, fun z => by rcases z with z | z <;> exact absurd z (by dsimp only; decide), fun z => absurd z (by dsimp only; decide), hF, hJ⟩
theorem nx2 (h : ¬ T.length ≤ a) (h2 : isRg T a) (h6 : m 134 6 = nI a) (h8 : m 134 8 = 3) (h7 : m 134 7 = nI (a + 2)) (h9 : m 134 9 = T.getD (a + 1) 0 - 48) (hF : ∀ x y, ¬ (x = 134 ∧ 6 ≤ y ∧ y ≤ 9) → m x y = M x y) (hJ : ∀ x y, ¬ (x = 134 ∧ y = 10) → j x y = J x y) : nxP T a M J m j := by
  unfold nxP
  rw [tkA_2 h h2]
  exact ⟨h6, h8, fun _ => h7, fun _ => h9, fun z => absurd z (by dsimp only; decide), hF, hJ⟩
theorem nx1 (h : ¬ T.length ≤ a) (h2 : ¬ isRg T a) (h3 : ¬ isLe (T.getD a 0) = 0) (h6 : m 134 6 = nI a) (h8 : m 134 8 = if (tw qL T a).length ≤ 8 then 2 else 1) (h7 : m 134 7 = nI (a + (tw qL T a).length)) (h10 : (tw qL T a).length ≤ 8 → j 134 10 = enc8 (tw qL T a)) (hF : ∀ x y, ¬ (x = 134 ∧ 6 ≤ y ∧ y ≤ 9) → m x y = M x y) (hJ : ∀ x y, ¬ (x = 134 ∧ y = 10) → j x y = J x y) : nxP T a M J m j := by
  unfold nxP
  rw [tkA_1 h h2 h3]
  by_cases g : (tw qL T a).length ≤ 8
  · rw [if_pos g] at h8 ⊢
    exact ⟨h6, h8, fun _ => h7, fun z => by rcases z with z | z <;> exact absurd z (by dsimp only; decide), fun _ => h10 g, hF, hJ⟩
  · rw [if_neg g] at h8 ⊢
    exact ⟨h6, h8, fun _ => h7, fun z => by rcases z with z | z <;> exact absurd z (by dsimp only; decide), fun z => absurd z (by dsimp only; decide), hF, hJ⟩
theorem nx3 (h : ¬ T.length ≤ a) (h2 : ¬ isRg T a) (h3 : isLe (T.getD a 0) = 0) (h4 : ¬ isDi (T.getD a 0) = 0 ∨ T.getD a 0 = 45) (h5 : 1 ≤ (ndg T a).length) (h6 : m 134 6 = nI a) {M' : Nat → Nat → Int32} (hn : numP T a M' m) (hF : ∀ x y, ¬ (x = 134 ∧ 6 ≤ y ∧ y ≤ 9) → m x y = M x y) (hJ : ∀ x y, ¬ (x = 134 ∧ y = 10) → j x y = J x y) : nxP T a M J m j := by
  obtain ⟨n7, n8, n9, -⟩ := hn
  unfold nxP
  rw [tkA_3 h h2 h3 h4]
  by_cases g : (ndg T a).length ≤ 6 ∧ isLe (T.getD (nst T a + (ndg T a).length) 0) = 0
  · rw [if_pos g] at n8
    rw [if_pos ⟨h5, g⟩]
    exact ⟨h6, n8, fun _ => n7, fun _ => n9 g.1, fun z => absurd z (by dsimp only; decide), hF, hJ⟩
  · rw [if_neg g] at n8
    rw [if_neg (fun z => g z.2)]
    exact ⟨h6, n8, fun _ => n7, fun z => by rcases z with z | z <;> exact absurd z (by dsimp only; decide), fun z => absurd z (by dsimp only; decide), hF, hJ⟩
theorem nx0 (h : ¬ T.length ≤ a) (h2 : ¬ isRg T a) (h3 : isLe (T.getD a 0) = 0) (h4 : isDi (T.getD a 0) = 0) (h5 : T.getD a 0 = 45 → isDi (T.getD (a + 1) 0) = 0) (h6 : m 134 6 = nI a) (h8 : m 134 8 = if T.getD a 0 = 58 then 5 else if T.getD a 0 = 10 then 6 else 1) (h7 : m 134 7 = nI (a + 1)) (hF : ∀ x y, ¬ (x = 134 ∧ 6 ≤ y ∧ y ≤ 9) → m x y = M x y) (hJ : ∀ x y, ¬ (x = 134 ∧ y = 10) → j x y = J x y) : nxP T a M J m j := by
  unfold nxP
  by_cases g : T.getD a 0 = 45
  · have hD : ndg T a = [] := by
      unfold ndg nst
      rw [if_pos g]
      exact tw_n (fun z => qD_t.mp z (h5 g))
    rw [tkA_3 h h2 h3 (Or.inr g), hD, if_neg (fun z => absurd z.1 (by decide))]
    rw [if_neg (by rw [g]; decide), if_neg (by rw [g]; decide)] at h8
    exact ⟨h6, h8, fun z => absurd rfl z, fun z => by rcases z with z | z <;> exact absurd z (by dsimp only; decide), fun z => absurd z (by dsimp only; decide), hF, hJ⟩
  · rw [tkA_0 h h2 h3 (fun z => z.elim (fun y => y h4) g)]
    by_cases g1 : T.getD a 0 = 10
    · rw [if_pos g1]
      rw [if_neg (by rw [g1]; decide), if_pos g1] at h8
      exact ⟨h6, h8, fun _ => h7, fun z => by rcases z with z | z <;> exact absurd z (by dsimp only; decide), fun z => absurd z (by dsimp only; decide), hF, hJ⟩
    · rw [if_neg g1]
      by_cases g2 : T.getD a 0 = 58
      · rw [if_pos g2]
        rw [if_pos g2] at h8
        exact ⟨h6, h8, fun _ => h7, fun z => by rcases z with z | z <;> exact absurd z (by dsimp only; decide), fun z => absurd z (by dsimp only; decide), hF, hJ⟩
      · rw [if_neg g2]
        rw [if_neg g2, if_neg g1] at h8
        exact ⟨h6, h8, fun _ => h7, fun z => by rcases z with z | z <;> exact absurd z (by dsimp only; decide), fun z => absurd z (by dsimp only; decide), hF, hJ⟩
end NX

set_option maxHeartbeats 4000000 in
set_option maxRecDepth 100000 in
theorem c_X8_next {l : Launch} {D : va_G} {w : gw} {M : Nat → Nat → Int32} {J : Nat → Nat → Int64} {R : Nat → Nat → Option Nat} (hw : w.1 = 166) (hR : LayM R) {T : List Int32} (hX : okX T) (hx : txM M T) {p : Nat} (hend : M 134 7 = nI p) (hp : p ≤ T.length) : Ct l yX8_next wsX8_next ({ frames := 2, cells := 0, slots := 0, locals := 43 } : Room) D w [.ref (w.2.1 134)] (M, J, R) (fun v u => v = none ∧ u.2.2 = R ∧ nxP T (skp T p) M J u.1 u.2.1) := by
  refine Cg.of (own := RX8) (cc := cX8_next) (maxL := 3) (ret := none) 2 (by decide) rfl rfl (Nat.le_of_ble_eq_true rfl) (fun X C hts V Rr => ?_)
  have F8 : FW X 8 := fun q h => hts q (List.mem_cons_of_mem _ (List.mem_append_right _ h))
  show Gj X 0 0 w M J R 0 [some (.ref (w.2.1 134)), none, none] []
  have hT := hX.1
  obtain ⟨a, hae⟩ : ∃ a, a = skp T p := ⟨_, rfl⟩
  have ha : a ≤ T.length := by rw [hae]; exact skp_le T hp
  rw [← hae] at Rr
  have hx1 : ∀ m : Nat → Nat → Int32, (∀ x y, ¬ (x = 134 ∧ 6 ≤ y ∧ y ≤ 9) → m x y = M x y) → txM m T := fun m q => ⟨(q 134 3 (by omega)).trans hx.1, fun k hk => by rw [q 136 k (by omega)]; exact hx.2 k hk⟩
  have o2 : ∀ (v : Int32) x y, ¬ (x = 134 ∧ 6 ≤ y ∧ y ≤ 9) → (up2 (up2 M 134 6 (nI a)) 134 7 v) x y = M x y := fun v x y q => by rw [up2_nb (fun z => q ⟨z.1, by omega⟩), up2_nb (fun z => q ⟨z.1, by omega⟩)]
  have e6 : ∀ v : Int32, (up2 (up2 M 134 6 (nI a)) 134 7 v) 134 6 = nI a := fun v => by rw [up2_n2 _ _ (by decide), up2_eq]
  have e7 : ∀ v : Int32, (up2 (up2 M 134 6 (nI a)) 134 7 v) 134 7 = v := fun v => up2_eq _ _ _ _
  have t203 : ¬ T.length ≤ a → ¬ isRg T a → Gj X 0 0 w (up2 (up2 M 134 6 (nI a)) 134 7 (nI (a + 1))) J R 203 [some (.ref (w.2.1 134)), some (.int (T.getD a 0)), none] [] := by
    intro hlt hrg
    have nam : ¬ isLe (T.getD a 0) = 0 → ∀ dd k v, k + dd = a + (tw qL T a).length → a ≤ k → k ≤ a + 8 → (k - a) + (tw qL T k).length = (tw qL T a).length → ((tw qL T a).length ≤ 8 → (tw qL T k).foldl f8 v = enc8 (tw qL T a)) → Gj X 0 0 w (up2 (up2 M 134 6 (nI a)) 134 7 (nI (a + (tw qL T a).length))) (up2 J 134 10 v) R 247 [some (.ref (w.2.1 134)), some (.int (T.getD a 0)), some (.int (nI k))] [] := by
      intro hle dd
      have hlW : a + (tw qL T a).length ≤ T.length := tw_le qL T ha
      have tail : ∀ k v, ((tw qL T a).length ≤ 8 → v = enc8 (tw qL T a)) → Gj X 0 0 w (up2 (up2 M 134 6 (nI a)) 134 7 (nI (a + (tw qL T a).length))) (up2 J 134 10 v) R 290 [some (.ref (w.2.1 134)), some (.int (T.getD a 0)), some (.int (nI k))] [] := by
        intro k v hv
        refine g_aload_n C dX8_next_290 rfl ?_
        refine g_aload_n C dX8_next_291 rfl ?_
        refine g_geti (v := nI (a + (tw qL T a).length)) C F8 (by rw [hw]; decide) rfl (by decide) 7 (by decide) rfl (hts (.fieldLink RX8 118 "FallBenchModel" "end" "I") (by decide +kernel)) rfl (e7 _) dX8_next_292 ?_
        refine g_aload_n C dX8_next_295 rfl ?_
        refine g_geti (v := nI a) C F8 (by rw [hw]; decide) rfl (by decide) 6 (by decide) rfl (hts (.fieldLink RX8 121 "FallBenchModel" "at" "I") (by decide +kernel)) rfl (e6 _) dX8_next_296 ?_
        refine g_isub C dX8_next_299 ?_
        rw [pk_sub (by omega), Nat.add_sub_cancel_left]
        refine g_bipush (v := 8) C dX8_next_300 (by decide) ?_
        refine g_icmp_le (tgt := 309) C dX8_next_302 (by decide) (fun c302 => ?_) (fun c302 => ?_)
        · refine g_iconst (v := 2) C dX8_next_309 (by decide) ?_
          refine g_puti C F8 (by rw [hw]; decide) rfl (by decide) 8 (by decide) rfl (hts (.fieldLink RX8 128 "FallBenchModel" "token" "I") (by decide +kernel)) rfl rfl rfl rfl dX8_next_310 ?_
          refine g_goto (tgt := 389) C dX8_next_313 (by decide) ?_
          exact g_vret C Rr ⟨rfl, ⟨rfl, rfl, nx1 hlt hrg hle (show up2 (up2 (up2 M 134 6 (nI a)) 134 7 (nI (a + (tw qL T a).length))) 134 8 2 134 6 = _ by rw [up2_n2 _ _ (by decide)]; exact e6 _) (show up2 (up2 (up2 M 134 6 (nI a)) 134 7 (nI (a + (tw qL T a).length))) 134 8 2 134 8 = _ by rw [up2_eq, if_pos ((nI_leI (b := 8) (by omega) (by decide)).mp c302)]) (show up2 (up2 (up2 M 134 6 (nI a)) 134 7 (nI (a + (tw qL T a).length))) 134 8 2 134 7 = _ by rw [up2_n2 _ _ (by decide)]; exact e7 _) (fun q => show up2 J 134 10 v 134 10 = _ by rw [up2_eq]; exact hv q) (fun x y q => show up2 (up2 (up2 M 134 6 (nI a)) 134 7 (nI (a + (tw qL T a).length))) 134 8 2 x y = _ by rw [up2_nb (fun z => q ⟨z.1, by omega⟩)]; exact o2 _ x y q) (fun x y q => up2_nb q)⟩⟩ dX8_next_389
        · refine g_iconst (v := 1) C dX8_next_305 (by decide) ?_
          refine g_goto (tgt := 310) C dX8_next_306 (by decide) ?_
          refine g_puti C F8 (by rw [hw]; decide) rfl (by decide) 8 (by decide) rfl (hts (.fieldLink RX8 128 "FallBenchModel" "token" "I") (by decide +kernel)) rfl rfl rfl rfl dX8_next_310 ?_
          refine g_goto (tgt := 389) C dX8_next_313 (by decide) ?_
          exact g_vret C Rr ⟨rfl, ⟨rfl, rfl, nx1 hlt hrg hle (show up2 (up2 (up2 M 134 6 (nI a)) 134 7 (nI (a + (tw qL T a).length))) 134 8 1 134 6 = _ by rw [up2_n2 _ _ (by decide)]; exact e6 _) (show up2 (up2 (up2 M 134 6 (nI a)) 134 7 (nI (a + (tw qL T a).length))) 134 8 1 134 8 = _ by rw [up2_eq, if_neg (fun y => c302 (nI_le (b := 8) y (by decide)))]) (show up2 (up2 (up2 M 134 6 (nI a)) 134 7 (nI (a + (tw qL T a).length))) 134 8 1 134 7 = _ by rw [up2_n2 _ _ (by decide)]; exact e7 _) (fun q => show up2 J 134 10 v 134 10 = _ by rw [up2_eq]; exact hv q) (fun x y q => show up2 (up2 (up2 M 134 6 (nI a)) 134 7 (nI (a + (tw qL T a).length))) 134 8 1 x y = _ by rw [up2_nb (fun z => q ⟨z.1, by omega⟩)]; exact o2 _ x y q) (fun x y q => up2_nb q)⟩⟩ dX8_next_389
      induction dd with
      | zero =>
        intro k v h1 h2 h8 h3 h4
        have h0 : tw qL T k = [] := List.length_eq_zero_iff.mp (by omega)
        rw [h0] at h4
        refine g_iload_n C dX8_next_247 rfl ?_
        refine g_aload_n C dX8_next_248 rfl ?_
        refine g_geti (v := nI (a + (tw qL T a).length)) C F8 (by rw [hw]; decide) rfl (by decide) 7 (by decide) rfl (hts (.fieldLink RX8 118 "FallBenchModel" "end" "I") (by decide +kernel)) rfl (e7 _) dX8_next_249 ?_
        refine g_icmp_ge (tgt := 290) C dX8_next_252 (by decide) (fun c252 => ?_) (fun c252 => absurd c252 (not_not_intro (nI_le (by omega) (by omega))))
        exact tail k v h4
      | succ dd ih =>
        intro k v h1 h2 h8 h3 h4
        have hne : (k < T.length ∧ qL (T.getD k 0) = true) := Classical.byContradiction (fun z => by rw [tw_n z] at h3; simp at h3; omega)
        have hc := tw_c (q := qL) hne.1 hne.2
        rw [hc] at h3 h4
        rw [List.length_cons] at h3
        refine g_iload_n C dX8_next_247 rfl ?_
        refine g_aload_n C dX8_next_248 rfl ?_
        refine g_geti (v := nI (a + (tw qL T a).length)) C F8 (by rw [hw]; decide) rfl (by decide) 7 (by decide) rfl (hts (.fieldLink RX8 118 "FallBenchModel" "end" "I") (by decide +kernel)) rfl (e7 _) dX8_next_249 ?_
        refine g_icmp_ge (tgt := 290) C dX8_next_252 (by decide) (fun c252 => absurd c252 (nI_ge (by omega) (by omega))) (fun c252 => ?_)
        refine g_iload_n C dX8_next_255 rfl ?_
        refine g_aload_n C dX8_next_256 rfl ?_
        refine g_geti (v := nI a) C F8 (by rw [hw]; decide) rfl (by decide) 6 (by decide) rfl (hts (.fieldLink RX8 121 "FallBenchModel" "at" "I") (by decide +kernel)) rfl (e6 _) dX8_next_257 ?_
        refine g_bipush (v := 8) C dX8_next_260 (by decide) ?_
        refine g_iadd C dX8_next_262 ?_
        rw [show nI a + 8 = nI (a + 8) from nI_add a 8]
        refine g_icmp_ge (tgt := 290) C dX8_next_263 (by decide) (fun c263 => ?_) (fun c263 => ?_)
        · have := (nI_leI (a := a + 8) (b := k) (by omega) (by omega)).mp c263
          exact tail k v (fun q => by omega)
        · refine g_aload_n C dX8_next_266 rfl ?_
          refine g_aload_n C dX8_next_267 rfl ?_
          refine g_getl (v := v) C F8 (by rw [hw]; decide) rfl (by decide) 10 (by decide) rfl (hts (.fieldLink RX8 141 "FallBenchModel" "name" "J") (by decide +kernel)) rfl (up2_eq _ _ _ _) dX8_next_268 ?_
          refine g_bipush (v := 8) C dX8_next_271 (by decide) ?_
          refine g_lshl C dX8_next_273 ?_
          refine g_aload_n C dX8_next_274 rfl ?_
          refine g_iload_n C dX8_next_275 rfl ?_
          refine g_callVf C hts V (i := 134) (gX8_next_X8_sign) rfl hdX8_sign (by decide) (c_X8_sign (p := k) hw hR hX (hx1 _ (o2 _)) (by omega)) (by rw [hw]; decide) rfl (by decide) rfl rfl (Nat.le_of_ble_eq_true rfl) dX8_next_276 ?_
          refine g_i2l C dX8_next_279 ?_
          refine g_lor C dX8_next_280 ?_
          refine g_putl C F8 (by rw [hw]; decide) rfl (by decide) 10 (by decide) rfl (hts (.fieldLink RX8 141 "FallBenchModel" "name" "J") (by decide +kernel)) rfl rfl rfl rfl dX8_next_281 ?_
          refine g_iinc (v := nI (k + 1)) C V.2.1 dX8_next_284 rfl (nI_succ k).symm (by decide) rfl ?_
          refine g_goto (tgt := 247) C dX8_next_287 (by decide) ?_
          rw [up2_tw]
          exact ih (k + 1) _ (by omega) (by omega) (by have := (nI_ltI (a := k) (b := a + 8) (by omega) (by omega)).mp (lt_of_nle c263); omega) (by omega) h4
    have wnd : ¬ isLe (T.getD a 0) = 0 → ∀ dd q, q + dd = T.length + 1 → q ≤ T.length → a < q → (q - a) + (tw qL T q).length = (tw qL T a).length → Gj X 0 0 w (up2 (up2 M 134 6 (nI a)) 134 7 (nI q)) J R 210 [some (.ref (w.2.1 134)), some (.int (T.getD a 0)), none] [] := by
      intro hle dd
      induction dd with
      | zero => intro q h1 h2; omega
      | succ dd ih =>
        intro q h1 h2 h3 h4
        refine g_aload_n C dX8_next_210 rfl ?_
        refine g_aload_n C dX8_next_211 rfl ?_
        refine g_geti (v := nI q) C F8 (by rw [hw]; decide) rfl (by decide) 7 (by decide) rfl (hts (.fieldLink RX8 118 "FallBenchModel" "end" "I") (by decide +kernel)) rfl (e7 _) dX8_next_212 ?_
        refine g_callVf C hts V (i := 134) (gX8_next_X8_sign) rfl hdX8_sign (by decide) (c_X8_sign (p := q) hw hR hX (hx1 _ (o2 _)) (by omega)) (by rw [hw]; decide) rfl (by decide) rfl rfl (Nat.le_of_ble_eq_true rfl) dX8_next_215 ?_
        refine g_callSf C hts V (gX8_next_X8_isLetter) rfl hdX8_isLetter (by decide) c_X8_isLetter rfl rfl (Nat.le_of_ble_eq_true rfl) dX8_next_218 ?_
        refine g_if_eq (tgt := 237) C dX8_next_221 (by decide) (fun c221 => ?_) (fun c221 => ?_)
        · have h0 : tw qL T q = [] := tw_n (fun y => absurd c221 (qL_t.mp y))
          rw [h0] at h4
          have h4 : (q - a) + 0 = (tw qL T a).length := h4
          obtain rfl : q = a + (tw qL T a).length := by omega
          refine g_aload_n C dX8_next_237 rfl ?_
          refine g_lconst (v := 0) C dX8_next_238 (by decide) ?_
          refine g_putl C F8 (by rw [hw]; decide) rfl (by decide) 10 (by decide) rfl (hts (.fieldLink RX8 141 "FallBenchModel" "name" "J") (by decide +kernel)) rfl rfl rfl rfl dX8_next_239 ?_
          refine g_aload_n C dX8_next_242 rfl ?_
          refine g_geti (v := nI a) C F8 (by rw [hw]; decide) rfl (by decide) 6 (by decide) rfl (hts (.fieldLink RX8 121 "FallBenchModel" "at" "I") (by decide +kernel)) rfl (e6 _) dX8_next_243 ?_
          refine g_istore_n C V.2.1 dX8_next_246 (by decide) rfl ?_
          exact nam hle (tw qL T a).length a 0 (by omega) (by omega) (by omega) (by omega) (fun _ => rfl)
        · refine g_aload_n C dX8_next_224 rfl ?_
          refine g_dup C dX8_next_225 rfl ?_
          refine g_geti (v := nI q) C F8 (by rw [hw]; decide) rfl (by decide) 7 (by decide) rfl (hts (.fieldLink RX8 118 "FallBenchModel" "end" "I") (by decide +kernel)) rfl (e7 _) dX8_next_226 ?_
          refine g_iconst (v := 1) C dX8_next_229 (by decide) ?_
          refine g_iadd C dX8_next_230 ?_
          refine g_puti C F8 (by rw [hw]; decide) rfl (by decide) 7 (by decide) rfl (hts (.fieldLink RX8 118 "FallBenchModel" "end" "I") (by decide +kernel)) rfl rfl rfl rfl dX8_next_231 ?_
          refine g_goto (tgt := 210) C dX8_next_234 (by decide) ?_
          have hq := qL_t.mpr c221
          have hlq := hq.1
          rw [tw_c (q := qL) hq.1 hq.2, List.length_cons] at h4
          rw [up2_tw, nI_p1]
          exact ih (q + 1) (by omega) (by omega) (by omega) (by omega)
    refine g_iload_n C dX8_next_203 rfl ?_
    refine g_callSf C hts V (gX8_next_X8_isLetter) rfl hdX8_isLetter (by decide) c_X8_isLetter rfl rfl (Nat.le_of_ble_eq_true rfl) dX8_next_204 ?_
    refine g_if_eq (tgt := 316) C dX8_next_207 (by decide) (fun c207 => ?_) (fun c207 => ?_)
    · refine g_iload_n C dX8_next_316 rfl ?_
      refine g_callSf C hts V (gX8_next_X8_isDigit) rfl hdX8_isDigit (by decide) c_X8_isDigit rfl rfl (Nat.le_of_ble_eq_true rfl) dX8_next_317 ?_
      refine g_if_ne (tgt := 345) C dX8_next_320 (by decide) (fun c320 => ?_) (fun c320 => ?_)
      · refine g_aload_n C dX8_next_345 rfl ?_
        refine g_iload_n C dX8_next_346 rfl ?_
        refine g_bipush (v := 45) C dX8_next_347 (by decide) ?_
        refine g_icmp_ne (tgt := 356) C dX8_next_349 (by decide) (fun c349 => ?_) (fun c349 => ?_)
        · refine g_iconst (v := 0) C dX8_next_356 (by decide) ?_
          refine g_callVt C hts V (i := 134) (gX8_next_X8_numeral) rfl hdX8_numeral (by decide) (c_X8_numeral (a := a) hw hR hX (hx1 _ (o2 _)) (e6 _) ha (by rw [if_neg c349])) (by rw [hw]; decide) rfl (by decide) rfl rfl (Nat.le_of_ble_eq_true rfl) dX8_next_357 (fun v M1 J1 R1 h => ?_)
          obtain ⟨h0, hJ1, hR1, hN⟩ := h
          subst h0
          have hR1 := Eq.symm hR1
          subst hR1
          have hJ1 := Eq.symm hJ1
          subst hJ1
          dsimp only at hN
          refine g_goto (tgt := 389) C dX8_next_360 (by decide) ?_
          exact g_vret C Rr ⟨rfl, ⟨rfl, rfl, nx3 hlt hrg c207 (Or.inl c320) (by
    have hm : nst T a = a := by
      unfold nst
      rw [if_neg (fun y => c320 (by rw [y]; decide))]
    have hq := qD_t.mpr c320
    unfold ndg
    rw [hm, tw_c (q := qD) hq.1 hq.2, List.length_cons]; omega) (show M1 134 6 = _ by rw [hN.2.2.2 134 6 (by omega)]; exact e6 _) hN (fun x y q => show M1 x y = M x y by rw [hN.2.2.2 x y (fun z => q ⟨z.1, by omega⟩)]; exact o2 _ x y q) (fun _ _ _ => rfl)⟩⟩ dX8_next_389
        · refine g_iconst (v := 1) C dX8_next_352 (by decide) ?_
          refine g_goto (tgt := 357) C dX8_next_353 (by decide) ?_
          refine g_callVt C hts V (i := 134) (gX8_next_X8_numeral) rfl hdX8_numeral (by decide) (c_X8_numeral (a := a) hw hR hX (hx1 _ (o2 _)) (e6 _) ha (by rw [if_pos c349])) (by rw [hw]; decide) rfl (by decide) rfl rfl (Nat.le_of_ble_eq_true rfl) dX8_next_357 (fun v M1 J1 R1 h => ?_)
          obtain ⟨h0, hJ1, hR1, hN⟩ := h
          subst h0
          have hR1 := Eq.symm hR1
          subst hR1
          have hJ1 := Eq.symm hJ1
          subst hJ1
          dsimp only at hN
          refine g_goto (tgt := 389) C dX8_next_360 (by decide) ?_
          exact g_vret C Rr ⟨rfl, ⟨rfl, rfl, nx3 hlt hrg c207 (Or.inl c320) (by
    have hm : nst T a = a := by
      unfold nst
      rw [if_neg (fun y => c320 (by rw [y]; decide))]
    have hq := qD_t.mpr c320
    unfold ndg
    rw [hm, tw_c (q := qD) hq.1 hq.2, List.length_cons]; omega) (show M1 134 6 = _ by rw [hN.2.2.2 134 6 (by omega)]; exact e6 _) hN (fun x y q => show M1 x y = M x y by rw [hN.2.2.2 x y (fun z => q ⟨z.1, by omega⟩)]; exact o2 _ x y q) (fun _ _ _ => rfl)⟩⟩ dX8_next_389
      · refine g_iload_n C dX8_next_323 rfl ?_
        refine g_bipush (v := 45) C dX8_next_324 (by decide) ?_
        refine g_icmp_ne (tgt := 363) C dX8_next_326 (by decide) (fun c326 => ?_) (fun c326 => ?_)
        · refine g_aload_n C dX8_next_363 rfl ?_
          refine g_iload_n C dX8_next_364 rfl ?_
          refine g_bipush (v := 58) C dX8_next_365 (by decide) ?_
          refine g_icmp_ne (tgt := 374) C dX8_next_367 (by decide) (fun c367 => ?_) (fun c367 => ?_)
          · refine g_iload_n C dX8_next_374 rfl ?_
            refine g_bipush (v := 10) C dX8_next_375 (by decide) ?_
            refine g_icmp_ne (tgt := 385) C dX8_next_377 (by decide) (fun c377 => ?_) (fun c377 => ?_)
            · refine g_iconst (v := 1) C dX8_next_385 (by decide) ?_
              refine g_puti C F8 (by rw [hw]; decide) rfl (by decide) 8 (by decide) rfl (hts (.fieldLink RX8 128 "FallBenchModel" "token" "I") (by decide +kernel)) rfl rfl rfl rfl dX8_next_386 ?_
              exact g_vret C Rr ⟨rfl, ⟨rfl, rfl, nx0 hlt hrg c207 c320 (fun y => absurd y c326) (show up2 (up2 (up2 M 134 6 (nI a)) 134 7 (nI (a + 1))) 134 8 1 134 6 = _ by rw [up2_n2 _ _ (by decide)]; exact e6 _) (show up2 (up2 (up2 M 134 6 (nI a)) 134 7 (nI (a + 1))) 134 8 1 134 8 = _ by rw [up2_eq, if_neg c367, if_neg c377]) (show up2 (up2 (up2 M 134 6 (nI a)) 134 7 (nI (a + 1))) 134 8 1 134 7 = _ by rw [up2_n2 _ _ (by decide), e7]) (fun x y q => show up2 (up2 (up2 M 134 6 (nI a)) 134 7 (nI (a + 1))) 134 8 1 x y = _ by rw [up2_nb (fun z => q ⟨z.1, by omega⟩)]; exact o2 _ x y q) (fun _ _ _ => rfl)⟩⟩ dX8_next_389
            · refine g_bipush (v := 6) C dX8_next_380 (by decide) ?_
              refine g_goto (tgt := 386) C dX8_next_382 (by decide) ?_
              refine g_puti C F8 (by rw [hw]; decide) rfl (by decide) 8 (by decide) rfl (hts (.fieldLink RX8 128 "FallBenchModel" "token" "I") (by decide +kernel)) rfl rfl rfl rfl dX8_next_386 ?_
              exact g_vret C Rr ⟨rfl, ⟨rfl, rfl, nx0 hlt hrg c207 c320 (fun y => absurd y c326) (show up2 (up2 (up2 M 134 6 (nI a)) 134 7 (nI (a + 1))) 134 8 6 134 6 = _ by rw [up2_n2 _ _ (by decide)]; exact e6 _) (show up2 (up2 (up2 M 134 6 (nI a)) 134 7 (nI (a + 1))) 134 8 6 134 8 = _ by rw [up2_eq, if_neg c367, if_pos c377]) (show up2 (up2 (up2 M 134 6 (nI a)) 134 7 (nI (a + 1))) 134 8 6 134 7 = _ by rw [up2_n2 _ _ (by decide), e7]) (fun x y q => show up2 (up2 (up2 M 134 6 (nI a)) 134 7 (nI (a + 1))) 134 8 6 x y = _ by rw [up2_nb (fun z => q ⟨z.1, by omega⟩)]; exact o2 _ x y q) (fun _ _ _ => rfl)⟩⟩ dX8_next_389
          · refine g_iconst (v := 5) C dX8_next_370 (by decide) ?_
            refine g_goto (tgt := 386) C dX8_next_371 (by decide) ?_
            refine g_puti C F8 (by rw [hw]; decide) rfl (by decide) 8 (by decide) rfl (hts (.fieldLink RX8 128 "FallBenchModel" "token" "I") (by decide +kernel)) rfl rfl rfl rfl dX8_next_386 ?_
            exact g_vret C Rr ⟨rfl, ⟨rfl, rfl, nx0 hlt hrg c207 c320 (fun y => absurd y c326) (show up2 (up2 (up2 M 134 6 (nI a)) 134 7 (nI (a + 1))) 134 8 5 134 6 = _ by rw [up2_n2 _ _ (by decide)]; exact e6 _) (show up2 (up2 (up2 M 134 6 (nI a)) 134 7 (nI (a + 1))) 134 8 5 134 8 = _ by rw [up2_eq, if_pos c367]) (show up2 (up2 (up2 M 134 6 (nI a)) 134 7 (nI (a + 1))) 134 8 5 134 7 = _ by rw [up2_n2 _ _ (by decide), e7]) (fun x y q => show up2 (up2 (up2 M 134 6 (nI a)) 134 7 (nI (a + 1))) 134 8 5 x y = _ by rw [up2_nb (fun z => q ⟨z.1, by omega⟩)]; exact o2 _ x y q) (fun _ _ _ => rfl)⟩⟩ dX8_next_389
        · refine g_aload_n C dX8_next_329 rfl ?_
          refine g_aload_n C dX8_next_330 rfl ?_
          refine g_geti (v := nI a) C F8 (by rw [hw]; decide) rfl (by decide) 6 (by decide) rfl (hts (.fieldLink RX8 121 "FallBenchModel" "at" "I") (by decide +kernel)) rfl (e6 _) dX8_next_331 ?_
          refine g_iconst (v := 1) C dX8_next_334 (by decide) ?_
          refine g_iadd C dX8_next_335 ?_
          rw [nI_p1]
          refine g_callVf C hts V (i := 134) (gX8_next_X8_sign) rfl hdX8_sign (by decide) (c_X8_sign (p := a + 1) hw hR hX (hx1 _ (o2 _)) (by omega)) (by rw [hw]; decide) rfl (by decide) rfl rfl (Nat.le_of_ble_eq_true rfl) dX8_next_336 ?_
          refine g_callSf C hts V (gX8_next_X8_isDigit) rfl hdX8_isDigit (by decide) c_X8_isDigit rfl rfl (Nat.le_of_ble_eq_true rfl) dX8_next_339 ?_
          refine g_if_eq (tgt := 363) C dX8_next_342 (by decide) (fun c342 => ?_) (fun c342 => ?_)
          · refine g_aload_n C dX8_next_363 rfl ?_
            refine g_iload_n C dX8_next_364 rfl ?_
            refine g_bipush (v := 58) C dX8_next_365 (by decide) ?_
            refine g_icmp_ne (tgt := 374) C dX8_next_367 (by decide) (fun c367 => ?_) (fun c367 => ?_)
            · refine g_iload_n C dX8_next_374 rfl ?_
              refine g_bipush (v := 10) C dX8_next_375 (by decide) ?_
              refine g_icmp_ne (tgt := 385) C dX8_next_377 (by decide) (fun c377 => ?_) (fun c377 => ?_)
              · refine g_iconst (v := 1) C dX8_next_385 (by decide) ?_
                refine g_puti C F8 (by rw [hw]; decide) rfl (by decide) 8 (by decide) rfl (hts (.fieldLink RX8 128 "FallBenchModel" "token" "I") (by decide +kernel)) rfl rfl rfl rfl dX8_next_386 ?_
                exact g_vret C Rr ⟨rfl, ⟨rfl, rfl, nx0 hlt hrg c207 c320 (fun _ => c342) (show up2 (up2 (up2 M 134 6 (nI a)) 134 7 (nI (a + 1))) 134 8 1 134 6 = _ by rw [up2_n2 _ _ (by decide)]; exact e6 _) (show up2 (up2 (up2 M 134 6 (nI a)) 134 7 (nI (a + 1))) 134 8 1 134 8 = _ by rw [up2_eq, if_neg c367, if_neg c377]) (show up2 (up2 (up2 M 134 6 (nI a)) 134 7 (nI (a + 1))) 134 8 1 134 7 = _ by rw [up2_n2 _ _ (by decide), e7]) (fun x y q => show up2 (up2 (up2 M 134 6 (nI a)) 134 7 (nI (a + 1))) 134 8 1 x y = _ by rw [up2_nb (fun z => q ⟨z.1, by omega⟩)]; exact o2 _ x y q) (fun _ _ _ => rfl)⟩⟩ dX8_next_389
              · refine g_bipush (v := 6) C dX8_next_380 (by decide) ?_
                refine g_goto (tgt := 386) C dX8_next_382 (by decide) ?_
                refine g_puti C F8 (by rw [hw]; decide) rfl (by decide) 8 (by decide) rfl (hts (.fieldLink RX8 128 "FallBenchModel" "token" "I") (by decide +kernel)) rfl rfl rfl rfl dX8_next_386 ?_
                exact g_vret C Rr ⟨rfl, ⟨rfl, rfl, nx0 hlt hrg c207 c320 (fun _ => c342) (show up2 (up2 (up2 M 134 6 (nI a)) 134 7 (nI (a + 1))) 134 8 6 134 6 = _ by rw [up2_n2 _ _ (by decide)]; exact e6 _) (show up2 (up2 (up2 M 134 6 (nI a)) 134 7 (nI (a + 1))) 134 8 6 134 8 = _ by rw [up2_eq, if_neg c367, if_pos c377]) (show up2 (up2 (up2 M 134 6 (nI a)) 134 7 (nI (a + 1))) 134 8 6 134 7 = _ by rw [up2_n2 _ _ (by decide), e7]) (fun x y q => show up2 (up2 (up2 M 134 6 (nI a)) 134 7 (nI (a + 1))) 134 8 6 x y = _ by rw [up2_nb (fun z => q ⟨z.1, by omega⟩)]; exact o2 _ x y q) (fun _ _ _ => rfl)⟩⟩ dX8_next_389
            · refine g_iconst (v := 5) C dX8_next_370 (by decide) ?_
              refine g_goto (tgt := 386) C dX8_next_371 (by decide) ?_
              refine g_puti C F8 (by rw [hw]; decide) rfl (by decide) 8 (by decide) rfl (hts (.fieldLink RX8 128 "FallBenchModel" "token" "I") (by decide +kernel)) rfl rfl rfl rfl dX8_next_386 ?_
              exact g_vret C Rr ⟨rfl, ⟨rfl, rfl, nx0 hlt hrg c207 c320 (fun _ => c342) (show up2 (up2 (up2 M 134 6 (nI a)) 134 7 (nI (a + 1))) 134 8 5 134 6 = _ by rw [up2_n2 _ _ (by decide)]; exact e6 _) (show up2 (up2 (up2 M 134 6 (nI a)) 134 7 (nI (a + 1))) 134 8 5 134 8 = _ by rw [up2_eq, if_pos c367]) (show up2 (up2 (up2 M 134 6 (nI a)) 134 7 (nI (a + 1))) 134 8 5 134 7 = _ by rw [up2_n2 _ _ (by decide), e7]) (fun x y q => show up2 (up2 (up2 M 134 6 (nI a)) 134 7 (nI (a + 1))) 134 8 5 x y = _ by rw [up2_nb (fun z => q ⟨z.1, by omega⟩)]; exact o2 _ x y q) (fun _ _ _ => rfl)⟩⟩ dX8_next_389
          · refine g_aload_n C dX8_next_345 rfl ?_
            refine g_iload_n C dX8_next_346 rfl ?_
            refine g_bipush (v := 45) C dX8_next_347 (by decide) ?_
            refine g_icmp_ne (tgt := 356) C dX8_next_349 (by decide) (fun c349 => ?_) (fun c349 => ?_)
            · refine g_iconst (v := 0) C dX8_next_356 (by decide) ?_
              refine g_callVt C hts V (i := 134) (gX8_next_X8_numeral) rfl hdX8_numeral (by decide) (c_X8_numeral (a := a) hw hR hX (hx1 _ (o2 _)) (e6 _) ha (by rw [if_neg c349])) (by rw [hw]; decide) rfl (by decide) rfl rfl (Nat.le_of_ble_eq_true rfl) dX8_next_357 (fun v M1 J1 R1 h => ?_)
              obtain ⟨h0, hJ1, hR1, hN⟩ := h
              subst h0
              have hR1 := Eq.symm hR1
              subst hR1
              have hJ1 := Eq.symm hJ1
              subst hJ1
              dsimp only at hN
              refine g_goto (tgt := 389) C dX8_next_360 (by decide) ?_
              exact g_vret C Rr ⟨rfl, ⟨rfl, rfl, nx3 hlt hrg c207 (Or.inr c326) (by
    have hm : nst T a = a + 1 := by
      unfold nst
      rw [if_pos c326]
    have hq := qD_t.mpr c342
    unfold ndg
    rw [hm, tw_c (q := qD) hq.1 hq.2, List.length_cons]; omega) (show M1 134 6 = _ by rw [hN.2.2.2 134 6 (by omega)]; exact e6 _) hN (fun x y q => show M1 x y = M x y by rw [hN.2.2.2 x y (fun z => q ⟨z.1, by omega⟩)]; exact o2 _ x y q) (fun _ _ _ => rfl)⟩⟩ dX8_next_389
            · refine g_iconst (v := 1) C dX8_next_352 (by decide) ?_
              refine g_goto (tgt := 357) C dX8_next_353 (by decide) ?_
              refine g_callVt C hts V (i := 134) (gX8_next_X8_numeral) rfl hdX8_numeral (by decide) (c_X8_numeral (a := a) hw hR hX (hx1 _ (o2 _)) (e6 _) ha (by rw [if_pos c349])) (by rw [hw]; decide) rfl (by decide) rfl rfl (Nat.le_of_ble_eq_true rfl) dX8_next_357 (fun v M1 J1 R1 h => ?_)
              obtain ⟨h0, hJ1, hR1, hN⟩ := h
              subst h0
              have hR1 := Eq.symm hR1
              subst hR1
              have hJ1 := Eq.symm hJ1
              subst hJ1
              dsimp only at hN
              refine g_goto (tgt := 389) C dX8_next_360 (by decide) ?_
              exact g_vret C Rr ⟨rfl, ⟨rfl, rfl, nx3 hlt hrg c207 (Or.inr c326) (by
    have hm : nst T a = a + 1 := by
      unfold nst
      rw [if_pos c326]
    have hq := qD_t.mpr c342
    unfold ndg
    rw [hm, tw_c (q := qD) hq.1 hq.2, List.length_cons]; omega) (show M1 134 6 = _ by rw [hN.2.2.2 134 6 (by omega)]; exact e6 _) hN (fun x y q => show M1 x y = M x y by rw [hN.2.2.2 x y (fun z => q ⟨z.1, by omega⟩)]; exact o2 _ x y q) (fun _ _ _ => rfl)⟩⟩ dX8_next_389
    · have hq := qL_t.mpr c207
      have hc := tw_c (q := qL) hq.1 hq.2
      have hlq := hq.1
      exact wnd c207 (T.length - a) (a + 1) (by omega) (by omega) (by omega) (by rw [hc, List.length_cons]; omega)
  have t45 : Gj X 0 0 w (up2 M 134 6 (nI a)) J R 45 [some (.ref (w.2.1 134)), none, none] [] := by
    refine g_aload_n C dX8_next_45 rfl ?_
    refine g_aload_n C dX8_next_46 rfl ?_
    refine g_geti (v := nI a) C F8 (by rw [hw]; decide) rfl (by decide) 6 (by decide) rfl (hts (.fieldLink RX8 121 "FallBenchModel" "at" "I") (by decide +kernel)) rfl (up2_eq _ _ _ _) dX8_next_47 ?_
    refine g_callVf C hts V (i := 134) (gX8_next_X8_sign) rfl hdX8_sign (by decide) (c_X8_sign (p := a) hw hR hX (hx1 _ (fun x y q => up2_nb (fun z => q ⟨z.1, by omega⟩))) (by omega)) (by rw [hw]; decide) rfl (by decide) rfl rfl (Nat.le_of_ble_eq_true rfl) dX8_next_50 ?_
    refine g_istore_n C V.2.1 dX8_next_53 (by decide) rfl ?_
    refine g_aload_n C dX8_next_54 rfl ?_
    refine g_aload_n C dX8_next_55 rfl ?_
    refine g_geti (v := nI a) C F8 (by rw [hw]; decide) rfl (by decide) 6 (by decide) rfl (hts (.fieldLink RX8 121 "FallBenchModel" "at" "I") (by decide +kernel)) rfl (up2_eq _ _ _ _) dX8_next_56 ?_
    refine g_iconst (v := 1) C dX8_next_59 (by decide) ?_
    refine g_iadd C dX8_next_60 ?_
    refine g_puti C F8 (by rw [hw]; decide) rfl (by decide) 7 (by decide) rfl (hts (.fieldLink RX8 118 "FallBenchModel" "end" "I") (by decide +kernel)) rfl rfl rfl rfl dX8_next_61 ?_
    rw [nI_p1]
    refine g_aload_n C dX8_next_64 rfl ?_
    refine g_geti (v := nI a) C F8 (by rw [hw]; decide) rfl (by decide) 6 (by decide) rfl (hts (.fieldLink RX8 121 "FallBenchModel" "at" "I") (by decide +kernel)) rfl (e6 _) dX8_next_65 ?_
    refine g_aload_n C dX8_next_68 rfl ?_
    refine g_geti (v := nI T.length) C F8 (by rw [hw]; decide) rfl (by decide) 3 (by decide) rfl (hts (.fieldLink RX8 112 "FallBenchModel" "size" "I") (by decide +kernel)) rfl ((o2 _ 134 3 (by omega)).trans hx.1) dX8_next_69 ?_
    refine g_icmp_lt (tgt := 99) C dX8_next_72 (by decide) (fun c72 => ?_) (fun c72 => ?_)
    · have hlt : ¬ T.length ≤ a := by
        have := (nI_ltI (a := a) (b := T.length) (by omega) (by omega)).mp c72
        omega
      refine g_iload_n C dX8_next_99 rfl ?_
      refine g_bipush (v := 114) C dX8_next_100 (by decide) ?_
      refine g_icmp_ne (tgt := 203) C dX8_next_102 (by decide) (fun c102 => ?_) (fun c102 => ?_)
      · exact t203 hlt (fun z => c102 z.1)
      · refine g_aload_n C dX8_next_105 rfl ?_
        refine g_aload_n C dX8_next_106 rfl ?_
        refine g_geti (v := nI a) C F8 (by rw [hw]; decide) rfl (by decide) 6 (by decide) rfl (hts (.fieldLink RX8 121 "FallBenchModel" "at" "I") (by decide +kernel)) rfl (e6 _) dX8_next_107 ?_
        refine g_iconst (v := 1) C dX8_next_110 (by decide) ?_
        refine g_iadd C dX8_next_111 ?_
        rw [nI_p1]
        refine g_callVf C hts V (i := 134) (gX8_next_X8_sign) rfl hdX8_sign (by decide) (c_X8_sign (p := a + 1) hw hR hX (hx1 _ (o2 _)) (by omega)) (by rw [hw]; decide) rfl (by decide) rfl rfl (Nat.le_of_ble_eq_true rfl) dX8_next_112 ?_
        refine g_callSf C hts V (gX8_next_X8_isDigit) rfl hdX8_isDigit (by decide) c_X8_isDigit rfl rfl (Nat.le_of_ble_eq_true rfl) dX8_next_115 ?_
        refine g_if_eq (tgt := 203) C dX8_next_118 (by decide) (fun c118 => ?_) (fun c118 => ?_)
        · exact t203 hlt (fun z => absurd c118 (by have g1 := z.2.1; have g2 := z.2.2.1; unfold isDi; rw [if_neg g1, if_neg (fun y => absurd (Int32.lt_trans y g2) (by decide))]; decide))
        · refine g_aload_n C dX8_next_121 rfl ?_
          refine g_aload_n C dX8_next_122 rfl ?_
          refine g_geti (v := nI a) C F8 (by rw [hw]; decide) rfl (by decide) 6 (by decide) rfl (hts (.fieldLink RX8 121 "FallBenchModel" "at" "I") (by decide +kernel)) rfl (e6 _) dX8_next_123 ?_
          refine g_iconst (v := 1) C dX8_next_126 (by decide) ?_
          refine g_iadd C dX8_next_127 ?_
          rw [nI_p1]
          refine g_callVf C hts V (i := 134) (gX8_next_X8_sign) rfl hdX8_sign (by decide) (c_X8_sign (p := a + 1) hw hR hX (hx1 _ (o2 _)) (by omega)) (by rw [hw]; decide) rfl (by decide) rfl rfl (Nat.le_of_ble_eq_true rfl) dX8_next_128 ?_
          refine g_bipush (v := 56) C dX8_next_131 (by decide) ?_
          refine g_icmp_ge (tgt := 203) C dX8_next_133 (by decide) (fun c133 => ?_) (fun c133 => ?_)
          · exact t203 hlt (fun z => absurd z.2.2.1 (fun y => absurd (Int32.lt_of_lt_of_le y c133) (Int32.lt_irrefl)))
          · refine g_aload_n C dX8_next_136 rfl ?_
            refine g_aload_n C dX8_next_137 rfl ?_
            refine g_geti (v := nI a) C F8 (by rw [hw]; decide) rfl (by decide) 6 (by decide) rfl (hts (.fieldLink RX8 121 "FallBenchModel" "at" "I") (by decide +kernel)) rfl (e6 _) dX8_next_138 ?_
            refine g_iconst (v := 2) C dX8_next_141 (by decide) ?_
            refine g_iadd C dX8_next_142 ?_
            rw [nI_p2]
            refine g_callVf C hts V (i := 134) (gX8_next_X8_sign) rfl hdX8_sign (by decide) (c_X8_sign (p := a + 2) hw hR hX (hx1 _ (o2 _)) (by omega)) (by rw [hw]; decide) rfl (by decide) rfl rfl (Nat.le_of_ble_eq_true rfl) dX8_next_143 ?_
            refine g_callSf C hts V (gX8_next_X8_isLetter) rfl hdX8_isLetter (by decide) c_X8_isLetter rfl rfl (Nat.le_of_ble_eq_true rfl) dX8_next_146 ?_
            refine g_if_ne (tgt := 203) C dX8_next_149 (by decide) (fun c149 => ?_) (fun c149 => ?_)
            · exact t203 hlt (fun z => c149 z.2.2.2.1)
            · refine g_aload_n C dX8_next_152 rfl ?_
              refine g_aload_n C dX8_next_153 rfl ?_
              refine g_geti (v := nI a) C F8 (by rw [hw]; decide) rfl (by decide) 6 (by decide) rfl (hts (.fieldLink RX8 121 "FallBenchModel" "at" "I") (by decide +kernel)) rfl (e6 _) dX8_next_154 ?_
              refine g_iconst (v := 2) C dX8_next_157 (by decide) ?_
              refine g_iadd C dX8_next_158 ?_
              rw [nI_p2]
              refine g_callVf C hts V (i := 134) (gX8_next_X8_sign) rfl hdX8_sign (by decide) (c_X8_sign (p := a + 2) hw hR hX (hx1 _ (o2 _)) (by omega)) (by rw [hw]; decide) rfl (by decide) rfl rfl (Nat.le_of_ble_eq_true rfl) dX8_next_159 ?_
              refine g_callSf C hts V (gX8_next_X8_isDigit) rfl hdX8_isDigit (by decide) c_X8_isDigit rfl rfl (Nat.le_of_ble_eq_true rfl) dX8_next_162 ?_
              refine g_if_ne (tgt := 203) C dX8_next_165 (by decide) (fun c165 => ?_) (fun c165 => ?_)
              · exact t203 hlt (fun z => c165 z.2.2.2.2)
              · have hrg : isRg T a := ⟨c102, fun y => c118 (by unfold isDi; rw [if_pos y]), lt_of_nle c133, c149, c165⟩
                refine g_aload_n C dX8_next_168 rfl ?_
                refine g_aload_n C dX8_next_169 rfl ?_
                refine g_aload_n C dX8_next_170 rfl ?_
                refine g_geti (v := nI a) C F8 (by rw [hw]; decide) rfl (by decide) 6 (by decide) rfl (hts (.fieldLink RX8 121 "FallBenchModel" "at" "I") (by decide +kernel)) rfl (e6 _) dX8_next_171 ?_
                refine g_iconst (v := 1) C dX8_next_174 (by decide) ?_
                refine g_iadd C dX8_next_175 ?_
                rw [nI_p1]
                refine g_callVf C hts V (i := 134) (gX8_next_X8_sign) rfl hdX8_sign (by decide) (c_X8_sign (p := a + 1) hw hR hX (hx1 _ (o2 _)) (by omega)) (by rw [hw]; decide) rfl (by decide) rfl rfl (Nat.le_of_ble_eq_true rfl) dX8_next_176 ?_
                refine g_bipush (v := 48) C dX8_next_179 (by decide) ?_
                refine g_isub C dX8_next_181 ?_
                refine g_puti C F8 (by rw [hw]; decide) rfl (by decide) 9 (by decide) rfl (hts (.fieldLink RX8 138 "FallBenchModel" "number" "I") (by decide +kernel)) rfl rfl rfl rfl dX8_next_182 ?_
                refine g_aload_n C dX8_next_185 rfl ?_
                refine g_aload_n C dX8_next_186 rfl ?_
                refine g_geti (v := nI a) C F8 (by rw [hw]; decide) rfl (by decide) 6 (by decide) rfl (hts (.fieldLink RX8 121 "FallBenchModel" "at" "I") (by decide +kernel)) rfl (by rw [up2_n2 _ _ (by decide)]; exact e6 _) dX8_next_187 ?_
                refine g_iconst (v := 2) C dX8_next_190 (by decide) ?_
                refine g_iadd C dX8_next_191 ?_
                refine g_puti C F8 (by rw [hw]; decide) rfl (by decide) 7 (by decide) rfl (hts (.fieldLink RX8 118 "FallBenchModel" "end" "I") (by decide +kernel)) rfl rfl rfl rfl dX8_next_192 ?_
                refine g_aload_n C dX8_next_195 rfl ?_
                refine g_iconst (v := 3) C dX8_next_196 (by decide) ?_
                refine g_puti C F8 (by rw [hw]; decide) rfl (by decide) 8 (by decide) rfl (hts (.fieldLink RX8 128 "FallBenchModel" "token" "I") (by decide +kernel)) rfl rfl rfl rfl dX8_next_197 ?_
                refine g_goto (tgt := 389) C dX8_next_200 (by decide) ?_
                exact g_vret C Rr ⟨rfl, ⟨rfl, rfl, nx2 hlt hrg (show up2 (up2 (up2 (up2 (up2 M 134 6 (nI a)) 134 7 (nI (a + 1))) 134 9 (T.getD (a + 1) 0 - 48)) 134 7 (nI a + 2)) 134 8 3 134 6 = _ by rw [up2_n2 _ _ (by decide), up2_n2 _ _ (by decide), up2_n2 _ _ (by decide)]; exact e6 _) (show up2 (up2 (up2 (up2 (up2 M 134 6 (nI a)) 134 7 (nI (a + 1))) 134 9 (T.getD (a + 1) 0 - 48)) 134 7 (nI a + 2)) 134 8 3 134 8 = _ by rw [up2_eq]) (show up2 (up2 (up2 (up2 (up2 M 134 6 (nI a)) 134 7 (nI (a + 1))) 134 9 (T.getD (a + 1) 0 - 48)) 134 7 (nI a + 2)) 134 8 3 134 7 = _ by rw [up2_n2 _ _ (by decide), up2_eq, nI_p2]) (show up2 (up2 (up2 (up2 (up2 M 134 6 (nI a)) 134 7 (nI (a + 1))) 134 9 (T.getD (a + 1) 0 - 48)) 134 7 (nI a + 2)) 134 8 3 134 9 = _ by rw [up2_n2 _ _ (by decide), up2_n2 _ _ (by decide), up2_eq]) (fun x y q => show up2 (up2 (up2 (up2 (up2 M 134 6 (nI a)) 134 7 (nI (a + 1))) 134 9 (T.getD (a + 1) 0 - 48)) 134 7 (nI a + 2)) 134 8 3 x y = _ by rw [up2_nb (fun z => q ⟨z.1, by omega⟩), up2_nb (fun z => q ⟨z.1, by omega⟩), up2_nb (fun z => q ⟨z.1, by omega⟩)]; exact o2 _ x y q) (fun _ _ _ => rfl)⟩⟩ dX8_next_389
    · have hal : T.length = a := by
        have := (nI_leI (a := T.length) (b := a) (by omega) (by omega)).mp (le_of_nlt c72)
        omega
      refine g_aload_n C dX8_next_75 rfl ?_
      refine g_iconst (v := 0) C dX8_next_76 (by decide) ?_
      refine g_puti C F8 (by rw [hw]; decide) rfl (by decide) 8 (by decide) rfl (hts (.fieldLink RX8 128 "FallBenchModel" "token" "I") (by decide +kernel)) rfl rfl rfl rfl dX8_next_77 ?_
      refine g_aload_n C dX8_next_80 rfl ?_
      refine g_aload_n C dX8_next_81 rfl ?_
      refine g_geti (v := nI T.length) C F8 (by rw [hw]; decide) rfl (by decide) 3 (by decide) rfl (hts (.fieldLink RX8 112 "FallBenchModel" "size" "I") (by decide +kernel)) rfl (by rw [up2_n2 _ _ (by decide)]; exact (o2 _ 134 3 (by omega)).trans hx.1) dX8_next_82 ?_
      refine g_puti C F8 (by rw [hw]; decide) rfl (by decide) 6 (by decide) rfl (hts (.fieldLink RX8 121 "FallBenchModel" "at" "I") (by decide +kernel)) rfl rfl rfl rfl dX8_next_85 ?_
      refine g_aload_n C dX8_next_88 rfl ?_
      refine g_aload_n C dX8_next_89 rfl ?_
      refine g_geti (v := nI T.length) C F8 (by rw [hw]; decide) rfl (by decide) 3 (by decide) rfl (hts (.fieldLink RX8 112 "FallBenchModel" "size" "I") (by decide +kernel)) rfl (by rw [up2_n2 _ _ (by decide), up2_n2 _ _ (by decide)]; exact (o2 _ 134 3 (by omega)).trans hx.1) dX8_next_90 ?_
      refine g_puti C F8 (by rw [hw]; decide) rfl (by decide) 7 (by decide) rfl (hts (.fieldLink RX8 118 "FallBenchModel" "end" "I") (by decide +kernel)) rfl rfl rfl rfl dX8_next_93 ?_
      refine g_goto (tgt := 389) C dX8_next_96 (by decide) ?_
      exact g_vret C Rr ⟨rfl, ⟨rfl, rfl, nx6 (by omega) (show up2 (up2 (up2 (up2 (up2 M 134 6 (nI a)) 134 7 (nI (a + 1))) 134 8 0) 134 6 (nI T.length)) 134 7 (nI T.length) 134 6 = _ by rw [up2_n2 _ _ (by decide), up2_eq, hal]) (show up2 (up2 (up2 (up2 (up2 M 134 6 (nI a)) 134 7 (nI (a + 1))) 134 8 0) 134 6 (nI T.length)) 134 7 (nI T.length) 134 8 = _ by rw [up2_n2 _ _ (by decide), up2_n2 _ _ (by decide), up2_eq]) (show up2 (up2 (up2 (up2 (up2 M 134 6 (nI a)) 134 7 (nI (a + 1))) 134 8 0) 134 6 (nI T.length)) 134 7 (nI T.length) 134 7 = _ by rw [up2_eq, hal]) (fun x y q => show up2 (up2 (up2 (up2 (up2 M 134 6 (nI a)) 134 7 (nI (a + 1))) 134 8 0) 134 6 (nI T.length)) 134 7 (nI T.length) x y = _ by rw [up2_nb (fun z => q ⟨z.1, by omega⟩), up2_nb (fun z => q ⟨z.1, by omega⟩), up2_nb (fun z => q ⟨z.1, by omega⟩)]; exact o2 _ x y q) (fun _ _ _ => rfl)⟩⟩ dX8_next_389
  have skip : ∀ dd q, q + dd = T.length + 1 → q ≤ T.length → skp T q = a → Gj X 0 0 w (up2 M 134 6 (nI q)) J R 8 [some (.ref (w.2.1 134)), none, none] [] := by
    intro dd
    induction dd with
    | zero => intro q h1 h2; omega
    | succ dd ih =>
      intro q h1 h2 h3
      refine g_aload_n C dX8_next_8 rfl ?_
      refine g_geti (v := nI q) C F8 (by rw [hw]; decide) rfl (by decide) 6 (by decide) rfl (hts (.fieldLink RX8 121 "FallBenchModel" "at" "I") (by decide +kernel)) rfl (up2_eq _ _ _ _) dX8_next_9 ?_
      refine g_aload_n C dX8_next_12 rfl ?_
      refine g_geti (v := nI T.length) C F8 (by rw [hw]; decide) rfl (by decide) 3 (by decide) rfl (hts (.fieldLink RX8 112 "FallBenchModel" "size" "I") (by decide +kernel)) rfl (by rw [up2_n2 _ _ (by decide)]; exact hx.1) dX8_next_13 ?_
      refine g_icmp_ge (tgt := 45) C dX8_next_16 (by decide) (fun c16 => ?_) (fun c16 => ?_)
      · have hq : T.length ≤ q := (nI_leI (by omega) (by omega)).mp c16
        obtain rfl : q = a := by rw [← h3, skp_n (fun z => by rw [getD_ge hq] at z; exact absurd z (by decide))]
        exact t45
      · refine g_aload_n C dX8_next_19 rfl ?_
        refine g_aload_n C dX8_next_20 rfl ?_
        refine g_geti (v := nI q) C F8 (by rw [hw]; decide) rfl (by decide) 6 (by decide) rfl (hts (.fieldLink RX8 121 "FallBenchModel" "at" "I") (by decide +kernel)) rfl (up2_eq _ _ _ _) dX8_next_21 ?_
        refine g_callVf C hts V (i := 134) (gX8_next_X8_sign) rfl hdX8_sign (by decide) (c_X8_sign (p := q) hw hR hX (hx1 _ (fun x y q => up2_nb (fun z => q ⟨z.1, by omega⟩))) (by omega)) (by rw [hw]; decide) rfl (by decide) rfl rfl (Nat.le_of_ble_eq_true rfl) dX8_next_24 ?_
        refine g_bipush (v := 32) C dX8_next_27 (by decide) ?_
        refine g_icmp_ne (tgt := 45) C dX8_next_29 (by decide) (fun c29 => ?_) (fun c29 => ?_)
        · obtain rfl : q = a := by rw [← h3, skp_n c29]
          exact t45
        · refine g_aload_n C dX8_next_32 rfl ?_
          refine g_dup C dX8_next_33 rfl ?_
          refine g_geti (v := nI q) C F8 (by rw [hw]; decide) rfl (by decide) 6 (by decide) rfl (hts (.fieldLink RX8 121 "FallBenchModel" "at" "I") (by decide +kernel)) rfl (up2_eq _ _ _ _) dX8_next_34 ?_
          refine g_iconst (v := 1) C dX8_next_37 (by decide) ?_
          refine g_iadd C dX8_next_38 ?_
          refine g_puti C F8 (by rw [hw]; decide) rfl (by decide) 6 (by decide) rfl (hts (.fieldLink RX8 121 "FallBenchModel" "at" "I") (by decide +kernel)) rfl rfl rfl rfl dX8_next_39 ?_
          refine g_goto (tgt := 8) C dX8_next_42 (by decide) ?_
          have hq := (qB_t.mpr c29).1
          rw [up2_tw, nI_p1]
          exact ih (q + 1) (by omega) (by omega) (by rw [← skp_c c29]; exact h3)
  refine g_aload_n C dX8_next_0 rfl ?_
  refine g_aload_n C dX8_next_1 rfl ?_
  refine g_geti (v := nI p) C F8 (by rw [hw]; decide) rfl (by decide) 7 (by decide) rfl (hts (.fieldLink RX8 118 "FallBenchModel" "end" "I") (by decide +kernel)) rfl hend dX8_next_2 ?_
  refine g_puti C F8 (by rw [hw]; decide) rfl (by decide) 6 (by decide) rfl (hts (.fieldLink RX8 121 "FallBenchModel" "at" "I") (by decide +kernel)) rfl rfl rfl rfl dX8_next_5 ?_
  exact skip (T.length + 1 - p) p (by omega) hp hae.symm
