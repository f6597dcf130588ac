/-! THE REFERENCE: program -/
def finS (T : List Int32) (s : pS) : Prop := ¬ s.1.2.1 = 0 ∨ tK T s.1.1 = 6
theorem t_line_fin {T : List Int32} {s : pS} (h : finS T s) : t_line T s = s ∧ t_go T s = false := by
  obtain ⟨x, L, A⟩ := s
  have n1 : ¬ (x.2.1 = 0 ∧ tK T x.1 = 1) := fun z => by
    rcases h with h | h
    · exact h z.1
    · have h : tK T x.1 = 6 := h
      rw [z.2] at h; exact absurd h (by decide)
  have e1 : t_l1 T (x, L, A) = (x, L) := t_labs_no 21 (s := (x, L)) (fun z => n1 ⟨z.1, z.2.1⟩)
  have e2 : t_l2 T (x, L, A) = (x, A) := by unfold t_l2; rw [e1]; exact if_neg n1
  have e3 : t_fin T x = x := by
    unfold t_fin
    by_cases z : x.2.1 = 0 ∧ tK T x.1 = 6
    · rw [if_pos z]
    · rw [if_neg z]
      refine t_take_ne (fun y => ?_)
      rcases h with h | h
      · exact h y
      · exact z ⟨y, h⟩
  refine ⟨by unfold t_line; rw [e2, e1, e3], ?_⟩
  unfold t_go t_more
  rw [e2]
  refine decide_eq_false (fun z => ?_)
  rcases h with h | h
  · exact h z.1
  · have h : tK T x.1 = 6 := h
    have z2 : tK T x.1 = 5 := z.2
    rw [z2] at h; exact absurd h (by decide)
theorem t_lines_fin {T : List Int32} {s : pS} (f : Nat) (h : finS T s) : t_lines T f s = s := by
  cases f with
  | zero => rfl
  | succ f =>
    obtain ⟨h1, h2⟩ := t_line_fin h
    show (if t_go T s = true then t_lines T f (t_line T s) else t_line T s) = s
    rw [h2, if_neg (by decide), h1]
theorem fin_of {T : List Int32} {s : pS} (h : ¬ t_go T s = true) : finS T (t_line T s) := by
  unfold finS
  show ¬ (t_fin T (t_l2 T s).1).2.1 = 0 ∨ tK T (t_fin T (t_l2 T s).1).1 = 6
  by_cases h0 : (t_l2 T s).1.2.1 = 0
  · by_cases h6 : tK T (t_l2 T s).1.1 = 6
    · rw [show t_fin T (t_l2 T s).1 = (t_l2 T s).1 from if_pos ⟨h0, h6⟩]; exact Or.inr h6
    · have h5 : ¬ tK T (t_l2 T s).1.1 = 5 := fun z => h (decide_eq_true ⟨h0, z⟩)
      rw [show t_fin T (t_l2 T s).1 = t_bad T (t_l2 T s).1 from (if_neg (fun z => h6 z.2)).trans (t_take_bad h0 h5)]
      exact Or.inl (t_bad_ne T _)
  · rw [show t_fin T (t_l2 T s).1 = (t_l2 T s).1 from (if_neg (fun z => h0 z.1)).trans (t_take_ne h0)]
    exact Or.inl h0
theorem take_mo (T : List Int32) (k : Int32) (x : px) : x.1 ≤ (t_take T k x).1 := by
  unfold t_take
  split
  · split
    · show x.1 ≤ x.1 + 1; omega
    · exact Nat.le_refl _
  · exact Nat.le_refl _
theorem want_mo (T : List Int32) (x : px) : x.1 ≤ (t_want T x).1 := by
  unfold t_want
  split
  · split
    · show x.1 ≤ x.1 + 1; omega
    · exact Nat.le_refl _
  · exact Nat.le_refl _
theorem lab_mo (T : List Int32) (c : Nat) (s : px × pL) : s.1.1 ≤ (t_lab T c s).1.1 := by
  unfold t_lab
  split
  · exact Nat.le_refl _
  · split
    · exact Nat.le_refl _
    · exact Nat.le_trans (take_mo T 1 s.1) (take_mo T 4 _)
theorem labs_mo (T : List Int32) (c : Nat) : ∀ f s, s.1.1 ≤ (t_labs T c f s).1.1 := by
  intro f
  induction f with
  | zero => intro s; exact Nat.le_refl _
  | succ f ih =>
    intro s
    unfold t_labs
    split
    · exact Nat.le_trans (lab_mo T c s) (ih _)
    · exact Nat.le_refl _
theorem act_mo (T : List Int32) (k : Int32) (x : px) : x.1 ≤ (t_act T k x).1.1 := by
  have h2 : x.1 ≤ (a_x2 T k x).1 := by unfold a_x2; split; exact Nat.le_refl _; exact take_mo T 2 x
  have h3 : (a_x2 T k x).1 ≤ (a_x3 T k (a_x2 T k x)).1 := by unfold a_x3; split; exact Nat.le_refl _; exact take_mo T 2 _
  have h4 : (a_x3 T k (a_x2 T k x)).1 ≤ (a_4 T k x).1 := by unfold a_4 a_x4; split; exact take_mo T 3 _; exact Nat.le_refl _
  have h5 : (a_4 T k x).1 ≤ (a_x5 T k (a_4 T k x)).1 := by unfold a_x5; split; exact Nat.le_refl _; exact want_mo T _
  exact Nat.le_trans h2 (Nat.le_trans h3 (Nat.le_trans h4 h5))
theorem go_mo {T : List Int32} {s : pS} (h : t_go T s = true) : s.1.1 + 1 ≤ (t_line T s).1.1 := by
  have h1 : s.1.1 ≤ (t_l1 T s).1.1 := labs_mo T _ 21 (s.1, s.2.1)
  have h2 : (t_l1 T s).1.1 ≤ (t_l2 T s).1.1 := by
    unfold t_l2 t_mid
    split
    · split
      · exact Nat.le_refl _
      · exact Nat.le_trans (take_mo T 1 _) (act_mo T _ _)
    · exact Nat.le_refl _
  have h3 := of_decide_eq_true h
  have h4 : t_fin T (t_l2 T s).1 = ((t_l2 T s).1.1 + 1, 0, (t_l2 T s).1.2.2) := (if_neg (fun z => by rw [h3.2] at z; exact absurd z.2 (by decide))).trans (t_take_ok h3.1 h3.2)
  show s.1.1 + 1 ≤ (t_fin T (t_l2 T s).1).1
  rw [h4]
  show s.1.1 + 1 ≤ (t_l2 T s).1.1 + 1
  omega
theorem nar255 (v : Int32) : vp_nar .byte v &&& 255 = v &&& 255 := by
  apply Int32.toBitVec.inj
  apply BitVec.eq_of_toNat_eq
  show (BitVec.signExtend 32 (BitVec.signExtend 8 v.toBitVec) &&& 255#32).toNat = (v.toBitVec &&& 255#32).toNat
  generalize v.toBitVec = b
  rw [BitVec.toNat_and, BitVec.toNat_and, show (255#32).toNat = 2 ^ 8 - 1 from rfl, Nat.and_two_pow_sub_one_eq_mod, Nat.and_two_pow_sub_one_eq_mod]
  rw [BitVec.signExtend_eq_setWidth_of_le (x := b) (w := 32) (v := 8) (by decide), BitVec.toNat_signExtend]
  rw [BitVec.toNat_setWidth, BitVec.toNat_setWidth]
  split <;> omega
def tapM (M : Nat → Nat → Int32) (T : List Int32) : Prop := M 134 2 = nI T.length ∧ ∀ k, k < T.length → M 135 k &&& 255 = T.getD k 0
def m_1 (M : Nat → Nat → Int32) (t : Nat) : Nat → Nat → Int32 := up2 (up2 (up2 M 134 4 0) 134 5 (-1)) 134 3 (nI t)
def m_cp (M : Nat → Nat → Int32) (t k : Nat) : Nat → Nat → Int32 := fun a b => if a = 136 ∧ b < k then vp_nar .byte (M 135 b) else m_1 M t a b
theorem m_cp_s (M : Nat → Nat → Int32) (t k : Nat) : up2 (m_cp M t k) 136 k (vp_nar .byte (M 135 k)) = m_cp M t (k + 1) := by
  funext a b
  unfold up2 m_cp
  by_cases h : a = 136 ∧ b = k
  · rw [if_pos h, if_pos ⟨h.1, by omega⟩, h.2]
  · rw [if_neg h]
    by_cases g : a = 136 ∧ b < k
    · rw [if_pos g, if_pos ⟨g.1, by omega⟩]
    · rw [if_neg g, if_neg (by omega)]
theorem m_cp_0 (M : Nat → Nat → Int32) (t : Nat) : m_cp M t 0 = m_1 M t := by
  funext a b; unfold m_cp; rw [if_neg (by omega)]
theorem m_cp_o {M : Nat → Nat → Int32} {t k a b : Nat} (h : a ≠ 136) : m_cp M t k a b = m_1 M t a b := by unfold m_cp; rw [if_neg (fun z => h z.1)]
theorem m_1_o {M : Nat → Nat → Int32} {t a b : Nat} (h : ¬ (a = 134 ∧ (b = 3 ∨ b = 4 ∨ b = 5))) : m_1 M t a b = M a b := by
  unfold m_1
  rw [up2_nb (fun z => h ⟨z.1, by omega⟩), up2_nb (fun z => h ⟨z.1, by omega⟩), up2_nb (fun z => h ⟨z.1, by omega⟩)]
/-- the acts that were read come upon a shelf -/
def m_sh (M : Nat → Nat → Int32) (s k : Nat) : Nat → Nat → Int32 := fun a b => if 137 ≤ a ∧ a ≤ 140 ∧ 80 * s ≤ b ∧ b < 80 * s + k then M a (240 + (b - 80 * s)) else M a b
theorem m_sh_s (M : Nat → Nat → Int32) (s k : Nat) : up2 (up2 (up2 (up2 (m_sh M s k) 137 (80 * s + k) (M 137 (240 + k))) 138 (80 * s + k) (M 138 (240 + k))) 139 (80 * s + k) (M 139 (240 + k))) 140 (80 * s + k) (M 140 (240 + k)) = m_sh M s (k + 1) := by
  funext a b
  by_cases hb : b = 80 * s + k
  · subst hb
    by_cases ha : 137 ≤ a ∧ a ≤ 140
    · have e : m_sh M s (k + 1) a (80 * s + k) = M a (240 + k) := by
        unfold m_sh
        rw [if_pos ⟨ha.1, ha.2, by omega, by omega⟩, show 80 * s + k - 80 * s = k by omega]
      rw [e]
      obtain h | h | h | h : a = 137 ∨ a = 138 ∨ a = 139 ∨ a = 140 := by omega
      · subst h; rw [up2_n1 _ _ (by decide), up2_n1 _ _ (by decide), up2_n1 _ _ (by decide), up2_eq]
      · subst h; rw [up2_n1 _ _ (by decide), up2_n1 _ _ (by decide), up2_eq]
      · subst h; rw [up2_n1 _ _ (by decide), up2_eq]
      · subst h; rw [up2_eq]
    · rw [up2_n1 _ _ (by omega), up2_n1 _ _ (by omega), up2_n1 _ _ (by omega), up2_n1 _ _ (by omega)]
      unfold m_sh
      rw [if_neg (by omega), if_neg (by omega)]
  · rw [up2_n2 _ _ hb, up2_n2 _ _ hb, up2_n2 _ _ hb, up2_n2 _ _ hb]
    unfold m_sh
    by_cases h : 137 ≤ a ∧ a ≤ 140 ∧ 80 * s ≤ b ∧ b < 80 * s + k
    · rw [if_pos h, if_pos (by omega)]
    · rw [if_neg h, if_neg (by omega)]
theorem m_sh_0 (M : Nat → Nat → Int32) (s : Nat) : m_sh M s 0 = M := by
  funext a b; unfold m_sh; rw [if_neg (by omega)]
theorem m_sh_o {M : Nat → Nat → Int32} {s k a b : Nat} (h : ¬ (137 ≤ a ∧ a ≤ 140 ∧ 80 * s ≤ b ∧ b < 80 * s + k)) : m_sh M s k a b = M a b := by unfold m_sh; rw [if_neg h]
/-- what program leaves -/
def gF (M M' : Nat → Nat → Int32) : Prop := ∀ x y, ¬ (x = 134 ∧ (2 ≤ y ∧ y ≤ 9 ∨ y = 20)) → ¬ x = 136 → ¬ x = 142 → ¬ x = 143 → ¬ (137 ≤ x ∧ x ≤ 140 ∧ 240 ≤ y) → ¬ (x = 141 ∧ y = 3) → M' x y = M x y
theorem gF.m {M M' M2 : Nat → Nat → Int32} (h : gF M M') (g : mF M' M2) : gF M M2 := fun x y a b c d e f => (g x y (fun z => a ⟨z.1, by omega⟩) c d e f).trans (h x y a b c d e f)
def proP (T : List Int32) (s : Nat) (M : Nat → Nat → Int32) (u : Nat → Nat → Int32) : Prop := u 134 4 = (PARSE T).1 ∧ u 134 5 = (PARSE T).2.1 ∧ u 134 2 = 0 ∧ ((PARSE T).1 = 0 → progN u s (PARSE T).2.2 ∧ ∀ x y, ¬ (x = 134 ∧ (2 ≤ y ∧ y ≤ 9 ∨ y = 20)) → ¬ x = 136 → ¬ x = 142 → ¬ x = 143 → ¬ (137 ≤ x ∧ x ≤ 140 ∧ (240 ≤ y ∨ (80 * s ≤ y ∧ y < 80 * s + 80))) → ¬ (x = 141 ∧ (y = 3 ∨ y = s)) → u x y = M x y) ∧ (¬ (PARSE T).1 = 0 → gF M u)

set_option maxHeartbeats 4000000 in
set_option maxRecDepth 100000 in
theorem c_X8_program_no {l : Launch} {D : va_G} {w : gw} {M : Nat → Nat → Int32} {J : Nat → Nat → Int64} {R : Nat → Nat → Option Nat} (hw : w.1 = 166) (hR : LayM R) {s : Int32} (hno : isSh s = 0) : Cf l yX8_program wsX8_program ({ frames := 6, cells := 0, slots := 0, locals := 129 } : Room) D w [.ref (w.2.1 134), .int s] M J R (some (.int (-2))) M J R := by
  refine Cg.of (own := RX8) (cc := cX8_program) (maxL := 3) (ret := (some .int)) 1 (by decide) rfl rfl (Nat.le_of_ble_eq_true rfl) (fun X C hts V Rr => ?_)
  have F8 : FW X 8 := fun q h => hts q (List.mem_cons_of_mem _ (List.mem_append_right _ h))
  show Gj X 0 0 w M J R 0 [some (.ref (w.2.1 134)), some (.int s), none] []
  refine g_iload_n C dX8_program_0 rfl ?_
  refine g_callSf C hts V (gX8_program_X8_isShelf) rfl hdX8_isShelf (by decide) c_X8_isShelf rfl rfl (Nat.le_of_ble_eq_true rfl) dX8_program_1 ?_
  refine g_if_ne (tgt := 10) C dX8_program_4 (by decide) (fun c4 => absurd c4 (not_not_intro hno)) (fun c4 => ?_)
  refine g_bipush (v := (-2)) C dX8_program_7 (by decide) ?_
  exact g_iret C Rr ⟨rfl, ⟨rfl, rfl⟩⟩ dX8_program_9

set_option maxHeartbeats 4000000 in
set_option maxRecDepth 100000 in
theorem c_X8_program {l : Launch} {D : va_G} {w : gw} {M : Nat → Nat → Int32} {J : Nat → Nat → Int64} {R : Nat → Nat → Option Nat} (hw : w.1 = 166) (hR : LayM R) {T : List Int32} (hX : okX T) (hI : tapM M T) {s : Nat} (hs : s < 3) : Ct l yX8_program wsX8_program ({ frames := 6, cells := 0, slots := 0, locals := 129 } : Room) D w [.ref (w.2.1 134), .int (nI s)] (M, J, R) (fun v u => v = some (.int (if (PARSE T).1 = 0 then nI (PARSE T).2.2.length else -1)) ∧ u.2.2 = R ∧ proP T s M u.1 ∧ mJ J u.2.1) := by
  refine Cg.of (own := RX8) (cc := cX8_program) (maxL := 3) (ret := (some .int)) 1 (by decide) rfl rfl (Nat.le_of_ble_eq_true rfl) (fun X C hts V Rr => ?_)
  have F8 : FW X 8 := fun q h => hts q (List.mem_cons_of_mem _ (List.mem_append_right _ h))
  show Gj X 0 0 w M J R 0 [some (.ref (w.2.1 134)), some (.int (nI s)), none] []
  have hT := hX.1
  have hTN : T.length < 2 ^ 31 := by omega
  obtain ⟨oK1, oK2, oK3⟩ : okS T (LINES T) := okS.lines 1001 (okS_0 T)
  have t133f : ∀ m j z, ¬ m 134 4 = 0 → ¬ (PARSE T).1 = 0 → m 134 4 = (PARSE T).1 → m 134 5 = (PARSE T).2.1 → m 134 2 = 0 → gF M m → mJ J j → Gj X 0 0 w m j R 133 [some (.ref (w.2.1 134)), some (.int (nI s)), z] [] := by
    intro m j z q0 qP q1 q2 q3 q4 q5
    refine g_aload_n C dX8_program_133 rfl ?_
    refine g_callVf C hts V (i := 134) (gX8_program_X8_isGood) rfl hdX8_isGood (by decide) (Cf.to (c_X8_isGood hw hR) (congrArg (fun z => some (Value.int z)) (show _ = (0 : Int32) from if_neg q0)) rfl) (by rw [hw]; decide) rfl (by decide) rfl rfl (Nat.le_of_ble_eq_true rfl) dX8_program_134 ?_
    refine g_if_ne (tgt := 142) C dX8_program_137 (by decide) (fun c137 => absurd c137 (not_not_intro rfl)) (fun c137 => ?_)
    refine g_iconst (v := (-1)) C dX8_program_140 (by decide) ?_
    exact g_iret C Rr ⟨rfl, ⟨by rw [if_neg qP], rfl, ⟨q1, q2, q3, fun y => absurd y qP, fun _ => q4⟩, q5⟩⟩ dX8_program_141
  have t142 : ∀ m j z, m 134 4 = 0 → (PARSE T).1 = 0 → m 134 5 = (PARSE T).2.1 → m 134 2 = 0 → gF M m → mJ J j → (PARSE T).2.2.length ≤ 80 → m 141 3 = nI (PARSE T).2.2.length → (∀ k, k < (PARSE T).2.2.length → (m 137 (240 + k), m 138 (240 + k), m 139 (240 + k), m 140 (240 + k)) = (PARSE T).2.2.getD k (0, 0, 0, 0)) → Gj X 0 0 w m j R 142 [some (.ref (w.2.1 134)), some (.int (nI s)), z] [] := by
    intro m j z q1 qP q2 q3 q4 q5 q6 q7 q8
    have o : ∀ k x y, ¬ (137 ≤ x ∧ x ≤ 140 ∧ 80 * s ≤ y ∧ y < 80 * s + k) → ¬ (x = 141 ∧ y = s) → m_sh (up2 m 141 s (nI (PARSE T).2.2.length)) s k x y = m x y := fun k x y z1 z2 => by rw [m_sh_o z1, up2_nb z2]
    have loop : ∀ dd k, k + dd = (PARSE T).2.2.length → Gj X 0 0 w (m_sh (up2 m 141 s (nI (PARSE T).2.2.length)) s k) j R 156 [some (.ref (w.2.1 134)), some (.int (nI s)), some (.int (nI k))] [] := by
      intro dd
      induction dd with
      | zero =>
        intro k hk
        obtain rfl : k = (PARSE T).2.2.length := by omega
        have fin : some (Value.int (nI (PARSE T).2.2.length)) = some (Value.int (if (PARSE T).1 = 0 then nI (PARSE T).2.2.length else -1)) ∧ R = R ∧ proP T s M (m_sh (up2 m 141 s (nI (PARSE T).2.2.length)) s (PARSE T).2.2.length) ∧ mJ J j := by
          refine ⟨by rw [if_pos qP], rfl, ⟨(show m_sh (up2 m 141 s (nI (PARSE T).2.2.length)) s (PARSE T).2.2.length 134 4 = _ by rw [o _ _ _ (by omega) (by omega), q1, qP]), (show m_sh (up2 m 141 s (nI (PARSE T).2.2.length)) s (PARSE T).2.2.length 134 5 = _ by rw [o _ _ _ (by omega) (by omega)]; exact q2), (show m_sh (up2 m 141 s (nI (PARSE T).2.2.length)) s (PARSE T).2.2.length 134 2 = _ by rw [o _ _ _ (by omega) (by omega)]; exact q3), fun _ => ⟨⟨q6, (show m_sh (up2 m 141 s (nI (PARSE T).2.2.length)) s (PARSE T).2.2.length 141 s = _ by rw [m_sh_o (by omega), up2_eq]), fun k hk => ?_⟩, fun x y z1 z2 z3 z4 z5 z6 => ?_⟩, fun y => absurd qP y⟩, q5⟩
          · rw [← q8 k hk]
            have e : ∀ c, 137 ≤ c → c ≤ 140 → m_sh (up2 m 141 s (nI (PARSE T).2.2.length)) s (PARSE T).2.2.length c (80 * s + k) = m c (240 + k) := fun c c1 c2 => by unfold m_sh; rw [if_pos ⟨c1, c2, by omega, by omega⟩, show 80 * s + k - 80 * s = k by omega, up2_n1 _ _ (by omega)]
            rw [e 137 (by decide) (by decide), e 138 (by decide) (by decide), e 139 (by decide) (by decide), e 140 (by decide) (by decide)]
          · rw [o _ _ _ (by omega) (by omega)]; exact q4 x y z1 z2 z3 z4 (by omega) (by omega)
        refine g_iload_n C dX8_program_156 rfl ?_
        refine g_aload_n C dX8_program_157 rfl ?_
        refine g_getr (j := 141) C F8 (by rw [hw]; decide) rfl (by decide) 15 (by decide) rfl (hts (.fieldLink RX8 33 "FallBenchModel" "many" "[I") (by decide +kernel)) rfl (hR (15, 141) (by decide)) dX8_program_158 ?_
        refine g_iload_n C dX8_program_161 rfl ?_
        refine g_iald (v := nI (PARSE T).2.2.length) C (by rw [hw]; decide) rfl (vp_in_nI (N := 4) (n := s) (by omega) (by decide)) (by rw [nI_clamp (by omega), m_sh_o (by omega), up2_eq]) dX8_program_162 ?_
        refine g_icmp_ge (tgt := 256) C dX8_program_163 (by decide) (fun c163 => ?_) (fun c163 => absurd c163 (not_not_intro (nI_le (Nat.le_refl _) (by omega))))
        refine g_aload_n C dX8_program_256 rfl ?_
        refine g_getr (j := 141) C F8 (by rw [hw]; decide) rfl (by decide) 15 (by decide) rfl (hts (.fieldLink RX8 33 "FallBenchModel" "many" "[I") (by decide +kernel)) rfl (hR (15, 141) (by decide)) dX8_program_257 ?_
        refine g_iload_n C dX8_program_260 rfl ?_
        refine g_iald (v := nI (PARSE T).2.2.length) C (by rw [hw]; decide) rfl (vp_in_nI (N := 4) (n := s) (by omega) (by decide)) (by rw [nI_clamp (by omega), m_sh_o (by omega), up2_eq]) dX8_program_261 ?_
        exact g_iret C Rr ⟨rfl, fin⟩ dX8_program_262
      | succ dd ih =>
        intro k hk
        refine g_iload_n C dX8_program_156 rfl ?_
        refine g_aload_n C dX8_program_157 rfl ?_
        refine g_getr (j := 141) C F8 (by rw [hw]; decide) rfl (by decide) 15 (by decide) rfl (hts (.fieldLink RX8 33 "FallBenchModel" "many" "[I") (by decide +kernel)) rfl (hR (15, 141) (by decide)) dX8_program_158 ?_
        refine g_iload_n C dX8_program_161 rfl ?_
        refine g_iald (v := nI (PARSE T).2.2.length) C (by rw [hw]; decide) rfl (vp_in_nI (N := 4) (n := s) (by omega) (by decide)) (by rw [nI_clamp (by omega), m_sh_o (by omega), up2_eq]) dX8_program_162 ?_
        refine g_icmp_ge (tgt := 256) C dX8_program_163 (by decide) (fun c163 => absurd c163 (nI_ge (by omega) (by omega))) (fun c163 => ?_)
        refine g_aload_n C dX8_program_166 rfl ?_
        refine g_getr (j := 137) C F8 (by rw [hw]; decide) rfl (by decide) 11 (by decide) rfl (hts (.fieldLink RX8 20 "FallBenchModel" "aWhat" "[I") (by decide +kernel)) rfl (hR (11, 137) (by decide)) dX8_program_167 ?_
        refine g_bipush (v := 80) C dX8_program_170 (by decide) ?_
        refine g_iload_n C dX8_program_172 rfl ?_
        refine g_imul C dX8_program_173 ?_
        refine g_iload_n C dX8_program_174 rfl ?_
        refine g_iadd C dX8_program_175 ?_
        rw [show (80 : Int32) * nI s + nI k = nI (80 * s + k) from by rw [show (80 : Int32) * nI s = nI (80 * s) from pk_mul 80 s, nI_add]]
        refine g_aload_n C dX8_program_176 rfl ?_
        refine g_getr (j := 137) C F8 (by rw [hw]; decide) rfl (by decide) 11 (by decide) rfl (hts (.fieldLink RX8 20 "FallBenchModel" "aWhat" "[I") (by decide +kernel)) rfl (hR (11, 137) (by decide)) dX8_program_177 ?_
        refine g_sipush (v := 240) C dX8_program_180 (by decide) ?_
        refine g_iload_n C dX8_program_183 rfl ?_
        refine g_iadd C dX8_program_184 ?_
        rw [show (240 : Int32) + nI k = nI (240 + k) from nI_add 240 k]
        refine g_iald (v := (up2 m 141 s (nI (PARSE T).2.2.length)) 137 (240 + k)) C (by rw [hw]; decide) rfl (vp_in_nI (N := 320) (by omega) (by decide)) (by rw [nI_clamp (show 240 + k < 2 ^ 31 by omega), m_sh_o (by omega)]) dX8_program_185 ?_
        refine g_iast C (by rw [hw]; decide) rfl (vp_in_nI (N := 320) (by omega) (by decide)) dX8_program_186 ?_
        rw [nI_clamp (show 80 * s + k < 2 ^ 31 by omega)]
        refine g_aload_n C dX8_program_187 rfl ?_
        refine g_getr (j := 138) C F8 (by rw [hw]; decide) rfl (by decide) 12 (by decide) rfl (hts (.fieldLink RX8 24 "FallBenchModel" "aOne" "[I") (by decide +kernel)) rfl (hR (12, 138) (by decide)) dX8_program_188 ?_
        refine g_bipush (v := 80) C dX8_program_191 (by decide) ?_
        refine g_iload_n C dX8_program_193 rfl ?_
        refine g_imul C dX8_program_194 ?_
        refine g_iload_n C dX8_program_195 rfl ?_
        refine g_iadd C dX8_program_196 ?_
        rw [show (80 : Int32) * nI s + nI k = nI (80 * s + k) from by rw [show (80 : Int32) * nI s = nI (80 * s) from pk_mul 80 s, nI_add]]
        refine g_aload_n C dX8_program_197 rfl ?_
        refine g_getr (j := 138) C F8 (by rw [hw]; decide) rfl (by decide) 12 (by decide) rfl (hts (.fieldLink RX8 24 "FallBenchModel" "aOne" "[I") (by decide +kernel)) rfl (hR (12, 138) (by decide)) dX8_program_198 ?_
        refine g_sipush (v := 240) C dX8_program_201 (by decide) ?_
        refine g_iload_n C dX8_program_204 rfl ?_
        refine g_iadd C dX8_program_205 ?_
        rw [show (240 : Int32) + nI k = nI (240 + k) from nI_add 240 k]
        refine g_iald (v := (up2 m 141 s (nI (PARSE T).2.2.length)) 138 (240 + k)) C (by rw [hw]; decide) rfl (vp_in_nI (N := 320) (by omega) (by decide)) (by rw [nI_clamp (show 240 + k < 2 ^ 31 by omega), up2_n1 _ _ (by decide), m_sh_o (by omega)]) dX8_program_206 ?_
        refine g_iast C (by rw [hw]; decide) rfl (vp_in_nI (N := 320) (by omega) (by decide)) dX8_program_207 ?_
        rw [nI_clamp (show 80 * s + k < 2 ^ 31 by omega)]
        refine g_aload_n C dX8_program_208 rfl ?_
        refine g_getr (j := 139) C F8 (by rw [hw]; decide) rfl (by decide) 13 (by decide) rfl (hts (.fieldLink RX8 27 "FallBenchModel" "aTwo" "[I") (by decide +kernel)) rfl (hR (13, 139) (by decide)) dX8_program_209 ?_
        refine g_bipush (v := 80) C dX8_program_212 (by decide) ?_
        refine g_iload_n C dX8_program_214 rfl ?_
        refine g_imul C dX8_program_215 ?_
        refine g_iload_n C dX8_program_216 rfl ?_
        refine g_iadd C dX8_program_217 ?_
        rw [show (80 : Int32) * nI s + nI k = nI (80 * s + k) from by rw [show (80 : Int32) * nI s = nI (80 * s) from pk_mul 80 s, nI_add]]
        refine g_aload_n C dX8_program_218 rfl ?_
        refine g_getr (j := 139) C F8 (by rw [hw]; decide) rfl (by decide) 13 (by decide) rfl (hts (.fieldLink RX8 27 "FallBenchModel" "aTwo" "[I") (by decide +kernel)) rfl (hR (13, 139) (by decide)) dX8_program_219 ?_
        refine g_sipush (v := 240) C dX8_program_222 (by decide) ?_
        refine g_iload_n C dX8_program_225 rfl ?_
        refine g_iadd C dX8_program_226 ?_
        rw [show (240 : Int32) + nI k = nI (240 + k) from nI_add 240 k]
        refine g_iald (v := (up2 m 141 s (nI (PARSE T).2.2.length)) 139 (240 + k)) C (by rw [hw]; decide) rfl (vp_in_nI (N := 320) (by omega) (by decide)) (by rw [nI_clamp (show 240 + k < 2 ^ 31 by omega), up2_n1 _ _ (by decide), up2_n1 _ _ (by decide), m_sh_o (by omega)]) dX8_program_227 ?_
        refine g_iast C (by rw [hw]; decide) rfl (vp_in_nI (N := 320) (by omega) (by decide)) dX8_program_228 ?_
        rw [nI_clamp (show 80 * s + k < 2 ^ 31 by omega)]
        refine g_aload_n C dX8_program_229 rfl ?_
        refine g_getr (j := 140) C F8 (by rw [hw]; decide) rfl (by decide) 14 (by decide) rfl (hts (.fieldLink RX8 30 "FallBenchModel" "aN" "[I") (by decide +kernel)) rfl (hR (14, 140) (by decide)) dX8_program_230 ?_
        refine g_bipush (v := 80) C dX8_program_233 (by decide) ?_
        refine g_iload_n C dX8_program_235 rfl ?_
        refine g_imul C dX8_program_236 ?_
        refine g_iload_n C dX8_program_237 rfl ?_
        refine g_iadd C dX8_program_238 ?_
        rw [show (80 : Int32) * nI s + nI k = nI (80 * s + k) from by rw [show (80 : Int32) * nI s = nI (80 * s) from pk_mul 80 s, nI_add]]
        refine g_aload_n C dX8_program_239 rfl ?_
        refine g_getr (j := 140) C F8 (by rw [hw]; decide) rfl (by decide) 14 (by decide) rfl (hts (.fieldLink RX8 30 "FallBenchModel" "aN" "[I") (by decide +kernel)) rfl (hR (14, 140) (by decide)) dX8_program_240 ?_
        refine g_sipush (v := 240) C dX8_program_243 (by decide) ?_
        refine g_iload_n C dX8_program_246 rfl ?_
        refine g_iadd C dX8_program_247 ?_
        rw [show (240 : Int32) + nI k = nI (240 + k) from nI_add 240 k]
        refine g_iald (v := (up2 m 141 s (nI (PARSE T).2.2.length)) 140 (240 + k)) C (by rw [hw]; decide) rfl (vp_in_nI (N := 320) (by omega) (by decide)) (by rw [nI_clamp (show 240 + k < 2 ^ 31 by omega), up2_n1 _ _ (by decide), up2_n1 _ _ (by decide), up2_n1 _ _ (by decide), m_sh_o (by omega)]) dX8_program_248 ?_
        refine g_iast C (by rw [hw]; decide) rfl (vp_in_nI (N := 320) (by omega) (by decide)) dX8_program_249 ?_
        rw [nI_clamp (show 80 * s + k < 2 ^ 31 by omega)]
        refine g_iinc (v := nI (k + 1)) C V.2.1 dX8_program_250 rfl (nI_succ k).symm (by decide) rfl ?_
        refine g_goto (tgt := 156) C dX8_program_253 (by decide) ?_
        rw [m_sh_s]
        exact ih (k + 1) (by omega)
    have h9 := loop (PARSE T).2.2.length 0 (by omega)
    rw [m_sh_0] at h9
    refine g_aload_n C dX8_program_142 rfl ?_
    refine g_getr (j := 141) C F8 (by rw [hw]; decide) rfl (by decide) 15 (by decide) rfl (hts (.fieldLink RX8 33 "FallBenchModel" "many" "[I") (by decide +kernel)) rfl (hR (15, 141) (by decide)) dX8_program_143 ?_
    refine g_iload_n C dX8_program_146 rfl ?_
    refine g_aload_n C dX8_program_147 rfl ?_
    refine g_getr (j := 141) C F8 (by rw [hw]; decide) rfl (by decide) 15 (by decide) rfl (hts (.fieldLink RX8 33 "FallBenchModel" "many" "[I") (by decide +kernel)) rfl (hR (15, 141) (by decide)) dX8_program_148 ?_
    refine g_iconst (v := 3) C dX8_program_151 (by decide) ?_
    refine g_iald (v := nI (PARSE T).2.2.length) C (by rw [hw]; decide) rfl (vp_in_nI (N := 4) (n := 3) (by decide) (by decide)) q7 dX8_program_152 ?_
    refine g_iast C (by rw [hw]; decide) rfl (vp_in_nI (N := 4) (n := s) (by omega) (by decide)) dX8_program_153 ?_
    refine g_iconst (v := 0) C dX8_program_154 (by decide) ?_
    refine g_istore_n C V.2.1 dX8_program_155 (by decide) rfl ?_
    rw [nI_clamp (show s < 2 ^ 31 by omega)]
    exact h9
  have t103 : ∀ m j z, stM T m j (LINES T) → m 134 2 = 0 → gF M m → mJ J j → Gj X 0 0 w m j R 103 [some (.ref (w.2.1 134)), some (.int (nI s)), z] [] := by
    intro m j z q1 q2 q3 q4
    have hpx : pxM T m j (LINES T).1 := q1.1
    by_cases h0 : (LINES T).1.2.1 = 0
    · obtain ⟨hLb, hAc, hoL, hoA⟩ := q1.2.2 h0
      have hg := px_good hpx h0
      have ff : ∀ k m0, ¬ m0 134 4 = 0 → ¬ (PARSE T).1 = 0 → m0 134 4 = (PARSE T).1 → m0 134 5 = (PARSE T).2.1 → m0 134 2 = 0 → gF M m0 → Gj X 0 0 w m0 j R 105 [some (.ref (w.2.1 134)), some (.int (nI s)), some (.int (nI k))] [] := by
        intro k m0 y1 y2 y3 y4 y5 y6
        refine g_iload_n C dX8_program_105 rfl ?_
        refine g_aload_n C dX8_program_106 rfl ?_
        refine g_getr (j := 141) C F8 (by rw [hw]; decide) rfl (by decide) 15 (by decide) rfl (hts (.fieldLink RX8 33 "FallBenchModel" "many" "[I") (by decide +kernel)) rfl (hR (15, 141) (by decide)) dX8_program_107 ?_
        refine g_iconst (v := 3) C dX8_program_110 (by decide) ?_
        refine g_iald C (by rw [hw]; decide) rfl (vp_in_nI (N := 4) (n := 3) (by decide) (by decide)) rfl dX8_program_111 ?_
        refine g_icmp_ge (tgt := 133) C dX8_program_112 (by decide) (fun c112 => ?_) (fun c112 => ?_)
        · exact t133f m0 j _ y1 y2 y3 y4 y5 y6 q4
        · refine g_aload_n C dX8_program_115 rfl ?_
          refine g_callVf C hts V (i := 134) (gX8_program_X8_isGood) rfl hdX8_isGood (by decide) (Cf.to (c_X8_isGood hw hR) (congrArg (fun z => some (Value.int z)) (show _ = (0 : Int32) from if_neg y1)) rfl) (by rw [hw]; decide) rfl (by decide) rfl rfl (Nat.le_of_ble_eq_true rfl) dX8_program_116 ?_
          refine g_if_eq (tgt := 133) C dX8_program_119 (by decide) (fun c119 => ?_) (fun c119 => absurd c119 (not_not_intro rfl))
          exact t133f m0 j _ y1 y2 y3 y4 y5 y6 q4
      have loop : ∀ dd k m0, k + dd = (LINES T).2.2.length → (∀ a b, ¬ (a = 140 ∧ 240 ≤ b ∧ b < 240 + k) → m0 a b = m a b) → (∀ b, b < k → m0 140 (240 + b) = rsN (LINES T).2.1 ((LINES T).2.2.getD b dA)) → hfd (noL (LINES T).2.1 (LINES T).2.2) k = none → Gj X 0 0 w m0 j R 105 [some (.ref (w.2.1 134)), some (.int (nI s)), some (.int (nI k))] [] := by
        intro dd
        induction dd with
        | zero =>
          intro k m0 hk y1 y2 y3
          obtain rfl : k = (LINES T).2.2.length := by omega
          have eP : PARSE T = (0, (LINES T).1.2.2, (LINES T).2.2.map (rs (LINES T).2.1)) := by unfold PARSE t_end; rw [if_pos h0, y3]
          refine g_iload_n C dX8_program_105 rfl ?_
          refine g_aload_n C dX8_program_106 rfl ?_
          refine g_getr (j := 141) C F8 (by rw [hw]; decide) rfl (by decide) 15 (by decide) rfl (hts (.fieldLink RX8 33 "FallBenchModel" "many" "[I") (by decide +kernel)) rfl (hR (15, 141) (by decide)) dX8_program_107 ?_
          refine g_iconst (v := 3) C dX8_program_110 (by decide) ?_
          refine g_iald (v := nI (LINES T).2.2.length) C (by rw [hw]; decide) rfl (vp_in_nI (N := 4) (n := 3) (by decide) (by decide)) ((y1 141 3 (by omega)).trans hAc.1) dX8_program_111 ?_
          refine g_icmp_ge (tgt := 133) C dX8_program_112 (by decide) (fun c112 => ?_) (fun c112 => absurd c112 (not_not_intro (nI_le (Nat.le_refl _) (by omega))))
          refine g_aload_n C dX8_program_133 rfl ?_
          refine g_callVf C hts V (i := 134) (gX8_program_X8_isGood) rfl hdX8_isGood (by decide) (Cf.to (c_X8_isGood hw hR) (congrArg (fun z => some (Value.int z)) (show _ = (1 : Int32) from if_pos ((y1 134 4 (by omega)).trans hg))) rfl) (by rw [hw]; decide) rfl (by decide) rfl rfl (Nat.le_of_ble_eq_true rfl) dX8_program_134 ?_
          refine g_if_ne (tgt := 142) C dX8_program_137 (by decide) (fun c137 => ?_) (fun c137 => absurd c137 (by decide))
          refine t142 m0 j _ ((y1 134 4 (by omega)).trans hg) (by rw [eP]) (by rw [eP]; exact (y1 134 5 (by omega)).trans hpx.2.2.2.1) ((y1 134 2 (by omega)).trans q2) (fun x y z1 z2 z3 z4 z5 z6 => (y1 x y (by omega)).trans (q3 x y z1 z2 z3 z4 z5 z6)) q4 (by rw [eP]; dsimp only; rw [List.length_map]; exact oK3) (by rw [eP]; dsimp only; rw [List.length_map]; exact (y1 141 3 (by omega)).trans hAc.1) (fun k hk => ?_)
          rw [eP] at hk ⊢
          dsimp only at hk ⊢
          rw [List.length_map] at hk
          rw [map_getD (LINES T).2.1 (LINES T).2.2 hk, y1 137 _ (by omega), y1 138 _ (by omega), y1 139 _ (by omega), y2 k hk]
          have e := (hAc.2 k hk).1
          unfold rs
          rw [← e]
        | succ dd ih =>
          intro k m0 hk y1 y2 y3
          have hAk := hAc.2 k (by omega)
          have e7 : m0 137 (240 + k) = ((LINES T).2.2.getD k dA).1.1 := (y1 _ _ (by omega)).trans (congrArg Prod.fst hAk.1)
          have e40 : m 140 (240 + k) = ((LINES T).2.2.getD k dA).1.2.2.2 := congrArg (fun y => y.2.2.2) hAk.1
          have hg0 : m0 134 4 = 0 := (y1 134 4 (by omega)).trans hg
          have hLb0 : labM m0 j (LINES T).2.1 := hLb.o (y1 _ _ (by omega)) (fun q => y1 _ _ (by omega)) (fun _ => rfl)
          refine g_iload_n C dX8_program_105 rfl ?_
          refine g_aload_n C dX8_program_106 rfl ?_
          refine g_getr (j := 141) C F8 (by rw [hw]; decide) rfl (by decide) 15 (by decide) rfl (hts (.fieldLink RX8 33 "FallBenchModel" "many" "[I") (by decide +kernel)) rfl (hR (15, 141) (by decide)) dX8_program_107 ?_
          refine g_iconst (v := 3) C dX8_program_110 (by decide) ?_
          refine g_iald (v := nI (LINES T).2.2.length) C (by rw [hw]; decide) rfl (vp_in_nI (N := 4) (n := 3) (by decide) (by decide)) ((y1 141 3 (by omega)).trans hAc.1) dX8_program_111 ?_
          refine g_icmp_ge (tgt := 133) C dX8_program_112 (by decide) (fun c112 => absurd c112 (nI_ge (by omega) (by omega))) (fun c112 => ?_)
          refine g_aload_n C dX8_program_115 rfl ?_
          refine g_callVf C hts V (i := 134) (gX8_program_X8_isGood) rfl hdX8_isGood (by decide) (Cf.to (c_X8_isGood hw hR) (congrArg (fun z => some (Value.int z)) (show _ = (1 : Int32) from if_pos hg0)) rfl) (by rw [hw]; decide) rfl (by decide) rfl rfl (Nat.le_of_ble_eq_true rfl) dX8_program_116 ?_
          refine g_if_eq (tgt := 133) C dX8_program_119 (by decide) (fun c119 => absurd c119 (by decide)) (fun c119 => ?_)
          refine g_aload_n C dX8_program_122 rfl ?_
          refine g_iload_n C dX8_program_123 rfl ?_
          refine g_callVf C hts V (i := 134) (gX8_program_X8_goTo) rfl hdX8_goTo (by decide) (c_X8_goTo (L := (LINES T).2.1) (a := (LINES T).2.2.getD k dA) hw hR (show k < 80 by omega) hg0 hLb0 oK2 hoL (fun q => ⟨hoA k (by omega) q, (hAk.2 q).1, (y1 _ _ (by omega)).trans (hAk.2 q).2⟩) e7) (by rw [hw]; decide) rfl (by decide) rfl rfl (Nat.le_of_ble_eq_true rfl) dX8_program_124 ?_
          refine g_iinc (v := nI (k + 1)) C V.2.1 dX8_program_127 rfl (nI_succ k).symm (by decide) rfl ?_
          refine g_goto (tgt := 105) C dX8_program_130 (by decide) ?_
          by_cases hgo : goL ((LINES T).2.2.getD k dA).1.1 = 0
          · rw [show gtM m0 (LINES T).2.1 ((LINES T).2.2.getD k dA) k = m0 from if_pos hgo]
            exact ih (k + 1) m0 (by omega) (fun a b y => y1 a b (by omega)) (fun b hb => by
              rcases Nat.lt_or_ge b k with g | g
              · exact y2 b g
              · obtain rfl : b = k := by omega
                rw [y1 _ _ (by omega), e40, rsN, if_pos hgo]) (by rw [hfd_s y3, if_neg (fun y => y.1 hgo)])
          · rcases hf : lfd (LINES T).2.1 ((LINES T).2.2.getD k dA).2.1 with _ | h
            · have hfd1 : hfd (noL (LINES T).2.1 (LINES T).2.2) (LINES T).2.2.length = some k := hfd_up (n := k + 1) (by rw [hfd_s y3, if_pos ⟨hgo, hf⟩]) _ (by omega)
              have eP : PARSE T = (4, ((LINES T).2.2.getD k dA).2.2, []) := by unfold PARSE t_end; rw [if_pos h0, hfd1]
              rw [show gtM m0 (LINES T).2.1 ((LINES T).2.2.getD k dA) k = up2 (up2 m0 134 4 4) 134 5 ((LINES T).2.2.getD k dA).2.2 by unfold gtM; rw [if_neg hgo, hf]]
              refine ff (k + 1) _ (by rw [up2_n2 _ _ (by decide), up2_eq]; decide) (by rw [eP]; dsimp only; decide) (by rw [eP, up2_n2 _ _ (by decide), up2_eq]) (by rw [eP, up2_eq]) (by rw [up2_n2 _ _ (by decide), up2_n2 _ _ (by decide)]; exact (y1 134 2 (by omega)).trans q2) (fun x y z1 z2 z3 z4 z5 z6 => ?_)
              rw [up2_nb (fun z => z1 ⟨z.1, by omega⟩), up2_nb (fun z => z1 ⟨z.1, by omega⟩)]
              exact (y1 x y (by omega)).trans (q3 x y z1 z2 z3 z4 z5 z6)
            · rw [show gtM m0 (LINES T).2.1 ((LINES T).2.2.getD k dA) k = up2 m0 140 (240 + k) (nI ((LINES T).2.1.getD h ([], 0)).2) by unfold gtM; rw [if_neg hgo, hf]]
              exact ih (k + 1) _ (by omega) (fun a b y => by rw [up2_nb (by omega)]; exact y1 a b (by omega)) (fun b hb => by
                rcases Nat.lt_or_ge b k with g | g
                · rw [up2_n2 _ _ (by omega)]; exact y2 b g
                · obtain rfl : b = k := by omega
                  rw [up2_eq, rsN, if_neg hgo, hf]; rfl) (by rw [hfd_s y3, if_neg (fun y => absurd (hf.symm.trans y.2) (by intro q; cases q))])
      refine g_iconst (v := 0) C dX8_program_103 (by decide) ?_
      refine g_istore_n C V.2.1 dX8_program_104 (by decide) rfl ?_
      exact loop (LINES T).2.2.length 0 m (by omega) (fun _ _ _ => rfl) (fun b hb => absurd hb (Nat.not_lt_zero b)) rfl
    · have eP : PARSE T = ((LINES T).1.2.1, (LINES T).1.2.2, []) := by unfold PARSE t_end; rw [if_neg h0]
      have f133 : ∀ z, Gj X 0 0 w m j R 133 [some (.ref (w.2.1 134)), some (.int (nI s)), z] [] := fun z => t133f m j z (px_ng hpx h0) (by rw [eP]; exact h0) (by rw [eP]; exact hpx.2.2.1) (by rw [eP]; exact hpx.2.2.2.1) q2 q3 q4
      refine g_iconst (v := 0) C dX8_program_103 (by decide) ?_
      refine g_istore_n C V.2.1 dX8_program_104 (by decide) rfl ?_
      refine g_iload_n C dX8_program_105 rfl ?_
      refine g_aload_n C dX8_program_106 rfl ?_
      refine g_getr (j := 141) C F8 (by rw [hw]; decide) rfl (by decide) 15 (by decide) rfl (hts (.fieldLink RX8 33 "FallBenchModel" "many" "[I") (by decide +kernel)) rfl (hR (15, 141) (by decide)) dX8_program_107 ?_
      refine g_iconst (v := 3) C dX8_program_110 (by decide) ?_
      refine g_iald C (by rw [hw]; decide) rfl (vp_in_nI (N := 4) (n := 3) (by decide) (by decide)) rfl dX8_program_111 ?_
      refine g_icmp_ge (tgt := 133) C dX8_program_112 (by decide) (fun c112 => ?_) (fun c112 => ?_)
      · exact f133 _
      · refine g_aload_n C dX8_program_115 rfl ?_
        refine g_callVf C hts V (i := 134) (gX8_program_X8_isGood) rfl hdX8_isGood (by decide) (Cf.to (c_X8_isGood hw hR) (congrArg (fun z => some (Value.int z)) (show _ = (0 : Int32) from if_neg (px_ng hpx h0))) rfl) (by rw [hw]; decide) rfl (by decide) rfl rfl (Nat.le_of_ble_eq_true rfl) dX8_program_116 ?_
        refine g_if_eq (tgt := 133) C dX8_program_119 (by decide) (fun c119 => ?_) (fun c119 => absurd c119 (not_not_intro rfl))
        exact f133 _
  have lines : ∀ f m j s0 z, (finS T s0 ∨ 1001 ≤ s0.1.1 + f) → stM T m j s0 → m 134 2 = 0 → gF M m → mJ J j → t_lines T f s0 = (LINES T) → Gj X 0 0 w m j R 82 [some (.ref (w.2.1 134)), some (.int (nI s)), z] [] := by
    intro f
    induction f with
    | zero =>
      intro m j s0 z q0 q1 q2 q3 q4 q5
      have hpx : pxM T m j s0.1 := q1.1
      by_cases hfi : finS T s0
      · have e9 := t_lines_fin (T := T) (s := s0) 0 hfi
        have g103 := t103 m j z (by rw [← q5, e9]; exact q1) q2 q3 q4
        by_cases h0 : s0.1.2.1 = 0
        · have h6 : tK T s0.1.1 = 6 := hfi.resolve_left (fun y => y h0)
          have hn := hpx.2.2.2.2 h0
          refine g_aload_n C dX8_program_82 rfl ?_
          refine g_callVf C hts V (i := 134) (gX8_program_X8_isGood) rfl hdX8_isGood (by decide) (Cf.to (c_X8_isGood hw hR) (congrArg (fun z => some (Value.int z)) (show _ = (1 : Int32) from if_pos (px_good hpx h0))) rfl) (by rw [hw]; decide) rfl (by decide) rfl rfl (Nat.le_of_ble_eq_true rfl) dX8_program_83 ?_
          refine g_if_eq (tgt := 103) C dX8_program_86 (by decide) (fun c86 => absurd c86 (by decide)) (fun c86 => ?_)
          refine g_aload_n C dX8_program_89 rfl ?_
          refine g_geti C F8 (by rw [hw]; decide) rfl (by decide) 8 (by decide) rfl (hts (.fieldLink RX8 128 "FallBenchModel" "token" "I") (by decide +kernel)) rfl rfl dX8_program_90 ?_
          refine g_if_eq (tgt := 103) C dX8_program_93 (by decide) (fun c93 => ?_) (fun c93 => absurd c93 (not_not_intro (hn.2.1.trans (show rk (tK T s0.1.1) = 0 by rw [h6]; decide))))
          exact g103
        · refine g_aload_n C dX8_program_82 rfl ?_
          refine g_callVf C hts V (i := 134) (gX8_program_X8_isGood) rfl hdX8_isGood (by decide) (Cf.to (c_X8_isGood hw hR) (congrArg (fun z => some (Value.int z)) (show _ = (0 : Int32) from if_neg (px_ng hpx h0))) rfl) (by rw [hw]; decide) rfl (by decide) rfl rfl (Nat.le_of_ble_eq_true rfl) dX8_program_83 ?_
          refine g_if_eq (tgt := 103) C dX8_program_86 (by decide) (fun c86 => ?_) (fun c86 => absurd c86 (not_not_intro rfl))
          exact g103
      · exact absurd (live_le hX.1 q1.2.1.1) (by have := q0.resolve_left hfi; omega)
    | succ f ih =>
      intro m j s0 z q0 q1 q2 q3 q4 q5
      have hpx : pxM T m j s0.1 := q1.1
      by_cases hfi : finS T s0
      · have e9 := t_lines_fin (T := T) (s := s0) (f + 1) hfi
        have g103 := t103 m j z (by rw [← q5, e9]; exact q1) q2 q3 q4
        by_cases h0 : s0.1.2.1 = 0
        · have h6 : tK T s0.1.1 = 6 := hfi.resolve_left (fun y => y h0)
          have hn := hpx.2.2.2.2 h0
          refine g_aload_n C dX8_program_82 rfl ?_
          refine g_callVf C hts V (i := 134) (gX8_program_X8_isGood) rfl hdX8_isGood (by decide) (Cf.to (c_X8_isGood hw hR) (congrArg (fun z => some (Value.int z)) (show _ = (1 : Int32) from if_pos (px_good hpx h0))) rfl) (by rw [hw]; decide) rfl (by decide) rfl rfl (Nat.le_of_ble_eq_true rfl) dX8_program_83 ?_
          refine g_if_eq (tgt := 103) C dX8_program_86 (by decide) (fun c86 => absurd c86 (by decide)) (fun c86 => ?_)
          refine g_aload_n C dX8_program_89 rfl ?_
          refine g_geti C F8 (by rw [hw]; decide) rfl (by decide) 8 (by decide) rfl (hts (.fieldLink RX8 128 "FallBenchModel" "token" "I") (by decide +kernel)) rfl rfl dX8_program_90 ?_
          refine g_if_eq (tgt := 103) C dX8_program_93 (by decide) (fun c93 => ?_) (fun c93 => absurd c93 (not_not_intro (hn.2.1.trans (show rk (tK T s0.1.1) = 0 by rw [h6]; decide))))
          exact g103
        · refine g_aload_n C dX8_program_82 rfl ?_
          refine g_callVf C hts V (i := 134) (gX8_program_X8_isGood) rfl hdX8_isGood (by decide) (Cf.to (c_X8_isGood hw hR) (congrArg (fun z => some (Value.int z)) (show _ = (0 : Int32) from if_neg (px_ng hpx h0))) rfl) (by rw [hw]; decide) rfl (by decide) rfl rfl (Nat.le_of_ble_eq_true rfl) dX8_program_83 ?_
          refine g_if_eq (tgt := 103) C dX8_program_86 (by decide) (fun c86 => ?_) (fun c86 => absurd c86 (not_not_intro rfl))
          exact g103
      · have h0 : s0.1.2.1 = 0 := Classical.byContradiction (fun y => hfi (Or.inl y))
        have h6 : ¬ tK T s0.1.1 = 6 := fun y => hfi (Or.inr y)
        have hn := hpx.2.2.2.2 h0
        refine g_aload_n C dX8_program_82 rfl ?_
        refine g_callVf C hts V (i := 134) (gX8_program_X8_isGood) rfl hdX8_isGood (by decide) (Cf.to (c_X8_isGood hw hR) (congrArg (fun z => some (Value.int z)) (show _ = (1 : Int32) from if_pos (px_good hpx h0))) rfl) (by rw [hw]; decide) rfl (by decide) rfl rfl (Nat.le_of_ble_eq_true rfl) dX8_program_83 ?_
        refine g_if_eq (tgt := 103) C dX8_program_86 (by decide) (fun c86 => absurd c86 (by decide)) (fun c86 => ?_)
        refine g_aload_n C dX8_program_89 rfl ?_
        refine g_geti C F8 (by rw [hw]; decide) rfl (by decide) 8 (by decide) rfl (hts (.fieldLink RX8 128 "FallBenchModel" "token" "I") (by decide +kernel)) rfl rfl dX8_program_90 ?_
        refine g_if_eq (tgt := 103) C dX8_program_93 (by decide) (fun c93 => absurd c93 (fun y => h6 (rk_0 (hn.2.1.symm.trans y) (tkA_k T _)))) (fun c93 => ?_)
        refine g_aload_n C dX8_program_96 rfl ?_
        refine g_callVt C hts V (i := 134) (gX8_program_X8_readLine) rfl hdX8_readLine (by decide) (c_X8_readLine (x := s0.1) (L := s0.2.1) (A := s0.2.2) hw hR hX q1) (by rw [hw]; decide) rfl (by decide) rfl rfl (Nat.le_of_ble_eq_true rfl) dX8_program_97 (fun v M1 J1 R1 h => ?_)
        obtain ⟨v0, r0, hst, hF1, hJ1⟩ := h
        subst v0
        have r0 := Eq.symm r0
        subst r0
        dsimp only at hst hF1 hJ1
        refine g_goto (tgt := 82) C dX8_program_100 (by decide) ?_
        have e2 : M1 134 2 = 0 := (hF1 134 2 (by omega) (by decide) (by decide) (by omega) (by omega)).trans q2
        by_cases hgo : t_go T s0 = true
        · exact ih M1 J1 (t_line T s0) _ (Or.inr (by have := go_mo hgo; have := q0.resolve_left hfi; omega)) hst e2 (q3.m hF1) (q4.tr hJ1) (by rw [← q5]; exact (if_pos hgo).symm)
        · exact ih M1 J1 (t_line T s0) _ (Or.inl (fin_of hgo)) hst e2 (q3.m hF1) (q4.tr hJ1) (by rw [t_lines_fin f (fin_of hgo), ← q5]; exact (if_neg hgo).symm)
  have cp : ∀ dd k, k + dd = T.length → Gj X 0 0 w (m_cp M T.length k) J R 30 [some (.ref (w.2.1 134)), some (.int (nI s)), some (.int (nI k))] [] := by
    intro dd
    induction dd with
    | zero =>
      intro k hk
      obtain rfl : k = T.length := by omega
      have e2 : ∀ x y, ¬ (x = 134 ∧ (y = 2 ∨ y = 7 ∨ y = 20)) → ¬ (x = 141 ∧ y = 3) → (up2 (up2 (up2 (up2 (m_cp M T.length T.length) 134 2 0) 134 7 0) 141 3 0) 134 20 0) x y = m_cp M T.length T.length x y := fun x y z1 z2 => by rw [up2_nb (fun z => z1 ⟨z.1, by omega⟩), up2_nb z2, up2_nb (fun z => z1 ⟨z.1, by omega⟩), up2_nb (fun z => z1 ⟨z.1, by omega⟩)]
      have hx : txM (up2 (up2 (up2 (up2 (m_cp M T.length T.length) 134 2 0) 134 7 0) 141 3 0) 134 20 0) T := ⟨by rw [e2 134 3 (by omega) (by omega), m_cp_o (by decide)]; exact up2_eq _ _ _ _, fun k hk => by rw [e2 136 k (by omega) (by omega)]; unfold m_cp; rw [if_pos ⟨rfl, hk⟩, nar255]; exact hI.2 k hk⟩
      refine g_iload_n C dX8_program_30 rfl ?_
      refine g_aload_n C dX8_program_31 rfl ?_
      refine g_geti (v := nI T.length) C F8 (by rw [hw]; decide) rfl (by decide) 3 (by decide) rfl (hts (.fieldLink RX8 112 "FallBenchModel" "size" "I") (by decide +kernel)) rfl (by rw [m_cp_o (by decide)]; exact up2_eq _ _ _ _) dX8_program_32 ?_
      refine g_icmp_ge (tgt := 56) C dX8_program_35 (by decide) (fun c35 => ?_) (fun c35 => absurd c35 (not_not_intro (nI_le (Nat.le_refl _) (by omega))))
      refine g_aload_n C dX8_program_56 rfl ?_
      refine g_iconst (v := 0) C dX8_program_57 (by decide) ?_
      refine g_puti C F8 (by rw [hw]; decide) rfl (by decide) 2 (by decide) rfl (hts (.fieldLink RX8 184 "FallBenchModel" "taped" "I") (by decide +kernel)) rfl rfl rfl rfl dX8_program_58 ?_
      refine g_aload_n C dX8_program_61 rfl ?_
      refine g_iconst (v := 0) C dX8_program_62 (by decide) ?_
      refine g_puti C F8 (by rw [hw]; decide) rfl (by decide) 7 (by decide) rfl (hts (.fieldLink RX8 118 "FallBenchModel" "end" "I") (by decide +kernel)) rfl rfl rfl rfl dX8_program_63 ?_
      refine g_aload_n C dX8_program_66 rfl ?_
      refine g_getr (j := 141) C F8 (by rw [hw]; decide) rfl (by decide) 15 (by decide) rfl (hts (.fieldLink RX8 33 "FallBenchModel" "many" "[I") (by decide +kernel)) rfl (hR (15, 141) (by decide)) dX8_program_67 ?_
      refine g_iconst (v := 3) C dX8_program_70 (by decide) ?_
      refine g_iconst (v := 0) C dX8_program_71 (by decide) ?_
      refine g_iast C (by rw [hw]; decide) rfl (vp_in_nI (N := 4) (n := 3) (by decide) (by decide)) dX8_program_72 ?_
      refine g_aload_n C dX8_program_73 rfl ?_
      refine g_iconst (v := 0) C dX8_program_74 (by decide) ?_
      refine g_puti C F8 (by rw [hw]; decide) rfl (by decide) 20 (by decide) rfl (hts (.fieldLink RX8 187 "FallBenchModel" "labels" "I") (by decide +kernel)) rfl rfl rfl rfl dX8_program_75 ?_
      refine g_aload_n C dX8_program_78 rfl ?_
      refine g_callVt C hts V (i := 134) (gX8_program_X8_next) rfl hdX8_next (by decide) (c_X8_next (p := 0) hw hR hX hx (by rw [up2_n2 _ _ (by decide), up2_n1 _ _ (by decide), up2_eq]; rfl) (Nat.zero_le _)) (by rw [hw]; decide) rfl (by decide) rfl rfl (Nat.le_of_ble_eq_true rfl) dX8_program_79 (fun v M1 J1 R1 h => ?_)
      obtain ⟨v0, r0, hN⟩ := h
      subst v0
      have r0 := Eq.symm r0
      subst r0
      dsimp only at hN
      obtain ⟨n6, n8, n7, n9, n10, nF, nJ⟩ := hN
      have nM : ∀ x y, ¬ (x = 134 ∧ (2 ≤ y ∧ y ≤ 9 ∨ y = 20)) → ¬ x = 136 → ¬ (x = 141 ∧ y = 3) → M1 x y = M x y := fun x y z1 z2 z3 => by rw [nF x y (fun z => z1 ⟨z.1, by omega⟩), e2 x y (fun z => z1 ⟨z.1, by omega⟩) z3, m_cp_o z2, m_1_o (fun z => z1 ⟨z.1, by omega⟩)]
      have f4 : M1 134 4 = 0 := by rw [nF 134 4 (by omega), e2 134 4 (by omega) (by omega), m_cp_o (by decide)]; unfold m_1; rw [up2_n2 _ _ (by decide), up2_n2 _ _ (by decide), up2_eq]
      have f5 : M1 134 5 = -1 := by rw [nF 134 5 (by omega), e2 134 5 (by omega) (by omega), m_cp_o (by decide)]; unfold m_1; rw [up2_n2 _ _ (by decide), up2_eq]
      have f2 : M1 134 2 = 0 := by rw [nF 134 2 (by omega), up2_n2 _ _ (by decide), up2_n1 _ _ (by decide), up2_n2 _ _ (by decide), up2_eq]
      have f20 : M1 134 20 = nI 0 := by rw [nF 134 20 (by omega), up2_eq]; rfl
      have f141 : M1 141 3 = nI 0 := by rw [nF 141 3 (by omega), up2_n1 _ _ (by decide), up2_eq]; rfl
      exact lines 1001 M1 J1 ((0, 0, -1), [], []) _ (Or.inr (by decide)) ⟨⟨hx.F (nF 134 3 (by omega)) (fun k => nF 136 k (by omega)), live_0 T, f4, f5, fun _ => ⟨n6, n8, n7, n9, n10⟩⟩, okS_0 T, fun _ => ⟨⟨f20, fun j hj => absurd hj (Nat.not_lt_zero j)⟩, ⟨f141, fun j hj => absurd hj (Nat.not_lt_zero j)⟩, fun j hj => absurd hj (Nat.not_lt_zero j), fun j hj => absurd hj (Nat.not_lt_zero j)⟩⟩ f2 (fun x y z1 z2 z3 z4 z5 z6 => nM x y z1 z2 z6) (fun x y z1 z2 z3 => nJ x y z1) rfl
    | succ dd ih =>
      intro k hk
      refine g_iload_n C dX8_program_30 rfl ?_
      refine g_aload_n C dX8_program_31 rfl ?_
      refine g_geti (v := nI T.length) C F8 (by rw [hw]; decide) rfl (by decide) 3 (by decide) rfl (hts (.fieldLink RX8 112 "FallBenchModel" "size" "I") (by decide +kernel)) rfl (by rw [m_cp_o (by decide)]; exact up2_eq _ _ _ _) dX8_program_32 ?_
      refine g_icmp_ge (tgt := 56) C dX8_program_35 (by decide) (fun c35 => absurd c35 (nI_ge (by omega) (by omega))) (fun c35 => ?_)
      refine g_aload_n C dX8_program_38 rfl ?_
      refine g_getr (j := 136) C F8 (by rw [hw]; decide) rfl (by decide) 1 (by decide) rfl (hts (.fieldLink RX8 13 "FallBenchModel" "text" "[B") (by decide +kernel)) rfl (hR (1, 136) (by decide)) dX8_program_39 ?_
      refine g_iload_n C dX8_program_42 rfl ?_
      refine g_aload_n C dX8_program_43 rfl ?_
      refine g_getr (j := 135) C F8 (by rw [hw]; decide) rfl (by decide) 0 (by decide) rfl (hts (.fieldLink RX8 7 "FallBenchModel" "tape" "[B") (by decide +kernel)) rfl (hR (0, 135) (by decide)) dX8_program_44 ?_
      refine g_iload_n C dX8_program_47 rfl ?_
      refine g_bald (v := M 135 k) C (by rw [hw]; decide) rfl (vp_in_nI (N := 1020) (by omega) (by decide)) (by rw [nI_clamp (by omega), m_cp_o (by decide), m_1_o (by omega)]) dX8_program_48 ?_
      refine g_bast C (by rw [hw]; decide) rfl (vp_in_nI (N := 1000) (by omega) (by decide)) dX8_program_49 ?_
      refine g_iinc (v := nI (k + 1)) C V.2.1 dX8_program_50 rfl (nI_succ k).symm (by decide) rfl ?_
      refine g_goto (tgt := 30) C dX8_program_53 (by decide) ?_
      rw [nI_clamp (show k < 2 ^ 31 by omega), m_cp_s]
      exact ih (k + 1) (by omega)
  refine g_iload_n C dX8_program_0 rfl ?_
  refine g_callSf C hts V (gX8_program_X8_isShelf) rfl hdX8_isShelf (by decide) c_X8_isShelf rfl rfl (Nat.le_of_ble_eq_true rfl) dX8_program_1 ?_
  refine g_if_ne (tgt := 10) C dX8_program_4 (by decide) (fun c4 => ?_) (fun c4 => absurd c4 (sh_no hs))
  refine g_aload_n C dX8_program_10 rfl ?_
  refine g_iconst (v := 0) C dX8_program_11 (by decide) ?_
  refine g_puti C F8 (by rw [hw]; decide) rfl (by decide) 4 (by decide) rfl (hts (.fieldLink RX8 115 "FallBenchModel" "faultKind" "I") (by decide +kernel)) rfl rfl rfl rfl dX8_program_12 ?_
  refine g_aload_n C dX8_program_15 rfl ?_
  refine g_iconst (v := (-1)) C dX8_program_16 (by decide) ?_
  refine g_puti C F8 (by rw [hw]; decide) rfl (by decide) 5 (by decide) rfl (hts (.fieldLink RX8 16 "FallBenchModel" "faultPlace" "I") (by decide +kernel)) rfl rfl rfl rfl dX8_program_17 ?_
  refine g_aload_n C dX8_program_20 rfl ?_
  refine g_aload_n C dX8_program_21 rfl ?_
  refine g_geti (v := nI T.length) C F8 (by rw [hw]; decide) rfl (by decide) 2 (by decide) rfl (hts (.fieldLink RX8 184 "FallBenchModel" "taped" "I") (by decide +kernel)) rfl (by rw [up2_n2 _ _ (by decide), up2_n2 _ _ (by decide)]; exact hI.1) dX8_program_22 ?_
  refine g_puti C F8 (by rw [hw]; decide) rfl (by decide) 3 (by decide) rfl (hts (.fieldLink RX8 112 "FallBenchModel" "size" "I") (by decide +kernel)) rfl rfl rfl rfl dX8_program_25 ?_
  refine g_iconst (v := 0) C dX8_program_28 (by decide) ?_
  refine g_istore_n C V.2.1 dX8_program_29 (by decide) rfl ?_
  have h9 := cp T.length 0 (by omega)
  rw [m_cp_0] at h9
  exact h9
