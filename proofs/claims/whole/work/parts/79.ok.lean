/-! what PARSE gives is a program that may be; a contract's end made weaker -/
theorem Cg.mono {l : Launch} {y : MethodName} {ws : List Cond} {rm : Room} {D : va_G} {w : gw} {av : List Value} {u : gm} {mc ms : Nat} {post post' : Option Value → gw → gm → Prop} (h : Cg l y ws rm D w av u mc ms post) (hp : ∀ v w' u', post v w' u' → post' v w' u') : Cg l y ws rm D w av u mc ms post' := fun sz => by
  refine Jvm.Free.MetFree.mono (h sz) (fun _ _ z => z) (fun _ _ _ _ _ z => z) (fun a s o s' _ z => ?_)
  obtain ⟨⟨⟨v, w', u', h1, h2, h3⟩, h4⟩, h5⟩ := z
  exact ⟨⟨⟨v, w', u', h1, hp v w' u' h2, h3⟩, h4⟩, h5⟩
theorem Ct.mono {l : Launch} {y : MethodName} {ws : List Cond} {rm : Room} {D : va_G} {w : gw} {av : List Value} {u : gm} {post post' : Option Value → gm → Prop} (h : Ct l y ws rm D w av u post) (hp : ∀ v u', post v u' → post' v u') : Ct l y ws rm D w av u post' := Cg.mono h (fun v w' u' z => ⟨z.1, hp v u' z.2⟩)
theorem Cf.mono {l : Launch} {y : MethodName} {ws : List Cond} {rm : Room} {D : va_G} {w : gw} {av : List Value} {M M2 : Nat → Nat → Int32} {J J2 : Nat → Nat → Int64} {R R2 : Nat → Nat → Option Nat} {res : Option Value} {post' : Option Value → gm → Prop} (h : Cf l y ws rm D w av M J R res M2 J2 R2) (hp : post' res (M2, J2, R2)) : Ct l y ws rm D w av (M, J, R) post' := Ct.mono h (fun v u' z => by obtain ⟨rfl, rfl⟩ := z; exact hp)
def okR (s : pS) : Prop := s.1.2.1 = 0 → (∀ j, j < s.2.1.length → (s.2.1.getD j ([], 0)).2 ≤ s.2.2.length) ∧ ∀ k, k < s.2.2.length → okA (s.2.2.getD k dA).1.1 (s.2.2.getD k dA).1.2.1 (s.2.2.getD k dA).1.2.2.1 ∧ vp_in (s.2.2.getD k dA).1.1 14
theorem take_good {T : List Int32} {k : Int32} {x : px} (h : (t_take T k x).2.1 = 0) : x.2.1 = 0 ∧ tK T x.1 = k := by
  have h0 := t_take_0 h
  refine ⟨h0, Classical.byContradiction (fun z => ?_)⟩
  rw [t_take_bad h0 z] at h
  exact t_bad_ne T x h
theorem val_reg {T : List Int32} {x : px} (h : (t_take T 2 x).2.1 = 0) : vp_in (t_val T 2 x) 8 := by
  obtain ⟨h0, hk⟩ := take_good h
  unfold t_val
  rw [if_pos h0, if_pos hk]
  exact tkA_r hk
theorem rgC : ∀ kk, kk < 14 → (nI kk ≠ 10 → nI kk ≠ 13 → ¬ rg (nI kk) < 1) ∧ (2 ≤ nI kk ∧ nI kk ≤ 9 → ¬ rg (nI kk) < 2) := by decide +kernel
theorem act_ok {T : List Int32} {kk : Nat} (hk : kk < 14) {x : px} (h : (t_act T (nI kk) x).1.2.1 = 0) : okA (nI kk) (a_r T (nI kk) x) (a_s T (nI kk) (a_x2 T (nI kk) x)) := by
  have h4 : (a_4 T (nI kk) x).2.1 = 0 := Classical.byContradiction (fun z => by have h : (a_x5 T (nI kk) (a_4 T (nI kk) x)).2.1 = 0 := h; rw [a_x5_ne z] at h; exact z h)
  have h3 : (a_x3 T (nI kk) (a_x2 T (nI kk) x)).2.1 = 0 := Classical.byContradiction (fun z => by have h4 : (a_x4 T (nI kk) (a_x3 T (nI kk) (a_x2 T (nI kk) x))).2.1 = 0 := h4; rw [a_x4_ne z] at h4; exact z h4)
  have h2 : (a_x2 T (nI kk) x).2.1 = 0 := Classical.byContradiction (fun z => by rw [a_x3_ne z] at h3; exact z h3)
  refine ⟨fun e1 e2 => ?_, fun e => ?_⟩
  · have hr := (rgC kk hk).1 e1 e2
    rw [show a_x2 T (nI kk) x = t_take T 2 x from if_neg hr] at h2
    rw [show a_r T (nI kk) x = t_val T 2 x from if_neg hr]
    exact val_reg h2
  · have hr := (rgC kk hk).2 e
    rw [show a_x3 T (nI kk) (a_x2 T (nI kk) x) = t_take T 2 (a_x2 T (nI kk) x) from if_neg hr] at h3
    rw [show a_s T (nI kk) (a_x2 T (nI kk) x) = t_val T 2 (a_x2 T (nI kk) x) from if_neg hr]
    exact val_reg h3
theorem okR.lab {T : List Int32} {x : px} {L : pL} {A : List act6} (h : okR (x, L, A)) (h0 : x.2.1 = 0) : okR ((t_lab T A.length (x, L)).1, (t_lab T A.length (x, L)).2, A) := by
  obtain ⟨a1, a2⟩ := h h0
  intro z
  refine ⟨?_, a2⟩
  dsimp only at z a1 ⊢
  unfold t_lab at z ⊢
  by_cases c : 20 ≤ L.length
  · rw [if_pos c] at z; exact absurd z (by show ¬ (2 : Int32) = 0; decide)
  · rw [if_neg c] at z ⊢
    dsimp only at z ⊢
    rcases hf : lfd L (tW T x.1) with _ | hh
    · rw [hf] at z
      dsimp only
      intro j hj
      rw [snoc_len] at hj
      rcases Nat.lt_or_ge j L.length with g | g
      · rw [snoc_lt g]; exact a1 j g
      · rw [snoc_eq (by omega)]; exact Nat.le_refl _
    · rw [hf] at z; exact absurd z (by show ¬ (3 : Int32) = 0; decide)
theorem okR.labs {T : List Int32} {A : List act6} : ∀ (f : Nat) (x : px) (L : pL), okR (x, L, A) → okR ((t_labs T A.length f (x, L)).1, (t_labs T A.length f (x, L)).2, A) := by
  intro f
  induction f with
  | zero => intro x L h; exact h
  | succ f ih =>
    intro x L h
    unfold t_labs
    by_cases c : x.2.1 = 0 ∧ isLab T x.1
    · rw [if_pos c]; exact ih _ _ (h.lab c.1)
    · rw [if_neg c]; exact h
theorem okR.line {T : List Int32} {s : pS} (ho : okS T s) (h : okR s) : okR (t_line T s) := by
  obtain ⟨x, L, A⟩ := s
  obtain ⟨k1, k2, k3⟩ := t_l1_ok (T := T) (s := (x, L, A)) ho.1 ho.2.1
  have h1 : okR ((t_l1 T (x, L, A)).1, (t_l1 T (x, L, A)).2, A) := h.labs 21 x L
  have h2 : okR ((t_l2 T (x, L, A)).1, (t_l1 T (x, L, A)).2, (t_l2 T (x, L, A)).2) := by
    unfold t_l2 t_mid
    by_cases c : (t_l1 T (x, L, A)).1.2.1 = 0 ∧ tK T (t_l1 T (x, L, A)).1.1 = 1
    · rw [if_pos c]
      by_cases g : 80 ≤ A.length
      · rw [if_pos g]; exact fun z => absurd z (by show ¬ (2 : Int32) = 0; decide)
      · rw [if_neg g]
        obtain ⟨a1, a2⟩ := h1 c.1
        intro z
        dsimp only at z a1 a2 ⊢
        have hne : ¬ kwd (tW T (t_l1 T (x, L, A)).1.1) = -1 := fun y => k3 ⟨c.1, c.2, y⟩
        rcases kwd_cases (tW T (t_l1 T (x, L, A)).1.1) with y | ⟨kk, y1, y2, -⟩
        · exact absurd y.1 hne
        rw [y2] at z ⊢
        refine ⟨fun j hj => by rw [snoc_len]; have := a1 j hj; omega, fun k hk => ?_⟩
        rw [snoc_len] at hk
        rcases Nat.lt_or_ge k A.length with g | g
        · rw [snoc_lt g]; exact a2 k g
        · rw [snoc_eq (by omega)]
          exact ⟨act_ok y1 z, vp_in_nI y1 (by decide)⟩
    · rw [if_neg c]; exact h1
  intro z
  refine h2 ?_
  have z : (t_fin T (t_l2 T (x, L, A)).1).2.1 = 0 := z
  show (t_l2 T (x, L, A)).1.2.1 = 0
  unfold t_fin at z
  split at z
  · exact z
  · exact t_take_0 z
theorem okR.lines {T : List Int32} : ∀ (f : Nat) {s : pS}, okS T s → okR s → okR (t_lines T f s) := by
  intro f
  induction f with
  | zero => intro s _ h; exact h
  | succ f ih =>
    intro s ho h
    unfold t_lines
    split
    · exact ih ho.line (h.line ho)
    · exact h.line ho
theorem end_ok {T : List Int32} {s : pS} (ho : okS T s) (hr : okR s) (h0 : (t_end s).1 = 0) : okL2 (t_end s).2.2 := by
  by_cases g : s.1.2.1 = 0
  · obtain ⟨a1, a2⟩ := hr g
    rcases hf : hfd (noL s.2.1 s.2.2) s.2.2.length with _ | k
    · have e : t_end s = (0, s.1.2.2, s.2.2.map (rs s.2.1)) := by unfold t_end; rw [if_pos g, hf]
      rw [e]
      dsimp only
      refine ⟨⟨by rw [List.length_map]; exact ho.2.2, fun k hk => ?_⟩, fun k hk => ?_⟩
      · rw [List.length_map] at hk ⊢
        rw [map_getD _ _ hk]
        refine ⟨(a2 k hk).1, fun q => ?_⟩
        have q : 8 ≤ (s.2.2.getD k dA).1.1 ∧ (s.2.2.getD k dA).1.1 ≤ 10 := q
        have hgo : ¬ goL (s.2.2.getD k dA).1.1 = 0 := fun z => by
          rcases (goB _).mp z with y | y
          · exact absurd (Int32.lt_of_lt_of_le y q.1) (Int32.lt_irrefl)
          · exact absurd (Int32.lt_of_lt_of_le y q.2) (Int32.lt_irrefl)
        rcases hl : lfd s.2.1 (s.2.2.getD k dA).2.1 with _ | h
        · exact absurd ⟨hgo, hl⟩ (hfd_none hf k hk)
        · refine ⟨(s.2.1.getD h ([], 0)).2, a1 h (hfd_spec hl).1, ?_⟩
          show rsN _ _ = _
          unfold rsN
          rw [if_neg hgo, hl]; rfl
      · rw [List.length_map] at hk
        rw [map_getD _ _ hk]
        exact (a2 k hk).2
    · have e : t_end s = (4, (s.2.2.getD k dA).2.2, []) := by unfold t_end; rw [if_pos g, hf]
      rw [e] at h0
      exact absurd h0 (by dsimp only; decide)
  · have e : t_end s = (s.1.2.1, s.1.2.2, []) := by unfold t_end; rw [if_neg g]
    rw [e] at h0
    exact absurd h0 g
theorem PARSE_ok (T : List Int32) (h0 : (PARSE T).1 = 0) : okL2 (PARSE T).2.2 := end_ok (T := T) (okS.lines 1001 (okS_0 T)) (okR.lines 1001 (okS_0 T) (fun _ => ⟨fun j hj => absurd hj (Nat.not_lt_zero j), fun j hj => absurd hj (Nat.not_lt_zero j)⟩)) h0
