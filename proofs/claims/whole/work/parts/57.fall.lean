/-! which ends are falls -/
def isFa (x : Int32) : Int32 := if x ≤ 0 then 0 else if 4 ≤ x then 0 else 1
def e78 (Z : Nat → Nat → Int32) : Prop := (Z 0 7 = -1 ∧ Z 0 8 = -1) ∨ (isFa (Z 0 7) = 1 ∧ ¬ Z 0 8 = -1) ∨ (isFa (Z 0 7) = 0 ∧ Z 0 8 = -1)
theorem k_sw_78 {K : Nat → Nat → Int32} {x : act4} {a cnt : Int32} {I : List Int32} (h7 : K 0 7 = -1) (h8 : K 0 8 = -1) (ha : ¬ a = -1) : e78 (k_sw K x a I cnt) := by
  obtain ⟨k, r, s, n⟩ := x
  unfold k_sw
  dsimp only
  have keep : ∀ {Z : Nat → Nat → Int32}, Z 0 7 = K 0 7 → Z 0 8 = K 0 8 → e78 Z := fun e1 e2 => Or.inl ⟨e1.trans h7, e2.trans h8⟩
  have mk : ∀ v u, e78 (m_make K 0 r v a u) := fun v u => keep (m_make_0 K 0 _ _ _ _ 7) (m_make_0 K 0 _ _ _ _ 8)
  have ca : ∀ f t u, e78 (m_carry K 0 f t u) := fun f t u => keep (m_carry_0 _ _ _ 7) (m_carry_0 _ _ _ 8)
  have ba : ∀ how x : Int32, isFa how = 1 → e78 (m_bad K 0 how a x) := fun how x hh => Or.inr (Or.inl ⟨by rw [bad_7]; exact hh, by rw [show m_bad K 0 how a x 0 8 = a by simp [m_bad, up2]]; exact ha⟩)
  have up : ∀ (k : Nat) (v : Int32), k ≠ 7 → k ≠ 8 → e78 (up2 K 0 k v) := fun k v q1 q2 => keep (up2_n2 _ _ (Ne.symm q1)) (up2_n2 _ _ (Ne.symm q2))
  have self : e78 K := keep rfl rfl
  by_cases e0 : k = 0
  · rw [if_pos e0, m_rd]
    by_cases z : inAt I (K 0 5) = -1
    · rw [if_pos z]; exact mk _ _
    · rw [if_neg z]; exact keep (by rw [up2_n2 _ _ (by decide)]; exact m_make_0 K 0 _ _ _ _ 7) (by rw [up2_n2 _ _ (by decide)]; exact m_make_0 K 0 _ _ _ _ 8)
  rw [if_neg e0]
  by_cases e1 : k = 1
  · rw [if_pos e1]; exact mk _ _
  rw [if_neg e1]
  by_cases e2 : k = 2
  · rw [if_pos e2]; exact ca _ _ _
  rw [if_neg e2]
  by_cases e3 : k = 3
  · rw [if_pos e3]; exact mk _ _
  rw [if_neg e3]
  by_cases e4 : k = 4
  · rw [if_pos e4]; exact mk _ _
  rw [if_neg e4]
  by_cases e5 : k = 5
  · rw [if_pos e5]; exact mk _ _
  rw [if_neg e5]
  by_cases e6 : k = 6
  · rw [if_pos e6, m_load]
    by_cases z : isPl (K (0 + 1) s.toNatClampNeg) = 0
    · rw [if_pos z]; exact ba _ _ (by decide)
    · rw [if_neg z]; exact ca _ _ _
  rw [if_neg e6]
  by_cases e7 : k = 7
  · rw [if_pos e7, m_store]
    by_cases z : isPl (K (0 + 1) r.toNatClampNeg) = 0
    · rw [if_pos z]; exact ba _ _ (by decide)
    · rw [if_neg z]; exact ca _ _ _
  rw [if_neg e7]
  have gi : ∀ u, e78 (m_goIf K 0 u n) := fun u => by
    rw [m_goIf]
    by_cases z : u = 0
    · rw [if_pos z]; exact self
    · rw [if_neg z]; exact up _ _ (by decide) (by decide)
  by_cases e8 : k = 8
  · rw [if_pos e8]; exact gi _
  rw [if_neg e8]
  by_cases e9 : k = 9
  · rw [if_pos e9]; exact gi _
  rw [if_neg e9]
  by_cases e10 : k = 10
  · rw [if_pos e10]; exact up _ _ (by decide) (by decide)
  rw [if_neg e10]
  by_cases e11 : k = 11
  · rw [if_pos e11, m_jump]
    by_cases z : K (0 + 1) r.toNatClampNeg < 0
    · rw [if_pos z]; exact ba _ _ (by decide)
    · rw [if_neg z]
      by_cases z2 : cnt ≤ K (0 + 1) r.toNatClampNeg
      · rw [if_pos z2]; exact ba _ _ (by decide)
      · rw [if_neg z2]; exact up _ _ (by decide) (by decide)
  rw [if_neg e11]
  by_cases e12 : k = 12
  · rw [if_pos e12, m_tell]
    by_cases z : 40 ≤ K 0 4
    · rw [if_pos z]; exact up _ _ (by decide) (by decide)
    · rw [if_neg z]; exact keep (by rw [up2_n2 _ _ (by decide), up2_n1 _ _ (by decide)]) (by rw [up2_n2 _ _ (by decide), up2_n1 _ _ (by decide)])
  rw [if_neg e12]
  exact Or.inr (Or.inr ⟨by rw [up2_eq]; decide, by rw [up2_n2 _ _ (by decide)]; exact h8⟩)
theorem k_one_78 {P : List act4} {I : List Int32} {K : Nat → Nat → Int32} (h7 : K 0 7 = -1) (h8 : K 0 8 = -1) : e78 (k_one P I K) := by
  unfold k_one
  have fin : ∀ v : Int32, isFa v = 0 → e78 (up2 K 0 7 v) := fun v hv => Or.inr (Or.inr ⟨by rw [up2_eq]; exact hv, by rw [up2_n2 _ _ (by decide)]; exact h8⟩)
  by_cases c0 : K 0 12 < 0
  · rw [if_pos c0]; exact fin _ (by decide)
  rw [if_neg c0]
  by_cases c1 : K 0 12 < nI P.length
  · rw [if_pos c1]
    by_cases c2 : K 0 6 < 1000
    · rw [if_pos c2]
      have h := k_sw_78 (K := up2 K 0 12 (K 0 12 + 1)) (x := P.getD (K 0 12).toNatClampNeg (0, 0, 0, 0)) (a := K 0 12) (cnt := nI P.length) (I := I) (by rw [up2_n2 _ _ (by decide)]; exact h7) (by rw [up2_n2 _ _ (by decide)]; exact h8) (fun z => c0 (by rw [z]; decide))
      unfold e78 at h ⊢
      by_cases e : k_sw (up2 K 0 12 (K 0 12 + 1)) (P.getD (K 0 12).toNatClampNeg (0, 0, 0, 0)) (K 0 12) I (nI P.length) 0 8 = -1
      · rw [m_fin_p e, up2_n2 (k := 6) (b := 7) _ _ (by decide), up2_n2 (k := 6) (b := 8) _ _ (by decide)]; exact h
      · rw [m_fin_n e]; exact h
    · rw [if_neg c2]; exact fin _ (by decide)
  · rw [if_neg c1]; exact fin _ (by decide)
/-- a fall is told by an act -/
theorem run_fall {P : List act4} {I : List Int32} (hL : okL P) (hB : okI I) : RUN P I 0 8 = -1 ↔ isFa (RUN P I 0 7) = 0 := by
  have h : ∀ (n c : Nat) (K : Nat → Nat → Int32), c + n = 1001 → c ≤ 1000 → kI K (nI c) P.length I.length c → (k_it P I n K 0 8 = -1 ↔ isFa (k_it P I n K 0 7) = 0) := by
    intro n
    induction n with
    | zero => intro c K h1 h2; omega
    | succ n ih =>
      intro c K h1 h2 hK
      unfold k_it
      rw [if_pos hK.1]
      by_cases e : k_one P I K 0 7 = -1
      · obtain ⟨hc, hK2⟩ := hK.one h2 hB hL e
        exact ih (c + 1) _ (by omega) (by omega) hK2
      · have e2 : k_it P I n (k_one P I K) = k_one P I K := by
          match n with
          | 0 => rfl
          | n + 1 => simp only [k_it, if_neg e]
        rw [e2]
        rcases k_one_78 (P := P) (I := I) hK.1 hK.2.1 with q | q | q
        · exact absurd q.1 e
        · exact ⟨fun z => absurd z q.2, fun z => absurd (q.1.symm.trans z) (by decide)⟩
        · exact ⟨fun _ => q.1, fun _ => q.2⟩
  exact h 1001 0 k_0 (by decide) (by decide) (k_0_I P I)

set_option maxHeartbeats 4000000 in
set_option maxRecDepth 100000 in
theorem c_X8_isFall {l : Launch} {D : va_G} {w : gw} {M : Nat → Nat → Int32} {J : Nat → Nat → Int64} {R : Nat → Nat → Option Nat} {x : Int32} : Cf l yX8_isFall wsX8_isFall ({ frames := 0, cells := 0, slots := 0, locals := 0 } : Room) D w [.int x] M J R (some (.int (isFa x))) M J R := by
  refine Cg.of (own := RX8) (cc := cX8_isFall) (maxL := 1) (ret := (some .boolean)) 0 (by decide) rfl rfl (Nat.le_of_ble_eq_true rfl) (fun X C hts V Rr => ?_)
  show Gj X 0 0 w M J R 0 [some (.int x)] []
  refine g_iload_n C dX8_isFall_0 rfl ?_
  refine g_if_le (tgt := 13) C dX8_isFall_1 (by decide) (fun c1 => ?_) (fun c1 => ?_)
  · refine g_iconst (v := 0) C dX8_isFall_13 (by decide) ?_
    exact g_zret C Rr rfl ⟨rfl, ⟨by simp only [isFa, if_pos c1], rfl⟩⟩ dX8_isFall_14
  · refine g_iload_n C dX8_isFall_4 rfl ?_
    refine g_iconst (v := 4) C dX8_isFall_5 (by decide) ?_
    refine g_icmp_ge (tgt := 13) C dX8_isFall_6 (by decide) (fun c6 => ?_) (fun c6 => ?_)
    · refine g_iconst (v := 0) C dX8_isFall_13 (by decide) ?_
      exact g_zret C Rr rfl ⟨rfl, ⟨by simp only [isFa, if_neg c1, if_pos c6], rfl⟩⟩ dX8_isFall_14
    · refine g_iconst (v := 1) C dX8_isFall_9 (by decide) ?_
      refine g_goto (tgt := 14) C dX8_isFall_10 (by decide) ?_
      exact g_zret C Rr rfl ⟨rfl, ⟨by simp only [isFa, if_neg c1, if_neg c6], rfl⟩⟩ dX8_isFall_14

def n_want (M : Nat → Nat → Int32) : Nat → Nat → Int32 := up2 (up2 (up2 M 134 54 (M 134 30)) 134 55 (M 134 31)) 134 56 (M 134 33)

set_option maxHeartbeats 4000000 in
set_option maxRecDepth 100000 in
theorem c_X8_want {l : Launch} {D : va_G} {w : gw} {M : Nat → Nat → Int32} {J : Nat → Nat → Int64} {R : Nat → Nat → Option Nat} (hw : w.1 = 166) (hR : LayM R) : Cf l yX8_want wsX8_want ({ frames := 0, cells := 0, slots := 0, locals := 0 } : Room) D w [.ref (w.2.1 134)] M J R none (n_want M) J R := by
  refine Cg.of (own := RX8) (cc := cX8_want) (maxL := 1) (ret := none) 0 (by decide) rfl rfl (Nat.le_of_ble_eq_true rfl) (fun X C hts V Rr => ?_)
  have F8 : FW X 8 := fun q h => hts q (List.mem_cons_of_mem _ (List.mem_append_right _ h))
  show Gj X 0 0 w M J R 0 [some (.ref (w.2.1 134))] []
  refine g_aload_n C dX8_want_0 rfl ?_
  refine g_aload_n C dX8_want_1 rfl ?_
  refine g_geti C F8 (by rw [hw]; decide) rfl (by decide) 30 (by decide) rfl (hts (.fieldLink RX8 234 "FallBenchModel" "ended" "I") (by decide +kernel)) rfl rfl dX8_want_2 ?_
  refine g_puti C F8 (by rw [hw]; decide) rfl (by decide) 54 (by decide) rfl (hts (.fieldLink RX8 298 "FallBenchModel" "wantEnd" "I") (by decide +kernel)) rfl rfl rfl rfl dX8_want_5 ?_
  refine g_aload_n C dX8_want_8 rfl ?_
  refine g_aload_n C dX8_want_9 rfl ?_
  refine g_geti (v := M 134 31) C F8 (by rw [hw]; decide) rfl (by decide) 31 (by decide) rfl (hts (.fieldLink RX8 237 "FallBenchModel" "endAct" "I") (by decide +kernel)) rfl (by rw [up2_n2 _ _ (by decide)]) dX8_want_10 ?_
  refine g_puti C F8 (by rw [hw]; decide) rfl (by decide) 55 (by decide) rfl (hts (.fieldLink RX8 301 "FallBenchModel" "wantAct" "I") (by decide +kernel)) rfl rfl rfl rfl dX8_want_13 ?_
  refine g_aload_n C dX8_want_16 rfl ?_
  refine g_aload_n C dX8_want_17 rfl ?_
  refine g_geti (v := M 134 33) C F8 (by rw [hw]; decide) rfl (by decide) 33 (by decide) rfl (hts (.fieldLink RX8 243 "FallBenchModel" "wrongMaker" "I") (by decide +kernel)) rfl (by rw [up2_n2 _ _ (by decide), up2_n2 _ _ (by decide)]) dX8_want_18 ?_
  refine g_puti C F8 (by rw [hw]; decide) rfl (by decide) 56 (by decide) rfl (hts (.fieldLink RX8 304 "FallBenchModel" "wantMaker" "I") (by decide +kernel)) rfl rfl rfl rfl dX8_want_21 ?_
  exact g_vret C Rr ⟨rfl, ⟨rfl, rfl⟩⟩ dX8_want_24
