/-! THE CLAIM OUT OF ONE WALK OF THE LAW'S BODY. Your part is whole_start (and what it stands on); all else here is the same for every law, but numbers. -/
def R_law : String := "FallBenchLaw"
def lw_P (b : Addr) (xs : List Int32) (args : Array Value) (s : State) : Prop := args = #[.ref b] ∧ s.IntsAt b xs ∧ xs.length ≤ 3072 ∧ (Jvm.Cond.and given_1 narrow_1).before args s = true
def lw_Q (_ : Array Value) (s : State) (o : Outcome) (t : State) : Prop := o = .returned (some (.int 1)) ∧ Framed s o t [] 600000 7302250
def lw_Z (below : List Frame) (a : Array Value) (s : State) : State → Prop := fun t => ∃ o, t.status = .running ∧ Ended t below o ∧ lw_Q a s o t
/-- the law's own end, with 1 on the stack, nothing written that was there before, its room as the claim has it -/
theorem lw_ret {p : Program} {l : Launch} {e : Env} {s : State} {m : MethodId} {below : List Frame} {meth : Method} {c : Code} {b : Nat} (hx : p.tables.exec = Jvm.exec) (hb : c.code = code) (hr : meth.sig.returnType = ret) (hlocks : meth.locks = false) {pc : Nat} {H : Heap} {ls : Array Slot} (hdg : decode code pc = .ok (.ireturn, 1)) : W p l e room_1 s m #[Value.ref b] below meth c H [] 600000 7302250 (lw_Z below #[Value.ref b] s) (F0 m pc ls [.int 1]) := by
  intro T hT X
  obtain ⟨fs, hret, hrun, hended, hW, hframe⟩ := X.leave (v := some (.int 1)) (hlocks := hlocks) (fun h => by rw [hr] at h; cases h)
  have hmeth' : T.vm.method? m = some meth := X.method'
  refine ⟨T.setFrames fs, ?_, .returned (some (.int 1)), hrun, hended, rfl, ⟨_, rfl⟩, hW, hframe⟩
  jvm_step X.here [X.here.top, hx, hb, hdg, hmeth', hr, ret, narrow_b1]
  (try refine ⟨rfl, ?_⟩); (try refine ⟨rfl, ?_⟩)
  first | (intro acts; rw [hret _ acts rfl rfl rfl]) | rw [hret _ _ rfl rfl rfl]
  exact Steps.refl _
/-- what holds at the law's entry: the machine, the code, the tables' words (any of lw_tbl by 'hts w (by decide +kernel)'), the script of L ints xs at the cell b, what the Statement gives of the start (any of its parts by flat_of_before) -/
def lw_At (p : Program) (s : State) (m : MethodId) (meth : Method) (c : Code) (b L : Nat) (xs : Nat → Int32) : Prop :=
  p.tables.exec = Jvm.exec ∧ c.code = code ∧ meth.sig.returnType = ret ∧ c.maxLocals = 4 ∧ s.vm.findClass R_law = some m.cls ∧ (∀ w ∈ lw_tbl, w.before #[Value.ref b] s = true) ∧ va_X b L xs s s.heap ∧ b < s.heap.size ∧ meth.locks = false ∧ (Jvm.Cond.and given_1 narrow_1).before #[Value.ref b] s = true
set_option maxHeartbeats 4000000 in
set_option maxRecDepth 100000 in
theorem lw_end {X : gX} {a b : Nat} {w : gw} {q : Nat} (C : Cx X RL cL_law) (hA : ∀ n, x_A X n → (x_s X).heap.size ≤ n) (hR : x_R X = room_1) (ha : x_a X = #[Value.ref q]) (hQ : x_Q X = lw_Z (x_b X) #[Value.ref q] (x_s X)) (hab : a ≤ 600000 ∧ b ≤ 7302250) (hr : (x_h X).sig.returnType = ret) (hlk : (x_h X).locks = false) : ∀ i M J R, Gj X a b w M J R 908 (lwL w q i) [] := by
  intro i M J R
  refine g_iconst (v := 1) C dL_law_908 (by decide) ?_
  intro H locs ls h1 h2 h3 h4 h5 h6
  rw [hQ, ha, hR]
  exact va_forget (fun z hz => hA _ (h5.2.2 z hz)) (W.widen hab.1 hab.2 (lw_ret C.1 C.2.1 hr hlk dL_law_909))
set_option maxHeartbeats 4000000 in
set_option maxRecDepth 100000 in
theorem lw_body {X : gX} {l : Launch} {D : va_G} {nm : String} {q L : Nat} {xs : Nat → Int32} {w : gw} (C : Cx X RL cL_law) (hts : ∀ q ∈ lw_tbl, CB X q) (V : Cv X l D room_1 4 nm) (hX : ExA (x_A X) (x_s X) (x_s X).heap) (hL : L ≤ 3072) (hq : va_X q L xs (x_s X) (x_s X).heap ∧ ¬ x_A X q) (hw : w.1 = 0) (E : ∀ (w : gw) (a b : Nat), a ≤ 600000 ∧ b ≤ 7302250 → ∀ i M J R, Gj X a b w M J R 908 (lwL w q i) []) : Gj X 0 0 w aM0 aJ0 aR0 0 [some (.ref q), none, none, none] [] := by
  have F7 : FW X 7 := fun z h => hts z (twl_X70 z h).1
  have F8 : FW X 8 := fun z h => hts z (twl_X80 z h).1
  refine g_new (ci := 7) (N := 11) C V F7 (by decide) (by rw [hw]; rfl) (by rw [hw]; exact fr_0) (hts _ tw_728.1) (hts _ tw_829.1) (hts _ tw_136.1) rfl (by decide) dL_law_0 (fun w_1 e_1 n_1 => ?_)
  rw [hw] at n_1 ⊢
  refine g_dup C dL_law_3 rfl ?_
  refine g_callIE okE_A hX C hts V (i := 0) twl_X7_init rfl (hts _ tw_730.1) (hts _ tw_828.1) (hts _ tw_136.1) rfl hdX7_init (by decide) (c_X7_init n_1 fr_0) rfl rfl (Nat.le_of_ble_eq_true rfl) dL_law_4 (fun v w_2 M1 J1 R1 h => ?_)
  obtain ⟨v0, e_2, n_2, fr, hu⟩ := h
  subst v0
  cases hu
  have n_2 : w_2.1 = 134 := n_2
  have fr : Fr 134 _ _ _ := fr
  rw [← e_2.2 0 (by rw [n_1]; omega)]
  refine g_astore_n C V.2.1 dL_law_7 (by decide) rfl ?_
  refine g_new (ci := 8) (N := 60) C V F8 (by decide) (by rw [n_2]; rfl) (by rw [n_2]; exact fr) (hts _ tw_729.1) (hts _ tw_877.1) (hts _ tw_537.1) rfl (by decide) dL_law_8 (fun w_3 e_3 n_3 => ?_)
  rw [n_2] at n_3
  rw [← e_3.2 0 (by rw [n_2]; omega)]
  rw [n_2]
  refine g_dup C dL_law_11 rfl ?_
  refine g_callI C hts V (i := 134) twl_X8_init rfl (hts _ tw_731.1) (hts _ tw_876.1) (hts _ tw_537.1) rfl hdX8_init (by decide) (c_X8_init n_3 fr) rfl rfl (Nat.le_of_ble_eq_true rfl) dL_law_12 (fun v w_4 M1 J1 R1 h => ?_)
  obtain ⟨v0, e_4, n_4, fr4, hu⟩ := h
  subst v0
  cases hu
  have n_4 : w_4.1 = 166 := n_4
  rw [← e_4.2 0 (by rw [n_3]; omega)]
  rw [← e_4.2 134 (by rw [n_3]; omega)]
  refine g_astore_n C V.2.1 dL_law_15 (by decide) rfl ?_
  refine g_iconst (v := nI 0) C dL_law_16 (by decide) ?_
  refine g_istore_n C V.2.1 dL_law_17 (by decide) rfl ?_
  have hab : 0 + 1 + 133 + 1 + 31 ≤ 600000 ∧ 0 + 11 + 7484 + 60 + 4843 ≤ 7302250 := by decide
  exact lw_loop C hts V hab hL hq n_4 (E w_4 _ _ hab) (L + 1) 0 mZ0 jZ0 rZ0 sZ0 okSt_Z0 repC_Z0 repM_Z0 (Nat.zero_le _) (by omega)
set_option maxHeartbeats 4000000 in
theorem whole_start {p : Program} {e : Env} {s : State} {m : MethodId} {below : List Frame} {meth : Method} {c : Code} (l : Launch) {b L : Nat} {xs : Nat → Int32} (hL : L ≤ 3072) (C0 : lw_At p s m meth c b L xs) : W p l e room_1 s m #[Value.ref b] below meth c s.heap [] 0 0 (lw_Z below #[Value.ref b] s) (entryFrame m ([Value.ref b] : List Value).toArray 4) := by
  obtain ⟨hx, hb, hr, hml, hown, hts, hXs, hbl, hlk, hgv⟩ := C0
  have hs : ∀ q ∈ lwF, q.before #[Value.ref b] s = true := flat_of_before _ hgv
  obtain ⟨D, hD⟩ := gKn_0 hts
  have hA : ∀ a : Nat, a < s.heap.size → ¬ (fun q : Nat => s.heap.size ≤ q) a := fun a h z => absurd h (Nat.not_lt.mpr z)
  have hE : gEnv (fun q : Nat => s.heap.size ≤ q) s s.heap := ⟨gNest_0 hts, gStat_0 hts hs hA, gText_0 hts hs hA⟩
  have C : Cx (p, l, e, room_1, s, m, #[Value.ref b], below, meth, c, D, (fun q : Nat => s.heap.size ≤ q), lw_Z below #[Value.ref b] s) RL cL_law := ⟨hx, hb, hown, fun q h => h, hD, hE⟩
  have h := lw_body (l := l) (D := D) (nm := meth.name) (q := b) (L := L) (xs := xs) (w := (0, fun _ => 0, fun _ => m.cls)) C hts ⟨rfl, hml, rfl, rfl, rfl⟩ ⟨va_AO.of (hts _ tn_18), va_AO.of (hts _ tn_19)⟩ hL ⟨hXs, hA b hbl⟩ rfl (fun w a' b' hab => lw_end C (fun _ z => z) rfl rfl rfl hab hr hlk)
  rw [lg_entry_eq]
  exact h s.heap [] _ (fun k q hk => absurd (gW_of hk).1 (Nat.not_lt_zero k)) (fun i hi => absurd hi (Nat.not_lt_zero i)) (fun i j hi => absurd hi (Nat.not_lt_zero i)) (fun i hi => absurd hi (Nat.not_lt_zero i)) va_S.rf (by show lvo _ c.maxLocals _; rw [hml]; exact lvo.entry [Value.ref b] 3 (Nat.le_of_ble_eq_true rfl))
