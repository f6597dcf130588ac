section GC
variable {p : Program} {l : Launch} {e : Env} {R0 : Room} {s : State} {m : MethodId} {args : Array Value} {below : List Frame} {meth : Method} {c : Code} {H : Heap} {locs : List Loc} {cells slots mc ms pc : Nat} {Q : State → Prop} {ls : Array Slot} {st0 rest : List Value}
theorem W.gcall {D : va_G} {post : Option Value → gw → gm → Prop} {A0 A1 free : Nat → Prop} {av : Array Value} (hr : va_Run p l e R0 s m args below meth c H locs cells slots mc ms (F0 m pc ls st0) rest (gQ D post A1 av) free) (hS : va_S A0 s.heap H locs) (hA : ∀ q, A1 q → A0 q) (hf : ∀ q, free q → A0 q)
    (kk : ∀ (v : Option Value) (w : gw) (u : gm) (H1 : Heap) (locs1 : List Loc), post v w u → va_P D vwCl (gW w u.1 u.2.1 u.2.2) H1 → gTy s w → gInj w → (∀ i, i < w.1 → A0 (w.2.1 i)) → va_S A0 s.heap H1 locs1 → W p l e R0 s m args below meth c H1 locs1 (cells + mc) (slots + ms) Q (F0 m (pc + 3) ls (v.toList ++ rest))) : W p l e R0 s m args below meth c H locs cells slots Q (F0 m pc ls st0) := by
  intro T hT X
  obtain ⟨v, st₀, t, T', L, h0, X', hL, e1, e2, ⟨⟨v', w, u, hv, hp, hI, hA'⟩, hz, hk⟩, st⟩ := hr T hT X
  have hv2 : v = v' := by cases hv; rfl
  subst hv2
  rw [h0] at hz hk
  have hal : s.vm.Alike t.vm := by rw [← e2]; exact X'.warmed.alike
  obtain ⟨t2, a1, b1⟩ := kk v w u T'.heap (locs ++ L) hp (by rw [e1]; exact hI.1) (gTy.moved hal.symm hI.2.2.1) hI.2.2.2 (fun i hi => hA _ (hA' i hi))
    ⟨Nat.le_trans hS.1 (by rw [e1]; exact hz), fun q h1 h2 => by rw [e1, hk q (Nat.lt_of_lt_of_le h1 hS.1) (fun z => h2 (hA q z))]; exact hS.2.1 q h1 h2, fun q hq => by
      rcases List.mem_append.mp hq with h | h
      · exact hS.2.2 q h
      · exact hf _ (hL q h)⟩ T' rfl X'
  exact ⟨t2, st t2 a1, b1⟩
end GC
theorem gFB {D : va_G} {w : gw} {u : gm} {av : List Value} {sz : Nat} : FrameBlind (va_Pc av (fun U => U.heap.size = sz ∧ gI D w u.1 u.2.1 u.2.2 U U.heap ∧ gEnv (gA w sz) U U.heap)) := fun a U g mk q => by
  obtain ⟨q0, q1, ⟨qP, qK, qT, qI⟩, qE⟩ := q
  refine ⟨q0, q1, ⟨qP, gKn.moved (u := U) (U := U.calling g mk a) (Vm.Alike.refl U.vm) qK, gTy.moved (u := U) (U := U.calling g mk a) (Vm.Alike.refl U.vm) qT, qI⟩, ?_⟩
  exact gEnv.same (u := U) (U := U.calling g mk a) rfl qE
/-- what a walk knows of its own method: room, locals, launch, classes, name -/
def Cv (X : gX) (l : Launch) (D : va_G) (rm : Room) (nL : Nat) (nm : String) : Prop := x_R X = rm ∧ (x_c X).maxLocals = nL ∧ x_l X = l ∧ x_D X = D ∧ (x_h X).name = nm
def Cr (X : gX) (ret : Option FieldType) (post : Option Value → gw → gm → Prop) (mc ms : Nat) : Prop := (x_h X).sig.returnType = ret ∧ (x_h X).locks = false ∧ x_Q X = MQ (x_b X) (gQ (x_D X) post (x_A X)) (x_a X) (x_s X) mc ms (x_A X)
section GC2
variable {X : gX} {own : String} {cc : ByteArray} {a b pc : Nat} {w : gw} {M : Nat → Nat → Int32} {J : Nat → Nat → Int64} {R : Nat → Nat → Option Nat} {lv : List (Option Value)} {rest st : List Value}
theorem gFree {w : gw} {A : Nat → Prop} {H0 H : Heap} {locs : List Loc} (hA : ∀ q, H0.size ≤ q → A q) (h4 : ∀ i, i < w.1 → A (w.2.1 i)) (h5 : va_S A H0 H locs) : ∀ q, gA w H.size q → A q := by
  rintro q (⟨i, hi, rfl⟩ | h)
  · exact h4 i hi
  · exact hA q (Nat.le_trans h5.1 h)
theorem g_callV (C : Cx X own cc) {Ts : List Cond} (hts : ∀ q ∈ Ts, CB X q) {l : Launch} {D : va_G} {rm0 : Room} {nL : Nat} {nm : String} (V : Cv X l D rm0 nL nm) {index ci i n maxL mc ms : Nat} {y : MethodName} {bytes : ByteArray} {ret : Option FieldType} {ws ws' : List Cond} {rm : Room} {As : List Value} {post : Option Value → gw → gm → Prop} (hG : GoodIn Ts (wsV own index (cR ci) y ws)) (hw : ws = Cond.code y bytes maxL ret :: ws')
    (hd : y.cls = cR ci ∧ y.cls ≠ "java/lang/invoke/MethodHandle" ∧ y.cls ≠ "java/lang/invoke/VarHandle" ∧ (parseMethodDescriptor y.desc).map (fun d => d.parameters.length) = some n) (hroom : rm.frames + 1 ≤ rm0.frames ∧ 8 + (maxL + 11) + rm.locals ≤ rm0.locals ∧ rm.cells = mc ∧ rm.slots = ms ∧ a + mc ≤ rm0.cells ∧ b + ms ≤ rm0.slots)
    (hM : Cg l y ws rm D w (.ref (w.2.1 i) :: As) (M, J, R) mc ms post) (hi : i < w.1) (hk : kd i = ci) (hc : ci < 9) (hn : As.length = n) (hst : st = As.reverse ++ .ref (w.2.1 i) :: rest) (hW : (rest.map fun v => v.category).sum ≤ 8) (d : decode cc pc = .ok (.invokevirtual index, 3))
    (kk : ∀ v w' M' J' R', post v w' (M', J', R') → Gj X (a + mc) (b + ms) w' M' J' R' (pc + 3) lv (v.toList ++ rest)) : Gj X a b w M J R pc lv st := by
  obtain ⟨hR, hml, hl, hD, -⟩ := V
  subst hl; subst hD
  intro H locs ls h1 h2 h3 h4 h5 h6
  have he := gW_at (w := w) (M := M) (J := J) (R := R) hi
  rw [gE_o hk hc] at he
  have hfr := gFree C.2.2.2.1 h4 h5
  refine W.gcall (va_runV (As := As) (rest := rest) (Ts := Ts) (nL := (x_c X).maxLocals) (C := cR ci) (b := w.2.1 i) ⟨C.1, C.2.1, rfl, C.2.2.1, hts⟩ (hM H.size) (cwV n hts hG hw hroom.2.2.1 hroom.2.2.2.1 hd ⟨by rw [hR]; exact hroom.1, by rw [hR]; exact hroom.2.1⟩) ⟨gFB, va_recv (gK_0 C) h1 (c_cl hc) he, fun U hU hWm => ⟨rfl, by rw [hU], ⟨by rw [hU]; exact h1, gKn.moved hWm.alike C.2.2.2.2.1, gTy.moved hWm.alike h2, h3⟩, by rw [hU]; exact C.2.2.2.2.2.pass hWm h5.2.1 hfr⟩⟩ rfl hn h6.1 hst (lv_room hW) d ⟨by rw [hR]; exact hroom.2.2.2.2.1, by rw [hR]; exact hroom.2.2.2.2.2⟩) h5 hfr hfr (fun v w' u H1 locs1 hp g1 g2 g3 g4 g5 => ?_)
  obtain ⟨M', J', R'⟩ := u
  exact kk v w' M' J' R' hp H1 locs1 ls g1 g2 g3 g4 g5 h6
theorem g_callVt (C : Cx X own cc) {Ts : List Cond} (hts : ∀ q ∈ Ts, CB X q) {l : Launch} {D : va_G} {rm0 : Room} {nL : Nat} {nm : String} (V : Cv X l D rm0 nL nm) {index ci i n maxL : Nat} {y : MethodName} {bytes : ByteArray} {ret : Option FieldType} {ws ws' : List Cond} {rm : Room} {As : List Value} {post : Option Value → gm → Prop} (hG : GoodIn Ts (wsV own index (cR ci) y ws)) (hw : ws = Cond.code y bytes maxL ret :: ws')
    (hd : y.cls = cR ci ∧ y.cls ≠ "java/lang/invoke/MethodHandle" ∧ y.cls ≠ "java/lang/invoke/VarHandle" ∧ (parseMethodDescriptor y.desc).map (fun d => d.parameters.length) = some n) (hroom : rm.frames + 1 ≤ rm0.frames ∧ 8 + (maxL + 11) + rm.locals ≤ rm0.locals ∧ rm.cells = 0 ∧ rm.slots = 0 ∧ a ≤ rm0.cells ∧ b ≤ rm0.slots)
    (hM : Ct l y ws rm D w (.ref (w.2.1 i) :: As) (M, J, R) post) (hi : i < w.1) (hk : kd i = ci) (hc : ci < 9) (hn : As.length = n) (hst : st = As.reverse ++ .ref (w.2.1 i) :: rest) (hW : (rest.map fun v => v.category).sum ≤ 8) (d : decode cc pc = .ok (.invokevirtual index, 3))
    (kk : ∀ v M' J' R', post v (M', J', R') → Gj X a b w M' J' R' (pc + 3) lv (v.toList ++ rest)) : Gj X a b w M J R pc lv st :=
  g_callV C hts V hG hw hd hroom hM hi hk hc hn hst hW d (fun v w' M' J' R' h => by obtain ⟨h0, h1⟩ := h; subst h0; exact kk v M' J' R' h1)
theorem g_callVf (C : Cx X own cc) {Ts : List Cond} (hts : ∀ q ∈ Ts, CB X q) {l : Launch} {D : va_G} {rm0 : Room} {nL : Nat} {nm : String} (V : Cv X l D rm0 nL nm) {index ci i n maxL : Nat} {y : MethodName} {bytes : ByteArray} {ret : Option FieldType} {ws ws' : List Cond} {rm : Room} {As : List Value} {res : Option Value} {M2 : Nat → Nat → Int32} {J2 : Nat → Nat → Int64} {R2 : Nat → Nat → Option Nat} (hG : GoodIn Ts (wsV own index (cR ci) y ws)) (hw : ws = Cond.code y bytes maxL ret :: ws')
    (hd : y.cls = cR ci ∧ y.cls ≠ "java/lang/invoke/MethodHandle" ∧ y.cls ≠ "java/lang/invoke/VarHandle" ∧ (parseMethodDescriptor y.desc).map (fun d => d.parameters.length) = some n) (hroom : rm.frames + 1 ≤ rm0.frames ∧ 8 + (maxL + 11) + rm.locals ≤ rm0.locals ∧ rm.cells = 0 ∧ rm.slots = 0 ∧ a ≤ rm0.cells ∧ b ≤ rm0.slots)
    (hM : Cf l y ws rm D w (.ref (w.2.1 i) :: As) M J R res M2 J2 R2) (hi : i < w.1) (hk : kd i = ci) (hc : ci < 9) (hn : As.length = n) (hst : st = As.reverse ++ .ref (w.2.1 i) :: rest) (hW : (rest.map fun v => v.category).sum ≤ 8) (d : decode cc pc = .ok (.invokevirtual index, 3))
    (kk : Gj X a b w M2 J2 R2 (pc + 3) lv (res.toList ++ rest)) : Gj X a b w M J R pc lv st :=
  g_callVt C hts V hG hw hd hroom hM hi hk hc hn hst hW d (fun v M' J' R' h => by obtain ⟨h0, h1⟩ := h; cases h1; subst h0; exact kk)
theorem g_callS (C : Cx X own cc) {Ts : List Cond} (hts : ∀ q ∈ Ts, CB X q) {l : Launch} {D : va_G} {rm0 : Room} {nL : Nat} {nm : String} (V : Cv X l D rm0 nL nm) {index n maxL mc ms : Nat} {y : MethodName} {bytes : ByteArray} {ret : Option FieldType} {ws ws' : List Cond} {rm : Room} {As : List Value} {post : Option Value → gw → gm → Prop} (hG : GoodIn Ts (va_wsS own index y ws)) (hw : ws = Cond.code y bytes maxL ret :: ws')
    (hd : y.cls ≠ "java/lang/invoke/MethodHandle" ∧ y.cls ≠ "java/lang/invoke/VarHandle" ∧ (parseMethodDescriptor y.desc).map (fun d => d.parameters.length) = some n) (hroom : rm.frames + 1 ≤ rm0.frames ∧ 8 + (maxL + 11) + rm.locals ≤ rm0.locals ∧ rm.cells = mc ∧ rm.slots = ms ∧ a + mc ≤ rm0.cells ∧ b + ms ≤ rm0.slots)
    (hM : Cg l y ws rm D w As (M, J, R) mc ms post) (hn : As.length = n) (hst : st = As.reverse ++ rest) (hW : (rest.map fun v => v.category).sum ≤ 8) (d : decode cc pc = .ok (.invokestatic index, 3))
    (kk : ∀ v w' M' J' R', post v w' (M', J', R') → Gj X (a + mc) (b + ms) w' M' J' R' (pc + 3) lv (v.toList ++ rest)) : Gj X a b w M J R pc lv st := by
  obtain ⟨hR, hml, hl, hD, -⟩ := V
  subst hl; subst hD
  intro H locs ls h1 h2 h3 h4 h5 h6
  have hfr := gFree C.2.2.2.1 h4 h5
  refine W.gcall (va_runS (As := As) (rest := rest) (Ts := Ts) (nL := (x_c X).maxLocals) ⟨C.1, C.2.1, rfl, C.2.2.1, hts⟩ (hM H.size) (va_cwS n hts hG hw hroom.2.2.1 hroom.2.2.2.1 hd ⟨by rw [hR]; exact hroom.1, by rw [hR]; exact hroom.2.1⟩) ⟨gFB, fun U hU hWm => ⟨rfl, by rw [hU], ⟨by rw [hU]; exact h1, gKn.moved hWm.alike C.2.2.2.2.1, gTy.moved hWm.alike h2, h3⟩, by rw [hU]; exact C.2.2.2.2.2.pass hWm h5.2.1 hfr⟩⟩ rfl hn h6.1 hst (lv_room hW) d ⟨by rw [hR]; exact hroom.2.2.2.2.1, by rw [hR]; exact hroom.2.2.2.2.2⟩) h5 hfr hfr (fun v w' u H1 locs1 hp g1 g2 g3 g4 g5 => ?_)
  obtain ⟨M', J', R'⟩ := u
  exact kk v w' M' J' R' hp H1 locs1 ls g1 g2 g3 g4 g5 h6
theorem g_callSt (C : Cx X own cc) {Ts : List Cond} (hts : ∀ q ∈ Ts, CB X q) {l : Launch} {D : va_G} {rm0 : Room} {nL : Nat} {nm : String} (V : Cv X l D rm0 nL nm) {index n maxL : Nat} {y : MethodName} {bytes : ByteArray} {ret : Option FieldType} {ws ws' : List Cond} {rm : Room} {As : List Value} {post : Option Value → gm → Prop} (hG : GoodIn Ts (va_wsS own index y ws)) (hw : ws = Cond.code y bytes maxL ret :: ws')
    (hd : y.cls ≠ "java/lang/invoke/MethodHandle" ∧ y.cls ≠ "java/lang/invoke/VarHandle" ∧ (parseMethodDescriptor y.desc).map (fun d => d.parameters.length) = some n) (hroom : rm.frames + 1 ≤ rm0.frames ∧ 8 + (maxL + 11) + rm.locals ≤ rm0.locals ∧ rm.cells = 0 ∧ rm.slots = 0 ∧ a ≤ rm0.cells ∧ b ≤ rm0.slots)
    (hM : Ct l y ws rm D w As (M, J, R) post) (hn : As.length = n) (hst : st = As.reverse ++ rest) (hW : (rest.map fun v => v.category).sum ≤ 8) (d : decode cc pc = .ok (.invokestatic index, 3))
    (kk : ∀ v M' J' R', post v (M', J', R') → Gj X a b w M' J' R' (pc + 3) lv (v.toList ++ rest)) : Gj X a b w M J R pc lv st :=
  g_callS C hts V hG hw hd hroom hM hn hst hW d (fun v w' M' J' R' h => by obtain ⟨h0, h1⟩ := h; subst h0; exact kk v M' J' R' h1)
theorem g_callSf (C : Cx X own cc) {Ts : List Cond} (hts : ∀ q ∈ Ts, CB X q) {l : Launch} {D : va_G} {rm0 : Room} {nL : Nat} {nm : String} (V : Cv X l D rm0 nL nm) {index n maxL : Nat} {y : MethodName} {bytes : ByteArray} {ret : Option FieldType} {ws ws' : List Cond} {rm : Room} {As : List Value} {res : Option Value} {M2 : Nat → Nat → Int32} {J2 : Nat → Nat → Int64} {R2 : Nat → Nat → Option Nat} (hG : GoodIn Ts (va_wsS own index y ws)) (hw : ws = Cond.code y bytes maxL ret :: ws')
    (hd : y.cls ≠ "java/lang/invoke/MethodHandle" ∧ y.cls ≠ "java/lang/invoke/VarHandle" ∧ (parseMethodDescriptor y.desc).map (fun d => d.parameters.length) = some n) (hroom : rm.frames + 1 ≤ rm0.frames ∧ 8 + (maxL + 11) + rm.locals ≤ rm0.locals ∧ rm.cells = 0 ∧ rm.slots = 0 ∧ a ≤ rm0.cells ∧ b ≤ rm0.slots)
    (hM : Cf l y ws rm D w As M J R res M2 J2 R2) (hn : As.length = n) (hst : st = As.reverse ++ rest) (hW : (rest.map fun v => v.category).sum ≤ 8) (d : decode cc pc = .ok (.invokestatic index, 3))
    (kk : Gj X a b w M2 J2 R2 (pc + 3) lv (res.toList ++ rest)) : Gj X a b w M J R pc lv st :=
  g_callSt C hts V hG hw hd hroom hM hn hst hW d (fun v M' J' R' h => by obtain ⟨h0, h1⟩ := h; cases h1; subst h0; exact kk)
theorem g_callN (C : Cx X own cc) {Ts : List Cond} (hts : ∀ q ∈ Ts, CB X q) {l : Launch} {D : va_G} {rm0 : Room} {nL : Nat} {nm : String} (V : Cv X l D rm0 nL nm) {index n maxL mc ms : Nat} {host : String} {y : MethodName} {bytes : ByteArray} {ret : Option FieldType} {ws ws' : List Cond} {rm : Room} {As : List Value} {post : Option Value → gw → gm → Prop} (hG : GoodIn Ts ws) (hw : ws = Cond.code y bytes maxL ret :: ws') (hlk : va_Nw (.methodLinkNest own index y host) (x_s X)) (hstt : CB X (.static y)) (hini : CB X (.initialized y.cls))
    (hd : y.cls ≠ "java/lang/invoke/MethodHandle" ∧ y.cls ≠ "java/lang/invoke/VarHandle" ∧ (parseMethodDescriptor y.desc).map (fun d => d.parameters.length) = some n) (hroom : rm.frames + 1 ≤ rm0.frames ∧ 8 + (maxL + 11) + rm.locals ≤ rm0.locals ∧ rm.cells = mc ∧ rm.slots = ms ∧ a + mc ≤ rm0.cells ∧ b + ms ≤ rm0.slots)
    (hM : Cg l y ws rm D w As (M, J, R) mc ms post) (hn : As.length = n) (hst : st = As.reverse ++ rest) (hW : (rest.map fun v => v.category).sum ≤ 8) (d : decode cc pc = .ok (.invokestatic index, 3))
    (kk : ∀ v w' M' J' R', post v w' (M', J', R') → Gj X (a + mc) (b + ms) w' M' J' R' (pc + 3) lv (v.toList ++ rest)) : Gj X a b w M J R pc lv st := by
  obtain ⟨hR, hml, hl, hD, -⟩ := V
  subst hl; subst hD
  intro H locs ls h1 h2 h3 h4 h5 h6
  have hfr := gFree C.2.2.2.1 h4 h5
  refine W.gcall (va_runSN (As := As) (rest := rest) (Ts := Ts) (nL := (x_c X).maxLocals) ⟨C.1, C.2.1, rfl, C.2.2.1, hts⟩ (hM H.size) ⟨va_cnB n hts hG hw hroom.2.2.1 hroom.2.2.2.1 hlk hini hd ⟨by rw [hR]; exact hroom.1, by rw [hR]; exact hroom.2.1⟩, hstt, trivial⟩ ⟨gFB, fun U hU hWm => ⟨rfl, by rw [hU], ⟨by rw [hU]; exact h1, gKn.moved hWm.alike C.2.2.2.2.1, gTy.moved hWm.alike h2, h3⟩, by rw [hU]; exact C.2.2.2.2.2.pass hWm h5.2.1 hfr⟩⟩ rfl hn h6.1 hst (lv_room hW) d ⟨by rw [hR]; exact hroom.2.2.2.2.1, by rw [hR]; exact hroom.2.2.2.2.2⟩) h5 hfr hfr (fun v w' u H1 locs1 hp g1 g2 g3 g4 g5 => ?_)
  obtain ⟨M', J', R'⟩ := u
  exact kk v w' M' J' R' hp H1 locs1 ls g1 g2 g3 g4 g5 h6
theorem g_callNt (C : Cx X own cc) {Ts : List Cond} (hts : ∀ q ∈ Ts, CB X q) {l : Launch} {D : va_G} {rm0 : Room} {nL : Nat} {nm : String} (V : Cv X l D rm0 nL nm) {index n maxL : Nat} {host : String} {y : MethodName} {bytes : ByteArray} {ret : Option FieldType} {ws ws' : List Cond} {rm : Room} {As : List Value} {post : Option Value → gm → Prop} (hG : GoodIn Ts ws) (hw : ws = Cond.code y bytes maxL ret :: ws') (hlk : va_Nw (.methodLinkNest own index y host) (x_s X)) (hstt : CB X (.static y)) (hini : CB X (.initialized y.cls))
    (hd : y.cls ≠ "java/lang/invoke/MethodHandle" ∧ y.cls ≠ "java/lang/invoke/VarHandle" ∧ (parseMethodDescriptor y.desc).map (fun d => d.parameters.length) = some n) (hroom : rm.frames + 1 ≤ rm0.frames ∧ 8 + (maxL + 11) + rm.locals ≤ rm0.locals ∧ rm.cells = 0 ∧ rm.slots = 0 ∧ a ≤ rm0.cells ∧ b ≤ rm0.slots)
    (hM : Ct l y ws rm D w As (M, J, R) post) (hn : As.length = n) (hst : st = As.reverse ++ rest) (hW : (rest.map fun v => v.category).sum ≤ 8) (d : decode cc pc = .ok (.invokestatic index, 3))
    (kk : ∀ v M' J' R', post v (M', J', R') → Gj X a b w M' J' R' (pc + 3) lv (v.toList ++ rest)) : Gj X a b w M J R pc lv st :=
  g_callN C hts V hG hw hlk hstt hini hd hroom hM hn hst hW d (fun v w' M' J' R' h => by obtain ⟨h0, h1⟩ := h; subst h0; exact kk v M' J' R' h1)
theorem g_callNf (C : Cx X own cc) {Ts : List Cond} (hts : ∀ q ∈ Ts, CB X q) {l : Launch} {D : va_G} {rm0 : Room} {nL : Nat} {nm : String} (V : Cv X l D rm0 nL nm) {index n maxL : Nat} {host : String} {y : MethodName} {bytes : ByteArray} {ret : Option FieldType} {ws ws' : List Cond} {rm : Room} {As : List Value} {res : Option Value} {M2 : Nat → Nat → Int32} {J2 : Nat → Nat → Int64} {R2 : Nat → Nat → Option Nat} (hG : GoodIn Ts ws) (hw : ws = Cond.code y bytes maxL ret :: ws') (hlk : va_Nw (.methodLinkNest own index y host) (x_s X)) (hstt : CB X (.static y)) (hini : CB X (.initialized y.cls))
    (hd : y.cls ≠ "java/lang/invoke/MethodHandle" ∧ y.cls ≠ "java/lang/invoke/VarHandle" ∧ (parseMethodDescriptor y.desc).map (fun d => d.parameters.length) = some n) (hroom : rm.frames + 1 ≤ rm0.frames ∧ 8 + (maxL + 11) + rm.locals ≤ rm0.locals ∧ rm.cells = 0 ∧ rm.slots = 0 ∧ a ≤ rm0.cells ∧ b ≤ rm0.slots)
    (hM : Cf l y ws rm D w As M J R res M2 J2 R2) (hn : As.length = n) (hst : st = As.reverse ++ rest) (hW : (rest.map fun v => v.category).sum ≤ 8) (d : decode cc pc = .ok (.invokestatic index, 3))
    (kk : Gj X a b w M2 J2 R2 (pc + 3) lv (res.toList ++ rest)) : Gj X a b w M J R pc lv st :=
  g_callNt C hts V hG hw hlk hstt hini hd hroom hM hn hst hW d (fun v M' J' R' h => by obtain ⟨h0, h1⟩ := h; cases h1; subst h0; exact kk)
theorem g_iret (C : Cx X own cc) {post : Option Value → gw → gm → Prop} (Rr : Cr X (some .int) post a b) {v : Int32} (hp : post (some (.int v)) w (M, J, R)) (d : decode cc pc = .ok (.ireturn, 1)) : Gj X a b w M J R pc lv [.int v] := by
  intro H locs ls h1 h2 h3 h4 h5 h6
  rw [Rr.2.2]
  exact W.iret (v := v) C.1 C.2.1 Rr.1 (fun t ht hW => ⟨⟨some (.int v), w, (M, J, R), rfl, hp, ⟨by rw [ht]; exact h1, gKn.moved hW.alike C.2.2.2.2.1, gTy.moved hW.alike h2, h3⟩, h4⟩, h5.F ht⟩) h5.2.2 d Rr.2.1
theorem g_zret (C : Cx X own cc) {post : Option Value → gw → gm → Prop} (Rr : Cr X (some .boolean) post a b) {v : Int32} (hn : narrow .boolean (.int v) = .int v) (hp : post (some (.int v)) w (M, J, R)) (d : decode cc pc = .ok (.ireturn, 1)) : Gj X a b w M J R pc lv [.int v] := by
  intro H locs ls h1 h2 h3 h4 h5 h6
  rw [Rr.2.2]
  exact W.zret (v := v) C.1 C.2.1 Rr.1 hn (fun t ht hW => ⟨⟨some (.int v), w, (M, J, R), rfl, hp, ⟨by rw [ht]; exact h1, gKn.moved hW.alike C.2.2.2.2.1, gTy.moved hW.alike h2, h3⟩, h4⟩, h5.F ht⟩) h5.2.2 d Rr.2.1
theorem g_lret (C : Cx X own cc) {post : Option Value → gw → gm → Prop} (Rr : Cr X (some .long) post a b) {v : Int64} (hp : post (some (.long v)) w (M, J, R)) (d : decode cc pc = .ok (.lreturn, 1)) : Gj X a b w M J R pc lv [.long v] := by
  intro H locs ls h1 h2 h3 h4 h5 h6
  rw [Rr.2.2]
  exact W.lret (v := v) C.1 C.2.1 Rr.1 (fun t ht hW => ⟨⟨some (.long v), w, (M, J, R), rfl, hp, ⟨by rw [ht]; exact h1, gKn.moved hW.alike C.2.2.2.2.1, gTy.moved hW.alike h2, h3⟩, h4⟩, h5.F ht⟩) h5.2.2 d Rr.2.1
theorem g_aret (C : Cx X own cc) {post : Option Value → gw → gm → Prop} {ty : FieldType} (Rr : Cr X (some ty) post a b) (hrt : (∃ n, ty = .object n) ∨ ∃ t, ty = .array t) {v : Nat} (hp : post (some (.ref v)) w (M, J, R)) (d : decode cc pc = .ok (.areturn, 1)) : Gj X a b w M J R pc lv [.ref v] := by
  intro H locs ls h1 h2 h3 h4 h5 h6
  rw [Rr.2.2]
  exact W.aret (v := .ref v) C.1 C.2.1 Rr.1 hrt (Or.inr ⟨v, rfl⟩) (fun t ht hW => ⟨⟨some (.ref v), w, (M, J, R), rfl, hp, ⟨by rw [ht]; exact h1, gKn.moved hW.alike C.2.2.2.2.1, gTy.moved hW.alike h2, h3⟩, h4⟩, h5.F ht⟩) h5.2.2 d Rr.2.1
theorem g_vret (C : Cx X own cc) {post : Option Value → gw → gm → Prop} (Rr : Cr X none post a b) (hp : post none w (M, J, R)) (d : decode cc pc = .ok (.return_, 1)) : Gj X a b w M J R pc lv [] := by
  intro H locs ls h1 h2 h3 h4 h5 h6
  rw [Rr.2.2]
  exact W.vret C.1 C.2.1 Rr.1 (fun t ht hW => ⟨⟨none, w, (M, J, R), rfl, hp, ⟨by rw [ht]; exact h1, gKn.moved hW.alike C.2.2.2.2.1, gTy.moved hW.alike h2, h3⟩, h4⟩, h5.F ht⟩) h5.2.2 d Rr.2.1
end GC2
theorem Cg.of {l : Launch} {y : MethodName} {ws ws' : List Cond} {rm : Room} {D : va_G} {w : gw} {av : List Value} {u : gm} {mc ms : Nat} {post : Option Value → gw → gm → Prop} {cc : ByteArray} {maxL : Nat} {ret : Option FieldType} {own : String} (z : Nat) (hy : plainName y.cls = true) (hyc : y.cls = own) (hw : ws = Cond.code y cc maxL ret :: ws') (hlen : (lg_sl av).length ≤ maxL)
    (body : ∀ X : gX, Cx X own cc → (∀ q ∈ ws, CB X q) → Cv X l D rm maxL y.name → Cr X ret post mc ms → Gj X 0 0 w u.1 u.2.1 u.2.2 0 (lvs av ++ List.replicate z none) []) : Cg l y ws rm D w av u mc ms post := by
  intro sz
  refine Met.ofW (cc := cc) (maxL := maxL) (ret := ret) hy hw ?_
  intro p e s m args below meth c s₁ B hml hv
  obtain ⟨rfl, hsz, ⟨hP, hK, hT, hI⟩, hE⟩ := hv
  have hts := atoms_spec (ws := ws) B.pre
  have hown : s.vm.findClass own = some m.cls := hyc ▸ findClass_of_methodNamed B.named
  subst hsz
  rw [lg_entry_eq]
  have h := body (p, l, e, (headSpec ws rm).room, s, m, av.toArray, below, meth, c, D, gA w s.heap.size, MQ below (gQ D post (gA w s.heap.size)) av.toArray s mc ms (gA w s.heap.size)) ⟨B.exec, B.bytes, hown, fun q h => Or.inr h, hK, hE⟩ hts ⟨rfl, hml, rfl, rfl, (name_of_methodNamed B.named B.method).1⟩ ⟨B.returns, B.notSynchronized, rfl⟩
  exact h s.heap [] _ hP hT hI (fun i hi => Or.inl ⟨i, hi, rfl⟩) va_S.rf (by show lvo _ c.maxLocals _; rw [hml]; exact lvo.entry av z hlen)
theorem sw_out {lo hi : Int} {x : Int32} (h : ¬ (lo ≤ x.toInt ∧ x.toInt ≤ hi)) : x.toInt < lo ∨ hi < x.toInt := by omega
