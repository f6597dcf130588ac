/-! calls of constructors; contracts that ask more of what is about (CgE) -/
def CgE (Ex : (Nat → Prop) → State → Heap → Prop) (l : Launch) (y : MethodName) (ws : List Cond) (rm : Room) (D : va_G) (w : gw) (av : List Value) (u : gm) (mc ms : Nat) (post : Option Value → gw → gm → Prop) : Prop := ∀ sz : Nat, Met l y ws rm (va_Pc av (fun U => U.heap.size = sz ∧ gI D w u.1 u.2.1 u.2.2 U U.heap ∧ gEnv (gA w sz) U U.heap ∧ Ex (gA w sz) U U.heap)) (gQ D post (gA w sz)) mc ms (gA w sz)
def okE (Ex : (Nat → Prop) → State → Heap → Prop) : Prop := (∀ (A B : Nat → Prop) (s U : State) (H0 H : Heap), s.WarmedH U.vm → (∀ a : Nat, a < H0.size → ¬ A a → H[a]? = H0[a]?) → (∀ q, B q → A q) → Ex A s H0 → Ex B U H) ∧ ∀ (A : Nat → Prop) (u U : State) (H : Heap), u.vm = U.vm → Ex A u H → Ex A U H
theorem gFBE {Ex : (Nat → Prop) → State → Heap → Prop} (hE : okE Ex) {D : va_G} {w : gw} {u : gm} {av : List Value} {sz : Nat} : FrameBlind (va_Pc av (fun U => U.heap.size = sz ∧ gI D w u.1 u.2.1 u.2.2 U U.heap ∧ gEnv (gA w sz) U U.heap ∧ Ex (gA w sz) U U.heap)) := fun a U g mk q => by
  obtain ⟨q0, q1, ⟨qP, qK, qT, qI⟩, qE, qX⟩ := q
  refine ⟨q0, q1, ⟨qP, gKn.moved (u := U) (U := U.calling g mk a) (Vm.Alike.refl U.vm) qK, gTy.moved (u := U) (U := U.calling g mk a) (Vm.Alike.refl U.vm) qT, qI⟩, ?_, ?_⟩
  · exact gEnv.same (u := U) (U := U.calling g mk a) rfl qE
  · exact hE.2 _ U (U.calling g mk a) _ rfl qX
theorem CgE.of {Ex : (Nat → Prop) → State → Heap → Prop} {l : Launch} {y : MethodName} {ws ws' : List Cond} {rm : Room} {D : va_G} {w : gw} {av : List Value} {u : gm} {mc ms : Nat} {post : Option Value → gw → gm → Prop} {cc : ByteArray} {maxL : Nat} {ret : Option FieldType} {own : String} (z : Nat) (hy : plainName y.cls = true) (hyc : y.cls = own) (hw : ws = Cond.code y cc maxL ret :: ws') (hlen : (lg_sl av).length ≤ maxL)
    (body : ∀ X : gX, Cx X own cc → (∀ q ∈ ws, CB X q) → Cv X l D rm maxL y.name → Cr X ret post mc ms → Ex (x_A X) (x_s X) (x_s X).heap → Gj X 0 0 w u.1 u.2.1 u.2.2 0 (lvs av ++ List.replicate z none) []) : CgE Ex l y ws rm D w av u mc ms post := by
  intro sz
  refine Met.ofW (cc := cc) (maxL := maxL) (ret := ret) hy hw ?_
  intro p e s m args below meth c s₁ B hml hv
  obtain ⟨rfl, hsz, ⟨hP, hK, hT, hI⟩, hE, hX⟩ := hv
  have hts := atoms_spec (ws := ws) B.pre
  have hown : s.vm.findClass own = some m.cls := hyc ▸ findClass_of_methodNamed B.named
  subst hsz
  rw [lg_entry_eq]
  have h := body (p, l, e, (headSpec ws rm).room, s, m, av.toArray, below, meth, c, D, gA w s.heap.size, MQ below (gQ D post (gA w s.heap.size)) av.toArray s mc ms (gA w s.heap.size)) ⟨B.exec, B.bytes, hown, fun q h => Or.inr h, hK, hE⟩ hts ⟨rfl, hml, rfl, rfl, (name_of_methodNamed B.named B.method).1⟩ ⟨B.returns, B.notSynchronized, rfl⟩ hX
  exact h s.heap [] _ hP hT hI (fun i hi => Or.inl ⟨i, hi, rfl⟩) va_S.rf (by show lvo _ c.maxLocals _; rw [hml]; exact lvo.entry av z hlen)
section GCI
variable {X : gX} {own : String} {cc : ByteArray} {a b pc : Nat} {w : gw} {M : Nat → Nat → Int32} {J : Nat → Nat → Int64} {R : Nat → Nat → Option Nat} {lv : List (Option Value)} {rest st : List Value}
theorem g_callI (C : Cx X own cc) {Ts : List Cond} (hts : ∀ q ∈ Ts, CB X q) {l : Launch} {D : va_G} {rm0 : Room} {nL : Nat} {nm : String} (V : Cv X l D rm0 nL nm) {index i n maxL mc ms : Nat} {y : MethodName} {bytes : ByteArray} {ws ws' : List Cond} {rm : Room} {As : List Value} {post : Option Value → gw → gm → Prop} (hG : GoodIn Ts ws) (hw : ws = Cond.code y bytes maxL none :: ws') (hlk : CB X (.methodLink own index y)) (hin : CB X (.instanceMethod y)) (hini : CB X (.initialized y.cls)) (hy1 : y.name = "<init>")
    (hd : y.cls ≠ "java/lang/invoke/MethodHandle" ∧ y.cls ≠ "java/lang/invoke/VarHandle" ∧ (parseMethodDescriptor y.desc).map (fun d => d.parameters.length) = some n) (hroom : rm.frames + 1 ≤ rm0.frames ∧ 8 + (maxL + 11) + rm.locals ≤ rm0.locals ∧ rm.cells = mc ∧ rm.slots = ms ∧ a + mc ≤ rm0.cells ∧ b + ms ≤ rm0.slots)
    (hM : Cg l y ws rm D w (.ref (w.2.1 i) :: As) (M, J, R) mc ms post) (hn : As.length = n) (hst : st = As.reverse ++ .ref (w.2.1 i) :: rest) (hW : (rest.map fun v => v.category).sum ≤ 8) (d : decode cc pc = .ok (.invokespecial index, 3))
    (kk : ∀ v w' M' J' R', post v w' (M', J', R') → Gj X (a + mc) (b + ms) w' M' J' R' (pc + 3) lv (v.toList ++ rest)) : Gj X a b w M J R pc lv st := by
  obtain ⟨hR, hml, hl, hD, -⟩ := V
  subst hl; subst hD
  intro H locs ls h1 h2 h3 h4 h5 h6
  have hfr := gFree C.2.2.2.1 h4 h5
  refine W.gcall (va_runI (As := As) (rest := rest) (Ts := Ts) (nL := (x_c X).maxLocals) (b := w.2.1 i) ⟨C.1, C.2.1, rfl, C.2.2.1, hts⟩ (hM H.size) (cwI n hts hG hw hroom.2.2.1 hroom.2.2.2.1 hini hlk hin hy1 hd ⟨by rw [hR]; exact hroom.1, by rw [hR]; exact hroom.2.1⟩) ⟨gFB, fun U hU hWm => ⟨rfl, by rw [hU], ⟨by rw [hU]; exact h1, gKn.moved hWm.alike C.2.2.2.2.1, gTy.moved hWm.alike h2, h3⟩, by rw [hU]; exact C.2.2.2.2.2.pass hWm h5.2.1 hfr⟩⟩ rfl hn h6.1 hst (lv_room hW) d ⟨by rw [hR]; exact hroom.2.2.2.2.1, by rw [hR]; exact hroom.2.2.2.2.2⟩) h5 hfr hfr (fun v w' u H1 locs1 hp g1 g2 g3 g4 g5 => ?_)
  obtain ⟨M', J', R'⟩ := u
  exact kk v w' M' J' R' hp H1 locs1 ls g1 g2 g3 g4 g5 h6
theorem g_callIE {Ex : (Nat → Prop) → State → Heap → Prop} (hE : okE Ex) (hX : Ex (x_A X) (x_s X) (x_s X).heap) (C : Cx X own cc) {Ts : List Cond} (hts : ∀ q ∈ Ts, CB X q) {l : Launch} {D : va_G} {rm0 : Room} {nL : Nat} {nm : String} (V : Cv X l D rm0 nL nm) {index i n maxL mc ms : Nat} {y : MethodName} {bytes : ByteArray} {ws ws' : List Cond} {rm : Room} {As : List Value} {post : Option Value → gw → gm → Prop} (hG : GoodIn Ts ws) (hw : ws = Cond.code y bytes maxL none :: ws') (hlk : CB X (.methodLink own index y)) (hin : CB X (.instanceMethod y)) (hini : CB X (.initialized y.cls)) (hy1 : y.name = "<init>")
    (hd : y.cls ≠ "java/lang/invoke/MethodHandle" ∧ y.cls ≠ "java/lang/invoke/VarHandle" ∧ (parseMethodDescriptor y.desc).map (fun d => d.parameters.length) = some n) (hroom : rm.frames + 1 ≤ rm0.frames ∧ 8 + (maxL + 11) + rm.locals ≤ rm0.locals ∧ rm.cells = mc ∧ rm.slots = ms ∧ a + mc ≤ rm0.cells ∧ b + ms ≤ rm0.slots)
    (hM : CgE Ex l y ws rm D w (.ref (w.2.1 i) :: As) (M, J, R) mc ms post) (hn : As.length = n) (hst : st = As.reverse ++ .ref (w.2.1 i) :: rest) (hW : (rest.map fun v => v.category).sum ≤ 8) (d : decode cc pc = .ok (.invokespecial index, 3))
    (kk : ∀ v w' M' J' R', post v w' (M', J', R') → Gj X (a + mc) (b + ms) w' M' J' R' (pc + 3) lv (v.toList ++ rest)) : Gj X a b w M J R pc lv st := by
  obtain ⟨hR, hml, hl, hD, -⟩ := V
  subst hl; subst hD
  intro H locs ls h1 h2 h3 h4 h5 h6
  have hfr := gFree C.2.2.2.1 h4 h5
  refine W.gcall (va_runI (As := As) (rest := rest) (Ts := Ts) (nL := (x_c X).maxLocals) (b := w.2.1 i) ⟨C.1, C.2.1, rfl, C.2.2.1, hts⟩ (hM H.size) (cwI n hts hG hw hroom.2.2.1 hroom.2.2.2.1 hini hlk hin hy1 hd ⟨by rw [hR]; exact hroom.1, by rw [hR]; exact hroom.2.1⟩) ⟨gFBE hE, fun U hU hWm => ⟨rfl, by rw [hU], ⟨by rw [hU]; exact h1, gKn.moved hWm.alike C.2.2.2.2.1, gTy.moved hWm.alike h2, h3⟩, by rw [hU]; exact C.2.2.2.2.2.pass hWm h5.2.1 hfr, by rw [hU]; exact hE.1 _ _ _ _ _ _ hWm h5.2.1 hfr hX⟩⟩ rfl hn h6.1 hst (lv_room hW) d ⟨by rw [hR]; exact hroom.2.2.2.2.1, by rw [hR]; exact hroom.2.2.2.2.2⟩) h5 hfr hfr (fun v w' u H1 locs1 hp g1 g2 g3 g4 g5 => ?_)
  obtain ⟨M', J', R'⟩ := u
  exact kk v w' M' J' R' hp H1 locs1 ls g1 g2 g3 g4 g5 h6
theorem g_callIN (C : Cx X own cc) {Ts : List Cond} (hts : ∀ q ∈ Ts, CB X q) {l : Launch} {D : va_G} {rm0 : Room} {nL : Nat} {nm : String} (V : Cv X l D rm0 nL nm) {index i n maxL mc ms : Nat} {host : String} {y : MethodName} {bytes : ByteArray} {ws ws' : List Cond} {rm : Room} {As : List Value} {post : Option Value → gw → gm → Prop} (hG : GoodIn Ts ws) (hw : ws = Cond.code y bytes maxL none :: ws') (hlk : va_Nw (.methodLinkNest own index y host) (x_s X)) (hin : CB X (.instanceMethod y)) (hini : CB X (.initialized y.cls)) (hy1 : y.name = "<init>")
    (hd : y.cls ≠ "java/lang/invoke/MethodHandle" ∧ y.cls ≠ "java/lang/invoke/VarHandle" ∧ (parseMethodDescriptor y.desc).map (fun d => d.parameters.length) = some n) (hroom : rm.frames + 1 ≤ rm0.frames ∧ 8 + (maxL + 11) + rm.locals ≤ rm0.locals ∧ rm.cells = mc ∧ rm.slots = ms ∧ a + mc ≤ rm0.cells ∧ b + ms ≤ rm0.slots)
    (hM : Cg l y ws rm D w (.ref (w.2.1 i) :: As) (M, J, R) mc ms post) (hn : As.length = n) (hst : st = As.reverse ++ .ref (w.2.1 i) :: rest) (hW : (rest.map fun v => v.category).sum ≤ 8) (d : decode cc pc = .ok (.invokespecial index, 3))
    (kk : ∀ v w' M' J' R', post v w' (M', J', R') → Gj X (a + mc) (b + ms) w' M' J' R' (pc + 3) lv (v.toList ++ rest)) : Gj X a b w M J R pc lv st := by
  obtain ⟨hR, hml, hl, hD, -⟩ := V
  subst hl; subst hD
  intro H locs ls h1 h2 h3 h4 h5 h6
  have hfr := gFree C.2.2.2.1 h4 h5
  refine W.gcall (va_runIN (As := As) (rest := rest) (Ts := Ts) (nL := (x_c X).maxLocals) (b := w.2.1 i) ⟨C.1, C.2.1, rfl, C.2.2.1, hts⟩ (hM H.size) ⟨va_cnB n hts hG hw hroom.2.2.1 hroom.2.2.2.1 hlk hini hd ⟨by rw [hR]; exact hroom.1, by rw [hR]; exact hroom.2.1⟩, hy1, hin⟩ ⟨gFB, fun U hU hWm => ⟨rfl, by rw [hU], ⟨by rw [hU]; exact h1, gKn.moved hWm.alike C.2.2.2.2.1, gTy.moved hWm.alike h2, h3⟩, by rw [hU]; exact C.2.2.2.2.2.pass hWm h5.2.1 hfr⟩⟩ rfl hn h6.1 hst (lv_room hW) d ⟨by rw [hR]; exact hroom.2.2.2.2.1, by rw [hR]; exact hroom.2.2.2.2.2⟩) h5 hfr hfr (fun v w' u H1 locs1 hp g1 g2 g3 g4 g5 => ?_)
  obtain ⟨M', J', R'⟩ := u
  exact kk v w' M' J' R' hp H1 locs1 ls g1 g2 g3 g4 g5 h6
/-- a virtual call on the text -/
theorem g_callTE {Ex : (Nat → Prop) → State → Heap → Prop} (hE : okE Ex) (hX : Ex (x_A X) (x_s X) (x_s X).heap) {adK adV : Nat → Nat} (hS : vk_S 1 [62] [actL] adK adV (x_A X) (x_s X) (x_s X).heap) (C : Cx X own cc) {Ts : List Cond} (hts : ∀ q ∈ Ts, CB X q) {l : Launch} {D : va_G} {rm0 : Room} {nL : Nat} {nm : String} (V : Cv X l D rm0 nL nm) {index n maxL : Nat} {y : MethodName} {bytes : ByteArray} {ret : Option FieldType} {ws ws' : List Cond} {rm : Room} {As : List Value} {res : Option Value} (hG : GoodIn Ts (wsV own index RJ0 y ws)) (hw : ws = Cond.code y bytes maxL ret :: ws')
    (hd : y.cls = RJ0 ∧ y.cls ≠ "java/lang/invoke/MethodHandle" ∧ y.cls ≠ "java/lang/invoke/VarHandle" ∧ (parseMethodDescriptor y.desc).map (fun d => d.parameters.length) = some n) (hroom : rm.frames + 1 ≤ rm0.frames ∧ 8 + (maxL + 11) + rm.locals ≤ rm0.locals ∧ rm.cells = 0 ∧ rm.slots = 0 ∧ a ≤ rm0.cells ∧ b ≤ rm0.slots)
    (hM : CgE Ex l y ws rm D w (.ref (adK 0) :: As) (M, J, R) 0 0 (fun v w' u => v = res ∧ w' = w ∧ u = (M, J, R))) (hn : As.length = n) (hst : st = As.reverse ++ .ref (adK 0) :: rest) (hW : (rest.map fun v => v.category).sum ≤ 8) (d : decode cc pc = .ok (.invokevirtual index, 3))
    (kk : Gj X a b w M J R (pc + 3) lv (res.toList ++ rest)) : Gj X a b w M J R pc lv st := by
  obtain ⟨hR, hml, hl, hD, -⟩ := V
  subst hl; subst hD
  intro H locs ls h1 h2 h3 h4 h5 h6
  have hfr := gFree C.2.2.2.1 h4 h5
  refine W.gcall (va_runV (As := As) (rest := rest) (Ts := Ts) (nL := (x_c X).maxLocals) (C := RJ0) (b := adK 0) ⟨C.1, C.2.1, rfl, C.2.2.1, hts⟩ (hM H.size) (cwV n hts hG hw hroom.2.2.1 hroom.2.2.2.1 hd ⟨by rw [hR]; exact hroom.1, by rw [hR]; exact hroom.2.1⟩) ⟨gFBE hE, vk_recv hS (by decide) h5, fun U hU hWm => ⟨rfl, by rw [hU], ⟨by rw [hU]; exact h1, gKn.moved hWm.alike C.2.2.2.2.1, gTy.moved hWm.alike h2, h3⟩, by rw [hU]; exact C.2.2.2.2.2.pass hWm h5.2.1 hfr, by rw [hU]; exact hE.1 _ _ _ _ _ _ hWm h5.2.1 hfr hX⟩⟩ rfl hn h6.1 hst (lv_room hW) d ⟨by rw [hR]; exact hroom.2.2.2.2.1, by rw [hR]; exact hroom.2.2.2.2.2⟩) h5 hfr hfr (fun v w' u H1 locs1 hp g1 g2 g3 g4 g5 => ?_)
  obtain ⟨hv, hw', hu⟩ := hp
  subst hv; subst hw'; subst hu
  exact kk H1 locs1 ls g1 g2 g3 g4 g5 h6
theorem g_callSE {Ex : (Nat → Prop) → State → Heap → Prop} (hE : okE Ex) (hX : Ex (x_A X) (x_s X) (x_s X).heap) (C : Cx X own cc) {Ts : List Cond} (hts : ∀ q ∈ Ts, CB X q) {l : Launch} {D : va_G} {rm0 : Room} {nL : Nat} {nm : String} (V : Cv X l D rm0 nL nm) {index n maxL : Nat} {y : MethodName} {bytes : ByteArray} {ret : Option FieldType} {ws ws' : List Cond} {rm : Room} {As : List Value} {res : Option Value} (hG : GoodIn Ts (va_wsS own index y ws)) (hw : ws = Cond.code y bytes maxL ret :: ws')
    (hd : y.cls ≠ "java/lang/invoke/MethodHandle" ∧ y.cls ≠ "java/lang/invoke/VarHandle" ∧ (parseMethodDescriptor y.desc).map (fun d => d.parameters.length) = some n) (hroom : rm.frames + 1 ≤ rm0.frames ∧ 8 + (maxL + 11) + rm.locals ≤ rm0.locals ∧ rm.cells = 0 ∧ rm.slots = 0 ∧ a ≤ rm0.cells ∧ b ≤ rm0.slots)
    (hM : CgE Ex l y ws rm D w As (M, J, R) 0 0 (fun v w' u => v = res ∧ w' = w ∧ u = (M, J, R))) (hn : As.length = n) (hst : st = As.reverse ++ rest) (hW : (rest.map fun v => v.category).sum ≤ 8) (d : decode cc pc = .ok (.invokestatic index, 3))
    (kk : Gj X a b w M J R (pc + 3) lv (res.toList ++ rest)) : Gj X a b w M J R pc lv st := by
  obtain ⟨hR, hml, hl, hD, -⟩ := V
  subst hl; subst hD
  intro H locs ls h1 h2 h3 h4 h5 h6
  have hfr := gFree C.2.2.2.1 h4 h5
  refine W.gcall (va_runS (As := As) (rest := rest) (Ts := Ts) (nL := (x_c X).maxLocals) ⟨C.1, C.2.1, rfl, C.2.2.1, hts⟩ (hM H.size) (va_cwS n hts hG hw hroom.2.2.1 hroom.2.2.2.1 hd ⟨by rw [hR]; exact hroom.1, by rw [hR]; exact hroom.2.1⟩) ⟨gFBE hE, fun U hU hWm => ⟨rfl, by rw [hU], ⟨by rw [hU]; exact h1, gKn.moved hWm.alike C.2.2.2.2.1, gTy.moved hWm.alike h2, h3⟩, by rw [hU]; exact C.2.2.2.2.2.pass hWm h5.2.1 hfr, by rw [hU]; exact hE.1 _ _ _ _ _ _ hWm h5.2.1 hfr hX⟩⟩ rfl hn h6.1 hst (lv_room hW) d ⟨by rw [hR]; exact hroom.2.2.2.2.1, by rw [hR]; exact hroom.2.2.2.2.2⟩) h5 hfr hfr (fun v w' u H1 locs1 hp g1 g2 g3 g4 g5 => ?_)
  obtain ⟨hv, hw', hu⟩ := hp
  subst hv; subst hw'; subst hu
  exact kk H1 locs1 ls g1 g2 g3 g4 g5 h6
theorem g_mmax (C : Cx X own cc) {l : Launch} {D : va_G} {rm0 : Room} {nL : Nat} {nm : String} (V : Cv X l D rm0 nL nm) {index : Nat} (hlink : CB X (.methodLink own index Lib.Math.max.name)) (hstat : CB X (.static Lib.Math.max.name)) (hini : CB X (.initialized "java/lang/Math")) (hcode : CB X (.code Lib.Math.max.name Lib.Math.max.code 2 (some .int))) (hroom : 1 ≤ rm0.frames ∧ (rest.map fun v => v.category).sum + 13 ≤ rm0.locals ∧ a ≤ rm0.cells ∧ b ≤ rm0.slots) {x y v : Int32} (hv : (if x < y then y else x) = v) (d : decode cc pc = .ok (.invokestatic index, 3)) (kk : Gj X a b w M J R (pc + 3) lv (.int v :: rest)) : Gj X a b w M J R pc lv (.int y :: .int x :: rest) := by
  obtain ⟨hR, -⟩ := V
  subst hv
  intro H locs ls h1 h2 h3 h4 h5 h6
  exact va_mmax C.1 C.2.1 h6.1.symm C.2.2.1 hlink hstat hini hcode (by rw [hR]; exact hroom.1) (by rw [hR]; exact hroom.2.1) (by rw [hR]; exact hroom.2.2.1) (by rw [hR]; exact hroom.2.2.2) d (kk H locs ls h1 h2 h3 h4 h5 h6)
/-- rows over the text -/
theorem g_tget (C : Cx X own cc) {n d9 : String} {q index : Nat} {v : Value} (hO : va_OF RJ0 n d9 v q (x_A X) (x_s X) (x_s X).heap) (hl : CB X (.fieldLink own index RJ0 n d9)) (d : decode cc pc = .ok (.getfield index, 3)) (kk : Gj X a b w M J R (pc + 3) lv (v :: rest)) : Gj X a b w M J R pc lv (.ref q :: rest) :=
  fun H locs ls h1 h2 h3 h4 h5 h6 => vk_getf C.1 C.2.1 hO h5 C.2.2.1 hl (fun x h => h) d (kk H locs ls h1 h2 h3 h4 h5 h6)
theorem g_tlen (C : Cx X own cc) {ty : FieldType} {t N : Nat} {f : Nat → Value} (hT : va_T ty t N f (x_A X) (x_s X) (x_s X).heap) {v : Int32} (hv : Int32.ofNat N = v) (d : decode cc pc = .ok (.arraylength, 1)) (kk : Gj X a b w M J R (pc + 1) lv (.int v :: rest)) : Gj X a b w M J R pc lv (.ref t :: rest) :=
  fun H locs ls h1 h2 h3 h4 h5 h6 => va_tlen C.1 C.2.1 hT h5 hv d (kk H locs ls h1 h2 h3 h4 h5 h6)
theorem g_tb (C : Cx X own cc) {t N : Nat} {f : Nat → Value} (hT : va_T .byte t N f (x_A X) (x_s X) (x_s X).heap) {i : Int32} (hin : vp_in i N) {v : Value} (hv : f i.toNatClampNeg = v) (d : decode cc pc = .ok (.baload, 1)) (kk : Gj X a b w M J R (pc + 1) lv (v :: rest)) : Gj X a b w M J R pc lv (.int i :: .ref t :: rest) :=
  fun H locs ls h1 h2 h3 h4 h5 h6 => va_tb C.1 C.2.1 hT h5 hin hv d (kk H locs ls h1 h2 h3 h4 h5 h6)
theorem g_getsZ (C : Cx X own cc) {Cn n d9 : String} {v : Value} {index : Nat} (hZ : va_Z Cn n d9 v (x_A X) (x_s X) (x_s X).heap) (hl : CB X (.fieldLink own index Cn n d9)) (d : decode cc pc = .ok (.getstatic index, 3)) (kk : Gj X a b w M J R (pc + 3) lv (v :: rest)) : Gj X a b w M J R pc lv rest :=
  fun H locs ls h1 h2 h3 h4 h5 h6 => va_gets C.1 C.2.1 hZ h5 C.2.2.1 hl (fun x h => h) d (kk H locs ls h1 h2 h3 h4 h5 h6)
theorem g_ldcS (C : Cx X own cc) {tx : String} {index q : Nat} (hZ : vk_R own index tx q (x_s X)) (d : decode cc pc = .ok (.ldc index, 2)) (kk : Gj X a b w M J R (pc + 2) lv (.ref q :: rest)) : Gj X a b w M J R pc lv rest :=
  fun H locs ls h1 h2 h3 h4 h5 h6 => va_ldcS C.1 C.2.1 C.2.2.1 hZ d (kk H locs ls h1 h2 h3 h4 h5 h6)
theorem g_i2c (C : Cx X own cc) {x v : Int32} (hv : (x.toUInt32 % 65536).toInt32 = v) (d : decode cc pc = .ok (.i2c, 1)) (kk : Gj X a b w M J R (pc + 1) lv (.int v :: rest)) : Gj X a b w M J R pc lv (.int x :: rest) :=
  fun H locs ls h1 h2 h3 h4 h5 h6 => lv_i2c C.1 C.2.1 d hv (kk H locs ls h1 h2 h3 h4 h5 h6)
theorem g_tret (C : Cx X own cc) {ty : FieldType} {post : Option Value → gw → gm → Prop} (Rr : Cr X (some ty) post a b) {v : Int32} (hn : narrow ty (.int v) = .int v) (hp : post (some (.int v)) w (M, J, R)) (d : decode cc pc = .ok (.ireturn, 1)) : Gj X a b w M J R pc lv [.int v] := by
  intro H locs ls h1 h2 h3 h4 h5 h6
  rw [Rr.2.2]
  exact W.zret (v := v) C.1 C.2.1 Rr.1 hn (fun t ht hW => ⟨⟨some (.int v), w, (M, J, R), rfl, hp, ⟨by rw [ht]; exact h1, gKn.moved hW.alike C.2.2.2.2.1, gTy.moved hW.alike h2, h3⟩, h4⟩, h5.F ht⟩) h5.2.2 d Rr.2.1
end GCI
/-- the text's own surroundings -/
def ExT (adK adV : Nat → Nat) : (Nat → Prop) → State → Heap → Prop := fun A U H => vk_S 1 [62] [actL] adK adV A U H ∧ va_Z "java/lang/String" "COMPACT_STRINGS" "Z" (.int 1) A U H ∧ va_Zq "jdk/internal/util/Preconditions" "SIOOBE_FORMATTER" "Ljava/util/function/BiFunction;" A U H
theorem okE_T (adK adV : Nat → Nat) : okE (ExT adK adV) := by
  refine ⟨fun A B s U H0 H hW hk hAB h => ?_, fun A u U H hv h => ?_⟩
  · obtain ⟨t1, t3, t4⟩ := h
    exact ⟨((t1.kept hk).narrow hAB).moved hW.alike, ((t3.kept hk).narrow hAB).moved hW.alike, ((t4.kept hk).narrow hAB).moved hW.alike⟩
  · obtain ⟨t1, t3, t4⟩ := h
    have ha : u.vm.Alike U.vm := hv ▸ Vm.Alike.refl u.vm
    exact ⟨t1.moved ha, t3.moved ha, t4.moved ha⟩
/-- arrays of programs and of rows can be made -/
def ExA : (Nat → Prop) → State → Heap → Prop := fun _ U _ => va_AO "FallBench$Program" U ∧ va_AO "FallBench$Row" U
theorem okE_A : okE ExA := ⟨fun A B s U H0 H hW _ _ h => ⟨h.1.moved hW.alike, h.2.moved hW.alike⟩, fun A u U H hv h => by
  have ha : u.vm.Alike U.vm := hv ▸ Vm.Alike.refl u.vm
  exact ⟨h.1.moved ha, h.2.moved ha⟩⟩
