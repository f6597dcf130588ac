/-! THE REFERENCE (class 8, cell 134): its machine. value 149, maker 150, came 151, outs 152, bytes 148; fields 29 byteMany, 30 ended, 31 endAct, 32 wrongValue, 33 wrongMaker, 34 wrongBytes, 35 steps, 36 outMany, 37 readMany, 38 place; programs: aWhat 137, aOne 138, aTwo 139, aN 140, many 141 -/
def layM : List (Nat × Nat) := [(0, 135), (1, 136), (11, 137), (12, 138), (13, 139), (14, 140), (15, 141), (16, 142), (17, 143), (18, 144), (19, 145), (21, 146), (22, 147), (24, 148), (25, 149), (26, 150), (27, 151), (28, 152), (39, 153), (40, 154), (41, 155), (42, 156), (43, 157), (45, 158), (46, 159), (47, 160), (48, 161), (49, 162), (51, 163), (52, 164), (59, 165)]
def LayM (R : Nat → Nat → Option Nat) : Prop := ∀ q ∈ layM, R 134 q.1 = some q.2
def n_fall (M : Nat → Nat → Int32) (how x : Int32) : Nat → Nat → Int32 := up2 (up2 (up2 (up2 (up2 M 134 30 how) 134 31 (M 134 38)) 134 32 (M 149 x.toNatClampNeg)) 134 33 (M 150 x.toNatClampNeg)) 134 34 (M 151 x.toNatClampNeg)
def n_put (M : Nat → Nat → Int32) (x v c a : Int32) : Nat → Nat → Int32 := up2 (up2 (up2 M 149 x.toNatClampNeg v) 151 x.toNatClampNeg c) 150 x.toNatClampNeg a
def n_makes (M : Nat → Nat → Int32) (k r s n a : Int32) : Nat → Nat → Int32 := if k = 0 then (if M 134 29 ≤ M 134 37 then up2 (up2 (up2 (up2 M 149 r.toNatClampNeg (-1)) 151 r.toNatClampNeg 0) 134 37 (M 134 37 + 0)) 150 r.toNatClampNeg a else up2 (up2 (up2 (up2 M 149 r.toNatClampNeg (M 148 (M 134 37).toNatClampNeg)) 151 r.toNatClampNeg (1 <<< (M 134 37 &&& 31))) 134 37 (M 134 37 + 1)) 150 r.toNatClampNeg a) else if k = 1 then n_put M r n 0 a else if k = 2 then n_put M r (M 149 s.toNatClampNeg) (M 151 s.toNatClampNeg) (M 150 s.toNatClampNeg) else if k = 3 then n_put M r (M 149 r.toNatClampNeg + M 149 s.toNatClampNeg) (M 151 r.toNatClampNeg ||| M 151 s.toNatClampNeg) a else if k = 4 then n_put M r (M 149 r.toNatClampNeg - M 149 s.toNatClampNeg) (M 151 r.toNatClampNeg ||| M 151 s.toNatClampNeg) a else n_put M r (M 149 r.toNatClampNeg * M 149 s.toNatClampNeg) (M 151 r.toNatClampNeg ||| M 151 s.toNatClampNeg) a
def n_carry (M : Nat → Nat → Int32) (f t b : Int32) : Nat → Nat → Int32 := up2 (up2 (up2 M 149 t.toNatClampNeg (M 149 f.toNatClampNeg)) 150 t.toNatClampNeg (M 150 f.toNatClampNeg)) 151 t.toNatClampNeg (M 151 f.toNatClampNeg ||| b)
def n_carries (M : Nat → Nat → Int32) (k r s : Int32) : Nat → Nat → Int32 := if k = 6 then n_carry M (8 + M 149 s.toNatClampNeg) r (M 151 s.toNatClampNeg) else n_carry M s (8 + M 149 r.toNatClampNeg) (M 151 r.toNatClampNeg)
def n_goes (M : Nat → Nat → Int32) (k r s n : Int32) : Nat → Nat → Int32 := if k = 8 then (if M 149 s.toNatClampNeg ≤ M 149 r.toNatClampNeg then M else up2 M 134 38 n) else if k = 9 then (if M 149 r.toNatClampNeg = M 149 s.toNatClampNeg then up2 M 134 38 n else M) else if k = 10 then up2 M 134 38 n else if k = 11 then up2 M 134 38 (M 149 r.toNatClampNeg) else if k = 12 then up2 (if 40 ≤ M 134 36 then M else up2 M 152 (M 134 36).toNatClampNeg (M 149 r.toNatClampNeg)) 134 36 (M 134 36 + 1) else up2 M 134 30 0
def n_go (M : Nat → Nat → Int32) (k r s n : Int32) : Nat → Nat → Int32 := if 5 < k then (if 7 < k then n_goes (up2 (up2 M 134 35 (M 134 35 + 1)) 134 38 (M 134 38 + 1)) k r s n else n_carries (up2 (up2 M 134 35 (M 134 35 + 1)) 134 38 (M 134 38 + 1)) k r s) else n_makes (up2 (up2 M 134 35 (M 134 35 + 1)) 134 38 (M 134 38 + 1)) k r s n (M 134 38)
def n_step (M : Nat → Nat → Int32) (k r s n acts : Int32) : Nat → Nat → Int32 := if M 134 35 = 1000 then up2 M 134 30 4 else if k = 6 then (if isPl (M 149 s.toNatClampNeg) = 0 then n_fall M 1 s else n_go M k r s n) else if k = 7 then (if isPl (M 149 r.toNatClampNeg) = 0 then n_fall M 2 r else n_go M k r s n) else if k = 11 then (if M 149 r.toNatClampNeg < 0 then n_fall M 3 r else if M 149 r.toNatClampNeg < acts then n_go M k r s n else n_fall M 3 r) else n_go M k r s n

theorem hdX8_falls : yX8_falls.cls = cR 8 ∧ yX8_falls.cls ≠ "java/lang/invoke/MethodHandle" ∧ yX8_falls.cls ≠ "java/lang/invoke/VarHandle" ∧ (parseMethodDescriptor yX8_falls.desc).map (fun d => d.parameters.length) = some 2 := by decide +kernel

theorem hdX8_step : yX8_step.cls = cR 8 ∧ yX8_step.cls ≠ "java/lang/invoke/MethodHandle" ∧ yX8_step.cls ≠ "java/lang/invoke/VarHandle" ∧ (parseMethodDescriptor yX8_step.desc).map (fun d => d.parameters.length) = some 2 := by decide +kernel

theorem hdX8_makes : yX8_makes.cls = cR 8 ∧ yX8_makes.cls ≠ "java/lang/invoke/MethodHandle" ∧ yX8_makes.cls ≠ "java/lang/invoke/VarHandle" ∧ (parseMethodDescriptor yX8_makes.desc).map (fun d => d.parameters.length) = some 5 := by decide +kernel

theorem hdX8_carries : yX8_carries.cls = cR 8 ∧ yX8_carries.cls ≠ "java/lang/invoke/MethodHandle" ∧ yX8_carries.cls ≠ "java/lang/invoke/VarHandle" ∧ (parseMethodDescriptor yX8_carries.desc).map (fun d => d.parameters.length) = some 3 := by decide +kernel

theorem hdX8_goes : yX8_goes.cls = cR 8 ∧ yX8_goes.cls ≠ "java/lang/invoke/MethodHandle" ∧ yX8_goes.cls ≠ "java/lang/invoke/VarHandle" ∧ (parseMethodDescriptor yX8_goes.desc).map (fun d => d.parameters.length) = some 4 := by decide +kernel

theorem hdX8_runOn : yX8_runOn.cls = cR 8 ∧ yX8_runOn.cls ≠ "java/lang/invoke/MethodHandle" ∧ yX8_runOn.cls ≠ "java/lang/invoke/VarHandle" ∧ (parseMethodDescriptor yX8_runOn.desc).map (fun d => d.parameters.length) = some 1 := by decide +kernel

theorem hdX8_use : yX8_use.cls = cR 8 ∧ yX8_use.cls ≠ "java/lang/invoke/MethodHandle" ∧ yX8_use.cls ≠ "java/lang/invoke/VarHandle" ∧ (parseMethodDescriptor yX8_use.desc).map (fun d => d.parameters.length) = some 1 := by decide +kernel

theorem hdX8_isPlace : yX8_isPlace.cls ≠ "java/lang/invoke/MethodHandle" ∧ yX8_isPlace.cls ≠ "java/lang/invoke/VarHandle" ∧ (parseMethodDescriptor yX8_isPlace.desc).map (fun d => d.parameters.length) = some 1 := by decide +kernel

set_option maxHeartbeats 4000000 in
set_option maxRecDepth 100000 in
theorem c_X8_isPlace {l : Launch} {D : va_G} {w : gw} {M : Nat → Nat → Int32} {J : Nat → Nat → Int64} {R : Nat → Nat → Option Nat} {v : Int32} : Cf l yX8_isPlace wsX8_isPlace ({ frames := 0, cells := 0, slots := 0, locals := 0 } : Room) D w [.int v] M J R (some (.int (isPl v))) M J R := by
  refine Cg.of (own := RX8) (cc := cX8_isPlace) (maxL := 1) (ret := (some .boolean)) 0 (by decide) rfl rfl (Nat.le_of_ble_eq_true rfl) (fun X C hts V Rr => ?_)
  show Gj X 0 0 w M J R 0 [some (.int v)] []
  refine g_iload_n C dX8_isPlace_0 rfl ?_
  refine g_if_lt (tgt := 14) C dX8_isPlace_1 (by decide) (fun c1 => ?_) (fun c1 => ?_)
  · refine g_iconst (v := 0) C dX8_isPlace_14 (by decide) ?_
    exact g_zret C Rr rfl ⟨rfl, ⟨by simp only [isPl, if_pos c1], rfl⟩⟩ dX8_isPlace_15
  · refine g_iload_n C dX8_isPlace_4 rfl ?_
    refine g_bipush (v := 32) C dX8_isPlace_5 (by decide) ?_
    refine g_icmp_ge (tgt := 14) C dX8_isPlace_7 (by decide) (fun c7 => ?_) (fun c7 => ?_)
    · refine g_iconst (v := 0) C dX8_isPlace_14 (by decide) ?_
      exact g_zret C Rr rfl ⟨rfl, ⟨by simp only [isPl, if_neg c1, if_pos c7], rfl⟩⟩ dX8_isPlace_15
    · refine g_iconst (v := 1) C dX8_isPlace_10 (by decide) ?_
      refine g_goto (tgt := 15) C dX8_isPlace_11 (by decide) ?_
      exact g_zret C Rr rfl ⟨rfl, ⟨by simp only [isPl, if_neg c1, if_neg c7], rfl⟩⟩ dX8_isPlace_15

set_option maxHeartbeats 4000000 in
set_option maxRecDepth 100000 in
theorem c_X8_falls {l : Launch} {D : va_G} {w : gw} {M : Nat → Nat → Int32} {J : Nat → Nat → Int64} {R : Nat → Nat → Option Nat} (hw : w.1 = 166) (hR : LayM R) {how x : Int32} (hx : vp_in x 40) : Cf l yX8_falls wsX8_falls ({ frames := 0, cells := 0, slots := 0, locals := 0 } : Room) D w [.ref (w.2.1 134), .int how, .int x] M J R none (n_fall M how x) J R := by
  refine Cg.of (own := RX8) (cc := cX8_falls) (maxL := 3) (ret := none) 0 (by decide) rfl rfl (Nat.le_of_ble_eq_true rfl) (fun X C hts V Rr => ?_)
  have F8 : FW X 8 := fun q h => hts q (List.mem_cons_of_mem _ (List.mem_append_right _ h))
  show Gj X 0 0 w M J R 0 [some (.ref (w.2.1 134)), some (.int how), some (.int x)] []
  refine g_aload_n C dX8_falls_0 rfl ?_
  refine g_iload_n C dX8_falls_1 rfl ?_
  refine g_puti C F8 (by rw [hw]; decide) rfl (by decide) 30 (by decide) rfl (hts (.fieldLink RX8 234 "FallBenchModel" "ended" "I") (by decide +kernel)) rfl rfl rfl rfl dX8_falls_2 ?_
  refine g_aload_n C dX8_falls_5 rfl ?_
  refine g_aload_n C dX8_falls_6 rfl ?_
  refine g_geti (v := M 134 38) C F8 (by rw [hw]; decide) rfl (by decide) 38 (by decide) rfl (hts (.fieldLink RX8 258 "FallBenchModel" "place" "I") (by decide +kernel)) rfl (up2_n2 _ _ (by decide)) dX8_falls_7 ?_
  refine g_puti C F8 (by rw [hw]; decide) rfl (by decide) 31 (by decide) rfl (hts (.fieldLink RX8 237 "FallBenchModel" "endAct" "I") (by decide +kernel)) rfl rfl rfl rfl dX8_falls_10 ?_
  refine g_aload_n C dX8_falls_13 rfl ?_
  refine g_aload_n C dX8_falls_14 rfl ?_
  refine g_getr (j := 149) C F8 (by rw [hw]; decide) rfl (by decide) 25 (by decide) rfl (hts (.fieldLink RX8 58 "FallBenchModel" "value" "[I") (by decide +kernel)) rfl (hR (25, 149) (by decide)) dX8_falls_15 ?_
  refine g_iload_n C dX8_falls_18 rfl ?_
  refine g_iald (v := M 149 x.toNatClampNeg) C (by rw [hw]; decide) rfl hx (by rw [up2_n1 _ _ (by decide), up2_n1 _ _ (by decide)]) dX8_falls_19 ?_
  refine g_puti C F8 (by rw [hw]; decide) rfl (by decide) 32 (by decide) rfl (hts (.fieldLink RX8 240 "FallBenchModel" "wrongValue" "I") (by decide +kernel)) rfl rfl rfl rfl dX8_falls_20 ?_
  refine g_aload_n C dX8_falls_23 rfl ?_
  refine g_aload_n C dX8_falls_24 rfl ?_
  refine g_getr (j := 150) C F8 (by rw [hw]; decide) rfl (by decide) 26 (by decide) rfl (hts (.fieldLink RX8 61 "FallBenchModel" "maker" "[I") (by decide +kernel)) rfl (hR (26, 150) (by decide)) dX8_falls_25 ?_
  refine g_iload_n C dX8_falls_28 rfl ?_
  refine g_iald (v := M 150 x.toNatClampNeg) C (by rw [hw]; decide) rfl hx (by rw [up2_n1 _ _ (by decide), up2_n1 _ _ (by decide), up2_n1 _ _ (by decide)]) dX8_falls_29 ?_
  refine g_puti C F8 (by rw [hw]; decide) rfl (by decide) 33 (by decide) rfl (hts (.fieldLink RX8 243 "FallBenchModel" "wrongMaker" "I") (by decide +kernel)) rfl rfl rfl rfl dX8_falls_30 ?_
  refine g_aload_n C dX8_falls_33 rfl ?_
  refine g_aload_n C dX8_falls_34 rfl ?_
  refine g_getr (j := 151) C F8 (by rw [hw]; decide) rfl (by decide) 27 (by decide) rfl (hts (.fieldLink RX8 64 "FallBenchModel" "came" "[I") (by decide +kernel)) rfl (hR (27, 151) (by decide)) dX8_falls_35 ?_
  refine g_iload_n C dX8_falls_38 rfl ?_
  refine g_iald (v := M 151 x.toNatClampNeg) C (by rw [hw]; decide) rfl hx (by rw [up2_n1 _ _ (by decide), up2_n1 _ _ (by decide), up2_n1 _ _ (by decide), up2_n1 _ _ (by decide)]) dX8_falls_39 ?_
  refine g_puti C F8 (by rw [hw]; decide) rfl (by decide) 34 (by decide) rfl (hts (.fieldLink RX8 246 "FallBenchModel" "wrongBytes" "I") (by decide +kernel)) rfl rfl rfl rfl dX8_falls_40 ?_
  exact g_vret C Rr ⟨rfl, ⟨rfl, rfl⟩⟩ dX8_falls_43

set_option maxHeartbeats 4000000 in
set_option maxRecDepth 100000 in
theorem c_X8_makes {l : Launch} {D : va_G} {w : gw} {M : Nat → Nat → Int32} {J : Nat → Nat → Int64} {R : Nat → Nat → Option Nat} (hw : w.1 = 166) (hR : LayM R) {k r s n a : Int32} (hr : vp_in r 40) (hs : (k = 2 ∨ (¬ k = 0 ∧ ¬ k = 1 ∧ ¬ k = 2)) → vp_in s 40) (hb : ¬ M 134 29 ≤ M 134 37 → vp_in (M 134 37) 24) : Cf l yX8_makes wsX8_makes ({ frames := 0, cells := 0, slots := 0, locals := 0 } : Room) D w [.ref (w.2.1 134), .int k, .int r, .int s, .int n, .int a] M J R none (n_makes M k r s n a) J R := by
  refine Cg.of (own := RX8) (cc := cX8_makes) (maxL := 7) (ret := none) 1 (by decide) rfl rfl (Nat.le_of_ble_eq_true rfl) (fun X C hts V Rr => ?_)
  have F8 : FW X 8 := fun q h => hts q (List.mem_cons_of_mem _ (List.mem_append_right _ h))
  show Gj X 0 0 w M J R 0 [some (.ref (w.2.1 134)), some (.int k), some (.int r), some (.int s), some (.int n), some (.int a), none] []
  refine g_iload_n C dX8_makes_0 rfl ?_
  refine g_if_ne (tgt := 89) C dX8_makes_1 (by decide) (fun c1 => ?_) (fun c1 => ?_)
  · refine g_iload_n C dX8_makes_89 rfl ?_
    refine g_iconst (v := 1) C dX8_makes_90 (by decide) ?_
    refine g_icmp_ne (tgt := 112) C dX8_makes_91 (by decide) (fun c91 => ?_) (fun c91 => ?_)
    · refine g_iload_n C dX8_makes_112 rfl ?_
      refine g_iconst (v := 2) C dX8_makes_113 (by decide) ?_
      refine g_icmp_ne (tgt := 156) C dX8_makes_114 (by decide) (fun c114 => ?_) (fun c114 => ?_)
      · have hs2 : vp_in s 40 := hs (Or.inr ⟨c1, c91, c114⟩)
        refine g_aload_n C dX8_makes_156 rfl ?_
        refine g_getr (j := 149) C F8 (by rw [hw]; decide) rfl (by decide) 25 (by decide) rfl (hts (.fieldLink RX8 58 "FallBenchModel" "value" "[I") (by decide +kernel)) rfl (hR (25, 149) (by decide)) dX8_makes_157 ?_
        refine g_iload_n C dX8_makes_160 rfl ?_
        refine g_iload_n C dX8_makes_161 rfl ?_
        refine g_iconst (v := 3) C dX8_makes_162 (by decide) ?_
        refine g_icmp_ne (tgt := 182) C dX8_makes_163 (by decide) (fun c163 => ?_) (fun c163 => ?_)
        · refine g_iload_n C dX8_makes_182 rfl ?_
          refine g_iconst (v := 4) C dX8_makes_183 (by decide) ?_
          refine g_icmp_ne (tgt := 203) C dX8_makes_184 (by decide) (fun c184 => ?_) (fun c184 => ?_)
          · refine g_aload_n C dX8_makes_203 rfl ?_
            refine g_getr (j := 149) C F8 (by rw [hw]; decide) rfl (by decide) 25 (by decide) rfl (hts (.fieldLink RX8 58 "FallBenchModel" "value" "[I") (by decide +kernel)) rfl (hR (25, 149) (by decide)) dX8_makes_204 ?_
            refine g_iload_n C dX8_makes_207 rfl ?_
            refine g_iald C (by rw [hw]; decide) rfl hr rfl dX8_makes_208 ?_
            refine g_aload_n C dX8_makes_209 rfl ?_
            refine g_getr (j := 149) C F8 (by rw [hw]; decide) rfl (by decide) 25 (by decide) rfl (hts (.fieldLink RX8 58 "FallBenchModel" "value" "[I") (by decide +kernel)) rfl (hR (25, 149) (by decide)) dX8_makes_210 ?_
            refine g_iload_n C dX8_makes_213 rfl ?_
            refine g_iald C (by rw [hw]; decide) rfl hs2 rfl dX8_makes_214 ?_
            refine g_imul C dX8_makes_215 ?_
            refine g_iast C (by rw [hw]; decide) rfl hr dX8_makes_216 ?_
            refine g_aload_n C dX8_makes_217 rfl ?_
            refine g_getr (j := 151) C F8 (by rw [hw]; decide) rfl (by decide) 27 (by decide) rfl (hts (.fieldLink RX8 64 "FallBenchModel" "came" "[I") (by decide +kernel)) rfl (hR (27, 151) (by decide)) dX8_makes_218 ?_
            refine g_iload_n C dX8_makes_221 rfl ?_
            refine g_dup2 C dX8_makes_222 rfl rfl ?_
            refine g_iald (v := M 151 r.toNatClampNeg) C (by rw [hw]; decide) rfl hr (up2_n1 _ _ (by decide)) dX8_makes_223 ?_
            refine g_aload_n C dX8_makes_224 rfl ?_
            refine g_getr (j := 151) C F8 (by rw [hw]; decide) rfl (by decide) 27 (by decide) rfl (hts (.fieldLink RX8 64 "FallBenchModel" "came" "[I") (by decide +kernel)) rfl (hR (27, 151) (by decide)) dX8_makes_225 ?_
            refine g_iload_n C dX8_makes_228 rfl ?_
            refine g_iald (v := M 151 s.toNatClampNeg) C (by rw [hw]; decide) rfl hs2 (up2_n1 _ _ (by decide)) dX8_makes_229 ?_
            refine g_ior C dX8_makes_230 ?_
            refine g_iast C (by rw [hw]; decide) rfl hr dX8_makes_231 ?_
            refine g_iload_n C dX8_makes_232 rfl ?_
            refine g_iconst (v := 2) C dX8_makes_233 (by decide) ?_
            refine g_icmp_eq (tgt := 245) C dX8_makes_234 (by decide) (fun c234 => absurd c234 c114) (fun c234 => ?_)
            refine g_aload_n C dX8_makes_237 rfl ?_
            refine g_getr (j := 150) C F8 (by rw [hw]; decide) rfl (by decide) 26 (by decide) rfl (hts (.fieldLink RX8 61 "FallBenchModel" "maker" "[I") (by decide +kernel)) rfl (hR (26, 150) (by decide)) dX8_makes_238 ?_
            refine g_iload_n C dX8_makes_241 rfl ?_
            refine g_iload C dX8_makes_242 rfl ?_
            refine g_iast C (by rw [hw]; decide) rfl hr dX8_makes_244 ?_
            exact g_vret C Rr ⟨rfl, ⟨rfl, by simp only [n_makes, n_put, if_neg c1, if_neg c91, if_neg c114, if_neg c163, if_neg c184]⟩⟩ dX8_makes_245
          · refine g_aload_n C dX8_makes_187 rfl ?_
            refine g_getr (j := 149) C F8 (by rw [hw]; decide) rfl (by decide) 25 (by decide) rfl (hts (.fieldLink RX8 58 "FallBenchModel" "value" "[I") (by decide +kernel)) rfl (hR (25, 149) (by decide)) dX8_makes_188 ?_
            refine g_iload_n C dX8_makes_191 rfl ?_
            refine g_iald C (by rw [hw]; decide) rfl hr rfl dX8_makes_192 ?_
            refine g_aload_n C dX8_makes_193 rfl ?_
            refine g_getr (j := 149) C F8 (by rw [hw]; decide) rfl (by decide) 25 (by decide) rfl (hts (.fieldLink RX8 58 "FallBenchModel" "value" "[I") (by decide +kernel)) rfl (hR (25, 149) (by decide)) dX8_makes_194 ?_
            refine g_iload_n C dX8_makes_197 rfl ?_
            refine g_iald C (by rw [hw]; decide) rfl hs2 rfl dX8_makes_198 ?_
            refine g_isub C dX8_makes_199 ?_
            refine g_goto (tgt := 216) C dX8_makes_200 (by decide) ?_
            refine g_iast C (by rw [hw]; decide) rfl hr dX8_makes_216 ?_
            refine g_aload_n C dX8_makes_217 rfl ?_
            refine g_getr (j := 151) C F8 (by rw [hw]; decide) rfl (by decide) 27 (by decide) rfl (hts (.fieldLink RX8 64 "FallBenchModel" "came" "[I") (by decide +kernel)) rfl (hR (27, 151) (by decide)) dX8_makes_218 ?_
            refine g_iload_n C dX8_makes_221 rfl ?_
            refine g_dup2 C dX8_makes_222 rfl rfl ?_
            refine g_iald (v := M 151 r.toNatClampNeg) C (by rw [hw]; decide) rfl hr (up2_n1 _ _ (by decide)) dX8_makes_223 ?_
            refine g_aload_n C dX8_makes_224 rfl ?_
            refine g_getr (j := 151) C F8 (by rw [hw]; decide) rfl (by decide) 27 (by decide) rfl (hts (.fieldLink RX8 64 "FallBenchModel" "came" "[I") (by decide +kernel)) rfl (hR (27, 151) (by decide)) dX8_makes_225 ?_
            refine g_iload_n C dX8_makes_228 rfl ?_
            refine g_iald (v := M 151 s.toNatClampNeg) C (by rw [hw]; decide) rfl hs2 (up2_n1 _ _ (by decide)) dX8_makes_229 ?_
            refine g_ior C dX8_makes_230 ?_
            refine g_iast C (by rw [hw]; decide) rfl hr dX8_makes_231 ?_
            refine g_iload_n C dX8_makes_232 rfl ?_
            refine g_iconst (v := 2) C dX8_makes_233 (by decide) ?_
            refine g_icmp_eq (tgt := 245) C dX8_makes_234 (by decide) (fun c234 => absurd c234 c114) (fun c234 => ?_)
            refine g_aload_n C dX8_makes_237 rfl ?_
            refine g_getr (j := 150) C F8 (by rw [hw]; decide) rfl (by decide) 26 (by decide) rfl (hts (.fieldLink RX8 61 "FallBenchModel" "maker" "[I") (by decide +kernel)) rfl (hR (26, 150) (by decide)) dX8_makes_238 ?_
            refine g_iload_n C dX8_makes_241 rfl ?_
            refine g_iload C dX8_makes_242 rfl ?_
            refine g_iast C (by rw [hw]; decide) rfl hr dX8_makes_244 ?_
            exact g_vret C Rr ⟨rfl, ⟨rfl, by simp only [n_makes, n_put, if_neg c1, if_neg c91, if_neg c114, if_neg c163, if_pos c184]⟩⟩ dX8_makes_245
        · refine g_aload_n C dX8_makes_166 rfl ?_
          refine g_getr (j := 149) C F8 (by rw [hw]; decide) rfl (by decide) 25 (by decide) rfl (hts (.fieldLink RX8 58 "FallBenchModel" "value" "[I") (by decide +kernel)) rfl (hR (25, 149) (by decide)) dX8_makes_167 ?_
          refine g_iload_n C dX8_makes_170 rfl ?_
          refine g_iald C (by rw [hw]; decide) rfl hr rfl dX8_makes_171 ?_
          refine g_aload_n C dX8_makes_172 rfl ?_
          refine g_getr (j := 149) C F8 (by rw [hw]; decide) rfl (by decide) 25 (by decide) rfl (hts (.fieldLink RX8 58 "FallBenchModel" "value" "[I") (by decide +kernel)) rfl (hR (25, 149) (by decide)) dX8_makes_173 ?_
          refine g_iload_n C dX8_makes_176 rfl ?_
          refine g_iald C (by rw [hw]; decide) rfl hs2 rfl dX8_makes_177 ?_
          refine g_iadd C dX8_makes_178 ?_
          refine g_goto (tgt := 216) C dX8_makes_179 (by decide) ?_
          refine g_iast C (by rw [hw]; decide) rfl hr dX8_makes_216 ?_
          refine g_aload_n C dX8_makes_217 rfl ?_
          refine g_getr (j := 151) C F8 (by rw [hw]; decide) rfl (by decide) 27 (by decide) rfl (hts (.fieldLink RX8 64 "FallBenchModel" "came" "[I") (by decide +kernel)) rfl (hR (27, 151) (by decide)) dX8_makes_218 ?_
          refine g_iload_n C dX8_makes_221 rfl ?_
          refine g_dup2 C dX8_makes_222 rfl rfl ?_
          refine g_iald (v := M 151 r.toNatClampNeg) C (by rw [hw]; decide) rfl hr (up2_n1 _ _ (by decide)) dX8_makes_223 ?_
          refine g_aload_n C dX8_makes_224 rfl ?_
          refine g_getr (j := 151) C F8 (by rw [hw]; decide) rfl (by decide) 27 (by decide) rfl (hts (.fieldLink RX8 64 "FallBenchModel" "came" "[I") (by decide +kernel)) rfl (hR (27, 151) (by decide)) dX8_makes_225 ?_
          refine g_iload_n C dX8_makes_228 rfl ?_
          refine g_iald (v := M 151 s.toNatClampNeg) C (by rw [hw]; decide) rfl hs2 (up2_n1 _ _ (by decide)) dX8_makes_229 ?_
          refine g_ior C dX8_makes_230 ?_
          refine g_iast C (by rw [hw]; decide) rfl hr dX8_makes_231 ?_
          refine g_iload_n C dX8_makes_232 rfl ?_
          refine g_iconst (v := 2) C dX8_makes_233 (by decide) ?_
          refine g_icmp_eq (tgt := 245) C dX8_makes_234 (by decide) (fun c234 => absurd c234 c114) (fun c234 => ?_)
          refine g_aload_n C dX8_makes_237 rfl ?_
          refine g_getr (j := 150) C F8 (by rw [hw]; decide) rfl (by decide) 26 (by decide) rfl (hts (.fieldLink RX8 61 "FallBenchModel" "maker" "[I") (by decide +kernel)) rfl (hR (26, 150) (by decide)) dX8_makes_238 ?_
          refine g_iload_n C dX8_makes_241 rfl ?_
          refine g_iload C dX8_makes_242 rfl ?_
          refine g_iast C (by rw [hw]; decide) rfl hr dX8_makes_244 ?_
          exact g_vret C Rr ⟨rfl, ⟨rfl, by simp only [n_makes, n_put, if_neg c1, if_neg c91, if_neg c114, if_pos c163]⟩⟩ dX8_makes_245
      · refine g_aload_n C dX8_makes_117 rfl ?_
        refine g_getr (j := 149) C F8 (by rw [hw]; decide) rfl (by decide) 25 (by decide) rfl (hts (.fieldLink RX8 58 "FallBenchModel" "value" "[I") (by decide +kernel)) rfl (hR (25, 149) (by decide)) dX8_makes_118 ?_
        refine g_iload_n C dX8_makes_121 rfl ?_
        refine g_aload_n C dX8_makes_122 rfl ?_
        refine g_getr (j := 149) C F8 (by rw [hw]; decide) rfl (by decide) 25 (by decide) rfl (hts (.fieldLink RX8 58 "FallBenchModel" "value" "[I") (by decide +kernel)) rfl (hR (25, 149) (by decide)) dX8_makes_123 ?_
        refine g_iload_n C dX8_makes_126 rfl ?_
        refine g_iald C (by rw [hw]; decide) rfl (hs (Or.inl c114)) rfl dX8_makes_127 ?_
        refine g_iast C (by rw [hw]; decide) rfl hr dX8_makes_128 ?_
        refine g_aload_n C dX8_makes_129 rfl ?_
        refine g_getr (j := 151) C F8 (by rw [hw]; decide) rfl (by decide) 27 (by decide) rfl (hts (.fieldLink RX8 64 "FallBenchModel" "came" "[I") (by decide +kernel)) rfl (hR (27, 151) (by decide)) dX8_makes_130 ?_
        refine g_iload_n C dX8_makes_133 rfl ?_
        refine g_aload_n C dX8_makes_134 rfl ?_
        refine g_getr (j := 151) C F8 (by rw [hw]; decide) rfl (by decide) 27 (by decide) rfl (hts (.fieldLink RX8 64 "FallBenchModel" "came" "[I") (by decide +kernel)) rfl (hR (27, 151) (by decide)) dX8_makes_135 ?_
        refine g_iload_n C dX8_makes_138 rfl ?_
        refine g_iald (v := M 151 s.toNatClampNeg) C (by rw [hw]; decide) rfl (hs (Or.inl c114)) (up2_n1 _ _ (by decide)) dX8_makes_139 ?_
        refine g_iast C (by rw [hw]; decide) rfl hr dX8_makes_140 ?_
        refine g_aload_n C dX8_makes_141 rfl ?_
        refine g_getr (j := 150) C F8 (by rw [hw]; decide) rfl (by decide) 26 (by decide) rfl (hts (.fieldLink RX8 61 "FallBenchModel" "maker" "[I") (by decide +kernel)) rfl (hR (26, 150) (by decide)) dX8_makes_142 ?_
        refine g_iload_n C dX8_makes_145 rfl ?_
        refine g_aload_n C dX8_makes_146 rfl ?_
        refine g_getr (j := 150) C F8 (by rw [hw]; decide) rfl (by decide) 26 (by decide) rfl (hts (.fieldLink RX8 61 "FallBenchModel" "maker" "[I") (by decide +kernel)) rfl (hR (26, 150) (by decide)) dX8_makes_147 ?_
        refine g_iload_n C dX8_makes_150 rfl ?_
        refine g_iald (v := M 150 s.toNatClampNeg) C (by rw [hw]; decide) rfl (hs (Or.inl c114)) (by rw [up2_n1 _ _ (by decide), up2_n1 _ _ (by decide)]) dX8_makes_151 ?_
        refine g_iast C (by rw [hw]; decide) rfl hr dX8_makes_152 ?_
        refine g_goto (tgt := 232) C dX8_makes_153 (by decide) ?_
        refine g_iload_n C dX8_makes_232 rfl ?_
        refine g_iconst (v := 2) C dX8_makes_233 (by decide) ?_
        refine g_icmp_eq (tgt := 245) C dX8_makes_234 (by decide) (fun c234 => ?_) (fun c234 => absurd c234 (not_not_intro c114))
        exact g_vret C Rr ⟨rfl, ⟨rfl, by simp only [n_makes, n_put, if_neg c1, if_neg c91, if_pos c114]⟩⟩ dX8_makes_245
    · refine g_aload_n C dX8_makes_94 rfl ?_
      refine g_getr (j := 149) C F8 (by rw [hw]; decide) rfl (by decide) 25 (by decide) rfl (hts (.fieldLink RX8 58 "FallBenchModel" "value" "[I") (by decide +kernel)) rfl (hR (25, 149) (by decide)) dX8_makes_95 ?_
      refine g_iload_n C dX8_makes_98 rfl ?_
      refine g_iload C dX8_makes_99 rfl ?_
      refine g_iast C (by rw [hw]; decide) rfl hr dX8_makes_101 ?_
      refine g_aload_n C dX8_makes_102 rfl ?_
      refine g_getr (j := 151) C F8 (by rw [hw]; decide) rfl (by decide) 27 (by decide) rfl (hts (.fieldLink RX8 64 "FallBenchModel" "came" "[I") (by decide +kernel)) rfl (hR (27, 151) (by decide)) dX8_makes_103 ?_
      refine g_iload_n C dX8_makes_106 rfl ?_
      refine g_iconst (v := 0) C dX8_makes_107 (by decide) ?_
      refine g_iast C (by rw [hw]; decide) rfl hr dX8_makes_108 ?_
      refine g_goto (tgt := 232) C dX8_makes_109 (by decide) ?_
      refine g_iload_n C dX8_makes_232 rfl ?_
      refine g_iconst (v := 2) C dX8_makes_233 (by decide) ?_
      refine g_icmp_eq (tgt := 245) C dX8_makes_234 (by decide) (fun c234 => absurd c234 (by rw [c91]; decide)) (fun c234 => ?_)
      refine g_aload_n C dX8_makes_237 rfl ?_
      refine g_getr (j := 150) C F8 (by rw [hw]; decide) rfl (by decide) 26 (by decide) rfl (hts (.fieldLink RX8 61 "FallBenchModel" "maker" "[I") (by decide +kernel)) rfl (hR (26, 150) (by decide)) dX8_makes_238 ?_
      refine g_iload_n C dX8_makes_241 rfl ?_
      refine g_iload C dX8_makes_242 rfl ?_
      refine g_iast C (by rw [hw]; decide) rfl hr dX8_makes_244 ?_
      exact g_vret C Rr ⟨rfl, ⟨rfl, by simp only [n_makes, n_put, if_neg c1, if_pos c91]⟩⟩ dX8_makes_245
  · refine g_aload_n C dX8_makes_4 rfl ?_
    refine g_geti C F8 (by rw [hw]; decide) rfl (by decide) 37 (by decide) rfl (hts (.fieldLink RX8 255 "FallBenchModel" "readMany" "I") (by decide +kernel)) rfl rfl dX8_makes_5 ?_
    refine g_aload_n C dX8_makes_8 rfl ?_
    refine g_geti C F8 (by rw [hw]; decide) rfl (by decide) 29 (by decide) rfl (hts (.fieldLink RX8 231 "FallBenchModel" "byteMany" "I") (by decide +kernel)) rfl rfl dX8_makes_9 ?_
    refine g_icmp_ge (tgt := 19) C dX8_makes_12 (by decide) (fun c12 => ?_) (fun c12 => ?_)
    · refine g_iconst (v := 0) C dX8_makes_19 (by decide) ?_
      refine g_istore C V.2.1 dX8_makes_20 (by decide) rfl ?_
      refine g_aload_n C dX8_makes_22 rfl ?_
      refine g_getr (j := 149) C F8 (by rw [hw]; decide) rfl (by decide) 25 (by decide) rfl (hts (.fieldLink RX8 58 "FallBenchModel" "value" "[I") (by decide +kernel)) rfl (hR (25, 149) (by decide)) dX8_makes_23 ?_
      refine g_iload_n C dX8_makes_26 rfl ?_
      refine g_iload C dX8_makes_27 rfl ?_
      refine g_if_eq (tgt := 44) C dX8_makes_29 (by decide) (fun c29 => ?_) (fun c29 => absurd c29 (by decide))
      refine g_iconst (v := (-1)) C dX8_makes_44 (by decide) ?_
      refine g_iast C (by rw [hw]; decide) rfl hr dX8_makes_45 ?_
      refine g_aload_n C dX8_makes_46 rfl ?_
      refine g_getr (j := 151) C F8 (by rw [hw]; decide) rfl (by decide) 27 (by decide) rfl (hts (.fieldLink RX8 64 "FallBenchModel" "came" "[I") (by decide +kernel)) rfl (hR (27, 151) (by decide)) dX8_makes_47 ?_
      refine g_iload_n C dX8_makes_50 rfl ?_
      refine g_iload C dX8_makes_51 rfl ?_
      refine g_if_eq (tgt := 65) C dX8_makes_53 (by decide) (fun c53 => ?_) (fun c53 => absurd c53 (by decide))
      refine g_iconst (v := 0) C dX8_makes_65 (by decide) ?_
      refine g_iast C (by rw [hw]; decide) rfl hr dX8_makes_66 ?_
      refine g_aload_n C dX8_makes_67 rfl ?_
      refine g_dup C dX8_makes_68 rfl ?_
      refine g_geti (v := M 134 37) C F8 (by rw [hw]; decide) rfl (by decide) 37 (by decide) rfl (hts (.fieldLink RX8 255 "FallBenchModel" "readMany" "I") (by decide +kernel)) rfl (by rw [up2_n1 _ _ (by decide), up2_n1 _ _ (by decide)]) dX8_makes_69 ?_
      refine g_iload C dX8_makes_72 rfl ?_
      refine g_if_eq (tgt := 81) C dX8_makes_74 (by decide) (fun c74 => ?_) (fun c74 => absurd c74 (by decide))
      refine g_iconst (v := 0) C dX8_makes_81 (by decide) ?_
      refine g_iadd C dX8_makes_82 ?_
      refine g_puti C F8 (by rw [hw]; decide) rfl (by decide) 37 (by decide) rfl (hts (.fieldLink RX8 255 "FallBenchModel" "readMany" "I") (by decide +kernel)) rfl rfl rfl rfl dX8_makes_83 ?_
      refine g_goto (tgt := 232) C dX8_makes_86 (by decide) ?_
      refine g_iload_n C dX8_makes_232 rfl ?_
      refine g_iconst (v := 2) C dX8_makes_233 (by decide) ?_
      refine g_icmp_eq (tgt := 245) C dX8_makes_234 (by decide) (fun c234 => absurd c234 (by rw [c1]; decide)) (fun c234 => ?_)
      refine g_aload_n C dX8_makes_237 rfl ?_
      refine g_getr (j := 150) C F8 (by rw [hw]; decide) rfl (by decide) 26 (by decide) rfl (hts (.fieldLink RX8 61 "FallBenchModel" "maker" "[I") (by decide +kernel)) rfl (hR (26, 150) (by decide)) dX8_makes_238 ?_
      refine g_iload_n C dX8_makes_241 rfl ?_
      refine g_iload C dX8_makes_242 rfl ?_
      refine g_iast C (by rw [hw]; decide) rfl hr dX8_makes_244 ?_
      exact g_vret C Rr ⟨rfl, ⟨rfl, by simp only [n_makes, n_put, if_pos c1, if_pos c12]⟩⟩ dX8_makes_245
    · refine g_iconst (v := 1) C dX8_makes_15 (by decide) ?_
      refine g_goto (tgt := 20) C dX8_makes_16 (by decide) ?_
      refine g_istore C V.2.1 dX8_makes_20 (by decide) rfl ?_
      refine g_aload_n C dX8_makes_22 rfl ?_
      refine g_getr (j := 149) C F8 (by rw [hw]; decide) rfl (by decide) 25 (by decide) rfl (hts (.fieldLink RX8 58 "FallBenchModel" "value" "[I") (by decide +kernel)) rfl (hR (25, 149) (by decide)) dX8_makes_23 ?_
      refine g_iload_n C dX8_makes_26 rfl ?_
      refine g_iload C dX8_makes_27 rfl ?_
      refine g_if_eq (tgt := 44) C dX8_makes_29 (by decide) (fun c29 => absurd c29 (by decide)) (fun c29 => ?_)
      refine g_aload_n C dX8_makes_32 rfl ?_
      refine g_getr (j := 148) C F8 (by rw [hw]; decide) rfl (by decide) 24 (by decide) rfl (hts (.fieldLink RX8 55 "FallBenchModel" "bytes" "[I") (by decide +kernel)) rfl (hR (24, 148) (by decide)) dX8_makes_33 ?_
      refine g_aload_n C dX8_makes_36 rfl ?_
      refine g_geti (v := M 134 37) C F8 (by rw [hw]; decide) rfl (by decide) 37 (by decide) rfl (hts (.fieldLink RX8 255 "FallBenchModel" "readMany" "I") (by decide +kernel)) rfl rfl dX8_makes_37 ?_
      refine g_iald C (by rw [hw]; decide) rfl (hb c12) rfl dX8_makes_40 ?_
      refine g_goto (tgt := 45) C dX8_makes_41 (by decide) ?_
      refine g_iast C (by rw [hw]; decide) rfl hr dX8_makes_45 ?_
      refine g_aload_n C dX8_makes_46 rfl ?_
      refine g_getr (j := 151) C F8 (by rw [hw]; decide) rfl (by decide) 27 (by decide) rfl (hts (.fieldLink RX8 64 "FallBenchModel" "came" "[I") (by decide +kernel)) rfl (hR (27, 151) (by decide)) dX8_makes_47 ?_
      refine g_iload_n C dX8_makes_50 rfl ?_
      refine g_iload C dX8_makes_51 rfl ?_
      refine g_if_eq (tgt := 65) C dX8_makes_53 (by decide) (fun c53 => absurd c53 (by decide)) (fun c53 => ?_)
      refine g_iconst (v := 1) C dX8_makes_56 (by decide) ?_
      refine g_aload_n C dX8_makes_57 rfl ?_
      refine g_geti (v := M 134 37) C F8 (by rw [hw]; decide) rfl (by decide) 37 (by decide) rfl (hts (.fieldLink RX8 255 "FallBenchModel" "readMany" "I") (by decide +kernel)) rfl (up2_n1 _ _ (by decide)) dX8_makes_58 ?_
      refine g_ishl C dX8_makes_61 ?_
      refine g_goto (tgt := 66) C dX8_makes_62 (by decide) ?_
      refine g_iast C (by rw [hw]; decide) rfl hr dX8_makes_66 ?_
      refine g_aload_n C dX8_makes_67 rfl ?_
      refine g_dup C dX8_makes_68 rfl ?_
      refine g_geti (v := M 134 37) C F8 (by rw [hw]; decide) rfl (by decide) 37 (by decide) rfl (hts (.fieldLink RX8 255 "FallBenchModel" "readMany" "I") (by decide +kernel)) rfl (by rw [up2_n1 _ _ (by decide), up2_n1 _ _ (by decide)]) dX8_makes_69 ?_
      refine g_iload C dX8_makes_72 rfl ?_
      refine g_if_eq (tgt := 81) C dX8_makes_74 (by decide) (fun c74 => absurd c74 (by decide)) (fun c74 => ?_)
      refine g_iconst (v := 1) C dX8_makes_77 (by decide) ?_
      refine g_goto (tgt := 82) C dX8_makes_78 (by decide) ?_
      refine g_iadd C dX8_makes_82 ?_
      refine g_puti C F8 (by rw [hw]; decide) rfl (by decide) 37 (by decide) rfl (hts (.fieldLink RX8 255 "FallBenchModel" "readMany" "I") (by decide +kernel)) rfl rfl rfl rfl dX8_makes_83 ?_
      refine g_goto (tgt := 232) C dX8_makes_86 (by decide) ?_
      refine g_iload_n C dX8_makes_232 rfl ?_
      refine g_iconst (v := 2) C dX8_makes_233 (by decide) ?_
      refine g_icmp_eq (tgt := 245) C dX8_makes_234 (by decide) (fun c234 => absurd c234 (by rw [c1]; decide)) (fun c234 => ?_)
      refine g_aload_n C dX8_makes_237 rfl ?_
      refine g_getr (j := 150) C F8 (by rw [hw]; decide) rfl (by decide) 26 (by decide) rfl (hts (.fieldLink RX8 61 "FallBenchModel" "maker" "[I") (by decide +kernel)) rfl (hR (26, 150) (by decide)) dX8_makes_238 ?_
      refine g_iload_n C dX8_makes_241 rfl ?_
      refine g_iload C dX8_makes_242 rfl ?_
      refine g_iast C (by rw [hw]; decide) rfl hr dX8_makes_244 ?_
      exact g_vret C Rr ⟨rfl, ⟨rfl, by simp only [n_makes, n_put, if_pos c1, if_neg c12]⟩⟩ dX8_makes_245

set_option maxHeartbeats 4000000 in
set_option maxRecDepth 100000 in
theorem c_X8_carries {l : Launch} {D : va_G} {w : gw} {M : Nat → Nat → Int32} {J : Nat → Nat → Int64} {R : Nat → Nat → Option Nat} (hw : w.1 = 166) (hR : LayM R) {k r s : Int32} (hr : vp_in r 40) (hs : vp_in s 40) (h6 : k = 6 → ¬ isPl (M 149 s.toNatClampNeg) = 0) (h7 : ¬ k = 6 → ¬ isPl (M 149 r.toNatClampNeg) = 0) : Cf l yX8_carries wsX8_carries ({ frames := 0, cells := 0, slots := 0, locals := 0 } : Room) D w [.ref (w.2.1 134), .int k, .int r, .int s] M J R none (n_carries M k r s) J R := by
  refine Cg.of (own := RX8) (cc := cX8_carries) (maxL := 8) (ret := none) 4 (by decide) rfl rfl (Nat.le_of_ble_eq_true rfl) (fun X C hts V Rr => ?_)
  have F8 : FW X 8 := fun q h => hts q (List.mem_cons_of_mem _ (List.mem_append_right _ h))
  show Gj X 0 0 w M J R 0 [some (.ref (w.2.1 134)), some (.int k), some (.int r), some (.int s), none, none, none, none] []
  refine g_iload_n C dX8_carries_0 rfl ?_
  refine g_bipush (v := 6) C dX8_carries_1 (by decide) ?_
  refine g_icmp_ne (tgt := 10) C dX8_carries_3 (by decide) (fun c3 => ?_) (fun c3 => ?_)
  · refine g_iload_n C dX8_carries_10 rfl ?_
    refine g_istore C V.2.1 dX8_carries_11 (by decide) rfl ?_
    refine g_aload_n C dX8_carries_13 rfl ?_
    refine g_getr (j := 151) C F8 (by rw [hw]; decide) rfl (by decide) 27 (by decide) rfl (hts (.fieldLink RX8 64 "FallBenchModel" "came" "[I") (by decide +kernel)) rfl (hR (27, 151) (by decide)) dX8_carries_14 ?_
    refine g_iload C dX8_carries_17 rfl ?_
    refine g_iald C (by rw [hw]; decide) rfl hr rfl dX8_carries_19 ?_
    refine g_istore C V.2.1 dX8_carries_20 (by decide) rfl ?_
    refine g_iload_n C dX8_carries_22 rfl ?_
    refine g_bipush (v := 6) C dX8_carries_23 (by decide) ?_
    refine g_icmp_ne (tgt := 32) C dX8_carries_25 (by decide) (fun c25 => ?_) (fun c25 => absurd c25 c3)
    refine g_bipush (v := 8) C dX8_carries_32 (by decide) ?_
    refine g_aload_n C dX8_carries_34 rfl ?_
    refine g_getr (j := 149) C F8 (by rw [hw]; decide) rfl (by decide) 25 (by decide) rfl (hts (.fieldLink RX8 58 "FallBenchModel" "value" "[I") (by decide +kernel)) rfl (hR (25, 149) (by decide)) dX8_carries_35 ?_
    refine g_iload C dX8_carries_38 rfl ?_
    refine g_iald C (by rw [hw]; decide) rfl hr rfl dX8_carries_40 ?_
    refine g_iadd C dX8_carries_41 ?_
    refine g_istore C V.2.1 dX8_carries_42 (by decide) rfl ?_
    refine g_iload_n C dX8_carries_44 rfl ?_
    refine g_bipush (v := 6) C dX8_carries_45 (by decide) ?_
    refine g_icmp_ne (tgt := 63) C dX8_carries_47 (by decide) (fun c47 => ?_) (fun c47 => absurd c47 c3)
    refine g_iload_n C dX8_carries_63 rfl ?_
    refine g_istore C V.2.1 dX8_carries_64 (by decide) rfl ?_
    refine g_aload_n C dX8_carries_66 rfl ?_
    refine g_getr (j := 149) C F8 (by rw [hw]; decide) rfl (by decide) 25 (by decide) rfl (hts (.fieldLink RX8 58 "FallBenchModel" "value" "[I") (by decide +kernel)) rfl (hR (25, 149) (by decide)) dX8_carries_67 ?_
    refine g_iload C dX8_carries_70 rfl ?_
    refine g_aload_n C dX8_carries_72 rfl ?_
    refine g_getr (j := 149) C F8 (by rw [hw]; decide) rfl (by decide) 25 (by decide) rfl (hts (.fieldLink RX8 58 "FallBenchModel" "value" "[I") (by decide +kernel)) rfl (hR (25, 149) (by decide)) dX8_carries_73 ?_
    refine g_iload C dX8_carries_76 rfl ?_
    refine g_iald C (by rw [hw]; decide) rfl hs rfl dX8_carries_78 ?_
    refine g_iast C (by rw [hw]; decide) rfl (pl_in (h7 c3)) dX8_carries_79 ?_
    refine g_aload_n C dX8_carries_80 rfl ?_
    refine g_getr (j := 150) C F8 (by rw [hw]; decide) rfl (by decide) 26 (by decide) rfl (hts (.fieldLink RX8 61 "FallBenchModel" "maker" "[I") (by decide +kernel)) rfl (hR (26, 150) (by decide)) dX8_carries_81 ?_
    refine g_iload C dX8_carries_84 rfl ?_
    refine g_aload_n C dX8_carries_86 rfl ?_
    refine g_getr (j := 150) C F8 (by rw [hw]; decide) rfl (by decide) 26 (by decide) rfl (hts (.fieldLink RX8 61 "FallBenchModel" "maker" "[I") (by decide +kernel)) rfl (hR (26, 150) (by decide)) dX8_carries_87 ?_
    refine g_iload C dX8_carries_90 rfl ?_
    refine g_iald (v := M 150 s.toNatClampNeg) C (by rw [hw]; decide) rfl hs (up2_n1 _ _ (by decide)) dX8_carries_92 ?_
    refine g_iast C (by rw [hw]; decide) rfl (pl_in (h7 c3)) dX8_carries_93 ?_
    refine g_aload_n C dX8_carries_94 rfl ?_
    refine g_getr (j := 151) C F8 (by rw [hw]; decide) rfl (by decide) 27 (by decide) rfl (hts (.fieldLink RX8 64 "FallBenchModel" "came" "[I") (by decide +kernel)) rfl (hR (27, 151) (by decide)) dX8_carries_95 ?_
    refine g_iload C dX8_carries_98 rfl ?_
    refine g_aload_n C dX8_carries_100 rfl ?_
    refine g_getr (j := 151) C F8 (by rw [hw]; decide) rfl (by decide) 27 (by decide) rfl (hts (.fieldLink RX8 64 "FallBenchModel" "came" "[I") (by decide +kernel)) rfl (hR (27, 151) (by decide)) dX8_carries_101 ?_
    refine g_iload C dX8_carries_104 rfl ?_
    refine g_iald (v := M 151 s.toNatClampNeg) C (by rw [hw]; decide) rfl hs (by rw [up2_n1 _ _ (by decide), up2_n1 _ _ (by decide)]) dX8_carries_106 ?_
    refine g_iload C dX8_carries_107 rfl ?_
    refine g_ior C dX8_carries_109 ?_
    refine g_iast C (by rw [hw]; decide) rfl (pl_in (h7 c3)) dX8_carries_110 ?_
    exact g_vret C Rr ⟨rfl, ⟨rfl, by simp only [n_carries, n_carry, if_neg c3]⟩⟩ dX8_carries_111
  · refine g_iload_n C dX8_carries_6 rfl ?_
    refine g_goto (tgt := 11) C dX8_carries_7 (by decide) ?_
    refine g_istore C V.2.1 dX8_carries_11 (by decide) rfl ?_
    refine g_aload_n C dX8_carries_13 rfl ?_
    refine g_getr (j := 151) C F8 (by rw [hw]; decide) rfl (by decide) 27 (by decide) rfl (hts (.fieldLink RX8 64 "FallBenchModel" "came" "[I") (by decide +kernel)) rfl (hR (27, 151) (by decide)) dX8_carries_14 ?_
    refine g_iload C dX8_carries_17 rfl ?_
    refine g_iald C (by rw [hw]; decide) rfl hs rfl dX8_carries_19 ?_
    refine g_istore C V.2.1 dX8_carries_20 (by decide) rfl ?_
    refine g_iload_n C dX8_carries_22 rfl ?_
    refine g_bipush (v := 6) C dX8_carries_23 (by decide) ?_
    refine g_icmp_ne (tgt := 32) C dX8_carries_25 (by decide) (fun c25 => absurd c25 (not_not_intro c3)) (fun c25 => ?_)
    refine g_iload_n C dX8_carries_28 rfl ?_
    refine g_goto (tgt := 42) C dX8_carries_29 (by decide) ?_
    refine g_istore C V.2.1 dX8_carries_42 (by decide) rfl ?_
    refine g_iload_n C dX8_carries_44 rfl ?_
    refine g_bipush (v := 6) C dX8_carries_45 (by decide) ?_
    refine g_icmp_ne (tgt := 63) C dX8_carries_47 (by decide) (fun c47 => absurd c47 (not_not_intro c3)) (fun c47 => ?_)
    refine g_bipush (v := 8) C dX8_carries_50 (by decide) ?_
    refine g_aload_n C dX8_carries_52 rfl ?_
    refine g_getr (j := 149) C F8 (by rw [hw]; decide) rfl (by decide) 25 (by decide) rfl (hts (.fieldLink RX8 58 "FallBenchModel" "value" "[I") (by decide +kernel)) rfl (hR (25, 149) (by decide)) dX8_carries_53 ?_
    refine g_iload C dX8_carries_56 rfl ?_
    refine g_iald C (by rw [hw]; decide) rfl hs rfl dX8_carries_58 ?_
    refine g_iadd C dX8_carries_59 ?_
    refine g_goto (tgt := 64) C dX8_carries_60 (by decide) ?_
    refine g_istore C V.2.1 dX8_carries_64 (by decide) rfl ?_
    refine g_aload_n C dX8_carries_66 rfl ?_
    refine g_getr (j := 149) C F8 (by rw [hw]; decide) rfl (by decide) 25 (by decide) rfl (hts (.fieldLink RX8 58 "FallBenchModel" "value" "[I") (by decide +kernel)) rfl (hR (25, 149) (by decide)) dX8_carries_67 ?_
    refine g_iload C dX8_carries_70 rfl ?_
    refine g_aload_n C dX8_carries_72 rfl ?_
    refine g_getr (j := 149) C F8 (by rw [hw]; decide) rfl (by decide) 25 (by decide) rfl (hts (.fieldLink RX8 58 "FallBenchModel" "value" "[I") (by decide +kernel)) rfl (hR (25, 149) (by decide)) dX8_carries_73 ?_
    refine g_iload C dX8_carries_76 rfl ?_
    refine g_iald C (by rw [hw]; decide) rfl (pl_in (h6 c3)) rfl dX8_carries_78 ?_
    refine g_iast C (by rw [hw]; decide) rfl hr dX8_carries_79 ?_
    refine g_aload_n C dX8_carries_80 rfl ?_
    refine g_getr (j := 150) C F8 (by rw [hw]; decide) rfl (by decide) 26 (by decide) rfl (hts (.fieldLink RX8 61 "FallBenchModel" "maker" "[I") (by decide +kernel)) rfl (hR (26, 150) (by decide)) dX8_carries_81 ?_
    refine g_iload C dX8_carries_84 rfl ?_
    refine g_aload_n C dX8_carries_86 rfl ?_
    refine g_getr (j := 150) C F8 (by rw [hw]; decide) rfl (by decide) 26 (by decide) rfl (hts (.fieldLink RX8 61 "FallBenchModel" "maker" "[I") (by decide +kernel)) rfl (hR (26, 150) (by decide)) dX8_carries_87 ?_
    refine g_iload C dX8_carries_90 rfl ?_
    refine g_iald (v := M 150 (8 + M 149 s.toNatClampNeg).toNatClampNeg) C (by rw [hw]; decide) rfl (pl_in (h6 c3)) (up2_n1 _ _ (by decide)) dX8_carries_92 ?_
    refine g_iast C (by rw [hw]; decide) rfl hr dX8_carries_93 ?_
    refine g_aload_n C dX8_carries_94 rfl ?_
    refine g_getr (j := 151) C F8 (by rw [hw]; decide) rfl (by decide) 27 (by decide) rfl (hts (.fieldLink RX8 64 "FallBenchModel" "came" "[I") (by decide +kernel)) rfl (hR (27, 151) (by decide)) dX8_carries_95 ?_
    refine g_iload C dX8_carries_98 rfl ?_
    refine g_aload_n C dX8_carries_100 rfl ?_
    refine g_getr (j := 151) C F8 (by rw [hw]; decide) rfl (by decide) 27 (by decide) rfl (hts (.fieldLink RX8 64 "FallBenchModel" "came" "[I") (by decide +kernel)) rfl (hR (27, 151) (by decide)) dX8_carries_101 ?_
    refine g_iload C dX8_carries_104 rfl ?_
    refine g_iald (v := M 151 (8 + M 149 s.toNatClampNeg).toNatClampNeg) C (by rw [hw]; decide) rfl (pl_in (h6 c3)) (by rw [up2_n1 _ _ (by decide), up2_n1 _ _ (by decide)]) dX8_carries_106 ?_
    refine g_iload C dX8_carries_107 rfl ?_
    refine g_ior C dX8_carries_109 ?_
    refine g_iast C (by rw [hw]; decide) rfl hr dX8_carries_110 ?_
    exact g_vret C Rr ⟨rfl, ⟨rfl, by simp only [n_carries, n_carry, if_pos c3]⟩⟩ dX8_carries_111

set_option maxHeartbeats 4000000 in
set_option maxRecDepth 100000 in
theorem c_X8_goes {l : Launch} {D : va_G} {w : gw} {M : Nat → Nat → Int32} {J : Nat → Nat → Int64} {R : Nat → Nat → Option Nat} (hw : w.1 = 166) (hR : LayM R) {k r s n : Int32} (hr : ¬ k = 10 → ¬ k = 13 → vp_in r 40) (hs : k = 8 ∨ k = 9 → vp_in s 40) (h4 : ¬ M 134 36 < 0) : Cf l yX8_goes wsX8_goes ({ frames := 0, cells := 0, slots := 0, locals := 0 } : Room) D w [.ref (w.2.1 134), .int k, .int r, .int s, .int n] M J R none (n_goes M k r s n) J R := by
  refine Cg.of (own := RX8) (cc := cX8_goes) (maxL := 5) (ret := none) 0 (by decide) rfl rfl (Nat.le_of_ble_eq_true rfl) (fun X C hts V Rr => ?_)
  have F8 : FW X 8 := fun q h => hts q (List.mem_cons_of_mem _ (List.mem_append_right _ h))
  show Gj X 0 0 w M J R 0 [some (.ref (w.2.1 134)), some (.int k), some (.int r), some (.int s), some (.int n)] []
  refine g_iload_n C dX8_goes_0 rfl ?_
  by_cases s1_8 : k = 8
  · refine g_tableIn (tgt := 36) C dX8_goes_1 (by rw [s1_8]; decide) (by rw [s1_8]; decide) (by rw [s1_8]; rfl) (by decide) ?_
    refine g_aload_n C dX8_goes_36 rfl ?_
    refine g_getr (j := 149) C F8 (by rw [hw]; decide) rfl (by decide) 25 (by decide) rfl (hts (.fieldLink RX8 58 "FallBenchModel" "value" "[I") (by decide +kernel)) rfl (hR (25, 149) (by decide)) dX8_goes_37 ?_
    refine g_iload_n C dX8_goes_40 rfl ?_
    refine g_iald C (by rw [hw]; decide) rfl (hr (by rw [s1_8]; decide) (by rw [s1_8]; decide)) rfl dX8_goes_41 ?_
    refine g_aload_n C dX8_goes_42 rfl ?_
    refine g_getr (j := 149) C F8 (by rw [hw]; decide) rfl (by decide) 25 (by decide) rfl (hts (.fieldLink RX8 58 "FallBenchModel" "value" "[I") (by decide +kernel)) rfl (hR (25, 149) (by decide)) dX8_goes_43 ?_
    refine g_iload_n C dX8_goes_46 rfl ?_
    refine g_iald C (by rw [hw]; decide) rfl (hs (Or.inl s1_8)) rfl dX8_goes_47 ?_
    refine g_icmp_ge (tgt := 148) C dX8_goes_48 (by decide) (fun c48 => ?_) (fun c48 => ?_)
    · exact g_vret C Rr ⟨rfl, ⟨rfl, by simp only [n_goes, if_pos s1_8, if_pos c48]⟩⟩ dX8_goes_148
    · refine g_aload_n C dX8_goes_51 rfl ?_
      refine g_iload C dX8_goes_52 rfl ?_
      refine g_puti C F8 (by rw [hw]; decide) rfl (by decide) 38 (by decide) rfl (hts (.fieldLink RX8 258 "FallBenchModel" "place" "I") (by decide +kernel)) rfl rfl rfl rfl dX8_goes_54 ?_
      refine g_goto (tgt := 148) C dX8_goes_57 (by decide) ?_
      exact g_vret C Rr ⟨rfl, ⟨rfl, by simp only [n_goes, if_pos s1_8, if_neg c48]⟩⟩ dX8_goes_148
  by_cases s1_9 : k = 9
  · refine g_tableIn (tgt := 60) C dX8_goes_1 (by rw [s1_9]; decide) (by rw [s1_9]; decide) (by rw [s1_9]; rfl) (by decide) ?_
    refine g_aload_n C dX8_goes_60 rfl ?_
    refine g_getr (j := 149) C F8 (by rw [hw]; decide) rfl (by decide) 25 (by decide) rfl (hts (.fieldLink RX8 58 "FallBenchModel" "value" "[I") (by decide +kernel)) rfl (hR (25, 149) (by decide)) dX8_goes_61 ?_
    refine g_iload_n C dX8_goes_64 rfl ?_
    refine g_iald C (by rw [hw]; decide) rfl (hr (by rw [s1_9]; decide) (by rw [s1_9]; decide)) rfl dX8_goes_65 ?_
    refine g_aload_n C dX8_goes_66 rfl ?_
    refine g_getr (j := 149) C F8 (by rw [hw]; decide) rfl (by decide) 25 (by decide) rfl (hts (.fieldLink RX8 58 "FallBenchModel" "value" "[I") (by decide +kernel)) rfl (hR (25, 149) (by decide)) dX8_goes_67 ?_
    refine g_iload_n C dX8_goes_70 rfl ?_
    refine g_iald C (by rw [hw]; decide) rfl (hs (Or.inr s1_9)) rfl dX8_goes_71 ?_
    refine g_icmp_ne (tgt := 148) C dX8_goes_72 (by decide) (fun c72 => ?_) (fun c72 => ?_)
    · exact g_vret C Rr ⟨rfl, ⟨rfl, by simp only [n_goes, if_neg s1_8, if_pos s1_9, if_neg c72]⟩⟩ dX8_goes_148
    · refine g_aload_n C dX8_goes_75 rfl ?_
      refine g_iload C dX8_goes_76 rfl ?_
      refine g_puti C F8 (by rw [hw]; decide) rfl (by decide) 38 (by decide) rfl (hts (.fieldLink RX8 258 "FallBenchModel" "place" "I") (by decide +kernel)) rfl rfl rfl rfl dX8_goes_78 ?_
      refine g_goto (tgt := 148) C dX8_goes_81 (by decide) ?_
      exact g_vret C Rr ⟨rfl, ⟨rfl, by simp only [n_goes, if_neg s1_8, if_pos s1_9, if_pos c72]⟩⟩ dX8_goes_148
  by_cases s1_10 : k = 10
  · refine g_tableIn (tgt := 84) C dX8_goes_1 (by rw [s1_10]; decide) (by rw [s1_10]; decide) (by rw [s1_10]; rfl) (by decide) ?_
    refine g_aload_n C dX8_goes_84 rfl ?_
    refine g_iload C dX8_goes_85 rfl ?_
    refine g_puti C F8 (by rw [hw]; decide) rfl (by decide) 38 (by decide) rfl (hts (.fieldLink RX8 258 "FallBenchModel" "place" "I") (by decide +kernel)) rfl rfl rfl rfl dX8_goes_87 ?_
    refine g_goto (tgt := 148) C dX8_goes_90 (by decide) ?_
    exact g_vret C Rr ⟨rfl, ⟨rfl, by simp only [n_goes, if_neg s1_8, if_neg s1_9, if_pos s1_10]⟩⟩ dX8_goes_148
  by_cases s1_11 : k = 11
  · refine g_tableIn (tgt := 93) C dX8_goes_1 (by rw [s1_11]; decide) (by rw [s1_11]; decide) (by rw [s1_11]; rfl) (by decide) ?_
    refine g_aload_n C dX8_goes_93 rfl ?_
    refine g_aload_n C dX8_goes_94 rfl ?_
    refine g_getr (j := 149) C F8 (by rw [hw]; decide) rfl (by decide) 25 (by decide) rfl (hts (.fieldLink RX8 58 "FallBenchModel" "value" "[I") (by decide +kernel)) rfl (hR (25, 149) (by decide)) dX8_goes_95 ?_
    refine g_iload_n C dX8_goes_98 rfl ?_
    refine g_iald C (by rw [hw]; decide) rfl (hr (by rw [s1_11]; decide) (by rw [s1_11]; decide)) rfl dX8_goes_99 ?_
    refine g_puti C F8 (by rw [hw]; decide) rfl (by decide) 38 (by decide) rfl (hts (.fieldLink RX8 258 "FallBenchModel" "place" "I") (by decide +kernel)) rfl rfl rfl rfl dX8_goes_100 ?_
    refine g_goto (tgt := 148) C dX8_goes_103 (by decide) ?_
    exact g_vret C Rr ⟨rfl, ⟨rfl, by simp only [n_goes, if_neg s1_8, if_neg s1_9, if_neg s1_10, if_pos s1_11]⟩⟩ dX8_goes_148
  by_cases s1_12 : k = 12
  · refine g_tableIn (tgt := 106) C dX8_goes_1 (by rw [s1_12]; decide) (by rw [s1_12]; decide) (by rw [s1_12]; rfl) (by decide) ?_
    refine g_aload_n C dX8_goes_106 rfl ?_
    refine g_geti C F8 (by rw [hw]; decide) rfl (by decide) 36 (by decide) rfl (hts (.fieldLink RX8 252 "FallBenchModel" "outMany" "I") (by decide +kernel)) rfl rfl dX8_goes_107 ?_
    refine g_bipush (v := 40) C dX8_goes_110 (by decide) ?_
    refine g_icmp_ge (tgt := 130) C dX8_goes_112 (by decide) (fun c112 => ?_) (fun c112 => ?_)
    · refine g_aload_n C dX8_goes_130 rfl ?_
      refine g_dup C dX8_goes_131 rfl ?_
      refine g_geti (v := M 134 36) C F8 (by rw [hw]; decide) rfl (by decide) 36 (by decide) rfl (hts (.fieldLink RX8 252 "FallBenchModel" "outMany" "I") (by decide +kernel)) rfl rfl dX8_goes_132 ?_
      refine g_iconst (v := 1) C dX8_goes_135 (by decide) ?_
      refine g_iadd C dX8_goes_136 ?_
      refine g_puti C F8 (by rw [hw]; decide) rfl (by decide) 36 (by decide) rfl (hts (.fieldLink RX8 252 "FallBenchModel" "outMany" "I") (by decide +kernel)) rfl rfl rfl rfl dX8_goes_137 ?_
      refine g_goto (tgt := 148) C dX8_goes_140 (by decide) ?_
      exact g_vret C Rr ⟨rfl, ⟨rfl, by simp only [n_goes, if_neg s1_8, if_neg s1_9, if_neg s1_10, if_neg s1_11, if_pos s1_12, if_pos c112]⟩⟩ dX8_goes_148
    · refine g_aload_n C dX8_goes_115 rfl ?_
      refine g_getr (j := 152) C F8 (by rw [hw]; decide) rfl (by decide) 28 (by decide) rfl (hts (.fieldLink RX8 67 "FallBenchModel" "outs" "[I") (by decide +kernel)) rfl (hR (28, 152) (by decide)) dX8_goes_116 ?_
      refine g_aload_n C dX8_goes_119 rfl ?_
      refine g_geti C F8 (by rw [hw]; decide) rfl (by decide) 36 (by decide) rfl (hts (.fieldLink RX8 252 "FallBenchModel" "outMany" "I") (by decide +kernel)) rfl rfl dX8_goes_120 ?_
      refine g_aload_n C dX8_goes_123 rfl ?_
      refine g_getr (j := 149) C F8 (by rw [hw]; decide) rfl (by decide) 25 (by decide) rfl (hts (.fieldLink RX8 58 "FallBenchModel" "value" "[I") (by decide +kernel)) rfl (hR (25, 149) (by decide)) dX8_goes_124 ?_
      refine g_iload_n C dX8_goes_127 rfl ?_
      refine g_iald C (by rw [hw]; decide) rfl (hr (by rw [s1_12]; decide) (by rw [s1_12]; decide)) rfl dX8_goes_128 ?_
      refine g_iast C (by rw [hw]; decide) rfl (inOf (n := 40) (by decide) h4 c112) dX8_goes_129 ?_
      refine g_aload_n C dX8_goes_130 rfl ?_
      refine g_dup C dX8_goes_131 rfl ?_
      refine g_geti (v := M 134 36) C F8 (by rw [hw]; decide) rfl (by decide) 36 (by decide) rfl (hts (.fieldLink RX8 252 "FallBenchModel" "outMany" "I") (by decide +kernel)) rfl (up2_n1 _ _ (by decide)) dX8_goes_132 ?_
      refine g_iconst (v := 1) C dX8_goes_135 (by decide) ?_
      refine g_iadd C dX8_goes_136 ?_
      refine g_puti C F8 (by rw [hw]; decide) rfl (by decide) 36 (by decide) rfl (hts (.fieldLink RX8 252 "FallBenchModel" "outMany" "I") (by decide +kernel)) rfl rfl rfl rfl dX8_goes_137 ?_
      refine g_goto (tgt := 148) C dX8_goes_140 (by decide) ?_
      exact g_vret C Rr ⟨rfl, ⟨rfl, by simp only [n_goes, if_neg s1_8, if_neg s1_9, if_neg s1_10, if_neg s1_11, if_pos s1_12, if_neg c112]⟩⟩ dX8_goes_148
  refine g_tableOut (tgt := 143) C dX8_goes_1 (by have e8 := lv_neT s1_8 (a := 8) (by decide); have e9 := lv_neT s1_9 (a := 9) (by decide); have e10 := lv_neT s1_10 (a := 10) (by decide); have e11 := lv_neT s1_11 (a := 11) (by decide); have e12 := lv_neT s1_12 (a := 12) (by decide); omega) (by decide) ?_
  refine g_aload_n C dX8_goes_143 rfl ?_
  refine g_iconst (v := 0) C dX8_goes_144 (by decide) ?_
  refine g_puti C F8 (by rw [hw]; decide) rfl (by decide) 30 (by decide) rfl (hts (.fieldLink RX8 234 "FallBenchModel" "ended" "I") (by decide +kernel)) rfl rfl rfl rfl dX8_goes_145 ?_
  exact g_vret C Rr ⟨rfl, ⟨rfl, by simp only [n_goes, if_neg s1_8, if_neg s1_9, if_neg s1_10, if_neg s1_11, if_neg s1_12]⟩⟩ dX8_goes_148

theorem n_fall_30 (M : Nat → Nat → Int32) (how x : Int32) : n_fall M how x 134 30 = how := by
  unfold n_fall
  rw [up2_n2 _ _ (by decide), up2_n2 _ _ (by decide), up2_n2 _ _ (by decide), up2_n2 _ _ (by decide), up2_eq]
theorem le_of_nlt {x y : Int32} (h : ¬ x < y) : y ≤ x := by
  rw [Int32.lt_iff_toInt_lt] at h; rw [Int32.le_iff_toInt_le]; omega
theorem lt_of_nle {x y : Int32} (h : ¬ x ≤ y) : y < x := by
  rw [Int32.le_iff_toInt_le] at h; rw [Int32.lt_iff_toInt_lt]; omega
/-- the act's kind is one of fourteen -/
theorem kd_le5 {k : Int32} (h : ¬ 5 < k) : k ≠ 10 ∧ k ≠ 13 := ⟨fun e => h (by rw [e]; decide), fun e => h (by rw [e]; decide)⟩
theorem kd_mk {k : Int32} (h0 : ¬ k < 0) (h : ¬ 5 < k) (h1 : ¬ k = 0) (h2 : ¬ k = 1) : 2 ≤ k ∧ k ≤ 9 := by
  obtain ⟨j, hj, rfl⟩ := nI_of h0
  have a : j ≤ 5 := by
    rcases Nat.lt_or_ge 5 j with e | e
    · exact absurd (nI_lt (a := 5) e hj) h
    · exact e
  have b : j ≠ 0 := fun e => h1 (by rw [e]; rfl)
  have c : j ≠ 1 := fun e => h2 (by rw [e]; rfl)
  exact ⟨nI_le (a := 2) (by omega) hj, nI_le (b := 9) (by omega) (by decide)⟩
theorem kd_ca {k : Int32} (h : 5 < k) (h7 : ¬ 7 < k) : k = 6 ∨ k = 7 := by
  have h0 : ¬ k < 0 := fun e => by
    rw [Int32.lt_iff_toInt_lt] at e h
    have : (0 : Int32).toInt = 0 := by decide
    have : (5 : Int32).toInt = 5 := by decide
    omega
  obtain ⟨j, hj, rfl⟩ := nI_of h0
  have a : 5 < j := (nI_ltI (a := 5) (by decide) hj).mp h
  have b : j ≤ 7 := by
    rcases Nat.lt_or_ge 7 j with e | e
    · exact absurd (nI_lt (a := 7) e hj) h7
    · exact e
  rcases (show j = 6 ∨ j = 7 by omega) with rfl | rfl
  · exact Or.inl rfl
  · exact Or.inr rfl

set_option maxHeartbeats 4000000 in
set_option maxRecDepth 100000 in
theorem c_X8_step {l : Launch} {D : va_G} {w : gw} {M : Nat → Nat → Int32} {J : Nat → Nat → Int64} {R : Nat → Nat → Option Nat} (hw : w.1 = 166) (hR : LayM R) {a acts : Int32} (ha : vp_in a 320) (hok : okA (M 137 a.toNatClampNeg) (M 138 a.toNatClampNeg) (M 139 a.toNatClampNeg)) (hk0 : ¬ (M 137 a.toNatClampNeg) < 0) (h4 : ¬ M 134 36 < 0) (hE : M 134 30 = -1) (hb : ¬ M 134 29 ≤ M 134 37 → vp_in (M 134 37) 24) : Cf l yX8_step wsX8_step ({ frames := 1, cells := 0, slots := 0, locals := 27 } : Room) D w [.ref (w.2.1 134), .int a, .int acts] M J R none (n_step M (M 137 a.toNatClampNeg) (M 138 a.toNatClampNeg) (M 139 a.toNatClampNeg) (M 140 a.toNatClampNeg) acts) J R := by
  refine Cg.of (own := RX8) (cc := cX8_step) (maxL := 7) (ret := none) 4 (by decide) rfl rfl (Nat.le_of_ble_eq_true rfl) (fun X C hts V Rr => ?_)
  have F8 : FW X 8 := fun q h => hts q (List.mem_cons_of_mem _ (List.mem_append_right _ h))
  show Gj X 0 0 w M J R 0 [some (.ref (w.2.1 134)), some (.int a), some (.int acts), none, none, none, none] []
  refine g_aload_n C dX8_step_0 rfl ?_
  refine g_getr (j := 137) C F8 (by rw [hw]; decide) rfl (by decide) 11 (by decide) rfl (hts (.fieldLink RX8 20 "FallBenchModel" "aWhat" "[I") (by decide +kernel)) rfl (hR (11, 137) (by decide)) dX8_step_1 ?_
  refine g_iload_n C dX8_step_4 rfl ?_
  refine g_iald C (by rw [hw]; decide) rfl ha rfl dX8_step_5 ?_
  refine g_istore_n C V.2.1 dX8_step_6 (by decide) rfl ?_
  refine g_aload_n C dX8_step_7 rfl ?_
  refine g_getr (j := 138) C F8 (by rw [hw]; decide) rfl (by decide) 12 (by decide) rfl (hts (.fieldLink RX8 24 "FallBenchModel" "aOne" "[I") (by decide +kernel)) rfl (hR (12, 138) (by decide)) dX8_step_8 ?_
  refine g_iload_n C dX8_step_11 rfl ?_
  refine g_iald C (by rw [hw]; decide) rfl ha rfl dX8_step_12 ?_
  refine g_istore C V.2.1 dX8_step_13 (by decide) rfl ?_
  refine g_aload_n C dX8_step_15 rfl ?_
  refine g_getr (j := 139) C F8 (by rw [hw]; decide) rfl (by decide) 13 (by decide) rfl (hts (.fieldLink RX8 27 "FallBenchModel" "aTwo" "[I") (by decide +kernel)) rfl (hR (13, 139) (by decide)) dX8_step_16 ?_
  refine g_iload_n C dX8_step_19 rfl ?_
  refine g_iald C (by rw [hw]; decide) rfl ha rfl dX8_step_20 ?_
  refine g_istore C V.2.1 dX8_step_21 (by decide) rfl ?_
  refine g_aload_n C dX8_step_23 rfl ?_
  refine g_geti C F8 (by rw [hw]; decide) rfl (by decide) 35 (by decide) rfl (hts (.fieldLink RX8 249 "FallBenchModel" "steps" "I") (by decide +kernel)) rfl rfl dX8_step_24 ?_
  refine g_sipush (v := 1000) C dX8_step_27 (by decide) ?_
  refine g_icmp_ne (tgt := 41) C dX8_step_30 (by decide) (fun c30 => ?_) (fun c30 => ?_)
  · refine g_iload_n C dX8_step_41 rfl ?_
    refine g_bipush (v := 6) C dX8_step_42 (by decide) ?_
    refine g_icmp_ne (tgt := 70) C dX8_step_44 (by decide) (fun c44 => ?_) (fun c44 => ?_)
    · refine g_iload_n C dX8_step_70 rfl ?_
      refine g_bipush (v := 7) C dX8_step_71 (by decide) ?_
      refine g_icmp_ne (tgt := 99) C dX8_step_73 (by decide) (fun c73 => ?_) (fun c73 => ?_)
      · refine g_iload_n C dX8_step_99 rfl ?_
        refine g_bipush (v := 11) C dX8_step_100 (by decide) ?_
        refine g_icmp_ne (tgt := 133) C dX8_step_102 (by decide) (fun c102 => ?_) (fun c102 => ?_)
        · refine g_aload_n C dX8_step_133 rfl ?_
          refine g_geti (v := (-1)) C F8 (by rw [hw]; decide) rfl (by decide) 30 (by decide) rfl (hts (.fieldLink RX8 234 "FallBenchModel" "ended" "I") (by decide +kernel)) rfl hE dX8_step_134 ?_
          refine g_if_lt (tgt := 141) C dX8_step_137 (by decide) (fun c137 => ?_) (fun c137 => absurd c137 (by decide))
          refine g_aload_n C dX8_step_141 rfl ?_
          refine g_dup C dX8_step_142 rfl ?_
          refine g_geti C F8 (by rw [hw]; decide) rfl (by decide) 35 (by decide) rfl (hts (.fieldLink RX8 249 "FallBenchModel" "steps" "I") (by decide +kernel)) rfl rfl dX8_step_143 ?_
          refine g_iconst (v := 1) C dX8_step_146 (by decide) ?_
          refine g_iadd C dX8_step_147 ?_
          refine g_puti C F8 (by rw [hw]; decide) rfl (by decide) 35 (by decide) rfl (hts (.fieldLink RX8 249 "FallBenchModel" "steps" "I") (by decide +kernel)) rfl rfl rfl rfl dX8_step_148 ?_
          refine g_aload_n C dX8_step_151 rfl ?_
          refine g_geti (v := M 134 38) C F8 (by rw [hw]; decide) rfl (by decide) 38 (by decide) rfl (hts (.fieldLink RX8 258 "FallBenchModel" "place" "I") (by decide +kernel)) rfl (up2_n2 _ _ (by decide)) dX8_step_152 ?_
          refine g_istore C V.2.1 dX8_step_155 (by decide) rfl ?_
          refine g_aload_n C dX8_step_157 rfl ?_
          refine g_dup C dX8_step_158 rfl ?_
          refine g_geti (v := M 134 38) C F8 (by rw [hw]; decide) rfl (by decide) 38 (by decide) rfl (hts (.fieldLink RX8 258 "FallBenchModel" "place" "I") (by decide +kernel)) rfl (up2_n2 _ _ (by decide)) dX8_step_159 ?_
          refine g_iconst (v := 1) C dX8_step_162 (by decide) ?_
          refine g_iadd C dX8_step_163 ?_
          refine g_puti C F8 (by rw [hw]; decide) rfl (by decide) 38 (by decide) rfl (hts (.fieldLink RX8 258 "FallBenchModel" "place" "I") (by decide +kernel)) rfl rfl rfl rfl dX8_step_164 ?_
          refine g_iload_n C dX8_step_167 rfl ?_
          refine g_iconst (v := 5) C dX8_step_168 (by decide) ?_
          refine g_icmp_gt (tgt := 192) C dX8_step_169 (by decide) (fun c169 => ?_) (fun c169 => ?_)
          · refine g_iload_n C dX8_step_192 rfl ?_
            refine g_bipush (v := 7) C dX8_step_193 (by decide) ?_
            refine g_icmp_gt (tgt := 210) C dX8_step_195 (by decide) (fun c195 => ?_) (fun c195 => absurd c195 (not_not_intro (by rcases Classical.em (7 < (M 137 a.toNatClampNeg)) with z | z; exact z; rcases kd_ca c169 z with y | y; exact absurd y c44; exact absurd y c73)))
            refine g_aload_n C dX8_step_210 rfl ?_
            refine g_iload_n C dX8_step_211 rfl ?_
            refine g_iload C dX8_step_212 rfl ?_
            refine g_iload C dX8_step_214 rfl ?_
            refine g_aload_n C dX8_step_216 rfl ?_
            refine g_getr (j := 140) C F8 (by rw [hw]; decide) rfl (by decide) 14 (by decide) rfl (hts (.fieldLink RX8 30 "FallBenchModel" "aN" "[I") (by decide +kernel)) rfl (hR (14, 140) (by decide)) dX8_step_217 ?_
            refine g_iload_n C dX8_step_220 rfl ?_
            refine g_iald (v := M 140 a.toNatClampNeg) C (by rw [hw]; decide) rfl ha (by rw [up2_n1 _ _ (by decide), up2_n1 _ _ (by decide)]) dX8_step_221 ?_
            refine g_callVf C hts V (i := 134) (gX8_step_X8_goes) rfl hdX8_goes (by decide) (c_X8_goes hw hR (fun h1 h2 => in40 (hok.1 h1 h2)) (fun z => in40 (hok.2 (by rcases z with z | z <;> rw [z] <;> decide))) h4) (by rw [hw]; decide) rfl (by decide) rfl rfl (Nat.le_of_ble_eq_true rfl) dX8_step_222 ?_
            exact g_vret C Rr ⟨rfl, ⟨rfl, by simp only [n_step, n_go, if_neg c30, if_neg c44, if_neg c73, if_neg c102, if_pos c169, if_pos c195]⟩⟩ dX8_step_225
          · refine g_aload_n C dX8_step_172 rfl ?_
            refine g_iload_n C dX8_step_173 rfl ?_
            refine g_iload C dX8_step_174 rfl ?_
            refine g_iload C dX8_step_176 rfl ?_
            refine g_aload_n C dX8_step_178 rfl ?_
            refine g_getr (j := 140) C F8 (by rw [hw]; decide) rfl (by decide) 14 (by decide) rfl (hts (.fieldLink RX8 30 "FallBenchModel" "aN" "[I") (by decide +kernel)) rfl (hR (14, 140) (by decide)) dX8_step_179 ?_
            refine g_iload_n C dX8_step_182 rfl ?_
            refine g_iald (v := M 140 a.toNatClampNeg) C (by rw [hw]; decide) rfl ha (by rw [up2_n1 _ _ (by decide), up2_n1 _ _ (by decide)]) dX8_step_183 ?_
            refine g_iload C dX8_step_184 rfl ?_
            refine g_callVf C hts V (i := 134) (gX8_step_X8_makes) rfl hdX8_makes (by decide) (c_X8_makes hw hR (in40 (hok.1 (kd_le5 c169).1 (kd_le5 c169).2)) (fun z => in40 (hok.2 (by rcases z with z | z; rw [z]; decide; exact kd_mk hk0 c169 z.1 z.2.1))) hb) (by rw [hw]; decide) rfl (by decide) rfl rfl (Nat.le_of_ble_eq_true rfl) dX8_step_186 ?_
            refine g_goto (tgt := 225) C dX8_step_189 (by decide) ?_
            exact g_vret C Rr ⟨rfl, ⟨rfl, by simp only [n_step, n_go, if_neg c30, if_neg c44, if_neg c73, if_neg c102, if_neg c169]⟩⟩ dX8_step_225
        · refine g_aload_n C dX8_step_105 rfl ?_
          refine g_getr (j := 149) C F8 (by rw [hw]; decide) rfl (by decide) 25 (by decide) rfl (hts (.fieldLink RX8 58 "FallBenchModel" "value" "[I") (by decide +kernel)) rfl (hR (25, 149) (by decide)) dX8_step_106 ?_
          refine g_iload C dX8_step_109 rfl ?_
          refine g_iald C (by rw [hw]; decide) rfl (in40 (hok.1 (by rw [c102]; decide) (by rw [c102]; decide))) rfl dX8_step_111 ?_
          refine g_if_lt (tgt := 126) C dX8_step_112 (by decide) (fun c112 => ?_) (fun c112 => ?_)
          · refine g_aload_n C dX8_step_126 rfl ?_
            refine g_iconst (v := 3) C dX8_step_127 (by decide) ?_
            refine g_iload C dX8_step_128 rfl ?_
            refine g_callVf C hts V (i := 134) (gX8_step_X8_falls) rfl hdX8_falls (by decide) (c_X8_falls hw hR (in40 (hok.1 (by rw [c102]; decide) (by rw [c102]; decide)))) (by rw [hw]; decide) rfl (by decide) rfl rfl (Nat.le_of_ble_eq_true rfl) dX8_step_130 ?_
            refine g_aload_n C dX8_step_133 rfl ?_
            refine g_geti (v := 3) C F8 (by rw [hw]; decide) rfl (by decide) 30 (by decide) rfl (hts (.fieldLink RX8 234 "FallBenchModel" "ended" "I") (by decide +kernel)) rfl (n_fall_30 _ _ _) dX8_step_134 ?_
            refine g_if_lt (tgt := 141) C dX8_step_137 (by decide) (fun c137 => absurd c137 (by decide)) (fun c137 => ?_)
            exact g_vret C Rr ⟨rfl, ⟨rfl, by simp only [n_step, n_go, if_neg c30, if_neg c44, if_neg c73, if_pos c102, if_pos c112]⟩⟩ dX8_step_140
          · refine g_aload_n C dX8_step_115 rfl ?_
            refine g_getr (j := 149) C F8 (by rw [hw]; decide) rfl (by decide) 25 (by decide) rfl (hts (.fieldLink RX8 58 "FallBenchModel" "value" "[I") (by decide +kernel)) rfl (hR (25, 149) (by decide)) dX8_step_116 ?_
            refine g_iload C dX8_step_119 rfl ?_
            refine g_iald C (by rw [hw]; decide) rfl (in40 (hok.1 (by rw [c102]; decide) (by rw [c102]; decide))) rfl dX8_step_121 ?_
            refine g_iload_n C dX8_step_122 rfl ?_
            refine g_icmp_lt (tgt := 133) C dX8_step_123 (by decide) (fun c123 => ?_) (fun c123 => ?_)
            · refine g_aload_n C dX8_step_133 rfl ?_
              refine g_geti (v := (-1)) C F8 (by rw [hw]; decide) rfl (by decide) 30 (by decide) rfl (hts (.fieldLink RX8 234 "FallBenchModel" "ended" "I") (by decide +kernel)) rfl hE dX8_step_134 ?_
              refine g_if_lt (tgt := 141) C dX8_step_137 (by decide) (fun c137 => ?_) (fun c137 => absurd c137 (by decide))
              refine g_aload_n C dX8_step_141 rfl ?_
              refine g_dup C dX8_step_142 rfl ?_
              refine g_geti C F8 (by rw [hw]; decide) rfl (by decide) 35 (by decide) rfl (hts (.fieldLink RX8 249 "FallBenchModel" "steps" "I") (by decide +kernel)) rfl rfl dX8_step_143 ?_
              refine g_iconst (v := 1) C dX8_step_146 (by decide) ?_
              refine g_iadd C dX8_step_147 ?_
              refine g_puti C F8 (by rw [hw]; decide) rfl (by decide) 35 (by decide) rfl (hts (.fieldLink RX8 249 "FallBenchModel" "steps" "I") (by decide +kernel)) rfl rfl rfl rfl dX8_step_148 ?_
              refine g_aload_n C dX8_step_151 rfl ?_
              refine g_geti (v := M 134 38) C F8 (by rw [hw]; decide) rfl (by decide) 38 (by decide) rfl (hts (.fieldLink RX8 258 "FallBenchModel" "place" "I") (by decide +kernel)) rfl (up2_n2 _ _ (by decide)) dX8_step_152 ?_
              refine g_istore C V.2.1 dX8_step_155 (by decide) rfl ?_
              refine g_aload_n C dX8_step_157 rfl ?_
              refine g_dup C dX8_step_158 rfl ?_
              refine g_geti (v := M 134 38) C F8 (by rw [hw]; decide) rfl (by decide) 38 (by decide) rfl (hts (.fieldLink RX8 258 "FallBenchModel" "place" "I") (by decide +kernel)) rfl (up2_n2 _ _ (by decide)) dX8_step_159 ?_
              refine g_iconst (v := 1) C dX8_step_162 (by decide) ?_
              refine g_iadd C dX8_step_163 ?_
              refine g_puti C F8 (by rw [hw]; decide) rfl (by decide) 38 (by decide) rfl (hts (.fieldLink RX8 258 "FallBenchModel" "place" "I") (by decide +kernel)) rfl rfl rfl rfl dX8_step_164 ?_
              refine g_iload_n C dX8_step_167 rfl ?_
              refine g_iconst (v := 5) C dX8_step_168 (by decide) ?_
              refine g_icmp_gt (tgt := 192) C dX8_step_169 (by decide) (fun c169 => ?_) (fun c169 => absurd c169 (not_not_intro (by rw [c102]; decide)))
              refine g_iload_n C dX8_step_192 rfl ?_
              refine g_bipush (v := 7) C dX8_step_193 (by decide) ?_
              refine g_icmp_gt (tgt := 210) C dX8_step_195 (by decide) (fun c195 => ?_) (fun c195 => absurd c195 (not_not_intro (by rw [c102]; decide)))
              refine g_aload_n C dX8_step_210 rfl ?_
              refine g_iload_n C dX8_step_211 rfl ?_
              refine g_iload C dX8_step_212 rfl ?_
              refine g_iload C dX8_step_214 rfl ?_
              refine g_aload_n C dX8_step_216 rfl ?_
              refine g_getr (j := 140) C F8 (by rw [hw]; decide) rfl (by decide) 14 (by decide) rfl (hts (.fieldLink RX8 30 "FallBenchModel" "aN" "[I") (by decide +kernel)) rfl (hR (14, 140) (by decide)) dX8_step_217 ?_
              refine g_iload_n C dX8_step_220 rfl ?_
              refine g_iald (v := M 140 a.toNatClampNeg) C (by rw [hw]; decide) rfl ha (by rw [up2_n1 _ _ (by decide), up2_n1 _ _ (by decide)]) dX8_step_221 ?_
              refine g_callVf C hts V (i := 134) (gX8_step_X8_goes) rfl hdX8_goes (by decide) (c_X8_goes hw hR (fun h1 h2 => in40 (hok.1 h1 h2)) (fun z => in40 (hok.2 (by rcases z with z | z <;> rw [z] <;> decide))) h4) (by rw [hw]; decide) rfl (by decide) rfl rfl (Nat.le_of_ble_eq_true rfl) dX8_step_222 ?_
              exact g_vret C Rr ⟨rfl, ⟨rfl, by simp only [n_step, n_go, if_neg c30, if_neg c44, if_neg c73, if_pos c102, if_neg c112, if_pos c123, if_pos c169, if_pos c195]⟩⟩ dX8_step_225
            · refine g_aload_n C dX8_step_126 rfl ?_
              refine g_iconst (v := 3) C dX8_step_127 (by decide) ?_
              refine g_iload C dX8_step_128 rfl ?_
              refine g_callVf C hts V (i := 134) (gX8_step_X8_falls) rfl hdX8_falls (by decide) (c_X8_falls hw hR (in40 (hok.1 (by rw [c102]; decide) (by rw [c102]; decide)))) (by rw [hw]; decide) rfl (by decide) rfl rfl (Nat.le_of_ble_eq_true rfl) dX8_step_130 ?_
              refine g_aload_n C dX8_step_133 rfl ?_
              refine g_geti (v := 3) C F8 (by rw [hw]; decide) rfl (by decide) 30 (by decide) rfl (hts (.fieldLink RX8 234 "FallBenchModel" "ended" "I") (by decide +kernel)) rfl (n_fall_30 _ _ _) dX8_step_134 ?_
              refine g_if_lt (tgt := 141) C dX8_step_137 (by decide) (fun c137 => absurd c137 (by decide)) (fun c137 => ?_)
              exact g_vret C Rr ⟨rfl, ⟨rfl, by simp only [n_step, n_go, if_neg c30, if_neg c44, if_neg c73, if_pos c102, if_neg c112, if_neg c123]⟩⟩ dX8_step_140
      · refine g_aload_n C dX8_step_76 rfl ?_
        refine g_getr (j := 149) C F8 (by rw [hw]; decide) rfl (by decide) 25 (by decide) rfl (hts (.fieldLink RX8 58 "FallBenchModel" "value" "[I") (by decide +kernel)) rfl (hR (25, 149) (by decide)) dX8_step_77 ?_
        refine g_iload C dX8_step_80 rfl ?_
        refine g_iald C (by rw [hw]; decide) rfl (in40 (hok.1 (by rw [c73]; decide) (by rw [c73]; decide))) rfl dX8_step_82 ?_
        refine g_callSf C hts V (gX8_step_X8_isPlace) rfl hdX8_isPlace (by decide) c_X8_isPlace rfl rfl (Nat.le_of_ble_eq_true rfl) dX8_step_83 ?_
        refine g_if_ne (tgt := 99) C dX8_step_86 (by decide) (fun c86 => ?_) (fun c86 => ?_)
        · refine g_iload_n C dX8_step_99 rfl ?_
          refine g_bipush (v := 11) C dX8_step_100 (by decide) ?_
          refine g_icmp_ne (tgt := 133) C dX8_step_102 (by decide) (fun c102 => ?_) (fun c102 => absurd c102 (by rw [c73]; decide))
          refine g_aload_n C dX8_step_133 rfl ?_
          refine g_geti (v := (-1)) C F8 (by rw [hw]; decide) rfl (by decide) 30 (by decide) rfl (hts (.fieldLink RX8 234 "FallBenchModel" "ended" "I") (by decide +kernel)) rfl hE dX8_step_134 ?_
          refine g_if_lt (tgt := 141) C dX8_step_137 (by decide) (fun c137 => ?_) (fun c137 => absurd c137 (by decide))
          refine g_aload_n C dX8_step_141 rfl ?_
          refine g_dup C dX8_step_142 rfl ?_
          refine g_geti C F8 (by rw [hw]; decide) rfl (by decide) 35 (by decide) rfl (hts (.fieldLink RX8 249 "FallBenchModel" "steps" "I") (by decide +kernel)) rfl rfl dX8_step_143 ?_
          refine g_iconst (v := 1) C dX8_step_146 (by decide) ?_
          refine g_iadd C dX8_step_147 ?_
          refine g_puti C F8 (by rw [hw]; decide) rfl (by decide) 35 (by decide) rfl (hts (.fieldLink RX8 249 "FallBenchModel" "steps" "I") (by decide +kernel)) rfl rfl rfl rfl dX8_step_148 ?_
          refine g_aload_n C dX8_step_151 rfl ?_
          refine g_geti (v := M 134 38) C F8 (by rw [hw]; decide) rfl (by decide) 38 (by decide) rfl (hts (.fieldLink RX8 258 "FallBenchModel" "place" "I") (by decide +kernel)) rfl (up2_n2 _ _ (by decide)) dX8_step_152 ?_
          refine g_istore C V.2.1 dX8_step_155 (by decide) rfl ?_
          refine g_aload_n C dX8_step_157 rfl ?_
          refine g_dup C dX8_step_158 rfl ?_
          refine g_geti (v := M 134 38) C F8 (by rw [hw]; decide) rfl (by decide) 38 (by decide) rfl (hts (.fieldLink RX8 258 "FallBenchModel" "place" "I") (by decide +kernel)) rfl (up2_n2 _ _ (by decide)) dX8_step_159 ?_
          refine g_iconst (v := 1) C dX8_step_162 (by decide) ?_
          refine g_iadd C dX8_step_163 ?_
          refine g_puti C F8 (by rw [hw]; decide) rfl (by decide) 38 (by decide) rfl (hts (.fieldLink RX8 258 "FallBenchModel" "place" "I") (by decide +kernel)) rfl rfl rfl rfl dX8_step_164 ?_
          refine g_iload_n C dX8_step_167 rfl ?_
          refine g_iconst (v := 5) C dX8_step_168 (by decide) ?_
          refine g_icmp_gt (tgt := 192) C dX8_step_169 (by decide) (fun c169 => ?_) (fun c169 => absurd c169 (not_not_intro (by rw [c73]; decide)))
          refine g_iload_n C dX8_step_192 rfl ?_
          refine g_bipush (v := 7) C dX8_step_193 (by decide) ?_
          refine g_icmp_gt (tgt := 210) C dX8_step_195 (by decide) (fun c195 => absurd c195 (by rw [c73]; decide)) (fun c195 => ?_)
          refine g_aload_n C dX8_step_198 rfl ?_
          refine g_iload_n C dX8_step_199 rfl ?_
          refine g_iload C dX8_step_200 rfl ?_
          refine g_iload C dX8_step_202 rfl ?_
          refine g_callVf C hts V (i := 134) (gX8_step_X8_carries) rfl hdX8_carries (by decide) (c_X8_carries hw hR (in40 (hok.1 (by rw [c73]; decide) (by rw [c73]; decide))) (in40 (hok.2 (by rw [c73]; decide))) (fun z => absurd (c73.symm.trans z) (by decide)) (fun _ => c86)) (by rw [hw]; decide) rfl (by decide) rfl rfl (Nat.le_of_ble_eq_true rfl) dX8_step_204 ?_
          refine g_goto (tgt := 225) C dX8_step_207 (by decide) ?_
          exact g_vret C Rr ⟨rfl, ⟨rfl, by simp only [n_step, n_go, if_neg c30, if_neg c44, if_pos c73, if_neg c86, if_neg c102, if_pos c169, if_neg c195]⟩⟩ dX8_step_225
        · refine g_aload_n C dX8_step_89 rfl ?_
          refine g_iconst (v := 2) C dX8_step_90 (by decide) ?_
          refine g_iload C dX8_step_91 rfl ?_
          refine g_callVf C hts V (i := 134) (gX8_step_X8_falls) rfl hdX8_falls (by decide) (c_X8_falls hw hR (in40 (hok.1 (by rw [c73]; decide) (by rw [c73]; decide)))) (by rw [hw]; decide) rfl (by decide) rfl rfl (Nat.le_of_ble_eq_true rfl) dX8_step_93 ?_
          refine g_goto (tgt := 133) C dX8_step_96 (by decide) ?_
          refine g_aload_n C dX8_step_133 rfl ?_
          refine g_geti (v := 2) C F8 (by rw [hw]; decide) rfl (by decide) 30 (by decide) rfl (hts (.fieldLink RX8 234 "FallBenchModel" "ended" "I") (by decide +kernel)) rfl (n_fall_30 _ _ _) dX8_step_134 ?_
          refine g_if_lt (tgt := 141) C dX8_step_137 (by decide) (fun c137 => absurd c137 (by decide)) (fun c137 => ?_)
          exact g_vret C Rr ⟨rfl, ⟨rfl, by simp only [n_step, n_go, if_neg c30, if_neg c44, if_pos c73, if_pos c86]⟩⟩ dX8_step_140
    · refine g_aload_n C dX8_step_47 rfl ?_
      refine g_getr (j := 149) C F8 (by rw [hw]; decide) rfl (by decide) 25 (by decide) rfl (hts (.fieldLink RX8 58 "FallBenchModel" "value" "[I") (by decide +kernel)) rfl (hR (25, 149) (by decide)) dX8_step_48 ?_
      refine g_iload C dX8_step_51 rfl ?_
      refine g_iald C (by rw [hw]; decide) rfl (in40 (hok.2 (by rw [c44]; decide))) rfl dX8_step_53 ?_
      refine g_callSf C hts V (gX8_step_X8_isPlace) rfl hdX8_isPlace (by decide) c_X8_isPlace rfl rfl (Nat.le_of_ble_eq_true rfl) dX8_step_54 ?_
      refine g_if_ne (tgt := 70) C dX8_step_57 (by decide) (fun c57 => ?_) (fun c57 => ?_)
      · refine g_iload_n C dX8_step_70 rfl ?_
        refine g_bipush (v := 7) C dX8_step_71 (by decide) ?_
        refine g_icmp_ne (tgt := 99) C dX8_step_73 (by decide) (fun c73 => ?_) (fun c73 => absurd c73 (by rw [c44]; decide))
        refine g_iload_n C dX8_step_99 rfl ?_
        refine g_bipush (v := 11) C dX8_step_100 (by decide) ?_
        refine g_icmp_ne (tgt := 133) C dX8_step_102 (by decide) (fun c102 => ?_) (fun c102 => absurd c102 (by rw [c44]; decide))
        refine g_aload_n C dX8_step_133 rfl ?_
        refine g_geti (v := (-1)) C F8 (by rw [hw]; decide) rfl (by decide) 30 (by decide) rfl (hts (.fieldLink RX8 234 "FallBenchModel" "ended" "I") (by decide +kernel)) rfl hE dX8_step_134 ?_
        refine g_if_lt (tgt := 141) C dX8_step_137 (by decide) (fun c137 => ?_) (fun c137 => absurd c137 (by decide))
        refine g_aload_n C dX8_step_141 rfl ?_
        refine g_dup C dX8_step_142 rfl ?_
        refine g_geti C F8 (by rw [hw]; decide) rfl (by decide) 35 (by decide) rfl (hts (.fieldLink RX8 249 "FallBenchModel" "steps" "I") (by decide +kernel)) rfl rfl dX8_step_143 ?_
        refine g_iconst (v := 1) C dX8_step_146 (by decide) ?_
        refine g_iadd C dX8_step_147 ?_
        refine g_puti C F8 (by rw [hw]; decide) rfl (by decide) 35 (by decide) rfl (hts (.fieldLink RX8 249 "FallBenchModel" "steps" "I") (by decide +kernel)) rfl rfl rfl rfl dX8_step_148 ?_
        refine g_aload_n C dX8_step_151 rfl ?_
        refine g_geti (v := M 134 38) C F8 (by rw [hw]; decide) rfl (by decide) 38 (by decide) rfl (hts (.fieldLink RX8 258 "FallBenchModel" "place" "I") (by decide +kernel)) rfl (up2_n2 _ _ (by decide)) dX8_step_152 ?_
        refine g_istore C V.2.1 dX8_step_155 (by decide) rfl ?_
        refine g_aload_n C dX8_step_157 rfl ?_
        refine g_dup C dX8_step_158 rfl ?_
        refine g_geti (v := M 134 38) C F8 (by rw [hw]; decide) rfl (by decide) 38 (by decide) rfl (hts (.fieldLink RX8 258 "FallBenchModel" "place" "I") (by decide +kernel)) rfl (up2_n2 _ _ (by decide)) dX8_step_159 ?_
        refine g_iconst (v := 1) C dX8_step_162 (by decide) ?_
        refine g_iadd C dX8_step_163 ?_
        refine g_puti C F8 (by rw [hw]; decide) rfl (by decide) 38 (by decide) rfl (hts (.fieldLink RX8 258 "FallBenchModel" "place" "I") (by decide +kernel)) rfl rfl rfl rfl dX8_step_164 ?_
        refine g_iload_n C dX8_step_167 rfl ?_
        refine g_iconst (v := 5) C dX8_step_168 (by decide) ?_
        refine g_icmp_gt (tgt := 192) C dX8_step_169 (by decide) (fun c169 => ?_) (fun c169 => absurd c169 (not_not_intro (by rw [c44]; decide)))
        refine g_iload_n C dX8_step_192 rfl ?_
        refine g_bipush (v := 7) C dX8_step_193 (by decide) ?_
        refine g_icmp_gt (tgt := 210) C dX8_step_195 (by decide) (fun c195 => absurd c195 (by rw [c44]; decide)) (fun c195 => ?_)
        refine g_aload_n C dX8_step_198 rfl ?_
        refine g_iload_n C dX8_step_199 rfl ?_
        refine g_iload C dX8_step_200 rfl ?_
        refine g_iload C dX8_step_202 rfl ?_
        refine g_callVf C hts V (i := 134) (gX8_step_X8_carries) rfl hdX8_carries (by decide) (c_X8_carries hw hR (in40 (hok.1 (by rw [c44]; decide) (by rw [c44]; decide))) (in40 (hok.2 (by rw [c44]; decide))) (fun _ => c57) (fun z => absurd c44 z)) (by rw [hw]; decide) rfl (by decide) rfl rfl (Nat.le_of_ble_eq_true rfl) dX8_step_204 ?_
        refine g_goto (tgt := 225) C dX8_step_207 (by decide) ?_
        exact g_vret C Rr ⟨rfl, ⟨rfl, by simp only [n_step, n_go, if_neg c30, if_pos c44, if_neg c57, if_neg c73, if_neg c102, if_pos c169, if_neg c195]⟩⟩ dX8_step_225
      · refine g_aload_n C dX8_step_60 rfl ?_
        refine g_iconst (v := 1) C dX8_step_61 (by decide) ?_
        refine g_iload C dX8_step_62 rfl ?_
        refine g_callVf C hts V (i := 134) (gX8_step_X8_falls) rfl hdX8_falls (by decide) (c_X8_falls hw hR (in40 (hok.2 (by rw [c44]; decide)))) (by rw [hw]; decide) rfl (by decide) rfl rfl (Nat.le_of_ble_eq_true rfl) dX8_step_64 ?_
        refine g_goto (tgt := 133) C dX8_step_67 (by decide) ?_
        refine g_aload_n C dX8_step_133 rfl ?_
        refine g_geti (v := 1) C F8 (by rw [hw]; decide) rfl (by decide) 30 (by decide) rfl (hts (.fieldLink RX8 234 "FallBenchModel" "ended" "I") (by decide +kernel)) rfl (n_fall_30 _ _ _) dX8_step_134 ?_
        refine g_if_lt (tgt := 141) C dX8_step_137 (by decide) (fun c137 => absurd c137 (by decide)) (fun c137 => ?_)
        exact g_vret C Rr ⟨rfl, ⟨rfl, by simp only [n_step, n_go, if_neg c30, if_pos c44, if_pos c57]⟩⟩ dX8_step_140
  · refine g_aload_n C dX8_step_33 rfl ?_
    refine g_iconst (v := 4) C dX8_step_34 (by decide) ?_
    refine g_puti C F8 (by rw [hw]; decide) rfl (by decide) 30 (by decide) rfl (hts (.fieldLink RX8 234 "FallBenchModel" "ended" "I") (by decide +kernel)) rfl rfl rfl rfl dX8_step_35 ?_
    refine g_goto (tgt := 133) C dX8_step_38 (by decide) ?_
    refine g_aload_n C dX8_step_133 rfl ?_
    refine g_geti (v := 4) C F8 (by rw [hw]; decide) rfl (by decide) 30 (by decide) rfl (hts (.fieldLink RX8 234 "FallBenchModel" "ended" "I") (by decide +kernel)) rfl (up2_eq _ _ _ _) dX8_step_134 ?_
    refine g_if_lt (tgt := 141) C dX8_step_137 (by decide) (fun c137 => absurd c137 (by decide)) (fun c137 => ?_)
    exact g_vret C Rr ⟨rfl, ⟨rfl, by simp only [n_step, n_go, if_pos c30]⟩⟩ dX8_step_140
