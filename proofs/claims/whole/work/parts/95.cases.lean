/-! THE LAW'S CASES -/
theorem gw_V {own : String} {idx : Nat} {C : String} {y : MethodName} {ws : List Cond} (h1 : Gw (.methodLink own idx y)) (h2 : Gw (.instanceMethod y)) (h3 : Gw (.selects C y y)) (h4 : Gw (.initialized C)) (h : GoodIn lw_tbl ws) : GoodIn lw_tbl (wsV own idx C y ws) := gw_cons h1 (gw_cons h2 (gw_cons h3 (gw_cons h4 h)))
abbrev lwL (w : gw) (q : Nat) (i : Int32) : List (Option Value) := [some (.ref q), some (.ref (w.2.1 0)), some (.ref (w.2.1 134)), some (.int i)]
def lwK (X : gX) (a b : Nat) (w : gw) (q : Nat) (i : Int32) : Prop := ∀ (M : Nat → Nat → Int32) (J : Nat → Nat → Int64) (R : Nat → Nat → Option Nat) (s : aSt), okSt s → repC M J R s → repM M J R s → Gj X a b w M J R 902 (lwL w q i) []
abbrev sc (xs : Nat → Int32) (i n : Int32) : Int32 := xs (i + n).toNatClampNeg
section LC0
variable {X : gX} {l : Launch} {D : va_G} {nm : String} {a b : Nat} {w : gw} {M : Nat → Nat → Int32} {J : Nat → Nat → Int64} {R : Nat → Nat → Option Nat} {s : aSt} {q L : Nat} {xs : Nat → Int32} {i : Int32}
set_option maxHeartbeats 4000000 in
set_option maxRecDepth 100000 in
theorem lw_c0 (C : Cx X RL cL_law) (hts : ∀ q ∈ lw_tbl, CB X q) (V : Cv X l D room_1 4 nm) (hab : a ≤ 600000 ∧ b ≤ 7302250) (hq : va_X q L xs (x_s X) (x_s X).heap ∧ ¬ x_A X q) (hw : w.1 = 166) (hi : ∀ n : Int32, ¬ n < 0 → n < 6 → vp_in (i + n) L) (ho : okSt s) (h1 : repC M J R s) (h2 : repM M J R s) (K : lwK X a b w q i) : Gj X a b w M J R 144 (lwL w q i) [] := by
  refine g_aload_n C dL_law_144 rfl ?_
  refine g_aload_n C dL_law_145 rfl ?_
  refine g_iload_n C dL_law_146 rfl ?_
  refine g_iconst (v := 1) C dL_law_147 (by decide) ?_
  refine g_iadd C dL_law_148 ?_
  refine g_sld (v := sc xs i 1) C hq (hi 1 (by decide) (by decide)) rfl dL_law_149 ?_
  refine g_aload_n C dL_law_150 rfl ?_
  refine g_iload_n C dL_law_151 rfl ?_
  refine g_iconst (v := 2) C dL_law_152 (by decide) ?_
  refine g_iadd C dL_law_153 ?_
  refine g_sld (v := sc xs i 2) C hq (hi 2 (by decide) (by decide)) rfl dL_law_154 ?_
  refine g_aload_n C dL_law_155 rfl ?_
  refine g_iload_n C dL_law_156 rfl ?_
  refine g_iconst (v := 3) C dL_law_157 (by decide) ?_
  refine g_iadd C dL_law_158 ?_
  refine g_sld (v := sc xs i 3) C hq (hi 3 (by decide) (by decide)) rfl dL_law_159 ?_
  refine g_aload_n C dL_law_160 rfl ?_
  refine g_iload_n C dL_law_161 rfl ?_
  refine g_iconst (v := 4) C dL_law_162 (by decide) ?_
  refine g_iadd C dL_law_163 ?_
  refine g_sld (v := sc xs i 4) C hq (hi 4 (by decide) (by decide)) rfl dL_law_164 ?_
  refine g_aload_n C dL_law_165 rfl ?_
  refine g_iload_n C dL_law_166 rfl ?_
  refine g_iconst (v := 5) C dL_law_167 (by decide) ?_
  refine g_iadd C dL_law_168 ?_
  refine g_sld (v := sc xs i 5) C hq (hi 5 (by decide) (by decide)) rfl dL_law_169 ?_
  refine g_callVt C hts V (ci := 7) (i := 0) (gw_V tw_732 tw_792 tw_793 tw_136 twl_X7_feed) rfl hdX7_feed ⟨by decide, by decide, rfl, rfl, hab.1, hab.2⟩ (show Ct l yX7_feed wsX7_feed _ D w [.ref (w.2.1 0), .int (sc xs i 1), .int (sc xs i 2), .int (sc xs i 3), .int (sc xs i 4), .int (sc xs i 5)] (M, J, R) _ from C7_feed hw ho h1) (by rw [hw]; decide) rfl (by decide) rfl rfl (Nat.le_of_ble_eq_true rfl) dL_law_170 (fun v1 M1 J1 R1 p => ?_)
  obtain ⟨e1, rC, m1, m2, m3⟩ := p
  subst e1
  have m1 : hiS M M1 := m1
  have m3 : hiS R R1 := m3
  have rM : repM M1 J1 R1 s := h2.f (fun x y q _ _ _ _ => m1 x y q) m3
  refine g_aload_n C dL_law_173 rfl ?_
  refine g_aload_n C dL_law_174 rfl ?_
  refine g_iload_n C dL_law_175 rfl ?_
  refine g_iconst (v := 1) C dL_law_176 (by decide) ?_
  refine g_iadd C dL_law_177 ?_
  refine g_sld (v := sc xs i 1) C hq (hi 1 (by decide) (by decide)) rfl dL_law_178 ?_
  refine g_aload_n C dL_law_179 rfl ?_
  refine g_iload_n C dL_law_180 rfl ?_
  refine g_iconst (v := 2) C dL_law_181 (by decide) ?_
  refine g_iadd C dL_law_182 ?_
  refine g_sld (v := sc xs i 2) C hq (hi 2 (by decide) (by decide)) rfl dL_law_183 ?_
  refine g_aload_n C dL_law_184 rfl ?_
  refine g_iload_n C dL_law_185 rfl ?_
  refine g_iconst (v := 3) C dL_law_186 (by decide) ?_
  refine g_iadd C dL_law_187 ?_
  refine g_sld (v := sc xs i 3) C hq (hi 3 (by decide) (by decide)) rfl dL_law_188 ?_
  refine g_aload_n C dL_law_189 rfl ?_
  refine g_iload_n C dL_law_190 rfl ?_
  refine g_iconst (v := 4) C dL_law_191 (by decide) ?_
  refine g_iadd C dL_law_192 ?_
  refine g_sld (v := sc xs i 4) C hq (hi 4 (by decide) (by decide)) rfl dL_law_193 ?_
  refine g_aload_n C dL_law_194 rfl ?_
  refine g_iload_n C dL_law_195 rfl ?_
  refine g_iconst (v := 5) C dL_law_196 (by decide) ?_
  refine g_iadd C dL_law_197 ?_
  refine g_sld (v := sc xs i 5) C hq (hi 5 (by decide) (by decide)) rfl dL_law_198 ?_
  refine g_callVt C hts V (ci := 8) (i := 134) (gw_V tw_733 tw_842 tw_843 tw_537 twl_X8_feed) rfl hdX8_feed ⟨by decide, by decide, rfl, rfl, hab.1, hab.2⟩ (show Ct l yX8_feed wsX8_feed _ D w [.ref (w.2.1 134), .int (sc xs i 1), .int (sc xs i 2), .int (sc xs i 3), .int (sc xs i 4), .int (sc xs i 5)] (M1, J1, R1) _ from C8_feed hw ho rM) (by rw [hw]; decide) rfl (by decide) rfl rfl (Nat.le_of_ble_eq_true rfl) dL_law_199 (fun v2 M2 J2 R2 p => ?_)
  obtain ⟨e2, rN, l1, l2, l3⟩ := p
  subst e2
  have l1 : loS M1 M2 := l1
  have l2 : loS J1 J2 := l2
  have l3 : loS R1 R2 := l3
  have hs := (ok_feed ho (sc xs i 1) (sc xs i 2) (sc xs i 3) (sc xs i 4) (sc xs i 5))
  refine g_icmp_eq (tgt := 902) C dL_law_202 (by decide) (fun _ => ?_) (fun e => absurd rfl e)
  exact K M2 J2 R2 _ hs (repC.f rC (fun x y q _ _ => l1 x y q) (fun y => l2 9 y (by decide)) l3 hs.2.2.1) rN

set_option maxHeartbeats 4000000 in
set_option maxRecDepth 100000 in
theorem lw_c1 (C : Cx X RL cL_law) (hts : ∀ q ∈ lw_tbl, CB X q) (V : Cv X l D room_1 4 nm) (hab : a ≤ 600000 ∧ b ≤ 7302250) (hq : va_X q L xs (x_s X) (x_s X).heap ∧ ¬ x_A X q) (hw : w.1 = 166) (hi : ∀ n : Int32, ¬ n < 0 → n < 6 → vp_in (i + n) L) (ho : okSt s) (h1 : repC M J R s) (h2 : repM M J R s) (K : lwK X a b w q i) : Gj X a b w M J R 207 (lwL w q i) [] := by
  refine g_aload_n C dL_law_207 rfl ?_
  refine g_aload_n C dL_law_208 rfl ?_
  refine g_iload_n C dL_law_209 rfl ?_
  refine g_iconst (v := 1) C dL_law_210 (by decide) ?_
  refine g_iadd C dL_law_211 ?_
  refine g_sld (v := sc xs i 1) C hq (hi 1 (by decide) (by decide)) rfl dL_law_212 ?_
  refine g_callVt C hts V (ci := 7) (i := 0) (gw_V tw_734 tw_788 tw_789 tw_136 twl_X7_end) rfl hdX7_end ⟨by decide, by decide, rfl, rfl, hab.1, hab.2⟩ (show Ct l yX7_end wsX7_end _ D w [.ref (w.2.1 0), .int (sc xs i 1)] (M, J, R) _ from C7_end hw ho h1) (by rw [hw]; decide) rfl (by decide) rfl rfl (Nat.le_of_ble_eq_true rfl) dL_law_213 (fun v1 M1 J1 R1 p => ?_)
  obtain ⟨e1, rC, m1, m2, m3⟩ := p
  subst e1
  have m1 : hiS M M1 := m1
  have m3 : hiS R R1 := m3
  have rM : repM M1 J1 R1 s := h2.f (fun x y q _ _ _ _ => m1 x y q) m3
  refine g_aload_n C dL_law_216 rfl ?_
  refine g_aload_n C dL_law_217 rfl ?_
  refine g_iload_n C dL_law_218 rfl ?_
  refine g_iconst (v := 1) C dL_law_219 (by decide) ?_
  refine g_iadd C dL_law_220 ?_
  refine g_sld (v := sc xs i 1) C hq (hi 1 (by decide) (by decide)) rfl dL_law_221 ?_
  refine g_callVt C hts V (ci := 8) (i := 134) (gw_V tw_735 tw_838 tw_839 tw_537 twl_X8_end) rfl hdX8_end ⟨by decide, by decide, rfl, rfl, hab.1, hab.2⟩ (show Ct l yX8_end wsX8_end _ D w [.ref (w.2.1 134), .int (sc xs i 1)] (M1, J1, R1) _ from C8_end hw ho rM) (by rw [hw]; decide) rfl (by decide) rfl rfl (Nat.le_of_ble_eq_true rfl) dL_law_222 (fun v2 M2 J2 R2 p => ?_)
  obtain ⟨e2, rN, l1, l2, l3⟩ := p
  subst e2
  have l1 : loS M1 M2 := l1
  have l2 : loS J1 J2 := l2
  have l3 : loS R1 R2 := l3
  have hs := (ok_end ho (sc xs i 1))
  refine g_icmp_eq (tgt := 902) C dL_law_225 (by decide) (fun _ => ?_) (fun e => absurd rfl e)
  exact K M2 J2 R2 _ hs (repC.f rC (fun x y q _ _ => l1 x y q) (fun y => l2 9 y (by decide)) l3 hs.2.2.1) rN

set_option maxHeartbeats 4000000 in
set_option maxRecDepth 100000 in
theorem lw_c2 (C : Cx X RL cL_law) (hts : ∀ q ∈ lw_tbl, CB X q) (V : Cv X l D room_1 4 nm) (hab : a ≤ 600000 ∧ b ≤ 7302250) (hq : va_X q L xs (x_s X) (x_s X).heap ∧ ¬ x_A X q) (hw : w.1 = 166) (hi : ∀ n : Int32, ¬ n < 0 → n < 6 → vp_in (i + n) L) (ho : okSt s) (h1 : repC M J R s) (h2 : repM M J R s) (K : lwK X a b w q i) : Gj X a b w M J R 230 (lwL w q i) [] := by
  refine g_aload_n C dL_law_230 rfl ?_
  refine g_aload_n C dL_law_231 rfl ?_
  refine g_iload_n C dL_law_232 rfl ?_
  refine g_iconst (v := 1) C dL_law_233 (by decide) ?_
  refine g_iadd C dL_law_234 ?_
  refine g_sld (v := sc xs i 1) C hq (hi 1 (by decide) (by decide)) rfl dL_law_235 ?_
  refine g_callVt C hts V (ci := 7) (i := 0) (gw_V tw_736 tw_814 tw_815 tw_136 twl_X7_program) rfl hdX7_program ⟨by decide, by decide, rfl, rfl, hab.1, hab.2⟩ (show Ct l yX7_program wsX7_program _ D w [.ref (w.2.1 0), .int (sc xs i 1)] (M, J, R) _ from C7_program hw ho h1) (by rw [hw]; decide) rfl (by decide) rfl rfl (Nat.le_of_ble_eq_true rfl) dL_law_236 (fun v1 M1 J1 R1 p => ?_)
  obtain ⟨e1, rC, m1, m2, m3⟩ := p
  subst e1
  have m1 : hiS M M1 := m1
  have m3 : hiS R R1 := m3
  have rM : repM M1 J1 R1 s := h2.f (fun x y q _ _ _ _ => m1 x y q) m3
  refine g_aload_n C dL_law_239 rfl ?_
  refine g_aload_n C dL_law_240 rfl ?_
  refine g_iload_n C dL_law_241 rfl ?_
  refine g_iconst (v := 1) C dL_law_242 (by decide) ?_
  refine g_iadd C dL_law_243 ?_
  refine g_sld (v := sc xs i 1) C hq (hi 1 (by decide) (by decide)) rfl dL_law_244 ?_
  refine g_callVt C hts V (ci := 8) (i := 134) (gw_V tw_737 tw_862 tw_863 tw_537 twl_X8_program) rfl hdX8_program ⟨by decide, by decide, rfl, rfl, hab.1, hab.2⟩ (show Ct l yX8_program wsX8_program _ D w [.ref (w.2.1 134), .int (sc xs i 1)] (M1, J1, R1) _ from C8_program hw ho rM) (by rw [hw]; decide) rfl (by decide) rfl rfl (Nat.le_of_ble_eq_true rfl) dL_law_245 (fun v2 M2 J2 R2 p => ?_)
  obtain ⟨e2, rN, l1, l2, l3⟩ := p
  subst e2
  have l1 : loS M1 M2 := l1
  have l2 : loS J1 J2 := l2
  have l3 : loS R1 R2 := l3
  have hs := (ok_program ho (sc xs i 1))
  refine g_icmp_eq (tgt := 902) C dL_law_248 (by decide) (fun _ => ?_) (fun e => absurd rfl e)
  exact K M2 J2 R2 _ hs (repC.f rC (fun x y q _ _ => l1 x y q) (fun y => l2 9 y (by decide)) l3 hs.2.2.1) rN

set_option maxHeartbeats 4000000 in
set_option maxRecDepth 100000 in
theorem lw_c3 (C : Cx X RL cL_law) (hts : ∀ q ∈ lw_tbl, CB X q) (V : Cv X l D room_1 4 nm) (hab : a ≤ 600000 ∧ b ≤ 7302250) (hq : va_X q L xs (x_s X) (x_s X).heap ∧ ¬ x_A X q) (hw : w.1 = 166) (hi : ∀ n : Int32, ¬ n < 0 → n < 6 → vp_in (i + n) L) (ho : okSt s) (h1 : repC M J R s) (h2 : repM M J R s) (K : lwK X a b w q i) : Gj X a b w M J R 253 (lwL w q i) [] := by
  refine g_aload_n C dL_law_253 rfl ?_
  refine g_aload_n C dL_law_254 rfl ?_
  refine g_iload_n C dL_law_255 rfl ?_
  refine g_iconst (v := 1) C dL_law_256 (by decide) ?_
  refine g_iadd C dL_law_257 ?_
  refine g_sld (v := sc xs i 1) C hq (hi 1 (by decide) (by decide)) rfl dL_law_258 ?_
  refine g_callVt C hts V (ci := 7) (i := 0) (gw_V tw_738 tw_790 tw_791 tw_136 twl_X7_fault) rfl hdX7_fault ⟨by decide, by decide, rfl, rfl, hab.1, hab.2⟩ (show Ct l yX7_fault wsX7_fault _ D w [.ref (w.2.1 0), .int (sc xs i 1)] (M, J, R) _ from C7_fault hw ho h1) (by rw [hw]; decide) rfl (by decide) rfl rfl (Nat.le_of_ble_eq_true rfl) dL_law_259 (fun v1 M1 J1 R1 p => ?_)
  obtain ⟨e1, rC, m1, m2, m3⟩ := p
  subst e1
  have m1 : hiS M M1 := m1
  have m3 : hiS R R1 := m3
  have rM : repM M1 J1 R1 s := h2.f (fun x y q _ _ _ _ => m1 x y q) m3
  refine g_aload_n C dL_law_262 rfl ?_
  refine g_aload_n C dL_law_263 rfl ?_
  refine g_iload_n C dL_law_264 rfl ?_
  refine g_iconst (v := 1) C dL_law_265 (by decide) ?_
  refine g_iadd C dL_law_266 ?_
  refine g_sld (v := sc xs i 1) C hq (hi 1 (by decide) (by decide)) rfl dL_law_267 ?_
  refine g_callVt C hts V (ci := 8) (i := 134) (gw_V tw_739 tw_840 tw_841 tw_537 twl_X8_fault) rfl hdX8_fault ⟨by decide, by decide, rfl, rfl, hab.1, hab.2⟩ (show Ct l yX8_fault wsX8_fault _ D w [.ref (w.2.1 134), .int (sc xs i 1)] (M1, J1, R1) _ from C8_fault hw ho rM) (by rw [hw]; decide) rfl (by decide) rfl rfl (Nat.le_of_ble_eq_true rfl) dL_law_268 (fun v2 M2 J2 R2 p => ?_)
  obtain ⟨e2, rN, l1, l2, l3⟩ := p
  subst e2
  have l1 : loS M1 M2 := l1
  have l2 : loS J1 J2 := l2
  have l3 : loS R1 R2 := l3
  have hs := ho
  refine g_icmp_eq (tgt := 902) C dL_law_271 (by decide) (fun _ => ?_) (fun e => absurd rfl e)
  exact K M2 J2 R2 _ hs (repC.f rC (fun x y q _ _ => l1 x y q) (fun y => l2 9 y (by decide)) l3 hs.2.2.1) rN

set_option maxHeartbeats 4000000 in
set_option maxRecDepth 100000 in
theorem lw_c4 (C : Cx X RL cL_law) (hts : ∀ q ∈ lw_tbl, CB X q) (V : Cv X l D room_1 4 nm) (hab : a ≤ 600000 ∧ b ≤ 7302250) (hq : va_X q L xs (x_s X) (x_s X).heap ∧ ¬ x_A X q) (hw : w.1 = 166) (hi : ∀ n : Int32, ¬ n < 0 → n < 6 → vp_in (i + n) L) (ho : okSt s) (h1 : repC M J R s) (h2 : repM M J R s) (K : lwK X a b w q i) : Gj X a b w M J R 276 (lwL w q i) [] := by
  refine g_aload_n C dL_law_276 rfl ?_
  refine g_aload_n C dL_law_277 rfl ?_
  refine g_iload_n C dL_law_278 rfl ?_
  refine g_iconst (v := 1) C dL_law_279 (by decide) ?_
  refine g_iadd C dL_law_280 ?_
  refine g_sld (v := sc xs i 1) C hq (hi 1 (by decide) (by decide)) rfl dL_law_281 ?_
  refine g_aload_n C dL_law_282 rfl ?_
  refine g_iload_n C dL_law_283 rfl ?_
  refine g_iconst (v := 2) C dL_law_284 (by decide) ?_
  refine g_iadd C dL_law_285 ?_
  refine g_sld (v := sc xs i 2) C hq (hi 2 (by decide) (by decide)) rfl dL_law_286 ?_
  refine g_aload_n C dL_law_287 rfl ?_
  refine g_iload_n C dL_law_288 rfl ?_
  refine g_iconst (v := 3) C dL_law_289 (by decide) ?_
  refine g_iadd C dL_law_290 ?_
  refine g_sld (v := sc xs i 3) C hq (hi 3 (by decide) (by decide)) rfl dL_law_291 ?_
  refine g_callVt C hts V (ci := 7) (i := 0) (gw_V tw_740 tw_782 tw_783 tw_136 twl_X7_act) rfl hdX7_act ⟨by decide, by decide, rfl, rfl, hab.1, hab.2⟩ (show Ct l yX7_act wsX7_act _ D w [.ref (w.2.1 0), .int (sc xs i 1), .int (sc xs i 2), .int (sc xs i 3)] (M, J, R) _ from C7_act hw ho h1) (by rw [hw]; decide) rfl (by decide) rfl rfl (Nat.le_of_ble_eq_true rfl) dL_law_292 (fun v1 M1 J1 R1 p => ?_)
  obtain ⟨e1, rC, m1, m2, m3⟩ := p
  subst e1
  have m1 : hiS M M1 := m1
  have m3 : hiS R R1 := m3
  have rM : repM M1 J1 R1 s := h2.f (fun x y q _ _ _ _ => m1 x y q) m3
  refine g_aload_n C dL_law_295 rfl ?_
  refine g_aload_n C dL_law_296 rfl ?_
  refine g_iload_n C dL_law_297 rfl ?_
  refine g_iconst (v := 1) C dL_law_298 (by decide) ?_
  refine g_iadd C dL_law_299 ?_
  refine g_sld (v := sc xs i 1) C hq (hi 1 (by decide) (by decide)) rfl dL_law_300 ?_
  refine g_aload_n C dL_law_301 rfl ?_
  refine g_iload_n C dL_law_302 rfl ?_
  refine g_iconst (v := 2) C dL_law_303 (by decide) ?_
  refine g_iadd C dL_law_304 ?_
  refine g_sld (v := sc xs i 2) C hq (hi 2 (by decide) (by decide)) rfl dL_law_305 ?_
  refine g_aload_n C dL_law_306 rfl ?_
  refine g_iload_n C dL_law_307 rfl ?_
  refine g_iconst (v := 3) C dL_law_308 (by decide) ?_
  refine g_iadd C dL_law_309 ?_
  refine g_sld (v := sc xs i 3) C hq (hi 3 (by decide) (by decide)) rfl dL_law_310 ?_
  refine g_callVt C hts V (ci := 8) (i := 134) (gw_V tw_741 tw_832 tw_833 tw_537 twl_X8_act) rfl hdX8_act ⟨by decide, by decide, rfl, rfl, hab.1, hab.2⟩ (show Ct l yX8_act wsX8_act _ D w [.ref (w.2.1 134), .int (sc xs i 1), .int (sc xs i 2), .int (sc xs i 3)] (M1, J1, R1) _ from C8_act hw ho rM) (by rw [hw]; decide) rfl (by decide) rfl rfl (Nat.le_of_ble_eq_true rfl) dL_law_311 (fun v2 M2 J2 R2 p => ?_)
  obtain ⟨e2, rN, l1, l2, l3⟩ := p
  subst e2
  have l1 : loS M1 M2 := l1
  have l2 : loS J1 J2 := l2
  have l3 : loS R1 R2 := l3
  have hs := ho
  refine g_icmp_eq (tgt := 902) C dL_law_314 (by decide) (fun _ => ?_) (fun e => absurd rfl e)
  exact K M2 J2 R2 _ hs (repC.f rC (fun x y q _ _ => l1 x y q) (fun y => l2 9 y (by decide)) l3 hs.2.2.1) rN

set_option maxHeartbeats 4000000 in
set_option maxRecDepth 100000 in
theorem lw_c5 (C : Cx X RL cL_law) (hts : ∀ q ∈ lw_tbl, CB X q) (V : Cv X l D room_1 4 nm) (hab : a ≤ 600000 ∧ b ≤ 7302250) (hq : va_X q L xs (x_s X) (x_s X).heap ∧ ¬ x_A X q) (hw : w.1 = 166) (hi : ∀ n : Int32, ¬ n < 0 → n < 6 → vp_in (i + n) L) (ho : okSt s) (h1 : repC M J R s) (h2 : repM M J R s) (K : lwK X a b w q i) : Gj X a b w M J R 319 (lwL w q i) [] := by
  refine g_aload_n C dL_law_319 rfl ?_
  refine g_callVt C hts V (ci := 7) (i := 0) (gw_V tw_742 tw_804 tw_805 tw_136 twl_X7_input) rfl hdX7_input ⟨by decide, by decide, rfl, rfl, hab.1, hab.2⟩ (show Ct l yX7_input wsX7_input _ D w [.ref (w.2.1 0)] (M, J, R) _ from C7_input hw ho h1) (by rw [hw]; decide) rfl (by decide) rfl rfl (Nat.le_of_ble_eq_true rfl) dL_law_320 (fun v1 M1 J1 R1 p => ?_)
  obtain ⟨e1, rC, m1, m2, m3⟩ := p
  subst e1
  have m1 : hiS M M1 := m1
  have m3 : hiS R R1 := m3
  have rM : repM M1 J1 R1 s := h2.f (fun x y q _ _ _ _ => m1 x y q) m3
  refine g_aload_n C dL_law_323 rfl ?_
  refine g_callVt C hts V (ci := 8) (i := 134) (gw_V tw_743 tw_852 tw_853 tw_537 twl_X8_input) rfl hdX8_input ⟨by decide, by decide, rfl, rfl, hab.1, hab.2⟩ (show Ct l yX8_input wsX8_input _ D w [.ref (w.2.1 134)] (M1, J1, R1) _ from C8_input hw ho rM) (by rw [hw]; decide) rfl (by decide) rfl rfl (Nat.le_of_ble_eq_true rfl) dL_law_324 (fun v2 M2 J2 R2 p => ?_)
  obtain ⟨e2, rN, l1, l2, l3⟩ := p
  subst e2
  have l1 : loS M1 M2 := l1
  have l2 : loS J1 J2 := l2
  have l3 : loS R1 R2 := l3
  have hs := (ok_input ho)
  refine g_icmp_eq (tgt := 902) C dL_law_327 (by decide) (fun _ => ?_) (fun e => absurd rfl e)
  exact K M2 J2 R2 _ hs (repC.f rC (fun x y q _ _ => l1 x y q) (fun y => l2 9 y (by decide)) l3 hs.2.2.1) rN

set_option maxHeartbeats 4000000 in
set_option maxRecDepth 100000 in
theorem lw_c6 (C : Cx X RL cL_law) (hts : ∀ q ∈ lw_tbl, CB X q) (V : Cv X l D room_1 4 nm) (hab : a ≤ 600000 ∧ b ≤ 7302250) (hq : va_X q L xs (x_s X) (x_s X).heap ∧ ¬ x_A X q) (hw : w.1 = 166) (hi : ∀ n : Int32, ¬ n < 0 → n < 6 → vp_in (i + n) L) (ho : okSt s) (h1 : repC M J R s) (h2 : repM M J R s) (K : lwK X a b w q i) : Gj X a b w M J R 332 (lwL w q i) [] := by
  refine g_aload_n C dL_law_332 rfl ?_
  refine g_aload_n C dL_law_333 rfl ?_
  refine g_iload_n C dL_law_334 rfl ?_
  refine g_iconst (v := 1) C dL_law_335 (by decide) ?_
  refine g_iadd C dL_law_336 ?_
  refine g_sld (v := sc xs i 1) C hq (hi 1 (by decide) (by decide)) rfl dL_law_337 ?_
  refine g_aload_n C dL_law_338 rfl ?_
  refine g_iload_n C dL_law_339 rfl ?_
  refine g_iconst (v := 2) C dL_law_340 (by decide) ?_
  refine g_iadd C dL_law_341 ?_
  refine g_sld (v := sc xs i 2) C hq (hi 2 (by decide) (by decide)) rfl dL_law_342 ?_
  refine g_callVt C hts V (ci := 7) (i := 0) (gw_V tw_744 tw_784 tw_785 tw_136 twl_X7_byteOf) rfl hdX7_byteOf ⟨by decide, by decide, rfl, rfl, hab.1, hab.2⟩ (show Ct l yX7_byteOf wsX7_byteOf _ D w [.ref (w.2.1 0), .int (sc xs i 1), .int (sc xs i 2)] (M, J, R) _ from C7_byteOf hw ho h1) (by rw [hw]; decide) rfl (by decide) rfl rfl (Nat.le_of_ble_eq_true rfl) dL_law_343 (fun v1 M1 J1 R1 p => ?_)
  obtain ⟨e1, rC, m1, m2, m3⟩ := p
  subst e1
  have m1 : hiS M M1 := m1
  have m3 : hiS R R1 := m3
  have rM : repM M1 J1 R1 s := h2.f (fun x y q _ _ _ _ => m1 x y q) m3
  refine g_aload_n C dL_law_346 rfl ?_
  refine g_aload_n C dL_law_347 rfl ?_
  refine g_iload_n C dL_law_348 rfl ?_
  refine g_iconst (v := 1) C dL_law_349 (by decide) ?_
  refine g_iadd C dL_law_350 ?_
  refine g_sld (v := sc xs i 1) C hq (hi 1 (by decide) (by decide)) rfl dL_law_351 ?_
  refine g_aload_n C dL_law_352 rfl ?_
  refine g_iload_n C dL_law_353 rfl ?_
  refine g_iconst (v := 2) C dL_law_354 (by decide) ?_
  refine g_iadd C dL_law_355 ?_
  refine g_sld (v := sc xs i 2) C hq (hi 2 (by decide) (by decide)) rfl dL_law_356 ?_
  refine g_callVt C hts V (ci := 8) (i := 134) (gw_V tw_745 tw_834 tw_835 tw_537 twl_X8_byteOf) rfl hdX8_byteOf ⟨by decide, by decide, rfl, rfl, hab.1, hab.2⟩ (show Ct l yX8_byteOf wsX8_byteOf _ D w [.ref (w.2.1 134), .int (sc xs i 1), .int (sc xs i 2)] (M1, J1, R1) _ from C8_byteOf hw ho rM) (by rw [hw]; decide) rfl (by decide) rfl rfl (Nat.le_of_ble_eq_true rfl) dL_law_357 (fun v2 M2 J2 R2 p => ?_)
  obtain ⟨e2, rN, l1, l2, l3⟩ := p
  subst e2
  have l1 : loS M1 M2 := l1
  have l2 : loS J1 J2 := l2
  have l3 : loS R1 R2 := l3
  have hs := ho
  refine g_icmp_eq (tgt := 902) C dL_law_360 (by decide) (fun _ => ?_) (fun e => absurd rfl e)
  exact K M2 J2 R2 _ hs (repC.f rC (fun x y q _ _ => l1 x y q) (fun y => l2 9 y (by decide)) l3 hs.2.2.1) rN

set_option maxHeartbeats 4000000 in
set_option maxRecDepth 100000 in
theorem lw_c7 (C : Cx X RL cL_law) (hts : ∀ q ∈ lw_tbl, CB X q) (V : Cv X l D room_1 4 nm) (hab : a ≤ 600000 ∧ b ≤ 7302250) (hq : va_X q L xs (x_s X) (x_s X).heap ∧ ¬ x_A X q) (hw : w.1 = 166) (hi : ∀ n : Int32, ¬ n < 0 → n < 6 → vp_in (i + n) L) (ho : okSt s) (h1 : repC M J R s) (h2 : repM M J R s) (K : lwK X a b w q i) : Gj X a b w M J R 365 (lwL w q i) [] := by
  refine g_aload_n C dL_law_365 rfl ?_
  refine g_callVt C hts V (ci := 7) (i := 0) (gw_V tw_746 tw_786 tw_787 tw_136 twl_X7_drop) rfl hdX7_drop ⟨by decide, by decide, rfl, rfl, hab.1, hab.2⟩ (show Ct l yX7_drop wsX7_drop _ D w [.ref (w.2.1 0)] (M, J, R) _ from C7_drop hw ho h1) (by rw [hw]; decide) rfl (by decide) rfl rfl (Nat.le_of_ble_eq_true rfl) dL_law_366 (fun v1 M1 J1 R1 p => ?_)
  obtain ⟨e1, rC, m1, m2, m3⟩ := p
  subst e1
  have m1 : hiS M M1 := m1
  have m3 : hiS R R1 := m3
  have rM : repM M1 J1 R1 s := h2.f (fun x y q _ _ _ _ => m1 x y q) m3
  refine g_aload_n C dL_law_369 rfl ?_
  refine g_callVt C hts V (ci := 8) (i := 134) (gw_V tw_747 tw_836 tw_837 tw_537 twl_X8_drop) rfl hdX8_drop ⟨by decide, by decide, rfl, rfl, hab.1, hab.2⟩ (show Ct l yX8_drop wsX8_drop _ D w [.ref (w.2.1 134)] (M1, J1, R1) _ from C8_drop hw ho rM) (by rw [hw]; decide) rfl (by decide) rfl rfl (Nat.le_of_ble_eq_true rfl) dL_law_370 (fun v2 M2 J2 R2 p => ?_)
  obtain ⟨e2, rN, l1, l2, l3⟩ := p
  subst e2
  have l1 : loS M1 M2 := l1
  have l2 : loS J1 J2 := l2
  have l3 : loS R1 R2 := l3
  have hs := (ok_drop ho)
  refine g_icmp_eq (tgt := 902) C dL_law_373 (by decide) (fun _ => ?_) (fun e => absurd rfl e)
  exact K M2 J2 R2 _ hs (repC.f rC (fun x y q _ _ => l1 x y q) (fun y => l2 9 y (by decide)) l3 hs.2.2.1) rN

set_option maxHeartbeats 4000000 in
set_option maxRecDepth 100000 in
theorem lw_c8 (C : Cx X RL cL_law) (hts : ∀ q ∈ lw_tbl, CB X q) (V : Cv X l D room_1 4 nm) (hab : a ≤ 600000 ∧ b ≤ 7302250) (hq : va_X q L xs (x_s X) (x_s X).heap ∧ ¬ x_A X q) (hw : w.1 = 166) (hi : ∀ n : Int32, ¬ n < 0 → n < 6 → vp_in (i + n) L) (ho : okSt s) (h1 : repC M J R s) (h2 : repM M J R s) (K : lwK X a b w q i) : Gj X a b w M J R 378 (lwL w q i) [] := by
  refine g_aload_n C dL_law_378 rfl ?_
  refine g_aload_n C dL_law_379 rfl ?_
  refine g_iload_n C dL_law_380 rfl ?_
  refine g_iconst (v := 1) C dL_law_381 (by decide) ?_
  refine g_iadd C dL_law_382 ?_
  refine g_sld (v := sc xs i 1) C hq (hi 1 (by decide) (by decide)) rfl dL_law_383 ?_
  refine g_aload_n C dL_law_384 rfl ?_
  refine g_iload_n C dL_law_385 rfl ?_
  refine g_iconst (v := 2) C dL_law_386 (by decide) ?_
  refine g_iadd C dL_law_387 ?_
  refine g_sld (v := sc xs i 2) C hq (hi 2 (by decide) (by decide)) rfl dL_law_388 ?_
  refine g_callVt C hts V (ci := 7) (i := 0) (gw_V tw_748 tw_820 tw_821 tw_136 twl_X7_run) rfl hdX7_run ⟨by decide, by decide, rfl, rfl, hab.1, hab.2⟩ (show Ct l yX7_run wsX7_run _ D w [.ref (w.2.1 0), .int (sc xs i 1), .int (sc xs i 2)] (M, J, R) _ from C7_run hw ho h1) (by rw [hw]; decide) rfl (by decide) rfl rfl (Nat.le_of_ble_eq_true rfl) dL_law_389 (fun v1 M1 J1 R1 p => ?_)
  obtain ⟨e1, rC, m1, m2, m3⟩ := p
  subst e1
  have m1 : hiS M M1 := m1
  have m3 : hiS R R1 := m3
  have rM : repM M1 J1 R1 s := h2.f (fun x y q _ _ _ _ => m1 x y q) m3
  refine g_aload_n C dL_law_392 rfl ?_
  refine g_aload_n C dL_law_393 rfl ?_
  refine g_iload_n C dL_law_394 rfl ?_
  refine g_iconst (v := 1) C dL_law_395 (by decide) ?_
  refine g_iadd C dL_law_396 ?_
  refine g_sld (v := sc xs i 1) C hq (hi 1 (by decide) (by decide)) rfl dL_law_397 ?_
  refine g_aload_n C dL_law_398 rfl ?_
  refine g_iload_n C dL_law_399 rfl ?_
  refine g_iconst (v := 2) C dL_law_400 (by decide) ?_
  refine g_iadd C dL_law_401 ?_
  refine g_sld (v := sc xs i 2) C hq (hi 2 (by decide) (by decide)) rfl dL_law_402 ?_
  refine g_callVt C hts V (ci := 8) (i := 134) (gw_V tw_749 tw_868 tw_869 tw_537 twl_X8_run) rfl hdX8_run ⟨by decide, by decide, rfl, rfl, hab.1, hab.2⟩ (show Ct l yX8_run wsX8_run _ D w [.ref (w.2.1 134), .int (sc xs i 1), .int (sc xs i 2)] (M1, J1, R1) _ from C8_run hw ho rM) (by rw [hw]; decide) rfl (by decide) rfl rfl (Nat.le_of_ble_eq_true rfl) dL_law_403 (fun v2 M2 J2 R2 p => ?_)
  obtain ⟨e2, rN, l1, l2, l3⟩ := p
  subst e2
  have l1 : loS M1 M2 := l1
  have l2 : loS J1 J2 := l2
  have l3 : loS R1 R2 := l3
  have hs := (ok_run ho (sc xs i 1) (sc xs i 2))
  refine g_icmp_eq (tgt := 902) C dL_law_406 (by decide) (fun _ => ?_) (fun e => absurd rfl e)
  exact K M2 J2 R2 _ hs (repC.f rC (fun x y q _ _ => l1 x y q) (fun y => l2 9 y (by decide)) l3 hs.2.2.1) rN

set_option maxHeartbeats 4000000 in
set_option maxRecDepth 100000 in
theorem lw_c9 (C : Cx X RL cL_law) (hts : ∀ q ∈ lw_tbl, CB X q) (V : Cv X l D room_1 4 nm) (hab : a ≤ 600000 ∧ b ≤ 7302250) (hq : va_X q L xs (x_s X) (x_s X).heap ∧ ¬ x_A X q) (hw : w.1 = 166) (hi : ∀ n : Int32, ¬ n < 0 → n < 6 → vp_in (i + n) L) (ho : okSt s) (h1 : repC M J R s) (h2 : repM M J R s) (K : lwK X a b w q i) : Gj X a b w M J R 411 (lwL w q i) [] := by
  refine g_aload_n C dL_law_411 rfl ?_
  refine g_aload_n C dL_law_412 rfl ?_
  refine g_iload_n C dL_law_413 rfl ?_
  refine g_iconst (v := 1) C dL_law_414 (by decide) ?_
  refine g_iadd C dL_law_415 ?_
  refine g_sld (v := sc xs i 1) C hq (hi 1 (by decide) (by decide)) rfl dL_law_416 ?_
  refine g_callVt C hts V (ci := 7) (i := 0) (gw_V tw_750 tw_816 tw_817 tw_136 twl_X7_ran) rfl hdX7_ran ⟨by decide, by decide, rfl, rfl, hab.1, hab.2⟩ (show Ct l yX7_ran wsX7_ran _ D w [.ref (w.2.1 0), .int (sc xs i 1)] (M, J, R) _ from C7_ran hw ho h1) (by rw [hw]; decide) rfl (by decide) rfl rfl (Nat.le_of_ble_eq_true rfl) dL_law_417 (fun v1 M1 J1 R1 p => ?_)
  obtain ⟨e1, rC, m1, m2, m3⟩ := p
  subst e1
  have m1 : hiS M M1 := m1
  have m3 : hiS R R1 := m3
  have rM : repM M1 J1 R1 s := h2.f (fun x y q _ _ _ _ => m1 x y q) m3
  refine g_aload_n C dL_law_420 rfl ?_
  refine g_aload_n C dL_law_421 rfl ?_
  refine g_iload_n C dL_law_422 rfl ?_
  refine g_iconst (v := 1) C dL_law_423 (by decide) ?_
  refine g_iadd C dL_law_424 ?_
  refine g_sld (v := sc xs i 1) C hq (hi 1 (by decide) (by decide)) rfl dL_law_425 ?_
  refine g_callVt C hts V (ci := 8) (i := 134) (gw_V tw_751 tw_864 tw_865 tw_537 twl_X8_ran) rfl hdX8_ran ⟨by decide, by decide, rfl, rfl, hab.1, hab.2⟩ (show Ct l yX8_ran wsX8_ran _ D w [.ref (w.2.1 134), .int (sc xs i 1)] (M1, J1, R1) _ from C8_ran hw ho rM) (by rw [hw]; decide) rfl (by decide) rfl rfl (Nat.le_of_ble_eq_true rfl) dL_law_426 (fun v2 M2 J2 R2 p => ?_)
  obtain ⟨e2, rN, l1, l2, l3⟩ := p
  subst e2
  have l1 : loS M1 M2 := l1
  have l2 : loS J1 J2 := l2
  have l3 : loS R1 R2 := l3
  have hs := ho
  refine g_icmp_eq (tgt := 902) C dL_law_429 (by decide) (fun _ => ?_) (fun e => absurd rfl e)
  exact K M2 J2 R2 _ hs (repC.f rC (fun x y q _ _ => l1 x y q) (fun y => l2 9 y (by decide)) l3 hs.2.2.1) rN

set_option maxHeartbeats 4000000 in
set_option maxRecDepth 100000 in
theorem lw_c10 (C : Cx X RL cL_law) (hts : ∀ q ∈ lw_tbl, CB X q) (V : Cv X l D room_1 4 nm) (hab : a ≤ 600000 ∧ b ≤ 7302250) (hq : va_X q L xs (x_s X) (x_s X).heap ∧ ¬ x_A X q) (hw : w.1 = 166) (hi : ∀ n : Int32, ¬ n < 0 → n < 6 → vp_in (i + n) L) (ho : okSt s) (h1 : repC M J R s) (h2 : repM M J R s) (K : lwK X a b w q i) : Gj X a b w M J R 434 (lwL w q i) [] := by
  refine g_aload_n C dL_law_434 rfl ?_
  refine g_aload_n C dL_law_435 rfl ?_
  refine g_iload_n C dL_law_436 rfl ?_
  refine g_iconst (v := 1) C dL_law_437 (by decide) ?_
  refine g_iadd C dL_law_438 ?_
  refine g_sld (v := sc xs i 1) C hq (hi 1 (by decide) (by decide)) rfl dL_law_439 ?_
  refine g_callVt C hts V (ci := 7) (i := 0) (gw_V tw_752 tw_826 tw_827 tw_136 twl_X7_told) rfl hdX7_told ⟨by decide, by decide, rfl, rfl, hab.1, hab.2⟩ (show Ct l yX7_told wsX7_told _ D w [.ref (w.2.1 0), .int (sc xs i 1)] (M, J, R) _ from C7_told hw ho h1) (by rw [hw]; decide) rfl (by decide) rfl rfl (Nat.le_of_ble_eq_true rfl) dL_law_440 (fun v1 M1 J1 R1 p => ?_)
  obtain ⟨e1, rC, m1, m2, m3⟩ := p
  subst e1
  have m1 : hiS M M1 := m1
  have m3 : hiS R R1 := m3
  have rM : repM M1 J1 R1 s := h2.f (fun x y q _ _ _ _ => m1 x y q) m3
  refine g_aload_n C dL_law_443 rfl ?_
  refine g_aload_n C dL_law_444 rfl ?_
  refine g_iload_n C dL_law_445 rfl ?_
  refine g_iconst (v := 1) C dL_law_446 (by decide) ?_
  refine g_iadd C dL_law_447 ?_
  refine g_sld (v := sc xs i 1) C hq (hi 1 (by decide) (by decide)) rfl dL_law_448 ?_
  refine g_callVt C hts V (ci := 8) (i := 134) (gw_V tw_753 tw_874 tw_875 tw_537 twl_X8_told) rfl hdX8_told ⟨by decide, by decide, rfl, rfl, hab.1, hab.2⟩ (show Ct l yX8_told wsX8_told _ D w [.ref (w.2.1 134), .int (sc xs i 1)] (M1, J1, R1) _ from C8_told hw ho rM) (by rw [hw]; decide) rfl (by decide) rfl rfl (Nat.le_of_ble_eq_true rfl) dL_law_449 (fun v2 M2 J2 R2 p => ?_)
  obtain ⟨e2, rN, l1, l2, l3⟩ := p
  subst e2
  have l1 : loS M1 M2 := l1
  have l2 : loS J1 J2 := l2
  have l3 : loS R1 R2 := l3
  have hs := ho
  refine g_icmp_eq (tgt := 902) C dL_law_452 (by decide) (fun _ => ?_) (fun e => absurd rfl e)
  exact K M2 J2 R2 _ hs (repC.f rC (fun x y q _ _ => l1 x y q) (fun y => l2 9 y (by decide)) l3 hs.2.2.1) rN

set_option maxHeartbeats 4000000 in
set_option maxRecDepth 100000 in
theorem lw_c11 (C : Cx X RL cL_law) (hts : ∀ q ∈ lw_tbl, CB X q) (V : Cv X l D room_1 4 nm) (hab : a ≤ 600000 ∧ b ≤ 7302250) (hq : va_X q L xs (x_s X) (x_s X).heap ∧ ¬ x_A X q) (hw : w.1 = 166) (hi : ∀ n : Int32, ¬ n < 0 → n < 6 → vp_in (i + n) L) (ho : okSt s) (h1 : repC M J R s) (h2 : repM M J R s) (K : lwK X a b w q i) : Gj X a b w M J R 457 (lwL w q i) [] := by
  refine g_aload_n C dL_law_457 rfl ?_
  refine g_aload_n C dL_law_458 rfl ?_
  refine g_iload_n C dL_law_459 rfl ?_
  refine g_iconst (v := 1) C dL_law_460 (by decide) ?_
  refine g_iadd C dL_law_461 ?_
  refine g_sld (v := sc xs i 1) C hq (hi 1 (by decide) (by decide)) rfl dL_law_462 ?_
  refine g_callVt C hts V (ci := 7) (i := 0) (gw_V tw_754 tw_806 tw_807 tw_136 twl_X7_left) rfl hdX7_left ⟨by decide, by decide, rfl, rfl, hab.1, hab.2⟩ (show Ct l yX7_left wsX7_left _ D w [.ref (w.2.1 0), .int (sc xs i 1)] (M, J, R) _ from C7_left hw ho h1) (by rw [hw]; decide) rfl (by decide) rfl rfl (Nat.le_of_ble_eq_true rfl) dL_law_463 (fun v1 M1 J1 R1 p => ?_)
  obtain ⟨e1, rC, m1, m2, m3⟩ := p
  subst e1
  have m1 : hiS M M1 := m1
  have m3 : hiS R R1 := m3
  have rM : repM M1 J1 R1 s := h2.f (fun x y q _ _ _ _ => m1 x y q) m3
  refine g_aload_n C dL_law_466 rfl ?_
  refine g_aload_n C dL_law_467 rfl ?_
  refine g_iload_n C dL_law_468 rfl ?_
  refine g_iconst (v := 1) C dL_law_469 (by decide) ?_
  refine g_iadd C dL_law_470 ?_
  refine g_sld (v := sc xs i 1) C hq (hi 1 (by decide) (by decide)) rfl dL_law_471 ?_
  refine g_callVt C hts V (ci := 8) (i := 134) (gw_V tw_755 tw_854 tw_855 tw_537 twl_X8_left) rfl hdX8_left ⟨by decide, by decide, rfl, rfl, hab.1, hab.2⟩ (show Ct l yX8_left wsX8_left _ D w [.ref (w.2.1 134), .int (sc xs i 1)] (M1, J1, R1) _ from C8_left hw ho rM) (by rw [hw]; decide) rfl (by decide) rfl rfl (Nat.le_of_ble_eq_true rfl) dL_law_472 (fun v2 M2 J2 R2 p => ?_)
  obtain ⟨e2, rN, l1, l2, l3⟩ := p
  subst e2
  have l1 : loS M1 M2 := l1
  have l2 : loS J1 J2 := l2
  have l3 : loS R1 R2 := l3
  have hs := ho
  refine g_icmp_eq (tgt := 902) C dL_law_475 (by decide) (fun _ => ?_) (fun e => absurd rfl e)
  exact K M2 J2 R2 _ hs (repC.f rC (fun x y q _ _ => l1 x y q) (fun y => l2 9 y (by decide)) l3 hs.2.2.1) rN

set_option maxHeartbeats 4000000 in
set_option maxRecDepth 100000 in
theorem lw_c12 (C : Cx X RL cL_law) (hts : ∀ q ∈ lw_tbl, CB X q) (V : Cv X l D room_1 4 nm) (hab : a ≤ 600000 ∧ b ≤ 7302250) (hq : va_X q L xs (x_s X) (x_s X).heap ∧ ¬ x_A X q) (hw : w.1 = 166) (hi : ∀ n : Int32, ¬ n < 0 → n < 6 → vp_in (i + n) L) (ho : okSt s) (h1 : repC M J R s) (h2 : repM M J R s) (K : lwK X a b w q i) : Gj X a b w M J R 480 (lwL w q i) [] := by
  refine g_aload_n C dL_law_480 rfl ?_
  refine g_aload_n C dL_law_481 rfl ?_
  refine g_iload_n C dL_law_482 rfl ?_
  refine g_iconst (v := 1) C dL_law_483 (by decide) ?_
  refine g_iadd C dL_law_484 ?_
  refine g_sld (v := sc xs i 1) C hq (hi 1 (by decide) (by decide)) rfl dL_law_485 ?_
  refine g_aload_n C dL_law_486 rfl ?_
  refine g_iload_n C dL_law_487 rfl ?_
  refine g_iconst (v := 2) C dL_law_488 (by decide) ?_
  refine g_iadd C dL_law_489 ?_
  refine g_sld (v := sc xs i 2) C hq (hi 2 (by decide) (by decide)) rfl dL_law_490 ?_
  refine g_callVt C hts V (ci := 7) (i := 0) (gw_V tw_756 tw_808 tw_809 tw_136 twl_X7_leftOf) rfl hdX7_leftOf ⟨by decide, by decide, rfl, rfl, hab.1, hab.2⟩ (show Ct l yX7_leftOf wsX7_leftOf _ D w [.ref (w.2.1 0), .int (sc xs i 1), .int (sc xs i 2)] (M, J, R) _ from C7_leftOf hw ho h1) (by rw [hw]; decide) rfl (by decide) rfl rfl (Nat.le_of_ble_eq_true rfl) dL_law_491 (fun v1 M1 J1 R1 p => ?_)
  obtain ⟨e1, rC, m1, m2, m3⟩ := p
  subst e1
  have m1 : hiS M M1 := m1
  have m3 : hiS R R1 := m3
  have rM : repM M1 J1 R1 s := h2.f (fun x y q _ _ _ _ => m1 x y q) m3
  refine g_aload_n C dL_law_494 rfl ?_
  refine g_aload_n C dL_law_495 rfl ?_
  refine g_iload_n C dL_law_496 rfl ?_
  refine g_iconst (v := 1) C dL_law_497 (by decide) ?_
  refine g_iadd C dL_law_498 ?_
  refine g_sld (v := sc xs i 1) C hq (hi 1 (by decide) (by decide)) rfl dL_law_499 ?_
  refine g_aload_n C dL_law_500 rfl ?_
  refine g_iload_n C dL_law_501 rfl ?_
  refine g_iconst (v := 2) C dL_law_502 (by decide) ?_
  refine g_iadd C dL_law_503 ?_
  refine g_sld (v := sc xs i 2) C hq (hi 2 (by decide) (by decide)) rfl dL_law_504 ?_
  refine g_callVt C hts V (ci := 8) (i := 134) (gw_V tw_757 tw_856 tw_857 tw_537 twl_X8_leftOf) rfl hdX8_leftOf ⟨by decide, by decide, rfl, rfl, hab.1, hab.2⟩ (show Ct l yX8_leftOf wsX8_leftOf _ D w [.ref (w.2.1 134), .int (sc xs i 1), .int (sc xs i 2)] (M1, J1, R1) _ from C8_leftOf hw ho rM) (by rw [hw]; decide) rfl (by decide) rfl rfl (Nat.le_of_ble_eq_true rfl) dL_law_505 (fun v2 M2 J2 R2 p => ?_)
  obtain ⟨e2, rN, l1, l2, l3⟩ := p
  subst e2
  have l1 : loS M1 M2 := l1
  have l2 : loS J1 J2 := l2
  have l3 : loS R1 R2 := l3
  have hs := ho
  refine g_icmp_eq (tgt := 902) C dL_law_508 (by decide) (fun _ => ?_) (fun e => absurd rfl e)
  exact K M2 J2 R2 _ hs (repC.f rC (fun x y q _ _ => l1 x y q) (fun y => l2 9 y (by decide)) l3 hs.2.2.1) rN

set_option maxHeartbeats 4000000 in
set_option maxRecDepth 100000 in
theorem lw_c13 (C : Cx X RL cL_law) (hts : ∀ q ∈ lw_tbl, CB X q) (V : Cv X l D room_1 4 nm) (hab : a ≤ 600000 ∧ b ≤ 7302250) (hq : va_X q L xs (x_s X) (x_s X).heap ∧ ¬ x_A X q) (hw : w.1 = 166) (hi : ∀ n : Int32, ¬ n < 0 → n < 6 → vp_in (i + n) L) (ho : okSt s) (h1 : repC M J R s) (h2 : repM M J R s) (K : lwK X a b w q i) : Gj X a b w M J R 513 (lwL w q i) [] := by
  refine g_aload_n C dL_law_513 rfl ?_
  refine g_aload_n C dL_law_514 rfl ?_
  refine g_iload_n C dL_law_515 rfl ?_
  refine g_iconst (v := 1) C dL_law_516 (by decide) ?_
  refine g_iadd C dL_law_517 ?_
  refine g_sld (v := sc xs i 1) C hq (hi 1 (by decide) (by decide)) rfl dL_law_518 ?_
  refine g_callVt C hts V (ci := 7) (i := 0) (gw_V tw_758 tw_798 tw_799 tw_136 twl_X7_heaps) rfl hdX7_heaps ⟨by decide, by decide, rfl, rfl, hab.1, hab.2⟩ (show Ct l yX7_heaps wsX7_heaps _ D w [.ref (w.2.1 0), .int (sc xs i 1)] (M, J, R) _ from C7_heaps hw ho h1) (by rw [hw]; decide) rfl (by decide) rfl rfl (Nat.le_of_ble_eq_true rfl) dL_law_519 (fun v1 M1 J1 R1 p => ?_)
  obtain ⟨e1, rC, m1, m2, m3⟩ := p
  subst e1
  have m1 : hiS M M1 := m1
  have m3 : hiS R R1 := m3
  have rM : repM M1 J1 R1 s := h2.f (fun x y q _ _ _ _ => m1 x y q) m3
  refine g_aload_n C dL_law_522 rfl ?_
  refine g_aload_n C dL_law_523 rfl ?_
  refine g_iload_n C dL_law_524 rfl ?_
  refine g_iconst (v := 1) C dL_law_525 (by decide) ?_
  refine g_iadd C dL_law_526 ?_
  refine g_sld (v := sc xs i 1) C hq (hi 1 (by decide) (by decide)) rfl dL_law_527 ?_
  refine g_callVt C hts V (ci := 8) (i := 134) (gw_V tw_759 tw_848 tw_849 tw_537 twl_X8_heaps) rfl hdX8_heaps ⟨by decide, by decide, rfl, rfl, hab.1, hab.2⟩ (show Ct l yX8_heaps wsX8_heaps _ D w [.ref (w.2.1 134), .int (sc xs i 1)] (M1, J1, R1) _ from C8_heaps hw ho rM) (by rw [hw]; decide) rfl (by decide) rfl rfl (Nat.le_of_ble_eq_true rfl) dL_law_528 (fun v2 M2 J2 R2 p => ?_)
  obtain ⟨e2, rN, l1, l2, l3⟩ := p
  subst e2
  have l1 : loS M1 M2 := l1
  have l2 : loS J1 J2 := l2
  have l3 : loS R1 R2 := l3
  have hs := ho
  refine g_icmp_eq (tgt := 902) C dL_law_531 (by decide) (fun _ => ?_) (fun e => absurd rfl e)
  exact K M2 J2 R2 _ hs (repC.f rC (fun x y q _ _ => l1 x y q) (fun y => l2 9 y (by decide)) l3 hs.2.2.1) rN

set_option maxHeartbeats 4000000 in
set_option maxRecDepth 100000 in
theorem lw_c14 (C : Cx X RL cL_law) (hts : ∀ q ∈ lw_tbl, CB X q) (V : Cv X l D room_1 4 nm) (hab : a ≤ 600000 ∧ b ≤ 7302250) (hq : va_X q L xs (x_s X) (x_s X).heap ∧ ¬ x_A X q) (hw : w.1 = 166) (hi : ∀ n : Int32, ¬ n < 0 → n < 6 → vp_in (i + n) L) (ho : okSt s) (h1 : repC M J R s) (h2 : repM M J R s) (K : lwK X a b w q i) : Gj X a b w M J R 536 (lwL w q i) [] := by
  refine g_aload_n C dL_law_536 rfl ?_
  refine g_aload_n C dL_law_537 rfl ?_
  refine g_iload_n C dL_law_538 rfl ?_
  refine g_iconst (v := 1) C dL_law_539 (by decide) ?_
  refine g_iadd C dL_law_540 ?_
  refine g_sld (v := sc xs i 1) C hq (hi 1 (by decide) (by decide)) rfl dL_law_541 ?_
  refine g_aload_n C dL_law_542 rfl ?_
  refine g_iload_n C dL_law_543 rfl ?_
  refine g_iconst (v := 2) C dL_law_544 (by decide) ?_
  refine g_iadd C dL_law_545 ?_
  refine g_sld (v := sc xs i 2) C hq (hi 2 (by decide) (by decide)) rfl dL_law_546 ?_
  refine g_aload_n C dL_law_547 rfl ?_
  refine g_iload_n C dL_law_548 rfl ?_
  refine g_iconst (v := 3) C dL_law_549 (by decide) ?_
  refine g_iadd C dL_law_550 ?_
  refine g_sld (v := sc xs i 3) C hq (hi 3 (by decide) (by decide)) rfl dL_law_551 ?_
  refine g_callVt C hts V (ci := 7) (i := 0) (gw_V tw_760 tw_794 tw_795 tw_136 twl_X7_heap) rfl hdX7_heap ⟨by decide, by decide, rfl, rfl, hab.1, hab.2⟩ (show Ct l yX7_heap wsX7_heap _ D w [.ref (w.2.1 0), .int (sc xs i 1), .int (sc xs i 2), .int (sc xs i 3)] (M, J, R) _ from C7_heap hw ho h1) (by rw [hw]; decide) rfl (by decide) rfl rfl (Nat.le_of_ble_eq_true rfl) dL_law_552 (fun v1 M1 J1 R1 p => ?_)
  obtain ⟨e1, rC, m1, m2, m3⟩ := p
  subst e1
  have m1 : hiS M M1 := m1
  have m3 : hiS R R1 := m3
  have rM : repM M1 J1 R1 s := h2.f (fun x y q _ _ _ _ => m1 x y q) m3
  refine g_aload_n C dL_law_555 rfl ?_
  refine g_aload_n C dL_law_556 rfl ?_
  refine g_iload_n C dL_law_557 rfl ?_
  refine g_iconst (v := 1) C dL_law_558 (by decide) ?_
  refine g_iadd C dL_law_559 ?_
  refine g_sld (v := sc xs i 1) C hq (hi 1 (by decide) (by decide)) rfl dL_law_560 ?_
  refine g_aload_n C dL_law_561 rfl ?_
  refine g_iload_n C dL_law_562 rfl ?_
  refine g_iconst (v := 2) C dL_law_563 (by decide) ?_
  refine g_iadd C dL_law_564 ?_
  refine g_sld (v := sc xs i 2) C hq (hi 2 (by decide) (by decide)) rfl dL_law_565 ?_
  refine g_aload_n C dL_law_566 rfl ?_
  refine g_iload_n C dL_law_567 rfl ?_
  refine g_iconst (v := 3) C dL_law_568 (by decide) ?_
  refine g_iadd C dL_law_569 ?_
  refine g_sld (v := sc xs i 3) C hq (hi 3 (by decide) (by decide)) rfl dL_law_570 ?_
  refine g_callVt C hts V (ci := 8) (i := 134) (gw_V tw_761 tw_844 tw_845 tw_537 twl_X8_heap) rfl hdX8_heap ⟨by decide, by decide, rfl, rfl, hab.1, hab.2⟩ (show Ct l yX8_heap wsX8_heap _ D w [.ref (w.2.1 134), .int (sc xs i 1), .int (sc xs i 2), .int (sc xs i 3)] (M1, J1, R1) _ from C8_heap hw ho rM) (by rw [hw]; decide) rfl (by decide) rfl rfl (Nat.le_of_ble_eq_true rfl) dL_law_571 (fun v2 M2 J2 R2 p => ?_)
  obtain ⟨e2, rN, l1, l2, l3⟩ := p
  subst e2
  have l1 : loS M1 M2 := l1
  have l2 : loS J1 J2 := l2
  have l3 : loS R1 R2 := l3
  have hs := ho
  refine g_icmp_eq (tgt := 902) C dL_law_574 (by decide) (fun _ => ?_) (fun e => absurd rfl e)
  exact K M2 J2 R2 _ hs (repC.f rC (fun x y q _ _ => l1 x y q) (fun y => l2 9 y (by decide)) l3 hs.2.2.1) rN

set_option maxHeartbeats 4000000 in
set_option maxRecDepth 100000 in
theorem lw_c15 (C : Cx X RL cL_law) (hts : ∀ q ∈ lw_tbl, CB X q) (V : Cv X l D room_1 4 nm) (hab : a ≤ 600000 ∧ b ≤ 7302250) (hq : va_X q L xs (x_s X) (x_s X).heap ∧ ¬ x_A X q) (hw : w.1 = 166) (hi : ∀ n : Int32, ¬ n < 0 → n < 6 → vp_in (i + n) L) (ho : okSt s) (h1 : repC M J R s) (h2 : repM M J R s) (K : lwK X a b w q i) : Gj X a b w M J R 579 (lwL w q i) [] := by
  refine g_aload_n C dL_law_579 rfl ?_
  refine g_aload_n C dL_law_580 rfl ?_
  refine g_iload_n C dL_law_581 rfl ?_
  refine g_iconst (v := 1) C dL_law_582 (by decide) ?_
  refine g_iadd C dL_law_583 ?_
  refine g_sld (v := sc xs i 1) C hq (hi 1 (by decide) (by decide)) rfl dL_law_584 ?_
  refine g_aload_n C dL_law_585 rfl ?_
  refine g_iload_n C dL_law_586 rfl ?_
  refine g_iconst (v := 2) C dL_law_587 (by decide) ?_
  refine g_iadd C dL_law_588 ?_
  refine g_sld (v := sc xs i 2) C hq (hi 2 (by decide) (by decide)) rfl dL_law_589 ?_
  refine g_callVt C hts V (ci := 7) (i := 0) (gw_V tw_762 tw_796 tw_797 tw_136 twl_X7_heapOf) rfl hdX7_heapOf ⟨by decide, by decide, rfl, rfl, hab.1, hab.2⟩ (show Ct l yX7_heapOf wsX7_heapOf _ D w [.ref (w.2.1 0), .int (sc xs i 1), .int (sc xs i 2)] (M, J, R) _ from C7_heapOf hw ho h1) (by rw [hw]; decide) rfl (by decide) rfl rfl (Nat.le_of_ble_eq_true rfl) dL_law_590 (fun v1 M1 J1 R1 p => ?_)
  obtain ⟨e1, rC, m1, m2, m3⟩ := p
  subst e1
  have m1 : hiS M M1 := m1
  have m3 : hiS R R1 := m3
  have rM : repM M1 J1 R1 s := h2.f (fun x y q _ _ _ _ => m1 x y q) m3
  refine g_aload_n C dL_law_593 rfl ?_
  refine g_aload_n C dL_law_594 rfl ?_
  refine g_iload_n C dL_law_595 rfl ?_
  refine g_iconst (v := 1) C dL_law_596 (by decide) ?_
  refine g_iadd C dL_law_597 ?_
  refine g_sld (v := sc xs i 1) C hq (hi 1 (by decide) (by decide)) rfl dL_law_598 ?_
  refine g_aload_n C dL_law_599 rfl ?_
  refine g_iload_n C dL_law_600 rfl ?_
  refine g_iconst (v := 2) C dL_law_601 (by decide) ?_
  refine g_iadd C dL_law_602 ?_
  refine g_sld (v := sc xs i 2) C hq (hi 2 (by decide) (by decide)) rfl dL_law_603 ?_
  refine g_callVt C hts V (ci := 8) (i := 134) (gw_V tw_763 tw_846 tw_847 tw_537 twl_X8_heapOf) rfl hdX8_heapOf ⟨by decide, by decide, rfl, rfl, hab.1, hab.2⟩ (show Ct l yX8_heapOf wsX8_heapOf _ D w [.ref (w.2.1 134), .int (sc xs i 1), .int (sc xs i 2)] (M1, J1, R1) _ from C8_heapOf hw ho rM) (by rw [hw]; decide) rfl (by decide) rfl rfl (Nat.le_of_ble_eq_true rfl) dL_law_604 (fun v2 M2 J2 R2 p => ?_)
  obtain ⟨e2, rN, l1, l2, l3⟩ := p
  subst e2
  have l1 : loS M1 M2 := l1
  have l2 : loS J1 J2 := l2
  have l3 : loS R1 R2 := l3
  have hs := ho
  refine g_icmp_eq (tgt := 902) C dL_law_607 (by decide) (fun _ => ?_) (fun e => absurd rfl e)
  exact K M2 J2 R2 _ hs (repC.f rC (fun x y q _ _ => l1 x y q) (fun y => l2 9 y (by decide)) l3 hs.2.2.1) rN

set_option maxHeartbeats 4000000 in
set_option maxRecDepth 100000 in
theorem lw_c16 (C : Cx X RL cL_law) (hts : ∀ q ∈ lw_tbl, CB X q) (V : Cv X l D room_1 4 nm) (hab : a ≤ 600000 ∧ b ≤ 7302250) (hq : va_X q L xs (x_s X) (x_s X).heap ∧ ¬ x_A X q) (hw : w.1 = 166) (hi : ∀ n : Int32, ¬ n < 0 → n < 6 → vp_in (i + n) L) (ho : okSt s) (h1 : repC M J R s) (h2 : repM M J R s) (K : lwK X a b w q i) : Gj X a b w M J R 612 (lwL w q i) [] := by
  refine g_aload_n C dL_law_612 rfl ?_
  refine g_aload_n C dL_law_613 rfl ?_
  refine g_iload_n C dL_law_614 rfl ?_
  refine g_iconst (v := 1) C dL_law_615 (by decide) ?_
  refine g_iadd C dL_law_616 ?_
  refine g_sld (v := sc xs i 1) C hq (hi 1 (by decide) (by decide)) rfl dL_law_617 ?_
  refine g_aload_n C dL_law_618 rfl ?_
  refine g_iload_n C dL_law_619 rfl ?_
  refine g_iconst (v := 2) C dL_law_620 (by decide) ?_
  refine g_iadd C dL_law_621 ?_
  refine g_sld (v := sc xs i 2) C hq (hi 2 (by decide) (by decide)) rfl dL_law_622 ?_
  refine g_callVt C hts V (ci := 7) (i := 0) (gw_V tw_764 tw_822 tw_823 tw_136 twl_X7_small) rfl hdX7_small ⟨by decide, by decide, rfl, rfl, hab.1, hab.2⟩ (show Ct l yX7_small wsX7_small _ D w [.ref (w.2.1 0), .int (sc xs i 1), .int (sc xs i 2)] (M, J, R) _ from C7_small hw ho h1) (by rw [hw]; decide) rfl (by decide) rfl rfl (Nat.le_of_ble_eq_true rfl) dL_law_623 (fun v1 M1 J1 R1 p => ?_)
  obtain ⟨e1, rC, m1, m2, m3⟩ := p
  subst e1
  have m1 : hiS M M1 := m1
  have m3 : hiS R R1 := m3
  have rM : repM M1 J1 R1 s := h2.f (fun x y q _ _ _ _ => m1 x y q) m3
  refine g_aload_n C dL_law_626 rfl ?_
  refine g_aload_n C dL_law_627 rfl ?_
  refine g_iload_n C dL_law_628 rfl ?_
  refine g_iconst (v := 1) C dL_law_629 (by decide) ?_
  refine g_iadd C dL_law_630 ?_
  refine g_sld (v := sc xs i 1) C hq (hi 1 (by decide) (by decide)) rfl dL_law_631 ?_
  refine g_aload_n C dL_law_632 rfl ?_
  refine g_iload_n C dL_law_633 rfl ?_
  refine g_iconst (v := 2) C dL_law_634 (by decide) ?_
  refine g_iadd C dL_law_635 ?_
  refine g_sld (v := sc xs i 2) C hq (hi 2 (by decide) (by decide)) rfl dL_law_636 ?_
  refine g_callVt C hts V (ci := 8) (i := 134) (gw_V tw_765 tw_870 tw_871 tw_537 twl_X8_small) rfl hdX8_small ⟨by decide, by decide, rfl, rfl, hab.1, hab.2⟩ (show Ct l yX8_small wsX8_small _ D w [.ref (w.2.1 134), .int (sc xs i 1), .int (sc xs i 2)] (M1, J1, R1) _ from C8_small hw ho rM) (by rw [hw]; decide) rfl (by decide) rfl rfl (Nat.le_of_ble_eq_true rfl) dL_law_637 (fun v2 M2 J2 R2 p => ?_)
  obtain ⟨e2, rN, l1, l2, l3⟩ := p
  subst e2
  have l1 : loS M1 M2 := l1
  have l2 : loS J1 J2 := l2
  have l3 : loS R1 R2 := l3
  have hs := (ok_small ho (sc xs i 1) (sc xs i 2))
  refine g_icmp_eq (tgt := 902) C dL_law_640 (by decide) (fun _ => ?_) (fun e => absurd rfl e)
  exact K M2 J2 R2 _ hs (repC.f rC (fun x y q _ _ => l1 x y q) (fun y => l2 9 y (by decide)) l3 hs.2.2.1) rN

set_option maxHeartbeats 4000000 in
set_option maxRecDepth 100000 in
theorem lw_c17 (C : Cx X RL cL_law) (hts : ∀ q ∈ lw_tbl, CB X q) (V : Cv X l D room_1 4 nm) (hab : a ≤ 600000 ∧ b ≤ 7302250) (hq : va_X q L xs (x_s X) (x_s X).heap ∧ ¬ x_A X q) (hw : w.1 = 166) (hi : ∀ n : Int32, ¬ n < 0 → n < 6 → vp_in (i + n) L) (ho : okSt s) (h1 : repC M J R s) (h2 : repM M J R s) (K : lwK X a b w q i) : Gj X a b w M J R 645 (lwL w q i) [] := by
  refine g_aload_n C dL_law_645 rfl ?_
  refine g_aload_n C dL_law_646 rfl ?_
  refine g_iload_n C dL_law_647 rfl ?_
  refine g_iconst (v := 1) C dL_law_648 (by decide) ?_
  refine g_iadd C dL_law_649 ?_
  refine g_sld (v := sc xs i 1) C hq (hi 1 (by decide) (by decide)) rfl dL_law_650 ?_
  refine g_aload_n C dL_law_651 rfl ?_
  refine g_iload_n C dL_law_652 rfl ?_
  refine g_iconst (v := 2) C dL_law_653 (by decide) ?_
  refine g_iadd C dL_law_654 ?_
  refine g_sld (v := sc xs i 2) C hq (hi 2 (by decide) (by decide)) rfl dL_law_655 ?_
  refine g_if_eq C dL_law_656 (tgt := 663) (by decide) (fun ez => ?_) (fun ez => ?_)
  · refine g_iconst (v := 0) C dL_law_663 (by decide) ?_
    refine g_callVt C hts V (ci := 7) (i := 0) (gw_V tw_766 tw_824 tw_825 tw_136 twl_X7_smallByte) rfl hdX7_smallByte ⟨by decide, by decide, rfl, rfl, hab.1, hab.2⟩ (show Ct l yX7_smallByte wsX7_smallByte _ D w [.ref (w.2.1 0), .int (sc xs i 1), .int 0] (M, J, R) _ from C7_smallByte hw ho h1) (by rw [hw]; decide) rfl (by decide) rfl rfl (Nat.le_of_ble_eq_true rfl) dL_law_664 (fun v1 M1 J1 R1 p => ?_)
    obtain ⟨e1, rC, m1, m2, m3⟩ := p
    subst e1
    have m1 : hiS M M1 := m1
    have m3 : hiS R R1 := m3
    have rM : repM M1 J1 R1 s := h2.f (fun x y q _ _ _ _ => m1 x y q) m3
    refine g_aload_n C dL_law_667 rfl ?_
    refine g_aload_n C dL_law_668 rfl ?_
    refine g_iload_n C dL_law_669 rfl ?_
    refine g_iconst (v := 1) C dL_law_670 (by decide) ?_
    refine g_iadd C dL_law_671 ?_
    refine g_sld (v := sc xs i 1) C hq (hi 1 (by decide) (by decide)) rfl dL_law_672 ?_
    refine g_aload_n C dL_law_673 rfl ?_
    refine g_iload_n C dL_law_674 rfl ?_
    refine g_iconst (v := 2) C dL_law_675 (by decide) ?_
    refine g_iadd C dL_law_676 ?_
    refine g_sld (v := sc xs i 2) C hq (hi 2 (by decide) (by decide)) rfl dL_law_677 ?_
    refine g_if_eq C dL_law_678 (tgt := 685) (by decide) (fun _ => ?_) (fun e => absurd ez e)
    refine g_iconst (v := 0) C dL_law_685 (by decide) ?_
    refine g_callVt C hts V (ci := 8) (i := 134) (gw_V tw_767 tw_872 tw_873 tw_537 twl_X8_smallByte) rfl hdX8_smallByte ⟨by decide, by decide, rfl, rfl, hab.1, hab.2⟩ (show Ct l yX8_smallByte wsX8_smallByte _ D w [.ref (w.2.1 134), .int (sc xs i 1), .int 0] (M1, J1, R1) _ from C8_smallByte hw ho rM) (by rw [hw]; decide) rfl (by decide) rfl rfl (Nat.le_of_ble_eq_true rfl) dL_law_686 (fun v2 M2 J2 R2 p => ?_)
    obtain ⟨e2, rN, l1, l2, l3⟩ := p
    subst e2
    have l1 : loS M1 M2 := l1
    have l2 : loS J1 J2 := l2
    have l3 : loS R1 R2 := l3
    have hs := ho
    refine g_icmp_eq (tgt := 902) C dL_law_689 (by decide) (fun _ => ?_) (fun e => absurd rfl e)
    exact K M2 J2 R2 _ hs (repC.f rC (fun x y q _ _ => l1 x y q) (fun y => l2 9 y (by decide)) l3 hs.2.2.1) rN
  · refine g_iconst (v := 1) C dL_law_659 (by decide) ?_
    refine g_goto (tgt := 664) C dL_law_660 (by decide) ?_
    refine g_callVt C hts V (ci := 7) (i := 0) (gw_V tw_766 tw_824 tw_825 tw_136 twl_X7_smallByte) rfl hdX7_smallByte ⟨by decide, by decide, rfl, rfl, hab.1, hab.2⟩ (show Ct l yX7_smallByte wsX7_smallByte _ D w [.ref (w.2.1 0), .int (sc xs i 1), .int 1] (M, J, R) _ from C7_smallByte hw ho h1) (by rw [hw]; decide) rfl (by decide) rfl rfl (Nat.le_of_ble_eq_true rfl) dL_law_664 (fun v1 M1 J1 R1 p => ?_)
    obtain ⟨e1, rC, m1, m2, m3⟩ := p
    subst e1
    have m1 : hiS M M1 := m1
    have m3 : hiS R R1 := m3
    have rM : repM M1 J1 R1 s := h2.f (fun x y q _ _ _ _ => m1 x y q) m3
    refine g_aload_n C dL_law_667 rfl ?_
    refine g_aload_n C dL_law_668 rfl ?_
    refine g_iload_n C dL_law_669 rfl ?_
    refine g_iconst (v := 1) C dL_law_670 (by decide) ?_
    refine g_iadd C dL_law_671 ?_
    refine g_sld (v := sc xs i 1) C hq (hi 1 (by decide) (by decide)) rfl dL_law_672 ?_
    refine g_aload_n C dL_law_673 rfl ?_
    refine g_iload_n C dL_law_674 rfl ?_
    refine g_iconst (v := 2) C dL_law_675 (by decide) ?_
    refine g_iadd C dL_law_676 ?_
    refine g_sld (v := sc xs i 2) C hq (hi 2 (by decide) (by decide)) rfl dL_law_677 ?_
    refine g_if_eq C dL_law_678 (tgt := 685) (by decide) (fun e => absurd e ez) (fun _ => ?_)
    refine g_iconst (v := 1) C dL_law_681 (by decide) ?_
    refine g_goto (tgt := 686) C dL_law_682 (by decide) ?_
    refine g_callVt C hts V (ci := 8) (i := 134) (gw_V tw_767 tw_872 tw_873 tw_537 twl_X8_smallByte) rfl hdX8_smallByte ⟨by decide, by decide, rfl, rfl, hab.1, hab.2⟩ (show Ct l yX8_smallByte wsX8_smallByte _ D w [.ref (w.2.1 134), .int (sc xs i 1), .int 1] (M1, J1, R1) _ from C8_smallByte hw ho rM) (by rw [hw]; decide) rfl (by decide) rfl rfl (Nat.le_of_ble_eq_true rfl) dL_law_686 (fun v2 M2 J2 R2 p => ?_)
    obtain ⟨e2, rN, l1, l2, l3⟩ := p
    subst e2
    have l1 : loS M1 M2 := l1
    have l2 : loS J1 J2 := l2
    have l3 : loS R1 R2 := l3
    have hs := ho
    refine g_icmp_eq (tgt := 902) C dL_law_689 (by decide) (fun _ => ?_) (fun e => absurd rfl e)
    exact K M2 J2 R2 _ hs (repC.f rC (fun x y q _ _ => l1 x y q) (fun y => l2 9 y (by decide)) l3 hs.2.2.1) rN

set_option maxHeartbeats 4000000 in
set_option maxRecDepth 100000 in
theorem lw_c18 (C : Cx X RL cL_law) (hts : ∀ q ∈ lw_tbl, CB X q) (V : Cv X l D room_1 4 nm) (hab : a ≤ 600000 ∧ b ≤ 7302250) (hq : va_X q L xs (x_s X) (x_s X).heap ∧ ¬ x_A X q) (hw : w.1 = 166) (hi : ∀ n : Int32, ¬ n < 0 → n < 6 → vp_in (i + n) L) (ho : okSt s) (h1 : repC M J R s) (h2 : repM M J R s) (K : lwK X a b w q i) : Gj X a b w M J R 694 (lwL w q i) [] := by
  refine g_aload_n C dL_law_694 rfl ?_
  refine g_aload_n C dL_law_695 rfl ?_
  refine g_iload_n C dL_law_696 rfl ?_
  refine g_iconst (v := 1) C dL_law_697 (by decide) ?_
  refine g_iadd C dL_law_698 ?_
  refine g_sld (v := sc xs i 1) C hq (hi 1 (by decide) (by decide)) rfl dL_law_699 ?_
  refine g_aload_n C dL_law_700 rfl ?_
  refine g_iload_n C dL_law_701 rfl ?_
  refine g_iconst (v := 2) C dL_law_702 (by decide) ?_
  refine g_iadd C dL_law_703 ?_
  refine g_sld (v := sc xs i 2) C hq (hi 2 (by decide) (by decide)) rfl dL_law_704 ?_
  refine g_callVt C hts V (ci := 7) (i := 0) (gw_V tw_768 tw_818 tw_819 tw_136 twl_X7_ruled) rfl hdX7_ruled ⟨by decide, by decide, rfl, rfl, hab.1, hab.2⟩ (show Ct l yX7_ruled wsX7_ruled _ D w [.ref (w.2.1 0), .int (sc xs i 1), .int (sc xs i 2)] (M, J, R) _ from C7_ruled hw ho h1) (by rw [hw]; decide) rfl (by decide) rfl rfl (Nat.le_of_ble_eq_true rfl) dL_law_705 (fun v1 M1 J1 R1 p => ?_)
  obtain ⟨e1, rC, m1, m2, m3⟩ := p
  subst e1
  have m1 : hiS M M1 := m1
  have m3 : hiS R R1 := m3
  have rM : repM M1 J1 R1 s := h2.f (fun x y q _ _ _ _ => m1 x y q) m3
  refine g_aload_n C dL_law_708 rfl ?_
  refine g_aload_n C dL_law_709 rfl ?_
  refine g_iload_n C dL_law_710 rfl ?_
  refine g_iconst (v := 1) C dL_law_711 (by decide) ?_
  refine g_iadd C dL_law_712 ?_
  refine g_sld (v := sc xs i 1) C hq (hi 1 (by decide) (by decide)) rfl dL_law_713 ?_
  refine g_aload_n C dL_law_714 rfl ?_
  refine g_iload_n C dL_law_715 rfl ?_
  refine g_iconst (v := 2) C dL_law_716 (by decide) ?_
  refine g_iadd C dL_law_717 ?_
  refine g_sld (v := sc xs i 2) C hq (hi 2 (by decide) (by decide)) rfl dL_law_718 ?_
  refine g_callVt C hts V (ci := 8) (i := 134) (gw_V tw_769 tw_866 tw_867 tw_537 twl_X8_ruled) rfl hdX8_ruled ⟨by decide, by decide, rfl, rfl, hab.1, hab.2⟩ (show Ct l yX8_ruled wsX8_ruled _ D w [.ref (w.2.1 134), .int (sc xs i 1), .int (sc xs i 2)] (M1, J1, R1) _ from C8_ruled hw ho rM) (by rw [hw]; decide) rfl (by decide) rfl rfl (Nat.le_of_ble_eq_true rfl) dL_law_719 (fun v2 M2 J2 R2 p => ?_)
  obtain ⟨e2, rN, l1, l2, l3⟩ := p
  subst e2
  have l1 : loS M1 M2 := l1
  have l2 : loS J1 J2 := l2
  have l3 : loS R1 R2 := l3
  have hs := ho
  refine g_icmp_eq (tgt := 902) C dL_law_722 (by decide) (fun _ => ?_) (fun e => absurd rfl e)
  exact K M2 J2 R2 _ hs (repC.f rC (fun x y q _ _ => l1 x y q) (fun y => l2 9 y (by decide)) l3 hs.2.2.1) rN

set_option maxHeartbeats 4000000 in
set_option maxRecDepth 100000 in
theorem lw_c19 (C : Cx X RL cL_law) (hts : ∀ q ∈ lw_tbl, CB X q) (V : Cv X l D room_1 4 nm) (hab : a ≤ 600000 ∧ b ≤ 7302250) (hq : va_X q L xs (x_s X) (x_s X).heap ∧ ¬ x_A X q) (hw : w.1 = 166) (hi : ∀ n : Int32, ¬ n < 0 → n < 6 → vp_in (i + n) L) (ho : okSt s) (h1 : repC M J R s) (h2 : repM M J R s) (K : lwK X a b w q i) : Gj X a b w M J R 727 (lwL w q i) [] := by
  refine g_aload_n C dL_law_727 rfl ?_
  refine g_aload_n C dL_law_728 rfl ?_
  refine g_iload_n C dL_law_729 rfl ?_
  refine g_iconst (v := 1) C dL_law_730 (by decide) ?_
  refine g_iadd C dL_law_731 ?_
  refine g_sld (v := sc xs i 1) C hq (hi 1 (by decide) (by decide)) rfl dL_law_732 ?_
  refine g_aload_n C dL_law_733 rfl ?_
  refine g_iload_n C dL_law_734 rfl ?_
  refine g_iconst (v := 2) C dL_law_735 (by decide) ?_
  refine g_iadd C dL_law_736 ?_
  refine g_sld (v := sc xs i 2) C hq (hi 2 (by decide) (by decide)) rfl dL_law_737 ?_
  refine g_callVt C hts V (ci := 7) (i := 0) (gw_V tw_770 tw_810 tw_811 tw_136 twl_X7_nearest) rfl hdX7_nearest ⟨by decide, by decide, rfl, rfl, hab.1, hab.2⟩ (show Ct l yX7_nearest wsX7_nearest _ D w [.ref (w.2.1 0), .int (sc xs i 1), .int (sc xs i 2)] (M, J, R) _ from C7_nearest hw ho h1) (by rw [hw]; decide) rfl (by decide) rfl rfl (Nat.le_of_ble_eq_true rfl) dL_law_738 (fun v1 M1 J1 R1 p => ?_)
  obtain ⟨e1, rC, m1, m2, m3⟩ := p
  subst e1
  have m1 : hiS M M1 := m1
  have m3 : hiS R R1 := m3
  have rM : repM M1 J1 R1 s := h2.f (fun x y q _ _ _ _ => m1 x y q) m3
  refine g_aload_n C dL_law_741 rfl ?_
  refine g_aload_n C dL_law_742 rfl ?_
  refine g_iload_n C dL_law_743 rfl ?_
  refine g_iconst (v := 1) C dL_law_744 (by decide) ?_
  refine g_iadd C dL_law_745 ?_
  refine g_sld (v := sc xs i 1) C hq (hi 1 (by decide) (by decide)) rfl dL_law_746 ?_
  refine g_aload_n C dL_law_747 rfl ?_
  refine g_iload_n C dL_law_748 rfl ?_
  refine g_iconst (v := 2) C dL_law_749 (by decide) ?_
  refine g_iadd C dL_law_750 ?_
  refine g_sld (v := sc xs i 2) C hq (hi 2 (by decide) (by decide)) rfl dL_law_751 ?_
  refine g_callVt C hts V (ci := 8) (i := 134) (gw_V tw_771 tw_858 tw_859 tw_537 twl_X8_nearest) rfl hdX8_nearest ⟨by decide, by decide, rfl, rfl, hab.1, hab.2⟩ (show Ct l yX8_nearest wsX8_nearest _ D w [.ref (w.2.1 134), .int (sc xs i 1), .int (sc xs i 2)] (M1, J1, R1) _ from C8_nearest hw ho rM) (by rw [hw]; decide) rfl (by decide) rfl rfl (Nat.le_of_ble_eq_true rfl) dL_law_752 (fun v2 M2 J2 R2 p => ?_)
  obtain ⟨e2, rN, l1, l2, l3⟩ := p
  subst e2
  have l1 : loS M1 M2 := l1
  have l2 : loS J1 J2 := l2
  have l3 : loS R1 R2 := l3
  have hs := ho
  refine g_icmp_eq (tgt := 902) C dL_law_755 (by decide) (fun _ => ?_) (fun e => absurd rfl e)
  exact K M2 J2 R2 _ hs (repC.f rC (fun x y q _ _ => l1 x y q) (fun y => l2 9 y (by decide)) l3 hs.2.2.1) rN

set_option maxHeartbeats 4000000 in
set_option maxRecDepth 100000 in
theorem lw_c20 (C : Cx X RL cL_law) (hts : ∀ q ∈ lw_tbl, CB X q) (V : Cv X l D room_1 4 nm) (hab : a ≤ 600000 ∧ b ≤ 7302250) (hq : va_X q L xs (x_s X) (x_s X).heap ∧ ¬ x_A X q) (hw : w.1 = 166) (hi : ∀ n : Int32, ¬ n < 0 → n < 6 → vp_in (i + n) L) (ho : okSt s) (h1 : repC M J R s) (h2 : repM M J R s) (K : lwK X a b w q i) : Gj X a b w M J R 760 (lwL w q i) [] := by
  refine g_aload_n C dL_law_760 rfl ?_
  refine g_aload_n C dL_law_761 rfl ?_
  refine g_iload_n C dL_law_762 rfl ?_
  refine g_iconst (v := 1) C dL_law_763 (by decide) ?_
  refine g_iadd C dL_law_764 ?_
  refine g_sld (v := sc xs i 1) C hq (hi 1 (by decide) (by decide)) rfl dL_law_765 ?_
  refine g_aload_n C dL_law_766 rfl ?_
  refine g_iload_n C dL_law_767 rfl ?_
  refine g_iconst (v := 2) C dL_law_768 (by decide) ?_
  refine g_iadd C dL_law_769 ?_
  refine g_sld (v := sc xs i 2) C hq (hi 2 (by decide) (by decide)) rfl dL_law_770 ?_
  refine g_callVt C hts V (ci := 7) (i := 0) (gw_V tw_772 tw_812 tw_813 tw_136 twl_X7_nearestByte) rfl hdX7_nearestByte ⟨by decide, by decide, rfl, rfl, hab.1, hab.2⟩ (show Ct l yX7_nearestByte wsX7_nearestByte _ D w [.ref (w.2.1 0), .int (sc xs i 1), .int (sc xs i 2)] (M, J, R) _ from C7_nearestByte hw ho h1) (by rw [hw]; decide) rfl (by decide) rfl rfl (Nat.le_of_ble_eq_true rfl) dL_law_771 (fun v1 M1 J1 R1 p => ?_)
  obtain ⟨e1, rC, m1, m2, m3⟩ := p
  subst e1
  have m1 : hiS M M1 := m1
  have m3 : hiS R R1 := m3
  have rM : repM M1 J1 R1 s := h2.f (fun x y q _ _ _ _ => m1 x y q) m3
  refine g_aload_n C dL_law_774 rfl ?_
  refine g_aload_n C dL_law_775 rfl ?_
  refine g_iload_n C dL_law_776 rfl ?_
  refine g_iconst (v := 1) C dL_law_777 (by decide) ?_
  refine g_iadd C dL_law_778 ?_
  refine g_sld (v := sc xs i 1) C hq (hi 1 (by decide) (by decide)) rfl dL_law_779 ?_
  refine g_aload_n C dL_law_780 rfl ?_
  refine g_iload_n C dL_law_781 rfl ?_
  refine g_iconst (v := 2) C dL_law_782 (by decide) ?_
  refine g_iadd C dL_law_783 ?_
  refine g_sld (v := sc xs i 2) C hq (hi 2 (by decide) (by decide)) rfl dL_law_784 ?_
  refine g_callVt C hts V (ci := 8) (i := 134) (gw_V tw_773 tw_860 tw_861 tw_537 twl_X8_nearestByte) rfl hdX8_nearestByte ⟨by decide, by decide, rfl, rfl, hab.1, hab.2⟩ (show Ct l yX8_nearestByte wsX8_nearestByte _ D w [.ref (w.2.1 134), .int (sc xs i 1), .int (sc xs i 2)] (M1, J1, R1) _ from C8_nearestByte hw ho rM) (by rw [hw]; decide) rfl (by decide) rfl rfl (Nat.le_of_ble_eq_true rfl) dL_law_785 (fun v2 M2 J2 R2 p => ?_)
  obtain ⟨e2, rN, l1, l2, l3⟩ := p
  subst e2
  have l1 : loS M1 M2 := l1
  have l2 : loS J1 J2 := l2
  have l3 : loS R1 R2 := l3
  have hs := ho
  refine g_icmp_eq (tgt := 902) C dL_law_788 (by decide) (fun _ => ?_) (fun e => absurd rfl e)
  exact K M2 J2 R2 _ hs (repC.f rC (fun x y q _ _ => l1 x y q) (fun y => l2 9 y (by decide)) l3 hs.2.2.1) rN

set_option maxHeartbeats 4000000 in
set_option maxRecDepth 100000 in
theorem lw_c21 (C : Cx X RL cL_law) (hts : ∀ q ∈ lw_tbl, CB X q) (V : Cv X l D room_1 4 nm) (hab : a ≤ 600000 ∧ b ≤ 7302250) (hq : va_X q L xs (x_s X) (x_s X).heap ∧ ¬ x_A X q) (hw : w.1 = 166) (hi : ∀ n : Int32, ¬ n < 0 → n < 6 → vp_in (i + n) L) (ho : okSt s) (h1 : repC M J R s) (h2 : repM M J R s) (K : lwK X a b w q i) : Gj X a b w M J R 793 (lwL w q i) [] := by
  refine g_aload_n C dL_law_793 rfl ?_
  refine g_aload_n C dL_law_794 rfl ?_
  refine g_iload_n C dL_law_795 rfl ?_
  refine g_iconst (v := 1) C dL_law_796 (by decide) ?_
  refine g_iadd C dL_law_797 ?_
  refine g_sld (v := sc xs i 1) C hq (hi 1 (by decide) (by decide)) rfl dL_law_798 ?_
  refine g_aload_n C dL_law_799 rfl ?_
  refine g_iload_n C dL_law_800 rfl ?_
  refine g_iconst (v := 2) C dL_law_801 (by decide) ?_
  refine g_iadd C dL_law_802 ?_
  refine g_sld (v := sc xs i 2) C hq (hi 2 (by decide) (by decide)) rfl dL_law_803 ?_
  refine g_aload_n C dL_law_804 rfl ?_
  refine g_iload_n C dL_law_805 rfl ?_
  refine g_iconst (v := 3) C dL_law_806 (by decide) ?_
  refine g_iadd C dL_law_807 ?_
  refine g_sld (v := sc xs i 3) C hq (hi 3 (by decide) (by decide)) rfl dL_law_808 ?_
  refine g_callVt C hts V (ci := 7) (i := 0) (gw_V tw_774 tw_800 tw_801 tw_136 twl_X7_held) rfl hdX7_held ⟨by decide, by decide, rfl, rfl, hab.1, hab.2⟩ (show Ct l yX7_held wsX7_held _ D w [.ref (w.2.1 0), .int (sc xs i 1), .int (sc xs i 2), .int (sc xs i 3)] (M, J, R) _ from C7_held hw ho h1) (by rw [hw]; decide) rfl (by decide) rfl rfl (Nat.le_of_ble_eq_true rfl) dL_law_809 (fun v1 M1 J1 R1 p => ?_)
  obtain ⟨e1, rC, m1, m2, m3⟩ := p
  subst e1
  have m1 : hiS M M1 := m1
  have m3 : hiS R R1 := m3
  have rM : repM M1 J1 R1 s := h2.f (fun x y q _ _ _ _ => m1 x y q) m3
  refine g_aload_n C dL_law_812 rfl ?_
  refine g_aload_n C dL_law_813 rfl ?_
  refine g_iload_n C dL_law_814 rfl ?_
  refine g_iconst (v := 1) C dL_law_815 (by decide) ?_
  refine g_iadd C dL_law_816 ?_
  refine g_sld (v := sc xs i 1) C hq (hi 1 (by decide) (by decide)) rfl dL_law_817 ?_
  refine g_aload_n C dL_law_818 rfl ?_
  refine g_iload_n C dL_law_819 rfl ?_
  refine g_iconst (v := 2) C dL_law_820 (by decide) ?_
  refine g_iadd C dL_law_821 ?_
  refine g_sld (v := sc xs i 2) C hq (hi 2 (by decide) (by decide)) rfl dL_law_822 ?_
  refine g_aload_n C dL_law_823 rfl ?_
  refine g_iload_n C dL_law_824 rfl ?_
  refine g_iconst (v := 3) C dL_law_825 (by decide) ?_
  refine g_iadd C dL_law_826 ?_
  refine g_sld (v := sc xs i 3) C hq (hi 3 (by decide) (by decide)) rfl dL_law_827 ?_
  refine g_callVt C hts V (ci := 8) (i := 134) (gw_V tw_775 tw_610 tw_609 tw_537 twl_X8_held) rfl hdX8_held ⟨by decide, by decide, rfl, rfl, hab.1, hab.2⟩ (show Ct l yX8_held wsX8_held _ D w [.ref (w.2.1 134), .int (sc xs i 1), .int (sc xs i 2), .int (sc xs i 3)] (M1, J1, R1) _ from C8_held hw ho rM) (by rw [hw]; decide) rfl (by decide) rfl rfl (Nat.le_of_ble_eq_true rfl) dL_law_828 (fun v2 M2 J2 R2 p => ?_)
  obtain ⟨e2, rN, l1, l2, l3⟩ := p
  subst e2
  have l1 : loS M1 M2 := l1
  have l2 : loS J1 J2 := l2
  have l3 : loS R1 R2 := l3
  have hs := ho
  refine g_icmp_eq (tgt := 902) C dL_law_831 (by decide) (fun _ => ?_) (fun e => absurd rfl e)
  exact K M2 J2 R2 _ hs (repC.f rC (fun x y q _ _ => l1 x y q) (fun y => l2 9 y (by decide)) l3 hs.2.2.1) rN

set_option maxHeartbeats 4000000 in
set_option maxRecDepth 100000 in
theorem lw_c22 (C : Cx X RL cL_law) (hts : ∀ q ∈ lw_tbl, CB X q) (V : Cv X l D room_1 4 nm) (hab : a ≤ 600000 ∧ b ≤ 7302250) (hq : va_X q L xs (x_s X) (x_s X).heap ∧ ¬ x_A X q) (hw : w.1 = 166) (hi : ∀ n : Int32, ¬ n < 0 → n < 6 → vp_in (i + n) L) (ho : okSt s) (h1 : repC M J R s) (h2 : repM M J R s) (K : lwK X a b w q i) : Gj X a b w M J R 836 (lwL w q i) [] := by
  refine g_aload_n C dL_law_836 rfl ?_
  refine g_aload_n C dL_law_837 rfl ?_
  refine g_iload_n C dL_law_838 rfl ?_
  refine g_iconst (v := 1) C dL_law_839 (by decide) ?_
  refine g_iadd C dL_law_840 ?_
  refine g_sld (v := sc xs i 1) C hq (hi 1 (by decide) (by decide)) rfl dL_law_841 ?_
  refine g_aload_n C dL_law_842 rfl ?_
  refine g_iload_n C dL_law_843 rfl ?_
  refine g_iconst (v := 2) C dL_law_844 (by decide) ?_
  refine g_iadd C dL_law_845 ?_
  refine g_sld (v := sc xs i 2) C hq (hi 2 (by decide) (by decide)) rfl dL_law_846 ?_
  refine g_aload_n C dL_law_847 rfl ?_
  refine g_iload_n C dL_law_848 rfl ?_
  refine g_iconst (v := 3) C dL_law_849 (by decide) ?_
  refine g_iadd C dL_law_850 ?_
  refine g_sld (v := sc xs i 3) C hq (hi 3 (by decide) (by decide)) rfl dL_law_851 ?_
  refine g_callVt C hts V (ci := 7) (i := 0) (gw_V tw_776 tw_802 tw_803 tw_136 twl_X7_heldAll) rfl hdX7_heldAll ⟨by decide, by decide, rfl, rfl, hab.1, hab.2⟩ (show Ct l yX7_heldAll wsX7_heldAll _ D w [.ref (w.2.1 0), .int (sc xs i 1), .int (sc xs i 2), .int (sc xs i 3)] (M, J, R) _ from C7_heldAll hw ho h1) (by rw [hw]; decide) rfl (by decide) rfl rfl (Nat.le_of_ble_eq_true rfl) dL_law_852 (fun v1 M1 J1 R1 p => ?_)
  obtain ⟨e1, rC, m1, m2, m3⟩ := p
  subst e1
  have m1 : hiS M M1 := m1
  have m3 : hiS R R1 := m3
  have rM : repM M1 J1 R1 s := h2.f (fun x y q _ _ _ _ => m1 x y q) m3
  refine g_aload_n C dL_law_855 rfl ?_
  refine g_aload_n C dL_law_856 rfl ?_
  refine g_iload_n C dL_law_857 rfl ?_
  refine g_iconst (v := 1) C dL_law_858 (by decide) ?_
  refine g_iadd C dL_law_859 ?_
  refine g_sld (v := sc xs i 1) C hq (hi 1 (by decide) (by decide)) rfl dL_law_860 ?_
  refine g_aload_n C dL_law_861 rfl ?_
  refine g_iload_n C dL_law_862 rfl ?_
  refine g_iconst (v := 2) C dL_law_863 (by decide) ?_
  refine g_iadd C dL_law_864 ?_
  refine g_sld (v := sc xs i 2) C hq (hi 2 (by decide) (by decide)) rfl dL_law_865 ?_
  refine g_aload_n C dL_law_866 rfl ?_
  refine g_iload_n C dL_law_867 rfl ?_
  refine g_iconst (v := 3) C dL_law_868 (by decide) ?_
  refine g_iadd C dL_law_869 ?_
  refine g_sld (v := sc xs i 3) C hq (hi 3 (by decide) (by decide)) rfl dL_law_870 ?_
  refine g_callVt C hts V (ci := 8) (i := 134) (gw_V tw_777 tw_850 tw_851 tw_537 twl_X8_heldAll) rfl hdX8_heldAll ⟨by decide, by decide, rfl, rfl, hab.1, hab.2⟩ (show Ct l yX8_heldAll wsX8_heldAll _ D w [.ref (w.2.1 134), .int (sc xs i 1), .int (sc xs i 2), .int (sc xs i 3)] (M1, J1, R1) _ from C8_heldAll hw ho rM) (by rw [hw]; decide) rfl (by decide) rfl rfl (Nat.le_of_ble_eq_true rfl) dL_law_871 (fun v2 M2 J2 R2 p => ?_)
  obtain ⟨e2, rN, l1, l2, l3⟩ := p
  subst e2
  have l1 : loS M1 M2 := l1
  have l2 : loS J1 J2 := l2
  have l3 : loS R1 R2 := l3
  have hs := ho
  refine g_icmp_eq (tgt := 902) C dL_law_874 (by decide) (fun _ => ?_) (fun e => absurd rfl e)
  exact K M2 J2 R2 _ hs (repC.f rC (fun x y q _ _ => l1 x y q) (fun y => l2 9 y (by decide)) l3 hs.2.2.1) rN

set_option maxHeartbeats 4000000 in
set_option maxRecDepth 100000 in
theorem lw_c23 (C : Cx X RL cL_law) (hts : ∀ q ∈ lw_tbl, CB X q) (V : Cv X l D room_1 4 nm) (hab : a ≤ 600000 ∧ b ≤ 7302250) (hq : va_X q L xs (x_s X) (x_s X).heap ∧ ¬ x_A X q) (hw : w.1 = 166) (hi : ∀ n : Int32, ¬ n < 0 → n < 6 → vp_in (i + n) L) (ho : okSt s) (h1 : repC M J R s) (h2 : repM M J R s) (K : lwK X a b w q i) : Gj X a b w M J R 879 (lwL w q i) [] := by
  refine g_aload_n C dL_law_879 rfl ?_
  refine g_aload_n C dL_law_880 rfl ?_
  refine g_iload_n C dL_law_881 rfl ?_
  refine g_iconst (v := 1) C dL_law_882 (by decide) ?_
  refine g_iadd C dL_law_883 ?_
  refine g_sld (v := sc xs i 1) C hq (hi 1 (by decide) (by decide)) rfl dL_law_884 ?_
  refine g_callVt C hts V (ci := 7) (i := 0) (gw_V tw_778 tw_780 tw_781 tw_136 twl_X7_about) rfl hdX7_about ⟨by decide, by decide, rfl, rfl, hab.1, hab.2⟩ (show Ct l yX7_about wsX7_about _ D w [.ref (w.2.1 0), .int (sc xs i 1)] (M, J, R) _ from C7_about hw ho h1) (by rw [hw]; decide) rfl (by decide) rfl rfl (Nat.le_of_ble_eq_true rfl) dL_law_885 (fun v1 M1 J1 R1 p => ?_)
  obtain ⟨e1, rC, m1, m2, m3⟩ := p
  subst e1
  have m1 : hiS M M1 := m1
  have m3 : hiS R R1 := m3
  have rM : repM M1 J1 R1 s := h2.f (fun x y q _ _ _ _ => m1 x y q) m3
  refine g_aload_n C dL_law_888 rfl ?_
  refine g_aload_n C dL_law_889 rfl ?_
  refine g_iload_n C dL_law_890 rfl ?_
  refine g_iconst (v := 1) C dL_law_891 (by decide) ?_
  refine g_iadd C dL_law_892 ?_
  refine g_sld (v := sc xs i 1) C hq (hi 1 (by decide) (by decide)) rfl dL_law_893 ?_
  refine g_callVt C hts V (ci := 8) (i := 134) (gw_V tw_779 tw_830 tw_831 tw_537 twl_X8_about) rfl hdX8_about ⟨by decide, by decide, rfl, rfl, hab.1, hab.2⟩ (show Ct l yX8_about wsX8_about _ D w [.ref (w.2.1 134), .int (sc xs i 1)] (M1, J1, R1) _ from C8_about hw ho rM) (by rw [hw]; decide) rfl (by decide) rfl rfl (Nat.le_of_ble_eq_true rfl) dL_law_894 (fun v2 M2 J2 R2 p => ?_)
  obtain ⟨e2, rN, l1, l2, l3⟩ := p
  subst e2
  have l1 : loS M1 M2 := l1
  have l2 : loS J1 J2 := l2
  have l3 : loS R1 R2 := l3
  have hs := ho
  refine g_icmp_eq (tgt := 902) C dL_law_897 (by decide) (fun _ => ?_) (fun e => absurd rfl e)
  exact K M2 J2 R2 _ hs (repC.f rC (fun x y q _ _ => l1 x y q) (fun y => l2 9 y (by decide)) l3 hs.2.2.1) rN
end LC0
