/-! THE TEXT of the acts: length and charAt -/
theorem hdJ0_coder_7d493 : yJ0_coder_7d493.cls = RJ0 ∧ yJ0_coder_7d493.cls ≠ "java/lang/invoke/MethodHandle" ∧ yJ0_coder_7d493.cls ≠ "java/lang/invoke/VarHandle" ∧ (parseMethodDescriptor yJ0_coder_7d493.desc).map (fun d => d.parameters.length) = some 0 := by decide +kernel

theorem hdJ0_length_8abf5 : yJ0_length_8abf5.cls = RJ0 ∧ yJ0_length_8abf5.cls ≠ "java/lang/invoke/MethodHandle" ∧ yJ0_length_8abf5.cls ≠ "java/lang/invoke/VarHandle" ∧ (parseMethodDescriptor yJ0_length_8abf5.desc).map (fun d => d.parameters.length) = some 0 := by decide +kernel

theorem hdJ0_isLatin1_aae02 : yJ0_isLatin1_aae02.cls = RJ0 ∧ yJ0_isLatin1_aae02.cls ≠ "java/lang/invoke/MethodHandle" ∧ yJ0_isLatin1_aae02.cls ≠ "java/lang/invoke/VarHandle" ∧ (parseMethodDescriptor yJ0_isLatin1_aae02.desc).map (fun d => d.parameters.length) = some 0 := by decide +kernel

theorem hdJ3_checkIndex_8e157 : yJ3_checkIndex_8e157.cls ≠ "java/lang/invoke/MethodHandle" ∧ yJ3_checkIndex_8e157.cls ≠ "java/lang/invoke/VarHandle" ∧ (parseMethodDescriptor yJ3_checkIndex_8e157.desc).map (fun d => d.parameters.length) = some 3 := by decide +kernel

theorem hdJ0_checkIndex_df160 : yJ0_checkIndex_df160.cls ≠ "java/lang/invoke/MethodHandle" ∧ yJ0_checkIndex_df160.cls ≠ "java/lang/invoke/VarHandle" ∧ (parseMethodDescriptor yJ0_checkIndex_df160.desc).map (fun d => d.parameters.length) = some 2 := by decide +kernel

theorem hdJ1_charAt_3b067 : yJ1_charAt_3b067.cls ≠ "java/lang/invoke/MethodHandle" ∧ yJ1_charAt_3b067.cls ≠ "java/lang/invoke/VarHandle" ∧ (parseMethodDescriptor yJ1_charAt_3b067.desc).map (fun d => d.parameters.length) = some 2 := by decide +kernel

theorem hdJ0_charAt_5068e : yJ0_charAt_5068e.cls = RJ0 ∧ yJ0_charAt_5068e.cls ≠ "java/lang/invoke/MethodHandle" ∧ yJ0_charAt_5068e.cls ≠ "java/lang/invoke/VarHandle" ∧ (parseMethodDescriptor yJ0_charAt_5068e.desc).map (fun d => d.parameters.length) = some 1 := by decide +kernel

set_option maxHeartbeats 4000000 in
set_option maxRecDepth 100000 in
theorem c_J0_coder_7d493 {l : Launch} {D : va_G} {w : gw} {M : Nat → Nat → Int32} {J : Nat → Nat → Int64} {R : Nat → Nat → Option Nat} {adK adV : Nat → Nat}  : CgE (ExT adK adV) l yJ0_coder_7d493 wsJ0_coder_7d493 ({ frames := 0, cells := 0, slots := 0, locals := 0 } : Room) D w [.ref (adK 0)] (M, J, R) 0 0 (fun v w' u => v = some (.int 0) ∧ w' = w ∧ u = (M, J, R)) := by
  refine CgE.of (own := RJ0) (cc := cJ0_coder_7d493) (maxL := 1) (ret := (some .byte)) 0 (by decide) rfl rfl (Nat.le_of_ble_eq_true rfl) (fun X C hts V Rr hX => ?_)
  obtain ⟨hS, hZ, hQ⟩ := id hX
  obtain ⟨s1, s2, s3, s4⟩ := hS.1 0 (by decide)
  show Gj X 0 0 w M J R 0 [some (.ref (adK 0))] []
  refine g_getsZ C hZ (hts (.fieldLink RJ0 38 "java/lang/String" "COMPACT_STRINGS" "Z") (by decide +kernel)) dJ0_coder_7d493_0 ?_
  refine g_if_eq (tgt := 13) C dJ0_coder_7d493_3 (by decide) (fun c3 => absurd c3 (by decide)) (fun c3 => ?_)
  refine g_aload_n C dJ0_coder_7d493_6 rfl ?_
  refine g_tget C s2 (hts (.fieldLink RJ0 15 "java/lang/String" "coder" "B") (by decide +kernel)) dJ0_coder_7d493_7 ?_
  refine g_goto (tgt := 14) C dJ0_coder_7d493_10 (by decide) ?_
  exact g_tret C Rr rfl ⟨rfl, rfl, rfl⟩ dJ0_coder_7d493_14

set_option maxHeartbeats 4000000 in
set_option maxRecDepth 100000 in
theorem c_J0_length_8abf5 {l : Launch} {D : va_G} {w : gw} {M : Nat → Nat → Int32} {J : Nat → Nat → Int64} {R : Nat → Nat → Option Nat} {adK adV : Nat → Nat}  : CgE (ExT adK adV) l yJ0_length_8abf5 wsJ0_length_8abf5 ({ frames := 1, cells := 0, slots := 0, locals := 20 } : Room) D w [.ref (adK 0)] (M, J, R) 0 0 (fun v w' u => v = some (.int 62) ∧ w' = w ∧ u = (M, J, R)) := by
  refine CgE.of (own := RJ0) (cc := cJ0_length_8abf5) (maxL := 1) (ret := (some .int)) 0 (by decide) rfl rfl (Nat.le_of_ble_eq_true rfl) (fun X C hts V Rr hX => ?_)
  obtain ⟨hS, hZ, hQ⟩ := id hX
  obtain ⟨s1, s2, s3, s4⟩ := hS.1 0 (by decide)
  show Gj X 0 0 w M J R 0 [some (.ref (adK 0))] []
  refine g_aload_n C dJ0_length_8abf5_0 rfl ?_
  refine g_tget C s3 (hts (.fieldLink RJ0 9 "java/lang/String" "value" "[B") (by decide +kernel)) dJ0_length_8abf5_1 ?_
  refine g_tlen (v := 62) C s4 (by decide) dJ0_length_8abf5_4 ?_
  refine g_aload_n C dJ0_length_8abf5_5 rfl ?_
  refine g_callTE (okE_T adK adV) hX hS C hts V (gJ0_length_8abf5_J0_coder_7d493) rfl hdJ0_coder_7d493 (by decide) c_J0_coder_7d493 rfl rfl (Nat.le_of_ble_eq_true rfl) dJ0_length_8abf5_6 ?_
  refine g_ishr C dJ0_length_8abf5_9 ?_
  exact g_iret C Rr ⟨by decide, rfl, rfl⟩ dJ0_length_8abf5_10

set_option maxHeartbeats 4000000 in
set_option maxRecDepth 100000 in
theorem c_J0_isLatin1_aae02 {l : Launch} {D : va_G} {w : gw} {M : Nat → Nat → Int32} {J : Nat → Nat → Int64} {R : Nat → Nat → Option Nat} {adK adV : Nat → Nat}  : CgE (ExT adK adV) l yJ0_isLatin1_aae02 wsJ0_isLatin1_aae02 ({ frames := 0, cells := 0, slots := 0, locals := 0 } : Room) D w [.ref (adK 0)] (M, J, R) 0 0 (fun v w' u => v = some (.int 1) ∧ w' = w ∧ u = (M, J, R)) := by
  refine CgE.of (own := RJ0) (cc := cJ0_isLatin1_aae02) (maxL := 1) (ret := (some .boolean)) 0 (by decide) rfl rfl (Nat.le_of_ble_eq_true rfl) (fun X C hts V Rr hX => ?_)
  obtain ⟨hS, hZ, hQ⟩ := id hX
  obtain ⟨s1, s2, s3, s4⟩ := hS.1 0 (by decide)
  show Gj X 0 0 w M J R 0 [some (.ref (adK 0))] []
  refine g_getsZ C hZ (hts (.fieldLink RJ0 38 "java/lang/String" "COMPACT_STRINGS" "Z") (by decide +kernel)) dJ0_isLatin1_aae02_0 ?_
  refine g_if_eq (tgt := 17) C dJ0_isLatin1_aae02_3 (by decide) (fun c3 => absurd c3 (by decide)) (fun c3 => ?_)
  refine g_aload_n C dJ0_isLatin1_aae02_6 rfl ?_
  refine g_tget C s2 (hts (.fieldLink RJ0 15 "java/lang/String" "coder" "B") (by decide +kernel)) dJ0_isLatin1_aae02_7 ?_
  refine g_if_ne (tgt := 17) C dJ0_isLatin1_aae02_10 (by decide) (fun c10 => absurd rfl c10) (fun c10 => ?_)
  refine g_iconst (v := 1) C dJ0_isLatin1_aae02_13 (by decide) ?_
  refine g_goto (tgt := 18) C dJ0_isLatin1_aae02_14 (by decide) ?_
  exact g_tret C Rr rfl ⟨rfl, rfl, rfl⟩ dJ0_isLatin1_aae02_18

set_option maxHeartbeats 4000000 in
set_option maxRecDepth 100000 in
theorem c_J3_checkIndex_8e157_n {l : Launch} {D : va_G} {w : gw} {M : Nat → Nat → Int32} {J : Nat → Nat → Int64} {R : Nat → Nat → Option Nat} {adK adV : Nat → Nat} {t : Nat} (ht : t < 62) : CgE (ExT adK adV) l yJ3_checkIndex_8e157 wsJ3_checkIndex_8e157 ({ frames := 0, cells := 0, slots := 0, locals := 0 } : Room) D w [.int (nI t), .int 62, .null] (M, J, R) 0 0 (fun v w' u => v = some (.int (nI t)) ∧ w' = w ∧ u = (M, J, R)) := by
  refine CgE.of (own := RJ3) (cc := cJ3_checkIndex_8e157) (maxL := 3) (ret := (some .int)) 0 (by decide) rfl rfl (Nat.le_of_ble_eq_true rfl) (fun X C hts V Rr hX => ?_)
  obtain ⟨hS, hZ, hQ⟩ := id hX
  obtain ⟨s1, s2, s3, s4⟩ := hS.1 0 (by decide)
  show Gj X 0 0 w M J R 0 [some (.int (nI t)), some (.int 62), some (.null)] []
  refine g_iload_n C dJ3_checkIndex_8e157_0 rfl ?_
  refine g_if_lt (tgt := 9) C dJ3_checkIndex_8e157_1 (by decide) (fun c1 => absurd c1 (nI_pos (by omega))) (fun c1 => ?_)
  refine g_iload_n C dJ3_checkIndex_8e157_4 rfl ?_
  refine g_iload_n C dJ3_checkIndex_8e157_5 rfl ?_
  refine g_icmp_lt (tgt := 16) C dJ3_checkIndex_8e157_6 (by decide) (fun c6 => ?_) (fun c6 => absurd (nI_lt (b := 62) ht (by decide)) c6)
  refine g_iload_n C dJ3_checkIndex_8e157_16 rfl ?_
  exact g_iret C Rr ⟨rfl, rfl, rfl⟩ dJ3_checkIndex_8e157_17

set_option maxHeartbeats 4000000 in
set_option maxRecDepth 100000 in
theorem c_J3_checkIndex_8e157_r {l : Launch} {D : va_G} {w : gw} {M : Nat → Nat → Int32} {J : Nat → Nat → Int64} {R : Nat → Nat → Option Nat} {adK adV : Nat → Nat} {t : Nat} (ht : t < 62) {q : Nat} : CgE (ExT adK adV) l yJ3_checkIndex_8e157 wsJ3_checkIndex_8e157 ({ frames := 0, cells := 0, slots := 0, locals := 0 } : Room) D w [.int (nI t), .int 62, .ref q] (M, J, R) 0 0 (fun v w' u => v = some (.int (nI t)) ∧ w' = w ∧ u = (M, J, R)) := by
  refine CgE.of (own := RJ3) (cc := cJ3_checkIndex_8e157) (maxL := 3) (ret := (some .int)) 0 (by decide) rfl rfl (Nat.le_of_ble_eq_true rfl) (fun X C hts V Rr hX => ?_)
  obtain ⟨hS, hZ, hQ⟩ := id hX
  obtain ⟨s1, s2, s3, s4⟩ := hS.1 0 (by decide)
  show Gj X 0 0 w M J R 0 [some (.int (nI t)), some (.int 62), some (.ref q)] []
  refine g_iload_n C dJ3_checkIndex_8e157_0 rfl ?_
  refine g_if_lt (tgt := 9) C dJ3_checkIndex_8e157_1 (by decide) (fun c1 => absurd c1 (nI_pos (by omega))) (fun c1 => ?_)
  refine g_iload_n C dJ3_checkIndex_8e157_4 rfl ?_
  refine g_iload_n C dJ3_checkIndex_8e157_5 rfl ?_
  refine g_icmp_lt (tgt := 16) C dJ3_checkIndex_8e157_6 (by decide) (fun c6 => ?_) (fun c6 => absurd (nI_lt (b := 62) ht (by decide)) c6)
  refine g_iload_n C dJ3_checkIndex_8e157_16 rfl ?_
  exact g_iret C Rr ⟨rfl, rfl, rfl⟩ dJ3_checkIndex_8e157_17

set_option maxHeartbeats 4000000 in
set_option maxRecDepth 100000 in
theorem c_J0_checkIndex_df160 {l : Launch} {D : va_G} {w : gw} {M : Nat → Nat → Int32} {J : Nat → Nat → Int64} {R : Nat → Nat → Option Nat} {adK adV : Nat → Nat} {t : Nat} (ht : t < 62) : CgE (ExT adK adV) l yJ0_checkIndex_df160 wsJ0_checkIndex_df160 ({ frames := 1, cells := 0, slots := 0, locals := 22 } : Room) D w [.int (nI t), .int 62] (M, J, R) 0 0 (fun v w' u => v = none ∧ w' = w ∧ u = (M, J, R)) := by
  refine CgE.of (own := RJ0) (cc := cJ0_checkIndex_df160) (maxL := 2) (ret := none) 0 (by decide) rfl rfl (Nat.le_of_ble_eq_true rfl) (fun X C hts V Rr hX => ?_)
  obtain ⟨hS, hZ, hQ⟩ := id hX
  obtain ⟨s1, s2, s3, s4⟩ := hS.1 0 (by decide)
  show Gj X 0 0 w M J R 0 [some (.int (nI t)), some (.int 62)] []
  refine g_iload_n C dJ0_checkIndex_df160_0 rfl ?_
  refine g_iload_n C dJ0_checkIndex_df160_1 rfl ?_
  rcases hQ with hq | ⟨q, hq⟩
  · refine g_getsZ C hq (hts (.fieldLink RJ0 1053 "jdk/internal/util/Preconditions" "SIOOBE_FORMATTER" "Ljava/util/function/BiFunction;") (by decide +kernel)) dJ0_checkIndex_df160_2 ?_
    refine g_callSE (okE_T adK adV) hX C hts V (gJ0_checkIndex_df160_J3_checkIndex_8e157) rfl hdJ3_checkIndex_8e157 (by decide) (c_J3_checkIndex_8e157_n ht) rfl rfl (Nat.le_of_ble_eq_true rfl) dJ0_checkIndex_df160_5 ?_
    refine g_pop C dJ0_checkIndex_df160_8 rfl ?_
    exact g_vret C Rr ⟨rfl, rfl, rfl⟩ dJ0_checkIndex_df160_9
  · refine g_getsZ C hq (hts (.fieldLink RJ0 1053 "jdk/internal/util/Preconditions" "SIOOBE_FORMATTER" "Ljava/util/function/BiFunction;") (by decide +kernel)) dJ0_checkIndex_df160_2 ?_
    refine g_callSE (okE_T adK adV) hX C hts V (gJ0_checkIndex_df160_J3_checkIndex_8e157) rfl hdJ3_checkIndex_8e157 (by decide) (c_J3_checkIndex_8e157_r ht) rfl rfl (Nat.le_of_ble_eq_true rfl) dJ0_checkIndex_df160_5 ?_
    refine g_pop C dJ0_checkIndex_df160_8 rfl ?_
    exact g_vret C Rr ⟨rfl, rfl, rfl⟩ dJ0_checkIndex_df160_9

def acI (t : Nat) : Int32 := actL.getD t 0
theorem acI_c : ∀ t, t < 62 → ((acI t &&& 255).toUInt32 % 65536).toInt32 = acI t ∧ narrow .char (.int (acI t)) = .int (acI t) := by decide +kernel

set_option maxHeartbeats 4000000 in
set_option maxRecDepth 100000 in
theorem c_J1_charAt_3b067 {l : Launch} {D : va_G} {w : gw} {M : Nat → Nat → Int32} {J : Nat → Nat → Int64} {R : Nat → Nat → Option Nat} {adK adV : Nat → Nat} {t : Nat} (ht : t < 62) : CgE (ExT adK adV) l yJ1_charAt_3b067 wsJ1_charAt_3b067 ({ frames := 2, cells := 0, slots := 0, locals := 43 } : Room) D w [.ref (adV 0), .int (nI t)] (M, J, R) 0 0 (fun v w' u => v = some (.int (acI t)) ∧ w' = w ∧ u = (M, J, R)) := by
  refine CgE.of (own := RJ1) (cc := cJ1_charAt_3b067) (maxL := 2) (ret := (some .char)) 0 (by decide) rfl rfl (Nat.le_of_ble_eq_true rfl) (fun X C hts V Rr hX => ?_)
  obtain ⟨hS, hZ, hQ⟩ := id hX
  obtain ⟨s1, s2, s3, s4⟩ := hS.1 0 (by decide)
  show Gj X 0 0 w M J R 0 [some (.ref (adV 0)), some (.int (nI t))] []
  refine g_iload_n C dJ1_charAt_3b067_0 rfl ?_
  refine g_aload_n C dJ1_charAt_3b067_1 rfl ?_
  refine g_tlen (v := 62) C s4 (by decide) dJ1_charAt_3b067_2 ?_
  refine g_callSE (okE_T adK adV) hX C hts V (gJ1_charAt_3b067_J0_checkIndex_df160) rfl hdJ0_checkIndex_df160 (by decide) (c_J0_checkIndex_df160 ht) rfl rfl (Nat.le_of_ble_eq_true rfl) dJ1_charAt_3b067_3 ?_
  refine g_aload_n C dJ1_charAt_3b067_6 rfl ?_
  refine g_iload_n C dJ1_charAt_3b067_7 rfl ?_
  refine g_tb (v := .int (acI t)) C s4 (vp_in_nI (N := 62) ht (by decide)) (by rw [nI_clamp (by omega)]; rfl) dJ1_charAt_3b067_8 ?_
  refine g_sipush (v := 255) C dJ1_charAt_3b067_9 (by decide) ?_
  refine g_iand C dJ1_charAt_3b067_12 ?_
  refine g_i2c (v := acI t) C (acI_c t ht).1 dJ1_charAt_3b067_13 ?_
  exact g_tret C Rr (acI_c t ht).2 ⟨rfl, rfl, rfl⟩ dJ1_charAt_3b067_14

set_option maxHeartbeats 4000000 in
set_option maxRecDepth 100000 in
theorem c_J0_charAt_5068e {l : Launch} {D : va_G} {w : gw} {M : Nat → Nat → Int32} {J : Nat → Nat → Int64} {R : Nat → Nat → Option Nat} {adK adV : Nat → Nat} {t : Nat} (ht : t < 62) : CgE (ExT adK adV) l yJ0_charAt_5068e wsJ0_charAt_5068e ({ frames := 3, cells := 0, slots := 0, locals := 64 } : Room) D w [.ref (adK 0), .int (nI t)] (M, J, R) 0 0 (fun v w' u => v = some (.int (acI t)) ∧ w' = w ∧ u = (M, J, R)) := by
  refine CgE.of (own := RJ0) (cc := cJ0_charAt_5068e) (maxL := 2) (ret := (some .char)) 0 (by decide) rfl rfl (Nat.le_of_ble_eq_true rfl) (fun X C hts V Rr hX => ?_)
  obtain ⟨hS, hZ, hQ⟩ := id hX
  obtain ⟨s1, s2, s3, s4⟩ := hS.1 0 (by decide)
  show Gj X 0 0 w M J R 0 [some (.ref (adK 0)), some (.int (nI t))] []
  refine g_aload_n C dJ0_charAt_5068e_0 rfl ?_
  refine g_callTE (okE_T adK adV) hX hS C hts V (gJ0_charAt_5068e_J0_isLatin1_aae02) rfl hdJ0_isLatin1_aae02 (by decide) c_J0_isLatin1_aae02 rfl rfl (Nat.le_of_ble_eq_true rfl) dJ0_charAt_5068e_1 ?_
  refine g_if_eq (tgt := 16) C dJ0_charAt_5068e_4 (by decide) (fun c4 => absurd c4 (by decide)) (fun c4 => ?_)
  refine g_aload_n C dJ0_charAt_5068e_7 rfl ?_
  refine g_tget C s3 (hts (.fieldLink RJ0 9 "java/lang/String" "value" "[B") (by decide +kernel)) dJ0_charAt_5068e_8 ?_
  refine g_iload_n C dJ0_charAt_5068e_11 rfl ?_
  refine g_callSE (okE_T adK adV) hX C hts V (gJ0_charAt_5068e_J1_charAt_3b067) rfl hdJ1_charAt_3b067 (by decide) (c_J1_charAt_3b067 ht) rfl rfl (Nat.le_of_ble_eq_true rfl) dJ0_charAt_5068e_12 ?_
  exact g_tret C Rr (acI_c t ht).2 ⟨rfl, rfl, rfl⟩ dJ0_charAt_5068e_15
