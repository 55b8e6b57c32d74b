/-! the constants' words: String.length, String.charAt; Definition.setBuiltIn -/
def y_JS_length : MethodName := ⟨"java/lang/String", "length", "()I"⟩
abbrev b_JS_length : ByteArray := prog_21_method_54_code
theorem d_JS_length_0 : decode b_JS_length 0 = .ok (.aload_n 0, 1) := by decide +kernel
theorem d_JS_length_1 : decode b_JS_length 1 = .ok (.getfield 9, 3) := by decide +kernel
theorem d_JS_length_4 : decode b_JS_length 4 = .ok (.arraylength, 1) := by decide +kernel
theorem d_JS_length_5 : decode b_JS_length 5 = .ok (.aload_n 0, 1) := by decide +kernel
theorem d_JS_length_6 : decode b_JS_length 6 = .ok (.invokevirtual 335, 3) := by decide +kernel
theorem d_JS_length_9 : decode b_JS_length 9 = .ok (.ishr, 1) := by decide +kernel
theorem d_JS_length_10 : decode b_JS_length 10 = .ok (.ireturn, 1) := by decide +kernel
theorem q_JS_length : aw_q1 y_JS_length b_JS_length 1 (some .int) 0 := ⟨k_202, k_71, ⟨by decide, by decide, by decide +kernel⟩, by decide⟩
def y_JS_coder : MethodName := ⟨"java/lang/String", "coder", "()B"⟩
abbrev b_JS_coder : ByteArray := prog_21_method_152_code
theorem d_JS_coder_0 : decode b_JS_coder 0 = .ok (.getstatic 38, 3) := by decide +kernel
theorem d_JS_coder_3 : decode b_JS_coder 3 = .ok (.ifCond .eq 10, 3) := by decide +kernel
theorem d_JS_coder_6 : decode b_JS_coder 6 = .ok (.aload_n 0, 1) := by decide +kernel
theorem d_JS_coder_7 : decode b_JS_coder 7 = .ok (.getfield 15, 3) := by decide +kernel
theorem d_JS_coder_10 : decode b_JS_coder 10 = .ok (.goto 4, 3) := by decide +kernel
theorem d_JS_coder_13 : decode b_JS_coder 13 = .ok (.iconst 1, 1) := by decide +kernel
theorem d_JS_coder_14 : decode b_JS_coder 14 = .ok (.ireturn, 1) := by decide +kernel
theorem q_JS_coder : aw_q1 y_JS_coder b_JS_coder 1 (some .byte) 0 := ⟨k_206, k_71, ⟨by decide, by decide, by decide +kernel⟩, by decide⟩
def y_JS_charAt : MethodName := ⟨"java/lang/String", "charAt", "(I)C"⟩
abbrev b_JS_charAt : ByteArray := prog_21_method_56_code
theorem d_JS_charAt_0 : decode b_JS_charAt 0 = .ok (.aload_n 0, 1) := by decide +kernel
theorem d_JS_charAt_1 : decode b_JS_charAt 1 = .ok (.invokevirtual 492, 3) := by decide +kernel
theorem d_JS_charAt_4 : decode b_JS_charAt 4 = .ok (.ifCond .eq 12, 3) := by decide +kernel
theorem d_JS_charAt_7 : decode b_JS_charAt 7 = .ok (.aload_n 0, 1) := by decide +kernel
theorem d_JS_charAt_8 : decode b_JS_charAt 8 = .ok (.getfield 9, 3) := by decide +kernel
theorem d_JS_charAt_11 : decode b_JS_charAt 11 = .ok (.iload_n 1, 1) := by decide +kernel
theorem d_JS_charAt_12 : decode b_JS_charAt 12 = .ok (.invokestatic 495, 3) := by decide +kernel
theorem d_JS_charAt_15 : decode b_JS_charAt 15 = .ok (.ireturn, 1) := by decide +kernel
theorem d_JS_charAt_16 : decode b_JS_charAt 16 = .ok (.aload_n 0, 1) := by decide +kernel
theorem d_JS_charAt_17 : decode b_JS_charAt 17 = .ok (.getfield 9, 3) := by decide +kernel
theorem d_JS_charAt_20 : decode b_JS_charAt 20 = .ok (.iload_n 1, 1) := by decide +kernel
theorem d_JS_charAt_21 : decode b_JS_charAt 21 = .ok (.invokestatic 498, 3) := by decide +kernel
theorem d_JS_charAt_24 : decode b_JS_charAt 24 = .ok (.ireturn, 1) := by decide +kernel
theorem q_JS_charAt : aw_q1 y_JS_charAt b_JS_charAt 2 (some .char) 1 := ⟨k_212, k_71, ⟨by decide, by decide, by decide +kernel⟩, by decide⟩
def y_JS_isLatin1 : MethodName := ⟨"java/lang/String", "isLatin1", "()Z"⟩
abbrev b_JS_isLatin1 : ByteArray := prog_21_method_154_code
theorem d_JS_isLatin1_0 : decode b_JS_isLatin1 0 = .ok (.getstatic 38, 3) := by decide +kernel
theorem d_JS_isLatin1_3 : decode b_JS_isLatin1 3 = .ok (.ifCond .eq 14, 3) := by decide +kernel
theorem d_JS_isLatin1_6 : decode b_JS_isLatin1 6 = .ok (.aload_n 0, 1) := by decide +kernel
theorem d_JS_isLatin1_7 : decode b_JS_isLatin1 7 = .ok (.getfield 15, 3) := by decide +kernel
theorem d_JS_isLatin1_10 : decode b_JS_isLatin1 10 = .ok (.ifCond .ne 7, 3) := by decide +kernel
theorem d_JS_isLatin1_13 : decode b_JS_isLatin1 13 = .ok (.iconst 1, 1) := by decide +kernel
theorem d_JS_isLatin1_14 : decode b_JS_isLatin1 14 = .ok (.goto 4, 3) := by decide +kernel
theorem d_JS_isLatin1_17 : decode b_JS_isLatin1 17 = .ok (.iconst 0, 1) := by decide +kernel
theorem d_JS_isLatin1_18 : decode b_JS_isLatin1 18 = .ok (.ireturn, 1) := by decide +kernel
theorem q_JS_isLatin1 : aw_q1 y_JS_isLatin1 b_JS_isLatin1 1 (some .boolean) 0 := ⟨k_216, k_71, ⟨by decide, by decide, by decide +kernel⟩, by decide⟩
def y_JL_charAt : MethodName := ⟨"java/lang/StringLatin1", "charAt", "([BI)C"⟩
abbrev b_JL_charAt : ByteArray := prog_22_method_2_code
theorem d_JL_charAt_0 : decode b_JL_charAt 0 = .ok (.iload_n 1, 1) := by decide +kernel
theorem d_JL_charAt_1 : decode b_JL_charAt 1 = .ok (.aload_n 0, 1) := by decide +kernel
theorem d_JL_charAt_2 : decode b_JL_charAt 2 = .ok (.arraylength, 1) := by decide +kernel
theorem d_JL_charAt_3 : decode b_JL_charAt 3 = .ok (.invokestatic 9, 3) := by decide +kernel
theorem d_JL_charAt_6 : decode b_JL_charAt 6 = .ok (.aload_n 0, 1) := by decide +kernel
theorem d_JL_charAt_7 : decode b_JL_charAt 7 = .ok (.iload_n 1, 1) := by decide +kernel
theorem d_JL_charAt_8 : decode b_JL_charAt 8 = .ok (.baload, 1) := by decide +kernel
theorem d_JL_charAt_9 : decode b_JL_charAt 9 = .ok (.sipush 255, 3) := by decide +kernel
theorem d_JL_charAt_12 : decode b_JL_charAt 12 = .ok (.iand, 1) := by decide +kernel
theorem d_JL_charAt_13 : decode b_JL_charAt 13 = .ok (.i2c, 1) := by decide +kernel
theorem d_JL_charAt_14 : decode b_JL_charAt 14 = .ok (.ireturn, 1) := by decide +kernel
theorem q_JL_charAt : aw_q1 y_JL_charAt b_JL_charAt 2 (some .char) 2 := ⟨k_219, k_72, ⟨by decide, by decide, by decide +kernel⟩, by decide⟩
def y_JS_checkIndex : MethodName := ⟨"java/lang/String", "checkIndex", "(II)V"⟩
abbrev b_JS_checkIndex : ByteArray := prog_21_method_155_code
theorem d_JS_checkIndex_0 : decode b_JS_checkIndex 0 = .ok (.iload_n 0, 1) := by decide +kernel
theorem d_JS_checkIndex_1 : decode b_JS_checkIndex 1 = .ok (.iload_n 1, 1) := by decide +kernel
theorem d_JS_checkIndex_2 : decode b_JS_checkIndex 2 = .ok (.getstatic 1053, 3) := by decide +kernel
theorem d_JS_checkIndex_5 : decode b_JS_checkIndex 5 = .ok (.invokestatic 1059, 3) := by decide +kernel
theorem d_JS_checkIndex_8 : decode b_JS_checkIndex 8 = .ok (.pop, 1) := by decide +kernel
theorem d_JS_checkIndex_9 : decode b_JS_checkIndex 9 = .ok (.return_, 1) := by decide +kernel
theorem q_JS_checkIndex : aw_q1 y_JS_checkIndex b_JS_checkIndex 2 none 2 := ⟨k_222, k_71, ⟨by decide, by decide, by decide +kernel⟩, by decide⟩
def y_JP_checkIndex : MethodName := ⟨"jdk/internal/util/Preconditions", "checkIndex", "(IILjava/util/function/BiFunction;)I"⟩
abbrev b_JP_checkIndex : ByteArray := prog_26_method_11_code
theorem d_JP_checkIndex_0 : decode b_JP_checkIndex 0 = .ok (.iload_n 0, 1) := by decide +kernel
theorem d_JP_checkIndex_1 : decode b_JP_checkIndex 1 = .ok (.ifCond .lt 8, 3) := by decide +kernel
theorem d_JP_checkIndex_4 : decode b_JP_checkIndex 4 = .ok (.iload_n 0, 1) := by decide +kernel
theorem d_JP_checkIndex_5 : decode b_JP_checkIndex 5 = .ok (.iload_n 1, 1) := by decide +kernel
theorem d_JP_checkIndex_6 : decode b_JP_checkIndex 6 = .ok (.if_icmp .lt 10, 3) := by decide +kernel
theorem d_JP_checkIndex_9 : decode b_JP_checkIndex 9 = .ok (.aload_n 2, 1) := by decide +kernel
theorem d_JP_checkIndex_10 : decode b_JP_checkIndex 10 = .ok (.iload_n 0, 1) := by decide +kernel
theorem d_JP_checkIndex_11 : decode b_JP_checkIndex 11 = .ok (.iload_n 1, 1) := by decide +kernel
theorem d_JP_checkIndex_12 : decode b_JP_checkIndex 12 = .ok (.invokestatic 95, 3) := by decide +kernel
theorem d_JP_checkIndex_15 : decode b_JP_checkIndex 15 = .ok (.athrow, 1) := by decide +kernel
theorem d_JP_checkIndex_16 : decode b_JP_checkIndex 16 = .ok (.iload_n 0, 1) := by decide +kernel
theorem d_JP_checkIndex_17 : decode b_JP_checkIndex 17 = .ok (.ireturn, 1) := by decide +kernel
theorem q_JP_checkIndex : aw_q1 y_JP_checkIndex b_JP_checkIndex 3 (some .int) 3 := ⟨k_227, k_73, ⟨by decide, by decide, by decide +kernel⟩, by decide⟩
theorem nI_shr0 (n : Nat) : nI n >>> (nI 0 &&& 31) = nI n := by
  have : nI 0 &&& 31 = 0 := by decide
  rw [this]
  exact Int32.shiftRight_zero
theorem nI_and255 : ∀ n, n < 128 → nI n &&& nI 255 = nI n := by decide
theorem wrd_len : ∀ k, k < 16 → (wrd k).length ≤ 8 ∧ 1 ≤ (wrd k).length := by decide
theorem wrd_lt : ∀ k, k < 16 → ∀ i, i < 8 → (wrd k).getD i 0 < 128 := by decide
section
variable {G : aw_G} {nx d : Nat} {w : Nat → va_E}
theorem c_JS_coder {k : Nat} (hk : k < 16) : AC G y_JS_coder b_JS_coder 1 (some .byte) d false [.ref (G.2.2.2.2 (18 + k))] nx w 0 0 (fun r w' nx' => nx' = nx ∧ w' = w ∧ r = some (.int (nI 0))) := by
  refine AC.ofW (by decide) (Nat.le_of_ble_eq_true rfl) ?_
  intro E P hP Y X
  have X : aw_X G "java/lang/String" b_JS_coder 1 (some .byte) "coder" _ _ _ _ _ E := X
  refine AW.eql (lv' := [(0, _)]) (by rfl) ?_
  refine aw_gets (pc := 0) X X.c.2.2.2.2.1 k_207 d_JS_coder_0 ?_
  refine aw_if_eqN (pc := 3) X (tgt := 13) d_JS_coder_3 (by rfl) (by omega) (fun h3 => ?_) (fun h3 => ?_)
  -- br 3 lv=0:c st=
  · exact absurd h3 (by decide)
  · refine aw_aload_n (pc := 6) X d_JS_coder_6 (by rfl) ?_
    -- stop 7 lv=0:c st=c
    refine aw_getc (pc := 7) X (X.c.2.2.2.2.2.2 k hk).2.2.2.2.1 k_1163 d_JS_coder_7 ?_
    refine aw_goto (pc := 10) X (tgt := 14) d_JS_coder_10 (by rfl) ?_
    refine aw_zret Y X rfl (by decide +kernel) d_JS_coder_14 (by omega) (by omega) (hP _ _ _ ?_)
    -- ret 14 lv=0:c st=n
    exact ⟨rfl, rfl, rfl⟩
theorem c_JS_length {k : Nat} (hk : k < 16) (hd : 1 ≤ d) : AC G y_JS_length b_JS_length 1 (some .int) d false [.ref (G.2.2.2.2 (18 + k))] nx w 0 0 (fun r w' nx' => nx' = nx ∧ w' = w ∧ r = some (.int (nI (wrd k).length))) := by
  refine AC.ofW (by decide) (Nat.le_of_ble_eq_true rfl) ?_
  intro E P hP Y X
  have X : aw_X G "java/lang/String" b_JS_length 1 (some .int) "length" _ _ _ _ _ E := X
  refine AW.eql (lv' := [(0, _)]) (by rfl) ?_
  refine aw_aload_n (pc := 0) X d_JS_length_0 (by rfl) ?_
  -- stop 1 lv=0:c st=c
  refine aw_getc (pc := 1) X (X.c.2.2.2.2.2.2 k hk).2.2.2.2.2.1 k_1162 d_JS_length_1 ?_
  refine aw_tlen (pc := 4) X (X.c.2.2.2.2.2.2 k hk).2.2.2.2.2.2 d_JS_length_4 ?_
  refine aw_aload_n (pc := 5) X d_JS_length_5 (by rfl) ?_
  -- stop 6 lv=0:c st=c,n
  refine aw_callC (pc := 6) X _ (c_JS_coder (d := 0) hk) q_JS_coder k_203 k_204 k_205 (X.c.2.2.2.2.2.2 k hk).2.2.2.1 d_JS_length_6 (by omega) (Nat.le_of_ble_eq_true rfl) ⟨by omega, by omega⟩ (fun h => by cases h) (fun r w2 nx2 hp => ?_)
  obtain ⟨rfl, rfl, rfl⟩ := hp
  refine aw_ishr (pc := 9) X d_JS_length_9 ?_
  -- stop 10 lv=0:c st=i
  rw [nI_shr0]
  refine aw_iret Y X rfl d_JS_length_10 (by omega) (by omega) (hP _ _ _ ?_)
  -- ret 10 lv=0:c st=n
  exact ⟨rfl, rfl, rfl⟩
theorem c_JS_isLatin1 {k : Nat} (hk : k < 16) : AC G y_JS_isLatin1 b_JS_isLatin1 1 (some .boolean) d false [.ref (G.2.2.2.2 (18 + k))] nx w 0 0 (fun r w' nx' => nx' = nx ∧ w' = w ∧ r = some (.int (nI 1))) := by
  refine AC.ofW (by decide) (Nat.le_of_ble_eq_true rfl) ?_
  intro E P hP Y X
  have X : aw_X G "java/lang/String" b_JS_isLatin1 1 (some .boolean) "isLatin1" _ _ _ _ _ E := X
  refine AW.eql (lv' := [(0, _)]) (by rfl) ?_
  refine aw_gets (pc := 0) X X.c.2.2.2.2.1 k_207 d_JS_isLatin1_0 ?_
  refine aw_if_eqN (pc := 3) X (tgt := 17) d_JS_isLatin1_3 (by rfl) (by omega) (fun h3 => ?_) (fun h3 => ?_)
  -- br 3 lv=0:c st=
  · exact absurd h3 (by decide)
  · refine aw_aload_n (pc := 6) X d_JS_isLatin1_6 (by rfl) ?_
    -- stop 7 lv=0:c st=c
    refine aw_getc (pc := 7) X (X.c.2.2.2.2.2.2 k hk).2.2.2.2.1 k_1163 d_JS_isLatin1_7 ?_
    refine aw_if_neN (pc := 10) X (tgt := 17) d_JS_isLatin1_10 (by rfl) (by omega) (fun h10 => ?_) (fun h10 => ?_)
    -- br 10 lv=0:c st=
    · exact absurd rfl h10
    · refine aw_iconstN (pc := 13) X 1 d_JS_isLatin1_13 (by decide) ?_
      refine aw_goto (pc := 14) X (tgt := 18) d_JS_isLatin1_14 (by rfl) ?_
      refine aw_zret Y X rfl (by decide +kernel) d_JS_isLatin1_18 (by omega) (by omega) (hP _ _ _ ?_)
      -- ret 18 lv=0:c st=n
      exact ⟨rfl, rfl, rfl⟩
theorem c_JP_checkIndex {i n : Nat} {v : Value} (hv : v = .null ∨ ∃ t, v = .ref t) (hi : i < n) (hn : n < 2 ^ 31) : AC G y_JP_checkIndex b_JP_checkIndex 3 (some .int) d false [.int (nI i), .int (nI n), v] nx w 0 0 (fun r w' nx' => nx' = nx ∧ w' = w ∧ r = some (.int (nI i))) := by
  rcases hv with rfl | ⟨t, rfl⟩
  · refine AC.ofW (by decide) (Nat.le_of_ble_eq_true rfl) ?_
    intro E P hP Y X
    have X : aw_X G "jdk/internal/util/Preconditions" b_JP_checkIndex 3 (some .int) "checkIndex" _ _ _ _ _ E := X
    refine AW.eql (lv' := [(0, _), (1, _), (2, _)]) (by rfl) ?_
    refine aw_iload_n (pc := 0) X d_JP_checkIndex_0 (by rfl) ?_
    refine aw_if_ltN (pc := 1) X (tgt := 9) d_JP_checkIndex_1 (by rfl) (by omega) ?_
    refine aw_iload_n (pc := 4) X d_JP_checkIndex_4 (by rfl) ?_
    refine aw_iload_n (pc := 5) X d_JP_checkIndex_5 (by rfl) ?_
    refine aw_icmp_ltN (pc := 6) X (tgt := 16) d_JP_checkIndex_6 (by rfl) (by omega) (by omega) (fun h6 => ?_) (fun h6 => ?_)
    -- br 6 lv=0:n,1:n,2:0 st=
    · refine aw_iload_n (pc := 16) X d_JP_checkIndex_16 (by rfl) ?_
      refine aw_iret Y X rfl d_JP_checkIndex_17 (by omega) (by omega) (hP _ _ _ ?_)
      -- ret 17 lv=0:n,1:n,2:0 st=n
      exact ⟨rfl, rfl, rfl⟩
    · omega
  · refine AC.ofW (by decide) (Nat.le_of_ble_eq_true rfl) ?_
    intro E P hP Y X
    have X : aw_X G "jdk/internal/util/Preconditions" b_JP_checkIndex 3 (some .int) "checkIndex" _ _ _ _ _ E := X
    refine AW.eql (lv' := [(0, _), (1, _), (2, _)]) (by rfl) ?_
    refine aw_iload_n (pc := 0) X d_JP_checkIndex_0 (by rfl) ?_
    refine aw_if_ltN (pc := 1) X (tgt := 9) d_JP_checkIndex_1 (by rfl) (by omega) ?_
    refine aw_iload_n (pc := 4) X d_JP_checkIndex_4 (by rfl) ?_
    refine aw_iload_n (pc := 5) X d_JP_checkIndex_5 (by rfl) ?_
    refine aw_icmp_ltN (pc := 6) X (tgt := 16) d_JP_checkIndex_6 (by rfl) (by omega) (by omega) (fun h6 => ?_) (fun h6 => ?_)
    -- br 6 lv=0:n,1:n,2:c st=
    · refine aw_iload_n (pc := 16) X d_JP_checkIndex_16 (by rfl) ?_
      refine aw_iret Y X rfl d_JP_checkIndex_17 (by omega) (by omega) (hP _ _ _ ?_)
      -- ret 17 lv=0:n,1:n,2:c st=n
      exact ⟨rfl, rfl, rfl⟩
    · omega
theorem c_JS_checkIndex {i n : Nat} (hd : 1 ≤ d) (hi : i < n) (hn : n < 2 ^ 31) : AC G y_JS_checkIndex b_JS_checkIndex 2 none d false [.int (nI i), .int (nI n)] nx w 0 0 (fun r w' nx' => nx' = nx ∧ w' = w ∧ r = none) := by
  refine AC.ofW (by decide) (Nat.le_of_ble_eq_true rfl) ?_
  intro E P hP Y X
  have X : aw_X G "java/lang/String" b_JS_checkIndex 2 none "checkIndex" _ _ _ _ _ E := X
  refine AW.eql (lv' := [(0, _), (1, _)]) (by rfl) ?_
  rcases X.c.2.2.2.2.2.1 with hz | ⟨t, hz⟩
  · refine aw_iload_n (pc := 0) X d_JS_checkIndex_0 (by rfl) ?_
    refine aw_iload_n (pc := 1) X d_JS_checkIndex_1 (by rfl) ?_
    -- stop 2 lv=0:n,1:n st=n,n
    refine aw_gets (pc := 2) X hz k_223 d_JS_checkIndex_2 ?_
    refine aw_callS (pc := 5) X (c_JP_checkIndex (d := 0) (Or.inl rfl) hi hn) q_JP_checkIndex k_225 k_226 d_JS_checkIndex_5 (by omega) (Nat.le_of_ble_eq_true rfl) ⟨by omega, by omega⟩ (fun h => by cases h) (fun r w2 nx2 hp => ?_)
    obtain ⟨rfl, rfl, rfl⟩ := hp
    refine aw_pop (pc := 8) X d_JS_checkIndex_8 (by rfl) ?_
    refine aw_vret Y X rfl d_JS_checkIndex_9 (by omega) (by omega) (hP _ _ _ ?_)
    -- ret 9 lv=0:n,1:n st=
    exact ⟨rfl, rfl, rfl⟩
  · refine aw_iload_n (pc := 0) X d_JS_checkIndex_0 (by rfl) ?_
    refine aw_iload_n (pc := 1) X d_JS_checkIndex_1 (by rfl) ?_
    -- stop 2 lv=0:n,1:n st=n,n
    refine aw_gets (pc := 2) X hz k_223 d_JS_checkIndex_2 ?_
    refine aw_callS (pc := 5) X (c_JP_checkIndex (d := 0) (Or.inr ⟨_, rfl⟩) hi hn) q_JP_checkIndex k_225 k_226 d_JS_checkIndex_5 (by omega) (Nat.le_of_ble_eq_true rfl) ⟨by omega, by omega⟩ (fun h => by cases h) (fun r w2 nx2 hp => ?_)
    obtain ⟨rfl, rfl, rfl⟩ := hp
    refine aw_pop (pc := 8) X d_JS_checkIndex_8 (by rfl) ?_
    refine aw_vret Y X rfl d_JS_checkIndex_9 (by omega) (by omega) (hP _ _ _ ?_)
    -- ret 9 lv=0:n,1:n st=
    exact ⟨rfl, rfl, rfl⟩
theorem c_JL_charAt {k i : Nat} (hk : k < 16) (hd : 2 ≤ d) (hi : i < (wrd k).length) : AC G y_JL_charAt b_JL_charAt 2 (some .char) d false [.ref (G.2.2.2.2 (34 + k)), .int (nI i)] nx w 0 0 (fun r w' nx' => nx' = nx ∧ w' = w ∧ r = some (.int (nI ((wrd k).getD i 0)))) := by
  have hl := wrd_len k hk
  have hc := wrd_lt k hk i (by omega)
  refine AC.ofW (by decide) (Nat.le_of_ble_eq_true rfl) ?_
  intro E P hP Y X
  have X : aw_X G "java/lang/StringLatin1" b_JL_charAt 2 (some .char) "charAt" _ _ _ _ _ E := X
  refine AW.eql (lv' := [(0, _), (1, _)]) (by rfl) ?_
  refine aw_iload_n (pc := 0) X d_JL_charAt_0 (by rfl) ?_
  refine aw_aload_n (pc := 1) X d_JL_charAt_1 (by rfl) ?_
  -- stop 2 lv=0:c,1:n st=c,n
  refine aw_tlen (pc := 2) X (X.c.2.2.2.2.2.2 k hk).2.2.2.2.2.2 d_JL_charAt_2 ?_
  refine aw_callS (pc := 3) X (c_JS_checkIndex (d := 1) (by omega) hi (by omega)) q_JS_checkIndex k_220 k_221 d_JL_charAt_3 (by omega) (Nat.le_of_ble_eq_true rfl) ⟨by omega, by omega⟩ (fun h => by cases h) (fun r w2 nx2 hp => ?_)
  obtain ⟨rfl, rfl, rfl⟩ := hp
  refine aw_aload_n (pc := 6) X d_JL_charAt_6 (by rfl) ?_
  refine aw_iload_n (pc := 7) X d_JL_charAt_7 (by rfl) ?_
  -- stop 8 lv=0:c,1:n st=n,c
  refine aw_tb (pc := 8) X (X.c.2.2.2.2.2.2 k hk).2.2.2.2.2.2 hi (by omega) rfl d_JL_charAt_8 ?_
  refine aw_sipushN (pc := 9) X 255 d_JL_charAt_9 (by decide) ?_
  refine aw_iand (pc := 12) X d_JL_charAt_12 ?_
  -- stop 13 lv=0:c,1:n st=i
  rw [nI_and255 _ hc]
  refine aw_i2cN (pc := 13) X d_JL_charAt_13 (by omega) ?_
  refine aw_zret Y X rfl (narC (by omega)) d_JL_charAt_14 (by omega) (by omega) (hP _ _ _ ?_)
  -- ret 14 lv=0:c,1:n st=n
  exact ⟨rfl, rfl, rfl⟩
theorem c_JS_charAt {k i : Nat} (hk : k < 16) (hd : 3 ≤ d) (hi : i < (wrd k).length) : AC G y_JS_charAt b_JS_charAt 2 (some .char) d false [.ref (G.2.2.2.2 (18 + k)), .int (nI i)] nx w 0 0 (fun r w' nx' => nx' = nx ∧ w' = w ∧ r = some (.int (nI ((wrd k).getD i 0)))) := by
  have hl := wrd_len k hk
  have hc := wrd_lt k hk i (by omega)
  refine AC.ofW (by decide) (Nat.le_of_ble_eq_true rfl) ?_
  intro E P hP Y X
  have X : aw_X G "java/lang/String" b_JS_charAt 2 (some .char) "charAt" _ _ _ _ _ E := X
  refine AW.eql (lv' := [(0, _), (1, _)]) (by rfl) ?_
  refine aw_aload_n (pc := 0) X d_JS_charAt_0 (by rfl) ?_
  -- stop 1 lv=0:c,1:n st=c
  refine aw_callC (pc := 1) X _ (c_JS_isLatin1 (d := 0) hk) q_JS_isLatin1 k_213 k_214 k_215 (X.c.2.2.2.2.2.2 k hk).2.2.2.1 d_JS_charAt_1 (by omega) (Nat.le_of_ble_eq_true rfl) ⟨by omega, by omega⟩ (fun h => by cases h) (fun r w2 nx2 hp => ?_)
  obtain ⟨rfl, rfl, rfl⟩ := hp
  refine aw_if_eqN (pc := 4) X (tgt := 16) d_JS_charAt_4 (by rfl) (by omega) (fun h4 => ?_) (fun h4 => ?_)
  -- br 4 lv=0:c,1:n st=
  · exact absurd h4 (by decide)
  · refine aw_aload_n (pc := 7) X d_JS_charAt_7 (by rfl) ?_
    -- stop 8 lv=0:c,1:n st=c
    refine aw_getc (pc := 8) X (X.c.2.2.2.2.2.2 k hk).2.2.2.2.2.1 k_1162 d_JS_charAt_8 ?_
    refine aw_iload_n (pc := 11) X d_JS_charAt_11 (by rfl) ?_
    -- stop 12 lv=0:c,1:n st=n,c
    refine aw_callS (pc := 12) X (c_JL_charAt (d := 2) hk (by omega) hi) q_JL_charAt k_217 k_218 d_JS_charAt_12 (by omega) (Nat.le_of_ble_eq_true rfl) ⟨by omega, by omega⟩ (fun h => by cases h) (fun r w2 nx2 hp => ?_)
    obtain ⟨rfl, rfl, rfl⟩ := hp
    refine aw_zret Y X rfl (narC (by omega)) d_JS_charAt_15 (by omega) (by omega) (hP _ _ _ ?_)
    -- ret 15 lv=0:c,1:n st=n
    exact ⟨rfl, rfl, rfl⟩
theorem s_De_setBuiltIn {a k : Nat} {t : Def} (ha : a + 4 < nx) (hd : 4 ≤ d) (hk : k < 16) (h : hDe G w a t) : AC G y_De_setBuiltIn b_De_setBuiltIn 3 none d false [rf G a, .ref (G.2.2.2.2 k)] nx w 0 0 (fun r w' nx' => nx' = nx ∧ r = none ∧ hDe G w' a (wrd k, k + 1, []) ∧ fr a (a + 5) w w') := by
  obtain ⟨h1, h2, h4⟩ := h
  have hl := wrd_len k hk
  have h1' : w a = aObj 5 [rf G (a + 1), rf G (a + 3), kV G t.2.1] := h1
  refine AC.ofW (by decide) (Nat.le_of_ble_eq_true rfl) ?_
  intro E P hP Y X
  have X : aw_X G "RescanDesk$Definition" b_De_setBuiltIn 3 none "setBuiltIn" _ _ _ _ _ E := X
  refine AW.eql (lv' := [(0, _), (1, _)]) (by rfl) ?_
  have L : ∀ (j i : Nat) (w1 : Nat → va_E), i + j = (wrd k).length → w1 a = aObj 5 [rf G (a + 1), rf G (a + 3), kV G (k + 1)] → hTx G w1 (a + 1) 12 ((wrd k).take i) → hTx G w1 (a + 3) 100 [] → fr a (a + 5) w w1 → AW G E 3 nx 0 0 w1 21 [(2, .int (nI i)), (0, rf G a), (1, .ref (G.2.2.2.2 k))] [] := by
    intro j
    induction j with
    | zero =>
      intro i w1 hi e1 e2 e4 ef
      refine aw_iload_n (pc := 21) X d_De_setBuiltIn_21 (by rfl) ?_
      refine aw_aload_n (pc := 22) X d_De_setBuiltIn_22 (by rfl) ?_
      -- stop 23 lv=2:n,0:r,1:c st=c,n
      refine aw_getcN (pc := 23) X (X.c.2.2.2.2.2.2 k hk).2.2.1 k_1161 d_De_setBuiltIn_23 ?_
      refine aw_callC (pc := 26) X _ (c_JS_length (d := 1) hk (by omega)) q_JS_length k_199 k_200 k_201 (X.c.2.2.2.2.2.2 k hk).2.2.2.1 d_De_setBuiltIn_26 (by omega) (Nat.le_of_ble_eq_true rfl) ⟨by omega, by omega⟩ (fun h => by cases h) (fun r w2 nx2 hp => ?_)
      obtain ⟨rfl, rfl, rfl⟩ := hp
      refine aw_icmp_geN (pc := 29) X (tgt := 54) d_De_setBuiltIn_29 (by rfl) (by omega) (by omega) (fun h29 => ?_) (fun h29 => ?_)
      -- br 29 lv=2:n,0:r,1:c st=
      · refine aw_vret Y X rfl d_De_setBuiltIn_54 (by omega) (by omega) (hP _ _ _ ?_)
        -- ret 54 lv=2:n,0:r,1:c st=
        rw [List.take_of_length_le (by omega)] at e2
        exact ⟨rfl, rfl, ⟨e1, e2, e4⟩, ef⟩
      · omega
    | succ j ih =>
      intro i w1 hi e1 e2 e4 ef
      have e2o := e2.obj
      have hc := wrd_lt k hk i (by omega)
      refine aw_iload_n (pc := 21) X d_De_setBuiltIn_21 (by rfl) ?_
      refine aw_aload_n (pc := 22) X d_De_setBuiltIn_22 (by rfl) ?_
      -- stop 23 lv=2:n,0:r,1:c st=c,n
      refine aw_getcN (pc := 23) X (X.c.2.2.2.2.2.2 k hk).2.2.1 k_1161 d_De_setBuiltIn_23 ?_
      refine aw_callC (pc := 26) X _ (c_JS_length (d := 1) hk (by omega)) q_JS_length k_199 k_200 k_201 (X.c.2.2.2.2.2.2 k hk).2.2.2.1 d_De_setBuiltIn_26 (by omega) (Nat.le_of_ble_eq_true rfl) ⟨by omega, by omega⟩ (fun h => by cases h) (fun r w2 nx2 hp => ?_)
      obtain ⟨rfl, rfl, rfl⟩ := hp
      refine aw_icmp_geN (pc := 29) X (tgt := 54) d_De_setBuiltIn_29 (by rfl) (by omega) (by omega) (fun h29 => ?_) (fun h29 => ?_)
      -- br 29 lv=2:n,0:r,1:c st=
      · omega
      · refine aw_aload_nR (pc := 32) X d_De_setBuiltIn_32 (by rfl) ?_
        refine aw_getO (pc := 33) X _ 0 (by omega) (by (repeat (first | rw [aw_up_eq] | rw [aw_up_ne _ _ (by first | assumption | omega)])) <;> first | assumption | rfl) (by rfl) in_De (by decide) k_175 (by rfl) d_De_setBuiltIn_33 ?_
        refine aw_aload_n (pc := 36) X d_De_setBuiltIn_36 (by rfl) ?_
        -- stop 37 lv=2:n,0:r,1:c st=c,r
        refine aw_getcN (pc := 37) X (X.c.2.2.2.2.2.2 k hk).2.2.1 k_1161 d_De_setBuiltIn_37 ?_
        refine aw_iload_n (pc := 40) X d_De_setBuiltIn_40 (by rfl) ?_
        -- stop 41 lv=2:n,0:r,1:c st=n,c,r
        refine aw_callC (pc := 41) X _ (c_JS_charAt (d := 3) hk (by omega) (by omega)) q_JS_charAt k_209 k_210 k_211 (X.c.2.2.2.2.2.2 k hk).2.2.2.1 d_De_setBuiltIn_41 (by omega) (Nat.le_of_ble_eq_true rfl) ⟨by omega, by omega⟩ (fun h => by cases h) (fun r w3 nx2 hp => ?_)
        obtain ⟨rfl, rfl, rfl⟩ := hp
        refine aw_callV (pc := 44) X _ (s_Tx_add (d := 0) (by omega) (by omega) (by omega) e2) q_Tx_add k_247 k_248 k_249 (by omega) e2o (by rfl) d_De_setBuiltIn_44 (by omega) (Nat.le_of_ble_eq_true rfl) ⟨by omega, by omega⟩ (fun h => by cases h) (fun r w4 nx2 hp => ?_)
        obtain ⟨rfl, rfl, k4, kf⟩ := hp
        refine aw_pop (pc := 47) X d_De_setBuiltIn_47 (by rfl) ?_
        refine aw_iincN (pc := 48) X 1 (lv' := [(2, _), (0, _), (1, _)]) d_De_setBuiltIn_48 (by rfl) (by decide) (by decide) (by rfl) ?_
        refine aw_goto (pc := 51) X (tgt := 21) d_De_setBuiltIn_51 (by rfl) ?_
        -- stop 21 lv=2:n,0:r,1:c st=
        have ht : ((wrd k).take i ++ [(wrd k).getD i 0]).take 12 = (wrd k).take (i + 1) := by
          rw [List.take_of_length_le (by simp; omega), List.take_succ]
          congr 1
          rw [List.getD_eq_getElem?_getD, List.getElem?_eq_getElem (by omega)]
          rfl
        rw [ht] at k4
        exact ih (i + 1) w4 (by omega) ((kf _ (by omega)).trans e1) k4 (e4.keep kf (by omega)) (ef.trans (kf.mono (by omega) (by omega)))
  refine aw_aload_nR (pc := 0) X d_De_setBuiltIn_0 (by rfl) ?_
  refine aw_aload_n (pc := 1) X d_De_setBuiltIn_1 (by rfl) ?_
  refine aw_putO (pc := 2) X _ 2 (by omega) (by (repeat (first | rw [aw_up_eq] | rw [aw_up_ne _ _ (by first | assumption | omega)])) <;> first | assumption | rfl) (by rfl) in_De (by decide) ty_De ok_De nm_De k_180 (by rfl) (by rfl) (by rfl) (by simp) (fs' := [_, _, _]) (by rfl) d_De_setBuiltIn_2 ?_
  -- stop 5 lv=0:r,1:c st=
  generalize hw1 : aw_up w a _ = w1
  have f1 : fr a (a + 1) w w1 := by rw [← hw1]; exact (fr.refl _ _ _).up _ (by omega)
  have a1 : w1 a = aObj 5 [rf G (a + 1), rf G (a + 3), kV G (k + 1)] := by rw [← hw1]; exact aw_up_eq _ _ _
  have h21 := h2.keep f1 (by omega)
  have h41 := h4.keep f1 (by omega)
  have h41o := h41.obj
  refine aw_aload_nR (pc := 5) X d_De_setBuiltIn_5 (by rfl) ?_
  refine aw_getO (pc := 6) X _ 1 (by omega) (by (repeat (first | rw [aw_up_eq] | rw [aw_up_ne _ _ (by first | assumption | omega)])) <;> first | assumption | rfl) (by rfl) in_De (by decide) k_178 (by rfl) d_De_setBuiltIn_6 ?_
  -- invokevirtual 9 lv=0:r,1:c st=r
  refine aw_callV (pc := 9) X _ (s_Tx_empty (d := 0) (by omega) h41) q_Tx_empty k_195 k_196 k_197 (by omega) h41o (by rfl) d_De_setBuiltIn_9 (by omega) (Nat.le_of_ble_eq_true rfl) ⟨by omega, by omega⟩ (fun h => by cases h) (fun r w2 nx2 hp => ?_)
  obtain ⟨rfl, rfl, k4, f2⟩ := hp
  have a2 : w2 a = aObj 5 [rf G (a + 1), rf G (a + 3), kV G (k + 1)] := (f2 _ (by omega)).trans a1
  have h22 := h21.keep f2 (by omega)
  have h22o := h22.obj
  refine aw_aload_nR (pc := 12) X d_De_setBuiltIn_12 (by rfl) ?_
  refine aw_getO (pc := 13) X _ 0 (by omega) (by (repeat (first | rw [aw_up_eq] | rw [aw_up_ne _ _ (by first | assumption | omega)])) <;> first | assumption | rfl) (by rfl) in_De (by decide) k_175 (by rfl) d_De_setBuiltIn_13 ?_
  -- invokevirtual 16 lv=0:r,1:c st=r
  refine aw_callV (pc := 16) X _ (s_Tx_empty (d := 0) (by omega) h22) q_Tx_empty k_195 k_196 k_197 (by omega) h22o (by rfl) d_De_setBuiltIn_16 (by omega) (Nat.le_of_ble_eq_true rfl) ⟨by omega, by omega⟩ (fun h => by cases h) (fun r w3 nx2 hp => ?_)
  obtain ⟨rfl, rfl, k5, f3⟩ := hp
  refine aw_iconstN (pc := 19) X 0 d_De_setBuiltIn_19 (by decide) ?_
  refine aw_istore_n (pc := 20) X (lv' := [(2, _), (0, _), (1, _)]) d_De_setBuiltIn_20 (by decide) (by rfl) ?_
  -- stop 21 lv=2:n,0:r,1:c st=
  exact L (wrd k).length 0 w3 (by omega) ((f3 _ (by omega)).trans a2) k5 (k4.keep f3 (by omega)) ((f1.mono (by omega) (by omega)).trans ((f2.mono (by omega) (by omega)).trans (f3.mono (by omega) (by omega))))
end

