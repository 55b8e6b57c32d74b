/-! Expander.makeText, expand -/
def txtS (k : Nat) (ar : List (List Nat)) (p : Option Nat) (T : List Def) : List Nat :=
  if k = 4 then argOf ar (if tfind T (argOf ar 1) = none then 3 else 2)
  else if k = 5 then argOf ar (chosen ar 3 1)
  else if k = 6 then dec (valL (argOf ar 1) + 1)
  else if k = 8 then dec (lN (argOf ar 1).length)
  else if k = 9 then cutS ar
  else if k = 10 then dec (pV (idxS ar 402 0)).toInt64
  else if k = 11 then lstL ar true 2
  else if k = 14 then dec (pV p).toInt64
  else []
theorem pV_eq {o : Option Nat} (h : ∀ k, o = some k → k < 2 ^ 31) : pV o = -1 ↔ o = none := by
  cases o with
  | none => exact ⟨fun _ => rfl, fun _ => rfl⟩
  | some k =>
    refine ⟨fun e => ?_, fun e => by cases e⟩
    have e2 : nI k = -1 := e
    have e3 := congrArg Int32.toInt e2
    rw [nI_toInt (h k rfl)] at e3
    have : (-1 : Int32).toInt = -1 := by decide
    omega
theorem chosen_lt (ar : List (List Nat)) : ∀ k a, chosen ar k a ≤ a + 3 * k + 3
  | 0, a => by rw [chosen]; omega
  | k + 1, a => by
    rw [chosen]
    split
    · omega
    · split
      · omega
      · have := chosen_lt ar k (a + 3); omega
section
variable {G : aw_G} {nx d : Nat} {w : Nat → va_E}
theorem s_Ex_makeText {a k : Nat} {t : Def} {ar : List (List Nat)} {q : XS} (hnx : 418 ≤ nx) (hd : 5 ≤ d) (ha : 321 ≤ a ∧ a + 7 ≤ 412) (hk : k < 16) (hx : hX G w q) (h : hRdy G w a t ar) : AC G y_Ex_makeText b_Ex_makeText 3 none d false [rf G 412, rf G a, .ref (G.2.2.2.2 k)] nx w 0 0 (fun r w' nx' => nx' = nx ∧ r = none ∧ hX G w' (q.1, q.2.1, q.2.2.1, q.2.2.2.1, (q.2.2.2.2 ++ txtS k ar q.2.1 q.2.2.2.1).take 601) ∧ fx w w') := by
  have hx0 := hx
  obtain ⟨x1, x2, x3, x4, x5, x6⟩ := hx
  have h0 := h
  obtain ⟨st, gg, dp, bg, c1, c2, c3, c4, c5, c6⟩ := h
  have c11 := c1.1
  have c1' : w a = aObj 7 [rf G (a + 1), rf G 319, rf G (a + 6), .int (nI ar.length), .int (nI dp), .int (nI (bN bg))] := c11
  have he' : w 412 = aObj 8 [rf G 3, rf G 5, rf G 15, rf G 413, rf G 416] := x6
  have hR5 := x2.1
  have x5o := x5.obj
  have a1 : argL gg st ar.length 1 = argOf ar 1 := c6 1
  have hn9 := c2.1
  have al1 : too st ar.length 1 - frm st ar.length 1 = (argOf ar 1).length := by rw [← a1, argL, sl_len]
  have F : ∀ {w' : Nat → va_E} {s : List Nat}, hTx G w' 416 601 s → fr 416 418 w w' → hX G w' (q.1, q.2.1, q.2.2.1, q.2.2.2.1, s) ∧ fx w w' := fun h1 h2 => ⟨hx0.made h1 h2, fx.of h2 (by omega)⟩
  refine AC.ofW (by decide) (Nat.le_of_ble_eq_true rfl) ?_
  intro E P hP Y X
  have X : aw_X G "RescanDesk$Expander" b_Ex_makeText 3 none "makeText" _ _ _ _ _ E := X
  refine AW.eql (lv' := [(0, _), (1, _), (2, _)]) (by rfl) ?_
  refine aw_gets (pc := 0) X X.c.1 k_652 d_Ex_makeText_0 ?_
  refine aw_aload_n (pc := 3) X d_Ex_makeText_3 (by rfl) ?_
  -- stop 4 lv=0:r,1:r,2:c st=c,c
  refine aw_callU (pc := 4) X (x := ⟨"RescanDesk$BuiltIn", "ordinal", "()I"⟩) (owner := "java/lang/Enum") "RescanDesk$BuiltIn" _ (c_JE_ordinal (d := 0) hk) q_JE_ordinal rfl ⟨by decide, by decide, by decide +kernel⟩ k_654 k_655 k_658 k_657 (X.c.2.2.2.2.2.2 k hk).1 d_Ex_makeText_4 (by omega) (Nat.le_of_ble_eq_true rfl) ⟨by omega, by omega⟩ (fun h => by cases h) (fun r w2 nx2 hp => ?_)
  obtain ⟨rfl, rfl, rfl⟩ := hp
  refine aw_ti (pc := 7) X X.c.2.1 hk (by omega) rfl d_Ex_makeText_7 ?_
  by_cases k4 : k = 4
  · subst k4
    refine aw_tableIn (pc := 8) X (off := 48) (tgt := 56) d_Ex_makeText_8 (by decide) (by decide) (by decide) (by rfl) ?_
    refine aw_aload_nR (pc := 56) X d_Ex_makeText_56 (by rfl) ?_
    refine aw_aload_nR (pc := 57) X d_Ex_makeText_57 (by rfl) ?_
    refine aw_aload_nR (pc := 58) X d_Ex_makeText_58 (by rfl) ?_
    refine aw_aload_nR (pc := 59) X d_Ex_makeText_59 (by rfl) ?_
    -- invokevirtual 60 lv=0:r,1:r,2:c st=r,r,r,r
    refine aw_callV (pc := 60) X _ (s_Ex_placeOfFirst (d := 2) hnx (by omega) ha x6 x3 h0) q_Ex_placeOfFirst k_673 k_675 k_13 (by omega) x6 (by rfl) d_Ex_makeText_60 (by omega) (Nat.le_of_ble_eq_true rfl) ⟨by omega, by omega⟩ (fun h => by cases h) (fun r w3 nx2 hp => ?_)
    obtain ⟨rfl, rfl, rfl⟩ := hp
    have hpv := pV_eq (o := tfind q.2.2.2.1 (argOf ar 1)) (fun k hk => by
      have h1 := tfd_lt hk
      obtain ⟨fa, g, z⟩ := x3
      have := z.1
      omega)
    refine aw_iconst (pc := 63) X (v := -1) d_Ex_makeText_63 (by decide) ?_
    refine aw_icmp_ne (pc := 64) X (tgt := 71) d_Ex_makeText_64 (by rfl) (fun h64 => ?_) (fun h64 => ?_)
    -- br 64 lv=0:r,1:r,2:c st=r,r
    · refine aw_iconstN (pc := 71) X 2 d_Ex_makeText_71 (by decide) ?_
      -- invokevirtual 72 lv=0:r,1:r,2:c st=n,r,r
      refine aw_callV (pc := 72) X _ (s_Ex_makeArgument (d := 2) (i := 2) hnx (by omega) ha (by omega) x6 x5 h0) q_Ex_makeArgument k_623 k_625 k_9 (by omega) x6 (by rfl) d_Ex_makeText_72 (by omega) (Nat.le_of_ble_eq_true rfl) ⟨by omega, by omega⟩ (fun h => by cases h) (fun r w4 nx2 hp => ?_)
      obtain ⟨rfl, rfl, h4, hf4⟩ := hp
      refine aw_goto (pc := 75) X (tgt := 176) d_Ex_makeText_75 (by rfl) ?_
      refine aw_vret Y X rfl d_Ex_makeText_176 (by omega) (by omega) (hP _ _ _ ?_)
      -- ret 176 lv=0:r,1:r,2:c st=
      rw [txtS, if_pos rfl, if_neg (fun e => h64 (hpv.mpr e))]
      exact ⟨rfl, rfl, F h4 hf4⟩
    · refine aw_iconstN (pc := 67) X 3 d_Ex_makeText_67 (by decide) ?_
      refine aw_goto (pc := 68) X (tgt := 72) d_Ex_makeText_68 (by rfl) ?_
      -- invokevirtual 72 lv=0:r,1:r,2:c st=n,r,r
      refine aw_callV (pc := 72) X _ (s_Ex_makeArgument (d := 2) (i := 3) hnx (by omega) ha (by omega) x6 x5 h0) q_Ex_makeArgument k_623 k_625 k_9 (by omega) x6 (by rfl) d_Ex_makeText_72 (by omega) (Nat.le_of_ble_eq_true rfl) ⟨by omega, by omega⟩ (fun h => by cases h) (fun r w4 nx2 hp => ?_)
      obtain ⟨rfl, rfl, h4, hf4⟩ := hp
      refine aw_goto (pc := 75) X (tgt := 176) d_Ex_makeText_75 (by rfl) ?_
      refine aw_vret Y X rfl d_Ex_makeText_176 (by omega) (by omega) (hP _ _ _ ?_)
      -- ret 176 lv=0:r,1:r,2:c st=
      rw [txtS, if_pos rfl, if_pos (hpv.mp h64)]
      exact ⟨rfl, rfl, F h4 hf4⟩
  by_cases k5 : k = 5
  · subst k5
    refine aw_tableIn (pc := 8) X (off := 70) (tgt := 78) d_Ex_makeText_8 (by decide) (by decide) (by decide) (by rfl) ?_
    refine aw_aload_nR (pc := 78) X d_Ex_makeText_78 (by rfl) ?_
    refine aw_aload_nR (pc := 79) X d_Ex_makeText_79 (by rfl) ?_
    refine aw_aload_nR (pc := 80) X d_Ex_makeText_80 (by rfl) ?_
    refine aw_aload_nR (pc := 81) X d_Ex_makeText_81 (by rfl) ?_
    -- invokevirtual 82 lv=0:r,1:r,2:c st=r,r,r,r
    refine aw_callV (pc := 82) X _ (s_Ex_chosen (d := 4) hnx (by omega) ha h0) q_Ex_chosen k_775 k_777 k_22 (by omega) x6 (by rfl) d_Ex_makeText_82 (by omega) (Nat.le_of_ble_eq_true rfl) ⟨by omega, by omega⟩ (fun h => by cases h) (fun r w3 nx2 hp => ?_)
    obtain ⟨rfl, rfl, rfl⟩ := hp
    have hc := chosen_lt ar 3 1
    refine aw_callV (pc := 85) X _ (s_Ex_makeArgument (d := 2) (i := chosen ar 3 1) hnx (by omega) ha (by omega) x6 x5 h0) q_Ex_makeArgument k_623 k_625 k_9 (by omega) x6 (by rfl) d_Ex_makeText_85 (by omega) (Nat.le_of_ble_eq_true rfl) ⟨by omega, by omega⟩ (fun h => by cases h) (fun r w4 nx2 hp => ?_)
    obtain ⟨rfl, rfl, h4, hf4⟩ := hp
    refine aw_goto (pc := 88) X (tgt := 176) d_Ex_makeText_88 (by rfl) ?_
    refine aw_vret Y X rfl d_Ex_makeText_176 (by omega) (by omega) (hP _ _ _ ?_)
    -- ret 176 lv=0:r,1:r,2:c st=
    exact ⟨rfl, rfl, F h4 hf4⟩
  by_cases k6 : k = 6
  · subst k6
    refine aw_tableIn (pc := 8) X (off := 83) (tgt := 91) d_Ex_makeText_8 (by decide) (by decide) (by decide) (by rfl) ?_
    refine aw_aload_nR (pc := 91) X d_Ex_makeText_91 (by rfl) ?_
    refine aw_getO (pc := 92) X _ 4 (by omega) (by (repeat (first | rw [aw_up_eq] | rw [aw_up_ne _ _ (by first | assumption | omega)])) <;> first | assumption | rfl) (by rfl) in_Ex (by decide) k_360 (by rfl) d_Ex_makeText_92 ?_
    refine aw_aload_nR (pc := 95) X d_Ex_makeText_95 (by rfl) ?_
    refine aw_iconstN (pc := 96) X 1 d_Ex_makeText_96 (by decide) ?_
    -- invokevirtual 97 lv=0:r,1:r,2:c st=n,r,r
    refine aw_callV (pc := 97) X _ (c_Ca_value (d := 2) (i := 1) (by omega) (by omega) (by omega) (by omega) c2 c1 c4 c3) q_Ca_value k_699 k_700 k_701 (by omega) c11 (by rfl) d_Ex_makeText_97 (by omega) (Nat.le_of_ble_eq_true rfl) ⟨by omega, by omega⟩ (fun h => by cases h) (fun r w3 nx2 hp => ?_)
    obtain ⟨rfl, rfl, rfl⟩ := hp
    rw [a1]
    refine aw_lconst (pc := 100) X (v := 1) d_Ex_makeText_100 (by decide) ?_
    refine aw_ladd (pc := 101) X d_Ex_makeText_101 ?_
    -- invokevirtual 102 lv=0:r,1:r,2:c st=l,r
    refine aw_callV (pc := 102) X _ (s_Tx_addNumber (d := 1) (by omega) (by omega) (by omega) x5) q_Tx_addNumber k_635 k_636 k_637 (by omega) x5o (by rfl) d_Ex_makeText_102 (by omega) (Nat.le_of_ble_eq_true rfl) ⟨by omega, by omega⟩ (fun h => by cases h) (fun r w4 nx2 hp => ?_)
    obtain ⟨rfl, rfl, h4, hf4⟩ := hp
    refine aw_goto (pc := 105) X (tgt := 176) d_Ex_makeText_105 (by rfl) ?_
    refine aw_vret Y X rfl d_Ex_makeText_176 (by omega) (by omega) (hP _ _ _ ?_)
    -- ret 176 lv=0:r,1:r,2:c st=
    exact ⟨rfl, rfl, F h4 hf4⟩
  by_cases k8 : k = 8
  · subst k8
    refine aw_tableIn (pc := 8) X (off := 100) (tgt := 108) d_Ex_makeText_8 (by decide) (by decide) (by decide) (by rfl) ?_
    refine aw_aload_nR (pc := 108) X d_Ex_makeText_108 (by rfl) ?_
    refine aw_getO (pc := 109) X _ 4 (by omega) (by (repeat (first | rw [aw_up_eq] | rw [aw_up_ne _ _ (by first | assumption | omega)])) <;> first | assumption | rfl) (by rfl) in_Ex (by decide) k_360 (by rfl) d_Ex_makeText_109 ?_
    refine aw_aload_nR (pc := 112) X d_Ex_makeText_112 (by rfl) ?_
    refine aw_iconstN (pc := 113) X 1 d_Ex_makeText_113 (by decide) ?_
    -- invokevirtual 114 lv=0:r,1:r,2:c st=n,r,r
    refine aw_callV (pc := 114) X _ (c_Ca_length (d := 1) (i := 1) (by omega) (by omega) (by omega) c2 c1) q_Ca_length k_667 k_668 k_669 (by omega) c11 (by rfl) d_Ex_makeText_114 (by omega) (Nat.le_of_ble_eq_true rfl) ⟨by omega, by omega⟩ (fun h => by cases h) (fun r w3 nx2 hp => ?_)
    obtain ⟨rfl, rfl, rfl⟩ := hp
    have f1 := c2.ft 1
    have hl4 : (argOf ar 1).length ≤ 400 := by omega
    rw [al1]
    refine aw_i2lN (pc := 117) X d_Ex_makeText_117 (by omega) ?_
    -- invokevirtual 118 lv=0:r,1:r,2:c st=l,r
    refine aw_callV (pc := 118) X _ (s_Tx_addNumber (d := 1) (by omega) (by omega) (by omega) x5) q_Tx_addNumber k_635 k_636 k_637 (by omega) x5o (by rfl) d_Ex_makeText_118 (by omega) (Nat.le_of_ble_eq_true rfl) ⟨by omega, by omega⟩ (fun h => by cases h) (fun r w4 nx2 hp => ?_)
    obtain ⟨rfl, rfl, h4, hf4⟩ := hp
    refine aw_goto (pc := 121) X (tgt := 176) d_Ex_makeText_121 (by rfl) ?_
    refine aw_vret Y X rfl d_Ex_makeText_176 (by omega) (by omega) (hP _ _ _ ?_)
    -- ret 176 lv=0:r,1:r,2:c st=
    exact ⟨rfl, rfl, F h4 hf4⟩
  by_cases k9 : k = 9
  · subst k9
    refine aw_tableIn (pc := 8) X (off := 116) (tgt := 124) d_Ex_makeText_8 (by decide) (by decide) (by decide) (by rfl) ?_
    refine aw_aload_nR (pc := 124) X d_Ex_makeText_124 (by rfl) ?_
    refine aw_aload_nR (pc := 125) X d_Ex_makeText_125 (by rfl) ?_
    -- invokevirtual 126 lv=0:r,1:r,2:c st=r,r
    refine aw_callV (pc := 126) X _ (s_Ex_makePart (d := 3) hnx (by omega) ha x6 x5 h0) q_Ex_makePart k_788 k_790 k_23 (by omega) x6 (by rfl) d_Ex_makeText_126 (by omega) (Nat.le_of_ble_eq_true rfl) ⟨by omega, by omega⟩ (fun h => by cases h) (fun r w3 nx2 hp => ?_)
    obtain ⟨rfl, rfl, h4, hf4⟩ := hp
    refine aw_goto (pc := 129) X (tgt := 176) d_Ex_makeText_129 (by rfl) ?_
    refine aw_vret Y X rfl d_Ex_makeText_176 (by omega) (by omega) (hP _ _ _ ?_)
    -- ret 176 lv=0:r,1:r,2:c st=
    exact ⟨rfl, rfl, F h4 hf4⟩
  by_cases k10 : k = 10
  · subst k10
    refine aw_tableIn (pc := 8) X (off := 124) (tgt := 132) d_Ex_makeText_8 (by decide) (by decide) (by decide) (by rfl) ?_
    refine aw_aload_nR (pc := 132) X d_Ex_makeText_132 (by rfl) ?_
    refine aw_getO (pc := 133) X _ 4 (by omega) (by (repeat (first | rw [aw_up_eq] | rw [aw_up_ne _ _ (by first | assumption | omega)])) <;> first | assumption | rfl) (by rfl) in_Ex (by decide) k_360 (by rfl) d_Ex_makeText_133 ?_
    refine aw_aload_nR (pc := 136) X d_Ex_makeText_136 (by rfl) ?_
    refine aw_aload_nR (pc := 137) X d_Ex_makeText_137 (by rfl) ?_
    -- invokevirtual 138 lv=0:r,1:r,2:c st=r,r,r
    refine aw_callV (pc := 138) X _ (s_Ex_index (d := 3) hnx (by omega) ha h0) q_Ex_index k_798 k_800 k_24 (by omega) x6 (by rfl) d_Ex_makeText_138 (by omega) (Nat.le_of_ble_eq_true rfl) ⟨by omega, by omega⟩ (fun h => by cases h) (fun r w3 nx2 hp => ?_)
    obtain ⟨rfl, rfl, rfl⟩ := hp
    refine aw_i2l (pc := 141) X d_Ex_makeText_141 ?_
    -- invokevirtual 142 lv=0:r,1:r,2:c st=l,r
    refine aw_callV (pc := 142) X _ (s_Tx_addNumber (d := 1) (by omega) (by omega) (by omega) x5) q_Tx_addNumber k_635 k_636 k_637 (by omega) x5o (by rfl) d_Ex_makeText_142 (by omega) (Nat.le_of_ble_eq_true rfl) ⟨by omega, by omega⟩ (fun h => by cases h) (fun r w4 nx2 hp => ?_)
    obtain ⟨rfl, rfl, h4, hf4⟩ := hp
    refine aw_goto (pc := 145) X (tgt := 176) d_Ex_makeText_145 (by rfl) ?_
    refine aw_vret Y X rfl d_Ex_makeText_176 (by omega) (by omega) (hP _ _ _ ?_)
    -- ret 176 lv=0:r,1:r,2:c st=
    exact ⟨rfl, rfl, F h4 hf4⟩
  by_cases k11 : k = 11
  · subst k11
    refine aw_tableIn (pc := 8) X (off := 140) (tgt := 148) d_Ex_makeText_8 (by decide) (by decide) (by decide) (by rfl) ?_
    refine aw_aload_nR (pc := 148) X d_Ex_makeText_148 (by rfl) ?_
    refine aw_aload_nR (pc := 149) X d_Ex_makeText_149 (by rfl) ?_
    refine aw_iconstN (pc := 150) X 2 d_Ex_makeText_150 (by decide) ?_
    refine aw_iconstN (pc := 151) X 1 d_Ex_makeText_151 (by decide) ?_
    -- invokevirtual 152 lv=0:r,1:r,2:c st=n,n,r,r
    refine aw_callV (pc := 152) X _ (s_Ex_makeList (d := 3) (f := 2) (q := true) hnx (by omega) ha (by omega) (by omega) x6 x5 h0) q_Ex_makeList k_643 k_645 k_10 (by omega) x6 (by rfl) d_Ex_makeText_152 (by omega) (Nat.le_of_ble_eq_true rfl) ⟨by omega, by omega⟩ (fun h => by cases h) (fun r w3 nx2 hp => ?_)
    obtain ⟨rfl, rfl, h4, hf4⟩ := hp
    refine aw_goto (pc := 155) X (tgt := 176) d_Ex_makeText_155 (by rfl) ?_
    refine aw_vret Y X rfl d_Ex_makeText_176 (by omega) (by omega) (hP _ _ _ ?_)
    -- ret 176 lv=0:r,1:r,2:c st=
    exact ⟨rfl, rfl, F h4 hf4⟩
  by_cases k14 : k = 14
  · subst k14
    refine aw_tableIn (pc := 8) X (off := 150) (tgt := 158) d_Ex_makeText_8 (by decide) (by decide) (by decide) (by rfl) ?_
    refine aw_aload_nR (pc := 158) X d_Ex_makeText_158 (by rfl) ?_
    refine aw_getO (pc := 159) X _ 4 (by omega) (by (repeat (first | rw [aw_up_eq] | rw [aw_up_ne _ _ (by first | assumption | omega)])) <;> first | assumption | rfl) (by rfl) in_Ex (by decide) k_360 (by rfl) d_Ex_makeText_159 ?_
    refine aw_aload_nR (pc := 162) X d_Ex_makeText_162 (by rfl) ?_
    refine aw_getO (pc := 163) X _ 1 (by omega) (by (repeat (first | rw [aw_up_eq] | rw [aw_up_ne _ _ (by first | assumption | omega)])) <;> first | assumption | rfl) (by rfl) in_Ex (by decide) k_357 (by rfl) d_Ex_makeText_163 ?_
    refine aw_getNO (pc := 166) X _ 1 (by omega) (by (repeat (first | rw [aw_up_eq] | rw [aw_up_ne _ _ (by first | assumption | omega)])) <;> first | assumption | rfl) (by rfl) in_Ro (by decide) k_154 (by rfl) d_Ex_makeText_166 ?_
    refine aw_i2l (pc := 169) X d_Ex_makeText_169 ?_
    -- invokevirtual 170 lv=0:r,1:r,2:c st=l,r
    refine aw_callV (pc := 170) X _ (s_Tx_addNumber (d := 1) (by omega) (by omega) (by omega) x5) q_Tx_addNumber k_635 k_636 k_637 (by omega) x5o (by rfl) d_Ex_makeText_170 (by omega) (Nat.le_of_ble_eq_true rfl) ⟨by omega, by omega⟩ (fun h => by cases h) (fun r w4 nx2 hp => ?_)
    obtain ⟨rfl, rfl, h4, hf4⟩ := hp
    refine aw_goto (pc := 173) X (tgt := 176) d_Ex_makeText_173 (by rfl) ?_
    refine aw_vret Y X rfl d_Ex_makeText_176 (by omega) (by omega) (hP _ _ _ ?_)
    -- ret 176 lv=0:r,1:r,2:c st=
    exact ⟨rfl, rfl, F h4 hf4⟩
  have hS : txtS k ar q.2.1 q.2.2.2.1 = [] := by rw [txtS, if_neg k4, if_neg k5, if_neg k6, if_neg k8, if_neg k9, if_neg k10, if_neg k11, if_neg k14]
  refine aw_tableOut (pc := 8) X (tgt := 176) d_Ex_makeText_8 (by rcases (show k = 0 ∨ k = 1 ∨ k = 2 ∨ k = 3 ∨ k = 7 ∨ k = 12 ∨ k = 13 ∨ k = 15 by omega) with rfl | rfl | rfl | rfl | rfl | rfl | rfl | rfl <;> decide) (by rfl) ?_
  refine aw_vret Y X rfl d_Ex_makeText_176 (by omega) (by omega) (hP _ _ _ ?_)
  -- ret 176 lv=0:r,1:r,2:c st=
  rw [hS, List.append_nil, List.take_of_length_le x5.le]
  exact ⟨rfl, rfl, hx0, fx.refl _⟩
end

