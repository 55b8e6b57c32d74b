/-! the reference: putBody, choose, cut, pour -/
theorem bodyL_nil (t : Def) (ar : List (List Nat)) : bodyL t ar [] = [] := by rw [bodyL]
theorem bodyL_plain {t : Def} {ar : List (List Nat)} {c : Nat} {r : List Nat} (h : c = 36 → ∀ c2 r2, r = c2 :: r2 → parL t ar c2 = none) : bodyL t ar (c :: r) = c :: bodyL t ar r := by
  cases r with
  | nil => rw [bodyL, bodyL]
  | cons c2 r2 =>
    rw [bodyL]
    split
    · rename_i hc
      rw [h hc c2 r2 rfl]
    · rfl
theorem bodyL_par {t : Def} {ar : List (List Nat)} {c : Nat} {r Lp : List Nat} (h : parL t ar c = some Lp) : bodyL t ar (36 :: c :: r) = Lp ++ bodyL t ar r := by
  rw [bodyL, if_pos rfl, h]
theorem parL_none {t : Def} {ar : List (List Nat)} {c : Nat} (h1 : isDig c = false) (h2 : c ≠ 35) (h3 : c ≠ 42) (h4 : c ≠ 64) : parL t ar c = none := by
  have h0 : c ≠ 48 := fun e => by rw [e] at h1; simp [isDig] at h1
  rw [parL, if_neg h0, if_neg (by rw [h1]; simp), if_neg h2, if_neg h3, if_neg h4]
theorem nn_lN {v : Int64} (h : 0 ≤ v) : ∃ P, P < 2 ^ 63 ∧ v = lN P := by
  have h1 := Int64.toInt_lt v
  have h2 : 0 ≤ v.toInt := by have := Int64.le_iff_toInt_le.mp h; simpa using this
  refine ⟨v.toInt.toNat, by omega, ?_⟩
  apply Int64.toInt_inj.mp
  rw [pk_lT (by omega)]
  omega
theorem cut_no {s : List Nat} {k P M : Nat} (hk : k < s.length) (h : ¬ (P ≤ k ∧ k - P < M)) : ((s.take (k + 1)).drop P).take M = ((s.take k).drop P).take M := by
  by_cases hP : P ≤ k
  · have e : (s.take (k + 1)).drop P = (s.take k).drop P ++ [s[k]] := by
      rw [List.take_succ_eq_append_getElem hk, List.drop_append_of_le_length (by simp; omega)]
    rw [e, List.take_append_of_le_length (by simp; omega)]
  · rw [List.drop_eq_nil_of_le (by simp; omega), List.drop_eq_nil_of_le (by simp; omega)]
theorem cut_yes {s : List Nat} {k P M x : Nat} (h1 : s.take (k + 1) = s.take k ++ [x]) (hk : k < s.length) (hP : P ≤ k) (hM : k - P < M) : ((s.take (k + 1)).drop P).take M = ((s.take k).drop P).take M ++ [x] := by
  have e1 : ((s.take k).drop P).length = k - P := by simp; omega
  rw [h1, List.drop_append_of_le_length (by simp; omega), List.take_of_length_le (l := (s.take k).drop P ++ [x]) (by rw [List.length_append, e1]; simp; omega), List.take_of_length_le (l := (s.take k).drop P) (by omega)]
theorem cutS_a {ar : List (List Nat)} (h0 : 0 ≤ valL (argOf ar 2)) (hl : (argOf ar 1).length ≤ 400) (h : ¬ ar.length < 3) : cutS ar = ((argOf ar 1).drop (valL (argOf ar 2)).toInt.toNat).take (valL (argOf ar 3)).toInt.toNat := by
  obtain ⟨P, hP, e⟩ := nn_lN h0
  rw [cutS, if_neg h, e, pk_lT hP]
  split
  · rfl
  · rename_i hn
    have : ¬ P < (argOf ar 1).length := fun z => hn ⟨e ▸ h0, (pk_lLT hP (by omega)).mpr z⟩
    rw [List.drop_eq_nil_of_le (by simp; omega), List.take_nil]
theorem cutS_b {ar : List (List Nat)} (h0 : 0 ≤ valL (argOf ar 2)) (hl : (argOf ar 1).length ≤ 400) (h : ar.length < 3) : cutS ar = ((argOf ar 1).drop (valL (argOf ar 2)).toInt.toNat).take (400 : Int64).toInt.toNat := by
  obtain ⟨P, hP, e⟩ := nn_lN h0
  have e4 : (400 : Int64).toInt.toNat = 400 := by decide
  rw [cutS, if_pos h, e, pk_lT hP, e4]
  split
  · rw [List.take_of_length_le (by simp), List.take_of_length_le (by simp; omega)]
  · rename_i hn
    have : ¬ P < (argOf ar 1).length := fun z => hn ⟨e ▸ h0, (pk_lLT hP (by omega)).mpr z⟩
    rw [List.drop_eq_nil_of_le (by simp; omega), List.take_nil]
section
variable {G : aw_G} {nx d : Nat} {w : Nat → va_E} {p : Int32} {m : Nat → Nat} {A : Nat → Nat → Nat} {V : Nat → Int64} {t : Def} {ar : List (List Nat)} {L : List Nat}
theorem s_Mo_putBody (hnx : 442 ≤ nx) (hd : 4 ≤ d) (h3 : m 3 ≤ 600) (hS : PSt m (A 438) L) (hY : RY A t ar) (hM : hMo G w p m A V) : AC G y_Mo_putBody b_Mo_putBody 7 none d false [rf G 418] nx w 0 0 (mq G nx w (fun r p' m' A' V' => r = none ∧ p' = p ∧ V' = V ∧ mSm m m' A A' ∧ PSt m' (A' 438) (L ++ bodyL t ar t.2.2))) := by
  have hn9 := hY.2.2.1
  obtain ⟨y1, y2, y3, y4, y5, y6, y7, y8, y9⟩ := hY.1
  generalize hN : t.2.2.length = N at y6 y7 y8
  have e3 : ∀ {m1 : Nat → Nat} {A1 : Nat → Nat → Nat}, mSm m m1 A A1 → m1 3 ≤ 600 := fun h => by rw [h.1 3 (by decide) (by decide)]; exact h3
  refine AC.ofW (by decide) (Nat.le_of_ble_eq_true rfl) ?_
  intro E P hP Y X
  have X : aw_X G "RescanDeskModel" b_Mo_putBody 7 none "putBody" _ _ _ _ _ E := X
  refine AW.eql (lv' := [(0, _)]) (by rfl) ?_
  have hf : fr 418 442 w w := fr.refl _ _ _
  have K : ∀ (F j k : Nat), j ≤ F → k + j = N → ∀ w1 m1 A1 L1, hMo G w1 p m1 A1 V → fr 418 442 w w1 → mSm m m1 A A1 → PSt m1 (A1 438) L1 → L1 ++ bodyL t ar (sl (A 429) (1200 + k) j) = L ++ bodyL t ar t.2.2 → AW G E 7 nx 0 0 w1 10 [(2, .int (nI k)), (1, .int (nI N)), (0, rf G 418)] [] := by
    intro F
    induction F with
    | zero =>
      intro j k hjF hk w1 m1 A1 L1 hM hf hq1 hS1 hr
      rw [show j = 0 by omega, sl_0, bodyL_nil, List.append_nil] at hr
      rw [hr] at hS1
      refine aw_iload_n (pc := 10) X d_Mo_putBody_10 (by rfl) ?_
      refine aw_iload_n (pc := 11) X d_Mo_putBody_11 (by rfl) ?_
      refine aw_icmp_geN (pc := 12) X (tgt := 235) d_Mo_putBody_12 (by rfl) (by omega) (by omega) (fun h12 => ?_) (fun h12 => ?_)
      -- br 12 lv=2:n,1:n,0:r st=
      · refine aw_vret Y X rfl d_Mo_putBody_235 (by omega) (by omega) (hP _ _ _ ?_)
        -- ret 235 lv=2:n,1:n,0:r st=
        exact ⟨rfl, hf, _, _, _, _, hM, rfl, rfl, rfl, hq1, hS1⟩
      · omega
    | succ F ih =>
      intro j k hjF hk w1 m1 A1 L1 hM hf hq1 hS1 hr
      have he := hS1.e
      refine aw_iload_n (pc := 10) X d_Mo_putBody_10 (by rfl) ?_
      refine aw_iload_n (pc := 11) X d_Mo_putBody_11 (by rfl) ?_
      refine aw_icmp_geN (pc := 12) X (tgt := 235) d_Mo_putBody_12 (by rfl) (by omega) (by omega) (fun h12 => ?_) (fun h12 => ?_)
      -- br 12 lv=2:n,1:n,0:r st=
      · rw [show j = 0 by omega, sl_0, bodyL_nil, List.append_nil] at hr
        rw [hr] at hS1
        refine aw_vret Y X rfl d_Mo_putBody_235 (by omega) (by omega) (hP _ _ _ ?_)
        -- ret 235 lv=2:n,1:n,0:r st=
        exact ⟨rfl, hf, _, _, _, _, hM, rfl, rfl, rfl, hq1, hS1⟩
      · refine aw_aload_nR (pc := 15) X d_Mo_putBody_15 (by rfl) ?_
        refine gm_28 (pc := 16) X hM (by omega) d_Mo_putBody_16 ?_
        refine aw_if_neN (pc := 19) X (tgt := 235) d_Mo_putBody_19 (by rfl) (by omega) (fun h19 => ?_) (fun h19 => ?_)
        -- br 19 lv=2:n,1:n,0:r st=
        · refine aw_vret Y X rfl d_Mo_putBody_235 (by omega) (by omega) (hP _ _ _ ?_)
          -- ret 235 lv=2:n,1:n,0:r st=
          have := hS1.done h19 (bodyL t ar (sl (A 429) (1200 + k) j))
          rw [hr] at this
          exact ⟨rfl, hf, _, _, _, _, hM, rfl, rfl, rfl, hq1, this⟩
        · obtain ⟨j0, rfl⟩ : ∃ j0, j = j0 + 1 := ⟨j - 1, by omega⟩
          rw [sl_cons] at hr
          have hcv : A1 429 (1200 + k) = A 429 (1200 + k) := by rw [hq1.2 429 (by decide)]
          have hcb := hM.b429 (1200 + k)
          rw [hcv] at hcb
          have J229 : ∀ (k' j' : Nat) w1 m1 A1 L1, k' + 1 + j' = N → j' ≤ F → hMo G w1 p m1 A1 V → fr 418 442 w w1 → mSm m m1 A A1 → PSt m1 (A1 438) L1 → L1 ++ bodyL t ar (sl (A 429) (1200 + (k' + 1)) j') = L ++ bodyL t ar t.2.2 → AW G E 7 nx 0 0 w1 229 [(2, .int (nI k')), (1, .int (nI N)), (0, rf G 418)] [] := by
            intro k' j' w1 m1 A1 L1 hk' hj' hM hf hq1 hS1 hr
            refine aw_iincN (pc := 229) X 1 (lv' := [(2, _), (1, _), (0, _)]) d_Mo_putBody_229 (by rfl) (by decide) (by decide) (by rfl) ?_
            refine aw_goto (pc := 232) X (tgt := 10) d_Mo_putBody_232 (by rfl) ?_
            -- stop 10 lv=2:n,1:n,0:r st=
            exact ih j' (k' + 1) hj' (by omega) _ _ _ _ hM hf hq1 hS1 hr
          refine aw_aload_nR (pc := 22) X d_Mo_putBody_22 (by rfl) ?_
          refine gm_15 (pc := 23) X hM (by omega) d_Mo_putBody_23 ?_
          refine aw_sipushN (pc := 26) X 1200 d_Mo_putBody_26 (by decide) ?_
          refine aw_iload_n (pc := 29) X d_Mo_putBody_29 (by rfl) ?_
          refine aw_iaddN (pc := 30) X d_Mo_putBody_30 ?_
          refine aw_caldN (pc := 31) X 429 0 (by omega) hM.a429 (by rfl) (by omega) (by decide) d_Mo_putBody_31 ?_
          -- stop 32 lv=2:n,1:n,0:r st=n
          rw [hcv]
          generalize hcc : A 429 (1200 + k) = c at hr hcb
          have Pl : bodyL t ar (c :: sl (A 429) (1200 + k + 1) j0) = c :: bodyL t ar (sl (A 429) (1200 + k + 1) j0) → ∀ x : Int32, AW G E 7 nx 0 0 w1 103 [(5, .int (nI 0)), (4, .int x), (3, .int (nI c)), (2, .int (nI k)), (1, .int (nI N)), (0, rf G 418)] [] := by
            intro hb x
            rw [hb] at hr
            refine aw_aload_nR (pc := 103) X d_Mo_putBody_103 (by rfl) ?_
            refine aw_iload_n (pc := 104) X d_Mo_putBody_104 (by rfl) ?_
            -- invokevirtual 105 lv=5:n,4:i,3:n,2:n,1:n,0:r st=n,r
            refine aw_callV (pc := 105) X _ (s_Mo_put (d := 1) hnx (by omega) hcb (e3 hq1) hS1 hM) q_Mo_put k_1053 k_1055 k_38 (by omega) hM.1 (by rfl) d_Mo_putBody_105 (by omega) (Nat.le_of_ble_eq_true rfl) ⟨by omega, by omega⟩ (fun h => by cases h) (fun r w nx hp => ?_)
            clear hM
            obtain ⟨rfl, hf1, p, m, A, V, hM, hq⟩ := hp
            replace hf := hf.trans hf1
            obtain ⟨rfl, hpp, hvv, hq2, hS2⟩ := hq
            rw [hpp, hvv] at hM
            refine aw_goto (pc := 108) X (tgt := 229) d_Mo_putBody_108 (by rfl) ?_
            -- stop 229 lv=5:n,4:i,3:n,2:n,1:n,0:r st=
            refine AW.lsub [3, 4, 5] (by rfl) ?_
            refine J229 k j0 _ _ _ _ (by omega) (by omega) hM hf (hq1.trans hq2) hS2 ?_
            rw [← hr, List.append_assoc]
            rfl
          have M1 : bodyL t ar (c :: sl (A 429) (1200 + k + 1) j0) = c :: bodyL t ar (sl (A 429) (1200 + k + 1) j0) → AW G E 7 nx 0 0 w1 59 [(3, .int (nI c)), (2, .int (nI k)), (1, .int (nI N)), (0, rf G 418)] [] := by
            intro hb
            refine aw_iconst (pc := 59) X (v := -1) d_Mo_putBody_59 (by decide) ?_
            refine aw_istore (pc := 60) X (lv' := [(4, _), (3, _), (2, _), (1, _), (0, _)]) d_Mo_putBody_60 (by decide) (by rfl) ?_
            refine aw_iload (pc := 62) X d_Mo_putBody_62 (by rfl) ?_
            -- invokestatic 64 lv=4:i,3:n,2:n,1:n,0:r st=i
            refine aw_callS (pc := 64) X (c_Mo_isDigitN (d := 0)) q_Mo_isDigit k_1030 k_1031 d_Mo_putBody_64 (by omega) (Nat.le_of_ble_eq_true rfl) ⟨by omega, by omega⟩ (fun h => by cases h) (fun r w nx hp => ?_)
            obtain ⟨rfl, rfl, rfl⟩ := hp
            refine aw_if_neN (pc := 67) X (tgt := 91) d_Mo_putBody_67 (by rfl) (by omega) (fun h67 => ?_) (fun h67 => ?_)
            -- br 67 lv=4:i,3:n,2:n,1:n,0:r st=
            · exact absurd rfl h67
            · refine aw_iload (pc := 70) X d_Mo_putBody_70 (by rfl) ?_
              refine aw_bipushN (pc := 72) X 35 d_Mo_putBody_72 (by decide) ?_
              refine aw_icmp_eq (pc := 74) X (tgt := 91) d_Mo_putBody_74 (by rfl) (fun h74 => ?_) (fun h74 => ?_)
              -- br 74 lv=4:i,3:n,2:n,1:n,0:r st=
              · exact absurd h74 (by decide)
              · refine aw_iload (pc := 77) X d_Mo_putBody_77 (by rfl) ?_
                refine aw_bipushN (pc := 79) X 42 d_Mo_putBody_79 (by decide) ?_
                refine aw_icmp_eq (pc := 81) X (tgt := 91) d_Mo_putBody_81 (by rfl) (fun h81 => ?_) (fun h81 => ?_)
                -- br 81 lv=4:i,3:n,2:n,1:n,0:r st=
                · exact absurd h81 (by decide)
                · refine aw_iload (pc := 84) X d_Mo_putBody_84 (by rfl) ?_
                  refine aw_bipushN (pc := 86) X 64 d_Mo_putBody_86 (by decide) ?_
                  refine aw_icmp_ne (pc := 88) X (tgt := 95) d_Mo_putBody_88 (by rfl) (fun h88 => ?_) (fun h88 => ?_)
                  -- br 88 lv=4:i,3:n,2:n,1:n,0:r st=
                  · refine aw_iconstN (pc := 95) X 0 d_Mo_putBody_95 (by decide) ?_
                    refine aw_istore (pc := 96) X (lv' := [(5, _), (4, _), (3, _), (2, _), (1, _), (0, _)]) d_Mo_putBody_96 (by decide) (by rfl) ?_
                    refine aw_iload (pc := 98) X d_Mo_putBody_98 (by rfl) ?_
                    refine aw_if_neN (pc := 100) X (tgt := 111) d_Mo_putBody_100 (by rfl) (by omega) (fun h100 => ?_) (fun h100 => ?_)
                    -- br 100 lv=5:n,4:i,3:n,2:n,1:n,0:r st=
                    · exact absurd rfl h100
                    · exact Pl hb _
                  · exact absurd h88 (by decide)
          refine aw_istore_n (pc := 32) X (lv' := [(3, _), (2, _), (1, _), (0, _)]) d_Mo_putBody_32 (by decide) (by rfl) ?_
          refine aw_iload_n (pc := 33) X d_Mo_putBody_33 (by rfl) ?_
          refine aw_bipushN (pc := 34) X 36 d_Mo_putBody_34 (by decide) ?_
          refine aw_icmp_neN (pc := 36) X (tgt := 59) d_Mo_putBody_36 (by rfl) (by omega) (by omega) (fun h36 => ?_) (fun h36 => ?_)
          -- br 36 lv=3:n,2:n,1:n,0:r st=
          · exact M1 (bodyL_plain fun e => absurd e h36)
          · subst h36
            refine aw_iload_n (pc := 39) X d_Mo_putBody_39 (by rfl) ?_
            refine aw_iconstN (pc := 40) X 1 d_Mo_putBody_40 (by decide) ?_
            refine aw_iaddN (pc := 41) X d_Mo_putBody_41 ?_
            refine aw_iload_n (pc := 42) X d_Mo_putBody_42 (by rfl) ?_
            refine aw_icmp_geN (pc := 43) X (tgt := 59) d_Mo_putBody_43 (by rfl) (by omega) (by omega) (fun h43 => ?_) (fun h43 => ?_)
            -- br 43 lv=3:n,2:n,1:n,0:r st=
            · rw [show j0 = 0 by omega] at M1
              exact M1 (bodyL_plain fun _ c2 r2 e => by rw [sl_0] at e; cases e)
            · obtain ⟨j1, rfl⟩ : ∃ j1, j0 = j1 + 1 := ⟨j0 - 1, by omega⟩
              have hcv2 : A1 429 (1201 + k) = A 429 (1200 + k + 1) := by rw [hq1.2 429 (by decide), show 1201 + k = 1200 + k + 1 by omega]
              have hcb2 := hM.b429 (1201 + k)
              rw [hcv2] at hcb2
              rw [sl_cons] at hr Pl
              refine aw_aload_nR (pc := 46) X d_Mo_putBody_46 (by rfl) ?_
              refine gm_15 (pc := 47) X hM (by omega) d_Mo_putBody_47 ?_
              refine aw_sipushN (pc := 50) X 1201 d_Mo_putBody_50 (by decide) ?_
              refine aw_iload_n (pc := 53) X d_Mo_putBody_53 (by rfl) ?_
              refine aw_iaddN (pc := 54) X d_Mo_putBody_54 ?_
              refine aw_caldN (pc := 55) X 429 0 (by omega) hM.a429 (by rfl) (by omega) (by decide) d_Mo_putBody_55 ?_
              refine aw_goto (pc := 56) X (tgt := 60) d_Mo_putBody_56 (by rfl) ?_
              -- stop 60 lv=3:n,2:n,1:n,0:r st=n
              rw [hcv2]
              generalize hcc2 : A 429 (1200 + k + 1) = c2 at hr hcb2 Pl
              have hbp : ∀ Lp, parL t ar c2 = some Lp → (L1 ++ Lp) ++ bodyL t ar (sl (A 429) (1200 + (k + 1 + 1)) j1) = L ++ bodyL t ar t.2.2 := fun Lp h => by
                rw [bodyL_par h, ← List.append_assoc] at hr
                exact hr
              have J186 : ∀ w1 m1 A1 L2 Lp, parL t ar c2 = some Lp → hMo G w1 p m1 A1 V → fr 418 442 w w1 → mSm m m1 A A1 → PSt m1 (A1 438) L2 → L2 ++ (if c2 = 48 then t.1 else []) = L1 ++ Lp → AW G E 7 nx 0 0 w1 186 [(2, .int (nI (k + 1))), (5, .int (nI 1)), (4, .int (nI c2)), (3, .int (nI 36)), (1, .int (nI N)), (0, rf G 418)] [] := by
                intro w1 m1 A1 L2 Lp hpl hM hf hq1 hS1 hr2
                have hr3 := hbp Lp hpl
                by_cases h48 : c2 = 48
                · rw [if_pos h48] at hr2
                  have Lj : ∀ (i j : Nat), j + i = t.1.length → ∀ w1 m1 A1, hMo G w1 p m1 A1 V → fr 418 442 w w1 → mSm m m1 A A1 → PSt m1 (A1 438) (L2 ++ t.1.take j) → AW G E 7 nx 0 0 w1 189 [(6, .int (nI j)), (2, .int (nI (k + 1))), (5, .int (nI 1)), (4, .int (nI c2)), (3, .int (nI 36)), (1, .int (nI N)), (0, rf G 418)] [] := by
                    intro i
                    induction i with
                    | zero =>
                      intro j hj w1 m1 A1 hM hf hq1 hS1
                      have e27 : A1 427 12 = t.1.length := (hY.sm hq1).1.1
                      rw [List.take_of_length_le (by omega), hr2] at hS1
                      refine aw_iload (pc := 189) X d_Mo_putBody_189 (by rfl) ?_
                      refine aw_aload_nR (pc := 191) X d_Mo_putBody_191 (by rfl) ?_
                      refine gm_13 (pc := 192) X hM (by omega) d_Mo_putBody_192 ?_
                      refine aw_bipushN (pc := 195) X 12 d_Mo_putBody_195 (by decide) ?_
                      refine aw_ialdN (pc := 197) X 427 1 (by omega) hM.a427 (by rfl) (by omega) (by decide) d_Mo_putBody_197 ?_
                      refine aw_icmp_geN (pc := 198) X (tgt := 229) d_Mo_putBody_198 (by rfl) (by omega) (by omega) (fun h198 => ?_) (fun h198 => ?_)
                      -- br 198 lv=6:n,2:n,5:n,4:n,3:n,1:n,0:r st=
                      · refine AW.lsub [1, 5, 6] (by rfl) ?_
                        exact J229 _ j1 _ _ _ _ (by omega) (by omega) hM hf hq1 hS1 hr3
                      · omega
                    | succ i ih2 =>
                      intro j hj w1 m1 A1 hM hf hq1 hS1
                      obtain ⟨z1, z2, z3, -⟩ := (hY.sm hq1).1
                      refine aw_iload (pc := 189) X d_Mo_putBody_189 (by rfl) ?_
                      refine aw_aload_nR (pc := 191) X d_Mo_putBody_191 (by rfl) ?_
                      refine gm_13 (pc := 192) X hM (by omega) d_Mo_putBody_192 ?_
                      refine aw_bipushN (pc := 195) X 12 d_Mo_putBody_195 (by decide) ?_
                      refine aw_ialdN (pc := 197) X 427 1 (by omega) hM.a427 (by rfl) (by omega) (by decide) d_Mo_putBody_197 ?_
                      refine aw_icmp_geN (pc := 198) X (tgt := 229) d_Mo_putBody_198 (by rfl) (by omega) (by omega) (fun h198 => ?_) (fun h198 => ?_)
                      -- br 198 lv=6:n,2:n,5:n,4:n,3:n,1:n,0:r st=
                      · omega
                      · refine aw_iload (pc := 201) X d_Mo_putBody_201 (by rfl) ?_
                        refine aw_bipushN (pc := 203) X 48 d_Mo_putBody_203 (by decide) ?_
                        refine aw_icmp_neN (pc := 205) X (tgt := 229) d_Mo_putBody_205 (by rfl) (by omega) (by omega) (fun h205 => ?_) (fun h205 => ?_)
                        -- br 205 lv=6:n,2:n,5:n,4:n,3:n,1:n,0:r st=
                        · exact absurd h48 h205
                        · refine aw_aload_nR (pc := 208) X d_Mo_putBody_208 (by rfl) ?_
                          refine aw_aload_nR (pc := 209) X d_Mo_putBody_209 (by rfl) ?_
                          refine gm_12 (pc := 210) X hM (by omega) d_Mo_putBody_210 ?_
                          refine aw_sipushN (pc := 213) X 144 d_Mo_putBody_213 (by decide) ?_
                          refine aw_iload (pc := 216) X d_Mo_putBody_216 (by rfl) ?_
                          refine aw_iaddN (pc := 218) X d_Mo_putBody_218 ?_
                          refine aw_caldN (pc := 219) X 426 0 (by omega) hM.a426 (by rfl) (by omega) (by decide) d_Mo_putBody_219 ?_
                          -- invokevirtual 220 lv=6:n,2:n,5:n,4:n,3:n,1:n,0:r st=n,r
                          refine aw_callV (pc := 220) X _ (s_Mo_put (d := 1) hnx (by omega) (hM.b426 _) (e3 hq1) hS1 hM) q_Mo_put k_1053 k_1055 k_38 (by omega) hM.1 (by rfl) d_Mo_putBody_220 (by omega) (Nat.le_of_ble_eq_true rfl) ⟨by omega, by omega⟩ (fun h => by cases h) (fun r w nx hp => ?_)
                          clear hM
                          obtain ⟨rfl, hf1, p, m, A, V, hM, hq⟩ := hp
                          replace hf := hf.trans hf1
                          obtain ⟨rfl, hpp, hvv, hq2, hS2⟩ := hq
                          rw [hpp, hvv] at hM
                          refine aw_iincN (pc := 223) X 1 (lv' := [(6, _), (2, _), (5, _), (4, _), (3, _), (1, _), (0, _)]) d_Mo_putBody_223 (by rfl) (by decide) (by decide) (by rfl) ?_
                          refine aw_goto (pc := 226) X (tgt := 189) d_Mo_putBody_226 (by rfl) ?_
                          -- stop 189 lv=6:n,2:n,5:n,4:n,3:n,1:n,0:r st=
                          refine ih2 (j + 1) (by omega) _ _ _ hM hf (hq1.trans hq2) ?_
                          rw [sl_take1 z3 (by omega), ← List.append_assoc]
                          exact hS2
                  refine aw_iconstN (pc := 186) X 0 d_Mo_putBody_186 (by decide) ?_
                  refine aw_istore (pc := 187) X (lv' := [(6, _), (2, _), (5, _), (4, _), (3, _), (1, _), (0, _)]) d_Mo_putBody_187 (by decide) (by rfl) ?_
                  -- stop 189 lv=6:n,2:n,5:n,4:n,3:n,1:n,0:r st=
                  exact Lj _ 0 (Nat.zero_add _) _ _ _ hM hf hq1 (by rw [List.take_zero, List.append_nil]; exact hS1)
                · rw [if_neg h48, List.append_nil] at hr2
                  rw [hr2] at hS1
                  have e27 : A1 427 12 = t.1.length := (hY.sm hq1).1.1
                  refine aw_iconstN (pc := 186) X 0 d_Mo_putBody_186 (by decide) ?_
                  refine aw_istore (pc := 187) X (lv' := [(6, _), (2, _), (5, _), (4, _), (3, _), (1, _), (0, _)]) d_Mo_putBody_187 (by decide) (by rfl) ?_
                  refine aw_iload (pc := 189) X d_Mo_putBody_189 (by rfl) ?_
                  refine aw_aload_nR (pc := 191) X d_Mo_putBody_191 (by rfl) ?_
                  refine gm_13 (pc := 192) X hM (by omega) d_Mo_putBody_192 ?_
                  refine aw_bipushN (pc := 195) X 12 d_Mo_putBody_195 (by decide) ?_
                  refine aw_ialdN (pc := 197) X 427 1 (by omega) hM.a427 (by rfl) (by omega) (by decide) d_Mo_putBody_197 ?_
                  refine aw_icmp_geN (pc := 198) X (tgt := 229) d_Mo_putBody_198 (by rfl) (by omega) (by omega) (fun h198 => ?_) (fun h198 => ?_)
                  -- br 198 lv=6:n,2:n,5:n,4:n,3:n,1:n,0:r st=
                  · refine AW.lsub [1, 5, 6] (by rfl) ?_
                    exact J229 _ j1 _ _ _ _ (by omega) (by omega) hM hf hq1 hS1 hr3
                  · refine aw_iload (pc := 201) X d_Mo_putBody_201 (by rfl) ?_
                    refine aw_bipushN (pc := 203) X 48 d_Mo_putBody_203 (by decide) ?_
                    refine aw_icmp_neN (pc := 205) X (tgt := 229) d_Mo_putBody_205 (by rfl) (by omega) (by omega) (fun h205 => ?_) (fun h205 => ?_)
                    -- br 205 lv=6:n,2:n,5:n,4:n,3:n,1:n,0:r st=
                    · refine AW.lsub [1, 5, 6] (by rfl) ?_
                      exact J229 _ j1 _ _ _ _ (by omega) (by omega) hM hf hq1 hS1 hr3
                    · exact absurd h205 h48
              have M150 : c2 = 42 ∨ c2 = 64 → AW G E 7 nx 0 0 w1 150 [(2, .int (nI (k + 1))), (5, .int (nI 1)), (4, .int (nI c2)), (3, .int (nI 36)), (1, .int (nI N)), (0, rf G 418)] [] := by
                intro hcs
                have C : ∀ q : Bool, parL t ar c2 = some (lstL ar q 1) → AW G E 7 nx 0 0 w1 164 [(2, .int (nI (k + 1))), (5, .int (nI 1)), (4, .int (nI c2)), (3, .int (nI 36)), (1, .int (nI N)), (0, rf G 418)] [.int (nI (bN q)), .int (nI 1), rf G 418] := by
                  intro q hpl
                  refine aw_callV (pc := 164) X _ (s_Mo_putAll (d := 3) (f := 1) (q := q) hnx (by omega) (by omega) (by omega) (e3 hq1) hS1 (hY.sm hq1) hM) q_Mo_putAll k_1063 k_1065 k_40 (by omega) hM.1 (by rfl) d_Mo_putBody_164 (by omega) (Nat.le_of_ble_eq_true rfl) ⟨by omega, by omega⟩ (fun h => by cases h) (fun r w nx hp => ?_)
                  clear hM
                  obtain ⟨rfl, hf1, p, m, A, V, hM, hq⟩ := hp
                  replace hf := hf.trans hf1
                  obtain ⟨rfl, hpp, hvv, hq2, hS2⟩ := hq
                  rw [hpp, hvv] at hM
                  refine aw_goto (pc := 167) X (tgt := 186) d_Mo_putBody_167 (by rfl) ?_
                  -- stop 186 lv=2:n,5:n,4:n,3:n,1:n,0:r st=
                  exact J186 _ _ _ _ _ hpl hM hf (hq1.trans hq2) hS2 (by rw [if_neg (by omega), List.append_nil])
                refine aw_aload_nR (pc := 150) X d_Mo_putBody_150 (by rfl) ?_
                refine aw_iconstN (pc := 151) X 1 d_Mo_putBody_151 (by decide) ?_
                refine aw_iload (pc := 152) X d_Mo_putBody_152 (by rfl) ?_
                refine aw_bipushN (pc := 154) X 64 d_Mo_putBody_154 (by decide) ?_
                refine aw_icmp_neN (pc := 156) X (tgt := 163) d_Mo_putBody_156 (by rfl) (by omega) (by omega) (fun h156 => ?_) (fun h156 => ?_)
                -- br 156 lv=2:n,5:n,4:n,3:n,1:n,0:r st=n,r
                · have h42 : c2 = 42 := by omega
                  refine aw_iconstN (pc := 163) X 0 d_Mo_putBody_163 (by decide) ?_
                  -- stop 164 lv=2:n,5:n,4:n,3:n,1:n,0:r st=n,n,r
                  exact C false (by rw [h42]; rfl)
                · refine aw_iconstN (pc := 159) X 1 d_Mo_putBody_159 (by decide) ?_
                  refine aw_goto (pc := 160) X (tgt := 164) d_Mo_putBody_160 (by rfl) ?_
                  -- stop 164 lv=2:n,5:n,4:n,3:n,1:n,0:r st=n,n,r
                  exact C true (by rw [h156]; rfl)
              have M91 : isDig c2 = true ∨ c2 = 35 ∨ c2 = 42 ∨ c2 = 64 → AW G E 7 nx 0 0 w1 91 [(4, .int (nI c2)), (3, .int (nI 36)), (2, .int (nI k)), (1, .int (nI N)), (0, rf G 418)] [] := by
                intro hcs
                refine aw_iconstN (pc := 91) X 1 d_Mo_putBody_91 (by decide) ?_
                refine aw_goto (pc := 92) X (tgt := 96) d_Mo_putBody_92 (by rfl) ?_
                refine aw_istore (pc := 96) X (lv' := [(5, _), (4, _), (3, _), (2, _), (1, _), (0, _)]) d_Mo_putBody_96 (by decide) (by rfl) ?_
                refine aw_iload (pc := 98) X d_Mo_putBody_98 (by rfl) ?_
                refine aw_if_neN (pc := 100) X (tgt := 111) d_Mo_putBody_100 (by rfl) (by omega) (fun h100 => ?_) (fun h100 => ?_)
                -- br 100 lv=5:n,4:n,3:n,2:n,1:n,0:r st=
                · refine aw_iincN (pc := 111) X 1 (lv' := [(2, _), (5, _), (4, _), (3, _), (1, _), (0, _)]) d_Mo_putBody_111 (by rfl) (by decide) (by decide) (by rfl) ?_
                  refine aw_iload (pc := 114) X d_Mo_putBody_114 (by rfl) ?_
                  refine aw_bipushN (pc := 116) X 35 d_Mo_putBody_116 (by decide) ?_
                  refine aw_icmp_neN (pc := 118) X (tgt := 136) d_Mo_putBody_118 (by rfl) (by omega) (by omega) (fun h118 => ?_) (fun h118 => ?_)
                  -- br 118 lv=2:n,5:n,4:n,3:n,1:n,0:r st=
                  · refine aw_iload (pc := 136) X d_Mo_putBody_136 (by rfl) ?_
                    refine aw_bipushN (pc := 138) X 42 d_Mo_putBody_138 (by decide) ?_
                    refine aw_icmp_eqN (pc := 140) X (tgt := 150) d_Mo_putBody_140 (by rfl) (by omega) (by omega) (fun h140 => ?_) (fun h140 => ?_)
                    -- br 140 lv=2:n,5:n,4:n,3:n,1:n,0:r st=
                    · exact M150 (Or.inl h140)
                    · refine aw_iload (pc := 143) X d_Mo_putBody_143 (by rfl) ?_
                      refine aw_bipushN (pc := 145) X 64 d_Mo_putBody_145 (by decide) ?_
                      refine aw_icmp_neN (pc := 147) X (tgt := 170) d_Mo_putBody_147 (by rfl) (by omega) (by omega) (fun h147 => ?_) (fun h147 => ?_)
                      -- br 147 lv=2:n,5:n,4:n,3:n,1:n,0:r st=
                      · have hdg : isDig c2 = true := by
                          rcases hcs with h | h | h | h
                          · exact h
                          · exact absurd h h118
                          · exact absurd h h140
                          · exact absurd h h147
                        have hrng := of_decide_eq_true hdg
                        refine aw_iload (pc := 170) X d_Mo_putBody_170 (by rfl) ?_
                        refine aw_bipushN (pc := 172) X 48 d_Mo_putBody_172 (by decide) ?_
                        refine aw_icmp_eqN (pc := 174) X (tgt := 186) d_Mo_putBody_174 (by rfl) (by omega) (by omega) (fun h174 => ?_) (fun h174 => ?_)
                        -- br 174 lv=2:n,5:n,4:n,3:n,1:n,0:r st=
                        · exact J186 _ _ _ _ _ (show parL t ar c2 = some t.1 by rw [parL, if_pos h174]) hM hf hq1 hS1 (by rw [if_pos h174])
                        · refine aw_aload_nR (pc := 177) X d_Mo_putBody_177 (by rfl) ?_
                          refine aw_iload (pc := 178) X d_Mo_putBody_178 (by rfl) ?_
                          refine aw_bipushN (pc := 180) X 48 d_Mo_putBody_180 (by decide) ?_
                          refine aw_isubN (pc := 182) X d_Mo_putBody_182 (by omega) ?_
                          -- invokevirtual 183 lv=2:n,5:n,4:n,3:n,1:n,0:r st=n,r
                          refine aw_callV (pc := 183) X _ (s_Mo_putArgument (d := 2) (a := c2 - 48) hnx (by omega) (by omega) (e3 hq1) hS1 (hY.sm hq1) hM) q_Mo_putArgument k_1067 k_1069 k_41 (by omega) hM.1 (by rfl) d_Mo_putBody_183 (by omega) (Nat.le_of_ble_eq_true rfl) ⟨by omega, by omega⟩ (fun h => by cases h) (fun r w nx hp => ?_)
                          clear hM
                          obtain ⟨rfl, hf1, p, m, A, V, hM, hq⟩ := hp
                          replace hf := hf.trans hf1
                          obtain ⟨rfl, hpp, hvv, hq2, hS2⟩ := hq
                          rw [hpp, hvv] at hM
                          exact J186 _ _ _ _ _ (show parL t ar c2 = some (argOf ar (c2 - 48)) by rw [parL, if_neg h174, if_pos hdg]) hM hf (hq1.trans hq2) hS2 (by rw [if_neg h174, List.append_nil])
                      · exact M150 (Or.inr h147)
                  · have e31 := (hY.sm hq1).2.1
                    refine aw_aload_nR (pc := 121) X d_Mo_putBody_121 (by rfl) ?_
                    refine aw_aload_nR (pc := 122) X d_Mo_putBody_122 (by rfl) ?_
                    refine gm_17 (pc := 123) X hM (by omega) d_Mo_putBody_123 ?_
                    refine aw_bipushN (pc := 126) X 12 d_Mo_putBody_126 (by decide) ?_
                    refine aw_ialdN (pc := 128) X 431 1 (by omega) hM.a431 (by rfl) (by omega) (by decide) d_Mo_putBody_128 ?_
                    refine aw_i2lN (pc := 129) X d_Mo_putBody_129 (by omega) ?_
                    -- invokevirtual 130 lv=2:n,5:n,4:n,3:n,1:n,0:r st=l,r
                    refine aw_callV (pc := 130) X _ (s_Mo_putNumber (d := 2) hnx (by omega) (e3 hq1) hS1 hM) q_Mo_putNumber k_1057 k_1059 k_39 (by omega) hM.1 (by rfl) d_Mo_putBody_130 (by omega) (Nat.le_of_ble_eq_true rfl) ⟨by omega, by omega⟩ (fun h => by cases h) (fun r w nx hp => ?_)
                    clear hM
                    obtain ⟨rfl, hf1, p, m, A, V, hM, hq⟩ := hp
                    replace hf := hf.trans hf1
                    obtain ⟨rfl, hpp, hvv, hq2, hS2⟩ := hq
                    rw [hpp, hvv] at hM
                    refine aw_goto (pc := 133) X (tgt := 186) d_Mo_putBody_133 (by rfl) ?_
                    -- stop 186 lv=2:n,5:n,4:n,3:n,1:n,0:r st=
                    rw [e31] at hS2
                    exact J186 _ _ _ _ _ (show parL t ar c2 = some (dec (lN ar.length)) by rw [h118]; rfl) hM hf (hq1.trans hq2) hS2 (by rw [if_neg (by omega), List.append_nil])
                · exact absurd h100 (by decide)
              refine aw_istore (pc := 60) X (lv' := [(4, _), (3, _), (2, _), (1, _), (0, _)]) d_Mo_putBody_60 (by decide) (by rfl) ?_
              refine aw_iload (pc := 62) X d_Mo_putBody_62 (by rfl) ?_
              -- invokestatic 64 lv=4:n,3:n,2:n,1:n,0:r st=n
              refine aw_callS (pc := 64) X (c_Mo_isDigit (d := 0) hcb2) q_Mo_isDigit k_1030 k_1031 d_Mo_putBody_64 (by omega) (Nat.le_of_ble_eq_true rfl) ⟨by omega, by omega⟩ (fun h => by cases h) (fun r w nx hp => ?_)
              obtain ⟨rfl, rfl, rfl⟩ := hp
              have hbd := bN_lt (isDig c2)
              refine aw_if_neN (pc := 67) X (tgt := 91) d_Mo_putBody_67 (by rfl) (by omega) (fun h67 => ?_) (fun h67 => ?_)
              -- br 67 lv=4:n,3:n,2:n,1:n,0:r st=
              · exact M91 (Or.inl (bN_ne.mp h67))
              · refine aw_iload (pc := 70) X d_Mo_putBody_70 (by rfl) ?_
                refine aw_bipushN (pc := 72) X 35 d_Mo_putBody_72 (by decide) ?_
                refine aw_icmp_eqN (pc := 74) X (tgt := 91) d_Mo_putBody_74 (by rfl) (by omega) (by omega) (fun h74 => ?_) (fun h74 => ?_)
                -- br 74 lv=4:n,3:n,2:n,1:n,0:r st=
                · exact M91 (Or.inr (Or.inl h74))
                · refine aw_iload (pc := 77) X d_Mo_putBody_77 (by rfl) ?_
                  refine aw_bipushN (pc := 79) X 42 d_Mo_putBody_79 (by decide) ?_
                  refine aw_icmp_eqN (pc := 81) X (tgt := 91) d_Mo_putBody_81 (by rfl) (by omega) (by omega) (fun h81 => ?_) (fun h81 => ?_)
                  -- br 81 lv=4:n,3:n,2:n,1:n,0:r st=
                  · exact M91 (Or.inr (Or.inr (Or.inl h81)))
                  · refine aw_iload (pc := 84) X d_Mo_putBody_84 (by rfl) ?_
                    refine aw_bipushN (pc := 86) X 64 d_Mo_putBody_86 (by decide) ?_
                    refine aw_icmp_neN (pc := 88) X (tgt := 95) d_Mo_putBody_88 (by rfl) (by omega) (by omega) (fun h88 => ?_) (fun h88 => ?_)
                    -- br 88 lv=4:n,3:n,2:n,1:n,0:r st=
                    · refine aw_iconstN (pc := 95) X 0 d_Mo_putBody_95 (by decide) ?_
                      refine aw_istore (pc := 96) X (lv' := [(5, _), (4, _), (3, _), (2, _), (1, _), (0, _)]) d_Mo_putBody_96 (by decide) (by rfl) ?_
                      refine aw_iload (pc := 98) X d_Mo_putBody_98 (by rfl) ?_
                      refine aw_if_neN (pc := 100) X (tgt := 111) d_Mo_putBody_100 (by rfl) (by omega) (fun h100 => ?_) (fun h100 => ?_)
                      -- br 100 lv=5:n,4:n,3:n,2:n,1:n,0:r st=
                      · exact absurd rfl h100
                      · exact Pl (bodyL_plain fun _ c2' r2 e => by cases e; exact parL_none (bN_eq.mp h67) h74 h81 h88) _
                    · exact M91 (Or.inr (Or.inr (Or.inr h88)))
  refine aw_aload_nR (pc := 0) X d_Mo_putBody_0 (by rfl) ?_
  refine gm_16 (pc := 1) X hM (by omega) d_Mo_putBody_1 ?_
  refine aw_bipushN (pc := 4) X 12 d_Mo_putBody_4 (by decide) ?_
  refine aw_ialdN (pc := 6) X 430 1 (by omega) hM.a430 (by rfl) (by omega) (by decide) d_Mo_putBody_6 ?_
  refine aw_istore_n (pc := 7) X (lv' := [(1, _), (0, _)]) d_Mo_putBody_7 (by decide) (by rfl) ?_
  refine aw_iconstN (pc := 8) X 0 d_Mo_putBody_8 (by decide) ?_
  refine aw_istore_n (pc := 9) X (lv' := [(2, _), (1, _), (0, _)]) d_Mo_putBody_9 (by decide) (by rfl) ?_
  -- stop 10 lv=2:n,1:n,0:r st=
  rw [y6]
  exact K N N 0 (Nat.le_refl _) (Nat.zero_add _) _ _ _ _ hM hf (mSm.refl _ _) hS (by rw [Nat.add_zero, ← y8])
theorem s_Mo_choose (hnx : 442 ≤ nx) (hd : 3 ≤ d) (h3 : m 3 ≤ 600) (hS : PSt m (A 438) L) (hY : RY A t ar) (hM : hMo G w p m A V) : AC G y_Mo_choose b_Mo_choose 2 none d false [rf G 418] nx w 0 0 (mq G nx w (fun r p' m' A' V' => r = none ∧ p' = p ∧ V' = V ∧ mSm m m' A A' ∧ PSt m' (A' 438) (L ++ argOf ar (chosen ar 3 1)))) := by
  have hn9 := hY.2.2.1
  have e31 := hY.2.1
  refine AC.ofW (by decide) (Nat.le_of_ble_eq_true rfl) ?_
  intro E P hP Y X
  have X : aw_X G "RescanDeskModel" b_Mo_choose 2 none "choose" _ _ _ _ _ E := X
  refine AW.eql (lv' := [(0, _)]) (by rfl) ?_
  have hf : fr 418 442 w w := fr.refl _ _ _
  have J : ∀ b, b ≤ 7 → chosen ar 3 1 = (if argOf ar b = argOf ar (b + 1) then b + 2 else b + 3) → AW G E 2 nx 0 0 w 34 [(1, .int (nI b)), (0, rf G 418)] [] := by
    intro b hb hr
    have C : ∀ q, q < 100 → q = chosen ar 3 1 → AW G E 2 nx 0 0 w 55 [(1, .int (nI b)), (0, rf G 418)] [.int (nI q), rf G 418] := by
      intro q hq0 hq1
      refine aw_callV (pc := 55) X _ (s_Mo_putArgument (d := 2) (a := q) hnx (by omega) hq0 h3 hS hY hM) q_Mo_putArgument k_1067 k_1069 k_41 (by omega) hM.1 (by rfl) d_Mo_choose_55 (by omega) (Nat.le_of_ble_eq_true rfl) ⟨by omega, by omega⟩ (fun h => by cases h) (fun r w nx hp => ?_)
      clear hM
      obtain ⟨rfl, hf1, p, m, A, V, hM, hq⟩ := hp
      replace hf := hf.trans hf1
      obtain ⟨rfl, hpp, hvv, hq2, hS2⟩ := hq
      rw [hpp, hvv] at hM
      refine aw_vret Y X rfl d_Mo_choose_58 (by omega) (by omega) (hP _ _ _ ?_)
      -- ret 58 lv=1:n,0:r st=
      rw [hq1] at hS2
      exact ⟨rfl, hf, _, _, _, _, hM, rfl, rfl, rfl, hq2, hS2⟩
    refine aw_aload_nR (pc := 34) X d_Mo_choose_34 (by rfl) ?_
    refine aw_aload_nR (pc := 35) X d_Mo_choose_35 (by rfl) ?_
    refine aw_iload_n (pc := 36) X d_Mo_choose_36 (by rfl) ?_
    refine aw_iload_n (pc := 37) X d_Mo_choose_37 (by rfl) ?_
    refine aw_iconstN (pc := 38) X 1 d_Mo_choose_38 (by decide) ?_
    refine aw_iaddN (pc := 39) X d_Mo_choose_39 ?_
    -- invokevirtual 40 lv=1:n,0:r st=n,n,r,r
    refine aw_callV (pc := 40) X _ (s_Mo_areEqual (d := 2) hnx (by omega) (by omega) (by omega) hY hM) q_Mo_areEqual k_1103 k_1105 k_50 (by omega) hM.1 (by rfl) d_Mo_choose_40 (by omega) (Nat.le_of_ble_eq_true rfl) ⟨by omega, by omega⟩ (fun h => by cases h) (fun r w nx hp => ?_)
    obtain ⟨rfl, rfl, rfl⟩ := hp
    have hbl := bN_lt (decide (argOf ar b = argOf ar (b + 1)))
    refine aw_if_eqN (pc := 43) X (tgt := 52) d_Mo_choose_43 (by rfl) (by omega) (fun h43 => ?_) (fun h43 => ?_)
    -- br 43 lv=1:n,0:r st=r
    · rw [if_neg (of_decide_eq_false (bN_eq.mp h43))] at hr
      refine aw_iload_n (pc := 52) X d_Mo_choose_52 (by rfl) ?_
      refine aw_iconstN (pc := 53) X 3 d_Mo_choose_53 (by decide) ?_
      refine aw_iaddN (pc := 54) X d_Mo_choose_54 ?_
      -- stop 55 lv=1:n,0:r st=n,r
      exact C _ (by omega) hr.symm
    · rw [if_pos (of_decide_eq_true (bN_ne.mp h43))] at hr
      refine aw_iload_n (pc := 46) X d_Mo_choose_46 (by rfl) ?_
      refine aw_iconstN (pc := 47) X 2 d_Mo_choose_47 (by decide) ?_
      refine aw_iaddN (pc := 48) X d_Mo_choose_48 ?_
      refine aw_goto (pc := 49) X (tgt := 55) d_Mo_choose_49 (by rfl) ?_
      -- stop 55 lv=1:n,0:r st=n,r
      exact C _ (by omega) hr.symm
  have K : ∀ (k b : Nat), 1 ≤ b → b ≤ 7 → b + 3 * k = 10 → chosen ar k b = chosen ar 3 1 → AW G E 2 nx 0 0 w 2 [(1, .int (nI b)), (0, rf G 418)] [] := by
    intro k
    induction k with
    | zero => intro b h1 h2 hb hr; omega
    | succ k ih =>
      intro b hb1 hb7 hb hr
      rw [chosen] at hr
      refine aw_aload_nR (pc := 2) X d_Mo_choose_2 (by rfl) ?_
      refine aw_iload_n (pc := 3) X d_Mo_choose_3 (by rfl) ?_
      refine aw_iload_n (pc := 4) X d_Mo_choose_4 (by rfl) ?_
      refine aw_iconstN (pc := 5) X 1 d_Mo_choose_5 (by decide) ?_
      refine aw_iaddN (pc := 6) X d_Mo_choose_6 ?_
      -- invokevirtual 7 lv=1:n,0:r st=n,n,r
      refine aw_callV (pc := 7) X _ (s_Mo_areEqual (d := 2) hnx (by omega) (by omega) (by omega) hY hM) q_Mo_areEqual k_1103 k_1105 k_50 (by omega) hM.1 (by rfl) d_Mo_choose_7 (by omega) (Nat.le_of_ble_eq_true rfl) ⟨by omega, by omega⟩ (fun h => by cases h) (fun r w nx hp => ?_)
      obtain ⟨rfl, rfl, rfl⟩ := hp
      have hbl := bN_lt (decide (argOf ar b = argOf ar (b + 1)))
      refine aw_if_neN (pc := 10) X (tgt := 34) d_Mo_choose_10 (by rfl) (by omega) (fun h10 => ?_) (fun h10 => ?_)
      -- br 10 lv=1:n,0:r st=
      · have he := of_decide_eq_true (bN_ne.mp h10)
        rw [if_pos he] at hr
        exact J b hb7 (by rw [if_pos he, hr])
      · have he := of_decide_eq_false (bN_eq.mp h10)
        rw [if_neg he] at hr
        refine aw_aload_nR (pc := 13) X d_Mo_choose_13 (by rfl) ?_
        refine gm_17 (pc := 14) X hM (by omega) d_Mo_choose_14 ?_
        refine aw_bipushN (pc := 17) X 12 d_Mo_choose_17 (by decide) ?_
        refine aw_ialdN (pc := 19) X 431 1 (by omega) hM.a431 (by rfl) (by omega) (by decide) d_Mo_choose_19 ?_
        refine aw_iload_n (pc := 20) X d_Mo_choose_20 (by rfl) ?_
        -- stop 21 lv=1:n,0:r st=n,n
        refine aw_isub (pc := 21) X d_Mo_choose_21 ?_
        refine aw_iconstN (pc := 22) X 1 d_Mo_choose_22 (by decide) ?_
        refine aw_iadd (pc := 23) X d_Mo_choose_23 ?_
        refine aw_iconstN (pc := 24) X 5 d_Mo_choose_24 (by decide) ?_
        have hcmp : nI (A 431 12) - nI b + nI 1 < nI 5 ↔ ar.length + 1 < 5 + b := by
          have e1 : (nI (A 431 12) - nI b + nI 1).toInt = (ar.length : Int) - b + 1 := by
            have q1 : (nI (A 431 12) - nI b).toInt = ((A 431 12 : Nat) : Int) - b := pk_sub_toInt (by omega) (by omega)
            rw [Int32.toInt_add, q1, nI_toInt (by omega)]
            rw [Int.bmod_eq_of_le (by omega) (by omega)]
            omega
          rw [Int32.lt_iff_toInt_lt, e1, nI_toInt (by omega)]
          omega
        refine aw_icmp_lt (pc := 25) X (tgt := 34) d_Mo_choose_25 (by rfl) (fun h25 => ?_) (fun h25 => ?_)
        · rw [if_pos (hcmp.mp h25)] at hr
          exact J b hb7 (by rw [if_neg he, hr])
        · have hge : ¬ ar.length + 1 < 5 + b := fun z => h25 (hcmp.mpr z)
          rw [if_neg hge] at hr
          refine aw_iincN (pc := 28) X 3 (lv' := [(1, _), (0, _)]) d_Mo_choose_28 (by rfl) (by decide) (by decide) (by rfl) ?_
          refine aw_goto (pc := 31) X (tgt := 2) d_Mo_choose_31 (by rfl) ?_
          -- stop 2 lv=1:n,0:r st=
          exact ih (b + 3) (by omega) (by omega) (by omega) hr
  refine aw_iconstN (pc := 0) X 1 d_Mo_choose_0 (by decide) ?_
  refine aw_istore_n (pc := 1) X (lv' := [(1, _), (0, _)]) d_Mo_choose_1 (by decide) (by rfl) ?_
  -- stop 2 lv=1:n,0:r st=
  exact K 3 1 (by omega) (by omega) (by omega) rfl
theorem s_Mo_cut (hnx : 442 ≤ nx) (hd : 3 ≤ d) (h03 : m 3 ≤ 600) (hS : PSt m (A 438) L) (hY : RY A t ar) (hM : hMo G w p m A V) : AC G y_Mo_cut b_Mo_cut 6 none d false [rf G 418] nx w 0 0 (mq G nx w (fun r p' m' A' V' => r = none ∧ p' = p ∧ V' = V ∧ mSm m m' A A' ∧ PSt m' (A' 438) (L ++ cutS ar))) := by
  have hn9 := hY.2.2.1
  have e31 := hY.2.1
  have hl1 := (hY.arg 1).2
  have e3 : ∀ {m1 : Nat → Nat} {A1 : Nat → Nat → Nat}, mSm m m1 A A1 → m1 3 ≤ 600 := fun h => by rw [h.1 3 (by decide) (by decide)]; exact h03
  refine AC.ofW (by decide) (Nat.le_of_ble_eq_true rfl) ?_
  intro E P hP Y X
  have X : aw_X G "RescanDeskModel" b_Mo_cut 6 none "cut" _ _ _ _ _ E := X
  refine AW.eql (lv' := [(0, _)]) (by rfl) ?_
  have hf : fr 418 442 w w := fr.refl _ _ _
  have J : ∀ nv : Int64, (0 ≤ valL (argOf ar 2) → cutS ar = ((argOf ar 1).drop (valL (argOf ar 2)).toInt.toNat).take nv.toInt.toNat) → AW G E 6 nx 0 0 w 28 [(1, .long (valL (argOf ar 2))), (0, rf G 418)] [.long nv] := by
    intro nv hc
    by_cases hp0 : 0 ≤ valL (argOf ar 2)
    · obtain ⟨P, hP63, hPv⟩ := nn_lN hp0
      have hPt : (valL (argOf ar 2)).toInt.toNat = P := by rw [hPv, pk_lT hP63]; rfl
      rw [hPt] at hc
      rw [hPv]
      have K : ∀ (j k : Nat), k + j = (argOf ar 1).length → ∀ w1 m1 A1, hMo G w1 p m1 A1 V → fr 418 442 w w1 → mSm m m1 A A1 → PSt m1 (A1 438) (L ++ (((argOf ar 1).take k).drop P).take nv.toInt.toNat) → AW G E 6 nx 0 0 w1 32 [(5, .int (nI k)), (3, .long nv), (1, .long (lN P)), (0, rf G 418)] [] := by
        intro j
        induction j with
        | zero =>
          intro k hk w1 m1 A1 hM hf hq1 hS1
          have hY1 := hY.sm hq1
          rw [List.take_of_length_le (l := argOf ar 1) (by omega), ← hc (hPv ▸ hp0)] at hS1
          refine aw_iload (pc := 32) X d_Mo_cut_32 (by rfl) ?_
          refine aw_aload_nR (pc := 34) X d_Mo_cut_34 (by rfl) ?_
          refine aw_iconstN (pc := 35) X 1 d_Mo_cut_35 (by decide) ?_
          -- invokevirtual 36 lv=5:n,3:l,1:l,0:r st=n,r,n
          refine aw_callV (pc := 36) X _ (s_Mo_length (d := 1) hnx (by omega) (by omega) hY1 hM) q_Mo_length k_1071 k_1073 k_42 (by omega) hM.1 (by rfl) d_Mo_cut_36 (by omega) (Nat.le_of_ble_eq_true rfl) ⟨by omega, by omega⟩ (fun h => by cases h) (fun r w nx hp => ?_)
          obtain ⟨rfl, rfl, rfl⟩ := hp
          refine aw_icmp_geN (pc := 39) X (tgt := 89) d_Mo_cut_39 (by rfl) (by omega) (by omega) (fun h39 => ?_) (fun h39 => ?_)
          -- br 39 lv=5:n,3:l,1:l,0:r st=
          · refine aw_vret Y X rfl d_Mo_cut_89 (by omega) (by omega) (hP _ _ _ ?_)
            -- ret 89 lv=5:n,3:l,1:l,0:r st=
            exact ⟨rfl, hf, _, _, _, _, hM, rfl, rfl, rfl, hq1, hS1⟩
          · omega
        | succ j ih =>
          intro k hk w1 m1 A1 hM hf hq1 hS1
          have hY1 := hY.sm hq1
          obtain ⟨a1, a2⟩ := hY1.arg 1
          have hk63 : k < 2 ^ 63 := by omega
          have hno : ¬ (P ≤ k ∧ k - P < nv.toInt.toNat) → AW G E 6 nx 0 0 w1 83 [(5, .int (nI k)), (3, .long nv), (1, .long (lN P)), (0, rf G 418)] [] := by
            intro hn
            refine aw_iincN (pc := 83) X 1 (lv' := [(5, _), (3, _), (1, _), (0, _)]) d_Mo_cut_83 (by rfl) (by decide) (by decide) (by rfl) ?_
            refine aw_goto (pc := 86) X (tgt := 32) d_Mo_cut_86 (by rfl) ?_
            -- stop 32 lv=5:n,3:l,1:l,0:r st=
            refine ih (k + 1) (by omega) _ _ _ hM hf hq1 ?_
            rw [cut_no (show k < (argOf ar 1).length by omega) hn]
            exact hS1
          refine aw_iload (pc := 32) X d_Mo_cut_32 (by rfl) ?_
          refine aw_aload_nR (pc := 34) X d_Mo_cut_34 (by rfl) ?_
          refine aw_iconstN (pc := 35) X 1 d_Mo_cut_35 (by decide) ?_
          -- invokevirtual 36 lv=5:n,3:l,1:l,0:r st=n,r,n
          refine aw_callV (pc := 36) X _ (s_Mo_length (d := 1) hnx (by omega) (by omega) hY1 hM) q_Mo_length k_1071 k_1073 k_42 (by omega) hM.1 (by rfl) d_Mo_cut_36 (by omega) (Nat.le_of_ble_eq_true rfl) ⟨by omega, by omega⟩ (fun h => by cases h) (fun r w nx hp => ?_)
          obtain ⟨rfl, rfl, rfl⟩ := hp
          refine aw_icmp_geN (pc := 39) X (tgt := 89) d_Mo_cut_39 (by rfl) (by omega) (by omega) (fun h39 => ?_) (fun h39 => ?_)
          -- br 39 lv=5:n,3:l,1:l,0:r st=
          · omega
          · refine aw_lload_n (pc := 42) X d_Mo_cut_42 (by rfl) ?_
            refine aw_lconst (pc := 43) X (v := 0) d_Mo_cut_43 (by decide) ?_
            refine aw_lcmp (pc := 44) X d_Mo_cut_44 ?_
            refine aw_if_lt (pc := 45) X (tgt := 89) d_Mo_cut_45 (by rfl) (fun h45 => ?_) (fun h45 => ?_)
            -- br 45 lv=5:n,3:l,1:l,0:r st=
            · exact absurd ((lg_lt0 _ _).mp h45) (Int64.not_lt.mpr (hPv ▸ hp0))
            · refine aw_iload (pc := 48) X d_Mo_cut_48 (by rfl) ?_
              refine aw_i2lN (pc := 50) X d_Mo_cut_50 (by omega) ?_
              refine aw_lload_n (pc := 51) X d_Mo_cut_51 (by rfl) ?_
              refine aw_lcmp (pc := 52) X d_Mo_cut_52 ?_
              refine aw_if_lt (pc := 53) X (tgt := 83) d_Mo_cut_53 (by rfl) (fun h53 => ?_) (fun h53 => ?_)
              -- br 53 lv=5:n,3:l,1:l,0:r st=
              · have := (pk_lLT hk63 hP63).mp ((lg_lt0 _ _).mp h53)
                exact hno (by omega)
              · have hPk : P ≤ k := Nat.le_of_not_lt fun z => h53 ((lg_lt0 _ _).mpr ((pk_lLT hk63 hP63).mpr z))
                have hsub : lN k - lN P = lN (k - P) := by
                  have : lN k = lN (k - P) + lN P := by rw [lN_add]; congr 1; omega
                  rw [this, Int64.sub_eq_add_neg, Int64.add_assoc, Int64.add_right_neg, Int64.add_zero]
                have hlt : lN (k - P) < nv ↔ k - P < nv.toInt.toNat := by
                  rw [Int64.lt_iff_toInt_lt, pk_lT (by omega)]
                  omega
                refine aw_iload (pc := 56) X d_Mo_cut_56 (by rfl) ?_
                refine aw_i2lN (pc := 58) X d_Mo_cut_58 (by omega) ?_
                refine aw_lload_n (pc := 59) X d_Mo_cut_59 (by rfl) ?_
                -- stop 60 lv=5:n,3:l,1:l,0:r st=l,l
                refine aw_lsub (pc := 60) X d_Mo_cut_60 ?_
                rw [hsub]
                refine aw_lload_n (pc := 61) X d_Mo_cut_61 (by rfl) ?_
                refine aw_lcmp (pc := 62) X d_Mo_cut_62 ?_
                refine aw_if_ge (pc := 63) X (tgt := 83) d_Mo_cut_63 (by rfl) (fun h63 => ?_) (fun h63 => ?_)
                -- br 63 lv=5:n,3:l,1:l,0:r st=
                · have : ¬ lN (k - P) < nv := fun z => absurd ((lg_lt0 _ _).mpr z) (Int32.not_lt.mpr h63)
                  exact hno (fun z => this (hlt.mpr z.2))
                · have hin := hlt.mp ((lg_lt0 _ _).mp (Int32.not_le.mp h63))
                  refine aw_aload_nR (pc := 66) X d_Mo_cut_66 (by rfl) ?_
                  refine aw_aload_nR (pc := 67) X d_Mo_cut_67 (by rfl) ?_
                  refine gm_22 (pc := 68) X hM (by omega) d_Mo_cut_68 ?_
                  refine aw_aload_nR (pc := 71) X d_Mo_cut_71 (by rfl) ?_
                  refine aw_iconstN (pc := 72) X 1 d_Mo_cut_72 (by decide) ?_
                  -- invokevirtual 73 lv=5:n,3:l,1:l,0:r st=n,r,a435,r
                  refine aw_callV (pc := 73) X _ (s_Mo_from (d := 1) hnx (by omega) (by omega) hY1 hM) q_Mo_from k_1075 k_1077 k_43 (by omega) hM.1 (by rfl) d_Mo_cut_73 (by omega) (Nat.le_of_ble_eq_true rfl) ⟨by omega, by omega⟩ (fun h => by cases h) (fun r w nx hp => ?_)
                  obtain ⟨rfl, rfl, rfl⟩ := hp
                  refine aw_iload (pc := 76) X d_Mo_cut_76 (by rfl) ?_
                  refine aw_iaddN (pc := 78) X d_Mo_cut_78 ?_
                  refine aw_caldN (pc := 79) X 435 0 (by omega) hM.a435 (by rfl) (by omega) (by decide) d_Mo_cut_79 ?_
                  -- invokevirtual 80 lv=5:n,3:l,1:l,0:r st=n,r
                  refine aw_callV (pc := 80) X _ (s_Mo_put (d := 1) hnx (by omega) (hM.b435 _) (e3 hq1) hS1 hM) q_Mo_put k_1053 k_1055 k_38 (by omega) hM.1 (by rfl) d_Mo_cut_80 (by omega) (Nat.le_of_ble_eq_true rfl) ⟨by omega, by omega⟩ (fun h => by cases h) (fun r w nx hp => ?_)
                  clear hM
                  obtain ⟨rfl, hf1, p, m, A, V, hM, hq⟩ := hp
                  replace hf := hf.trans hf1
                  obtain ⟨rfl, hpp, hvv, hq2, hS2⟩ := hq
                  rw [hpp, hvv] at hM
                  refine aw_iincN (pc := 83) X 1 (lv' := [(5, _), (3, _), (1, _), (0, _)]) d_Mo_cut_83 (by rfl) (by decide) (by decide) (by rfl) ?_
                  refine aw_goto (pc := 86) X (tgt := 32) d_Mo_cut_86 (by rfl) ?_
                  -- stop 32 lv=5:n,3:l,1:l,0:r st=
                  refine ih (k + 1) (by omega) _ _ _ hM hf (hq1.trans hq2) ?_
                  rw [cut_yes (sl_take1 a1 (by omega)) (show k < (argOf ar 1).length by omega) hPk hin, ← List.append_assoc]
                  exact hS2
      refine aw_lstore_n (pc := 28) X (lv' := [(3, _), (1, _), (0, _)]) d_Mo_cut_28 (by decide) (by rfl) ?_
      refine aw_iconstN (pc := 29) X 0 d_Mo_cut_29 (by decide) ?_
      refine aw_istore (pc := 30) X (lv' := [(5, _), (3, _), (1, _), (0, _)]) d_Mo_cut_30 (by decide) (by rfl) ?_
      -- stop 32 lv=5:n,3:l,1:l,0:r st=
      exact K _ 0 (Nat.zero_add _) _ _ _ hM hf (mSm.refl _ _) (by rw [List.take_zero, List.drop_nil, List.take_nil, List.append_nil]; exact hS)
    · have hc0 : cutS ar = [] := by rw [cutS, if_neg (fun z => hp0 z.1)]
      refine aw_lstore_n (pc := 28) X (lv' := [(3, _), (1, _), (0, _)]) d_Mo_cut_28 (by decide) (by rfl) ?_
      refine aw_iconstN (pc := 29) X 0 d_Mo_cut_29 (by decide) ?_
      refine aw_istore (pc := 30) X (lv' := [(5, _), (3, _), (1, _), (0, _)]) d_Mo_cut_30 (by decide) (by rfl) ?_
      refine aw_iload (pc := 32) X d_Mo_cut_32 (by rfl) ?_
      refine aw_aload_nR (pc := 34) X d_Mo_cut_34 (by rfl) ?_
      refine aw_iconstN (pc := 35) X 1 d_Mo_cut_35 (by decide) ?_
      -- invokevirtual 36 lv=5:n,3:l,1:l,0:r st=n,r,n
      refine aw_callV (pc := 36) X _ (s_Mo_length (d := 1) hnx (by omega) (by omega) hY hM) q_Mo_length k_1071 k_1073 k_42 (by omega) hM.1 (by rfl) d_Mo_cut_36 (by omega) (Nat.le_of_ble_eq_true rfl) ⟨by omega, by omega⟩ (fun h => by cases h) (fun r w nx hp => ?_)
      obtain ⟨rfl, rfl, rfl⟩ := hp
      have Z : AW G E 6 nx 0 0 w 89 [(5, .int (nI 0)), (3, .long nv), (1, .long (valL (argOf ar 2))), (0, rf G 418)] [] := by
        refine aw_vret Y X rfl d_Mo_cut_89 (by omega) (by omega) (hP _ _ _ ?_)
        -- ret 89 lv=5:n,3:l,1:l,0:r st=
        rw [hc0, List.append_nil]
        exact ⟨rfl, hf, _, _, _, _, hM, rfl, rfl, rfl, mSm.refl _ _, hS⟩
      refine aw_icmp_geN (pc := 39) X (tgt := 89) d_Mo_cut_39 (by rfl) (by omega) (by omega) (fun h39 => ?_) (fun h39 => ?_)
      -- br 39 lv=5:n,3:l,1:l,0:r st=
      · exact Z
      · refine aw_lload_n (pc := 42) X d_Mo_cut_42 (by rfl) ?_
        refine aw_lconst (pc := 43) X (v := 0) d_Mo_cut_43 (by decide) ?_
        refine aw_lcmp (pc := 44) X d_Mo_cut_44 ?_
        refine aw_if_lt (pc := 45) X (tgt := 89) d_Mo_cut_45 (by rfl) (fun h45 => ?_) (fun h45 => ?_)
        -- br 45 lv=5:n,3:l,1:l,0:r st=
        · exact Z
        · exact absurd ((lg_lt0 _ _).mpr (Int64.not_le.mp hp0)) h45
  refine aw_aload_nR (pc := 0) X d_Mo_cut_0 (by rfl) ?_
  refine aw_iconstN (pc := 1) X 2 d_Mo_cut_1 (by decide) ?_
  -- invokevirtual 2 lv=0:r st=n,r
  refine aw_callV (pc := 2) X _ (s_Mo_value (d := 2) hnx (by omega) (by omega) hY hM) q_Mo_value k_1107 k_1109 k_51 (by omega) hM.1 (by rfl) d_Mo_cut_2 (by omega) (Nat.le_of_ble_eq_true rfl) ⟨by omega, by omega⟩ (fun h => by cases h) (fun r w nx hp => ?_)
  obtain ⟨rfl, rfl, rfl⟩ := hp
  refine aw_lstore_n (pc := 5) X (lv' := [(1, _), (0, _)]) d_Mo_cut_5 (by decide) (by rfl) ?_
  refine aw_aload_nR (pc := 6) X d_Mo_cut_6 (by rfl) ?_
  refine gm_17 (pc := 7) X hM (by omega) d_Mo_cut_7 ?_
  refine aw_bipushN (pc := 10) X 12 d_Mo_cut_10 (by decide) ?_
  refine aw_ialdN (pc := 12) X 431 1 (by omega) hM.a431 (by rfl) (by omega) (by decide) d_Mo_cut_12 ?_
  refine aw_iconstN (pc := 13) X 3 d_Mo_cut_13 (by decide) ?_
  refine aw_icmp_geN (pc := 14) X (tgt := 23) d_Mo_cut_14 (by rfl) (by omega) (by omega) (fun h14 => ?_) (fun h14 => ?_)
  -- br 14 lv=1:l,0:r st=
  · refine aw_aload_nR (pc := 23) X d_Mo_cut_23 (by rfl) ?_
    refine aw_iconstN (pc := 24) X 3 d_Mo_cut_24 (by decide) ?_
    -- invokevirtual 25 lv=1:l,0:r st=n,r
    refine aw_callV (pc := 25) X _ (s_Mo_value (d := 2) hnx (by omega) (by omega) hY hM) q_Mo_value k_1107 k_1109 k_51 (by omega) hM.1 (by rfl) d_Mo_cut_25 (by omega) (Nat.le_of_ble_eq_true rfl) ⟨by omega, by omega⟩ (fun h => by cases h) (fun r w nx hp => ?_)
    obtain ⟨rfl, rfl, rfl⟩ := hp
    refine J _ (fun h0 => ?_)
    exact cutS_a h0 (by omega) (by omega)
  · refine aw_ldc2 (pc := 17) X k_1134 d_Mo_cut_17 ?_
    refine aw_goto (pc := 20) X (tgt := 28) d_Mo_cut_20 (by rfl) ?_
    -- stop 28 lv=1:l,0:r st=l
    refine J _ (fun h0 => ?_)
    exact cutS_b h0 (by omega) (by omega)
end

