/-! the reference: output, count, write, pour -/
def outC (r k : Int32) (R : Nat → List Nat) : Nat := if ¬ (0 ≤ r.toInt ∧ r.toInt < 4) then 1 else if ¬ (0 ≤ k.toInt ∧ k.toInt < (R r.toInt.toNat).length) then 2 else 0
theorem i32_is {x : Int32} {k : Nat} (hk : k < 2 ^ 31) : x = nI k ↔ x.toInt = k := by
  constructor
  · intro h; rw [h, nI_toInt hk]
  · intro h
    apply Int32.toInt_inj.mp
    rw [nI_toInt hk]
    exact h
theorem wrS_app {σ : SQ} {s : List Nat} {c : Nat} (hg : σ.2.1.length ≤ 400) (hr : ∀ k, σ.1.2.1 = some k → (σ.1.2.2.1 k).length ≤ 300) : wrS σ (s ++ [c]) = if (wrS σ s).1 = 0 then wrS (wrS σ s).2 [c] else wrS σ s := by
  have e0 : ∀ b : Bool, e2 b = 0 ↔ b = true := fun b => by cases b <;> decide
  have T : ∀ (L : List Nat) (M : Nat), L.length ≤ M → ¬ L.length + s.length ≤ M → (L ++ (s ++ [c])).take M = (L ++ s).take M := fun L M h1 h2 => by
    rw [← List.append_assoc, List.take_append_of_le_length (by simp; omega)]
  have T2 : ∀ (L : List Nat) (M : Nat), L.length + s.length ≤ M → ((L ++ s).take M ++ [c]).take M = (L ++ (s ++ [c])).take M := fun L M h => by
    rw [List.take_of_length_le (l := L ++ s) (by simp; omega), List.append_assoc]
  cases hC : σ.2.2.1 with
  | cons u r =>
    have w1 : ∀ x, wrS σ x = (e2 (decide (σ.2.1.length + x.length ≤ 400)), σ.1, (σ.2.1 ++ x).take 400, σ.2.2) := fun x => by rw [wrS, hC]
    rw [w1, w1]
    simp only [e0, decide_eq_true_eq]
    by_cases hf : σ.2.1.length + s.length ≤ 400
    · rw [if_pos hf]
      have w2 : wrS (σ.1, (σ.2.1 ++ s).take 400, σ.2.2) [c] = (e2 (decide (((σ.2.1 ++ s).take 400).length + 1 ≤ 400)), σ.1, ((σ.2.1 ++ s).take 400 ++ [c]).take 400, σ.2.2) := by
        rw [wrS]
        simp only [hC]
        rfl
      rw [w2, T2 _ _ hf, List.take_of_length_le (l := σ.2.1 ++ s) (by simp; omega)]
      simp [Nat.add_assoc]
    · rw [if_neg hf, T _ _ hg hf, decide_eq_false hf, decide_eq_false (by simp; omega)]
  | nil =>
    cases hp : σ.1.2.1 with
    | none =>
      have w1 : ∀ x, wrS σ x = (0, σ) := fun x => by
        rw [wrS, hC]
        simp only [hp]
      rw [w1, w1]
      simp only [w1]
      rfl
    | some k =>
      have w1 : ∀ x, wrS σ x = (e2 (decide ((σ.1.2.2.1 k).length + x.length ≤ 300)), (σ.1.1, σ.1.2.1, upR σ.1.2.2.1 k ((σ.1.2.2.1 k ++ x).take 300), σ.1.2.2.2), σ.2) := fun x => by
        rw [wrS, hC]
        simp only [hp]
      have hk := hr k hp
      rw [w1, w1]
      simp only [e0, decide_eq_true_eq]
      by_cases hf : (σ.1.2.2.1 k).length + s.length ≤ 300
      · rw [if_pos hf]
        have w2 : wrS ((σ.1.1, σ.1.2.1, upR σ.1.2.2.1 k ((σ.1.2.2.1 k ++ s).take 300), σ.1.2.2.2), σ.2) [c] = (e2 (decide (((σ.1.2.2.1 k ++ s).take 300).length + 1 ≤ 300)), (σ.1.1, σ.1.2.1, upR (upR σ.1.2.2.1 k ((σ.1.2.2.1 k ++ s).take 300)) k (((σ.1.2.2.1 k ++ s).take 300 ++ [c]).take 300), σ.1.2.2.2), σ.2) := by
          rw [wrS]
          simp only [hC, hp, upR_eq]
          rfl
        have w3 : ∀ (R : Nat → List Nat) a b, upR (upR R k a) k b = upR R k b := fun R a b => by
          funext j
          by_cases e : j = k
          · rw [e, upR_eq, upR_eq]
          · rw [upR_ne _ _ e, upR_ne _ _ e, upR_ne _ _ e]
        rw [w2, w3, T2 _ _ hf, List.take_of_length_le (l := σ.1.2.2.1 k ++ s) (by simp; omega)]
        simp [Nat.add_assoc]
      · rw [if_neg hf, T _ _ hk hf, decide_eq_false hf, decide_eq_false (by simp; omega)]
theorem wrS_nil {σ : SQ} (hg : σ.2.1.length ≤ 400) (hr : ∀ k, σ.1.2.1 = some k → (σ.1.2.2.1 k).length ≤ 300) : wrS σ [] = (0, σ) := by
  cases hC : σ.2.2.1 with
  | cons u r =>
    rw [wrS, hC]
    simp only [List.append_nil, List.length_nil, Nat.add_zero]
    rw [decide_eq_true hg, List.take_of_length_le hg]
    rfl
  | nil =>
    cases hp : σ.1.2.1 with
    | none =>
      rw [wrS, hC]
      simp only [hp]
    | some k =>
      have hk := hr k hp
      have w3 : upR σ.1.2.2.1 k (σ.1.2.2.1 k) = σ.1.2.2.1 := by
        funext j
        by_cases e : j = k
        · rw [e, upR_eq]
        · rw [upR_ne _ _ e]
      rw [wrS, hC]
      simp only [hp, List.append_nil, List.length_nil, Nat.add_zero]
      rw [decide_eq_true hk, List.take_of_length_le hk, w3, ← hp]
      rfl
section
variable {G : aw_G} {nx d : Nat} {w : Nat → va_E} {p : Int32} {m : Nat → Nat} {A : Nat → Nat → Nat} {V : Nat → Int64} {tx : List Nat} {σ : SQ} {st : Nat × Nat}
theorem s_Mo_count {x : Int32} (hnx : 442 ≤ nx) (hd : 3 ≤ d) (hst : st.1 < 2 ^ 31) (hR : RM p m A tx σ st) (hM : hMo G w p m A V) : AC G y_Mo_count b_Mo_count 2 (some .int) d false [rf G 418, .int x] nx w 0 0 (mq G nx w (fun r p' m' A' V' => r = some (.int (cntV x σ st.1)) ∧ RM p' m' A' tx σ (st.1, 0))) := by
  have hR0 := hR
  obtain ⟨-, ⟨f1, f2, -⟩, hT, -, -, hRR, ⟨hp1, hp2⟩, hs, hmo, hmo2⟩ := hR
  refine AC.ofW (by decide) (Nat.le_of_ble_eq_true rfl) ?_
  intro E P hP Y X
  have X : aw_X G "RescanDeskModel" b_Mo_count 2 (some .int) "count" _ _ _ _ _ E := X
  refine AW.eql (lv' := [(0, _), (1, _)]) (by rfl) ?_
  have hf : fr 418 442 w w := fr.refl _ _ _
  refine aw_aload_nR (pc := 0) X d_Mo_count_0 (by rfl) ?_
  refine aw_iconstN (pc := 1) X 0 d_Mo_count_1 (by decide) ?_
  refine pm_0 (pc := 2) X hM hf (by omega) d_Mo_count_2 (fun w hM hf => ?_)
  refine aw_iload_n (pc := 5) X d_Mo_count_5 (by rfl) ?_
  refine aw_iconstN (pc := 6) X 0 d_Mo_count_6 (by decide) ?_
  refine aw_iconstN (pc := 7) X 3 d_Mo_count_7 (by decide) ?_
  -- invokestatic 8 lv=0:r,1:i st=n,n,i
  have hT : RT ((mu m 0 0) 5) (A 421) (A 422) (A 423) (A 424) (A 425) σ.1.2.2.2 := hT
  have hR1 : RM p (mu m 0 0) A tx σ (st.1, 0) := by
    obtain ⟨q1, q2, q3, q4, q5, q6, q7, q8, q9⟩ := hR0
    exact ⟨q1, q2, q3, q4, q5, q6, q7, ⟨q8.1, rfl⟩, q9⟩
  generalize hm1 : mu m 0 0 = m1 at hT hM hR1
  have e3 : m1 3 = σ.1.1.length := by rw [← hm1]; exact f1
  have e5 : m1 5 = σ.1.2.2.2.length := hT.1
  have e29 : m1 29 = st.1 := by rw [← hm1]; exact hs.1
  have e30 : m1 30 = σ.2.2.2 := by rw [← hm1]; exact hmo
  refine aw_callS (pc := 8) X (c_Mo_in (d := 0) (x := x) (lo := nI 0) (hi := nI 3)) q_Mo_in k_996 k_997 d_Mo_count_8 (by omega) (Nat.le_of_ble_eq_true rfl) ⟨by omega, by omega⟩ (fun h => by cases h) (fun r w nx hp => ?_)
  obtain ⟨rfl, rfl, rfl⟩ := hp
  have hb := bN_lt (decide (nI 0 ≤ x ∧ x ≤ nI 3))
  have hiff : (nI 0 ≤ x ∧ x ≤ nI 3) ↔ (0 ≤ x.toInt ∧ x.toInt < 4) := by
    rw [Int32.le_iff_toInt_le, Int32.le_iff_toInt_le, nI_toInt (by decide), nI_toInt (by decide)]
    omega
  refine aw_if_eqN (pc := 11) X (tgt := 21) d_Mo_count_11 (by rfl) (by omega) (fun h11 => ?_) (fun h11 => ?_)
  -- br 11 lv=0:r,1:i st=
  · have hne : ¬ (0 ≤ x.toInt ∧ x.toInt < 4) := fun e => of_decide_eq_false (bN_eq.mp h11) (hiff.mpr e)
    refine aw_iload_n (pc := 21) X d_Mo_count_21 (by rfl) ?_
    refine aw_iconstN (pc := 22) X 4 d_Mo_count_22 (by decide) ?_
    refine aw_icmp_ne (pc := 23) X (tgt := 33) d_Mo_count_23 (by rfl) (fun h23 => ?_) (fun h23 => ?_)
    -- br 23 lv=0:r,1:i st=
    · replace h23 : ¬ x.toInt = 4 := fun e => h23 ((i32_is (by decide)).mpr e)
      refine aw_iload_n (pc := 33) X d_Mo_count_33 (by rfl) ?_
      refine aw_iconstN (pc := 34) X 5 d_Mo_count_34 (by decide) ?_
      refine aw_icmp_ne (pc := 35) X (tgt := 45) d_Mo_count_35 (by rfl) (fun h35 => ?_) (fun h35 => ?_)
      -- br 35 lv=0:r,1:i st=
      · replace h35 : ¬ x.toInt = 5 := fun e => h35 ((i32_is (by decide)).mpr e)
        refine aw_iload_n (pc := 45) X d_Mo_count_45 (by rfl) ?_
        refine aw_bipushN (pc := 46) X 6 d_Mo_count_46 (by decide) ?_
        refine aw_icmp_ne (pc := 48) X (tgt := 58) d_Mo_count_48 (by rfl) (fun h48 => ?_) (fun h48 => ?_)
        -- br 48 lv=0:r,1:i st=
        · replace h48 : ¬ x.toInt = 6 := fun e => h48 ((i32_is (by decide)).mpr e)
          refine aw_iload_n (pc := 58) X d_Mo_count_58 (by rfl) ?_
          refine aw_bipushN (pc := 59) X 7 d_Mo_count_59 (by decide) ?_
          refine aw_icmp_ne (pc := 61) X (tgt := 71) d_Mo_count_61 (by rfl) (fun h61 => ?_) (fun h61 => ?_)
          -- br 61 lv=0:r,1:i st=
          · replace h61 : ¬ x.toInt = 7 := fun e => h61 ((i32_is (by decide)).mpr e)
            refine aw_iload_n (pc := 71) X d_Mo_count_71 (by rfl) ?_
            refine aw_bipushN (pc := 72) X 8 d_Mo_count_72 (by decide) ?_
            refine aw_icmp_ne (pc := 74) X (tgt := 84) d_Mo_count_74 (by rfl) (fun h74 => ?_) (fun h74 => ?_)
            -- br 74 lv=0:r,1:i st=
            · replace h74 : ¬ x.toInt = 8 := fun e => h74 ((i32_is (by decide)).mpr e)
              refine aw_iload_n (pc := 84) X d_Mo_count_84 (by rfl) ?_
              refine aw_bipushN (pc := 85) X 9 d_Mo_count_85 (by decide) ?_
              refine aw_icmp_ne (pc := 87) X (tgt := 97) d_Mo_count_87 (by rfl) (fun h87 => ?_) (fun h87 => ?_)
              -- br 87 lv=0:r,1:i st=
              · replace h87 : ¬ x.toInt = 9 := fun e => h87 ((i32_is (by decide)).mpr e)
                refine aw_iconst (pc := 97) X (v := -1) d_Mo_count_97 (by decide) ?_
                refine aw_iret Y X rfl d_Mo_count_98 (by omega) (by omega) (hP _ _ _ ?_)
                -- ret 98 lv=0:r,1:i st=i
                exact ⟨rfl, hf, _, _, _, _, hM, by rw [cntV, if_neg hne, if_neg h23, if_neg h35, if_neg h48, if_neg h61, if_neg h74, if_neg h87], hR1⟩
              · replace h87 : x.toInt = 9 := (i32_is (by decide)).mp h87
                refine aw_aload_nR (pc := 90) X d_Mo_count_90 (by rfl) ?_
                refine gm_25 (pc := 91) X hM (by omega) d_Mo_count_91 ?_
                refine aw_goto (pc := 94) X (tgt := 98) d_Mo_count_94 (by rfl) ?_
                refine aw_iret Y X rfl d_Mo_count_98 (by omega) (by omega) (hP _ _ _ ?_)
                -- ret 98 lv=0:r,1:i st=i
                exact ⟨rfl, hf, _, _, _, _, hM, by rw [cntV, if_neg hne, if_neg h23, if_neg h35, if_neg h48, if_neg h61, if_neg h74, if_pos h87, hp1], hR1⟩
            · replace h74 : x.toInt = 8 := (i32_is (by decide)).mp h74
              refine aw_aload_nR (pc := 77) X d_Mo_count_77 (by rfl) ?_
              refine gm_3 (pc := 78) X hM (by omega) d_Mo_count_78 ?_
              refine aw_goto (pc := 81) X (tgt := 98) d_Mo_count_81 (by rfl) ?_
              refine aw_iret Y X rfl d_Mo_count_98 (by omega) (by omega) (hP _ _ _ ?_)
              -- ret 98 lv=0:r,1:i st=n
              exact ⟨rfl, hf, _, _, _, _, hM, by rw [cntV, if_neg hne, if_neg h23, if_neg h35, if_neg h48, if_neg h61, if_pos h74, e3], hR1⟩
          · replace h61 : x.toInt = 7 := (i32_is (by decide)).mp h61
            refine aw_aload_nR (pc := 64) X d_Mo_count_64 (by rfl) ?_
            refine gm_30 (pc := 65) X hM (by omega) d_Mo_count_65 ?_
            refine aw_goto (pc := 68) X (tgt := 98) d_Mo_count_68 (by rfl) ?_
            refine aw_iret Y X rfl d_Mo_count_98 (by omega) (by omega) (hP _ _ _ ?_)
            -- ret 98 lv=0:r,1:i st=n
            exact ⟨rfl, hf, _, _, _, _, hM, by rw [cntV, if_neg hne, if_neg h23, if_neg h35, if_neg h48, if_pos h61, e30], hR1⟩
        · replace h48 : x.toInt = 6 := (i32_is (by decide)).mp h48
          refine aw_aload_nR (pc := 51) X d_Mo_count_51 (by rfl) ?_
          refine gm_29 (pc := 52) X hM (by omega) d_Mo_count_52 ?_
          refine aw_goto (pc := 55) X (tgt := 98) d_Mo_count_55 (by rfl) ?_
          refine aw_iret Y X rfl d_Mo_count_98 (by omega) (by omega) (hP _ _ _ ?_)
          -- ret 98 lv=0:r,1:i st=n
          exact ⟨rfl, hf, _, _, _, _, hM, by rw [cntV, if_neg hne, if_neg h23, if_neg h35, if_pos h48, e29], hR1⟩
      · replace h35 : x.toInt = 5 := (i32_is (by decide)).mp h35
        refine aw_aload_nR (pc := 38) X d_Mo_count_38 (by rfl) ?_
        -- invokevirtual 39 lv=0:r,1:i st=r
        refine aw_callV (pc := 39) X _ (s_Mo_macros (d := 2) hnx (by omega) hT hM) q_Mo_macros k_1156 k_1158 k_61 (by omega) hM.1 (by rfl) d_Mo_count_39 (by omega) (Nat.le_of_ble_eq_true rfl) ⟨by omega, by omega⟩ (fun h => by cases h) (fun r w nx hp => ?_)
        obtain ⟨rfl, rfl, rfl⟩ := hp
        refine aw_goto (pc := 42) X (tgt := 98) d_Mo_count_42 (by rfl) ?_
        refine aw_iret Y X rfl d_Mo_count_98 (by omega) (by omega) (hP _ _ _ ?_)
        -- ret 98 lv=0:r,1:i st=n
        exact ⟨rfl, hf, _, _, _, _, hM, by rw [cntV, if_neg hne, if_neg h23, if_pos h35], hR1⟩
    · replace h23 : x.toInt = 4 := (i32_is (by decide)).mp h23
      refine aw_aload_nR (pc := 26) X d_Mo_count_26 (by rfl) ?_
      refine gm_5 (pc := 27) X hM (by omega) d_Mo_count_27 ?_
      refine aw_goto (pc := 30) X (tgt := 98) d_Mo_count_30 (by rfl) ?_
      refine aw_iret Y X rfl d_Mo_count_98 (by omega) (by omega) (hP _ _ _ ?_)
      -- ret 98 lv=0:r,1:i st=n
      exact ⟨rfl, hf, _, _, _, _, hM, by rw [cntV, if_neg hne, if_pos h23, e5], hR1⟩
  · have he := hiff.mp (of_decide_eq_true (bN_ne.mp h11))
    obtain ⟨k, hk, rfl⟩ := i32_nat he.1
    rw [nI_toInt hk] at he
    obtain ⟨r1, -, -⟩ := hRR k (by omega)
    refine aw_aload_nR (pc := 14) X d_Mo_count_14 (by rfl) ?_
    refine gm_24 (pc := 15) X hM (by omega) d_Mo_count_15 ?_
    refine aw_iload_n (pc := 18) X d_Mo_count_18 (by rfl) ?_
    refine aw_ialdN (pc := 19) X 437 1 (by omega) hM.a437 (by rfl) (by omega) (by decide) d_Mo_count_19 ?_
    refine aw_iret Y X rfl d_Mo_count_20 (by omega) (by omega) (hP _ _ _ ?_)
    -- ret 20 lv=0:r,1:n st=n
    refine ⟨rfl, hf, _, _, _, _, hM, ?_, hR1⟩
    rw [cntV, if_pos (by rw [nI_toInt hk]; omega), nI_toInt hk, r1]
    rfl
theorem s_Mo_output {x y : Int32} (hnx : 442 ≤ nx) (hd : 1 ≤ d) (hR : RM p m A tx σ st) (hM : hMo G w p m A V) : AC G y_Mo_output b_Mo_output 3 (some .char) d false [rf G 418, .int x, .int y] nx w 0 0 (mq G nx w (fun r p' m' A' V' => RM p' m' A' tx σ (st.1, outC x y σ.1.2.2.1) ∧ m' 0 = outC x y σ.1.2.2.1 ∧ ∃ c, c < 65536 ∧ r = some (.int (nI c)) ∧ (outC x y σ.1.2.2.1 = 0 → c = (σ.1.2.2.1 x.toInt.toNat).getD y.toInt.toNat 0))) := by
  have hR0 := hR
  obtain ⟨-, -, -, -, -, hRR, -⟩ := hR
  have hiff : (nI 0 ≤ x ∧ x ≤ nI 3) ↔ (0 ≤ x.toInt ∧ x.toInt < 4) := by
    rw [Int32.le_iff_toInt_le, Int32.le_iff_toInt_le, nI_toInt (by decide), nI_toInt (by decide)]
    omega
  have hRc : ∀ cd, RM p (mu m 0 cd) A tx σ (st.1, cd) := fun cd => by
    obtain ⟨q1, q2, q3, q4, q5, q6, q7, q8, q9⟩ := hR0
    exact ⟨q1, q2, q3, q4, q5, q6, q7, ⟨q8.1, rfl⟩, q9⟩
  refine AC.ofW (by decide) (Nat.le_of_ble_eq_true rfl) ?_
  intro E P hP Y X
  have X : aw_X G "RescanDeskModel" b_Mo_output 3 (some .char) "output" _ _ _ _ _ E := X
  refine AW.eql (lv' := [(0, _), (1, _), (2, _)]) (by rfl) ?_
  have hf : fr 418 442 w w := fr.refl _ _ _
  have Z : ∀ cd, 0 < cd → cd < 3 → outC x y σ.1.2.2.1 = cd → AW G E 3 nx 0 0 w 35 [(0, rf G 418), (1, .int x), (2, .int y)] [.int (nI cd), rf G 418] := by
    intro cd h0 h3 hc
    refine pm_0 (pc := 35) X hM hf (by omega) d_Mo_output_35 (fun w hM hf => ?_)
    refine aw_aload_nR (pc := 38) X d_Mo_output_38 (by rfl) ?_
    refine gm_0 (pc := 39) X hM (by omega) d_Mo_output_39 ?_
    try simp only [mu, au, reduceIte, Nat.reduceEqDiff]
    refine aw_if_leN (pc := 42) X (tgt := 50) d_Mo_output_42 (by rfl) (by omega) (fun h42 => ?_) (fun h42 => ?_)
    -- br 42 lv=0:r,1:i,2:i st=
    · omega
    · refine aw_bipushN (pc := 45) X 32 d_Mo_output_45 (by decide) ?_
      refine aw_goto (pc := 47) X (tgt := 62) d_Mo_output_47 (by rfl) ?_
      refine aw_zret Y X rfl (narC (by decide)) d_Mo_output_62 (by omega) (by omega) (hP _ _ _ ?_)
      -- ret 62 lv=0:r,1:i,2:i st=n
      exact ⟨rfl, hf, _, _, _, _, hM, (by rw [hc]; exact hRc cd), hc.symm, 32, by decide, rfl, fun z => by omega⟩
  refine aw_aload_nR (pc := 0) X d_Mo_output_0 (by rfl) ?_
  refine aw_iload_n (pc := 1) X d_Mo_output_1 (by rfl) ?_
  refine aw_iconstN (pc := 2) X 0 d_Mo_output_2 (by decide) ?_
  refine aw_iconstN (pc := 3) X 3 d_Mo_output_3 (by decide) ?_
  -- invokestatic 4 lv=0:r,1:i,2:i st=n,n,i,r
  refine aw_callS (pc := 4) X (c_Mo_in (d := 0) (x := x) (lo := nI 0) (hi := nI 3)) q_Mo_in k_996 k_997 d_Mo_output_4 (by omega) (Nat.le_of_ble_eq_true rfl) ⟨by omega, by omega⟩ (fun h => by cases h) (fun r w nx hp => ?_)
  obtain ⟨rfl, rfl, rfl⟩ := hp
  have hb := bN_lt (decide (nI 0 ≤ x ∧ x ≤ nI 3))
  refine aw_if_neN (pc := 7) X (tgt := 14) d_Mo_output_7 (by rfl) (by omega) (fun h7 => ?_) (fun h7 => ?_)
  -- br 7 lv=0:r,1:i,2:i st=r
  · have he := hiff.mp (of_decide_eq_true (bN_ne.mp h7))
    have he0 := he
    obtain ⟨k, hk, rfl⟩ := i32_nat he.1
    rw [nI_toInt hk] at he
    obtain ⟨r1, r2, r3⟩ := hRR k (by omega)
    refine aw_iload_n (pc := 14) X d_Mo_output_14 (by rfl) ?_
    refine aw_iconstN (pc := 15) X 0 d_Mo_output_15 (by decide) ?_
    refine aw_aload_nR (pc := 16) X d_Mo_output_16 (by rfl) ?_
    refine gm_24 (pc := 17) X hM (by omega) d_Mo_output_17 ?_
    refine aw_iload_n (pc := 20) X d_Mo_output_20 (by rfl) ?_
    refine aw_ialdN (pc := 21) X 437 1 (by omega) hM.a437 (by rfl) (by omega) (by decide) d_Mo_output_21 ?_
    try simp only [mu, au, reduceIte, Nat.reduceEqDiff]
    refine aw_iconstN (pc := 22) X 1 d_Mo_output_22 (by decide) ?_
    -- stop 23 lv=0:r,1:n,2:i st=n,n,n,i,r
    refine aw_isub (pc := 23) X d_Mo_output_23 ?_
    refine aw_callS (pc := 24) X (c_Mo_in (d := 0) (x := y) (lo := nI 0) (hi := nI (A 437 k) - nI 1)) q_Mo_in k_996 k_997 d_Mo_output_24 (by omega) (Nat.le_of_ble_eq_true rfl) ⟨by omega, by omega⟩ (fun h => by cases h) (fun r w nx hp => ?_)
    obtain ⟨rfl, rfl, rfl⟩ := hp
    have hb2 := bN_lt (decide (nI 0 ≤ y ∧ y ≤ nI (A 437 k) - nI 1))
    have hiff2 : (nI 0 ≤ y ∧ y ≤ nI (A 437 k) - nI 1) ↔ (0 ≤ y.toInt ∧ y.toInt < (σ.1.2.2.1 k).length) := by
      rw [Int32.le_iff_toInt_le, Int32.le_iff_toInt_le, nI_toInt (by decide), pk_sub_toInt (by omega) (by omega), r1]
      omega
    refine aw_if_neN (pc := 27) X (tgt := 34) d_Mo_output_27 (by rfl) (by omega) (fun h27 => ?_) (fun h27 => ?_)
    -- br 27 lv=0:r,1:n,2:i st=r
    · have he2 := hiff2.mp (of_decide_eq_true (bN_ne.mp h27))
      obtain ⟨j, hj, rfl⟩ := i32_nat he2.1
      rw [nI_toInt hj] at he2
      have hc0 : outC (nI k) (nI j) σ.1.2.2.1 = 0 := by rw [outC, if_neg (by rw [nI_toInt hk]; omega), if_neg (by rw [nI_toInt hk, nI_toInt hj]; exact fun z => z ⟨by omega, he2.2⟩)]
      have hval : A 436 (300 * k + j) = (σ.1.2.2.1 k).getD j 0 := by rw [r3, sl_getD (by omega)]
      refine aw_iconstN (pc := 34) X 0 d_Mo_output_34 (by decide) ?_
      refine pm_0 (pc := 35) X hM hf (by omega) d_Mo_output_35 (fun w hM hf => ?_)
      refine aw_aload_nR (pc := 38) X d_Mo_output_38 (by rfl) ?_
      refine gm_0 (pc := 39) X hM (by omega) d_Mo_output_39 ?_
      try simp only [mu, au, reduceIte, Nat.reduceEqDiff]
      refine aw_if_leN (pc := 42) X (tgt := 50) d_Mo_output_42 (by rfl) (by omega) (fun h42 => ?_) (fun h42 => ?_)
      -- br 42 lv=0:r,1:n,2:n st=
      · refine aw_aload_nR (pc := 50) X d_Mo_output_50 (by rfl) ?_
        refine gm_23 (pc := 51) X hM (by omega) d_Mo_output_51 ?_
        refine aw_sipushN (pc := 54) X 300 d_Mo_output_54 (by decide) ?_
        refine aw_iload_n (pc := 57) X d_Mo_output_57 (by rfl) ?_
        refine aw_imulN (pc := 58) X d_Mo_output_58 ?_
        refine aw_iload_n (pc := 59) X d_Mo_output_59 (by rfl) ?_
        refine aw_iaddN (pc := 60) X d_Mo_output_60 ?_
        refine aw_caldN (pc := 61) X 436 0 (by omega) hM.a436 (by rfl) (by omega) (by decide) d_Mo_output_61 ?_
        try simp only [mu, au, reduceIte, Nat.reduceEqDiff]
        refine aw_zret Y X rfl (narC (hM.b436 _)) d_Mo_output_62 (by omega) (by omega) (hP _ _ _ ?_)
        -- ret 62 lv=0:r,1:n,2:n st=n
        refine ⟨rfl, hf, _, _, _, _, hM, (by rw [hc0]; exact hRc 0), hc0.symm, _, hM.b436 _, rfl, fun _ => ?_⟩
        show A 436 (300 * k + j) = _
        rw [hval, nI_toInt hk, nI_toInt hj]
        rfl
      · omega
    · have hne : ¬ (0 ≤ y.toInt ∧ y.toInt < (σ.1.2.2.1 k).length) := fun e => of_decide_eq_false (bN_eq.mp h27) (hiff2.mpr e)
      refine aw_iconstN (pc := 30) X 2 d_Mo_output_30 (by decide) ?_
      refine aw_goto (pc := 31) X (tgt := 35) d_Mo_output_31 (by rfl) ?_
      -- stop 35 lv=0:r,1:n,2:i st=n,r
      exact Z 2 (by decide) (by decide) (by rw [outC, if_neg (fun z => z he0), if_pos (by rw [nI_toInt hk]; exact hne)])
  · have hne : ¬ (0 ≤ x.toInt ∧ x.toInt < 4) := fun e => of_decide_eq_false (bN_eq.mp h7) (hiff.mpr e)
    refine aw_iconstN (pc := 10) X 1 d_Mo_output_10 (by decide) ?_
    refine aw_goto (pc := 11) X (tgt := 35) d_Mo_output_11 (by rfl) ?_
    -- stop 35 lv=0:r,1:i,2:i st=n,r
    exact Z 1 (by decide) (by decide) (by rw [outC, if_pos hne])
theorem s_Mo_write {c : Nat} (hnx : 442 ≤ nx) (hd : 1 ≤ d) (hc : c < 65536) (he : m 28 ≤ 6) (hR : RM p m A tx σ st) (hM : hMo G w p m A V) : AC G y_Mo_write b_Mo_write 2 none d false [rf G 418, .int (nI c)] nx w 0 0 (mq G nx w (fun r p' m' A' V' => r = none ∧ RM p' m' A' tx (if m 28 = 0 then (wrS σ [c]).2 else σ) st ∧ m' 28 = (if m 28 = 0 then (wrS σ [c]).1 else m 28) ∧ A' 438 = A 438 ∧ A' 420 = A 420 ∧ m' 3 = m 3)) := by
  have hR0 := hR
  obtain ⟨q1, q2, q3, ⟨c1, c2, c3⟩, ⟨g1, g2, g3, g4⟩, hRR, ⟨hp1, hp2⟩, hr⟩ := hR
  refine AC.ofW (by decide) (Nat.le_of_ble_eq_true rfl) ?_
  intro E P hP Y X
  have X : aw_X G "RescanDeskModel" b_Mo_write 2 none "write" _ _ _ _ _ E := X
  refine AW.eql (lv' := [(0, _), (1, _)]) (by rfl) ?_
  have hf : fr 418 442 w w := fr.refl _ _ _
  refine aw_aload_nR (pc := 0) X d_Mo_write_0 (by rfl) ?_
  refine gm_28 (pc := 1) X hM (by omega) d_Mo_write_1 ?_
  refine aw_if_leN (pc := 4) X (tgt := 8) d_Mo_write_4 (by rfl) (by omega) (fun h4 => ?_) (fun h4 => ?_)
  -- br 4 lv=0:r,1:n st=
  · rw [if_pos (show m 28 = 0 by omega), if_pos (show m 28 = 0 by omega)] at hP
    refine aw_aload_nR (pc := 8) X d_Mo_write_8 (by rfl) ?_
    refine gm_11 (pc := 9) X hM (by omega) d_Mo_write_9 ?_
    refine aw_if_leN (pc := 12) X (tgt := 67) d_Mo_write_12 (by rfl) (by omega) (fun h12 => ?_) (fun h12 => ?_)
    -- br 12 lv=0:r,1:n st=
    · have hC : σ.2.2.1 = [] := List.length_eq_zero_iff.mp (by omega)
      cases hp : σ.1.2.1 with
      | none =>
        have hS : wrS σ [c] = (0, σ) := by
          rw [wrS, hC]
          simp only [hp]
        have hpm : p = -1 := by rw [hp1, hp]; rfl
        refine aw_aload_nR (pc := 67) X d_Mo_write_67 (by rfl) ?_
        refine gm_25 (pc := 68) X hM (by omega) d_Mo_write_68 ?_
        refine aw_if_lt (pc := 71) X (tgt := 145) d_Mo_write_71 (by rfl) (fun h71 => ?_) (fun h71 => ?_)
        -- br 71 lv=0:r,1:n st=
        · refine aw_vret Y X rfl d_Mo_write_145 (by omega) (by omega) (hP _ _ _ ?_)
          -- ret 145 lv=0:r,1:n st=
          rw [hS]
          exact ⟨rfl, hf, _, _, _, _, hM, rfl, hR0, by omega, rfl, rfl, rfl⟩
        · exact absurd (show p < 0 by rw [hpm]; decide) h71
      | some k =>
        have hk := hp2 k hp
        obtain ⟨r1, r2, r3⟩ := hRR k hk
        have hpm : p = nI k := by rw [hp1, hp]; rfl
        have hS : wrS σ [c] = (e2 (decide ((σ.1.2.2.1 k).length + 1 ≤ 300)), (σ.1.1, σ.1.2.1, upR σ.1.2.2.1 k ((σ.1.2.2.1 k ++ [c]).take 300), σ.1.2.2.2), σ.2) := by
          rw [wrS, hC]
          simp only [hp]
          rfl
        subst hpm
        refine aw_aload_nR (pc := 67) X d_Mo_write_67 (by rfl) ?_
        refine gm_25 (pc := 68) X hM (by omega) d_Mo_write_68 ?_
        -- stop 71 lv=0:r,1:n st=i
        refine aw_if_ltN (pc := 71) X (tgt := 145) d_Mo_write_71 (by rfl) (by omega) ?_
        refine aw_aload_nR (pc := 74) X d_Mo_write_74 (by rfl) ?_
        refine gm_24 (pc := 75) X hM (by omega) d_Mo_write_75 ?_
        refine aw_aload_nR (pc := 78) X d_Mo_write_78 (by rfl) ?_
        refine gm_25 (pc := 79) X hM (by omega) d_Mo_write_79 ?_
        -- stop 82 lv=0:r,1:n st=i,a437
        refine aw_ialdN (pc := 82) X 437 1 (by omega) hM.a437 (by rfl) (by omega) (by decide) d_Mo_write_82 ?_
        refine aw_sipushN (pc := 83) X 300 d_Mo_write_83 (by decide) ?_
        refine aw_icmp_neN (pc := 86) X (tgt := 97) d_Mo_write_86 (by rfl) (by omega) (by omega) (fun h86 => ?_) (fun h86 => ?_)
        -- br 86 lv=0:r,1:n st=
        · refine aw_aload_nR (pc := 97) X d_Mo_write_97 (by rfl) ?_
          refine gm_23 (pc := 98) X hM (by omega) d_Mo_write_98 ?_
          refine aw_sipushN (pc := 101) X 300 d_Mo_write_101 (by decide) ?_
          refine aw_aload_nR (pc := 104) X d_Mo_write_104 (by rfl) ?_
          -- stop 105 lv=0:r,1:n st=r,n,a436
          refine gm_25 (pc := 105) X hM (by omega) d_Mo_write_105 ?_
          refine aw_imulN (pc := 108) X d_Mo_write_108 ?_
          refine aw_aload_nR (pc := 109) X d_Mo_write_109 (by rfl) ?_
          refine gm_24 (pc := 110) X hM (by omega) d_Mo_write_110 ?_
          refine aw_aload_nR (pc := 113) X d_Mo_write_113 (by rfl) ?_
          -- stop 114 lv=0:r,1:n st=r,a437,n,a436
          refine gm_25 (pc := 114) X hM (by omega) d_Mo_write_114 ?_
          refine aw_ialdN (pc := 117) X 437 1 (by omega) hM.a437 (by rfl) (by omega) (by decide) d_Mo_write_117 ?_
          refine aw_iaddN (pc := 118) X d_Mo_write_118 ?_
          refine aw_iload_n (pc := 119) X d_Mo_write_119 (by rfl) ?_
          refine sm_436 (pc := 120) X hM hf (by omega) (by omega) (by first | omega | exact hM.b435 _ | exact hM.b420 _ | exact hM.b421 _ | exact hM.b424 _ | exact hM.b426 _ | exact hM.b429 _ | exact hM.b436 _ | exact hM.b438 _ | exact hM.b419 _ | exact hM.b441 _) d_Mo_write_120 (fun w hM hf => ?_)
          refine aw_aload_nR (pc := 121) X d_Mo_write_121 (by rfl) ?_
          refine gm_24 (pc := 122) X hM (by omega) d_Mo_write_122 ?_
          refine aw_aload_nR (pc := 125) X d_Mo_write_125 (by rfl) ?_
          -- stop 126 lv=0:r,1:n st=r,a437
          refine gm_25 (pc := 126) X hM (by omega) d_Mo_write_126 ?_
          refine aw_dup2 (pc := 129) X d_Mo_write_129 (by rfl) (by rfl) ?_
          refine aw_ialdN (pc := 130) X 437 1 (by omega) hM.a437 (by rfl) (by omega) (by decide) d_Mo_write_130 ?_
          try simp only [mu, au, reduceIte, Nat.reduceEqDiff]
          refine aw_aload_nR (pc := 131) X d_Mo_write_131 (by rfl) ?_
          refine gm_28 (pc := 132) X hM (by omega) d_Mo_write_132 ?_
          try simp only [mu, au, reduceIte, Nat.reduceEqDiff]
          refine aw_if_leN (pc := 135) X (tgt := 142) d_Mo_write_135 (by rfl) (by omega) (fun h135 => ?_) (fun h135 => ?_)
          -- br 135 lv=0:r,1:n st=n,n,a437
          · refine aw_iconstN (pc := 142) X 1 d_Mo_write_142 (by decide) ?_
            refine aw_iaddN (pc := 143) X d_Mo_write_143 ?_
            refine sm_437 (pc := 144) X hM hf (by omega) (by omega) d_Mo_write_144 (fun w hM hf => ?_)
            refine aw_vret Y X rfl d_Mo_write_145 (by omega) (by omega) (hP _ _ _ ?_)
            -- ret 145 lv=0:r,1:n st=
            rw [hS, decide_eq_true (show (σ.1.2.2.1 k).length + 1 ≤ 300 by omega)]
            refine ⟨rfl, hf, _, _, _, _, hM, rfl, ⟨q1, q2, q3, ⟨c1, c2, c3⟩, ⟨g1, g2, g3, g4⟩, ?_, ⟨hp1, hp2⟩, hr⟩, (by omega : m 28 = 0), rfl, rfl, rfl⟩
            intro r hr4
            by_cases e : r = k
            · subst e
              show aw_un (A 437) r (A 437 r + 1) r = (upR σ.1.2.2.1 r ((σ.1.2.2.1 r ++ [c]).take 300) r).length ∧ (upR σ.1.2.2.1 r ((σ.1.2.2.1 r ++ [c]).take 300) r).length ≤ 300 ∧ upR σ.1.2.2.1 r ((σ.1.2.2.1 r ++ [c]).take 300) r = sl (aw_un (A 436) (300 * r + A 437 r) c) (300 * r) (upR σ.1.2.2.1 r ((σ.1.2.2.1 r ++ [c]).take 300) r).length
              rw [aw_un_eq, upR_eq, List.take_of_length_le (by simp; omega), List.length_append]
              refine ⟨by rw [r1]; rfl, by simp; omega, ?_⟩
              rw [show ([c] : List Nat).length = 1 from rfl, sl_app, sl_cons, sl_0, ← r1, aw_un_eq, r1]
              congr 1
              exact r3.trans (sl_congr fun i hi => by rw [aw_un_ne _ _ (by omega)])
            · obtain ⟨s1, s2, s3⟩ := hRR r hr4
              show aw_un (A 437) k (A 437 k + 1) r = (upR σ.1.2.2.1 k ((σ.1.2.2.1 k ++ [c]).take 300) r).length ∧ (upR σ.1.2.2.1 k ((σ.1.2.2.1 k ++ [c]).take 300) r).length ≤ 300 ∧ upR σ.1.2.2.1 k ((σ.1.2.2.1 k ++ [c]).take 300) r = sl (aw_un (A 436) (300 * k + A 437 k) c) (300 * r) (upR σ.1.2.2.1 k ((σ.1.2.2.1 k ++ [c]).take 300) r).length
              rw [aw_un_ne _ _ e, upR_ne _ _ e]
              refine ⟨s1, s2, ?_⟩
              exact s3.trans (sl_congr fun i hi => by rw [aw_un_ne _ _ (by omega)])
          · omega
        · refine aw_aload_nR (pc := 89) X d_Mo_write_89 (by rfl) ?_
          refine aw_iconstN (pc := 90) X 2 d_Mo_write_90 (by decide) ?_
          -- invokevirtual 91 lv=0:r,1:n st=n,r
          refine aw_callV (pc := 91) X _ (s_Mo_stop (d := 0) (e := 2) hnx he hM) q_Mo_stop k_1003 k_1005 k_27 (by omega) hM.1 (by rfl) d_Mo_write_91 (by omega) (Nat.le_of_ble_eq_true rfl) ⟨by omega, by omega⟩ (fun h => by cases h) (fun r w nx hp => ?_)
          clear hM
          obtain ⟨rfl, hf1, p, m, A, V, hM, hq⟩ := hp
          replace hf := hf.trans hf1
          obtain ⟨rfl, rfl, rfl, rfl, rfl⟩ := hq
          rw [if_pos (by omega)] at hM
          refine aw_goto (pc := 94) X (tgt := 121) d_Mo_write_94 (by rfl) ?_
          refine aw_aload_nR (pc := 121) X d_Mo_write_121 (by rfl) ?_
          refine gm_24 (pc := 122) X hM (by omega) d_Mo_write_122 ?_
          refine aw_aload_nR (pc := 125) X d_Mo_write_125 (by rfl) ?_
          -- stop 126 lv=0:r,1:n st=r,a437
          refine gm_25 (pc := 126) X hM (by omega) d_Mo_write_126 ?_
          refine aw_dup2 (pc := 129) X d_Mo_write_129 (by rfl) (by rfl) ?_
          refine aw_ialdN (pc := 130) X 437 1 (by omega) hM.a437 (by rfl) (by omega) (by decide) d_Mo_write_130 ?_
          refine aw_aload_nR (pc := 131) X d_Mo_write_131 (by rfl) ?_
          refine gm_28 (pc := 132) X hM (by omega) d_Mo_write_132 ?_
          -- stop 135 lv=0:r,1:n st=n,n,n,a437
          have e28 : ∀ mm : Nat → Nat, mu mm 28 2 28 = 2 := fun _ => rfl
          rw [e28]
          refine aw_if_leN (pc := 135) X (tgt := 142) d_Mo_write_135 (by rfl) (by omega) (fun h135 => ?_) (fun h135 => ?_)
          -- br 135 lv=0:r,1:n st=n,n,a437
          · omega
          · refine aw_iconstN (pc := 138) X 0 d_Mo_write_138 (by decide) ?_
            refine aw_goto (pc := 139) X (tgt := 143) d_Mo_write_139 (by rfl) ?_
            refine aw_iaddN (pc := 143) X d_Mo_write_143 ?_
            refine sm_437 (pc := 144) X hM hf (by omega) (by omega) d_Mo_write_144 (fun w hM hf => ?_)
            refine aw_vret Y X rfl d_Mo_write_145 (by omega) (by omega) (hP _ _ _ ?_)
            -- ret 145 lv=0:r,1:n st=
            rw [hS, decide_eq_false (show ¬ (σ.1.2.2.1 k).length + 1 ≤ 300 by omega)]
            refine ⟨rfl, hf, _, _, _, _, hM, rfl, ⟨q1, q2, q3, ⟨c1, c2, c3⟩, ⟨g1, g2, g3, g4⟩, ?_, ⟨hp1, hp2⟩, hr⟩, rfl, rfl, rfl, rfl⟩
            intro r hr4
            have hfull : upR σ.1.2.2.1 k ((σ.1.2.2.1 k ++ [c]).take 300) r = σ.1.2.2.1 r := by
              by_cases e : r = k
              · subst e
                rw [upR_eq, List.take_append_of_le_length (by omega), List.take_of_length_le (by omega)]
              · rw [upR_ne _ _ e]
            show aw_un _ k _ r = _ ∧ _
            rw [show (σ.1.1, σ.1.2.1, upR σ.1.2.2.1 k ((σ.1.2.2.1 k ++ [c]).take 300), σ.1.2.2.2).2.2.1 = upR σ.1.2.2.1 k ((σ.1.2.2.1 k ++ [c]).take 300) from rfl, hfull]
            obtain ⟨s1, s2, s3⟩ := hRR r hr4
            refine ⟨?_, s2, s3⟩
            by_cases e : r = k
            · subst e; rw [aw_un_eq, Nat.add_zero, s1]
            · rw [aw_un_ne _ _ e, s1]
    · obtain ⟨u0, c0, hC⟩ : ∃ u c, σ.2.2.1 = u :: c := by
        cases hC : σ.2.2.1 with
        | nil => rw [hC] at c1; simp at c1; omega
        | cons u c => exact ⟨u, c, rfl⟩
      have hS : wrS σ [c] = (e2 (decide (σ.2.1.length + 1 ≤ 400)), σ.1, (σ.2.1 ++ [c]).take 400, σ.2.2) := by
        rw [wrS, hC]
        rfl
      refine aw_aload_nR (pc := 15) X d_Mo_write_15 (by rfl) ?_
      refine gm_21 (pc := 16) X hM (by omega) d_Mo_write_16 ?_
      try simp only [mu, au, reduceIte, Nat.reduceEqDiff]
      refine aw_sipushN (pc := 19) X 400 d_Mo_write_19 (by decide) ?_
      refine aw_icmp_neN (pc := 22) X (tgt := 33) d_Mo_write_22 (by rfl) (by omega) (by omega) (fun h22 => ?_) (fun h22 => ?_)
      -- br 22 lv=0:r,1:n st=
      · refine aw_aload_nR (pc := 33) X d_Mo_write_33 (by rfl) ?_
        refine gm_22 (pc := 34) X hM (by omega) d_Mo_write_34 ?_
        refine aw_aload_nR (pc := 37) X d_Mo_write_37 (by rfl) ?_
        refine gm_21 (pc := 38) X hM (by omega) d_Mo_write_38 ?_
        try simp only [mu, au, reduceIte, Nat.reduceEqDiff]
        refine aw_iload_n (pc := 41) X d_Mo_write_41 (by rfl) ?_
        refine sm_435 (pc := 42) X hM hf (by omega) (by omega) (by first | omega | exact hM.b435 _ | exact hM.b420 _ | exact hM.b421 _ | exact hM.b424 _ | exact hM.b426 _ | exact hM.b429 _ | exact hM.b436 _ | exact hM.b438 _ | exact hM.b419 _ | exact hM.b441 _) d_Mo_write_42 (fun w hM hf => ?_)
        refine aw_aload_nR (pc := 43) X d_Mo_write_43 (by rfl) ?_
        refine aw_dup (pc := 44) X d_Mo_write_44 (by rfl) ?_
        refine gm_21 (pc := 45) X hM (by omega) d_Mo_write_45 ?_
        try simp only [mu, au, reduceIte, Nat.reduceEqDiff]
        refine aw_aload_nR (pc := 48) X d_Mo_write_48 (by rfl) ?_
        refine gm_28 (pc := 49) X hM (by omega) d_Mo_write_49 ?_
        try simp only [mu, au, reduceIte, Nat.reduceEqDiff]
        refine aw_if_leN (pc := 52) X (tgt := 59) d_Mo_write_52 (by rfl) (by omega) (fun h52 => ?_) (fun h52 => ?_)
        -- br 52 lv=0:r,1:n st=n,r
        · refine aw_iconstN (pc := 59) X 1 d_Mo_write_59 (by decide) ?_
          refine aw_iaddN (pc := 60) X d_Mo_write_60 ?_
          refine pm_21 (pc := 61) X hM hf (by omega) d_Mo_write_61 (fun w hM hf => ?_)
          refine aw_goto (pc := 64) X (tgt := 145) d_Mo_write_64 (by rfl) ?_
          refine aw_vret Y X rfl d_Mo_write_145 (by omega) (by omega) (hP _ _ _ ?_)
          -- ret 145 lv=0:r,1:n st=
          rw [hS, decide_eq_true (show σ.2.1.length + 1 ≤ 400 by omega)]
          refine ⟨rfl, hf, _, _, _, _, hM, rfl, ⟨q1, q2, q3, ⟨c1, c2, c3⟩, ⟨?_, ?_, ?_, ?_⟩, hRR, ⟨hp1, hp2⟩, hr⟩, (by omega : m 28 = 0), rfl, rfl, rfl⟩
          · show m 21 + 1 = _
            rw [List.take_of_length_le (by simp; omega), List.length_append, g1]
            rfl
          · rw [List.length_take]; omega
          · rw [List.take_of_length_le (by simp; omega), List.length_append]
            show σ.2.1 ++ [c] = sl (aw_un (A 435) (m 21) c) 0 (σ.2.1.length + 1)
            rw [sl_app, Nat.zero_add, sl_cons, sl_0, ← g1, aw_un_eq, g1]
            congr 1
            exact g3.trans (sl_congr fun i hi => by rw [aw_un_ne _ _ (by omega)])
          · rw [List.take_of_length_le (by simp; omega), List.length_append]
            exact g4.mono (by omega)
        · omega
      · refine aw_aload_nR (pc := 25) X d_Mo_write_25 (by rfl) ?_
        refine aw_iconstN (pc := 26) X 2 d_Mo_write_26 (by decide) ?_
        -- invokevirtual 27 lv=0:r,1:n st=n,r
        refine aw_callV (pc := 27) X _ (s_Mo_stop (d := 0) (e := 2) hnx he hM) q_Mo_stop k_1003 k_1005 k_27 (by omega) hM.1 (by rfl) d_Mo_write_27 (by omega) (Nat.le_of_ble_eq_true rfl) ⟨by omega, by omega⟩ (fun h => by cases h) (fun r w nx hp => ?_)
        clear hM
        obtain ⟨rfl, hf1, p, m, A, V, hM, hq⟩ := hp
        replace hf := hf.trans hf1
        obtain ⟨rfl, rfl, rfl, rfl, rfl⟩ := hq
        rw [if_pos (by omega)] at hM
        refine aw_goto (pc := 30) X (tgt := 43) d_Mo_write_30 (by rfl) ?_
        refine aw_aload_nR (pc := 43) X d_Mo_write_43 (by rfl) ?_
        refine aw_dup (pc := 44) X d_Mo_write_44 (by rfl) ?_
        refine gm_21 (pc := 45) X hM (by omega) d_Mo_write_45 ?_
        refine aw_aload_nR (pc := 48) X d_Mo_write_48 (by rfl) ?_
        refine gm_28 (pc := 49) X hM (by omega) d_Mo_write_49 ?_
        -- stop 52 lv=0:r,1:n st=n,n,r
        have e28 : ∀ mm : Nat → Nat, mu mm 28 2 28 = 2 := fun _ => rfl
        rw [e28]
        refine aw_if_leN (pc := 52) X (tgt := 59) d_Mo_write_52 (by rfl) (by omega) (fun h52 => ?_) (fun h52 => ?_)
        -- br 52 lv=0:r,1:n st=n,r
        · omega
        · refine aw_iconstN (pc := 55) X 0 d_Mo_write_55 (by decide) ?_
          refine aw_goto (pc := 56) X (tgt := 60) d_Mo_write_56 (by rfl) ?_
          refine aw_iaddN (pc := 60) X d_Mo_write_60 ?_
          refine pm_21 (pc := 61) X hM hf (by omega) d_Mo_write_61 (fun w hM hf => ?_)
          refine aw_goto (pc := 64) X (tgt := 145) d_Mo_write_64 (by rfl) ?_
          refine aw_vret Y X rfl d_Mo_write_145 (by omega) (by omega) (hP _ _ _ ?_)
          -- ret 145 lv=0:r,1:n st=
          rw [hS, decide_eq_false (show ¬ σ.2.1.length + 1 ≤ 400 by omega)]
          have hfull : (σ.2.1 ++ [c]).take 400 = σ.2.1 := by rw [List.take_append_of_le_length (by omega), List.take_of_length_le (by omega)]
          rw [hfull]
          exact ⟨rfl, hf, _, _, _, _, hM, rfl, ⟨q1, q2, q3, ⟨c1, c2, c3⟩, ⟨g1, g2, g3, g4⟩, hRR, ⟨hp1, hp2⟩, hr⟩, rfl, rfl, rfl, rfl⟩
  · rw [if_neg (show ¬ m 28 = 0 by omega), if_neg (show ¬ m 28 = 0 by omega)] at hP
    refine aw_vret Y X rfl d_Mo_write_7 (by omega) (by omega) (hP _ _ _ ?_)
    -- ret 7 lv=0:r,1:n st=
    exact ⟨rfl, hf, _, _, _, _, hM, rfl, hR0, rfl, rfl, rfl, rfl⟩
end

