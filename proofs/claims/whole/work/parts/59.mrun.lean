/-! the reference: step, run -/
theorem stpX_le (X : Nat × SQ × Option (Def × List (List Nat))) (h : X.1 ≤ 6) : (stpX X).1 ≤ 6 := by
  unfold stpX
  split
  · split
    · exact Nat.zero_le _
    · exact expS_le _ _ _ _ _ _
  · exact h
theorem stpX_C (X : Nat × SQ × Option (Def × List (List Nat))) : (stpX X).2.2.2.1 = X.2.1.2.2.1 := by
  unfold stpX
  split
  · split <;> rfl
  · rfl
section
variable {G : aw_G} {nx d : Nat} {w : Nat → va_E} {p : Int32} {m : Nat → Nat} {A : Nat → Nat → Nat} {V : Nat → Int64} {tx : List Nat} {σ : SQ} {st : Nat × Nat}
theorem s_Mo_step (hnx : 442 ≤ nx) (hd : 9 ≤ d) (e28 : m 28 = 0) (hne : σ.1.1 ≠ []) (hdp : ∀ u ∈ σ.2.2.1, u.2.2.1 ≤ 9000) (hR : RM p m A tx σ st) (hM : hMo G w p m A V) : AC G y_Mo_step b_Mo_step 2 none d false [rf G 418] nx w 0 0 (mq G nx w (fun x p' m' A' V' => x = none ∧ RM p' m' A' tx (stpX (rdS σ)).2 (st.1 + 1, st.2) ∧ m' 28 = (stpX (rdS σ)).1)) := by
  obtain ⟨c, F, hF⟩ := List.exists_cons_of_ne_nil hne
  have c2 := hR.2.1
  have t2 : A 420 F.length = c := by rw [hF] at c2; exact c2.tail.2
  have hcb : c < 65536 := by rw [← t2]; exact hM.b420 _
  have h29 : m 29 = st.1 := hR.2.2.2.2.2.2.2.1.1
  have hR1 : RM p (mu m 29 (m 29 + 1)) A tx σ (st.1 + 1, st.2) := by
    obtain ⟨q1, q2, q3, q4, q5, q6, q7, q8, q9⟩ := hR
    exact ⟨q1, q2, q3, q4, q5, q6, q7, ⟨show m 29 + 1 = _ by rw [h29], q8.2⟩, q9⟩
  have h3 : m 3 = F.length + 1 := by have := c2.1; rw [hF] at this; exact this
  have h11 := hR.2.2.2.1.1
  have h12 := hR.2.2.2.1.2.1
  have hrd : rdS σ = (if c = 96 then qtS σ F else if isLet c = true then nmS σ else match σ.2.2.1 with | [] => ((wrS ((F, σ.1.2), σ.2) [c]).1, (wrS ((F, σ.1.2), σ.2) [c]).2, none) | u :: r => icS ((F, σ.1.2), σ.2) u r c) := by
    unfold rdS
    rw [hF]
    rfl
  refine AC.ofW (by decide) (Nat.le_of_ble_eq_true rfl) ?_
  intro E P hP Y X
  have X : aw_X G "RescanDeskModel" b_Mo_step 2 none "step" _ _ _ _ _ E := X
  refine AW.eql (lv' := [(0, _)]) (by rfl) ?_
  have hf : fr 418 442 w w := fr.refl _ _ _
  refine aw_aload_nR (pc := 0) X d_Mo_step_0 (by rfl) ?_
  refine aw_dup (pc := 1) X d_Mo_step_1 (by rfl) ?_
  refine gm_29 (pc := 2) X hM (by omega) d_Mo_step_2 ?_
  refine aw_iconstN (pc := 5) X 1 d_Mo_step_5 (by decide) ?_
  refine aw_iaddN (pc := 6) X d_Mo_step_6 ?_
  refine pm_29 (pc := 7) X hM hf (by omega) d_Mo_step_7 (fun w hM hf => ?_)
  refine aw_aload_nR (pc := 10) X d_Mo_step_10 (by rfl) ?_
  refine aw_iconstN (pc := 11) X 0 d_Mo_step_11 (by decide) ?_
  -- invokevirtual 12 lv=0:r st=n,r
  refine aw_callV (pc := 12) X _ (s_Mo_next (m := mu m 29 (m 29 + 1)) (d := 0) (F := σ.1.1) hnx (by omega) c2 hM) q_Mo_next k_1011 k_1013 k_29 (by omega) hM.1 (by rfl) d_Mo_step_12 (by omega) (Nat.le_of_ble_eq_true rfl) ⟨by omega, by omega⟩ (fun h => by cases h) (fun r w nx hp => ?_)
  obtain ⟨rfl, rfl, rfl⟩ := hp
  rw [hF, show pV (c :: F)[0]? = nI c from rfl]
  have hbl := bN_lt (isLet c)
  refine aw_istore_n (pc := 15) X (lv' := [(1, _), (0, _)]) d_Mo_step_15 (by decide) (by rfl) ?_
  refine aw_iload_n (pc := 16) X d_Mo_step_16 (by rfl) ?_
  refine aw_bipushN (pc := 17) X 96 d_Mo_step_17 (by decide) ?_
  refine aw_icmp_neN (pc := 19) X (tgt := 29) d_Mo_step_19 (by rfl) (by omega) (by omega) (fun h19 => ?_) (fun h19 => ?_)
  -- br 19 lv=1:n,0:r st=
  · rw [if_neg h19] at hrd
    refine aw_iload_n (pc := 29) X d_Mo_step_29 (by rfl) ?_
    -- invokestatic 30 lv=1:n,0:r st=n
    refine aw_callS (pc := 30) X (c_Mo_isLetter (d := 0) hcb) q_Mo_isLetter k_1023 k_1024 d_Mo_step_30 (by omega) (Nat.le_of_ble_eq_true rfl) ⟨by omega, by omega⟩ (fun h => by cases h) (fun r w nx hp => ?_)
    obtain ⟨rfl, rfl, rfl⟩ := hp
    refine aw_if_eqN (pc := 33) X (tgt := 43) d_Mo_step_33 (by rfl) (by omega) (fun h33 => ?_) (fun h33 => ?_)
    -- br 33 lv=1:n,0:r st=
    · rw [if_neg (by rw [bN_eq.mp h33]; simp)] at hrd
      refine aw_aload_nR (pc := 43) X d_Mo_step_43 (by rfl) ?_
      refine gm_11 (pc := 44) X hM (by omega) d_Mo_step_44 ?_
      try simp only [mu, au, reduceIte, Nat.reduceEqDiff]
      refine aw_if_leN (pc := 47) X (tgt := 59) d_Mo_step_47 (by rfl) (by omega) (fun h47 => ?_) (fun h47 => ?_)
      -- br 47 lv=1:n,0:r st=
      · have hC : σ.2.2.1 = [] := List.length_eq_zero_iff.mp (by omega)
        have hrd : rdS σ = ((wrS ((F, σ.1.2), σ.2) [c]).1, (wrS ((F, σ.1.2), σ.2) [c]).2, none) := by rw [hrd, hC]
        have hR2 : RM p (mu (mu m 29 (m 29 + 1)) 3 (m 3 - 1)) A tx ((F, σ.1.2), σ.2) (st.1 + 1, st.2) := by
          refine hR1.fr (fun k h _ _ => if_neg h) (fun _ _ _ => rfl) ?_
          rw [hF] at c2
          exact c2.tail.1
        refine aw_aload_nR (pc := 59) X d_Mo_step_59 (by rfl) ?_
        refine aw_dup (pc := 60) X d_Mo_step_60 (by rfl) ?_
        refine gm_3 (pc := 61) X hM (by omega) d_Mo_step_61 ?_
        try simp only [mu, au, reduceIte, Nat.reduceEqDiff]
        refine aw_iconstN (pc := 64) X 1 d_Mo_step_64 (by decide) ?_
        refine aw_isubN (pc := 65) X d_Mo_step_65 (by omega) ?_
        refine pm_3 (pc := 66) X hM hf (by omega) d_Mo_step_66 (fun w hM hf => ?_)
        refine aw_aload_nR (pc := 69) X d_Mo_step_69 (by rfl) ?_
        refine aw_iload_n (pc := 70) X d_Mo_step_70 (by rfl) ?_
        refine aw_i2cN (pc := 71) X d_Mo_step_71 (by omega) ?_
        -- invokevirtual 72 lv=1:n,0:r st=n,r
        refine aw_callV (pc := 72) X _ (s_Mo_write (m := mu (mu m 29 (m 29 + 1)) 3 (m 3 - 1)) (d := 1) hnx (by omega) hcb (show m 28 ≤ 6 by omega) hR2 hM) q_Mo_write k_1019 k_1021 k_31 (by omega) hM.1 (by rfl) d_Mo_step_72 (by omega) (Nat.le_of_ble_eq_true rfl) ⟨by omega, by omega⟩ (fun h => by cases h) (fun r w nx hp => ?_)
        clear hM
        obtain ⟨rfl, hf1, p, m, A, V, hM, hq⟩ := hp
        replace hf := hf.trans hf1
        obtain ⟨rfl, hR3, he3, -⟩ := hq
        rw [if_pos (show mu (mu _ 29 _) 3 _ 28 = 0 from e28)] at hR3 he3
        refine aw_vret Y X rfl d_Mo_step_75 (by omega) (by omega) (hP _ _ _ ?_)
        -- ret 75 lv=1:n,0:r st=
        rw [hrd, stpX_none]
        exact ⟨rfl, hf, _, _, _, _, hM, rfl, hR3, he3⟩
      · obtain ⟨u, r, hC⟩ := List.exists_cons_of_ne_nil (show σ.2.2.1 ≠ [] from fun e => by rw [e] at h11; simp at h11; omega)
        have hrd : rdS σ = icS ((F, σ.1.2), σ.2) u r c := by rw [hrd, hC]
        refine aw_aload_nR (pc := 50) X d_Mo_step_50 (by rfl) ?_
        refine aw_iload_n (pc := 51) X d_Mo_step_51 (by rfl) ?_
        refine aw_i2cN (pc := 52) X d_Mo_step_52 (by omega) ?_
        -- invokevirtual 53 lv=1:n,0:r st=n,r
        refine aw_callV (pc := 53) X _ (s_Mo_gather (m := mu m 29 (m 29 + 1)) (d := 8) (σ := σ) hnx (by omega) e28 hcb hF hC (hdp u (by rw [hC]; exact List.mem_cons_self)) hR1 hM) q_Mo_gather k_1144 k_1146 k_59 (by omega) hM.1 (by rfl) d_Mo_step_53 (by omega) (Nat.le_of_ble_eq_true rfl) ⟨by omega, by omega⟩ (fun h => by cases h) (fun r w nx hp => ?_)
        clear hM
        obtain ⟨rfl, hf1, p, m, A, V, hM, hq⟩ := hp
        replace hf := hf.trans hf1
        obtain ⟨rfl, hR3, he3⟩ := hq
        refine aw_goto (pc := 56) X (tgt := 75) d_Mo_step_56 (by rfl) ?_
        refine aw_vret Y X rfl d_Mo_step_75 (by omega) (by omega) (hP _ _ _ ?_)
        -- ret 75 lv=1:n,0:r st=
        rw [hrd]
        exact ⟨rfl, hf, _, _, _, _, hM, rfl, hR3, he3⟩
    · have hl := bN_ne.mp h33
      rw [if_pos hl] at hrd
      refine aw_aload_nR (pc := 36) X d_Mo_step_36 (by rfl) ?_
      -- invokevirtual 37 lv=1:n,0:r st=r
      refine aw_callV (pc := 37) X _ (s_Mo_named (m := mu m 29 (m 29 + 1)) (d := 8) (σ := σ) hnx (by omega) e28 hF hl hR1 hM) q_Mo_named k_1026 k_1028 k_32 (by omega) hM.1 (by rfl) d_Mo_step_37 (by omega) (Nat.le_of_ble_eq_true rfl) ⟨by omega, by omega⟩ (fun h => by cases h) (fun r w nx hp => ?_)
      clear hM
      obtain ⟨rfl, hf1, p, m, A, V, hM, hq⟩ := hp
      replace hf := hf.trans hf1
      obtain ⟨rfl, hR3, he3⟩ := hq
      refine aw_goto (pc := 40) X (tgt := 75) d_Mo_step_40 (by rfl) ?_
      refine aw_vret Y X rfl d_Mo_step_75 (by omega) (by omega) (hP _ _ _ ?_)
      -- ret 75 lv=1:n,0:r st=
      rw [hrd]
      exact ⟨rfl, hf, _, _, _, _, hM, rfl, hR3, he3⟩
  · subst h19
    rw [if_pos rfl] at hrd
    refine aw_aload_nR (pc := 22) X d_Mo_step_22 (by rfl) ?_
    -- invokevirtual 23 lv=1:n,0:r st=r
    refine aw_callV (pc := 23) X _ (s_Mo_quoted (m := mu m 29 (m 29 + 1)) (d := 3) (σ := σ) hnx (by omega) e28 hF hR1 hM) q_Mo_quoted k_1015 k_1017 k_30 (by omega) hM.1 (by rfl) d_Mo_step_23 (by omega) (Nat.le_of_ble_eq_true rfl) ⟨by omega, by omega⟩ (fun h => by cases h) (fun r w nx hp => ?_)
    clear hM
    obtain ⟨rfl, hf1, p, m, A, V, hM, hq⟩ := hp
    replace hf := hf.trans hf1
    obtain ⟨rfl, hR3, he3⟩ := hq
    refine aw_goto (pc := 26) X (tgt := 75) d_Mo_step_26 (by rfl) ?_
    refine aw_vret Y X rfl d_Mo_step_75 (by omega) (by omega) (hP _ _ _ ?_)
    -- ret 75 lv=1:n,0:r st=
    rw [hrd]
    exact ⟨rfl, hf, _, _, _, _, hM, rfl, hR3, he3⟩
theorem s_Mo_runN {x : Int32} (hnx : 442 ≤ nx) (hd : 1 ≤ d) (hx : ¬ (0 ≤ x.toInt ∧ x.toInt ≤ 5000)) (hR : RM p m A tx σ st) (hM : hMo G w p m A V) : AC G y_Mo_run b_Mo_run 3 (some .int) d false [rf G 418, .int x] nx w 0 0 (mq G nx w (fun r p' m' A' V' => r = some (.int (nI 0)) ∧ m' 0 = 1 ∧ RM p' m' A' tx σ (st.1, 1))) := by
  have hiff : (nI 0 ≤ x ∧ x ≤ nI 5000) ↔ (0 ≤ x.toInt ∧ x.toInt ≤ 5000) := by
    rw [Int32.le_iff_toInt_le, Int32.le_iff_toInt_le, nI_toInt (by decide), nI_toInt (by decide)]
    omega
  refine AC.ofW (by decide) (Nat.le_of_ble_eq_true rfl) ?_
  intro E P hP Y X
  have X : aw_X G "RescanDeskModel" b_Mo_run 3 (some .int) "run" _ _ _ _ _ E := X
  refine AW.eql (lv' := [(0, _), (1, _)]) (by rfl) ?_
  have hf : fr 418 442 w w := fr.refl _ _ _
  refine aw_aload_nR (pc := 0) X d_Mo_run_0 (by rfl) ?_
  refine aw_iload_n (pc := 1) X d_Mo_run_1 (by rfl) ?_
  refine aw_iconstN (pc := 2) X 0 d_Mo_run_2 (by decide) ?_
  refine aw_sipushN (pc := 3) X 5000 d_Mo_run_3 (by decide) ?_
  -- invokestatic 6 lv=0:r,1:i st=n,n,i,r
  refine aw_callS (pc := 6) X (c_Mo_in (d := 0) (x := x) (lo := nI 0) (hi := nI 5000)) q_Mo_in k_996 k_997 d_Mo_run_6 (by omega) (Nat.le_of_ble_eq_true rfl) ⟨by omega, by omega⟩ (fun h => by cases h) (fun r w nx hp => ?_)
  obtain ⟨rfl, rfl, rfl⟩ := hp
  have hb := bN_lt (decide (nI 0 ≤ x ∧ x ≤ nI 5000))
  refine aw_if_eqN (pc := 9) X (tgt := 16) d_Mo_run_9 (by rfl) (by omega) (fun h9 => ?_) (fun h9 => ?_)
  -- br 9 lv=0:r,1:i st=r
  · refine aw_iconstN (pc := 16) X 1 d_Mo_run_16 (by decide) ?_
    refine pm_0 (pc := 17) X hM hf (by omega) d_Mo_run_17 (fun w hM hf => ?_)
    refine aw_aload_nR (pc := 20) X d_Mo_run_20 (by rfl) ?_
    refine gm_0 (pc := 21) X hM (by omega) d_Mo_run_21 ?_
    try simp only [mu, au, reduceIte, Nat.reduceEqDiff]
    refine aw_if_leN (pc := 24) X (tgt := 29) d_Mo_run_24 (by rfl) (by omega) (fun h24 => ?_) (fun h24 => ?_)
    -- br 24 lv=0:r,1:i st=
    · exact absurd h24 (by decide)
    · refine aw_iconstN (pc := 27) X 0 d_Mo_run_27 (by decide) ?_
      refine aw_iret Y X rfl d_Mo_run_28 (by omega) (by omega) (hP _ _ _ ?_)
      -- ret 28 lv=0:r,1:i st=n
      obtain ⟨q1, q2, q3, q4, q5, q6, q7, q8, q9⟩ := hR
      exact ⟨rfl, hf, _, _, _, _, hM, rfl, rfl, q1, q2, q3, q4, q5, q6, q7, ⟨q8.1, rfl⟩, q9⟩
  · exact absurd (hiff.mp (of_decide_eq_true (bN_ne.mp h9))) hx
theorem s_Mo_run {fu : Nat} (hnx : 442 ≤ nx) (hd : 10 ≤ d) (hfu : fu ≤ 5000) (hR : RM p m A tx σ st) (hM : hMo G w p m A V) : AC G y_Mo_run b_Mo_run 3 (some .int) d false [rf G 418, .int (nI fu)] nx w 0 0 (mq G nx w (fun r p' m' A' V' => r = some (.int (nI (runS fu tx σ.1.2.2.2).1)) ∧ m' 0 = 0 ∧ RM p' m' A' [] (runS fu tx σ.1.2.2.2).2.1 ((runS fu tx σ.1.2.2.2).2.2, 0))) := by
  obtain ⟨⟨t1, t2, t3⟩, c2, c3, c4, c5, c6, c7, c8, c9⟩ := id hR
  generalize hRes : runS fu tx σ.1.2.2.2 = Res
  refine AC.ofW (by decide) (Nat.le_of_ble_eq_true rfl) ?_
  intro E P hP Y X
  have X : aw_X G "RescanDeskModel" b_Mo_run 3 (some .int) "run" _ _ _ _ _ E := X
  refine AW.eql (lv' := [(0, _), (1, _)]) (by rfl) ?_
  have hf : fr 418 442 w w := fr.refl _ _ _
  have E183 : ∀ w1 p1 m1 A1 V1 (σ1 : SQ) (st1 : Nat), hMo G w1 p1 m1 A1 V1 → fr 418 442 w w1 → m1 28 ≤ 6 → RM p1 m1 A1 [] σ1 (st1, 0) → Res = ((udS [] (some 0) 3 1 (m1 28) σ1.1.2.2.1).1, ((σ1.1.1, (if (udS [] (some 0) 3 1 (m1 28) σ1.1.2.2.1).1 = 0 then some 0 else σ1.1.2.1), (udS [] (some 0) 3 1 (m1 28) σ1.1.2.2.1).2, σ1.1.2.2.2), σ1.2), st1) → AW G E 3 nx 0 0 w1 183 [(2, .int (nI 4)), (0, rf G 418), (1, .int (nI fu))] [] := by
    intro w1 p1 m1 A1 V1 σ1 st1 hM hf h6 hR1 hr
    generalize hud : udS [] (some 0) 3 1 (m1 28) σ1.1.2.2.1 = U at hr
    have K3 : ∀ (j r : Nat), r + j = 4 → 1 ≤ r → ∀ w2 m2 A2 R2, hMo G w2 p1 m2 A2 V1 → fr 418 442 w w2 → (∀ k, k ≠ 28 → m2 k = m1 k) → (∀ a, a ≠ 436 → a ≠ 437 → A2 a = A1 a) → m2 28 ≤ 6 → RR (A2 436) (A2 437) R2 → udS [] (some 0) j r (m2 28) R2 = U → AW G E 3 nx 0 0 w2 185 [(2, .int (nI r)), (0, rf G 418), (1, .int (nI fu))] [] := by
      intro j
      induction j with
      | zero =>
        intro r hr4 hr1 w2 m2 A2 R2 hM hf hm2 hA2 h6 hRR hu
        rw [udS] at hu
        subst hu
        have hR2 := hR1.ro hm2 hA2 hRR
        refine aw_iload_n (pc := 185) X d_Mo_run_185 (by rfl) ?_
        refine aw_iconstN (pc := 186) X 4 d_Mo_run_186 (by decide) ?_
        refine aw_icmp_geN (pc := 187) X (tgt := 202) d_Mo_run_187 (by rfl) (by omega) (by omega) (fun h187 => ?_) (fun h187 => ?_)
        -- br 187 lv=2:n,0:r,1:n st=
        · refine aw_aload_nR (pc := 202) X d_Mo_run_202 (by rfl) ?_
          refine aw_aload_nR (pc := 203) X d_Mo_run_203 (by rfl) ?_
          refine gm_28 (pc := 204) X hM (by omega) d_Mo_run_204 ?_
          refine aw_if_neN (pc := 207) X (tgt := 214) d_Mo_run_207 (by rfl) (by omega) (fun h207 => ?_) (fun h207 => ?_)
          -- br 207 lv=2:n,0:r,1:n st=r
          · refine aw_aload_nR (pc := 214) X d_Mo_run_214 (by rfl) ?_
            refine gm_25 (pc := 215) X hM (by omega) d_Mo_run_215 ?_
            refine pm_25 (pc := 218) X hM hf (by omega) d_Mo_run_218 (fun w hM hf => ?_)
            refine aw_aload_nR (pc := 221) X d_Mo_run_221 (by rfl) ?_
            refine gm_28 (pc := 222) X hM (by omega) d_Mo_run_222 ?_
            try simp only [mu, au, reduceIte, Nat.reduceEqDiff]
            refine aw_iret Y X rfl d_Mo_run_225 (by omega) (by omega) (hP _ _ _ ?_)
            -- ret 225 lv=2:n,0:r,1:n st=n
            rw [hr]
            have hne : ¬ m2 28 = 0 := h207
            rw [if_neg hne]
            exact ⟨rfl, hf, _, _, _, _, hM, rfl, hR2.2.2.2.2.2.2.2.1.2, hR2⟩
          · refine aw_iconstN (pc := 210) X 0 d_Mo_run_210 (by decide) ?_
            refine aw_goto (pc := 211) X (tgt := 218) d_Mo_run_211 (by rfl) ?_
            refine pm_25 (pc := 218) X hM hf (by omega) d_Mo_run_218 (fun w hM hf => ?_)
            refine aw_aload_nR (pc := 221) X d_Mo_run_221 (by rfl) ?_
            refine gm_28 (pc := 222) X hM (by omega) d_Mo_run_222 ?_
            try simp only [mu, au, reduceIte, Nat.reduceEqDiff]
            refine aw_iret Y X rfl d_Mo_run_225 (by omega) (by omega) (hP _ _ _ ?_)
            -- ret 225 lv=2:n,0:r,1:n st=n
            rw [hr]
            have he : m2 28 = 0 := h207
            rw [if_pos he]
            obtain ⟨q1, q2, q3, q4, q5, q6, -, q8⟩ := hR2
            exact ⟨rfl, hf, _, _, _, _, hM, rfl, q8.1.2, q1, q2, q3, q4, q5, q6, ⟨rfl, fun k hk => by cases hk; decide⟩, q8⟩
        · omega
      | succ j ih =>
        intro r hr4 hr1 w2 m2 A2 R2 hM hf hm2 hA2 h6 hRR hu
        rw [udS] at hu
        refine aw_iload_n (pc := 185) X d_Mo_run_185 (by rfl) ?_
        refine aw_iconstN (pc := 186) X 4 d_Mo_run_186 (by decide) ?_
        refine aw_icmp_geN (pc := 187) X (tgt := 202) d_Mo_run_187 (by rfl) (by omega) (by omega) (fun h187 => ?_) (fun h187 => ?_)
        -- br 187 lv=2:n,0:r,1:n st=
        · omega
        · refine aw_aload_nR (pc := 190) X d_Mo_run_190 (by rfl) ?_
          refine aw_iload_n (pc := 191) X d_Mo_run_191 (by rfl) ?_
          refine aw_iconstN (pc := 192) X 0 d_Mo_run_192 (by decide) ?_
          -- invokevirtual 193 lv=2:n,0:r,1:n st=n,n,r
          refine aw_callV (pc := 193) X _ (s_Mo_pour (d := 1) (tt := some 0) hnx (by omega) (by omega) (fun q hq => by cases hq; exact ⟨by omega, by omega⟩) h6 hRR hM) q_Mo_pour k_1140 k_1142 k_58 (by omega) hM.1 (by rfl) d_Mo_run_193 (by omega) (Nat.le_of_ble_eq_true rfl) ⟨by omega, by omega⟩ (fun h => by cases h) (fun r w nx hp => ?_)
          clear hM
          obtain ⟨rfl, hf1, p, m, A, V, hM, hq⟩ := hp
          replace hf := hf.trans hf1
          obtain ⟨rfl, hpp, hvv, hm3, hA3, he3, hRR3⟩ := hq
          rw [hpp, hvv] at hM
          refine aw_iincN (pc := 196) X 1 (lv' := [(2, _), (0, _), (1, _)]) d_Mo_run_196 (by rfl) (by decide) (by decide) (by rfl) ?_
          refine aw_goto (pc := 199) X (tgt := 185) d_Mo_run_199 (by rfl) ?_
          -- stop 185 lv=2:n,0:r,1:n st=
          refine ih (r + 1) (by omega) (by omega) _ _ _ _ hM hf (fun k hk => (hm3 k hk).trans (hm2 k hk)) (fun a h1 h2 => (hA3 a h1 h2).trans (hA2 a h1 h2)) ?_ hRR3 ?_
          · rw [he3]
            split
            · have := e2_le (pourS R2 r (some 0)).1
              omega
            · exact h6
          · rw [he3]
            by_cases he : m2 28 = 0
            · rw [if_pos ⟨Or.inl rfl, he⟩] at hu
              rw [if_pos he, if_pos he]
              exact hu
            · rw [if_neg (fun z => he z.2)] at hu
              rw [if_neg he, if_neg he]
              exact hu
    refine aw_iconstN (pc := 183) X 1 d_Mo_run_183 (by decide) ?_
    refine aw_istore_n (pc := 184) X (lv' := [(2, _), (0, _), (1, _)]) d_Mo_run_184 (by decide) (by rfl) ?_
    -- stop 185 lv=2:n,0:r,1:n st=
    exact K3 3 1 (by omega) (by omega) _ _ _ _ hM hf (fun _ _ => rfl) (fun _ _ _ => rfl) h6 hR1.2.2.2.2.2.1 hud
  have udE : ∀ e R, e ≠ 0 → udS [] (some 0) 3 1 e R = (e, R) := fun e R he => by
    have st : ∀ j r, udS [] (some 0) (j + 1) r e R = udS [] (some 0) j (r + 1) e R := fun j r => by rw [udS, if_neg (fun z => he z.2)]
    rw [st, st, st, udS]
  have X164 : ∀ w1 p1 m1 A1 V1 (σ1 : SQ) (st1 : Nat), hMo G w1 p1 m1 A1 V1 → fr 418 442 w w1 → m1 28 ≤ 6 → m1 28 ≠ 0 → RM p1 m1 A1 [] σ1 (st1, 0) → Res = (m1 28, σ1, st1) → AW G E 3 nx 0 0 w1 127 [(2, .int (nI 4)), (0, rf G 418), (1, .int (nI fu))] [] := by
    intro w1 p1 m1 A1 V1 σ1 st1 hM hf h6 hne hR1 hr
    refine aw_aload_nR (pc := 127) X d_Mo_run_127 (by rfl) ?_
    refine gm_28 (pc := 128) X hM (by omega) d_Mo_run_128 ?_
    refine aw_if_neN (pc := 131) X (tgt := 164) d_Mo_run_131 (by rfl) (by omega) (fun h131 => ?_) (fun h131 => ?_)
    -- br 131 lv=2:n,0:r,1:n st=
    · refine aw_aload_nR (pc := 164) X d_Mo_run_164 (by rfl) ?_
      refine gm_28 (pc := 165) X hM (by omega) d_Mo_run_165 ?_
      refine aw_if_neN (pc := 168) X (tgt := 183) d_Mo_run_168 (by rfl) (by omega) (fun h168 => ?_) (fun h168 => ?_)
      -- br 168 lv=2:n,0:r,1:n st=
      · exact E183 _ _ _ _ _ σ1 st1 hM hf h6 hR1 (by rw [udE _ _ hne, if_neg hne]; exact hr)
      · omega
    · omega
  have KL : ∀ (k : Nat) (σ1 : SQ) (st1 : Nat), st1 + k = fu → (∀ u ∈ σ1.2.2.1, u.2.2.1 ≤ st1) → ∀ w1 p1 m1 A1 V1, hMo G w1 p1 m1 A1 V1 → fr 418 442 w w1 → m1 28 = 0 → RM p1 m1 A1 [] σ1 (st1, 0) → endS (lpS k σ1 st1) = Res → AW G E 3 nx 0 0 w1 127 [(2, .int (nI 4)), (0, rf G 418), (1, .int (nI fu))] [] := by
    intro k
    have Emp : ∀ (k : Nat) (σ1 : SQ) (st1 : Nat), σ1.1.1 = [] → ∀ w1 p1 m1 A1 V1, hMo G w1 p1 m1 A1 V1 → fr 418 442 w w1 → m1 28 = 0 → RM p1 m1 A1 [] σ1 (st1, 0) → endS (lpS k σ1 st1) = Res → AW G E 3 nx 0 0 w1 164 [(2, .int (nI 4)), (0, rf G 418), (1, .int (nI fu))] [] := by
      intro k σ1 st1 hF w1 p1 m1 A1 V1 hM hf e28 hR1 hr
      have hl : lpS k σ1 st1 = (0, σ1, st1) := by
        cases k with
        | zero => rw [lpS]
        | succ k => rw [lpS, if_pos hF]
      rw [hl, endS, if_neg (by simp), if_neg (by simpa using hF)] at hr
      have h11 := hR1.2.2.2.1.1
      have h12 := hR1.2.2.2.1.2.1
      refine aw_aload_nR (pc := 164) X d_Mo_run_164 (by rfl) ?_
      refine gm_28 (pc := 165) X hM (by omega) d_Mo_run_165 ?_
      refine aw_if_neN (pc := 168) X (tgt := 183) d_Mo_run_168 (by rfl) (by omega) (fun h168 => ?_) (fun h168 => ?_)
      -- br 168 lv=2:n,0:r,1:n st=
      · omega
      · refine aw_aload_nR (pc := 171) X d_Mo_run_171 (by rfl) ?_
        refine gm_11 (pc := 172) X hM (by omega) d_Mo_run_172 ?_
        refine aw_if_leN (pc := 175) X (tgt := 183) d_Mo_run_175 (by rfl) (by omega) (fun h175 => ?_) (fun h175 => ?_)
        -- br 175 lv=2:n,0:r,1:n st=
        · have hC : σ1.2.2.1 = [] := List.length_eq_zero_iff.mp (by omega)
          refine E183 _ _ _ _ _ σ1 st1 hM hf (by omega) hR1 ?_
          have hu := udS_und [] (some 0) σ1.1.2.2.1
          have hund : undS (some 0) σ1.1.2.2.1 [] = pourAllS σ1.1.2.2.1 (some 0) := by rw [undS, if_pos (show ([] : List (List Nat)).length = 0 from rfl)]
          rw [hund] at hu
          rw [e28, hu, ← hr, finS, hC]
          simp only [e2_0]
        · obtain ⟨u, r, hC⟩ := List.exists_cons_of_ne_nil (show σ1.2.2.1 ≠ [] from fun e => by rw [e] at h11; simp at h11; omega)
          have hfs : finS σ1 = (4, σ1) := by rw [finS, hC]
          rw [hfs] at hr
          refine aw_aload_nR (pc := 178) X d_Mo_run_178 (by rfl) ?_
          refine aw_iconstN (pc := 179) X 4 d_Mo_run_179 (by decide) ?_
          -- invokevirtual 180 lv=2:n,0:r,1:n st=n,r
          refine aw_callV (pc := 180) X _ (s_Mo_stop (d := 0) (e := 4) hnx (by omega) hM) q_Mo_stop k_1003 k_1005 k_27 (by omega) hM.1 (by rfl) d_Mo_run_180 (by omega) (Nat.le_of_ble_eq_true rfl) ⟨by omega, by omega⟩ (fun h => by cases h) (fun r w nx hp => ?_)
          clear hM
          obtain ⟨rfl, hf1, p, m, A, V, hM, hq⟩ := hp
          replace hf := hf.trans hf1
          obtain ⟨rfl, hpp, haa, hvv, hmm⟩ := hq
          rw [if_pos e28] at hmm
          rw [hpp, haa, hvv, hmm] at hM
          refine E183 _ _ _ _ _ σ1 st1 hM hf (show 4 ≤ 6 by decide) (hR1.kp (fun k _ h2 _ => if_neg h2) (fun _ _ => rfl)) ?_
          rw [show mu m1 28 4 28 = 4 from rfl, udE 4 _ (by decide), if_neg (by simp)]
          exact hr.symm
    induction k with
    | zero =>
      intro σ1 st1 hk hdp w1 p1 m1 A1 V1 hM hf e28 hR1 hr
      have g3 := hR1.2.1.1
      have g36 := hR1.2.1.2.1
      have g29 : m1 29 = st1 := hR1.2.2.2.2.2.2.2.1.1
      refine aw_aload_nR (pc := 127) X d_Mo_run_127 (by rfl) ?_
      refine gm_28 (pc := 128) X hM (by omega) d_Mo_run_128 ?_
      refine aw_if_neN (pc := 131) X (tgt := 164) d_Mo_run_131 (by rfl) (by omega) (fun h131 => ?_) (fun h131 => ?_)
      -- br 131 lv=2:n,0:r,1:n st=
      · omega
      · refine aw_aload_nR (pc := 134) X d_Mo_run_134 (by rfl) ?_
        refine gm_3 (pc := 135) X hM (by omega) d_Mo_run_135 ?_
        refine aw_if_leN (pc := 138) X (tgt := 164) d_Mo_run_138 (by rfl) (by omega) (fun h138 => ?_) (fun h138 => ?_)
        -- br 138 lv=2:n,0:r,1:n st=
        · exact Emp 0 σ1 st1 (List.length_eq_zero_iff.mp (by omega)) _ _ _ _ _ hM hf e28 hR1 hr
        · have hF : σ1.1.1 ≠ [] := fun e => by rw [e] at g3; simp at g3; omega
          rw [lpS, endS, if_neg (by simp), if_pos hF] at hr
          refine aw_aload_nR (pc := 141) X d_Mo_run_141 (by rfl) ?_
          refine gm_29 (pc := 142) X hM (by omega) d_Mo_run_142 ?_
          refine aw_iload_n (pc := 145) X d_Mo_run_145 (by rfl) ?_
          refine aw_icmp_neN (pc := 146) X (tgt := 157) d_Mo_run_146 (by rfl) (by omega) (by omega) (fun h146 => ?_) (fun h146 => ?_)
          -- br 146 lv=2:n,0:r,1:n st=
          · omega
          · refine aw_aload_nR (pc := 149) X d_Mo_run_149 (by rfl) ?_
            refine aw_iconstN (pc := 150) X 1 d_Mo_run_150 (by decide) ?_
            -- invokevirtual 151 lv=2:n,0:r,1:n st=n,r
            refine aw_callV (pc := 151) X _ (s_Mo_stop (d := 0) (e := 1) hnx (by omega) hM) q_Mo_stop k_1003 k_1005 k_27 (by omega) hM.1 (by rfl) d_Mo_run_151 (by omega) (Nat.le_of_ble_eq_true rfl) ⟨by omega, by omega⟩ (fun h => by cases h) (fun r w nx hp => ?_)
            clear hM
            obtain ⟨rfl, hf1, p, m, A, V, hM, hq⟩ := hp
            replace hf := hf.trans hf1
            obtain ⟨rfl, hpp, haa, hvv, hmm⟩ := hq
            rw [if_pos e28] at hmm
            rw [hpp, haa, hvv, hmm] at hM
            refine aw_goto (pc := 154) X (tgt := 127) d_Mo_run_154 (by rfl) ?_
            -- stop 127 lv=2:n,0:r,1:n st=
            exact X164 _ _ _ _ _ σ1 st1 hM hf (show 1 ≤ 6 by decide) (show 1 ≠ 0 by decide) (hR1.kp (fun k _ h2 _ => if_neg h2) (fun _ _ => rfl)) hr.symm
    | succ k ih =>
      intro σ1 st1 hk hdp w1 p1 m1 A1 V1 hM hf e28 hR1 hr
      have g3 := hR1.2.1.1
      have g36 := hR1.2.1.2.1
      have g29 : m1 29 = st1 := hR1.2.2.2.2.2.2.2.1.1
      refine aw_aload_nR (pc := 127) X d_Mo_run_127 (by rfl) ?_
      refine gm_28 (pc := 128) X hM (by omega) d_Mo_run_128 ?_
      refine aw_if_neN (pc := 131) X (tgt := 164) d_Mo_run_131 (by rfl) (by omega) (fun h131 => ?_) (fun h131 => ?_)
      -- br 131 lv=2:n,0:r,1:n st=
      · omega
      · refine aw_aload_nR (pc := 134) X d_Mo_run_134 (by rfl) ?_
        refine gm_3 (pc := 135) X hM (by omega) d_Mo_run_135 ?_
        refine aw_if_leN (pc := 138) X (tgt := 164) d_Mo_run_138 (by rfl) (by omega) (fun h138 => ?_) (fun h138 => ?_)
        -- br 138 lv=2:n,0:r,1:n st=
        · exact Emp (k + 1) σ1 st1 (List.length_eq_zero_iff.mp (by omega)) _ _ _ _ _ hM hf e28 hR1 hr
        · have hF : σ1.1.1 ≠ [] := fun e => by rw [e] at g3; simp at g3; omega
          rw [lpS, if_neg hF] at hr
          have hdp2 : ∀ u ∈ (stpX (rdS σ1)).2.2.2.1, u.2.2.1 ≤ st1 + 1 := by rw [stpX_C]; exact rdS_dp hdp
          have hst : stpS σ1 = stpX (rdS σ1) := rfl
          have hle := stpX_le (rdS σ1) (rdS_le σ1)
          rw [hst] at hr
          refine aw_aload_nR (pc := 141) X d_Mo_run_141 (by rfl) ?_
          refine gm_29 (pc := 142) X hM (by omega) d_Mo_run_142 ?_
          refine aw_iload_n (pc := 145) X d_Mo_run_145 (by rfl) ?_
          refine aw_icmp_neN (pc := 146) X (tgt := 157) d_Mo_run_146 (by rfl) (by omega) (by omega) (fun h146 => ?_) (fun h146 => ?_)
          -- br 146 lv=2:n,0:r,1:n st=
          · refine aw_aload_nR (pc := 157) X d_Mo_run_157 (by rfl) ?_
            -- invokevirtual 158 lv=2:n,0:r,1:n st=r
            refine aw_callV (pc := 158) X _ (s_Mo_step (d := 9) (σ := σ1) (st := (st1, 0)) hnx (by omega) e28 hF (fun u hu => by have := hdp u hu; omega) hR1 hM) q_Mo_step k_1007 k_1009 k_28 (by omega) hM.1 (by rfl) d_Mo_run_158 (by omega) (Nat.le_of_ble_eq_true rfl) ⟨by omega, by omega⟩ (fun h => by cases h) (fun r w nx hp => ?_)
            clear hM
            obtain ⟨rfl, hf1, p, m, A, V, hM, hq⟩ := hp
            replace hf := hf.trans hf1
            obtain ⟨rfl, hR2, he2⟩ := hq
            refine aw_goto (pc := 161) X (tgt := 127) d_Mo_run_161 (by rfl) ?_
            -- stop 127 lv=2:n,0:r,1:n st=
            by_cases h : (stpX (rdS σ1)).1 = 0
            · rw [if_pos h] at hr
              exact ih (stpX (rdS σ1)).2 (st1 + 1) (by omega) hdp2 _ _ _ _ _ hM hf (he2.trans h) hR2 hr
            · rw [if_neg h, endS, if_pos h] at hr
              exact X164 _ _ _ _ _ (stpX (rdS σ1)).2 (st1 + 1) hM hf (by omega) (by omega) hR2 (by rw [he2, ← hr])
          · omega
  -- the rows are emptied
  have K2 : ∀ (j r : Nat), r + j = 4 → ∀ w1 m1 A1, hMo G w1 (nI 0) m1 A1 V → fr 418 442 w w1 → m1 28 = 0 → (∀ x, x < r → A1 437 x = 0) → (m1 1 = 0 ∧ RF (m1 3) (A1 420) tx ∧ RT (m1 5) (A1 421) (A1 422) (A1 423) (A1 424) (A1 425) σ.1.2.2.2 ∧ m1 11 = 0 ∧ m1 21 = 0 ∧ m1 29 = 0 ∧ m1 30 = 0 ∧ m1 0 = 0) → AW G E 3 nx 0 0 w1 109 [(2, .int (nI r)), (0, rf G 418), (1, .int (nI fu))] [] := by
    intro j
    induction j with
    | zero =>
      intro r hr w1 m1 A1 hM hf e28 hz ⟨y1, y2, y3, y4, y5, y6, y7, y8⟩
      have hr4 : r = 4 := by omega
      subst hr4
      refine aw_iload_n (pc := 109) X d_Mo_run_109 (by rfl) ?_
      refine aw_iconstN (pc := 110) X 4 d_Mo_run_110 (by decide) ?_
      refine aw_icmp_geN (pc := 111) X (tgt := 127) d_Mo_run_111 (by rfl) (by omega) (by omega) (fun h111 => ?_) (fun h111 => ?_)
      -- br 111 lv=2:n,0:r,1:n st=
      · refine KL fu ((tx, some 0, fun _ => [], σ.1.2.2.2), [], [], 0) 0 (by omega) (fun u hu => by cases hu) _ _ _ _ _ hM hf e28 ⟨⟨y1, Nat.zero_le _, rfl⟩, y2, y3, ⟨y4, Nat.zero_le _, fun i u hu => by simp at hu⟩, ⟨y5, Nat.zero_le _, rfl, trivial⟩, fun x hx => ⟨hz x hx, Nat.zero_le _, rfl⟩, ⟨rfl, fun k hk => by cases hk; decide⟩, ⟨y6, y8⟩, y7, Nat.zero_le _⟩ ?_
        rw [← hRes]
        rfl
      · omega
    | succ j ih =>
      intro r hr w1 m1 A1 hM hf e28 hz hy
      refine aw_iload_n (pc := 109) X d_Mo_run_109 (by rfl) ?_
      refine aw_iconstN (pc := 110) X 4 d_Mo_run_110 (by decide) ?_
      refine aw_icmp_geN (pc := 111) X (tgt := 127) d_Mo_run_111 (by rfl) (by omega) (by omega) (fun h111 => ?_) (fun h111 => ?_)
      -- br 111 lv=2:n,0:r,1:n st=
      · omega
      · refine aw_aload_nR (pc := 114) X d_Mo_run_114 (by rfl) ?_
        refine gm_24 (pc := 115) X hM (by omega) d_Mo_run_115 ?_
        refine aw_iload_n (pc := 118) X d_Mo_run_118 (by rfl) ?_
        refine aw_iconstN (pc := 119) X 0 d_Mo_run_119 (by decide) ?_
        refine sm_437 (pc := 120) X hM hf (by omega) (by omega) d_Mo_run_120 (fun w hM hf => ?_)
        refine aw_iincN (pc := 121) X 1 (lv' := [(2, _), (0, _), (1, _)]) d_Mo_run_121 (by rfl) (by decide) (by decide) (by rfl) ?_
        refine aw_goto (pc := 124) X (tgt := 109) d_Mo_run_124 (by rfl) ?_
        -- stop 109 lv=2:n,0:r,1:n st=
        refine ih (r + 1) (by omega) _ _ _ hM hf e28 (fun x hx => ?_) hy
        show aw_un (A1 437) r 0 x = 0
        by_cases e : x = r
        · subst e; rw [aw_un_eq]
        · rw [aw_un_ne _ _ e]; exact hz x (by omega)
  -- the text is laid into the front
  have K1 : ∀ (j i : Nat), i + j = tx.length → ∀ w1 m1 A1, hMo G w1 p m1 A1 V → fr 418 442 w w1 → m1 0 = 0 → m1 3 = tx.length → (∀ k, k ≠ 0 → k ≠ 3 → m1 k = m k) → (∀ a, a ≠ 420 → A1 a = A a) → (∀ y, y < i → A1 420 (tx.length - 1 - y) = tx.getD y 0) → AW G E 3 nx 0 0 w1 39 [(2, .int (nI i)), (0, rf G 418), (1, .int (nI fu))] [] := by
    intro j
    induction j with
    | zero =>
      intro i hi w1 m1 A1 hM hf h0 h3 hm1 hA1 hy
      have h1 : m1 1 = tx.length := (hm1 1 (by decide) (by decide)).trans t1
      refine aw_iload_n (pc := 39) X d_Mo_run_39 (by rfl) ?_
      refine aw_aload_nR (pc := 40) X d_Mo_run_40 (by rfl) ?_
      refine gm_1 (pc := 41) X hM (by omega) d_Mo_run_41 ?_
      refine aw_icmp_geN (pc := 44) X (tgt := 72) d_Mo_run_44 (by rfl) (by omega) (by omega) (fun h44 => ?_) (fun h44 => ?_)
      -- br 44 lv=2:n,0:r,1:n st=
      · refine aw_aload_nR (pc := 72) X d_Mo_run_72 (by rfl) ?_
        refine aw_iconstN (pc := 73) X 0 d_Mo_run_73 (by decide) ?_
        refine pm_1 (pc := 74) X hM hf (by omega) d_Mo_run_74 (fun w hM hf => ?_)
        refine aw_aload_nR (pc := 77) X d_Mo_run_77 (by rfl) ?_
        refine aw_iconstN (pc := 78) X 0 d_Mo_run_78 (by decide) ?_
        refine pm_11 (pc := 79) X hM hf (by omega) d_Mo_run_79 (fun w hM hf => ?_)
        refine aw_aload_nR (pc := 82) X d_Mo_run_82 (by rfl) ?_
        refine aw_iconstN (pc := 83) X 0 d_Mo_run_83 (by decide) ?_
        refine pm_21 (pc := 84) X hM hf (by omega) d_Mo_run_84 (fun w hM hf => ?_)
        refine aw_aload_nR (pc := 87) X d_Mo_run_87 (by rfl) ?_
        refine aw_iconstN (pc := 88) X 0 d_Mo_run_88 (by decide) ?_
        refine pm_25 (pc := 89) X hM hf (by omega) d_Mo_run_89 (fun w hM hf => ?_)
        refine aw_aload_nR (pc := 92) X d_Mo_run_92 (by rfl) ?_
        refine aw_iconstN (pc := 93) X 0 d_Mo_run_93 (by decide) ?_
        refine pm_28 (pc := 94) X hM hf (by omega) d_Mo_run_94 (fun w hM hf => ?_)
        refine aw_aload_nR (pc := 97) X d_Mo_run_97 (by rfl) ?_
        refine aw_iconstN (pc := 98) X 0 d_Mo_run_98 (by decide) ?_
        refine pm_29 (pc := 99) X hM hf (by omega) d_Mo_run_99 (fun w hM hf => ?_)
        refine aw_aload_nR (pc := 102) X d_Mo_run_102 (by rfl) ?_
        refine aw_iconstN (pc := 103) X 0 d_Mo_run_103 (by decide) ?_
        refine pm_30 (pc := 104) X hM hf (by omega) d_Mo_run_104 (fun w hM hf => ?_)
        refine aw_iconstN (pc := 107) X 0 d_Mo_run_107 (by decide) ?_
        refine aw_istore_n (pc := 108) X (lv' := [(2, _), (0, _), (1, _)]) d_Mo_run_108 (by decide) (by rfl) ?_
        -- stop 109 lv=2:n,0:r,1:n st=
        refine K2 4 0 (by omega) _ _ _ hM hf rfl (fun x hx => by omega) ⟨rfl, ⟨h3, by omega, fun y hy2 => (hy y (by omega)).symm⟩, ?_, rfl, rfl, rfl, rfl, h0⟩
        show RT (m1 5) (A1 421) (A1 422) (A1 423) (A1 424) (A1 425) _
        rw [hm1 5 (by decide) (by decide), hA1 421 (by decide), hA1 422 (by decide), hA1 423 (by decide), hA1 424 (by decide), hA1 425 (by decide)]
        exact c3
      · omega
    | succ j ih =>
      intro i hi w1 m1 A1 hM hf h0 h3 hm1 hA1 hy
      have h1 : m1 1 = tx.length := (hm1 1 (by decide) (by decide)).trans t1
      have hv : A1 419 i = tx.getD i 0 := by rw [hA1 419 (by decide)]; exact (sl_D t3 (by omega)).symm
      refine aw_iload_n (pc := 39) X d_Mo_run_39 (by rfl) ?_
      refine aw_aload_nR (pc := 40) X d_Mo_run_40 (by rfl) ?_
      refine gm_1 (pc := 41) X hM (by omega) d_Mo_run_41 ?_
      refine aw_icmp_geN (pc := 44) X (tgt := 72) d_Mo_run_44 (by rfl) (by omega) (by omega) (fun h44 => ?_) (fun h44 => ?_)
      -- br 44 lv=2:n,0:r,1:n st=
      · omega
      · refine aw_aload_nR (pc := 47) X d_Mo_run_47 (by rfl) ?_
        refine gm_4 (pc := 48) X hM (by omega) d_Mo_run_48 ?_
        refine aw_aload_nR (pc := 51) X d_Mo_run_51 (by rfl) ?_
        refine gm_3 (pc := 52) X hM (by omega) d_Mo_run_52 ?_
        refine aw_iconstN (pc := 55) X 1 d_Mo_run_55 (by decide) ?_
        refine aw_isubN (pc := 56) X d_Mo_run_56 (by omega) ?_
        refine aw_iload_n (pc := 57) X d_Mo_run_57 (by rfl) ?_
        refine aw_isubN (pc := 58) X d_Mo_run_58 (by omega) ?_
        refine aw_aload_nR (pc := 59) X d_Mo_run_59 (by rfl) ?_
        refine gm_2 (pc := 60) X hM (by omega) d_Mo_run_60 ?_
        refine aw_iload_n (pc := 63) X d_Mo_run_63 (by rfl) ?_
        refine aw_caldN (pc := 64) X 419 0 (by omega) hM.a419 (by rfl) (by omega) (by decide) d_Mo_run_64 ?_
        refine sm_420 (pc := 65) X hM hf (by omega) (by omega) (by first | omega | exact hM.b435 _ | exact hM.b420 _ | exact hM.b421 _ | exact hM.b424 _ | exact hM.b426 _ | exact hM.b429 _ | exact hM.b436 _ | exact hM.b438 _ | exact hM.b419 _ | exact hM.b441 _) d_Mo_run_65 (fun w hM hf => ?_)
        refine aw_iincN (pc := 66) X 1 (lv' := [(2, _), (0, _), (1, _)]) d_Mo_run_66 (by rfl) (by decide) (by decide) (by rfl) ?_
        refine aw_goto (pc := 69) X (tgt := 39) d_Mo_run_69 (by rfl) ?_
        -- stop 39 lv=2:n,0:r,1:n st=
        refine ih (i + 1) (by omega) _ _ _ hM hf h0 h3 hm1 (fun a ha => (if_neg ha).trans (hA1 a ha)) (fun y hy2 => ?_)
        show aw_un (A1 420) (m1 3 - 1 - i) (A1 419 i) (tx.length - 1 - y) = _
        by_cases e : y = i
        · subst e; rw [h3, aw_un_eq, hv]
        · rw [aw_un_ne _ _ (by omega)]; exact hy y (by omega)
  have hiff : (nI 0 ≤ nI fu ∧ nI fu ≤ nI 5000) := ⟨(nILE (by omega) (by omega)).mpr (by omega), (nILE (by omega) (by omega)).mpr (by omega)⟩
  refine aw_aload_nR (pc := 0) X d_Mo_run_0 (by rfl) ?_
  refine aw_iload_n (pc := 1) X d_Mo_run_1 (by rfl) ?_
  refine aw_iconstN (pc := 2) X 0 d_Mo_run_2 (by decide) ?_
  refine aw_sipushN (pc := 3) X 5000 d_Mo_run_3 (by decide) ?_
  -- invokestatic 6 lv=0:r,1:n st=n,n,n,r
  refine aw_callS (pc := 6) X (c_Mo_in (d := 0) (x := nI fu) (lo := nI 0) (hi := nI 5000)) q_Mo_in k_996 k_997 d_Mo_run_6 (by omega) (Nat.le_of_ble_eq_true rfl) ⟨by omega, by omega⟩ (fun h => by cases h) (fun r w nx hp => ?_)
  obtain ⟨rfl, rfl, rfl⟩ := hp
  have hb := bN_lt (decide (nI 0 ≤ nI fu ∧ nI fu ≤ nI 5000))
  refine aw_if_eqN (pc := 9) X (tgt := 16) d_Mo_run_9 (by rfl) (by omega) (fun h9 => ?_) (fun h9 => ?_)
  -- br 9 lv=0:r,1:n st=r
  · exact absurd hiff (of_decide_eq_false (bN_eq.mp h9))
  · refine aw_iconstN (pc := 12) X 0 d_Mo_run_12 (by decide) ?_
    refine aw_goto (pc := 13) X (tgt := 17) d_Mo_run_13 (by rfl) ?_
    refine pm_0 (pc := 17) X hM hf (by omega) d_Mo_run_17 (fun w hM hf => ?_)
    refine aw_aload_nR (pc := 20) X d_Mo_run_20 (by rfl) ?_
    refine gm_0 (pc := 21) X hM (by omega) d_Mo_run_21 ?_
    try simp only [mu, au, reduceIte, Nat.reduceEqDiff]
    refine aw_if_leN (pc := 24) X (tgt := 29) d_Mo_run_24 (by rfl) (by omega) (fun h24 => ?_) (fun h24 => ?_)
    -- br 24 lv=0:r,1:n st=
    · refine aw_aload_nR (pc := 29) X d_Mo_run_29 (by rfl) ?_
      refine aw_aload_nR (pc := 30) X d_Mo_run_30 (by rfl) ?_
      refine gm_1 (pc := 31) X hM (by omega) d_Mo_run_31 ?_
      try simp only [mu, au, reduceIte, Nat.reduceEqDiff]
      refine pm_3 (pc := 34) X hM hf (by omega) d_Mo_run_34 (fun w hM hf => ?_)
      refine aw_iconstN (pc := 37) X 0 d_Mo_run_37 (by decide) ?_
      refine aw_istore_n (pc := 38) X (lv' := [(2, _), (0, _), (1, _)]) d_Mo_run_38 (by decide) (by rfl) ?_
      -- stop 39 lv=2:n,0:r,1:n st=
      exact K1 _ 0 (Nat.zero_add _) _ _ _ hM hf rfl t1 (fun k h0 h3 => (if_neg h3).trans (if_neg h0)) (fun _ _ => rfl) (fun y hy => by omega)
    · exact absurd h24 (by decide)
end

