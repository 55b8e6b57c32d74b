/-! RescanDesk.run, where its fuel is right -/
def stpS (σ : SQ) : Nat × SQ :=
  if (rdS σ).1 = 0 then (match (rdS σ).2.2 with
    | none => (0, (rdS σ).2.1)
    | some x => ((expS x.1 x.2 (rdS σ).2.1.1.1 (rdS σ).2.1.1.2.1 (rdS σ).2.1.1.2.2.1 (rdS σ).2.1.1.2.2.2).1, (expS x.1 x.2 (rdS σ).2.1.1.1 (rdS σ).2.1.1.2.1 (rdS σ).2.1.1.2.2.1 (rdS σ).2.1.1.2.2.2).2, (rdS σ).2.1.2))
  else ((rdS σ).1, (rdS σ).2.1)
def lpS : Nat → SQ → Nat → Nat × SQ × Nat
  | 0, σ, st => (0, σ, st)
  | k + 1, σ, st => if σ.1.1 = [] then (0, σ, st) else if (stpS σ).1 = 0 then lpS k (stpS σ).2 (st + 1) else ((stpS σ).1, (stpS σ).2, st + 1)
def endS (l : Nat × SQ × Nat) : Nat × SQ × Nat := if l.1 ≠ 0 then l else if l.2.1.1.1 ≠ [] then (1, l.2) else ((finS l.2.1).1, (finS l.2.1).2, l.2.2)
def runS (fu : Nat) (tx : List Nat) (T : List Def) : Nat × SQ × Nat := endS (lpS fu ((tx, some 0, fun _ => [], T), [], [], 0) 0)
theorem wrS_C (σ : SQ) (s : List Nat) : (wrS σ s).2.2.2.1 = σ.2.2.1 := by
  unfold wrS
  split
  · rfl
  · split <;> rfl
theorem mkB_dp {C : List CS} {b : Nat} (h : ∀ u ∈ C, u.2.2.1 ≤ b) : ∀ u ∈ mkB C, u.2.2.1 ≤ b := by
  cases C with
  | nil => exact h
  | cons v c =>
    intro u hu
    rcases List.mem_cons.mp hu with rfl | hu
    · exact h v List.mem_cons_self
    · exact h u (List.mem_cons_of_mem _ hu)
theorem rdS_dp {σ : SQ} {b : Nat} (h : ∀ u ∈ σ.2.2.1, u.2.2.1 ≤ b) : ∀ u ∈ (rdS σ).2.1.2.2.1, u.2.2.1 ≤ b + 1 := by
  have h1 : ∀ u ∈ σ.2.2.1, u.2.2.1 ≤ b + 1 := fun u hu => Nat.le_succ_of_le (h u hu)
  have h2 := mkB_dp h1
  unfold rdS
  split
  · exact h1
  · split
    · unfold qtS
      split
      · exact h1
      · simp only [wrS_C]; exact h2
    · split
      · unfold nmS
        simp only
        split
        · simp only [wrS_C]; exact h2
        · split
          · split
            · exact h2
            · intro u hu
              rcases List.mem_cons.mp hu with rfl | hu
              · exact Nat.zero_le _
              · exact h2 u hu
          · exact h2
      · split
        · simp only [wrS_C]; exact h1
        · rename_i v r hC
          have hv := h v (by rw [hC]; exact List.mem_cons_self)
          have hr : ∀ u ∈ r, u.2.2.1 ≤ b + 1 := fun u hu => h1 u (by rw [hC]; exact List.mem_cons_of_mem _ hu)
          unfold icS
          split
          · exact hr
          · split
            · split
              · exact h1
              · intro u hu
                rcases List.mem_cons.mp hu with rfl | hu
                · exact Nat.le_succ_of_le hv
                · exact hr u hu
            · split
              · exact h1
              · simp only [wrS_C]
                intro u hu
                rcases List.mem_cons.mp hu with rfl | hu
                · show (if _ then _ else _) ≤ b + 1
                  split
                  · exact Nat.succ_le_succ hv
                  · split
                    · exact Nat.le_trans (Nat.sub_le _ _) (Nat.le_succ_of_le hv)
                    · exact Nat.le_succ_of_le hv
                · exact hr u hu
theorem e2_le (b : Bool) : e2 b ≤ 2 := by cases b <;> decide
theorem wrS_le (σ : SQ) (s : List Nat) : (wrS σ s).1 ≤ 6 := by
  unfold wrS
  split
  · exact Nat.le_trans (e2_le _) (by decide)
  · split
    · exact Nat.zero_le _
    · exact Nat.le_trans (e2_le _) (by decide)
theorem rdS_le (σ : SQ) : (rdS σ).1 ≤ 6 := by
  unfold rdS
  split
  · exact Nat.zero_le _
  · split
    · unfold qtS
      split
      · exact (by decide : 3 ≤ 6)
      · exact wrS_le _ _
    · split
      · unfold nmS
        simp only
        split
        · exact wrS_le _ _
        · split
          · split
            · exact (by decide : 2 ≤ 6)
            · exact Nat.zero_le _
          · exact Nat.zero_le _
      · split
        · exact wrS_le _ _
        · unfold icS
          split
          · exact Nat.zero_le _
          · split
            · split
              · exact (by decide : 2 ≤ 6)
              · exact Nat.zero_le _
            · split
              · exact Nat.zero_le _
              · exact wrS_le _ _
theorem expS_le (t : Def) (ar : List (List Nat)) (F : List Nat) (p : Option Nat) (R : Nat → List Nat) (T : List Def) : (expS t ar F p R T).1 ≤ 6 := by
  unfold expS
  simp only
  split
  · show (expA t ar F p R T).1 ≤ 6
    unfold expA
    split
    · exact Nat.zero_le _
    · simp only
      split
      · exact Nat.zero_le _
      · exact actS_le _ _ _ _ _
  · split
    · exact Nat.zero_le _
    · exact (by decide : 2 ≤ 6)
section
variable {G : aw_G} {nx d : Nat} {w : Nat → va_E} {tx : List Nat} {σ : SQ} {rd : Value} {st : Nat}
theorem s_Rd_run {fu : Nat} (hnx : 418 ≤ nx) (hd : 62 ≤ d) (hfu : fu ≤ 5000) (h : hRd G w tx σ rd st) : AC G y_Rd_run b_Rd_run 3 (some .int) d false [rf G 0, .int (nI fu)] nx w 0 0 (fun r w' nx' => nx' = nx ∧ r = some (.int (nI (runS fu tx σ.1.2.2.2).1)) ∧ (∃ rd', hRd G w' [] (runS fu tx σ.1.2.2.2).2.1 rd' (runS fu tx σ.1.2.2.2).2.2) ∧ fr 0 418 w w') := by
  have a1 := h.1
  refine AC.ofW (by decide) (Nat.le_of_ble_eq_true rfl) ?_
  intro E P hP Y X
  have X : aw_X G "RescanDesk" b_Rd_run 3 (some .int) "run" _ _ _ _ _ E := X
  refine AW.eql (lv' := [(0, _), (1, _)]) (by rfl) ?_
  generalize hRes : runS fu tx σ.1.2.2.2 = Res at hP
  have Z : ∀ (w1 : Nat → va_E) (σ1 : SQ) (st1 e : Nat) (rd1 : Value), e < 2 ^ 31 → hRd G w1 [] σ1 rd1 st1 → endS (e, σ1, st1) = Res → fr 0 418 w w1 → AW G E 3 nx 0 0 w1 93 [(2, .int (nI e)), (0, rf G 0), (1, .int (nI fu))] [] := by
    intro w1 σ1 st1 e rd1 he h1 hR hf1
    have m0 := h1.1
    obtain ⟨s1, x1⟩ := h1.2.2.1
    obtain ⟨fl, f, fr1, -⟩ := id (show hFr G w1 σ1.1.1 from x1.1)
    refine aw_iload_n (pc := 93) X d_Rd_run_93 (by rfl) ?_
    refine aw_if_eqN (pc := 94) X (tgt := 99) d_Rd_run_94 (by rfl) (by omega) (fun h94 => ?_) (fun h94 => ?_)
    -- br 94 lv=2:n,0:r,1:n st=
    · refine aw_aload_nR (pc := 99) X d_Rd_run_99 (by rfl) ?_
      refine aw_getO (pc := 100) X _ 1 (by omega) (by (repeat (first | rw [aw_up_eq] | rw [aw_up_ne _ _ (by first | assumption | omega)])) <;> first | assumption | rfl) (by rfl) in_Rd (by decide) k_373 (by rfl) d_Rd_run_100 ?_
      -- invokevirtual 103 lv=2:n,0:r,1:n st=r
      refine aw_callV (pc := 103) X _ (c_Fr_length (d := 0) (a := 3) (n := 600 - σ1.1.1.length) (by omega) (by omega) fr1) q_Fr_length k_423 k_424 k_425 (by omega) fr1 (by rfl) d_Rd_run_103 (by omega) (Nat.le_of_ble_eq_true rfl) ⟨by omega, by omega⟩ (fun h => by cases h) (fun r w2 nx2 hp => ?_)
      obtain ⟨rfl, rfl, rfl⟩ := hp
      rw [show 600 - (600 - σ1.1.1.length) = σ1.1.1.length by omega]
      rw [endS, if_neg (by simp [h94])] at hR
      refine aw_if_leN (pc := 106) X (tgt := 113) d_Rd_run_106 (by rfl) (by omega) (fun h106 => ?_) (fun h106 => ?_)
      -- br 106 lv=2:n,0:r,1:n st=
      · have hn : σ1.1.1 = [] := List.length_eq_zero_iff.mp (by omega)
        rw [if_neg (by simp [hn])] at hR
        refine aw_aload_nR (pc := 113) X d_Rd_run_113 (by rfl) ?_
        -- invokevirtual 114 lv=2:n,0:r,1:n st=r
        refine aw_callV (pc := 114) X _ (s_Rd_finish (d := 5) hnx (by omega) h1) q_Rd_finish k_804 k_806 k_25 (by omega) m0 (by rfl) d_Rd_run_114 (by omega) (Nat.le_of_ble_eq_true rfl) ⟨by omega, by omega⟩ (fun h => by cases h) (fun r w3 nx2 hp => ?_)
        obtain ⟨rfl, rfl, k4, kf⟩ := hp
        refine aw_iret Y X rfl d_Rd_run_117 (by omega) (by omega) (hP _ _ _ ?_)
        -- ret 117 lv=2:n,0:r,1:n st=n
        rw [← hR]
        exact ⟨rfl, rfl, ⟨_, k4⟩, hf1.trans kf⟩
      · have hn : σ1.1.1 ≠ [] := fun e => by rw [e] at h106; simp at h106
        rw [if_pos hn] at hR
        refine aw_iconstN (pc := 109) X 1 d_Rd_run_109 (by decide) ?_
        refine aw_goto (pc := 110) X (tgt := 117) d_Rd_run_110 (by rfl) ?_
        refine aw_iret Y X rfl d_Rd_run_117 (by omega) (by omega) (hP _ _ _ ?_)
        -- ret 117 lv=2:n,0:r,1:n st=n
        rw [← hR]
        exact ⟨rfl, rfl, ⟨_, h1⟩, hf1⟩
    · refine aw_iload_n (pc := 97) X d_Rd_run_97 (by rfl) ?_
      refine aw_iret Y X rfl d_Rd_run_98 (by omega) (by omega) (hP _ _ _ ?_)
      -- ret 98 lv=2:n,0:r,1:n st=n
      rw [endS, if_pos h94] at hR
      rw [← hR]
      exact ⟨rfl, rfl, ⟨_, h1⟩, hf1⟩
  have L : ∀ (k st1 : Nat) (w1 : Nat → va_E) (σ1 : SQ) (rd1 : Value), fu = st1 + k → (∀ u ∈ σ1.2.2.1, u.2.2.1 ≤ st1) → hRd G w1 [] σ1 rd1 st1 → endS (lpS k σ1 st1) = Res → fr 0 418 w w1 → AW G E 3 nx 0 0 w1 25 [(2, .int (nI 0)), (0, rf G 0), (1, .int (nI fu))] [] := by
    intro k
    induction k with
    | zero =>
      intro st1 w1 σ1 rd1 hk hdp h1 hR hf1
      have m0 := h1.1
      obtain ⟨s1, x1⟩ := h1.2.2.1
      obtain ⟨fl, f, fr1, -⟩ := id (show hFr G w1 σ1.1.1 from x1.1)
      refine aw_iload_n (pc := 25) X d_Rd_run_25 (by rfl) ?_
      refine aw_if_neN (pc := 26) X (tgt := 93) d_Rd_run_26 (by rfl) (by omega) (fun h26 => ?_) (fun h26 => ?_)
      -- br 26 lv=2:n,0:r,1:n st=
      · exact absurd rfl h26
      · refine aw_aload_nR (pc := 29) X d_Rd_run_29 (by rfl) ?_
        refine aw_getO (pc := 30) X _ 1 (by omega) (by (repeat (first | rw [aw_up_eq] | rw [aw_up_ne _ _ (by first | assumption | omega)])) <;> first | assumption | rfl) (by rfl) in_Rd (by decide) k_373 (by rfl) d_Rd_run_30 ?_
        -- invokevirtual 33 lv=2:n,0:r,1:n st=r
        refine aw_callV (pc := 33) X _ (c_Fr_length (d := 0) (a := 3) (n := 600 - σ1.1.1.length) (by omega) (by omega) fr1) q_Fr_length k_423 k_424 k_425 (by omega) fr1 (by rfl) d_Rd_run_33 (by omega) (Nat.le_of_ble_eq_true rfl) ⟨by omega, by omega⟩ (fun h => by cases h) (fun r w2 nx2 hp => ?_)
        obtain ⟨rfl, rfl, rfl⟩ := hp
        refine aw_if_leN (pc := 36) X (tgt := 93) d_Rd_run_36 (by rfl) (by omega) (fun h36 => ?_) (fun h36 => ?_)
        -- br 36 lv=2:n,0:r,1:n st=
        · exact Z _ _ _ _ _ (by decide) h1 hR hf1
        · refine aw_aload_nR (pc := 39) X d_Rd_run_39 (by rfl) ?_
          refine aw_getO (pc := 40) X _ 7 (by omega) (by (repeat (first | rw [aw_up_eq] | rw [aw_up_ne _ _ (by first | assumption | omega)])) <;> first | assumption | rfl) (by rfl) in_Rd (by decide) k_379 (by rfl) d_Rd_run_40 ?_
          refine aw_iload_n (pc := 43) X d_Rd_run_43 (by rfl) ?_
          refine aw_icmp_geN (pc := 44) X (tgt := 93) d_Rd_run_44 (by rfl) (by omega) (by omega) (fun h44 => ?_) (fun h44 => ?_)
          -- br 44 lv=2:n,0:r,1:n st=
          · exact Z _ _ _ _ _ (by decide) h1 hR hf1
          · omega
    | succ k ih =>
      intro st1 w1 σ1 rd1 hk hdp h1 hR hf1
      have m0 := h1.1
      obtain ⟨s1, x1⟩ := id h1.2.2.1
      obtain ⟨fl, f, fr1, -⟩ := id (show hFr G w1 σ1.1.1 from x1.1)
      refine aw_iload_n (pc := 25) X d_Rd_run_25 (by rfl) ?_
      refine aw_if_neN (pc := 26) X (tgt := 93) d_Rd_run_26 (by rfl) (by omega) (fun h26 => ?_) (fun h26 => ?_)
      -- br 26 lv=2:n,0:r,1:n st=
      · exact absurd rfl h26
      · refine aw_aload_nR (pc := 29) X d_Rd_run_29 (by rfl) ?_
        refine aw_getO (pc := 30) X _ 1 (by omega) (by (repeat (first | rw [aw_up_eq] | rw [aw_up_ne _ _ (by first | assumption | omega)])) <;> first | assumption | rfl) (by rfl) in_Rd (by decide) k_373 (by rfl) d_Rd_run_30 ?_
        -- invokevirtual 33 lv=2:n,0:r,1:n st=r
        refine aw_callV (pc := 33) X _ (c_Fr_length (d := 0) (a := 3) (n := 600 - σ1.1.1.length) (by omega) (by omega) fr1) q_Fr_length k_423 k_424 k_425 (by omega) fr1 (by rfl) d_Rd_run_33 (by omega) (Nat.le_of_ble_eq_true rfl) ⟨by omega, by omega⟩ (fun h => by cases h) (fun r w2 nx2 hp => ?_)
        obtain ⟨rfl, rfl, rfl⟩ := hp
        rw [show 600 - (600 - σ1.1.1.length) = σ1.1.1.length by omega]
        refine aw_if_leN (pc := 36) X (tgt := 93) d_Rd_run_36 (by rfl) (by omega) (fun h36 => ?_) (fun h36 => ?_)
        -- br 36 lv=2:n,0:r,1:n st=
        · have hn : σ1.1.1 = [] := List.length_eq_zero_iff.mp (by omega)
          rw [lpS, if_pos hn] at hR
          exact Z _ _ _ _ _ (by decide) h1 hR hf1
        · have hn : σ1.1.1 ≠ [] := fun e => by rw [e] at h36; simp at h36
          rw [lpS, if_neg hn] at hR
          obtain ⟨c, F, hF⟩ := List.exists_cons_of_ne_nil hn
          refine aw_aload_nR (pc := 39) X d_Rd_run_39 (by rfl) ?_
          refine aw_getO (pc := 40) X _ 7 (by omega) (by (repeat (first | rw [aw_up_eq] | rw [aw_up_ne _ _ (by first | assumption | omega)])) <;> first | assumption | rfl) (by rfl) in_Rd (by decide) k_379 (by rfl) d_Rd_run_40 ?_
          refine aw_iload_n (pc := 43) X d_Rd_run_43 (by rfl) ?_
          refine aw_icmp_geN (pc := 44) X (tgt := 93) d_Rd_run_44 (by rfl) (by omega) (by omega) (fun h44 => ?_) (fun h44 => ?_)
          -- br 44 lv=2:n,0:r,1:n st=
          · omega
          · refine aw_aload_nR (pc := 47) X d_Rd_run_47 (by rfl) ?_
            refine aw_dup (pc := 48) X d_Rd_run_48 (by rfl) ?_
            refine aw_getO (pc := 49) X _ 7 (by omega) (by (repeat (first | rw [aw_up_eq] | rw [aw_up_ne _ _ (by first | assumption | omega)])) <;> first | assumption | rfl) (by rfl) in_Rd (by decide) k_379 (by rfl) d_Rd_run_49 ?_
            refine aw_iconstN (pc := 52) X 1 d_Rd_run_52 (by decide) ?_
            refine aw_iaddN (pc := 53) X d_Rd_run_53 ?_
            refine aw_putO (pc := 54) X _ 7 (by omega) (by (repeat (first | rw [aw_up_eq] | rw [aw_up_ne _ _ (by first | assumption | omega)])) <;> first | assumption | rfl) (by rfl) in_Rd (by decide) ty_Rd ok_Rd nm_Rd k_379 (by rfl) (by rfl) (by rfl) (by simp) (fs' := [_, _, _, _, _, _, _, _]) (by rfl) d_Rd_run_54 ?_
            refine aw_aload_nR (pc := 57) X d_Rd_run_57 (by rfl) ?_
            refine aw_null (pc := 58) X d_Rd_run_58 ?_
            refine aw_putO (pc := 59) X _ 6 (by omega) (by (repeat (first | rw [aw_up_eq] | rw [aw_up_ne _ _ (by first | assumption | omega)])) <;> first | assumption | rfl) (by rfl) in_Rd (by decide) ty_Rd ok_Rd nm_Rd k_378 (by rfl) (by rfl) (by rfl) (by simp) (fs' := [_, _, _, _, _, _, _, _]) (by rfl) d_Rd_run_59 ?_
            -- stop 62 lv=2:n,0:r,1:n st=
            generalize hw3 : aw_up (aw_up w2 0 _) 0 _ = w3
            have f3 : fr 0 1 w2 w3 := by rw [← hw3]; exact ((fr.refl _ _ _).up _ (by omega)).up _ (by omega)
            have h3 : hRd G w3 [] σ1 .null (st1 + 1) := h1.obj (by rw [← hw3, aw_up_eq]) f3
            have m3 := h3.1
            refine aw_aload_nR (pc := 62) X d_Rd_run_62 (by rfl) ?_
            -- invokevirtual 63 lv=2:n,0:r,1:n st=r
            refine aw_callV (pc := 63) X _ (s_Rd_read (d := 6) hnx (by omega) hF (fun u hu => by have := hdp u hu; omega) h3) q_Rd_read k_522 k_524 k_2 (by omega) m3 (by rfl) d_Rd_run_63 (by omega) (Nat.le_of_ble_eq_true rfl) ⟨by omega, by omega⟩ (fun h => by cases h) (fun r w4 nx2 hp => ?_)
            obtain ⟨rfl, rfl, k4, kf4⟩ := hp
            have hle := rdS_le σ1
            have hdp4 := rdS_dp hdp
            have hf4 : fr 0 418 w w4 := hf1.trans ((f3.mono (by omega) (by omega)).trans kf4)
            refine aw_istore_n (pc := 66) X (lv' := [(2, _), (0, _), (1, _)]) d_Rd_run_66 (by decide) (by rfl) ?_
            refine aw_iload_n (pc := 67) X d_Rd_run_67 (by rfl) ?_
            refine aw_if_neN (pc := 68) X (tgt := 25) d_Rd_run_68 (by rfl) (by omega) (fun h68 => ?_) (fun h68 => ?_)
            -- br 68 lv=2:n,0:r,1:n st=
            · have hS : stpS σ1 = ((rdS σ1).1, (rdS σ1).2.1) := by rw [stpS, if_neg h68]
              rw [hS, if_neg h68] at hR
              obtain ⟨rd4, h4⟩ : ∃ rd4, hRd G w4 [] (rdS σ1).2.1 rd4 (st1 + 1) := by
                unfold hRr at k4
                split at k4
                · exact ⟨_, k4⟩
                · obtain ⟨a, -, -, q, -⟩ := k4
                  exact ⟨_, q⟩
              refine aw_iload_n (pc := 25) X d_Rd_run_25 (by rfl) ?_
              refine aw_if_neN (pc := 26) X (tgt := 93) d_Rd_run_26 (by rfl) (by omega) (fun h26 => ?_) (fun h26 => ?_)
              -- br 26 lv=2:n,0:r,1:n st=
              · exact Z _ _ _ _ _ (by omega) h4 hR hf4
              · exact absurd h26 h68
            · cases ho : (rdS σ1).2.2 with
              | none =>
                rw [ho] at k4
                have h4 : hRd G w4 [] (rdS σ1).2.1 .null (st1 + 1) := k4
                have m4 := h4.1
                have hS : stpS σ1 = (0, (rdS σ1).2.1) := by rw [stpS, if_pos h68, ho]
                rw [hS, if_pos rfl] at hR
                refine aw_aload_nR (pc := 71) X d_Rd_run_71 (by rfl) ?_
                refine aw_getO (pc := 72) X _ 6 (by omega) (by (repeat (first | rw [aw_up_eq] | rw [aw_up_ne _ _ (by first | assumption | omega)])) <;> first | assumption | rfl) (by rfl) in_Rd (by decide) k_378 (by rfl) d_Rd_run_72 ?_
                -- stop 75 lv=2:n,0:r,1:n st=v
                refine aw_ifnullN (pc := 75) X (tgt := 25) d_Rd_run_75 (by rfl) ?_
                -- stop 25 lv=2:n,0:r,1:n st=
                rw [h68]
                exact ih _ _ _ _ (by omega) hdp4 h4 hR hf4
              | some x =>
                rw [ho] at k4
                obtain ⟨a, ha1, ha2, h4, hy⟩ := k4
                have m4 := h4.1
                have hx4 := h4.2.2.1
                obtain ⟨s4, x4⟩ := id hx4
                have x4o := x4.2.2.2.2.2
                have hS : stpS σ1 = ((expS x.1 x.2 (rdS σ1).2.1.1.1 (rdS σ1).2.1.1.2.1 (rdS σ1).2.1.1.2.2.1 (rdS σ1).2.1.1.2.2.2).1, (expS x.1 x.2 (rdS σ1).2.1.1.1 (rdS σ1).2.1.1.2.1 (rdS σ1).2.1.1.2.2.1 (rdS σ1).2.1.1.2.2.2).2, (rdS σ1).2.1.2) := by rw [stpS, if_pos h68, ho]
                rw [hS] at hR
                refine aw_aload_nR (pc := 71) X d_Rd_run_71 (by rfl) ?_
                refine aw_getO (pc := 72) X _ 6 (by omega) (by (repeat (first | rw [aw_up_eq] | rw [aw_up_ne _ _ (by first | assumption | omega)])) <;> first | assumption | rfl) (by rfl) in_Rd (by decide) k_378 (by rfl) d_Rd_run_72 ?_
                -- stop 75 lv=2:n,0:r,1:n st=v
                refine aw_ifnull (pc := 75) X d_Rd_run_75 ?_
                refine aw_aload_nR (pc := 78) X d_Rd_run_78 (by rfl) ?_
                refine aw_getO (pc := 79) X _ 5 (by omega) (by (repeat (first | rw [aw_up_eq] | rw [aw_up_ne _ _ (by first | assumption | omega)])) <;> first | assumption | rfl) (by rfl) in_Rd (by decide) k_377 (by rfl) d_Rd_run_79 ?_
                refine aw_aload_nR (pc := 82) X d_Rd_run_82 (by rfl) ?_
                -- stop 83 lv=2:n,0:r,1:n st=r,r
                refine aw_getO (pc := 83) X _ 6 (by omega) m4 (by rfl) in_Rd (by decide) k_378 (by rfl) d_Rd_run_83 ?_
                refine aw_callV (pc := 86) X _ (s_Ex_expand (d := 61) hnx (by omega) ⟨ha1, ha2⟩ hx4 hy) q_Ex_expand k_608 k_609 k_610 (by omega) x4o (by rfl) d_Rd_run_86 (by omega) (Nat.le_of_ble_eq_true rfl) ⟨by omega, by omega⟩ (fun h => by cases h) (fun r w5 nx2 hp => ?_)
                obtain ⟨rfl, rfl, k5, kf5⟩ := hp
                have h5 := h4.exp k5 kf5
                have hf5 : fr 0 418 w w5 := hf4.trans (fun y hy => kf5 y (by omega))
                have hle5 := expS_le x.1 x.2 (rdS σ1).2.1.1.1 (rdS σ1).2.1.1.2.1 (rdS σ1).2.1.1.2.2.1 (rdS σ1).2.1.1.2.2.2
                generalize expS x.1 x.2 (rdS σ1).2.1.1.1 (rdS σ1).2.1.1.2.1 (rdS σ1).2.1.1.2.2.1 (rdS σ1).2.1.1.2.2.2 = ee at *
                refine aw_istore_n (pc := 89) X (lv' := [(2, _), (0, _), (1, _)]) d_Rd_run_89 (by decide) (by rfl) ?_
                refine aw_goto (pc := 90) X (tgt := 25) d_Rd_run_90 (by rfl) ?_
                -- stop 25 lv=2:n,0:r,1:n st=
                by_cases he : ee.1 = 0
                · rw [if_pos he] at hR
                  rw [he]
                  exact ih _ _ (ee.2, (rdS σ1).2.1.2) _ (by omega) hdp4 h5 hR hf5
                · rw [if_neg he] at hR
                  refine aw_iload_n (pc := 25) X d_Rd_run_25 (by rfl) ?_
                  refine aw_if_neN (pc := 26) X (tgt := 93) d_Rd_run_26 (by rfl) (by omega) (fun h26 => ?_) (fun h26 => ?_)
                  -- br 26 lv=2:n,0:r,1:n st=
                  · exact Z _ _ _ _ _ (by omega) h5 hR hf5
                  · exact absurd h26 he
  refine aw_iload_n (pc := 0) X d_Rd_run_0 (by rfl) ?_
  refine aw_if_ltN (pc := 1) X (tgt := 11) d_Rd_run_1 (by rfl) (by omega) ?_
  refine aw_iload_n (pc := 4) X d_Rd_run_4 (by rfl) ?_
  refine aw_sipushN (pc := 5) X 5000 d_Rd_run_5 (by decide) ?_
  refine aw_icmp_leN (pc := 8) X (tgt := 19) d_Rd_run_8 (by rfl) (by omega) (by omega) (fun h8 => ?_) (fun h8 => ?_)
  -- br 8 lv=0:r,1:n st=
  · refine aw_aload_nR (pc := 19) X d_Rd_run_19 (by rfl) ?_
    -- invokevirtual 20 lv=0:r,1:n st=r
    refine aw_callV (pc := 20) X _ (s_Rd_begin (d := 4) hnx (by omega) h) q_Rd_begin k_497 k_499 k_1 (by omega) a1 (by rfl) d_Rd_run_20 (by omega) (Nat.le_of_ble_eq_true rfl) ⟨by omega, by omega⟩ (fun h => by cases h) (fun r w2 nx2 hp => ?_)
    obtain ⟨rfl, rfl, k4, kf⟩ := hp
    refine aw_iconstN (pc := 23) X 0 d_Rd_run_23 (by decide) ?_
    refine aw_istore_n (pc := 24) X (lv' := [(2, _), (0, _), (1, _)]) d_Rd_run_24 (by decide) (by rfl) ?_
    -- stop 25 lv=2:n,0:r,1:n st=
    exact L fu 0 w2 _ rd (by omega) (fun u hu => by cases hu) k4 hRes kf
  · omega
end

