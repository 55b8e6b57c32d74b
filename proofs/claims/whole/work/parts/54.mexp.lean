/-! the reference: expand -/
theorem RF.push {n : Nat} {g : Nat → Nat} {x : Nat} {F : List Nat} (h : RF n g F) (hl : F.length < 600) : RF (n + 1) (aw_un g n x) (x :: F) := by
  obtain ⟨h1, h2, h3⟩ := h
  refine ⟨by rw [h1]; rfl, by simp; omega, fun k hk => ?_⟩
  cases k with
  | zero =>
    rw [show (x :: F).length - 1 - 0 = F.length by simp, ← h1, aw_un_eq]
    rfl
  | succ k =>
    have hk : k < F.length := by simpa using hk
    rw [show (x :: F).length - 1 - (k + 1) = F.length - 1 - k by simp; omega, aw_un_ne _ _ (by omega), ← h3 k hk]
    simp
theorem expA_le (t : Def) (ar : List (List Nat)) (F : List Nat) (p : Option Nat) (R : Nat → List Nat) (T : List Def) : (expA t ar F p R T).1 ≤ 6 := by
  unfold expA
  split
  · exact Nat.zero_le _
  · simp only
    split
    · exact Nat.zero_le _
    · exact actS_le _ _ _ _ _
section
variable {G : aw_G} {nx d : Nat} {w : Nat → va_E} {p : Int32} {m : Nat → Nat} {A : Nat → Nat → Nat} {V : Nat → Int64} {t : Def} {ar : List (List Nat)} {tx : List Nat} {σ : SQ} {st : Nat × Nat}
theorem s_Mo_expand (hnx : 442 ≤ nx) (hd : 6 ≤ d) (e28 : m 28 = 0) (hY : RY A t ar) (hR : RM p m A tx σ st) (hM : hMo G w p m A V) : AC G y_Mo_expand b_Mo_expand 2 none d false [rf G 418] nx w 0 0 (mq G nx w (fun r p' m' A' V' => r = none ∧ RM p' m' A' tx ((expS t ar σ.1.1 σ.1.2.1 σ.1.2.2.1 σ.1.2.2.2).2, σ.2) st ∧ m' 28 = (expS t ar σ.1.1 σ.1.2.1 σ.1.2.2.1 σ.1.2.2.2).1)) := by
  obtain ⟨z1, z2, z3, z4, z5, -⟩ := hY.1
  have h600 : m 3 ≤ 600 := by have := hR.2.1.1; have := hR.2.1.2.1; omega
  generalize hb : expA t ar σ.1.1 σ.1.2.1 σ.1.2.2.1 σ.1.2.2.2 = b
  have hb6 : b.1 ≤ 6 := by rw [← hb]; exact expA_le _ _ _ _ _ _
  have hexp : expS t ar σ.1.1 σ.1.2.1 σ.1.2.2.1 σ.1.2.2.2 = (if b.1 ≠ 0 then (b.1, b.2.1, b.2.2.1, b.2.2.2.1, b.2.2.2.2.1) else if b.2.2.2.2.2.length + b.2.1.length ≤ 600 then (0, b.2.2.2.2.2 ++ b.2.1, b.2.2.1, b.2.2.2.1, b.2.2.2.2.1) else (2, b.2.1, b.2.2.1, b.2.2.2.1, b.2.2.2.2.1)) := by
    unfold expS
    rw [hb]
  refine AC.ofW (by decide) (Nat.le_of_ble_eq_true rfl) ?_
  intro E P hP Y X
  have X : aw_X G "RescanDeskModel" b_Mo_expand 2 none "expand" _ _ _ _ _ E := X
  refine AW.eql (lv' := [(0, _)]) (by rfl) ?_
  have hf : fr 418 442 w w := fr.refl _ _ _
  have J33 : ∀ w1 p1 m1 A1 V1 (Lf : List Nat), hMo G w1 p1 m1 A1 V1 → fr 418 442 w w1 → RM p1 m1 A1 tx ((b.2.1, b.2.2.1, b.2.2.2.1, b.2.2.2.2.1), σ.2) st → (b.1 ≠ 0 → m1 28 = b.1) → (b.1 = 0 → PSt m1 (A1 438) Lf ∧ b.2.2.2.2.2 = Lf.take 601) → AW G E 2 nx 0 0 w1 33 [(0, rf G 418)] [] := by
    intro w1 p1 m1 A1 V1 Lf hM hf hR1 he1 he2
    obtain ⟨g1, g2, g3⟩ := id hR1.2.1
    have g1 : m1 3 = b.2.1.length := g1
    have g2 : b.2.1.length ≤ 600 := g2
    have h28 : m1 28 ≤ 6 := by
      by_cases h : b.1 = 0
      · exact (he2 h).1.e
      · rw [he1 h]; exact hb6
    refine aw_aload_nR (pc := 33) X d_Mo_expand_33 (by rfl) ?_
    refine gm_28 (pc := 34) X hM (by omega) d_Mo_expand_34 ?_
    refine aw_if_leN (pc := 37) X (tgt := 41) d_Mo_expand_37 (by rfl) (by omega) (fun h37 => ?_) (fun h37 => ?_)
    -- br 37 lv=0:r st=
    · have hb0 : b.1 = 0 := by
        by_cases h : b.1 = 0
        · exact h
        · have := he1 h; omega
      obtain ⟨hps, htk⟩ := he2 hb0
      rcases hps with ⟨s1, s2, s3, s4⟩ | ⟨s1, -⟩
      · rw [List.take_of_length_le (by omega)] at htk
        rw [if_neg (by omega), htk, if_pos (by omega)] at hexp
        have K : ∀ (k : Nat), k ≤ Lf.length → ∀ w2 m2 A2, hMo G w2 p1 m2 A2 V1 → fr 418 442 w w2 → (∀ j, j ≠ 3 → m2 j = m1 j) → (∀ a, a ≠ 420 → A2 a = A1 a) → RF (m2 3) (A2 420) (Lf.drop k ++ b.2.1) → AW G E 2 nx 0 0 w2 48 [(1, .int (dV k)), (0, rf G 418)] [] := by
          intro k
          induction k with
          | zero =>
            intro hk w2 m2 A2 hM hf hm2 hA2 hF
            refine aw_iload_n (pc := 48) X d_Mo_expand_48 (by rfl) ?_
            refine aw_if_lt (pc := 49) X (tgt := 83) d_Mo_expand_49 (by rfl) (fun h49 => ?_) (fun h49 => ?_)
            -- br 49 lv=1:i,0:r st=
            · refine aw_vret Y X rfl d_Mo_expand_83 (by omega) (by omega) (hP _ _ _ ?_)
              -- ret 83 lv=1:i,0:r st=
              rw [hexp]
              exact ⟨rfl, hf, _, _, _, _, hM, rfl, hR1.fr (fun j h1 _ _ => hm2 j h1) (fun a h1 _ => hA2 a h1) hF, (hm2 28 (by decide)).trans s1⟩
            · exact absurd (show dV 0 < 0 by decide) h49
          | succ k ih =>
            intro hk w2 m2 A2 hM hf hm2 hA2 hF
            have f1 := hF.1
            have f2 := hF.2.1
            rw [List.length_append, List.length_drop] at f1 f2
            have hval : A2 438 k = Lf.getD k 0 := by
              rw [hA2 438 (by decide)]
              exact (sl_D s3 (by omega)).symm
            rw [show dV (k + 1) = nI k from rfl]
            refine aw_iload_n (pc := 48) X d_Mo_expand_48 (by rfl) ?_
            refine aw_if_ltN (pc := 49) X (tgt := 83) d_Mo_expand_49 (by rfl) (by omega) ?_
            refine aw_aload_nR (pc := 52) X d_Mo_expand_52 (by rfl) ?_
            refine gm_4 (pc := 53) X hM (by omega) d_Mo_expand_53 ?_
            refine aw_aload_nR (pc := 56) X d_Mo_expand_56 (by rfl) ?_
            refine gm_3 (pc := 57) X hM (by omega) d_Mo_expand_57 ?_
            refine aw_aload_nR (pc := 60) X d_Mo_expand_60 (by rfl) ?_
            refine gm_27 (pc := 61) X hM (by omega) d_Mo_expand_61 ?_
            refine aw_iload_n (pc := 64) X d_Mo_expand_64 (by rfl) ?_
            refine aw_caldN (pc := 65) X 438 0 (by omega) hM.a438 (by rfl) (by omega) (by decide) d_Mo_expand_65 ?_
            refine sm_420 (pc := 66) X hM hf (by omega) (by omega) (by first | omega | exact hM.b435 _ | exact hM.b420 _ | exact hM.b421 _ | exact hM.b424 _ | exact hM.b426 _ | exact hM.b429 _ | exact hM.b436 _ | exact hM.b438 _ | exact hM.b419 _ | exact hM.b441 _) d_Mo_expand_66 (fun w hM hf => ?_)
            refine aw_aload_nR (pc := 67) X d_Mo_expand_67 (by rfl) ?_
            refine aw_dup (pc := 68) X d_Mo_expand_68 (by rfl) ?_
            refine gm_3 (pc := 69) X hM (by omega) d_Mo_expand_69 ?_
            try simp only [mu, au, reduceIte, Nat.reduceEqDiff]
            refine aw_iconstN (pc := 72) X 1 d_Mo_expand_72 (by decide) ?_
            refine aw_iaddN (pc := 73) X d_Mo_expand_73 ?_
            refine pm_3 (pc := 74) X hM hf (by omega) d_Mo_expand_74 (fun w hM hf => ?_)
            -- stop 77 lv=1:n,0:r st=
            refine aw_iinc (pc := 77) X (v := dV k) (lv' := [(1, _), (0, _)]) d_Mo_expand_77 (by rfl) (dV_dec k) (by decide) (by rfl) ?_
            refine aw_goto (pc := 80) X (tgt := 48) d_Mo_expand_80 (by rfl) ?_
            -- stop 48 lv=1:i,0:r st=
            refine ih (by omega) _ _ _ hM hf (fun j hj => (if_neg hj).trans (hm2 j hj)) (fun a ha => (if_neg ha).trans (hA2 a ha)) ?_
            have e : Lf.drop k ++ b.2.1 = A2 438 k :: (Lf.drop (k + 1) ++ b.2.1) := by
              rw [List.drop_eq_getElem_cons (show k < Lf.length by omega), hval, List.getD_eq_getElem?_getD, List.getElem?_eq_getElem (show k < Lf.length by omega)]
              rfl
            rw [e]
            exact hF.push (by rw [List.length_append, List.length_drop]; omega)
        refine aw_aload_nR (pc := 41) X d_Mo_expand_41 (by rfl) ?_
        refine gm_26 (pc := 42) X hM (by omega) d_Mo_expand_42 ?_
        try simp only [mu, au, reduceIte, Nat.reduceEqDiff]
        refine aw_iconstN (pc := 45) X 1 d_Mo_expand_45 (by decide) ?_
        -- stop 46 lv=0:r st=n,n
        refine aw_isub (pc := 46) X d_Mo_expand_46 ?_
        rw [dV_sub]
        refine aw_istore_n (pc := 47) X (lv' := [(1, _), (0, _)]) d_Mo_expand_47 (by decide) (by rfl) ?_
        -- stop 48 lv=1:i,0:r st=
        rw [s2]
        exact K _ (Nat.le_refl _) _ _ _ hM hf (fun _ _ => rfl) (fun _ _ => rfl) (by rw [List.drop_length]; exact ⟨g1, g2, g3⟩)
      · omega
    · refine aw_vret Y X rfl d_Mo_expand_40 (by omega) (by omega) (hP _ _ _ ?_)
      -- ret 40 lv=0:r st=
      by_cases h : b.1 = 0
      · obtain ⟨hps, htk⟩ := he2 h
        rcases hps with ⟨s1, -⟩ | ⟨s1, s2, s3, s4⟩
        · omega
        · rw [if_neg (by omega), if_neg (by rw [htk, List.length_take]; omega)] at hexp
          rw [hexp]
          exact ⟨rfl, hf, _, _, _, _, hM, rfl, hR1, s1⟩
      · rw [if_pos h] at hexp
        rw [hexp]
        exact ⟨rfl, hf, _, _, _, _, hM, rfl, hR1, he1 h⟩
  have hR1 : RM p (mu m 26 0) A tx σ st := hR.kp (fun k h1 _ _ => if_neg h1) (fun _ _ => rfl)
  have hS0 : PSt (mu m 26 0) (A 438) [] := Or.inl ⟨e28, rfl, rfl, by show m 3 + 0 ≤ 600; omega⟩
  have z17 : A 428 12 ≤ 16 := by omega
  refine aw_aload_nR (pc := 0) X d_Mo_expand_0 (by rfl) ?_
  refine aw_iconstN (pc := 1) X 0 d_Mo_expand_1 (by decide) ?_
  refine pm_26 (pc := 2) X hM hf (by omega) d_Mo_expand_2 (fun w hM hf => ?_)
  refine aw_aload_nR (pc := 5) X d_Mo_expand_5 (by rfl) ?_
  refine gm_14 (pc := 6) X hM (by omega) d_Mo_expand_6 ?_
  refine aw_bipushN (pc := 9) X 12 d_Mo_expand_9 (by decide) ?_
  refine aw_ialdN (pc := 11) X 428 1 (by omega) hM.a428 (by rfl) (by omega) (by decide) d_Mo_expand_11 ?_
  try simp only [mu, au, reduceIte, Nat.reduceEqDiff]
  refine aw_if_neN (pc := 12) X (tgt := 22) d_Mo_expand_12 (by rfl) (by omega) (fun h12 => ?_) (fun h12 => ?_)
  -- br 12 lv=0:r st=
  · -- a builtin
    refine aw_aload_nR (pc := 22) X d_Mo_expand_22 (by rfl) ?_
    refine aw_aload_nR (pc := 23) X d_Mo_expand_23 (by rfl) ?_
    refine gm_14 (pc := 24) X hM (by omega) d_Mo_expand_24 ?_
    refine aw_bipushN (pc := 27) X 12 d_Mo_expand_27 (by decide) ?_
    refine aw_ialdN (pc := 29) X 428 1 (by omega) hM.a428 (by rfl) (by omega) (by decide) d_Mo_expand_29 ?_
    try simp only [mu, au, reduceIte, Nat.reduceEqDiff]
    -- invokevirtual 30 lv=0:r st=n,r
    obtain ⟨k, hk⟩ : ∃ k, t.2.1 = k + 1 := ⟨t.2.1 - 1, by omega⟩
    rw [show A 428 12 = k + 1 by omega]
    generalize hXs : actS k ar (evS ((argOf ar 1).filter nbl)).1 (evS ((argOf ar 1).filter nbl)).2 (σ.1.1, σ.1.2.1, σ.1.2.2.1, σ.1.2.2.2, []) = Xs
    have hbe : b = if Xs.1 = 0 then (0, Xs.2.1, Xs.2.2.1, Xs.2.2.2.1, Xs.2.2.2.2.1, (Xs.2.2.2.2.2 ++ txtS k ar Xs.2.2.1 Xs.2.2.2.2.1).take 601) else Xs := by
      rw [← hb]
      unfold expA
      rw [hk]
      simp only
      rw [hXs]
    refine aw_callV (pc := 30) X _ (s_Mo_carryOut (m := mu m 26 0) (d := 5) (k := k) (Xs := Xs) hnx (by omega) (by omega) hXs.symm e28 rfl hY hR1 hM) q_Mo_carryOut k_1079 k_1081 k_44 (by omega) hM.1 (by rfl) d_Mo_expand_30 (by omega) (Nat.le_of_ble_eq_true rfl) ⟨by omega, by omega⟩ (fun h => by cases h) (fun r w nx hp => ?_)
    clear hM
    obtain ⟨rfl, hf1, p, m, A, V, hM, hq⟩ := hp
    replace hf := hf.trans hf1
    obtain ⟨rfl, hA2, hR2, he1, he2⟩ := hq
    by_cases h : Xs.1 = 0
    · rw [if_pos h] at hbe
      subst hbe
      exact J33 _ _ _ _ _ _ hM hf hR2 (fun z => absurd rfl z) (fun _ => ⟨he2 h, rfl⟩)
    · rw [if_neg h] at hbe
      subst hbe
      exact J33 _ _ _ _ _ [] hM hf hR2 he1 (fun z => absurd z h)
  · have hk : t.2.1 = 0 := by omega
    have hbe : b = (0, σ.1.1, σ.1.2.1, σ.1.2.2.1, σ.1.2.2.2, (bodyL t ar t.2.2).take 601) := by
      rw [← hb]
      unfold expA
      rw [hk]
    refine aw_aload_nR (pc := 15) X d_Mo_expand_15 (by rfl) ?_
    -- invokevirtual 16 lv=0:r st=r
    refine aw_callV (pc := 16) X _ (s_Mo_putBody (m := mu m 26 0) (d := 4) hnx (by omega) (show m 3 ≤ 600 from h600) hS0 hY hM) q_Mo_putBody k_1049 k_1051 k_37 (by omega) hM.1 (by rfl) d_Mo_expand_16 (by omega) (Nat.le_of_ble_eq_true rfl) ⟨by omega, by omega⟩ (fun h => by cases h) (fun r w nx hp => ?_)
    clear hM
    obtain ⟨rfl, hf1, p, m, A, V, hM, hq⟩ := hp
    replace hf := hf.trans hf1
    obtain ⟨rfl, hpp, hvv, hq2, hS2⟩ := hq
    rw [hpp, hvv] at hM
    refine aw_goto (pc := 19) X (tgt := 33) d_Mo_expand_19 (by rfl) ?_
    -- stop 33 lv=0:r st=
    subst hbe
    exact J33 _ _ _ _ _ _ hM hf (hR1.kp (fun k h1 h2 _ => hq2.1 k h1 h2) (fun a ha => hq2.2 a (by omega))) (fun z => absurd rfl z) (fun _ => ⟨hS2, rfl⟩)
theorem s_Mo_begin {at_ dd : Nat} {t : Def} (hnx : 442 ≤ nx) (ha : at_ < 13) (hdd : dd < 60) (hD : dR (A 422 dd) (A 421) (12 * dd) (A 423 dd) (A 425 dd) (A 424) (100 * dd) t) (hM : hMo G w p m A V) : AC G y_Mo_begin b_Mo_begin 4 none d false [rf G 418, .int (nI at_), .int (nI dd)] nx w 0 0 (mq G nx w (fun r p' m' A' V' => r = none ∧ p' = p ∧ V' = V ∧ m' = m ∧ (∀ a, a < 426 ∨ 430 < a → A' a = A a) ∧ dR (A' 427 at_) (A' 426) (12 * at_) (A' 428 at_) (A' 430 at_) (A' 429) (100 * at_) t ∧ (∀ x, x < 12 * at_ ∨ 12 * at_ + 12 ≤ x → A' 426 x = A 426 x) ∧ (∀ x, x < 100 * at_ ∨ 100 * at_ + 100 ≤ x → A' 429 x = A 429 x) ∧ ∀ x, x ≠ at_ → A' 427 x = A 427 x ∧ A' 428 x = A 428 x ∧ A' 430 x = A 430 x)) := by
  obtain ⟨d1, d2, d3, d4, d5, d6, d7, d8, d9⟩ := id hD
  refine AC.ofW (by decide) (Nat.le_of_ble_eq_true rfl) ?_
  intro E P hP Y X
  have X : aw_X G "RescanDeskModel" b_Mo_begin 4 none "begin" _ _ _ _ _ E := X
  refine AW.eql (lv' := [(0, _), (1, _), (2, _)]) (by rfl) ?_
  have hf : fr 418 442 w w := fr.refl _ _ _
  have K2 : ∀ (j i : Nat), i + j = A 425 dd → ∀ w1 A1, hMo G w1 p m A1 V → fr 418 442 w w1 → (∀ a, a < 426 ∨ 429 < a → A1 a = A a) → A1 426 = aw_cpn (A 421) (A 426) (12 * dd) (12 * at_) 12 → A1 427 = aw_un (A 427) at_ (A 422 dd) → A1 428 = aw_un (A 428) at_ (A 423 dd) → A1 429 = aw_cpn (A 424) (A 429) (100 * dd) (100 * at_) i → AW G E 4 nx 0 0 w1 62 [(3, .int (nI i)), (0, rf G 418), (1, .int (nI at_)), (2, .int (nI dd))] [] := by
    intro j
    induction j with
    | zero =>
      intro i hi w1 A1 hM hf h1 h2 h3 h4 h5
      have e25 : A1 425 = A 425 := h1 425 (by omega)
      have q25 : A1 425 dd = A 425 dd := by rw [e25]
      refine aw_iload_n (pc := 62) X d_Mo_begin_62 (by rfl) ?_
      refine aw_aload_nR (pc := 63) X d_Mo_begin_63 (by rfl) ?_
      refine gm_10 (pc := 64) X hM (by omega) d_Mo_begin_64 ?_
      refine aw_iload_n (pc := 67) X d_Mo_begin_67 (by rfl) ?_
      refine aw_ialdN (pc := 68) X 425 1 (by omega) hM.a425 (by rfl) (by omega) (by decide) d_Mo_begin_68 ?_
      refine aw_icmp_geN (pc := 69) X (tgt := 100) d_Mo_begin_69 (by rfl) (by omega) (by omega) (fun h69 => ?_) (fun h69 => ?_)
      -- br 69 lv=3:n,0:r,1:n,2:n st=
      · refine aw_aload_nR (pc := 100) X d_Mo_begin_100 (by rfl) ?_
        refine gm_16 (pc := 101) X hM (by omega) d_Mo_begin_101 ?_
        refine aw_iload_n (pc := 104) X d_Mo_begin_104 (by rfl) ?_
        refine aw_aload_nR (pc := 105) X d_Mo_begin_105 (by rfl) ?_
        refine gm_10 (pc := 106) X hM (by omega) d_Mo_begin_106 ?_
        refine aw_iload_n (pc := 109) X d_Mo_begin_109 (by rfl) ?_
        refine aw_ialdN (pc := 110) X 425 1 (by omega) hM.a425 (by rfl) (by omega) (by decide) d_Mo_begin_110 ?_
        refine sm_430 (pc := 111) X hM hf (by omega) (by omega) d_Mo_begin_111 (fun w hM hf => ?_)
        refine aw_vret Y X rfl d_Mo_begin_112 (by omega) (by omega) (hP _ _ _ ?_)
        -- ret 112 lv=3:n,0:r,1:n,2:n st=
        refine ⟨rfl, hf, _, _, _, _, hM, rfl, rfl, rfl, rfl, fun a ha => ?_, ?_, fun x hx => ?_, fun x hx => ?_, fun x hx => ?_⟩
        · exact (if_neg (by omega)).trans (h1 a (by omega))
        · refine hD.from ?_ ?_ ?_ (fun j hj => ?_) (fun j hj => ?_)
          · show A1 427 at_ = _
            rw [h3, aw_un_eq]
          · show A1 428 at_ = _
            rw [h4, aw_un_eq]
          · show aw_un (A1 430) at_ (A1 425 dd) at_ = _
            rw [aw_un_eq, e25]
          · show A1 426 _ = _
            rw [h2, cpn_in _ _ _ _ _ (by omega)]
          · show A1 429 _ = _
            rw [h5, cpn_in _ _ _ _ _ (by omega)]
        · show A1 426 x = _
          rw [h2, cpn_out _ _ _ _ _ (by omega)]
        · show A1 429 x = _
          rw [h5, cpn_out _ _ _ _ _ (by omega)]
        · refine ⟨?_, ?_, ?_⟩
          · show A1 427 x = _
            rw [h3, aw_un_ne _ _ hx]
          · show A1 428 x = _
            rw [h4, aw_un_ne _ _ hx]
          · show aw_un (A1 430) at_ (A1 425 dd) x = _
            rw [aw_un_ne _ _ hx, h1 430 (by omega)]
      · omega
    | succ j ih =>
      intro i hi w1 A1 hM hf h1 h2 h3 h4 h5
      have e25 : A1 425 = A 425 := h1 425 (by omega)
      have q25 : A1 425 dd = A 425 dd := by rw [e25]
      refine aw_iload_n (pc := 62) X d_Mo_begin_62 (by rfl) ?_
      refine aw_aload_nR (pc := 63) X d_Mo_begin_63 (by rfl) ?_
      refine gm_10 (pc := 64) X hM (by omega) d_Mo_begin_64 ?_
      refine aw_iload_n (pc := 67) X d_Mo_begin_67 (by rfl) ?_
      refine aw_ialdN (pc := 68) X 425 1 (by omega) hM.a425 (by rfl) (by omega) (by decide) d_Mo_begin_68 ?_
      refine aw_icmp_geN (pc := 69) X (tgt := 100) d_Mo_begin_69 (by rfl) (by omega) (by omega) (fun h69 => ?_) (fun h69 => ?_)
      -- br 69 lv=3:n,0:r,1:n,2:n st=
      · omega
      · refine aw_aload_nR (pc := 72) X d_Mo_begin_72 (by rfl) ?_
        refine gm_15 (pc := 73) X hM (by omega) d_Mo_begin_73 ?_
        refine aw_bipushN (pc := 76) X 100 d_Mo_begin_76 (by decide) ?_
        refine aw_iload_n (pc := 78) X d_Mo_begin_78 (by rfl) ?_
        refine aw_imulN (pc := 79) X d_Mo_begin_79 ?_
        refine aw_iload_n (pc := 80) X d_Mo_begin_80 (by rfl) ?_
        refine aw_iaddN (pc := 81) X d_Mo_begin_81 ?_
        refine aw_aload_nR (pc := 82) X d_Mo_begin_82 (by rfl) ?_
        refine gm_9 (pc := 83) X hM (by omega) d_Mo_begin_83 ?_
        refine aw_bipushN (pc := 86) X 100 d_Mo_begin_86 (by decide) ?_
        refine aw_iload_n (pc := 88) X d_Mo_begin_88 (by rfl) ?_
        refine aw_imulN (pc := 89) X d_Mo_begin_89 ?_
        refine aw_iload_n (pc := 90) X d_Mo_begin_90 (by rfl) ?_
        refine aw_iaddN (pc := 91) X d_Mo_begin_91 ?_
        refine aw_caldN (pc := 92) X 424 0 (by omega) hM.a424 (by rfl) (by omega) (by decide) d_Mo_begin_92 ?_
        refine sm_429 (pc := 93) X hM hf (by omega) (by omega) (by first | omega | exact hM.b435 _ | exact hM.b420 _ | exact hM.b421 _ | exact hM.b424 _ | exact hM.b426 _ | exact hM.b429 _ | exact hM.b436 _ | exact hM.b438 _ | exact hM.b419 _ | exact hM.b441 _) d_Mo_begin_93 (fun w hM hf => ?_)
        refine aw_iincN (pc := 94) X 1 (lv' := [(3, _), (0, _), (1, _), (2, _)]) d_Mo_begin_94 (by rfl) (by decide) (by decide) (by rfl) ?_
        refine aw_goto (pc := 97) X (tgt := 62) d_Mo_begin_97 (by rfl) ?_
        -- stop 62 lv=3:n,0:r,1:n,2:n st=
        refine ih (i + 1) (by omega) _ _ hM hf (fun a ha => (if_neg (by omega)).trans (h1 a ha)) h2 h3 h4 ?_
        show aw_un (A1 429) (100 * at_ + i) (A1 424 (100 * dd + i)) = _
        rw [h5, h1 424 (by omega), cpn_succ]
  have K1 : ∀ (j i : Nat), i + j = 12 → ∀ w1 A1, hMo G w1 p m A1 V → fr 418 442 w w1 → (∀ a, a ≠ 426 → A1 a = A a) → A1 426 = aw_cpn (A 421) (A 426) (12 * dd) (12 * at_) i → AW G E 4 nx 0 0 w1 2 [(3, .int (nI i)), (0, rf G 418), (1, .int (nI at_)), (2, .int (nI dd))] [] := by
    intro j
    induction j with
    | zero =>
      intro i hi w1 A1 hM hf h1 h2
      have hi0 : i = 12 := by omega
      subst hi0
      refine aw_iload_n (pc := 2) X d_Mo_begin_2 (by rfl) ?_
      refine aw_bipushN (pc := 3) X 12 d_Mo_begin_3 (by decide) ?_
      refine aw_icmp_geN (pc := 5) X (tgt := 36) d_Mo_begin_5 (by rfl) (by omega) (by omega) (fun h5 => ?_) (fun h5 => ?_)
      -- br 5 lv=3:n,0:r,1:n,2:n st=
      · refine aw_aload_nR (pc := 36) X d_Mo_begin_36 (by rfl) ?_
        refine gm_13 (pc := 37) X hM (by omega) d_Mo_begin_37 ?_
        refine aw_iload_n (pc := 40) X d_Mo_begin_40 (by rfl) ?_
        refine aw_aload_nR (pc := 41) X d_Mo_begin_41 (by rfl) ?_
        refine gm_7 (pc := 42) X hM (by omega) d_Mo_begin_42 ?_
        refine aw_iload_n (pc := 45) X d_Mo_begin_45 (by rfl) ?_
        refine aw_ialdN (pc := 46) X 422 1 (by omega) hM.a422 (by rfl) (by omega) (by decide) d_Mo_begin_46 ?_
        refine sm_427 (pc := 47) X hM hf (by omega) (by omega) d_Mo_begin_47 (fun w hM hf => ?_)
        refine aw_aload_nR (pc := 48) X d_Mo_begin_48 (by rfl) ?_
        refine gm_14 (pc := 49) X hM (by omega) d_Mo_begin_49 ?_
        refine aw_iload_n (pc := 52) X d_Mo_begin_52 (by rfl) ?_
        refine aw_aload_nR (pc := 53) X d_Mo_begin_53 (by rfl) ?_
        refine gm_8 (pc := 54) X hM (by omega) d_Mo_begin_54 ?_
        refine aw_iload_n (pc := 57) X d_Mo_begin_57 (by rfl) ?_
        refine aw_ialdN (pc := 58) X 423 1 (by omega) hM.a423 (by rfl) (by omega) (by decide) d_Mo_begin_58 ?_
        try simp only [mu, au, reduceIte, Nat.reduceEqDiff]
        refine sm_428 (pc := 59) X hM hf (by omega) (by omega) d_Mo_begin_59 (fun w hM hf => ?_)
        refine aw_iconstN (pc := 60) X 0 d_Mo_begin_60 (by decide) ?_
        refine aw_istore_n (pc := 61) X (lv' := [(3, _), (0, _), (1, _), (2, _)]) d_Mo_begin_61 (by decide) (by rfl) ?_
        -- stop 62 lv=3:n,0:r,1:n,2:n st=
        refine K2 _ 0 (Nat.zero_add _) _ _ hM hf (fun a ha => (if_neg (by omega)).trans ((if_neg (by omega)).trans (h1 a (by omega)))) h2 ?_ ?_ ?_
        · show aw_un (A1 427) at_ (A1 422 dd) = _
          rw [h1 427 (by decide), h1 422 (by decide)]
        · show aw_un (A1 428) at_ (A1 423 dd) = _
          rw [h1 428 (by decide), h1 423 (by decide)]
        · rw [cpn_0]
          exact h1 429 (by decide)
      · omega
    | succ j ih =>
      intro i hi w1 A1 hM hf h1 h2
      refine aw_iload_n (pc := 2) X d_Mo_begin_2 (by rfl) ?_
      refine aw_bipushN (pc := 3) X 12 d_Mo_begin_3 (by decide) ?_
      refine aw_icmp_geN (pc := 5) X (tgt := 36) d_Mo_begin_5 (by rfl) (by omega) (by omega) (fun h5 => ?_) (fun h5 => ?_)
      -- br 5 lv=3:n,0:r,1:n,2:n st=
      · omega
      · refine aw_aload_nR (pc := 8) X d_Mo_begin_8 (by rfl) ?_
        refine gm_12 (pc := 9) X hM (by omega) d_Mo_begin_9 ?_
        refine aw_bipushN (pc := 12) X 12 d_Mo_begin_12 (by decide) ?_
        refine aw_iload_n (pc := 14) X d_Mo_begin_14 (by rfl) ?_
        refine aw_imulN (pc := 15) X d_Mo_begin_15 ?_
        refine aw_iload_n (pc := 16) X d_Mo_begin_16 (by rfl) ?_
        refine aw_iaddN (pc := 17) X d_Mo_begin_17 ?_
        refine aw_aload_nR (pc := 18) X d_Mo_begin_18 (by rfl) ?_
        refine gm_6 (pc := 19) X hM (by omega) d_Mo_begin_19 ?_
        refine aw_bipushN (pc := 22) X 12 d_Mo_begin_22 (by decide) ?_
        refine aw_iload_n (pc := 24) X d_Mo_begin_24 (by rfl) ?_
        refine aw_imulN (pc := 25) X d_Mo_begin_25 ?_
        refine aw_iload_n (pc := 26) X d_Mo_begin_26 (by rfl) ?_
        refine aw_iaddN (pc := 27) X d_Mo_begin_27 ?_
        refine aw_caldN (pc := 28) X 421 0 (by omega) hM.a421 (by rfl) (by omega) (by decide) d_Mo_begin_28 ?_
        refine sm_426 (pc := 29) X hM hf (by omega) (by omega) (by first | omega | exact hM.b435 _ | exact hM.b420 _ | exact hM.b421 _ | exact hM.b424 _ | exact hM.b426 _ | exact hM.b429 _ | exact hM.b436 _ | exact hM.b438 _ | exact hM.b419 _ | exact hM.b441 _) d_Mo_begin_29 (fun w hM hf => ?_)
        refine aw_iincN (pc := 30) X 1 (lv' := [(3, _), (0, _), (1, _), (2, _)]) d_Mo_begin_30 (by rfl) (by decide) (by decide) (by rfl) ?_
        refine aw_goto (pc := 33) X (tgt := 2) d_Mo_begin_33 (by rfl) ?_
        -- stop 2 lv=3:n,0:r,1:n,2:n st=
        refine ih (i + 1) (by omega) _ _ hM hf (fun a ha => (if_neg ha).trans (h1 a ha)) ?_
        show aw_un (A1 426) (12 * at_ + i) (A1 421 (12 * dd + i)) = _
        rw [h2, h1 421 (by decide), cpn_succ]
  refine aw_iconstN (pc := 0) X 0 d_Mo_begin_0 (by decide) ?_
  refine aw_istore_n (pc := 1) X (lv' := [(3, _), (0, _), (1, _), (2, _)]) d_Mo_begin_1 (by decide) (by rfl) ?_
  -- stop 2 lv=3:n,0:r,1:n,2:n st=
  exact K1 12 0 (by omega) _ _ hM hf (fun _ _ => rfl) (cpn_0 _ _ _ _).symm
end

