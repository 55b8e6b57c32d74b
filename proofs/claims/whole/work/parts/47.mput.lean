/-! the reference: what it puts together before it puts it in front -/
/-- what is made so far is L; or there was no room for L -/
def PSt (m : Nat → Nat) (g : Nat → Nat) (L : List Nat) : Prop := (m 28 = 0 ∧ m 26 = L.length ∧ L = sl g 0 L.length ∧ m 3 + L.length ≤ 600) ∨ (m 28 = 2 ∧ 600 ≤ m 3 + m 26 ∧ m 26 ≤ 600 ∧ 600 < m 3 + L.length)
/-- nothing but what is made and the error has changed -/
def mSm (m m' : Nat → Nat) (A A' : Nat → Nat → Nat) : Prop := (∀ k, k ≠ 26 → k ≠ 28 → m' k = m k) ∧ ∀ a, a ≠ 438 → A' a = A a
theorem mSm.refl (m : Nat → Nat) (A : Nat → Nat → Nat) : mSm m m A A := ⟨fun _ _ _ => rfl, fun _ _ => rfl⟩
theorem mSm.trans {m m1 m2 : Nat → Nat} {A A1 A2 : Nat → Nat → Nat} (h1 : mSm m m1 A A1) (h2 : mSm m1 m2 A1 A2) : mSm m m2 A A2 := ⟨fun k a b => (h2.1 k a b).trans (h1.1 k a b), fun a h => (h2.2 a h).trans (h1.2 a h)⟩
theorem PSt.done {m g : Nat → Nat} {L : List Nat} (h : PSt m g L) (he : m 28 ≠ 0) (s : List Nat) : PSt m g (L ++ s) := by
  rcases h with h | h
  · exact absurd h.1 he
  · exact Or.inr ⟨h.1, h.2.1, h.2.2.1, by rw [List.length_append]; omega⟩
theorem PSt.e {m g : Nat → Nat} {L : List Nat} (h : PSt m g L) : m 28 ≤ 6 := by
  rcases h with h | h <;> omega
theorem RY.sm {m m' : Nat → Nat} {A A' : Nat → Nat → Nat} {t : Def} {ar : List (List Nat)} (h : RY A t ar) (hq : mSm m m' A A') : RY A' t ar := by
  unfold RY at *
  rw [hq.2 426 (by decide), hq.2 427 (by decide), hq.2 428 (by decide), hq.2 429 (by decide), hq.2 430 (by decide), hq.2 431 (by decide), hq.2 432 (by decide), hq.2 435 (by decide)]
  exact h
theorem sl_take1 {s : List Nat} {g : Nat → Nat} {u n k : Nat} (h : s = sl g u n) (hk : k < n) : s.take (k + 1) = s.take k ++ [g (u + k)] := by
  rw [h, sl_take _ _ _ _ (by omega), sl_take _ _ _ _ (by omega), sl_app, sl_cons, sl_0]
/-- a number by its sign -/
def sv (b : Bool) (n : Nat) : Int64 := if b = true then -lN n else lN n
def svOk (b : Bool) (n : Nat) : Prop := n ≤ 2 ^ 63 ∧ (b = false → n < 2 ^ 63)
theorem svOk.le {b : Bool} {n k : Nat} (h : svOk b n) (hk : k ≤ n) : svOk b k := ⟨by have := h.1; omega, fun e => by have := h.2 e; omega⟩
theorem sv_div {b : Bool} {n : Nat} (h : svOk b n) : sv b n / 10 = sv b (n / 10) := by
  have e10 : (10 : Int64) = lN 10 := by decide
  unfold sv
  cases b with
  | true => rw [if_pos rfl, if_pos rfl, e10, mdiv h.1 (by omega) (by omega)]
  | false => rw [if_neg (by simp), if_neg (by simp), e10, pk_lDiv (h.2 rfl) (by omega) (by omega)]
theorem sv_0 {b : Bool} {n : Nat} (h : svOk b n) : sv b n = 0 ↔ n = 0 := by
  have e0 : (0 : Int64).toInt = 0 := by decide
  unfold sv
  cases b with
  | true =>
    rw [if_pos rfl, ← Int64.toInt_inj, mT h.1, e0]
    omega
  | false =>
    rw [if_neg (by simp), ← Int64.toInt_inj, pk_lT (h.2 rfl), e0]
    omega
theorem sv_rem {b : Bool} {n : Nat} (h : svOk b n) : sv b n - sv b n / 10 * 10 = sv b (n % 10) := by
  have e10 : (10 : Int64) = lN 10 := by decide
  have h2 : lN n = lN (n / 10 * 10) + lN (n % 10) := by rw [lN_add]; congr 1; omega
  rw [sv_div h]
  unfold sv
  cases b with
  | true =>
    rw [if_pos rfl, if_pos rfl, if_pos rfl, e10, Int64.neg_mul, lN_mul, h2, Int64.sub_eq_add_neg, Int64.neg_neg, Int64.neg_add]
    rw [Int64.sub_eq_add_neg, Int64.add_comm (-lN (n / 10 * 10)), Int64.add_assoc, Int64.add_left_neg, Int64.add_zero]
  | false =>
    rw [if_neg (by simp), if_neg (by simp), if_neg (by simp), e10, lN_mul, h2, Int64.sub_eq_add_neg, Int64.add_comm (lN (n / 10 * 10)), Int64.add_assoc, Int64.add_right_neg, Int64.add_zero]
theorem sv_of (v : Int64) : ∃ b, v = sv b v.toInt.natAbs ∧ svOk b v.toInt.natAbs := by
  have h1 := Int64.le_toInt v
  have h2 := Int64.toInt_lt v
  by_cases hv : v.toInt < 0
  · refine ⟨true, ?_, by omega, fun e => by cases e⟩
    unfold sv
    rw [if_pos rfl]
    apply Int64.toInt_inj.mp
    rw [mT (by omega)]
    omega
  · refine ⟨false, ?_, by omega, fun _ => by omega⟩
    unfold sv
    rw [if_neg (by simp)]
    apply Int64.toInt_inj.mp
    rw [pk_lT (by omega)]
    omega
theorem sv_dig {b : Bool} {q : Nat} (hq : q < 10) : ((48 : Int64) + (if sv b q < 0 then -sv b q else sv b q)).toInt32 = nI (48 + q) := by
  have e48 : (48 : Int64) = lN 48 := by decide
  have hs : (if sv b q < 0 then -sv b q else sv b q) = lN q := by
    unfold sv
    cases b with
    | true =>
      simp only [if_true]
      split
      · rw [Int64.neg_neg]
      · rename_i h
        have e0 : (0 : Int64).toInt = 0 := by decide
        have : q = 0 := by
          rw [Int64.lt_iff_toInt_lt, mT (by omega), e0] at h
          omega
        subst this
        decide
    | false =>
      simp only [Bool.false_eq_true, if_false]
      split
      · rename_i h
        have e0 : (0 : Int64).toInt = 0 := by decide
        rw [Int64.lt_iff_toInt_lt, pk_lT (by omega), e0] at h
        omega
      · rfl
  rw [hs, e48, lN_add, lN_i]
section
variable {G : aw_G} {nx d : Nat} {w : Nat → va_E} {p : Int32} {m : Nat → Nat} {A : Nat → Nat → Nat} {V : Nat → Int64} {t : Def} {ar : List (List Nat)} {L : List Nat}
theorem s_Mo_put {c : Nat} (hnx : 442 ≤ nx) (hd : 1 ≤ d) (hc : c < 65536) (h3 : m 3 ≤ 600) (hS : PSt m (A 438) L) (hM : hMo G w p m A V) : AC G y_Mo_put b_Mo_put 2 none d false [rf G 418, .int (nI c)] nx w 0 0 (mq G nx w (fun r p' m' A' V' => r = none ∧ p' = p ∧ V' = V ∧ mSm m m' A A' ∧ PSt m' (A' 438) (L ++ [c]))) := by
  have h26 : m 26 ≤ 600 := by rcases hS with h | h <;> omega
  have he := hS.e
  refine AC.ofW (by decide) (Nat.le_of_ble_eq_true rfl) ?_
  intro E P hP Y X
  have X : aw_X G "RescanDeskModel" b_Mo_put 2 none "put" _ _ _ _ _ E := X
  refine AW.eql (lv' := [(0, _), (1, _)]) (by rfl) ?_
  have hf : fr 418 442 w w := fr.refl _ _ _
  refine aw_aload_nR (pc := 0) X d_Mo_put_0 (by rfl) ?_
  refine gm_3 (pc := 1) X hM (by omega) d_Mo_put_1 ?_
  refine aw_aload_nR (pc := 4) X d_Mo_put_4 (by rfl) ?_
  refine gm_26 (pc := 5) X hM (by omega) d_Mo_put_5 ?_
  refine aw_iaddN (pc := 8) X d_Mo_put_8 ?_
  refine aw_sipushN (pc := 9) X 600 d_Mo_put_9 (by decide) ?_
  refine aw_icmp_ltN (pc := 12) X (tgt := 21) d_Mo_put_12 (by rfl) (by omega) (by omega) (fun h12 => ?_) (fun h12 => ?_)
  -- br 12 lv=0:r,1:n st=
  · rcases hS with ⟨s1, s2, s3, s4⟩ | hS
    · refine aw_aload_nR (pc := 21) X d_Mo_put_21 (by rfl) ?_
      refine gm_27 (pc := 22) X hM (by omega) d_Mo_put_22 ?_
      refine aw_aload_nR (pc := 25) X d_Mo_put_25 (by rfl) ?_
      refine gm_26 (pc := 26) X hM (by omega) d_Mo_put_26 ?_
      refine aw_iload_n (pc := 29) X d_Mo_put_29 (by rfl) ?_
      refine sm_438 (pc := 30) X hM hf (by omega) (by omega) (by first | omega | exact hM.b435 _ | exact hM.b420 _ | exact hM.b421 _ | exact hM.b424 _ | exact hM.b426 _ | exact hM.b429 _ | exact hM.b436 _ | exact hM.b438 _ | exact hM.b419 _ | exact hM.b441 _) d_Mo_put_30 (fun w hM hf => ?_)
      refine aw_aload_nR (pc := 31) X d_Mo_put_31 (by rfl) ?_
      refine aw_dup (pc := 32) X d_Mo_put_32 (by rfl) ?_
      refine gm_26 (pc := 33) X hM (by omega) d_Mo_put_33 ?_
      try simp only [mu, au, reduceIte, Nat.reduceEqDiff]
      refine aw_iconstN (pc := 36) X 1 d_Mo_put_36 (by decide) ?_
      refine aw_iaddN (pc := 37) X d_Mo_put_37 ?_
      refine pm_26 (pc := 38) X hM hf (by omega) d_Mo_put_38 (fun w hM hf => ?_)
      refine aw_vret Y X rfl d_Mo_put_41 (by omega) (by omega) (hP _ _ _ ?_)
      -- ret 41 lv=0:r,1:n st=
      refine ⟨rfl, hf, _, _, _, _, hM, rfl, rfl, rfl, ⟨fun k h1 h2 => if_neg h1, fun a h => if_neg h⟩, Or.inl ⟨s1, ?_, ?_, ?_⟩⟩
      · show m 26 + 1 = _
        rw [s2, List.length_append]
        rfl
      · rw [List.length_append]
        show L ++ [c] = sl (aw_un (A 438) (m 26) c) 0 (L.length + 1)
        rw [sl_app, Nat.zero_add, sl_cons, sl_0, ← s2, aw_un_eq, s2]
        congr 1
        exact s3.trans (sl_congr fun i hi => by rw [aw_un_ne _ _ (by omega)])
      · show m 3 + _ ≤ 600
        rw [List.length_append]
        simp
        omega
    · omega
  · have hk1 : 600 ≤ m 3 + m 26 := by omega
    have hk2 : m 28 = 0 → 600 < m 3 + (L ++ [c]).length := fun z => by
      rcases hS with hS | hS
      · rw [List.length_append]; simp; omega
      · omega
    refine aw_aload_nR (pc := 15) X d_Mo_put_15 (by rfl) ?_
    refine aw_iconstN (pc := 16) X 2 d_Mo_put_16 (by decide) ?_
    -- invokevirtual 17 lv=0:r,1:n st=n,r
    refine aw_callV (pc := 17) X _ (s_Mo_stop (d := 0) (e := 2) hnx he hM) q_Mo_stop k_1003 k_1005 k_27 (by omega) hM.1 (by rfl) d_Mo_put_17 (by omega) (Nat.le_of_ble_eq_true rfl) ⟨by omega, by omega⟩ (fun h => by cases h) (fun r w nx hp => ?_)
    clear hM
    obtain ⟨rfl, hf1, p, m, A, V, hM, hq⟩ := hp
    replace hf := hf.trans hf1
    obtain ⟨rfl, hpp, haa, hvv, hmm⟩ := hq
    rw [hpp, haa, hvv, hmm] at hM
    rcases hS with ⟨s1, s2, s3, s4⟩ | ⟨s1, s2, s3, s4⟩
    · rw [if_pos s1] at hM
      refine aw_vret Y X rfl d_Mo_put_20 (by omega) (by omega) (hP _ _ _ ?_)
      -- ret 20 lv=0:r,1:n st=
      exact ⟨rfl, hf, _, _, _, _, hM, rfl, rfl, rfl, ⟨fun k h1 h2 => if_neg h2, fun a h => rfl⟩, Or.inr ⟨rfl, hk1, h26, hk2 s1⟩⟩
    · rw [if_neg (by omega)] at hM
      refine aw_vret Y X rfl d_Mo_put_20 (by omega) (by omega) (hP _ _ _ ?_)
      -- ret 20 lv=0:r,1:n st=
      exact ⟨rfl, hf, _, _, _, _, hM, rfl, rfl, rfl, ⟨fun k h1 h2 => rfl, fun a h => rfl⟩, Or.inr ⟨s1, s2, h26, by rw [List.length_append]; omega⟩⟩
theorem s_Mo_putArgument {a : Nat} (hnx : 442 ≤ nx) (hd : 2 ≤ d) (ha : a < 100) (h3 : m 3 ≤ 600) (hS : PSt m (A 438) L) (hY : RY A t ar) (hM : hMo G w p m A V) : AC G y_Mo_putArgument b_Mo_putArgument 3 none d false [rf G 418, .int (nI a)] nx w 0 0 (mq G nx w (fun r p' m' A' V' => r = none ∧ p' = p ∧ V' = V ∧ mSm m m' A A' ∧ PSt m' (A' 438) (L ++ argOf ar a))) := by
  refine AC.ofW (by decide) (Nat.le_of_ble_eq_true rfl) ?_
  intro E P hP Y X
  have X : aw_X G "RescanDeskModel" b_Mo_putArgument 3 none "putArgument" _ _ _ _ _ E := X
  refine AW.eql (lv' := [(0, _), (1, _)]) (by rfl) ?_
  have hf : fr 418 442 w w := fr.refl _ _ _
  have K : ∀ (j k : Nat), k + j = (argOf ar a).length → ∀ w1 m1 A1, hMo G w1 p m1 A1 V → fr 418 442 w w1 → mSm m m1 A A1 → PSt m1 (A1 438) (L ++ (argOf ar a).take k) → AW G E 3 nx 0 0 w1 2 [(2, .int (nI k)), (0, rf G 418), (1, .int (nI a))] [] := by
    intro j
    induction j with
    | zero =>
      intro k hk w1 m1 A1 hM hf hq1 hS1
      have hY1 := hY.sm hq1
      have hl := (hY1.arg a).2
      refine aw_iload_n (pc := 2) X d_Mo_putArgument_2 (by rfl) ?_
      refine aw_aload_nR (pc := 3) X d_Mo_putArgument_3 (by rfl) ?_
      refine aw_iload_n (pc := 4) X d_Mo_putArgument_4 (by rfl) ?_
      -- invokevirtual 5 lv=2:n,0:r,1:n st=n,r,n
      refine aw_callV (pc := 5) X _ (s_Mo_length (d := 1) hnx (by omega) ha hY1 hM) q_Mo_length k_1071 k_1073 k_42 (by omega) hM.1 (by rfl) d_Mo_putArgument_5 (by omega) (Nat.le_of_ble_eq_true rfl) ⟨by omega, by omega⟩ (fun h => by cases h) (fun r w nx hp => ?_)
      obtain ⟨rfl, rfl, rfl⟩ := hp
      refine aw_icmp_geN (pc := 8) X (tgt := 40) d_Mo_putArgument_8 (by rfl) (by omega) (by omega) (fun h8 => ?_) (fun h8 => ?_)
      -- br 8 lv=2:n,0:r,1:n st=
      · refine aw_vret Y X rfl d_Mo_putArgument_40 (by omega) (by omega) (hP _ _ _ ?_)
        -- ret 40 lv=2:n,0:r,1:n st=
        rw [List.take_of_length_le (by omega)] at hS1
        exact ⟨rfl, hf, _, _, _, _, hM, rfl, rfl, rfl, hq1, hS1⟩
      · omega
    | succ j ih =>
      intro k hk w1 m1 A1 hM hf hq1 hS1
      have hY1 := hY.sm hq1
      obtain ⟨a1, a2⟩ := hY1.arg a
      have he := hS1.e
      refine aw_iload_n (pc := 2) X d_Mo_putArgument_2 (by rfl) ?_
      refine aw_aload_nR (pc := 3) X d_Mo_putArgument_3 (by rfl) ?_
      refine aw_iload_n (pc := 4) X d_Mo_putArgument_4 (by rfl) ?_
      -- invokevirtual 5 lv=2:n,0:r,1:n st=n,r,n
      refine aw_callV (pc := 5) X _ (s_Mo_length (d := 1) hnx (by omega) ha hY1 hM) q_Mo_length k_1071 k_1073 k_42 (by omega) hM.1 (by rfl) d_Mo_putArgument_5 (by omega) (Nat.le_of_ble_eq_true rfl) ⟨by omega, by omega⟩ (fun h => by cases h) (fun r w nx hp => ?_)
      obtain ⟨rfl, rfl, rfl⟩ := hp
      refine aw_icmp_geN (pc := 8) X (tgt := 40) d_Mo_putArgument_8 (by rfl) (by omega) (by omega) (fun h8 => ?_) (fun h8 => ?_)
      -- br 8 lv=2:n,0:r,1:n st=
      · omega
      · refine aw_aload_nR (pc := 11) X d_Mo_putArgument_11 (by rfl) ?_
        refine gm_28 (pc := 12) X hM (by omega) d_Mo_putArgument_12 ?_
        refine aw_if_neN (pc := 15) X (tgt := 40) d_Mo_putArgument_15 (by rfl) (by omega) (fun h15 => ?_) (fun h15 => ?_)
        -- br 15 lv=2:n,0:r,1:n st=
        · refine aw_vret Y X rfl d_Mo_putArgument_40 (by omega) (by omega) (hP _ _ _ ?_)
          -- ret 40 lv=2:n,0:r,1:n st=
          have := hS1.done h15 ((argOf ar a).drop k)
          rw [List.append_assoc, List.take_append_drop] at this
          exact ⟨rfl, hf, _, _, _, _, hM, rfl, rfl, rfl, hq1, this⟩
        · refine aw_aload_nR (pc := 18) X d_Mo_putArgument_18 (by rfl) ?_
          refine aw_aload_nR (pc := 19) X d_Mo_putArgument_19 (by rfl) ?_
          refine gm_22 (pc := 20) X hM (by omega) d_Mo_putArgument_20 ?_
          refine aw_aload_nR (pc := 23) X d_Mo_putArgument_23 (by rfl) ?_
          refine aw_iload_n (pc := 24) X d_Mo_putArgument_24 (by rfl) ?_
          -- invokevirtual 25 lv=2:n,0:r,1:n st=n,r,a435,r
          refine aw_callV (pc := 25) X _ (s_Mo_from (d := 1) hnx (by omega) ha hY1 hM) q_Mo_from k_1075 k_1077 k_43 (by omega) hM.1 (by rfl) d_Mo_putArgument_25 (by omega) (Nat.le_of_ble_eq_true rfl) ⟨by omega, by omega⟩ (fun h => by cases h) (fun r w nx hp => ?_)
          obtain ⟨rfl, rfl, rfl⟩ := hp
          refine aw_iload_n (pc := 28) X d_Mo_putArgument_28 (by rfl) ?_
          refine aw_iaddN (pc := 29) X d_Mo_putArgument_29 ?_
          refine aw_caldN (pc := 30) X 435 0 (by omega) hM.a435 (by rfl) (by omega) (by decide) d_Mo_putArgument_30 ?_
          -- invokevirtual 31 lv=2:n,0:r,1:n st=n,r
          refine aw_callV (pc := 31) X _ (s_Mo_put (d := 1) hnx (by omega) (hM.b435 _) (by rw [hq1.1 3 (by decide) (by decide)]; exact h3) hS1 hM) q_Mo_put k_1053 k_1055 k_38 (by omega) hM.1 (by rfl) d_Mo_putArgument_31 (by omega) (Nat.le_of_ble_eq_true rfl) ⟨by omega, by omega⟩ (fun h => by cases h) (fun r w nx hp => ?_)
          clear hM
          obtain ⟨rfl, hf1, p, m, A, V, hM, hq⟩ := hp
          replace hf := hf.trans hf1
          obtain ⟨rfl, hpp, hvv, hq2, hS2⟩ := hq
          rw [hpp, hvv] at hM
          refine aw_iincN (pc := 34) X 1 (lv' := [(2, _), (0, _), (1, _)]) d_Mo_putArgument_34 (by rfl) (by decide) (by decide) (by rfl) ?_
          refine aw_goto (pc := 37) X (tgt := 2) d_Mo_putArgument_37 (by rfl) ?_
          -- stop 2 lv=2:n,0:r,1:n st=
          refine ih (k + 1) (by omega) _ _ _ hM hf (hq1.trans hq2) ?_
          rw [sl_take1 a1 (by omega), ← List.append_assoc]
          exact hS2
  refine aw_iconstN (pc := 0) X 0 d_Mo_putArgument_0 (by decide) ?_
  refine aw_istore_n (pc := 1) X (lv' := [(2, _), (0, _), (1, _)]) d_Mo_putArgument_1 (by decide) (by rfl) ?_
  -- stop 2 lv=2:n,0:r,1:n st=
  exact K _ 0 (Nat.zero_add _) _ _ _ hM hf (mSm.refl _ _) (by rw [List.take_zero, List.append_nil]; exact hS)
theorem s_Mo_putAll {f : Nat} {q : Bool} (hnx : 442 ≤ nx) (hd : 3 ≤ d) (hf1 : 1 ≤ f) (hf2 : f ≤ 2) (h3 : m 3 ≤ 600) (hS : PSt m (A 438) L) (hY : RY A t ar) (hM : hMo G w p m A V) : AC G y_Mo_putAll b_Mo_putAll 4 none d false [rf G 418, .int (nI f), .int (nI (bN q))] nx w 0 0 (mq G nx w (fun r p' m' A' V' => r = none ∧ p' = p ∧ V' = V ∧ mSm m m' A A' ∧ PSt m' (A' 438) (L ++ lstL ar q f))) := by
  have hbq := bN_lt q
  have hn9 := hY.2.2.1
  refine AC.ofW (by decide) (Nat.le_of_ble_eq_true rfl) ?_
  intro E P hP Y X
  have X : aw_X G "RescanDeskModel" b_Mo_putAll 4 none "putAll" _ _ _ _ _ E := X
  refine AW.eql (lv' := [(0, _), (1, _), (2, _)]) (by rfl) ?_
  have hf : fr 418 442 w w := fr.refl _ _ _
  have K : ∀ (k i : Nat), i + k = max (ar.length + 1) f → f ≤ i → i ≤ 20 → ∀ w1 m1 A1 L1, hMo G w1 p m1 A1 V → fr 418 442 w w1 → mSm m m1 A A1 → PSt m1 (A1 438) L1 → L1 ++ lstK ar q f (ar.length + 1 - i) i = L ++ lstL ar q f → AW G E 4 nx 0 0 w1 2 [(3, .int (nI i)), (0, rf G 418), (1, .int (nI f)), (2, .int (nI (bN q)))] [] := by
    intro k
    induction k with
    | zero =>
      intro i hik hi1 hi2 w1 m1 A1 L1 hM hf hq1 hS1 hr
      have e31 := (hY.sm hq1).2.1
      refine aw_iload_n (pc := 2) X d_Mo_putAll_2 (by rfl) ?_
      refine aw_aload_nR (pc := 3) X d_Mo_putAll_3 (by rfl) ?_
      refine gm_17 (pc := 4) X hM (by omega) d_Mo_putAll_4 ?_
      refine aw_bipushN (pc := 7) X 12 d_Mo_putAll_7 (by decide) ?_
      refine aw_ialdN (pc := 9) X 431 1 (by omega) hM.a431 (by rfl) (by omega) (by decide) d_Mo_putAll_9 ?_
      refine aw_icmp_gtN (pc := 10) X (tgt := 62) d_Mo_putAll_10 (by rfl) (by omega) (by omega) (fun h10 => ?_) (fun h10 => ?_)
      -- br 10 lv=3:n,0:r,1:n,2:n st=
      · refine aw_vret Y X rfl d_Mo_putAll_62 (by omega) (by omega) (hP _ _ _ ?_)
        -- ret 62 lv=3:n,0:r,1:n,2:n st=
        rw [show ar.length + 1 - i = 0 by omega, lstK, List.append_nil] at hr
        rw [hr] at hS1
        exact ⟨rfl, hf, _, _, _, _, hM, rfl, rfl, rfl, hq1, hS1⟩
      · omega
    | succ k ih =>
      intro i hik hi1 hi2 w1 m1 A1 L1 hM hf hq1 hS1 hr
      have e31 := (hY.sm hq1).2.1
      have he := hS1.e
      have J56 : ∀ w1 m1 A1 L1, hMo G w1 p m1 A1 V → fr 418 442 w w1 → mSm m m1 A A1 → PSt m1 (A1 438) L1 → L1 ++ lstK ar q f (ar.length + 1 - (i + 1)) (i + 1) = L ++ lstL ar q f → AW G E 4 nx 0 0 w1 56 [(3, .int (nI i)), (0, rf G 418), (1, .int (nI f)), (2, .int (nI (bN q)))] [] := by
        intro w1 m1 A1 L1 hM hf hq1 hS1 hr
        refine aw_iincN (pc := 56) X 1 (lv' := [(3, _), (0, _), (1, _), (2, _)]) d_Mo_putAll_56 (by rfl) (by decide) (by decide) (by rfl) ?_
        refine aw_goto (pc := 59) X (tgt := 2) d_Mo_putAll_59 (by rfl) ?_
        -- stop 2 lv=3:n,0:r,1:n,2:n st=
        exact ih (i + 1) (by omega) (by omega) (by omega) _ _ _ _ hM hf hq1 hS1 hr
      have J46 : ∀ w1 m1 A1 L1, hMo G w1 p m1 A1 V → fr 418 442 w w1 → mSm m m1 A A1 → PSt m1 (A1 438) L1 → (L1 ++ (if q = true then [39] else [])) ++ lstK ar q f (ar.length + 1 - (i + 1)) (i + 1) = L ++ lstL ar q f → AW G E 4 nx 0 0 w1 46 [(3, .int (nI i)), (0, rf G 418), (1, .int (nI f)), (2, .int (nI (bN q)))] [] := by
        intro w1 m1 A1 L1 hM hf hq1 hS1 hr
        refine aw_iload_n (pc := 46) X d_Mo_putAll_46 (by rfl) ?_
        refine aw_if_eqN (pc := 47) X (tgt := 56) d_Mo_putAll_47 (by rfl) (by omega) (fun h47 => ?_) (fun h47 => ?_)
        -- br 47 lv=3:n,0:r,1:n,2:n st=
        · rw [if_neg (by rw [bN_eq.mp h47]; simp), List.append_nil] at hr
          exact J56 _ _ _ _ hM hf hq1 hS1 hr
        · rw [if_pos (bN_ne.mp h47)] at hr
          refine aw_aload_nR (pc := 50) X d_Mo_putAll_50 (by rfl) ?_
          refine aw_bipushN (pc := 51) X 39 d_Mo_putAll_51 (by decide) ?_
          -- invokevirtual 53 lv=3:n,0:r,1:n,2:n st=n,r
          refine aw_callV (pc := 53) X _ (s_Mo_put (d := 1) (c := 39) hnx (by omega) (by decide) (by rw [hq1.1 3 (by decide) (by decide)]; exact h3) hS1 hM) q_Mo_put k_1053 k_1055 k_38 (by omega) hM.1 (by rfl) d_Mo_putAll_53 (by omega) (Nat.le_of_ble_eq_true rfl) ⟨by omega, by omega⟩ (fun h => by cases h) (fun r w nx hp => ?_)
          clear hM
          obtain ⟨rfl, hf1, p, m, A, V, hM, hq⟩ := hp
          replace hf := hf.trans hf1
          obtain ⟨rfl, hpp, hvv, hq2, hS2⟩ := hq
          rw [hpp, hvv] at hM
          exact J56 _ _ _ _ hM hf (hq1.trans hq2) hS2 hr
      have J41 : ∀ w1 m1 A1 L1, hMo G w1 p m1 A1 V → fr 418 442 w w1 → mSm m m1 A A1 → PSt m1 (A1 438) L1 → (L1 ++ (argOf ar i ++ (if q = true then [39] else []))) ++ lstK ar q f (ar.length + 1 - (i + 1)) (i + 1) = L ++ lstL ar q f → AW G E 4 nx 0 0 w1 41 [(3, .int (nI i)), (0, rf G 418), (1, .int (nI f)), (2, .int (nI (bN q)))] [] := by
        intro w1 m1 A1 L1 hM hf hq1 hS1 hr
        refine aw_aload_nR (pc := 41) X d_Mo_putAll_41 (by rfl) ?_
        refine aw_iload_n (pc := 42) X d_Mo_putAll_42 (by rfl) ?_
        -- invokevirtual 43 lv=3:n,0:r,1:n,2:n st=n,r
        refine aw_callV (pc := 43) X _ (s_Mo_putArgument (d := 2) (a := i) hnx (by omega) (by omega) (by rw [hq1.1 3 (by decide) (by decide)]; exact h3) hS1 (hY.sm hq1) hM) q_Mo_putArgument k_1067 k_1069 k_41 (by omega) hM.1 (by rfl) d_Mo_putAll_43 (by omega) (Nat.le_of_ble_eq_true rfl) ⟨by omega, by omega⟩ (fun h => by cases h) (fun r w nx hp => ?_)
        clear hM
        obtain ⟨rfl, hf1, p, m, A, V, hM, hq⟩ := hp
        replace hf := hf.trans hf1
        obtain ⟨rfl, hpp, hvv, hq2, hS2⟩ := hq
        rw [hpp, hvv] at hM
        rw [← List.append_assoc L1] at hr
        exact J46 _ _ _ _ hM hf (hq1.trans hq2) hS2 hr
      have J31 : ∀ w1 m1 A1 L1, hMo G w1 p m1 A1 V → fr 418 442 w w1 → mSm m m1 A A1 → PSt m1 (A1 438) L1 → (L1 ++ ((if q = true then [96] else []) ++ (argOf ar i ++ (if q = true then [39] else [])))) ++ lstK ar q f (ar.length + 1 - (i + 1)) (i + 1) = L ++ lstL ar q f → AW G E 4 nx 0 0 w1 31 [(3, .int (nI i)), (0, rf G 418), (1, .int (nI f)), (2, .int (nI (bN q)))] [] := by
        intro w1 m1 A1 L1 hM hf hq1 hS1 hr
        rw [← List.append_assoc L1] at hr
        refine aw_iload_n (pc := 31) X d_Mo_putAll_31 (by rfl) ?_
        refine aw_if_eqN (pc := 32) X (tgt := 41) d_Mo_putAll_32 (by rfl) (by omega) (fun h32 => ?_) (fun h32 => ?_)
        -- br 32 lv=3:n,0:r,1:n,2:n st=
        · rw [show (if q = true then [96] else []) = ([] : List Nat) from if_neg (by rw [bN_eq.mp h32]; simp), List.append_nil] at hr
          exact J41 _ _ _ _ hM hf hq1 hS1 hr
        · rw [show (if q = true then [96] else []) = [96] from if_pos (bN_ne.mp h32)] at hr
          refine aw_aload_nR (pc := 35) X d_Mo_putAll_35 (by rfl) ?_
          refine aw_bipushN (pc := 36) X 96 d_Mo_putAll_36 (by decide) ?_
          -- invokevirtual 38 lv=3:n,0:r,1:n,2:n st=n,r
          refine aw_callV (pc := 38) X _ (s_Mo_put (d := 1) (c := 96) hnx (by omega) (by decide) (by rw [hq1.1 3 (by decide) (by decide)]; exact h3) hS1 hM) q_Mo_put k_1053 k_1055 k_38 (by omega) hM.1 (by rfl) d_Mo_putAll_38 (by omega) (Nat.le_of_ble_eq_true rfl) ⟨by omega, by omega⟩ (fun h => by cases h) (fun r w nx hp => ?_)
          clear hM
          obtain ⟨rfl, hf1, p, m, A, V, hM, hq⟩ := hp
          replace hf := hf.trans hf1
          obtain ⟨rfl, hpp, hvv, hq2, hS2⟩ := hq
          rw [hpp, hvv] at hM
          exact J41 _ _ _ _ hM hf (hq1.trans hq2) hS2 hr
      refine aw_iload_n (pc := 2) X d_Mo_putAll_2 (by rfl) ?_
      refine aw_aload_nR (pc := 3) X d_Mo_putAll_3 (by rfl) ?_
      refine gm_17 (pc := 4) X hM (by omega) d_Mo_putAll_4 ?_
      refine aw_bipushN (pc := 7) X 12 d_Mo_putAll_7 (by decide) ?_
      refine aw_ialdN (pc := 9) X 431 1 (by omega) hM.a431 (by rfl) (by omega) (by decide) d_Mo_putAll_9 ?_
      refine aw_icmp_gtN (pc := 10) X (tgt := 62) d_Mo_putAll_10 (by rfl) (by omega) (by omega) (fun h10 => ?_) (fun h10 => ?_)
      -- br 10 lv=3:n,0:r,1:n,2:n st=
      · omega
      · refine aw_aload_nR (pc := 13) X d_Mo_putAll_13 (by rfl) ?_
        refine gm_28 (pc := 14) X hM (by omega) d_Mo_putAll_14 ?_
        refine aw_if_neN (pc := 17) X (tgt := 62) d_Mo_putAll_17 (by rfl) (by omega) (fun h17 => ?_) (fun h17 => ?_)
        -- br 17 lv=3:n,0:r,1:n,2:n st=
        · refine aw_vret Y X rfl d_Mo_putAll_62 (by omega) (by omega) (hP _ _ _ ?_)
          -- ret 62 lv=3:n,0:r,1:n,2:n st=
          have := hS1.done h17 (lstK ar q f (ar.length + 1 - i) i)
          rw [hr] at this
          exact ⟨rfl, hf, _, _, _, _, hM, rfl, rfl, rfl, hq1, this⟩
        · rw [show ar.length + 1 - i = (ar.length + 1 - (i + 1)) + 1 by omega, lstK, lst1, ← List.append_assoc, ← List.append_assoc L1] at hr
          refine aw_iload_n (pc := 20) X d_Mo_putAll_20 (by rfl) ?_
          refine aw_iload_n (pc := 21) X d_Mo_putAll_21 (by rfl) ?_
          refine aw_icmp_leN (pc := 22) X (tgt := 31) d_Mo_putAll_22 (by rfl) (by omega) (by omega) (fun h22 => ?_) (fun h22 => ?_)
          -- br 22 lv=3:n,0:r,1:n,2:n st=
          · rw [if_neg (show ¬ f < i by omega), List.append_nil] at hr
            exact J31 _ _ _ _ hM hf hq1 hS1 hr
          · rw [if_pos (show f < i by omega)] at hr
            refine aw_aload_nR (pc := 25) X d_Mo_putAll_25 (by rfl) ?_
            refine aw_bipushN (pc := 26) X 44 d_Mo_putAll_26 (by decide) ?_
            -- invokevirtual 28 lv=3:n,0:r,1:n,2:n st=n,r
            refine aw_callV (pc := 28) X _ (s_Mo_put (d := 1) (c := 44) hnx (by omega) (by decide) (by rw [hq1.1 3 (by decide) (by decide)]; exact h3) hS1 hM) q_Mo_put k_1053 k_1055 k_38 (by omega) hM.1 (by rfl) d_Mo_putAll_28 (by omega) (Nat.le_of_ble_eq_true rfl) ⟨by omega, by omega⟩ (fun h => by cases h) (fun r w nx hp => ?_)
            clear hM
            obtain ⟨rfl, hf1, p, m, A, V, hM, hq⟩ := hp
            replace hf := hf.trans hf1
            obtain ⟨rfl, hpp, hvv, hq2, hS2⟩ := hq
            rw [hpp, hvv] at hM
            exact J31 _ _ _ _ hM hf (hq1.trans hq2) hS2 hr
  refine aw_iload_n (pc := 0) X d_Mo_putAll_0 (by rfl) ?_
  refine aw_istore_n (pc := 1) X (lv' := [(3, _), (0, _), (1, _), (2, _)]) d_Mo_putAll_1 (by decide) (by rfl) ?_
  -- stop 2 lv=3:n,0:r,1:n,2:n st=
  exact K (max (ar.length + 1) f - f) f (by omega) (by omega) (by omega) _ _ _ _ hM hf (mSm.refl _ _) hS rfl
theorem s_Mo_putNumber {v : Int64} (hnx : 442 ≤ nx) (hd : 2 ≤ d) (h03 : m 3 ≤ 600) (hS : PSt m (A 438) L) (hM : hMo G w p m A V) : AC G y_Mo_putNumber b_Mo_putNumber 9 none d false [rf G 418, .long v] nx w 0 0 (mq G nx w (fun r p' m' A' V' => r = none ∧ p' = p ∧ V' = V ∧ mSm m m' A A' ∧ PSt m' (A' 438) (L ++ dec v))) := by
  obtain ⟨b, hv, hN⟩ := sv_of v
  generalize hNe : v.toInt.natAbs = N at hv hN
  have hdv : ∀ k, svOk b (N / k) := fun k => hN.le (Nat.div_le_self _ _)
  have hpw : ∀ k, N / 10 ^ k / 10 = N / 10 ^ (k + 1) := fun k => by rw [Nat.div_div_eq_div_mul, ← Nat.pow_succ]
  refine AC.ofW (by decide) (Nat.le_of_ble_eq_true rfl) ?_
  intro E P hP Y X
  have X : aw_X G "RescanDeskModel" b_Mo_putNumber 9 none "putNumber" _ _ _ _ _ E := X
  refine AW.eql (lv' := [(0, _), (1, _)]) (by rfl) ?_
  have hf : fr 418 442 w w := fr.refl _ _ _
  -- one digit
  have B : ∀ (k dg : Nat) (w1 : Nat → va_E) (m1 : Nat → Nat) (A1 : Nat → Nat → Nat) (L1 : List Nat), k ≤ 18 → hMo G w1 p m1 A1 V → fr 418 442 w w1 → mSm m m1 A A1 → PSt m1 (A1 438) L1 → (∀ w2 m2 A2 x y, hMo G w2 p m2 A2 V → fr 418 442 w w2 → mSm m m2 A A2 → PSt m2 (A2 438) (L1 ++ [48 + N / 10 ^ k % 10]) → AW G E 9 nx 0 0 w2 112 [(7, .long x), (5, .long y), (4, .int (nI k)), (3, .int (nI dg)), (0, rf G 418), (1, .long v)] []) → AW G E 9 nx 0 0 w1 47 [(4, .int (nI k)), (3, .int (nI dg)), (0, rf G 418), (1, .long v)] [] := by
    intro k dg w1 m1 A1 L1 hk hM hf hq1 hS1 con
    have e3 : m1 3 ≤ 600 := by rw [hq1.1 3 (by decide) (by decide)]; exact h03
    have K : AW G E 9 nx 0 0 w1 79 [(7, .int (nI k)), (5, .long (sv b (N / 10 ^ k))), (4, .int (nI k)), (3, .int (nI dg)), (0, rf G 418), (1, .long v)] [] := by
      refine aw_lload (pc := 79) X d_Mo_putNumber_79 (by rfl) ?_
      refine aw_ldc2 (pc := 81) X k_1061 d_Mo_putNumber_81 ?_
      -- stop 84 lv=7:n,5:l,4:n,3:n,0:r,1:l st=l,l
      refine aw_lrem (pc := 84) X d_Mo_putNumber_84 (by decide) ?_
      rw [sv_rem (hdv _)]
      have hdig := sv_dig (b := b) (q := N / 10 ^ k % 10) (Nat.mod_lt _ (by omega))
      have P : AW G E 9 nx 0 0 w1 108 [(7, .long (sv b (N / 10 ^ k % 10))), (5, .long (sv b (N / 10 ^ k))), (4, .int (nI k)), (3, .int (nI dg)), (0, rf G 418), (1, .long v)] [.int (nI (48 + N / 10 ^ k % 10)), rf G 418] := by
        have hlt := Nat.mod_lt (N / 10 ^ k) (show 0 < 10 by omega)
        refine aw_i2cN (pc := 108) X d_Mo_putNumber_108 (by omega) ?_
        -- invokevirtual 109 lv=7:l,5:l,4:n,3:n,0:r,1:l st=n,r
        refine aw_callV (pc := 109) X _ (s_Mo_put (d := 1) hnx (by omega) (by omega) e3 hS1 hM) q_Mo_put k_1053 k_1055 k_38 (by omega) hM.1 (by rfl) d_Mo_putNumber_109 (by omega) (Nat.le_of_ble_eq_true rfl) ⟨by omega, by omega⟩ (fun h => by cases h) (fun r w nx hp => ?_)
        clear hM
        obtain ⟨rfl, hf1, p, m, A, V, hM, hq⟩ := hp
        replace hf := hf.trans hf1
        obtain ⟨rfl, hpp, hvv, hq2, hS2⟩ := hq
        rw [hpp, hvv] at hM
        exact con _ _ _ _ _ hM hf (hq1.trans hq2) hS2
      refine aw_lstore (pc := 85) X (lv' := [(7, _), (5, _), (4, _), (3, _), (0, _), (1, _)]) d_Mo_putNumber_85 (by decide) (by rfl) ?_
      refine aw_aload_nR (pc := 87) X d_Mo_putNumber_87 (by rfl) ?_
      refine aw_ldc2 (pc := 88) X k_1062 d_Mo_putNumber_88 ?_
      refine aw_lload (pc := 91) X d_Mo_putNumber_91 (by rfl) ?_
      refine aw_lconst (pc := 93) X (v := 0) d_Mo_putNumber_93 (by decide) ?_
      refine aw_lcmp (pc := 94) X d_Mo_putNumber_94 ?_
      refine aw_if_ge (pc := 95) X (tgt := 104) d_Mo_putNumber_95 (by rfl) (fun h95 => ?_) (fun h95 => ?_)
      -- br 95 lv=7:l,5:l,4:n,3:n,0:r,1:l st=l,r
      · rw [if_neg (fun q => absurd ((lg_lt0 _ _).mpr q) (Int32.not_lt.mpr h95))] at hdig
        refine aw_lload (pc := 104) X d_Mo_putNumber_104 (by rfl) ?_
        refine aw_ladd (pc := 106) X d_Mo_putNumber_106 ?_
        -- stop 107 lv=7:l,5:l,4:n,3:n,0:r,1:l st=l,r
        refine aw_l2i (pc := 107) X d_Mo_putNumber_107 ?_
        rw [hdig]
        exact P
      · rw [if_pos ((lg_lt0 _ _).mp (Int32.not_le.mp h95))] at hdig
        refine aw_lload (pc := 98) X d_Mo_putNumber_98 (by rfl) ?_
        refine aw_lneg (pc := 100) X d_Mo_putNumber_100 ?_
        refine aw_goto (pc := 101) X (tgt := 106) d_Mo_putNumber_101 (by rfl) ?_
        refine aw_ladd (pc := 106) X d_Mo_putNumber_106 ?_
        -- stop 107 lv=7:l,5:l,4:n,3:n,0:r,1:l st=l,r
        refine aw_l2i (pc := 107) X d_Mo_putNumber_107 ?_
        rw [hdig]
        exact P
    have L3 : ∀ i j, j + i = k → AW G E 9 nx 0 0 w1 58 [(7, .int (nI j)), (5, .long (sv b (N / 10 ^ j))), (4, .int (nI k)), (3, .int (nI dg)), (0, rf G 418), (1, .long v)] [] := by
      intro i
      induction i with
      | zero =>
        intro j hj
        have hjk : j = k := by omega
        subst hjk
        refine aw_iload (pc := 58) X d_Mo_putNumber_58 (by rfl) ?_
        refine aw_iload (pc := 60) X d_Mo_putNumber_60 (by rfl) ?_
        refine aw_icmp_geN (pc := 62) X (tgt := 79) d_Mo_putNumber_62 (by rfl) (by omega) (by omega) (fun h62 => ?_) (fun h62 => ?_)
        -- br 62 lv=7:n,5:l,4:n,3:n,0:r,1:l st=
        · exact K
        · omega
      | succ i ih =>
        intro j hj
        refine aw_iload (pc := 58) X d_Mo_putNumber_58 (by rfl) ?_
        refine aw_iload (pc := 60) X d_Mo_putNumber_60 (by rfl) ?_
        refine aw_icmp_geN (pc := 62) X (tgt := 79) d_Mo_putNumber_62 (by rfl) (by omega) (by omega) (fun h62 => ?_) (fun h62 => ?_)
        -- br 62 lv=7:n,5:l,4:n,3:n,0:r,1:l st=
        · omega
        · refine aw_lload (pc := 65) X d_Mo_putNumber_65 (by rfl) ?_
          refine aw_ldc2 (pc := 67) X k_1061 d_Mo_putNumber_67 ?_
          -- stop 70 lv=7:n,5:l,4:n,3:n,0:r,1:l st=l,l
          refine aw_ldiv (pc := 70) X d_Mo_putNumber_70 (by decide) ?_
          rw [sv_div (hdv _), hpw]
          refine aw_lstore (pc := 71) X (lv' := [(5, _), (7, _), (4, _), (3, _), (0, _), (1, _)]) d_Mo_putNumber_71 (by decide) (by rfl) ?_
          refine aw_iincN (pc := 73) X 1 (lv' := [(7, _), (5, _), (4, _), (3, _), (0, _), (1, _)]) d_Mo_putNumber_73 (by rfl) (by decide) (by decide) (by rfl) ?_
          refine aw_goto (pc := 76) X (tgt := 58) d_Mo_putNumber_76 (by rfl) ?_
          -- stop 58 lv=7:n,5:l,4:n,3:n,0:r,1:l st=
          exact ih (j + 1) (by omega)
    refine aw_iload (pc := 47) X d_Mo_putNumber_47 (by rfl) ?_
    refine aw_if_ltN (pc := 49) X (tgt := 118) d_Mo_putNumber_49 (by rfl) (by omega) ?_
    refine aw_lload_n (pc := 52) X d_Mo_putNumber_52 (by rfl) ?_
    refine aw_lstore (pc := 53) X (lv' := [(5, _), (4, _), (3, _), (0, _), (1, _)]) d_Mo_putNumber_53 (by decide) (by rfl) ?_
    refine aw_iconstN (pc := 55) X 0 d_Mo_putNumber_55 (by decide) ?_
    refine aw_istore (pc := 56) X (lv' := [(7, _), (5, _), (4, _), (3, _), (0, _), (1, _)]) d_Mo_putNumber_56 (by decide) (by rfl) ?_
    -- stop 58 lv=7:n,5:l,4:n,3:n,0:r,1:l st=
    have := L3 k 0 (Nat.zero_add _)
    rw [Nat.pow_zero, Nat.div_one, ← hv] at this
    exact this
  have L2 : ∀ (k dg : Nat) (w1 : Nat → va_E) (m1 : Nat → Nat) (A1 : Nat → Nat → Nat) (L1 : List Nat), k ≤ 18 → hMo G w1 p m1 A1 V → fr 418 442 w w1 → mSm m m1 A A1 → PSt m1 (A1 438) L1 → L1 ++ dgl N k = L ++ dec v → AW G E 9 nx 0 0 w1 47 [(4, .int (nI k)), (3, .int (nI dg)), (0, rf G 418), (1, .long v)] [] := by
    intro k
    induction k with
    | zero =>
      intro dg w1 m1 A1 L1 hk hM hf hq1 hS1 hr
      refine B 0 dg w1 m1 A1 L1 hk hM hf hq1 hS1 (fun w2 m2 A2 x y hM hf hq2 hS2 => ?_)
      refine aw_iinc (pc := 112) X (v := _) (lv' := [(4, _), (7, _), (5, _), (3, _), (0, _), (1, _)]) d_Mo_putNumber_112 (by rfl) rfl (by decide) (by rfl) ?_
      refine aw_goto (pc := 115) X (tgt := 47) d_Mo_putNumber_115 (by rfl) ?_
      refine aw_iload (pc := 47) X d_Mo_putNumber_47 (by rfl) ?_
      refine aw_if_lt (pc := 49) X (tgt := 118) d_Mo_putNumber_49 (by rfl) (fun h49 => ?_) (fun h49 => ?_)
      -- br 49 lv=4:i,7:l,5:l,3:n,0:r,1:l st=
      · refine aw_vret Y X rfl d_Mo_putNumber_118 (by omega) (by omega) (hP _ _ _ ?_)
        -- ret 118 lv=4:i,7:l,5:l,3:n,0:r,1:l st=
        rw [← hr]
        exact ⟨rfl, hf, _, _, _, _, hM, rfl, rfl, rfl, hq2, hS2⟩
      · exact absurd (by decide) h49
    | succ k ih =>
      intro dg w1 m1 A1 L1 hk hM hf hq1 hS1 hr
      refine B (k + 1) dg w1 m1 A1 L1 hk hM hf hq1 hS1 (fun w2 m2 A2 x y hM hf hq2 hS2 => ?_)
      refine aw_iincM (pc := 112) X 1 (lv' := [(4, _), (7, _), (5, _), (3, _), (0, _), (1, _)]) d_Mo_putNumber_112 (by rfl) (by decide) (by omega) (by decide) (by rfl) ?_
      refine aw_goto (pc := 115) X (tgt := 47) d_Mo_putNumber_115 (by rfl) ?_
      -- stop 47 lv=4:n,7:l,5:l,3:n,0:r,1:l st=
      refine AW.lsub [0, 3, 4, 5] (by rfl) ?_
      rw [dgl] at hr
      exact ih dg w2 m2 A2 _ (by omega) hM hf hq2 hS2 (by rw [← hr, List.append_assoc]; rfl)
  have J : ∀ (w1 : Nat → va_E) (m1 : Nat → Nat) (A1 : Nat → Nat → Nat) (L1 : List Nat), hMo G w1 p m1 A1 V → fr 418 442 w w1 → mSm m m1 A A1 → PSt m1 (A1 438) L1 → L1 ++ dgl N (topx N 18 0) = L ++ dec v → AW G E 9 nx 0 0 w1 12 [(0, rf G 418), (1, .long v)] [] := by
    intro w1 m1 A1 L1 hM hf hq1 hS1 hr
    have L1 : ∀ (f k : Nat), f + k = 18 → topx N f k = topx N 18 0 → AW G E 9 nx 0 0 w1 21 [(4, .long (sv b (N / 10 ^ (k + 1)))), (3, .int (nI (k + 1))), (0, rf G 418), (1, .long v)] [] := by
      intro f
      induction f with
      | zero =>
        intro k hk ht
        have h0 : N / 10 ^ (k + 1) = 0 := by
          rw [show k + 1 = 19 by omega]
          have := hN.1
          exact Nat.div_eq_of_lt (by omega)
        refine aw_lload (pc := 21) X d_Mo_putNumber_21 (by rfl) ?_
        refine aw_lconst (pc := 23) X (v := 0) d_Mo_putNumber_23 (by decide) ?_
        refine aw_lcmp (pc := 24) X d_Mo_putNumber_24 ?_
        refine aw_if_eq (pc := 25) X (tgt := 42) d_Mo_putNumber_25 (by rfl) (fun h25 => ?_) (fun h25 => ?_)
        -- br 25 lv=4:l,3:n,0:r,1:l st=
        · refine aw_iload_n (pc := 42) X d_Mo_putNumber_42 (by rfl) ?_
          refine aw_iconstN (pc := 43) X 1 d_Mo_putNumber_43 (by decide) ?_
          refine aw_isubN (pc := 44) X d_Mo_putNumber_44 (by omega) ?_
          refine aw_istore (pc := 45) X (lv' := [(4, _), (3, _), (0, _), (1, _)]) d_Mo_putNumber_45 (by decide) (by rfl) ?_
          -- stop 47 lv=4:n,3:n,0:r,1:l st=
          refine L2 k _ w1 m1 A1 _ (by omega) hM hf hq1 hS1 ?_
          rw [← hr, ← ht]
          rfl
        · exact absurd ((lg_eq0 _ _).mpr ((sv_0 (hdv _)).mpr h0)) h25
      | succ f ih =>
        intro k hk ht
        rw [topx] at ht
        have hiff : N / 10 ^ k < 10 ↔ N / 10 ^ (k + 1) = 0 := by
          rw [← hpw]
          generalize N / 10 ^ k = q
          omega
        refine aw_lload (pc := 21) X d_Mo_putNumber_21 (by rfl) ?_
        refine aw_lconst (pc := 23) X (v := 0) d_Mo_putNumber_23 (by decide) ?_
        refine aw_lcmp (pc := 24) X d_Mo_putNumber_24 ?_
        refine aw_if_eq (pc := 25) X (tgt := 42) d_Mo_putNumber_25 (by rfl) (fun h25 => ?_) (fun h25 => ?_)
        -- br 25 lv=4:l,3:n,0:r,1:l st=
        · rw [if_pos (hiff.mpr ((sv_0 (hdv _)).mp ((lg_eq0 _ _).mp h25)))] at ht
          refine aw_iload_n (pc := 42) X d_Mo_putNumber_42 (by rfl) ?_
          refine aw_iconstN (pc := 43) X 1 d_Mo_putNumber_43 (by decide) ?_
          refine aw_isubN (pc := 44) X d_Mo_putNumber_44 (by omega) ?_
          refine aw_istore (pc := 45) X (lv' := [(4, _), (3, _), (0, _), (1, _)]) d_Mo_putNumber_45 (by decide) (by rfl) ?_
          -- stop 47 lv=4:n,3:n,0:r,1:l st=
          refine L2 k _ w1 m1 A1 _ (by omega) hM hf hq1 hS1 ?_
          rw [← hr, ← ht]
        · rw [if_neg (fun q => h25 ((lg_eq0 _ _).mpr ((sv_0 (hdv _)).mpr (hiff.mp q))))] at ht
          refine aw_iincN (pc := 28) X 1 (lv' := [(3, _), (4, _), (0, _), (1, _)]) d_Mo_putNumber_28 (by rfl) (by decide) (by decide) (by rfl) ?_
          refine aw_lload (pc := 31) X d_Mo_putNumber_31 (by rfl) ?_
          refine aw_ldc2 (pc := 33) X k_1061 d_Mo_putNumber_33 ?_
          -- stop 36 lv=3:n,4:l,0:r,1:l st=l,l
          refine aw_ldiv (pc := 36) X d_Mo_putNumber_36 (by decide) ?_
          rw [sv_div (hdv _), hpw]
          refine aw_lstore (pc := 37) X (lv' := [(4, _), (3, _), (0, _), (1, _)]) d_Mo_putNumber_37 (by decide) (by rfl) ?_
          refine aw_goto (pc := 39) X (tgt := 21) d_Mo_putNumber_39 (by rfl) ?_
          -- stop 21 lv=4:l,3:n,0:r,1:l st=
          exact ih (k + 1) (by omega) ht
    refine aw_iconstN (pc := 12) X 1 d_Mo_putNumber_12 (by decide) ?_
    refine aw_istore_n (pc := 13) X (lv' := [(3, _), (0, _), (1, _)]) d_Mo_putNumber_13 (by decide) (by rfl) ?_
    refine aw_lload_n (pc := 14) X d_Mo_putNumber_14 (by rfl) ?_
    refine aw_ldc2 (pc := 15) X k_1061 d_Mo_putNumber_15 ?_
    -- stop 18 lv=3:n,0:r,1:l st=l,l
    refine aw_ldiv (pc := 18) X d_Mo_putNumber_18 (by decide) ?_
    rw [show v / 10 = sv b (N / 10 ^ (0 + 1)) by rw [hv, sv_div hN]]
    refine aw_lstore (pc := 19) X (lv' := [(4, _), (3, _), (0, _), (1, _)]) d_Mo_putNumber_19 (by decide) (by rfl) ?_
    -- stop 21 lv=4:l,3:n,0:r,1:l st=
    exact L1 18 0 (by omega) rfl
  refine aw_lload_n (pc := 0) X d_Mo_putNumber_0 (by rfl) ?_
  refine aw_lconst (pc := 1) X (v := 0) d_Mo_putNumber_1 (by decide) ?_
  refine aw_lcmp (pc := 2) X d_Mo_putNumber_2 ?_
  refine aw_if_ge (pc := 3) X (tgt := 12) d_Mo_putNumber_3 (by rfl) (fun h3 => ?_) (fun h3 => ?_)
  -- br 3 lv=0:r,1:l st=
  · have hv0 : ¬ v < 0 := fun q => absurd ((lg_lt0 _ _).mpr q) (Int32.not_lt.mpr h3)
    exact J _ _ _ _ hM hf (mSm.refl _ _) hS (by rw [dec, if_neg hv0, hNe]; rfl)
  · have hv0 : v < 0 := (lg_lt0 _ _).mp (Int32.not_le.mp h3)
    refine aw_aload_nR (pc := 6) X d_Mo_putNumber_6 (by rfl) ?_
    refine aw_bipushN (pc := 7) X 45 d_Mo_putNumber_7 (by decide) ?_
    -- invokevirtual 9 lv=0:r,1:l st=n,r
    refine aw_callV (pc := 9) X _ (s_Mo_put (d := 1) (c := 45) hnx (by omega) (by decide) h03 hS hM) q_Mo_put k_1053 k_1055 k_38 (by omega) hM.1 (by rfl) d_Mo_putNumber_9 (by omega) (Nat.le_of_ble_eq_true rfl) ⟨by omega, by omega⟩ (fun h => by cases h) (fun r w nx hp => ?_)
    clear hM
    obtain ⟨rfl, hf1, p, m, A, V, hM, hq⟩ := hp
    replace hf := hf.trans hf1
    obtain ⟨rfl, hpp, hvv, hq2, hS2⟩ := hq
    rw [hpp, hvv] at hM
    exact J _ _ _ _ hM hf hq2 hS2 (by rw [dec, if_pos hv0, hNe, List.append_assoc])
end

