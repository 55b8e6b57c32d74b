/-! the reference: what it asks of its arrays: isNamed, find, from, length, areEqual, isName, value, index, macros -/
theorem nILE {a b : Nat} (ha : a < 2 ^ 31) (hb : b < 2 ^ 31) : nI a ≤ nI b ↔ a ≤ b := by
  rw [Int32.le_iff_toInt_le, nI_toInt ha, nI_toInt hb]
  omega
theorem nm_cons (c : Nat) (r : List Nat) : isNm (c :: r) = (isLet c && r.all isLD) := by
  have hw : ∀ r : List Nat, (r.takeWhile isLD).length = r.length ↔ r.all isLD = true := by
    intro r
    induction r with
    | nil => simp
    | cons x y ih =>
      have hle : (y.takeWhile isLD).length ≤ y.length := (List.takeWhile_sublist _).length_le
      by_cases hx : isLD x = true
      · simp [List.takeWhile_cons, hx] at ih ⊢
        exact ih
      · simp [List.takeWhile_cons, hx]
  have e : nmLen (c :: r) = if isLet c = true then 1 + (r.takeWhile isLD).length else 0 := rfl
  have e2 : isNm (c :: r) = decide (nmLen (c :: r) = r.length + 1) := by simp [isNm]
  rw [e2, e]
  have h3 := hw r
  by_cases hl : isLet c = true
  · rw [if_pos hl, hl, Bool.true_and]
    by_cases hA : r.all isLD = true
    · rw [hA]
      exact decide_eq_true (by have := h3.mpr hA; omega)
    · rw [show r.all isLD = false by simpa using hA]
      exact decide_eq_false (fun z => hA (h3.mp (by omega)))
  · rw [if_neg hl]
    have : isLet c = false := by simpa using hl
    rw [this, Bool.false_and]
    exact decide_eq_false (by omega)
/-- the arguments of the call that is expanded, as the arrays have them -/
def mfr (A : Nat → Nat → Nat) (k : Nat) : Nat := if 1 ≤ k ∧ k ≤ A 431 12 then A 432 (131 + k) else 0
def RY (A : Nat → Nat → Nat) (t : Def) (ar : List (List Nat)) : Prop := dR (A 427 12) (A 426) 144 (A 428 12) (A 430 12) (A 429) 1200 t ∧ A 431 12 = ar.length ∧ ar.length ≤ 9 ∧ ∀ k, 1 ≤ k → k ≤ ar.length → A 432 (131 + k) ≤ A 432 (132 + k) ∧ A 432 (132 + k) ≤ 400 ∧ argOf ar k = sl (A 435) (A 432 (131 + k)) (A 432 (132 + k) - A 432 (131 + k))
theorem RY.arg {A : Nat → Nat → Nat} {t : Def} {ar : List (List Nat)} (h : RY A t ar) (k : Nat) : argOf ar k = sl (A 435) (mfr A k) (argOf ar k).length ∧ mfr A k + (argOf ar k).length ≤ 400 := by
  obtain ⟨-, h1, h2, h3⟩ := h
  unfold mfr
  by_cases hk : 1 ≤ k ∧ k ≤ ar.length
  · obtain ⟨a1, a2, a3⟩ := h3 k hk.1 hk.2
    rw [if_pos (by rw [h1]; exact hk)]
    have hl : (argOf ar k).length = A 432 (132 + k) - A 432 (131 + k) := by rw [a3, sl_len]
    refine ⟨?_, by omega⟩
    rw [hl]
    exact a3
  · rw [if_neg (by rw [h1]; exact hk), argOf, if_neg hk]
    exact ⟨rfl, Nat.zero_le _⟩
section
variable {G : aw_G} {nx d : Nat} {w : Nat → va_E} {p : Int32} {m : Nat → Nat} {A : Nat → Nat → Nat} {V : Nat → Int64} {t : Def} {ar : List (List Nat)}
theorem s_Mo_isNamed {i q l u n : Nat} {f : Nat → Nat} {s : List Nat} (hnx : 442 ≤ nx) (hi : i < 60) (hq : q < nx) (hl : l < 2 ^ 20) (hun : u + n ≤ l) (h1 : A 422 i = s.length) (h2 : s.length ≤ 12) (h3 : s = sl (A 421) (12 * i) s.length) (hff : ∀ j, f j < 65536) (hqq : w q = aCh G l f) (hM : hMo G w p m A V) : AC G y_Mo_isNamed b_Mo_isNamed 7 (some .boolean) d false [rf G 418, .int (nI i), rf G q, .int (nI u), .int (nI n)] nx w 0 0 (fun r w' nx' => nx' = nx ∧ w' = w ∧ r = some (.int (nI (bN (decide (s = sl f u n)))))) := by
  refine AC.ofW (by decide) (Nat.le_of_ble_eq_true rfl) ?_
  intro E P hP Y X
  have X : aw_X G "RescanDeskModel" b_Mo_isNamed 7 (some .boolean) "isNamed" _ _ _ _ _ E := X
  refine AW.eql (lv' := [(0, _), (1, _), (2, _), (3, _), (4, _)]) (by rfl) ?_
  have Zf : ∀ k, ¬ s = sl f u n → AW G E 7 nx 0 0 w 67 [(6, .int (nI k)), (5, .int (nI 0)), (0, rf G 418), (1, .int (nI i)), (2, rf G q), (3, .int (nI u)), (4, .int (nI n))] [] := by
    intro k hne
    refine aw_iload (pc := 67) X d_Mo_isNamed_67 (by rfl) ?_
    refine aw_zret Y X rfl (by decide +kernel) d_Mo_isNamed_69 (by omega) (by omega) (hP _ _ _ ?_)
    -- ret 69 lv=6:n,5:n,0:r,1:n,2:r,3:n,4:n st=n
    exact ⟨rfl, rfl, by rw [decide_eq_false hne]; rfl⟩
  have L : ∀ (j k : Nat), k + j = n → s.length = n → (∀ i', i' < k → A 421 (12 * i + i') = f (u + i')) → AW G E 7 nx 0 0 w 21 [(6, .int (nI k)), (5, .int (nI 1)), (0, rf G 418), (1, .int (nI i)), (2, rf G q), (3, .int (nI u)), (4, .int (nI n))] [] := by
    intro j
    induction j with
    | zero =>
      intro k hk hs hall
      refine aw_iload (pc := 21) X d_Mo_isNamed_21 (by rfl) ?_
      refine aw_iload (pc := 23) X d_Mo_isNamed_23 (by rfl) ?_
      refine aw_icmp_geN (pc := 25) X (tgt := 67) d_Mo_isNamed_25 (by rfl) (by omega) (by omega) (fun h25 => ?_) (fun h25 => ?_)
      -- br 25 lv=6:n,5:n,0:r,1:n,2:r,3:n,4:n st=
      · refine aw_iload (pc := 67) X d_Mo_isNamed_67 (by rfl) ?_
        refine aw_zret Y X rfl (by decide +kernel) d_Mo_isNamed_69 (by omega) (by omega) (hP _ _ _ ?_)
        -- ret 69 lv=6:n,5:n,0:r,1:n,2:r,3:n,4:n st=n
        refine ⟨rfl, rfl, ?_⟩
        rw [decide_eq_true (show s = sl f u n by rw [h3, hs]; exact sl_congr (fun i' h => hall i' (by omega)))]
        rfl
      · omega
    | succ j ih =>
      intro k hk hs hall
      have b1 := hM.b421 (12 * i + k)
      have b2 := hff (u + k)
      refine aw_iload (pc := 21) X d_Mo_isNamed_21 (by rfl) ?_
      refine aw_iload (pc := 23) X d_Mo_isNamed_23 (by rfl) ?_
      refine aw_icmp_geN (pc := 25) X (tgt := 67) d_Mo_isNamed_25 (by rfl) (by omega) (by omega) (fun h25 => ?_) (fun h25 => ?_)
      -- br 25 lv=6:n,5:n,0:r,1:n,2:r,3:n,4:n st=
      · omega
      · refine aw_iload (pc := 28) X d_Mo_isNamed_28 (by rfl) ?_
        refine aw_if_eqN (pc := 30) X (tgt := 67) d_Mo_isNamed_30 (by rfl) (by omega) (fun h30 => ?_) (fun h30 => ?_)
        -- br 30 lv=6:n,5:n,0:r,1:n,2:r,3:n,4:n st=
        · exact absurd h30 (by decide)
        · refine aw_aload_nR (pc := 33) X d_Mo_isNamed_33 (by rfl) ?_
          refine gm_6 (pc := 34) X hM (by omega) d_Mo_isNamed_34 ?_
          refine aw_bipushN (pc := 37) X 12 d_Mo_isNamed_37 (by decide) ?_
          refine aw_iload_n (pc := 39) X d_Mo_isNamed_39 (by rfl) ?_
          refine aw_imulN (pc := 40) X d_Mo_isNamed_40 ?_
          refine aw_iload (pc := 41) X d_Mo_isNamed_41 (by rfl) ?_
          refine aw_iaddN (pc := 43) X d_Mo_isNamed_43 ?_
          refine aw_caldN (pc := 44) X 421 0 (by omega) hM.a421 (by rfl) (by omega) (by decide) d_Mo_isNamed_44 ?_
          refine aw_aload_nR (pc := 45) X d_Mo_isNamed_45 (by rfl) ?_
          refine aw_iload_n (pc := 46) X d_Mo_isNamed_46 (by rfl) ?_
          refine aw_iload (pc := 47) X d_Mo_isNamed_47 (by rfl) ?_
          refine aw_iaddN (pc := 49) X d_Mo_isNamed_49 ?_
          refine aw_caldN (pc := 50) X _ 0 (by omega) (by (repeat (first | rw [aw_up_eq] | rw [aw_up_ne _ _ (by first | assumption | omega)])) <;> first | assumption | rfl) (by rfl) (by omega) (by omega) d_Mo_isNamed_50 ?_
          refine aw_icmp_neN (pc := 51) X (tgt := 58) d_Mo_isNamed_51 (by rfl) (by omega) (by omega) (fun h51 => ?_) (fun h51 => ?_)
          -- br 51 lv=6:n,5:n,0:r,1:n,2:r,3:n,4:n st=
          · refine aw_iconstN (pc := 58) X 0 d_Mo_isNamed_58 (by decide) ?_
            refine aw_istore (pc := 59) X (lv' := [(5, _), (6, _), (0, _), (1, _), (2, _), (3, _), (4, _)]) d_Mo_isNamed_59 (by decide) (by rfl) ?_
            refine aw_iincN (pc := 61) X 1 (lv' := [(6, _), (5, _), (0, _), (1, _), (2, _), (3, _), (4, _)]) d_Mo_isNamed_61 (by rfl) (by decide) (by decide) (by rfl) ?_
            refine aw_goto (pc := 64) X (tgt := 21) d_Mo_isNamed_64 (by rfl) ?_
            -- stop 21 lv=6:n,5:n,0:r,1:n,2:r,3:n,4:n st=
            have hne : ¬ s = sl f u n := fun e => h51 (by
              rw [h3, hs] at e
              exact sl_eq.mp e k (by omega))
            refine aw_iload (pc := 21) X d_Mo_isNamed_21 (by rfl) ?_
            refine aw_iload (pc := 23) X d_Mo_isNamed_23 (by rfl) ?_
            refine aw_icmp_geN (pc := 25) X (tgt := 67) d_Mo_isNamed_25 (by rfl) (by omega) (by omega) (fun h25 => ?_) (fun h25 => ?_)
            -- br 25 lv=6:n,5:n,0:r,1:n,2:r,3:n,4:n st=
            · exact Zf _ hne
            · refine aw_iload (pc := 28) X d_Mo_isNamed_28 (by rfl) ?_
              refine aw_if_eqN (pc := 30) X (tgt := 67) d_Mo_isNamed_30 (by rfl) (by omega) (fun h30 => ?_) (fun h30 => ?_)
              -- br 30 lv=6:n,5:n,0:r,1:n,2:r,3:n,4:n st=
              · exact Zf _ hne
              · exact absurd rfl h30
          · refine aw_iconstN (pc := 54) X 1 d_Mo_isNamed_54 (by decide) ?_
            refine aw_goto (pc := 55) X (tgt := 59) d_Mo_isNamed_55 (by rfl) ?_
            refine aw_istore (pc := 59) X (lv' := [(5, _), (6, _), (0, _), (1, _), (2, _), (3, _), (4, _)]) d_Mo_isNamed_59 (by decide) (by rfl) ?_
            refine aw_iincN (pc := 61) X 1 (lv' := [(6, _), (5, _), (0, _), (1, _), (2, _), (3, _), (4, _)]) d_Mo_isNamed_61 (by rfl) (by decide) (by decide) (by rfl) ?_
            refine aw_goto (pc := 64) X (tgt := 21) d_Mo_isNamed_64 (by rfl) ?_
            -- stop 21 lv=6:n,5:n,0:r,1:n,2:r,3:n,4:n st=
            exact ih (k + 1) (by omega) hs (fun i' hi' => by
              by_cases e : i' = k
              · subst e; exact h51
              · exact hall i' (by omega))
  refine aw_aload_nR (pc := 0) X d_Mo_isNamed_0 (by rfl) ?_
  refine gm_7 (pc := 1) X hM (by omega) d_Mo_isNamed_1 ?_
  refine aw_iload_n (pc := 4) X d_Mo_isNamed_4 (by rfl) ?_
  refine aw_ialdN (pc := 5) X 422 1 (by omega) hM.a422 (by rfl) (by omega) (by decide) d_Mo_isNamed_5 ?_
  refine aw_iload (pc := 6) X d_Mo_isNamed_6 (by rfl) ?_
  refine aw_icmp_neN (pc := 8) X (tgt := 15) d_Mo_isNamed_8 (by rfl) (by omega) (by omega) (fun h8 => ?_) (fun h8 => ?_)
  -- br 8 lv=0:r,1:n,2:r,3:n,4:n st=
  · refine aw_iconstN (pc := 15) X 0 d_Mo_isNamed_15 (by decide) ?_
    refine aw_istore (pc := 16) X (lv' := [(5, _), (0, _), (1, _), (2, _), (3, _), (4, _)]) d_Mo_isNamed_16 (by decide) (by rfl) ?_
    refine aw_iconstN (pc := 18) X 0 d_Mo_isNamed_18 (by decide) ?_
    refine aw_istore (pc := 19) X (lv' := [(6, _), (5, _), (0, _), (1, _), (2, _), (3, _), (4, _)]) d_Mo_isNamed_19 (by decide) (by rfl) ?_
    -- stop 21 lv=6:n,5:n,0:r,1:n,2:r,3:n,4:n st=
    have hne : ¬ s = sl f u n := fun e => h8 (by rw [h1, e, sl_len])
    refine aw_iload (pc := 21) X d_Mo_isNamed_21 (by rfl) ?_
    refine aw_iload (pc := 23) X d_Mo_isNamed_23 (by rfl) ?_
    refine aw_icmp_geN (pc := 25) X (tgt := 67) d_Mo_isNamed_25 (by rfl) (by omega) (by omega) (fun h25 => ?_) (fun h25 => ?_)
    -- br 25 lv=6:n,5:n,0:r,1:n,2:r,3:n,4:n st=
    · exact Zf _ hne
    · refine aw_iload (pc := 28) X d_Mo_isNamed_28 (by rfl) ?_
      refine aw_if_eqN (pc := 30) X (tgt := 67) d_Mo_isNamed_30 (by rfl) (by omega) (fun h30 => ?_) (fun h30 => ?_)
      -- br 30 lv=6:n,5:n,0:r,1:n,2:r,3:n,4:n st=
      · exact Zf _ hne
      · exact absurd rfl h30
  · refine aw_iconstN (pc := 11) X 1 d_Mo_isNamed_11 (by decide) ?_
    refine aw_goto (pc := 12) X (tgt := 16) d_Mo_isNamed_12 (by rfl) ?_
    refine aw_istore (pc := 16) X (lv' := [(5, _), (0, _), (1, _), (2, _), (3, _), (4, _)]) d_Mo_isNamed_16 (by decide) (by rfl) ?_
    refine aw_iconstN (pc := 18) X 0 d_Mo_isNamed_18 (by decide) ?_
    refine aw_istore (pc := 19) X (lv' := [(6, _), (5, _), (0, _), (1, _), (2, _), (3, _), (4, _)]) d_Mo_isNamed_19 (by decide) (by rfl) ?_
    -- stop 21 lv=6:n,5:n,0:r,1:n,2:r,3:n,4:n st=
    exact L n 0 (by omega) (by omega) (fun i' h => by omega)
theorem s_Mo_find {q l u n : Nat} {f : Nat → Nat} {T : List Def} (hnx : 442 ≤ nx) (hd : 1 ≤ d) (hq : q < nx) (hl : l < 2 ^ 20) (hun : u + n ≤ l) (hff : ∀ j, f j < 65536) (hT : RT (m 5) (A 421) (A 422) (A 423) (A 424) (A 425) T) (hqq : w q = aCh G l f) (hM : hMo G w p m A V) : AC G y_Mo_find b_Mo_find 6 (some .int) d false [rf G 418, rf G q, .int (nI u), .int (nI n)] nx w 0 0 (fun r w' nx' => nx' = nx ∧ w' = w ∧ r = some (.int (pV (tfind T (sl f u n))))) := by
  obtain ⟨t1, t2, t3⟩ := hT
  refine AC.ofW (by decide) (Nat.le_of_ble_eq_true rfl) ?_
  intro E P hP Y X
  have X : aw_X G "RescanDeskModel" b_Mo_find 6 (some .int) "find" _ _ _ _ _ E := X
  refine AW.eql (lv' := [(0, _), (1, _), (2, _), (3, _)]) (by rfl) ?_
  have L : ∀ (j i : Nat), i + j = T.length → AW G E 6 nx 0 0 w 6 [(5, .int (nI i)), (4, .int (pV (tfd T (sl f u n) i))), (0, rf G 418), (1, rf G q), (2, .int (nI u)), (3, .int (nI n))] [] := by
    intro j
    induction j with
    | zero =>
      intro i hi
      refine aw_iload (pc := 6) X d_Mo_find_6 (by rfl) ?_
      refine aw_aload_nR (pc := 8) X d_Mo_find_8 (by rfl) ?_
      refine gm_5 (pc := 9) X hM (by omega) d_Mo_find_9 ?_
      refine aw_icmp_geN (pc := 12) X (tgt := 42) d_Mo_find_12 (by rfl) (by omega) (by omega) (fun h12 => ?_) (fun h12 => ?_)
      -- br 12 lv=5:n,4:i,0:r,1:r,2:n,3:n st=
      · refine aw_iload (pc := 42) X d_Mo_find_42 (by rfl) ?_
        refine aw_iret Y X rfl d_Mo_find_44 (by omega) (by omega) (hP _ _ _ ?_)
        -- ret 44 lv=5:n,4:i,0:r,1:r,2:n,3:n st=i
        refine ⟨rfl, rfl, ?_⟩
        rw [tfind, show i = T.length by omega]
      · omega
    | succ j ih =>
      intro i hi
      have hti : T[i]? = some T[i] := List.getElem?_eq_getElem (by omega)
      obtain ⟨d1, d2, d3, -⟩ := t3 i _ hti
      refine aw_iload (pc := 6) X d_Mo_find_6 (by rfl) ?_
      refine aw_aload_nR (pc := 8) X d_Mo_find_8 (by rfl) ?_
      refine gm_5 (pc := 9) X hM (by omega) d_Mo_find_9 ?_
      refine aw_icmp_geN (pc := 12) X (tgt := 42) d_Mo_find_12 (by rfl) (by omega) (by omega) (fun h12 => ?_) (fun h12 => ?_)
      -- br 12 lv=5:n,4:i,0:r,1:r,2:n,3:n st=
      · omega
      · refine aw_aload_nR (pc := 15) X d_Mo_find_15 (by rfl) ?_
        refine aw_iload (pc := 16) X d_Mo_find_16 (by rfl) ?_
        refine aw_aload_nR (pc := 18) X d_Mo_find_18 (by rfl) ?_
        refine aw_iload_n (pc := 19) X d_Mo_find_19 (by rfl) ?_
        refine aw_iload_n (pc := 20) X d_Mo_find_20 (by rfl) ?_
        -- invokevirtual 21 lv=5:n,4:i,0:r,1:r,2:n,3:n st=n,n,r,n,r
        refine aw_callV (pc := 21) X _ (s_Mo_isNamed (d := 0) (l := l) (s := T[i].1) hnx (by omega) hq hl hun d1 d2 d3 hff hqq hM) q_Mo_isNamed k_1037 k_1039 k_34 (by omega) hM.1 (by rfl) d_Mo_find_21 (by omega) (Nat.le_of_ble_eq_true rfl) ⟨by omega, by omega⟩ (fun h => by cases h) (fun r w nx hp => ?_)
        obtain ⟨rfl, rfl, rfl⟩ := hp
        have hb := bN_lt (decide (T[i].1 = sl f u n))
        refine aw_if_eqN (pc := 24) X (tgt := 32) d_Mo_find_24 (by rfl) (by omega) (fun h24 => ?_) (fun h24 => ?_)
        -- br 24 lv=5:n,4:i,0:r,1:r,2:n,3:n st=
        · have hne := of_decide_eq_false (bN_eq.mp h24)
          have e : tfd T (sl f u n) (i + 1) = tfd T (sl f u n) i := by rw [tfd, hti, if_neg (by simpa using hne)]
          refine aw_iload (pc := 32) X d_Mo_find_32 (by rfl) ?_
          refine aw_istore (pc := 34) X (lv' := [(4, _), (5, _), (0, _), (1, _), (2, _), (3, _)]) d_Mo_find_34 (by decide) (by rfl) ?_
          refine aw_iincN (pc := 36) X 1 (lv' := [(5, _), (4, _), (0, _), (1, _), (2, _), (3, _)]) d_Mo_find_36 (by rfl) (by decide) (by decide) (by rfl) ?_
          refine aw_goto (pc := 39) X (tgt := 6) d_Mo_find_39 (by rfl) ?_
          -- stop 6 lv=5:n,4:i,0:r,1:r,2:n,3:n st=
          rw [← e]
          exact ih (i + 1) (by omega)
        · have he := of_decide_eq_true (bN_ne.mp h24)
          have e : tfd T (sl f u n) (i + 1) = some i := by rw [tfd, hti, if_pos (by simpa using he)]
          refine aw_iload (pc := 27) X d_Mo_find_27 (by rfl) ?_
          refine aw_goto (pc := 29) X (tgt := 34) d_Mo_find_29 (by rfl) ?_
          refine aw_istore (pc := 34) X (lv' := [(4, _), (5, _), (0, _), (1, _), (2, _), (3, _)]) d_Mo_find_34 (by decide) (by rfl) ?_
          refine aw_iincN (pc := 36) X 1 (lv' := [(5, _), (4, _), (0, _), (1, _), (2, _), (3, _)]) d_Mo_find_36 (by rfl) (by decide) (by decide) (by rfl) ?_
          refine aw_goto (pc := 39) X (tgt := 6) d_Mo_find_39 (by rfl) ?_
          -- stop 6 lv=5:n,4:n,0:r,1:r,2:n,3:n st=
          rw [show nI i = pV (tfd T (sl f u n) (i + 1)) by rw [e]; rfl]
          exact ih (i + 1) (by omega)
  refine aw_iconst (pc := 0) X (v := -1) d_Mo_find_0 (by decide) ?_
  refine aw_istore (pc := 1) X (lv' := [(4, _), (0, _), (1, _), (2, _), (3, _)]) d_Mo_find_1 (by decide) (by rfl) ?_
  refine aw_iconstN (pc := 3) X 0 d_Mo_find_3 (by decide) ?_
  refine aw_istore (pc := 4) X (lv' := [(5, _), (4, _), (0, _), (1, _), (2, _), (3, _)]) d_Mo_find_4 (by decide) (by rfl) ?_
  -- stop 6 lv=5:n,4:i,0:r,1:r,2:n,3:n st=
  exact L T.length 0 (by omega)
theorem s_Mo_from {k : Nat} (hnx : 442 ≤ nx) (hd : 1 ≤ d) (hk : k < 100) (hY : RY A t ar) (hM : hMo G w p m A V) : AC G y_Mo_from b_Mo_from 2 (some .int) d false [rf G 418, .int (nI k)] nx w 0 0 (fun r w' nx' => nx' = nx ∧ w' = w ∧ r = some (.int (nI (mfr A k)))) := by
  have hn := hY.2.1
  have hn9 := hY.2.2.1
  refine AC.ofW (by decide) (Nat.le_of_ble_eq_true rfl) ?_
  intro E P hP Y X
  have X : aw_X G "RescanDeskModel" b_Mo_from 2 (some .int) "from" _ _ _ _ _ E := X
  refine AW.eql (lv' := [(0, _), (1, _)]) (by rfl) ?_
  refine aw_iload_n (pc := 0) X d_Mo_from_0 (by rfl) ?_
  refine aw_iconstN (pc := 1) X 1 d_Mo_from_1 (by decide) ?_
  refine aw_aload_nR (pc := 2) X d_Mo_from_2 (by rfl) ?_
  refine gm_17 (pc := 3) X hM (by omega) d_Mo_from_3 ?_
  refine aw_bipushN (pc := 6) X 12 d_Mo_from_6 (by decide) ?_
  refine aw_ialdN (pc := 8) X 431 1 (by omega) hM.a431 (by rfl) (by omega) (by decide) d_Mo_from_8 ?_
  -- invokestatic 9 lv=0:r,1:n st=n,n,n
  refine aw_callS (pc := 9) X (c_Mo_in (d := 0) (x := nI k) (lo := nI 1) (hi := nI (A 431 12))) q_Mo_in k_996 k_997 d_Mo_from_9 (by omega) (Nat.le_of_ble_eq_true rfl) ⟨by omega, by omega⟩ (fun h => by cases h) (fun r w nx hp => ?_)
  obtain ⟨rfl, rfl, rfl⟩ := hp
  have hb := bN_lt (decide (nI 1 ≤ nI k ∧ nI k ≤ nI (A 431 12)))
  refine aw_if_eqN (pc := 12) X (tgt := 28) d_Mo_from_12 (by rfl) (by omega) (fun h12 => ?_) (fun h12 => ?_)
  -- br 12 lv=0:r,1:n st=
  · have hne := of_decide_eq_false (bN_eq.mp h12)
    rw [nILE (by omega) (by omega), nILE (by omega) (by omega)] at hne
    refine aw_iconstN (pc := 28) X 0 d_Mo_from_28 (by decide) ?_
    refine aw_iret Y X rfl d_Mo_from_29 (by omega) (by omega) (hP _ _ _ ?_)
    -- ret 29 lv=0:r,1:n st=n
    exact ⟨rfl, rfl, by rw [mfr, if_neg hne]⟩
  · have he := of_decide_eq_true (bN_ne.mp h12)
    rw [nILE (by omega) (by omega), nILE (by omega) (by omega)] at he
    refine aw_aload_nR (pc := 15) X d_Mo_from_15 (by rfl) ?_
    refine gm_18 (pc := 16) X hM (by omega) d_Mo_from_16 ?_
    refine aw_sipushN (pc := 19) X 131 d_Mo_from_19 (by decide) ?_
    refine aw_iload_n (pc := 22) X d_Mo_from_22 (by rfl) ?_
    refine aw_iaddN (pc := 23) X d_Mo_from_23 ?_
    refine aw_ialdN (pc := 24) X 432 1 (by omega) hM.a432 (by rfl) (by omega) (by decide) d_Mo_from_24 ?_
    refine aw_goto (pc := 25) X (tgt := 29) d_Mo_from_25 (by rfl) ?_
    refine aw_iret Y X rfl d_Mo_from_29 (by omega) (by omega) (hP _ _ _ ?_)
    -- ret 29 lv=0:r,1:n st=n
    exact ⟨rfl, rfl, by rw [mfr, if_pos he]⟩
theorem s_Mo_length {k : Nat} (hnx : 442 ≤ nx) (hd : 1 ≤ d) (hk : k < 100) (hY : RY A t ar) (hM : hMo G w p m A V) : AC G y_Mo_length b_Mo_length 2 (some .int) d false [rf G 418, .int (nI k)] nx w 0 0 (fun r w' nx' => nx' = nx ∧ w' = w ∧ r = some (.int (nI (argOf ar k).length))) := by
  have hn := hY.2.1
  have hn9 := hY.2.2.1
  refine AC.ofW (by decide) (Nat.le_of_ble_eq_true rfl) ?_
  intro E P hP Y X
  have X : aw_X G "RescanDeskModel" b_Mo_length 2 (some .int) "length" _ _ _ _ _ E := X
  refine AW.eql (lv' := [(0, _), (1, _)]) (by rfl) ?_
  refine aw_iload_n (pc := 0) X d_Mo_length_0 (by rfl) ?_
  refine aw_iconstN (pc := 1) X 1 d_Mo_length_1 (by decide) ?_
  refine aw_aload_nR (pc := 2) X d_Mo_length_2 (by rfl) ?_
  refine gm_17 (pc := 3) X hM (by omega) d_Mo_length_3 ?_
  refine aw_bipushN (pc := 6) X 12 d_Mo_length_6 (by decide) ?_
  refine aw_ialdN (pc := 8) X 431 1 (by omega) hM.a431 (by rfl) (by omega) (by decide) d_Mo_length_8 ?_
  -- invokestatic 9 lv=0:r,1:n st=n,n,n
  refine aw_callS (pc := 9) X (c_Mo_in (d := 0) (x := nI k) (lo := nI 1) (hi := nI (A 431 12))) q_Mo_in k_996 k_997 d_Mo_length_9 (by omega) (Nat.le_of_ble_eq_true rfl) ⟨by omega, by omega⟩ (fun h => by cases h) (fun r w nx hp => ?_)
  obtain ⟨rfl, rfl, rfl⟩ := hp
  have hb := bN_lt (decide (nI 1 ≤ nI k ∧ nI k ≤ nI (A 431 12)))
  refine aw_if_eqN (pc := 12) X (tgt := 39) d_Mo_length_12 (by rfl) (by omega) (fun h12 => ?_) (fun h12 => ?_)
  -- br 12 lv=0:r,1:n st=
  · have hne := of_decide_eq_false (bN_eq.mp h12)
    rw [nILE (by omega) (by omega), nILE (by omega) (by omega)] at hne
    refine aw_iconstN (pc := 39) X 0 d_Mo_length_39 (by decide) ?_
    refine aw_iret Y X rfl d_Mo_length_40 (by omega) (by omega) (hP _ _ _ ?_)
    -- ret 40 lv=0:r,1:n st=n
    exact ⟨rfl, rfl, by rw [argOf, if_neg (by omega)]; rfl⟩
  · have he := of_decide_eq_true (bN_ne.mp h12)
    rw [nILE (by omega) (by omega), nILE (by omega) (by omega)] at he
    obtain ⟨a1, a2, a3⟩ := hY.2.2.2 k he.1 (by omega)
    refine aw_aload_nR (pc := 15) X d_Mo_length_15 (by rfl) ?_
    refine gm_18 (pc := 16) X hM (by omega) d_Mo_length_16 ?_
    refine aw_sipushN (pc := 19) X 132 d_Mo_length_19 (by decide) ?_
    refine aw_iload_n (pc := 22) X d_Mo_length_22 (by rfl) ?_
    refine aw_iaddN (pc := 23) X d_Mo_length_23 ?_
    refine aw_ialdN (pc := 24) X 432 1 (by omega) hM.a432 (by rfl) (by omega) (by decide) d_Mo_length_24 ?_
    refine aw_aload_nR (pc := 25) X d_Mo_length_25 (by rfl) ?_
    refine gm_18 (pc := 26) X hM (by omega) d_Mo_length_26 ?_
    refine aw_sipushN (pc := 29) X 131 d_Mo_length_29 (by decide) ?_
    refine aw_iload_n (pc := 32) X d_Mo_length_32 (by rfl) ?_
    refine aw_iaddN (pc := 33) X d_Mo_length_33 ?_
    refine aw_ialdN (pc := 34) X 432 1 (by omega) hM.a432 (by rfl) (by omega) (by decide) d_Mo_length_34 ?_
    refine aw_isubN (pc := 35) X d_Mo_length_35 (by omega) ?_
    refine aw_goto (pc := 36) X (tgt := 40) d_Mo_length_36 (by rfl) ?_
    refine aw_iret Y X rfl d_Mo_length_40 (by omega) (by omega) (hP _ _ _ ?_)
    -- ret 40 lv=0:r,1:n st=n
    exact ⟨rfl, rfl, by rw [a3, sl_len]⟩
theorem s_Mo_areEqual {a b : Nat} (hnx : 442 ≤ nx) (hd : 2 ≤ d) (ha : a < 100) (hb : b < 100) (hY : RY A t ar) (hM : hMo G w p m A V) : AC G y_Mo_areEqual b_Mo_areEqual 5 (some .boolean) d false [rf G 418, .int (nI a), .int (nI b)] nx w 0 0 (fun r w' nx' => nx' = nx ∧ w' = w ∧ r = some (.int (nI (bN (decide (argOf ar a = argOf ar b)))))) := by
  obtain ⟨a1, a2⟩ := hY.arg a
  obtain ⟨b1, b2⟩ := hY.arg b
  refine AC.ofW (by decide) (Nat.le_of_ble_eq_true rfl) ?_
  intro E P hP Y X
  have X : aw_X G "RescanDeskModel" b_Mo_areEqual 5 (some .boolean) "areEqual" _ _ _ _ _ E := X
  refine AW.eql (lv' := [(0, _), (1, _), (2, _)]) (by rfl) ?_
  have Zf : ∀ k, ¬ argOf ar a = argOf ar b → AW G E 5 nx 0 0 w 77 [(4, .int (nI k)), (3, .int (nI 0)), (0, rf G 418), (1, .int (nI a)), (2, .int (nI b))] [] := by
    intro k hne
    refine aw_iload_n (pc := 77) X d_Mo_areEqual_77 (by rfl) ?_
    refine aw_zret Y X rfl (by decide +kernel) d_Mo_areEqual_78 (by omega) (by omega) (hP _ _ _ ?_)
    -- ret 78 lv=4:n,3:n,0:r,1:n,2:n st=n
    exact ⟨rfl, rfl, by rw [decide_eq_false hne]; rfl⟩
  have Zs : ∀ k, k < 2 ^ 31 → ¬ argOf ar a = argOf ar b → AW G E 5 nx 0 0 w 22 [(4, .int (nI k)), (3, .int (nI 0)), (0, rf G 418), (1, .int (nI a)), (2, .int (nI b))] [] := by
    intro k hk hne
    refine aw_iload (pc := 22) X d_Mo_areEqual_22 (by rfl) ?_
    refine aw_aload_nR (pc := 24) X d_Mo_areEqual_24 (by rfl) ?_
    refine aw_iload_n (pc := 25) X d_Mo_areEqual_25 (by rfl) ?_
    -- invokevirtual 26 lv=4:n,3:n,0:r,1:n,2:n st=n,r,n
    refine aw_callV (pc := 26) X _ (s_Mo_length (d := 1) hnx (by omega) ha hY hM) q_Mo_length k_1071 k_1073 k_42 (by omega) hM.1 (by rfl) d_Mo_areEqual_26 (by omega) (Nat.le_of_ble_eq_true rfl) ⟨by omega, by omega⟩ (fun h => by cases h) (fun r w nx hp => ?_)
    obtain ⟨rfl, rfl, rfl⟩ := hp
    refine aw_icmp_geN (pc := 29) X (tgt := 77) d_Mo_areEqual_29 (by rfl) (by omega) (by omega) (fun h29 => ?_) (fun h29 => ?_)
    -- br 29 lv=4:n,3:n,0:r,1:n,2:n st=
    · exact Zf _ hne
    · refine aw_iload_n (pc := 32) X d_Mo_areEqual_32 (by rfl) ?_
      refine aw_if_eqN (pc := 33) X (tgt := 77) d_Mo_areEqual_33 (by rfl) (by omega) (fun h33 => ?_) (fun h33 => ?_)
      -- br 33 lv=4:n,3:n,0:r,1:n,2:n st=
      · exact Zf _ hne
      · exact absurd rfl h33
  have L : ∀ (j k : Nat), k + j = (argOf ar a).length → (argOf ar a).length = (argOf ar b).length → (∀ i', i' < k → A 435 (mfr A a + i') = A 435 (mfr A b + i')) → AW G E 5 nx 0 0 w 22 [(4, .int (nI k)), (3, .int (nI 1)), (0, rf G 418), (1, .int (nI a)), (2, .int (nI b))] [] := by
    intro j
    induction j with
    | zero =>
      intro k hk hs hall
      refine aw_iload (pc := 22) X d_Mo_areEqual_22 (by rfl) ?_
      refine aw_aload_nR (pc := 24) X d_Mo_areEqual_24 (by rfl) ?_
      refine aw_iload_n (pc := 25) X d_Mo_areEqual_25 (by rfl) ?_
      -- invokevirtual 26 lv=4:n,3:n,0:r,1:n,2:n st=n,r,n
      refine aw_callV (pc := 26) X _ (s_Mo_length (d := 1) hnx (by omega) ha hY hM) q_Mo_length k_1071 k_1073 k_42 (by omega) hM.1 (by rfl) d_Mo_areEqual_26 (by omega) (Nat.le_of_ble_eq_true rfl) ⟨by omega, by omega⟩ (fun h => by cases h) (fun r w nx hp => ?_)
      obtain ⟨rfl, rfl, rfl⟩ := hp
      refine aw_icmp_geN (pc := 29) X (tgt := 77) d_Mo_areEqual_29 (by rfl) (by omega) (by omega) (fun h29 => ?_) (fun h29 => ?_)
      -- br 29 lv=4:n,3:n,0:r,1:n,2:n st=
      · refine aw_iload_n (pc := 77) X d_Mo_areEqual_77 (by rfl) ?_
        refine aw_zret Y X rfl (by decide +kernel) d_Mo_areEqual_78 (by omega) (by omega) (hP _ _ _ ?_)
        -- ret 78 lv=4:n,3:n,0:r,1:n,2:n st=n
        refine ⟨rfl, rfl, ?_⟩
        rw [decide_eq_true (show argOf ar a = argOf ar b by rw [a1, b1, ← hs]; exact sl_congr (fun i' h => hall i' (by omega)))]
        rfl
      · omega
    | succ j ih =>
      intro k hk hs hall
      have c1 := hM.b435 (mfr A a + k)
      have c2 := hM.b435 (mfr A b + k)
      refine aw_iload (pc := 22) X d_Mo_areEqual_22 (by rfl) ?_
      refine aw_aload_nR (pc := 24) X d_Mo_areEqual_24 (by rfl) ?_
      refine aw_iload_n (pc := 25) X d_Mo_areEqual_25 (by rfl) ?_
      -- invokevirtual 26 lv=4:n,3:n,0:r,1:n,2:n st=n,r,n
      refine aw_callV (pc := 26) X _ (s_Mo_length (d := 1) hnx (by omega) ha hY hM) q_Mo_length k_1071 k_1073 k_42 (by omega) hM.1 (by rfl) d_Mo_areEqual_26 (by omega) (Nat.le_of_ble_eq_true rfl) ⟨by omega, by omega⟩ (fun h => by cases h) (fun r w nx hp => ?_)
      obtain ⟨rfl, rfl, rfl⟩ := hp
      refine aw_icmp_geN (pc := 29) X (tgt := 77) d_Mo_areEqual_29 (by rfl) (by omega) (by omega) (fun h29 => ?_) (fun h29 => ?_)
      -- br 29 lv=4:n,3:n,0:r,1:n,2:n st=
      · omega
      · refine aw_iload_n (pc := 32) X d_Mo_areEqual_32 (by rfl) ?_
        refine aw_if_eqN (pc := 33) X (tgt := 77) d_Mo_areEqual_33 (by rfl) (by omega) (fun h33 => ?_) (fun h33 => ?_)
        -- br 33 lv=4:n,3:n,0:r,1:n,2:n st=
        · exact absurd h33 (by decide)
        · refine aw_aload_nR (pc := 36) X d_Mo_areEqual_36 (by rfl) ?_
          refine gm_22 (pc := 37) X hM (by omega) d_Mo_areEqual_37 ?_
          refine aw_aload_nR (pc := 40) X d_Mo_areEqual_40 (by rfl) ?_
          refine aw_iload_n (pc := 41) X d_Mo_areEqual_41 (by rfl) ?_
          -- invokevirtual 42 lv=4:n,3:n,0:r,1:n,2:n st=n,r,a435
          refine aw_callV (pc := 42) X _ (s_Mo_from (d := 1) hnx (by omega) ha hY hM) q_Mo_from k_1075 k_1077 k_43 (by omega) hM.1 (by rfl) d_Mo_areEqual_42 (by omega) (Nat.le_of_ble_eq_true rfl) ⟨by omega, by omega⟩ (fun h => by cases h) (fun r w nx hp => ?_)
          obtain ⟨rfl, rfl, rfl⟩ := hp
          refine aw_iload (pc := 45) X d_Mo_areEqual_45 (by rfl) ?_
          refine aw_iaddN (pc := 47) X d_Mo_areEqual_47 ?_
          refine aw_caldN (pc := 48) X 435 0 (by omega) hM.a435 (by rfl) (by omega) (by decide) d_Mo_areEqual_48 ?_
          refine aw_aload_nR (pc := 49) X d_Mo_areEqual_49 (by rfl) ?_
          refine gm_22 (pc := 50) X hM (by omega) d_Mo_areEqual_50 ?_
          refine aw_aload_nR (pc := 53) X d_Mo_areEqual_53 (by rfl) ?_
          refine aw_iload_n (pc := 54) X d_Mo_areEqual_54 (by rfl) ?_
          -- invokevirtual 55 lv=4:n,3:n,0:r,1:n,2:n st=n,r,a435,n
          refine aw_callV (pc := 55) X _ (s_Mo_from (d := 1) hnx (by omega) hb hY hM) q_Mo_from k_1075 k_1077 k_43 (by omega) hM.1 (by rfl) d_Mo_areEqual_55 (by omega) (Nat.le_of_ble_eq_true rfl) ⟨by omega, by omega⟩ (fun h => by cases h) (fun r w nx hp => ?_)
          obtain ⟨rfl, rfl, rfl⟩ := hp
          refine aw_iload (pc := 58) X d_Mo_areEqual_58 (by rfl) ?_
          refine aw_iaddN (pc := 60) X d_Mo_areEqual_60 ?_
          refine aw_caldN (pc := 61) X 435 0 (by omega) hM.a435 (by rfl) (by omega) (by decide) d_Mo_areEqual_61 ?_
          refine aw_icmp_neN (pc := 62) X (tgt := 69) d_Mo_areEqual_62 (by rfl) (by omega) (by omega) (fun h62 => ?_) (fun h62 => ?_)
          -- br 62 lv=4:n,3:n,0:r,1:n,2:n st=
          · refine aw_iconstN (pc := 69) X 0 d_Mo_areEqual_69 (by decide) ?_
            refine aw_istore_n (pc := 70) X (lv' := [(3, _), (4, _), (0, _), (1, _), (2, _)]) d_Mo_areEqual_70 (by decide) (by rfl) ?_
            refine aw_iincN (pc := 71) X 1 (lv' := [(4, _), (3, _), (0, _), (1, _), (2, _)]) d_Mo_areEqual_71 (by rfl) (by decide) (by decide) (by rfl) ?_
            refine aw_goto (pc := 74) X (tgt := 22) d_Mo_areEqual_74 (by rfl) ?_
            -- stop 22 lv=4:n,3:n,0:r,1:n,2:n st=
            have hne : ¬ argOf ar a = argOf ar b := fun e => h62 (by
              rw [a1, b1, ← hs] at e
              exact sl_eq.mp e k (by omega))
            exact Zs _ (by omega) hne
          · refine aw_iconstN (pc := 65) X 1 d_Mo_areEqual_65 (by decide) ?_
            refine aw_goto (pc := 66) X (tgt := 70) d_Mo_areEqual_66 (by rfl) ?_
            refine aw_istore_n (pc := 70) X (lv' := [(3, _), (4, _), (0, _), (1, _), (2, _)]) d_Mo_areEqual_70 (by decide) (by rfl) ?_
            refine aw_iincN (pc := 71) X 1 (lv' := [(4, _), (3, _), (0, _), (1, _), (2, _)]) d_Mo_areEqual_71 (by rfl) (by decide) (by decide) (by rfl) ?_
            refine aw_goto (pc := 74) X (tgt := 22) d_Mo_areEqual_74 (by rfl) ?_
            -- stop 22 lv=4:n,3:n,0:r,1:n,2:n st=
            exact ih (k + 1) (by omega) hs (fun i' hi' => by
              by_cases e : i' = k
              · subst e; exact h62
              · exact hall i' (by omega))
  refine aw_aload_nR (pc := 0) X d_Mo_areEqual_0 (by rfl) ?_
  refine aw_iload_n (pc := 1) X d_Mo_areEqual_1 (by rfl) ?_
  -- invokevirtual 2 lv=0:r,1:n,2:n st=n,r
  refine aw_callV (pc := 2) X _ (s_Mo_length (d := 1) hnx (by omega) ha hY hM) q_Mo_length k_1071 k_1073 k_42 (by omega) hM.1 (by rfl) d_Mo_areEqual_2 (by omega) (Nat.le_of_ble_eq_true rfl) ⟨by omega, by omega⟩ (fun h => by cases h) (fun r w nx hp => ?_)
  obtain ⟨rfl, rfl, rfl⟩ := hp
  refine aw_aload_nR (pc := 5) X d_Mo_areEqual_5 (by rfl) ?_
  refine aw_iload_n (pc := 6) X d_Mo_areEqual_6 (by rfl) ?_
  -- invokevirtual 7 lv=0:r,1:n,2:n st=n,r,n
  refine aw_callV (pc := 7) X _ (s_Mo_length (d := 1) hnx (by omega) hb hY hM) q_Mo_length k_1071 k_1073 k_42 (by omega) hM.1 (by rfl) d_Mo_areEqual_7 (by omega) (Nat.le_of_ble_eq_true rfl) ⟨by omega, by omega⟩ (fun h => by cases h) (fun r w nx hp => ?_)
  obtain ⟨rfl, rfl, rfl⟩ := hp
  refine aw_icmp_neN (pc := 10) X (tgt := 17) d_Mo_areEqual_10 (by rfl) (by omega) (by omega) (fun h10 => ?_) (fun h10 => ?_)
  -- br 10 lv=0:r,1:n,2:n st=
  · refine aw_iconstN (pc := 17) X 0 d_Mo_areEqual_17 (by decide) ?_
    refine aw_istore_n (pc := 18) X (lv' := [(3, _), (0, _), (1, _), (2, _)]) d_Mo_areEqual_18 (by decide) (by rfl) ?_
    refine aw_iconstN (pc := 19) X 0 d_Mo_areEqual_19 (by decide) ?_
    refine aw_istore (pc := 20) X (lv' := [(4, _), (3, _), (0, _), (1, _), (2, _)]) d_Mo_areEqual_20 (by decide) (by rfl) ?_
    -- stop 22 lv=4:n,3:n,0:r,1:n,2:n st=
    exact Zs _ (by decide) (fun e => h10 (by rw [e]))
  · refine aw_iconstN (pc := 13) X 1 d_Mo_areEqual_13 (by decide) ?_
    refine aw_goto (pc := 14) X (tgt := 18) d_Mo_areEqual_14 (by rfl) ?_
    refine aw_istore_n (pc := 18) X (lv' := [(3, _), (0, _), (1, _), (2, _)]) d_Mo_areEqual_18 (by decide) (by rfl) ?_
    refine aw_iconstN (pc := 19) X 0 d_Mo_areEqual_19 (by decide) ?_
    refine aw_istore (pc := 20) X (lv' := [(4, _), (3, _), (0, _), (1, _), (2, _)]) d_Mo_areEqual_20 (by decide) (by rfl) ?_
    -- stop 22 lv=4:n,3:n,0:r,1:n,2:n st=
    exact L _ 0 (Nat.zero_add _) h10 (fun i' h => by omega)
theorem s_Mo_isName {a : Nat} (hnx : 442 ≤ nx) (hd : 2 ≤ d) (ha : a < 100) (hY : RY A t ar) (hM : hMo G w p m A V) : AC G y_Mo_isName b_Mo_isName 4 (some .boolean) d false [rf G 418, .int (nI a)] nx w 0 0 (fun r w' nx' => nx' = nx ∧ w' = w ∧ r = some (.int (nI (bN (isNm (argOf ar a)))))) := by
  obtain ⟨a1, a2⟩ := hY.arg a
  refine AC.ofW (by decide) (Nat.le_of_ble_eq_true rfl) ?_
  intro E P hP Y X
  have X : aw_X G "RescanDeskModel" b_Mo_isName 4 (some .boolean) "isName" _ _ _ _ _ E := X
  refine AW.eql (lv' := [(0, _), (1, _)]) (by rfl) ?_
  have Zs : ∀ k, k < 2 ^ 31 → isNm (argOf ar a) = false → AW G E 4 nx 0 0 w 32 [(3, .int (nI k)), (2, .int (nI 0)), (0, rf G 418), (1, .int (nI a))] [] := by
    intro k hk hne
    refine aw_iload_n (pc := 32) X d_Mo_isName_32 (by rfl) ?_
    refine aw_aload_nR (pc := 33) X d_Mo_isName_33 (by rfl) ?_
    refine aw_iload_n (pc := 34) X d_Mo_isName_34 (by rfl) ?_
    -- invokevirtual 35 lv=3:n,2:n,0:r,1:n st=n,r,n
    refine aw_callV (pc := 35) X _ (s_Mo_length (d := 1) hnx (by omega) ha hY hM) q_Mo_length k_1071 k_1073 k_42 (by omega) hM.1 (by rfl) d_Mo_isName_35 (by omega) (Nat.le_of_ble_eq_true rfl) ⟨by omega, by omega⟩ (fun h => by cases h) (fun r w nx hp => ?_)
    obtain ⟨rfl, rfl, rfl⟩ := hp
    refine aw_icmp_geN (pc := 38) X (tgt := 93) d_Mo_isName_38 (by rfl) (by omega) (by omega) (fun h38 => ?_) (fun h38 => ?_)
    -- br 38 lv=3:n,2:n,0:r,1:n st=
    · refine aw_iload_n (pc := 93) X d_Mo_isName_93 (by rfl) ?_
      refine aw_zret Y X rfl (by decide +kernel) d_Mo_isName_94 (by omega) (by omega) (hP _ _ _ ?_)
      -- ret 94 lv=3:n,2:n,0:r,1:n st=n
      exact ⟨rfl, rfl, by rw [hne]; rfl⟩
    · refine aw_iload_n (pc := 41) X d_Mo_isName_41 (by rfl) ?_
      refine aw_if_eqN (pc := 42) X (tgt := 93) d_Mo_isName_42 (by rfl) (by omega) (fun h42 => ?_) (fun h42 => ?_)
      -- br 42 lv=3:n,2:n,0:r,1:n st=
      · refine aw_iload_n (pc := 93) X d_Mo_isName_93 (by rfl) ?_
        refine aw_zret Y X rfl (by decide +kernel) d_Mo_isName_94 (by omega) (by omega) (hP _ _ _ ?_)
        -- ret 94 lv=3:n,2:n,0:r,1:n st=n
        exact ⟨rfl, rfl, by rw [hne]; rfl⟩
      · exact absurd rfl h42
  have L : ∀ (c : Nat) (r : List Nat), argOf ar a = c :: r → isLet c = true → ∀ (j k : Nat), k + j = (argOf ar a).length → (∀ i', i' < k → isLD (A 435 (mfr A a + i')) = true) → AW G E 4 nx 0 0 w 32 [(3, .int (nI k)), (2, .int (nI 1)), (0, rf G 418), (1, .int (nI a))] [] := by
    intro c r hcr hlc j
    have hlen : (argOf ar a).length = r.length + 1 := by rw [hcr]; rfl
    have hr : r = sl (A 435) (mfr A a + 1) r.length := by
      have e := a1
      rw [hlen, sl_cons, hcr] at e
      exact (List.cons.inj e).2
    induction j with
    | zero =>
      intro k hk hall
      refine aw_iload_n (pc := 32) X d_Mo_isName_32 (by rfl) ?_
      refine aw_aload_nR (pc := 33) X d_Mo_isName_33 (by rfl) ?_
      refine aw_iload_n (pc := 34) X d_Mo_isName_34 (by rfl) ?_
      -- invokevirtual 35 lv=3:n,2:n,0:r,1:n st=n,r,n
      refine aw_callV (pc := 35) X _ (s_Mo_length (d := 1) hnx (by omega) ha hY hM) q_Mo_length k_1071 k_1073 k_42 (by omega) hM.1 (by rfl) d_Mo_isName_35 (by omega) (Nat.le_of_ble_eq_true rfl) ⟨by omega, by omega⟩ (fun h => by cases h) (fun r w nx hp => ?_)
      obtain ⟨rfl, rfl, rfl⟩ := hp
      refine aw_icmp_geN (pc := 38) X (tgt := 93) d_Mo_isName_38 (by rfl) (by omega) (by omega) (fun h38 => ?_) (fun h38 => ?_)
      -- br 38 lv=3:n,2:n,0:r,1:n st=
      · refine aw_iload_n (pc := 93) X d_Mo_isName_93 (by rfl) ?_
        refine aw_zret Y X rfl (by decide +kernel) d_Mo_isName_94 (by omega) (by omega) (hP _ _ _ ?_)
        -- ret 94 lv=3:n,2:n,0:r,1:n st=n
        refine ⟨rfl, rfl, ?_⟩
        have hall2 : r.all isLD = true := by
          rw [hr, sl]
          simp only [List.all_eq_true, List.mem_map, List.mem_range]
          rintro x ⟨i, hi, rfl⟩
          have := hall (1 + i) (by omega)
          rwa [← Nat.add_assoc] at this
        rw [hcr, nm_cons, hlc, hall2]
        rfl
      · omega
    | succ j ih =>
      intro k hk hall
      have c1 := hM.b435 (mfr A a + k)
      have hLD : isLD (A 435 (mfr A a + k)) = (isLet (A 435 (mfr A a + k)) || isDig (A 435 (mfr A a + k))) := rfl
      have hbl := bN_lt (isLet (A 435 (mfr A a + k)))
      have hbd := bN_lt (isDig (A 435 (mfr A a + k)))
      have step : isLD (A 435 (mfr A a + k)) = true → AW G E 4 nx 0 0 w 81 [(3, .int (nI k)), (2, .int (nI 1)), (0, rf G 418), (1, .int (nI a))] [] := by
        intro hz
        refine aw_iconstN (pc := 81) X 1 d_Mo_isName_81 (by decide) ?_
        refine aw_goto (pc := 82) X (tgt := 86) d_Mo_isName_82 (by rfl) ?_
        refine aw_istore_n (pc := 86) X (lv' := [(2, _), (3, _), (0, _), (1, _)]) d_Mo_isName_86 (by decide) (by rfl) ?_
        refine aw_iincN (pc := 87) X 1 (lv' := [(3, _), (2, _), (0, _), (1, _)]) d_Mo_isName_87 (by rfl) (by decide) (by decide) (by rfl) ?_
        refine aw_goto (pc := 90) X (tgt := 32) d_Mo_isName_90 (by rfl) ?_
        -- stop 32 lv=3:n,2:n,0:r,1:n st=
        exact ih (k + 1) (by omega) (fun i' hi' => by
          by_cases e : i' = k
          · subst e; exact hz
          · exact hall i' (by omega))
      refine aw_iload_n (pc := 32) X d_Mo_isName_32 (by rfl) ?_
      refine aw_aload_nR (pc := 33) X d_Mo_isName_33 (by rfl) ?_
      refine aw_iload_n (pc := 34) X d_Mo_isName_34 (by rfl) ?_
      -- invokevirtual 35 lv=3:n,2:n,0:r,1:n st=n,r,n
      refine aw_callV (pc := 35) X _ (s_Mo_length (d := 1) hnx (by omega) ha hY hM) q_Mo_length k_1071 k_1073 k_42 (by omega) hM.1 (by rfl) d_Mo_isName_35 (by omega) (Nat.le_of_ble_eq_true rfl) ⟨by omega, by omega⟩ (fun h => by cases h) (fun r w nx hp => ?_)
      obtain ⟨rfl, rfl, rfl⟩ := hp
      refine aw_icmp_geN (pc := 38) X (tgt := 93) d_Mo_isName_38 (by rfl) (by omega) (by omega) (fun h38 => ?_) (fun h38 => ?_)
      -- br 38 lv=3:n,2:n,0:r,1:n st=
      · omega
      · refine aw_iload_n (pc := 41) X d_Mo_isName_41 (by rfl) ?_
        refine aw_if_eqN (pc := 42) X (tgt := 93) d_Mo_isName_42 (by rfl) (by omega) (fun h42 => ?_) (fun h42 => ?_)
        -- br 42 lv=3:n,2:n,0:r,1:n st=
        · exact absurd h42 (by decide)
        · refine aw_aload_nR (pc := 45) X d_Mo_isName_45 (by rfl) ?_
          refine gm_22 (pc := 46) X hM (by omega) d_Mo_isName_46 ?_
          refine aw_aload_nR (pc := 49) X d_Mo_isName_49 (by rfl) ?_
          refine aw_iload_n (pc := 50) X d_Mo_isName_50 (by rfl) ?_
          -- invokevirtual 51 lv=3:n,2:n,0:r,1:n st=n,r,a435
          refine aw_callV (pc := 51) X _ (s_Mo_from (d := 1) hnx (by omega) ha hY hM) q_Mo_from k_1075 k_1077 k_43 (by omega) hM.1 (by rfl) d_Mo_isName_51 (by omega) (Nat.le_of_ble_eq_true rfl) ⟨by omega, by omega⟩ (fun h => by cases h) (fun r w nx hp => ?_)
          obtain ⟨rfl, rfl, rfl⟩ := hp
          refine aw_iload_n (pc := 54) X d_Mo_isName_54 (by rfl) ?_
          refine aw_iaddN (pc := 55) X d_Mo_isName_55 ?_
          refine aw_caldN (pc := 56) X 435 0 (by omega) hM.a435 (by rfl) (by omega) (by decide) d_Mo_isName_56 ?_
          -- invokestatic 57 lv=3:n,2:n,0:r,1:n st=n
          refine aw_callS (pc := 57) X (c_Mo_isLetter (d := 0) c1) q_Mo_isLetter k_1023 k_1024 d_Mo_isName_57 (by omega) (Nat.le_of_ble_eq_true rfl) ⟨by omega, by omega⟩ (fun h => by cases h) (fun r w nx hp => ?_)
          obtain ⟨rfl, rfl, rfl⟩ := hp
          refine aw_if_neN (pc := 60) X (tgt := 81) d_Mo_isName_60 (by rfl) (by omega) (fun h60 => ?_) (fun h60 => ?_)
          -- br 60 lv=3:n,2:n,0:r,1:n st=
          · exact step (by rw [hLD, bN_ne.mp h60]; rfl)
          · refine aw_aload_nR (pc := 63) X d_Mo_isName_63 (by rfl) ?_
            refine gm_22 (pc := 64) X hM (by omega) d_Mo_isName_64 ?_
            refine aw_aload_nR (pc := 67) X d_Mo_isName_67 (by rfl) ?_
            refine aw_iload_n (pc := 68) X d_Mo_isName_68 (by rfl) ?_
            -- invokevirtual 69 lv=3:n,2:n,0:r,1:n st=n,r,a435
            refine aw_callV (pc := 69) X _ (s_Mo_from (d := 1) hnx (by omega) ha hY hM) q_Mo_from k_1075 k_1077 k_43 (by omega) hM.1 (by rfl) d_Mo_isName_69 (by omega) (Nat.le_of_ble_eq_true rfl) ⟨by omega, by omega⟩ (fun h => by cases h) (fun r w nx hp => ?_)
            obtain ⟨rfl, rfl, rfl⟩ := hp
            refine aw_iload_n (pc := 72) X d_Mo_isName_72 (by rfl) ?_
            refine aw_iaddN (pc := 73) X d_Mo_isName_73 ?_
            refine aw_caldN (pc := 74) X 435 0 (by omega) hM.a435 (by rfl) (by omega) (by decide) d_Mo_isName_74 ?_
            -- invokestatic 75 lv=3:n,2:n,0:r,1:n st=n
            refine aw_callS (pc := 75) X (c_Mo_isDigit (d := 0) c1) q_Mo_isDigit k_1030 k_1031 d_Mo_isName_75 (by omega) (Nat.le_of_ble_eq_true rfl) ⟨by omega, by omega⟩ (fun h => by cases h) (fun r w nx hp => ?_)
            obtain ⟨rfl, rfl, rfl⟩ := hp
            refine aw_if_eqN (pc := 78) X (tgt := 85) d_Mo_isName_78 (by rfl) (by omega) (fun h78 => ?_) (fun h78 => ?_)
            -- br 78 lv=3:n,2:n,0:r,1:n st=
            · refine aw_iconstN (pc := 85) X 0 d_Mo_isName_85 (by decide) ?_
              refine aw_istore_n (pc := 86) X (lv' := [(2, _), (3, _), (0, _), (1, _)]) d_Mo_isName_86 (by decide) (by rfl) ?_
              refine aw_iincN (pc := 87) X 1 (lv' := [(3, _), (2, _), (0, _), (1, _)]) d_Mo_isName_87 (by rfl) (by decide) (by decide) (by rfl) ?_
              refine aw_goto (pc := 90) X (tgt := 32) d_Mo_isName_90 (by rfl) ?_
              -- stop 32 lv=3:n,2:n,0:r,1:n st=
              have hno : isLD (A 435 (mfr A a + k)) = false := by rw [hLD, bN_eq.mp h60, bN_eq.mp h78]; rfl
              refine Zs _ (by omega) ?_
              rw [hcr, nm_cons]
              rcases Nat.eq_zero_or_pos k with hk0 | hk0
              · subst hk0
                have hc0 : c = A 435 (mfr A a + 0) := by
                  have e := a1
                  rw [hlen, sl_cons, hcr] at e
                  exact (List.cons.inj e).1
                rw [hc0, bN_eq.mp h60]
                rfl
              · have : r.all isLD = false := by
                  rw [← Bool.not_eq_true]
                  intro hz
                  have h2 := List.all_eq_true.mp hz (A 435 (mfr A a + k)) (by
                    rw [hr, sl]
                    exact List.mem_map.mpr ⟨k - 1, List.mem_range.mpr (by omega), by rw [show mfr A a + 1 + (k - 1) = mfr A a + k by omega]⟩)
                  rw [hno] at h2
                  cases h2
                rw [this, Bool.and_false]
            · exact step (by rw [hLD, bN_ne.mp h78, Bool.or_true])
  refine aw_aload_nR (pc := 0) X d_Mo_isName_0 (by rfl) ?_
  refine aw_iload_n (pc := 1) X d_Mo_isName_1 (by rfl) ?_
  -- invokevirtual 2 lv=0:r,1:n st=n,r
  refine aw_callV (pc := 2) X _ (s_Mo_length (d := 1) hnx (by omega) ha hY hM) q_Mo_length k_1071 k_1073 k_42 (by omega) hM.1 (by rfl) d_Mo_isName_2 (by omega) (Nat.le_of_ble_eq_true rfl) ⟨by omega, by omega⟩ (fun h => by cases h) (fun r w nx hp => ?_)
  obtain ⟨rfl, rfl, rfl⟩ := hp
  refine aw_if_leN (pc := 5) X (tgt := 28) d_Mo_isName_5 (by rfl) (by omega) (fun h5 => ?_) (fun h5 => ?_)
  -- br 5 lv=0:r,1:n st=
  · refine aw_iconstN (pc := 28) X 0 d_Mo_isName_28 (by decide) ?_
    refine aw_istore_n (pc := 29) X (lv' := [(2, _), (0, _), (1, _)]) d_Mo_isName_29 (by decide) (by rfl) ?_
    refine aw_iconstN (pc := 30) X 0 d_Mo_isName_30 (by decide) ?_
    refine aw_istore_n (pc := 31) X (lv' := [(3, _), (2, _), (0, _), (1, _)]) d_Mo_isName_31 (by decide) (by rfl) ?_
    -- stop 32 lv=3:n,2:n,0:r,1:n st=
    have hnil : argOf ar a = [] := List.length_eq_zero_iff.mp (by omega)
    exact Zs _ (by decide) (by rw [hnil]; rfl)
  · obtain ⟨c, r, hcr⟩ := List.exists_cons_of_ne_nil (show argOf ar a ≠ [] from fun e => by rw [e] at h5; simp at h5)
    have hlen : (argOf ar a).length = r.length + 1 := by rw [hcr]; rfl
    have hc0 : c = A 435 (mfr A a) := by
      have e := a1
      rw [hlen, sl_cons, hcr] at e
      exact (List.cons.inj e).1
    have c1 := hM.b435 (mfr A a)
    refine aw_aload_nR (pc := 8) X d_Mo_isName_8 (by rfl) ?_
    refine gm_22 (pc := 9) X hM (by omega) d_Mo_isName_9 ?_
    refine aw_aload_nR (pc := 12) X d_Mo_isName_12 (by rfl) ?_
    refine aw_iload_n (pc := 13) X d_Mo_isName_13 (by rfl) ?_
    -- invokevirtual 14 lv=0:r,1:n st=n,r,a435
    refine aw_callV (pc := 14) X _ (s_Mo_from (d := 1) hnx (by omega) ha hY hM) q_Mo_from k_1075 k_1077 k_43 (by omega) hM.1 (by rfl) d_Mo_isName_14 (by omega) (Nat.le_of_ble_eq_true rfl) ⟨by omega, by omega⟩ (fun h => by cases h) (fun r w nx hp => ?_)
    obtain ⟨rfl, rfl, rfl⟩ := hp
    refine aw_caldN (pc := 17) X 435 0 (by omega) hM.a435 (by rfl) (by omega) (by decide) d_Mo_isName_17 ?_
    -- invokestatic 18 lv=0:r,1:n st=n
    refine aw_callS (pc := 18) X (c_Mo_isLetter (d := 0) c1) q_Mo_isLetter k_1023 k_1024 d_Mo_isName_18 (by omega) (Nat.le_of_ble_eq_true rfl) ⟨by omega, by omega⟩ (fun h => by cases h) (fun r w nx hp => ?_)
    obtain ⟨rfl, rfl, rfl⟩ := hp
    have hbl := bN_lt (isLet (A 435 (mfr A a)))
    refine aw_if_eqN (pc := 21) X (tgt := 28) d_Mo_isName_21 (by rfl) (by omega) (fun h21 => ?_) (fun h21 => ?_)
    -- br 21 lv=0:r,1:n st=
    · refine aw_iconstN (pc := 28) X 0 d_Mo_isName_28 (by decide) ?_
      refine aw_istore_n (pc := 29) X (lv' := [(2, _), (0, _), (1, _)]) d_Mo_isName_29 (by decide) (by rfl) ?_
      refine aw_iconstN (pc := 30) X 0 d_Mo_isName_30 (by decide) ?_
      refine aw_istore_n (pc := 31) X (lv' := [(3, _), (2, _), (0, _), (1, _)]) d_Mo_isName_31 (by decide) (by rfl) ?_
      -- stop 32 lv=3:n,2:n,0:r,1:n st=
      exact Zs _ (by decide) (by rw [hcr, nm_cons, hc0, bN_eq.mp h21]; rfl)
    · refine aw_iconstN (pc := 24) X 1 d_Mo_isName_24 (by decide) ?_
      refine aw_goto (pc := 25) X (tgt := 29) d_Mo_isName_25 (by rfl) ?_
      refine aw_istore_n (pc := 29) X (lv' := [(2, _), (0, _), (1, _)]) d_Mo_isName_29 (by decide) (by rfl) ?_
      refine aw_iconstN (pc := 30) X 0 d_Mo_isName_30 (by decide) ?_
      refine aw_istore_n (pc := 31) X (lv' := [(3, _), (2, _), (0, _), (1, _)]) d_Mo_isName_31 (by decide) (by rfl) ?_
      -- stop 32 lv=3:n,2:n,0:r,1:n st=
      exact L c r hcr (by rw [hc0]; exact bN_ne.mp h21) _ 0 (Nat.zero_add _) (fun i' h => by omega)
end

