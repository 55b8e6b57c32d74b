/-! Calls.bare, start, nextArgument, close -/
section
variable {G : aw_G} {nx d : Nat} {w : Nat → va_E}
theorem s_Cs_bare {ga : List Nat} {C : List CS} {mo c : Nat} {t : Def} (hnx : 412 ≤ nx) (hd : 4 ≤ d) (hc : c + 5 ≤ 317) (hk : t.2.1 ≤ 16) (h : hCs G w ga C mo) (ht : hDe G w c t) : AC G y_Cs_bare b_Cs_bare 2 (some (.object "RescanDesk$Call")) d false [rf G 317, rf G c] nx w 0 0 (fun r w' nx' => nx' = nx ∧ r = some (rf G 405) ∧ hCs G w' ga C mo ∧ hRdy G w' 405 t [] ∧ fr 317 412 w w') := by
  have h0 := h
  obtain ⟨a1, a2, a3, ⟨f, a4, a5⟩, a6, ⟨t0, dp, bg, a7, a8⟩, a9, a10⟩ := h
  have a7' : w 405 = aObj 7 [rf G 406, rf G 319, rf G 411, .int (nI 0), .int (nI dp), .int (nI (bN bg))] := a7.1
  have a71 : w 406 = aObj 5 [rf G 407, rf G 409, kV G t0.2.1] := a7.2.1.1
  refine AC.ofW (by decide) (Nat.le_of_ble_eq_true rfl) ?_
  intro E P hP Y X
  have X : aw_X G "RescanDesk$Calls" b_Cs_bare 2 (some (.object "RescanDesk$Call")) "bare" _ _ _ _ _ E := X
  refine AW.eql (lv' := [(0, _), (1, _)]) (by rfl) ?_
  refine aw_aload_nR (pc := 0) X d_Cs_bare_0 (by rfl) ?_
  refine aw_getO (pc := 1) X _ 2 (by omega) (by (repeat (first | rw [aw_up_eq] | rw [aw_up_ne _ _ (by first | assumption | omega)])) <;> first | assumption | rfl) (by rfl) in_Cs (by decide) k_311 (by rfl) d_Cs_bare_1 ?_
  refine aw_getNO (pc := 4) X _ 0 (by omega) (by (repeat (first | rw [aw_up_eq] | rw [aw_up_ne _ _ (by first | assumption | omega)])) <;> first | assumption | rfl) (by rfl) in_Ca (by decide) k_280 (by rfl) d_Cs_bare_4 ?_
  refine aw_aload_nR (pc := 7) X d_Cs_bare_7 (by rfl) ?_
  -- invokevirtual 8 lv=0:r,1:r st=r,r
  refine aw_callV (pc := 8) X _ (s_De_copy (d := 3) (a := 406) (c := c) (t := t0) (u := t) (by omega) (by omega) (by omega) (by omega) a7.2.1 ht) q_De_copy k_572 k_573 k_574 (by omega) a71 (by rfl) d_Cs_bare_8 (by omega) (Nat.le_of_ble_eq_true rfl) ⟨by omega, by omega⟩ (fun h => by cases h) (fun r w2 nx2 hp => ?_)
  obtain ⟨rfl, rfl, b1, hf⟩ := hp
  have a22 : w2 317 = aObj 6 [rf G 318, rf G 320, rf G 405, .int (nI C.length), .int (nI mo)] := (hf _ (by omega)).trans a2
  have b2 : hCa G w2 405 t (fun _ => 0) 0 dp bg := ⟨(hf _ (by omega)).trans a7.1, b1, (hf _ (by omega)).trans a7.2.2⟩
  have b3 : hTx G w2 318 400 ga := a3.keep hf (by omega)
  obtain ⟨gg, g1, g2, g3⟩ := b3.arr
  refine aw_aload_nR (pc := 11) X d_Cs_bare_11 (by rfl) ?_
  refine aw_getO (pc := 12) X _ 2 (by omega) (by (repeat (first | rw [aw_up_eq] | rw [aw_up_ne _ _ (by first | assumption | omega)])) <;> first | assumption | rfl) (by rfl) in_Cs (by decide) k_311 (by rfl) d_Cs_bare_12 ?_
  refine aw_aret Y X rfl (Or.inr ⟨_, rfl⟩) d_Cs_bare_15 (by omega) (by omega) (hP _ _ _ ?_)
  -- ret 15 lv=0:r,1:r st=r
  refine ⟨rfl, rfl, ⟨a1, a22, b3, ⟨f, (hf _ (by omega)).trans a4, a5⟩, fun i hi => ?_, ⟨t, dp, bg, b2, hk⟩, a9, a10⟩, ⟨fun _ => 0, gg, dp, bg, b2, ⟨by simp, fun _ _ _ _ => Nat.le_refl _, Nat.zero_le _⟩, g1, g3, hk, fun i => ?_⟩, hf.mono (by omega) (by omega)⟩
  · obtain ⟨t, st, n, dp, bg, c1, c2⟩ := a6 i hi
    exact ⟨t, st, n, dp, bg, c1.keep hf (by omega), c2⟩
  · simp [argL, frm, too, sl]
theorem s_Cs_start {ga : List Nat} {C : List CS} {mo c : Nat} {t : Def} (hnx : 412 ≤ nx) (hd : 4 ≤ d) (hc : c + 5 ≤ 317) (hk : t.2.1 ≤ 16) (h : hCs G w ga C mo) (ht : hDe G w c t) : AC G y_Cs_start b_Cs_start 3 (some .boolean) d false [rf G 317, rf G c] nx w 0 0 (fun r w' nx' => nx' = nx ∧ ((12 ≤ C.length ∧ r = some (.int (nI 0)) ∧ w' = w) ∨ (C.length < 12 ∧ r = some (.int (nI 1)) ∧ hCs G w' ga ((t, [ga.length], 0, false) :: C) (max mo (C.length + 1)) ∧ fr 317 412 w w'))) := by
  have h0 := h
  obtain ⟨a1, a2, a3, ⟨f, a4, a5⟩, a6, ⟨t0, dp, bg, a7, a8⟩, a9, a10⟩ := h
  refine AC.ofW (by decide) (Nat.le_of_ble_eq_true rfl) ?_
  intro E P hP Y X
  have X : aw_X G "RescanDesk$Calls" b_Cs_start 3 (some .boolean) "start" _ _ _ _ _ E := X
  refine AW.eql (lv' := [(0, _), (1, _)]) (by rfl) ?_
  refine aw_aload_nR (pc := 0) X d_Cs_start_0 (by rfl) ?_
  refine aw_getO (pc := 1) X _ 3 (by omega) (by (repeat (first | rw [aw_up_eq] | rw [aw_up_ne _ _ (by first | assumption | omega)])) <;> first | assumption | rfl) (by rfl) in_Cs (by decide) k_312 (by rfl) d_Cs_start_1 ?_
  refine aw_bipushN (pc := 4) X 12 d_Cs_start_4 (by decide) ?_
  refine aw_icmp_ltN (pc := 6) X (tgt := 11) d_Cs_start_6 (by rfl) (by omega) (by omega) (fun h6 => ?_) (fun h6 => ?_)
  -- br 6 lv=0:r,1:r st=
  · have a5c := a5 C.length h6
    obtain ⟨u, st, n, dq, bh, b1, b2, b3, b4, b5⟩ := a6 C.length h6
    have b1' : w (321 + 7 * C.length) = aObj 7 [rf G (321 + 7 * C.length + 1), rf G 319, rf G (321 + 7 * C.length + 6), .int (nI n), .int (nI dq), .int (nI (bN bh))] := b1.1
    have b11 : w (321 + 7 * C.length + 1) = aObj 5 [rf G (321 + 7 * C.length + 1 + 1), rf G (321 + 7 * C.length + 1 + 3), kV G u.2.1] := b1.2.1.1
    refine aw_aload_nR (pc := 11) X d_Cs_start_11 (by rfl) ?_
    refine aw_getO (pc := 12) X _ 1 (by omega) (by (repeat (first | rw [aw_up_eq] | rw [aw_up_ne _ _ (by first | assumption | omega)])) <;> first | assumption | rfl) (by rfl) in_Cs (by decide) k_310 (by rfl) d_Cs_start_12 ?_
    refine aw_aload_nR (pc := 15) X d_Cs_start_15 (by rfl) ?_
    refine aw_getO (pc := 16) X _ 3 (by omega) (by (repeat (first | rw [aw_up_eq] | rw [aw_up_ne _ _ (by first | assumption | omega)])) <;> first | assumption | rfl) (by rfl) in_Cs (by decide) k_312 (by rfl) d_Cs_start_16 ?_
    refine aw_aaldN (pc := 19) X _ 6 (by omega) (by (repeat (first | rw [aw_up_eq] | rw [aw_up_ne _ _ (by first | assumption | omega)])) <;> first | assumption | rfl) (by rfl) (by omega) (by omega) (by assumption) d_Cs_start_19 ?_
    refine aw_astore_nR (pc := 20) X (lv' := [(2, _), (0, _), (1, _)]) d_Cs_start_20 (by decide) (by rfl) ?_
    refine aw_aload_nR (pc := 21) X d_Cs_start_21 (by rfl) ?_
    refine aw_getNO (pc := 22) X _ 0 (by omega) (by (repeat (first | rw [aw_up_eq] | rw [aw_up_ne _ _ (by first | assumption | omega)])) <;> first | assumption | rfl) (by rfl) in_Ca (by decide) k_280 (by rfl) d_Cs_start_22 ?_
    refine aw_aload_nR (pc := 25) X d_Cs_start_25 (by rfl) ?_
    -- invokevirtual 26 lv=2:r,0:r,1:r st=r,r
    refine aw_callV (pc := 26) X _ (s_De_copy (d := 3) (a := 321 + 7 * C.length + 1) (c := c) (t := u) (u := t) (by omega) (by omega) (by omega) (by omega) b1.2.1 ht) q_De_copy k_572 k_573 k_574 (by omega) b11 (by rfl) d_Cs_start_26 (by omega) (Nat.le_of_ble_eq_true rfl) ⟨by omega, by omega⟩ (fun h => by cases h) (fun r w2 nx2 hp => ?_)
    obtain ⟨rfl, rfl, c1, hf⟩ := hp
    have c2 : w2 317 = aObj 6 [rf G 318, rf G 320, rf G 405, .int (nI C.length), .int (nI mo)] := (hf _ (by omega)).trans a2
    have c3 : w2 (321 + 7 * C.length) = aObj 7 [rf G (321 + 7 * C.length + 1), rf G 319, rf G (321 + 7 * C.length + 6), .int (nI n), .int (nI dq), .int (nI (bN bh))] := (hf _ (by omega)).trans b1.1
    have c4 : w2 (321 + 7 * C.length + 6) = aArr (G.2.2.2.1 1) 10 st := (hf _ (by omega)).trans b1.2.2
    have c5 : hTx G w2 318 400 ga := a3.keep hf (by omega)
    have c6 := c5.obj
    have c7 := c5.le
    refine aw_aload_nR (pc := 29) X d_Cs_start_29 (by rfl) ?_
    refine aw_getNO (pc := 30) X _ 2 (by omega) (by (repeat (first | rw [aw_up_eq] | rw [aw_up_ne _ _ (by first | assumption | omega)])) <;> first | assumption | rfl) (by rfl) in_Ca (by decide) k_284 (by rfl) d_Cs_start_30 ?_
    refine aw_iconstN (pc := 33) X 0 d_Cs_start_33 (by decide) ?_
    refine aw_aload_nR (pc := 34) X d_Cs_start_34 (by rfl) ?_
    refine aw_getO (pc := 35) X _ 0 (by omega) (by (repeat (first | rw [aw_up_eq] | rw [aw_up_ne _ _ (by first | assumption | omega)])) <;> first | assumption | rfl) (by rfl) in_Cs (by decide) k_308 (by rfl) d_Cs_start_35 ?_
    refine aw_getNO (pc := 38) X _ 1 (by omega) (by (repeat (first | rw [aw_up_eq] | rw [aw_up_ne _ _ (by first | assumption | omega)])) <;> first | assumption | rfl) (by rfl) in_Tx (by decide) k_119 (by rfl) d_Cs_start_38 ?_
    refine aw_iastN (pc := 41) X _ 1 (by omega) (by (repeat (first | rw [aw_up_eq] | rw [aw_up_ne _ _ (by first | assumption | omega)])) <;> first | assumption | rfl) (by rfl) (by omega) (by omega) d_Cs_start_41 ?_
    refine aw_aload_nR (pc := 42) X d_Cs_start_42 (by rfl) ?_
    refine aw_iconstN (pc := 43) X 1 d_Cs_start_43 (by decide) ?_
    refine aw_putNO (pc := 44) X _ 3 (by omega) (by (repeat (first | rw [aw_up_eq] | rw [aw_up_ne _ _ (by first | assumption | omega)])) <;> first | assumption | rfl) (by rfl) in_Ca (by decide) ty_Ca ok_Ca nm_Ca k_287 (by rfl) (by rfl) (by rfl) (by simp) (fs' := [_, _, _, _, _, _]) (by rfl) d_Cs_start_44 ?_
    refine aw_aload_nR (pc := 47) X d_Cs_start_47 (by rfl) ?_
    refine aw_iconstN (pc := 48) X 0 d_Cs_start_48 (by decide) ?_
    refine aw_putNO (pc := 49) X _ 4 (by omega) (by (repeat (first | rw [aw_up_eq] | rw [aw_up_ne _ _ (by first | assumption | omega)])) <;> first | assumption | rfl) (by rfl) in_Ca (by decide) ty_Ca ok_Ca nm_Ca k_289 (by rfl) (by rfl) (by rfl) (by simp) (fs' := [_, _, _, _, _, _]) (by rfl) d_Cs_start_49 ?_
    refine aw_aload_nR (pc := 52) X d_Cs_start_52 (by rfl) ?_
    refine aw_iconstN (pc := 53) X 0 d_Cs_start_53 (by decide) ?_
    refine aw_putNO (pc := 54) X _ 5 (by omega) (by (repeat (first | rw [aw_up_eq] | rw [aw_up_ne _ _ (by first | assumption | omega)])) <;> first | assumption | rfl) (by rfl) in_Ca (by decide) ty_Ca ok_Ca nm_Ca k_292 (by rfl) (by decide +kernel) (by decide +kernel) (by simp) (fs' := [_, _, _, _, _, _]) (by rfl) d_Cs_start_54 ?_
    refine aw_aload_nR (pc := 57) X d_Cs_start_57 (by rfl) ?_
    refine aw_dup (pc := 58) X d_Cs_start_58 (by rfl) ?_
    refine aw_getO (pc := 59) X _ 3 (by omega) (by (repeat (first | rw [aw_up_eq] | rw [aw_up_ne _ _ (by first | assumption | omega)])) <;> first | assumption | rfl) (by rfl) in_Cs (by decide) k_312 (by rfl) d_Cs_start_59 ?_
    refine aw_iconstN (pc := 62) X 1 d_Cs_start_62 (by decide) ?_
    refine aw_iaddN (pc := 63) X d_Cs_start_63 ?_
    refine aw_putO (pc := 64) X _ 3 (by omega) (by (repeat (first | rw [aw_up_eq] | rw [aw_up_ne _ _ (by first | assumption | omega)])) <;> first | assumption | rfl) (by rfl) in_Cs (by decide) ty_Cs ok_Cs nm_Cs k_312 (by rfl) (by rfl) (by rfl) (by simp) (fs' := [_, _, _, _, _]) (by rfl) d_Cs_start_64 ?_
    refine aw_aload_nR (pc := 67) X d_Cs_start_67 (by rfl) ?_
    refine aw_aload_nR (pc := 68) X d_Cs_start_68 (by rfl) ?_
    refine aw_getO (pc := 69) X _ 4 (by omega) (by (repeat (first | rw [aw_up_eq] | rw [aw_up_ne _ _ (by first | assumption | omega)])) <;> first | assumption | rfl) (by rfl) in_Cs (by decide) k_314 (by rfl) d_Cs_start_69 ?_
    refine aw_aload_nR (pc := 72) X d_Cs_start_72 (by rfl) ?_
    refine aw_getO (pc := 73) X _ 3 (by omega) (by (repeat (first | rw [aw_up_eq] | rw [aw_up_ne _ _ (by first | assumption | omega)])) <;> first | assumption | rfl) (by rfl) in_Cs (by decide) k_312 (by rfl) d_Cs_start_73 ?_
    refine aw_mmaxN (pc := 76) X (by omega) (by omega) k_585 k_586 k_85 k_587 (by omega) (Nat.le_trans (m := 24) (Nat.le_of_ble_eq_true rfl) (by omega)) (by omega) (by omega) d_Cs_start_76 ?_
    refine aw_putO (pc := 79) X _ 4 (by omega) (by (repeat (first | rw [aw_up_eq] | rw [aw_up_ne _ _ (by first | assumption | omega)])) <;> first | assumption | rfl) (by rfl) in_Cs (by decide) ty_Cs ok_Cs nm_Cs k_314 (by rfl) (by rfl) (by rfl) (by simp) (fs' := [_, _, _, _, _]) (by rfl) d_Cs_start_79 ?_
    refine aw_iconstN (pc := 82) X 1 d_Cs_start_82 (by decide) ?_
    refine aw_zret Y X rfl (by decide +kernel) d_Cs_start_83 (by omega) (by omega) (hP _ _ _ ?_)
    -- ret 83 lv=2:r,0:r,1:r st=n
    refine ⟨rfl, Or.inr ⟨h6, rfl, ?_, ?_⟩⟩
    · simp only [aw_up_up]
      generalize hw3 : aw_up (aw_up (aw_up w2 (321 + 7 * C.length + 6) _) (321 + 7 * C.length) _) 317 _ = w3
      have e1 : w3 317 = aObj 6 [rf G 318, rf G 320, rf G 405, .int (nI (C.length + 1)), .int (nI (max mo (C.length + 1)))] := by rw [← hw3]; exact aw_up_eq _ _ _
      have e2 : w3 (321 + 7 * C.length) = oCa G (321 + 7 * C.length) 1 0 false := by rw [← hw3, aw_up_ne _ _ (by omega)]; exact aw_up_eq _ _ _
      have e3 : w3 (321 + 7 * C.length + 6) = aArr (G.2.2.2.1 1) 10 (aw_un st 0 ga.length) := by rw [← hw3, aw_up_ne _ _ (by omega), aw_up_ne _ _ (by omega)]; exact aw_up_eq _ _ _
      have e4 : ∀ x, x ≠ 317 → x ≠ 321 + 7 * C.length → x ≠ 321 + 7 * C.length + 6 → w3 x = w2 x := fun x q1 q2 q3 => by rw [← hw3, aw_up_ne _ _ q1, aw_up_ne _ _ q2, aw_up_ne _ _ q3]
      have kk : ∀ (a n dp : Nat) (t : Def) (st : Nat → Nat) (bg : Bool), hCa G w2 a t st n dp bg → 321 ≤ a → (a + 7 ≤ 321 + 7 * C.length ∨ 321 + 7 * C.length + 7 ≤ a) → hCa G w3 a t st n dp bg := fun a n dp t st bg q q1 q2 =>
        ⟨(e4 _ (by omega) (by omega) (by omega)).trans q.1, ⟨(e4 _ (by omega) (by omega) (by omega)).trans q.2.1.1, q.2.1.2.1.kept (e4 _ (by omega) (by omega) (by omega)) (e4 _ (by omega) (by omega) (by omega)), q.2.1.2.2.kept (e4 _ (by omega) (by omega) (by omega)) (e4 _ (by omega) (by omega) (by omega))⟩, (e4 _ (by omega) (by omega) (by omega)).trans q.2.2⟩
      refine ⟨by simp; omega, e1, c5.kept (e4 _ (by omega) (by omega) (by omega)) (e4 _ (by omega) (by omega) (by omega)), ⟨f, (e4 _ (by omega) (by omega) (by omega)).trans ((hf _ (by omega)).trans a4), a5⟩, fun i hi => ?_, ⟨t0, dp, bg, kk _ _ _ _ _ _ (a7.keep hf (by omega)) (by omega) (by omega), a8⟩, ⟨⟨ga.length, [], rfl, a9⟩, by simp, by simp, by simp⟩, by omega⟩
      by_cases e : i = C.length
      · subst e
        refine ⟨t, aw_un st 0 ga.length, 1, 0, false, ⟨e2, ⟨(e4 _ (by omega) (by omega) (by omega)).trans c1.1, c1.2.1.kept (e4 _ (by omega) (by omega) (by omega)) (e4 _ (by omega) (by omega) (by omega)), c1.2.2.kept (e4 _ (by omega) (by omega) (by omega)) (e4 _ (by omega) (by omega) (by omega))⟩, e3⟩, by omega, by omega, hk, fun x hx => ?_⟩
        rw [rev_last] at hx
        cases hx
        rfl
      · obtain ⟨t1, st1, n1, dp1, bg1, x1, x2, x3, x4, x5⟩ := a6 i hi
        refine ⟨t1, st1, n1, dp1, bg1, kk _ _ _ _ _ _ (x1.keep hf (by omega)) (by omega) (by omega), x2, x3, x4, fun x hx => x5 x ?_⟩
        simp only [List.reverse_cons] at hx
        by_cases q : i < C.length
        · rwa [List.getElem?_append_left (by simpa using q)] at hx
        · rw [List.getElem?_eq_none_iff.mpr (by simp; omega)] at hx
          cases hx
    · exact ((((((((hf.mono (by omega) (by omega)).up _ (by omega)).up _ (by omega)).up _ (by omega)).up _ (by omega)).up _ (by omega)).up _ (by omega)))
  · refine aw_iconstN (pc := 9) X 0 d_Cs_start_9 (by decide) ?_
    refine aw_zret Y X rfl (by decide +kernel) d_Cs_start_10 (by omega) (by omega) (hP _ _ _ ?_)
    -- ret 10 lv=0:r,1:r st=n
    exact ⟨rfl, Or.inl ⟨h6, rfl, rfl⟩⟩
theorem s_Cs_nextArgument {ga : List Nat} {u : CS} {c : List CS} {mo : Nat} (hnx : 412 ≤ nx) (h : hCs G w ga (u :: c) mo) : AC G y_Cs_nextArgument b_Cs_nextArgument 2 (some .boolean) d false [rf G 317, rf G (321 + 7 * c.length)] nx w 0 0 (fun r w' nx' => nx' = nx ∧ ((9 ≤ u.2.1.length ∧ r = some (.int (nI 0)) ∧ w' = w) ∨ (u.2.1.length < 9 ∧ r = some (.int (nI 1)) ∧ hCs G w' ga ((u.1, u.2.1 ++ [ga.length], u.2.2.1, false) :: c) mo ∧ fr 317 412 w w'))) := by
  have h0 := h
  obtain ⟨hc, st, b1, b2, b3, b4⟩ := h0.top
  obtain ⟨a1, a2, a3, -⟩ := h
  have hok : okC (u :: c) ga.length := h0.2.2.2.2.2.2.1
  have b1' : w (321 + 7 * c.length) = aObj 7 [rf G (321 + 7 * c.length + 1), rf G 319, rf G (321 + 7 * c.length + 6), .int (nI u.2.1.length), .int (nI u.2.2.1), .int (nI (bN u.2.2.2))] := b1.1
  have b16 := b1.2.2
  have a3o := a3.obj
  have hl9 := hok.2.1
  refine AC.ofW (by decide) (Nat.le_of_ble_eq_true rfl) ?_
  intro E P hP Y X
  have X : aw_X G "RescanDesk$Calls" b_Cs_nextArgument 2 (some .boolean) "nextArgument" _ _ _ _ _ E := X
  refine AW.eql (lv' := [(0, _), (1, _)]) (by rfl) ?_
  refine aw_aload_nR (pc := 0) X d_Cs_nextArgument_0 (by rfl) ?_
  refine aw_getNO (pc := 1) X _ 3 (by omega) (by (repeat (first | rw [aw_up_eq] | rw [aw_up_ne _ _ (by first | assumption | omega)])) <;> first | assumption | rfl) (by rfl) in_Ca (by decide) k_287 (by rfl) d_Cs_nextArgument_1 ?_
  refine aw_bipushN (pc := 4) X 9 d_Cs_nextArgument_4 (by decide) ?_
  refine aw_icmp_ltN (pc := 6) X (tgt := 11) d_Cs_nextArgument_6 (by rfl) (by omega) (by omega) (fun h6 => ?_) (fun h6 => ?_)
  -- br 6 lv=0:r,1:r st=
  · refine aw_aload_nR (pc := 11) X d_Cs_nextArgument_11 (by rfl) ?_
    refine aw_getNO (pc := 12) X _ 2 (by omega) (by (repeat (first | rw [aw_up_eq] | rw [aw_up_ne _ _ (by first | assumption | omega)])) <;> first | assumption | rfl) (by rfl) in_Ca (by decide) k_284 (by rfl) d_Cs_nextArgument_12 ?_
    refine aw_aload_nR (pc := 15) X d_Cs_nextArgument_15 (by rfl) ?_
    refine aw_getNO (pc := 16) X _ 3 (by omega) (by (repeat (first | rw [aw_up_eq] | rw [aw_up_ne _ _ (by first | assumption | omega)])) <;> first | assumption | rfl) (by rfl) in_Ca (by decide) k_287 (by rfl) d_Cs_nextArgument_16 ?_
    refine aw_aload_nR (pc := 19) X d_Cs_nextArgument_19 (by rfl) ?_
    refine aw_getO (pc := 20) X _ 0 (by omega) (by (repeat (first | rw [aw_up_eq] | rw [aw_up_ne _ _ (by first | assumption | omega)])) <;> first | assumption | rfl) (by rfl) in_Cs (by decide) k_308 (by rfl) d_Cs_nextArgument_20 ?_
    refine aw_getNO (pc := 23) X _ 1 (by omega) (by (repeat (first | rw [aw_up_eq] | rw [aw_up_ne _ _ (by first | assumption | omega)])) <;> first | assumption | rfl) (by rfl) in_Tx (by decide) k_119 (by rfl) d_Cs_nextArgument_23 ?_
    refine aw_iastN (pc := 26) X _ 1 (by omega) (by (repeat (first | rw [aw_up_eq] | rw [aw_up_ne _ _ (by first | assumption | omega)])) <;> first | assumption | rfl) (by rfl) (by omega) (by omega) d_Cs_nextArgument_26 ?_
    refine aw_aload_nR (pc := 27) X d_Cs_nextArgument_27 (by rfl) ?_
    refine aw_dup (pc := 28) X d_Cs_nextArgument_28 (by rfl) ?_
    refine aw_getNO (pc := 29) X _ 3 (by omega) (by (repeat (first | rw [aw_up_eq] | rw [aw_up_ne _ _ (by first | assumption | omega)])) <;> first | assumption | rfl) (by rfl) in_Ca (by decide) k_287 (by rfl) d_Cs_nextArgument_29 ?_
    refine aw_iconstN (pc := 32) X 1 d_Cs_nextArgument_32 (by decide) ?_
    refine aw_iaddN (pc := 33) X d_Cs_nextArgument_33 ?_
    refine aw_putNO (pc := 34) X _ 3 (by omega) (by (repeat (first | rw [aw_up_eq] | rw [aw_up_ne _ _ (by first | assumption | omega)])) <;> first | assumption | rfl) (by rfl) in_Ca (by decide) ty_Ca ok_Ca nm_Ca k_287 (by rfl) (by rfl) (by rfl) (by simp) (fs' := [_, _, _, _, _, _]) (by rfl) d_Cs_nextArgument_34 ?_
    refine aw_aload_nR (pc := 37) X d_Cs_nextArgument_37 (by rfl) ?_
    refine aw_iconstN (pc := 38) X 0 d_Cs_nextArgument_38 (by decide) ?_
    refine aw_putNO (pc := 39) X _ 5 (by omega) (by (repeat (first | rw [aw_up_eq] | rw [aw_up_ne _ _ (by first | assumption | omega)])) <;> first | assumption | rfl) (by rfl) in_Ca (by decide) ty_Ca ok_Ca nm_Ca k_292 (by rfl) (by decide +kernel) (by decide +kernel) (by simp) (fs' := [_, _, _, _, _, _]) (by rfl) d_Cs_nextArgument_39 ?_
    refine aw_iconstN (pc := 42) X 1 d_Cs_nextArgument_42 (by decide) ?_
    refine aw_zret Y X rfl (by decide +kernel) d_Cs_nextArgument_43 (by omega) (by omega) (hP _ _ _ ?_)
    -- ret 43 lv=0:r,1:r st=n
    refine ⟨rfl, Or.inr ⟨h6, rfl, ?_, ?_⟩⟩
    · simp only [aw_up_up]
      generalize hw3 : aw_up (aw_up w (321 + 7 * c.length + 6) _) (321 + 7 * c.length) _ = w3
      have e2 : w3 (321 + 7 * c.length) = oCa G (321 + 7 * c.length) (u.2.1.length + 1) u.2.2.1 false := by rw [← hw3]; exact aw_up_eq _ _ _
      have e3 : w3 (321 + 7 * c.length + 6) = aArr (G.2.2.2.1 1) 10 (aw_un st u.2.1.length ga.length) := by rw [← hw3, aw_up_ne _ _ (by omega)]; exact aw_up_eq _ _ _
      have e4 : ∀ x, x ≠ 321 + 7 * c.length → x ≠ 321 + 7 * c.length + 6 → w3 x = w x := fun x q2 q3 => by rw [← hw3, aw_up_ne _ _ q2, aw_up_ne _ _ q3]
      have hlen : (u.2.1 ++ [ga.length]).length = u.2.1.length + 1 := by simp
      refine h0.upd (v := (u.1, u.2.1 ++ [ga.length], u.2.2.1, false)) (st := aw_un st u.2.1.length ga.length) (a3.kept (e4 _ (by omega) (by omega)) (e4 _ (by omega) (by omega))) ⟨by rw [hlen]; exact e2, ⟨(e4 _ (by omega) (by omega)).trans b1.2.1.1, b1.2.1.2.1.kept (e4 _ (by omega) (by omega)) (e4 _ (by omega) (by omega)), b1.2.1.2.2.kept (e4 _ (by omega) (by omega)) (e4 _ (by omega) (by omega))⟩, e3⟩ ?_ b3 b4 ⟨?_, by rw [hlen]; omega, ?_, ?_⟩ (fun x hx => e4 x (by omega) (by omega))
      · show u.2.1 ++ [ga.length] = sl _ 0 (u.2.1 ++ [ga.length]).length
        rw [hlen, sl_app]
        congr 1
        · conv => lhs; rw [b2]
          exact sl_congr (fun i hi => by rw [aw_un_ne _ _ (by omega)])
        · rw [sl_cons, sl_0, Nat.zero_add, aw_un_eq]
      · obtain ⟨⟨x, y, q1, q2⟩, -⟩ := hok
        exact ⟨x, y ++ [ga.length], by show u.2.1 ++ [ga.length] = _; rw [q1]; rfl, q2⟩
      · refine List.pairwise_append.mpr ⟨hok.2.2.1, by simp, fun x hx y hy => ?_⟩
        rw [List.mem_singleton.mp hy]
        exact hok.2.2.2 x hx
      · intro x hx
        rcases List.mem_append.mp hx with q | q
        · exact hok.2.2.2 x q
        · rw [List.mem_singleton.mp q]; exact Nat.le_refl _
    · exact ((((fr.refl _ _ _).up _ (by omega)).up _ (by omega)).up _ (by omega))
  · refine aw_iconstN (pc := 9) X 0 d_Cs_nextArgument_9 (by decide) ?_
    refine aw_zret Y X rfl (by decide +kernel) d_Cs_nextArgument_10 (by omega) (by omega) (hP _ _ _ ?_)
    -- ret 10 lv=0:r,1:r st=n
    exact ⟨rfl, Or.inl ⟨h6, rfl, rfl⟩⟩
end

