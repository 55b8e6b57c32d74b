/-! Calls.close -/
theorem sl_getD {g : Nat → Nat} {s n i : Nat} (h : i < n) : (sl g s n).getD i 0 = g (s + i) := by
  rw [List.getD_eq_getElem?_getD, sl_get h]
  rfl
theorem cut_get (ga : List Nat) : ∀ (l : List Nat) (i : Nat), i < l.length → (cut ga l).getD i [] = (ga.drop (l.getD i 0)).take ((if i + 1 < l.length then l.getD (i + 1) 0 else ga.length) - l.getD i 0)
  | [], i, h => absurd h (by simp)
  | [x], i, h => by
    have : i = 0 := by simpa using h
    subst this
    simp [cut]
    rw [List.take_of_length_le (by simp)]
  | x :: y :: r, 0, h => by simp [cut]
  | x :: y :: r, i + 1, h => by
    have := cut_get ga (y :: r) i (by simpa using h)
    simp only [cut, List.getD_cons_succ, this, List.length_cons]
    congr 2
    by_cases q : i + 1 < r.length + 1
    · rw [if_pos q, if_pos (by omega)]
    · rw [if_neg q, if_neg (by omega)]
section
variable {G : aw_G} {nx d : Nat} {w : Nat → va_E}
theorem s_Cs_close {ga : List Nat} {u : CS} {c : List CS} {mo : Nat} (hnx : 412 ≤ nx) (hd : 1 ≤ d) (h : hCs G w ga (u :: c) mo) : AC G y_Cs_close b_Cs_close 2 (some (.object "RescanDesk$Call")) d false [rf G 317] nx w 0 0 (fun r w' nx' => nx' = nx ∧ r = some (rf G (321 + 7 * c.length)) ∧ hCs G w' (ga.take (u.2.1.getD 0 0)) c mo ∧ hRdy G w' (321 + 7 * c.length) u.1 (cut ga u.2.1) ∧ fr 317 412 w w') := by
  have h0 := h
  obtain ⟨hc, st, b1, b2, b3, b4⟩ := h0.top
  obtain ⟨a1, a2, a3, ⟨f, a4, a5⟩, a6, ⟨t0, dp, bg, a7, a8⟩, a9, a10⟩ := h
  have hok : okC (u :: c) ga.length := a9
  have a2' : w 317 = aObj 6 [rf G 318, rf G 320, rf G 405, .int (nI (c.length + 1)), .int (nI mo)] := a2
  have b1' : w (321 + 7 * c.length) = aObj 7 [rf G (321 + 7 * c.length + 1), rf G 319, rf G (321 + 7 * c.length + 6), .int (nI u.2.1.length), .int (nI u.2.2.1), .int (nI (bN u.2.2.2))] := b1.1
  have b16 := b1.2.2
  have a3o := a3.obj
  have hl9 := hok.2.1
  have hga := a3.le
  obtain ⟨⟨s0, ss, hs0, hokc⟩, -, hpw, hall⟩ := hok
  have hn1 : 1 ≤ u.2.1.length := by rw [hs0]; simp
  have hs00 : st 0 = s0 := by
    have := congrArg (fun l => l[0]?) b2
    rw [sl_get (by omega), hs0] at this
    simpa using this.symm
  have hs0g : s0 ≤ ga.length := hall s0 (by rw [hs0]; simp)
  have hgd : u.2.1.getD 0 0 = s0 := by rw [hs0]; rfl
  obtain ⟨gg, g1, g2, g3⟩ := a3.arr
  refine AC.ofW (by decide) (Nat.le_of_ble_eq_true rfl) ?_
  intro E P hP Y X
  have X : aw_X G "RescanDesk$Calls" b_Cs_close 2 (some (.object "RescanDesk$Call")) "close" _ _ _ _ _ E := X
  refine AW.eql (lv' := [(0, _)]) (by rfl) ?_
  refine aw_aload_nR (pc := 0) X d_Cs_close_0 (by rfl) ?_
  -- invokevirtual 1 lv=0:r st=r
  refine aw_callV (pc := 1) X _ (s_Cs_latest (d := 0) hnx h0) q_Cs_latest k_600 k_589 k_590 (by omega) a2 (by rfl) d_Cs_close_1 (by omega) (Nat.le_of_ble_eq_true rfl) ⟨by omega, by omega⟩ (fun h => by cases h) (fun r w2 nx2 hp => ?_)
  obtain ⟨rfl, rfl, rfl⟩ := hp
  refine aw_astore_nR (pc := 4) X (lv' := [(1, _), (0, _)]) d_Cs_close_4 (by decide) (by rfl) ?_
  refine aw_aload_nR (pc := 5) X d_Cs_close_5 (by rfl) ?_
  refine aw_ifnull (pc := 6) X d_Cs_close_6 ?_
  refine aw_aload_nR (pc := 9) X d_Cs_close_9 (by rfl) ?_
  refine aw_getNO (pc := 10) X _ 2 (by omega) (by (repeat (first | rw [aw_up_eq] | rw [aw_up_ne _ _ (by first | assumption | omega)])) <;> first | assumption | rfl) (by rfl) in_Ca (by decide) k_284 (by rfl) d_Cs_close_10 ?_
  refine aw_aload_nR (pc := 13) X d_Cs_close_13 (by rfl) ?_
  refine aw_getNO (pc := 14) X _ 3 (by omega) (by (repeat (first | rw [aw_up_eq] | rw [aw_up_ne _ _ (by first | assumption | omega)])) <;> first | assumption | rfl) (by rfl) in_Ca (by decide) k_287 (by rfl) d_Cs_close_14 ?_
  refine aw_aload_nR (pc := 17) X d_Cs_close_17 (by rfl) ?_
  refine aw_getO (pc := 18) X _ 0 (by omega) (by (repeat (first | rw [aw_up_eq] | rw [aw_up_ne _ _ (by first | assumption | omega)])) <;> first | assumption | rfl) (by rfl) in_Cs (by decide) k_308 (by rfl) d_Cs_close_18 ?_
  refine aw_getNO (pc := 21) X _ 1 (by omega) (by (repeat (first | rw [aw_up_eq] | rw [aw_up_ne _ _ (by first | assumption | omega)])) <;> first | assumption | rfl) (by rfl) in_Tx (by decide) k_119 (by rfl) d_Cs_close_21 ?_
  refine aw_iastN (pc := 24) X _ 1 (by omega) (by (repeat (first | rw [aw_up_eq] | rw [aw_up_ne _ _ (by first | assumption | omega)])) <;> first | assumption | rfl) (by rfl) (by omega) (by omega) d_Cs_close_24 ?_
  refine aw_aload_nR (pc := 25) X d_Cs_close_25 (by rfl) ?_
  refine aw_getO (pc := 26) X _ 0 (by omega) (by (repeat (first | rw [aw_up_eq] | rw [aw_up_ne _ _ (by first | assumption | omega)])) <;> first | assumption | rfl) (by rfl) in_Cs (by decide) k_308 (by rfl) d_Cs_close_26 ?_
  refine aw_aload_nR (pc := 29) X d_Cs_close_29 (by rfl) ?_
  refine aw_getNO (pc := 30) X _ 2 (by omega) (by (repeat (first | rw [aw_up_eq] | rw [aw_up_ne _ _ (by first | assumption | omega)])) <;> first | assumption | rfl) (by rfl) in_Ca (by decide) k_284 (by rfl) d_Cs_close_30 ?_
  refine aw_iconstN (pc := 33) X 0 d_Cs_close_33 (by decide) ?_
  refine aw_ialdN (pc := 34) X _ 1 (by omega) (by (repeat (first | rw [aw_up_eq] | rw [aw_up_ne _ _ (by first | assumption | omega)])) <;> first | assumption | rfl) (by rfl) (by omega) (by omega) d_Cs_close_34 ?_
  refine aw_putNO (pc := 35) X _ 1 (by omega) (by (repeat (first | rw [aw_up_eq] | rw [aw_up_ne _ _ (by first | assumption | omega)])) <;> first | assumption | rfl) (by rfl) in_Tx (by decide) ty_Tx ok_Tx nm_Tx k_119 (by rfl) (by rfl) (by rfl) (by simp) (fs' := [_, _]) (by rfl) d_Cs_close_35 ?_
  refine aw_aload_nR (pc := 38) X d_Cs_close_38 (by rfl) ?_
  refine aw_dup (pc := 39) X d_Cs_close_39 (by rfl) ?_
  refine aw_getO (pc := 40) X _ 3 (by omega) (by (repeat (first | rw [aw_up_eq] | rw [aw_up_ne _ _ (by first | assumption | omega)])) <;> first | assumption | rfl) (by rfl) in_Cs (by decide) k_312 (by rfl) d_Cs_close_40 ?_
  refine aw_iconstN (pc := 43) X 1 d_Cs_close_43 (by decide) ?_
  refine aw_isubN (pc := 44) X d_Cs_close_44 (by omega) ?_
  refine aw_putO (pc := 45) X _ 3 (by omega) (by (repeat (first | rw [aw_up_eq] | rw [aw_up_ne _ _ (by first | assumption | omega)])) <;> first | assumption | rfl) (by rfl) in_Cs (by decide) ty_Cs ok_Cs nm_Cs k_312 (by rfl) (by rfl) (by rfl) (by simp) (fs' := [_, _, _, _, _]) (by rfl) d_Cs_close_45 ?_
  refine aw_aload_nR (pc := 48) X d_Cs_close_48 (by rfl) ?_
  refine aw_aret Y X rfl (Or.inr ⟨_, rfl⟩) d_Cs_close_49 (by omega) (by omega) (hP _ _ _ ?_)
  -- ret 49 lv=1:r,0:r st=r
  have hz : aw_un st u.2.1.length ga.length 0 = s0 := by rw [aw_un_ne _ _ (by omega), hs00]
  refine ⟨rfl, rfl, ?_⟩
  rw [hz, hgd]
  generalize hw3 : aw_up (aw_up (aw_up w2 (321 + 7 * c.length + 6) _) 318 _) 317 _ = w3
  have e1 : w3 317 = aObj 6 [rf G 318, rf G 320, rf G 405, .int (nI c.length), .int (nI mo)] := by rw [← hw3]; exact aw_up_eq _ _ _
  have e2 : w3 318 = oTx G 319 s0 := by rw [← hw3, aw_up_ne _ _ (by omega)]; exact aw_up_eq _ _ _
  have e3 : w3 (321 + 7 * c.length + 6) = aArr (G.2.2.2.1 1) 10 (aw_un st u.2.1.length ga.length) := by rw [← hw3, aw_up_ne _ _ (by omega), aw_up_ne _ _ (by omega)]; exact aw_up_eq _ _ _
  have e4 : ∀ x, x ≠ 317 → x ≠ 318 → x ≠ 321 + 7 * c.length + 6 → w3 x = w2 x := fun x q1 q2 q3 => by rw [← hw3, aw_up_ne _ _ q1, aw_up_ne _ _ q2, aw_up_ne _ _ q3]
  have kk : ∀ (a n dp : Nat) (t : Def) (st : Nat → Nat) (bg : Bool), hCa G w2 a t st n dp bg → 321 ≤ a → (a + 7 ≤ 321 + 7 * c.length ∨ 321 + 7 * c.length + 7 ≤ a) → hCa G w3 a t st n dp bg := fun a n dp t st bg q q1 q2 =>
    ⟨(e4 _ (by omega) (by omega) (by omega)).trans q.1, ⟨(e4 _ (by omega) (by omega) (by omega)).trans q.2.1.1, q.2.1.2.1.kept (e4 _ (by omega) (by omega) (by omega)) (e4 _ (by omega) (by omega) (by omega)), q.2.1.2.2.kept (e4 _ (by omega) (by omega) (by omega)) (e4 _ (by omega) (by omega) (by omega))⟩, (e4 _ (by omega) (by omega) (by omega)).trans q.2.2⟩
  have hself : hCa G w3 (321 + 7 * c.length) u.1 (aw_un st u.2.1.length ga.length) u.2.1.length u.2.2.1 u.2.2.2 :=
    ⟨(e4 _ (by omega) (by omega) (by omega)).trans b1.1, ⟨(e4 _ (by omega) (by omega) (by omega)).trans b1.2.1.1, b1.2.1.2.1.kept (e4 _ (by omega) (by omega) (by omega)) (e4 _ (by omega) (by omega) (by omega)), b1.2.1.2.2.kept (e4 _ (by omega) (by omega) (by omega)) (e4 _ (by omega) (by omega) (by omega))⟩, e3⟩
  have htl : (ga.take s0).length = s0 := by rw [List.length_take]; omega
  refine ⟨⟨by omega, e1, ⟨gg, by rw [htl]; exact e2, (e4 _ (by omega) (by omega) (by omega)).trans g1, ?_, by omega, g3⟩, ⟨f, (e4 _ (by omega) (by omega) (by omega)).trans a4, a5⟩, fun i hi => ?_, ⟨t0, dp, bg, kk _ _ _ _ _ _ a7 (by omega) (by omega), a8⟩, by rw [htl]; exact hokc, a10⟩, ?_, ?_⟩
  · rw [htl]
    conv => lhs; rw [g2]
    exact sl_take _ _ _ _ hs0g
  · by_cases e : i = c.length
    · subst e
      exact ⟨_, _, _, _, _, hself, hl9, b3, b4, fun x hx => by
        rw [List.getElem?_eq_none_iff.mpr (by simp)] at hx
        cases hx⟩
    · obtain ⟨t1, st1, n1, dp1, bg1, x1, x2, x3, x4, x5⟩ := a6 i hi
      refine ⟨t1, st1, n1, dp1, bg1, kk _ _ _ _ _ _ x1 (by omega) (by omega), x2, x3, x4, fun x hx => x5 x ?_⟩
      simp only [List.reverse_cons]
      have : i < c.reverse.length := (List.getElem?_eq_some_iff.mp hx).1
      rw [List.getElem?_append_left this]
      exact hx
  · have hcl : (cut ga u.2.1).length = u.2.1.length := cut_len _ _
    have hst : ∀ i, i < u.2.1.length → u.2.1.getD i 0 = st i := fun i hi => by
      have q : u.2.1.getD i 0 = (sl st 0 u.2.1.length).getD i 0 := congrArg (fun l => l.getD i 0) b2
      rw [q, sl_getD hi, Nat.zero_add]
    have hle : ∀ i, i ≤ u.2.1.length → aw_un st u.2.1.length ga.length i ≤ ga.length := fun i hi => by
      by_cases e : i = u.2.1.length
      · rw [e, aw_un_eq]; exact Nat.le_refl _
      · rw [aw_un_ne _ _ e, ← hst i (by omega)]
        refine hall _ ?_
        rw [List.getD_eq_getElem?_getD, List.getElem?_eq_getElem (by omega)]
        exact List.getElem_mem _
    have hmono : ∀ i j, i ≤ j → j ≤ u.2.1.length → aw_un st u.2.1.length ga.length i ≤ aw_un st u.2.1.length ga.length j := fun i j hij hj => by
      by_cases e : j = u.2.1.length
      · rw [e, aw_un_eq]; exact hle i (by omega)
      · rw [aw_un_ne _ _ e, aw_un_ne _ _ (by omega), ← hst i (by omega), ← hst j (by omega)]
        by_cases q : i = j
        · rw [q]; exact Nat.le_refl _
        · have := List.pairwise_iff_getElem.mp hpw i j (by omega) (by omega) (by omega)
          rw [List.getD_eq_getElem?_getD, List.getD_eq_getElem?_getD, List.getElem?_eq_getElem (by omega), List.getElem?_eq_getElem (by omega)]
          exact this
    refine ⟨aw_un st u.2.1.length ga.length, gg, u.2.2.1, u.2.2.2, by rw [hcl]; exact hself, by rw [hcl]; exact ⟨hl9, hmono, by rw [aw_un_eq]; exact hga⟩, (e4 _ (by omega) (by omega) (by omega)).trans g1, g3, b4, fun i => ?_⟩
    rw [hcl]
    by_cases q : 1 ≤ i ∧ i ≤ u.2.1.length
    · have m1 := hmono (i - 1) i (by omega) q.2
      have m2 := hle i q.2
      rw [if_pos q, cut_get ga u.2.1 (i - 1) (by omega), argL, frm, too, if_pos q, if_pos q]
      have e5 : (if i - 1 + 1 < u.2.1.length then u.2.1.getD (i - 1 + 1) 0 else ga.length) = aw_un st u.2.1.length ga.length i := by
        by_cases z : i < u.2.1.length
        · rw [if_pos (by omega), show i - 1 + 1 = i by omega, hst i z, aw_un_ne _ _ (by omega)]
        · rw [if_neg (by omega), show i = u.2.1.length by omega, aw_un_eq]
      have e6 : u.2.1.getD (i - 1) 0 = aw_un st u.2.1.length ga.length (i - 1) := by rw [hst _ (by omega), aw_un_ne _ _ (by omega)]
      rw [e5, e6]
      generalize aw_un st u.2.1.length ga.length (i - 1) = x1 at m1
      generalize aw_un st u.2.1.length ga.length i = x2 at m1 m2
      have e7 : ga.drop x1 = sl gg x1 (ga.length - x1) := by
        have q := sl_drop gg 0 ga.length x1 (by omega)
        rw [Nat.zero_add, ← g2] at q
        exact q
      rw [e7, sl_take _ _ _ _ (by omega)]
    · rw [if_neg q, argL, frm, too, if_neg q, if_neg q]
      rfl
  · intro x hx
    exact e4 x (by omega) (by omega) (by omega)
end

