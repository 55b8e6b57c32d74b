/-! RescanDesk: readQuote, readInCall, readName, read -/
theorem qcl_lt : ∀ {e k : Nat} {L : List Nat}, qcl e L = some k → k < L.length := by
  intro e k L
  induction L generalizing e k with
  | nil => intro h; cases h
  | cons c r ih =>
    intro h
    have ih' : ∀ e k, (qcl e r).map (· + 1) = some k → k < (c :: r).length := fun e k h => by
      obtain ⟨a, h1, h2⟩ := Option.map_eq_some_iff.mp h
      have := ih h1
      simp only [List.length_cons]
      omega
    unfold qcl at h
    split at h
    · exact ih' _ _ h
    · split at h
      · split at h
        · cases h; simp
        · exact ih' _ _ h
      · exact ih' _ _ h
theorem nmLen_le (L : List Nat) : nmLen L ≤ L.length := by
  have hw : ∀ r : List Nat, (r.takeWhile isLD).length ≤ r.length := fun r => (List.takeWhile_sublist _).length_le
  cases L with
  | nil => simp [nmLen]
  | cons c r =>
    unfold nmLen
    simp only
    split <;> simp <;> have := hw r <;> omega
def mkB (C : List CS) : List CS := updH C (fun u => (u.1, u.2.1, u.2.2.1, true))
theorem mkB_len (C : List CS) : (mkB C).length = C.length := by cases C <;> rfl
/-- what is taken from the front moves its start -/
theorem hFr.drop {G : aw_G} {w w' : Nat → va_E} {F : List Nat} {n : Nat} (h : hFr G w F) (hn : n ≤ F.length) (h3 : w' 3 = oFr G 4 (600 - F.length + n)) (h4 : w' 4 = w 4) : hFr G w' (F.drop n) := by
  obtain ⟨h0, f, g1, g2, g3, g4⟩ := h
  refine ⟨by rw [List.length_drop]; omega, f, ?_, h4.trans g2, ?_, g4⟩
  · rw [h3, List.length_drop]; congr 1; omega
  · rw [List.length_drop]
    have e := sl_drop f (600 - F.length) F.length n hn
    rw [← g3] at e
    rw [e]
    congr 1
    omega
/-- a name that was read: the error, the state, what is to be expanded -/
def nmS (σ : SQ) : Nat × SQ × Option (Def × List (List Nat)) :=
  let n := nmLen σ.1.1
  let s1 : SQ := ((σ.1.1.drop n, σ.1.2), σ.2.1, mkB σ.2.2.1, σ.2.2.2)
  match tfind σ.1.2.2.2 (σ.1.1.take n) with
  | none => ((wrS s1 (σ.1.1.take n)).1, (wrS s1 (σ.1.1.take n)).2, none)
  | some i =>
    if (σ.1.1.drop n).head? = some 40 then
      (if 12 ≤ σ.2.2.1.length then (2, (((σ.1.1.drop n).drop 1, σ.1.2), σ.2.1, mkB σ.2.2.1, σ.2.2.2), none)
      else (0, (((σ.1.1.drop n).drop 1, σ.1.2), σ.2.1, (σ.1.2.2.2.getD i ([], 0, []), [σ.2.1.length], 0, false) :: mkB σ.2.2.1, max σ.2.2.2 (σ.2.2.1.length + 1)), none))
    else (0, s1, some (σ.1.2.2.2.getD i ([], 0, []), []))
/-- a character that was taken for a call -/
def icS (σ : SQ) (u : CS) (r : List CS) (c : Nat) : Nat × SQ × Option (Def × List (List Nat)) :=
  if c = 41 ∧ u.2.2.1 = 0 then (0, (σ.1, σ.2.1.take (u.2.1.getD 0 0), r, σ.2.2.2), some (u.1, cut σ.2.1 u.2.1))
  else if c = 44 ∧ u.2.2.1 = 0 then (if 9 ≤ u.2.1.length then (2, σ, none) else (0, (σ.1, σ.2.1, (u.1, u.2.1 ++ [σ.2.1.length], u.2.2.1, false) :: r, σ.2.2.2), none))
  else if isBlk c = true ∧ u.2.2.2 = false then (0, σ, none)
  else
    let s1 : SQ := (σ.1, σ.2.1, (u.1, u.2.1, (if c = 40 then u.2.2.1 + 1 else if c = 41 then u.2.2.1 - 1 else u.2.2.1), true) :: r, σ.2.2.2)
    ((wrS s1 [c]).1, (wrS s1 [c]).2, none)
def qtS (σ : SQ) (F : List Nat) : Nat × SQ × Option (Def × List (List Nat)) := match qcl 1 F with
  | none => (3, σ, none)
  | some k =>
    let s1 : SQ := ((F.drop (k + 1), σ.1.2), σ.2.1, mkB σ.2.2.1, σ.2.2.2)
    ((wrS s1 (F.take k)).1, (wrS s1 (F.take k)).2, none)
def rdS (σ : SQ) : Nat × SQ × Option (Def × List (List Nat)) := match σ.1.1 with
  | [] => (0, σ, none)
  | c :: F =>
    if c = 96 then qtS σ F
    else if isLet c = true then nmS σ
    else match σ.2.2.1 with
      | [] => ((wrS ((F, σ.1.2), σ.2) [c]).1, (wrS ((F, σ.1.2), σ.2) [c]).2, none)
      | u :: r => icS ((F, σ.1.2), σ.2) u r c
/-- the desk, and the call that is to be expanded -/
def hRr (G : aw_G) (w : Nat → va_E) (tx : List Nat) (σ : SQ) (st : Nat) (o : Option (Def × List (List Nat))) : Prop := match o with
  | none => hRd G w tx σ .null st
  | some x => ∃ a, 321 ≤ a ∧ a + 7 ≤ 412 ∧ hRd G w tx σ (rf G a) st ∧ hRdy G w a x.1 x.2
section
variable {G : aw_G} {nx d : Nat} {w : Nat → va_E} {tx : List Nat} {σ : SQ} {rd : Value} {st : Nat}
theorem nI_ne_neg {n : Nat} (h : n < 2 ^ 31) : ¬ nI n = -1 := fun e => by
  have e3 := congrArg Int32.toInt e
  rw [nI_toInt h] at e3
  have : (-1 : Int32).toInt = -1 := by decide
  omega
def laV (G : aw_G) (C : List CS) : Value := match C with
  | [] => .null
  | _ :: c => rf G (321 + 7 * c.length)
theorem s_Cs_latest2 {ga : List Nat} {C : List CS} {mo : Nat} (hnx : 412 ≤ nx) (h : hCs G w ga C mo) : AC G y_Cs_latest b_Cs_latest 1 (some (.object "RescanDesk$Call")) d false [rf G 317] nx w 0 0 (fun r w' nx' => nx' = nx ∧ w' = w ∧ r = some (laV G C)) :=
  (s_Cs_latest hnx h).weak fun r w' nx' hp => ⟨hp.1, hp.2.1, hp.2.2.trans (by cases C <;> rfl)⟩
theorem s_Rd_readQuote {F : List Nat} (hnx : 418 ≤ nx) (hd : 3 ≤ d) (hF : σ.1.1 = 96 :: F) (h : hRd G w tx σ .null st) : AC G y_Rd_readQuote b_Rd_readQuote 3 (some .int) d false [rf G 0] nx w 0 0 (fun r w' nx' => nx' = nx ∧ r = some (.int (nI (qtS σ F).1)) ∧ hRr G w' tx (qtS σ F).2.1 st (qtS σ F).2.2 ∧ fr 0 418 w w') := by
  have h0 := h
  obtain ⟨a1, a2, ⟨s, a3⟩, a4⟩ := h
  have b2 := a4.2.1
  have a31 : hFr G w σ.1.1 := a3.1
  obtain ⟨fl, f, fr1, fr2, fr3, fr4⟩ := id a31
  have hFl : σ.1.1.length = F.length + 1 := by rw [hF]; rfl
  have hf96 : f (600 - σ.1.1.length) = 96 ∧ F = sl f (600 - σ.1.1.length + 1) F.length := by
    have e := fr3
    rw [hFl, sl_cons, hF] at e
    rw [hFl]
    exact ⟨(List.cons.inj e).1.symm, (List.cons.inj e).2⟩
  refine AC.ofW (by decide) (Nat.le_of_ble_eq_true rfl) ?_
  intro E P hP Y X
  have X : aw_X G "RescanDesk" b_Rd_readQuote 3 (some .int) "readQuote" _ _ _ _ _ E := X
  refine AW.eql (lv' := [(0, _)]) (by rfl) ?_
  refine aw_aload_nR (pc := 0) X d_Rd_readQuote_0 (by rfl) ?_
  refine aw_getO (pc := 1) X _ 1 (by omega) (by (repeat (first | rw [aw_up_eq] | rw [aw_up_ne _ _ (by first | assumption | omega)])) <;> first | assumption | rfl) (by rfl) in_Rd (by decide) k_373 (by rfl) d_Rd_readQuote_1 ?_
  -- invokevirtual 4 lv=0:r st=r
  refine aw_callV (pc := 4) X _ (c_Fr_closingQuote (d := 0) (a := 3) (c := 4) (n := 600 - σ.1.1.length) (f := f) (by omega) (by omega) (by omega) fr4 hf96.1 fr1 fr2) q_Fr_closingQuote k_530 k_531 k_532 (by omega) fr1 (by rfl) d_Rd_readQuote_4 (by omega) (Nat.le_of_ble_eq_true rfl) ⟨by omega, by omega⟩ (fun h => by cases h) (fun r w2 nx2 hp => ?_)
  rw [show 600 - (600 - σ.1.1.length + 1) = F.length by omega, ← hf96.2] at hp
  obtain ⟨rfl, rfl, ⟨z, rfl⟩ | ⟨k, z, rfl⟩⟩ := hp
  · refine aw_istore_n (pc := 7) X (lv' := [(1, _), (0, _)]) d_Rd_readQuote_7 (by decide) (by rfl) ?_
    refine aw_iload_n (pc := 8) X d_Rd_readQuote_8 (by rfl) ?_
    refine aw_iconst (pc := 9) X (v := -1) d_Rd_readQuote_9 (by decide) ?_
    refine aw_icmp_ne (pc := 10) X (tgt := 15) d_Rd_readQuote_10 (by rfl) (fun h10 => ?_) (fun h10 => ?_)
    -- br 10 lv=1:i,0:r st=
    · exact absurd rfl h10
    · refine aw_iconstN (pc := 13) X 3 d_Rd_readQuote_13 (by decide) ?_
      refine aw_iret Y X rfl d_Rd_readQuote_14 (by omega) (by omega) (hP _ _ _ ?_)
      -- ret 14 lv=1:i,0:r st=n
      rw [qtS, z]
      exact ⟨rfl, rfl, h0, fr.refl _ _ _⟩
  · have hkl := qcl_lt z
    refine aw_istore_n (pc := 7) X (lv' := [(1, _), (0, _)]) d_Rd_readQuote_7 (by decide) (by rfl) ?_
    refine aw_iload_n (pc := 8) X d_Rd_readQuote_8 (by rfl) ?_
    refine aw_iconst (pc := 9) X (v := -1) d_Rd_readQuote_9 (by decide) ?_
    refine aw_icmp_ne (pc := 10) X (tgt := 15) d_Rd_readQuote_10 (by rfl) (fun h10 => ?_) (fun h10 => ?_)
    -- br 10 lv=1:n,0:r st=
    · refine aw_aload_nR (pc := 15) X d_Rd_readQuote_15 (by rfl) ?_
      refine aw_getO (pc := 16) X _ 1 (by omega) (by (repeat (first | rw [aw_up_eq] | rw [aw_up_ne _ _ (by first | assumption | omega)])) <;> first | assumption | rfl) (by rfl) in_Rd (by decide) k_373 (by rfl) d_Rd_readQuote_16 ?_
      refine aw_getNO (pc := 19) X _ 1 (by omega) (by (repeat (first | rw [aw_up_eq] | rw [aw_up_ne _ _ (by first | assumption | omega)])) <;> first | assumption | rfl) (by rfl) in_Fr (by decide) k_135 (by rfl) d_Rd_readQuote_19 ?_
      refine aw_iconstN (pc := 22) X 1 d_Rd_readQuote_22 (by decide) ?_
      refine aw_iaddN (pc := 23) X d_Rd_readQuote_23 ?_
      refine aw_istore_n (pc := 24) X (lv' := [(2, _), (1, _), (0, _)]) d_Rd_readQuote_24 (by decide) (by rfl) ?_
      refine aw_aload_nR (pc := 25) X d_Rd_readQuote_25 (by rfl) ?_
      refine aw_getO (pc := 26) X _ 1 (by omega) (by (repeat (first | rw [aw_up_eq] | rw [aw_up_ne _ _ (by first | assumption | omega)])) <;> first | assumption | rfl) (by rfl) in_Rd (by decide) k_373 (by rfl) d_Rd_readQuote_26 ?_
      refine aw_iload_n (pc := 29) X d_Rd_readQuote_29 (by rfl) ?_
      refine aw_iconstN (pc := 30) X 1 d_Rd_readQuote_30 (by decide) ?_
      refine aw_iaddN (pc := 31) X d_Rd_readQuote_31 ?_
      refine aw_putNO (pc := 32) X _ 1 (by omega) (by (repeat (first | rw [aw_up_eq] | rw [aw_up_ne _ _ (by first | assumption | omega)])) <;> first | assumption | rfl) (by rfl) in_Fr (by decide) ty_Fr ok_Fr nm_Fr k_135 (by rfl) (by rfl) (by rfl) (by simp) (fs' := [_, _]) (by rfl) d_Rd_readQuote_32 ?_
      -- stop 35 lv=2:n,1:n,0:r st=
      generalize hw3 : aw_up w2 3 _ = w3
      have f3 : fr 3 4 w2 w3 := by rw [← hw3]; exact (fr.refl _ _ _).up _ (by omega)
      have e3 : w3 3 = oFr G 4 (600 - σ.1.1.length + (k + 2)) := by
        rw [← hw3, aw_up_eq, show 600 - σ.1.1.length + (k + 2) = 600 - σ.1.1.length + 1 + k + 1 by omega]
        rfl
      have hF3 : hFr G w3 (F.drop (k + 1)) := by
        have := a31.drop (n := k + 2) (by omega) e3 (f3 _ (by omega))
        rwa [hF, List.drop_succ_cons] at this
      have h3 := h0.front hF3 (f3.mono (by omega) (by omega))
      have m1 := h3.1
      have m4o := h3.2.2.2.2.1
      refine aw_aload_nR (pc := 35) X d_Rd_readQuote_35 (by rfl) ?_
      refine aw_getO (pc := 36) X _ 4 (by omega) (by (repeat (first | rw [aw_up_eq] | rw [aw_up_ne _ _ (by first | assumption | omega)])) <;> first | assumption | rfl) (by rfl) in_Rd (by decide) k_376 (by rfl) d_Rd_readQuote_36 ?_
      -- invokevirtual 39 lv=2:n,1:n,0:r st=r
      refine aw_callV (pc := 39) X _ (s_Cs_markBegun (d := 0) (by omega) h3.2.2.2) q_Cs_markBegun k_534 k_535 k_536 (by omega) m4o (by rfl) d_Rd_readQuote_39 (by omega) (Nat.le_of_ble_eq_true rfl) ⟨by omega, by omega⟩ (fun h => by cases h) (fun r w4 nx2 hp => ?_)
      obtain ⟨rfl, rfl, k4, hf4⟩ := hp
      have h4 := h3.calls k4 hf4
      have w44 : w4 4 = aCh G 600 f := (hf4 _ (by omega)).trans ((f3 _ (by omega)).trans fr2)
      have m0 := h4.1
      refine aw_aload_nR (pc := 42) X d_Rd_readQuote_42 (by rfl) ?_
      refine aw_iload_n (pc := 43) X d_Rd_readQuote_43 (by rfl) ?_
      refine aw_iload_n (pc := 44) X d_Rd_readQuote_44 (by rfl) ?_
      -- invokevirtual 45 lv=2:n,1:n,0:r st=n,n,r
      refine aw_callV (pc := 45) X _ (s_Rd_write (d := 2) (f := f) (by omega) (by omega) (by omega) (by omega) fr4 w44 h4) q_Rd_write k_538 k_540 k_4 (by omega) m0 (by rfl) d_Rd_readQuote_45 (by omega) (Nat.le_of_ble_eq_true rfl) ⟨by omega, by omega⟩ (fun h => by cases h) (fun r w5 nx2 hp => ?_)
      obtain ⟨rfl, rfl, k5, hf5⟩ := hp
      have es : sl f (600 - σ.1.1.length + 1) (600 - σ.1.1.length + 1 + k - (600 - σ.1.1.length + 1)) = F.take k := by
        rw [show 600 - σ.1.1.length + 1 + k - (600 - σ.1.1.length + 1) = k by omega]
        have := sl_take f (600 - σ.1.1.length + 1) F.length k (by omega)
        rw [← hf96.2] at this
        exact this.symm
      rw [es] at k5 ⊢
      refine aw_iret Y X rfl d_Rd_readQuote_48 (by omega) (by omega) (hP _ _ _ ?_)
      -- ret 48 lv=2:n,1:n,0:r st=n
      rw [qtS, z]
      exact ⟨rfl, rfl, k5, (f3.mono (by omega) (by omega)).trans ((hf4.mono (by omega) (by omega)).trans (hf5.mono (by omega) (by omega)))⟩
    · exact absurd h10 (nI_ne_neg (by omega))
theorem s_Rd_readInCall {u : CS} {r : List CS} {c : Nat} {f : Nat → Nat} (hnx : 418 ≤ nx) (hd : 3 ≤ d) (hc : c < 65536) (hC : σ.2.2.1 = u :: r) (hdp : u.2.2.1 < 10000) (h3 : w 3 = oFr G 4 (600 - σ.1.1.length)) (h4 : w 4 = aCh G 600 f) (hf : ∀ j, f j < 65536) (hFl : σ.1.1.length < 600) (hfc : f (600 - σ.1.1.length - 1) = c) (h : hRd G w tx σ .null st) : AC G y_Rd_readInCall b_Rd_readInCall 3 (some .int) d false [rf G 0, rf G (321 + 7 * r.length), .int (nI c)] nx w 0 0 (fun r' w' nx' => nx' = nx ∧ r' = some (.int (nI (icS σ u r c).1)) ∧ hRr G w' tx (icS σ u r c).2.1 st (icS σ u r c).2.2 ∧ fr 0 418 w w') := by
  have h0 := h
  obtain ⟨a1, a2, ⟨s, a3⟩, a4⟩ := h
  have b2 := a4.2.1
  rw [hC] at a4
  obtain ⟨hr12, sts, b1, b5, b3, b4⟩ := a4.top
  have b1' : w (321 + 7 * r.length) = aObj 7 [rf G (321 + 7 * r.length + 1), rf G 319, rf G (321 + 7 * r.length + 6), .int (nI u.2.1.length), .int (nI u.2.2.1), .int (nI (bN u.2.2.2))] := b1.1
  refine AC.ofW (by decide) (Nat.le_of_ble_eq_true rfl) ?_
  intro E P hP Y X
  have X : aw_X G "RescanDesk" b_Rd_readInCall 3 (some .int) "readInCall" _ _ _ _ _ E := X
  refine AW.eql (lv' := [(0, _), (1, _), (2, _)]) (by rfl) ?_
  have Z3 : ∀ (w1 : Nat → va_E) (dp : Nat), dp ≤ 10000 → w1 = aw_up w (321 + 7 * r.length) (aObj 7 [rf G (321 + 7 * r.length + 1), rf G 319, rf G (321 + 7 * r.length + 6), .int (nI u.2.1.length), .int (nI dp), .int (nI 1)]) → icS σ u r c = ((wrS (σ.1, σ.2.1, (u.1, u.2.1, dp, true) :: r, σ.2.2.2) [c]).1, (wrS (σ.1, σ.2.1, (u.1, u.2.1, dp, true) :: r, σ.2.2.2) [c]).2, none) → AW G E 3 nx 0 0 w1 112 [(0, rf G 0), (1, rf G (321 + 7 * r.length)), (2, .int (nI c))] [] := by
    intro w1 dp hdp1 hw1 hi
    have f1 : fr (321 + 7 * r.length) (321 + 7 * r.length + 1) w w1 := by rw [hw1]; exact (fr.refl _ _ _).up _ (by omega)
    have hcs : hCs G w1 σ.2.1 ((u.1, u.2.1, dp, true) :: r) σ.2.2.2 := a4.upd (v := (u.1, u.2.1, dp, true)) (st := sts) (a4.2.2.1.keep f1 (by omega)) ⟨by rw [hw1]; exact aw_up_eq _ _ _, b1.2.1.keep f1 (by omega), (f1 _ (by omega)).trans b1.2.2⟩ b5 hdp1 b4 a4.2.2.2.2.2.2.1 (fun x hx => f1 x (by omega))
    have hR := h0.calls hcs (f1.mono (by omega) (by omega))
    have m0 := hR.1
    have m3 : w1 3 = oFr G 4 (600 - σ.1.1.length) := (f1 _ (by omega)).trans h3
    have m4 : w1 4 = aCh G 600 f := (f1 _ (by omega)).trans h4
    refine aw_aload_nR (pc := 112) X d_Rd_readInCall_112 (by rfl) ?_
    refine aw_aload_nR (pc := 113) X d_Rd_readInCall_113 (by rfl) ?_
    refine aw_getO (pc := 114) X _ 1 (by omega) (by (repeat (first | rw [aw_up_eq] | rw [aw_up_ne _ _ (by first | assumption | omega)])) <;> first | assumption | rfl) (by rfl) in_Rd (by decide) k_373 (by rfl) d_Rd_readInCall_114 ?_
    refine aw_getNO (pc := 117) X _ 1 (by omega) (by (repeat (first | rw [aw_up_eq] | rw [aw_up_ne _ _ (by first | assumption | omega)])) <;> first | assumption | rfl) (by rfl) in_Fr (by decide) k_135 (by rfl) d_Rd_readInCall_117 ?_
    refine aw_iconstN (pc := 120) X 1 d_Rd_readInCall_120 (by decide) ?_
    refine aw_isubN (pc := 121) X d_Rd_readInCall_121 (by omega) ?_
    refine aw_aload_nR (pc := 122) X d_Rd_readInCall_122 (by rfl) ?_
    refine aw_getO (pc := 123) X _ 1 (by omega) (by (repeat (first | rw [aw_up_eq] | rw [aw_up_ne _ _ (by first | assumption | omega)])) <;> first | assumption | rfl) (by rfl) in_Rd (by decide) k_373 (by rfl) d_Rd_readInCall_123 ?_
    refine aw_getNO (pc := 126) X _ 1 (by omega) (by (repeat (first | rw [aw_up_eq] | rw [aw_up_ne _ _ (by first | assumption | omega)])) <;> first | assumption | rfl) (by rfl) in_Fr (by decide) k_135 (by rfl) d_Rd_readInCall_126 ?_
    -- invokevirtual 129 lv=0:r,1:r,2:n st=n,n,r
    refine aw_callV (pc := 129) X _ (s_Rd_write (d := 2) (f := f) (by omega) (by omega) (by omega) (by omega) hf m4 hR) q_Rd_write k_538 k_540 k_4 (by omega) m0 (by rfl) d_Rd_readInCall_129 (by omega) (Nat.le_of_ble_eq_true rfl) ⟨by omega, by omega⟩ (fun h => by cases h) (fun r w5 nx2 hp => ?_)
    obtain ⟨rfl, rfl, k5, hf5⟩ := hp
    have es : sl f (600 - σ.1.1.length - 1) (600 - σ.1.1.length - (600 - σ.1.1.length - 1)) = [c] := by
      rw [show 600 - σ.1.1.length - (600 - σ.1.1.length - 1) = 1 by omega, sl_cons, hfc]
      rfl
    rw [es] at k5 ⊢
    refine aw_iret Y X rfl d_Rd_readInCall_132 (by omega) (by omega) (hP _ _ _ ?_)
    -- ret 132 lv=0:r,1:r,2:n st=n
    rw [hi]
    exact ⟨rfl, rfl, k5, (f1.mono (by omega) (by omega)).trans (hf5.mono (by omega) (by omega))⟩
  have Z2 : ¬ (c = 41 ∧ u.2.2.1 = 0) → ¬ (c = 44 ∧ u.2.2.1 = 0) → AW G E 3 nx 0 0 w 56 [(0, rf G 0), (1, rf G (321 + 7 * r.length)), (2, .int (nI c))] [] := by
    intro n1 n2
    have Z3' : ¬ (isBlk c = true ∧ u.2.2.2 = false) → AW G E 3 nx 0 0 w 72 [(0, rf G 0), (1, rf G (321 + 7 * r.length)), (2, .int (nI c))] [] := by
      intro n3
      have hi : icS σ u r c = ((wrS (σ.1, σ.2.1, (u.1, u.2.1, (if c = 40 then u.2.2.1 + 1 else if c = 41 then u.2.2.1 - 1 else u.2.2.1), true) :: r, σ.2.2.2) [c]).1, (wrS (σ.1, σ.2.1, (u.1, u.2.1, (if c = 40 then u.2.2.1 + 1 else if c = 41 then u.2.2.1 - 1 else u.2.2.1), true) :: r, σ.2.2.2) [c]).2, none) := by
        rw [icS, if_neg n1, if_neg n2, if_neg n3]
      refine aw_aload_nR (pc := 72) X d_Rd_readInCall_72 (by rfl) ?_
      refine aw_iconstN (pc := 73) X 1 d_Rd_readInCall_73 (by decide) ?_
      refine aw_putNO (pc := 74) X _ 5 (by omega) (by (repeat (first | rw [aw_up_eq] | rw [aw_up_ne _ _ (by first | assumption | omega)])) <;> first | assumption | rfl) (by rfl) in_Ca (by decide) ty_Ca ok_Ca nm_Ca k_293 (by rfl) (by decide +kernel) (by decide +kernel) (by simp) (fs' := [_, _, _, _, _, _]) (by rfl) d_Rd_readInCall_74 ?_
      refine aw_iload_n (pc := 77) X d_Rd_readInCall_77 (by rfl) ?_
      refine aw_bipushN (pc := 78) X 40 d_Rd_readInCall_78 (by decide) ?_
      refine aw_icmp_neN (pc := 80) X (tgt := 96) d_Rd_readInCall_80 (by rfl) (by omega) (by omega) (fun h80 => ?_) (fun h80 => ?_)
      -- br 80 lv=0:r,1:r,2:n st=
      · refine aw_iload_n (pc := 96) X d_Rd_readInCall_96 (by rfl) ?_
        refine aw_bipushN (pc := 97) X 41 d_Rd_readInCall_97 (by decide) ?_
        refine aw_icmp_neN (pc := 99) X (tgt := 112) d_Rd_readInCall_99 (by rfl) (by omega) (by omega) (fun h99 => ?_) (fun h99 => ?_)
        -- br 99 lv=0:r,1:r,2:n st=
        · rw [if_neg h80, if_neg h99] at hi
          exact Z3 _ _ (by omega) rfl hi
        · have hne : u.2.2.1 ≠ 0 := fun e => n1 ⟨h99, e⟩
          rw [if_neg h80, if_pos h99] at hi
          refine aw_aload_nR (pc := 102) X d_Rd_readInCall_102 (by rfl) ?_
          refine aw_dup (pc := 103) X d_Rd_readInCall_103 (by rfl) ?_
          refine aw_getNO (pc := 104) X _ 4 (by omega) (by (repeat (first | rw [aw_up_eq] | rw [aw_up_ne _ _ (by first | assumption | omega)])) <;> first | assumption | rfl) (by rfl) in_Ca (by decide) k_290 (by rfl) d_Rd_readInCall_104 ?_
          refine aw_iconstN (pc := 107) X 1 d_Rd_readInCall_107 (by decide) ?_
          refine aw_isubN (pc := 108) X d_Rd_readInCall_108 (by omega) ?_
          refine aw_putNO (pc := 109) X _ 4 (by omega) (by (repeat (first | rw [aw_up_eq] | rw [aw_up_ne _ _ (by first | assumption | omega)])) <;> first | assumption | rfl) (by rfl) in_Ca (by decide) ty_Ca ok_Ca nm_Ca k_290 (by rfl) (by rfl) (by rfl) (by simp) (fs' := [_, _, _, _, _, _]) (by rfl) d_Rd_readInCall_109 ?_
          -- stop 112 lv=0:r,1:r,2:n st=
          refine Z3 _ _ (by omega) ?_ hi
          rw [aw_up_up]
      · rw [if_pos h80] at hi
        refine aw_aload_nR (pc := 83) X d_Rd_readInCall_83 (by rfl) ?_
        refine aw_dup (pc := 84) X d_Rd_readInCall_84 (by rfl) ?_
        refine aw_getNO (pc := 85) X _ 4 (by omega) (by (repeat (first | rw [aw_up_eq] | rw [aw_up_ne _ _ (by first | assumption | omega)])) <;> first | assumption | rfl) (by rfl) in_Ca (by decide) k_290 (by rfl) d_Rd_readInCall_85 ?_
        refine aw_iconstN (pc := 88) X 1 d_Rd_readInCall_88 (by decide) ?_
        refine aw_iaddN (pc := 89) X d_Rd_readInCall_89 ?_
        refine aw_putNO (pc := 90) X _ 4 (by omega) (by (repeat (first | rw [aw_up_eq] | rw [aw_up_ne _ _ (by first | assumption | omega)])) <;> first | assumption | rfl) (by rfl) in_Ca (by decide) ty_Ca ok_Ca nm_Ca k_290 (by rfl) (by rfl) (by rfl) (by simp) (fs' := [_, _, _, _, _, _]) (by rfl) d_Rd_readInCall_90 ?_
        refine aw_goto (pc := 93) X (tgt := 112) d_Rd_readInCall_93 (by rfl) ?_
        -- stop 112 lv=0:r,1:r,2:n st=
        refine Z3 _ _ (by omega) ?_ hi
        rw [aw_up_up]
    refine aw_iload_n (pc := 56) X d_Rd_readInCall_56 (by rfl) ?_
    -- invokestatic 57 lv=0:r,1:r,2:n st=n
    refine aw_callS (pc := 57) X (c_Rd_isBlank (d := 0) hc) q_Rd_isBlank k_605 k_606 d_Rd_readInCall_57 (by omega) (Nat.le_of_ble_eq_true rfl) ⟨by omega, by omega⟩ (fun h => by cases h) (fun r w2 nx2 hp => ?_)
    obtain ⟨rfl, rfl, rfl⟩ := hp
    have hbl := bN_lt (isBlk c)
    have hbl2 := bN_lt u.2.2.2
    refine aw_if_eqN (pc := 60) X (tgt := 72) d_Rd_readInCall_60 (by rfl) (by omega) (fun h60 => ?_) (fun h60 => ?_)
    -- br 60 lv=0:r,1:r,2:n st=
    · exact Z3' (fun e => by have := bN_eq.mp h60; rw [e.1] at this; cases this)
    · refine aw_aload_nR (pc := 63) X d_Rd_readInCall_63 (by rfl) ?_
      refine aw_getNO (pc := 64) X _ 5 (by omega) (by (repeat (first | rw [aw_up_eq] | rw [aw_up_ne _ _ (by first | assumption | omega)])) <;> first | assumption | rfl) (by rfl) in_Ca (by decide) k_293 (by rfl) d_Rd_readInCall_64 ?_
      refine aw_if_neN (pc := 67) X (tgt := 72) d_Rd_readInCall_67 (by rfl) (by omega) (fun h67 => ?_) (fun h67 => ?_)
      -- br 67 lv=0:r,1:r,2:n st=
      · exact Z3' (fun e => by have := bN_ne.mp h67; rw [e.2] at this; cases this)
      · refine aw_iconstN (pc := 70) X 0 d_Rd_readInCall_70 (by decide) ?_
        refine aw_iret Y X rfl d_Rd_readInCall_71 (by omega) (by omega) (hP _ _ _ ?_)
        -- ret 71 lv=0:r,1:r,2:n st=n
        rw [icS, if_neg n1, if_neg n2, if_pos ⟨bN_ne.mp h60, bN_eq.mp h67⟩]
        exact ⟨rfl, rfl, h0, fr.refl _ _ _⟩
  have Z1 : ¬ (c = 41 ∧ u.2.2.1 = 0) → AW G E 3 nx 0 0 w 26 [(0, rf G 0), (1, rf G (321 + 7 * r.length)), (2, .int (nI c))] [] := by
    intro n1
    refine aw_iload_n (pc := 26) X d_Rd_readInCall_26 (by rfl) ?_
    refine aw_bipushN (pc := 27) X 44 d_Rd_readInCall_27 (by decide) ?_
    refine aw_icmp_neN (pc := 29) X (tgt := 56) d_Rd_readInCall_29 (by rfl) (by omega) (by omega) (fun h29 => ?_) (fun h29 => ?_)
    -- br 29 lv=0:r,1:r,2:n st=
    · exact Z2 n1 (fun e => h29 e.1)
    · refine aw_aload_nR (pc := 32) X d_Rd_readInCall_32 (by rfl) ?_
      refine aw_getNO (pc := 33) X _ 4 (by omega) (by (repeat (first | rw [aw_up_eq] | rw [aw_up_ne _ _ (by first | assumption | omega)])) <;> first | assumption | rfl) (by rfl) in_Ca (by decide) k_290 (by rfl) d_Rd_readInCall_33 ?_
      refine aw_if_neN (pc := 36) X (tgt := 56) d_Rd_readInCall_36 (by rfl) (by omega) (fun h36 => ?_) (fun h36 => ?_)
      -- br 36 lv=0:r,1:r,2:n st=
      · exact Z2 n1 (fun e => h36 e.2)
      · refine aw_aload_nR (pc := 39) X d_Rd_readInCall_39 (by rfl) ?_
        refine aw_getO (pc := 40) X _ 4 (by omega) (by (repeat (first | rw [aw_up_eq] | rw [aw_up_ne _ _ (by first | assumption | omega)])) <;> first | assumption | rfl) (by rfl) in_Rd (by decide) k_376 (by rfl) d_Rd_readInCall_40 ?_
        refine aw_aload_nR (pc := 43) X d_Rd_readInCall_43 (by rfl) ?_
        -- invokevirtual 44 lv=0:r,1:r,2:n st=r,r
        have hpos : c = 44 ∧ u.2.2.1 = 0 := ⟨h29, h36⟩
        refine aw_callV (pc := 44) X _ (s_Cs_nextArgument (d := 0) (by omega) a4) q_Cs_nextArgument k_601 k_602 k_603 (by omega) b2 (by rfl) d_Rd_readInCall_44 (by omega) (Nat.le_of_ble_eq_true rfl) ⟨by omega, by omega⟩ (fun h => by cases h) (fun r w2 nx2 hp => ?_)
        obtain ⟨rfl, ⟨z, rfl, rfl⟩ | ⟨z, rfl, k4, hf4⟩⟩ := hp
        · refine aw_if_eqN (pc := 47) X (tgt := 54) d_Rd_readInCall_47 (by rfl) (by omega) (fun h47 => ?_) (fun h47 => ?_)
          -- br 47 lv=0:r,1:r,2:n st=
          · refine aw_iconstN (pc := 54) X 2 d_Rd_readInCall_54 (by decide) ?_
            refine aw_iret Y X rfl d_Rd_readInCall_55 (by omega) (by omega) (hP _ _ _ ?_)
            -- ret 55 lv=0:r,1:r,2:n st=n
            rw [icS, if_neg n1, if_pos hpos, if_pos z]
            exact ⟨rfl, rfl, h0, fr.refl _ _ _⟩
          · exact absurd rfl h47
        · refine aw_if_eqN (pc := 47) X (tgt := 54) d_Rd_readInCall_47 (by rfl) (by omega) (fun h47 => ?_) (fun h47 => ?_)
          -- br 47 lv=0:r,1:r,2:n st=
          · cases h47
          · refine aw_iconstN (pc := 50) X 0 d_Rd_readInCall_50 (by decide) ?_
            refine aw_goto (pc := 51) X (tgt := 55) d_Rd_readInCall_51 (by rfl) ?_
            refine aw_iret Y X rfl d_Rd_readInCall_55 (by omega) (by omega) (hP _ _ _ ?_)
            -- ret 55 lv=0:r,1:r,2:n st=n
            rw [icS, if_neg n1, if_pos hpos, if_neg (by omega)]
            exact ⟨rfl, rfl, h0.calls k4 hf4, hf4.mono (by omega) (by omega)⟩
  refine aw_iload_n (pc := 0) X d_Rd_readInCall_0 (by rfl) ?_
  refine aw_bipushN (pc := 1) X 41 d_Rd_readInCall_1 (by decide) ?_
  refine aw_icmp_neN (pc := 3) X (tgt := 26) d_Rd_readInCall_3 (by rfl) (by omega) (by omega) (fun h3 => ?_) (fun h3 => ?_)
  -- br 3 lv=0:r,1:r,2:n st=
  · exact Z1 (fun e => h3 e.1)
  · refine aw_aload_nR (pc := 6) X d_Rd_readInCall_6 (by rfl) ?_
    refine aw_getNO (pc := 7) X _ 4 (by omega) (by (repeat (first | rw [aw_up_eq] | rw [aw_up_ne _ _ (by first | assumption | omega)])) <;> first | assumption | rfl) (by rfl) in_Ca (by decide) k_290 (by rfl) d_Rd_readInCall_7 ?_
    refine aw_if_neN (pc := 10) X (tgt := 26) d_Rd_readInCall_10 (by rfl) (by omega) (fun h10 => ?_) (fun h10 => ?_)
    -- br 10 lv=0:r,1:r,2:n st=
    · exact Z1 (fun e => h10 e.2)
    · refine aw_aload_nR (pc := 13) X d_Rd_readInCall_13 (by rfl) ?_
      refine aw_aload_nR (pc := 14) X d_Rd_readInCall_14 (by rfl) ?_
      refine aw_getO (pc := 15) X _ 4 (by omega) (by (repeat (first | rw [aw_up_eq] | rw [aw_up_ne _ _ (by first | assumption | omega)])) <;> first | assumption | rfl) (by rfl) in_Rd (by decide) k_376 (by rfl) d_Rd_readInCall_15 ?_
      -- invokevirtual 18 lv=0:r,1:r,2:n st=r,r
      refine aw_callV (pc := 18) X _ (s_Cs_close (d := 1) (by omega) (by omega) a4) q_Cs_close k_596 k_597 k_598 (by omega) b2 (by rfl) d_Rd_readInCall_18 (by omega) (Nat.le_of_ble_eq_true rfl) ⟨by omega, by omega⟩ (fun h => by cases h) (fun r w2 nx2 hp => ?_)
      obtain ⟨rfl, rfl, k4, k5, hf4⟩ := hp
      have hR := h0.calls k4 hf4
      have m0 := hR.1
      refine aw_putO (pc := 21) X _ 6 (by omega) (by (repeat (first | rw [aw_up_eq] | rw [aw_up_ne _ _ (by first | assumption | omega)])) <;> first | assumption | rfl) (by rfl) in_Rd (by decide) ty_Rd ok_Rd nm_Rd k_378 (by rfl) (by rfl) (by rfl) (by simp) (fs' := [_, _, _, _, _, _, _, _]) (by rfl) d_Rd_readInCall_21 ?_
      refine aw_iconstN (pc := 24) X 0 d_Rd_readInCall_24 (by decide) ?_
      refine aw_iret Y X rfl d_Rd_readInCall_25 (by omega) (by omega) (hP _ _ _ ?_)
      -- ret 25 lv=0:r,1:r,2:n st=n
      have hf6 : fr 0 1 w2 (aw_up w2 0 (aObj 0 [rf G 1, rf G 3, rf G 5, rf G 15, rf G 317, rf G 412, rf G (321 + 7 * r.length), .int (nI st)])) := (fr.refl _ _ _).up _ (by omega)
      rw [icS, if_pos ⟨h3, h10⟩]
      exact ⟨rfl, rfl, ⟨_, by omega, by omega, hR.obj (aw_up_eq _ _ _) hf6, k5.keep (by omega) hf6 (by omega)⟩, (hf4.mono (by omega) (by omega)).trans (hf6.mono (by omega) (by omega))⟩
theorem head_40 {L : List Nat} : L.head? = some 40 ↔ L.getD 0 0 = 40 := by
  cases L with
  | nil => simp
  | cons c r => simp
theorem s_Rd_readName (hnx : 418 ≤ nx) (hd : 5 ≤ d) (h : hRd G w tx σ .null st) : AC G y_Rd_readName b_Rd_readName 5 (some .int) d false [rf G 0] nx w 0 0 (fun r w' nx' => nx' = nx ∧ r = some (.int (nI (nmS σ).1)) ∧ hRr G w' tx (nmS σ).2.1 st (nmS σ).2.2 ∧ fr 0 418 w w') := by
  have h0 := h
  obtain ⟨a1, a2, ⟨s, a3⟩, a4⟩ := h
  have b2 := a4.2.1
  have a31 : hFr G w σ.1.1 := a3.1
  have a33 : hTa G w σ.1.2.2.2 := a3.2.2.1
  obtain ⟨fl, f, fr1, fr2, fr3, fr4⟩ := id a31
  obtain ⟨fa, g, z1, z2, z3, z4, z5, z6⟩ := id a33
  have hn := nmLen_le σ.1.1
  have hlen : 600 - (600 - σ.1.1.length) = σ.1.1.length := by omega
  refine AC.ofW (by decide) (Nat.le_of_ble_eq_true rfl) ?_
  intro E P hP Y X
  have X : aw_X G "RescanDesk" b_Rd_readName 5 (some .int) "readName" _ _ _ _ _ E := X
  refine AW.eql (lv' := [(0, _)]) (by rfl) ?_
  refine aw_aload_nR (pc := 0) X d_Rd_readName_0 (by rfl) ?_
  refine aw_getO (pc := 1) X _ 1 (by omega) (by (repeat (first | rw [aw_up_eq] | rw [aw_up_ne _ _ (by first | assumption | omega)])) <;> first | assumption | rfl) (by rfl) in_Rd (by decide) k_373 (by rfl) d_Rd_readName_1 ?_
  refine aw_getNO (pc := 4) X _ 1 (by omega) (by (repeat (first | rw [aw_up_eq] | rw [aw_up_ne _ _ (by first | assumption | omega)])) <;> first | assumption | rfl) (by rfl) in_Fr (by decide) k_135 (by rfl) d_Rd_readName_4 ?_
  refine aw_istore_n (pc := 7) X (lv' := [(1, _), (0, _)]) d_Rd_readName_7 (by decide) (by rfl) ?_
  refine aw_aload_nR (pc := 8) X d_Rd_readName_8 (by rfl) ?_
  refine aw_getO (pc := 9) X _ 1 (by omega) (by (repeat (first | rw [aw_up_eq] | rw [aw_up_ne _ _ (by first | assumption | omega)])) <;> first | assumption | rfl) (by rfl) in_Rd (by decide) k_373 (by rfl) d_Rd_readName_9 ?_
  refine aw_getNO (pc := 12) X _ 0 (by omega) (by (repeat (first | rw [aw_up_eq] | rw [aw_up_ne _ _ (by first | assumption | omega)])) <;> first | assumption | rfl) (by rfl) in_Fr (by decide) k_133 (by rfl) d_Rd_readName_12 ?_
  refine aw_iload_n (pc := 15) X d_Rd_readName_15 (by rfl) ?_
  refine aw_sipushN (pc := 16) X 600 d_Rd_readName_16 (by decide) ?_
  -- invokestatic 19 lv=1:n,0:r st=n,n,r
  refine aw_callS (pc := 19) X (c_Rd_nameEnd (d := 1) (q := 4) (l := 600) (s := 600 - σ.1.1.length) (t := 600) (by omega) (by omega) (by omega) (by omega) (by omega) fr4 fr2) q_Rd_nameEnd k_561 k_562 d_Rd_readName_19 (by omega) (Nat.le_of_ble_eq_true rfl) ⟨by omega, by omega⟩ (fun h => by cases h) (fun r w2 nx2 hp => ?_)
  obtain ⟨rfl, rfl, rfl⟩ := hp
  rw [hlen, ← fr3]
  generalize hN : nmLen σ.1.1 = n at hn ⊢
  refine aw_istore_n (pc := 22) X (lv' := [(2, _), (1, _), (0, _)]) d_Rd_readName_22 (by decide) (by rfl) ?_
  refine aw_aload_nR (pc := 23) X d_Rd_readName_23 (by rfl) ?_
  refine aw_getO (pc := 24) X _ 3 (by omega) (by (repeat (first | rw [aw_up_eq] | rw [aw_up_ne _ _ (by first | assumption | omega)])) <;> first | assumption | rfl) (by rfl) in_Rd (by decide) k_375 (by rfl) d_Rd_readName_24 ?_
  refine aw_aload_nR (pc := 27) X d_Rd_readName_27 (by rfl) ?_
  refine aw_getO (pc := 28) X _ 1 (by omega) (by (repeat (first | rw [aw_up_eq] | rw [aw_up_ne _ _ (by first | assumption | omega)])) <;> first | assumption | rfl) (by rfl) in_Rd (by decide) k_373 (by rfl) d_Rd_readName_28 ?_
  refine aw_getNO (pc := 31) X _ 0 (by omega) (by (repeat (first | rw [aw_up_eq] | rw [aw_up_ne _ _ (by first | assumption | omega)])) <;> first | assumption | rfl) (by rfl) in_Fr (by decide) k_133 (by rfl) d_Rd_readName_31 ?_
  refine aw_iload_n (pc := 34) X d_Rd_readName_34 (by rfl) ?_
  refine aw_iload_n (pc := 35) X d_Rd_readName_35 (by rfl) ?_
  -- invokevirtual 36 lv=2:n,1:n,0:r st=n,n,r,r
  refine aw_callV (pc := 36) X _ (s_Ta_topmost (d := 1) (q := 4) (l := 600) (u := 600 - σ.1.1.length) (v := 600 - σ.1.1.length + n) (by omega) (by omega) (by omega) (by omega) (by omega) (by omega) fr4 a33 fr2) q_Ta_topmost k_567 k_416 k_417 (by omega) z2 (by rfl) d_Rd_readName_36 (by omega) (Nat.le_of_ble_eq_true rfl) ⟨by omega, by omega⟩ (fun h => by cases h) (fun r w3 nx2 hp => ?_)
  obtain ⟨rfl, rfl, rfl⟩ := hp
  have es : sl f (600 - σ.1.1.length) (600 - σ.1.1.length + n - (600 - σ.1.1.length)) = σ.1.1.take n := by
    rw [show 600 - σ.1.1.length + n - (600 - σ.1.1.length) = n by omega]
    have := sl_take f (600 - σ.1.1.length) σ.1.1.length n (by omega)
    rw [← fr3] at this
    exact this.symm
  rw [es]
  refine aw_istore_n (pc := 39) X (lv' := [(3, _), (2, _), (1, _), (0, _)]) d_Rd_readName_39 (by decide) (by rfl) ?_
  refine aw_aload_nR (pc := 40) X d_Rd_readName_40 (by rfl) ?_
  refine aw_getO (pc := 41) X _ 4 (by omega) (by (repeat (first | rw [aw_up_eq] | rw [aw_up_ne _ _ (by first | assumption | omega)])) <;> first | assumption | rfl) (by rfl) in_Rd (by decide) k_376 (by rfl) d_Rd_readName_41 ?_
  -- invokevirtual 44 lv=3:i,2:n,1:n,0:r st=r
  refine aw_callV (pc := 44) X _ (s_Cs_markBegun (d := 0) (by omega) a4) q_Cs_markBegun k_534 k_535 k_536 (by omega) b2 (by rfl) d_Rd_readName_44 (by omega) (Nat.le_of_ble_eq_true rfl) ⟨by omega, by omega⟩ (fun h => by cases h) (fun r w4 nx2 hp => ?_)
  obtain ⟨rfl, rfl, k4, hf4⟩ := hp
  have h4 := h0.calls k4 hf4
  have m0 := h4.1
  have m3 : w4 3 = oFr G 4 (600 - σ.1.1.length) := (hf4 _ (by omega)).trans fr1
  refine aw_aload_nR (pc := 47) X d_Rd_readName_47 (by rfl) ?_
  refine aw_getO (pc := 48) X _ 1 (by omega) (by (repeat (first | rw [aw_up_eq] | rw [aw_up_ne _ _ (by first | assumption | omega)])) <;> first | assumption | rfl) (by rfl) in_Rd (by decide) k_373 (by rfl) d_Rd_readName_48 ?_
  refine aw_iload_n (pc := 51) X d_Rd_readName_51 (by rfl) ?_
  refine aw_putNO (pc := 52) X _ 1 (by omega) (by (repeat (first | rw [aw_up_eq] | rw [aw_up_ne _ _ (by first | assumption | omega)])) <;> first | assumption | rfl) (by rfl) in_Fr (by decide) ty_Fr ok_Fr nm_Fr k_135 (by rfl) (by rfl) (by rfl) (by simp) (fs' := [_, _]) (by rfl) d_Rd_readName_52 ?_
  -- stop 55 lv=3:i,2:n,1:n,0:r st=
  generalize hw5 : aw_up w4 3 _ = w5
  have f5 : fr 3 4 w4 w5 := by rw [← hw5]; exact (fr.refl _ _ _).up _ (by omega)
  have e5 : w5 3 = oFr G 4 (600 - σ.1.1.length + n) := by rw [← hw5, aw_up_eq]; rfl
  have w54 : w5 4 = w3 4 := (f5 _ (by omega)).trans (hf4 _ (by omega))
  have hF5 : hFr G w5 (σ.1.1.drop n) := a31.drop hn e5 w54
  have h5 := h4.front hF5 (f5.mono (by omega) (by omega))
  have n0 := h5.1
  have hfa : fr 0 418 w3 w5 := (hf4.mono (by omega) (by omega)).trans (f5.mono (by omega) (by omega))
  have hT5 : hTa G w5 σ.1.2.2.2 := by obtain ⟨s5, y⟩ := h5.2.2.1; exact y.2.2.1
  cases hp : tfind σ.1.2.2.2 (σ.1.1.take n) with
  | none =>
    refine aw_iload_n (pc := 55) X d_Rd_readName_55 (by rfl) ?_
    refine aw_iconst (pc := 56) X (v := -1) d_Rd_readName_56 (by decide) ?_
    refine aw_icmp_ne (pc := 57) X (tgt := 67) d_Rd_readName_57 (by rfl) (fun h57 => ?_) (fun h57 => ?_)
    -- br 57 lv=3:i,2:n,1:n,0:r st=
    · exact absurd rfl h57
    · refine aw_aload_nR (pc := 60) X d_Rd_readName_60 (by rfl) ?_
      refine aw_iload_n (pc := 61) X d_Rd_readName_61 (by rfl) ?_
      refine aw_iload_n (pc := 62) X d_Rd_readName_62 (by rfl) ?_
      -- invokevirtual 63 lv=3:i,2:n,1:n,0:r st=n,n,r
      refine aw_callV (pc := 63) X _ (s_Rd_write (d := 2) (f := f) (by omega) (by omega) (by omega) (by omega) fr4 (w54.trans fr2) h5) q_Rd_write k_538 k_540 k_4 (by omega) n0 (by rfl) d_Rd_readName_63 (by omega) (Nat.le_of_ble_eq_true rfl) ⟨by omega, by omega⟩ (fun h => by cases h) (fun r w6 nx2 hp => ?_)
      obtain ⟨rfl, rfl, k6, hf6⟩ := hp
      rw [es] at k6 ⊢
      refine aw_iret Y X rfl d_Rd_readName_66 (by omega) (by omega) (hP _ _ _ ?_)
      -- ret 66 lv=3:i,2:n,1:n,0:r st=n
      have hS : nmS σ = ((wrS ((σ.1.1.drop n, σ.1.2), σ.2.1, mkB σ.2.2.1, σ.2.2.2) (σ.1.1.take n)).1, (wrS ((σ.1.1.drop n, σ.1.2), σ.2.1, mkB σ.2.2.1, σ.2.2.2) (σ.1.1.take n)).2, none) := by
        rw [nmS]
        simp only [hN, hp]
      rw [hS]
      exact ⟨rfl, rfl, k6, hfa.trans (hf6.mono (by omega) (by omega))⟩
  | some i =>
    have hiT : i < σ.1.2.2.2.length := tfd_lt hp
    obtain ⟨fa5, g5, y1, y2, y3, y4, y5, y6⟩ := id hT5
    have hi60 : i < 60 := by omega
    obtain ⟨q1, q2⟩ := y4 i hi60
    obtain ⟨t, t1, t2, t3⟩ := y6 i hi60
    have ht : σ.1.2.2.2.getD i ([], 0, []) = t := by
      have := t3 (σ.1.2.2.2.getD i ([], 0, [])) (by rw [List.getD_eq_getElem?_getD, List.getElem?_eq_getElem hiT]; rfl)
      exact this
    have cs5 : hCs G w5 σ.2.1 (mkB σ.2.2.1) σ.2.2.2 := h5.2.2.2
    have c5o := cs5.2.1
    have B : (σ.1.1.drop n).head? ≠ some 40 → AW G E 5 nx2 0 0 w5 99 [(4, rf G (17 + 5 * g5 i)), (3, .int (nI i)), (2, .int (nI (600 - σ.1.1.length + n))), (1, .int (nI (600 - σ.1.1.length))), (0, rf G 0)] [] := by
      intro hne
      refine aw_aload_nR (pc := 99) X d_Rd_readName_99 (by rfl) ?_
      refine aw_aload_nR (pc := 100) X d_Rd_readName_100 (by rfl) ?_
      refine aw_getO (pc := 101) X _ 4 (by omega) (by (repeat (first | rw [aw_up_eq] | rw [aw_up_ne _ _ (by first | assumption | omega)])) <;> first | assumption | rfl) (by rfl) in_Rd (by decide) k_376 (by rfl) d_Rd_readName_101 ?_
      refine aw_aloadR (pc := 104) X d_Rd_readName_104 (by rfl) ?_
      -- invokevirtual 106 lv=4:r,3:n,2:n,1:n,0:r st=r,r,r
      refine aw_callV (pc := 106) X _ (s_Cs_bare (d := 4) (by omega) (by omega) (by omega) t2 cs5 t1) q_Cs_bare k_568 k_569 k_570 (by omega) c5o (by rfl) d_Rd_readName_106 (by omega) (Nat.le_of_ble_eq_true rfl) ⟨by omega, by omega⟩ (fun h => by cases h) (fun r w6 nx2 hp => ?_)
      obtain ⟨rfl, rfl, k6, k7, hf6⟩ := hp
      have h6 := h5.calls k6 hf6
      have p0 := h6.1
      refine aw_putO (pc := 109) X _ 6 (by omega) (by (repeat (first | rw [aw_up_eq] | rw [aw_up_ne _ _ (by first | assumption | omega)])) <;> first | assumption | rfl) (by rfl) in_Rd (by decide) ty_Rd ok_Rd nm_Rd k_378 (by rfl) (by rfl) (by rfl) (by simp) (fs' := [_, _, _, _, _, _, _, _]) (by rfl) d_Rd_readName_109 ?_
      refine aw_iconstN (pc := 112) X 0 d_Rd_readName_112 (by decide) ?_
      refine aw_iret Y X rfl d_Rd_readName_113 (by omega) (by omega) (hP _ _ _ ?_)
      -- ret 113 lv=4:r,3:n,2:n,1:n,0:r st=n
      have hf7 : fr 0 1 w6 (aw_up w6 0 (aObj 0 [rf G 1, rf G 3, rf G 5, rf G 15, rf G 317, rf G 412, rf G 405, .int (nI st)])) := (fr.refl _ _ _).up _ (by omega)
      have hS : nmS σ = (0, ((σ.1.1.drop n, σ.1.2), σ.2.1, mkB σ.2.2.1, σ.2.2.2), some (t, [])) := by
        rw [nmS]
        simp only [hN, hp]
        rw [if_neg hne, ht]
      rw [hS]
      exact ⟨rfl, rfl, ⟨405, by omega, by omega, h6.obj (aw_up_eq _ _ _) hf7, k7.keep (by omega) hf7 (by omega)⟩, hfa.trans ((hf6.mono (by omega) (by omega)).trans (hf7.mono (by omega) (by omega)))⟩
    refine aw_iload_n (pc := 55) X d_Rd_readName_55 (by rfl) ?_
    refine aw_iconst (pc := 56) X (v := -1) d_Rd_readName_56 (by decide) ?_
    refine aw_icmp_ne (pc := 57) X (tgt := 67) d_Rd_readName_57 (by rfl) (fun h57 => ?_) (fun h57 => ?_)
    -- br 57 lv=3:n,2:n,1:n,0:r st=
    · refine aw_aload_nR (pc := 67) X d_Rd_readName_67 (by rfl) ?_
      refine aw_getO (pc := 68) X _ 3 (by omega) (by (repeat (first | rw [aw_up_eq] | rw [aw_up_ne _ _ (by first | assumption | omega)])) <;> first | assumption | rfl) (by rfl) in_Rd (by decide) k_375 (by rfl) d_Rd_readName_68 ?_
      refine aw_getNO (pc := 71) X _ 0 (by omega) (by (repeat (first | rw [aw_up_eq] | rw [aw_up_ne _ _ (by first | assumption | omega)])) <;> first | assumption | rfl) (by rfl) in_Ta (by decide) k_253 (by rfl) d_Rd_readName_71 ?_
      refine aw_iload_n (pc := 74) X d_Rd_readName_74 (by rfl) ?_
      refine aw_aaldN (pc := 75) X _ 5 (by omega) (by (repeat (first | rw [aw_up_eq] | rw [aw_up_ne _ _ (by first | assumption | omega)])) <;> first | assumption | rfl) (by rfl) (by omega) (by omega) (by assumption) d_Rd_readName_75 ?_
      refine aw_astoreR (pc := 76) X (lv' := [(4, _), (3, _), (2, _), (1, _), (0, _)]) d_Rd_readName_76 (by decide) (by rfl) ?_
      refine aw_iload_n (pc := 78) X d_Rd_readName_78 (by rfl) ?_
      refine aw_sipushN (pc := 79) X 600 d_Rd_readName_79 (by decide) ?_
      refine aw_icmp_geN (pc := 82) X (tgt := 99) d_Rd_readName_82 (by rfl) (by omega) (by omega) (fun h82 => ?_) (fun h82 => ?_)
      -- br 82 lv=4:r,3:n,2:n,1:n,0:r st=
      · have hd0 : σ.1.1.drop n = [] := List.drop_eq_nil_of_le (by omega)
        exact B (by rw [hd0]; simp)
      · have hdc : ∃ r, σ.1.1.drop n = f (600 - σ.1.1.length + n) :: r := by
          have e := sl_drop f (600 - σ.1.1.length) σ.1.1.length n hn
          rw [← fr3, show σ.1.1.length - n = (σ.1.1.length - n - 1) + 1 by omega, sl_cons] at e
          exact ⟨_, e⟩
        obtain ⟨rr, hdc⟩ := hdc
        have w544 : w5 4 = aCh G 600 f := w54.trans fr2
        have hfl := fr4 (600 - σ.1.1.length + n)
        refine aw_aload_nR (pc := 85) X d_Rd_readName_85 (by rfl) ?_
        refine aw_getO (pc := 86) X _ 1 (by omega) (by (repeat (first | rw [aw_up_eq] | rw [aw_up_ne _ _ (by first | assumption | omega)])) <;> first | assumption | rfl) (by rfl) in_Rd (by decide) k_373 (by rfl) d_Rd_readName_86 ?_
        refine aw_getNO (pc := 89) X _ 0 (by omega) (by (repeat (first | rw [aw_up_eq] | rw [aw_up_ne _ _ (by first | assumption | omega)])) <;> first | assumption | rfl) (by rfl) in_Fr (by decide) k_133 (by rfl) d_Rd_readName_89 ?_
        refine aw_iload_n (pc := 92) X d_Rd_readName_92 (by rfl) ?_
        refine aw_caldN (pc := 93) X _ 0 (by omega) (by (repeat (first | rw [aw_up_eq] | rw [aw_up_ne _ _ (by first | assumption | omega)])) <;> first | assumption | rfl) (by rfl) (by omega) (by omega) d_Rd_readName_93 ?_
        refine aw_bipushN (pc := 94) X 40 d_Rd_readName_94 (by decide) ?_
        refine aw_icmp_eqN (pc := 96) X (tgt := 114) d_Rd_readName_96 (by rfl) (by omega) (by omega) (fun h96 => ?_) (fun h96 => ?_)
        -- br 96 lv=4:r,3:n,2:n,1:n,0:r st=
        · refine aw_aload_nR (pc := 114) X d_Rd_readName_114 (by rfl) ?_
          refine aw_getO (pc := 115) X _ 1 (by omega) (by (repeat (first | rw [aw_up_eq] | rw [aw_up_ne _ _ (by first | assumption | omega)])) <;> first | assumption | rfl) (by rfl) in_Rd (by decide) k_373 (by rfl) d_Rd_readName_115 ?_
          refine aw_iload_n (pc := 118) X d_Rd_readName_118 (by rfl) ?_
          refine aw_iconstN (pc := 119) X 1 d_Rd_readName_119 (by decide) ?_
          refine aw_iaddN (pc := 120) X d_Rd_readName_120 ?_
          refine aw_putNO (pc := 121) X _ 1 (by omega) (by (repeat (first | rw [aw_up_eq] | rw [aw_up_ne _ _ (by first | assumption | omega)])) <;> first | assumption | rfl) (by rfl) in_Fr (by decide) ty_Fr ok_Fr nm_Fr k_135 (by rfl) (by rfl) (by rfl) (by simp) (fs' := [_, _]) (by rfl) d_Rd_readName_121 ?_
          -- stop 124 lv=4:r,3:n,2:n,1:n,0:r st=
          generalize hw6 : aw_up w5 3 _ = w6
          have f6 : fr 3 4 w5 w6 := by rw [← hw6]; exact (fr.refl _ _ _).up _ (by omega)
          have hdl : (σ.1.1.drop n).length = σ.1.1.length - n := List.length_drop
          have e6 : w6 3 = oFr G 4 (600 - (σ.1.1.drop n).length + 1) := by
            rw [← hw6, aw_up_eq, show 600 - (σ.1.1.drop n).length + 1 = 600 - σ.1.1.length + n + 1 by omega]
            rfl
          have hF6 : hFr G w6 ((σ.1.1.drop n).drop 1) := hF5.drop (by omega) e6 (f6 _ (by omega))
          have h6 := h5.front hF6 (f6.mono (by omega) (by omega))
          have u0 := h6.1
          have cs6 : hCs G w6 σ.2.1 (mkB σ.2.2.1) σ.2.2.2 := h6.2.2.2
          have c6o := cs6.2.1
          have t6 := t1.keep f6 (by omega)
          refine aw_aload_nR (pc := 124) X d_Rd_readName_124 (by rfl) ?_
          refine aw_getO (pc := 125) X _ 4 (by omega) (by (repeat (first | rw [aw_up_eq] | rw [aw_up_ne _ _ (by first | assumption | omega)])) <;> first | assumption | rfl) (by rfl) in_Rd (by decide) k_376 (by rfl) d_Rd_readName_125 ?_
          refine aw_aloadR (pc := 128) X d_Rd_readName_128 (by rfl) ?_
          -- invokevirtual 130 lv=4:r,3:n,2:n,1:n,0:r st=r,r
          refine aw_callV (pc := 130) X _ (s_Cs_start (d := 4) (by omega) (by omega) (by omega) t2 cs6 t6) q_Cs_start k_581 k_582 k_583 (by omega) c6o (by rfl) d_Rd_readName_130 (by omega) (Nat.le_of_ble_eq_true rfl) ⟨by omega, by omega⟩ (fun h => by cases h) (fun r w7 nx2 hp => ?_)
          rw [mkB_len] at hp
          have hh : (σ.1.1.drop n).head? = some 40 := by rw [hdc, h96]; rfl
          obtain ⟨rfl, ⟨z, rfl, rfl⟩ | ⟨z, rfl, k7, hf7⟩⟩ := hp
          · refine aw_if_eqN (pc := 133) X (tgt := 140) d_Rd_readName_133 (by rfl) (by omega) (fun h133 => ?_) (fun h133 => ?_)
            -- br 133 lv=4:r,3:n,2:n,1:n,0:r st=
            · refine aw_iconstN (pc := 140) X 2 d_Rd_readName_140 (by decide) ?_
              refine aw_iret Y X rfl d_Rd_readName_141 (by omega) (by omega) (hP _ _ _ ?_)
              -- ret 141 lv=4:r,3:n,2:n,1:n,0:r st=n
              have hS : nmS σ = (2, (((σ.1.1.drop n).drop 1, σ.1.2), σ.2.1, mkB σ.2.2.1, σ.2.2.2), none) := by
                rw [nmS]
                simp only [hN, hp]
                rw [if_pos hh, if_pos z]
              rw [hS]
              exact ⟨rfl, rfl, h6, hfa.trans (f6.mono (by omega) (by omega))⟩
            · exact absurd rfl h133
          · refine aw_if_eqN (pc := 133) X (tgt := 140) d_Rd_readName_133 (by rfl) (by omega) (fun h133 => ?_) (fun h133 => ?_)
            -- br 133 lv=4:r,3:n,2:n,1:n,0:r st=
            · cases h133
            · refine aw_iconstN (pc := 136) X 0 d_Rd_readName_136 (by decide) ?_
              refine aw_goto (pc := 137) X (tgt := 141) d_Rd_readName_137 (by rfl) ?_
              refine aw_iret Y X rfl d_Rd_readName_141 (by omega) (by omega) (hP _ _ _ ?_)
              -- ret 141 lv=4:r,3:n,2:n,1:n,0:r st=n
              have hS : nmS σ = (0, (((σ.1.1.drop n).drop 1, σ.1.2), σ.2.1, (t, [σ.2.1.length], 0, false) :: mkB σ.2.2.1, max σ.2.2.2 (σ.2.2.1.length + 1)), none) := by
                rw [nmS]
                simp only [hN, hp]
                rw [if_pos hh, if_neg (by omega), ht]
              rw [hS]
              exact ⟨rfl, rfl, h6.calls k7 hf7, hfa.trans ((f6.mono (by omega) (by omega)).trans (hf7.mono (by omega) (by omega)))⟩
        · exact B (by rw [hdc]; intro e; exact h96 (Option.some.inj e))
    · exact absurd h57 (nI_ne_neg (by omega))
theorem s_Rd_read {c : Nat} {F : List Nat} (hnx : 418 ≤ nx) (hd : 6 ≤ d) (hF : σ.1.1 = c :: F) (hdp : ∀ u ∈ σ.2.2.1, u.2.2.1 < 10000) (h : hRd G w tx σ .null st) : AC G y_Rd_read b_Rd_read 3 (some .int) d false [rf G 0] nx w 0 0 (fun r w' nx' => nx' = nx ∧ r = some (.int (nI (rdS σ).1)) ∧ hRr G w' tx (rdS σ).2.1 st (rdS σ).2.2 ∧ fr 0 418 w w') := by
  have h0 := h
  obtain ⟨a1, a2, ⟨s, a3⟩, a4⟩ := h
  have b2 := a4.2.1
  have a31 : hFr G w σ.1.1 := a3.1
  obtain ⟨fl, f, fr1, fr2, fr3, fr4⟩ := id a31
  have hFl : σ.1.1.length = F.length + 1 := by rw [hF]; rfl
  have hfc : f (600 - σ.1.1.length) = c ∧ F = sl f (600 - σ.1.1.length + 1) F.length := by
    have e := fr3
    rw [hFl, sl_cons, hF] at e
    rw [hFl]
    exact ⟨(List.cons.inj e).1.symm, (List.cons.inj e).2⟩
  have hc : c < 65536 := by rw [← hfc.1]; exact fr4 _
  refine AC.ofW (by decide) (Nat.le_of_ble_eq_true rfl) ?_
  intro E P hP Y X
  have X : aw_X G "RescanDesk" b_Rd_read 3 (some .int) "read" _ _ _ _ _ E := X
  refine AW.eql (lv' := [(0, _)]) (by rfl) ?_
  refine aw_aload_nR (pc := 0) X d_Rd_read_0 (by rfl) ?_
  refine aw_getO (pc := 1) X _ 1 (by omega) (by (repeat (first | rw [aw_up_eq] | rw [aw_up_ne _ _ (by first | assumption | omega)])) <;> first | assumption | rfl) (by rfl) in_Rd (by decide) k_373 (by rfl) d_Rd_read_1 ?_
  refine aw_getNO (pc := 4) X _ 0 (by omega) (by (repeat (first | rw [aw_up_eq] | rw [aw_up_ne _ _ (by first | assumption | omega)])) <;> first | assumption | rfl) (by rfl) in_Fr (by decide) k_133 (by rfl) d_Rd_read_4 ?_
  refine aw_aload_nR (pc := 7) X d_Rd_read_7 (by rfl) ?_
  refine aw_getO (pc := 8) X _ 1 (by omega) (by (repeat (first | rw [aw_up_eq] | rw [aw_up_ne _ _ (by first | assumption | omega)])) <;> first | assumption | rfl) (by rfl) in_Rd (by decide) k_373 (by rfl) d_Rd_read_8 ?_
  refine aw_getNO (pc := 11) X _ 1 (by omega) (by (repeat (first | rw [aw_up_eq] | rw [aw_up_ne _ _ (by first | assumption | omega)])) <;> first | assumption | rfl) (by rfl) in_Fr (by decide) k_135 (by rfl) d_Rd_read_11 ?_
  refine aw_caldN (pc := 14) X _ 0 (by omega) (by (repeat (first | rw [aw_up_eq] | rw [aw_up_ne _ _ (by first | assumption | omega)])) <;> first | assumption | rfl) (by rfl) (by omega) (by omega) d_Rd_read_14 ?_
  -- stop 15 lv=0:r st=n
  rw [hfc.1]
  refine aw_istore_n (pc := 15) X (lv' := [(1, _), (0, _)]) d_Rd_read_15 (by decide) (by rfl) ?_
  refine aw_iload_n (pc := 16) X d_Rd_read_16 (by rfl) ?_
  refine aw_bipushN (pc := 17) X 96 d_Rd_read_17 (by decide) ?_
  refine aw_icmp_neN (pc := 19) X (tgt := 27) d_Rd_read_19 (by rfl) (by omega) (by omega) (fun h19 => ?_) (fun h19 => ?_)
  -- br 19 lv=1:n,0:r st=
  · refine aw_iload_n (pc := 27) X d_Rd_read_27 (by rfl) ?_
    -- invokestatic 28 lv=1:n,0:r st=n
    refine aw_callS (pc := 28) X (c_Rd_isLetter (d := 0) hc) q_Rd_isLetter k_554 k_555 d_Rd_read_28 (by omega) (Nat.le_of_ble_eq_true rfl) ⟨by omega, by omega⟩ (fun h => by cases h) (fun r w2 nx2 hp => ?_)
    obtain ⟨rfl, rfl, rfl⟩ := hp
    have hbl := bN_lt (isLet c)
    refine aw_if_eqN (pc := 31) X (tgt := 39) d_Rd_read_31 (by rfl) (by omega) (fun h31 => ?_) (fun h31 => ?_)
    -- br 31 lv=1:n,0:r st=
    · have hl : ¬ isLet c = true := by rw [bN_eq.mp h31]; simp
      refine aw_aload_nR (pc := 39) X d_Rd_read_39 (by rfl) ?_
      refine aw_getO (pc := 40) X _ 1 (by omega) (by (repeat (first | rw [aw_up_eq] | rw [aw_up_ne _ _ (by first | assumption | omega)])) <;> first | assumption | rfl) (by rfl) in_Rd (by decide) k_373 (by rfl) d_Rd_read_40 ?_
      refine aw_dup (pc := 43) X d_Rd_read_43 (by rfl) ?_
      refine aw_getNO (pc := 44) X _ 1 (by omega) (by (repeat (first | rw [aw_up_eq] | rw [aw_up_ne _ _ (by first | assumption | omega)])) <;> first | assumption | rfl) (by rfl) in_Fr (by decide) k_135 (by rfl) d_Rd_read_44 ?_
      refine aw_iconstN (pc := 47) X 1 d_Rd_read_47 (by decide) ?_
      refine aw_iaddN (pc := 48) X d_Rd_read_48 ?_
      refine aw_putNO (pc := 49) X _ 1 (by omega) (by (repeat (first | rw [aw_up_eq] | rw [aw_up_ne _ _ (by first | assumption | omega)])) <;> first | assumption | rfl) (by rfl) in_Fr (by decide) ty_Fr ok_Fr nm_Fr k_135 (by rfl) (by rfl) (by rfl) (by simp) (fs' := [_, _]) (by rfl) d_Rd_read_49 ?_
      -- stop 52 lv=1:n,0:r st=
      generalize hw3 : aw_up w2 3 _ = w3
      have f3 : fr 3 4 w2 w3 := by rw [← hw3]; exact (fr.refl _ _ _).up _ (by omega)
      have e3 : w3 3 = oFr G 4 (600 - σ.1.1.length + 1) := by rw [← hw3, aw_up_eq]; rfl
      have hF3 : hFr G w3 F := by
        have := a31.drop (n := 1) (by omega) e3 (f3 _ (by omega))
        rwa [hF, List.drop_succ_cons, List.drop_zero] at this
      have h3 := h0.front hF3 (f3.mono (by omega) (by omega))
      have m0 := h3.1
      have cs3 := h3.2.2.2
      have c3o := cs3.2.1
      have w34 : w3 4 = aCh G 600 f := (f3 _ (by omega)).trans fr2
      have e3' : w3 3 = oFr G 4 (600 - F.length) := by rw [e3]; congr 1; omega
      refine aw_aload_nR (pc := 52) X d_Rd_read_52 (by rfl) ?_
      refine aw_getO (pc := 53) X _ 4 (by omega) (by (repeat (first | rw [aw_up_eq] | rw [aw_up_ne _ _ (by first | assumption | omega)])) <;> first | assumption | rfl) (by rfl) in_Rd (by decide) k_376 (by rfl) d_Rd_read_53 ?_
      -- invokevirtual 56 lv=1:n,0:r st=r
      refine aw_callV (pc := 56) X _ (s_Cs_latest2 (d := 0) (by omega) cs3) q_Cs_latest k_588 k_589 k_590 (by omega) c3o (by rfl) d_Rd_read_56 (by omega) (Nat.le_of_ble_eq_true rfl) ⟨by omega, by omega⟩ (fun h => by cases h) (fun r w4 nx2 hp => ?_)
      obtain ⟨rfl, rfl, rfl⟩ := hp
      cases hC : σ.2.2.1 with
      | nil =>
        refine aw_astore_nN (pc := 59) X (lv' := [(2, _), (1, _), (0, _)]) d_Rd_read_59 (by decide) (by rfl) ?_
        refine aw_aload_nN (pc := 60) X d_Rd_read_60 (by rfl) ?_
        refine aw_ifnonnullN (pc := 61) X d_Rd_read_61 ?_
        refine aw_aload_nR (pc := 64) X d_Rd_read_64 (by rfl) ?_
        refine aw_aload_nR (pc := 65) X d_Rd_read_65 (by rfl) ?_
        refine aw_getO (pc := 66) X _ 1 (by omega) (by (repeat (first | rw [aw_up_eq] | rw [aw_up_ne _ _ (by first | assumption | omega)])) <;> first | assumption | rfl) (by rfl) in_Rd (by decide) k_373 (by rfl) d_Rd_read_66 ?_
        refine aw_getNO (pc := 69) X _ 1 (by omega) (by (repeat (first | rw [aw_up_eq] | rw [aw_up_ne _ _ (by first | assumption | omega)])) <;> first | assumption | rfl) (by rfl) in_Fr (by decide) k_135 (by rfl) d_Rd_read_69 ?_
        refine aw_iconstN (pc := 72) X 1 d_Rd_read_72 (by decide) ?_
        refine aw_isubN (pc := 73) X d_Rd_read_73 (by omega) ?_
        refine aw_aload_nR (pc := 74) X d_Rd_read_74 (by rfl) ?_
        refine aw_getO (pc := 75) X _ 1 (by omega) (by (repeat (first | rw [aw_up_eq] | rw [aw_up_ne _ _ (by first | assumption | omega)])) <;> first | assumption | rfl) (by rfl) in_Rd (by decide) k_373 (by rfl) d_Rd_read_75 ?_
        refine aw_getNO (pc := 78) X _ 1 (by omega) (by (repeat (first | rw [aw_up_eq] | rw [aw_up_ne _ _ (by first | assumption | omega)])) <;> first | assumption | rfl) (by rfl) in_Fr (by decide) k_135 (by rfl) d_Rd_read_78 ?_
        -- invokevirtual 81 lv=2:0,1:n,0:r st=n,n,r
        refine aw_callV (pc := 81) X _ (s_Rd_write (d := 2) (f := f) (by omega) (by omega) (by omega) (by omega) fr4 w34 h3) q_Rd_write k_538 k_540 k_4 (by omega) m0 (by rfl) d_Rd_read_81 (by omega) (Nat.le_of_ble_eq_true rfl) ⟨by omega, by omega⟩ (fun h => by cases h) (fun r w5 nx2 hp => ?_)
        obtain ⟨rfl, rfl, k5, hf5⟩ := hp
        have es : sl f (600 - F.length - 1) (600 - F.length - (600 - F.length - 1)) = [c] := by
          rw [show 600 - F.length - (600 - F.length - 1) = 1 by omega, sl_cons, show 600 - F.length - 1 = 600 - σ.1.1.length by omega, hfc.1]
          rfl
        rw [es] at k5 ⊢
        refine aw_goto (pc := 84) X (tgt := 93) d_Rd_read_84 (by rfl) ?_
        refine aw_iret Y X rfl d_Rd_read_93 (by omega) (by omega) (hP _ _ _ ?_)
        -- ret 93 lv=2:0,1:n,0:r st=n
        have hS : rdS σ = ((wrS ((F, σ.1.2), σ.2) [c]).1, (wrS ((F, σ.1.2), σ.2) [c]).2, none) := by
          rw [rdS, hF]
          simp only
          rw [if_neg h19, if_neg hl, hC]
        rw [hS]
        exact ⟨rfl, rfl, k5, (f3.mono (by omega) (by omega)).trans (hf5.mono (by omega) (by omega))⟩
      | cons u r =>
        refine aw_astore_nR (pc := 59) X (lv' := [(2, _), (1, _), (0, _)]) d_Rd_read_59 (by decide) (by rfl) ?_
        refine aw_aload_nR (pc := 60) X d_Rd_read_60 (by rfl) ?_
        refine aw_ifnonnull (pc := 61) X (tgt := 87) d_Rd_read_61 (by rfl) ?_
        refine aw_aload_nR (pc := 87) X d_Rd_read_87 (by rfl) ?_
        refine aw_aload_nR (pc := 88) X d_Rd_read_88 (by rfl) ?_
        refine aw_iload_n (pc := 89) X d_Rd_read_89 (by rfl) ?_
        -- invokevirtual 90 lv=2:r,1:n,0:r st=n,r,r
        refine aw_callV (pc := 90) X _ (s_Rd_readInCall (d := 3) (f := f) (σ := ((F, σ.1.2), σ.2)) (u := u) (r := r) (c := c) (by omega) (by omega) hc hC (hdp u (by rw [hC]; exact List.mem_cons_self)) e3' w34 fr4 (show F.length < 600 by omega) (by show f (600 - F.length - 1) = c; rw [show 600 - F.length - 1 = 600 - σ.1.1.length by omega]; exact hfc.1) h3) q_Rd_readInCall k_592 k_594 k_6 (by omega) m0 (by rfl) d_Rd_read_90 (by omega) (Nat.le_of_ble_eq_true rfl) ⟨by omega, by omega⟩ (fun h => by cases h) (fun r w5 nx2 hp => ?_)
        obtain ⟨rfl, rfl, k5, hf5⟩ := hp
        refine aw_iret Y X rfl d_Rd_read_93 (by omega) (by omega) (hP _ _ _ ?_)
        -- ret 93 lv=2:r,1:n,0:r st=n
        have hS : rdS σ = icS ((F, σ.1.2), σ.2) u r c := by
          rw [rdS, hF]
          simp only
          rw [if_neg h19, if_neg hl, hC]
        rw [hS]
        exact ⟨rfl, rfl, k5, (f3.mono (by omega) (by omega)).trans hf5⟩
    · refine aw_aload_nR (pc := 34) X d_Rd_read_34 (by rfl) ?_
      -- invokevirtual 35 lv=1:n,0:r st=r
      refine aw_callV (pc := 35) X _ (s_Rd_readName (d := 5) (by omega) (by omega) h0) q_Rd_readName k_557 k_559 k_5 (by omega) a1 (by rfl) d_Rd_read_35 (by omega) (Nat.le_of_ble_eq_true rfl) ⟨by omega, by omega⟩ (fun h => by cases h) (fun r w3 nx2 hp => ?_)
      obtain ⟨rfl, rfl, k5, hf5⟩ := hp
      refine aw_iret Y X rfl d_Rd_read_38 (by omega) (by omega) (hP _ _ _ ?_)
      -- ret 38 lv=1:n,0:r st=n
      have hS : rdS σ = nmS σ := by
        rw [rdS, hF]
        simp only
        rw [if_neg h19, if_pos (bN_ne.mp h31)]
      rw [hS]
      exact ⟨rfl, rfl, k5, hf5⟩
  · refine aw_aload_nR (pc := 22) X d_Rd_read_22 (by rfl) ?_
    -- invokevirtual 23 lv=1:n,0:r st=r
    refine aw_callV (pc := 23) X _ (s_Rd_readQuote (d := 3) (by omega) (by omega) (h19 ▸ hF) h0) q_Rd_readQuote k_526 k_528 k_3 (by omega) a1 (by rfl) d_Rd_read_23 (by omega) (Nat.le_of_ble_eq_true rfl) ⟨by omega, by omega⟩ (fun h => by cases h) (fun r w3 nx2 hp => ?_)
    obtain ⟨rfl, rfl, k5, hf5⟩ := hp
    refine aw_iret Y X rfl d_Rd_read_26 (by omega) (by omega) (hP _ _ _ ?_)
    -- ret 26 lv=1:n,0:r st=n
    have hS : rdS σ = qtS σ F := by
      rw [rdS, hF]
      simp only
      rw [if_pos h19]
    rw [hS]
    exact ⟨rfl, rfl, k5, hf5⟩
end

