/-! the reckoning ends; Expander.expand -/
theorem ev_ge (S : List Nat) : ∀ (f s dp : Nat) (l : Int64) (m : Bool) (x : ES) (r : Int64 × ES), ev S f s dp l m x = some r → x.1 ≤ r.2.1 := by
  intro f
  induction f with
  | zero => intro s dp l m x r h; cases m <;> simp [ev] at h
  | succ f ih =>
    intro s dp l m x r h
    cases m with
    | true =>
      rw [ev] at h
      split at h
      · obtain ⟨q, h1, h2⟩ := Option.bind_eq_some_iff.mp h
        have h3 : x.1 + 1 ≤ q.2.1 := ih _ _ _ _ _ _ h1
        have h4 := ih _ _ _ _ _ _ h2
        simp only at h4
        omega
      · cases h; exact Nat.le_refl _
    | false =>
      rw [ev] at h
      split at h
      · obtain ⟨q, h1, h2⟩ := Option.bind_eq_some_iff.mp h
        exact Nat.le_trans (ih _ _ _ _ _ _ h1) (ih _ _ _ _ _ _ h2)
      · split at h
        · split at h
          · cases h; exact Nat.le_refl _
          · obtain ⟨q, h1, h2⟩ := Option.bind_eq_some_iff.mp h
            have h3 : x.1 + 1 ≤ q.2.1 := ih _ _ _ _ _ _ h1
            cases h2
            show x.1 ≤ q.2.1
            omega
        · split at h
          · split at h
            · cases h; exact Nat.le_refl _
            · obtain ⟨q, h1, h2⟩ := Option.bind_eq_some_iff.mp h
              have h3 : x.1 + 1 ≤ q.2.1 := ih _ _ _ _ _ _ h1
              cases h2
              split
              · show x.1 ≤ q.2.1 + 1; omega
              · show x.1 ≤ q.2.1; omega
          · cases h
            exact Nat.le_add_right _ _
theorem ev_tot (S : List Nat) : ∀ (f s dp : Nat) (l : Int64) (m : Bool) (x : ES), 8 * (S.length - x.1) + (if m = true then 0 else 1 + (5 - s)) < f → ∃ r, ev S f s dp l m x = some r := by
  intro f
  induction f with
  | zero => intro s dp l m x h; omega
  | succ f ih =>
    intro s dp l m x h
    have hlt : ∀ c : Nat, c ≠ 0 → S.getD x.1 0 = c → x.1 + 1 ≤ S.length := fun c hc h => by
      refine Nat.lt_of_not_le fun hge => hc ?_
      rw [← h, getD_ge hge]
    cases m with
    | true =>
      rw [ev]
      split
      · rename_i hc
        have hc2 := hc.2.1
        obtain ⟨q, h1⟩ := ih (s + 1) dp 0 false (x.1 + 1, x.2) (by simp at h ⊢; omega)
        have h3 : x.1 + 1 ≤ q.2.1 := ev_ge S _ _ _ _ _ _ _ h1
        obtain ⟨q2, h4⟩ := ih s dp (cmbS (S.getD x.1 0) l q.1).1 true (q.2.1, q.2.2.1, q.2.2.2 || (cmbS (S.getD x.1 0) l q.1).2) (by simp at h ⊢; omega)
        exact ⟨q2, Option.bind_eq_some_iff.mpr ⟨q, h1, h4⟩⟩
      · exact ⟨_, rfl⟩
    | false =>
      rw [ev]
      split
      · rename_i hs
        obtain ⟨q, h1⟩ := ih (s + 1) dp 0 false x (by simp at h ⊢; omega)
        have h3 : x.1 ≤ q.2.1 := ev_ge S _ _ _ _ _ _ _ h1
        obtain ⟨q2, h4⟩ := ih s dp q.1 true q.2 (by simp at h ⊢; omega)
        exact ⟨q2, Option.bind_eq_some_iff.mpr ⟨q, h1, h4⟩⟩
      · split
        · rename_i h45
          have := hlt 45 (by decide) h45
          split
          · exact ⟨_, rfl⟩
          · obtain ⟨q, h1⟩ := ih 5 (dp + 1) 0 false (x.1 + 1, x.2) (by simp at h ⊢; omega)
            exact ⟨_, Option.bind_eq_some_iff.mpr ⟨q, h1, rfl⟩⟩
        · split
          · rename_i h40
            have := hlt 40 (by decide) h40
            split
            · exact ⟨_, rfl⟩
            · obtain ⟨q, h1⟩ := ih 1 (dp + 1) 0 false (x.1 + 1, x.2) (by simp at h ⊢; omega)
              exact ⟨_, Option.bind_eq_some_iff.mpr ⟨q, h1, rfl⟩⟩
          · exact ⟨_, rfl⟩
/-- what the reckoning of a text gives -/
def evS (S : List Nat) : Int64 × ES := (ev S (8 * S.length + 8) 1 0 0 false (0, false, false)).getD (0, 0, false, false)
theorem evS_eq (S : List Nat) : ev S (8 * S.length + 8) 1 0 0 false (0, false, false) = some ((evS S).1, (evS S).2) := by
  obtain ⟨r, h⟩ := ev_tot S (8 * S.length + 8) 1 0 0 false (0, false, false) (by simp)
  rw [evS, h]
  rfl
theorem defS_le (T : List Def) (ar : List (List Nat)) (b : Bool) : (defS T ar b).1 ≤ 2 := by
  rw [defS]
  split
  · exact Nat.zero_le _
  · split
    · exact Nat.le_refl _
    · unfold defB
      split
      · exact Nat.zero_le _
      · split
        · exact Nat.le_refl _
        · exact Nat.zero_le _
theorem actS_le (k : Nat) (ar : List (List Nat)) (va : Int64) (x' : ES) (q : XS) : (actS k ar va x' q).1 ≤ 6 := by
  unfold actS
  split
  · have := defS_le q.2.2.2.1 ar false; show (defS _ _ _).1 ≤ 6; omega
  split
  · have := defS_le q.2.2.2.1 ar true; show (defS _ _ _).1 ≤ 6; omega
  split
  · exact Nat.zero_le _
  split
  · exact Nat.zero_le _
  split
  · exact Nat.zero_le _
  split
  · show e2 _ ≤ 6
    unfold e2
    cases (undS q.2.1 q.2.2.1 ar).1 <;> decide
  split
  · exact Nat.zero_le _
  split
  · show rckS _ va x' ≤ 6
    unfold rckS
    split
    · exact Nat.le_refl _
    · split <;> decide
  · exact Nat.zero_le _
/-- what is done, up to the text that is made -/
def expA (t : Def) (ar : List (List Nat)) (F : List Nat) (p : Option Nat) (R : Nat → List Nat) (T : List Def) : Nat × XS := match t.2.1 with
    | 0 => (0, F, p, R, T, (bodyL t ar t.2.2).take 601)
    | k + 1 =>
      let A := actS k ar (evS ((argOf ar 1).filter nbl)).1 (evS ((argOf ar 1).filter nbl)).2 (F, p, R, T, [])
      if A.1 = 0 then (0, A.2.1, A.2.2.1, A.2.2.2.1, A.2.2.2.2.1, (A.2.2.2.2.2 ++ txtS k ar A.2.2.1 A.2.2.2.2.1).take 601) else A
/-- an expansion: its error, the front, the rows, the table -/
def expS (t : Def) (ar : List (List Nat)) (F : List Nat) (p : Option Nat) (R : Nat → List Nat) (T : List Def) : Nat × List Nat × Option Nat × (Nat → List Nat) × List Def :=
  let b := expA t ar F p R T
  if b.1 ≠ 0 then (b.1, b.2.1, b.2.2.1, b.2.2.2.1, b.2.2.2.2.1)
  else if b.2.2.2.2.2.length + b.2.1.length ≤ 600 then (0, b.2.2.2.2.2 ++ b.2.1, b.2.2.1, b.2.2.2.1, b.2.2.2.2.1)
  else (2, b.2.1, b.2.2.1, b.2.2.2.1, b.2.2.2.2.1)
def hXe (G : aw_G) (w : Nat → va_E) (q : List Nat × Option Nat × (Nat → List Nat) × List Def) : Prop := ∃ s, hX G w (q.1, q.2.1, q.2.2.1, q.2.2.2, s)
section
variable {G : aw_G} {nx d : Nat} {w : Nat → va_E}
theorem s_Fr_putBefore {F s : List Nat} {a m : Nat} (hnx : 418 ≤ nx) (ha : 5 ≤ a ∧ a + 2 ≤ nx) (hd : 1 ≤ d) (hm : m < 2 ^ 20) (h : hFr G w F) (hs : hTx G w a m s) : AC G y_Fr_putBefore b_Fr_putBefore 2 (some .boolean) d false [rf G 3, rf G a] nx w 0 0 (fun r w' nx' => nx' = nx ∧ r = some (.int (nI (bN (decide (s.length + F.length ≤ 600))))) ∧ hFr G w' (if s.length + F.length ≤ 600 then s ++ F else F) ∧ fr 3 5 w w') := by
  obtain ⟨h0, f, g1, g2, g3, g4⟩ := h
  obtain ⟨g, t1, t2, t3, t4, t5⟩ := hs
  refine (c_Fr_putBefore (a := 3) (c := 4) (n := 600 - F.length) (a2 := a) (c2 := a + 1) (n2 := s.length) (m2 := m) (by omega) (by omega) (by omega) (by omega) (by omega) (by omega) (by omega) hd (by omega) hm t4 t5 g1 g2 t1 t2).weak ?_
  intro r w' nx' hp
  obtain ⟨rfl, ⟨z, rfl, rfl⟩ | ⟨z, rfl, rfl⟩⟩ := hp
  · have hle : s.length + F.length ≤ 600 := by omega
    refine ⟨rfl, by rw [decide_eq_true hle]; rfl, ?_, ((fr.refl _ _ _).up _ (by omega)).up _ (by omega)⟩
    rw [if_pos hle]
    refine ⟨by rw [List.length_append]; exact hle, aw_cpn g f 0 (600 - F.length - s.length) s.length, ?_, ?_, ?_, ?_⟩
    · rw [aw_up_ne _ _ (by omega), aw_up_eq, List.length_append]
      congr 1
      omega
    · rw [aw_up_eq]
    · rw [List.length_append]
      rw [sl_app]
      have e1 : s = sl (aw_cpn g f 0 (600 - F.length - s.length) s.length) (600 - (s.length + F.length)) s.length := t3.trans (sl_congr fun i hi => by
        unfold aw_cpn
        rw [if_pos (by omega)]
        congr 1
        omega)
      have e2 : F = sl (aw_cpn g f 0 (600 - F.length - s.length) s.length) (600 - (s.length + F.length) + s.length) F.length := g3.trans (sl_congr fun i hi => by
        unfold aw_cpn
        rw [if_neg (by omega)]
        congr 1
        omega)
      exact congr (congrArg _ e1) e2
    · intro j
      unfold aw_cpn
      split
      · exact t5 _
      · exact g4 _
  · have hle : ¬ s.length + F.length ≤ 600 := by omega
    refine ⟨rfl, by rw [decide_eq_false hle]; rfl, ?_, fr.refl _ _ _⟩
    rw [if_neg hle]
    exact ⟨h0, f, g1, g2, g3, g4⟩
theorem s_Ex_expand {a : Nat} {t : Def} {ar : List (List Nat)} {F : List Nat} {p : Option Nat} {R : Nat → List Nat} {T : List Def} (hnx : 418 ≤ nx) (hd : 61 ≤ d) (ha : 321 ≤ a ∧ a + 7 ≤ 412) (hx : hXe G w (F, p, R, T)) (h : hRdy G w a t ar) : AC G y_Ex_expand b_Ex_expand 4 (some .int) d false [rf G 412, rf G a] nx w 0 0 (fun r w' nx' => nx' = nx ∧ r = some (.int (nI (expS t ar F p R T).1)) ∧ hXe G w' (expS t ar F p R T).2 ∧ fx w w') := by
  obtain ⟨s, hx⟩ := hx
  have hx0 := hx
  obtain ⟨x1, x2, x3, x4, x5, x6⟩ := hx
  have x1 : hFr G w F := x1
  have he' : w 412 = aObj 8 [rf G 3, rf G 5, rf G 15, rf G 413, rf G 416] := x6
  have x5o := x5.obj
  obtain ⟨fl0, ff0, fr1, -⟩ := id x1
  refine AC.ofW (by decide) (Nat.le_of_ble_eq_true rfl) ?_
  intro E P hP Y X
  have X : aw_X G "RescanDesk$Expander" b_Ex_expand 4 (some .int) "expand" _ _ _ _ _ E := X
  refine AW.eql (lv' := [(0, _), (1, _)]) (by rfl) ?_
  have Z : ∀ (w1 : Nat → va_E) (b2 : Value) (b : Nat × XS), b = expA t ar F p R T → b.1 = 0 → hX G w1 b.2 → fx w w1 → AW G E 4 nx 0 0 w1 46 [(2, b2), (0, rf G 412), (1, rf G a)] [] := by
    intro w1 b2 b hb hb0 hx1 hf1
    obtain ⟨y1, y2, y3, y4, y5, y6⟩ := id hx1
    have he1 : w1 412 = aObj 8 [rf G 3, rf G 5, rf G 15, rf G 413, rf G 416] := y6
    obtain ⟨fl, ff, fr2, -⟩ := id y1
    refine aw_aload_nR (pc := 46) X d_Ex_expand_46 (by rfl) ?_
    refine aw_getO (pc := 47) X _ 0 (by omega) (by (repeat (first | rw [aw_up_eq] | rw [aw_up_ne _ _ (by first | assumption | omega)])) <;> first | assumption | rfl) (by rfl) in_Ex (by decide) k_356 (by rfl) d_Ex_expand_47 ?_
    refine aw_aload_nR (pc := 50) X d_Ex_expand_50 (by rfl) ?_
    refine aw_getO (pc := 51) X _ 4 (by omega) (by (repeat (first | rw [aw_up_eq] | rw [aw_up_ne _ _ (by first | assumption | omega)])) <;> first | assumption | rfl) (by rfl) in_Ex (by decide) k_360 (by rfl) d_Ex_expand_51 ?_
    -- invokevirtual 54 lv=2:v,0:r,1:r st=r,r
    refine aw_callV (pc := 54) X _ (s_Fr_putBefore (d := 1) hnx (by omega) (by omega) (by omega) y1 y5) q_Fr_putBefore k_803 k_506 k_507 (by omega) fr2 (by rfl) d_Ex_expand_54 (by omega) (Nat.le_of_ble_eq_true rfl) ⟨by omega, by omega⟩ (fun h => by cases h) (fun r w2 nx2 hp => ?_)
    obtain ⟨rfl, rfl, h4, hf4⟩ := hp
    have hbl := bN_lt (decide (b.2.2.2.2.2.length + b.2.1.length ≤ 600))
    have hfx : fx w w2 := hf1.trans (fx.of hf4 (by omega))
    refine aw_if_eqN (pc := 57) X (tgt := 64) d_Ex_expand_57 (by rfl) (by omega) (fun h57 => ?_) (fun h57 => ?_)
    -- br 57 lv=2:v,0:r,1:r st=
    · have hz := of_decide_eq_false (bN_eq.mp h57)
      rw [if_neg hz] at h4
      refine aw_iconstN (pc := 64) X 2 d_Ex_expand_64 (by decide) ?_
      refine aw_iret Y X rfl d_Ex_expand_65 (by omega) (by omega) (hP _ _ _ ?_)
      -- ret 65 lv=2:v,0:r,1:r st=n
      have hE : expS t ar F p R T = (2, b.2.1, b.2.2.1, b.2.2.2.1, b.2.2.2.2.1) := by
        rw [expS]
        simp only [← hb]
        rw [if_neg (by simp [hb0]), if_neg hz]
      rw [hE]
      exact ⟨rfl, rfl, ⟨b.2.2.2.2.2, h4, y2.keep hf4 (by omega), y3.keep hf4 (by omega), y4.keep hf4 (by omega), y5.keep hf4 (by omega), (hf4 _ (by omega)).trans y6⟩, hfx⟩
    · have hz := of_decide_eq_true (bN_ne.mp h57)
      rw [if_pos hz] at h4
      refine aw_iconstN (pc := 60) X 0 d_Ex_expand_60 (by decide) ?_
      refine aw_goto (pc := 61) X (tgt := 65) d_Ex_expand_61 (by rfl) ?_
      refine aw_iret Y X rfl d_Ex_expand_65 (by omega) (by omega) (hP _ _ _ ?_)
      -- ret 65 lv=2:v,0:r,1:r st=n
      have hE : expS t ar F p R T = (0, b.2.2.2.2.2 ++ b.2.1, b.2.2.1, b.2.2.2.1, b.2.2.2.2.1) := by
        rw [expS]
        simp only [← hb]
        rw [if_neg (by simp [hb0]), if_pos hz]
      rw [hE]
      exact ⟨rfl, rfl, ⟨b.2.2.2.2.2, h4, y2.keep hf4 (by omega), y3.keep hf4 (by omega), y4.keep hf4 (by omega), y5.keep hf4 (by omega), (hf4 _ (by omega)).trans y6⟩, hfx⟩
  refine aw_aload_nR (pc := 0) X d_Ex_expand_0 (by rfl) ?_
  refine aw_getO (pc := 1) X _ 4 (by omega) (by (repeat (first | rw [aw_up_eq] | rw [aw_up_ne _ _ (by first | assumption | omega)])) <;> first | assumption | rfl) (by rfl) in_Ex (by decide) k_360 (by rfl) d_Ex_expand_1 ?_
  -- invokevirtual 4 lv=0:r,1:r st=r
  refine aw_callV (pc := 4) X _ (s_Tx_empty (d := 0) (by omega) x5) q_Tx_empty k_612 k_196 k_197 (by omega) x5o (by rfl) d_Ex_expand_4 (by omega) (Nat.le_of_ble_eq_true rfl) ⟨by omega, by omega⟩ (fun h => by cases h) (fun r w2 nx2 hp => ?_)
  obtain ⟨rfl, rfl, t1, f1⟩ := hp
  have hx1 : hX G w2 (F, p, R, T, []) := hx0.made t1 f1
  have fx1 : fx w w2 := fx.of f1 (by omega)
  have h1 := h.fx ha fx1
  obtain ⟨st, gg, dp, bg, c1, c2, c3, c4, c5, c6⟩ := id h1
  have c1' : w2 a = aObj 7 [rf G (a + 1), rf G 319, rf G (a + 6), .int (nI ar.length), .int (nI dp), .int (nI (bN bg))] := c1.1
  have c2' : w2 (a + 1) = aObj 5 [rf G (a + 1 + 1), rf G (a + 1 + 3), kV G t.2.1] := c1.2.1.1
  have hx6 := hx1.2.2.2.2.2
  have he2 : w2 412 = aObj 8 [rf G 3, rf G 5, rf G 15, rf G 413, rf G 416] := hx6
  refine aw_aload_nR (pc := 7) X d_Ex_expand_7 (by rfl) ?_
  refine aw_getNO (pc := 8) X _ 0 (by omega) (by (repeat (first | rw [aw_up_eq] | rw [aw_up_ne _ _ (by first | assumption | omega)])) <;> first | assumption | rfl) (by rfl) in_Ca (by decide) k_279 (by rfl) d_Ex_expand_8 ?_
  refine aw_getNO (pc := 11) X _ 2 (by omega) (by (repeat (first | rw [aw_up_eq] | rw [aw_up_ne _ _ (by first | assumption | omega)])) <;> first | assumption | rfl) (by rfl) in_De (by decide) k_181 (by rfl) d_Ex_expand_11 ?_
  -- stop 14 lv=0:r,1:r st=v
  cases hkt : t.2.1 with
  | zero =>
    refine aw_astore_nN (pc := 14) X (lv' := [(2, _), (0, _), (1, _)]) d_Ex_expand_14 (by decide) (by rfl) ?_
    refine aw_aload_nN (pc := 15) X d_Ex_expand_15 (by rfl) ?_
    refine aw_ifnonnullN (pc := 16) X d_Ex_expand_16 ?_
    refine aw_aload_nR (pc := 19) X d_Ex_expand_19 (by rfl) ?_
    refine aw_aload_nR (pc := 20) X d_Ex_expand_20 (by rfl) ?_
    -- invokevirtual 21 lv=2:0,0:r,1:r st=r,r
    refine aw_callV (pc := 21) X _ (s_Ex_makeBody (d := 5) (s := []) hnx (by omega) ha hx6 t1 h1) q_Ex_makeBody k_613 k_615 k_7 (by omega) hx6 (by rfl) d_Ex_expand_21 (by omega) (Nat.le_of_ble_eq_true rfl) ⟨by omega, by omega⟩ (fun h => by cases h) (fun r w3 nx3 hp => ?_)
    obtain ⟨rfl, rfl, h4, hf4⟩ := hp
    refine aw_goto (pc := 24) X (tgt := 46) d_Ex_expand_24 (by rfl) ?_
    -- stop 46 lv=2:0,0:r,1:r st=
    refine Z w3 _ (0, F, p, R, T, (bodyL t ar t.2.2).take 601) (by rw [expA, hkt]) rfl (hx1.made h4 hf4) (fx1.trans (fx.of hf4 (by omega)))
  | succ k =>
    have hk : k < 16 := by omega
    refine aw_astore_n (pc := 14) X (lv' := [(2, _), (0, _), (1, _)]) d_Ex_expand_14 (by decide) (by rfl) ?_
    refine aw_aload_n (pc := 15) X d_Ex_expand_15 (by rfl) ?_
    refine aw_ifnonnull (pc := 16) X (tgt := 27) d_Ex_expand_16 (by rfl) ?_
    refine aw_aload_nR (pc := 27) X d_Ex_expand_27 (by rfl) ?_
    refine aw_aload_nR (pc := 28) X d_Ex_expand_28 (by rfl) ?_
    refine aw_aload_n (pc := 29) X d_Ex_expand_29 (by rfl) ?_
    -- invokevirtual 30 lv=2:c,0:r,1:r st=c,r,r
    refine aw_callV (pc := 30) X _ (s_Ex_act (d := 60) hnx (by omega) ha hk hx1 h1 (evS_eq _)) q_Ex_act k_648 k_650 k_11 (by omega) hx6 (by rfl) d_Ex_expand_30 (by omega) (Nat.le_of_ble_eq_true rfl) ⟨by omega, by omega⟩ (fun h => by cases h) (fun r w3 nx3 hp => ?_)
    obtain ⟨rfl, rfl, h4, hf4⟩ := hp
    generalize hA : actS k ar (evS ((argOf ar 1).filter nbl)).1 (evS ((argOf ar 1).filter nbl)).2 (F, p, R, T, []) = A at h4 ⊢
    have hA6 : A.1 < 2 ^ 31 := by
      rw [← hA]
      exact Nat.lt_of_le_of_lt (actS_le _ _ _ _ _) (by decide)
    refine aw_istore_n (pc := 33) X (lv' := [(3, _), (2, _), (0, _), (1, _)]) d_Ex_expand_33 (by decide) (by rfl) ?_
    refine aw_iload_n (pc := 34) X d_Ex_expand_34 (by rfl) ?_
    refine aw_if_eqN (pc := 35) X (tgt := 40) d_Ex_expand_35 (by rfl) (by omega) (fun h35 => ?_) (fun h35 => ?_)
    -- br 35 lv=3:n,2:c,0:r,1:r st=
    · have hx6' := h4.2.2.2.2.2
      refine aw_aload_nR (pc := 40) X d_Ex_expand_40 (by rfl) ?_
      refine aw_aload_nR (pc := 41) X d_Ex_expand_41 (by rfl) ?_
      refine aw_aload_n (pc := 42) X d_Ex_expand_42 (by rfl) ?_
      -- invokevirtual 43 lv=3:n,2:c,0:r,1:r st=c,r,r
      refine aw_callV (pc := 43) X _ (s_Ex_makeText (d := 5) hnx (by omega) ha hk h4 (h1.fx ha hf4)) q_Ex_makeText k_771 k_773 k_21 (by omega) hx6' (by rfl) d_Ex_expand_43 (by omega) (Nat.le_of_ble_eq_true rfl) ⟨by omega, by omega⟩ (fun h => by cases h) (fun r w4 nx4 hp => ?_)
      obtain ⟨rfl, rfl, h5, hf5⟩ := hp
      have hz := Z w4 (.ref (G.2.2.2.2 k)) (0, A.2.1, A.2.2.1, A.2.2.2.1, A.2.2.2.2.1, (A.2.2.2.2.2 ++ txtS k ar A.2.2.1 A.2.2.2.2.1).take 601) (by rw [expA, hkt]; simp only [hA]; rw [if_pos h35]) rfl h5 (fx1.trans (hf4.trans hf5))
      exact AW.lsub [1, 2, 3] (by rfl) hz
    · refine aw_iload_n (pc := 38) X d_Ex_expand_38 (by rfl) ?_
      refine aw_iret Y X rfl d_Ex_expand_39 (by omega) (by omega) (hP _ _ _ ?_)
      -- ret 39 lv=3:n,2:c,0:r,1:r st=n
      have hE : expS t ar F p R T = (A.1, A.2.1, A.2.2.1, A.2.2.2.1, A.2.2.2.2.1) := by
        have hb : expA t ar F p R T = A := by rw [expA, hkt]; simp only [hA]; rw [if_neg h35]
        rw [expS]
        simp only [hb]
        rw [if_pos h35]
      rw [hE]
      exact ⟨rfl, rfl, ⟨_, h4⟩, fx1.trans hf4⟩
end

