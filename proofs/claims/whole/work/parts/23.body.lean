/-! Expander.makeParameter, makeBody -/
section
variable {G : aw_G} {nx d : Nat} {w : Nat → va_E}
theorem s_Ex_makeParameter {a c : Nat} {t : Def} {ar : List (List Nat)} {s : List Nat} (hnx : 418 ≤ nx) (hd : 4 ≤ d) (ha : 321 ≤ a ∧ a + 7 ≤ 412) (hc : c < 65536) (he : hEx w G) (hs : hTx G w 416 601 s) (h : hRdy G w a t ar) : AC G y_Ex_makeParameter b_Ex_makeParameter 4 (some .boolean) d false [rf G 412, rf G a, .int (nI c)] nx w 0 0 (fun r w' nx' => nx' = nx ∧ ((parL t ar c = none ∧ r = some (.int (nI 0)) ∧ w' = w) ∨ ∃ L, parL t ar c = some L ∧ r = some (.int (nI 1)) ∧ hTx G w' 416 601 ((s ++ L).take 601) ∧ fr 416 418 w w')) := by
  obtain ⟨st, gg, dp, bg, c1, c2, c3, c4, c5, c6⟩ := id h
  have c1' : w a = aObj 7 [rf G (a + 1), rf G 319, rf G (a + 6), .int (nI ar.length), .int (nI dp), .int (nI (bN bg))] := c1.1
  have c2' : w (a + 1) = aObj 5 [rf G (a + 1 + 1), rf G (a + 1 + 3), kV G t.2.1] := c1.2.1.1
  have he' : w 412 = aObj 8 [rf G 3, rf G 5, rf G 15, rf G 413, rf G 416] := he
  have hn9 := c2.1
  have hnm := c1.2.1.2.1
  have hno := hnm.obj
  obtain ⟨gn, n1, n2, n3⟩ := hnm.arr
  have hnl := hnm.le
  refine AC.ofW (by decide) (Nat.le_of_ble_eq_true rfl) ?_
  intro E P hP Y X
  have X : aw_X G "RescanDesk$Expander" b_Ex_makeParameter 4 (some .boolean) "makeParameter" _ _ _ _ _ E := X
  refine AW.eql (lv' := [(0, _), (1, _), (2, _)]) (by rfl) ?_
  have fin : ∀ (w2 : Nat → va_E) (L : List Nat) (lv : List (Nat × Value)), parL t ar c = some L → hTx G w2 416 601 ((s ++ L).take 601) → fr 416 418 w w2 → AW G E 4 nx 0 0 w2 108 lv [] := by
    intro w2 L lv h1 h2 h3
    refine aw_iconstN (pc := 108) X 1 d_Ex_makeParameter_108 (by decide) ?_
    refine aw_zret Y X rfl (by decide +kernel) d_Ex_makeParameter_109 (by omega) (by omega) (hP _ _ _ ?_)
    exact ⟨rfl, Or.inr ⟨L, h1, rfl, h2, h3⟩⟩
  refine aw_iload_n (pc := 0) X d_Ex_makeParameter_0 (by rfl) ?_
  refine aw_bipushN (pc := 1) X 48 d_Ex_makeParameter_1 (by decide) ?_
  refine aw_icmp_neN (pc := 3) X (tgt := 34) d_Ex_makeParameter_3 (by rfl) (by omega) (by omega) (fun h3 => ?_) (fun h3 => ?_)
  -- br 3 lv=0:r,1:r,2:n st=
  · refine aw_iload_n (pc := 34) X d_Ex_makeParameter_34 (by rfl) ?_
    -- invokestatic 35 lv=0:r,1:r,2:n st=n
    refine aw_callSN (pc := 35) X (c_Rd_isDigit (d := 0) hc) q_Rd_isDigit k_622 k_565 d_Ex_makeParameter_35 (by omega) (Nat.le_of_ble_eq_true rfl) ⟨by omega, by omega⟩ (fun h => by cases h) (fun r w2 nx2 hp => ?_)
    obtain ⟨rfl, rfl, rfl⟩ := hp
    have hb := bN_lt (isDig c)
    refine aw_if_eqN (pc := 38) X (tgt := 53) d_Ex_makeParameter_38 (by rfl) (by omega) (fun h38 => ?_) (fun h38 => ?_)
    -- br 38 lv=0:r,1:r,2:n st=
    · have hdg := bN_eq.mp h38
      refine aw_iload_n (pc := 53) X d_Ex_makeParameter_53 (by rfl) ?_
      refine aw_bipushN (pc := 54) X 35 d_Ex_makeParameter_54 (by decide) ?_
      refine aw_icmp_neN (pc := 56) X (tgt := 74) d_Ex_makeParameter_56 (by rfl) (by omega) (by omega) (fun h56 => ?_) (fun h56 => ?_)
      -- br 56 lv=0:r,1:r,2:n st=
      · refine aw_iload_n (pc := 74) X d_Ex_makeParameter_74 (by rfl) ?_
        refine aw_bipushN (pc := 75) X 42 d_Ex_makeParameter_75 (by decide) ?_
        refine aw_icmp_neN (pc := 77) X (tgt := 90) d_Ex_makeParameter_77 (by rfl) (by omega) (by omega) (fun h77 => ?_) (fun h77 => ?_)
        -- br 77 lv=0:r,1:r,2:n st=
        · refine aw_iload_n (pc := 90) X d_Ex_makeParameter_90 (by rfl) ?_
          refine aw_bipushN (pc := 91) X 64 d_Ex_makeParameter_91 (by decide) ?_
          refine aw_icmp_neN (pc := 93) X (tgt := 106) d_Ex_makeParameter_93 (by rfl) (by omega) (by omega) (fun h93 => ?_) (fun h93 => ?_)
          -- br 93 lv=0:r,1:r,2:n st=
          · refine aw_iconstN (pc := 106) X 0 d_Ex_makeParameter_106 (by decide) ?_
            refine aw_zret Y X rfl (by decide +kernel) d_Ex_makeParameter_107 (by omega) (by omega) (hP _ _ _ ?_)
            -- ret 107 lv=0:r,1:r,2:n st=n
            exact ⟨rfl, Or.inl ⟨by simp [parL, h3, hdg, h56, h77, h93], rfl, rfl⟩⟩
          · refine aw_aload_nR (pc := 96) X d_Ex_makeParameter_96 (by rfl) ?_
            refine aw_aload_nR (pc := 97) X d_Ex_makeParameter_97 (by rfl) ?_
            refine aw_iconstN (pc := 98) X 1 d_Ex_makeParameter_98 (by decide) ?_
            refine aw_iconstN (pc := 99) X 1 d_Ex_makeParameter_99 (by decide) ?_
            -- invokevirtual 100 lv=0:r,1:r,2:n st=n,n,r,r
            refine aw_callV (pc := 100) X _ (s_Ex_makeList (d := 3) (f := 1) (q := true) hnx (by omega) ha (by omega) (by omega) he hs h) q_Ex_makeList k_643 k_645 k_10 (by omega) he (by rfl) d_Ex_makeParameter_100 (by omega) (Nat.le_of_ble_eq_true rfl) ⟨by omega, by omega⟩ (fun h => by cases h) (fun r w3 nx3 hp => ?_)
            obtain ⟨rfl, rfl, h4, hf4⟩ := hp
            refine aw_goto (pc := 103) X (tgt := 108) d_Ex_makeParameter_103 (by rfl) ?_
            -- stop 108 lv=0:r,1:r,2:n st=
            exact fin w3 _ _ (by rw [parL, if_neg h3, if_neg (show ¬ isDig c = true by rw [hdg]; decide), if_neg h56, if_neg h77, if_pos h93]) h4 hf4
        · refine aw_aload_nR (pc := 80) X d_Ex_makeParameter_80 (by rfl) ?_
          refine aw_aload_nR (pc := 81) X d_Ex_makeParameter_81 (by rfl) ?_
          refine aw_iconstN (pc := 82) X 1 d_Ex_makeParameter_82 (by decide) ?_
          refine aw_iconstN (pc := 83) X 0 d_Ex_makeParameter_83 (by decide) ?_
          -- invokevirtual 84 lv=0:r,1:r,2:n st=n,n,r,r
          refine aw_callV (pc := 84) X _ (s_Ex_makeList (d := 3) (f := 1) (q := false) hnx (by omega) ha (by omega) (by omega) he hs h) q_Ex_makeList k_643 k_645 k_10 (by omega) he (by rfl) d_Ex_makeParameter_84 (by omega) (Nat.le_of_ble_eq_true rfl) ⟨by omega, by omega⟩ (fun h => by cases h) (fun r w3 nx3 hp => ?_)
          obtain ⟨rfl, rfl, h4, hf4⟩ := hp
          refine aw_goto (pc := 87) X (tgt := 108) d_Ex_makeParameter_87 (by rfl) ?_
          -- stop 108 lv=0:r,1:r,2:n st=
          exact fin w3 _ _ (by rw [parL, if_neg h3, if_neg (show ¬ isDig c = true by rw [hdg]; decide), if_neg h56, if_pos h77]) h4 hf4
      · refine aw_aload_nR (pc := 59) X d_Ex_makeParameter_59 (by rfl) ?_
        refine aw_getO (pc := 60) X _ 4 (by omega) (by (repeat (first | rw [aw_up_eq] | rw [aw_up_ne _ _ (by first | assumption | omega)])) <;> first | assumption | rfl) (by rfl) in_Ex (by decide) k_360 (by rfl) d_Ex_makeParameter_60 ?_
        refine aw_aload_nR (pc := 63) X d_Ex_makeParameter_63 (by rfl) ?_
        refine aw_getNO (pc := 64) X _ 3 (by omega) (by (repeat (first | rw [aw_up_eq] | rw [aw_up_ne _ _ (by first | assumption | omega)])) <;> first | assumption | rfl) (by rfl) in_Ca (by decide) k_286 (by rfl) d_Ex_makeParameter_64 ?_
        refine aw_i2lN (pc := 67) X d_Ex_makeParameter_67 (by omega) ?_
        -- invokevirtual 68 lv=0:r,1:r,2:n st=l,r
        refine aw_callV (pc := 68) X _ (s_Tx_addNumber (d := 1) (a := 416) (m := 601) (v := lN ar.length) (by omega) (by omega) (by omega) hs) q_Tx_addNumber k_635 k_636 k_637 (by omega) hs.obj (by rfl) d_Ex_makeParameter_68 (by omega) (Nat.le_of_ble_eq_true rfl) ⟨by omega, by omega⟩ (fun h => by cases h) (fun r w3 nx3 hp => ?_)
        obtain ⟨rfl, rfl, h4, hf4⟩ := hp
        refine aw_goto (pc := 71) X (tgt := 108) d_Ex_makeParameter_71 (by rfl) ?_
        -- stop 108 lv=0:r,1:r,2:n st=
        exact fin w3 _ _ (by rw [parL, if_neg h3, if_neg (show ¬ isDig c = true by rw [hdg]; decide), if_pos h56]) h4 hf4
    · have hdg := bN_ne.mp h38
      have hdg2 := of_decide_eq_true hdg
      refine aw_aload_nR (pc := 41) X d_Ex_makeParameter_41 (by rfl) ?_
      refine aw_aload_nR (pc := 42) X d_Ex_makeParameter_42 (by rfl) ?_
      refine aw_iload_n (pc := 43) X d_Ex_makeParameter_43 (by rfl) ?_
      refine aw_bipushN (pc := 44) X 48 d_Ex_makeParameter_44 (by decide) ?_
      refine aw_isubN (pc := 46) X d_Ex_makeParameter_46 (by omega) ?_
      -- invokevirtual 47 lv=0:r,1:r,2:n st=n,r,r
      refine aw_callV (pc := 47) X _ (s_Ex_makeArgument (d := 2) (i := c - 48) hnx (by omega) ha (by omega) he hs h) q_Ex_makeArgument k_623 k_625 k_9 (by omega) he (by rfl) d_Ex_makeParameter_47 (by omega) (Nat.le_of_ble_eq_true rfl) ⟨by omega, by omega⟩ (fun h => by cases h) (fun r w3 nx3 hp => ?_)
      obtain ⟨rfl, rfl, h4, hf4⟩ := hp
      refine aw_goto (pc := 50) X (tgt := 108) d_Ex_makeParameter_50 (by rfl) ?_
      -- stop 108 lv=0:r,1:r,2:n st=
      exact fin w3 _ _ (by simp [parL, h3, hdg]) h4 hf4
  · refine aw_aload_nR (pc := 6) X d_Ex_makeParameter_6 (by rfl) ?_
    refine aw_getNO (pc := 7) X _ 0 (by omega) (by (repeat (first | rw [aw_up_eq] | rw [aw_up_ne _ _ (by first | assumption | omega)])) <;> first | assumption | rfl) (by rfl) in_Ca (by decide) k_279 (by rfl) d_Ex_makeParameter_7 ?_
    refine aw_getNO (pc := 10) X _ 0 (by omega) (by (repeat (first | rw [aw_up_eq] | rw [aw_up_ne _ _ (by first | assumption | omega)])) <;> first | assumption | rfl) (by rfl) in_De (by decide) k_177 (by rfl) d_Ex_makeParameter_10 ?_
    refine aw_astore_nR (pc := 13) X (lv' := [(3, _), (0, _), (1, _), (2, _)]) d_Ex_makeParameter_13 (by decide) (by rfl) ?_
    refine aw_aload_nR (pc := 14) X d_Ex_makeParameter_14 (by rfl) ?_
    refine aw_getO (pc := 15) X _ 4 (by omega) (by (repeat (first | rw [aw_up_eq] | rw [aw_up_ne _ _ (by first | assumption | omega)])) <;> first | assumption | rfl) (by rfl) in_Ex (by decide) k_360 (by rfl) d_Ex_makeParameter_15 ?_
    refine aw_aload_nR (pc := 18) X d_Ex_makeParameter_18 (by rfl) ?_
    refine aw_getNO (pc := 19) X _ 0 (by omega) (by (repeat (first | rw [aw_up_eq] | rw [aw_up_ne _ _ (by first | assumption | omega)])) <;> first | assumption | rfl) (by rfl) in_Tx (by decide) k_104 (by rfl) d_Ex_makeParameter_19 ?_
    refine aw_iconstN (pc := 22) X 0 d_Ex_makeParameter_22 (by decide) ?_
    refine aw_aload_nR (pc := 23) X d_Ex_makeParameter_23 (by rfl) ?_
    refine aw_getNO (pc := 24) X _ 1 (by omega) (by (repeat (first | rw [aw_up_eq] | rw [aw_up_ne _ _ (by first | assumption | omega)])) <;> first | assumption | rfl) (by rfl) in_Tx (by decide) k_114 (by rfl) d_Ex_makeParameter_24 ?_
    -- invokevirtual 27 lv=3:r,0:r,1:r,2:n st=n,n,r,r
    refine aw_callV (pc := 27) X _ (s_Tx_addPart (d := 1) (a := 416) (m := 601) (q := a + 1 + 1 + 1) (l := 12) (f := gn) (u := 0) (v := t.1.length) (by omega) (by omega) (by omega) (by omega) (by omega) (by omega) hnl n3 hs n1) q_Tx_addPart k_621 k_547 k_548 (by omega) hs.obj (by rfl) d_Ex_makeParameter_27 (by omega) (Nat.le_of_ble_eq_true rfl) ⟨by omega, by omega⟩ (fun h => by cases h) (fun r w3 nx3 hp => ?_)
    obtain ⟨rfl, rfl, h4, hf4⟩ := hp
    rw [Nat.sub_zero, ← n2] at h4
    refine aw_pop (pc := 30) X d_Ex_makeParameter_30 (by rfl) ?_
    refine aw_goto (pc := 31) X (tgt := 108) d_Ex_makeParameter_31 (by rfl) ?_
    -- stop 108 lv=3:r,0:r,1:r,2:n st=
    exact fin w3 _ _ (by simp [parL, h3]) h4 hf4
theorem s_Ex_makeBody {a : Nat} {t : Def} {ar : List (List Nat)} {s : List Nat} (hnx : 418 ≤ nx) (hd : 5 ≤ d) (ha : 321 ≤ a ∧ a + 7 ≤ 412) (he : hEx w G) (hs : hTx G w 416 601 s) (h : hRdy G w a t ar) : AC G y_Ex_makeBody b_Ex_makeBody 5 none d false [rf G 412, rf G a] nx w 0 0 (fun r w' nx' => nx' = nx ∧ r = none ∧ hTx G w' 416 601 ((s ++ bodyL t ar t.2.2).take 601) ∧ fr 416 418 w w') := by
  obtain ⟨st, gg, dp, bg, c1, c2, c3, c4, c5, c6⟩ := id h
  have c1' : w a = aObj 7 [rf G (a + 1), rf G 319, rf G (a + 6), .int (nI ar.length), .int (nI dp), .int (nI (bN bg))] := c1.1
  have c2' : w (a + 1) = aObj 5 [rf G (a + 1 + 1), rf G (a + 1 + 3), kV G t.2.1] := c1.2.1.1
  have hbd := c1.2.1.2.2
  obtain ⟨gb, b1, b2, b3⟩ := hbd.arr
  have hbl := hbd.le
  have hbo := hbd.obj
  refine AC.ofW (by decide) (Nat.le_of_ble_eq_true rfl) ?_
  intro E P hP Y X
  have X : aw_X G "RescanDesk$Expander" b_Ex_makeBody 5 none "makeBody" _ _ _ _ _ E := X
  refine AW.eql (lv' := [(0, _), (1, _)]) (by rfl) ?_
  have L : ∀ (k i : Nat) (w1 : Nat → va_E) (s1 : List Nat), i + k = t.2.2.length → hTx G w1 416 601 s1 → fr 416 418 w w1 → (s1 ++ bodyL t ar (sl gb i k)).take 601 = (s ++ bodyL t ar t.2.2).take 601 → AW G E 5 nx 0 0 w1 10 [(3, .int (nI i)), (2, rf G (a + 1 + 3)), (0, rf G 412), (1, rf G a)] [] := by
    intro k
    induction k using Nat.strongRecOn with
    | ind k ih =>
    intro i w1 s1 hik h1 hfr hr
    have o1 : w1 (a + 1 + 3) = oTx G (a + 1 + 3 + 1) t.2.2.length := (hfr _ (by omega)).trans hbo
    have o2 : w1 (a + 1 + 3 + 1) = aCh G 100 gb := (hfr _ (by omega)).trans b1
    have he1 : hEx w1 G := (hfr _ (by omega)).trans he
    have he1' : w1 412 = aObj 8 [rf G 3, rf G 5, rf G 15, rf G 413, rf G 416] := he1
    have hh := h.keep ha hfr (by omega)
    have hgi := b3 i
    have hgi1 := b3 (i + 1)
    refine aw_iload_n (pc := 10) X d_Ex_makeBody_10 (by rfl) ?_
    refine aw_aload_nR (pc := 11) X d_Ex_makeBody_11 (by rfl) ?_
    refine aw_getNO (pc := 12) X _ 1 (by omega) (by (repeat (first | rw [aw_up_eq] | rw [aw_up_ne _ _ (by first | assumption | omega)])) <;> first | assumption | rfl) (by rfl) in_Tx (by decide) k_114 (by rfl) d_Ex_makeBody_12 ?_
    refine aw_icmp_geN (pc := 15) X (tgt := 97) d_Ex_makeBody_15 (by rfl) (by omega) (by omega) (fun h15 => ?_) (fun h15 => ?_)
    -- br 15 lv=3:n,2:r,0:r,1:r st=
    · refine aw_vret Y X rfl d_Ex_makeBody_97 (by omega) (by omega) (hP _ _ _ ?_)
      -- ret 97 lv=3:n,2:r,0:r,1:r st=
      refine ⟨rfl, rfl, ?_, hfr⟩
      rw [← hr, show k = 0 by omega, sl_0, bodyL, List.append_nil, List.take_of_length_le h1.le]
      exact h1
    · -- a character as it is
      have S0 : ∀ (x : List (Nat × Value)), (s1 ++ (gb i :: bodyL t ar (sl gb (i + 1) (k - 1)))).take 601 = (s ++ bodyL t ar t.2.2).take 601 → AW G E 5 nx 0 0 w1 59 [(3, .int (nI i)), (2, rf G (a + 1 + 3)), (0, rf G 412), (1, rf G a)] [] := by
        intro x hr0
        have g1 := h1.obj
        refine aw_iconstN (pc := 59) X 0 d_Ex_makeBody_59 (by decide) ?_
        refine aw_istore (pc := 60) X (lv' := [(4, _), (3, _), (2, _), (0, _), (1, _)]) d_Ex_makeBody_60 (by decide) (by rfl) ?_
        refine aw_iload (pc := 62) X d_Ex_makeBody_62 (by rfl) ?_
        refine aw_if_neN (pc := 64) X (tgt := 81) d_Ex_makeBody_64 (by rfl) (by omega) (fun h64 => ?_) (fun h64 => ?_)
        -- br 64 lv=4:n,3:n,2:r,0:r,1:r st=
        · refine aw_iload_n (pc := 81) X d_Ex_makeBody_81 (by rfl) ?_
          refine aw_iload (pc := 82) X d_Ex_makeBody_82 (by rfl) ?_
          refine aw_if_eqN (pc := 84) X (tgt := 91) d_Ex_makeBody_84 (by rfl) (by omega) (fun h84 => ?_) (fun h84 => ?_)
          -- br 84 lv=4:n,3:n,2:r,0:r,1:r st=n
          · omega
          · omega
        · refine aw_aload_nR (pc := 67) X d_Ex_makeBody_67 (by rfl) ?_
          refine aw_getO (pc := 68) X _ 4 (by omega) (by (repeat (first | rw [aw_up_eq] | rw [aw_up_ne _ _ (by first | assumption | omega)])) <;> first | assumption | rfl) (by rfl) in_Ex (by decide) k_360 (by rfl) d_Ex_makeBody_68 ?_
          refine aw_aload_nR (pc := 71) X d_Ex_makeBody_71 (by rfl) ?_
          refine aw_getNO (pc := 72) X _ 0 (by omega) (by (repeat (first | rw [aw_up_eq] | rw [aw_up_ne _ _ (by first | assumption | omega)])) <;> first | assumption | rfl) (by rfl) in_Tx (by decide) k_104 (by rfl) d_Ex_makeBody_72 ?_
          refine aw_iload_n (pc := 75) X d_Ex_makeBody_75 (by rfl) ?_
          refine aw_caldN (pc := 76) X _ 0 (by omega) (by (repeat (first | rw [aw_up_eq] | rw [aw_up_ne _ _ (by first | assumption | omega)])) <;> first | assumption | rfl) (by rfl) (by omega) (by omega) d_Ex_makeBody_76 ?_
          -- invokevirtual 77 lv=4:n,3:n,2:r,0:r,1:r st=n,r
          refine aw_callV (pc := 77) X _ (s_Tx_add (d := 0) (a := 416) (m := 601) (s := s1) (x := gb i) (by omega) (by omega) hgi h1) q_Tx_add k_647 k_248 k_249 (by omega) g1 (by rfl) d_Ex_makeBody_77 (by omega) (Nat.le_of_ble_eq_true rfl) ⟨by omega, by omega⟩ (fun h => by cases h) (fun r w3 nx3 hp => ?_)
          obtain ⟨rfl, rfl, h3, hf3⟩ := hp
          refine aw_pop (pc := 80) X d_Ex_makeBody_80 (by rfl) ?_
          refine aw_iload_n (pc := 81) X d_Ex_makeBody_81 (by rfl) ?_
          refine aw_iload (pc := 82) X d_Ex_makeBody_82 (by rfl) ?_
          refine aw_if_eqN (pc := 84) X (tgt := 91) d_Ex_makeBody_84 (by rfl) (by omega) (fun h84 => ?_) (fun h84 => ?_)
          -- br 84 lv=4:n,3:n,2:r,0:r,1:r st=n
          · refine aw_iconstN (pc := 91) X 1 d_Ex_makeBody_91 (by decide) ?_
            refine aw_iaddN (pc := 92) X d_Ex_makeBody_92 ?_
            refine aw_istore_n (pc := 93) X (lv' := [(3, _), (4, _), (2, _), (0, _), (1, _)]) d_Ex_makeBody_93 (by decide) (by rfl) ?_
            refine aw_goto (pc := 94) X (tgt := 10) d_Ex_makeBody_94 (by rfl) ?_
            -- stop 10 lv=3:n,4:n,2:r,0:r,1:r st=
            refine AW.lsub [0, 2, 3, 4] (by rfl) ?_
            refine ih (k - 1) (by omega) (i + 1) w3 _ (by omega) h3 (hfr.trans hf3) ?_
            rw [← hr0, take_app, List.append_assoc]
            rfl
          · omega
      refine aw_aload_nR (pc := 18) X d_Ex_makeBody_18 (by rfl) ?_
      refine aw_getNO (pc := 19) X _ 0 (by omega) (by (repeat (first | rw [aw_up_eq] | rw [aw_up_ne _ _ (by first | assumption | omega)])) <;> first | assumption | rfl) (by rfl) in_Tx (by decide) k_104 (by rfl) d_Ex_makeBody_19 ?_
      refine aw_iload_n (pc := 22) X d_Ex_makeBody_22 (by rfl) ?_
      refine aw_caldN (pc := 23) X _ 0 (by omega) (by (repeat (first | rw [aw_up_eq] | rw [aw_up_ne _ _ (by first | assumption | omega)])) <;> first | assumption | rfl) (by rfl) (by omega) (by omega) d_Ex_makeBody_23 ?_
      refine aw_bipushN (pc := 24) X 36 d_Ex_makeBody_24 (by decide) ?_
      refine aw_icmp_neN (pc := 26) X (tgt := 59) d_Ex_makeBody_26 (by rfl) (by omega) (by omega) (fun h26 => ?_) (fun h26 => ?_)
      -- br 26 lv=3:n,2:r,0:r,1:r st=
      · refine S0 [] ?_
        rw [← hr]
        congr 2
        cases k with
        | zero => omega
        | succ k =>
          rw [sl_cons]
          cases k with
          | zero => rfl
          | succ k => rw [Nat.add_sub_cancel, sl_cons, bodyL, if_neg h26]
      · refine aw_iload_n (pc := 29) X d_Ex_makeBody_29 (by rfl) ?_
        refine aw_iconstN (pc := 30) X 1 d_Ex_makeBody_30 (by decide) ?_
        refine aw_iaddN (pc := 31) X d_Ex_makeBody_31 ?_
        refine aw_aload_nR (pc := 32) X d_Ex_makeBody_32 (by rfl) ?_
        refine aw_getNO (pc := 33) X _ 1 (by omega) (by (repeat (first | rw [aw_up_eq] | rw [aw_up_ne _ _ (by first | assumption | omega)])) <;> first | assumption | rfl) (by rfl) in_Tx (by decide) k_114 (by rfl) d_Ex_makeBody_33 ?_
        refine aw_icmp_geN (pc := 36) X (tgt := 59) d_Ex_makeBody_36 (by rfl) (by omega) (by omega) (fun h36 => ?_) (fun h36 => ?_)
        -- br 36 lv=3:n,2:r,0:r,1:r st=
        · refine S0 [] ?_
          rw [← hr]
          congr 2
          rw [show k = 0 + 1 by omega, sl_cons]
          rfl
        · have ek : sl gb i k = gb i :: gb (i + 1) :: sl gb (i + 2) (k - 2) := by
            rw [show k = (k - 2) + 1 + 1 by omega, sl_cons, sl_cons]
            rfl
          have ek1 : sl gb (i + 1) (k - 1) = gb (i + 1) :: sl gb (i + 2) (k - 2) := by
            rw [show k - 1 = (k - 2) + 1 by omega, sl_cons]
          refine aw_aload_nR (pc := 39) X d_Ex_makeBody_39 (by rfl) ?_
          refine aw_aload_nR (pc := 40) X d_Ex_makeBody_40 (by rfl) ?_
          refine aw_aload_nR (pc := 41) X d_Ex_makeBody_41 (by rfl) ?_
          refine aw_getNO (pc := 42) X _ 0 (by omega) (by (repeat (first | rw [aw_up_eq] | rw [aw_up_ne _ _ (by first | assumption | omega)])) <;> first | assumption | rfl) (by rfl) in_Tx (by decide) k_104 (by rfl) d_Ex_makeBody_42 ?_
          refine aw_iload_n (pc := 45) X d_Ex_makeBody_45 (by rfl) ?_
          refine aw_iconstN (pc := 46) X 1 d_Ex_makeBody_46 (by decide) ?_
          refine aw_iaddN (pc := 47) X d_Ex_makeBody_47 ?_
          refine aw_caldN (pc := 48) X _ 0 (by omega) (by (repeat (first | rw [aw_up_eq] | rw [aw_up_ne _ _ (by first | assumption | omega)])) <;> first | assumption | rfl) (by rfl) (by omega) (by omega) d_Ex_makeBody_48 ?_
          -- invokevirtual 49 lv=3:n,2:r,0:r,1:r st=n,r,r
          refine aw_callV (pc := 49) X _ (s_Ex_makeParameter (d := 4) (c := gb (i + 1)) hnx (by omega) ha hgi1 he1 h1 hh) q_Ex_makeParameter k_617 k_619 k_8 (by omega) he1 (by rfl) d_Ex_makeBody_49 (by omega) (Nat.le_of_ble_eq_true rfl) ⟨by omega, by omega⟩ (fun h => by cases h) (fun r w3 nx3 hp => ?_)
          obtain ⟨rfl, ⟨hpn, rfl, rfl⟩ | ⟨Lp, hpn, rfl, h3, hf3⟩⟩ := hp
          · refine aw_if_eqN (pc := 52) X (tgt := 59) d_Ex_makeBody_52 (by rfl) (by omega) (fun h52 => ?_) (fun h52 => ?_)
            -- br 52 lv=3:n,2:r,0:r,1:r st=
            · refine S0 [] ?_
              rw [← hr, ek, bodyL, if_pos h26, hpn, ek1]
            · omega
          · refine aw_if_eqN (pc := 52) X (tgt := 59) d_Ex_makeBody_52 (by rfl) (by omega) (fun h52 => ?_) (fun h52 => ?_)
            -- br 52 lv=3:n,2:r,0:r,1:r st=
            · omega
            · refine aw_iconstN (pc := 55) X 1 d_Ex_makeBody_55 (by decide) ?_
              refine aw_goto (pc := 56) X (tgt := 60) d_Ex_makeBody_56 (by rfl) ?_
              refine aw_istore (pc := 60) X (lv' := [(4, _), (3, _), (2, _), (0, _), (1, _)]) d_Ex_makeBody_60 (by decide) (by rfl) ?_
              refine aw_iload (pc := 62) X d_Ex_makeBody_62 (by rfl) ?_
              refine aw_if_neN (pc := 64) X (tgt := 81) d_Ex_makeBody_64 (by rfl) (by omega) (fun h64 => ?_) (fun h64 => ?_)
              -- br 64 lv=4:n,3:n,2:r,0:r,1:r st=
              · refine aw_iload_n (pc := 81) X d_Ex_makeBody_81 (by rfl) ?_
                refine aw_iload (pc := 82) X d_Ex_makeBody_82 (by rfl) ?_
                refine aw_if_eqN (pc := 84) X (tgt := 91) d_Ex_makeBody_84 (by rfl) (by omega) (fun h84 => ?_) (fun h84 => ?_)
                -- br 84 lv=4:n,3:n,2:r,0:r,1:r st=n
                · omega
                · refine aw_iconstN (pc := 87) X 2 d_Ex_makeBody_87 (by decide) ?_
                  refine aw_goto (pc := 88) X (tgt := 92) d_Ex_makeBody_88 (by rfl) ?_
                  refine aw_iaddN (pc := 92) X d_Ex_makeBody_92 ?_
                  refine aw_istore_n (pc := 93) X (lv' := [(3, _), (4, _), (2, _), (0, _), (1, _)]) d_Ex_makeBody_93 (by decide) (by rfl) ?_
                  refine aw_goto (pc := 94) X (tgt := 10) d_Ex_makeBody_94 (by rfl) ?_
                  -- stop 10 lv=3:n,4:n,2:r,0:r,1:r st=
                  refine AW.lsub [0, 2, 3, 4] (by rfl) ?_
                  refine ih (k - 2) (by omega) (i + 2) w3 _ (by omega) h3 (hfr.trans hf3) ?_
                  rw [← hr, ek, bodyL, if_pos h26, hpn, take_app, List.append_assoc]
              · omega
  refine aw_aload_nR (pc := 0) X d_Ex_makeBody_0 (by rfl) ?_
  refine aw_getNO (pc := 1) X _ 0 (by omega) (by (repeat (first | rw [aw_up_eq] | rw [aw_up_ne _ _ (by first | assumption | omega)])) <;> first | assumption | rfl) (by rfl) in_Ca (by decide) k_279 (by rfl) d_Ex_makeBody_1 ?_
  refine aw_getNO (pc := 4) X _ 1 (by omega) (by (repeat (first | rw [aw_up_eq] | rw [aw_up_ne _ _ (by first | assumption | omega)])) <;> first | assumption | rfl) (by rfl) in_De (by decide) k_179 (by rfl) d_Ex_makeBody_4 ?_
  refine aw_astore_nR (pc := 7) X (lv' := [(2, _), (0, _), (1, _)]) d_Ex_makeBody_7 (by decide) (by rfl) ?_
  refine aw_iconstN (pc := 8) X 0 d_Ex_makeBody_8 (by decide) ?_
  refine aw_istore_n (pc := 9) X (lv' := [(3, _), (2, _), (0, _), (1, _)]) d_Ex_makeBody_9 (by decide) (by rfl) ?_
  -- stop 10 lv=3:n,2:r,0:r,1:r st=
  exact L t.2.2.length 0 w s (by omega) hs (fr.refl _ _ _) (by rw [← b2])
end

