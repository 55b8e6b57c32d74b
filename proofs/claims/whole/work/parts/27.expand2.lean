/-! Expression.reckon; Expander.placeOfFirst, define, undivert, chosen, makePart, index -/
def nbl (c : Nat) : Bool := !isBlk c
def hEp (G : aw_G) (w : Nat → va_E) : Prop := ∃ (x : ES) (S : List Nat), w 413 = aObj 9 [rf G 414, .int (nI x.1), .int (nI (bN x.2.1)), .int (nI (bN x.2.2))] ∧ hTx G w 414 400 S
theorem hEp.keep {G : aw_G} {w w' : Nat → va_E} {lo hi : Nat} (h : hEp G w) (hf : fr lo hi w w') (h1 : hi ≤ 413 ∨ 416 ≤ lo) : hEp G w' := by
  obtain ⟨x, S, h2, h3⟩ := h
  exact ⟨x, S, (hf _ (by omega)).trans h2, h3.keep hf (by omega)⟩
section
variable {G : aw_G} {nx d : Nat} {w : Nat → va_E}
/-- what the reckoning says: its error, its value -/
def rckS (S : List Nat) (v : Int64) (x : ES) : Nat := if x.2.1 = true ∨ x.1 < S.length then 6 else if x.2.2 = true then 5 else 0
theorem s_Ep_reckon {q l u v f : Nat} {gg : Nat → Nat} {s S : List Nat} {va : Int64} {x' : ES} (hnx : 418 ≤ nx) (hd : 58 ≤ d) (hq : q < nx) (hq2 : q < 413) (hl : l ≤ 400) (huv : u ≤ v) (hvl : v ≤ l) (hg : ∀ j, gg j < 65536) (h3 : w q = aCh G l gg) (he : hEp G w) (hs : hTx G w 416 601 s) (hS : S = (sl gg u (v - u)).filter nbl) (hev : ev S f 1 0 0 false (0, false, false) = some (va, x')) : AC G y_Ep_reckon b_Ep_reckon 7 (some .int) d false [rf G 413, rf G q, .int (nI u), .int (nI v), rf G 416] nx w 0 0 (fun r w' nx' => nx' = nx ∧ r = some (.int (nI (rckS S va x'))) ∧ hEp G w' ∧ hTx G w' 416 601 (if rckS S va x' = 0 then (s ++ dec va).take 601 else s) ∧ fr 413 418 w w') := by
  obtain ⟨x0, S0, e0, t0⟩ := he
  have t0o := t0.obj
  refine AC.ofW (by decide) (Nat.le_of_ble_eq_true rfl) ?_
  intro E P hP Y X
  have X : aw_X G "RescanDesk$Expression" b_Ep_reckon 7 (some .int) "reckon" _ _ _ _ _ E := X
  refine AW.eql (lv' := [(0, _), (1, _), (2, _), (3, _), (4, _)]) (by rfl) ?_
  have L : ∀ (k i : Nat) (w1 : Nat → va_E) (S1 : List Nat), i + k = v → w1 413 = aObj 9 [rf G 414, .int (nI x0.1), .int (nI (bN x0.2.1)), .int (nI (bN x0.2.2))] → hTx G w1 414 400 S1 → fr 414 416 w w1 → S1 ++ (sl gg i k).filter nbl = S → AW G E 7 nx 0 0 w1 10 [(5, .int (nI i)), (0, rf G 413), (1, rf G q), (2, .int (nI u)), (3, .int (nI v)), (4, rf G 416)] [] := by
    intro k
    induction k with
    | zero =>
      intro i w1 S1 hi e1 t1 hf hr
      rw [sl_0, List.filter_nil, List.append_nil] at hr
      subst hr
      have hs1 : hTx G w1 416 601 s := hs.keep hf (by omega)
      refine aw_iload (pc := 10) X d_Ep_reckon_10 (by rfl) ?_
      refine aw_iload_n (pc := 12) X d_Ep_reckon_12 (by rfl) ?_
      refine aw_icmp_geN (pc := 13) X (tgt := 44) d_Ep_reckon_13 (by rfl) (by omega) (by omega) (fun h13 => ?_) (fun h13 => ?_)
      -- br 13 lv=5:n,0:r,1:r,2:n,3:n,4:r st=
      · refine aw_aload_nR (pc := 44) X d_Ep_reckon_44 (by rfl) ?_
        refine aw_iconstN (pc := 45) X 0 d_Ep_reckon_45 (by decide) ?_
        refine aw_putO (pc := 46) X _ 1 (by omega) (by (repeat (first | rw [aw_up_eq] | rw [aw_up_ne _ _ (by first | assumption | omega)])) <;> first | assumption | rfl) (by rfl) in_Ep (by decide) ty_Ep ok_Ep nm_Ep k_342 (by rfl) (by rfl) (by rfl) (by simp) (fs' := [_, _, _, _]) (by rfl) d_Ep_reckon_46 ?_
        refine aw_aload_nR (pc := 49) X d_Ep_reckon_49 (by rfl) ?_
        refine aw_iconstN (pc := 50) X 0 d_Ep_reckon_50 (by decide) ?_
        refine aw_putO (pc := 51) X _ 2 (by omega) (by (repeat (first | rw [aw_up_eq] | rw [aw_up_ne _ _ (by first | assumption | omega)])) <;> first | assumption | rfl) (by rfl) in_Ep (by decide) ty_Ep ok_Ep nm_Ep k_343 (by rfl) (by decide +kernel) (by decide +kernel) (by simp) (fs' := [_, _, _, _]) (by rfl) d_Ep_reckon_51 ?_
        refine aw_aload_nR (pc := 54) X d_Ep_reckon_54 (by rfl) ?_
        refine aw_iconstN (pc := 55) X 0 d_Ep_reckon_55 (by decide) ?_
        refine aw_putO (pc := 56) X _ 3 (by omega) (by (repeat (first | rw [aw_up_eq] | rw [aw_up_ne _ _ (by first | assumption | omega)])) <;> first | assumption | rfl) (by rfl) in_Ep (by decide) ty_Ep ok_Ep nm_Ep k_344 (by rfl) (by decide +kernel) (by decide +kernel) (by simp) (fs' := [_, _, _, _]) (by rfl) d_Ep_reckon_56 ?_
        -- stop 59 lv=5:n,0:r,1:r,2:n,3:n,4:r st=
        refine AW.eqw (show _ = wE G w1 (0, false, false) by simp only [aw_up_up]; rfl) ?_
        refine aw_aload_nR (pc := 59) X d_Ep_reckon_59 (by rfl) ?_
        refine aw_iconstN (pc := 60) X 1 d_Ep_reckon_60 (by decide) ?_
        refine aw_iconstN (pc := 61) X 0 d_Ep_reckon_61 (by decide) ?_
        -- invokevirtual 62 lv=5:n,0:r,1:r,2:n,3:n,4:r st=n,n,r
        refine aw_callV (pc := 62) X _ ((ev_AC S1 f 1 0 57 nx w1 _ _ _ hev (by omega) (by omega) (by omega) (Nat.zero_le _) t1 (by omega)).1 (by omega)) q_Ep_level k_742 k_744 k_16 (by omega) (wE_at _ _ _) (by rfl) d_Ep_reckon_62 (by omega) (Nat.le_of_ble_eq_true rfl) ⟨by omega, by omega⟩ (fun h => by cases h) (fun r w2 nx2 hp => ?_)
        obtain ⟨rfl, rfl, rfl⟩ := hp
        have g1 := wE_at G w1 x'
        have g2 : wE G w1 x' 414 = oTx G 415 S1.length := (wE_ne G w1 _ (by omega)).trans t1.obj
        have g3 : hTx G (wE G w1 x') 416 601 s := hs1.kept (wE_ne G w1 _ (by omega)) (wE_ne G w1 _ (by omega))
        have g4 : hTx G (wE G w1 x') 414 400 S1 := t1.kept (wE_ne G w1 _ (by omega)) (wE_ne G w1 _ (by omega))
        have hb1 := bN_lt x'.2.1
        have hb2 := bN_lt x'.2.2
        have hx' := ev_le S1 _ _ _ _ _ _ _ _ hev (Nat.zero_le _)
        have hl1 := t1.le
        have fx : fr 413 418 w (wE G w1 x') := (hf.mono (by omega) (by omega)).up _ (by omega)
        refine aw_lstore (pc := 65) X (lv' := [(5, _), (0, _), (1, _), (2, _), (3, _), (4, _)]) d_Ep_reckon_65 (by decide) (by rfl) ?_
        refine aw_aload_nR (pc := 67) X d_Ep_reckon_67 (by rfl) ?_
        refine aw_getO (pc := 68) X _ 2 (by omega) (by (repeat (first | rw [aw_up_eq] | rw [aw_up_ne _ _ (by first | assumption | omega)])) <;> first | assumption | rfl) (by rfl) in_Ep (by decide) k_343 (by rfl) d_Ep_reckon_68 ?_
        refine aw_if_neN (pc := 71) X (tgt := 88) d_Ep_reckon_71 (by rfl) (by omega) (fun h71 => ?_) (fun h71 => ?_)
        -- br 71 lv=5:l,0:r,1:r,2:n,3:n,4:r st=
        · have z : rckS S1 va x' = 6 := by rw [rckS, if_pos (Or.inl (bN_ne.mp h71))]
          refine aw_bipushN (pc := 88) X 6 d_Ep_reckon_88 (by decide) ?_
          refine aw_iret Y X rfl d_Ep_reckon_90 (by omega) (by omega) (hP _ _ _ ?_)
          -- ret 90 lv=5:l,0:r,1:r,2:n,3:n,4:r st=n
          rw [z]
          exact ⟨rfl, rfl, ⟨x', S1, g1, g4⟩, g3, fx⟩
        · have z1 := bN_eq.mp h71
          refine aw_aload_nR (pc := 74) X d_Ep_reckon_74 (by rfl) ?_
          refine aw_getO (pc := 75) X _ 1 (by omega) (by (repeat (first | rw [aw_up_eq] | rw [aw_up_ne _ _ (by first | assumption | omega)])) <;> first | assumption | rfl) (by rfl) in_Ep (by decide) k_342 (by rfl) d_Ep_reckon_75 ?_
          refine aw_aload_nR (pc := 78) X d_Ep_reckon_78 (by rfl) ?_
          refine aw_getO (pc := 79) X _ 0 (by omega) (by (repeat (first | rw [aw_up_eq] | rw [aw_up_ne _ _ (by first | assumption | omega)])) <;> first | assumption | rfl) (by rfl) in_Ep (by decide) k_341 (by rfl) d_Ep_reckon_79 ?_
          refine aw_getNO (pc := 82) X _ 1 (by omega) (by (repeat (first | rw [aw_up_eq] | rw [aw_up_ne _ _ (by first | assumption | omega)])) <;> first | assumption | rfl) (by rfl) in_Tx (by decide) k_112 (by rfl) d_Ep_reckon_82 ?_
          refine aw_icmp_geN (pc := 85) X (tgt := 91) d_Ep_reckon_85 (by rfl) (by omega) (by omega) (fun h85 => ?_) (fun h85 => ?_)
          -- br 85 lv=5:l,0:r,1:r,2:n,3:n,4:r st=
          · refine aw_aload_nR (pc := 91) X d_Ep_reckon_91 (by rfl) ?_
            refine aw_getO (pc := 92) X _ 3 (by omega) (by (repeat (first | rw [aw_up_eq] | rw [aw_up_ne _ _ (by first | assumption | omega)])) <;> first | assumption | rfl) (by rfl) in_Ep (by decide) k_344 (by rfl) d_Ep_reckon_92 ?_
            refine aw_if_eqN (pc := 95) X (tgt := 100) d_Ep_reckon_95 (by rfl) (by omega) (fun h95 => ?_) (fun h95 => ?_)
            -- br 95 lv=5:l,0:r,1:r,2:n,3:n,4:r st=
            · have z : rckS S1 va x' = 0 := by rw [rckS, if_neg (by rw [z1]; simp; omega), if_neg (by rw [bN_eq.mp h95]; decide)]
              refine aw_aloadR (pc := 100) X d_Ep_reckon_100 (by rfl) ?_
              refine aw_lload (pc := 102) X d_Ep_reckon_102 (by rfl) ?_
              -- invokevirtual 104 lv=5:l,0:r,1:r,2:n,3:n,4:r st=l,r
              refine aw_callV (pc := 104) X _ (s_Tx_addNumber (d := 1) (a := 416) (m := 601) (v := va) (by omega) (by omega) (by omega) g3) q_Tx_addNumber k_770 k_636 k_637 (by omega) g3.obj (by rfl) d_Ep_reckon_104 (by omega) (Nat.le_of_ble_eq_true rfl) ⟨by omega, by omega⟩ (fun h => by cases h) (fun r w3 nx3 hp => ?_)
              obtain ⟨rfl, rfl, t4, f4⟩ := hp
              refine aw_iconstN (pc := 107) X 0 d_Ep_reckon_107 (by decide) ?_
              refine aw_iret Y X rfl d_Ep_reckon_108 (by omega) (by omega) (hP _ _ _ ?_)
              -- ret 108 lv=5:l,0:r,1:r,2:n,3:n,4:r st=n
              rw [z]
              exact ⟨rfl, rfl, ⟨x', S1, (f4 _ (by omega)).trans g1, g4.keep f4 (by omega)⟩, t4, fx.trans (f4.mono (by omega) (by omega))⟩
            · have z : rckS S1 va x' = 5 := by rw [rckS, if_neg (by rw [z1]; simp; omega), if_pos (bN_ne.mp h95)]
              refine aw_iconstN (pc := 98) X 5 d_Ep_reckon_98 (by decide) ?_
              refine aw_iret Y X rfl d_Ep_reckon_99 (by omega) (by omega) (hP _ _ _ ?_)
              -- ret 99 lv=5:l,0:r,1:r,2:n,3:n,4:r st=n
              rw [z]
              exact ⟨rfl, rfl, ⟨x', S1, g1, g4⟩, g3, fx⟩
          · have z : rckS S1 va x' = 6 := by rw [rckS, if_pos (Or.inr h85)]
            refine aw_bipushN (pc := 88) X 6 d_Ep_reckon_88 (by decide) ?_
            refine aw_iret Y X rfl d_Ep_reckon_90 (by omega) (by omega) (hP _ _ _ ?_)
            -- ret 90 lv=5:l,0:r,1:r,2:n,3:n,4:r st=n
            rw [z]
            exact ⟨rfl, rfl, ⟨x', S1, g1, g4⟩, g3, fx⟩
      · omega
    | succ k ih =>
      intro i w1 S1 hi e1 t1 hf hr
      rw [sl_cons] at hr
      have hgi := hg i
      have h31 : w1 q = aCh G l gg := (hf _ (by omega)).trans h3
      have t1o := t1.obj
      have hlen : S1.length + ((gg i :: sl gg (i + 1) k).filter nbl).length ≤ 400 := by
        have q1 := congrArg List.length hr
        rw [List.length_append, hS] at q1
        have q2 := List.length_filter_le nbl (sl gg u (v - u))
        rw [sl_len] at q2
        omega
      refine aw_iload (pc := 10) X d_Ep_reckon_10 (by rfl) ?_
      refine aw_iload_n (pc := 12) X d_Ep_reckon_12 (by rfl) ?_
      refine aw_icmp_geN (pc := 13) X (tgt := 44) d_Ep_reckon_13 (by rfl) (by omega) (by omega) (fun h13 => ?_) (fun h13 => ?_)
      -- br 13 lv=5:n,0:r,1:r,2:n,3:n,4:r st=
      · omega
      · refine aw_aload_nR (pc := 16) X d_Ep_reckon_16 (by rfl) ?_
        refine aw_iload (pc := 17) X d_Ep_reckon_17 (by rfl) ?_
        refine aw_caldN (pc := 19) X _ 0 (by omega) (by (repeat (first | rw [aw_up_eq] | rw [aw_up_ne _ _ (by first | assumption | omega)])) <;> first | assumption | rfl) (by rfl) (by omega) (by omega) d_Ep_reckon_19 ?_
        -- invokestatic 20 lv=5:n,0:r,1:r,2:n,3:n,4:r st=n
        refine aw_callSN (pc := 20) X (c_Rd_isBlank (d := 0) hgi) q_Rd_isBlank k_740 k_606 d_Ep_reckon_20 (by omega) (Nat.le_of_ble_eq_true rfl) ⟨by omega, by omega⟩ (fun h => by cases h) (fun r w2 nx2 hp => ?_)
        obtain ⟨rfl, rfl, rfl⟩ := hp
        have hb := bN_lt (isBlk (gg i))
        refine aw_if_neN (pc := 23) X (tgt := 38) d_Ep_reckon_23 (by rfl) (by omega) (fun h23 => ?_) (fun h23 => ?_)
        -- br 23 lv=5:n,0:r,1:r,2:n,3:n,4:r st=
        · rw [List.filter_cons_of_neg (by simp [nbl, bN_ne.mp h23])] at hr
          refine aw_iincN (pc := 38) X 1 (lv' := [(5, _), (0, _), (1, _), (2, _), (3, _), (4, _)]) d_Ep_reckon_38 (by rfl) (by decide) (by decide) (by rfl) ?_
          refine aw_goto (pc := 41) X (tgt := 10) d_Ep_reckon_41 (by rfl) ?_
          -- stop 10 lv=5:n,0:r,1:r,2:n,3:n,4:r st=
          exact ih (i + 1) _ _ (by omega) e1 t1 hf hr
        · rw [List.filter_cons_of_pos (by simp [nbl, bN_eq.mp h23])] at hr hlen
          refine aw_aload_nR (pc := 26) X d_Ep_reckon_26 (by rfl) ?_
          refine aw_getO (pc := 27) X _ 0 (by omega) (by (repeat (first | rw [aw_up_eq] | rw [aw_up_ne _ _ (by first | assumption | omega)])) <;> first | assumption | rfl) (by rfl) in_Ep (by decide) k_341 (by rfl) d_Ep_reckon_27 ?_
          refine aw_aload_nR (pc := 30) X d_Ep_reckon_30 (by rfl) ?_
          refine aw_iload (pc := 31) X d_Ep_reckon_31 (by rfl) ?_
          refine aw_caldN (pc := 33) X _ 0 (by omega) (by (repeat (first | rw [aw_up_eq] | rw [aw_up_ne _ _ (by first | assumption | omega)])) <;> first | assumption | rfl) (by rfl) (by omega) (by omega) d_Ep_reckon_33 ?_
          -- invokevirtual 34 lv=5:n,0:r,1:r,2:n,3:n,4:r st=n,r
          refine aw_callV (pc := 34) X _ (s_Tx_add (d := 0) (a := 414) (m := 400) (s := S1) (x := gg i) (by omega) (by omega) hgi t1) q_Tx_add k_741 k_248 k_249 (by omega) t1o (by rfl) d_Ep_reckon_34 (by omega) (Nat.le_of_ble_eq_true rfl) ⟨by omega, by omega⟩ (fun h => by cases h) (fun r w3 nx3 hp => ?_)
          obtain ⟨rfl, rfl, t4, f4⟩ := hp
          rw [List.take_of_length_le (by simp at hlen ⊢; omega)] at t4
          refine aw_pop (pc := 37) X d_Ep_reckon_37 (by rfl) ?_
          refine aw_iincN (pc := 38) X 1 (lv' := [(5, _), (0, _), (1, _), (2, _), (3, _), (4, _)]) d_Ep_reckon_38 (by rfl) (by decide) (by decide) (by rfl) ?_
          refine aw_goto (pc := 41) X (tgt := 10) d_Ep_reckon_41 (by rfl) ?_
          -- stop 10 lv=5:n,0:r,1:r,2:n,3:n,4:r st=
          exact ih (i + 1) _ _ (by omega) ((f4 _ (by omega)).trans e1) t4 (hf.trans f4) (by rw [List.append_assoc]; exact hr)
  refine aw_aload_nR (pc := 0) X d_Ep_reckon_0 (by rfl) ?_
  refine aw_getO (pc := 1) X _ 0 (by omega) (by (repeat (first | rw [aw_up_eq] | rw [aw_up_ne _ _ (by first | assumption | omega)])) <;> first | assumption | rfl) (by rfl) in_Ep (by decide) k_341 (by rfl) d_Ep_reckon_1 ?_
  -- invokevirtual 4 lv=0:r,1:r,2:n,3:n,4:r st=r
  refine aw_callV (pc := 4) X _ (s_Tx_empty (d := 0) (by omega) t0) q_Tx_empty k_739 k_196 k_197 (by omega) t0o (by rfl) d_Ep_reckon_4 (by omega) (Nat.le_of_ble_eq_true rfl) ⟨by omega, by omega⟩ (fun h => by cases h) (fun r w2 nx2 hp => ?_)
  obtain ⟨rfl, rfl, t1, f1⟩ := hp
  refine aw_iload_n (pc := 7) X d_Ep_reckon_7 (by rfl) ?_
  refine aw_istore (pc := 8) X (lv' := [(5, _), (0, _), (1, _), (2, _), (3, _), (4, _)]) d_Ep_reckon_8 (by decide) (by rfl) ?_
  -- stop 10 lv=5:n,0:r,1:r,2:n,3:n,4:r st=
  exact L (v - u) u w2 [] (by omega) ((f1 _ (by omega)).trans e0) t1 f1 hS.symm
theorem s_Ex_placeOfFirst {a : Nat} {t : Def} {ar : List (List Nat)} {T : List Def} (hnx : 418 ≤ nx) (hd : 2 ≤ d) (ha : 321 ≤ a ∧ a + 7 ≤ 412) (he : hEx w G) (hT : hTa G w T) (h : hRdy G w a t ar) : AC G y_Ex_placeOfFirst b_Ex_placeOfFirst 2 (some .int) d false [rf G 412, rf G a] nx w 0 0 (fun r w' nx' => nx' = nx ∧ w' = w ∧ r = some (.int (pV (tfind T (argOf ar 1))))) := by
  obtain ⟨st, gg, dp, bg, c1, c2, c3, c4, c5, c6⟩ := h
  have c11 := c1.1
  have c1' : w a = aObj 7 [rf G (a + 1), rf G 319, rf G (a + 6), .int (nI ar.length), .int (nI dp), .int (nI (bN bg))] := c11
  have he' : w 412 = aObj 8 [rf G 3, rf G 5, rf G 15, rf G 413, rf G 416] := he
  have hft := c2.ft 1
  have ha1 : sl gg (frm st ar.length 1) (too st ar.length 1 - frm st ar.length 1) = argOf ar 1 := c6 1
  have t15 : ∃ n, w 15 = aObj 4 [rf G 16, .int (nI n)] := by obtain ⟨fa, g, x⟩ := hT; exact ⟨_, x.2.1⟩
  obtain ⟨nT, t15⟩ := t15
  refine AC.ofW (by decide) (Nat.le_of_ble_eq_true rfl) ?_
  intro E P hP Y X
  have X : aw_X G "RescanDesk$Expander" b_Ex_placeOfFirst 2 (some .int) "placeOfFirst" _ _ _ _ _ E := X
  refine AW.eql (lv' := [(0, _), (1, _)]) (by rfl) ?_
  refine aw_aload_nR (pc := 0) X d_Ex_placeOfFirst_0 (by rfl) ?_
  refine aw_getO (pc := 1) X _ 2 (by omega) (by (repeat (first | rw [aw_up_eq] | rw [aw_up_ne _ _ (by first | assumption | omega)])) <;> first | assumption | rfl) (by rfl) in_Ex (by decide) k_358 (by rfl) d_Ex_placeOfFirst_1 ?_
  refine aw_aload_nR (pc := 4) X d_Ex_placeOfFirst_4 (by rfl) ?_
  refine aw_getNO (pc := 5) X _ 1 (by omega) (by (repeat (first | rw [aw_up_eq] | rw [aw_up_ne _ _ (by first | assumption | omega)])) <;> first | assumption | rfl) (by rfl) in_Ca (by decide) k_282 (by rfl) d_Ex_placeOfFirst_5 ?_
  refine aw_aload_nR (pc := 8) X d_Ex_placeOfFirst_8 (by rfl) ?_
  refine aw_iconstN (pc := 9) X 1 d_Ex_placeOfFirst_9 (by decide) ?_
  -- invokevirtual 10 lv=0:r,1:r st=n,r,r,r
  refine aw_callV (pc := 10) X _ (c_Ca_from (d := 0) (by omega) (by omega) c2 c1) q_Ca_from k_627 k_628 k_629 (by omega) c11 (by rfl) d_Ex_placeOfFirst_10 (by omega) (Nat.le_of_ble_eq_true rfl) ⟨by omega, by omega⟩ (fun h => by cases h) (fun r w2 nx2 hp => ?_)
  obtain ⟨rfl, rfl, rfl⟩ := hp
  refine aw_aload_nR (pc := 13) X d_Ex_placeOfFirst_13 (by rfl) ?_
  refine aw_iconstN (pc := 14) X 1 d_Ex_placeOfFirst_14 (by decide) ?_
  -- invokevirtual 15 lv=0:r,1:r st=n,r,n,r,r
  refine aw_callV (pc := 15) X _ (c_Ca_to (d := 0) (by omega) (by omega) c2 c1) q_Ca_to k_631 k_632 k_633 (by omega) c11 (by rfl) d_Ex_placeOfFirst_15 (by omega) (Nat.le_of_ble_eq_true rfl) ⟨by omega, by omega⟩ (fun h => by cases h) (fun r w2 nx2 hp => ?_)
  obtain ⟨rfl, rfl, rfl⟩ := hp
  refine aw_callV (pc := 18) X _ (s_Ta_topmost (d := 1) (q := 319) (l := 400) (by omega) (by omega) (by omega) (by omega) hft.1 hft.2 c4 hT c3) q_Ta_topmost k_677 k_416 k_417 (by omega) t15 (by rfl) d_Ex_placeOfFirst_18 (by omega) (Nat.le_of_ble_eq_true rfl) ⟨by omega, by omega⟩ (fun h => by cases h) (fun r w2 nx2 hp => ?_)
  obtain ⟨rfl, rfl, rfl⟩ := hp
  rw [ha1]
  refine aw_iret Y X rfl d_Ex_placeOfFirst_21 (by omega) (by omega) (hP _ _ _ ?_)
  -- ret 21 lv=0:r,1:r st=i
  exact ⟨rfl, rfl, rfl⟩
/-- which argument an ifelse gives -/
def chosen (ar : List (List Nat)) : Nat → Nat → Nat
  | 0, a => a + 2
  | k + 1, a => if argOf ar a = argOf ar (a + 1) then a + 2 else if ar.length + 1 < 5 + a then a + 3 else chosen ar k (a + 3)
theorem s_Ex_chosen {a : Nat} {t : Def} {ar : List (List Nat)} (hnx : 418 ≤ nx) (hd : 4 ≤ d) (ha : 321 ≤ a ∧ a + 7 ≤ 412) (h : hRdy G w a t ar) : AC G y_Ex_chosen b_Ex_chosen 3 (some .int) d false [rf G 412, rf G a] nx w 0 0 (fun r w' nx' => nx' = nx ∧ w' = w ∧ r = some (.int (nI (chosen ar 3 1)))) := by
  obtain ⟨st, gg, dp, bg, c1, c2, c3, c4, c5, c6⟩ := h
  have c11 := c1.1
  have c1' : w a = aObj 7 [rf G (a + 1), rf G 319, rf G (a + 6), .int (nI ar.length), .int (nI dp), .int (nI (bN bg))] := c11
  have c6' : ∀ i, argL gg st ar.length i = argOf ar i := c6
  have hn9 := c2.1
  refine AC.ofW (by decide) (Nat.le_of_ble_eq_true rfl) ?_
  intro E P hP Y X
  have X : aw_X G "RescanDesk$Expander" b_Ex_chosen 3 (some .int) "chosen" _ _ _ _ _ E := X
  refine AW.eql (lv' := [(0, _), (1, _)]) (by rfl) ?_
  have L : ∀ (k b : Nat), 1 ≤ b → b + 3 * k = 10 → chosen ar k b = chosen ar 3 1 → AW G E 3 nx 0 0 w 2 [(2, .int (nI b)), (0, rf G 412), (1, rf G a)] [] := by
    intro k
    induction k with
    | zero =>
      intro b hb1 hb hr
      refine aw_iload_n (pc := 2) X d_Ex_chosen_2 (by rfl) ?_
      refine aw_bipushN (pc := 3) X 9 d_Ex_chosen_3 (by decide) ?_
      refine aw_icmp_geN (pc := 5) X (tgt := 41) d_Ex_chosen_5 (by rfl) (by omega) (by omega) (fun h5 => ?_) (fun h5 => ?_)
      -- br 5 lv=2:n,0:r,1:r st=
      · refine aw_iload_n (pc := 41) X d_Ex_chosen_41 (by rfl) ?_
        refine aw_iconstN (pc := 42) X 2 d_Ex_chosen_42 (by decide) ?_
        refine aw_iaddN (pc := 43) X d_Ex_chosen_43 ?_
        refine aw_iret Y X rfl d_Ex_chosen_44 (by omega) (by omega) (hP _ _ _ ?_)
        -- ret 44 lv=2:n,0:r,1:r st=n
        exact ⟨rfl, rfl, by rw [← hr]; rfl⟩
      · omega
    | succ k ih =>
      intro b hb1 hb hr
      refine aw_iload_n (pc := 2) X d_Ex_chosen_2 (by rfl) ?_
      refine aw_bipushN (pc := 3) X 9 d_Ex_chosen_3 (by decide) ?_
      refine aw_icmp_geN (pc := 5) X (tgt := 41) d_Ex_chosen_5 (by rfl) (by omega) (by omega) (fun h5 => ?_) (fun h5 => ?_)
      -- br 5 lv=2:n,0:r,1:r st=
      · omega
      · refine aw_aload_nR (pc := 8) X d_Ex_chosen_8 (by rfl) ?_
        refine aw_iload_n (pc := 9) X d_Ex_chosen_9 (by rfl) ?_
        refine aw_iload_n (pc := 10) X d_Ex_chosen_10 (by rfl) ?_
        refine aw_iconstN (pc := 11) X 1 d_Ex_chosen_11 (by decide) ?_
        refine aw_iaddN (pc := 12) X d_Ex_chosen_12 ?_
        -- invokevirtual 13 lv=2:n,0:r,1:r st=n,n,r
        refine aw_callV (pc := 13) X _ (c_Ca_isSame (d := 3) (x := b) (y := b + 1) (by omega) (by omega) (by omega) (by omega) (by omega) c2 c1 c4 c3) q_Ca_isSame k_779 k_780 k_781 (by omega) c11 (by rfl) d_Ex_chosen_13 (by omega) (Nat.le_of_ble_eq_true rfl) ⟨by omega, by omega⟩ (fun h => by cases h) (fun r w2 nx2 hp => ?_)
        obtain ⟨rfl, rfl, rfl⟩ := hp
        rw [c6', c6']
        have hbl := bN_lt (decide (argOf ar b = argOf ar (b + 1)))
        rw [chosen] at hr
        refine aw_if_neN (pc := 16) X (tgt := 41) d_Ex_chosen_16 (by rfl) (by omega) (fun h16 => ?_) (fun h16 => ?_)
        -- br 16 lv=2:n,0:r,1:r st=
        · rw [if_pos (of_decide_eq_true (bN_ne.mp h16))] at hr
          refine aw_iload_n (pc := 41) X d_Ex_chosen_41 (by rfl) ?_
          refine aw_iconstN (pc := 42) X 2 d_Ex_chosen_42 (by decide) ?_
          refine aw_iaddN (pc := 43) X d_Ex_chosen_43 ?_
          refine aw_iret Y X rfl d_Ex_chosen_44 (by omega) (by omega) (hP _ _ _ ?_)
          -- ret 44 lv=2:n,0:r,1:r st=n
          exact ⟨rfl, rfl, by rw [← hr]⟩
        · rw [if_neg (of_decide_eq_false (bN_eq.mp h16))] at hr
          refine aw_aload_nR (pc := 19) X d_Ex_chosen_19 (by rfl) ?_
          refine aw_getNO (pc := 20) X _ 3 (by omega) (by (repeat (first | rw [aw_up_eq] | rw [aw_up_ne _ _ (by first | assumption | omega)])) <;> first | assumption | rfl) (by rfl) in_Ca (by decide) k_286 (by rfl) d_Ex_chosen_20 ?_
          refine aw_iload_n (pc := 23) X d_Ex_chosen_23 (by rfl) ?_
          -- stop 24 lv=2:n,0:r,1:r st=n,n
          refine aw_isub (pc := 24) X d_Ex_chosen_24 ?_
          refine aw_iconstN (pc := 25) X 1 d_Ex_chosen_25 (by decide) ?_
          refine aw_iadd (pc := 26) X d_Ex_chosen_26 ?_
          refine aw_iconstN (pc := 27) X 5 d_Ex_chosen_27 (by decide) ?_
          have hcmp : nI 5 ≤ nI ar.length - nI b + nI 1 ↔ ¬ ar.length + 1 < 5 + b := by
            have e1 : (nI ar.length - nI b + nI 1).toInt = (ar.length : Int) - b + 1 := by
              have q1 : (nI ar.length - nI b).toInt = (ar.length : Int) - b := pk_sub_toInt (by omega) (by omega)
              rw [Int32.toInt_add, q1, nI_toInt (by omega)]
              rw [Int.bmod_eq_of_le (by omega) (by omega)]
              omega
            rw [Int32.le_iff_toInt_le, e1, nI_toInt (by omega)]
            omega
          refine aw_icmp_ge (pc := 28) X (tgt := 35) d_Ex_chosen_28 (by rfl) (fun h28 => ?_) (fun h28 => ?_)
          · rw [if_neg (hcmp.mp h28)] at hr
            refine aw_iincN (pc := 35) X 3 (lv' := [(2, _), (0, _), (1, _)]) d_Ex_chosen_35 (by rfl) (by decide) (by decide) (by rfl) ?_
            refine aw_goto (pc := 38) X (tgt := 2) d_Ex_chosen_38 (by rfl) ?_
            -- stop 2 lv=2:n,0:r,1:r st=
            exact ih (b + 3) (by omega) (by omega) hr
          · rw [if_pos (Classical.not_not.mp (fun z => h28 (hcmp.mpr z)))] at hr
            refine aw_iload_n (pc := 31) X d_Ex_chosen_31 (by rfl) ?_
            refine aw_iconstN (pc := 32) X 3 d_Ex_chosen_32 (by decide) ?_
            refine aw_iaddN (pc := 33) X d_Ex_chosen_33 ?_
            refine aw_iret Y X rfl d_Ex_chosen_34 (by omega) (by omega) (hP _ _ _ ?_)
            -- ret 34 lv=2:n,0:r,1:r st=n
            exact ⟨rfl, rfl, by rw [← hr]⟩
  refine aw_iconstN (pc := 0) X 1 d_Ex_chosen_0 (by decide) ?_
  refine aw_istore_n (pc := 1) X (lv' := [(2, _), (0, _), (1, _)]) d_Ex_chosen_1 (by decide) (by rfl) ?_
  -- stop 2 lv=2:n,0:r,1:r st=
  exact L 3 1 (by omega) (by omega) rfl
end

