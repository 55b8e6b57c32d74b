/-! Expander.index, makePart, define, undivert -/
def idxS (ar : List (List Nat)) : Nat → Nat → Option Nat
  | 0, _ => none
  | k + 1, p => if p + (argOf ar 2).length ≤ (argOf ar 1).length then (if argOf ar 2 = ((argOf ar 1).drop p).take (argOf ar 2).length then some p else idxS ar k (p + 1)) else none
/-- a part of the first argument -/
def cutS (ar : List (List Nat)) : List Nat := if 0 ≤ valL (argOf ar 2) ∧ valL (argOf ar 2) < lN (argOf ar 1).length then ((argOf ar 1).drop (valL (argOf ar 2)).toInt.toNat).take (if ar.length < 3 then (argOf ar 1).length else (valL (argOf ar 3)).toInt.toNat) else []
def defB (T : List Def) (ar : List (List Nat)) (o : Option Nat) : Nat × List Def := match o with
  | some i => (0, T.set i (argOf ar 1, 0, argOf ar 2))
  | none => if 60 ≤ T.length then (2, T) else (0, T ++ [(argOf ar 1, 0, argOf ar 2)])
def defS (T : List Def) (ar : List (List Nat)) (top : Bool) : Nat × List Def :=
  if isNm (argOf ar 1) = false then (0, T) else if 12 < (argOf ar 1).length ∨ 100 < (argOf ar 2).length then (2, T)
  else defB T ar (if top = true then none else tfind T (argOf ar 1))
def undS (p : Option Nat) (R : Nat → List Nat) (ar : List (List Nat)) : Bool × (Nat → List Nat) :=
  if ar.length = 0 then pourAllS R p else if 1 ≤ valL (argOf ar 1) ∧ valL (argOf ar 1) < 4 then pourS R (valL (argOf ar 1)).toInt.toNat p else (true, R)
def e2 (b : Bool) : Nat := cond b 0 2
theorem tfd_name {T : List Def} {s : List Nat} : ∀ {i k : Nat}, tfd T s i = some k → (T[k]?).map (fun t => t.1) = some s
  | 0, k, h => by cases h
  | i + 1, k, h => by
    unfold tfd at h
    split at h
    · cases h; assumption
    · exact tfd_name h
section
variable {G : aw_G} {nx d : Nat} {w : Nat → va_E}
theorem s_Ex_index {a : Nat} {t : Def} {ar : List (List Nat)} (hnx : 418 ≤ nx) (hd : 3 ≤ d) (ha : 321 ≤ a ∧ a + 7 ≤ 412) (h : hRdy G w a t ar) : AC G y_Ex_index b_Ex_index 3 (some .int) d false [rf G 412, rf G a] nx w 0 0 (fun r w' nx' => nx' = nx ∧ w' = w ∧ r = some (.int (pV (idxS ar 402 0)))) := by
  obtain ⟨st, gg, dp, bg, c1, c2, c3, c4, c5, c6⟩ := h
  have c11 := c1.1
  have c6' : ∀ i, argL gg st ar.length i = argOf ar i := c6
  have hn9 := c2.1
  have f1 := c2.ft 1
  have f2 := c2.ft 2
  have l1 : too st ar.length 1 - frm st ar.length 1 = (argOf ar 1).length := by rw [← c6', argL_len]
  have l2 : too st ar.length 2 - frm st ar.length 2 = (argOf ar 2).length := by rw [← c6', argL_len]
  refine AC.ofW (by decide) (Nat.le_of_ble_eq_true rfl) ?_
  intro E P hP Y X
  have X : aw_X G "RescanDesk$Expander" b_Ex_index 3 (some .int) "index" _ _ _ _ _ E := X
  refine AW.eql (lv' := [(0, _), (1, _)]) (by rfl) ?_
  have L : ∀ (k p : Nat), p + k = 402 → p ≤ 401 → idxS ar k p = idxS ar 402 0 → AW G E 3 nx 0 0 w 2 [(2, .int (nI p)), (0, rf G 412), (1, rf G a)] [] := by
    intro k
    induction k with
    | zero =>
      intro p hp0 hp1 hr
      omega
    | succ k ih =>
      intro p hp0 hp1 hr
      have hcmp : nI (argOf ar 1).length - nI (argOf ar 2).length < nI p ↔ ¬ p + (argOf ar 2).length ≤ (argOf ar 1).length := by
        rw [Int32.lt_iff_toInt_lt, pk_sub_toInt (by omega) (by omega), nI_toInt (by omega)]
        omega
      refine aw_iload_n (pc := 2) X d_Ex_index_2 (by rfl) ?_
      refine aw_aload_nR (pc := 3) X d_Ex_index_3 (by rfl) ?_
      refine aw_iconstN (pc := 4) X 1 d_Ex_index_4 (by decide) ?_
      -- invokevirtual 5 lv=2:n,0:r,1:r st=n,r,n
      refine aw_callV (pc := 5) X _ (c_Ca_length (d := 1) (by omega) (by omega) (by omega) c2 c1) q_Ca_length k_667 k_668 k_669 (by omega) c11 (by rfl) d_Ex_index_5 (by omega) (Nat.le_of_ble_eq_true rfl) ⟨by omega, by omega⟩ (fun h => by cases h) (fun r w2 nx2 hp => ?_)
      obtain ⟨rfl, rfl, rfl⟩ := hp
      refine aw_aload_nR (pc := 8) X d_Ex_index_8 (by rfl) ?_
      refine aw_iconstN (pc := 9) X 2 d_Ex_index_9 (by decide) ?_
      -- invokevirtual 10 lv=2:n,0:r,1:r st=n,r,n,n
      refine aw_callV (pc := 10) X _ (c_Ca_length (d := 1) (by omega) (by omega) (by omega) c2 c1) q_Ca_length k_667 k_668 k_669 (by omega) c11 (by rfl) d_Ex_index_10 (by omega) (Nat.le_of_ble_eq_true rfl) ⟨by omega, by omega⟩ (fun h => by cases h) (fun r w2 nx2 hp => ?_)
      obtain ⟨rfl, rfl, rfl⟩ := hp
      rw [l1, l2]
      refine aw_isub (pc := 13) X d_Ex_index_13 ?_
      rw [idxS] at hr
      refine aw_icmp_gt (pc := 14) X (tgt := 35) d_Ex_index_14 (by rfl) (fun h14 => ?_) (fun h14 => ?_)
      · rw [if_neg (hcmp.mp h14)] at hr
        refine aw_iconst (pc := 35) X (v := -1) d_Ex_index_35 (by decide) ?_
        refine aw_iret Y X rfl d_Ex_index_36 (by omega) (by omega) (hP _ _ _ ?_)
        -- ret 36 lv=2:n,0:r,1:r st=i
        exact ⟨rfl, rfl, by rw [← hr]; rfl⟩
      · have hfit := Classical.not_not.mp (fun z => h14 (hcmp.mpr z))
        rw [if_pos hfit] at hr
        refine aw_aload_nR (pc := 17) X d_Ex_index_17 (by rfl) ?_
        refine aw_iconstN (pc := 18) X 2 d_Ex_index_18 (by decide) ?_
        refine aw_iconstN (pc := 19) X 1 d_Ex_index_19 (by decide) ?_
        refine aw_iload_n (pc := 20) X d_Ex_index_20 (by rfl) ?_
        -- invokevirtual 21 lv=2:n,0:r,1:r st=n,n,n,r
        refine aw_callV (pc := 21) X _ (c_Ca_stands (d := 2) (x := 2) (y := 1) (p := p) (by omega) (by omega) (by omega) (by omega) (by omega) (by omega) c2 c1 c4 c3) q_Ca_stands k_802 k_785 k_786 (by omega) c11 (by rfl) d_Ex_index_21 (by omega) (Nat.le_of_ble_eq_true rfl) ⟨by omega, by omega⟩ (fun h => by cases h) (fun r w2 nx2 hp => ?_)
        obtain ⟨rfl, rfl, rfl⟩ := hp
        have hbl := bN_lt (stnd gg st ar.length 2 1 p)
        have hst : stnd gg st ar.length 2 1 p = decide (argOf ar 2 = ((argOf ar 1).drop p).take (argOf ar 2).length) := by
          unfold stnd
          rw [c6', c6']
          by_cases z : argOf ar 2 = ((argOf ar 1).drop p).take (argOf ar 2).length
          · rw [decide_eq_true ⟨hfit, z⟩, decide_eq_true z]
          · rw [decide_eq_false (fun y => z y.2), decide_eq_false z]
        rw [hst] at hbl ⊢
        refine aw_if_eqN (pc := 24) X (tgt := 29) d_Ex_index_24 (by rfl) (by omega) (fun h24 => ?_) (fun h24 => ?_)
        -- br 24 lv=2:n,0:r,1:r st=
        · rw [if_neg (of_decide_eq_false (bN_eq.mp h24))] at hr
          refine aw_iincN (pc := 29) X 1 (lv' := [(2, _), (0, _), (1, _)]) d_Ex_index_29 (by rfl) (by decide) (by decide) (by rfl) ?_
          refine aw_goto (pc := 32) X (tgt := 2) d_Ex_index_32 (by rfl) ?_
          -- stop 2 lv=2:n,0:r,1:r st=
          exact ih (p + 1) (by omega) (by omega) hr
        · rw [if_pos (of_decide_eq_true (bN_ne.mp h24))] at hr
          refine aw_iload_n (pc := 27) X d_Ex_index_27 (by rfl) ?_
          refine aw_iret Y X rfl d_Ex_index_28 (by omega) (by omega) (hP _ _ _ ?_)
          -- ret 28 lv=2:n,0:r,1:r st=n
          exact ⟨rfl, rfl, by rw [← hr]; rfl⟩
  refine aw_iconstN (pc := 0) X 0 d_Ex_index_0 (by decide) ?_
  refine aw_istore_n (pc := 1) X (lv' := [(2, _), (0, _), (1, _)]) d_Ex_index_1 (by decide) (by rfl) ?_
  -- stop 2 lv=2:n,0:r,1:r st=
  exact L 402 0 (by omega) (by omega) rfl
theorem s_Ex_makePart {a : Nat} {t : Def} {ar : List (List Nat)} {s : List Nat} (hnx : 418 ≤ nx) (hd : 3 ≤ d) (ha : 321 ≤ a ∧ a + 7 ≤ 412) (he : hEx w G) (hs : hTx G w 416 601 s) (h : hRdy G w a t ar) : AC G y_Ex_makePart b_Ex_makePart 8 none d false [rf G 412, rf G a] nx w 0 0 (fun r w' nx' => nx' = nx ∧ r = none ∧ hTx G w' 416 601 ((s ++ cutS ar).take 601) ∧ fr 416 418 w w') := by
  obtain ⟨st, gg, dp, bg, c1, c2, c3, c4, c5, c6⟩ := h
  have c11 := c1.1
  have c1' : w a = aObj 7 [rf G (a + 1), rf G 319, rf G (a + 6), .int (nI ar.length), .int (nI dp), .int (nI (bN bg))] := c11
  have he' : w 412 = aObj 8 [rf G 3, rf G 5, rf G 15, rf G 413, rf G 416] := he
  have c6' : ∀ i, argL gg st ar.length i = argOf ar i := c6
  have hn9 := c2.1
  have f1 := c2.ft 1
  have l1 : too st ar.length 1 - frm st ar.length 1 = (argOf ar 1).length := by rw [← c6', argL_len]
  have hnil : (s ++ []).take 601 = s := by rw [List.append_nil, List.take_of_length_le hs.le]
  refine AC.ofW (by decide) (Nat.le_of_ble_eq_true rfl) ?_
  intro E P hP Y X
  have X : aw_X G "RescanDesk$Expander" b_Ex_makePart 8 none "makePart" _ _ _ _ _ E := X
  refine AW.eql (lv' := [(0, _), (1, _)]) (by rfl) ?_
  refine aw_aload_nR (pc := 0) X d_Ex_makePart_0 (by rfl) ?_
  refine aw_iconstN (pc := 1) X 2 d_Ex_makePart_1 (by decide) ?_
  -- invokevirtual 2 lv=0:r,1:r st=n,r
  refine aw_callV (pc := 2) X _ (c_Ca_value (d := 2) (i := 2) (by omega) (by omega) (by omega) (by omega) c2 c1 c4 c3) q_Ca_value k_699 k_700 k_701 (by omega) c11 (by rfl) d_Ex_makePart_2 (by omega) (Nat.le_of_ble_eq_true rfl) ⟨by omega, by omega⟩ (fun h => by cases h) (fun r w2 nx2 hp => ?_)
  obtain ⟨rfl, rfl, rfl⟩ := hp
  rw [c6']
  refine aw_lstore_n (pc := 5) X (lv' := [(2, _), (0, _), (1, _)]) d_Ex_makePart_5 (by decide) (by rfl) ?_
  refine aw_aload_nR (pc := 6) X d_Ex_makePart_6 (by rfl) ?_
  refine aw_iconstN (pc := 7) X 1 d_Ex_makePart_7 (by decide) ?_
  -- invokevirtual 8 lv=2:l,0:r,1:r st=n,r
  refine aw_callV (pc := 8) X _ (c_Ca_length (d := 1) (i := 1) (by omega) (by omega) (by omega) c2 c1) q_Ca_length k_667 k_668 k_669 (by omega) c11 (by rfl) d_Ex_makePart_8 (by omega) (Nat.le_of_ble_eq_true rfl) ⟨by omega, by omega⟩ (fun h => by cases h) (fun r w2 nx2 hp => ?_)
  obtain ⟨rfl, rfl, rfl⟩ := hp
  rw [l1]
  generalize hpl : valL (argOf ar 2) = pl
  refine aw_istore (pc := 11) X (lv' := [(4, _), (2, _), (0, _), (1, _)]) d_Ex_makePart_11 (by decide) (by rfl) ?_
  refine aw_lload_n (pc := 13) X d_Ex_makePart_13 (by rfl) ?_
  refine aw_lconst (pc := 14) X (v := 0) d_Ex_makePart_14 (by decide) ?_
  refine aw_lcmp (pc := 15) X d_Ex_makePart_15 ?_
  refine aw_if_lt (pc := 16) X (tgt := 27) d_Ex_makePart_16 (by rfl) (fun h16 => ?_) (fun h16 => ?_)
  -- br 16 lv=4:n,2:l,0:r,1:r st=
  · have z : ¬ 0 ≤ pl := Int64.not_le.mpr ((lg_lt0 _ _).mp h16)
    refine aw_vret Y X rfl d_Ex_makePart_27 (by omega) (by omega) (hP _ _ _ ?_)
    -- ret 27 lv=4:n,2:l,0:r,1:r st=
    rw [cutS, hpl, if_neg (fun y => z y.1), hnil]
    exact ⟨rfl, rfl, hs, fr.refl _ _ _⟩
  · have z : 0 ≤ pl := Int64.not_lt.mp (fun y => h16 ((lg_lt0 _ _).mpr y))
    refine aw_lload_n (pc := 19) X d_Ex_makePart_19 (by rfl) ?_
    refine aw_iload (pc := 20) X d_Ex_makePart_20 (by rfl) ?_
    refine aw_i2lN (pc := 22) X d_Ex_makePart_22 (by omega) ?_
    refine aw_lcmp (pc := 23) X d_Ex_makePart_23 ?_
    refine aw_if_lt (pc := 24) X (tgt := 28) d_Ex_makePart_24 (by rfl) (fun h24 => ?_) (fun h24 => ?_)
    -- br 24 lv=4:n,2:l,0:r,1:r st=
    · have z2 : pl < lN (argOf ar 1).length := (lg_lt0 _ _).mp h24
      have i1 : 0 ≤ pl.toInt := by simpa using Int64.le_iff_toInt_le.mp z
      have i2 : pl.toInt < (argOf ar 1).length := by have := Int64.lt_iff_toInt_lt.mp z2; rwa [pk_lT (by omega)] at this
      have e1 : pl = lN pl.toInt.toNat := Int64.toInt_inj.mp (by rw [lN_toInt (by omega)]; omega)
      have hc : cutS ar = ((argOf ar 1).drop pl.toInt.toNat).take (if ar.length < 3 then (argOf ar 1).length else (valL (argOf ar 3)).toInt.toNat) := by rw [cutS, hpl, if_pos ⟨z, z2⟩]
      generalize hk : pl.toInt.toNat = k at e1 hc
      have hk2 : k < (argOf ar 1).length := by omega
      subst e1
      have hnn : ¬ lN ((argOf ar 1).length - k) < 0 := fun y => by
        have q := Int64.lt_iff_toInt_lt.mp y
        rw [pk_lT (by omega)] at q
        have e0 : (0 : Int64).toInt = 0 := by decide
        omega
      have J : ∀ (m : Int64) (n : Nat), n ≤ (argOf ar 1).length - k → (if m < 0 then (0 : Int64) else m) = lN n → cutS ar = ((argOf ar 1).drop k).take n → AW G E 8 nx2 0 0 w2 55 [(5, .long m), (4, .int (nI (argOf ar 1).length)), (2, .long (lN k)), (0, rf G 412), (1, rf G a)] [] := by
        intro m n hn hm hcm
        refine aw_aload_nR (pc := 55) X d_Ex_makePart_55 (by rfl) ?_
        refine aw_iconstN (pc := 56) X 1 d_Ex_makePart_56 (by decide) ?_
        -- invokevirtual 57 lv=5:l,4:n,2:l,0:r,1:r st=n,r
        refine aw_callV (pc := 57) X _ (c_Ca_from (d := 0) (i := 1) (by omega) (by omega) c2 c1) q_Ca_from k_627 k_628 k_629 (by omega) c11 (by rfl) d_Ex_makePart_57 (by omega) (Nat.le_of_ble_eq_true rfl) ⟨by omega, by omega⟩ (fun h => by cases h) (fun r w2 nx2 hp => ?_)
        obtain ⟨rfl, rfl, rfl⟩ := hp
        refine aw_lload_n (pc := 60) X d_Ex_makePart_60 (by rfl) ?_
        refine aw_l2i (pc := 61) X d_Ex_makePart_61 ?_
        -- stop 62 lv=5:l,4:n,2:l,0:r,1:r st=i,n
        rw [lN_i]
        refine aw_iaddN (pc := 62) X d_Ex_makePart_62 ?_
        refine aw_istore (pc := 63) X (lv' := [(7, _), (5, _), (4, _), (2, _), (0, _), (1, _)]) d_Ex_makePart_63 (by decide) (by rfl) ?_
        refine aw_aload_nR (pc := 65) X d_Ex_makePart_65 (by rfl) ?_
        refine aw_getO (pc := 66) X _ 4 (by omega) (by (repeat (first | rw [aw_up_eq] | rw [aw_up_ne _ _ (by first | assumption | omega)])) <;> first | assumption | rfl) (by rfl) in_Ex (by decide) k_360 (by rfl) d_Ex_makePart_66 ?_
        refine aw_aload_nR (pc := 69) X d_Ex_makePart_69 (by rfl) ?_
        refine aw_getNO (pc := 70) X _ 1 (by omega) (by (repeat (first | rw [aw_up_eq] | rw [aw_up_ne _ _ (by first | assumption | omega)])) <;> first | assumption | rfl) (by rfl) in_Ca (by decide) k_282 (by rfl) d_Ex_makePart_70 ?_
        refine aw_iload (pc := 73) X d_Ex_makePart_73 (by rfl) ?_
        refine aw_iload (pc := 75) X d_Ex_makePart_75 (by rfl) ?_
        refine aw_lload (pc := 77) X d_Ex_makePart_77 (by rfl) ?_
        refine aw_lconst (pc := 79) X (v := 0) d_Ex_makePart_79 (by decide) ?_
        -- stop 80 lv=7:n,5:l,4:n,2:l,0:r,1:r st=l,l,n,n,r,r
        refine aw_mmaxL (pc := 80) X k_795 k_796 k_85 k_797 (by omega) (Nat.le_trans (m := 24) (Nat.le_of_ble_eq_true rfl) (by omega)) (by omega) (by omega) d_Ex_makePart_80 ?_
        have hmx : (if (0 : Int64) < m then m else 0) = lN n := by
          rw [← hm]
          by_cases y1 : m < 0
          · rw [if_pos y1, if_neg (fun y2 => Int64.lt_irrefl (Int64.lt_trans y1 y2))]
          · by_cases y2 : 0 < m
            · rw [if_pos y2, if_neg y1]
            · rw [if_neg y2, if_neg y1]
              exact Int64.le_antisymm (Int64.not_lt.mp y1) (Int64.not_lt.mp y2)
        rw [hmx]
        refine aw_l2i (pc := 83) X d_Ex_makePart_83 ?_
        rw [lN_i]
        refine aw_iaddN (pc := 84) X d_Ex_makePart_84 ?_
        -- invokevirtual 85 lv=7:n,5:l,4:n,2:l,0:r,1:r st=n,n,r,r
        refine aw_callV (pc := 85) X _ (s_Tx_addPart (d := 1) (a := 416) (m := 601) (q := 319) (l := 400) (f := gg) (u := frm st ar.length 1 + k) (v := frm st ar.length 1 + k + n) (by omega) (by omega) (by omega) (by omega) (by omega) (by omega) (by omega) c4 hs c3) q_Tx_addPart k_621 k_547 k_548 (by omega) hs.obj (by rfl) d_Ex_makePart_85 (by omega) (Nat.le_of_ble_eq_true rfl) ⟨by omega, by omega⟩ (fun h => by cases h) (fun r w3 nx3 hp => ?_)
        obtain ⟨rfl, rfl, h4, hf4⟩ := hp
        refine aw_pop (pc := 88) X d_Ex_makePart_88 (by rfl) ?_
        refine aw_vret Y X rfl d_Ex_makePart_89 (by omega) (by omega) (hP _ _ _ ?_)
        -- ret 89 lv=7:n,5:l,4:n,2:l,0:r,1:r st=
        refine ⟨rfl, rfl, ?_, hf4⟩
        have e5 : cutS ar = sl gg (frm st ar.length 1 + k) (frm st ar.length 1 + k + n - (frm st ar.length 1 + k)) := by
          rw [hcm, ← c6', argL, sl_drop _ _ _ _ (by omega), sl_take _ _ _ _ (by omega)]
          congr 1
          omega
        rw [e5]
        exact h4
      refine aw_iload (pc := 28) X d_Ex_makePart_28 (by rfl) ?_
      refine aw_i2lN (pc := 30) X d_Ex_makePart_30 (by omega) ?_
      refine aw_lload_n (pc := 31) X d_Ex_makePart_31 (by rfl) ?_
      -- stop 32 lv=4:n,2:l,0:r,1:r st=l,l
      refine aw_lsub (pc := 32) X d_Ex_makePart_32 ?_
      rw [lN_sub (by omega)]
      refine aw_lstore (pc := 33) X (lv' := [(5, _), (4, _), (2, _), (0, _), (1, _)]) d_Ex_makePart_33 (by decide) (by rfl) ?_
      refine aw_aload_nR (pc := 35) X d_Ex_makePart_35 (by rfl) ?_
      refine aw_getNO (pc := 36) X _ 3 (by omega) (by (repeat (first | rw [aw_up_eq] | rw [aw_up_ne _ _ (by first | assumption | omega)])) <;> first | assumption | rfl) (by rfl) in_Ca (by decide) k_286 (by rfl) d_Ex_makePart_36 ?_
      refine aw_iconstN (pc := 39) X 3 d_Ex_makePart_39 (by decide) ?_
      refine aw_icmp_ltN (pc := 40) X (tgt := 55) d_Ex_makePart_40 (by rfl) (by omega) (by omega) (fun h40 => ?_) (fun h40 => ?_)
      -- br 40 lv=5:l,4:n,2:l,0:r,1:r st=
      · refine J _ ((argOf ar 1).length - k) (Nat.le_refl _) ?_ ?_
        · rw [if_neg hnn]
        · rw [hc, if_pos h40, List.take_of_length_le (by simp), List.take_of_length_le (by simp)]
      · refine aw_lload (pc := 43) X d_Ex_makePart_43 (by rfl) ?_
        refine aw_aload_nR (pc := 45) X d_Ex_makePart_45 (by rfl) ?_
        refine aw_iconstN (pc := 46) X 3 d_Ex_makePart_46 (by decide) ?_
        -- invokevirtual 47 lv=5:l,4:n,2:l,0:r,1:r st=n,r,l
        refine aw_callV (pc := 47) X _ (c_Ca_value (d := 2) (i := 3) (by omega) (by omega) (by omega) (by omega) c2 c1 c4 c3) q_Ca_value k_699 k_700 k_701 (by omega) c11 (by rfl) d_Ex_makePart_47 (by omega) (Nat.le_of_ble_eq_true rfl) ⟨by omega, by omega⟩ (fun h => by cases h) (fun r w2 nx2 hp => ?_)
        obtain ⟨rfl, rfl, rfl⟩ := hp
        rw [c6']
        generalize hv3 : valL (argOf ar 3) = v3
        rw [hv3, if_neg (by omega)] at hc
        refine aw_mminL (pc := 50) X k_792 k_793 k_85 k_794 (by omega) (Nat.le_trans (m := 24) (Nat.le_of_ble_eq_true rfl) (by omega)) (by omega) (by omega) d_Ex_makePart_50 ?_
        refine aw_lstore (pc := 53) X (lv' := [(5, _), (4, _), (2, _), (0, _), (1, _)]) d_Ex_makePart_53 (by decide) (by rfl) ?_
        -- stop 55 lv=5:l,4:n,2:l,0:r,1:r st=
        refine AW.lsub [0, 1, 2, 3, 4] (by rfl) ?_
        by_cases y1 : v3 < lN ((argOf ar 1).length - k)
        · rw [if_pos y1]
          have j1 : v3.toInt < (((argOf ar 1).length - k : Nat) : Int) := by have := Int64.lt_iff_toInt_lt.mp y1; rwa [pk_lT (by omega)] at this
          refine J _ v3.toInt.toNat (by omega) ?_ hc
          by_cases y2 : v3 < 0
          · have j2 : v3.toInt < 0 := by simpa using Int64.lt_iff_toInt_lt.mp y2
            rw [if_pos y2, show v3.toInt.toNat = 0 by omega]
            decide
          · have j2 : 0 ≤ v3.toInt := by simpa using Int64.le_iff_toInt_le.mp (Int64.not_lt.mp y2)
            rw [if_neg y2]
            exact Int64.toInt_inj.mp (by rw [lN_toInt (by omega)]; omega)
        · rw [if_neg y1]
          have j1 : (((argOf ar 1).length - k : Nat) : Int) ≤ v3.toInt := by have := Int64.le_iff_toInt_le.mp (Int64.not_lt.mp y1); rwa [pk_lT (by omega)] at this
          refine J _ ((argOf ar 1).length - k) (Nat.le_refl _) ?_ ?_
          · rw [if_neg hnn]
          · rw [hc, List.take_of_length_le (by rw [List.length_drop]; omega), List.take_of_length_le (by simp)]
    · have z2 : ¬ pl < lN (argOf ar 1).length := fun y => h24 ((lg_lt0 _ _).mpr y)
      refine aw_vret Y X rfl d_Ex_makePart_27 (by omega) (by omega) (hP _ _ _ ?_)
      -- ret 27 lv=4:n,2:l,0:r,1:r st=
      rw [cutS, hpl, if_neg (fun y => z2 y.2), hnil]
      exact ⟨rfl, rfl, hs, fr.refl _ _ _⟩
theorem s_Ex_undivert {a : Nat} {t : Def} {ar : List (List Nat)} {p : Option Nat} {R : Nat → List Nat} (hnx : 418 ≤ nx) (hd : 4 ≤ d) (ha : 321 ≤ a ∧ a + 7 ≤ 412) (he : hEx w G) (hR : hRo G w p R) (h : hRdy G w a t ar) : AC G y_Ex_undivert b_Ex_undivert 4 (some .int) d false [rf G 412, rf G a] nx w 0 0 (fun r w' nx' => nx' = nx ∧ r = some (.int (nI (e2 (undS p R ar).1))) ∧ hRo G w' p (undS p R ar).2 ∧ fr 5 15 w w') := by
  obtain ⟨st, gg, dp, bg, c1, c2, c3, c4, c5, c6⟩ := h
  have c11 := c1.1
  have c1' : w a = aObj 7 [rf G (a + 1), rf G 319, rf G (a + 6), .int (nI ar.length), .int (nI dp), .int (nI (bN bg))] := c11
  have he' : w 412 = aObj 8 [rf G 3, rf G 5, rf G 15, rf G 413, rf G 416] := he
  have c6' : ∀ i, argL gg st ar.length i = argOf ar i := c6
  have hn9 := c2.1
  have r5 := hR.1
  refine AC.ofW (by decide) (Nat.le_of_ble_eq_true rfl) ?_
  intro E P hP Y X
  have X : aw_X G "RescanDesk$Expander" b_Ex_undivert 4 (some .int) "undivert" _ _ _ _ _ E := X
  refine AW.eql (lv' := [(0, _), (1, _)]) (by rfl) ?_
  refine aw_aload_nR (pc := 0) X d_Ex_undivert_0 (by rfl) ?_
  refine aw_getNO (pc := 1) X _ 3 (by omega) (by (repeat (first | rw [aw_up_eq] | rw [aw_up_ne _ _ (by first | assumption | omega)])) <;> first | assumption | rfl) (by rfl) in_Ca (by decide) k_286 (by rfl) d_Ex_undivert_1 ?_
  refine aw_if_neN (pc := 4) X (tgt := 30) d_Ex_undivert_4 (by rfl) (by omega) (fun h4 => ?_) (fun h4 => ?_)
  -- br 4 lv=0:r,1:r st=
  · refine aw_aload_nR (pc := 30) X d_Ex_undivert_30 (by rfl) ?_
    refine aw_iconstN (pc := 31) X 1 d_Ex_undivert_31 (by decide) ?_
    -- invokevirtual 32 lv=0:r,1:r st=n,r
    refine aw_callV (pc := 32) X _ (c_Ca_value (d := 2) (i := 1) (by omega) (by omega) (by omega) (by omega) c2 c1 c4 c3) q_Ca_value k_699 k_700 k_701 (by omega) c11 (by rfl) d_Ex_undivert_32 (by omega) (Nat.le_of_ble_eq_true rfl) ⟨by omega, by omega⟩ (fun h => by cases h) (fun r w2 nx2 hp => ?_)
    obtain ⟨rfl, rfl, rfl⟩ := hp
    rw [c6']
    generalize hv : valL (argOf ar 1) = v
    refine aw_lstore_n (pc := 35) X (lv' := [(2, _), (0, _), (1, _)]) d_Ex_undivert_35 (by decide) (by rfl) ?_
    refine aw_lload_n (pc := 36) X d_Ex_undivert_36 (by rfl) ?_
    refine aw_lconst (pc := 37) X (v := 1) d_Ex_undivert_37 (by decide) ?_
    refine aw_lcmp (pc := 38) X d_Ex_undivert_38 ?_
    refine aw_if_lt (pc := 39) X (tgt := 50) d_Ex_undivert_39 (by rfl) (fun h39 => ?_) (fun h39 => ?_)
    -- br 39 lv=2:l,0:r,1:r st=
    · have z : ¬ 1 ≤ v := Int64.not_le.mpr ((lg_lt0 _ _).mp h39)
      have e : undS p R ar = (true, R) := by rw [undS, if_neg h4, hv, if_neg (fun y => z y.1)]
      refine aw_iconstN (pc := 50) X 0 d_Ex_undivert_50 (by decide) ?_
      refine aw_iret Y X rfl d_Ex_undivert_51 (by omega) (by omega) (hP _ _ _ ?_)
      -- ret 51 lv=2:l,0:r,1:r st=n
      rw [e]
      exact ⟨rfl, rfl, hR, fr.refl _ _ _⟩
    · have z : 1 ≤ v := Int64.not_lt.mp (fun y => h39 ((lg_lt0 _ _).mpr y))
      refine aw_lload_n (pc := 42) X d_Ex_undivert_42 (by rfl) ?_
      refine aw_ldc2 (pc := 43) X k_729 d_Ex_undivert_43 ?_
      refine aw_lcmp (pc := 46) X d_Ex_undivert_46 ?_
      refine aw_if_lt (pc := 47) X (tgt := 52) d_Ex_undivert_47 (by rfl) (fun h47 => ?_) (fun h47 => ?_)
      -- br 47 lv=2:l,0:r,1:r st=
      · have z2 : v < 4 := (lg_lt0 _ _).mp h47
        have e : undS p R ar = pourS R v.toInt.toNat p := by rw [undS, if_neg h4, hv, if_pos ⟨z, z2⟩]
        have i1 : 1 ≤ v.toInt := by simpa using Int64.le_iff_toInt_le.mp z
        have i2 : v.toInt < 4 := by simpa using Int64.lt_iff_toInt_lt.mp z2
        have e1 : v.toInt32 = nI v.toInt.toNat := by
          have q : v = lN v.toInt.toNat := Int64.toInt_inj.mp (by rw [lN_toInt (by omega)]; omega)
          conv => lhs; rw [q]
          exact lN_i _
        refine aw_aload_nR (pc := 52) X d_Ex_undivert_52 (by rfl) ?_
        refine aw_getO (pc := 53) X _ 1 (by omega) (by (repeat (first | rw [aw_up_eq] | rw [aw_up_ne _ _ (by first | assumption | omega)])) <;> first | assumption | rfl) (by rfl) in_Ex (by decide) k_357 (by rfl) d_Ex_undivert_53 ?_
        refine aw_lload_n (pc := 56) X d_Ex_undivert_56 (by rfl) ?_
        refine aw_l2i (pc := 57) X d_Ex_undivert_57 ?_
        -- stop 58 lv=2:l,0:r,1:r st=i,r
        rw [e1]
        refine aw_aload_nR (pc := 58) X d_Ex_undivert_58 (by rfl) ?_
        refine aw_getO (pc := 59) X _ 1 (by omega) (by (repeat (first | rw [aw_up_eq] | rw [aw_up_ne _ _ (by first | assumption | omega)])) <;> first | assumption | rfl) (by rfl) in_Ex (by decide) k_357 (by rfl) d_Ex_undivert_59 ?_
        refine aw_getNO (pc := 62) X _ 1 (by omega) (by (repeat (first | rw [aw_up_eq] | rw [aw_up_ne _ _ (by first | assumption | omega)])) <;> first | assumption | rfl) (by rfl) in_Ro (by decide) k_154 (by rfl) d_Ex_undivert_62 ?_
        -- invokevirtual 65 lv=2:l,0:r,1:r st=i,n,r
        refine aw_callV (pc := 65) X _ (s_Ro_pour (d := 2) (p := p) (R := R) (t := p) (by omega) (by omega) (by omega) hR.2.2.2 hR) q_Ro_pour k_730 k_721 k_722 (by omega) r5 (by rfl) d_Ex_undivert_65 (by omega) (Nat.le_of_ble_eq_true rfl) ⟨by omega, by omega⟩ (fun h => by cases h) (fun r w2 nx2 hp => ?_)
        obtain ⟨rfl, rfl, h2, hf2⟩ := hp
        have hbl := bN_lt (pourS R v.toInt.toNat p).1
        refine aw_if_eqN (pc := 68) X (tgt := 75) d_Ex_undivert_68 (by rfl) (by omega) (fun h68 => ?_) (fun h68 => ?_)
        -- br 68 lv=2:l,0:r,1:r st=
        · have q := bN_eq.mp h68
          refine aw_iconstN (pc := 75) X 2 d_Ex_undivert_75 (by decide) ?_
          refine aw_iret Y X rfl d_Ex_undivert_76 (by omega) (by omega) (hP _ _ _ ?_)
          -- ret 76 lv=2:l,0:r,1:r st=n
          exact ⟨rfl, by rw [e, q]; rfl, by rw [e]; exact h2, hf2⟩
        · have q := bN_ne.mp h68
          refine aw_iconstN (pc := 71) X 0 d_Ex_undivert_71 (by decide) ?_
          refine aw_goto (pc := 72) X (tgt := 76) d_Ex_undivert_72 (by rfl) ?_
          refine aw_iret Y X rfl d_Ex_undivert_76 (by omega) (by omega) (hP _ _ _ ?_)
          -- ret 76 lv=2:l,0:r,1:r st=n
          exact ⟨rfl, by rw [e, q]; rfl, by rw [e]; exact h2, hf2⟩
      · have z2 : ¬ v < 4 := fun y => h47 ((lg_lt0 _ _).mpr y)
        have e : undS p R ar = (true, R) := by rw [undS, if_neg h4, hv, if_neg (fun y => z2 y.2)]
        refine aw_iconstN (pc := 50) X 0 d_Ex_undivert_50 (by decide) ?_
        refine aw_iret Y X rfl d_Ex_undivert_51 (by omega) (by omega) (hP _ _ _ ?_)
        -- ret 51 lv=2:l,0:r,1:r st=n
        rw [e]
        exact ⟨rfl, rfl, hR, fr.refl _ _ _⟩
  · have e : undS p R ar = pourAllS R p := by rw [undS, if_pos h4]
    refine aw_aload_nR (pc := 7) X d_Ex_undivert_7 (by rfl) ?_
    refine aw_getO (pc := 8) X _ 1 (by omega) (by (repeat (first | rw [aw_up_eq] | rw [aw_up_ne _ _ (by first | assumption | omega)])) <;> first | assumption | rfl) (by rfl) in_Ex (by decide) k_357 (by rfl) d_Ex_undivert_8 ?_
    refine aw_aload_nR (pc := 11) X d_Ex_undivert_11 (by rfl) ?_
    refine aw_getO (pc := 12) X _ 1 (by omega) (by (repeat (first | rw [aw_up_eq] | rw [aw_up_ne _ _ (by first | assumption | omega)])) <;> first | assumption | rfl) (by rfl) in_Ex (by decide) k_357 (by rfl) d_Ex_undivert_12 ?_
    refine aw_getNO (pc := 15) X _ 1 (by omega) (by (repeat (first | rw [aw_up_eq] | rw [aw_up_ne _ _ (by first | assumption | omega)])) <;> first | assumption | rfl) (by rfl) in_Ro (by decide) k_154 (by rfl) d_Ex_undivert_15 ?_
    -- invokevirtual 18 lv=0:r,1:r st=i,r
    refine aw_callV (pc := 18) X _ (s_Ro_pourAll (d := 3) (p := p) (R := R) (t := p) (by omega) (by omega) hR.2.2.2 hR) q_Ro_pourAll k_716 k_717 k_718 (by omega) r5 (by rfl) d_Ex_undivert_18 (by omega) (Nat.le_of_ble_eq_true rfl) ⟨by omega, by omega⟩ (fun h => by cases h) (fun r w2 nx2 hp => ?_)
    obtain ⟨rfl, rfl, h2, hf2⟩ := hp
    have hbl := bN_lt (pourAllS R p).1
    refine aw_if_eqN (pc := 21) X (tgt := 28) d_Ex_undivert_21 (by rfl) (by omega) (fun h21 => ?_) (fun h21 => ?_)
    -- br 21 lv=0:r,1:r st=
    · have q := bN_eq.mp h21
      refine aw_iconstN (pc := 28) X 2 d_Ex_undivert_28 (by decide) ?_
      refine aw_iret Y X rfl d_Ex_undivert_29 (by omega) (by omega) (hP _ _ _ ?_)
      -- ret 29 lv=0:r,1:r st=n
      exact ⟨rfl, by rw [e, q]; rfl, by rw [e]; exact h2, hf2⟩
    · have q := bN_ne.mp h21
      refine aw_iconstN (pc := 24) X 0 d_Ex_undivert_24 (by decide) ?_
      refine aw_goto (pc := 25) X (tgt := 29) d_Ex_undivert_25 (by rfl) ?_
      refine aw_iret Y X rfl d_Ex_undivert_29 (by omega) (by omega) (hP _ _ _ ?_)
      -- ret 29 lv=0:r,1:r st=n
      exact ⟨rfl, by rw [e, q]; rfl, by rw [e]; exact h2, hf2⟩
theorem s_Ex_define {a : Nat} {t : Def} {ar : List (List Nat)} {T : List Def} {top : Bool} (hnx : 418 ≤ nx) (hd : 4 ≤ d) (ha : 321 ≤ a ∧ a + 7 ≤ 412) (he : hEx w G) (hT : hTa G w T) (h : hRdy G w a t ar) : AC G y_Ex_define b_Ex_define 5 (some .int) d false [rf G 412, rf G a, .int (nI (bN top))] nx w 0 0 (fun r w' nx' => nx' = nx ∧ r = some (.int (nI (defS T ar top).1)) ∧ hTa G w' (defS T ar top).2 ∧ fr 15 317 w w') := by
  have h0 := h
  obtain ⟨st, gg, dp, bg, c1, c2, c3, c4, c5, c6⟩ := h
  have c11 := c1.1
  have c1' : w a = aObj 7 [rf G (a + 1), rf G 319, rf G (a + 6), .int (nI ar.length), .int (nI dp), .int (nI (bN bg))] := c11
  have he' : w 412 = aObj 8 [rf G 3, rf G 5, rf G 15, rf G 413, rf G 416] := he
  have c6' : ∀ i, argL gg st ar.length i = argOf ar i := c6
  have hn9 := c2.1
  have f1 := c2.ft 1
  have f2 := c2.ft 2
  have l1 : too st ar.length 1 - frm st ar.length 1 = (argOf ar 1).length := by rw [← c6', argL_len]
  have l2 : too st ar.length 2 - frm st ar.length 2 = (argOf ar 2).length := by rw [← c6', argL_len]
  have a1 : sl gg (frm st ar.length 1) (too st ar.length 1 - frm st ar.length 1) = argOf ar 1 := c6 1
  have a2 : sl gg (frm st ar.length 2) (too st ar.length 2 - frm st ar.length 2) = argOf ar 2 := c6 2
  obtain ⟨fa, g, hTP⟩ := id hT
  obtain ⟨b1, b2, b3, b4, b5, b6⟩ := id hTP
  have hbt := bN_lt top
  refine AC.ofW (by decide) (Nat.le_of_ble_eq_true rfl) ?_
  intro E P hP Y X
  have X : aw_X G "RescanDesk$Expander" b_Ex_define 5 (some .int) "define" _ _ _ _ _ E := X
  refine AW.eql (lv' := [(0, _), (1, _), (2, _)]) (by rfl) ?_
  -- the body is set, in a table that has the definition at place i
  have B : ∀ (w1 : Nat → va_E) (T1 : List Def) (i : Nat) (t1 : Def) (lv : List (Nat × Value)) (pl : Value), hTaP G w1 T1 fa g → fr 15 317 w w1 → T1[i]? = some t1 → (0, T1.set i (t1.1, 0, argOf ar 2)) = defS T ar top → (argOf ar 2).length ≤ 100 → AW G E 5 nx 0 0 w1 105 [(4, rf G (17 + 5 * g i)), (3, pl), (0, rf G 412), (1, rf G a), (2, .int (nI (bN top)))] [] := by
    intro w1 T1 i t1 lv pl q1 q2 q3 q4 q5
    have hi : i < T1.length := (List.getElem?_eq_some_iff.mp q3).1
    have gi := (q1.2.2.2.1 i (by have := q1.1; omega)).2
    have r1 := h0.keep ha (q2.mono (Nat.le_refl 15) (Nat.le_refl 317)) (by omega)
    have c1w : hCa G w1 a t st ar.length dp bg := c1.keep q2 (by omega)
    have c11w := c1w.1
    have c1w' : w1 a = aObj 7 [rf G (a + 1), rf G 319, rf G (a + 6), .int (nI ar.length), .int (nI dp), .int (nI (bN bg))] := c11w
    have c3w : w1 319 = aCh G 400 gg := (q2 _ (by omega)).trans c3
    have hde := q1.at q3
    refine aw_aloadR (pc := 105) X d_Ex_define_105 (by rfl) ?_
    refine aw_aload_nR (pc := 107) X d_Ex_define_107 (by rfl) ?_
    refine aw_getNO (pc := 108) X _ 1 (by omega) (by (repeat (first | rw [aw_up_eq] | rw [aw_up_ne _ _ (by first | assumption | omega)])) <;> first | assumption | rfl) (by rfl) in_Ca (by decide) k_282 (by rfl) d_Ex_define_108 ?_
    refine aw_aload_nR (pc := 111) X d_Ex_define_111 (by rfl) ?_
    refine aw_iconstN (pc := 112) X 2 d_Ex_define_112 (by decide) ?_
    -- invokevirtual 113 lv=4:r,3:v,0:r,1:r,2:n st=n,r,r,r
    refine aw_callV (pc := 113) X _ (c_Ca_from (d := 0) (i := 2) (by omega) (by omega) c2 c1w) q_Ca_from k_627 k_628 k_629 (by omega) c11w (by rfl) d_Ex_define_113 (by omega) (Nat.le_of_ble_eq_true rfl) ⟨by omega, by omega⟩ (fun h => by cases h) (fun r w2 nx2 hp => ?_)
    obtain ⟨rfl, rfl, rfl⟩ := hp
    refine aw_aload_nR (pc := 116) X d_Ex_define_116 (by rfl) ?_
    refine aw_iconstN (pc := 117) X 2 d_Ex_define_117 (by decide) ?_
    -- invokevirtual 118 lv=4:r,3:v,0:r,1:r,2:n st=n,r,n,r,r
    refine aw_callV (pc := 118) X _ (c_Ca_to (d := 0) (i := 2) (by omega) (by omega) c2 c1w) q_Ca_to k_631 k_632 k_633 (by omega) c11w (by rfl) d_Ex_define_118 (by omega) (Nat.le_of_ble_eq_true rfl) ⟨by omega, by omega⟩ (fun h => by cases h) (fun r w2 nx2 hp => ?_)
    obtain ⟨rfl, rfl, rfl⟩ := hp
    refine aw_callV (pc := 121) X _ (s_De_setBody (d := 3) (a := 17 + 5 * g i) (q := 319) (l := 400) (f := gg) (t := t1) (by omega) (by omega) (by omega) (by omega) (by omega) f2.1 f2.2 c4 hde c3w) q_De_setBody k_683 k_684 k_685 (by omega) hde.1 (by rfl) d_Ex_define_121 (by omega) (Nat.le_of_ble_eq_true rfl) ⟨by omega, by omega⟩ (fun h => by cases h) (fun r w3 nx3 hp => ?_)
    obtain ⟨rfl, rfl, h4, hf4⟩ := hp
    rw [a2, List.take_of_length_le q5] at h4
    refine aw_iconstN (pc := 124) X 0 d_Ex_define_124 (by decide) ?_
    refine aw_iret Y X rfl d_Ex_define_125 (by omega) (by omega) (hP _ _ _ ?_)
    -- ret 125 lv=4:r,3:v,0:r,1:r,2:n st=n
    rw [← q4]
    exact ⟨rfl, rfl, ⟨fa, g, q1.set hi h4 (Nat.zero_le _) hf4⟩, q2.trans (hf4.mono (by omega) (by omega))⟩
  refine aw_aload_nR (pc := 0) X d_Ex_define_0 (by rfl) ?_
  refine aw_getNO (pc := 1) X _ 1 (by omega) (by (repeat (first | rw [aw_up_eq] | rw [aw_up_ne _ _ (by first | assumption | omega)])) <;> first | assumption | rfl) (by rfl) in_Ca (by decide) k_282 (by rfl) d_Ex_define_1 ?_
  refine aw_aload_nR (pc := 4) X d_Ex_define_4 (by rfl) ?_
  refine aw_iconstN (pc := 5) X 1 d_Ex_define_5 (by decide) ?_
  -- invokevirtual 6 lv=0:r,1:r,2:n st=n,r,r
  refine aw_callV (pc := 6) X _ (c_Ca_from (d := 0) (i := 1) (by omega) (by omega) c2 c1) q_Ca_from k_627 k_628 k_629 (by omega) c11 (by rfl) d_Ex_define_6 (by omega) (Nat.le_of_ble_eq_true rfl) ⟨by omega, by omega⟩ (fun h => by cases h) (fun r w2 nx2 hp => ?_)
  obtain ⟨rfl, rfl, rfl⟩ := hp
  refine aw_aload_nR (pc := 9) X d_Ex_define_9 (by rfl) ?_
  refine aw_iconstN (pc := 10) X 1 d_Ex_define_10 (by decide) ?_
  -- invokevirtual 11 lv=0:r,1:r,2:n st=n,r,n,r
  refine aw_callV (pc := 11) X _ (c_Ca_to (d := 0) (i := 1) (by omega) (by omega) c2 c1) q_Ca_to k_631 k_632 k_633 (by omega) c11 (by rfl) d_Ex_define_11 (by omega) (Nat.le_of_ble_eq_true rfl) ⟨by omega, by omega⟩ (fun h => by cases h) (fun r w2 nx2 hp => ?_)
  obtain ⟨rfl, rfl, rfl⟩ := hp
  refine aw_callSN (pc := 14) X (c_Rd_isName (d := 2) (q := 319) (l := 400) (by omega) (by omega) (by omega) f1.1 f1.2 c4 c3) q_Rd_isName k_664 k_665 d_Ex_define_14 (by omega) (Nat.le_of_ble_eq_true rfl) ⟨by omega, by omega⟩ (fun h => by cases h) (fun r w2 nx2 hp => ?_)
  obtain ⟨rfl, rfl, rfl⟩ := hp
  rw [a1]
  have hbl := bN_lt (isNm (argOf ar 1))
  refine aw_if_neN (pc := 17) X (tgt := 22) d_Ex_define_17 (by rfl) (by omega) (fun h17 => ?_) (fun h17 => ?_)
  -- br 17 lv=0:r,1:r,2:n st=
  · have z1 := bN_ne.mp h17
    have z1' : ¬ isNm (argOf ar 1) = false := by rw [z1]; decide
    have S2 : (12 < (argOf ar 1).length ∨ 100 < (argOf ar 2).length) → ∀ lv, AW G E 5 nx2 0 0 w2 42 lv [] := fun hlong lv => by
      refine aw_iconstN (pc := 42) X 2 d_Ex_define_42 (by decide) ?_
      refine aw_iret Y X rfl d_Ex_define_43 (by omega) (by omega) (hP _ _ _ ?_)
      rw [defS, if_neg z1', if_pos hlong]
      exact ⟨rfl, rfl, hT, fr.refl _ _ _⟩
    refine aw_aload_nR (pc := 22) X d_Ex_define_22 (by rfl) ?_
    refine aw_iconstN (pc := 23) X 1 d_Ex_define_23 (by decide) ?_
    -- invokevirtual 24 lv=0:r,1:r,2:n st=n,r
    refine aw_callV (pc := 24) X _ (c_Ca_length (d := 1) (i := 1) (by omega) (by omega) (by omega) c2 c1) q_Ca_length k_667 k_668 k_669 (by omega) c11 (by rfl) d_Ex_define_24 (by omega) (Nat.le_of_ble_eq_true rfl) ⟨by omega, by omega⟩ (fun h => by cases h) (fun r w2 nx2 hp => ?_)
    obtain ⟨rfl, rfl, rfl⟩ := hp
    rw [l1]
    refine aw_bipushN (pc := 27) X 12 d_Ex_define_27 (by decide) ?_
    refine aw_icmp_gtN (pc := 29) X (tgt := 42) d_Ex_define_29 (by rfl) (by omega) (by omega) (fun h29 => ?_) (fun h29 => ?_)
    -- br 29 lv=0:r,1:r,2:n st=
    · exact S2 (Or.inl h29) _
    · refine aw_aload_nR (pc := 32) X d_Ex_define_32 (by rfl) ?_
      refine aw_iconstN (pc := 33) X 2 d_Ex_define_33 (by decide) ?_
      -- invokevirtual 34 lv=0:r,1:r,2:n st=n,r
      refine aw_callV (pc := 34) X _ (c_Ca_length (d := 1) (i := 2) (by omega) (by omega) (by omega) c2 c1) q_Ca_length k_667 k_668 k_669 (by omega) c11 (by rfl) d_Ex_define_34 (by omega) (Nat.le_of_ble_eq_true rfl) ⟨by omega, by omega⟩ (fun h => by cases h) (fun r w2 nx2 hp => ?_)
      obtain ⟨rfl, rfl, rfl⟩ := hp
      rw [l2]
      refine aw_bipushN (pc := 37) X 100 d_Ex_define_37 (by decide) ?_
      refine aw_icmp_leN (pc := 39) X (tgt := 44) d_Ex_define_39 (by rfl) (by omega) (by omega) (fun h39 => ?_) (fun h39 => ?_)
      -- br 39 lv=0:r,1:r,2:n st=
      · have hshort : ¬ (12 < (argOf ar 1).length ∨ 100 < (argOf ar 2).length) := by omega
        -- from the place on
        have Pl : ∀ o, o = (if top = true then none else tfind T (argOf ar 1)) → AW G E 5 nx2 0 0 w2 57 [(0, rf G 412), (1, rf G a), (2, .int (nI (bN top)))] [.int (pV o)] := by
          intro o ho
          have hdS : defS T ar top = defB T ar o := by
            rw [defS, if_neg z1', if_neg hshort, ← ho]
          cases o with
          | none =>
            refine aw_istore_n (pc := 57) X (lv' := [(3, _), (0, _), (1, _), (2, _)]) d_Ex_define_57 (by decide) (by rfl) ?_
            refine aw_iload_n (pc := 58) X d_Ex_define_58 (by rfl) ?_
            refine aw_iconst (pc := 59) X (v := -1) d_Ex_define_59 (by decide) ?_
            refine aw_icmp_ne (pc := 60) X (tgt := 87) d_Ex_define_60 (by rfl) (fun h60 => ?_) (fun h60 => ?_)
            -- br 60 lv=3:i,0:r,1:r,2:n st=
            · exact absurd rfl h60
            · refine aw_aload_nR (pc := 63) X d_Ex_define_63 (by rfl) ?_
              refine aw_getO (pc := 64) X _ 2 (by omega) (by (repeat (first | rw [aw_up_eq] | rw [aw_up_ne _ _ (by first | assumption | omega)])) <;> first | assumption | rfl) (by rfl) in_Ex (by decide) k_358 (by rfl) d_Ex_define_64 ?_
              refine aw_aload_nR (pc := 67) X d_Ex_define_67 (by rfl) ?_
              refine aw_getNO (pc := 68) X _ 1 (by omega) (by (repeat (first | rw [aw_up_eq] | rw [aw_up_ne _ _ (by first | assumption | omega)])) <;> first | assumption | rfl) (by rfl) in_Ca (by decide) k_282 (by rfl) d_Ex_define_68 ?_
              refine aw_aload_nR (pc := 71) X d_Ex_define_71 (by rfl) ?_
              refine aw_iconstN (pc := 72) X 1 d_Ex_define_72 (by decide) ?_
              -- invokevirtual 73 lv=3:i,0:r,1:r,2:n st=n,r,r,r
              refine aw_callV (pc := 73) X _ (c_Ca_from (d := 0) (i := 1) (by omega) (by omega) c2 c1) q_Ca_from k_627 k_628 k_629 (by omega) c11 (by rfl) d_Ex_define_73 (by omega) (Nat.le_of_ble_eq_true rfl) ⟨by omega, by omega⟩ (fun h => by cases h) (fun r w2 nx2 hp => ?_)
              obtain ⟨rfl, rfl, rfl⟩ := hp
              refine aw_aload_nR (pc := 76) X d_Ex_define_76 (by rfl) ?_
              refine aw_iconstN (pc := 77) X 1 d_Ex_define_77 (by decide) ?_
              -- invokevirtual 78 lv=3:i,0:r,1:r,2:n st=n,r,n,r,r
              refine aw_callV (pc := 78) X _ (c_Ca_to (d := 0) (i := 1) (by omega) (by omega) c2 c1) q_Ca_to k_631 k_632 k_633 (by omega) c11 (by rfl) d_Ex_define_78 (by omega) (Nat.le_of_ble_eq_true rfl) ⟨by omega, by omega⟩ (fun h => by cases h) (fun r w2 nx2 hp => ?_)
              obtain ⟨rfl, rfl, rfl⟩ := hp
              refine aw_callV (pc := 81) X _ (s_Ta_push (d := 3) (q := 319) (l := 400) (f := gg) (by omega) (by omega) (by omega) (by omega) (by omega) f1.1 f1.2 c4 hTP c3) q_Ta_push k_678 k_679 k_680 (by omega) b2 (by rfl) d_Ex_define_81 (by omega) (Nat.le_of_ble_eq_true rfl) ⟨by omega, by omega⟩ (fun h => by cases h) (fun r w3 nx3 hp => ?_)
              obtain ⟨rfl, ⟨y1, rfl, rfl⟩ | ⟨y1, rfl, ⟨t1, hT1⟩, hf3⟩⟩ := hp
              · refine aw_goto (pc := 84) X (tgt := 96) d_Ex_define_84 (by rfl) ?_
                refine aw_astoreN (pc := 96) X (lv' := [(4, _), (3, _), (0, _), (1, _), (2, _)]) d_Ex_define_96 (by decide) (by rfl) ?_
                refine aw_aloadN (pc := 98) X d_Ex_define_98 (by rfl) ?_
                refine aw_ifnonnullN (pc := 100) X d_Ex_define_100 ?_
                refine aw_iconstN (pc := 103) X 2 d_Ex_define_103 (by decide) ?_
                refine aw_iret Y X rfl d_Ex_define_104 (by omega) (by omega) (hP _ _ _ ?_)
                -- ret 104 lv=4:0,3:i,0:r,1:r,2:n st=n
                rw [hdS, defB, if_pos y1]
                exact ⟨rfl, rfl, hT, fr.refl _ _ _⟩
              · refine aw_goto (pc := 84) X (tgt := 96) d_Ex_define_84 (by rfl) ?_
                refine aw_astoreR (pc := 96) X (lv' := [(4, _), (3, _), (0, _), (1, _), (2, _)]) d_Ex_define_96 (by decide) (by rfl) ?_
                refine aw_aloadR (pc := 98) X d_Ex_define_98 (by rfl) ?_
                refine aw_ifnonnull (pc := 100) X (tgt := 105) d_Ex_define_100 (by rfl) ?_
                -- stop 105 lv=4:r,3:i,0:r,1:r,2:n st=
                rw [a1, List.take_of_length_le (by omega)] at hT1
                refine B w3 _ T.length (argOf ar 1, t1.2) [] _ hT1 hf3 (by simp) ?_ (by omega)
                rw [hdS, defB, if_neg (show ¬ 60 ≤ T.length by omega)]
                congr 1
                rw [List.set_append_right _ _ (Nat.le_refl _)]
                simp
          | some i =>
            have htf : tfind T (argOf ar 1) = some i := by
              cases top with
              | true => cases ho
              | false => exact ho.symm
            have hi := tfd_lt htf
            have hnm := tfd_name htf
            have hti : T[i]? = some T[i] := List.getElem?_eq_getElem hi
            rw [hti] at hnm
            have hnm2 : T[i].1 = argOf ar 1 := by simpa using hnm
            have b4i := b4 i (by omega)
            have b41 := b4i.1
            refine AW.of rfl rfl rfl rfl rfl (rest' := [.int (nI i)]) rfl ?_
            refine aw_istore_n (pc := 57) X (lv' := [(3, _), (0, _), (1, _), (2, _)]) d_Ex_define_57 (by decide) (by rfl) ?_
            refine aw_iload_n (pc := 58) X d_Ex_define_58 (by rfl) ?_
            refine aw_iconst (pc := 59) X (v := -1) d_Ex_define_59 (by decide) ?_
            refine aw_icmp_ne (pc := 60) X (tgt := 87) d_Ex_define_60 (by rfl) (fun h60 => ?_) (fun h60 => ?_)
            -- br 60 lv=3:n,0:r,1:r,2:n st=
            · refine aw_aload_nR (pc := 87) X d_Ex_define_87 (by rfl) ?_
              refine aw_getO (pc := 88) X _ 2 (by omega) (by (repeat (first | rw [aw_up_eq] | rw [aw_up_ne _ _ (by first | assumption | omega)])) <;> first | assumption | rfl) (by rfl) in_Ex (by decide) k_358 (by rfl) d_Ex_define_88 ?_
              refine aw_getNO (pc := 91) X _ 0 (by omega) (by (repeat (first | rw [aw_up_eq] | rw [aw_up_ne _ _ (by first | assumption | omega)])) <;> first | assumption | rfl) (by rfl) in_Ta (by decide) k_252 (by rfl) d_Ex_define_91 ?_
              refine aw_iload_n (pc := 94) X d_Ex_define_94 (by rfl) ?_
              refine aw_aaldN (pc := 95) X _ 5 (by omega) (by (repeat (first | rw [aw_up_eq] | rw [aw_up_ne _ _ (by first | assumption | omega)])) <;> first | assumption | rfl) (by rfl) (by omega) (by omega) (by assumption) d_Ex_define_95 ?_
              refine aw_astoreR (pc := 96) X (lv' := [(4, _), (3, _), (0, _), (1, _), (2, _)]) d_Ex_define_96 (by decide) (by rfl) ?_
              refine aw_aloadR (pc := 98) X d_Ex_define_98 (by rfl) ?_
              refine aw_ifnonnull (pc := 100) X (tgt := 105) d_Ex_define_100 (by rfl) ?_
              -- stop 105 lv=4:r,3:n,0:r,1:r,2:n st=
              refine B w2 T i T[i] [] _ hTP (fr.refl _ _ _) hti ?_ (by omega)
              rw [hdS, hnm2]
              rfl
            · exact absurd ((pV_inj (o := none) (i := i) (fun _ q => by cases q) (by omega)).mp h60.symm) (by simp)
        refine aw_iload_n (pc := 44) X d_Ex_define_44 (by rfl) ?_
        refine aw_if_eqN (pc := 45) X (tgt := 52) d_Ex_define_45 (by rfl) (by omega) (fun h45 => ?_) (fun h45 => ?_)
        -- br 45 lv=0:r,1:r,2:n st=
        · have z2 := bN_eq.mp h45
          refine aw_aload_nR (pc := 52) X d_Ex_define_52 (by rfl) ?_
          refine aw_aload_nR (pc := 53) X d_Ex_define_53 (by rfl) ?_
          -- invokevirtual 54 lv=0:r,1:r,2:n st=r,r
          refine aw_callV (pc := 54) X _ (s_Ex_placeOfFirst (d := 2) hnx (by omega) ha he hT h0) q_Ex_placeOfFirst k_673 k_675 k_13 (by omega) he (by rfl) d_Ex_define_54 (by omega) (Nat.le_of_ble_eq_true rfl) ⟨by omega, by omega⟩ (fun h => by cases h) (fun r w2 nx2 hp => ?_)
          obtain ⟨rfl, rfl, rfl⟩ := hp
          exact Pl _ (by rw [z2]; rfl)
        · have z2 := bN_ne.mp h45
          refine aw_iconst (pc := 48) X (v := -1) d_Ex_define_48 (by decide) ?_
          refine aw_goto (pc := 49) X (tgt := 57) d_Ex_define_49 (by rfl) ?_
          -- stop 57 lv=0:r,1:r,2:n st=i
          exact Pl none (by rw [z2]; rfl)
      · exact S2 (Or.inr h39) _
  · have z1 := bN_eq.mp h17
    refine aw_iconstN (pc := 20) X 0 d_Ex_define_20 (by decide) ?_
    refine aw_iret Y X rfl d_Ex_define_21 (by omega) (by omega) (hP _ _ _ ?_)
    -- ret 21 lv=0:r,1:r,2:n st=n
    rw [defS, if_pos z1]
    exact ⟨rfl, rfl, hT, fr.refl _ _ _⟩
end

