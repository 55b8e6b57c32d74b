/-! Text.addNumber: a number in decimal -/
def y_Tx_addNumber : MethodName := ⟨"RescanDesk$Text", "addNumber", "(J)V"⟩
abbrev b_Tx_addNumber : ByteArray := prog_12_method_7_code
theorem d_Tx_addNumber_0 : decode b_Tx_addNumber 0 = .ok (.lload_n 1, 1) := by decide +kernel
theorem d_Tx_addNumber_1 : decode b_Tx_addNumber 1 = .ok (.lconst 0, 1) := by decide +kernel
theorem d_Tx_addNumber_2 : decode b_Tx_addNumber 2 = .ok (.lcmp, 1) := by decide +kernel
theorem d_Tx_addNumber_3 : decode b_Tx_addNumber 3 = .ok (.ifCond .ge 10, 3) := by decide +kernel
theorem d_Tx_addNumber_6 : decode b_Tx_addNumber 6 = .ok (.aload_n 0, 1) := by decide +kernel
theorem d_Tx_addNumber_7 : decode b_Tx_addNumber 7 = .ok (.bipush 45, 2) := by decide +kernel
theorem d_Tx_addNumber_9 : decode b_Tx_addNumber 9 = .ok (.invokevirtual 35, 3) := by decide +kernel
theorem d_Tx_addNumber_12 : decode b_Tx_addNumber 12 = .ok (.pop, 1) := by decide +kernel
theorem d_Tx_addNumber_13 : decode b_Tx_addNumber 13 = .ok (.lload_n 1, 1) := by decide +kernel
theorem d_Tx_addNumber_14 : decode b_Tx_addNumber 14 = .ok (.lconst 0, 1) := by decide +kernel
theorem d_Tx_addNumber_15 : decode b_Tx_addNumber 15 = .ok (.lcmp, 1) := by decide +kernel
theorem d_Tx_addNumber_16 : decode b_Tx_addNumber 16 = .ok (.ifCond .ge 7, 3) := by decide +kernel
theorem d_Tx_addNumber_19 : decode b_Tx_addNumber 19 = .ok (.lload_n 1, 1) := by decide +kernel
theorem d_Tx_addNumber_20 : decode b_Tx_addNumber 20 = .ok (.goto 5, 3) := by decide +kernel
theorem d_Tx_addNumber_23 : decode b_Tx_addNumber 23 = .ok (.lload_n 1, 1) := by decide +kernel
theorem d_Tx_addNumber_24 : decode b_Tx_addNumber 24 = .ok (.lneg, 1) := by decide +kernel
theorem d_Tx_addNumber_25 : decode b_Tx_addNumber 25 = .ok (.lstore_n 3, 1) := by decide +kernel
theorem d_Tx_addNumber_26 : decode b_Tx_addNumber 26 = .ok (.lconst 1, 1) := by decide +kernel
theorem d_Tx_addNumber_27 : decode b_Tx_addNumber 27 = .ok (.lstore 5, 2) := by decide +kernel
theorem d_Tx_addNumber_29 : decode b_Tx_addNumber 29 = .ok (.iconst 1, 1) := by decide +kernel
theorem d_Tx_addNumber_30 : decode b_Tx_addNumber 30 = .ok (.istore 7, 2) := by decide +kernel
theorem d_Tx_addNumber_32 : decode b_Tx_addNumber 32 = .ok (.iload 7, 2) := by decide +kernel
theorem d_Tx_addNumber_34 : decode b_Tx_addNumber 34 = .ok (.bipush 19, 2) := by decide +kernel
theorem d_Tx_addNumber_36 : decode b_Tx_addNumber 36 = .ok (.if_icmp .ge 28, 3) := by decide +kernel
theorem d_Tx_addNumber_39 : decode b_Tx_addNumber 39 = .ok (.lload_n 3, 1) := by decide +kernel
theorem d_Tx_addNumber_40 : decode b_Tx_addNumber 40 = .ok (.lload 5, 2) := by decide +kernel
theorem d_Tx_addNumber_42 : decode b_Tx_addNumber 42 = .ok (.ldiv, 1) := by decide +kernel
theorem d_Tx_addNumber_43 : decode b_Tx_addNumber 43 = .ok (.ldc2_w 39, 3) := by decide +kernel
theorem d_Tx_addNumber_46 : decode b_Tx_addNumber 46 = .ok (.lcmp, 1) := by decide +kernel
theorem d_Tx_addNumber_47 : decode b_Tx_addNumber 47 = .ok (.ifCond .gt 17, 3) := by decide +kernel
theorem d_Tx_addNumber_50 : decode b_Tx_addNumber 50 = .ok (.lload 5, 2) := by decide +kernel
theorem d_Tx_addNumber_52 : decode b_Tx_addNumber 52 = .ok (.ldc2_w 41, 3) := by decide +kernel
theorem d_Tx_addNumber_55 : decode b_Tx_addNumber 55 = .ok (.lmul, 1) := by decide +kernel
theorem d_Tx_addNumber_56 : decode b_Tx_addNumber 56 = .ok (.lstore 5, 2) := by decide +kernel
theorem d_Tx_addNumber_58 : decode b_Tx_addNumber 58 = .ok (.iinc 7 1, 3) := by decide +kernel
theorem d_Tx_addNumber_61 : decode b_Tx_addNumber 61 = .ok (.goto (-29), 3) := by decide +kernel
theorem d_Tx_addNumber_64 : decode b_Tx_addNumber 64 = .ok (.iconst 0, 1) := by decide +kernel
theorem d_Tx_addNumber_65 : decode b_Tx_addNumber 65 = .ok (.istore 7, 2) := by decide +kernel
theorem d_Tx_addNumber_67 : decode b_Tx_addNumber 67 = .ok (.iload 7, 2) := by decide +kernel
theorem d_Tx_addNumber_69 : decode b_Tx_addNumber 69 = .ok (.bipush 19, 2) := by decide +kernel
theorem d_Tx_addNumber_71 : decode b_Tx_addNumber 71 = .ok (.if_icmp .ge 43, 3) := by decide +kernel
theorem d_Tx_addNumber_74 : decode b_Tx_addNumber 74 = .ok (.lload 5, 2) := by decide +kernel
theorem d_Tx_addNumber_76 : decode b_Tx_addNumber 76 = .ok (.lconst 0, 1) := by decide +kernel
theorem d_Tx_addNumber_77 : decode b_Tx_addNumber 77 = .ok (.lcmp, 1) := by decide +kernel
theorem d_Tx_addNumber_78 : decode b_Tx_addNumber 78 = .ok (.ifCond .le 36, 3) := by decide +kernel
theorem d_Tx_addNumber_81 : decode b_Tx_addNumber 81 = .ok (.aload_n 0, 1) := by decide +kernel
theorem d_Tx_addNumber_82 : decode b_Tx_addNumber 82 = .ok (.ldc2_w 43, 3) := by decide +kernel
theorem d_Tx_addNumber_85 : decode b_Tx_addNumber 85 = .ok (.lload_n 3, 1) := by decide +kernel
theorem d_Tx_addNumber_86 : decode b_Tx_addNumber 86 = .ok (.lload 5, 2) := by decide +kernel
theorem d_Tx_addNumber_88 : decode b_Tx_addNumber 88 = .ok (.ldiv, 1) := by decide +kernel
theorem d_Tx_addNumber_89 : decode b_Tx_addNumber 89 = .ok (.ldc2_w 41, 3) := by decide +kernel
theorem d_Tx_addNumber_92 : decode b_Tx_addNumber 92 = .ok (.lrem, 1) := by decide +kernel
theorem d_Tx_addNumber_93 : decode b_Tx_addNumber 93 = .ok (.lsub, 1) := by decide +kernel
theorem d_Tx_addNumber_94 : decode b_Tx_addNumber 94 = .ok (.l2i, 1) := by decide +kernel
theorem d_Tx_addNumber_95 : decode b_Tx_addNumber 95 = .ok (.i2c, 1) := by decide +kernel
theorem d_Tx_addNumber_96 : decode b_Tx_addNumber 96 = .ok (.invokevirtual 35, 3) := by decide +kernel
theorem d_Tx_addNumber_99 : decode b_Tx_addNumber 99 = .ok (.pop, 1) := by decide +kernel
theorem d_Tx_addNumber_100 : decode b_Tx_addNumber 100 = .ok (.lload 5, 2) := by decide +kernel
theorem d_Tx_addNumber_102 : decode b_Tx_addNumber 102 = .ok (.ldc2_w 41, 3) := by decide +kernel
theorem d_Tx_addNumber_105 : decode b_Tx_addNumber 105 = .ok (.ldiv, 1) := by decide +kernel
theorem d_Tx_addNumber_106 : decode b_Tx_addNumber 106 = .ok (.lstore 5, 2) := by decide +kernel
theorem d_Tx_addNumber_108 : decode b_Tx_addNumber 108 = .ok (.iinc 7 1, 3) := by decide +kernel
theorem d_Tx_addNumber_111 : decode b_Tx_addNumber 111 = .ok (.goto (-44), 3) := by decide +kernel
theorem d_Tx_addNumber_114 : decode b_Tx_addNumber 114 = .ok (.return_, 1) := by decide +kernel
theorem q_Tx_addNumber : aw_q1 y_Tx_addNumber b_Tx_addNumber 8 none 1 := ⟨k_638, k_64, ⟨by decide, by decide, by decide +kernel⟩, by decide⟩
theorem lg_lt0 (x y : Int64) : lg_cmp x y < 0 ↔ x < y := by
  unfold lg_cmp
  by_cases h1 : y < x
  · simp only [h1, if_true]
    exact ⟨fun q => absurd q (by decide), fun q => (Int64.lt_irrefl (Int64.lt_trans h1 q)).elim⟩
  · by_cases h2 : x = y
    · subst h2; simp [Int64.lt_irrefl]
    · simp only [h1, h2, if_false]
      exact ⟨fun _ => Int64.lt_of_le_of_ne (Int64.not_lt.mp h1) h2, fun _ => by decide⟩
theorem lg_gt0 (x y : Int64) : 0 < lg_cmp x y ↔ y < x := by
  unfold lg_cmp
  by_cases h1 : y < x
  · simp only [h1, if_true]; exact ⟨fun _ => trivial, fun _ => by decide⟩
  · by_cases h2 : x = y
    · subst h2; simp [Int64.lt_irrefl]
    · simp only [h1, h2, if_false]
      exact ⟨fun q => absurd q (by decide), fun q => q.elim⟩
theorem lg_eq0 (x y : Int64) : lg_cmp x y = 0 ↔ x = y := by
  unfold lg_cmp
  by_cases h1 : y < x
  · simp only [h1, if_true]
    exact ⟨fun q => absurd q (by decide), fun q => by subst q; exact (Int64.lt_irrefl h1).elim⟩
  · by_cases h2 : x = y
    · subst h2; simp [Int64.lt_irrefl]
    · simp only [h1, h2, if_false]
      exact ⟨fun q => absurd q (by decide), fun q => q.elim⟩
theorem mT {n : Nat} (h : n ≤ 2 ^ 63) : (-lN n).toInt = -(n : Int) := Int64.toInt_neg_ofNat_of_le h
theorem mdiv {n b : Nat} (hn : n ≤ 2 ^ 63) (h0 : 0 < b) (hb : b < 2 ^ 63) : (-lN n) / lN b = -lN (n / b) := by
  apply Int64.toInt_inj.mp
  have hne : lN b ≠ -1 := fun e => by
    have := congrArg Int64.toInt e
    rw [pk_lT hb] at this
    have e1 : (-1 : Int64).toInt = -1 := by decide
    omega
  rw [Int64.toInt_div_of_ne_right _ _ hne, mT hn, pk_lT hb, mT (Nat.le_trans (Nat.div_le_self n b) hn), Int.neg_tdiv]
  congr 1
theorem mdig {q : Nat} (hq : q ≤ 2 ^ 63) : ((48 : Int64) - (-lN q - -lN q / 10 * 10)).toInt32 = nI (48 + q % 10) := by
  have e10 : (10 : Int64) = lN 10 := by decide
  have e48 : (48 : Int64) = lN 48 := by decide
  have h1 : -lN q - -lN q / 10 * 10 = -lN (q % 10) := by
    conv => lhs; rw [e10, mdiv hq (by omega) (by omega)]
    have h2 : lN q = lN (q / 10 * 10) + lN (q % 10) := by rw [lN_add]; congr 1; omega
    rw [Int64.neg_mul, lN_mul, h2, Int64.sub_eq_add_neg, Int64.neg_neg, Int64.neg_add]
    rw [Int64.sub_eq_add_neg, Int64.add_comm (-lN (q / 10 * 10)), Int64.add_assoc, Int64.add_left_neg, Int64.add_zero]
  rw [h1, e48, Int64.sub_eq_add_neg, Int64.neg_neg, lN_add, lN_i]
/-- the digits of n from place k down -/
def dgl (n : Nat) : Nat → List Nat
  | 0 => [48 + n / 10 ^ 0 % 10]
  | k + 1 => (48 + n / 10 ^ (k + 1) % 10) :: dgl n k
/-- the highest digit's place, from k on -/
def topx (n : Nat) : Nat → Nat → Nat
  | 0, k => k
  | f + 1, k => if n / 10 ^ k < 10 then k else topx n f (k + 1)
def dec (v : Int64) : List Nat := (if v < 0 then [45] else []) ++ dgl v.toInt.natAbs (topx v.toInt.natAbs 18 0)
theorem topx_le (n : Nat) : ∀ f k, topx n f k ≤ f + k
  | 0, k => by simp [topx]
  | f + 1, k => by unfold topx; split; · omega
                   · have := topx_le n f (k + 1); omega
theorem take_app {α : Type} (s r : List α) (m : Nat) : (s.take m ++ r).take m = (s ++ r).take m := by
  by_cases h : s.length ≤ m
  · rw [List.take_of_length_le h]
  · rw [List.take_append_of_le_length (by simp; omega), List.take_append_of_le_length (by omega), List.take_take, Nat.min_self]
section
variable {G : aw_G} {nx d : Nat} {w : Nat → va_E}
theorem s_Tx_addNumber {a m : Nat} {s : List Nat} {v : Int64} (ha : a + 1 < nx) (hm : m < 2 ^ 20) (hd : 1 ≤ d) (h : hTx G w a m s) : AC G y_Tx_addNumber b_Tx_addNumber 8 none d false [rf G a, .long v] nx w 0 0 (fun r w' nx' => nx' = nx ∧ r = none ∧ hTx G w' a m ((s ++ dec v).take m) ∧ fr a (a + 2) w w') := by
  have hN : v.toInt.natAbs ≤ 2 ^ 63 := by
    have h1 := Int64.le_toInt v
    have h2 := Int64.toInt_lt v
    omega
  generalize hNe : v.toInt.natAbs = N at hN
  have hb10 : ∀ k, k ≤ 18 → (10 : Nat) ^ k < 2 ^ 63 := fun k hk => Nat.lt_of_le_of_lt (Nat.pow_le_pow_right (by omega) hk) (by decide)
  have hp10 : ∀ k, 0 < (10 : Nat) ^ k := fun k => Nat.pow_pos (by omega)
  have e10 : (10 : Int64) = lN 10 := by decide
  refine AC.ofW (by decide) (Nat.le_of_ble_eq_true rfl) ?_
  intro E P hP Y X
  have X : aw_X G "RescanDesk$Text" b_Tx_addNumber 8 none "addNumber" _ _ _ _ _ E := X
  refine AW.eql (lv' := [(0, _), (1, _)]) (by rfl) ?_
  -- the second loop
  have L2 : ∀ (k i : Nat) (w1 : Nat → va_E) (s1 : List Nat) (hk : k ≤ 18), i + k < 19 → hTx G w1 a m s1 → fr a (a + 2) w w1 → (s1 ++ dgl N k).take m = (s ++ dec v).take m → AW G E 8 nx 0 0 w1 67 [(7, .int (nI i)), (5, .long (lN (10 ^ k))), (3, .long (-lN N)), (0, rf G a), (1, .long v)] [] := by
    intro k
    induction k with
    | zero =>
      intro i w1 s1 hk hi h1 hf hr
      have hne : ¬ lN (10 ^ 0) = 0 := by decide
      have g1 := h1.obj
      refine aw_iload (pc := 67) X d_Tx_addNumber_67 (by rfl) ?_
      refine aw_bipushN (pc := 69) X 19 d_Tx_addNumber_69 (by decide) ?_
      refine aw_icmp_geN (pc := 71) X (tgt := 114) d_Tx_addNumber_71 (by rfl) (by omega) (by omega) (fun h71 => ?_) (fun h71 => ?_)
      -- br 71 lv=7:n,5:l,3:l,0:r,1:l st=
      · omega
      · refine aw_lload (pc := 74) X d_Tx_addNumber_74 (by rfl) ?_
        refine aw_lconst (pc := 76) X (v := 0) d_Tx_addNumber_76 (by decide) ?_
        refine aw_lcmp (pc := 77) X d_Tx_addNumber_77 ?_
        refine aw_if_le (pc := 78) X (tgt := 114) d_Tx_addNumber_78 (by rfl) (fun h78 => ?_) (fun h78 => ?_)
        -- br 78 lv=7:n,5:l,3:l,0:r,1:l st=
        · exact absurd h78 (by decide)
        · have ex : -lN N / lN (10 ^ 0) = -lN (N / 10 ^ 0) := mdiv hN (by decide) (by decide)
          have hq : N / 10 ^ 0 ≤ 2 ^ 63 := Nat.le_trans (Nat.div_le_self _ _) hN
          refine aw_aload_nR (pc := 81) X d_Tx_addNumber_81 (by rfl) ?_
          refine aw_ldc2 (pc := 82) X k_642 d_Tx_addNumber_82 ?_
          refine aw_lload_n (pc := 85) X d_Tx_addNumber_85 (by rfl) ?_
          -- stop 86 lv=7:n,5:l,3:l,0:r,1:l st=l,l,r
          refine aw_lload (pc := 86) X d_Tx_addNumber_86 (by rfl) ?_
          refine aw_ldiv (pc := 88) X d_Tx_addNumber_88 hne ?_
          rw [ex]
          refine aw_ldc2 (pc := 89) X k_641 d_Tx_addNumber_89 ?_
          refine aw_lrem (pc := 92) X d_Tx_addNumber_92 (by decide) ?_
          refine aw_lsub (pc := 93) X d_Tx_addNumber_93 ?_
          refine aw_l2i (pc := 94) X d_Tx_addNumber_94 ?_
          -- stop 95 lv=7:n,5:l,3:l,0:r,1:l st=i,r
          rw [mdig hq]
          refine aw_i2cN (pc := 95) X d_Tx_addNumber_95 (by omega) ?_
          -- invokevirtual 96 lv=7:n,5:l,3:l,0:r,1:l st=n,r
          refine aw_callV (pc := 96) X _ (s_Tx_add (d := 0) (a := a) (m := m) (s := s1) ha hm (by omega) h1) q_Tx_add k_639 k_248 k_249 (by omega) g1 (by rfl) d_Tx_addNumber_96 (by omega) (Nat.le_of_ble_eq_true rfl) ⟨by omega, by omega⟩ (fun h => by cases h) (fun r w2 nx2 hp => ?_)
          obtain ⟨rfl, rfl, h2, hf2⟩ := hp
          refine aw_pop (pc := 99) X d_Tx_addNumber_99 (by rfl) ?_
          refine aw_lload (pc := 100) X d_Tx_addNumber_100 (by rfl) ?_
          refine aw_ldc2 (pc := 102) X k_641 d_Tx_addNumber_102 ?_
          -- stop 105 lv=7:n,5:l,3:l,0:r,1:l st=l,l
          refine aw_ldiv (pc := 105) X d_Tx_addNumber_105 (by decide) ?_
          rw [show lN (10 ^ 0) / 10 = 0 by decide]
          refine aw_lstore (pc := 106) X (lv' := [(5, _), (7, _), (3, _), (0, _), (1, _)]) d_Tx_addNumber_106 (by decide) (by rfl) ?_
          refine aw_iincN (pc := 108) X 1 (lv' := [(7, _), (5, _), (3, _), (0, _), (1, _)]) d_Tx_addNumber_108 (by rfl) (by decide) (by decide) (by rfl) ?_
          refine aw_goto (pc := 111) X (tgt := 67) d_Tx_addNumber_111 (by rfl) ?_
          refine aw_iload (pc := 67) X d_Tx_addNumber_67 (by rfl) ?_
          refine aw_bipushN (pc := 69) X 19 d_Tx_addNumber_69 (by decide) ?_
          refine aw_icmp_geN (pc := 71) X (tgt := 114) d_Tx_addNumber_71 (by rfl) (by omega) (by omega) (fun h71 => ?_) (fun h71 => ?_)
          -- br 71 lv=7:n,5:l,3:l,0:r,1:l st=
          · refine aw_vret Y X rfl d_Tx_addNumber_114 (by omega) (by omega) (hP _ _ _ ?_)
            -- ret 114 lv=7:n,5:l,3:l,0:r,1:l st=
            refine ⟨rfl, rfl, ?_, hf.trans hf2⟩
            rw [← hr]
            exact h2
          · refine aw_lload (pc := 74) X d_Tx_addNumber_74 (by rfl) ?_
            refine aw_lconst (pc := 76) X (v := 0) d_Tx_addNumber_76 (by decide) ?_
            refine aw_lcmp (pc := 77) X d_Tx_addNumber_77 ?_
            refine aw_if_le (pc := 78) X (tgt := 114) d_Tx_addNumber_78 (by rfl) (fun h78 => ?_) (fun h78 => ?_)
            -- br 78 lv=7:n,5:l,3:l,0:r,1:l st=
            · refine aw_vret Y X rfl d_Tx_addNumber_114 (by omega) (by omega) (hP _ _ _ ?_)
              -- ret 114 lv=7:n,5:l,3:l,0:r,1:l st=
              refine ⟨rfl, rfl, ?_, hf.trans hf2⟩
              rw [← hr]
              exact h2
            · exact absurd (show lg_cmp 0 0 ≤ 0 by decide) h78
    | succ k ih =>
      intro i w1 s1 hk hi h1 hf hr
      have hlt := hb10 (k + 1) hk
      have hpos := hp10 (k + 1)
      have hne : ¬ lN (10 ^ (k + 1)) = 0 := fun e => by
        have := congrArg Int64.toInt e
        rw [pk_lT hlt] at this
        have e1 : (0 : Int64).toInt = 0 := by decide
        omega
      have hgt : 0 < lN (10 ^ (k + 1)) := (pk_lLT (a := 0) (by decide) hlt).mpr hpos
      have g1 := h1.obj
      refine aw_iload (pc := 67) X d_Tx_addNumber_67 (by rfl) ?_
      refine aw_bipushN (pc := 69) X 19 d_Tx_addNumber_69 (by decide) ?_
      refine aw_icmp_geN (pc := 71) X (tgt := 114) d_Tx_addNumber_71 (by rfl) (by omega) (by omega) (fun h71 => ?_) (fun h71 => ?_)
      -- br 71 lv=7:n,5:l,3:l,0:r,1:l st=
      · omega
      · refine aw_lload (pc := 74) X d_Tx_addNumber_74 (by rfl) ?_
        refine aw_lconst (pc := 76) X (v := 0) d_Tx_addNumber_76 (by decide) ?_
        refine aw_lcmp (pc := 77) X d_Tx_addNumber_77 ?_
        refine aw_if_le (pc := 78) X (tgt := 114) d_Tx_addNumber_78 (by rfl) (fun h78 => ?_) (fun h78 => ?_)
        -- br 78 lv=7:n,5:l,3:l,0:r,1:l st=
        · exact absurd ((lg_gt0 _ _).mpr hgt) (Int32.not_lt.mpr h78)
        · have ex : -lN N / lN (10 ^ (k + 1)) = -lN (N / 10 ^ (k + 1)) := mdiv hN hpos hlt
          have hq : N / 10 ^ (k + 1) ≤ 2 ^ 63 := Nat.le_trans (Nat.div_le_self _ _) hN
          refine aw_aload_nR (pc := 81) X d_Tx_addNumber_81 (by rfl) ?_
          refine aw_ldc2 (pc := 82) X k_642 d_Tx_addNumber_82 ?_
          refine aw_lload_n (pc := 85) X d_Tx_addNumber_85 (by rfl) ?_
          -- stop 86 lv=7:n,5:l,3:l,0:r,1:l st=l,l,r
          refine aw_lload (pc := 86) X d_Tx_addNumber_86 (by rfl) ?_
          refine aw_ldiv (pc := 88) X d_Tx_addNumber_88 hne ?_
          rw [ex]
          refine aw_ldc2 (pc := 89) X k_641 d_Tx_addNumber_89 ?_
          refine aw_lrem (pc := 92) X d_Tx_addNumber_92 (by decide) ?_
          refine aw_lsub (pc := 93) X d_Tx_addNumber_93 ?_
          refine aw_l2i (pc := 94) X d_Tx_addNumber_94 ?_
          -- stop 95 lv=7:n,5:l,3:l,0:r,1:l st=i,r
          rw [mdig hq]
          refine aw_i2cN (pc := 95) X d_Tx_addNumber_95 (by omega) ?_
          -- invokevirtual 96 lv=7:n,5:l,3:l,0:r,1:l st=n,r
          refine aw_callV (pc := 96) X _ (s_Tx_add (d := 0) (a := a) (m := m) (s := s1) ha hm (by omega) h1) q_Tx_add k_639 k_248 k_249 (by omega) g1 (by rfl) d_Tx_addNumber_96 (by omega) (Nat.le_of_ble_eq_true rfl) ⟨by omega, by omega⟩ (fun h => by cases h) (fun r w2 nx2 hp => ?_)
          obtain ⟨rfl, rfl, h2, hf2⟩ := hp
          refine aw_pop (pc := 99) X d_Tx_addNumber_99 (by rfl) ?_
          refine aw_lload (pc := 100) X d_Tx_addNumber_100 (by rfl) ?_
          refine aw_ldc2 (pc := 102) X k_641 d_Tx_addNumber_102 ?_
          -- stop 105 lv=7:n,5:l,3:l,0:r,1:l st=l,l
          refine aw_ldiv (pc := 105) X d_Tx_addNumber_105 (by decide) ?_
          rw [e10, pk_lDiv hlt (by omega) (by omega), show 10 ^ (k + 1) / 10 = 10 ^ k by rw [Nat.pow_succ, Nat.mul_div_cancel _ (by omega)]]
          refine aw_lstore (pc := 106) X (lv' := [(5, _), (7, _), (3, _), (0, _), (1, _)]) d_Tx_addNumber_106 (by decide) (by rfl) ?_
          refine aw_iincN (pc := 108) X 1 (lv' := [(7, _), (5, _), (3, _), (0, _), (1, _)]) d_Tx_addNumber_108 (by rfl) (by decide) (by decide) (by rfl) ?_
          refine aw_goto (pc := 111) X (tgt := 67) d_Tx_addNumber_111 (by rfl) ?_
          -- stop 67 lv=7:n,5:l,3:l,0:r,1:l st=
          refine AW.lsub [0, 1, 2, 3, 4] (by rfl) ?_
          refine ih (i + 1) w2 _ (by omega) (by omega) h2 (hf.trans hf2) ?_
          rw [← hr, take_app, dgl, List.append_assoc]
          rfl
  -- the first loop
  have L1 : ∀ (f k : Nat) (w1 : Nat → va_E) (s1 : List Nat), f + k = 18 → hTx G w1 a m s1 → fr a (a + 2) w w1 → (s1 ++ dgl N (topx N f k)).take m = (s ++ dec v).take m → AW G E 8 nx 0 0 w1 32 [(7, .int (nI (k + 1))), (5, .long (lN (10 ^ k))), (3, .long (-lN N)), (0, rf G a), (1, .long v)] [] := by
    intro f
    induction f with
    | zero =>
      intro k w1 s1 hfk h1 hf hr
      refine aw_iload (pc := 32) X d_Tx_addNumber_32 (by rfl) ?_
      refine aw_bipushN (pc := 34) X 19 d_Tx_addNumber_34 (by decide) ?_
      refine aw_icmp_geN (pc := 36) X (tgt := 64) d_Tx_addNumber_36 (by rfl) (by omega) (by omega) (fun h36 => ?_) (fun h36 => ?_)
      -- br 36 lv=7:n,5:l,3:l,0:r,1:l st=
      · refine aw_iconstN (pc := 64) X 0 d_Tx_addNumber_64 (by decide) ?_
        refine aw_istore (pc := 65) X (lv' := [(7, _), (5, _), (3, _), (0, _), (1, _)]) d_Tx_addNumber_65 (by decide) (by rfl) ?_
        -- stop 67 lv=7:n,5:l,3:l,0:r,1:l st=
        exact L2 k 0 w1 s1 (by omega) (by omega) h1 hf hr
      · omega
    | succ f ih =>
      intro k w1 s1 hfk h1 hf hr
      have hlt := hb10 k (by omega)
      have hpos := hp10 k
      have hne : ¬ lN (10 ^ k) = 0 := fun e => by
        have := congrArg Int64.toInt e
        rw [pk_lT hlt] at this
        have e1 : (0 : Int64).toInt = 0 := by decide
        omega
      have ex : -lN N / lN (10 ^ k) = -lN (N / 10 ^ k) := mdiv hN hpos hlt
      have hq : N / 10 ^ k ≤ 2 ^ 63 := Nat.le_trans (Nat.div_le_self _ _) hN
      have hcmp : (-10 : Int64) < -lN (N / 10 ^ k) ↔ N / 10 ^ k < 10 := by
        rw [Int64.lt_iff_toInt_lt, mT hq]
        have e1 : (-10 : Int64).toInt = -10 := by decide
        omega
      refine aw_iload (pc := 32) X d_Tx_addNumber_32 (by rfl) ?_
      refine aw_bipushN (pc := 34) X 19 d_Tx_addNumber_34 (by decide) ?_
      refine aw_icmp_geN (pc := 36) X (tgt := 64) d_Tx_addNumber_36 (by rfl) (by omega) (by omega) (fun h36 => ?_) (fun h36 => ?_)
      -- br 36 lv=7:n,5:l,3:l,0:r,1:l st=
      · omega
      · refine aw_lload_n (pc := 39) X d_Tx_addNumber_39 (by rfl) ?_
        refine aw_lload (pc := 40) X d_Tx_addNumber_40 (by rfl) ?_
        -- stop 42 lv=7:n,5:l,3:l,0:r,1:l st=l,l
        refine aw_ldiv (pc := 42) X d_Tx_addNumber_42 hne ?_
        rw [ex]
        refine aw_ldc2 (pc := 43) X k_640 d_Tx_addNumber_43 ?_
        refine aw_lcmp (pc := 46) X d_Tx_addNumber_46 ?_
        refine aw_if_gt (pc := 47) X (tgt := 64) d_Tx_addNumber_47 (by rfl) (fun h47 => ?_) (fun h47 => ?_)
        -- br 47 lv=7:n,5:l,3:l,0:r,1:l st=
        · have hq2 := hcmp.mp ((lg_gt0 _ _).mp h47)
          rw [topx, if_pos hq2] at hr
          refine aw_iconstN (pc := 64) X 0 d_Tx_addNumber_64 (by decide) ?_
          refine aw_istore (pc := 65) X (lv' := [(7, _), (5, _), (3, _), (0, _), (1, _)]) d_Tx_addNumber_65 (by decide) (by rfl) ?_
          -- stop 67 lv=7:n,5:l,3:l,0:r,1:l st=
          refine AW.lsub [0, 1, 2, 3, 4] (by rfl) ?_
          exact L2 k 0 w1 s1 (by omega) (by omega) h1 hf hr
        · have hq2 : ¬ N / 10 ^ k < 10 := fun q => h47 ((lg_gt0 _ _).mpr (hcmp.mpr q))
          rw [topx, if_neg hq2] at hr
          refine aw_lload (pc := 50) X d_Tx_addNumber_50 (by rfl) ?_
          refine aw_ldc2 (pc := 52) X k_641 d_Tx_addNumber_52 ?_
          -- stop 55 lv=7:n,5:l,3:l,0:r,1:l st=l,l
          refine aw_lmul (pc := 55) X d_Tx_addNumber_55 ?_
          rw [e10, lN_mul, ← Nat.pow_succ]
          refine aw_lstore (pc := 56) X (lv' := [(5, _), (7, _), (3, _), (0, _), (1, _)]) d_Tx_addNumber_56 (by decide) (by rfl) ?_
          refine aw_iincN (pc := 58) X 1 (lv' := [(7, _), (5, _), (3, _), (0, _), (1, _)]) d_Tx_addNumber_58 (by rfl) (by decide) (by decide) (by rfl) ?_
          refine aw_goto (pc := 61) X (tgt := 32) d_Tx_addNumber_61 (by rfl) ?_
          -- stop 32 lv=7:n,5:l,3:l,0:r,1:l st=
          refine AW.lsub [0, 1, 2, 3, 4] (by rfl) ?_
          exact ih (k + 1) w1 s1 (by omega) h1 hf hr
  have J : ∀ (w1 : Nat → va_E) (s1 : List Nat), hTx G w1 a m s1 → fr a (a + 2) w w1 → (s1 ++ dgl N (topx N 18 0)).take m = (s ++ dec v).take m → AW G E 8 nx 0 0 w1 13 [(0, rf G a), (1, .long v)] [] := by
    intro w1 s1 h1 hf hr
    refine aw_lload_n (pc := 13) X d_Tx_addNumber_13 (by rfl) ?_
    refine aw_lconst (pc := 14) X (v := 0) d_Tx_addNumber_14 (by decide) ?_
    refine aw_lcmp (pc := 15) X d_Tx_addNumber_15 ?_
    refine aw_if_ge (pc := 16) X (tgt := 23) d_Tx_addNumber_16 (by rfl) (fun h16 => ?_) (fun h16 => ?_)
    -- br 16 lv=0:r,1:l st=
    · have hv : ¬ v < 0 := fun q => absurd ((lg_lt0 _ _).mpr q) (Int32.not_lt.mpr h16)
      have hv2 : 0 ≤ v.toInt := by have := Int64.le_iff_toInt_le.mp (Int64.not_lt.mp hv); simpa using this
      have e : -v = -lN N := by
        congr 1
        apply Int64.toInt_inj.mp
        have := Int64.toInt_lt v
        rw [pk_lT (by omega)]
        omega
      refine aw_lload_n (pc := 23) X d_Tx_addNumber_23 (by rfl) ?_
      refine aw_lneg (pc := 24) X d_Tx_addNumber_24 ?_
      -- stop 25 lv=0:r,1:l st=l
      rw [e]
      refine aw_lstore_n (pc := 25) X (lv' := [(3, _), (0, _), (1, _)]) d_Tx_addNumber_25 (by decide) (by rfl) ?_
      refine aw_lconst (pc := 26) X (v := 1) d_Tx_addNumber_26 (by decide) ?_
      refine aw_lstore (pc := 27) X (lv' := [(5, _), (3, _), (0, _), (1, _)]) d_Tx_addNumber_27 (by decide) (by rfl) ?_
      refine aw_iconstN (pc := 29) X 1 d_Tx_addNumber_29 (by decide) ?_
      refine aw_istore (pc := 30) X (lv' := [(7, _), (5, _), (3, _), (0, _), (1, _)]) d_Tx_addNumber_30 (by decide) (by rfl) ?_
      -- stop 32 lv=7:n,5:l,3:l,0:r,1:l st=
      exact L1 18 0 w1 s1 (by omega) h1 hf hr
    · have hv : v < 0 := (lg_lt0 _ _).mp (Int32.not_le.mp h16)
      have hv2 : v.toInt < 0 := by have := Int64.lt_iff_toInt_lt.mp hv; simpa using this
      have e : v = -lN N := by
        apply Int64.toInt_inj.mp
        rw [mT hN]
        omega
      refine aw_lload_n (pc := 19) X d_Tx_addNumber_19 (by rfl) ?_
      refine aw_goto (pc := 20) X (tgt := 25) d_Tx_addNumber_20 (by rfl) ?_
      -- stop 25 lv=0:r,1:l st=l
      refine AW.of rfl rfl rfl rfl rfl (rest' := [.long (-lN N)]) (by rw [← e]) ?_
      refine aw_lstore_n (pc := 25) X (lv' := [(3, _), (0, _), (1, _)]) d_Tx_addNumber_25 (by decide) (by rfl) ?_
      refine aw_lconst (pc := 26) X (v := 1) d_Tx_addNumber_26 (by decide) ?_
      refine aw_lstore (pc := 27) X (lv' := [(5, _), (3, _), (0, _), (1, _)]) d_Tx_addNumber_27 (by decide) (by rfl) ?_
      refine aw_iconstN (pc := 29) X 1 d_Tx_addNumber_29 (by decide) ?_
      refine aw_istore (pc := 30) X (lv' := [(7, _), (5, _), (3, _), (0, _), (1, _)]) d_Tx_addNumber_30 (by decide) (by rfl) ?_
      -- stop 32 lv=7:n,5:l,3:l,0:r,1:l st=
      exact L1 18 0 w1 s1 (by omega) h1 hf hr
  have g1 := h.obj
  refine aw_lload_n (pc := 0) X d_Tx_addNumber_0 (by rfl) ?_
  refine aw_lconst (pc := 1) X (v := 0) d_Tx_addNumber_1 (by decide) ?_
  refine aw_lcmp (pc := 2) X d_Tx_addNumber_2 ?_
  refine aw_if_ge (pc := 3) X (tgt := 13) d_Tx_addNumber_3 (by rfl) (fun h3 => ?_) (fun h3 => ?_)
  -- br 3 lv=0:r,1:l st=
  · have hv : ¬ v < 0 := fun q => absurd ((lg_lt0 _ _).mpr q) (Int32.not_lt.mpr h3)
    exact J w s h (fr.refl _ _ _) (by rw [dec, if_neg hv, hNe]; rfl)
  · have hv : v < 0 := (lg_lt0 _ _).mp (Int32.not_le.mp h3)
    refine aw_aload_nR (pc := 6) X d_Tx_addNumber_6 (by rfl) ?_
    refine aw_bipushN (pc := 7) X 45 d_Tx_addNumber_7 (by decide) ?_
    -- invokevirtual 9 lv=0:r,1:l st=n,r
    refine aw_callV (pc := 9) X _ (s_Tx_add (d := 0) (a := a) (m := m) (s := s) (x := 45) ha hm (by omega) h) q_Tx_add k_639 k_248 k_249 (by omega) g1 (by rfl) d_Tx_addNumber_9 (by omega) (Nat.le_of_ble_eq_true rfl) ⟨by omega, by omega⟩ (fun h => by cases h) (fun r w2 nx2 hp => ?_)
    obtain ⟨rfl, rfl, h2, hf2⟩ := hp
    refine aw_pop (pc := 12) X d_Tx_addNumber_12 (by rfl) ?_
    -- stop 13 lv=0:r,1:l st=
    exact J w2 _ h2 hf2 (by rw [dec, if_pos hv, hNe, take_app, List.append_assoc])
end

