/-! the reference: value, index, macros, output, count -/
theorem i64dig {v : Int64} {c : Nat} (hc : 48 ≤ c) : 10 * v + lN c - 48 = v * 10 + lN (c - 48) := by
  have h1 : lN c = lN (c - 48) + 48 := by
    rw [show (48 : Int64) = lN 48 from rfl, lN_add]
    congr 1
    omega
  rw [h1, Int64.mul_comm, ← Int64.add_assoc, Int64.sub_eq_add_neg, Int64.add_assoc, Int64.add_right_neg, Int64.add_zero]
section
variable {G : aw_G} {nx d : Nat} {w : Nat → va_E} {p : Int32} {m : Nat → Nat} {A : Nat → Nat → Nat} {V : Nat → Int64} {t : Def} {ar : List (List Nat)}
theorem s_Mo_value {a : Nat} (hnx : 442 ≤ nx) (hd : 2 ≤ d) (ha : a < 100) (hY : RY A t ar) (hM : hMo G w p m A V) : AC G y_Mo_value b_Mo_value 9 (some .long) d false [rf G 418, .int (nI a)] nx w 0 0 (fun r w' nx' => nx' = nx ∧ w' = w ∧ r = some (.long (valL (argOf ar a)))) := by
  obtain ⟨a1, a2⟩ := hY.arg a
  generalize hN : (argOf ar a).length = N at a1 a2
  refine AC.ofW (by decide) (Nat.le_of_ble_eq_true rfl) ?_
  intro E P hP Y X
  have X : aw_X G "RescanDeskModel" b_Mo_value 9 (some .long) "value" _ _ _ _ _ E := X
  refine AW.eql (lv' := [(0, _), (1, _)]) (by rfl) ?_
  have Z : ∀ (bl st k : Nat) (v : Int64), bl < 2 → valL (argOf ar a) = valF bl (some v) → AW G E 9 nx 0 0 w 124 [(8, .int (nI k)), (6, .long v), (5, .int (nI 1)), (4, .int (nI st)), (3, .int (nI bl)), (2, .int (nI N)), (0, rf G 418), (1, .int (nI a))] [] := by
    intro bl st k v hbl hr
    refine aw_iload (pc := 124) X d_Mo_value_124 (by rfl) ?_
    refine aw_if_neN (pc := 126) X (tgt := 133) d_Mo_value_126 (by rfl) (by omega) (fun h126 => ?_) (fun h126 => ?_)
    -- br 126 lv=8:n,6:l,5:n,4:n,3:n,2:n,0:r,1:n st=
    · refine aw_iload_n (pc := 133) X d_Mo_value_133 (by rfl) ?_
      refine aw_if_eqN (pc := 134) X (tgt := 143) d_Mo_value_134 (by rfl) (by omega) (fun h134 => ?_) (fun h134 => ?_)
      -- br 134 lv=8:n,6:l,5:n,4:n,3:n,2:n,0:r,1:n st=
      · refine aw_lload (pc := 143) X d_Mo_value_143 (by rfl) ?_
        refine aw_lret Y X rfl d_Mo_value_145 (by omega) (by omega) (hP _ _ _ ?_)
        -- ret 145 lv=8:n,6:l,5:n,4:n,3:n,2:n,0:r,1:n st=l
        exact ⟨rfl, rfl, by rw [hr, h134]; rfl⟩
      · refine aw_lload (pc := 137) X d_Mo_value_137 (by rfl) ?_
        refine aw_lneg (pc := 139) X d_Mo_value_139 ?_
        refine aw_goto (pc := 140) X (tgt := 145) d_Mo_value_140 (by rfl) ?_
        refine aw_lret Y X rfl d_Mo_value_145 (by omega) (by omega) (hP _ _ _ ?_)
        -- ret 145 lv=8:n,6:l,5:n,4:n,3:n,2:n,0:r,1:n st=l
        exact ⟨rfl, rfl, by rw [hr, valF, if_neg h134]⟩
    · exact absurd h126 (by decide)
  have Z0 : ∀ (bl st k : Nat) (v : Int64), k < 2 ^ 31 → valL (argOf ar a) = 0 → AW G E 9 nx 0 0 w 62 [(8, .int (nI k)), (6, .long v), (5, .int (nI 0)), (4, .int (nI st)), (3, .int (nI bl)), (2, .int (nI N)), (0, rf G 418), (1, .int (nI a))] [] := by
    intro bl st k v hk hr
    have Z1 : AW G E 9 nx 0 0 w 124 [(8, .int (nI k)), (6, .long v), (5, .int (nI 0)), (4, .int (nI st)), (3, .int (nI bl)), (2, .int (nI N)), (0, rf G 418), (1, .int (nI a))] [] := by
      refine aw_iload (pc := 124) X d_Mo_value_124 (by rfl) ?_
      refine aw_if_neN (pc := 126) X (tgt := 133) d_Mo_value_126 (by rfl) (by omega) (fun h126 => ?_) (fun h126 => ?_)
      -- br 126 lv=8:n,6:l,5:n,4:n,3:n,2:n,0:r,1:n st=
      · exact absurd rfl h126
      · refine aw_lconst (pc := 129) X (v := 0) d_Mo_value_129 (by decide) ?_
        refine aw_goto (pc := 130) X (tgt := 145) d_Mo_value_130 (by rfl) ?_
        refine aw_lret Y X rfl d_Mo_value_145 (by omega) (by omega) (hP _ _ _ ?_)
        -- ret 145 lv=8:n,6:l,5:n,4:n,3:n,2:n,0:r,1:n st=l
        exact ⟨rfl, rfl, by rw [hr]⟩
    refine aw_iload (pc := 62) X d_Mo_value_62 (by rfl) ?_
    refine aw_iload_n (pc := 64) X d_Mo_value_64 (by rfl) ?_
    refine aw_icmp_geN (pc := 65) X (tgt := 124) d_Mo_value_65 (by rfl) (by omega) (by omega) (fun h65 => ?_) (fun h65 => ?_)
    -- br 65 lv=8:n,6:l,5:n,4:n,3:n,2:n,0:r,1:n st=
    · exact Z1
    · refine aw_iload (pc := 68) X d_Mo_value_68 (by rfl) ?_
      refine aw_if_eqN (pc := 70) X (tgt := 124) d_Mo_value_70 (by rfl) (by omega) (fun h70 => ?_) (fun h70 => ?_)
      -- br 70 lv=8:n,6:l,5:n,4:n,3:n,2:n,0:r,1:n st=
      · exact Z1
      · exact absurd rfl h70
  have L : ∀ (bl st j k : Nat) (v : Int64), bl < 2 → k + j = N → valL (argOf ar a) = valF bl (valD v (sl (A 435) (mfr A a + k) j)) → AW G E 9 nx 0 0 w 62 [(8, .int (nI k)), (6, .long v), (5, .int (nI 1)), (4, .int (nI st)), (3, .int (nI bl)), (2, .int (nI N)), (0, rf G 418), (1, .int (nI a))] [] := by
    intro bl st j
    induction j with
    | zero =>
      intro k v hbl hk hr
      refine aw_iload (pc := 62) X d_Mo_value_62 (by rfl) ?_
      refine aw_iload_n (pc := 64) X d_Mo_value_64 (by rfl) ?_
      refine aw_icmp_geN (pc := 65) X (tgt := 124) d_Mo_value_65 (by rfl) (by omega) (by omega) (fun h65 => ?_) (fun h65 => ?_)
      -- br 65 lv=8:n,6:l,5:n,4:n,3:n,2:n,0:r,1:n st=
      · exact Z _ _ _ _ hbl hr
      · omega
    | succ j ih =>
      intro k v hbl hk hr
      rw [sl_cons] at hr
      have c1 := hM.b435 (mfr A a + k)
      refine aw_iload (pc := 62) X d_Mo_value_62 (by rfl) ?_
      refine aw_iload_n (pc := 64) X d_Mo_value_64 (by rfl) ?_
      refine aw_icmp_geN (pc := 65) X (tgt := 124) d_Mo_value_65 (by rfl) (by omega) (by omega) (fun h65 => ?_) (fun h65 => ?_)
      -- br 65 lv=8:n,6:l,5:n,4:n,3:n,2:n,0:r,1:n st=
      · omega
      · refine aw_iload (pc := 68) X d_Mo_value_68 (by rfl) ?_
        refine aw_if_eqN (pc := 70) X (tgt := 124) d_Mo_value_70 (by rfl) (by omega) (fun h70 => ?_) (fun h70 => ?_)
        -- br 70 lv=8:n,6:l,5:n,4:n,3:n,2:n,0:r,1:n st=
        · exact absurd h70 (by decide)
        · refine aw_aload_nR (pc := 73) X d_Mo_value_73 (by rfl) ?_
          refine gm_22 (pc := 74) X hM (by omega) d_Mo_value_74 ?_
          refine aw_aload_nR (pc := 77) X d_Mo_value_77 (by rfl) ?_
          refine aw_iload_n (pc := 78) X d_Mo_value_78 (by rfl) ?_
          -- invokevirtual 79 lv=8:n,6:l,5:n,4:n,3:n,2:n,0:r,1:n st=n,r,a435
          refine aw_callV (pc := 79) X _ (s_Mo_from (d := 1) hnx (by omega) ha hY hM) q_Mo_from k_1075 k_1077 k_43 (by omega) hM.1 (by rfl) d_Mo_value_79 (by omega) (Nat.le_of_ble_eq_true rfl) ⟨by omega, by omega⟩ (fun h => by cases h) (fun r w nx hp => ?_)
          obtain ⟨rfl, rfl, rfl⟩ := hp
          refine aw_iload (pc := 82) X d_Mo_value_82 (by rfl) ?_
          refine aw_iaddN (pc := 84) X d_Mo_value_84 ?_
          refine aw_caldN (pc := 85) X 435 0 (by omega) hM.a435 (by rfl) (by omega) (by decide) d_Mo_value_85 ?_
          -- invokestatic 86 lv=8:n,6:l,5:n,4:n,3:n,2:n,0:r,1:n st=n
          refine aw_callS (pc := 86) X (c_Mo_isDigit (d := 0) c1) q_Mo_isDigit k_1030 k_1031 d_Mo_value_86 (by omega) (Nat.le_of_ble_eq_true rfl) ⟨by omega, by omega⟩ (fun h => by cases h) (fun r w nx hp => ?_)
          obtain ⟨rfl, rfl, rfl⟩ := hp
          refine aw_istore (pc := 89) X (lv' := [(5, _), (8, _), (6, _), (4, _), (3, _), (2, _), (0, _), (1, _)]) d_Mo_value_89 (by decide) (by rfl) ?_
          refine aw_ldc2 (pc := 91) X k_1061 d_Mo_value_91 ?_
          refine aw_lload (pc := 94) X d_Mo_value_94 (by rfl) ?_
          refine aw_lmul (pc := 96) X d_Mo_value_96 ?_
          refine aw_aload_nR (pc := 97) X d_Mo_value_97 (by rfl) ?_
          refine gm_22 (pc := 98) X hM (by omega) d_Mo_value_98 ?_
          refine aw_aload_nR (pc := 101) X d_Mo_value_101 (by rfl) ?_
          refine aw_iload_n (pc := 102) X d_Mo_value_102 (by rfl) ?_
          -- invokevirtual 103 lv=5:n,8:n,6:l,4:n,3:n,2:n,0:r,1:n st=n,r,a435,l
          refine aw_callV (pc := 103) X _ (s_Mo_from (d := 1) hnx (by omega) ha hY hM) q_Mo_from k_1075 k_1077 k_43 (by omega) hM.1 (by rfl) d_Mo_value_103 (by omega) (Nat.le_of_ble_eq_true rfl) ⟨by omega, by omega⟩ (fun h => by cases h) (fun r w nx hp => ?_)
          obtain ⟨rfl, rfl, rfl⟩ := hp
          cases hdg : isDig (A 435 (mfr A a + k)) with
          | false =>
            refine aw_iload (pc := 106) X d_Mo_value_106 (by rfl) ?_
            refine aw_iaddN (pc := 108) X d_Mo_value_108 ?_
            refine aw_caldN (pc := 109) X 435 0 (by omega) hM.a435 (by rfl) (by omega) (by decide) d_Mo_value_109 ?_
            refine aw_i2lN (pc := 110) X d_Mo_value_110 (by omega) ?_
            refine aw_ladd (pc := 111) X d_Mo_value_111 ?_
            refine aw_ldc2 (pc := 112) X k_1062 d_Mo_value_112 ?_
            refine aw_lsub (pc := 115) X d_Mo_value_115 ?_
            refine aw_lstore (pc := 116) X (lv' := [(6, _), (5, _), (8, _), (4, _), (3, _), (2, _), (0, _), (1, _)]) d_Mo_value_116 (by decide) (by rfl) ?_
            refine aw_iincN (pc := 118) X 1 (lv' := [(8, _), (6, _), (5, _), (4, _), (3, _), (2, _), (0, _), (1, _)]) d_Mo_value_118 (by rfl) (by decide) (by decide) (by rfl) ?_
            refine aw_goto (pc := 121) X (tgt := 62) d_Mo_value_121 (by rfl) ?_
            -- stop 62 lv=8:n,6:l,5:n,4:n,3:n,2:n,0:r,1:n st=
            rw [valD, if_neg (by rw [hdg]; simp)] at hr
            exact Z0 _ _ _ _ (by omega) hr
          | true =>
            have h48 : 48 ≤ A 435 (mfr A a + k) := (of_decide_eq_true hdg).1
            refine aw_iload (pc := 106) X d_Mo_value_106 (by rfl) ?_
            refine aw_iaddN (pc := 108) X d_Mo_value_108 ?_
            refine aw_caldN (pc := 109) X 435 0 (by omega) hM.a435 (by rfl) (by omega) (by decide) d_Mo_value_109 ?_
            refine aw_i2lN (pc := 110) X d_Mo_value_110 (by omega) ?_
            refine aw_ladd (pc := 111) X d_Mo_value_111 ?_
            refine aw_ldc2 (pc := 112) X k_1062 d_Mo_value_112 ?_
            refine aw_lsub (pc := 115) X d_Mo_value_115 ?_
            refine aw_lstore (pc := 116) X (lv' := [(6, _), (5, _), (8, _), (4, _), (3, _), (2, _), (0, _), (1, _)]) d_Mo_value_116 (by decide) (by rfl) ?_
            refine aw_iincN (pc := 118) X 1 (lv' := [(8, _), (6, _), (5, _), (4, _), (3, _), (2, _), (0, _), (1, _)]) d_Mo_value_118 (by rfl) (by decide) (by decide) (by rfl) ?_
            refine aw_goto (pc := 121) X (tgt := 62) d_Mo_value_121 (by rfl) ?_
            -- stop 62 lv=8:n,6:l,5:n,4:n,3:n,2:n,0:r,1:n st=
            rw [i64dig h48]
            rw [valD, if_pos hdg] at hr
            exact ih (k + 1) _ hbl (by omega) hr
  have J : ∀ (bl : Nat), bl < 2 → (bl ≤ N → valL (argOf ar a) = valF bl (valD 0 (sl (A 435) (mfr A a + bl) (N - bl)))) → bl ≤ N → (N = bl → valL (argOf ar a) = 0) → AW G E 9 nx 0 0 w 30 [(2, .int (nI N)), (0, rf G 418), (1, .int (nI a))] [.int (nI bl)] := by
    intro bl hbl hr hle h0
    have K : ∀ st, st = bl → AW G E 9 nx 0 0 w 42 [(4, .int (nI st)), (3, .int (nI bl)), (2, .int (nI N)), (0, rf G 418), (1, .int (nI a))] [] := by
      intro st hst
      subst hst
      refine aw_iload_n (pc := 42) X d_Mo_value_42 (by rfl) ?_
      refine aw_iload (pc := 43) X d_Mo_value_43 (by rfl) ?_
      refine aw_icmp_leN (pc := 45) X (tgt := 52) d_Mo_value_45 (by rfl) (by omega) (by omega) (fun h45 => ?_) (fun h45 => ?_)
      -- br 45 lv=4:n,3:n,2:n,0:r,1:n st=
      · refine aw_iconstN (pc := 52) X 0 d_Mo_value_52 (by decide) ?_
        refine aw_istore (pc := 53) X (lv' := [(5, _), (4, _), (3, _), (2, _), (0, _), (1, _)]) d_Mo_value_53 (by decide) (by rfl) ?_
        refine aw_lconst (pc := 55) X (v := 0) d_Mo_value_55 (by decide) ?_
        refine aw_lstore (pc := 56) X (lv' := [(6, _), (5, _), (4, _), (3, _), (2, _), (0, _), (1, _)]) d_Mo_value_56 (by decide) (by rfl) ?_
        refine aw_iload (pc := 58) X d_Mo_value_58 (by rfl) ?_
        refine aw_istore (pc := 60) X (lv' := [(8, _), (6, _), (5, _), (4, _), (3, _), (2, _), (0, _), (1, _)]) d_Mo_value_60 (by decide) (by rfl) ?_
        -- stop 62 lv=8:n,6:l,5:n,4:n,3:n,2:n,0:r,1:n st=
        exact Z0 _ _ _ _ (by omega) (h0 (by omega))
      · refine aw_iconstN (pc := 48) X 1 d_Mo_value_48 (by decide) ?_
        refine aw_goto (pc := 49) X (tgt := 53) d_Mo_value_49 (by rfl) ?_
        refine aw_istore (pc := 53) X (lv' := [(5, _), (4, _), (3, _), (2, _), (0, _), (1, _)]) d_Mo_value_53 (by decide) (by rfl) ?_
        refine aw_lconst (pc := 55) X (v := 0) d_Mo_value_55 (by decide) ?_
        refine aw_lstore (pc := 56) X (lv' := [(6, _), (5, _), (4, _), (3, _), (2, _), (0, _), (1, _)]) d_Mo_value_56 (by decide) (by rfl) ?_
        refine aw_iload (pc := 58) X d_Mo_value_58 (by rfl) ?_
        refine aw_istore (pc := 60) X (lv' := [(8, _), (6, _), (5, _), (4, _), (3, _), (2, _), (0, _), (1, _)]) d_Mo_value_60 (by decide) (by rfl) ?_
        -- stop 62 lv=8:n,6:l,5:n,4:n,3:n,2:n,0:r,1:n st=
        exact L _ _ (N - st) st 0 hbl (by omega) (hr hle)
    refine aw_istore_n (pc := 30) X (lv' := [(3, _), (2, _), (0, _), (1, _)]) d_Mo_value_30 (by decide) (by rfl) ?_
    refine aw_iload_n (pc := 31) X d_Mo_value_31 (by rfl) ?_
    refine aw_if_eqN (pc := 32) X (tgt := 39) d_Mo_value_32 (by rfl) (by omega) (fun h32 => ?_) (fun h32 => ?_)
    -- br 32 lv=3:n,2:n,0:r,1:n st=
    · subst h32
      refine aw_iconstN (pc := 39) X 0 d_Mo_value_39 (by decide) ?_
      refine aw_istore (pc := 40) X (lv' := [(4, _), (3, _), (2, _), (0, _), (1, _)]) d_Mo_value_40 (by decide) (by rfl) ?_
      -- stop 42 lv=4:n,3:n,2:n,0:r,1:n st=
      exact K 0 rfl
    · have : bl = 1 := by omega
      subst this
      refine aw_iconstN (pc := 35) X 1 d_Mo_value_35 (by decide) ?_
      refine aw_goto (pc := 36) X (tgt := 40) d_Mo_value_36 (by rfl) ?_
      refine aw_istore (pc := 40) X (lv' := [(4, _), (3, _), (2, _), (0, _), (1, _)]) d_Mo_value_40 (by decide) (by rfl) ?_
      -- stop 42 lv=4:n,3:n,2:n,0:r,1:n st=
      exact K 1 rfl
  refine aw_aload_nR (pc := 0) X d_Mo_value_0 (by rfl) ?_
  refine aw_iload_n (pc := 1) X d_Mo_value_1 (by rfl) ?_
  -- invokevirtual 2 lv=0:r,1:n st=n,r
  refine aw_callV (pc := 2) X _ (s_Mo_length (d := 1) hnx (by omega) ha hY hM) q_Mo_length k_1071 k_1073 k_42 (by omega) hM.1 (by rfl) d_Mo_value_2 (by omega) (Nat.le_of_ble_eq_true rfl) ⟨by omega, by omega⟩ (fun h => by cases h) (fun r w nx hp => ?_)
  obtain ⟨rfl, rfl, rfl⟩ := hp
  rw [hN]
  refine aw_istore_n (pc := 5) X (lv' := [(2, _), (0, _), (1, _)]) d_Mo_value_5 (by decide) (by rfl) ?_
  refine aw_iload_n (pc := 6) X d_Mo_value_6 (by rfl) ?_
  refine aw_if_leN (pc := 7) X (tgt := 29) d_Mo_value_7 (by rfl) (by omega) (fun h7 => ?_) (fun h7 => ?_)
  -- br 7 lv=2:n,0:r,1:n st=
  · refine aw_iconstN (pc := 29) X 0 d_Mo_value_29 (by decide) ?_
    -- stop 30 lv=2:n,0:r,1:n st=n
    have hnil : argOf ar a = [] := List.length_eq_zero_iff.mp (by omega)
    exact J 0 (by omega) (fun _ => by rw [hnil, show N - 0 = 0 by omega]; rfl) (by omega) (fun _ => by rw [hnil]; rfl)
  · have e : argOf ar a = A 435 (mfr A a) :: sl (A 435) (mfr A a + 1) (N - 1) := by rw [← sl_cons, show N - 1 + 1 = N by omega]; exact a1
    have c1 := hM.b435 (mfr A a)
    refine aw_aload_nR (pc := 10) X d_Mo_value_10 (by rfl) ?_
    refine gm_22 (pc := 11) X hM (by omega) d_Mo_value_11 ?_
    refine aw_aload_nR (pc := 14) X d_Mo_value_14 (by rfl) ?_
    refine aw_iload_n (pc := 15) X d_Mo_value_15 (by rfl) ?_
    -- invokevirtual 16 lv=2:n,0:r,1:n st=n,r,a435
    refine aw_callV (pc := 16) X _ (s_Mo_from (d := 1) hnx (by omega) ha hY hM) q_Mo_from k_1075 k_1077 k_43 (by omega) hM.1 (by rfl) d_Mo_value_16 (by omega) (Nat.le_of_ble_eq_true rfl) ⟨by omega, by omega⟩ (fun h => by cases h) (fun r w nx hp => ?_)
    obtain ⟨rfl, rfl, rfl⟩ := hp
    refine aw_caldN (pc := 19) X 435 0 (by omega) hM.a435 (by rfl) (by omega) (by decide) d_Mo_value_19 ?_
    refine aw_bipushN (pc := 20) X 45 d_Mo_value_20 (by decide) ?_
    refine aw_icmp_neN (pc := 22) X (tgt := 29) d_Mo_value_22 (by rfl) (by omega) (by omega) (fun h22 => ?_) (fun h22 => ?_)
    -- br 22 lv=2:n,0:r,1:n st=
    · refine aw_iconstN (pc := 29) X 0 d_Mo_value_29 (by decide) ?_
      -- stop 30 lv=2:n,0:r,1:n st=n
      exact J 0 (by omega) (fun _ => by rw [Nat.add_zero, Nat.sub_zero, ← a1, e]; simp [valL, h22]) (by omega) (fun z => by omega)
    · refine aw_iconstN (pc := 25) X 1 d_Mo_value_25 (by decide) ?_
      refine aw_goto (pc := 26) X (tgt := 30) d_Mo_value_26 (by rfl) ?_
      -- stop 30 lv=2:n,0:r,1:n st=n
      refine J 1 (by omega) (fun _ => by rw [e]; simp [valL, h22]) (by omega) (fun z => ?_)
      rw [e, show N - 1 = 0 by omega, sl_0, h22]
      decide
theorem s_Mo_index (hnx : 442 ≤ nx) (hd : 2 ≤ d) (hY : RY A t ar) (hM : hMo G w p m A V) : AC G y_Mo_index b_Mo_index 4 (some .int) d false [rf G 418] nx w 0 0 (fun r w' nx' => nx' = nx ∧ w' = w ∧ r = some (.int (pV (idxS ar 402 0)))) := by
  obtain ⟨a1, a2⟩ := hY.arg 1
  obtain ⟨b1, b2⟩ := hY.arg 2
  refine AC.ofW (by decide) (Nat.le_of_ble_eq_true rfl) ?_
  intro E P hP Y X
  have X : aw_X G "RescanDeskModel" b_Mo_index 4 (some .int) "index" _ _ _ _ _ E := X
  refine AW.eql (lv' := [(0, _)]) (by rfl) ?_
  have L : ∀ (k pl : Nat), pl + k = 402 → pl ≤ 401 → idxS ar k pl = idxS ar 402 0 → AW G E 4 nx 0 0 w 2 [(1, .int (nI pl)), (0, rf G 418)] [] := by
    intro k
    induction k with
    | zero => intro pl h1 h2 h3; omega
    | succ k ih =>
      intro pl hp0 hp1 hr
      rw [idxS] at hr
      refine aw_iload_n (pc := 2) X d_Mo_index_2 (by rfl) ?_
      refine aw_aload_nR (pc := 3) X d_Mo_index_3 (by rfl) ?_
      refine aw_iconstN (pc := 4) X 2 d_Mo_index_4 (by decide) ?_
      -- invokevirtual 5 lv=1:n,0:r st=n,r,n
      refine aw_callV (pc := 5) X _ (s_Mo_length (d := 1) hnx (by omega) (by omega) hY hM) q_Mo_length k_1071 k_1073 k_42 (by omega) hM.1 (by rfl) d_Mo_index_5 (by omega) (Nat.le_of_ble_eq_true rfl) ⟨by omega, by omega⟩ (fun h => by cases h) (fun r w nx hp => ?_)
      obtain ⟨rfl, rfl, rfl⟩ := hp
      refine aw_iaddN (pc := 8) X d_Mo_index_8 ?_
      refine aw_aload_nR (pc := 9) X d_Mo_index_9 (by rfl) ?_
      refine aw_iconstN (pc := 10) X 1 d_Mo_index_10 (by decide) ?_
      -- invokevirtual 11 lv=1:n,0:r st=n,r,n
      refine aw_callV (pc := 11) X _ (s_Mo_length (d := 1) hnx (by omega) (by omega) hY hM) q_Mo_length k_1071 k_1073 k_42 (by omega) hM.1 (by rfl) d_Mo_index_11 (by omega) (Nat.le_of_ble_eq_true rfl) ⟨by omega, by omega⟩ (fun h => by cases h) (fun r w nx hp => ?_)
      obtain ⟨rfl, rfl, rfl⟩ := hp
      refine aw_icmp_gtN (pc := 14) X (tgt := 87) d_Mo_index_14 (by rfl) (by omega) (by omega) (fun h14 => ?_) (fun h14 => ?_)
      -- br 14 lv=1:n,0:r st=
      · refine aw_iconst (pc := 87) X (v := -1) d_Mo_index_87 (by decide) ?_
        refine aw_iret Y X rfl d_Mo_index_88 (by omega) (by omega) (hP _ _ _ ?_)
        -- ret 88 lv=1:n,0:r st=i
        rw [if_neg (by omega)] at hr
        exact ⟨rfl, rfl, by rw [← hr]; rfl⟩
      · rw [if_pos (by omega)] at hr
        have e2 : ((argOf ar 1).drop pl).take (argOf ar 2).length = sl (A 435) (mfr A 1 + pl) (argOf ar 2).length := by
          have e := sl_drop (A 435) (mfr A 1) (argOf ar 1).length pl (by omega)
          rw [← a1] at e
          rw [e, sl_take _ _ _ _ (by omega)]
        rw [e2] at hr
        have Zf : ∀ k', k' < 2 ^ 31 → ¬ argOf ar 2 = sl (A 435) (mfr A 1 + pl) (argOf ar 2).length → AW G E 4 nx 0 0 w 21 [(3, .int (nI k')), (2, .int (nI 0)), (1, .int (nI pl)), (0, rf G 418)] [] := by
          intro k' hk' hne
          have Z1 : AW G E 4 nx 0 0 w 75 [(3, .int (nI k')), (2, .int (nI 0)), (1, .int (nI pl)), (0, rf G 418)] [] := by
            rw [if_neg hne] at hr
            refine aw_iload_n (pc := 75) X d_Mo_index_75 (by rfl) ?_
            refine aw_if_eqN (pc := 76) X (tgt := 81) d_Mo_index_76 (by rfl) (by omega) (fun h76 => ?_) (fun h76 => ?_)
            -- br 76 lv=3:n,2:n,1:n,0:r st=
            · refine aw_iincN (pc := 81) X 1 (lv' := [(1, _), (3, _), (2, _), (0, _)]) d_Mo_index_81 (by rfl) (by decide) (by decide) (by rfl) ?_
              refine aw_goto (pc := 84) X (tgt := 2) d_Mo_index_84 (by rfl) ?_
              -- stop 2 lv=1:n,3:n,2:n,0:r st=
              exact AW.lsub [0, 3] (by rfl) (ih (pl + 1) (by omega) (by omega) hr)
            · exact absurd rfl h76
          refine aw_iload_n (pc := 21) X d_Mo_index_21 (by rfl) ?_
          refine aw_aload_nR (pc := 22) X d_Mo_index_22 (by rfl) ?_
          refine aw_iconstN (pc := 23) X 2 d_Mo_index_23 (by decide) ?_
          -- invokevirtual 24 lv=3:n,2:n,1:n,0:r st=n,r,n
          refine aw_callV (pc := 24) X _ (s_Mo_length (d := 1) hnx (by omega) (by omega) hY hM) q_Mo_length k_1071 k_1073 k_42 (by omega) hM.1 (by rfl) d_Mo_index_24 (by omega) (Nat.le_of_ble_eq_true rfl) ⟨by omega, by omega⟩ (fun h => by cases h) (fun r w nx hp => ?_)
          obtain ⟨rfl, rfl, rfl⟩ := hp
          refine aw_icmp_geN (pc := 27) X (tgt := 75) d_Mo_index_27 (by rfl) (by omega) (by omega) (fun h27 => ?_) (fun h27 => ?_)
          -- br 27 lv=3:n,2:n,1:n,0:r st=
          · exact Z1
          · refine aw_iload_n (pc := 30) X d_Mo_index_30 (by rfl) ?_
            refine aw_if_eqN (pc := 31) X (tgt := 75) d_Mo_index_31 (by rfl) (by omega) (fun h31 => ?_) (fun h31 => ?_)
            -- br 31 lv=3:n,2:n,1:n,0:r st=
            · exact Z1
            · exact absurd rfl h31
        have M : ∀ (j k' : Nat), k' + j = (argOf ar 2).length → (∀ i', i' < k' → A 435 (mfr A 1 + pl + i') = A 435 (mfr A 2 + i')) → AW G E 4 nx 0 0 w 21 [(3, .int (nI k')), (2, .int (nI 1)), (1, .int (nI pl)), (0, rf G 418)] [] := by
          intro j
          induction j with
          | zero =>
            intro k' hk' hall
            refine aw_iload_n (pc := 21) X d_Mo_index_21 (by rfl) ?_
            refine aw_aload_nR (pc := 22) X d_Mo_index_22 (by rfl) ?_
            refine aw_iconstN (pc := 23) X 2 d_Mo_index_23 (by decide) ?_
            -- invokevirtual 24 lv=3:n,2:n,1:n,0:r st=n,r,n
            refine aw_callV (pc := 24) X _ (s_Mo_length (d := 1) hnx (by omega) (by omega) hY hM) q_Mo_length k_1071 k_1073 k_42 (by omega) hM.1 (by rfl) d_Mo_index_24 (by omega) (Nat.le_of_ble_eq_true rfl) ⟨by omega, by omega⟩ (fun h => by cases h) (fun r w nx hp => ?_)
            obtain ⟨rfl, rfl, rfl⟩ := hp
            refine aw_icmp_geN (pc := 27) X (tgt := 75) d_Mo_index_27 (by rfl) (by omega) (by omega) (fun h27 => ?_) (fun h27 => ?_)
            -- br 27 lv=3:n,2:n,1:n,0:r st=
            · refine aw_iload_n (pc := 75) X d_Mo_index_75 (by rfl) ?_
              refine aw_if_eqN (pc := 76) X (tgt := 81) d_Mo_index_76 (by rfl) (by omega) (fun h76 => ?_) (fun h76 => ?_)
              -- br 76 lv=3:n,2:n,1:n,0:r st=
              · exact absurd h76 (by decide)
              · refine aw_iload_n (pc := 79) X d_Mo_index_79 (by rfl) ?_
                refine aw_iret Y X rfl d_Mo_index_80 (by omega) (by omega) (hP _ _ _ ?_)
                -- ret 80 lv=3:n,2:n,1:n,0:r st=n
                have he : argOf ar 2 = sl (A 435) (mfr A 1 + pl) (argOf ar 2).length := b1.trans (sl_congr fun i' h => (hall i' (by omega)).symm)
                rw [if_pos he] at hr
                exact ⟨rfl, rfl, by rw [← hr]; rfl⟩
            · omega
          | succ j ihj =>
            intro k' hk' hall
            have c1 := hM.b435 (mfr A 1 + pl + k')
            have c2 := hM.b435 (mfr A 2 + k')
            refine aw_iload_n (pc := 21) X d_Mo_index_21 (by rfl) ?_
            refine aw_aload_nR (pc := 22) X d_Mo_index_22 (by rfl) ?_
            refine aw_iconstN (pc := 23) X 2 d_Mo_index_23 (by decide) ?_
            -- invokevirtual 24 lv=3:n,2:n,1:n,0:r st=n,r,n
            refine aw_callV (pc := 24) X _ (s_Mo_length (d := 1) hnx (by omega) (by omega) hY hM) q_Mo_length k_1071 k_1073 k_42 (by omega) hM.1 (by rfl) d_Mo_index_24 (by omega) (Nat.le_of_ble_eq_true rfl) ⟨by omega, by omega⟩ (fun h => by cases h) (fun r w nx hp => ?_)
            obtain ⟨rfl, rfl, rfl⟩ := hp
            refine aw_icmp_geN (pc := 27) X (tgt := 75) d_Mo_index_27 (by rfl) (by omega) (by omega) (fun h27 => ?_) (fun h27 => ?_)
            -- br 27 lv=3:n,2:n,1:n,0:r st=
            · omega
            · refine aw_iload_n (pc := 30) X d_Mo_index_30 (by rfl) ?_
              refine aw_if_eqN (pc := 31) X (tgt := 75) d_Mo_index_31 (by rfl) (by omega) (fun h31 => ?_) (fun h31 => ?_)
              -- br 31 lv=3:n,2:n,1:n,0:r st=
              · exact absurd h31 (by decide)
              · refine aw_aload_nR (pc := 34) X d_Mo_index_34 (by rfl) ?_
                refine gm_22 (pc := 35) X hM (by omega) d_Mo_index_35 ?_
                refine aw_aload_nR (pc := 38) X d_Mo_index_38 (by rfl) ?_
                refine aw_iconstN (pc := 39) X 1 d_Mo_index_39 (by decide) ?_
                -- invokevirtual 40 lv=3:n,2:n,1:n,0:r st=n,r,a435
                refine aw_callV (pc := 40) X _ (s_Mo_from (d := 1) hnx (by omega) (by omega) hY hM) q_Mo_from k_1075 k_1077 k_43 (by omega) hM.1 (by rfl) d_Mo_index_40 (by omega) (Nat.le_of_ble_eq_true rfl) ⟨by omega, by omega⟩ (fun h => by cases h) (fun r w nx hp => ?_)
                obtain ⟨rfl, rfl, rfl⟩ := hp
                refine aw_iload_n (pc := 43) X d_Mo_index_43 (by rfl) ?_
                refine aw_iaddN (pc := 44) X d_Mo_index_44 ?_
                refine aw_iload_n (pc := 45) X d_Mo_index_45 (by rfl) ?_
                refine aw_iaddN (pc := 46) X d_Mo_index_46 ?_
                refine aw_caldN (pc := 47) X 435 0 (by omega) hM.a435 (by rfl) (by omega) (by decide) d_Mo_index_47 ?_
                refine aw_aload_nR (pc := 48) X d_Mo_index_48 (by rfl) ?_
                refine gm_22 (pc := 49) X hM (by omega) d_Mo_index_49 ?_
                refine aw_aload_nR (pc := 52) X d_Mo_index_52 (by rfl) ?_
                refine aw_iconstN (pc := 53) X 2 d_Mo_index_53 (by decide) ?_
                -- invokevirtual 54 lv=3:n,2:n,1:n,0:r st=n,r,a435,n
                refine aw_callV (pc := 54) X _ (s_Mo_from (d := 1) hnx (by omega) (by omega) hY hM) q_Mo_from k_1075 k_1077 k_43 (by omega) hM.1 (by rfl) d_Mo_index_54 (by omega) (Nat.le_of_ble_eq_true rfl) ⟨by omega, by omega⟩ (fun h => by cases h) (fun r w nx hp => ?_)
                obtain ⟨rfl, rfl, rfl⟩ := hp
                refine aw_iload_n (pc := 57) X d_Mo_index_57 (by rfl) ?_
                refine aw_iaddN (pc := 58) X d_Mo_index_58 ?_
                refine aw_caldN (pc := 59) X 435 0 (by omega) hM.a435 (by rfl) (by omega) (by decide) d_Mo_index_59 ?_
                refine aw_icmp_neN (pc := 60) X (tgt := 67) d_Mo_index_60 (by rfl) (by omega) (by omega) (fun h60 => ?_) (fun h60 => ?_)
                -- br 60 lv=3:n,2:n,1:n,0:r st=
                · refine aw_iconstN (pc := 67) X 0 d_Mo_index_67 (by decide) ?_
                  refine aw_istore_n (pc := 68) X (lv' := [(2, _), (3, _), (1, _), (0, _)]) d_Mo_index_68 (by decide) (by rfl) ?_
                  refine aw_iincN (pc := 69) X 1 (lv' := [(3, _), (2, _), (1, _), (0, _)]) d_Mo_index_69 (by rfl) (by decide) (by decide) (by rfl) ?_
                  refine aw_goto (pc := 72) X (tgt := 21) d_Mo_index_72 (by rfl) ?_
                  -- stop 21 lv=3:n,2:n,1:n,0:r st=
                  refine Zf _ (by omega) (fun e => h60 ?_)
                  have e3 := b1.symm.trans e
                  exact (sl_eq.mp e3 k' (by omega)).symm
                · refine aw_iconstN (pc := 63) X 1 d_Mo_index_63 (by decide) ?_
                  refine aw_goto (pc := 64) X (tgt := 68) d_Mo_index_64 (by rfl) ?_
                  refine aw_istore_n (pc := 68) X (lv' := [(2, _), (3, _), (1, _), (0, _)]) d_Mo_index_68 (by decide) (by rfl) ?_
                  refine aw_iincN (pc := 69) X 1 (lv' := [(3, _), (2, _), (1, _), (0, _)]) d_Mo_index_69 (by rfl) (by decide) (by decide) (by rfl) ?_
                  refine aw_goto (pc := 72) X (tgt := 21) d_Mo_index_72 (by rfl) ?_
                  -- stop 21 lv=3:n,2:n,1:n,0:r st=
                  exact ihj (k' + 1) (by omega) (fun i' hi' => by
                    by_cases e : i' = k'
                    · subst e; exact h60
                    · exact hall i' (by omega))
        refine aw_iconstN (pc := 17) X 1 d_Mo_index_17 (by decide) ?_
        refine aw_istore_n (pc := 18) X (lv' := [(2, _), (1, _), (0, _)]) d_Mo_index_18 (by decide) (by rfl) ?_
        refine aw_iconstN (pc := 19) X 0 d_Mo_index_19 (by decide) ?_
        refine aw_istore_n (pc := 20) X (lv' := [(3, _), (2, _), (1, _), (0, _)]) d_Mo_index_20 (by decide) (by rfl) ?_
        -- stop 21 lv=3:n,2:n,1:n,0:r st=
        exact M _ 0 (Nat.zero_add _) (fun i' h => by omega)
  refine aw_iconstN (pc := 0) X 0 d_Mo_index_0 (by decide) ?_
  refine aw_istore_n (pc := 1) X (lv' := [(1, _), (0, _)]) d_Mo_index_1 (by decide) (by rfl) ?_
  -- stop 2 lv=1:n,0:r st=
  exact L 402 0 (by omega) (by omega) rfl
theorem s_Mo_macros {T : List Def} (hnx : 442 ≤ nx) (hd : 2 ≤ d) (hT : RT (m 5) (A 421) (A 422) (A 423) (A 424) (A 425) T) (hM : hMo G w p m A V) : AC G y_Mo_macros b_Mo_macros 3 (some .int) d false [rf G 418] nx w 0 0 (fun r w' nx' => nx' = nx ∧ w' = w ∧ r = some (.int (nI (mcount T T.length)))) := by
  obtain ⟨t1, t2, t3⟩ := id hT
  refine AC.ofW (by decide) (Nat.le_of_ble_eq_true rfl) ?_
  intro E P hP Y X
  have X : aw_X G "RescanDeskModel" b_Mo_macros 3 (some .int) "macros" _ _ _ _ _ E := X
  refine AW.eql (lv' := [(0, _)]) (by rfl) ?_
  have L : ∀ (j i : Nat), i + j = T.length → AW G E 3 nx 0 0 w 4 [(2, .int (nI i)), (1, .int (nI (mcount T i))), (0, rf G 418)] [] := by
    intro j
    induction j with
    | zero =>
      intro i hi
      refine aw_iload_n (pc := 4) X d_Mo_macros_4 (by rfl) ?_
      refine aw_aload_nR (pc := 5) X d_Mo_macros_5 (by rfl) ?_
      refine gm_5 (pc := 6) X hM (by omega) d_Mo_macros_6 ?_
      refine aw_icmp_geN (pc := 9) X (tgt := 48) d_Mo_macros_9 (by rfl) (by omega) (by omega) (fun h9 => ?_) (fun h9 => ?_)
      -- br 9 lv=2:n,1:n,0:r st=
      · refine aw_iload_n (pc := 48) X d_Mo_macros_48 (by rfl) ?_
        refine aw_iret Y X rfl d_Mo_macros_49 (by omega) (by omega) (hP _ _ _ ?_)
        -- ret 49 lv=2:n,1:n,0:r st=n
        exact ⟨rfl, rfl, by rw [show i = T.length by omega]⟩
      · omega
    | succ j ih =>
      intro i hi
      have hti : T[i]? = some T[i] := List.getElem?_eq_getElem (by omega)
      obtain ⟨d1, d2, d3, -⟩ := t3 i _ hti
      have hlt : ∀ k, tfind T T[i].1 = some k → k < 2 ^ 31 := fun k hk => by have := tfd_lt hk; omega
      have hm : mcount T (i + 1) = mcount T i + (if tfind T T[i].1 = some i then 1 else 0) := by rw [mcount, hti]; rfl
      refine aw_iload_n (pc := 4) X d_Mo_macros_4 (by rfl) ?_
      refine aw_aload_nR (pc := 5) X d_Mo_macros_5 (by rfl) ?_
      refine gm_5 (pc := 6) X hM (by omega) d_Mo_macros_6 ?_
      refine aw_icmp_geN (pc := 9) X (tgt := 48) d_Mo_macros_9 (by rfl) (by omega) (by omega) (fun h9 => ?_) (fun h9 => ?_)
      -- br 9 lv=2:n,1:n,0:r st=
      · omega
      · refine aw_iload_n (pc := 12) X d_Mo_macros_12 (by rfl) ?_
        refine aw_aload_nR (pc := 13) X d_Mo_macros_13 (by rfl) ?_
        refine aw_aload_nR (pc := 14) X d_Mo_macros_14 (by rfl) ?_
        refine gm_6 (pc := 15) X hM (by omega) d_Mo_macros_15 ?_
        refine aw_bipushN (pc := 18) X 12 d_Mo_macros_18 (by decide) ?_
        refine aw_iload_n (pc := 20) X d_Mo_macros_20 (by rfl) ?_
        refine aw_imulN (pc := 21) X d_Mo_macros_21 ?_
        refine aw_aload_nR (pc := 22) X d_Mo_macros_22 (by rfl) ?_
        refine gm_7 (pc := 23) X hM (by omega) d_Mo_macros_23 ?_
        refine aw_iload_n (pc := 26) X d_Mo_macros_26 (by rfl) ?_
        refine aw_ialdN (pc := 27) X 422 1 (by omega) hM.a422 (by rfl) (by omega) (by decide) d_Mo_macros_27 ?_
        -- invokevirtual 28 lv=2:n,1:n,0:r st=n,n,a421,r,n
        refine aw_callV (pc := 28) X _ (s_Mo_find (d := 1) (l := 720) (u := 12 * i) (n := A 422 i) (T := T) hnx (by omega) (by omega) (by omega) (by omega) hM.b421 hT hM.a421 hM) q_Mo_find k_1033 k_1035 k_33 (by omega) hM.1 (by rfl) d_Mo_macros_28 (by omega) (Nat.le_of_ble_eq_true rfl) ⟨by omega, by omega⟩ (fun h => by cases h) (fun r w nx hp => ?_)
        obtain ⟨rfl, rfl, rfl⟩ := hp
        rw [d1, ← d3]
        refine aw_iload_n (pc := 31) X d_Mo_macros_31 (by rfl) ?_
        refine aw_icmp_ne (pc := 32) X (tgt := 39) d_Mo_macros_32 (by rfl) (fun h32 => ?_) (fun h32 => ?_)
        -- br 32 lv=2:n,1:n,0:r st=n
        · have hne : ¬ tfind T T[i].1 = some i := fun q => h32 ((pV_inj hlt (by omega)).mpr q)
          refine aw_iconstN (pc := 39) X 0 d_Mo_macros_39 (by decide) ?_
          refine aw_iaddN (pc := 40) X d_Mo_macros_40 ?_
          refine aw_istore_n (pc := 41) X (lv' := [(1, _), (2, _), (0, _)]) d_Mo_macros_41 (by decide) (by rfl) ?_
          refine aw_iincN (pc := 42) X 1 (lv' := [(2, _), (1, _), (0, _)]) d_Mo_macros_42 (by rfl) (by decide) (by decide) (by rfl) ?_
          refine aw_goto (pc := 45) X (tgt := 4) d_Mo_macros_45 (by rfl) ?_
          -- stop 4 lv=2:n,1:n,0:r st=
          rw [show mcount T i + 0 = mcount T (i + 1) by rw [hm, if_neg hne]]
          exact ih (i + 1) (by omega)
        · have he : tfind T T[i].1 = some i := (pV_inj hlt (by omega)).mp h32
          refine aw_iconstN (pc := 35) X 1 d_Mo_macros_35 (by decide) ?_
          refine aw_goto (pc := 36) X (tgt := 40) d_Mo_macros_36 (by rfl) ?_
          refine aw_iaddN (pc := 40) X d_Mo_macros_40 ?_
          refine aw_istore_n (pc := 41) X (lv' := [(1, _), (2, _), (0, _)]) d_Mo_macros_41 (by decide) (by rfl) ?_
          refine aw_iincN (pc := 42) X 1 (lv' := [(2, _), (1, _), (0, _)]) d_Mo_macros_42 (by rfl) (by decide) (by decide) (by rfl) ?_
          refine aw_goto (pc := 45) X (tgt := 4) d_Mo_macros_45 (by rfl) ?_
          -- stop 4 lv=2:n,1:n,0:r st=
          rw [show mcount T i + 1 = mcount T (i + 1) by rw [hm, if_pos he]]
          exact ih (i + 1) (by omega)
  refine aw_iconstN (pc := 0) X 0 d_Mo_macros_0 (by decide) ?_
  refine aw_istore_n (pc := 1) X (lv' := [(1, _), (0, _)]) d_Mo_macros_1 (by decide) (by rfl) ?_
  refine aw_iconstN (pc := 2) X 0 d_Mo_macros_2 (by decide) ?_
  refine aw_istore_n (pc := 3) X (lv' := [(2, _), (1, _), (0, _)]) d_Mo_macros_3 (by decide) (by rfl) ?_
  -- stop 4 lv=2:n,1:n,0:r st=
  exact L T.length 0 (by omega)
end

