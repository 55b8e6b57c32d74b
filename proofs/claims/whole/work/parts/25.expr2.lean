/-! Expression.combine, level, operand -/
section
variable {G : aw_G} {nx d : Nat} {w : Nat → va_E}
theorem c_Ep_combine {x : ES} {o : Nat} {a b : Int64} (hnx : 414 ≤ nx) (hd : 1 ≤ d) (ho : o < 65536) : AC G y_Ep_combine b_Ep_combine 6 (some .long) d false [rf G 413, .int (nI o), .long a, .long b] nx (wE G w x) 0 0 (fun r w' nx' => nx' = nx ∧ w' = wE G w (x.1, x.2.1, x.2.2 || (cmbS o a b).2) ∧ r = some (.long (cmbS o a b).1)) := by
  have hT : (nI o).toInt = (o : Int) := nI_toInt (by omega)
  have e1 := wE_at G w x
  have hxx : ∀ y : Bool, y = false → wE G w x = wE G w (x.1, x.2.1, x.2.2 || y) := fun y hy => by rw [hy, Bool.or_false]
  refine AC.ofW (by decide) (Nat.le_of_ble_eq_true rfl) ?_
  intro E P hP Y X
  have X : aw_X G "RescanDesk$Expression" b_Ep_combine 6 (some .long) "combine" _ _ _ _ _ E := X
  refine AW.eql (lv' := [(0, _), (1, _), (2, _), (4, _)]) (by rfl) ?_
  refine aw_iload_n (pc := 0) X d_Ep_combine_0 (by rfl) ?_
  -- lookupswitch 1 lv=0:r,1:n,2:l,4:l st=n
  by_cases q38 : o = 38
  · have hcm : cmbS o a b = (if a ≠ 0 ∧ b ≠ 0 then 1 else 0, false) := by rw [cmbS, if_pos q38]
    subst q38
    refine aw_lookup (pc := 1) X (off := 75) (tgt := 76) d_Ep_combine_1 (by decide) (by rw [hT]; decide) (by rfl) ?_
    refine aw_lload_n (pc := 76) X d_Ep_combine_76 (by rfl) ?_
    refine aw_lconst (pc := 77) X (v := 0) d_Ep_combine_77 (by decide) ?_
    refine aw_lcmp (pc := 78) X d_Ep_combine_78 ?_
    refine aw_if_eq (pc := 79) X (tgt := 93) d_Ep_combine_79 (by rfl) (fun h79 => ?_) (fun h79 => ?_)
    -- br 79 lv=0:r,1:n,2:l,4:l st=
    · have z : a = 0 := (lg_eq0 _ _).mp h79
      refine aw_iconstN (pc := 93) X 0 d_Ep_combine_93 (by decide) ?_
      -- invokestatic 94 lv=0:r,1:n,2:l,4:l st=n
      refine aw_callS (pc := 94) X (c_Ep_truth (d := 0) (b := false)) q_Ep_truth k_763 k_764 d_Ep_combine_94 (by omega) (Nat.le_of_ble_eq_true rfl) ⟨by omega, by omega⟩ (fun h => by cases h) (fun r w2 nx2 hp => ?_)
      obtain ⟨rfl, rfl, rfl⟩ := hp
      refine aw_lret Y X rfl d_Ep_combine_97 (by omega) (by omega) (hP _ _ _ ?_)
      -- ret 97 lv=0:r,1:n,2:l,4:l st=l
      exact ⟨rfl, hxx _ (by rw [hcm]), by rw [hcm]; simp [*]⟩
    · have z : ¬ a = 0 := fun e => h79 ((lg_eq0 _ _).mpr e)
      refine aw_lload (pc := 82) X d_Ep_combine_82 (by rfl) ?_
      refine aw_lconst (pc := 84) X (v := 0) d_Ep_combine_84 (by decide) ?_
      refine aw_lcmp (pc := 85) X d_Ep_combine_85 ?_
      refine aw_if_eq (pc := 86) X (tgt := 93) d_Ep_combine_86 (by rfl) (fun h86 => ?_) (fun h86 => ?_)
      -- br 86 lv=0:r,1:n,2:l,4:l st=
      · have z2 : b = 0 := (lg_eq0 _ _).mp h86
        refine aw_iconstN (pc := 93) X 0 d_Ep_combine_93 (by decide) ?_
        -- invokestatic 94 lv=0:r,1:n,2:l,4:l st=n
        refine aw_callS (pc := 94) X (c_Ep_truth (d := 0) (b := false)) q_Ep_truth k_763 k_764 d_Ep_combine_94 (by omega) (Nat.le_of_ble_eq_true rfl) ⟨by omega, by omega⟩ (fun h => by cases h) (fun r w2 nx2 hp => ?_)
        obtain ⟨rfl, rfl, rfl⟩ := hp
        refine aw_lret Y X rfl d_Ep_combine_97 (by omega) (by omega) (hP _ _ _ ?_)
        -- ret 97 lv=0:r,1:n,2:l,4:l st=l
        exact ⟨rfl, hxx _ (by rw [hcm]), by rw [hcm]; simp [*]⟩
      · have z2 : ¬ b = 0 := fun e => h86 ((lg_eq0 _ _).mpr e)
        refine aw_iconstN (pc := 89) X 1 d_Ep_combine_89 (by decide) ?_
        refine aw_goto (pc := 90) X (tgt := 94) d_Ep_combine_90 (by rfl) ?_
        -- invokestatic 94 lv=0:r,1:n,2:l,4:l st=n
        refine aw_callS (pc := 94) X (c_Ep_truth (d := 0) (b := true)) q_Ep_truth k_763 k_764 d_Ep_combine_94 (by omega) (Nat.le_of_ble_eq_true rfl) ⟨by omega, by omega⟩ (fun h => by cases h) (fun r w2 nx2 hp => ?_)
        obtain ⟨rfl, rfl, rfl⟩ := hp
        refine aw_lret Y X rfl d_Ep_combine_97 (by omega) (by omega) (hP _ _ _ ?_)
        -- ret 97 lv=0:r,1:n,2:l,4:l st=l
        exact ⟨rfl, hxx _ (by rw [hcm]), by rw [hcm]; simp [*]⟩
  by_cases q124 : o = 124
  · have hcm : cmbS o a b = (if a ≠ 0 ∨ b ≠ 0 then 1 else 0, false) := by rw [cmbS, if_neg q38, if_pos q124]
    subst q124
    refine aw_lookup (pc := 1) X (off := 97) (tgt := 98) d_Ep_combine_1 (by decide) (by rw [hT]; decide) (by rfl) ?_
    refine aw_lload_n (pc := 98) X d_Ep_combine_98 (by rfl) ?_
    refine aw_lconst (pc := 99) X (v := 0) d_Ep_combine_99 (by decide) ?_
    refine aw_lcmp (pc := 100) X d_Ep_combine_100 ?_
    refine aw_if_ne (pc := 101) X (tgt := 111) d_Ep_combine_101 (by rfl) (fun h101 => ?_) (fun h101 => ?_)
    -- br 101 lv=0:r,1:n,2:l,4:l st=
    · have z : ¬ a = 0 := fun e => h101 ((lg_eq0 _ _).mpr e)
      refine aw_iconstN (pc := 111) X 1 d_Ep_combine_111 (by decide) ?_
      refine aw_goto (pc := 112) X (tgt := 116) d_Ep_combine_112 (by rfl) ?_
      -- invokestatic 116 lv=0:r,1:n,2:l,4:l st=n
      refine aw_callS (pc := 116) X (c_Ep_truth (d := 0) (b := true)) q_Ep_truth k_763 k_764 d_Ep_combine_116 (by omega) (Nat.le_of_ble_eq_true rfl) ⟨by omega, by omega⟩ (fun h => by cases h) (fun r w2 nx2 hp => ?_)
      obtain ⟨rfl, rfl, rfl⟩ := hp
      refine aw_lret Y X rfl d_Ep_combine_119 (by omega) (by omega) (hP _ _ _ ?_)
      -- ret 119 lv=0:r,1:n,2:l,4:l st=l
      exact ⟨rfl, hxx _ (by rw [hcm]), by rw [hcm]; simp [*]⟩
    · have z : a = 0 := (lg_eq0 _ _).mp h101
      refine aw_lload (pc := 104) X d_Ep_combine_104 (by rfl) ?_
      refine aw_lconst (pc := 106) X (v := 0) d_Ep_combine_106 (by decide) ?_
      refine aw_lcmp (pc := 107) X d_Ep_combine_107 ?_
      refine aw_if_eq (pc := 108) X (tgt := 115) d_Ep_combine_108 (by rfl) (fun h108 => ?_) (fun h108 => ?_)
      -- br 108 lv=0:r,1:n,2:l,4:l st=
      · have z2 : b = 0 := (lg_eq0 _ _).mp h108
        refine aw_iconstN (pc := 115) X 0 d_Ep_combine_115 (by decide) ?_
        -- invokestatic 116 lv=0:r,1:n,2:l,4:l st=n
        refine aw_callS (pc := 116) X (c_Ep_truth (d := 0) (b := false)) q_Ep_truth k_763 k_764 d_Ep_combine_116 (by omega) (Nat.le_of_ble_eq_true rfl) ⟨by omega, by omega⟩ (fun h => by cases h) (fun r w2 nx2 hp => ?_)
        obtain ⟨rfl, rfl, rfl⟩ := hp
        refine aw_lret Y X rfl d_Ep_combine_119 (by omega) (by omega) (hP _ _ _ ?_)
        -- ret 119 lv=0:r,1:n,2:l,4:l st=l
        exact ⟨rfl, hxx _ (by rw [hcm]), by rw [hcm]; simp [*]⟩
      · have z2 : ¬ b = 0 := fun e => h108 ((lg_eq0 _ _).mpr e)
        refine aw_iconstN (pc := 111) X 1 d_Ep_combine_111 (by decide) ?_
        refine aw_goto (pc := 112) X (tgt := 116) d_Ep_combine_112 (by rfl) ?_
        -- invokestatic 116 lv=0:r,1:n,2:l,4:l st=n
        refine aw_callS (pc := 116) X (c_Ep_truth (d := 0) (b := true)) q_Ep_truth k_763 k_764 d_Ep_combine_116 (by omega) (Nat.le_of_ble_eq_true rfl) ⟨by omega, by omega⟩ (fun h => by cases h) (fun r w2 nx2 hp => ?_)
        obtain ⟨rfl, rfl, rfl⟩ := hp
        refine aw_lret Y X rfl d_Ep_combine_119 (by omega) (by omega) (hP _ _ _ ?_)
        -- ret 119 lv=0:r,1:n,2:l,4:l st=l
        exact ⟨rfl, hxx _ (by rw [hcm]), by rw [hcm]; simp [*]⟩
  by_cases q60 : o = 60
  · have hcm : cmbS o a b = (if a < b then 1 else 0, false) := by rw [cmbS, if_neg q38, if_neg q124, if_pos q60]
    subst q60
    refine aw_lookup (pc := 1) X (off := 119) (tgt := 120) d_Ep_combine_1 (by decide) (by rw [hT]; decide) (by rfl) ?_
    refine aw_lload_n (pc := 120) X d_Ep_combine_120 (by rfl) ?_
    refine aw_lload (pc := 121) X d_Ep_combine_121 (by rfl) ?_
    refine aw_lcmp (pc := 123) X d_Ep_combine_123 ?_
    refine aw_if_ge (pc := 124) X (tgt := 131) d_Ep_combine_124 (by rfl) (fun h124 => ?_) (fun h124 => ?_)
    -- br 124 lv=0:r,1:n,2:l,4:l st=
    · have z : ¬ a < b := fun e => absurd ((lg_lt0 _ _).mpr e) (Int32.not_lt.mpr h124)
      refine aw_iconstN (pc := 131) X 0 d_Ep_combine_131 (by decide) ?_
      -- invokestatic 132 lv=0:r,1:n,2:l,4:l st=n
      refine aw_callS (pc := 132) X (c_Ep_truth (d := 0) (b := false)) q_Ep_truth k_763 k_764 d_Ep_combine_132 (by omega) (Nat.le_of_ble_eq_true rfl) ⟨by omega, by omega⟩ (fun h => by cases h) (fun r w2 nx2 hp => ?_)
      obtain ⟨rfl, rfl, rfl⟩ := hp
      refine aw_lret Y X rfl d_Ep_combine_135 (by omega) (by omega) (hP _ _ _ ?_)
      -- ret 135 lv=0:r,1:n,2:l,4:l st=l
      exact ⟨rfl, hxx _ (by rw [hcm]), by rw [hcm]; simp [*]⟩
    · have z : a < b := (lg_lt0 _ _).mp (Int32.not_le.mp h124)
      refine aw_iconstN (pc := 127) X 1 d_Ep_combine_127 (by decide) ?_
      refine aw_goto (pc := 128) X (tgt := 132) d_Ep_combine_128 (by rfl) ?_
      -- invokestatic 132 lv=0:r,1:n,2:l,4:l st=n
      refine aw_callS (pc := 132) X (c_Ep_truth (d := 0) (b := true)) q_Ep_truth k_763 k_764 d_Ep_combine_132 (by omega) (Nat.le_of_ble_eq_true rfl) ⟨by omega, by omega⟩ (fun h => by cases h) (fun r w2 nx2 hp => ?_)
      obtain ⟨rfl, rfl, rfl⟩ := hp
      refine aw_lret Y X rfl d_Ep_combine_135 (by omega) (by omega) (hP _ _ _ ?_)
      -- ret 135 lv=0:r,1:n,2:l,4:l st=l
      exact ⟨rfl, hxx _ (by rw [hcm]), by rw [hcm]; simp [*]⟩
  by_cases q62 : o = 62
  · have hcm : cmbS o a b = (if b < a then 1 else 0, false) := by rw [cmbS, if_neg q38, if_neg q124, if_neg q60, if_pos q62]
    subst q62
    refine aw_lookup (pc := 1) X (off := 135) (tgt := 136) d_Ep_combine_1 (by decide) (by rw [hT]; decide) (by rfl) ?_
    refine aw_lload_n (pc := 136) X d_Ep_combine_136 (by rfl) ?_
    refine aw_lload (pc := 137) X d_Ep_combine_137 (by rfl) ?_
    refine aw_lcmp (pc := 139) X d_Ep_combine_139 ?_
    refine aw_if_le (pc := 140) X (tgt := 147) d_Ep_combine_140 (by rfl) (fun h140 => ?_) (fun h140 => ?_)
    -- br 140 lv=0:r,1:n,2:l,4:l st=
    · have z : ¬ b < a := fun e => absurd ((lg_gt0 _ _).mpr e) (Int32.not_lt.mpr h140)
      refine aw_iconstN (pc := 147) X 0 d_Ep_combine_147 (by decide) ?_
      -- invokestatic 148 lv=0:r,1:n,2:l,4:l st=n
      refine aw_callS (pc := 148) X (c_Ep_truth (d := 0) (b := false)) q_Ep_truth k_763 k_764 d_Ep_combine_148 (by omega) (Nat.le_of_ble_eq_true rfl) ⟨by omega, by omega⟩ (fun h => by cases h) (fun r w2 nx2 hp => ?_)
      obtain ⟨rfl, rfl, rfl⟩ := hp
      refine aw_lret Y X rfl d_Ep_combine_151 (by omega) (by omega) (hP _ _ _ ?_)
      -- ret 151 lv=0:r,1:n,2:l,4:l st=l
      exact ⟨rfl, hxx _ (by rw [hcm]), by rw [hcm]; simp [*]⟩
    · have z : b < a := (lg_gt0 _ _).mp (Int32.not_le.mp h140)
      refine aw_iconstN (pc := 143) X 1 d_Ep_combine_143 (by decide) ?_
      refine aw_goto (pc := 144) X (tgt := 148) d_Ep_combine_144 (by rfl) ?_
      -- invokestatic 148 lv=0:r,1:n,2:l,4:l st=n
      refine aw_callS (pc := 148) X (c_Ep_truth (d := 0) (b := true)) q_Ep_truth k_763 k_764 d_Ep_combine_148 (by omega) (Nat.le_of_ble_eq_true rfl) ⟨by omega, by omega⟩ (fun h => by cases h) (fun r w2 nx2 hp => ?_)
      obtain ⟨rfl, rfl, rfl⟩ := hp
      refine aw_lret Y X rfl d_Ep_combine_151 (by omega) (by omega) (hP _ _ _ ?_)
      -- ret 151 lv=0:r,1:n,2:l,4:l st=l
      exact ⟨rfl, hxx _ (by rw [hcm]), by rw [hcm]; simp [*]⟩
  by_cases q61 : o = 61
  · have hcm : cmbS o a b = (if a = b then 1 else 0, false) := by rw [cmbS, if_neg q38, if_neg q124, if_neg q60, if_neg q62, if_pos q61]
    subst q61
    refine aw_lookup (pc := 1) X (off := 151) (tgt := 152) d_Ep_combine_1 (by decide) (by rw [hT]; decide) (by rfl) ?_
    refine aw_lload_n (pc := 152) X d_Ep_combine_152 (by rfl) ?_
    refine aw_lload (pc := 153) X d_Ep_combine_153 (by rfl) ?_
    refine aw_lcmp (pc := 155) X d_Ep_combine_155 ?_
    refine aw_if_ne (pc := 156) X (tgt := 163) d_Ep_combine_156 (by rfl) (fun h156 => ?_) (fun h156 => ?_)
    -- br 156 lv=0:r,1:n,2:l,4:l st=
    · have z : ¬ a = b := fun e => h156 ((lg_eq0 _ _).mpr e)
      refine aw_iconstN (pc := 163) X 0 d_Ep_combine_163 (by decide) ?_
      -- invokestatic 164 lv=0:r,1:n,2:l,4:l st=n
      refine aw_callS (pc := 164) X (c_Ep_truth (d := 0) (b := false)) q_Ep_truth k_763 k_764 d_Ep_combine_164 (by omega) (Nat.le_of_ble_eq_true rfl) ⟨by omega, by omega⟩ (fun h => by cases h) (fun r w2 nx2 hp => ?_)
      obtain ⟨rfl, rfl, rfl⟩ := hp
      refine aw_lret Y X rfl d_Ep_combine_167 (by omega) (by omega) (hP _ _ _ ?_)
      -- ret 167 lv=0:r,1:n,2:l,4:l st=l
      exact ⟨rfl, hxx _ (by rw [hcm]), by rw [hcm]; simp [*]⟩
    · have z : a = b := (lg_eq0 _ _).mp h156
      refine aw_iconstN (pc := 159) X 1 d_Ep_combine_159 (by decide) ?_
      refine aw_goto (pc := 160) X (tgt := 164) d_Ep_combine_160 (by rfl) ?_
      -- invokestatic 164 lv=0:r,1:n,2:l,4:l st=n
      refine aw_callS (pc := 164) X (c_Ep_truth (d := 0) (b := true)) q_Ep_truth k_763 k_764 d_Ep_combine_164 (by omega) (Nat.le_of_ble_eq_true rfl) ⟨by omega, by omega⟩ (fun h => by cases h) (fun r w2 nx2 hp => ?_)
      obtain ⟨rfl, rfl, rfl⟩ := hp
      refine aw_lret Y X rfl d_Ep_combine_167 (by omega) (by omega) (hP _ _ _ ?_)
      -- ret 167 lv=0:r,1:n,2:l,4:l st=l
      exact ⟨rfl, hxx _ (by rw [hcm]), by rw [hcm]; simp [*]⟩
  by_cases q43 : o = 43
  · have hcm : cmbS o a b = (a + b, false) := by rw [cmbS, if_neg q38, if_neg q124, if_neg q60, if_neg q62, if_neg q61, if_pos q43]
    subst q43
    refine aw_lookup (pc := 1) X (off := 167) (tgt := 168) d_Ep_combine_1 (by decide) (by rw [hT]; decide) (by rfl) ?_
    refine aw_lload_n (pc := 168) X d_Ep_combine_168 (by rfl) ?_
    refine aw_lload (pc := 169) X d_Ep_combine_169 (by rfl) ?_
    refine aw_ladd (pc := 171) X d_Ep_combine_171 ?_
    refine aw_lret Y X rfl d_Ep_combine_172 (by omega) (by omega) (hP _ _ _ ?_)
    -- ret 172 lv=0:r,1:n,2:l,4:l st=l
    exact ⟨rfl, hxx _ (by rw [hcm]), by rw [hcm]⟩
  by_cases q45 : o = 45
  · have hcm : cmbS o a b = (a - b, false) := by rw [cmbS, if_neg q38, if_neg q124, if_neg q60, if_neg q62, if_neg q61, if_neg q43, if_pos q45]
    subst q45
    refine aw_lookup (pc := 1) X (off := 172) (tgt := 173) d_Ep_combine_1 (by decide) (by rw [hT]; decide) (by rfl) ?_
    refine aw_lload_n (pc := 173) X d_Ep_combine_173 (by rfl) ?_
    refine aw_lload (pc := 174) X d_Ep_combine_174 (by rfl) ?_
    refine aw_lsub (pc := 176) X d_Ep_combine_176 ?_
    refine aw_lret Y X rfl d_Ep_combine_177 (by omega) (by omega) (hP _ _ _ ?_)
    -- ret 177 lv=0:r,1:n,2:l,4:l st=l
    exact ⟨rfl, hxx _ (by rw [hcm]), by rw [hcm]⟩
  by_cases q42 : o = 42
  · have hcm : cmbS o a b = (a * b, false) := by rw [cmbS, if_neg q38, if_neg q124, if_neg q60, if_neg q62, if_neg q61, if_neg q43, if_neg q45, if_pos q42]
    subst q42
    refine aw_lookup (pc := 1) X (off := 177) (tgt := 178) d_Ep_combine_1 (by decide) (by rw [hT]; decide) (by rfl) ?_
    refine aw_lload_n (pc := 178) X d_Ep_combine_178 (by rfl) ?_
    refine aw_lload (pc := 179) X d_Ep_combine_179 (by rfl) ?_
    refine aw_lmul (pc := 181) X d_Ep_combine_181 ?_
    refine aw_lret Y X rfl d_Ep_combine_182 (by omega) (by omega) (hP _ _ _ ?_)
    -- ret 182 lv=0:r,1:n,2:l,4:l st=l
    exact ⟨rfl, hxx _ (by rw [hcm]), by rw [hcm]⟩
  refine aw_lookup (pc := 1) X (off := 182) (tgt := 183) d_Ep_combine_1 (by decide) (by
    rw [hT]
    simp only [Op.lookupswitch.offset_cons, lko_nil]
    repeat rw [if_neg (by omega)]) (by rfl) ?_
  refine aw_aload_nR (pc := 183) X d_Ep_combine_183 (by rfl) ?_
  refine aw_iload_n (pc := 184) X d_Ep_combine_184 (by rfl) ?_
  refine aw_lload_n (pc := 185) X d_Ep_combine_185 (by rfl) ?_
  refine aw_lload (pc := 186) X d_Ep_combine_186 (by rfl) ?_
  -- invokevirtual 188 lv=0:r,1:n,2:l,4:l st=l,l,n,r
  refine aw_callV (pc := 188) X _ (c_Ep_divide (d := 0) (x := x) hnx ho) q_Ep_divide k_766 k_768 k_20 (by omega) e1 (by rfl) d_Ep_combine_188 (by omega) (Nat.le_of_ble_eq_true rfl) ⟨by omega, by omega⟩ (fun h => by cases h) (fun r w2 nx2 hp => ?_)
  obtain ⟨rfl, ⟨z, rfl, rfl⟩ | ⟨z, rfl, rfl⟩⟩ := hp
  · have hcm : cmbS o a b = (0, true) := by rw [cmbS, if_neg q38, if_neg q124, if_neg q60, if_neg q62, if_neg q61, if_neg q43, if_neg q45, if_neg q42, if_pos z]
    refine aw_lret Y X rfl d_Ep_combine_191 (by omega) (by omega) (hP _ _ _ ?_)
    -- ret 191 lv=0:r,1:n,2:l,4:l st=l
    exact ⟨rfl, by rw [hcm, Bool.or_true], by rw [hcm]⟩
  · have hcm : cmbS o a b = (if o = 47 then a / b else a - a / b * b, false) := by
      rw [cmbS, if_neg q38, if_neg q124, if_neg q60, if_neg q62, if_neg q61, if_neg q43, if_neg q45, if_neg q42, if_neg z]
      split <;> rfl
    refine aw_lret Y X rfl d_Ep_combine_191 (by omega) (by omega) (hP _ _ _ ?_)
    -- ret 191 lv=0:r,1:n,2:l,4:l st=l
    exact ⟨rfl, hxx _ (by rw [hcm]), by rw [hcm]⟩
/-- the value of a text: fuel; strength (5: an operand); depth; what stands at the left, if it is in the loop -/
def ev (S : List Nat) : Nat → Nat → Nat → Int64 → Bool → ES → Option (Int64 × ES)
  | 0, _, _, _, _, _ => none
  | f + 1, s, dp, l, true, x =>
    if x.2.1 = false ∧ x.1 < S.length ∧ strS (S.getD x.1 0) = s then
      (ev S f (s + 1) dp 0 false (x.1 + 1, x.2)).bind fun q => ev S f s dp (cmbS (S.getD x.1 0) l q.1).1 true (q.2.1, q.2.2.1, q.2.2.2 || (cmbS (S.getD x.1 0) l q.1).2)
    else some (l, x)
  | f + 1, s, dp, _, false, x =>
    if s ≤ 4 then (ev S f (s + 1) dp 0 false x).bind fun q => ev S f s dp q.1 true q.2
    else if S.getD x.1 0 = 45 then (if 6 ≤ dp then some (0, x.1, true, x.2.2) else (ev S f 5 (dp + 1) 0 false (x.1 + 1, x.2)).bind fun q => some (-q.1, q.2))
    else if S.getD x.1 0 = 40 then (if 6 ≤ dp then some (0, x.1, true, x.2.2) else (ev S f 1 (dp + 1) 0 false (x.1 + 1, x.2)).bind fun q => some (q.1, if S.getD q.2.1 0 = 41 then (q.2.1 + 1, q.2.2) else (q.2.1, true, q.2.2.2)))
    else some ((numV 0 (S.drop x.1)).1, x.1 + (numV 0 (S.drop x.1)).2, x.2.1 || decide ((numV 0 (S.drop x.1)).2 = 0), x.2.2)
end

