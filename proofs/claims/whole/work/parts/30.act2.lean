/-! Expander.act -/
theorem lnLen_le (L : List Nat) : lnLen L ≤ L.length := by
  unfold lnLen
  split
  · omega
  · exact Nat.le_refl _
theorem hX.tab {G : aw_G} {w w' : Nat → va_E} {q : XS} {T : List Def} (h : hX G w q) (hT : hTa G w' T) (hf : fr 15 317 w w') : hX G w' (q.1, q.2.1, q.2.2.1, T, q.2.2.2.2) :=
  ⟨h.1.keep hf (by omega), h.2.1.keep hf (by omega), hT, h.2.2.2.1.keep hf (by omega), h.2.2.2.2.1.keep hf (by omega), (hf _ (by omega)).trans h.2.2.2.2.2⟩
theorem hX.row {G : aw_G} {w w' : Nat → va_E} {q : XS} {p : Option Nat} {R : Nat → List Nat} (h : hX G w q) (hR : hRo G w' p R) (hf : fr 5 15 w w') : hX G w' (q.1, p, R, q.2.2.2) :=
  ⟨h.1.keep hf (by omega), hR, h.2.2.1.keep hf (by omega), h.2.2.2.1.keep hf (by omega), h.2.2.2.2.1.keep hf (by omega), (hf _ (by omega)).trans h.2.2.2.2.2⟩
theorem hX.made {G : aw_G} {w w' : Nat → va_E} {q : XS} {s : List Nat} (h : hX G w q) (hs : hTx G w' 416 601 s) (hf : fr 416 418 w w') : hX G w' (q.1, q.2.1, q.2.2.1, q.2.2.2.1, s) :=
  ⟨h.1.keep hf (by omega), h.2.1.keep hf (by omega), h.2.2.1.keep hf (by omega), h.2.2.2.1.keep hf (by omega), hs, (hf _ (by omega)).trans h.2.2.2.2.2⟩
section
variable {G : aw_G} {nx d : Nat} {w : Nat → va_E}
theorem s_Ex_act {a k f : Nat} {t : Def} {ar : List (List Nat)} {q : XS} {va : Int64} {x' : ES} (hnx : 418 ≤ nx) (hd : 60 ≤ d) (ha : 321 ≤ a ∧ a + 7 ≤ 412) (hk : k < 16) (hx : hX G w q) (h : hRdy G w a t ar) (hev : ev ((argOf ar 1).filter nbl) f 1 0 0 false (0, false, false) = some (va, x')) : AC G y_Ex_act b_Ex_act 3 (some .int) d false [rf G 412, rf G a, .ref (G.2.2.2.2 k)] nx w 0 0 (fun r w' nx' => nx' = nx ∧ r = some (.int (nI (actS k ar va x' q).1)) ∧ hX G w' (actS k ar va x' q).2 ∧ fx w w') := by
  have hx0 := hx
  obtain ⟨x1, x2, x3, x4, x5, x6⟩ := hx
  have h0 := h
  obtain ⟨st, gg, dp, bg, c1, c2, c3, c4, c5, c6⟩ := h
  have c11 := c1.1
  have c1' : w a = aObj 7 [rf G (a + 1), rf G 319, rf G (a + 6), .int (nI ar.length), .int (nI dp), .int (nI (bN bg))] := c11
  have he' : w 412 = aObj 8 [rf G 3, rf G 5, rf G 15, rf G 413, rf G 416] := x6
  have a1 : sl gg (frm st ar.length 1) (too st ar.length 1 - frm st ar.length 1) = argOf ar 1 := c6 1
  have hn9 := c2.1
  have f1 := c2.ft 1
  obtain ⟨nT, t15⟩ : ∃ n, w 15 = aObj 4 [rf G 16, .int (nI n)] := by obtain ⟨fa, g, z⟩ := x3; exact ⟨_, z.2.1⟩
  obtain ⟨z0, S0, ep1, ep2⟩ := id x4
  refine AC.ofW (by decide) (Nat.le_of_ble_eq_true rfl) ?_
  intro E P hP Y X
  have X : aw_X G "RescanDesk$Expander" b_Ex_act 3 (some .int) "act" _ _ _ _ _ E := X
  refine AW.eql (lv' := [(0, _), (1, _), (2, _)]) (by rfl) ?_
  refine aw_gets (pc := 0) X X.c.1 k_652 d_Ex_act_0 ?_
  refine aw_aload_n (pc := 3) X d_Ex_act_3 (by rfl) ?_
  -- stop 4 lv=0:r,1:r,2:c st=c,c
  refine aw_callU (pc := 4) X (x := ⟨"RescanDesk$BuiltIn", "ordinal", "()I"⟩) (owner := "java/lang/Enum") "RescanDesk$BuiltIn" _ (c_JE_ordinal (d := 0) hk) q_JE_ordinal rfl ⟨by decide, by decide, by decide +kernel⟩ k_654 k_655 k_658 k_657 (X.c.2.2.2.2.2.2 k hk).1 d_Ex_act_4 (by omega) (Nat.le_of_ble_eq_true rfl) ⟨by omega, by omega⟩ (fun h => by cases h) (fun r w2 nx2 hp => ?_)
  obtain ⟨rfl, rfl, rfl⟩ := hp
  refine aw_ti (pc := 7) X X.c.2.1 hk (by omega) rfl d_Ex_act_7 ?_
  by_cases k0 : k = 0
  · subst k0
    refine aw_tableIn (pc := 8) X (off := 48) (tgt := 56) d_Ex_act_8 (by decide) (by decide) (by decide) (by rfl) ?_
    refine aw_aload_nR (pc := 56) X d_Ex_act_56 (by rfl) ?_
    refine aw_aload_nR (pc := 57) X d_Ex_act_57 (by rfl) ?_
    refine aw_iconstN (pc := 58) X 0 d_Ex_act_58 (by decide) ?_
    -- invokevirtual 59 lv=0:r,1:r,2:c st=n,r,r
    refine aw_callV (pc := 59) X _ (s_Ex_define (d := 4) (top := false) hnx (by omega) ha x6 x3 h0) q_Ex_define k_660 k_662 k_12 (by omega) x6 (by rfl) d_Ex_act_59 (by omega) (Nat.le_of_ble_eq_true rfl) ⟨by omega, by omega⟩ (fun h => by cases h) (fun r w2 nx2 hp => ?_)
    obtain ⟨rfl, rfl, h4, hf4⟩ := hp
    refine aw_iret Y X rfl d_Ex_act_62 (by omega) (by omega) (hP _ _ _ ?_)
    -- ret 62 lv=0:r,1:r,2:c st=n
    exact ⟨rfl, rfl, hx0.tab h4 hf4, fx.of hf4 (by omega)⟩
  by_cases k1 : k = 1
  · subst k1
    refine aw_tableIn (pc := 8) X (off := 55) (tgt := 63) d_Ex_act_8 (by decide) (by decide) (by decide) (by rfl) ?_
    refine aw_aload_nR (pc := 63) X d_Ex_act_63 (by rfl) ?_
    refine aw_aload_nR (pc := 64) X d_Ex_act_64 (by rfl) ?_
    refine aw_iconstN (pc := 65) X 1 d_Ex_act_65 (by decide) ?_
    -- invokevirtual 66 lv=0:r,1:r,2:c st=n,r,r
    refine aw_callV (pc := 66) X _ (s_Ex_define (d := 4) (top := true) hnx (by omega) ha x6 x3 h0) q_Ex_define k_660 k_662 k_12 (by omega) x6 (by rfl) d_Ex_act_66 (by omega) (Nat.le_of_ble_eq_true rfl) ⟨by omega, by omega⟩ (fun h => by cases h) (fun r w2 nx2 hp => ?_)
    obtain ⟨rfl, rfl, h4, hf4⟩ := hp
    refine aw_iret Y X rfl d_Ex_act_69 (by omega) (by omega) (hP _ _ _ ?_)
    -- ret 69 lv=0:r,1:r,2:c st=n
    exact ⟨rfl, rfl, hx0.tab h4 hf4, fx.of hf4 (by omega)⟩
  by_cases k2 : k = 2
  · subst k2
    refine aw_tableIn (pc := 8) X (off := 62) (tgt := 70) d_Ex_act_8 (by decide) (by decide) (by decide) (by rfl) ?_
    refine aw_aload_nR (pc := 70) X d_Ex_act_70 (by rfl) ?_
    refine aw_getO (pc := 71) X _ 2 (by omega) (by (repeat (first | rw [aw_up_eq] | rw [aw_up_ne _ _ (by first | assumption | omega)])) <;> first | assumption | rfl) (by rfl) in_Ex (by decide) k_358 (by rfl) d_Ex_act_71 ?_
    refine aw_aload_nR (pc := 74) X d_Ex_act_74 (by rfl) ?_
    refine aw_getNO (pc := 75) X _ 1 (by omega) (by (repeat (first | rw [aw_up_eq] | rw [aw_up_ne _ _ (by first | assumption | omega)])) <;> first | assumption | rfl) (by rfl) in_Ca (by decide) k_282 (by rfl) d_Ex_act_75 ?_
    refine aw_aload_nR (pc := 78) X d_Ex_act_78 (by rfl) ?_
    refine aw_iconstN (pc := 79) X 1 d_Ex_act_79 (by decide) ?_
    -- invokevirtual 80 lv=0:r,1:r,2:c st=n,r,r,r
    refine aw_callV (pc := 80) X _ (c_Ca_from (d := 0) (i := 1) (by omega) (by omega) c2 c1) q_Ca_from k_627 k_628 k_629 (by omega) c11 (by rfl) d_Ex_act_80 (by omega) (Nat.le_of_ble_eq_true rfl) ⟨by omega, by omega⟩ (fun h => by cases h) (fun r w2 nx2 hp => ?_)
    obtain ⟨rfl, rfl, rfl⟩ := hp
    refine aw_aload_nR (pc := 83) X d_Ex_act_83 (by rfl) ?_
    refine aw_iconstN (pc := 84) X 1 d_Ex_act_84 (by decide) ?_
    -- invokevirtual 85 lv=0:r,1:r,2:c st=n,r,n,r,r
    refine aw_callV (pc := 85) X _ (c_Ca_to (d := 0) (i := 1) (by omega) (by omega) c2 c1) q_Ca_to k_631 k_632 k_633 (by omega) c11 (by rfl) d_Ex_act_85 (by omega) (Nat.le_of_ble_eq_true rfl) ⟨by omega, by omega⟩ (fun h => by cases h) (fun r w2 nx2 hp => ?_)
    obtain ⟨rfl, rfl, rfl⟩ := hp
    refine aw_callV (pc := 88) X _ (s_Ta_pop (d := 2) (q := 319) (l := 400) (by omega) (by omega) (by omega) (by omega) f1.1 f1.2 c4 x3 c3) q_Ta_pop k_687 k_688 k_689 (by omega) t15 (by rfl) d_Ex_act_88 (by omega) (Nat.le_of_ble_eq_true rfl) ⟨by omega, by omega⟩ (fun h => by cases h) (fun r w2 nx2 hp => ?_)
    obtain ⟨rfl, rfl, h4, hf4⟩ := hp
    rw [a1] at h4
    refine aw_iconstN (pc := 91) X 0 d_Ex_act_91 (by decide) ?_
    refine aw_iret Y X rfl d_Ex_act_92 (by omega) (by omega) (hP _ _ _ ?_)
    -- ret 92 lv=0:r,1:r,2:c st=n
    exact ⟨rfl, rfl, hx0.tab h4 (hf4.mono (by omega) (by omega)), fx.of hf4 (by omega)⟩
  by_cases k3 : k = 3
  · subst k3
    refine aw_tableIn (pc := 8) X (off := 85) (tgt := 93) d_Ex_act_8 (by decide) (by decide) (by decide) (by rfl) ?_
    refine aw_aload_nR (pc := 93) X d_Ex_act_93 (by rfl) ?_
    refine aw_getO (pc := 94) X _ 2 (by omega) (by (repeat (first | rw [aw_up_eq] | rw [aw_up_ne _ _ (by first | assumption | omega)])) <;> first | assumption | rfl) (by rfl) in_Ex (by decide) k_358 (by rfl) d_Ex_act_94 ?_
    refine aw_aload_nR (pc := 97) X d_Ex_act_97 (by rfl) ?_
    refine aw_getNO (pc := 98) X _ 1 (by omega) (by (repeat (first | rw [aw_up_eq] | rw [aw_up_ne _ _ (by first | assumption | omega)])) <;> first | assumption | rfl) (by rfl) in_Ca (by decide) k_282 (by rfl) d_Ex_act_98 ?_
    refine aw_aload_nR (pc := 101) X d_Ex_act_101 (by rfl) ?_
    refine aw_iconstN (pc := 102) X 1 d_Ex_act_102 (by decide) ?_
    -- invokevirtual 103 lv=0:r,1:r,2:c st=n,r,r,r
    refine aw_callV (pc := 103) X _ (c_Ca_from (d := 0) (i := 1) (by omega) (by omega) c2 c1) q_Ca_from k_627 k_628 k_629 (by omega) c11 (by rfl) d_Ex_act_103 (by omega) (Nat.le_of_ble_eq_true rfl) ⟨by omega, by omega⟩ (fun h => by cases h) (fun r w2 nx2 hp => ?_)
    obtain ⟨rfl, rfl, rfl⟩ := hp
    refine aw_aload_nR (pc := 106) X d_Ex_act_106 (by rfl) ?_
    refine aw_iconstN (pc := 107) X 1 d_Ex_act_107 (by decide) ?_
    -- invokevirtual 108 lv=0:r,1:r,2:c st=n,r,n,r,r
    refine aw_callV (pc := 108) X _ (c_Ca_to (d := 0) (i := 1) (by omega) (by omega) c2 c1) q_Ca_to k_631 k_632 k_633 (by omega) c11 (by rfl) d_Ex_act_108 (by omega) (Nat.le_of_ble_eq_true rfl) ⟨by omega, by omega⟩ (fun h => by cases h) (fun r w2 nx2 hp => ?_)
    obtain ⟨rfl, rfl, rfl⟩ := hp
    refine aw_callV (pc := 111) X _ (s_Ta_popAll (d := 2) (q := 319) (l := 400) (by omega) (by omega) (by omega) (by omega) (by omega) f1.1 f1.2 c4 x3 c3) q_Ta_popAll k_695 k_696 k_697 (by omega) t15 (by rfl) d_Ex_act_111 (by omega) (Nat.le_of_ble_eq_true rfl) ⟨by omega, by omega⟩ (fun h => by cases h) (fun r w2 nx2 hp => ?_)
    obtain ⟨rfl, rfl, h4, hf4⟩ := hp
    rw [a1] at h4
    refine aw_iconstN (pc := 114) X 0 d_Ex_act_114 (by decide) ?_
    refine aw_iret Y X rfl d_Ex_act_115 (by omega) (by omega) (hP _ _ _ ?_)
    -- ret 115 lv=0:r,1:r,2:c st=n
    exact ⟨rfl, rfl, hx0.tab h4 (hf4.mono (by omega) (by omega)), fx.of hf4 (by omega)⟩
  by_cases k12 : k = 12
  · subst k12
    refine aw_tableIn (pc := 8) X (off := 108) (tgt := 116) d_Ex_act_8 (by decide) (by decide) (by decide) (by rfl) ?_
    refine aw_aload_nR (pc := 116) X d_Ex_act_116 (by rfl) ?_
    refine aw_getO (pc := 117) X _ 1 (by omega) (by (repeat (first | rw [aw_up_eq] | rw [aw_up_ne _ _ (by first | assumption | omega)])) <;> first | assumption | rfl) (by rfl) in_Ex (by decide) k_357 (by rfl) d_Ex_act_117 ?_
    refine aw_aload_nR (pc := 120) X d_Ex_act_120 (by rfl) ?_
    refine aw_iconstN (pc := 121) X 1 d_Ex_act_121 (by decide) ?_
    -- invokevirtual 122 lv=0:r,1:r,2:c st=n,r,r
    refine aw_callV (pc := 122) X _ (c_Ca_value (d := 2) (i := 1) (by omega) (by omega) (by omega) (by omega) c2 c1 c4 c3) q_Ca_value k_699 k_700 k_701 (by omega) c11 (by rfl) d_Ex_act_122 (by omega) (Nat.le_of_ble_eq_true rfl) ⟨by omega, by omega⟩ (fun h => by cases h) (fun r w2 nx2 hp => ?_)
    obtain ⟨rfl, rfl, rfl⟩ := hp
    refine aw_callV (pc := 125) X _ (s_Ro_choose (d := 0) (by omega) x2) q_Ro_choose k_707 k_708 k_709 (by omega) x2.1 (by rfl) d_Ex_act_125 (by omega) (Nat.le_of_ble_eq_true rfl) ⟨by omega, by omega⟩ (fun h => by cases h) (fun r w2 nx2 hp => ?_)
    obtain ⟨rfl, rfl, h4, hf4⟩ := hp
    rw [show argL gg st ar.length 1 = argOf ar 1 from c6 1] at h4
    refine aw_iconstN (pc := 128) X 0 d_Ex_act_128 (by decide) ?_
    refine aw_iret Y X rfl d_Ex_act_129 (by omega) (by omega) (hP _ _ _ ?_)
    -- ret 129 lv=0:r,1:r,2:c st=n
    exact ⟨rfl, rfl, hx0.row h4 hf4, fx.of hf4 (by omega)⟩
  by_cases k13 : k = 13
  · subst k13
    refine aw_tableIn (pc := 8) X (off := 122) (tgt := 130) d_Ex_act_8 (by decide) (by decide) (by decide) (by rfl) ?_
    refine aw_aload_nR (pc := 130) X d_Ex_act_130 (by rfl) ?_
    refine aw_aload_nR (pc := 131) X d_Ex_act_131 (by rfl) ?_
    -- invokevirtual 132 lv=0:r,1:r,2:c st=r,r
    refine aw_callV (pc := 132) X _ (s_Ex_undivert (d := 4) hnx (by omega) ha x6 x2 h0) q_Ex_undivert k_712 k_714 k_15 (by omega) x6 (by rfl) d_Ex_act_132 (by omega) (Nat.le_of_ble_eq_true rfl) ⟨by omega, by omega⟩ (fun h => by cases h) (fun r w2 nx2 hp => ?_)
    obtain ⟨rfl, rfl, h4, hf4⟩ := hp
    refine aw_iret Y X rfl d_Ex_act_135 (by omega) (by omega) (hP _ _ _ ?_)
    -- ret 135 lv=0:r,1:r,2:c st=n
    exact ⟨rfl, rfl, hx0.row h4 hf4, fx.of hf4 (by omega)⟩
  by_cases k15 : k = 15
  · subst k15
    obtain ⟨fl, ff, g1, g2, g3, g4⟩ := id x1
    refine aw_tableIn (pc := 8) X (off := 128) (tgt := 136) d_Ex_act_8 (by decide) (by decide) (by decide) (by rfl) ?_
    refine aw_aload_nR (pc := 136) X d_Ex_act_136 (by rfl) ?_
    refine aw_getO (pc := 137) X _ 0 (by omega) (by (repeat (first | rw [aw_up_eq] | rw [aw_up_ne _ _ (by first | assumption | omega)])) <;> first | assumption | rfl) (by rfl) in_Ex (by decide) k_356 (by rfl) d_Ex_act_137 ?_
    -- invokevirtual 140 lv=0:r,1:r,2:c st=r
    refine aw_callV (pc := 140) X _ (c_Fr_takeLine (d := 0) (a := 3) (c := 4) (n := 600 - q.1.length) (f := ff) (by omega) (by omega) (by omega) (by omega) g4 g1 g2) q_Fr_takeLine k_731 k_732 k_733 (by omega) g1 (by rfl) d_Ex_act_140 (by omega) (Nat.le_of_ble_eq_true rfl) ⟨by omega, by omega⟩ (fun h => by cases h) (fun r w2 nx2 hp => ?_)
    obtain ⟨rfl, rfl, rfl⟩ := hp
    refine aw_iconstN (pc := 143) X 0 d_Ex_act_143 (by decide) ?_
    refine aw_iret Y X rfl d_Ex_act_144 (by omega) (by omega) (hP _ _ _ ?_)
    -- ret 144 lv=0:r,1:r,2:c st=n
    rw [show 600 - (600 - q.1.length) = q.1.length by omega, ← g3]
    have hle := lnLen_le q.1
    have hf4 : fr 3 4 w2 (aw_up w2 3 (oFr G 4 (600 - q.1.length + lnLen q.1))) := (fr.refl _ _ _).up _ (by omega)
    refine ⟨rfl, rfl, ⟨⟨by show (q.1.drop _).length ≤ 600; rw [List.length_drop]; omega, ff, ?_, (hf4 _ (by omega)).trans g2, ?_, g4⟩, x2.keep hf4 (by omega), x3.keep hf4 (by omega), x4.keep hf4 (by omega), x5.keep hf4 (by omega), (hf4 _ (by omega)).trans x6⟩, fx.of hf4 (by omega)⟩
    · show aw_up w2 3 _ 3 = oFr G 4 (600 - (q.1.drop (lnLen q.1)).length)
      rw [aw_up_eq, List.length_drop]
      congr 1
      omega
    · show q.1.drop (lnLen q.1) = sl ff (600 - (q.1.drop (lnLen q.1)).length) (q.1.drop (lnLen q.1)).length
      rw [List.length_drop]
      have e := sl_drop ff (600 - q.1.length) q.1.length (lnLen q.1) hle
      rw [← g3] at e
      rw [e]
      congr 1
      omega
  by_cases k7 : k = 7
  · subst k7
    refine aw_tableIn (pc := 8) X (off := 137) (tgt := 145) d_Ex_act_8 (by decide) (by decide) (by decide) (by rfl) ?_
    refine aw_aload_nR (pc := 145) X d_Ex_act_145 (by rfl) ?_
    refine aw_getO (pc := 146) X _ 3 (by omega) (by (repeat (first | rw [aw_up_eq] | rw [aw_up_ne _ _ (by first | assumption | omega)])) <;> first | assumption | rfl) (by rfl) in_Ex (by decide) k_359 (by rfl) d_Ex_act_146 ?_
    refine aw_aload_nR (pc := 149) X d_Ex_act_149 (by rfl) ?_
    refine aw_getNO (pc := 150) X _ 1 (by omega) (by (repeat (first | rw [aw_up_eq] | rw [aw_up_ne _ _ (by first | assumption | omega)])) <;> first | assumption | rfl) (by rfl) in_Ca (by decide) k_282 (by rfl) d_Ex_act_150 ?_
    refine aw_aload_nR (pc := 153) X d_Ex_act_153 (by rfl) ?_
    refine aw_iconstN (pc := 154) X 1 d_Ex_act_154 (by decide) ?_
    -- invokevirtual 155 lv=0:r,1:r,2:c st=n,r,r,r
    refine aw_callV (pc := 155) X _ (c_Ca_from (d := 0) (i := 1) (by omega) (by omega) c2 c1) q_Ca_from k_627 k_628 k_629 (by omega) c11 (by rfl) d_Ex_act_155 (by omega) (Nat.le_of_ble_eq_true rfl) ⟨by omega, by omega⟩ (fun h => by cases h) (fun r w2 nx2 hp => ?_)
    obtain ⟨rfl, rfl, rfl⟩ := hp
    refine aw_aload_nR (pc := 158) X d_Ex_act_158 (by rfl) ?_
    refine aw_iconstN (pc := 159) X 1 d_Ex_act_159 (by decide) ?_
    -- invokevirtual 160 lv=0:r,1:r,2:c st=n,r,n,r,r
    refine aw_callV (pc := 160) X _ (c_Ca_to (d := 0) (i := 1) (by omega) (by omega) c2 c1) q_Ca_to k_631 k_632 k_633 (by omega) c11 (by rfl) d_Ex_act_160 (by omega) (Nat.le_of_ble_eq_true rfl) ⟨by omega, by omega⟩ (fun h => by cases h) (fun r w2 nx2 hp => ?_)
    obtain ⟨rfl, rfl, rfl⟩ := hp
    refine aw_aload_nR (pc := 163) X d_Ex_act_163 (by rfl) ?_
    refine aw_getO (pc := 164) X _ 4 (by omega) (by (repeat (first | rw [aw_up_eq] | rw [aw_up_ne _ _ (by first | assumption | omega)])) <;> first | assumption | rfl) (by rfl) in_Ex (by decide) k_360 (by rfl) d_Ex_act_164 ?_
    -- invokevirtual 167 lv=0:r,1:r,2:c st=r,n,n,r,r
    refine aw_callV (pc := 167) X _ (s_Ep_reckon (d := 58) (q := 319) (l := 400) (gg := gg) (s := q.2.2.2.2) (S := (argOf ar 1).filter nbl) hnx (by omega) (by omega) (by omega) (by omega) f1.1 f1.2 c4 c3 x4 x5 (by rw [a1]) hev) q_Ep_reckon k_735 k_736 k_737 (by omega) ep1 (by rfl) d_Ex_act_167 (by omega) (Nat.le_of_ble_eq_true rfl) ⟨by omega, by omega⟩ (fun h => by cases h) (fun r w2 nx2 hp => ?_)
    obtain ⟨rfl, rfl, h4, h5, hf4⟩ := hp
    refine aw_iret Y X rfl d_Ex_act_170 (by omega) (by omega) (hP _ _ _ ?_)
    -- ret 170 lv=0:r,1:r,2:c st=n
    exact ⟨rfl, rfl, ⟨x1.keep hf4 (by omega), x2.keep hf4 (by omega), x3.keep hf4 (by omega), h4, h5, (hf4 _ (by omega)).trans x6⟩, fx.of hf4 (by omega)⟩
  have hS : actS k ar va x' q = (0, q) := by rw [actS, if_neg k0, if_neg k1, if_neg k2, if_neg k3, if_neg k12, if_neg k13, if_neg k15, if_neg k7]
  refine aw_tableOut (pc := 8) X (tgt := 171) d_Ex_act_8 (by rcases (show k = 4 ∨ k = 5 ∨ k = 6 ∨ k = 8 ∨ k = 9 ∨ k = 10 ∨ k = 11 ∨ k = 14 by omega) with rfl | rfl | rfl | rfl | rfl | rfl | rfl | rfl <;> decide) (by rfl) ?_
  refine aw_iconstN (pc := 171) X 0 d_Ex_act_171 (by decide) ?_
  refine aw_iret Y X rfl d_Ex_act_172 (by omega) (by omega) (hP _ _ _ ?_)
  -- ret 172 lv=0:r,1:r,2:c st=n
  rw [hS]
  exact ⟨rfl, rfl, hx0, fx.refl _⟩
end

