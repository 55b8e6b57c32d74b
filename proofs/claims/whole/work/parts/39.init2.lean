/-! Table, Calls, RescanDesk: the makers -/
/-- the definitions of a new table -/
def T0 : List Def := (List.range 16).map (fun k => (wrd k, k + 1, []))
def tab0 (i j : Nat) : Def := if j < i then (wrd j, j + 1, []) else ([], 0, [])
section
variable {G : aw_G} {nx d : Nat} {w : Nat → va_E}
theorem s_Ta_init (hnx : nx = 16) (hd : 5 ≤ d) (h1 : w 15 = aObj 4 [.null, .int 0]) : AC G y_Ta_init b_Ta_init 2 none d true [rf G 15] nx w 301 7200 (fun r w' nx' => r = none ∧ nx' = 317 ∧ hTa G w' T0 ∧ fr 15 317 w w') := by
  subst hnx
  refine AC.ofW (by decide) (Nat.le_of_ble_eq_true rfl) ?_
  intro E P hP Y X
  have X : aw_X G "RescanDesk$Table" b_Ta_init 2 none "<init>" _ _ _ _ _ E := X
  refine AW.eql (lv' := [(0, _)]) (by rfl) ?_
  have M : ∀ (j i : Nat) (w1 : Nat → va_E) (f : Nat → Option Nat), i + j = 16 → w1 15 = aObj 4 [rf G 16, .int (nI i)] → w1 16 = aRefs (G.2.2.2.1 5) 60 f → (∀ r, r < 60 → f r = some (G.2.2.1 + (17 + 5 * r)) ∧ hDe G w1 (17 + 5 * r) (tab0 i r)) → fr 15 317 w w1 → AW G E 2 317 301 7200 w1 47 [(1, .int (nI i)), (0, rf G 15)] [] := by
    intro j
    induction j with
    | zero =>
      intro i w1 f hi e5 e6 hr ef
      have hi16 : i = 16 := by omega
      subst hi16
      refine aw_iload_n (pc := 47) X d_Ta_init_47 (by rfl) ?_
      -- stop 48 lv=1:n,0:r st=n
      refine aw_getsN (pc := 48) X X.c.2.2.1 k_189 d_Ta_init_48 ?_
      refine aw_tlen (pc := 51) X X.c.2.2.2.1 d_Ta_init_51 ?_
      refine aw_icmp_geN (pc := 52) X (tgt := 91) d_Ta_init_52 (by rfl) (by omega) (by omega) (fun h52 => ?_) (fun h52 => ?_)
      -- br 52 lv=1:n,0:r st=
      · refine aw_vret Y X rfl d_Ta_init_91 (by omega) (by omega) (hP _ _ _ ?_)
        -- ret 91 lv=1:n,0:r st=
        refine ⟨rfl, rfl, ⟨f, id, by decide, e5, e6, fun i hi => ⟨(hr i hi).1, hi⟩, fun i j _ _ h => h, fun i hi => ⟨tab0 16 i, (hr i hi).2, ?_, fun u hu => ?_⟩⟩, ef⟩
        · unfold tab0
          split
          · show i + 1 ≤ 16; omega
          · exact Nat.zero_le _
        · unfold T0 at hu
          rw [List.getElem?_map] at hu
          by_cases hl : i < 16
          · rw [List.getElem?_range hl] at hu
            rw [tab0, if_pos hl]
            exact (Option.some.inj hu).symm
          · rw [List.getElem?_eq_none_iff.mpr (by simp; omega)] at hu
            cases hu
      · omega
    | succ j ih =>
      intro i w1 f hi e5 e6 hr ef
      have hq := (hr i (by omega)).1
      have hde := (hr i (by omega)).2
      have hdo := hde.1
      refine aw_iload_n (pc := 47) X d_Ta_init_47 (by rfl) ?_
      -- stop 48 lv=1:n,0:r st=n
      refine aw_getsN (pc := 48) X X.c.2.2.1 k_189 d_Ta_init_48 ?_
      refine aw_tlen (pc := 51) X X.c.2.2.2.1 d_Ta_init_51 ?_
      refine aw_icmp_geN (pc := 52) X (tgt := 91) d_Ta_init_52 (by rfl) (by omega) (by omega) (fun h52 => ?_) (fun h52 => ?_)
      -- br 52 lv=1:n,0:r st=
      · omega
      · refine aw_iload_n (pc := 55) X d_Ta_init_55 (by rfl) ?_
        refine aw_bipushN (pc := 56) X 60 d_Ta_init_56 (by decide) ?_
        refine aw_icmp_geN (pc := 58) X (tgt := 91) d_Ta_init_58 (by rfl) (by omega) (by omega) (fun h58 => ?_) (fun h58 => ?_)
        -- br 58 lv=1:n,0:r st=
        · omega
        · refine aw_aload_nR (pc := 61) X d_Ta_init_61 (by rfl) ?_
          refine aw_getO (pc := 62) X _ 0 (by omega) (by (repeat (first | rw [aw_up_eq] | rw [aw_up_ne _ _ (by first | assumption | omega)])) <;> first | assumption | rfl) (by rfl) in_Ta (by decide) k_251 (by rfl) d_Ta_init_62 ?_
          refine aw_iload_n (pc := 65) X d_Ta_init_65 (by rfl) ?_
          refine aw_aaldN (pc := 66) X _ 5 (by omega) (by (repeat (first | rw [aw_up_eq] | rw [aw_up_ne _ _ (by first | assumption | omega)])) <;> first | assumption | rfl) (by rfl) (by omega) (by omega) (by assumption) d_Ta_init_66 ?_
          -- stop 67 lv=1:n,0:r st=r
          refine aw_getsN (pc := 67) X X.c.2.2.1 k_189 d_Ta_init_67 ?_
          refine aw_iload_n (pc := 70) X d_Ta_init_70 (by rfl) ?_
          -- stop 71 lv=1:n,0:r st=n,c,r
          refine aw_tq (pc := 71) X X.c.2.2.2.1 (by omega) (by omega) rfl d_Ta_init_71 ?_
          refine aw_callV (pc := 72) X _ (s_De_setBuiltIn (d := 4) (k := i) (by omega) (by omega) (by omega) hde) q_De_setBuiltIn k_191 k_192 k_193 (by omega) hdo (by rfl) d_Ta_init_72 (by omega) (Nat.le_of_ble_eq_true rfl) ⟨by omega, by omega⟩ (fun h => by cases h) (fun r w2 nx2 hp => ?_)
          obtain ⟨rfl, rfl, h2, f2⟩ := hp
          have e52 : w2 15 = aObj 4 [rf G 16, .int (nI i)] := (f2 _ (by omega)).trans e5
          refine aw_aload_nR (pc := 75) X d_Ta_init_75 (by rfl) ?_
          refine aw_dup (pc := 76) X d_Ta_init_76 (by rfl) ?_
          refine aw_getO (pc := 77) X _ 1 (by omega) (by (repeat (first | rw [aw_up_eq] | rw [aw_up_ne _ _ (by first | assumption | omega)])) <;> first | assumption | rfl) (by rfl) in_Ta (by decide) k_254 (by rfl) d_Ta_init_77 ?_
          refine aw_iconstN (pc := 80) X 1 d_Ta_init_80 (by decide) ?_
          refine aw_iaddN (pc := 81) X d_Ta_init_81 ?_
          refine aw_putO (pc := 82) X _ 1 (by omega) (by (repeat (first | rw [aw_up_eq] | rw [aw_up_ne _ _ (by first | assumption | omega)])) <;> first | assumption | rfl) (by rfl) in_Ta (by decide) ty_Ta ok_Ta nm_Ta k_254 (by rfl) (by rfl) (by rfl) (by simp) (fs' := [_, _]) (by rfl) d_Ta_init_82 ?_
          refine aw_iincN (pc := 85) X 1 (lv' := [(1, _), (0, _)]) d_Ta_init_85 (by rfl) (by decide) (by decide) (by rfl) ?_
          refine aw_goto (pc := 88) X (tgt := 47) d_Ta_init_88 (by rfl) ?_
          -- stop 47 lv=1:n,0:r st=
          generalize hw3 : aw_up w2 15 _ = w3
          have f3 : fr 15 16 w2 w3 := by rw [← hw3]; exact (fr.refl _ _ _).up _ (by omega)
          refine ih (i + 1) w3 f (by omega) (by rw [← hw3, aw_up_eq]) ((f3 _ (by omega)).trans ((f2 _ (by omega)).trans e6)) (fun r hr1 => ⟨(hr r hr1).1, ?_⟩) (ef.trans ((f2.mono (by omega) (by omega)).trans (f3.mono (by omega) (by omega))))
          by_cases hri : r = i
          · subst hri
            rw [tab0, if_pos (by omega)]
            exact h2.keep f3 (by omega)
          · have : tab0 (i + 1) r = tab0 i r := by
              unfold tab0
              by_cases hl : r < i
              · rw [if_pos hl, if_pos (by omega)]
              · rw [if_neg hl, if_neg (by omega)]
            rw [this]
            exact ((hr r hr1).2.keep f2 (by omega)).keep f3 (by omega)
  have L : ∀ (j i : Nat) (w1 : Nat → va_E) (f : Nat → Option Nat), i + j = 60 → w1 15 = aObj 4 [rf G 16, .int 0] → w1 16 = aRefs (G.2.2.2.1 5) 60 f → (∀ r, r < i → f r = some (G.2.2.1 + (17 + 5 * r)) ∧ hDe G w1 (17 + 5 * r) ([], 0, [])) → fr 15 317 w w1 → AW G E 2 (17 + 5 * i) (1 + 5 * i) (60 + 119 * i) w1 15 [(1, .int (nI i)), (0, rf G 15)] [] := by
    intro j
    induction j with
    | zero =>
      intro i w1 f hi e5 e6 hr ef
      have hi60 : i = 60 := by omega
      subst hi60
      refine aw_iload_n (pc := 15) X d_Ta_init_15 (by rfl) ?_
      refine aw_bipushN (pc := 16) X 60 d_Ta_init_16 (by decide) ?_
      refine aw_icmp_geN (pc := 18) X (tgt := 40) d_Ta_init_18 (by rfl) (by omega) (by omega) (fun h18 => ?_) (fun h18 => ?_)
      -- br 18 lv=1:n,0:r st=
      · refine aw_aload_nR (pc := 40) X d_Ta_init_40 (by rfl) ?_
        refine aw_iconstN (pc := 41) X 0 d_Ta_init_41 (by decide) ?_
        refine aw_putO (pc := 42) X _ 1 (by omega) (by (repeat (first | rw [aw_up_eq] | rw [aw_up_ne _ _ (by first | assumption | omega)])) <;> first | assumption | rfl) (by rfl) in_Ta (by decide) ty_Ta ok_Ta nm_Ta k_254 (by rfl) (by rfl) (by rfl) (by simp) (fs' := [_, _]) (by rfl) d_Ta_init_42 ?_
        refine aw_iconstN (pc := 45) X 0 d_Ta_init_45 (by decide) ?_
        refine aw_istore_n (pc := 46) X (lv' := [(1, _), (0, _)]) d_Ta_init_46 (by decide) (by rfl) ?_
        -- stop 47 lv=1:n,0:r st=
        generalize hw3 : aw_up w1 15 _ = w3
        have f3 : fr 15 16 w1 w3 := by rw [← hw3]; exact (fr.refl _ _ _).up _ (by omega)
        exact M 16 0 w3 f (by omega) (by rw [← hw3, aw_up_eq]) ((f3 _ (by omega)).trans e6) (fun r hr4 => ⟨(hr r hr4).1, by rw [tab0, if_neg (by omega)]; exact (hr r hr4).2.keep f3 (by omega)⟩) (ef.trans (f3.mono (by omega) (by omega)))
      · omega
    | succ j ih =>
      intro i w1 f hi e5 e6 hr ef
      refine aw_iload_n (pc := 15) X d_Ta_init_15 (by rfl) ?_
      refine aw_bipushN (pc := 16) X 60 d_Ta_init_16 (by decide) ?_
      refine aw_icmp_geN (pc := 18) X (tgt := 40) d_Ta_init_18 (by rfl) (by omega) (by omega) (fun h18 => ?_) (fun h18 => ?_)
      -- br 18 lv=1:n,0:r st=
      · omega
      · refine aw_aload_nR (pc := 21) X d_Ta_init_21 (by rfl) ?_
        refine aw_getO (pc := 22) X _ 0 (by omega) (by (repeat (first | rw [aw_up_eq] | rw [aw_up_ne _ _ (by first | assumption | omega)])) <;> first | assumption | rfl) (by rfl) in_Ta (by decide) k_251 (by rfl) d_Ta_init_22 ?_
        refine aw_iload_n (pc := 25) X d_Ta_init_25 (by rfl) ?_
        refine aw_new (pc := 26) X ty_De ok_De rfl (by omega) (ci := 5) (by rfl) in_De k_166 k_168 k_68 _ df_De (by omega) (by omega) d_Ta_init_26 ?_
        refine aw_dup (pc := 29) X d_Ta_init_29 (by rfl) ?_
        -- invokespecial 30 lv=1:n,0:r st=r,r,n,r
        refine aw_callI (pc := 30) X _ (s_De_init (d := 2) (a := 17 + 5 * i) rfl (by omega) (aw_up_eq _ _ _)) q_De_init k_169 k_170 (by rfl) (by rfl) d_Ta_init_30 (by omega) (Nat.le_of_ble_eq_true rfl) ⟨by omega, by omega⟩ (fun _ => ⟨rfl, by omega⟩) (fun r w2 nx2 hp => ?_)
        obtain ⟨rfl, rfl, h2, f2⟩ := hp
        have f2' : fr (17 + 5 * i) (17 + 5 * i + 5) w1 w2 := ((fr.refl _ _ _).up _ (by omega)).trans f2
        have e62 : w2 16 = aRefs (G.2.2.2.1 5) 60 f := (f2' _ (by omega)).trans e6
        have h2o := h2.1
        refine aw_aastN (pc := 33) X (r := (R_De, T_De, 3)) 16 5 (17 + 5 * i) 5 (by omega) e62 (by rfl) (by omega) h2o (by rfl) (by omega) (by omega) d_Ta_init_33 ?_
        generalize hw3 : aw_up w2 16 _ = w3
        have f3 : fr 16 17 w2 w3 := by rw [← hw3]; exact (fr.refl _ _ _).up _ (by omega)
        refine aw_iincN (pc := 34) X 1 (lv' := [(1, _), (0, _)]) d_Ta_init_34 (by rfl) (by decide) (by decide) (by rfl) ?_
        refine aw_goto (pc := 37) X (tgt := 15) d_Ta_init_37 (by rfl) ?_
        -- stop 15 lv=1:n,0:r st=
        refine AW.of (by omega) (by omega) (by omega) rfl rfl rfl (ih (i + 1) w3 (va_up f i (some (G.2.2.1 + (17 + 5 * i)))) (by omega) ((f3 _ (by omega)).trans ((f2' _ (by omega)).trans e5)) (by rw [← hw3, aw_up_eq]) (fun r hr1 => ?_) (ef.trans ((f2'.mono (by omega) (by omega)).trans (f3.mono (by omega) (by omega)))))
        by_cases hri : r = i
        · subst hri
          exact ⟨va_up_self _ _ _, h2.keep f3 (by omega)⟩
        · exact ⟨by rw [va_up_ne _ _ hri]; exact (hr r (by omega)).1, ((hr r (by omega)).2.keep f2' (by omega)).keep f3 (by omega)⟩
  refine aw_aload_nR (pc := 0) X d_Ta_init_0 (by rfl) ?_
  refine aw_objInit (pc := 1) X k_165 k_94 k_95 d_Ta_init_1 (by omega) (Nat.le_trans (m := 20) (Nat.le_of_ble_eq_true rfl) (by omega)) ?_
  refine aw_aload_nR (pc := 4) X d_Ta_init_4 (by rfl) ?_
  refine aw_bipushN (pc := 5) X 60 d_Ta_init_5 (by decide) ?_
  refine aw_newqN (pc := 7) X 5 (by rfl) rfl (by omega) k_166 k_167 (by omega) (by omega) (by omega) d_Ta_init_7 ?_
  refine aw_putFO (pc := 10) X _ 0 (by omega) (by (repeat (first | rw [aw_up_eq] | rw [aw_up_ne _ _ (by first | assumption | omega)])) <;> first | assumption | rfl) (by rfl) in_Ta (by decide) ty_Ta ok_Ta nm_Ta k_251 (by rfl) (by rfl) (by rfl) (by rfl) (by rfl) (by simp) (fs' := [_, _]) (by rfl) d_Ta_init_10 ?_
  refine aw_iconstN (pc := 13) X 0 d_Ta_init_13 (by decide) ?_
  refine aw_istore_n (pc := 14) X (lv' := [(1, _), (0, _)]) d_Ta_init_14 (by decide) (by rfl) ?_
  -- stop 15 lv=1:n,0:r st=
  generalize hw3 : aw_up _ 15 _ = w3
  have f3 : fr 15 317 w w3 := by rw [← hw3]; exact ((fr.refl _ _ _).up _ (by omega)).up _ (by omega)
  exact L 60 0 w3 (fun _ => none) (by omega) (by rw [← hw3]; exact aw_up_eq _ _ _) (by rw [← hw3, aw_up_ne _ _ (by omega), aw_up_eq]) (fun r hr => by omega) f3
theorem s_Cs_init (hnx : nx = 318) (hd : 4 ≤ d) (h1 : w 317 = aObj 6 [.null, .null, .null, .int 0, .int 0]) : AC G y_Cs_init b_Cs_init 2 none d true [rf G 317] nx w 94 2169 (fun r w' nx' => r = none ∧ nx' = 412 ∧ hCs G w' [] [] 0 ∧ fr 317 412 w w') := by
  subst hnx
  refine AC.ofW (by decide) (Nat.le_of_ble_eq_true rfl) ?_
  intro E P hP Y X
  have X : aw_X G "RescanDesk$Calls" b_Cs_init 2 none "<init>" _ _ _ _ _ E := X
  refine AW.eql (lv' := [(0, _)]) (by rfl) ?_
  have L : ∀ (j i : Nat) (w1 : Nat → va_E) (f : Nat → Option Nat), i + j = 12 → w1 317 = aObj 6 [rf G 318, rf G 320, .null, .int 0, .int 0] → hTx G w1 318 400 [] → w1 320 = aRefs (G.2.2.2.1 6) 12 f → (∀ r, r < i → f r = some (G.2.2.1 + (321 + 7 * r)) ∧ hCa G w1 (321 + 7 * r) ([], 0, []) (fun _ => 0) 0 0 false) → fr 317 412 w w1 → AW G E 2 (321 + 7 * i) (3 + 7 * i) (414 + 135 * i) w1 29 [(1, .int (nI i)), (0, rf G 317)] [] := by
    intro j
    induction j with
    | zero =>
      intro i w1 f hi e5 eg e6 hr ef
      have hi12 : i = 12 := by omega
      subst hi12
      have ego := eg.obj
      refine aw_iload_n (pc := 29) X d_Cs_init_29 (by rfl) ?_
      refine aw_bipushN (pc := 30) X 12 d_Cs_init_30 (by decide) ?_
      refine aw_icmp_geN (pc := 32) X (tgt := 61) d_Cs_init_32 (by rfl) (by omega) (by omega) (fun h32 => ?_) (fun h32 => ?_)
      -- br 32 lv=1:n,0:r st=
      · refine aw_aload_nR (pc := 61) X d_Cs_init_61 (by rfl) ?_
        refine aw_new (pc := 62) X ty_Ca ok_Ca rfl (by omega) (ci := 7) (by rfl) in_Ca k_269 k_271 k_76 _ df_Ca (by omega) (by omega) d_Cs_init_62 ?_
        refine aw_dup (pc := 65) X d_Cs_init_65 (by rfl) ?_
        refine aw_aload_nR (pc := 66) X d_Cs_init_66 (by rfl) ?_
        refine aw_getO (pc := 67) X _ 0 (by omega) (by (repeat (first | rw [aw_up_eq] | rw [aw_up_ne _ _ (by first | assumption | omega)])) <;> first | assumption | rfl) (by rfl) in_Cs (by decide) k_308 (by rfl) d_Cs_init_67 ?_
        refine aw_getNO (pc := 70) X _ 0 (by omega) (by (repeat (first | rw [aw_up_eq] | rw [aw_up_ne _ _ (by first | assumption | omega)])) <;> first | assumption | rfl) (by rfl) in_Tx (by decide) k_103 (by rfl) d_Cs_init_70 ?_
        -- invokespecial 73 lv=1:n,0:r st=r,r,r,r
        refine aw_callI (pc := 73) X _ (s_Ca_init (d := 3) (a := 405) rfl (by omega) (aw_up_eq _ _ _)) q_Ca_init k_272 k_273 (by rfl) (by rfl) d_Cs_init_73 (by omega) (Nat.le_of_ble_eq_true rfl) ⟨by omega, by omega⟩ (fun _ => ⟨rfl, by omega⟩) (fun r w2 nx2 hp => ?_)
        obtain ⟨rfl, rfl, h2, f2⟩ := hp
        have f2' : fr 405 412 w1 w2 := ((fr.refl _ _ _).up _ (by omega)).trans f2
        have e52 : w2 317 = aObj 6 [rf G 318, rf G 320, .null, .int 0, .int 0] := (f2' _ (by omega)).trans e5
        refine aw_putFO (pc := 76) X _ 2 (by omega) (by (repeat (first | rw [aw_up_eq] | rw [aw_up_ne _ _ (by first | assumption | omega)])) <;> first | assumption | rfl) (by rfl) in_Cs (by decide) ty_Cs ok_Cs nm_Cs k_311 (by rfl) (by rfl) (by rfl) (by rfl) (by rfl) (by simp) (fs' := [_, _, _, _, _]) (by rfl) d_Cs_init_76 ?_
        refine aw_aload_nR (pc := 79) X d_Cs_init_79 (by rfl) ?_
        refine aw_iconstN (pc := 80) X 0 d_Cs_init_80 (by decide) ?_
        refine aw_putO (pc := 81) X _ 3 (by omega) (by (repeat (first | rw [aw_up_eq] | rw [aw_up_ne _ _ (by first | assumption | omega)])) <;> first | assumption | rfl) (by rfl) in_Cs (by decide) ty_Cs ok_Cs nm_Cs k_312 (by rfl) (by rfl) (by rfl) (by simp) (fs' := [_, _, _, _, _]) (by rfl) d_Cs_init_81 ?_
        refine aw_aload_nR (pc := 84) X d_Cs_init_84 (by rfl) ?_
        refine aw_iconstN (pc := 85) X 0 d_Cs_init_85 (by decide) ?_
        refine aw_putO (pc := 86) X _ 4 (by omega) (by (repeat (first | rw [aw_up_eq] | rw [aw_up_ne _ _ (by first | assumption | omega)])) <;> first | assumption | rfl) (by rfl) in_Cs (by decide) ty_Cs ok_Cs nm_Cs k_314 (by rfl) (by rfl) (by rfl) (by simp) (fs' := [_, _, _, _, _]) (by rfl) d_Cs_init_86 ?_
        refine aw_vret Y X rfl d_Cs_init_89 (by omega) (by omega) (hP _ _ _ ?_)
        -- ret 89 lv=1:n,0:r st=
        generalize hw3 : aw_up (aw_up (aw_up w2 317 _) 317 _) 317 _ = w3
        have f3 : fr 317 318 w2 w3 := by rw [← hw3]; exact (((fr.refl _ _ _).up _ (by omega)).up _ (by omega)).up _ (by omega)
        have e3 : w3 317 = aObj 6 [rf G 318, rf G 320, rf G 405, .int (nI 0), .int (nI 0)] := by rw [← hw3]; exact aw_up_eq _ _ _
        refine ⟨rfl, rfl, ⟨by decide, e3, (eg.keep f2' (by omega)).keep f3 (by omega), ⟨f, (f3 _ (by omega)).trans ((f2' _ (by omega)).trans e6), fun i hi => (hr i hi).1⟩, fun i hi => ⟨([], 0, []), fun _ => 0, 0, 0, false, ((hr i hi).2.keep f2' (by omega)).keep f3 (by omega), by decide, by decide, by decide, fun u hu => by simp at hu⟩, ⟨([], 0, []), 0, false, h2.keep f3 (by omega), by decide⟩, trivial, by decide⟩, ef.trans ((f2'.mono (by omega) (by omega)).trans (f3.mono (by omega) (by omega)))⟩
      · omega
    | succ j ih =>
      intro i w1 f hi e5 eg e6 hr ef
      have ego := eg.obj
      refine aw_iload_n (pc := 29) X d_Cs_init_29 (by rfl) ?_
      refine aw_bipushN (pc := 30) X 12 d_Cs_init_30 (by decide) ?_
      refine aw_icmp_geN (pc := 32) X (tgt := 61) d_Cs_init_32 (by rfl) (by omega) (by omega) (fun h32 => ?_) (fun h32 => ?_)
      -- br 32 lv=1:n,0:r st=
      · omega
      · refine aw_aload_nR (pc := 35) X d_Cs_init_35 (by rfl) ?_
        refine aw_getO (pc := 36) X _ 1 (by omega) (by (repeat (first | rw [aw_up_eq] | rw [aw_up_ne _ _ (by first | assumption | omega)])) <;> first | assumption | rfl) (by rfl) in_Cs (by decide) k_310 (by rfl) d_Cs_init_36 ?_
        refine aw_iload_n (pc := 39) X d_Cs_init_39 (by rfl) ?_
        refine aw_new (pc := 40) X ty_Ca ok_Ca rfl (by omega) (ci := 7) (by rfl) in_Ca k_269 k_271 k_76 _ df_Ca (by omega) (by omega) d_Cs_init_40 ?_
        refine aw_dup (pc := 43) X d_Cs_init_43 (by rfl) ?_
        refine aw_aload_nR (pc := 44) X d_Cs_init_44 (by rfl) ?_
        refine aw_getO (pc := 45) X _ 0 (by omega) (by (repeat (first | rw [aw_up_eq] | rw [aw_up_ne _ _ (by first | assumption | omega)])) <;> first | assumption | rfl) (by rfl) in_Cs (by decide) k_308 (by rfl) d_Cs_init_45 ?_
        refine aw_getNO (pc := 48) X _ 0 (by omega) (by (repeat (first | rw [aw_up_eq] | rw [aw_up_ne _ _ (by first | assumption | omega)])) <;> first | assumption | rfl) (by rfl) in_Tx (by decide) k_103 (by rfl) d_Cs_init_48 ?_
        -- invokespecial 51 lv=1:n,0:r st=r,r,r,n,r
        refine aw_callI (pc := 51) X _ (s_Ca_init (d := 3) (a := 321 + 7 * i) rfl (by omega) (aw_up_eq _ _ _)) q_Ca_init k_272 k_273 (by rfl) (by rfl) d_Cs_init_51 (by omega) (Nat.le_of_ble_eq_true rfl) ⟨by omega, by omega⟩ (fun _ => ⟨rfl, by omega⟩) (fun r w2 nx2 hp => ?_)
        obtain ⟨rfl, rfl, h2, f2⟩ := hp
        have f2' : fr (321 + 7 * i) (321 + 7 * i + 7) w1 w2 := ((fr.refl _ _ _).up _ (by omega)).trans f2
        have e62 : w2 320 = aRefs (G.2.2.2.1 6) 12 f := (f2' _ (by omega)).trans e6
        have h2o := h2.1
        refine aw_aastN (pc := 54) X (r := (R_Ca, T_Ca, 6)) 320 6 (321 + 7 * i) 7 (by omega) e62 (by rfl) (by omega) h2o (by rfl) (by omega) (by omega) d_Cs_init_54 ?_
        generalize hw3 : aw_up w2 320 _ = w3
        have f3 : fr 320 321 w2 w3 := by rw [← hw3]; exact (fr.refl _ _ _).up _ (by omega)
        refine aw_iincN (pc := 55) X 1 (lv' := [(1, _), (0, _)]) d_Cs_init_55 (by rfl) (by decide) (by decide) (by rfl) ?_
        refine aw_goto (pc := 58) X (tgt := 29) d_Cs_init_58 (by rfl) ?_
        -- stop 29 lv=1:n,0:r st=
        refine AW.of (by omega) (by omega) (by omega) rfl rfl rfl (ih (i + 1) w3 (va_up f i (some (G.2.2.1 + (321 + 7 * i)))) (by omega) ((f3 _ (by omega)).trans ((f2' _ (by omega)).trans e5)) ((eg.keep f2' (by omega)).keep f3 (by omega)) (by rw [← hw3, aw_up_eq]) (fun r hr1 => ?_) (ef.trans ((f2'.mono (by omega) (by omega)).trans (f3.mono (by omega) (by omega)))))
        by_cases hri : r = i
        · subst hri
          exact ⟨va_up_self _ _ _, h2.keep f3 (by omega)⟩
        · exact ⟨by rw [va_up_ne _ _ hri]; exact (hr r (by omega)).1, ((hr r (by omega)).2.keep f2' (by omega)).keep f3 (by omega)⟩
  refine aw_aload_nR (pc := 0) X d_Cs_init_0 (by rfl) ?_
  refine aw_objInit (pc := 1) X k_266 k_94 k_95 d_Cs_init_1 (by omega) (Nat.le_trans (m := 20) (Nat.le_of_ble_eq_true rfl) (by omega)) ?_
  refine aw_aload_nR (pc := 4) X d_Cs_init_4 (by rfl) ?_
  refine aw_new (pc := 5) X ty_Tx ok_Tx rfl (by omega) (ci := 1) (by rfl) in_Tx k_267 k_97 k_64 _ df_Tx (by omega) (by omega) d_Cs_init_5 ?_
  refine aw_dup (pc := 8) X d_Cs_init_8 (by rfl) ?_
  refine aw_sipushN (pc := 9) X 400 d_Cs_init_9 (by decide) ?_
  -- invokespecial 12 lv=0:r st=n,r,r,r
  refine aw_callI (pc := 12) X _ (s_Tx_init (d := 1) (a := 318) rfl (by omega) (by omega) (aw_up_eq _ _ _)) q_Tx_init k_268 k_99 (by rfl) (by rfl) d_Cs_init_12 (by omega) (Nat.le_of_ble_eq_true rfl) ⟨by omega, by omega⟩ (fun _ => ⟨rfl, by omega⟩) (fun r w2 nx2 hp => ?_)
  obtain ⟨rfl, rfl, h2, f2⟩ := hp
  have f2' : fr 318 320 w w2 := ((fr.refl _ _ _).up _ (by omega)).trans f2
  have e2 : w2 317 = aObj 6 [.null, .null, .null, .int 0, .int 0] := (f2' _ (by omega)).trans h1
  refine aw_putFO (pc := 15) X _ 0 (by omega) (by (repeat (first | rw [aw_up_eq] | rw [aw_up_ne _ _ (by first | assumption | omega)])) <;> first | assumption | rfl) (by rfl) in_Cs (by decide) ty_Cs ok_Cs nm_Cs k_308 (by rfl) (by rfl) (by rfl) (by rfl) (by rfl) (by simp) (fs' := [_, _, _, _, _]) (by rfl) d_Cs_init_15 ?_
  -- stop 18 lv=0:r st=
  generalize hw3 : aw_up w2 317 _ = w3
  have f3 : fr 317 318 w2 w3 := by rw [← hw3]; exact (fr.refl _ _ _).up _ (by omega)
  have e3 : w3 317 = aObj 6 [rf G 318, .null, .null, .int 0, .int 0] := by rw [← hw3]; exact aw_up_eq _ _ _
  refine aw_aload_nR (pc := 18) X d_Cs_init_18 (by rfl) ?_
  refine aw_bipushN (pc := 19) X 12 d_Cs_init_19 (by decide) ?_
  refine aw_newqN (pc := 21) X 6 (by rfl) rfl (by omega) k_269 k_270 (by omega) (by omega) (by omega) d_Cs_init_21 ?_
  refine aw_putFO (pc := 24) X _ 1 (by omega) (by (repeat (first | rw [aw_up_eq] | rw [aw_up_ne _ _ (by first | assumption | omega)])) <;> first | assumption | rfl) (by rfl) in_Cs (by decide) ty_Cs ok_Cs nm_Cs k_310 (by rfl) (by rfl) (by rfl) (by rfl) (by rfl) (by simp) (fs' := [_, _, _, _, _]) (by rfl) d_Cs_init_24 ?_
  refine aw_iconstN (pc := 27) X 0 d_Cs_init_27 (by decide) ?_
  refine aw_istore_n (pc := 28) X (lv' := [(1, _), (0, _)]) d_Cs_init_28 (by decide) (by rfl) ?_
  -- stop 29 lv=1:n,0:r st=
  generalize hw4 : aw_up (aw_up w3 320 _) 317 _ = w4
  have f4 : ∀ x, x ≠ 317 → x ≠ 320 → w4 x = w3 x := fun x q1 q2 => by rw [← hw4, aw_up_ne _ _ q1, aw_up_ne _ _ q2]
  have f4' : fr 317 412 w3 w4 := fun x hx => f4 x (by omega) (by omega)
  exact L 12 0 w4 (fun _ => none) (by omega) (by rw [← hw4]; exact aw_up_eq _ _ _) ((h2.keep f3 (by omega)).kept (f4 _ (by omega) (by omega)) (f4 _ (by omega) (by omega))) (by rw [← hw4, aw_up_ne _ _ (by omega), aw_up_eq]) (fun r hr => by omega) ((f2'.mono (by omega) (by omega)).trans ((f3.mono (by omega) (by omega)).trans f4'))
theorem s_Rd_init (hnx : nx = 1) (hd : 6 ≤ d) (h1 : w 0 = aObj 0 [.null, .null, .null, .null, .null, .null, .null, .int 0]) : AC G y_Rd_init b_Rd_init 1 none d true [rf G 0] nx w 417 12508 (fun r w' nx' => r = none ∧ nx' = 418 ∧ hRd G w' [] (([], some 0, fun _ => [], T0), [], [], 0) .null 0) := by
  subst hnx
  refine AC.ofW (by decide) (Nat.le_of_ble_eq_true rfl) ?_
  intro E P hP Y X
  have X : aw_X G "RescanDesk" b_Rd_init 1 none "<init>" _ _ _ _ _ E := X
  refine AW.eql (lv' := [(0, _)]) (by rfl) ?_
  refine aw_aload_nR (pc := 0) X d_Rd_init_0 (by rfl) ?_
  refine aw_objInit (pc := 1) X k_93 k_94 k_95 d_Rd_init_1 (by omega) (Nat.le_trans (m := 20) (Nat.le_of_ble_eq_true rfl) (by omega)) ?_
  refine aw_aload_nR (pc := 4) X d_Rd_init_4 (by rfl) ?_
  refine aw_new (pc := 5) X ty_Tx ok_Tx rfl (by omega) (ci := 1) (by rfl) in_Tx k_96 k_97 k_64 _ df_Tx (by omega) (by omega) d_Rd_init_5 ?_
  refine aw_dup (pc := 8) X d_Rd_init_8 (by rfl) ?_
  refine aw_sipushN (pc := 9) X 300 d_Rd_init_9 (by decide) ?_
  -- invokespecial 12 lv=0:r st=n,r,r,r
  refine aw_callI (pc := 12) X _ (s_Tx_init (d := 1) (a := 1) rfl (by omega) (by omega) (aw_up_eq _ _ _)) q_Tx_init k_98 k_99 (by rfl) (by rfl) d_Rd_init_12 (by omega) (Nat.le_of_ble_eq_true rfl) ⟨by omega, by omega⟩ (fun _ => ⟨rfl, by omega⟩) (fun r w2 nx2 hp => ?_)
  obtain ⟨rfl, rfl, h2, f2⟩ := hp
  have e2 : w2 0 = aObj 0 [.null, .null, .null, .null, .null, .null, .null, .int 0] := (f2 _ (by omega)).trans ((aw_up_ne _ _ (by omega)).trans h1)
  refine aw_putFO (pc := 15) X _ 0 (by omega) (by (repeat (first | rw [aw_up_eq] | rw [aw_up_ne _ _ (by first | assumption | omega)])) <;> first | assumption | rfl) (by rfl) in_Rd (by decide) ty_Rd ok_Rd nm_Rd k_372 (by rfl) (by rfl) (by rfl) (by rfl) (by rfl) (by simp) (fs' := [_, _, _, _, _, _, _, _]) (by rfl) d_Rd_init_15 ?_
  -- stop 18 lv=0:r st=
  generalize hw3 : aw_up w2 0 _ = w3
  have f3 : fr 0 1 w2 w3 := by rw [← hw3]; exact (fr.refl _ _ _).up _ (by omega)
  have e3 : w3 0 = aObj 0 [rf G 1, .null, .null, .null, .null, .null, .null, .int 0] := by rw [← hw3]; exact aw_up_eq _ _ _
  have h3 := h2.keep f3 (by omega)
  refine aw_aload_nR (pc := 18) X d_Rd_init_18 (by rfl) ?_
  refine aw_new (pc := 19) X ty_Fr ok_Fr rfl (by omega) (ci := 2) (by rfl) in_Fr k_126 k_127 k_65 _ df_Fr (by omega) (by omega) d_Rd_init_19 ?_
  refine aw_dup (pc := 22) X d_Rd_init_22 (by rfl) ?_
  -- invokespecial 23 lv=0:r st=r,r,r
  refine aw_callI (pc := 23) X _ (s_Fr_init (d := 1) rfl (by omega) (aw_up_eq _ _ _)) q_Fr_init k_128 k_129 (by rfl) (by rfl) d_Rd_init_23 (by omega) (Nat.le_of_ble_eq_true rfl) ⟨by omega, by omega⟩ (fun _ => ⟨rfl, by omega⟩) (fun r w4 nx2 hp => ?_)
  obtain ⟨rfl, rfl, h4, f4⟩ := hp
  have f4' : fr 3 5 w3 w4 := ((fr.refl _ _ _).up _ (by omega)).trans f4
  have e4 : w4 0 = aObj 0 [rf G 1, .null, .null, .null, .null, .null, .null, .int 0] := (f4' _ (by omega)).trans e3
  refine aw_putFO (pc := 26) X _ 1 (by omega) (by (repeat (first | rw [aw_up_eq] | rw [aw_up_ne _ _ (by first | assumption | omega)])) <;> first | assumption | rfl) (by rfl) in_Rd (by decide) ty_Rd ok_Rd nm_Rd k_373 (by rfl) (by rfl) (by rfl) (by rfl) (by rfl) (by simp) (fs' := [_, _, _, _, _, _, _, _]) (by rfl) d_Rd_init_26 ?_
  -- stop 29 lv=0:r st=
  generalize hw5 : aw_up w4 0 _ = w5
  have f5 : fr 0 1 w4 w5 := by rw [← hw5]; exact (fr.refl _ _ _).up _ (by omega)
  have e5 : w5 0 = aObj 0 [rf G 1, rf G 3, .null, .null, .null, .null, .null, .int 0] := by rw [← hw5]; exact aw_up_eq _ _ _
  have h5 := (h3.keep f4' (by omega)).keep f5 (by omega)
  have h5b := h4.keep f5 (by omega)
  refine aw_aload_nR (pc := 29) X d_Rd_init_29 (by rfl) ?_
  refine aw_new (pc := 30) X ty_Ro ok_Ro rfl (by omega) (ci := 3) (by rfl) in_Ro k_141 k_142 k_66 _ df_Ro (by omega) (by omega) d_Rd_init_30 ?_
  refine aw_dup (pc := 33) X d_Rd_init_33 (by rfl) ?_
  -- invokespecial 34 lv=0:r st=r,r,r
  refine aw_callI (pc := 34) X _ (s_Ro_init (d := 2) rfl (by omega) (aw_up_eq _ _ _)) q_Ro_init k_143 k_144 (by rfl) (by rfl) d_Rd_init_34 (by omega) (Nat.le_of_ble_eq_true rfl) ⟨by omega, by omega⟩ (fun _ => ⟨rfl, by omega⟩) (fun r w6 nx2 hp => ?_)
  obtain ⟨rfl, rfl, h6, f6⟩ := hp
  have f6' : fr 5 15 w5 w6 := ((fr.refl _ _ _).up _ (by omega)).trans f6
  have e6 : w6 0 = aObj 0 [rf G 1, rf G 3, .null, .null, .null, .null, .null, .int 0] := (f6' _ (by omega)).trans e5
  refine aw_putFO (pc := 37) X _ 2 (by omega) (by (repeat (first | rw [aw_up_eq] | rw [aw_up_ne _ _ (by first | assumption | omega)])) <;> first | assumption | rfl) (by rfl) in_Rd (by decide) ty_Rd ok_Rd nm_Rd k_374 (by rfl) (by rfl) (by rfl) (by rfl) (by rfl) (by simp) (fs' := [_, _, _, _, _, _, _, _]) (by rfl) d_Rd_init_37 ?_
  -- stop 40 lv=0:r st=
  generalize hw7 : aw_up w6 0 _ = w7
  have f7 : fr 0 1 w6 w7 := by rw [← hw7]; exact (fr.refl _ _ _).up _ (by omega)
  have e7 : w7 0 = aObj 0 [rf G 1, rf G 3, rf G 5, .null, .null, .null, .null, .int 0] := by rw [← hw7]; exact aw_up_eq _ _ _
  have h7 := (h5.keep f6' (by omega)).keep f7 (by omega)
  have h7b := (h5b.keep f6' (by omega)).keep f7 (by omega)
  have h7c := h6.keep f7 (by omega)
  refine aw_aload_nR (pc := 40) X d_Rd_init_40 (by rfl) ?_
  refine aw_new (pc := 41) X ty_Ta ok_Ta rfl (by omega) (ci := 4) (by rfl) in_Ta k_160 k_161 k_67 _ df_Ta (by omega) (by omega) d_Rd_init_41 ?_
  refine aw_dup (pc := 44) X d_Rd_init_44 (by rfl) ?_
  -- invokespecial 45 lv=0:r st=r,r,r
  refine aw_callI (pc := 45) X _ (s_Ta_init (d := 5) rfl (by omega) (aw_up_eq _ _ _)) q_Ta_init k_162 k_163 (by rfl) (by rfl) d_Rd_init_45 (by omega) (Nat.le_of_ble_eq_true rfl) ⟨by omega, by omega⟩ (fun _ => ⟨rfl, by omega⟩) (fun r w8 nx2 hp => ?_)
  obtain ⟨rfl, rfl, h8, f8⟩ := hp
  have f8' : fr 15 317 w7 w8 := ((fr.refl _ _ _).up _ (by omega)).trans f8
  have e8 : w8 0 = aObj 0 [rf G 1, rf G 3, rf G 5, .null, .null, .null, .null, .int 0] := (f8' _ (by omega)).trans e7
  refine aw_putFO (pc := 48) X _ 3 (by omega) (by (repeat (first | rw [aw_up_eq] | rw [aw_up_ne _ _ (by first | assumption | omega)])) <;> first | assumption | rfl) (by rfl) in_Rd (by decide) ty_Rd ok_Rd nm_Rd k_375 (by rfl) (by rfl) (by rfl) (by rfl) (by rfl) (by simp) (fs' := [_, _, _, _, _, _, _, _]) (by rfl) d_Rd_init_48 ?_
  -- stop 51 lv=0:r st=
  generalize hw9 : aw_up w8 0 _ = w9
  have f9 : fr 0 1 w8 w9 := by rw [← hw9]; exact (fr.refl _ _ _).up _ (by omega)
  have e9 : w9 0 = aObj 0 [rf G 1, rf G 3, rf G 5, rf G 15, .null, .null, .null, .int 0] := by rw [← hw9]; exact aw_up_eq _ _ _
  have h9 := (h7.keep f8' (by omega)).keep f9 (by omega)
  have h9b := (h7b.keep f8' (by omega)).keep f9 (by omega)
  have h9c := (h7c.keep f8' (by omega)).keep f9 (by omega)
  have h9d := h8.keep f9 (by omega)
  refine aw_aload_nR (pc := 51) X d_Rd_init_51 (by rfl) ?_
  refine aw_new (pc := 52) X ty_Cs ok_Cs rfl (by omega) (ci := 6) (by rfl) in_Cs k_261 k_262 k_75 _ df_Cs (by omega) (by omega) d_Rd_init_52 ?_
  refine aw_dup (pc := 55) X d_Rd_init_55 (by rfl) ?_
  -- invokespecial 56 lv=0:r st=r,r,r
  refine aw_callI (pc := 56) X _ (s_Cs_init (d := 4) rfl (by omega) (aw_up_eq _ _ _)) q_Cs_init k_263 k_264 (by rfl) (by rfl) d_Rd_init_56 (by omega) (Nat.le_of_ble_eq_true rfl) ⟨by omega, by omega⟩ (fun _ => ⟨rfl, by omega⟩) (fun r wa nx2 hp => ?_)
  obtain ⟨rfl, rfl, ha, fa⟩ := hp
  have fa' : fr 317 412 w9 wa := ((fr.refl _ _ _).up _ (by omega)).trans fa
  have ea : wa 0 = aObj 0 [rf G 1, rf G 3, rf G 5, rf G 15, .null, .null, .null, .int 0] := (fa' _ (by omega)).trans e9
  refine aw_putFO (pc := 59) X _ 4 (by omega) (by (repeat (first | rw [aw_up_eq] | rw [aw_up_ne _ _ (by first | assumption | omega)])) <;> first | assumption | rfl) (by rfl) in_Rd (by decide) ty_Rd ok_Rd nm_Rd k_376 (by rfl) (by rfl) (by rfl) (by rfl) (by rfl) (by simp) (fs' := [_, _, _, _, _, _, _, _]) (by rfl) d_Rd_init_59 ?_
  -- stop 62 lv=0:r st=
  generalize hwb : aw_up wa 0 _ = wb
  have fb : fr 0 1 wa wb := by rw [← hwb]; exact (fr.refl _ _ _).up _ (by omega)
  have eb : wb 0 = aObj 0 [rf G 1, rf G 3, rf G 5, rf G 15, rf G 317, .null, .null, .int 0] := by rw [← hwb]; exact aw_up_eq _ _ _
  have hb := (h9.keep fa' (by omega)).keep fb (by omega)
  have hbb := (h9b.keep fa' (by omega)).keep fb (by omega)
  have hbc := (h9c.keep fa' (by omega)).keep fb (by omega)
  have hbd := (h9d.keep fa' (by omega)).keep fb (by omega)
  have hbe := ha.keep fb (by omega)
  refine aw_aload_nR (pc := 62) X d_Rd_init_62 (by rfl) ?_
  refine aw_new (pc := 63) X ty_Ex ok_Ex rfl (by omega) (ci := 8) (by rfl) in_Ex k_327 k_328 k_77 _ df_Ex (by omega) (by omega) d_Rd_init_63 ?_
  refine aw_dup (pc := 66) X d_Rd_init_66 (by rfl) ?_
  refine aw_aload_nR (pc := 67) X d_Rd_init_67 (by rfl) ?_
  refine aw_getO (pc := 68) X _ 1 (by omega) (by (repeat (first | rw [aw_up_eq] | rw [aw_up_ne _ _ (by first | assumption | omega)])) <;> first | assumption | rfl) (by rfl) in_Rd (by decide) k_373 (by rfl) d_Rd_init_68 ?_
  refine aw_aload_nR (pc := 71) X d_Rd_init_71 (by rfl) ?_
  refine aw_getO (pc := 72) X _ 2 (by omega) (by (repeat (first | rw [aw_up_eq] | rw [aw_up_ne _ _ (by first | assumption | omega)])) <;> first | assumption | rfl) (by rfl) in_Rd (by decide) k_374 (by rfl) d_Rd_init_72 ?_
  refine aw_aload_nR (pc := 75) X d_Rd_init_75 (by rfl) ?_
  refine aw_getO (pc := 76) X _ 3 (by omega) (by (repeat (first | rw [aw_up_eq] | rw [aw_up_ne _ _ (by first | assumption | omega)])) <;> first | assumption | rfl) (by rfl) in_Rd (by decide) k_375 (by rfl) d_Rd_init_76 ?_
  -- invokespecial 79 lv=0:r st=r,r,r,r,r,r
  refine aw_callI (pc := 79) X _ (s_Ex_init (d := 3) rfl (by omega) (aw_up_eq _ _ _)) q_Ex_init k_329 k_330 (by rfl) (by rfl) d_Rd_init_79 (by omega) (Nat.le_of_ble_eq_true rfl) ⟨by omega, by omega⟩ (fun _ => ⟨rfl, by omega⟩) (fun r wc nx2 hp => ?_)
  obtain ⟨rfl, rfl, hc1, hc2, hc3, fc⟩ := hp
  have fc' : fr 412 418 wb wc := ((fr.refl _ _ _).up _ (by omega)).trans fc
  have ec : wc 0 = aObj 0 [rf G 1, rf G 3, rf G 5, rf G 15, rf G 317, .null, .null, .int 0] := (fc' _ (by omega)).trans eb
  refine aw_putFO (pc := 82) X _ 5 (by omega) (by (repeat (first | rw [aw_up_eq] | rw [aw_up_ne _ _ (by first | assumption | omega)])) <;> first | assumption | rfl) (by rfl) in_Rd (by decide) ty_Rd ok_Rd nm_Rd k_377 (by rfl) (by rfl) (by rfl) (by rfl) (by rfl) (by simp) (fs' := [_, _, _, _, _, _, _, _]) (by rfl) d_Rd_init_82 ?_
  refine aw_aload_nR (pc := 85) X d_Rd_init_85 (by rfl) ?_
  refine aw_null (pc := 86) X d_Rd_init_86 ?_
  refine aw_putO (pc := 87) X _ 6 (by omega) (by (repeat (first | rw [aw_up_eq] | rw [aw_up_ne _ _ (by first | assumption | omega)])) <;> first | assumption | rfl) (by rfl) in_Rd (by decide) ty_Rd ok_Rd nm_Rd k_378 (by rfl) (by rfl) (by rfl) (by simp) (fs' := [_, _, _, _, _, _, _, _]) (by rfl) d_Rd_init_87 ?_
  refine aw_aload_nR (pc := 90) X d_Rd_init_90 (by rfl) ?_
  refine aw_iconstN (pc := 91) X 0 d_Rd_init_91 (by decide) ?_
  refine aw_putO (pc := 92) X _ 7 (by omega) (by (repeat (first | rw [aw_up_eq] | rw [aw_up_ne _ _ (by first | assumption | omega)])) <;> first | assumption | rfl) (by rfl) in_Rd (by decide) ty_Rd ok_Rd nm_Rd k_379 (by rfl) (by rfl) (by rfl) (by simp) (fs' := [_, _, _, _, _, _, _, _]) (by rfl) d_Rd_init_92 ?_
  refine aw_vret Y X rfl d_Rd_init_95 (by omega) (by omega) (hP _ _ _ ?_)
  -- ret 95 lv=0:r st=
  generalize hwd : aw_up (aw_up (aw_up wc 0 _) 0 _) 0 _ = wd
  have fd : fr 0 1 wc wd := by rw [← hwd]; exact (((fr.refl _ _ _).up _ (by omega)).up _ (by omega)).up _ (by omega)
  have ed : wd 0 = aObj 0 [rf G 1, rf G 3, rf G 5, rf G 15, rf G 317, rf G 412, .null, .int (nI 0)] := by rw [← hwd]; exact aw_up_eq _ _ _
  exact ⟨rfl, rfl, ed, (hb.keep fc' (by omega)).keep fd (by omega), ⟨[], (hbb.keep fc' (by omega)).keep fd (by omega), (hbc.keep fc' (by omega)).keep fd (by omega), (hbd.keep fc' (by omega)).keep fd (by omega), hc1.keep fd (by omega), hc2.keep fd (by omega), (fd _ (by omega)).trans hc3⟩, (hbe.keep fc' (by omega)).keep fd (by omega)⟩
end

