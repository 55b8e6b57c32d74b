/-! the makers: each object's parts lie behind it -/
section
variable {G : aw_G} {nx d : Nat} {w : Nat → va_E}
theorem s_Tx_init {a m : Nat} (hnx : nx = a + 1) (hd : 1 ≤ d) (hm : m < 2 ^ 20) (h1 : w a = aObj 1 [.null, .int 0]) : AC G y_Tx_init b_Tx_init 2 none d true [rf G a, .int (nI m)] nx w 1 m (fun r w' nx' => r = none ∧ nx' = a + 2 ∧ hTx G w' a m [] ∧ fr a (a + 2) w w') := by
  subst hnx
  refine (c_Tx_init (by omega) hd hm h1).weak ?_
  rintro r w' nx' ⟨rfl, rfl, rfl⟩
  exact ⟨rfl, rfl, ⟨fun _ => 0, aw_up_eq _ _ _, by rw [aw_up_ne _ _ (by omega), aw_up_eq], rfl, Nat.zero_le _, fun _ => (by decide : (0 : Nat) < 65536)⟩, ((fr.refl _ _ _).up _ (by omega)).up _ (by omega)⟩
theorem s_Fr_init (hnx : nx = 4) (hd : 1 ≤ d) (h1 : w 3 = aObj 2 [.null, .int 0]) : AC G y_Fr_init b_Fr_init 1 none d true [rf G 3] nx w 1 600 (fun r w' nx' => r = none ∧ nx' = 5 ∧ hFr G w' [] ∧ fr 3 5 w w') := by
  subst hnx
  refine (c_Fr_init (by omega) hd h1).weak ?_
  rintro r w' nx' ⟨rfl, rfl, rfl⟩
  exact ⟨rfl, rfl, ⟨Nat.zero_le _, fun _ => 0, aw_up_eq _ _ _, by rw [aw_up_ne _ _ (by omega), aw_up_eq], rfl, fun _ => (by decide : (0 : Nat) < 65536)⟩, ((fr.refl _ _ _).up _ (by omega)).up _ (by omega)⟩
theorem s_De_init {a : Nat} (hnx : nx = a + 1) (hd : 2 ≤ d) (h1 : w a = aObj 5 [.null, .null, .null]) : AC G y_De_init b_De_init 1 none d true [rf G a] nx w 4 116 (fun r w' nx' => r = none ∧ nx' = a + 5 ∧ hDe G w' a ([], 0, []) ∧ fr a (a + 5) w w') := by
  subst hnx
  refine AC.ofW (by decide) (Nat.le_of_ble_eq_true rfl) ?_
  intro E P hP Y X
  have X : aw_X G "RescanDesk$Definition" b_De_init 1 none "<init>" _ _ _ _ _ E := X
  refine AW.eql (lv' := [(0, _)]) (by rfl) ?_
  refine aw_aload_nR (pc := 0) X d_De_init_0 (by rfl) ?_
  refine aw_objInit (pc := 1) X k_172 k_94 k_95 d_De_init_1 (by omega) (Nat.le_trans (m := 20) (Nat.le_of_ble_eq_true rfl) (by omega)) ?_
  refine aw_aload_nR (pc := 4) X d_De_init_4 (by rfl) ?_
  refine aw_new (pc := 5) X ty_Tx ok_Tx rfl (by omega) (ci := 1) (by rfl) in_Tx k_173 k_97 k_64 _ df_Tx (by omega) (by omega) d_De_init_5 ?_
  refine aw_dup (pc := 8) X d_De_init_8 (by rfl) ?_
  refine aw_bipushN (pc := 9) X 12 d_De_init_9 (by decide) ?_
  -- invokespecial 11 lv=0:r st=n,r,r,r
  refine aw_callI (pc := 11) X _ (s_Tx_init (d := 1) (a := a + 1) rfl (by omega) (by omega) (aw_up_eq _ _ _)) q_Tx_init k_174 k_99 (by rfl) (by rfl) d_De_init_11 (by omega) (Nat.le_of_ble_eq_true rfl) ⟨by omega, by omega⟩ (fun _ => ⟨rfl, by omega⟩) (fun r w2 nx2 hp => ?_)
  obtain ⟨rfl, rfl, h2, f2⟩ := hp
  have e1 : w2 a = aObj 5 [.null, .null, .null] := (f2 _ (by omega)).trans ((aw_up_ne _ _ (by omega)).trans h1)
  have f2' : fr a (a + 5) w w2 := ((fr.refl _ _ _).up _ (by omega)).trans (f2.mono (by omega) (by omega))
  refine aw_putFO (pc := 14) X _ 0 (by omega) (by (repeat (first | rw [aw_up_eq] | rw [aw_up_ne _ _ (by first | assumption | omega)])) <;> first | assumption | rfl) (by rfl) in_De (by decide) ty_De ok_De nm_De k_175 (by rfl) (by rfl) (by rfl) (by rfl) (by rfl) (by simp) (fs' := [_, _, _]) (by rfl) d_De_init_14 ?_
  -- stop 17 lv=0:r st=
  generalize hw3 : aw_up w2 a _ = w3
  have f3 : fr a (a + 1) w2 w3 := by rw [← hw3]; exact (fr.refl _ _ _).up _ (by omega)
  have e3 : w3 a = aObj 5 [rf G (a + 1), .null, .null] := by rw [← hw3]; exact aw_up_eq _ _ _
  refine aw_aload_nR (pc := 17) X d_De_init_17 (by rfl) ?_
  refine aw_new (pc := 18) X ty_Tx ok_Tx rfl (by omega) (ci := 1) (by rfl) in_Tx k_173 k_97 k_64 _ df_Tx (by omega) (by omega) d_De_init_18 ?_
  refine aw_dup (pc := 21) X d_De_init_21 (by rfl) ?_
  refine aw_bipushN (pc := 22) X 100 d_De_init_22 (by decide) ?_
  -- invokespecial 24 lv=0:r st=n,r,r,r
  refine aw_callI (pc := 24) X _ (s_Tx_init (d := 1) (a := a + 3) rfl (by omega) (by omega) (aw_up_eq _ _ _)) q_Tx_init k_174 k_99 (by rfl) (by rfl) d_De_init_24 (by omega) (Nat.le_of_ble_eq_true rfl) ⟨by omega, by omega⟩ (fun _ => ⟨rfl, by omega⟩) (fun r w4 nx2 hp => ?_)
  obtain ⟨rfl, rfl, h4, f4⟩ := hp
  have e4 : w4 a = aObj 5 [rf G (a + 1), .null, .null] := (f4 _ (by omega)).trans ((aw_up_ne _ _ (by omega)).trans e3)
  have f4' : fr (a + 3) (a + 5) w3 w4 := ((fr.refl _ _ _).up _ (by omega)).trans f4
  refine aw_putFO (pc := 27) X _ 1 (by omega) (by (repeat (first | rw [aw_up_eq] | rw [aw_up_ne _ _ (by first | assumption | omega)])) <;> first | assumption | rfl) (by rfl) in_De (by decide) ty_De ok_De nm_De k_178 (by rfl) (by rfl) (by rfl) (by rfl) (by rfl) (by simp) (fs' := [_, _, _]) (by rfl) d_De_init_27 ?_
  refine aw_aload_nR (pc := 30) X d_De_init_30 (by rfl) ?_
  refine aw_null (pc := 31) X d_De_init_31 ?_
  refine aw_putO (pc := 32) X _ 2 (by omega) (by (repeat (first | rw [aw_up_eq] | rw [aw_up_ne _ _ (by first | assumption | omega)])) <;> first | assumption | rfl) (by rfl) in_De (by decide) ty_De ok_De nm_De k_180 (by rfl) (by rfl) (by rfl) (by simp) (fs' := [_, _, _]) (by rfl) d_De_init_32 ?_
  refine aw_vret Y X rfl d_De_init_35 (by omega) (by omega) (hP _ _ _ ?_)
  -- ret 35 lv=0:r st=
  generalize hw5 : aw_up (aw_up w4 a _) a _ = w5
  have f5 : fr a (a + 1) w4 w5 := by rw [← hw5]; exact ((fr.refl _ _ _).up _ (by omega)).up _ (by omega)
  have e5 : w5 a = aObj 5 [rf G (a + 1), rf G (a + 3), .null] := by rw [← hw5]; exact aw_up_eq _ _ _
  exact ⟨rfl, rfl, ⟨e5, ((h2.keep f3 (by omega)).keep f4' (by omega)).keep f5 (by omega), h4.keep f5 (by omega)⟩, f2'.trans ((f3.mono (by omega) (by omega)).trans ((f4'.mono (by omega) (by omega)).trans (f5.mono (by omega) (by omega))))⟩
theorem s_Ca_init {a : Nat} (hnx : nx = a + 1) (hd : 3 ≤ d) (h1 : w a = aObj 7 [.null, .null, .null, .int 0, .int 0, .int 0]) : AC G y_Ca_init b_Ca_init 2 none d true [rf G a, rf G 319] nx w 6 129 (fun r w' nx' => r = none ∧ nx' = a + 7 ∧ hCa G w' a ([], 0, []) (fun _ => 0) 0 0 false ∧ fr a (a + 7) w w') := by
  subst hnx
  refine AC.ofW (by decide) (Nat.le_of_ble_eq_true rfl) ?_
  intro E P hP Y X
  have X : aw_X G "RescanDesk$Call" b_Ca_init 2 none "<init>" _ _ _ _ _ E := X
  refine AW.eql (lv' := [(0, _), (1, _)]) (by rfl) ?_
  refine aw_aload_nR (pc := 0) X d_Ca_init_0 (by rfl) ?_
  refine aw_objInit (pc := 1) X k_275 k_94 k_95 d_Ca_init_1 (by omega) (Nat.le_trans (m := 20) (Nat.le_of_ble_eq_true rfl) (by omega)) ?_
  refine aw_aload_nR (pc := 4) X d_Ca_init_4 (by rfl) ?_
  refine aw_new (pc := 5) X ty_De ok_De rfl (by omega) (ci := 5) (by rfl) in_De k_276 k_168 k_68 _ df_De (by omega) (by omega) d_Ca_init_5 ?_
  refine aw_dup (pc := 8) X d_Ca_init_8 (by rfl) ?_
  -- invokespecial 9 lv=0:r,1:r st=r,r,r
  refine aw_callI (pc := 9) X _ (s_De_init (d := 2) (a := a + 1) rfl (by omega) (aw_up_eq _ _ _)) q_De_init k_277 k_170 (by rfl) (by rfl) d_Ca_init_9 (by omega) (Nat.le_of_ble_eq_true rfl) ⟨by omega, by omega⟩ (fun _ => ⟨rfl, by omega⟩) (fun r w2 nx2 hp => ?_)
  obtain ⟨rfl, rfl, h2, f2⟩ := hp
  have e1 : w2 a = aObj 7 [.null, .null, .null, .int 0, .int 0, .int 0] := (f2 _ (by omega)).trans ((aw_up_ne _ _ (by omega)).trans h1)
  have f2' : fr a (a + 7) w w2 := ((fr.refl _ _ _).up _ (by omega)).trans (f2.mono (by omega) (by omega))
  refine aw_putFO (pc := 12) X _ 0 (by omega) (by (repeat (first | rw [aw_up_eq] | rw [aw_up_ne _ _ (by first | assumption | omega)])) <;> first | assumption | rfl) (by rfl) in_Ca (by decide) ty_Ca ok_Ca nm_Ca k_278 (by rfl) (by rfl) (by rfl) (by rfl) (by rfl) (by simp) (fs' := [_, _, _, _, _, _]) (by rfl) d_Ca_init_12 ?_
  refine aw_aload_nR (pc := 15) X d_Ca_init_15 (by rfl) ?_
  refine aw_aload_nR (pc := 16) X d_Ca_init_16 (by rfl) ?_
  refine aw_putFO (pc := 17) X _ 1 (by omega) (by (repeat (first | rw [aw_up_eq] | rw [aw_up_ne _ _ (by first | assumption | omega)])) <;> first | assumption | rfl) (by rfl) in_Ca (by decide) ty_Ca ok_Ca nm_Ca k_281 (by rfl) (by rfl) (by rfl) (by rfl) (by rfl) (by simp) (fs' := [_, _, _, _, _, _]) (by rfl) d_Ca_init_17 ?_
  -- stop 20 lv=0:r,1:r st=
  generalize hw3 : aw_up (aw_up w2 a _) a _ = w3
  have f3 : fr a (a + 1) w2 w3 := by rw [← hw3]; exact ((fr.refl _ _ _).up _ (by omega)).up _ (by omega)
  have e3 : w3 a = aObj 7 [rf G (a + 1), rf G 319, .null, .int 0, .int 0, .int 0] := by rw [← hw3]; exact aw_up_eq _ _ _
  refine aw_aload_nR (pc := 20) X d_Ca_init_20 (by rfl) ?_
  refine aw_bipushN (pc := 21) X 10 d_Ca_init_21 (by decide) ?_
  refine aw_newaN (pc := 23) X (atype := .int) (ty := .int) rfl 1 (by rfl) (by intro C h; cases h) rfl (by decide) rfl (by omega) k_307 (by omega) (by omega) (by omega) d_Ca_init_23 ?_
  -- stop 25 lv=0:r,1:r st=r,r
  generalize hw4 : aw_up w3 (a + 1 + 5) _ = w4
  have f4 : fr (a + 6) (a + 7) w3 w4 := by rw [← hw4]; exact (fr.refl _ _ _).up _ (by omega)
  have e4 : w4 a = aObj 7 [rf G (a + 1), rf G 319, .null, .int 0, .int 0, .int 0] := (f4 _ (by omega)).trans e3
  have e46 : w4 (a + 6) = aArr (G.2.2.2.1 1) 10 (fun _ => 0) := by rw [← hw4]; exact aw_up_eq _ _ _
  refine aw_putFO (pc := 25) X _ 2 (by omega) (by (repeat (first | rw [aw_up_eq] | rw [aw_up_ne _ _ (by first | assumption | omega)])) <;> first | assumption | rfl) (by rfl) in_Ca (by decide) ty_Ca ok_Ca nm_Ca k_283 (by rfl) (by rfl) (by rfl) (by rfl) (by rfl) (by simp) (fs' := [_, _, _, _, _, _]) (by rfl) d_Ca_init_25 ?_
  refine aw_aload_nR (pc := 28) X d_Ca_init_28 (by rfl) ?_
  refine aw_iconstN (pc := 29) X 0 d_Ca_init_29 (by decide) ?_
  refine aw_putO (pc := 30) X _ 3 (by omega) (by (repeat (first | rw [aw_up_eq] | rw [aw_up_ne _ _ (by first | assumption | omega)])) <;> first | assumption | rfl) (by rfl) in_Ca (by decide) ty_Ca ok_Ca nm_Ca k_285 (by rfl) (by rfl) (by rfl) (by simp) (fs' := [_, _, _, _, _, _]) (by rfl) d_Ca_init_30 ?_
  refine aw_aload_nR (pc := 33) X d_Ca_init_33 (by rfl) ?_
  refine aw_iconstN (pc := 34) X 0 d_Ca_init_34 (by decide) ?_
  refine aw_putO (pc := 35) X _ 4 (by omega) (by (repeat (first | rw [aw_up_eq] | rw [aw_up_ne _ _ (by first | assumption | omega)])) <;> first | assumption | rfl) (by rfl) in_Ca (by decide) ty_Ca ok_Ca nm_Ca k_288 (by rfl) (by rfl) (by rfl) (by simp) (fs' := [_, _, _, _, _, _]) (by rfl) d_Ca_init_35 ?_
  refine aw_aload_nR (pc := 38) X d_Ca_init_38 (by rfl) ?_
  refine aw_iconstN (pc := 39) X 0 d_Ca_init_39 (by decide) ?_
  refine aw_putO (pc := 40) X _ 5 (by omega) (by (repeat (first | rw [aw_up_eq] | rw [aw_up_ne _ _ (by first | assumption | omega)])) <;> first | assumption | rfl) (by rfl) in_Ca (by decide) ty_Ca ok_Ca nm_Ca k_291 (by rfl) (by decide +kernel) (by decide +kernel) (by simp) (fs' := [_, _, _, _, _, _]) (by rfl) d_Ca_init_40 ?_
  refine aw_vret Y X rfl d_Ca_init_43 (by omega) (by omega) (hP _ _ _ ?_)
  -- ret 43 lv=0:r,1:r st=
  generalize hw5 : aw_up (aw_up (aw_up (aw_up w4 a _) a _) a _) a _ = w5
  have f5 : fr a (a + 1) w4 w5 := by rw [← hw5]; exact ((((fr.refl _ _ _).up _ (by omega)).up _ (by omega)).up _ (by omega)).up _ (by omega)
  have e5 : w5 a = oCa G a 0 0 false := by rw [← hw5]; exact aw_up_eq _ _ _
  exact ⟨rfl, rfl, ⟨e5, ((h2.keep f3 (by omega)).keep f4 (by omega)).keep f5 (by omega), (f5 _ (by omega)).trans e46⟩, f2'.trans ((f3.mono (by omega) (by omega)).trans ((f4.mono (by omega) (by omega)).trans (f5.mono (by omega) (by omega))))⟩
theorem s_Ro_init (hnx : nx = 6) (hd : 2 ≤ d) (h1 : w 5 = aObj 3 [.null, .int 0]) : AC G y_Ro_init b_Ro_init 2 none d true [rf G 5] nx w 9 1212 (fun r w' nx' => r = none ∧ nx' = 15 ∧ hRo G w' (some 0) (fun _ => []) ∧ fr 5 15 w w') := by
  subst hnx
  refine AC.ofW (by decide) (Nat.le_of_ble_eq_true rfl) ?_
  intro E P hP Y X
  have X : aw_X G "RescanDesk$Rows" b_Ro_init 2 none "<init>" _ _ _ _ _ E := X
  refine AW.eql (lv' := [(0, _)]) (by rfl) ?_
  have L : ∀ (j i : Nat) (w1 : Nat → va_E) (f : Nat → Option Nat), i + j = 4 → w1 5 = aObj 3 [rf G 6, .int 0] → w1 6 = aRefs (G.2.2.2.1 4) 4 f → (∀ r, r < i → f r = some (G.2.2.1 + (7 + 2 * r)) ∧ hTx G w1 (7 + 2 * r) 300 []) → fr 5 15 w w1 → AW G E 2 (7 + 2 * i) (1 + 2 * i) (4 + 302 * i) w1 14 [(1, .int (nI i)), (0, rf G 5)] [] := by
    intro j
    induction j with
    | zero =>
      intro i w1 f hi e5 e6 hr ef
      have hi4 : i = 4 := by omega
      subst hi4
      refine aw_iload_n (pc := 14) X d_Ro_init_14 (by rfl) ?_
      refine aw_iconstN (pc := 15) X 4 d_Ro_init_15 (by decide) ?_
      refine aw_icmp_geN (pc := 16) X (tgt := 41) d_Ro_init_16 (by rfl) (by omega) (by omega) (fun h16 => ?_) (fun h16 => ?_)
      -- br 16 lv=1:n,0:r st=
      · refine aw_aload_nR (pc := 41) X d_Ro_init_41 (by rfl) ?_
        refine aw_iconstN (pc := 42) X 0 d_Ro_init_42 (by decide) ?_
        refine aw_putO (pc := 43) X _ 1 (by omega) (by (repeat (first | rw [aw_up_eq] | rw [aw_up_ne _ _ (by first | assumption | omega)])) <;> first | assumption | rfl) (by rfl) in_Ro (by decide) ty_Ro ok_Ro nm_Ro k_152 (by rfl) (by rfl) (by rfl) (by simp) (fs' := [_, _]) (by rfl) d_Ro_init_43 ?_
        refine aw_vret Y X rfl d_Ro_init_46 (by omega) (by omega) (hP _ _ _ ?_)
        -- ret 46 lv=1:n,0:r st=
        have f6 : fr 5 6 w1 (aw_up w1 5 (aObj 3 [rf G 6, .int (nI 0)])) := (fr.refl _ _ _).up _ (by omega)
        exact ⟨rfl, rfl, ⟨aw_up_eq _ _ _, ⟨f, (f6 _ (by omega)).trans e6, fun r hr4 => (hr r hr4).1⟩, fun r hr4 => (hr r hr4).2.keep f6 (by omega), fun k hk => by cases hk; decide⟩, ef.trans (f6.mono (by omega) (by omega))⟩
      · omega
    | succ j ih =>
      intro i w1 f hi e5 e6 hr ef
      refine aw_iload_n (pc := 14) X d_Ro_init_14 (by rfl) ?_
      refine aw_iconstN (pc := 15) X 4 d_Ro_init_15 (by decide) ?_
      refine aw_icmp_geN (pc := 16) X (tgt := 41) d_Ro_init_16 (by rfl) (by omega) (by omega) (fun h16 => ?_) (fun h16 => ?_)
      -- br 16 lv=1:n,0:r st=
      · omega
      · refine aw_aload_nR (pc := 19) X d_Ro_init_19 (by rfl) ?_
        refine aw_getO (pc := 20) X _ 0 (by omega) (by (repeat (first | rw [aw_up_eq] | rw [aw_up_ne _ _ (by first | assumption | omega)])) <;> first | assumption | rfl) (by rfl) in_Ro (by decide) k_150 (by rfl) d_Ro_init_20 ?_
        refine aw_iload_n (pc := 23) X d_Ro_init_23 (by rfl) ?_
        refine aw_new (pc := 24) X ty_Tx ok_Tx rfl (by omega) (ci := 1) (by rfl) in_Tx k_147 k_97 k_64 _ df_Tx (by omega) (by omega) d_Ro_init_24 ?_
        refine aw_dup (pc := 27) X d_Ro_init_27 (by rfl) ?_
        refine aw_sipushN (pc := 28) X 300 d_Ro_init_28 (by decide) ?_
        -- invokespecial 31 lv=1:n,0:r st=n,r,r,n,r
        refine aw_callI (pc := 31) X _ (s_Tx_init (d := 1) (a := 7 + 2 * i) rfl (by omega) (by omega) (aw_up_eq _ _ _)) q_Tx_init k_149 k_99 (by rfl) (by rfl) d_Ro_init_31 (by omega) (Nat.le_of_ble_eq_true rfl) ⟨by omega, by omega⟩ (fun _ => ⟨rfl, by omega⟩) (fun r w2 nx2 hp => ?_)
        obtain ⟨rfl, rfl, h2, f2⟩ := hp
        have f2' : fr (7 + 2 * i) (7 + 2 * i + 2) w1 w2 := ((fr.refl _ _ _).up _ (by omega)).trans f2
        have e62 : w2 6 = aRefs (G.2.2.2.1 4) 4 f := (f2' _ (by omega)).trans e6
        have h2o := h2.obj
        refine aw_aastN (r := ("RescanDesk$Text", _, _)) (pc := 34) X 6 4 (7 + 2 * i) 1 (by omega) e62 (by rfl) (by omega) h2o (by rfl) (by omega) (by omega) d_Ro_init_34 ?_
        generalize hw3 : aw_up w2 6 _ = w3
        have f3 : fr 6 7 w2 w3 := by rw [← hw3]; exact (fr.refl _ _ _).up _ (by omega)
        refine aw_iincN (pc := 35) X 1 (lv' := [(1, _), (0, _)]) d_Ro_init_35 (by rfl) (by decide) (by decide) (by rfl) ?_
        refine aw_goto (pc := 38) X (tgt := 14) d_Ro_init_38 (by rfl) ?_
        -- stop 14 lv=1:n,0:r st=
        refine AW.of (by omega) (by omega) (by omega) rfl rfl rfl (ih (i + 1) w3 (va_up f i (some (G.2.2.1 + (7 + 2 * i)))) (by omega) ((f3 _ (by omega)).trans ((f2' _ (by omega)).trans e5)) (by rw [← hw3, aw_up_eq]) (fun r hr1 => ?_) (ef.trans ((f2'.mono (by omega) (by omega)).trans (f3.mono (by omega) (by omega)))))
        by_cases hri : r = i
        · subst hri
          exact ⟨va_up_self _ _ _, h2.keep f3 (by omega)⟩
        · exact ⟨by rw [va_up_ne _ _ hri]; exact (hr r (by omega)).1, ((hr r (by omega)).2.keep f2' (by omega)).keep f3 (by omega)⟩
  refine aw_aload_nR (pc := 0) X d_Ro_init_0 (by rfl) ?_
  refine aw_objInit (pc := 1) X k_146 k_94 k_95 d_Ro_init_1 (by omega) (Nat.le_trans (m := 20) (Nat.le_of_ble_eq_true rfl) (by omega)) ?_
  refine aw_aload_nR (pc := 4) X d_Ro_init_4 (by rfl) ?_
  refine aw_iconstN (pc := 5) X 4 d_Ro_init_5 (by decide) ?_
  refine aw_newqN (pc := 6) X 4 (by rfl) rfl (by omega) k_147 k_148 (by omega) (by omega) (by omega) d_Ro_init_6 ?_
  refine aw_putFO (pc := 9) X _ 0 (by omega) (by (repeat (first | rw [aw_up_eq] | rw [aw_up_ne _ _ (by first | assumption | omega)])) <;> first | assumption | rfl) (by rfl) in_Ro (by decide) ty_Ro ok_Ro nm_Ro k_150 (by rfl) (by rfl) (by rfl) (by rfl) (by rfl) (by simp) (fs' := [_, _]) (by rfl) d_Ro_init_9 ?_
  refine aw_iconstN (pc := 12) X 0 d_Ro_init_12 (by decide) ?_
  refine aw_istore_n (pc := 13) X (lv' := [(1, _), (0, _)]) d_Ro_init_13 (by decide) (by rfl) ?_
  -- stop 14 lv=1:n,0:r st=
  generalize hw3 : aw_up _ 5 _ = w3
  have f3 : fr 5 15 w w3 := by rw [← hw3]; exact ((fr.refl _ _ _).up _ (by omega)).up _ (by omega)
  exact L 4 0 w3 (fun _ => none) (by omega) (by rw [← hw3]; exact aw_up_eq _ _ _) (by rw [← hw3, aw_up_ne _ _ (by omega), aw_up_eq]) (fun r hr => by omega) f3
theorem s_Ep_init (hnx : nx = 414) (hd : 2 ≤ d) (h1 : w 413 = aObj 9 [.null, .int 0, .int 0, .int 0]) : AC G y_Ep_init b_Ep_init 1 none d true [rf G 413] nx w 2 402 (fun r w' nx' => r = none ∧ nx' = 416 ∧ hEp G w' ∧ fr 413 416 w w') := by
  subst hnx
  refine AC.ofW (by decide) (Nat.le_of_ble_eq_true rfl) ?_
  intro E P hP Y X
  have X : aw_X G "RescanDesk$Expression" b_Ep_init 1 none "<init>" _ _ _ _ _ E := X
  refine AW.eql (lv' := [(0, _)]) (by rfl) ?_
  refine aw_aload_nR (pc := 0) X d_Ep_init_0 (by rfl) ?_
  refine aw_objInit (pc := 1) X k_338 k_94 k_95 d_Ep_init_1 (by omega) (Nat.le_trans (m := 20) (Nat.le_of_ble_eq_true rfl) (by omega)) ?_
  refine aw_aload_nR (pc := 4) X d_Ep_init_4 (by rfl) ?_
  refine aw_new (pc := 5) X ty_Tx ok_Tx rfl (by omega) (ci := 1) (by rfl) in_Tx k_339 k_97 k_64 _ df_Tx (by omega) (by omega) d_Ep_init_5 ?_
  refine aw_dup (pc := 8) X d_Ep_init_8 (by rfl) ?_
  refine aw_sipushN (pc := 9) X 400 d_Ep_init_9 (by decide) ?_
  -- invokespecial 12 lv=0:r st=n,r,r,r
  refine aw_callI (pc := 12) X _ (s_Tx_init (d := 1) (a := 414) rfl (by omega) (by omega) (aw_up_eq _ _ _)) q_Tx_init k_340 k_99 (by rfl) (by rfl) d_Ep_init_12 (by omega) (Nat.le_of_ble_eq_true rfl) ⟨by omega, by omega⟩ (fun _ => ⟨rfl, by omega⟩) (fun r w2 nx2 hp => ?_)
  obtain ⟨rfl, rfl, h2, f2⟩ := hp
  have e1 : w2 413 = aObj 9 [.null, .int 0, .int 0, .int 0] := (f2 _ (by omega)).trans ((aw_up_ne _ _ (by omega)).trans h1)
  have f2' : fr 413 416 w w2 := ((fr.refl _ _ _).up _ (by omega)).trans (f2.mono (by omega) (by omega))
  refine aw_putFO (pc := 15) X _ 0 (by omega) (by (repeat (first | rw [aw_up_eq] | rw [aw_up_ne _ _ (by first | assumption | omega)])) <;> first | assumption | rfl) (by rfl) in_Ep (by decide) ty_Ep ok_Ep nm_Ep k_341 (by rfl) (by rfl) (by rfl) (by rfl) (by rfl) (by simp) (fs' := [_, _, _, _]) (by rfl) d_Ep_init_15 ?_
  refine aw_aload_nR (pc := 18) X d_Ep_init_18 (by rfl) ?_
  refine aw_iconstN (pc := 19) X 0 d_Ep_init_19 (by decide) ?_
  refine aw_putO (pc := 20) X _ 1 (by omega) (by (repeat (first | rw [aw_up_eq] | rw [aw_up_ne _ _ (by first | assumption | omega)])) <;> first | assumption | rfl) (by rfl) in_Ep (by decide) ty_Ep ok_Ep nm_Ep k_342 (by rfl) (by rfl) (by rfl) (by simp) (fs' := [_, _, _, _]) (by rfl) d_Ep_init_20 ?_
  refine aw_aload_nR (pc := 23) X d_Ep_init_23 (by rfl) ?_
  refine aw_iconstN (pc := 24) X 0 d_Ep_init_24 (by decide) ?_
  refine aw_putO (pc := 25) X _ 2 (by omega) (by (repeat (first | rw [aw_up_eq] | rw [aw_up_ne _ _ (by first | assumption | omega)])) <;> first | assumption | rfl) (by rfl) in_Ep (by decide) ty_Ep ok_Ep nm_Ep k_343 (by rfl) (by decide +kernel) (by decide +kernel) (by simp) (fs' := [_, _, _, _]) (by rfl) d_Ep_init_25 ?_
  refine aw_aload_nR (pc := 28) X d_Ep_init_28 (by rfl) ?_
  refine aw_iconstN (pc := 29) X 0 d_Ep_init_29 (by decide) ?_
  refine aw_putO (pc := 30) X _ 3 (by omega) (by (repeat (first | rw [aw_up_eq] | rw [aw_up_ne _ _ (by first | assumption | omega)])) <;> first | assumption | rfl) (by rfl) in_Ep (by decide) ty_Ep ok_Ep nm_Ep k_344 (by rfl) (by decide +kernel) (by decide +kernel) (by simp) (fs' := [_, _, _, _]) (by rfl) d_Ep_init_30 ?_
  refine aw_vret Y X rfl d_Ep_init_33 (by omega) (by omega) (hP _ _ _ ?_)
  -- ret 33 lv=0:r st=
  generalize hw5 : aw_up (aw_up (aw_up (aw_up w2 413 _) 413 _) 413 _) 413 _ = w5
  have f5 : fr 413 414 w2 w5 := by rw [← hw5]; exact ((((fr.refl _ _ _).up _ (by omega)).up _ (by omega)).up _ (by omega)).up _ (by omega)
  have e5 : w5 413 = aObj 9 [rf G 414, .int (nI 0), .int (nI 0), .int (nI 0)] := by rw [← hw5]; exact aw_up_eq _ _ _
  exact ⟨rfl, rfl, ⟨(0, false, false), [], e5, h2.keep f5 (by omega)⟩, f2'.trans (f5.mono (by omega) (by omega))⟩
theorem s_Ex_init (hnx : nx = 413) (hd : 3 ≤ d) (h1 : w 412 = aObj 8 [.null, .null, .null, .null, .null]) : AC G y_Ex_init b_Ex_init 4 none d true [rf G 412, rf G 3, rf G 5, rf G 15] nx w 5 1009 (fun r w' nx' => r = none ∧ nx' = 418 ∧ hEp G w' ∧ hTx G w' 416 601 [] ∧ hEx w' G ∧ fr 412 418 w w') := by
  subst hnx
  refine AC.ofW (by decide) (Nat.le_of_ble_eq_true rfl) ?_
  intro E P hP Y X
  have X : aw_X G "RescanDesk$Expander" b_Ex_init 4 none "<init>" _ _ _ _ _ E := X
  refine AW.eql (lv' := [(0, _), (1, _), (2, _), (3, _)]) (by rfl) ?_
  refine aw_aload_nR (pc := 0) X d_Ex_init_0 (by rfl) ?_
  refine aw_objInit (pc := 1) X k_332 k_94 k_95 d_Ex_init_1 (by omega) (Nat.le_trans (m := 20) (Nat.le_of_ble_eq_true rfl) (by omega)) ?_
  refine aw_aload_nR (pc := 4) X d_Ex_init_4 (by rfl) ?_
  refine aw_aload_nR (pc := 5) X d_Ex_init_5 (by rfl) ?_
  refine aw_putFO (pc := 6) X _ 0 (by omega) (by (repeat (first | rw [aw_up_eq] | rw [aw_up_ne _ _ (by first | assumption | omega)])) <;> first | assumption | rfl) (by rfl) in_Ex (by decide) ty_Ex ok_Ex nm_Ex k_356 (by rfl) (by rfl) (by rfl) (by rfl) (by rfl) (by simp) (fs' := [_, _, _, _, _]) (by rfl) d_Ex_init_6 ?_
  refine aw_aload_nR (pc := 9) X d_Ex_init_9 (by rfl) ?_
  refine aw_aload_nR (pc := 10) X d_Ex_init_10 (by rfl) ?_
  refine aw_putFO (pc := 11) X _ 1 (by omega) (by (repeat (first | rw [aw_up_eq] | rw [aw_up_ne _ _ (by first | assumption | omega)])) <;> first | assumption | rfl) (by rfl) in_Ex (by decide) ty_Ex ok_Ex nm_Ex k_357 (by rfl) (by rfl) (by rfl) (by rfl) (by rfl) (by simp) (fs' := [_, _, _, _, _]) (by rfl) d_Ex_init_11 ?_
  refine aw_aload_nR (pc := 14) X d_Ex_init_14 (by rfl) ?_
  refine aw_aload_nR (pc := 15) X d_Ex_init_15 (by rfl) ?_
  refine aw_putFO (pc := 16) X _ 2 (by omega) (by (repeat (first | rw [aw_up_eq] | rw [aw_up_ne _ _ (by first | assumption | omega)])) <;> first | assumption | rfl) (by rfl) in_Ex (by decide) ty_Ex ok_Ex nm_Ex k_358 (by rfl) (by rfl) (by rfl) (by rfl) (by rfl) (by simp) (fs' := [_, _, _, _, _]) (by rfl) d_Ex_init_16 ?_
  -- stop 19 lv=0:r,1:r,2:r,3:r st=
  generalize hw1 : aw_up (aw_up (aw_up w 412 _) 412 _) 412 _ = w1
  have f1 : fr 412 413 w w1 := by rw [← hw1]; exact (((fr.refl _ _ _).up _ (by omega)).up _ (by omega)).up _ (by omega)
  have e1 : w1 412 = aObj 8 [rf G 3, rf G 5, rf G 15, .null, .null] := by rw [← hw1]; exact aw_up_eq _ _ _
  refine aw_aload_nR (pc := 19) X d_Ex_init_19 (by rfl) ?_
  refine aw_new (pc := 20) X ty_Ep ok_Ep rfl (by omega) (ci := 9) (by rfl) in_Ep k_333 k_334 k_78 _ df_Ep (by omega) (by omega) d_Ex_init_20 ?_
  refine aw_dup (pc := 23) X d_Ex_init_23 (by rfl) ?_
  -- invokespecial 24 lv=0:r,1:r,2:r,3:r st=r,r,r
  refine aw_callI (pc := 24) X _ (s_Ep_init (d := 2) rfl (by omega) (aw_up_eq _ _ _)) q_Ep_init k_335 k_336 (by rfl) (by rfl) d_Ex_init_24 (by omega) (Nat.le_of_ble_eq_true rfl) ⟨by omega, by omega⟩ (fun _ => ⟨rfl, by omega⟩) (fun r w2 nx2 hp => ?_)
  obtain ⟨rfl, rfl, h2, f2⟩ := hp
  have e2 : w2 412 = aObj 8 [rf G 3, rf G 5, rf G 15, .null, .null] := (f2 _ (by omega)).trans ((aw_up_ne _ _ (by omega)).trans e1)
  have f2' : fr 413 416 w1 w2 := ((fr.refl _ _ _).up _ (by omega)).trans f2
  refine aw_putFO (pc := 27) X _ 3 (by omega) (by (repeat (first | rw [aw_up_eq] | rw [aw_up_ne _ _ (by first | assumption | omega)])) <;> first | assumption | rfl) (by rfl) in_Ex (by decide) ty_Ex ok_Ex nm_Ex k_359 (by rfl) (by rfl) (by rfl) (by rfl) (by rfl) (by simp) (fs' := [_, _, _, _, _]) (by rfl) d_Ex_init_27 ?_
  -- stop 30 lv=0:r,1:r,2:r,3:r st=
  generalize hw3 : aw_up w2 412 _ = w3
  have f3 : fr 412 413 w2 w3 := by rw [← hw3]; exact (fr.refl _ _ _).up _ (by omega)
  have e3 : w3 412 = aObj 8 [rf G 3, rf G 5, rf G 15, rf G 413, .null] := by rw [← hw3]; exact aw_up_eq _ _ _
  refine aw_aload_nR (pc := 30) X d_Ex_init_30 (by rfl) ?_
  refine aw_new (pc := 31) X ty_Tx ok_Tx rfl (by omega) (ci := 1) (by rfl) in_Tx k_354 k_97 k_64 _ df_Tx (by omega) (by omega) d_Ex_init_31 ?_
  refine aw_dup (pc := 34) X d_Ex_init_34 (by rfl) ?_
  refine aw_sipushN (pc := 35) X 601 d_Ex_init_35 (by decide) ?_
  -- invokespecial 38 lv=0:r,1:r,2:r,3:r st=n,r,r,r
  refine aw_callI (pc := 38) X _ (s_Tx_init (d := 1) (a := 416) rfl (by omega) (by omega) (aw_up_eq _ _ _)) q_Tx_init k_355 k_99 (by rfl) (by rfl) d_Ex_init_38 (by omega) (Nat.le_of_ble_eq_true rfl) ⟨by omega, by omega⟩ (fun _ => ⟨rfl, by omega⟩) (fun r w4 nx2 hp => ?_)
  obtain ⟨rfl, rfl, h4, f4⟩ := hp
  have e4 : w4 412 = aObj 8 [rf G 3, rf G 5, rf G 15, rf G 413, .null] := (f4 _ (by omega)).trans ((aw_up_ne _ _ (by omega)).trans e3)
  have f4' : fr 416 418 w3 w4 := ((fr.refl _ _ _).up _ (by omega)).trans f4
  refine aw_putFO (pc := 41) X _ 4 (by omega) (by (repeat (first | rw [aw_up_eq] | rw [aw_up_ne _ _ (by first | assumption | omega)])) <;> first | assumption | rfl) (by rfl) in_Ex (by decide) ty_Ex ok_Ex nm_Ex k_360 (by rfl) (by rfl) (by rfl) (by rfl) (by rfl) (by simp) (fs' := [_, _, _, _, _]) (by rfl) d_Ex_init_41 ?_
  refine aw_vret Y X rfl d_Ex_init_44 (by omega) (by omega) (hP _ _ _ ?_)
  -- ret 44 lv=0:r,1:r,2:r,3:r st=
  generalize hw5 : aw_up w4 412 _ = w5
  have f5 : fr 412 413 w4 w5 := by rw [← hw5]; exact (fr.refl _ _ _).up _ (by omega)
  have e5 : hEx w5 G := by rw [← hw5]; exact aw_up_eq _ _ _
  exact ⟨rfl, rfl, ((h2.keep f3 (by omega)).keep f4' (by omega)).keep f5 (by omega), h4.keep f5 (by omega), e5, (f1.mono (by omega) (by omega)).trans ((f2'.mono (by omega) (by omega)).trans ((f3.mono (by omega) (by omega)).trans ((f4'.mono (by omega) (by omega)).trans (f5.mono (by omega) (by omega)))))⟩
end

