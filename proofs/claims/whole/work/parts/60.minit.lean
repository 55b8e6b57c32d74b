/-! the reference: its maker -/
def blkB : List Nat → Int64 → Bool
  | [], v => decide (v = 0)
  | c :: r, v => decide (v ≠ 0) && (decide (c < 65536) && (decide (((v &&& 255).toInt32.toUInt32 % 65536).toInt32 = nI c) && blkB r (v >>> ((nI 8).toInt64 &&& 63))))
theorem blkB_cons {c : Nat} {r : List Nat} {v : Int64} (h : blkB (c :: r) v = true) : v ≠ 0 ∧ c < 65536 ∧ ((v &&& 255).toInt32.toUInt32 % 65536).toInt32 = nI c ∧ blkB r (v >>> ((nI 8).toInt64 &&& 63)) = true := by
  unfold blkB at h
  rw [Bool.and_eq_true, Bool.and_eq_true, Bool.and_eq_true] at h
  exact ⟨of_decide_eq_true h.1, of_decide_eq_true h.2.1, of_decide_eq_true h.2.2.1, h.2.2.2⟩
section
variable {G : aw_G} {nx d : Nat} {w : Nat → va_E} {p : Int32} {m : Nat → Nat} {A : Nat → Nat → Nat} {V : Nat → Int64}
theorem s_Mo_built {s : List Nat} {v : Int64} {k : Nat} {T : List Def} (hnx : 442 ≤ nx) (hs : s.length ≤ 12) (hk : k ≤ 16) (hnm : isNm s = true) (hbl : blkB s v = true) (hT60 : T.length < 60) (h25 : A 425 (m 5) = 0) (hT : RT (m 5) (A 421) (A 422) (A 423) (A 424) (A 425) T) (hM : hMo G w p m A V) : AC G y_Mo_built b_Mo_built 7 none d false [rf G 418, .long v, .int (nI k)] nx w 0 0 (mq G nx w (fun r p' m' A' V' => r = none ∧ p' = p ∧ V' = V ∧ (∀ j, j ≠ 5 → m' j = m j) ∧ (∀ a, a ≠ 421 → a ≠ 422 → a ≠ 423 → A' a = A a) ∧ RT (m' 5) (A' 421) (A' 422) (A' 423) (A' 424) (A' 425) (T ++ [(s, k, [])]))) := by
  obtain ⟨t1, t2, t3⟩ := id hT
  refine AC.ofW (by decide) (Nat.le_of_ble_eq_true rfl) ?_
  intro E P hP Y X
  have X : aw_X G "RescanDeskModel" b_Mo_built 7 none "built" _ _ _ _ _ E := X
  refine AW.eql (lv' := [(0, _), (1, _), (3, _)]) (by rfl) ?_
  have hf : fr 418 442 w w := fr.refl _ _ _
  have K : ∀ (r : List Nat) (n : Nat) (v1 : Int64), n + r.length = s.length → s.drop n = r → blkB r v1 = true → ∀ w1 A1, hMo G w1 p m A1 V → fr 418 442 w w1 → (∀ a, a ≠ 421 → A1 a = A a) → (∀ x, x < 12 * m 5 → A1 421 x = A 421 x) → s.take n = sl (A1 421) (12 * m 5) n → AW G E 7 nx 0 0 w1 6 [(5, .long v1), (4, .int (nI n)), (0, rf G 418), (1, .long v), (3, .int (nI k))] [] := by
    intro r
    induction r with
    | nil =>
      intro n v1 hn hd hb w1 A1 hM hf hA1 hlo hsl
      have hv0 : v1 = 0 := of_decide_eq_true hb
      have hn0 : n = s.length := by simpa using hn
      subst hn0
      rw [List.take_length] at hsl
      refine aw_lload (pc := 6) X d_Mo_built_6 (by rfl) ?_
      refine aw_lconst (pc := 8) X (v := 0) d_Mo_built_8 (by decide) ?_
      refine aw_lcmp (pc := 9) X d_Mo_built_9 ?_
      refine aw_if_eq (pc := 10) X (tgt := 49) d_Mo_built_10 (by rfl) (fun h10 => ?_) (fun h10 => ?_)
      -- br 10 lv=5:l,4:n,0:r,1:l,3:n st=
      · refine aw_aload_nR (pc := 49) X d_Mo_built_49 (by rfl) ?_
        refine gm_7 (pc := 50) X hM (by omega) d_Mo_built_50 ?_
        refine aw_aload_nR (pc := 53) X d_Mo_built_53 (by rfl) ?_
        refine gm_5 (pc := 54) X hM (by omega) d_Mo_built_54 ?_
        refine aw_iload (pc := 57) X d_Mo_built_57 (by rfl) ?_
        refine sm_422 (pc := 59) X hM hf (by omega) (by omega) d_Mo_built_59 (fun w hM hf => ?_)
        refine aw_aload_nR (pc := 60) X d_Mo_built_60 (by rfl) ?_
        refine gm_8 (pc := 61) X hM (by omega) d_Mo_built_61 ?_
        refine aw_aload_nR (pc := 64) X d_Mo_built_64 (by rfl) ?_
        refine gm_5 (pc := 65) X hM (by omega) d_Mo_built_65 ?_
        try simp only [mu, au, reduceIte, Nat.reduceEqDiff]
        refine aw_iload_n (pc := 68) X d_Mo_built_68 (by rfl) ?_
        refine sm_423 (pc := 69) X hM hf (by omega) (by omega) d_Mo_built_69 (fun w hM hf => ?_)
        refine aw_aload_nR (pc := 70) X d_Mo_built_70 (by rfl) ?_
        refine aw_dup (pc := 71) X d_Mo_built_71 (by rfl) ?_
        refine gm_5 (pc := 72) X hM (by omega) d_Mo_built_72 ?_
        try simp only [mu, au, reduceIte, Nat.reduceEqDiff]
        refine aw_iconstN (pc := 75) X 1 d_Mo_built_75 (by decide) ?_
        refine aw_iaddN (pc := 76) X d_Mo_built_76 ?_
        refine pm_5 (pc := 77) X hM hf (by omega) d_Mo_built_77 (fun w hM hf => ?_)
        refine aw_vret Y X rfl d_Mo_built_80 (by omega) (by omega) (hP _ _ _ ?_)
        -- ret 80 lv=5:l,4:n,0:r,1:l,3:n st=
        refine ⟨rfl, hf, _, _, _, _, hM, rfl, rfl, rfl, fun j hj => if_neg hj, fun a h1 h2 h3 => ?_, ?_⟩
        · exact (if_neg h3).trans ((if_neg h2).trans (hA1 a h1))
        · have e5 : m 5 = T.length := t1
          refine hT.app hT60 ?_ (fun x tx hx htx => ?_)
          · refine ⟨?_, hs, ?_, ?_, hk, ?_, Nat.zero_le _, ?_, hnm⟩
            · show aw_un (A1 422) (m 5) s.length T.length = s.length
              rw [e5, aw_un_eq]
            · show s = sl (A1 421) (12 * T.length) s.length
              rw [← e5]; exact hsl
            · show aw_un (A1 423) (m 5) k T.length = k
              rw [e5, aw_un_eq]
            · show A1 425 T.length = 0
              rw [hA1 425 (by decide), ← e5]; exact h25
            · rfl
          · have hx60 := (List.getElem?_eq_some_iff.mp htx).1
            refine (t3 x tx htx).congr ?_ ?_ ?_ (fun j hj => ?_) (fun j hj => ?_)
            · show aw_un (A1 422) (m 5) s.length x = _
              rw [e5, aw_un_ne _ _ hx, hA1 422 (by decide)]
            · show aw_un (A1 423) (m 5) k x = _
              rw [e5, aw_un_ne _ _ hx, hA1 423 (by decide)]
            · show A1 425 x = _
              rw [hA1 425 (by decide)]
            · show A1 421 _ = _
              rw [hlo _ (by omega)]
            · show A1 424 _ = _
              rw [hA1 424 (by decide)]
      · exact absurd ((lg_eq0 _ _).mpr hv0) h10
    | cons c r ih =>
      intro n v1 hn hd hb w1 A1 hM hf hA1 hlo hsl
      obtain ⟨b1, b2, b3, b4⟩ := blkB_cons hb
      have hnl : n < s.length := by simp at hn; omega
      have hd2 : s.drop (n + 1) = r := by
        have := congrArg (List.drop 1) hd
        rwa [List.drop_drop] at this
      have hgc : s.getD n 0 = c := by
        rw [sl_drop1 hnl] at hd
        exact (List.cons.inj hd).1
      refine aw_lload (pc := 6) X d_Mo_built_6 (by rfl) ?_
      refine aw_lconst (pc := 8) X (v := 0) d_Mo_built_8 (by decide) ?_
      refine aw_lcmp (pc := 9) X d_Mo_built_9 ?_
      refine aw_if_eq (pc := 10) X (tgt := 49) d_Mo_built_10 (by rfl) (fun h10 => ?_) (fun h10 => ?_)
      -- br 10 lv=5:l,4:n,0:r,1:l,3:n st=
      · exact absurd ((lg_eq0 _ _).mp h10) b1
      · refine aw_aload_nR (pc := 13) X d_Mo_built_13 (by rfl) ?_
        refine gm_6 (pc := 14) X hM (by omega) d_Mo_built_14 ?_
        refine aw_bipushN (pc := 17) X 12 d_Mo_built_17 (by decide) ?_
        refine aw_aload_nR (pc := 19) X d_Mo_built_19 (by rfl) ?_
        refine gm_5 (pc := 20) X hM (by omega) d_Mo_built_20 ?_
        refine aw_imulN (pc := 23) X d_Mo_built_23 ?_
        refine aw_iload (pc := 24) X d_Mo_built_24 (by rfl) ?_
        refine aw_iaddN (pc := 26) X d_Mo_built_26 ?_
        refine aw_lload (pc := 27) X d_Mo_built_27 (by rfl) ?_
        refine aw_ldc2 (pc := 29) X k_847 d_Mo_built_29 ?_
        refine aw_land (pc := 32) X d_Mo_built_32 ?_
        refine aw_l2i (pc := 33) X d_Mo_built_33 ?_
        -- stop 34 lv=5:l,4:n,0:r,1:l,3:n st=i,n,a421
        refine aw_i2c (pc := 34) X d_Mo_built_34 ?_
        rw [b3]
        refine sm_421 (pc := 35) X hM hf (by omega) (by omega) (by first | omega | exact hM.b435 _ | exact hM.b420 _ | exact hM.b421 _ | exact hM.b424 _ | exact hM.b426 _ | exact hM.b429 _ | exact hM.b436 _ | exact hM.b438 _ | exact hM.b419 _ | exact hM.b441 _) d_Mo_built_35 (fun w hM hf => ?_)
        refine aw_iincN (pc := 36) X 1 (lv' := [(4, _), (5, _), (0, _), (1, _), (3, _)]) d_Mo_built_36 (by rfl) (by decide) (by decide) (by rfl) ?_
        refine aw_lload (pc := 39) X d_Mo_built_39 (by rfl) ?_
        refine aw_bipushN (pc := 41) X 8 d_Mo_built_41 (by decide) ?_
        refine aw_lshr (pc := 43) X d_Mo_built_43 ?_
        refine aw_lstore (pc := 44) X (lv' := [(5, _), (4, _), (0, _), (1, _), (3, _)]) d_Mo_built_44 (by decide) (by rfl) ?_
        refine aw_goto (pc := 46) X (tgt := 6) d_Mo_built_46 (by rfl) ?_
        -- stop 6 lv=5:l,4:n,0:r,1:l,3:n st=
        refine ih (n + 1) _ (by simp at hn; omega) hd2 b4 _ _ hM hf (fun a h => (if_neg h).trans (hA1 a h)) (fun x hx => ?_) ?_
        · show aw_un (A1 421) (12 * m 5 + n) c x = _
          rw [aw_un_ne _ _ (by omega)]; exact hlo x hx
        · show _ = sl (aw_un (A1 421) (12 * m 5 + n) c) (12 * m 5) (n + 1)
          rw [take1 hnl, hgc, sl_app, sl_cons, sl_0, aw_un_eq, hsl]
          congr 1
          exact sl_congr fun i hi => by rw [aw_un_ne _ _ (by omega)]
  refine aw_iconstN (pc := 0) X 0 d_Mo_built_0 (by decide) ?_
  refine aw_istore (pc := 1) X (lv' := [(4, _), (0, _), (1, _), (3, _)]) d_Mo_built_1 (by decide) (by rfl) ?_
  refine aw_lload_n (pc := 3) X d_Mo_built_3 (by rfl) ?_
  refine aw_lstore (pc := 4) X (lv' := [(5, _), (4, _), (0, _), (1, _), (3, _)]) d_Mo_built_4 (by decide) (by rfl) ?_
  -- stop 6 lv=5:l,4:n,0:r,1:l,3:n st=
  exact K s 0 v (Nat.zero_add _) rfl hbl _ _ hM hf (fun _ _ => rfl) (fun _ _ => rfl) rfl
def arrL (G : aw_G) : List va_E := [aArr (G.2.2.2.1 0) 300 (fun _ => 0), aArr (G.2.2.2.1 0) 600 (fun _ => 0), aArr (G.2.2.2.1 0) 720 (fun _ => 0), aArr (G.2.2.2.1 1) 60 (fun _ => 0), aArr (G.2.2.2.1 1) 60 (fun _ => 0), aArr (G.2.2.2.1 0) 6000 (fun _ => 0), aArr (G.2.2.2.1 1) 60 (fun _ => 0), aArr (G.2.2.2.1 0) 156 (fun _ => 0), aArr (G.2.2.2.1 1) 13 (fun _ => 0), aArr (G.2.2.2.1 1) 13 (fun _ => 0), aArr (G.2.2.2.1 0) 1300 (fun _ => 0), aArr (G.2.2.2.1 1) 13 (fun _ => 0), aArr (G.2.2.2.1 1) 13 (fun _ => 0), aArr (G.2.2.2.1 1) 143 (fun _ => 0), aArr (G.2.2.2.1 1) 13 (fun _ => 0), aArr (G.2.2.2.1 3) 13 (fun _ => 0), aArr (G.2.2.2.1 0) 400 (fun _ => 0), aArr (G.2.2.2.1 0) 1200 (fun _ => 0), aArr (G.2.2.2.1 1) 4 (fun _ => 0), aArr (G.2.2.2.1 0) 700 (fun _ => 0), aArr (G.2.2.2.1 1) 420 (fun _ => 0), aLong (G.2.2.2.1 2) 420 (fun _ => 0), aArr (G.2.2.2.1 0) 400 (fun _ => 0)]
def arrs (G : aw_G) (k : Nat) (w : Nat → va_E) : Prop := ∀ i, i < k → w (419 + i) = (arrL G).getD i (aObj 0 [])
theorem arrs.step {w' : Nat → va_E} {k : Nat} (h : arrs G k w) (hn : w' (419 + k) = (arrL G).getD k (aObj 0 [])) (hf : ∀ x, x ≠ 418 → x ≠ 419 + k → w' x = w x) : arrs G (k + 1) w' := fun i hi => by
  by_cases e : i = k
  · subst e; exact hn
  · rw [hf _ (by omega) (by omega)]; exact h i (by omega)

theorem s_Mo_init (hnx : nx = 419) (hd : 2 ≤ d) (h1 : w 418 = aObj 10 [.int 0, .int 0, .null, .int 0, .null, .int 0, .null, .null, .null, .null, .null, .int 0, .null, .null, .null, .null, .null, .null, .null, .null, .null, .int 0, .null, .null, .null, .int 0, .int 0, .null, .int 0, .int 0, .int 0, .int 0, .null, .int 0, .null, .int 0, .int 0, .null]) : AC G y_Mo_init b_Mo_init 1 none d true [rf G 418] nx w 23 13021 (fun r w' nx' => r = none ∧ nx' = 442 ∧ (∃ m A V, hMo G w' (nI 0) m A V ∧ RM (nI 0) m A [] ((([], some 0, fun _ => [], T0), [], [], 0) : SQ) (0, 0)) ∧ fr 418 442 w w') := by
  subst hnx
  refine AC.ofW (by decide) (Nat.le_of_ble_eq_true rfl) ?_
  intro E P hP Y X
  have X : aw_X G "RescanDeskModel" b_Mo_init 1 none "<init>" _ _ _ _ _ E := X
  refine AW.eql (lv' := [(0, _)]) (by rfl) ?_
  have hz : arrs G 0 w := fun i hi => by omega
  have ff : fr 418 442 w w := fr.refl _ _ _
  refine aw_aload_nR (pc := 0) X d_Mo_init_0 (by rfl) ?_
  refine aw_objInit (pc := 1) X k_841 k_94 k_95 d_Mo_init_1 (by omega) (Nat.le_trans (m := 20) (Nat.le_of_ble_eq_true rfl) (by omega)) ?_
  -- stop 4 lv=0:r st=
  refine aw_aload_nR (pc := 4) X d_Mo_init_4 (by rfl) ?_
  refine aw_sipushN (pc := 5) X 300 d_Mo_init_5 (by decide) ?_
  refine aw_newaN (pc := 8) X (atype := .char) (ty := .char) rfl 0 (by rfl) (by intro C h; cases h) rfl (by decide) rfl (by omega) k_125 (by omega) (by omega) (by omega) d_Mo_init_8 ?_
  refine aw_putFO (pc := 10) X _ 2 (by omega) (by (repeat (first | rw [aw_up_eq] | rw [aw_up_ne _ _ (by first | assumption | omega)])) <;> first | assumption | rfl) (by rfl) in_Mo (by decide) ty_Mo ok_Mo nm_Mo k_865 (by rfl) (by rfl) (by rfl) (by rfl) (by rfl) (by simp) (fs' := [_, _, _, _, _, _, _, _, _, _, _, _, _, _, _, _, _, _, _, _, _, _, _, _, _, _, _, _, _, _, _, _, _, _, _, _, _, _]) (by rfl) d_Mo_init_10 ?_
  -- stop 13 lv=0:r st=
  generalize hw0 : aw_up (aw_up _ _ _) 418 _ = w0
  replace h1 : w0 418 = aObj 10 [.int 0, .int 0, rf G 419, .int 0, .null, .int 0, .null, .null, .null, .null, .null, .int 0, .null, .null, .null, .null, .null, .null, .null, .null, .null, .int 0, .null, .null, .null, .int 0, .int 0, .null, .int 0, .int 0, .int 0, .int 0, .null, .int 0, .null, .int 0, .int 0, .null] := by rw [← hw0]; exact aw_up_eq _ _ _
  have hf0 : ∀ x, x ≠ 418 → x ≠ 419 + 0 → w0 x = w x := fun x h1 h2 => by rw [← hw0, aw_up_ne _ _ h1, aw_up_ne _ _ h2]
  replace hz : arrs G 1 w0 := hz.step (by rw [← hw0, aw_up_ne _ _ (by decide)]; exact aw_up_eq _ _ _) hf0
  replace ff : fr 418 442 w w0 := fun x hx => (hf0 x (by omega) (by omega)).trans (ff x hx)
  refine AW.of (nx' := 420) (cells' := 1) (slots' := 300) (by omega) (by omega) (by omega) rfl rfl rfl ?_
  refine aw_aload_nR (pc := 13) X d_Mo_init_13 (by rfl) ?_
  refine aw_sipushN (pc := 14) X 600 d_Mo_init_14 (by decide) ?_
  refine aw_newaN (pc := 17) X (atype := .char) (ty := .char) rfl 0 (by rfl) (by intro C h; cases h) rfl (by decide) rfl (by omega) k_125 (by omega) (by omega) (by omega) d_Mo_init_17 ?_
  refine aw_putFO (pc := 19) X _ 4 (by omega) (by (repeat (first | rw [aw_up_eq] | rw [aw_up_ne _ _ (by first | assumption | omega)])) <;> first | assumption | rfl) (by rfl) in_Mo (by decide) ty_Mo ok_Mo nm_Mo k_867 (by rfl) (by rfl) (by rfl) (by rfl) (by rfl) (by simp) (fs' := [_, _, _, _, _, _, _, _, _, _, _, _, _, _, _, _, _, _, _, _, _, _, _, _, _, _, _, _, _, _, _, _, _, _, _, _, _, _]) (by rfl) d_Mo_init_19 ?_
  -- stop 22 lv=0:r st=
  generalize hw1 : aw_up (aw_up _ _ _) 418 _ = w1
  replace h1 : w1 418 = aObj 10 [.int 0, .int 0, rf G 419, .int 0, rf G 420, .int 0, .null, .null, .null, .null, .null, .int 0, .null, .null, .null, .null, .null, .null, .null, .null, .null, .int 0, .null, .null, .null, .int 0, .int 0, .null, .int 0, .int 0, .int 0, .int 0, .null, .int 0, .null, .int 0, .int 0, .null] := by rw [← hw1]; exact aw_up_eq _ _ _
  have hf1 : ∀ x, x ≠ 418 → x ≠ 419 + 1 → w1 x = w0 x := fun x h1 h2 => by rw [← hw1, aw_up_ne _ _ h1, aw_up_ne _ _ h2]
  replace hz : arrs G 2 w1 := hz.step (by rw [← hw1, aw_up_ne _ _ (by decide)]; exact aw_up_eq _ _ _) hf1
  replace ff : fr 418 442 w w1 := fun x hx => (hf1 x (by omega) (by omega)).trans (ff x hx)
  refine AW.of (nx' := 421) (cells' := 2) (slots' := 900) (by omega) (by omega) (by omega) rfl rfl rfl ?_
  refine aw_aload_nR (pc := 22) X d_Mo_init_22 (by rfl) ?_
  refine aw_sipushN (pc := 23) X 720 d_Mo_init_23 (by decide) ?_
  refine aw_newaN (pc := 26) X (atype := .char) (ty := .char) rfl 0 (by rfl) (by intro C h; cases h) rfl (by decide) rfl (by omega) k_125 (by omega) (by omega) (by omega) d_Mo_init_26 ?_
  refine aw_putFO (pc := 28) X _ 6 (by omega) (by (repeat (first | rw [aw_up_eq] | rw [aw_up_ne _ _ (by first | assumption | omega)])) <;> first | assumption | rfl) (by rfl) in_Mo (by decide) ty_Mo ok_Mo nm_Mo k_869 (by rfl) (by rfl) (by rfl) (by rfl) (by rfl) (by simp) (fs' := [_, _, _, _, _, _, _, _, _, _, _, _, _, _, _, _, _, _, _, _, _, _, _, _, _, _, _, _, _, _, _, _, _, _, _, _, _, _]) (by rfl) d_Mo_init_28 ?_
  -- stop 31 lv=0:r st=
  generalize hw2 : aw_up (aw_up _ _ _) 418 _ = w2
  replace h1 : w2 418 = aObj 10 [.int 0, .int 0, rf G 419, .int 0, rf G 420, .int 0, rf G 421, .null, .null, .null, .null, .int 0, .null, .null, .null, .null, .null, .null, .null, .null, .null, .int 0, .null, .null, .null, .int 0, .int 0, .null, .int 0, .int 0, .int 0, .int 0, .null, .int 0, .null, .int 0, .int 0, .null] := by rw [← hw2]; exact aw_up_eq _ _ _
  have hf2 : ∀ x, x ≠ 418 → x ≠ 419 + 2 → w2 x = w1 x := fun x h1 h2 => by rw [← hw2, aw_up_ne _ _ h1, aw_up_ne _ _ h2]
  replace hz : arrs G 3 w2 := hz.step (by rw [← hw2, aw_up_ne _ _ (by decide)]; exact aw_up_eq _ _ _) hf2
  replace ff : fr 418 442 w w2 := fun x hx => (hf2 x (by omega) (by omega)).trans (ff x hx)
  refine AW.of (nx' := 422) (cells' := 3) (slots' := 1620) (by omega) (by omega) (by omega) rfl rfl rfl ?_
  refine aw_aload_nR (pc := 31) X d_Mo_init_31 (by rfl) ?_
  refine aw_bipushN (pc := 32) X 60 d_Mo_init_32 (by decide) ?_
  refine aw_newaN (pc := 34) X (atype := .int) (ty := .int) rfl 1 (by rfl) (by intro C h; cases h) rfl (by decide) rfl (by omega) k_307 (by omega) (by omega) (by omega) d_Mo_init_34 ?_
  refine aw_putFO (pc := 36) X _ 7 (by omega) (by (repeat (first | rw [aw_up_eq] | rw [aw_up_ne _ _ (by first | assumption | omega)])) <;> first | assumption | rfl) (by rfl) in_Mo (by decide) ty_Mo ok_Mo nm_Mo k_870 (by rfl) (by rfl) (by rfl) (by rfl) (by rfl) (by simp) (fs' := [_, _, _, _, _, _, _, _, _, _, _, _, _, _, _, _, _, _, _, _, _, _, _, _, _, _, _, _, _, _, _, _, _, _, _, _, _, _]) (by rfl) d_Mo_init_36 ?_
  -- stop 39 lv=0:r st=
  generalize hw3 : aw_up (aw_up _ _ _) 418 _ = w3
  replace h1 : w3 418 = aObj 10 [.int 0, .int 0, rf G 419, .int 0, rf G 420, .int 0, rf G 421, rf G 422, .null, .null, .null, .int 0, .null, .null, .null, .null, .null, .null, .null, .null, .null, .int 0, .null, .null, .null, .int 0, .int 0, .null, .int 0, .int 0, .int 0, .int 0, .null, .int 0, .null, .int 0, .int 0, .null] := by rw [← hw3]; exact aw_up_eq _ _ _
  have hf3 : ∀ x, x ≠ 418 → x ≠ 419 + 3 → w3 x = w2 x := fun x h1 h2 => by rw [← hw3, aw_up_ne _ _ h1, aw_up_ne _ _ h2]
  replace hz : arrs G 4 w3 := hz.step (by rw [← hw3, aw_up_ne _ _ (by decide)]; exact aw_up_eq _ _ _) hf3
  replace ff : fr 418 442 w w3 := fun x hx => (hf3 x (by omega) (by omega)).trans (ff x hx)
  refine AW.of (nx' := 423) (cells' := 4) (slots' := 1680) (by omega) (by omega) (by omega) rfl rfl rfl ?_
  refine aw_aload_nR (pc := 39) X d_Mo_init_39 (by rfl) ?_
  refine aw_bipushN (pc := 40) X 60 d_Mo_init_40 (by decide) ?_
  refine aw_newaN (pc := 42) X (atype := .int) (ty := .int) rfl 1 (by rfl) (by intro C h; cases h) rfl (by decide) rfl (by omega) k_307 (by omega) (by omega) (by omega) d_Mo_init_42 ?_
  refine aw_putFO (pc := 44) X _ 8 (by omega) (by (repeat (first | rw [aw_up_eq] | rw [aw_up_ne _ _ (by first | assumption | omega)])) <;> first | assumption | rfl) (by rfl) in_Mo (by decide) ty_Mo ok_Mo nm_Mo k_871 (by rfl) (by rfl) (by rfl) (by rfl) (by rfl) (by simp) (fs' := [_, _, _, _, _, _, _, _, _, _, _, _, _, _, _, _, _, _, _, _, _, _, _, _, _, _, _, _, _, _, _, _, _, _, _, _, _, _]) (by rfl) d_Mo_init_44 ?_
  -- stop 47 lv=0:r st=
  generalize hw4 : aw_up (aw_up _ _ _) 418 _ = w4
  replace h1 : w4 418 = aObj 10 [.int 0, .int 0, rf G 419, .int 0, rf G 420, .int 0, rf G 421, rf G 422, rf G 423, .null, .null, .int 0, .null, .null, .null, .null, .null, .null, .null, .null, .null, .int 0, .null, .null, .null, .int 0, .int 0, .null, .int 0, .int 0, .int 0, .int 0, .null, .int 0, .null, .int 0, .int 0, .null] := by rw [← hw4]; exact aw_up_eq _ _ _
  have hf4 : ∀ x, x ≠ 418 → x ≠ 419 + 4 → w4 x = w3 x := fun x h1 h2 => by rw [← hw4, aw_up_ne _ _ h1, aw_up_ne _ _ h2]
  replace hz : arrs G 5 w4 := hz.step (by rw [← hw4, aw_up_ne _ _ (by decide)]; exact aw_up_eq _ _ _) hf4
  replace ff : fr 418 442 w w4 := fun x hx => (hf4 x (by omega) (by omega)).trans (ff x hx)
  refine AW.of (nx' := 424) (cells' := 5) (slots' := 1740) (by omega) (by omega) (by omega) rfl rfl rfl ?_
  refine aw_aload_nR (pc := 47) X d_Mo_init_47 (by rfl) ?_
  refine aw_sipushN (pc := 48) X 6000 d_Mo_init_48 (by decide) ?_
  refine aw_newaN (pc := 51) X (atype := .char) (ty := .char) rfl 0 (by rfl) (by intro C h; cases h) rfl (by decide) rfl (by omega) k_125 (by omega) (by omega) (by omega) d_Mo_init_51 ?_
  refine aw_putFO (pc := 53) X _ 9 (by omega) (by (repeat (first | rw [aw_up_eq] | rw [aw_up_ne _ _ (by first | assumption | omega)])) <;> first | assumption | rfl) (by rfl) in_Mo (by decide) ty_Mo ok_Mo nm_Mo k_872 (by rfl) (by rfl) (by rfl) (by rfl) (by rfl) (by simp) (fs' := [_, _, _, _, _, _, _, _, _, _, _, _, _, _, _, _, _, _, _, _, _, _, _, _, _, _, _, _, _, _, _, _, _, _, _, _, _, _]) (by rfl) d_Mo_init_53 ?_
  -- stop 56 lv=0:r st=
  generalize hw5 : aw_up (aw_up _ _ _) 418 _ = w5
  replace h1 : w5 418 = aObj 10 [.int 0, .int 0, rf G 419, .int 0, rf G 420, .int 0, rf G 421, rf G 422, rf G 423, rf G 424, .null, .int 0, .null, .null, .null, .null, .null, .null, .null, .null, .null, .int 0, .null, .null, .null, .int 0, .int 0, .null, .int 0, .int 0, .int 0, .int 0, .null, .int 0, .null, .int 0, .int 0, .null] := by rw [← hw5]; exact aw_up_eq _ _ _
  have hf5 : ∀ x, x ≠ 418 → x ≠ 419 + 5 → w5 x = w4 x := fun x h1 h2 => by rw [← hw5, aw_up_ne _ _ h1, aw_up_ne _ _ h2]
  replace hz : arrs G 6 w5 := hz.step (by rw [← hw5, aw_up_ne _ _ (by decide)]; exact aw_up_eq _ _ _) hf5
  replace ff : fr 418 442 w w5 := fun x hx => (hf5 x (by omega) (by omega)).trans (ff x hx)
  refine AW.of (nx' := 425) (cells' := 6) (slots' := 7740) (by omega) (by omega) (by omega) rfl rfl rfl ?_
  refine aw_aload_nR (pc := 56) X d_Mo_init_56 (by rfl) ?_
  refine aw_bipushN (pc := 57) X 60 d_Mo_init_57 (by decide) ?_
  refine aw_newaN (pc := 59) X (atype := .int) (ty := .int) rfl 1 (by rfl) (by intro C h; cases h) rfl (by decide) rfl (by omega) k_307 (by omega) (by omega) (by omega) d_Mo_init_59 ?_
  refine aw_putFO (pc := 61) X _ 10 (by omega) (by (repeat (first | rw [aw_up_eq] | rw [aw_up_ne _ _ (by first | assumption | omega)])) <;> first | assumption | rfl) (by rfl) in_Mo (by decide) ty_Mo ok_Mo nm_Mo k_873 (by rfl) (by rfl) (by rfl) (by rfl) (by rfl) (by simp) (fs' := [_, _, _, _, _, _, _, _, _, _, _, _, _, _, _, _, _, _, _, _, _, _, _, _, _, _, _, _, _, _, _, _, _, _, _, _, _, _]) (by rfl) d_Mo_init_61 ?_
  -- stop 64 lv=0:r st=
  generalize hw6 : aw_up (aw_up _ _ _) 418 _ = w6
  replace h1 : w6 418 = aObj 10 [.int 0, .int 0, rf G 419, .int 0, rf G 420, .int 0, rf G 421, rf G 422, rf G 423, rf G 424, rf G 425, .int 0, .null, .null, .null, .null, .null, .null, .null, .null, .null, .int 0, .null, .null, .null, .int 0, .int 0, .null, .int 0, .int 0, .int 0, .int 0, .null, .int 0, .null, .int 0, .int 0, .null] := by rw [← hw6]; exact aw_up_eq _ _ _
  have hf6 : ∀ x, x ≠ 418 → x ≠ 419 + 6 → w6 x = w5 x := fun x h1 h2 => by rw [← hw6, aw_up_ne _ _ h1, aw_up_ne _ _ h2]
  replace hz : arrs G 7 w6 := hz.step (by rw [← hw6, aw_up_ne _ _ (by decide)]; exact aw_up_eq _ _ _) hf6
  replace ff : fr 418 442 w w6 := fun x hx => (hf6 x (by omega) (by omega)).trans (ff x hx)
  refine AW.of (nx' := 426) (cells' := 7) (slots' := 7800) (by omega) (by omega) (by omega) rfl rfl rfl ?_
  refine aw_aload_nR (pc := 64) X d_Mo_init_64 (by rfl) ?_
  refine aw_sipushN (pc := 65) X 156 d_Mo_init_65 (by decide) ?_
  refine aw_newaN (pc := 68) X (atype := .char) (ty := .char) rfl 0 (by rfl) (by intro C h; cases h) rfl (by decide) rfl (by omega) k_125 (by omega) (by omega) (by omega) d_Mo_init_68 ?_
  refine aw_putFO (pc := 70) X _ 12 (by omega) (by (repeat (first | rw [aw_up_eq] | rw [aw_up_ne _ _ (by first | assumption | omega)])) <;> first | assumption | rfl) (by rfl) in_Mo (by decide) ty_Mo ok_Mo nm_Mo k_875 (by rfl) (by rfl) (by rfl) (by rfl) (by rfl) (by simp) (fs' := [_, _, _, _, _, _, _, _, _, _, _, _, _, _, _, _, _, _, _, _, _, _, _, _, _, _, _, _, _, _, _, _, _, _, _, _, _, _]) (by rfl) d_Mo_init_70 ?_
  -- stop 73 lv=0:r st=
  generalize hw7 : aw_up (aw_up _ _ _) 418 _ = w7
  replace h1 : w7 418 = aObj 10 [.int 0, .int 0, rf G 419, .int 0, rf G 420, .int 0, rf G 421, rf G 422, rf G 423, rf G 424, rf G 425, .int 0, rf G 426, .null, .null, .null, .null, .null, .null, .null, .null, .int 0, .null, .null, .null, .int 0, .int 0, .null, .int 0, .int 0, .int 0, .int 0, .null, .int 0, .null, .int 0, .int 0, .null] := by rw [← hw7]; exact aw_up_eq _ _ _
  have hf7 : ∀ x, x ≠ 418 → x ≠ 419 + 7 → w7 x = w6 x := fun x h1 h2 => by rw [← hw7, aw_up_ne _ _ h1, aw_up_ne _ _ h2]
  replace hz : arrs G 8 w7 := hz.step (by rw [← hw7, aw_up_ne _ _ (by decide)]; exact aw_up_eq _ _ _) hf7
  replace ff : fr 418 442 w w7 := fun x hx => (hf7 x (by omega) (by omega)).trans (ff x hx)
  refine AW.of (nx' := 427) (cells' := 8) (slots' := 7956) (by omega) (by omega) (by omega) rfl rfl rfl ?_
  refine aw_aload_nR (pc := 73) X d_Mo_init_73 (by rfl) ?_
  refine aw_bipushN (pc := 74) X 13 d_Mo_init_74 (by decide) ?_
  refine aw_newaN (pc := 76) X (atype := .int) (ty := .int) rfl 1 (by rfl) (by intro C h; cases h) rfl (by decide) rfl (by omega) k_307 (by omega) (by omega) (by omega) d_Mo_init_76 ?_
  refine aw_putFO (pc := 78) X _ 13 (by omega) (by (repeat (first | rw [aw_up_eq] | rw [aw_up_ne _ _ (by first | assumption | omega)])) <;> first | assumption | rfl) (by rfl) in_Mo (by decide) ty_Mo ok_Mo nm_Mo k_876 (by rfl) (by rfl) (by rfl) (by rfl) (by rfl) (by simp) (fs' := [_, _, _, _, _, _, _, _, _, _, _, _, _, _, _, _, _, _, _, _, _, _, _, _, _, _, _, _, _, _, _, _, _, _, _, _, _, _]) (by rfl) d_Mo_init_78 ?_
  -- stop 81 lv=0:r st=
  generalize hw8 : aw_up (aw_up _ _ _) 418 _ = w8
  replace h1 : w8 418 = aObj 10 [.int 0, .int 0, rf G 419, .int 0, rf G 420, .int 0, rf G 421, rf G 422, rf G 423, rf G 424, rf G 425, .int 0, rf G 426, rf G 427, .null, .null, .null, .null, .null, .null, .null, .int 0, .null, .null, .null, .int 0, .int 0, .null, .int 0, .int 0, .int 0, .int 0, .null, .int 0, .null, .int 0, .int 0, .null] := by rw [← hw8]; exact aw_up_eq _ _ _
  have hf8 : ∀ x, x ≠ 418 → x ≠ 419 + 8 → w8 x = w7 x := fun x h1 h2 => by rw [← hw8, aw_up_ne _ _ h1, aw_up_ne _ _ h2]
  replace hz : arrs G 9 w8 := hz.step (by rw [← hw8, aw_up_ne _ _ (by decide)]; exact aw_up_eq _ _ _) hf8
  replace ff : fr 418 442 w w8 := fun x hx => (hf8 x (by omega) (by omega)).trans (ff x hx)
  refine AW.of (nx' := 428) (cells' := 9) (slots' := 7969) (by omega) (by omega) (by omega) rfl rfl rfl ?_
  refine aw_aload_nR (pc := 81) X d_Mo_init_81 (by rfl) ?_
  refine aw_bipushN (pc := 82) X 13 d_Mo_init_82 (by decide) ?_
  refine aw_newaN (pc := 84) X (atype := .int) (ty := .int) rfl 1 (by rfl) (by intro C h; cases h) rfl (by decide) rfl (by omega) k_307 (by omega) (by omega) (by omega) d_Mo_init_84 ?_
  refine aw_putFO (pc := 86) X _ 14 (by omega) (by (repeat (first | rw [aw_up_eq] | rw [aw_up_ne _ _ (by first | assumption | omega)])) <;> first | assumption | rfl) (by rfl) in_Mo (by decide) ty_Mo ok_Mo nm_Mo k_877 (by rfl) (by rfl) (by rfl) (by rfl) (by rfl) (by simp) (fs' := [_, _, _, _, _, _, _, _, _, _, _, _, _, _, _, _, _, _, _, _, _, _, _, _, _, _, _, _, _, _, _, _, _, _, _, _, _, _]) (by rfl) d_Mo_init_86 ?_
  -- stop 89 lv=0:r st=
  generalize hw9 : aw_up (aw_up _ _ _) 418 _ = w9
  replace h1 : w9 418 = aObj 10 [.int 0, .int 0, rf G 419, .int 0, rf G 420, .int 0, rf G 421, rf G 422, rf G 423, rf G 424, rf G 425, .int 0, rf G 426, rf G 427, rf G 428, .null, .null, .null, .null, .null, .null, .int 0, .null, .null, .null, .int 0, .int 0, .null, .int 0, .int 0, .int 0, .int 0, .null, .int 0, .null, .int 0, .int 0, .null] := by rw [← hw9]; exact aw_up_eq _ _ _
  have hf9 : ∀ x, x ≠ 418 → x ≠ 419 + 9 → w9 x = w8 x := fun x h1 h2 => by rw [← hw9, aw_up_ne _ _ h1, aw_up_ne _ _ h2]
  replace hz : arrs G 10 w9 := hz.step (by rw [← hw9, aw_up_ne _ _ (by decide)]; exact aw_up_eq _ _ _) hf9
  replace ff : fr 418 442 w w9 := fun x hx => (hf9 x (by omega) (by omega)).trans (ff x hx)
  refine AW.of (nx' := 429) (cells' := 10) (slots' := 7982) (by omega) (by omega) (by omega) rfl rfl rfl ?_
  refine aw_aload_nR (pc := 89) X d_Mo_init_89 (by rfl) ?_
  refine aw_sipushN (pc := 90) X 1300 d_Mo_init_90 (by decide) ?_
  refine aw_newaN (pc := 93) X (atype := .char) (ty := .char) rfl 0 (by rfl) (by intro C h; cases h) rfl (by decide) rfl (by omega) k_125 (by omega) (by omega) (by omega) d_Mo_init_93 ?_
  refine aw_putFO (pc := 95) X _ 15 (by omega) (by (repeat (first | rw [aw_up_eq] | rw [aw_up_ne _ _ (by first | assumption | omega)])) <;> first | assumption | rfl) (by rfl) in_Mo (by decide) ty_Mo ok_Mo nm_Mo k_878 (by rfl) (by rfl) (by rfl) (by rfl) (by rfl) (by simp) (fs' := [_, _, _, _, _, _, _, _, _, _, _, _, _, _, _, _, _, _, _, _, _, _, _, _, _, _, _, _, _, _, _, _, _, _, _, _, _, _]) (by rfl) d_Mo_init_95 ?_
  -- stop 98 lv=0:r st=
  generalize hw10 : aw_up (aw_up _ _ _) 418 _ = w10
  replace h1 : w10 418 = aObj 10 [.int 0, .int 0, rf G 419, .int 0, rf G 420, .int 0, rf G 421, rf G 422, rf G 423, rf G 424, rf G 425, .int 0, rf G 426, rf G 427, rf G 428, rf G 429, .null, .null, .null, .null, .null, .int 0, .null, .null, .null, .int 0, .int 0, .null, .int 0, .int 0, .int 0, .int 0, .null, .int 0, .null, .int 0, .int 0, .null] := by rw [← hw10]; exact aw_up_eq _ _ _
  have hf10 : ∀ x, x ≠ 418 → x ≠ 419 + 10 → w10 x = w9 x := fun x h1 h2 => by rw [← hw10, aw_up_ne _ _ h1, aw_up_ne _ _ h2]
  replace hz : arrs G 11 w10 := hz.step (by rw [← hw10, aw_up_ne _ _ (by decide)]; exact aw_up_eq _ _ _) hf10
  replace ff : fr 418 442 w w10 := fun x hx => (hf10 x (by omega) (by omega)).trans (ff x hx)
  refine AW.of (nx' := 430) (cells' := 11) (slots' := 9282) (by omega) (by omega) (by omega) rfl rfl rfl ?_
  refine aw_aload_nR (pc := 98) X d_Mo_init_98 (by rfl) ?_
  refine aw_bipushN (pc := 99) X 13 d_Mo_init_99 (by decide) ?_
  refine aw_newaN (pc := 101) X (atype := .int) (ty := .int) rfl 1 (by rfl) (by intro C h; cases h) rfl (by decide) rfl (by omega) k_307 (by omega) (by omega) (by omega) d_Mo_init_101 ?_
  refine aw_putFO (pc := 103) X _ 16 (by omega) (by (repeat (first | rw [aw_up_eq] | rw [aw_up_ne _ _ (by first | assumption | omega)])) <;> first | assumption | rfl) (by rfl) in_Mo (by decide) ty_Mo ok_Mo nm_Mo k_879 (by rfl) (by rfl) (by rfl) (by rfl) (by rfl) (by simp) (fs' := [_, _, _, _, _, _, _, _, _, _, _, _, _, _, _, _, _, _, _, _, _, _, _, _, _, _, _, _, _, _, _, _, _, _, _, _, _, _]) (by rfl) d_Mo_init_103 ?_
  -- stop 106 lv=0:r st=
  generalize hw11 : aw_up (aw_up _ _ _) 418 _ = w11
  replace h1 : w11 418 = aObj 10 [.int 0, .int 0, rf G 419, .int 0, rf G 420, .int 0, rf G 421, rf G 422, rf G 423, rf G 424, rf G 425, .int 0, rf G 426, rf G 427, rf G 428, rf G 429, rf G 430, .null, .null, .null, .null, .int 0, .null, .null, .null, .int 0, .int 0, .null, .int 0, .int 0, .int 0, .int 0, .null, .int 0, .null, .int 0, .int 0, .null] := by rw [← hw11]; exact aw_up_eq _ _ _
  have hf11 : ∀ x, x ≠ 418 → x ≠ 419 + 11 → w11 x = w10 x := fun x h1 h2 => by rw [← hw11, aw_up_ne _ _ h1, aw_up_ne _ _ h2]
  replace hz : arrs G 12 w11 := hz.step (by rw [← hw11, aw_up_ne _ _ (by decide)]; exact aw_up_eq _ _ _) hf11
  replace ff : fr 418 442 w w11 := fun x hx => (hf11 x (by omega) (by omega)).trans (ff x hx)
  refine AW.of (nx' := 431) (cells' := 12) (slots' := 9295) (by omega) (by omega) (by omega) rfl rfl rfl ?_
  refine aw_aload_nR (pc := 106) X d_Mo_init_106 (by rfl) ?_
  refine aw_bipushN (pc := 107) X 13 d_Mo_init_107 (by decide) ?_
  refine aw_newaN (pc := 109) X (atype := .int) (ty := .int) rfl 1 (by rfl) (by intro C h; cases h) rfl (by decide) rfl (by omega) k_307 (by omega) (by omega) (by omega) d_Mo_init_109 ?_
  refine aw_putFO (pc := 111) X _ 17 (by omega) (by (repeat (first | rw [aw_up_eq] | rw [aw_up_ne _ _ (by first | assumption | omega)])) <;> first | assumption | rfl) (by rfl) in_Mo (by decide) ty_Mo ok_Mo nm_Mo k_880 (by rfl) (by rfl) (by rfl) (by rfl) (by rfl) (by simp) (fs' := [_, _, _, _, _, _, _, _, _, _, _, _, _, _, _, _, _, _, _, _, _, _, _, _, _, _, _, _, _, _, _, _, _, _, _, _, _, _]) (by rfl) d_Mo_init_111 ?_
  -- stop 114 lv=0:r st=
  generalize hw12 : aw_up (aw_up _ _ _) 418 _ = w12
  replace h1 : w12 418 = aObj 10 [.int 0, .int 0, rf G 419, .int 0, rf G 420, .int 0, rf G 421, rf G 422, rf G 423, rf G 424, rf G 425, .int 0, rf G 426, rf G 427, rf G 428, rf G 429, rf G 430, rf G 431, .null, .null, .null, .int 0, .null, .null, .null, .int 0, .int 0, .null, .int 0, .int 0, .int 0, .int 0, .null, .int 0, .null, .int 0, .int 0, .null] := by rw [← hw12]; exact aw_up_eq _ _ _
  have hf12 : ∀ x, x ≠ 418 → x ≠ 419 + 12 → w12 x = w11 x := fun x h1 h2 => by rw [← hw12, aw_up_ne _ _ h1, aw_up_ne _ _ h2]
  replace hz : arrs G 13 w12 := hz.step (by rw [← hw12, aw_up_ne _ _ (by decide)]; exact aw_up_eq _ _ _) hf12
  replace ff : fr 418 442 w w12 := fun x hx => (hf12 x (by omega) (by omega)).trans (ff x hx)
  refine AW.of (nx' := 432) (cells' := 13) (slots' := 9308) (by omega) (by omega) (by omega) rfl rfl rfl ?_
  refine aw_aload_nR (pc := 114) X d_Mo_init_114 (by rfl) ?_
  refine aw_sipushN (pc := 115) X 143 d_Mo_init_115 (by decide) ?_
  refine aw_newaN (pc := 118) X (atype := .int) (ty := .int) rfl 1 (by rfl) (by intro C h; cases h) rfl (by decide) rfl (by omega) k_307 (by omega) (by omega) (by omega) d_Mo_init_118 ?_
  refine aw_putFO (pc := 120) X _ 18 (by omega) (by (repeat (first | rw [aw_up_eq] | rw [aw_up_ne _ _ (by first | assumption | omega)])) <;> first | assumption | rfl) (by rfl) in_Mo (by decide) ty_Mo ok_Mo nm_Mo k_881 (by rfl) (by rfl) (by rfl) (by rfl) (by rfl) (by simp) (fs' := [_, _, _, _, _, _, _, _, _, _, _, _, _, _, _, _, _, _, _, _, _, _, _, _, _, _, _, _, _, _, _, _, _, _, _, _, _, _]) (by rfl) d_Mo_init_120 ?_
  -- stop 123 lv=0:r st=
  generalize hw13 : aw_up (aw_up _ _ _) 418 _ = w13
  replace h1 : w13 418 = aObj 10 [.int 0, .int 0, rf G 419, .int 0, rf G 420, .int 0, rf G 421, rf G 422, rf G 423, rf G 424, rf G 425, .int 0, rf G 426, rf G 427, rf G 428, rf G 429, rf G 430, rf G 431, rf G 432, .null, .null, .int 0, .null, .null, .null, .int 0, .int 0, .null, .int 0, .int 0, .int 0, .int 0, .null, .int 0, .null, .int 0, .int 0, .null] := by rw [← hw13]; exact aw_up_eq _ _ _
  have hf13 : ∀ x, x ≠ 418 → x ≠ 419 + 13 → w13 x = w12 x := fun x h1 h2 => by rw [← hw13, aw_up_ne _ _ h1, aw_up_ne _ _ h2]
  replace hz : arrs G 14 w13 := hz.step (by rw [← hw13, aw_up_ne _ _ (by decide)]; exact aw_up_eq _ _ _) hf13
  replace ff : fr 418 442 w w13 := fun x hx => (hf13 x (by omega) (by omega)).trans (ff x hx)
  refine AW.of (nx' := 433) (cells' := 14) (slots' := 9451) (by omega) (by omega) (by omega) rfl rfl rfl ?_
  refine aw_aload_nR (pc := 123) X d_Mo_init_123 (by rfl) ?_
  refine aw_bipushN (pc := 124) X 13 d_Mo_init_124 (by decide) ?_
  refine aw_newaN (pc := 126) X (atype := .int) (ty := .int) rfl 1 (by rfl) (by intro C h; cases h) rfl (by decide) rfl (by omega) k_307 (by omega) (by omega) (by omega) d_Mo_init_126 ?_
  refine aw_putFO (pc := 128) X _ 19 (by omega) (by (repeat (first | rw [aw_up_eq] | rw [aw_up_ne _ _ (by first | assumption | omega)])) <;> first | assumption | rfl) (by rfl) in_Mo (by decide) ty_Mo ok_Mo nm_Mo k_882 (by rfl) (by rfl) (by rfl) (by rfl) (by rfl) (by simp) (fs' := [_, _, _, _, _, _, _, _, _, _, _, _, _, _, _, _, _, _, _, _, _, _, _, _, _, _, _, _, _, _, _, _, _, _, _, _, _, _]) (by rfl) d_Mo_init_128 ?_
  -- stop 131 lv=0:r st=
  generalize hw14 : aw_up (aw_up _ _ _) 418 _ = w14
  replace h1 : w14 418 = aObj 10 [.int 0, .int 0, rf G 419, .int 0, rf G 420, .int 0, rf G 421, rf G 422, rf G 423, rf G 424, rf G 425, .int 0, rf G 426, rf G 427, rf G 428, rf G 429, rf G 430, rf G 431, rf G 432, rf G 433, .null, .int 0, .null, .null, .null, .int 0, .int 0, .null, .int 0, .int 0, .int 0, .int 0, .null, .int 0, .null, .int 0, .int 0, .null] := by rw [← hw14]; exact aw_up_eq _ _ _
  have hf14 : ∀ x, x ≠ 418 → x ≠ 419 + 14 → w14 x = w13 x := fun x h1 h2 => by rw [← hw14, aw_up_ne _ _ h1, aw_up_ne _ _ h2]
  replace hz : arrs G 15 w14 := hz.step (by rw [← hw14, aw_up_ne _ _ (by decide)]; exact aw_up_eq _ _ _) hf14
  replace ff : fr 418 442 w w14 := fun x hx => (hf14 x (by omega) (by omega)).trans (ff x hx)
  refine AW.of (nx' := 434) (cells' := 15) (slots' := 9464) (by omega) (by omega) (by omega) rfl rfl rfl ?_
  refine aw_aload_nR (pc := 131) X d_Mo_init_131 (by rfl) ?_
  refine aw_bipushN (pc := 132) X 13 d_Mo_init_132 (by decide) ?_
  refine aw_newaN (pc := 134) X (atype := .boolean) (ty := .boolean) rfl 3 (by rfl) (by intro C h; cases h) rfl (by decide) rfl (by omega) k_978 (by omega) (by omega) (by omega) d_Mo_init_134 ?_
  refine aw_putFO (pc := 136) X _ 20 (by omega) (by (repeat (first | rw [aw_up_eq] | rw [aw_up_ne _ _ (by first | assumption | omega)])) <;> first | assumption | rfl) (by rfl) in_Mo (by decide) ty_Mo ok_Mo nm_Mo k_883 (by rfl) (by rfl) (by rfl) (by rfl) (by rfl) (by simp) (fs' := [_, _, _, _, _, _, _, _, _, _, _, _, _, _, _, _, _, _, _, _, _, _, _, _, _, _, _, _, _, _, _, _, _, _, _, _, _, _]) (by rfl) d_Mo_init_136 ?_
  -- stop 139 lv=0:r st=
  generalize hw15 : aw_up (aw_up _ _ _) 418 _ = w15
  replace h1 : w15 418 = aObj 10 [.int 0, .int 0, rf G 419, .int 0, rf G 420, .int 0, rf G 421, rf G 422, rf G 423, rf G 424, rf G 425, .int 0, rf G 426, rf G 427, rf G 428, rf G 429, rf G 430, rf G 431, rf G 432, rf G 433, rf G 434, .int 0, .null, .null, .null, .int 0, .int 0, .null, .int 0, .int 0, .int 0, .int 0, .null, .int 0, .null, .int 0, .int 0, .null] := by rw [← hw15]; exact aw_up_eq _ _ _
  have hf15 : ∀ x, x ≠ 418 → x ≠ 419 + 15 → w15 x = w14 x := fun x h1 h2 => by rw [← hw15, aw_up_ne _ _ h1, aw_up_ne _ _ h2]
  replace hz : arrs G 16 w15 := hz.step (by rw [← hw15, aw_up_ne _ _ (by decide)]; exact aw_up_eq _ _ _) hf15
  replace ff : fr 418 442 w w15 := fun x hx => (hf15 x (by omega) (by omega)).trans (ff x hx)
  refine AW.of (nx' := 435) (cells' := 16) (slots' := 9477) (by omega) (by omega) (by omega) rfl rfl rfl ?_
  refine aw_aload_nR (pc := 139) X d_Mo_init_139 (by rfl) ?_
  refine aw_sipushN (pc := 140) X 400 d_Mo_init_140 (by decide) ?_
  refine aw_newaN (pc := 143) X (atype := .char) (ty := .char) rfl 0 (by rfl) (by intro C h; cases h) rfl (by decide) rfl (by omega) k_125 (by omega) (by omega) (by omega) d_Mo_init_143 ?_
  refine aw_putFO (pc := 145) X _ 22 (by omega) (by (repeat (first | rw [aw_up_eq] | rw [aw_up_ne _ _ (by first | assumption | omega)])) <;> first | assumption | rfl) (by rfl) in_Mo (by decide) ty_Mo ok_Mo nm_Mo k_885 (by rfl) (by rfl) (by rfl) (by rfl) (by rfl) (by simp) (fs' := [_, _, _, _, _, _, _, _, _, _, _, _, _, _, _, _, _, _, _, _, _, _, _, _, _, _, _, _, _, _, _, _, _, _, _, _, _, _]) (by rfl) d_Mo_init_145 ?_
  -- stop 148 lv=0:r st=
  generalize hw16 : aw_up (aw_up _ _ _) 418 _ = w16
  replace h1 : w16 418 = aObj 10 [.int 0, .int 0, rf G 419, .int 0, rf G 420, .int 0, rf G 421, rf G 422, rf G 423, rf G 424, rf G 425, .int 0, rf G 426, rf G 427, rf G 428, rf G 429, rf G 430, rf G 431, rf G 432, rf G 433, rf G 434, .int 0, rf G 435, .null, .null, .int 0, .int 0, .null, .int 0, .int 0, .int 0, .int 0, .null, .int 0, .null, .int 0, .int 0, .null] := by rw [← hw16]; exact aw_up_eq _ _ _
  have hf16 : ∀ x, x ≠ 418 → x ≠ 419 + 16 → w16 x = w15 x := fun x h1 h2 => by rw [← hw16, aw_up_ne _ _ h1, aw_up_ne _ _ h2]
  replace hz : arrs G 17 w16 := hz.step (by rw [← hw16, aw_up_ne _ _ (by decide)]; exact aw_up_eq _ _ _) hf16
  replace ff : fr 418 442 w w16 := fun x hx => (hf16 x (by omega) (by omega)).trans (ff x hx)
  refine AW.of (nx' := 436) (cells' := 17) (slots' := 9877) (by omega) (by omega) (by omega) rfl rfl rfl ?_
  refine aw_aload_nR (pc := 148) X d_Mo_init_148 (by rfl) ?_
  refine aw_sipushN (pc := 149) X 1200 d_Mo_init_149 (by decide) ?_
  refine aw_newaN (pc := 152) X (atype := .char) (ty := .char) rfl 0 (by rfl) (by intro C h; cases h) rfl (by decide) rfl (by omega) k_125 (by omega) (by omega) (by omega) d_Mo_init_152 ?_
  refine aw_putFO (pc := 154) X _ 23 (by omega) (by (repeat (first | rw [aw_up_eq] | rw [aw_up_ne _ _ (by first | assumption | omega)])) <;> first | assumption | rfl) (by rfl) in_Mo (by decide) ty_Mo ok_Mo nm_Mo k_886 (by rfl) (by rfl) (by rfl) (by rfl) (by rfl) (by simp) (fs' := [_, _, _, _, _, _, _, _, _, _, _, _, _, _, _, _, _, _, _, _, _, _, _, _, _, _, _, _, _, _, _, _, _, _, _, _, _, _]) (by rfl) d_Mo_init_154 ?_
  -- stop 157 lv=0:r st=
  generalize hw17 : aw_up (aw_up _ _ _) 418 _ = w17
  replace h1 : w17 418 = aObj 10 [.int 0, .int 0, rf G 419, .int 0, rf G 420, .int 0, rf G 421, rf G 422, rf G 423, rf G 424, rf G 425, .int 0, rf G 426, rf G 427, rf G 428, rf G 429, rf G 430, rf G 431, rf G 432, rf G 433, rf G 434, .int 0, rf G 435, rf G 436, .null, .int 0, .int 0, .null, .int 0, .int 0, .int 0, .int 0, .null, .int 0, .null, .int 0, .int 0, .null] := by rw [← hw17]; exact aw_up_eq _ _ _
  have hf17 : ∀ x, x ≠ 418 → x ≠ 419 + 17 → w17 x = w16 x := fun x h1 h2 => by rw [← hw17, aw_up_ne _ _ h1, aw_up_ne _ _ h2]
  replace hz : arrs G 18 w17 := hz.step (by rw [← hw17, aw_up_ne _ _ (by decide)]; exact aw_up_eq _ _ _) hf17
  replace ff : fr 418 442 w w17 := fun x hx => (hf17 x (by omega) (by omega)).trans (ff x hx)
  refine AW.of (nx' := 437) (cells' := 18) (slots' := 11077) (by omega) (by omega) (by omega) rfl rfl rfl ?_
  refine aw_aload_nR (pc := 157) X d_Mo_init_157 (by rfl) ?_
  refine aw_iconstN (pc := 158) X 4 d_Mo_init_158 (by decide) ?_
  refine aw_newaN (pc := 159) X (atype := .int) (ty := .int) rfl 1 (by rfl) (by intro C h; cases h) rfl (by decide) rfl (by omega) k_307 (by omega) (by omega) (by omega) d_Mo_init_159 ?_
  refine aw_putFO (pc := 161) X _ 24 (by omega) (by (repeat (first | rw [aw_up_eq] | rw [aw_up_ne _ _ (by first | assumption | omega)])) <;> first | assumption | rfl) (by rfl) in_Mo (by decide) ty_Mo ok_Mo nm_Mo k_887 (by rfl) (by rfl) (by rfl) (by rfl) (by rfl) (by simp) (fs' := [_, _, _, _, _, _, _, _, _, _, _, _, _, _, _, _, _, _, _, _, _, _, _, _, _, _, _, _, _, _, _, _, _, _, _, _, _, _]) (by rfl) d_Mo_init_161 ?_
  -- stop 164 lv=0:r st=
  generalize hw18 : aw_up (aw_up _ _ _) 418 _ = w18
  replace h1 : w18 418 = aObj 10 [.int 0, .int 0, rf G 419, .int 0, rf G 420, .int 0, rf G 421, rf G 422, rf G 423, rf G 424, rf G 425, .int 0, rf G 426, rf G 427, rf G 428, rf G 429, rf G 430, rf G 431, rf G 432, rf G 433, rf G 434, .int 0, rf G 435, rf G 436, rf G 437, .int 0, .int 0, .null, .int 0, .int 0, .int 0, .int 0, .null, .int 0, .null, .int 0, .int 0, .null] := by rw [← hw18]; exact aw_up_eq _ _ _
  have hf18 : ∀ x, x ≠ 418 → x ≠ 419 + 18 → w18 x = w17 x := fun x h1 h2 => by rw [← hw18, aw_up_ne _ _ h1, aw_up_ne _ _ h2]
  replace hz : arrs G 19 w18 := hz.step (by rw [← hw18, aw_up_ne _ _ (by decide)]; exact aw_up_eq _ _ _) hf18
  replace ff : fr 418 442 w w18 := fun x hx => (hf18 x (by omega) (by omega)).trans (ff x hx)
  refine AW.of (nx' := 438) (cells' := 19) (slots' := 11081) (by omega) (by omega) (by omega) rfl rfl rfl ?_
  refine aw_aload_nR (pc := 164) X d_Mo_init_164 (by rfl) ?_
  refine aw_sipushN (pc := 165) X 700 d_Mo_init_165 (by decide) ?_
  refine aw_newaN (pc := 168) X (atype := .char) (ty := .char) rfl 0 (by rfl) (by intro C h; cases h) rfl (by decide) rfl (by omega) k_125 (by omega) (by omega) (by omega) d_Mo_init_168 ?_
  refine aw_putFO (pc := 170) X _ 27 (by omega) (by (repeat (first | rw [aw_up_eq] | rw [aw_up_ne _ _ (by first | assumption | omega)])) <;> first | assumption | rfl) (by rfl) in_Mo (by decide) ty_Mo ok_Mo nm_Mo k_890 (by rfl) (by rfl) (by rfl) (by rfl) (by rfl) (by simp) (fs' := [_, _, _, _, _, _, _, _, _, _, _, _, _, _, _, _, _, _, _, _, _, _, _, _, _, _, _, _, _, _, _, _, _, _, _, _, _, _]) (by rfl) d_Mo_init_170 ?_
  -- stop 173 lv=0:r st=
  generalize hw19 : aw_up (aw_up _ _ _) 418 _ = w19
  replace h1 : w19 418 = aObj 10 [.int 0, .int 0, rf G 419, .int 0, rf G 420, .int 0, rf G 421, rf G 422, rf G 423, rf G 424, rf G 425, .int 0, rf G 426, rf G 427, rf G 428, rf G 429, rf G 430, rf G 431, rf G 432, rf G 433, rf G 434, .int 0, rf G 435, rf G 436, rf G 437, .int 0, .int 0, rf G 438, .int 0, .int 0, .int 0, .int 0, .null, .int 0, .null, .int 0, .int 0, .null] := by rw [← hw19]; exact aw_up_eq _ _ _
  have hf19 : ∀ x, x ≠ 418 → x ≠ 419 + 19 → w19 x = w18 x := fun x h1 h2 => by rw [← hw19, aw_up_ne _ _ h1, aw_up_ne _ _ h2]
  replace hz : arrs G 20 w19 := hz.step (by rw [← hw19, aw_up_ne _ _ (by decide)]; exact aw_up_eq _ _ _) hf19
  replace ff : fr 418 442 w w19 := fun x hx => (hf19 x (by omega) (by omega)).trans (ff x hx)
  refine AW.of (nx' := 439) (cells' := 20) (slots' := 11781) (by omega) (by omega) (by omega) rfl rfl rfl ?_
  refine aw_aload_nR (pc := 173) X d_Mo_init_173 (by rfl) ?_
  refine aw_sipushN (pc := 174) X 420 d_Mo_init_174 (by decide) ?_
  refine aw_newaN (pc := 177) X (atype := .int) (ty := .int) rfl 1 (by rfl) (by intro C h; cases h) rfl (by decide) rfl (by omega) k_307 (by omega) (by omega) (by omega) d_Mo_init_177 ?_
  refine aw_putFO (pc := 179) X _ 32 (by omega) (by (repeat (first | rw [aw_up_eq] | rw [aw_up_ne _ _ (by first | assumption | omega)])) <;> first | assumption | rfl) (by rfl) in_Mo (by decide) ty_Mo ok_Mo nm_Mo k_895 (by rfl) (by rfl) (by rfl) (by rfl) (by rfl) (by simp) (fs' := [_, _, _, _, _, _, _, _, _, _, _, _, _, _, _, _, _, _, _, _, _, _, _, _, _, _, _, _, _, _, _, _, _, _, _, _, _, _]) (by rfl) d_Mo_init_179 ?_
  -- stop 182 lv=0:r st=
  generalize hw20 : aw_up (aw_up _ _ _) 418 _ = w20
  replace h1 : w20 418 = aObj 10 [.int 0, .int 0, rf G 419, .int 0, rf G 420, .int 0, rf G 421, rf G 422, rf G 423, rf G 424, rf G 425, .int 0, rf G 426, rf G 427, rf G 428, rf G 429, rf G 430, rf G 431, rf G 432, rf G 433, rf G 434, .int 0, rf G 435, rf G 436, rf G 437, .int 0, .int 0, rf G 438, .int 0, .int 0, .int 0, .int 0, rf G 439, .int 0, .null, .int 0, .int 0, .null] := by rw [← hw20]; exact aw_up_eq _ _ _
  have hf20 : ∀ x, x ≠ 418 → x ≠ 419 + 20 → w20 x = w19 x := fun x h1 h2 => by rw [← hw20, aw_up_ne _ _ h1, aw_up_ne _ _ h2]
  replace hz : arrs G 21 w20 := hz.step (by rw [← hw20, aw_up_ne _ _ (by decide)]; exact aw_up_eq _ _ _) hf20
  replace ff : fr 418 442 w w20 := fun x hx => (hf20 x (by omega) (by omega)).trans (ff x hx)
  refine AW.of (nx' := 440) (cells' := 21) (slots' := 12201) (by omega) (by omega) (by omega) rfl rfl rfl ?_
  refine aw_aload_nR (pc := 182) X d_Mo_init_182 (by rfl) ?_
  refine aw_sipushN (pc := 183) X 420 d_Mo_init_183 (by decide) ?_
  refine aw_newaL (pc := 186) X (atype := .long) (ty := .long) rfl 2 (by rfl) (by intro C h; cases h) rfl rfl (by omega) k_979 (by omega) (by omega) (by omega) d_Mo_init_186 ?_
  refine aw_putFO (pc := 188) X _ 34 (by omega) (by (repeat (first | rw [aw_up_eq] | rw [aw_up_ne _ _ (by first | assumption | omega)])) <;> first | assumption | rfl) (by rfl) in_Mo (by decide) ty_Mo ok_Mo nm_Mo k_897 (by rfl) (by rfl) (by rfl) (by rfl) (by rfl) (by simp) (fs' := [_, _, _, _, _, _, _, _, _, _, _, _, _, _, _, _, _, _, _, _, _, _, _, _, _, _, _, _, _, _, _, _, _, _, _, _, _, _]) (by rfl) d_Mo_init_188 ?_
  -- stop 191 lv=0:r st=
  generalize hw21 : aw_up (aw_up _ _ _) 418 _ = w21
  replace h1 : w21 418 = aObj 10 [.int 0, .int 0, rf G 419, .int 0, rf G 420, .int 0, rf G 421, rf G 422, rf G 423, rf G 424, rf G 425, .int 0, rf G 426, rf G 427, rf G 428, rf G 429, rf G 430, rf G 431, rf G 432, rf G 433, rf G 434, .int 0, rf G 435, rf G 436, rf G 437, .int 0, .int 0, rf G 438, .int 0, .int 0, .int 0, .int 0, rf G 439, .int 0, rf G 440, .int 0, .int 0, .null] := by rw [← hw21]; exact aw_up_eq _ _ _
  have hf21 : ∀ x, x ≠ 418 → x ≠ 419 + 21 → w21 x = w20 x := fun x h1 h2 => by rw [← hw21, aw_up_ne _ _ h1, aw_up_ne _ _ h2]
  replace hz : arrs G 22 w21 := hz.step (by rw [← hw21, aw_up_ne _ _ (by decide)]; exact aw_up_eq _ _ _) hf21
  replace ff : fr 418 442 w w21 := fun x hx => (hf21 x (by omega) (by omega)).trans (ff x hx)
  refine AW.of (nx' := 441) (cells' := 22) (slots' := 12621) (by omega) (by omega) (by omega) rfl rfl rfl ?_
  refine aw_aload_nR (pc := 191) X d_Mo_init_191 (by rfl) ?_
  refine aw_sipushN (pc := 192) X 400 d_Mo_init_192 (by decide) ?_
  refine aw_newaN (pc := 195) X (atype := .char) (ty := .char) rfl 0 (by rfl) (by intro C h; cases h) rfl (by decide) rfl (by omega) k_125 (by omega) (by omega) (by omega) d_Mo_init_195 ?_
  refine aw_putFO (pc := 197) X _ 37 (by omega) (by (repeat (first | rw [aw_up_eq] | rw [aw_up_ne _ _ (by first | assumption | omega)])) <;> first | assumption | rfl) (by rfl) in_Mo (by decide) ty_Mo ok_Mo nm_Mo k_900 (by rfl) (by rfl) (by rfl) (by rfl) (by rfl) (by simp) (fs' := [_, _, _, _, _, _, _, _, _, _, _, _, _, _, _, _, _, _, _, _, _, _, _, _, _, _, _, _, _, _, _, _, _, _, _, _, _, _]) (by rfl) d_Mo_init_197 ?_
  -- stop 200 lv=0:r st=
  generalize hw22 : aw_up (aw_up _ _ _) 418 _ = w22
  replace h1 : w22 418 = aObj 10 [.int 0, .int 0, rf G 419, .int 0, rf G 420, .int 0, rf G 421, rf G 422, rf G 423, rf G 424, rf G 425, .int 0, rf G 426, rf G 427, rf G 428, rf G 429, rf G 430, rf G 431, rf G 432, rf G 433, rf G 434, .int 0, rf G 435, rf G 436, rf G 437, .int 0, .int 0, rf G 438, .int 0, .int 0, .int 0, .int 0, rf G 439, .int 0, rf G 440, .int 0, .int 0, rf G 441] := by rw [← hw22]; exact aw_up_eq _ _ _
  have hf22 : ∀ x, x ≠ 418 → x ≠ 419 + 22 → w22 x = w21 x := fun x h1 h2 => by rw [← hw22, aw_up_ne _ _ h1, aw_up_ne _ _ h2]
  replace hz : arrs G 23 w22 := hz.step (by rw [← hw22, aw_up_ne _ _ (by decide)]; exact aw_up_eq _ _ _) hf22
  replace ff : fr 418 442 w w22 := fun x hx => (hf22 x (by omega) (by omega)).trans (ff x hx)
  refine AW.of (nx' := 442) (cells' := 23) (slots' := 13021) (by omega) (by omega) (by omega) rfl rfl rfl ?_
  obtain ⟨m, hm0⟩ : ∃ m : Nat → Nat, m = (fun _ => 0) := ⟨_, rfl⟩
  obtain ⟨A, hA0⟩ : ∃ A : Nat → Nat → Nat, A = (fun _ _ => 0) := ⟨_, rfl⟩
  obtain ⟨V, hV0⟩ : ∃ V : Nat → Int64, V = (fun _ => 0) := ⟨_, rfl⟩
  have hM : hMo G w22 (nI 0) m A V := by
    rw [hm0, hA0, hV0]
    exact ⟨h1, hz 0 (by decide), hz 1 (by decide), hz 2 (by decide), hz 3 (by decide), hz 4 (by decide), hz 5 (by decide), hz 6 (by decide), hz 7 (by decide), hz 8 (by decide), hz 9 (by decide), hz 10 (by decide), hz 11 (by decide), hz 12 (by decide), hz 13 (by decide), hz 14 (by decide), hz 15 (by decide), hz 16 (by decide), hz 17 (by decide), hz 18 (by decide), hz 19 (by decide), hz 20 (by decide), hz 21 (by decide), hz 22 (by decide), (fun _ => by show 0 < _; decide), (fun _ => by show 0 < _; decide), (fun _ => by show 0 < _; decide), (fun _ => by show 0 < _; decide), (fun _ => by show 0 < _; decide), (fun _ => by show 0 < _; decide), (fun _ => by show 0 < _; decide), (fun _ => by show 0 < _; decide), (fun _ => by show 0 < _; decide), (fun _ => by show 0 < _; decide), (fun _ => by show 0 < _; decide)⟩
  have hm : ∀ k, k ≠ 5 → m k = 0 := fun k _ => by rw [hm0]
  have hA : ∀ a, a ≠ 421 → a ≠ 422 → a ≠ 423 → A a = fun _ => 0 := fun a _ _ _ => by rw [hA0]
  have hT : RT (m 5) (A 421) (A 422) (A 423) (A 424) (A 425) ((List.range 0).map (fun k => (wrd k, k + 1, []))) := by
    rw [hm0, hA0]
    exact ⟨rfl, by decide, fun i t h => by simp at h⟩
  clear hm0 hA0 hV0
  have hf := ff
  refine aw_aload_nR (pc := 200) X d_Mo_init_200 (by rfl) ?_
  refine aw_ldc2 (pc := 201) X k_842 d_Mo_init_201 ?_
  refine aw_iconstN (pc := 204) X 1 d_Mo_init_204 (by decide) ?_
  -- stop 205 lv=0:r st=n,l,r
  refine aw_callV (pc := 205) X _ (s_Mo_built (d := 0) (s := wrd 0) (k := 1) (T := (List.range 0).map (fun k => (wrd k, k + 1, []))) (by omega) (by decide) (by decide) (by decide +kernel) (by decide +kernel) (by decide) (by rw [hA 425 (by decide) (by decide) (by decide)]) hT hM) q_Mo_built k_843 k_845 k_26 (by omega) hM.1 (by rfl) d_Mo_init_205 (by omega) (Nat.le_of_ble_eq_true rfl) ⟨by omega, by omega⟩ (fun h => by cases h) (fun r w nx hp => ?_)
  clear hM
  obtain ⟨rfl, hf1, p, m, A, V, hM, hq⟩ := hp
  replace hf := hf.trans hf1
  obtain ⟨rfl, hpp, hvv, hm1, hA1, hT1⟩ := hq
  rw [hpp, hvv] at hM
  replace hm : ∀ k, k ≠ 5 → m k = 0 := fun k h => (hm1 k h).trans (hm k h)
  replace hA : ∀ a, a ≠ 421 → a ≠ 422 → a ≠ 423 → A a = fun _ => 0 := fun a x1 x2 x3 => (hA1 a x1 x2 x3).trans (hA a x1 x2 x3)
  replace hT : RT (m 5) (A 421) (A 422) (A 423) (A 424) (A 425) ((List.range 1).map (fun k => (wrd k, k + 1, []))) := hT1
  clear hm1 hA1 hT1 hpp hvv
  refine aw_aload_nR (pc := 208) X d_Mo_init_208 (by rfl) ?_
  refine aw_ldc2 (pc := 209) X k_848 d_Mo_init_209 ?_
  refine aw_iconstN (pc := 212) X 2 d_Mo_init_212 (by decide) ?_
  -- stop 213 lv=0:r st=n,l,r
  refine aw_callV (pc := 213) X _ (s_Mo_built (d := 0) (s := wrd 1) (k := 2) (T := (List.range 1).map (fun k => (wrd k, k + 1, []))) (by omega) (by decide) (by decide) (by decide +kernel) (by decide +kernel) (by decide) (by rw [hA 425 (by decide) (by decide) (by decide)]) hT hM) q_Mo_built k_843 k_845 k_26 (by omega) hM.1 (by rfl) d_Mo_init_213 (by omega) (Nat.le_of_ble_eq_true rfl) ⟨by omega, by omega⟩ (fun h => by cases h) (fun r w nx hp => ?_)
  clear hM
  obtain ⟨rfl, hf1, p, m, A, V, hM, hq⟩ := hp
  replace hf := hf.trans hf1
  obtain ⟨rfl, hpp, hvv, hm1, hA1, hT1⟩ := hq
  rw [hpp, hvv] at hM
  replace hm : ∀ k, k ≠ 5 → m k = 0 := fun k h => (hm1 k h).trans (hm k h)
  replace hA : ∀ a, a ≠ 421 → a ≠ 422 → a ≠ 423 → A a = fun _ => 0 := fun a x1 x2 x3 => (hA1 a x1 x2 x3).trans (hA a x1 x2 x3)
  replace hT : RT (m 5) (A 421) (A 422) (A 423) (A 424) (A 425) ((List.range 2).map (fun k => (wrd k, k + 1, []))) := hT1
  clear hm1 hA1 hT1 hpp hvv
  refine aw_aload_nR (pc := 216) X d_Mo_init_216 (by rfl) ?_
  refine aw_ldc2 (pc := 217) X k_849 d_Mo_init_217 ?_
  refine aw_iconstN (pc := 220) X 3 d_Mo_init_220 (by decide) ?_
  -- stop 221 lv=0:r st=n,l,r
  refine aw_callV (pc := 221) X _ (s_Mo_built (d := 0) (s := wrd 2) (k := 3) (T := (List.range 2).map (fun k => (wrd k, k + 1, []))) (by omega) (by decide) (by decide) (by decide +kernel) (by decide +kernel) (by decide) (by rw [hA 425 (by decide) (by decide) (by decide)]) hT hM) q_Mo_built k_843 k_845 k_26 (by omega) hM.1 (by rfl) d_Mo_init_221 (by omega) (Nat.le_of_ble_eq_true rfl) ⟨by omega, by omega⟩ (fun h => by cases h) (fun r w nx hp => ?_)
  clear hM
  obtain ⟨rfl, hf1, p, m, A, V, hM, hq⟩ := hp
  replace hf := hf.trans hf1
  obtain ⟨rfl, hpp, hvv, hm1, hA1, hT1⟩ := hq
  rw [hpp, hvv] at hM
  replace hm : ∀ k, k ≠ 5 → m k = 0 := fun k h => (hm1 k h).trans (hm k h)
  replace hA : ∀ a, a ≠ 421 → a ≠ 422 → a ≠ 423 → A a = fun _ => 0 := fun a x1 x2 x3 => (hA1 a x1 x2 x3).trans (hA a x1 x2 x3)
  replace hT : RT (m 5) (A 421) (A 422) (A 423) (A 424) (A 425) ((List.range 3).map (fun k => (wrd k, k + 1, []))) := hT1
  clear hm1 hA1 hT1 hpp hvv
  refine aw_aload_nR (pc := 224) X d_Mo_init_224 (by rfl) ?_
  refine aw_ldc2 (pc := 225) X k_850 d_Mo_init_225 ?_
  refine aw_iconstN (pc := 228) X 4 d_Mo_init_228 (by decide) ?_
  -- stop 229 lv=0:r st=n,l,r
  refine aw_callV (pc := 229) X _ (s_Mo_built (d := 0) (s := wrd 3) (k := 4) (T := (List.range 3).map (fun k => (wrd k, k + 1, []))) (by omega) (by decide) (by decide) (by decide +kernel) (by decide +kernel) (by decide) (by rw [hA 425 (by decide) (by decide) (by decide)]) hT hM) q_Mo_built k_843 k_845 k_26 (by omega) hM.1 (by rfl) d_Mo_init_229 (by omega) (Nat.le_of_ble_eq_true rfl) ⟨by omega, by omega⟩ (fun h => by cases h) (fun r w nx hp => ?_)
  clear hM
  obtain ⟨rfl, hf1, p, m, A, V, hM, hq⟩ := hp
  replace hf := hf.trans hf1
  obtain ⟨rfl, hpp, hvv, hm1, hA1, hT1⟩ := hq
  rw [hpp, hvv] at hM
  replace hm : ∀ k, k ≠ 5 → m k = 0 := fun k h => (hm1 k h).trans (hm k h)
  replace hA : ∀ a, a ≠ 421 → a ≠ 422 → a ≠ 423 → A a = fun _ => 0 := fun a x1 x2 x3 => (hA1 a x1 x2 x3).trans (hA a x1 x2 x3)
  replace hT : RT (m 5) (A 421) (A 422) (A 423) (A 424) (A 425) ((List.range 4).map (fun k => (wrd k, k + 1, []))) := hT1
  clear hm1 hA1 hT1 hpp hvv
  refine aw_aload_nR (pc := 232) X d_Mo_init_232 (by rfl) ?_
  refine aw_ldc2 (pc := 233) X k_851 d_Mo_init_233 ?_
  refine aw_iconstN (pc := 236) X 5 d_Mo_init_236 (by decide) ?_
  -- stop 237 lv=0:r st=n,l,r
  refine aw_callV (pc := 237) X _ (s_Mo_built (d := 0) (s := wrd 4) (k := 5) (T := (List.range 4).map (fun k => (wrd k, k + 1, []))) (by omega) (by decide) (by decide) (by decide +kernel) (by decide +kernel) (by decide) (by rw [hA 425 (by decide) (by decide) (by decide)]) hT hM) q_Mo_built k_843 k_845 k_26 (by omega) hM.1 (by rfl) d_Mo_init_237 (by omega) (Nat.le_of_ble_eq_true rfl) ⟨by omega, by omega⟩ (fun h => by cases h) (fun r w nx hp => ?_)
  clear hM
  obtain ⟨rfl, hf1, p, m, A, V, hM, hq⟩ := hp
  replace hf := hf.trans hf1
  obtain ⟨rfl, hpp, hvv, hm1, hA1, hT1⟩ := hq
  rw [hpp, hvv] at hM
  replace hm : ∀ k, k ≠ 5 → m k = 0 := fun k h => (hm1 k h).trans (hm k h)
  replace hA : ∀ a, a ≠ 421 → a ≠ 422 → a ≠ 423 → A a = fun _ => 0 := fun a x1 x2 x3 => (hA1 a x1 x2 x3).trans (hA a x1 x2 x3)
  replace hT : RT (m 5) (A 421) (A 422) (A 423) (A 424) (A 425) ((List.range 5).map (fun k => (wrd k, k + 1, []))) := hT1
  clear hm1 hA1 hT1 hpp hvv
  refine aw_aload_nR (pc := 240) X d_Mo_init_240 (by rfl) ?_
  refine aw_ldc2 (pc := 241) X k_852 d_Mo_init_241 ?_
  refine aw_bipushN (pc := 244) X 6 d_Mo_init_244 (by decide) ?_
  -- stop 246 lv=0:r st=n,l,r
  refine aw_callV (pc := 246) X _ (s_Mo_built (d := 0) (s := wrd 5) (k := 6) (T := (List.range 5).map (fun k => (wrd k, k + 1, []))) (by omega) (by decide) (by decide) (by decide +kernel) (by decide +kernel) (by decide) (by rw [hA 425 (by decide) (by decide) (by decide)]) hT hM) q_Mo_built k_843 k_845 k_26 (by omega) hM.1 (by rfl) d_Mo_init_246 (by omega) (Nat.le_of_ble_eq_true rfl) ⟨by omega, by omega⟩ (fun h => by cases h) (fun r w nx hp => ?_)
  clear hM
  obtain ⟨rfl, hf1, p, m, A, V, hM, hq⟩ := hp
  replace hf := hf.trans hf1
  obtain ⟨rfl, hpp, hvv, hm1, hA1, hT1⟩ := hq
  rw [hpp, hvv] at hM
  replace hm : ∀ k, k ≠ 5 → m k = 0 := fun k h => (hm1 k h).trans (hm k h)
  replace hA : ∀ a, a ≠ 421 → a ≠ 422 → a ≠ 423 → A a = fun _ => 0 := fun a x1 x2 x3 => (hA1 a x1 x2 x3).trans (hA a x1 x2 x3)
  replace hT : RT (m 5) (A 421) (A 422) (A 423) (A 424) (A 425) ((List.range 6).map (fun k => (wrd k, k + 1, []))) := hT1
  clear hm1 hA1 hT1 hpp hvv
  refine aw_aload_nR (pc := 249) X d_Mo_init_249 (by rfl) ?_
  refine aw_ldc2 (pc := 250) X k_853 d_Mo_init_250 ?_
  refine aw_bipushN (pc := 253) X 7 d_Mo_init_253 (by decide) ?_
  -- stop 255 lv=0:r st=n,l,r
  refine aw_callV (pc := 255) X _ (s_Mo_built (d := 0) (s := wrd 6) (k := 7) (T := (List.range 6).map (fun k => (wrd k, k + 1, []))) (by omega) (by decide) (by decide) (by decide +kernel) (by decide +kernel) (by decide) (by rw [hA 425 (by decide) (by decide) (by decide)]) hT hM) q_Mo_built k_843 k_845 k_26 (by omega) hM.1 (by rfl) d_Mo_init_255 (by omega) (Nat.le_of_ble_eq_true rfl) ⟨by omega, by omega⟩ (fun h => by cases h) (fun r w nx hp => ?_)
  clear hM
  obtain ⟨rfl, hf1, p, m, A, V, hM, hq⟩ := hp
  replace hf := hf.trans hf1
  obtain ⟨rfl, hpp, hvv, hm1, hA1, hT1⟩ := hq
  rw [hpp, hvv] at hM
  replace hm : ∀ k, k ≠ 5 → m k = 0 := fun k h => (hm1 k h).trans (hm k h)
  replace hA : ∀ a, a ≠ 421 → a ≠ 422 → a ≠ 423 → A a = fun _ => 0 := fun a x1 x2 x3 => (hA1 a x1 x2 x3).trans (hA a x1 x2 x3)
  replace hT : RT (m 5) (A 421) (A 422) (A 423) (A 424) (A 425) ((List.range 7).map (fun k => (wrd k, k + 1, []))) := hT1
  clear hm1 hA1 hT1 hpp hvv
  refine aw_aload_nR (pc := 258) X d_Mo_init_258 (by rfl) ?_
  refine aw_ldc2 (pc := 259) X k_854 d_Mo_init_259 ?_
  refine aw_bipushN (pc := 262) X 8 d_Mo_init_262 (by decide) ?_
  -- stop 264 lv=0:r st=n,l,r
  refine aw_callV (pc := 264) X _ (s_Mo_built (d := 0) (s := wrd 7) (k := 8) (T := (List.range 7).map (fun k => (wrd k, k + 1, []))) (by omega) (by decide) (by decide) (by decide +kernel) (by decide +kernel) (by decide) (by rw [hA 425 (by decide) (by decide) (by decide)]) hT hM) q_Mo_built k_843 k_845 k_26 (by omega) hM.1 (by rfl) d_Mo_init_264 (by omega) (Nat.le_of_ble_eq_true rfl) ⟨by omega, by omega⟩ (fun h => by cases h) (fun r w nx hp => ?_)
  clear hM
  obtain ⟨rfl, hf1, p, m, A, V, hM, hq⟩ := hp
  replace hf := hf.trans hf1
  obtain ⟨rfl, hpp, hvv, hm1, hA1, hT1⟩ := hq
  rw [hpp, hvv] at hM
  replace hm : ∀ k, k ≠ 5 → m k = 0 := fun k h => (hm1 k h).trans (hm k h)
  replace hA : ∀ a, a ≠ 421 → a ≠ 422 → a ≠ 423 → A a = fun _ => 0 := fun a x1 x2 x3 => (hA1 a x1 x2 x3).trans (hA a x1 x2 x3)
  replace hT : RT (m 5) (A 421) (A 422) (A 423) (A 424) (A 425) ((List.range 8).map (fun k => (wrd k, k + 1, []))) := hT1
  clear hm1 hA1 hT1 hpp hvv
  refine aw_aload_nR (pc := 267) X d_Mo_init_267 (by rfl) ?_
  refine aw_ldc2 (pc := 268) X k_855 d_Mo_init_268 ?_
  refine aw_bipushN (pc := 271) X 9 d_Mo_init_271 (by decide) ?_
  -- stop 273 lv=0:r st=n,l,r
  refine aw_callV (pc := 273) X _ (s_Mo_built (d := 0) (s := wrd 8) (k := 9) (T := (List.range 8).map (fun k => (wrd k, k + 1, []))) (by omega) (by decide) (by decide) (by decide +kernel) (by decide +kernel) (by decide) (by rw [hA 425 (by decide) (by decide) (by decide)]) hT hM) q_Mo_built k_843 k_845 k_26 (by omega) hM.1 (by rfl) d_Mo_init_273 (by omega) (Nat.le_of_ble_eq_true rfl) ⟨by omega, by omega⟩ (fun h => by cases h) (fun r w nx hp => ?_)
  clear hM
  obtain ⟨rfl, hf1, p, m, A, V, hM, hq⟩ := hp
  replace hf := hf.trans hf1
  obtain ⟨rfl, hpp, hvv, hm1, hA1, hT1⟩ := hq
  rw [hpp, hvv] at hM
  replace hm : ∀ k, k ≠ 5 → m k = 0 := fun k h => (hm1 k h).trans (hm k h)
  replace hA : ∀ a, a ≠ 421 → a ≠ 422 → a ≠ 423 → A a = fun _ => 0 := fun a x1 x2 x3 => (hA1 a x1 x2 x3).trans (hA a x1 x2 x3)
  replace hT : RT (m 5) (A 421) (A 422) (A 423) (A 424) (A 425) ((List.range 9).map (fun k => (wrd k, k + 1, []))) := hT1
  clear hm1 hA1 hT1 hpp hvv
  refine aw_aload_nR (pc := 276) X d_Mo_init_276 (by rfl) ?_
  refine aw_ldc2 (pc := 277) X k_856 d_Mo_init_277 ?_
  refine aw_bipushN (pc := 280) X 10 d_Mo_init_280 (by decide) ?_
  -- stop 282 lv=0:r st=n,l,r
  refine aw_callV (pc := 282) X _ (s_Mo_built (d := 0) (s := wrd 9) (k := 10) (T := (List.range 9).map (fun k => (wrd k, k + 1, []))) (by omega) (by decide) (by decide) (by decide +kernel) (by decide +kernel) (by decide) (by rw [hA 425 (by decide) (by decide) (by decide)]) hT hM) q_Mo_built k_843 k_845 k_26 (by omega) hM.1 (by rfl) d_Mo_init_282 (by omega) (Nat.le_of_ble_eq_true rfl) ⟨by omega, by omega⟩ (fun h => by cases h) (fun r w nx hp => ?_)
  clear hM
  obtain ⟨rfl, hf1, p, m, A, V, hM, hq⟩ := hp
  replace hf := hf.trans hf1
  obtain ⟨rfl, hpp, hvv, hm1, hA1, hT1⟩ := hq
  rw [hpp, hvv] at hM
  replace hm : ∀ k, k ≠ 5 → m k = 0 := fun k h => (hm1 k h).trans (hm k h)
  replace hA : ∀ a, a ≠ 421 → a ≠ 422 → a ≠ 423 → A a = fun _ => 0 := fun a x1 x2 x3 => (hA1 a x1 x2 x3).trans (hA a x1 x2 x3)
  replace hT : RT (m 5) (A 421) (A 422) (A 423) (A 424) (A 425) ((List.range 10).map (fun k => (wrd k, k + 1, []))) := hT1
  clear hm1 hA1 hT1 hpp hvv
  refine aw_aload_nR (pc := 285) X d_Mo_init_285 (by rfl) ?_
  refine aw_ldc2 (pc := 286) X k_857 d_Mo_init_286 ?_
  refine aw_bipushN (pc := 289) X 11 d_Mo_init_289 (by decide) ?_
  -- stop 291 lv=0:r st=n,l,r
  refine aw_callV (pc := 291) X _ (s_Mo_built (d := 0) (s := wrd 10) (k := 11) (T := (List.range 10).map (fun k => (wrd k, k + 1, []))) (by omega) (by decide) (by decide) (by decide +kernel) (by decide +kernel) (by decide) (by rw [hA 425 (by decide) (by decide) (by decide)]) hT hM) q_Mo_built k_843 k_845 k_26 (by omega) hM.1 (by rfl) d_Mo_init_291 (by omega) (Nat.le_of_ble_eq_true rfl) ⟨by omega, by omega⟩ (fun h => by cases h) (fun r w nx hp => ?_)
  clear hM
  obtain ⟨rfl, hf1, p, m, A, V, hM, hq⟩ := hp
  replace hf := hf.trans hf1
  obtain ⟨rfl, hpp, hvv, hm1, hA1, hT1⟩ := hq
  rw [hpp, hvv] at hM
  replace hm : ∀ k, k ≠ 5 → m k = 0 := fun k h => (hm1 k h).trans (hm k h)
  replace hA : ∀ a, a ≠ 421 → a ≠ 422 → a ≠ 423 → A a = fun _ => 0 := fun a x1 x2 x3 => (hA1 a x1 x2 x3).trans (hA a x1 x2 x3)
  replace hT : RT (m 5) (A 421) (A 422) (A 423) (A 424) (A 425) ((List.range 11).map (fun k => (wrd k, k + 1, []))) := hT1
  clear hm1 hA1 hT1 hpp hvv
  refine aw_aload_nR (pc := 294) X d_Mo_init_294 (by rfl) ?_
  refine aw_ldc2 (pc := 295) X k_858 d_Mo_init_295 ?_
  refine aw_bipushN (pc := 298) X 12 d_Mo_init_298 (by decide) ?_
  -- stop 300 lv=0:r st=n,l,r
  refine aw_callV (pc := 300) X _ (s_Mo_built (d := 0) (s := wrd 11) (k := 12) (T := (List.range 11).map (fun k => (wrd k, k + 1, []))) (by omega) (by decide) (by decide) (by decide +kernel) (by decide +kernel) (by decide) (by rw [hA 425 (by decide) (by decide) (by decide)]) hT hM) q_Mo_built k_843 k_845 k_26 (by omega) hM.1 (by rfl) d_Mo_init_300 (by omega) (Nat.le_of_ble_eq_true rfl) ⟨by omega, by omega⟩ (fun h => by cases h) (fun r w nx hp => ?_)
  clear hM
  obtain ⟨rfl, hf1, p, m, A, V, hM, hq⟩ := hp
  replace hf := hf.trans hf1
  obtain ⟨rfl, hpp, hvv, hm1, hA1, hT1⟩ := hq
  rw [hpp, hvv] at hM
  replace hm : ∀ k, k ≠ 5 → m k = 0 := fun k h => (hm1 k h).trans (hm k h)
  replace hA : ∀ a, a ≠ 421 → a ≠ 422 → a ≠ 423 → A a = fun _ => 0 := fun a x1 x2 x3 => (hA1 a x1 x2 x3).trans (hA a x1 x2 x3)
  replace hT : RT (m 5) (A 421) (A 422) (A 423) (A 424) (A 425) ((List.range 12).map (fun k => (wrd k, k + 1, []))) := hT1
  clear hm1 hA1 hT1 hpp hvv
  refine aw_aload_nR (pc := 303) X d_Mo_init_303 (by rfl) ?_
  refine aw_ldc2 (pc := 304) X k_859 d_Mo_init_304 ?_
  refine aw_bipushN (pc := 307) X 13 d_Mo_init_307 (by decide) ?_
  -- stop 309 lv=0:r st=n,l,r
  refine aw_callV (pc := 309) X _ (s_Mo_built (d := 0) (s := wrd 12) (k := 13) (T := (List.range 12).map (fun k => (wrd k, k + 1, []))) (by omega) (by decide) (by decide) (by decide +kernel) (by decide +kernel) (by decide) (by rw [hA 425 (by decide) (by decide) (by decide)]) hT hM) q_Mo_built k_843 k_845 k_26 (by omega) hM.1 (by rfl) d_Mo_init_309 (by omega) (Nat.le_of_ble_eq_true rfl) ⟨by omega, by omega⟩ (fun h => by cases h) (fun r w nx hp => ?_)
  clear hM
  obtain ⟨rfl, hf1, p, m, A, V, hM, hq⟩ := hp
  replace hf := hf.trans hf1
  obtain ⟨rfl, hpp, hvv, hm1, hA1, hT1⟩ := hq
  rw [hpp, hvv] at hM
  replace hm : ∀ k, k ≠ 5 → m k = 0 := fun k h => (hm1 k h).trans (hm k h)
  replace hA : ∀ a, a ≠ 421 → a ≠ 422 → a ≠ 423 → A a = fun _ => 0 := fun a x1 x2 x3 => (hA1 a x1 x2 x3).trans (hA a x1 x2 x3)
  replace hT : RT (m 5) (A 421) (A 422) (A 423) (A 424) (A 425) ((List.range 13).map (fun k => (wrd k, k + 1, []))) := hT1
  clear hm1 hA1 hT1 hpp hvv
  refine aw_aload_nR (pc := 312) X d_Mo_init_312 (by rfl) ?_
  refine aw_ldc2 (pc := 313) X k_860 d_Mo_init_313 ?_
  refine aw_bipushN (pc := 316) X 14 d_Mo_init_316 (by decide) ?_
  -- stop 318 lv=0:r st=n,l,r
  refine aw_callV (pc := 318) X _ (s_Mo_built (d := 0) (s := wrd 13) (k := 14) (T := (List.range 13).map (fun k => (wrd k, k + 1, []))) (by omega) (by decide) (by decide) (by decide +kernel) (by decide +kernel) (by decide) (by rw [hA 425 (by decide) (by decide) (by decide)]) hT hM) q_Mo_built k_843 k_845 k_26 (by omega) hM.1 (by rfl) d_Mo_init_318 (by omega) (Nat.le_of_ble_eq_true rfl) ⟨by omega, by omega⟩ (fun h => by cases h) (fun r w nx hp => ?_)
  clear hM
  obtain ⟨rfl, hf1, p, m, A, V, hM, hq⟩ := hp
  replace hf := hf.trans hf1
  obtain ⟨rfl, hpp, hvv, hm1, hA1, hT1⟩ := hq
  rw [hpp, hvv] at hM
  replace hm : ∀ k, k ≠ 5 → m k = 0 := fun k h => (hm1 k h).trans (hm k h)
  replace hA : ∀ a, a ≠ 421 → a ≠ 422 → a ≠ 423 → A a = fun _ => 0 := fun a x1 x2 x3 => (hA1 a x1 x2 x3).trans (hA a x1 x2 x3)
  replace hT : RT (m 5) (A 421) (A 422) (A 423) (A 424) (A 425) ((List.range 14).map (fun k => (wrd k, k + 1, []))) := hT1
  clear hm1 hA1 hT1 hpp hvv
  refine aw_aload_nR (pc := 321) X d_Mo_init_321 (by rfl) ?_
  refine aw_ldc2 (pc := 322) X k_861 d_Mo_init_322 ?_
  refine aw_bipushN (pc := 325) X 15 d_Mo_init_325 (by decide) ?_
  -- stop 327 lv=0:r st=n,l,r
  refine aw_callV (pc := 327) X _ (s_Mo_built (d := 0) (s := wrd 14) (k := 15) (T := (List.range 14).map (fun k => (wrd k, k + 1, []))) (by omega) (by decide) (by decide) (by decide +kernel) (by decide +kernel) (by decide) (by rw [hA 425 (by decide) (by decide) (by decide)]) hT hM) q_Mo_built k_843 k_845 k_26 (by omega) hM.1 (by rfl) d_Mo_init_327 (by omega) (Nat.le_of_ble_eq_true rfl) ⟨by omega, by omega⟩ (fun h => by cases h) (fun r w nx hp => ?_)
  clear hM
  obtain ⟨rfl, hf1, p, m, A, V, hM, hq⟩ := hp
  replace hf := hf.trans hf1
  obtain ⟨rfl, hpp, hvv, hm1, hA1, hT1⟩ := hq
  rw [hpp, hvv] at hM
  replace hm : ∀ k, k ≠ 5 → m k = 0 := fun k h => (hm1 k h).trans (hm k h)
  replace hA : ∀ a, a ≠ 421 → a ≠ 422 → a ≠ 423 → A a = fun _ => 0 := fun a x1 x2 x3 => (hA1 a x1 x2 x3).trans (hA a x1 x2 x3)
  replace hT : RT (m 5) (A 421) (A 422) (A 423) (A 424) (A 425) ((List.range 15).map (fun k => (wrd k, k + 1, []))) := hT1
  clear hm1 hA1 hT1 hpp hvv
  refine aw_aload_nR (pc := 330) X d_Mo_init_330 (by rfl) ?_
  refine aw_ldc2 (pc := 331) X k_862 d_Mo_init_331 ?_
  refine aw_bipushN (pc := 334) X 16 d_Mo_init_334 (by decide) ?_
  -- stop 336 lv=0:r st=n,l,r
  refine aw_callV (pc := 336) X _ (s_Mo_built (d := 0) (s := wrd 15) (k := 16) (T := (List.range 15).map (fun k => (wrd k, k + 1, []))) (by omega) (by decide) (by decide) (by decide +kernel) (by decide +kernel) (by decide) (by rw [hA 425 (by decide) (by decide) (by decide)]) hT hM) q_Mo_built k_843 k_845 k_26 (by omega) hM.1 (by rfl) d_Mo_init_336 (by omega) (Nat.le_of_ble_eq_true rfl) ⟨by omega, by omega⟩ (fun h => by cases h) (fun r w nx hp => ?_)
  clear hM
  obtain ⟨rfl, hf1, p, m, A, V, hM, hq⟩ := hp
  replace hf := hf.trans hf1
  obtain ⟨rfl, hpp, hvv, hm1, hA1, hT1⟩ := hq
  rw [hpp, hvv] at hM
  replace hm : ∀ k, k ≠ 5 → m k = 0 := fun k h => (hm1 k h).trans (hm k h)
  replace hA : ∀ a, a ≠ 421 → a ≠ 422 → a ≠ 423 → A a = fun _ => 0 := fun a x1 x2 x3 => (hA1 a x1 x2 x3).trans (hA a x1 x2 x3)
  replace hT : RT (m 5) (A 421) (A 422) (A 423) (A 424) (A 425) ((List.range 16).map (fun k => (wrd k, k + 1, []))) := hT1
  clear hm1 hA1 hT1 hpp hvv
  refine aw_vret Y X rfl d_Mo_init_339 (by omega) (by omega) (hP _ _ _ ?_)
  -- ret 339 lv=0:r st=
  refine ⟨rfl, rfl, ⟨_, _, _, hM, ⟨hm 1 (by decide), Nat.zero_le _, rfl⟩, ⟨hm 3 (by decide), Nat.zero_le _, fun k hk => by simp at hk⟩, hT, ⟨hm 11 (by decide), Nat.zero_le _, fun i u hu => by simp at hu⟩, ⟨hm 21 (by decide), Nat.zero_le _, rfl, trivial⟩, fun r hr => ⟨by rw [hA 437 (by decide) (by decide) (by decide)]; rfl, Nat.zero_le _, rfl⟩, ⟨rfl, fun k hk => by cases hk; decide⟩, ⟨hm 29 (by decide), hm 0 (by decide)⟩, hm 30 (by decide), Nat.zero_le _⟩, ?_⟩
  exact hf
end

