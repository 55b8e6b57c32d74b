/-! the reference: undefine -/
section
variable {G : aw_G} {nx d : Nat} {w : Nat → va_E} {p : Int32} {m : Nat → Nat} {A : Nat → Nat → Nat} {V : Nat → Int64} {t : Def} {ar : List (List Nat)}
theorem s_Mo_undefine {b : Bool} {T : List Def} (hnx : 442 ≤ nx) (hd : 3 ≤ d) (hT : RT (m 5) (A 421) (A 422) (A 423) (A 424) (A 425) T) (hY : RY A t ar) (hM : hMo G w p m A V) : AC G y_Mo_undefine b_Mo_undefine 4 none d false [rf G 418, .int (nI (bN b))] nx w 0 0 (mq G nx w (fun r p' m' A' V' => r = none ∧ p' = p ∧ V' = V ∧ (∀ k, k ≠ 5 → m' k = m k) ∧ (∀ a, a < 421 ∨ 425 < a → A' a = A a) ∧ RT (m' 5) (A' 421) (A' 422) (A' 423) (A' 424) (A' 425) (if b = true then T.filter (isn (argOf ar 1)) else popS T (argOf ar 1)))) := by
  have hbb := bN_lt b
  generalize hTot : (if b = true then T.filter (isn (argOf ar 1)) else popS T (argOf ar 1)) = Tot
  have hmf : ∀ {A1 : Nat → Nat → Nat}, (∀ a, a < 421 ∨ 425 < a → A1 a = A a) → RY A1 t ar := fun h => hY.kp (fun a h1 h2 => h a (by omega))
  refine AC.ofW (by decide) (Nat.le_of_ble_eq_true rfl) ?_
  intro E P hP Y X
  have X : aw_X G "RescanDeskModel" b_Mo_undefine 4 none "undefine" _ _ _ _ _ E := X
  refine AW.eql (lv' := [(0, _), (1, _)]) (by rfl) ?_
  have hf : fr 418 442 w w := fr.refl _ _ _
  have K : ∀ (N : Nat) (T1 : List Def) (o : Option Nat) w1 m1 A1, T1.length ≤ N → hMo G w1 p m1 A1 V → fr 418 442 w w1 → (∀ k, k ≠ 5 → m1 k = m k) → (∀ a, a < 421 ∨ 425 < a → A1 a = A a) → RT (m1 5) (A1 421) (A1 422) (A1 423) (A1 424) (A1 425) T1 → (o = none → T1 = Tot) → (∀ k, o = some k → tfind T1 (argOf ar 1) = some k ∧ (b = true → T1.filter (isn (argOf ar 1)) = Tot) ∧ (b = false → T1.eraseIdx k = Tot)) → AW G E 4 nx 0 0 w1 19 [(2, .int (pV o)), (0, rf G 418), (1, .int (nI (bN b)))] [] := by
    intro N
    induction N with
    | zero =>
      intro T1 o w1 m1 A1 hN hM hf hm1 hA1 hT1 ho1 ho2
      cases o with
      | none =>
        refine aw_iload_n (pc := 19) X d_Mo_undefine_19 (by rfl) ?_
        refine aw_if_lt (pc := 20) X (tgt := 87) d_Mo_undefine_20 (by rfl) (fun h20 => ?_) (fun h20 => ?_)
        -- br 20 lv=2:i,0:r,1:n st=
        · refine aw_vret Y X rfl d_Mo_undefine_87 (by omega) (by omega) (hP _ _ _ ?_)
          -- ret 87 lv=2:i,0:r,1:n st=
          rw [ho1 rfl] at hT1
          exact ⟨rfl, hf, _, _, _, _, hM, rfl, rfl, rfl, hm1, hA1, hT1⟩
        · exact absurd (show pV none < 0 by decide) h20
      | some k =>
        have := tfd_lt (ho2 k rfl).1
        omega
    | succ N ih =>
      intro T1 o w1 m1 A1 hN hM hf hm1 hA1 hT1 ho1 ho2
      cases o with
      | none =>
        refine aw_iload_n (pc := 19) X d_Mo_undefine_19 (by rfl) ?_
        refine aw_if_lt (pc := 20) X (tgt := 87) d_Mo_undefine_20 (by rfl) (fun h20 => ?_) (fun h20 => ?_)
        -- br 20 lv=2:i,0:r,1:n st=
        · refine aw_vret Y X rfl d_Mo_undefine_87 (by omega) (by omega) (hP _ _ _ ?_)
          -- ret 87 lv=2:i,0:r,1:n st=
          rw [ho1 rfl] at hT1
          exact ⟨rfl, hf, _, _, _, _, hM, rfl, rfl, rfl, hm1, hA1, hT1⟩
        · exact absurd (show pV none < 0 by decide) h20
      | some k =>
        obtain ⟨q1, q2, q3⟩ := ho2 k rfl
        have hk : k < T1.length := tfd_lt q1
        obtain ⟨u1, u2, u3⟩ := id hT1
        have hlen : (T1.eraseIdx k).length = T1.length - 1 := by rw [List.length_eraseIdx]; simp [hk]
        have KI : ∀ (j e : Nat), e + j = T1.length - 1 → k ≤ e → ∀ w2 m2 A2, m2 5 = T1.length - 1 → (∀ k, k ≠ 5 → m2 k = m k) → hMo G w2 p m2 A2 V → fr 418 442 w w2 → (∀ a, a < 421 ∨ 425 < a → A2 a = A a) → (∀ x tx, (if x < k then T1[x]? else if x < e then T1[x + 1]? else T1[x]?) = some tx → dR (A2 422 x) (A2 421) (12 * x) (A2 423 x) (A2 425 x) (A2 424) (100 * x) tx) → AW G E 4 nx 0 0 w2 35 [(3, .int (nI e)), (2, .int (nI k)), (0, rf G 418), (1, .int (nI (bN b)))] [] := by
          intro j
          induction j with
          | zero =>
            intro e he hke w2 m2 A2 e5 hm2 hM hf hA2 hrow
            have hRT : RT (m2 5) (A2 421) (A2 422) (A2 423) (A2 424) (A2 425) (T1.eraseIdx k) := by
              refine ⟨by rw [hlen, e5], by omega, fun x tx hx => hrow x tx ?_⟩
              have hxl := (List.getElem?_eq_some_iff.mp hx).1
              rw [List.getElem?_eraseIdx] at hx
              by_cases hxk : x < k
              · rw [if_pos hxk] at hx ⊢
                exact hx
              · rw [if_neg hxk] at hx ⊢
                rw [if_pos (by omega)]
                exact hx
            have hY2 := hmf hA2
            obtain ⟨a1, a2⟩ := hY2.arg 1
            refine aw_iload_n (pc := 35) X d_Mo_undefine_35 (by rfl) ?_
            refine aw_aload_nR (pc := 36) X d_Mo_undefine_36 (by rfl) ?_
            refine gm_5 (pc := 37) X hM (by omega) d_Mo_undefine_37 ?_
            refine aw_icmp_geN (pc := 40) X (tgt := 57) d_Mo_undefine_40 (by rfl) (by omega) (by omega) (fun h40 => ?_) (fun h40 => ?_)
            -- br 40 lv=3:n,2:n,0:r,1:n st=
            · refine aw_iload_n (pc := 57) X d_Mo_undefine_57 (by rfl) ?_
              refine aw_if_eqN (pc := 58) X (tgt := 82) d_Mo_undefine_58 (by rfl) (by omega) (fun h58 => ?_) (fun h58 => ?_)
              -- br 58 lv=3:n,2:n,0:r,1:n st=
              · have hb0 := bN_eq.mp h58
                refine aw_iconst (pc := 82) X (v := -1) d_Mo_undefine_82 (by decide) ?_
                refine aw_istore_n (pc := 83) X (lv' := [(2, _), (3, _), (0, _), (1, _)]) d_Mo_undefine_83 (by decide) (by rfl) ?_
                refine aw_goto (pc := 84) X (tgt := 19) d_Mo_undefine_84 (by rfl) ?_
                -- stop 19 lv=2:i,3:n,0:r,1:n st=
                refine AW.lsub [0, 2, 3] (by rfl) ?_
                exact ih (T1.eraseIdx k) none _ _ _ (by omega) hM hf hm2 hA2 hRT (fun _ => q3 hb0) (fun k h => by cases h)
              · have hb1 := bN_ne.mp h58
                refine aw_aload_nR (pc := 61) X d_Mo_undefine_61 (by rfl) ?_
                refine aw_aload_nR (pc := 62) X d_Mo_undefine_62 (by rfl) ?_
                refine gm_22 (pc := 63) X hM (by omega) d_Mo_undefine_63 ?_
                refine aw_aload_nR (pc := 66) X d_Mo_undefine_66 (by rfl) ?_
                refine aw_iconstN (pc := 67) X 1 d_Mo_undefine_67 (by decide) ?_
                -- invokevirtual 68 lv=3:n,2:n,0:r,1:n st=n,r,a435,r
                refine aw_callV (pc := 68) X _ (s_Mo_from (d := 1) hnx (by omega) (by omega) hY2 hM) q_Mo_from k_1075 k_1077 k_43 (by omega) hM.1 (by rfl) d_Mo_undefine_68 (by omega) (Nat.le_of_ble_eq_true rfl) ⟨by omega, by omega⟩ (fun h => by cases h) (fun r w nx hp => ?_)
                obtain ⟨rfl, rfl, rfl⟩ := hp
                refine aw_aload_nR (pc := 71) X d_Mo_undefine_71 (by rfl) ?_
                refine aw_iconstN (pc := 72) X 1 d_Mo_undefine_72 (by decide) ?_
                -- invokevirtual 73 lv=3:n,2:n,0:r,1:n st=n,r,n,a435,r
                refine aw_callV (pc := 73) X _ (s_Mo_length (d := 1) hnx (by omega) (by omega) hY2 hM) q_Mo_length k_1071 k_1073 k_42 (by omega) hM.1 (by rfl) d_Mo_undefine_73 (by omega) (Nat.le_of_ble_eq_true rfl) ⟨by omega, by omega⟩ (fun h => by cases h) (fun r w nx hp => ?_)
                obtain ⟨rfl, rfl, rfl⟩ := hp
                refine aw_callV (pc := 76) X _ (s_Mo_find (d := 1) (l := 400) (u := mfr A2 1) (n := (argOf ar 1).length) (T := T1.eraseIdx k) hnx (by omega) (by omega) (by omega) (by omega) hM.b435 hRT hM.a435 hM) q_Mo_find k_1033 k_1035 k_33 (by omega) hM.1 (by rfl) d_Mo_undefine_76 (by omega) (Nat.le_of_ble_eq_true rfl) ⟨by omega, by omega⟩ (fun h => by cases h) (fun r w nx hp => ?_)
                obtain ⟨rfl, rfl, rfl⟩ := hp
                rw [← a1]
                refine aw_goto (pc := 79) X (tgt := 83) d_Mo_undefine_79 (by rfl) ?_
                refine aw_istore_n (pc := 83) X (lv' := [(2, _), (3, _), (0, _), (1, _)]) d_Mo_undefine_83 (by decide) (by rfl) ?_
                refine aw_goto (pc := 84) X (tgt := 19) d_Mo_undefine_84 (by rfl) ?_
                -- stop 19 lv=2:i,3:n,0:r,1:n st=
                refine AW.lsub [0, 2, 3] (by rfl) ?_
                have hfl : (T1.eraseIdx k).filter (isn (argOf ar 1)) = Tot := (filt_erase q1).trans (q2 hb1)
                exact ih (T1.eraseIdx k) _ _ _ _ (by omega) hM hf hm2 hA2 hRT (fun z => by rw [← hfl, filt_none z]) (fun k h => ⟨h, fun _ => hfl, fun z => by rw [hb1] at z; cases z⟩)
            · omega
          | succ j ihj =>
            intro e he hke w2 m2 A2 e5 hm2 hM hf hA2 hrow
            refine aw_iload_n (pc := 35) X d_Mo_undefine_35 (by rfl) ?_
            refine aw_aload_nR (pc := 36) X d_Mo_undefine_36 (by rfl) ?_
            refine gm_5 (pc := 37) X hM (by omega) d_Mo_undefine_37 ?_
            refine aw_icmp_geN (pc := 40) X (tgt := 57) d_Mo_undefine_40 (by rfl) (by omega) (by omega) (fun h40 => ?_) (fun h40 => ?_)
            -- br 40 lv=3:n,2:n,0:r,1:n st=
            · omega
            · refine aw_aload_nR (pc := 43) X d_Mo_undefine_43 (by rfl) ?_
              refine aw_iload_n (pc := 44) X d_Mo_undefine_44 (by rfl) ?_
              refine aw_iconstN (pc := 45) X 1 d_Mo_undefine_45 (by decide) ?_
              refine aw_iaddN (pc := 46) X d_Mo_undefine_46 ?_
              refine aw_iload_n (pc := 47) X d_Mo_undefine_47 (by rfl) ?_
              -- invokevirtual 48 lv=3:n,2:n,0:r,1:n st=n,n,r
              refine aw_callV (pc := 48) X _ (s_Mo_move (d := 0) (a := e + 1) (b := e) hnx (by omega) (by omega) hM) q_Mo_move k_1095 k_1097 k_48 (by omega) hM.1 (by rfl) d_Mo_undefine_48 (by omega) (Nat.le_of_ble_eq_true rfl) ⟨by omega, by omega⟩ (fun h => by cases h) (fun r w nx hp => ?_)
              clear hM
              obtain ⟨rfl, hf1, p, m, A, V, hM, hq⟩ := hp
              replace hf := hf.trans hf1
              obtain ⟨rfl, hpp, hvv, hmm, hA3, g1, g2, g3, g4, g5⟩ := hq
              rw [hpp, hvv, hmm] at hM
              refine aw_iincN (pc := 51) X 1 (lv' := [(3, _), (2, _), (0, _), (1, _)]) d_Mo_undefine_51 (by rfl) (by decide) (by decide) (by rfl) ?_
              refine aw_goto (pc := 54) X (tgt := 35) d_Mo_undefine_54 (by rfl) ?_
              -- stop 35 lv=3:n,2:n,0:r,1:n st=
              refine ihj (e + 1) (by omega) (by omega) _ _ _ e5 hm2 hM hf (fun a ha => (hA3 a ha).trans (hA2 a ha)) (fun x tx hx => ?_)
              by_cases hxe : x = e
              · subst hxe
                rw [if_neg (by omega), if_pos (by omega)] at hx
                have hx60 := (List.getElem?_eq_some_iff.mp hx).1
                have hd1 := hrow (x + 1) tx (by rw [if_neg (by omega), if_neg (by omega)]; exact hx)
                obtain ⟨z1, z2, -, -, -, z6, z7, -⟩ := id hd1
                refine hd1.from (by rw [g2, aw_un_eq]) (by rw [g3, aw_un_eq]) (by rw [g5, aw_un_eq]) (fun j hj => ?_) (fun j hj => ?_)
                · rw [g1, cpn_in _ _ _ _ _ (by omega)]
                · rw [g4, cpn_in _ _ _ _ _ (by omega)]
              · have hx2 : (if x < k then T1[x]? else if x < e then T1[x + 1]? else T1[x]?) = some tx := by
                  rw [← hx]
                  by_cases h1 : x < k
                  · rw [if_pos h1, if_pos h1]
                  · rw [if_neg h1, if_neg h1]
                    by_cases h2 : x < e
                    · rw [if_pos h2, if_pos (by omega)]
                    · rw [if_neg h2, if_neg (by omega)]
                refine (hrow x tx hx2).congr (by rw [g2, aw_un_ne _ _ hxe]) (by rw [g3, aw_un_ne _ _ hxe]) (by rw [g5, aw_un_ne _ _ hxe]) (fun j hj => ?_) (fun j hj => ?_)
                · rw [g1, cpn_out _ _ _ _ _ (by omega)]
                · rw [g4, cpn_out _ _ _ _ _ (by omega)]
        rw [pV_some]
        refine aw_iload_n (pc := 19) X d_Mo_undefine_19 (by rfl) ?_
        refine aw_if_ltN (pc := 20) X (tgt := 87) d_Mo_undefine_20 (by rfl) (by omega) ?_
        refine aw_aload_nR (pc := 23) X d_Mo_undefine_23 (by rfl) ?_
        refine aw_dup (pc := 24) X d_Mo_undefine_24 (by rfl) ?_
        refine gm_5 (pc := 25) X hM (by omega) d_Mo_undefine_25 ?_
        refine aw_iconstN (pc := 28) X 1 d_Mo_undefine_28 (by decide) ?_
        refine aw_isubN (pc := 29) X d_Mo_undefine_29 (by omega) ?_
        refine pm_5 (pc := 30) X hM hf (by omega) d_Mo_undefine_30 (fun w hM hf => ?_)
        refine aw_iload_n (pc := 33) X d_Mo_undefine_33 (by rfl) ?_
        refine aw_istore_n (pc := 34) X (lv' := [(3, _), (2, _), (0, _), (1, _)]) d_Mo_undefine_34 (by decide) (by rfl) ?_
        -- stop 35 lv=3:n,2:n,0:r,1:n st=
        refine KI (T1.length - 1 - k) k (by omega) (Nat.le_refl _) _ _ _ (show m1 5 - 1 = _ by omega) (fun k h => (if_neg h).trans (hm1 k h)) hM hf hA1 (fun x tx hx => ?_)
        refine u3 x tx ?_
        rw [← hx]
        by_cases h1 : x < k
        · rw [if_pos h1]
        · rw [if_neg h1, if_neg h1]
  obtain ⟨a1, a2⟩ := hY.arg 1
  refine aw_aload_nR (pc := 0) X d_Mo_undefine_0 (by rfl) ?_
  refine aw_aload_nR (pc := 1) X d_Mo_undefine_1 (by rfl) ?_
  refine gm_22 (pc := 2) X hM (by omega) d_Mo_undefine_2 ?_
  refine aw_aload_nR (pc := 5) X d_Mo_undefine_5 (by rfl) ?_
  refine aw_iconstN (pc := 6) X 1 d_Mo_undefine_6 (by decide) ?_
  -- invokevirtual 7 lv=0:r,1:n st=n,r,a435,r
  refine aw_callV (pc := 7) X _ (s_Mo_from (d := 1) hnx (by omega) (by omega) hY hM) q_Mo_from k_1075 k_1077 k_43 (by omega) hM.1 (by rfl) d_Mo_undefine_7 (by omega) (Nat.le_of_ble_eq_true rfl) ⟨by omega, by omega⟩ (fun h => by cases h) (fun r w nx hp => ?_)
  obtain ⟨rfl, rfl, rfl⟩ := hp
  refine aw_aload_nR (pc := 10) X d_Mo_undefine_10 (by rfl) ?_
  refine aw_iconstN (pc := 11) X 1 d_Mo_undefine_11 (by decide) ?_
  -- invokevirtual 12 lv=0:r,1:n st=n,r,n,a435,r
  refine aw_callV (pc := 12) X _ (s_Mo_length (d := 1) hnx (by omega) (by omega) hY hM) q_Mo_length k_1071 k_1073 k_42 (by omega) hM.1 (by rfl) d_Mo_undefine_12 (by omega) (Nat.le_of_ble_eq_true rfl) ⟨by omega, by omega⟩ (fun h => by cases h) (fun r w nx hp => ?_)
  obtain ⟨rfl, rfl, rfl⟩ := hp
  refine aw_callV (pc := 15) X _ (s_Mo_find (d := 1) (l := 400) (u := mfr A 1) (n := (argOf ar 1).length) (T := T) hnx (by omega) (by omega) (by omega) (by omega) hM.b435 hT hM.a435 hM) q_Mo_find k_1033 k_1035 k_33 (by omega) hM.1 (by rfl) d_Mo_undefine_15 (by omega) (Nat.le_of_ble_eq_true rfl) ⟨by omega, by omega⟩ (fun h => by cases h) (fun r w nx hp => ?_)
  obtain ⟨rfl, rfl, rfl⟩ := hp
  rw [← a1]
  refine aw_istore_n (pc := 18) X (lv' := [(2, _), (0, _), (1, _)]) d_Mo_undefine_18 (by decide) (by rfl) ?_
  -- stop 19 lv=2:i,0:r,1:n st=
  refine K _ T _ _ _ _ (Nat.le_refl _) hM hf (fun _ _ => rfl) (fun _ _ => rfl) hT (fun z => ?_) (fun k hk => ⟨hk, fun z => by rw [← hTot, if_pos z], fun z => by rw [← hTot, if_neg (by rw [z]; simp), popS, hk]⟩)
  rw [← hTot]
  split
  · exact (filt_none z).symm
  · rw [popS, z]
end

