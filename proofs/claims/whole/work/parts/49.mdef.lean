/-! the reference: pour, move, define, undefine -/
theorem RY.kp {A A' : Nat → Nat → Nat} {t : Def} {ar : List (List Nat)} (h : RY A t ar) (e : ∀ a, 426 ≤ a → a ≤ 435 → A' a = A a) : RY A' t ar := by
  unfold RY at *
  rw [e 426 (by decide) (by decide), e 427 (by decide) (by decide), e 428 (by decide) (by decide), e 429 (by decide) (by decide), e 430 (by decide) (by decide), e 431 (by decide) (by decide), e 432 (by decide) (by decide), e 435 (by decide) (by decide)]
  exact h
theorem cpn_succ (f g : Nat → Nat) (sp dp i : Nat) : aw_un (aw_cpn f g sp dp i) (dp + i) (f (sp + i)) = aw_cpn f g sp dp (i + 1) := by
  funext j
  unfold aw_un aw_cpn
  by_cases h : j = dp + i
  · rw [if_pos h, if_pos (by omega), show j - dp = i by omega]
  · rw [if_neg h]
    by_cases h2 : dp ≤ j ∧ j < dp + i
    · rw [if_pos h2, if_pos (by omega)]
    · rw [if_neg h2, if_neg (by omega)]
theorem cpn_0 (f g : Nat → Nat) (sp dp : Nat) : aw_cpn f g sp dp 0 = g := by
  funext j
  unfold aw_cpn
  rw [if_neg (by omega)]
theorem cpn_in (f g : Nat → Nat) (sp dp n : Nat) {j : Nat} (h : j < n) : aw_cpn f g sp dp n (dp + j) = f (sp + j) := by
  unfold aw_cpn
  rw [if_pos (by omega), show dp + j - dp = j by omega]
theorem cpn_out (f g : Nat → Nat) (sp dp n : Nat) {j : Nat} (h : j < dp ∨ dp + n ≤ j) : aw_cpn f g sp dp n j = g j := by
  unfold aw_cpn
  rw [if_neg (by omega)]
theorem dR.congr {ns ns' o k k' bs bs' o' : Nat} {g g' h h' : Nat → Nat} {t : Def} (hd : dR ns g o k bs h o' t) (e1 : ns' = ns) (e2 : k' = k) (e3 : bs' = bs) (e4 : ∀ j, j < 12 → g' (o + j) = g (o + j)) (e5 : ∀ j, j < 100 → h' (o' + j) = h (o' + j)) : dR ns' g' o k' bs' h' o' t := by
  obtain ⟨a1, a2, a3, a4, a5, a6, a7, a8, a9⟩ := hd
  refine ⟨e1.trans a1, a2, a3.trans (sl_congr fun i hi => ?_), e2.trans a4, a5, e3.trans a6, a7, a8.trans (sl_congr fun i hi => ?_), a9⟩
  · exact (e4 i (by omega)).symm
  · exact (e5 i (by omega)).symm
/-- a row that comes from another place -/
theorem dR.from {ns ns' o o2 k k' bs bs' o' o2' : Nat} {g g' h h' : Nat → Nat} {t : Def} (hd : dR ns g o k bs h o' t) (e1 : ns' = ns) (e2 : k' = k) (e3 : bs' = bs) (e4 : ∀ j, j < ns → g' (o2 + j) = g (o + j)) (e5 : ∀ j, j < bs → h' (o2' + j) = h (o' + j)) : dR ns' g' o2 k' bs' h' o2' t := by
  obtain ⟨a1, a2, a3, a4, a5, a6, a7, a8, a9⟩ := hd
  refine ⟨e1.trans a1, a2, a3.trans (sl_congr fun i hi => ?_), e2.trans a4, a5, e3.trans a6, a7, a8.trans (sl_congr fun i hi => ?_), a9⟩
  · exact (e4 i (by omega)).symm
  · exact (e5 i (by omega)).symm
theorem RT.set {n i : Nat} {a1 a2 a3 a4 a5 b1 b2 b3 b4 b5 : Nat → Nat} {T : List Def} {tn : Def} (h : RT n a1 a2 a3 a4 a5 T) (hn : dR (b2 i) b1 (12 * i) (b3 i) (b5 i) b4 (100 * i) tn) (ho : ∀ x t, x ≠ i → T[x]? = some t → dR (b2 x) b1 (12 * x) (b3 x) (b5 x) b4 (100 * x) t) : RT n b1 b2 b3 b4 b5 (T.set i tn) := by
  refine ⟨h.1.trans (by simp), by simpa using h.2.1, fun x t hx => ?_⟩
  rw [List.getElem?_set] at hx
  split at hx
  · rename_i e
    subst e
    split at hx
    · cases hx; exact hn
    · cases hx
  · rename_i e
    exact ho x t (fun z => e z.symm) hx
theorem RT.app {n : Nat} {a1 a2 a3 a4 a5 b1 b2 b3 b4 b5 : Nat → Nat} {T : List Def} {tn : Def} (h : RT n a1 a2 a3 a4 a5 T) (hl : T.length < 60) (hn : dR (b2 T.length) b1 (12 * T.length) (b3 T.length) (b5 T.length) b4 (100 * T.length) tn) (ho : ∀ x t, x ≠ T.length → T[x]? = some t → dR (b2 x) b1 (12 * x) (b3 x) (b5 x) b4 (100 * x) t) : RT (n + 1) b1 b2 b3 b4 b5 (T ++ [tn]) := by
  refine ⟨by rw [h.1]; simp, by simp; omega, fun x t hx => ?_⟩
  rw [List.getElem?_append] at hx
  split at hx
  · rename_i e
    exact ho x t (by omega) hx
  · rename_i e
    have hx0 : x = T.length := by
      have := (List.getElem?_eq_some_iff.mp hx).1
      simp at this
      omega
    subst hx0
    simp at hx
    subst hx
    exact hn
theorem tfind_none {T : List Def} {s : List Nat} : ∀ {i : Nat}, i ≤ T.length → tfd T s i = none → ∀ k, k < i → (T[k]?).map (fun t => t.1) ≠ some s
  | 0, _, _, k, hk => by omega
  | i + 1, hi, h, k, hk => by
    unfold tfd at h
    split at h
    · cases h
    · rename_i hne
      by_cases e : k = i
      · subst e; exact hne
      · exact tfind_none (by omega) h k (by omega)
theorem filt_none {T : List Def} {s : List Nat} (h : tfind T s = none) : T.filter (isn s) = T := by
  rw [List.filter_eq_self]
  intro t ht
  obtain ⟨k, hk, e⟩ := List.mem_iff_getElem.mp ht
  have := tfind_none (Nat.le_refl _) h k hk
  rw [List.getElem?_eq_getElem hk, e] at this
  exact decide_eq_true (fun z => this (by rw [← z]; rfl))
theorem filt_erase {T : List Def} {s : List Nat} {k : Nat} (h : tfind T s = some k) : (T.eraseIdx k).filter (isn s) = T.filter (isn s) := by
  have hk : k < T.length := tfd_lt h
  have hn := tfd_name h
  rw [List.getElem?_eq_getElem hk] at hn
  have e1 : T[k].1 = s := by simpa using hn
  have e2 : T.take k ++ T[k] :: T.drop (k + 1) = T := by
    rw [← List.drop_eq_getElem_cons hk, List.take_append_drop]
  have e3 : isn s T[k] = false := decide_eq_false (fun z => z e1)
  rw [List.eraseIdx_eq_take_drop_succ, List.filter_append]
  conv => rhs; rw [← e2]
  rw [List.filter_append, List.filter_cons, if_neg (by rw [e3]; simp)]
section
variable {G : aw_G} {nx d : Nat} {w : Nat → va_E} {p : Int32} {m : Nat → Nat} {A : Nat → Nat → Nat} {V : Nat → Int64} {t : Def} {ar : List (List Nat)} {L : List Nat}
theorem s_Mo_pour {f : Nat} {tt : Option Nat} {R : Nat → List Nat} (hnx : 442 ≤ nx) (hd : 1 ≤ d) (hf4 : f < 4) (ht4 : ∀ k, tt = some k → k < 4 ∧ k ≠ f) (he : m 28 ≤ 6) (hRR : RR (A 436) (A 437) R) (hM : hMo G w p m A V) : AC G y_Mo_pour b_Mo_pour 4 none d false [rf G 418, .int (nI f), .int (pV tt)] nx w 0 0 (mq G nx w (fun r p' m' A' V' => r = none ∧ p' = p ∧ V' = V ∧ (∀ k, k ≠ 28 → m' k = m k) ∧ (∀ a, a ≠ 436 → a ≠ 437 → A' a = A a) ∧ m' 28 = (if m 28 = 0 then e2 (pourS R f tt).1 else m 28) ∧ RR (A' 436) (A' 437) (if m 28 = 0 then (pourS R f tt).2 else R))) := by
  obtain ⟨r1, r2, r3⟩ := hRR f hf4
  refine AC.ofW (by decide) (Nat.le_of_ble_eq_true rfl) ?_
  intro E P hP Y X
  have X : aw_X G "RescanDeskModel" b_Mo_pour 4 none "pour" _ _ _ _ _ E := X
  refine AW.eql (lv' := [(0, _), (1, _), (2, _)]) (by rfl) ?_
  have hf : fr 418 442 w w := fr.refl _ _ _
  refine aw_aload_nR (pc := 0) X d_Mo_pour_0 (by rfl) ?_
  refine gm_28 (pc := 1) X hM (by omega) d_Mo_pour_1 ?_
  refine aw_if_leN (pc := 4) X (tgt := 8) d_Mo_pour_4 (by rfl) (by omega) (fun h4 => ?_) (fun h4 => ?_)
  -- br 4 lv=0:r,1:n,2:i st=
  · have e0 : m 28 = 0 := by omega
    rw [if_pos e0, if_pos e0] at hP
    cases tt with
    | none =>
      have Z90 : ∀ x, AW G E 4 nx 0 0 w 90 [(3, .int (nI x)), (0, rf G 418), (1, .int (nI f)), (2, .int (pV none))] [] := by
        intro x
        refine aw_iload_n (pc := 90) X d_Mo_pour_90 (by rfl) ?_
        refine aw_if_lt (pc := 91) X (tgt := 109) d_Mo_pour_91 (by rfl) (fun h91 => ?_) (fun h91 => ?_)
        -- br 91 lv=3:n,0:r,1:n,2:i st=
        · refine aw_aload_nR (pc := 109) X d_Mo_pour_109 (by rfl) ?_
          refine gm_24 (pc := 110) X hM (by omega) d_Mo_pour_110 ?_
          refine aw_iload_n (pc := 113) X d_Mo_pour_113 (by rfl) ?_
          refine aw_iconstN (pc := 114) X 0 d_Mo_pour_114 (by decide) ?_
          refine sm_437 (pc := 115) X hM hf (by omega) (by omega) d_Mo_pour_115 (fun w hM hf => ?_)
          refine aw_vret Y X rfl d_Mo_pour_116 (by omega) (by omega) (hP _ _ _ ?_)
          -- ret 116 lv=3:n,0:r,1:n,2:i st=
          refine ⟨rfl, hf, _, _, _, _, hM, rfl, rfl, rfl, fun k h => rfl, fun a h1 h2 => if_neg h2, e0, fun r hr => ?_⟩
          show aw_un (A 437) f 0 r = (upR R f [] r).length ∧ (upR R f [] r).length ≤ 300 ∧ upR R f [] r = sl (A 436) (300 * r) (upR R f [] r).length
          by_cases e : r = f
          · subst e; rw [aw_un_eq, upR_eq]; exact ⟨rfl, Nat.zero_le _, rfl⟩
          · rw [aw_un_ne _ _ e, upR_ne _ _ e]; exact hRR r hr
        · exact absurd (show pV none < 0 by decide) h91
      refine aw_iload_n (pc := 8) X d_Mo_pour_8 (by rfl) ?_
      refine aw_if_lt (pc := 9) X (tgt := 37) d_Mo_pour_9 (by rfl) (fun h9 => ?_) (fun h9 => ?_)
      -- br 9 lv=0:r,1:n,2:i st=
      · refine aw_iconstN (pc := 37) X 0 d_Mo_pour_37 (by decide) ?_
        refine aw_istore_n (pc := 38) X (lv' := [(3, _), (0, _), (1, _), (2, _)]) d_Mo_pour_38 (by decide) (by rfl) ?_
        refine aw_iload_n (pc := 39) X d_Mo_pour_39 (by rfl) ?_
        refine aw_aload_nR (pc := 40) X d_Mo_pour_40 (by rfl) ?_
        refine gm_24 (pc := 41) X hM (by omega) d_Mo_pour_41 ?_
        refine aw_iload_n (pc := 44) X d_Mo_pour_44 (by rfl) ?_
        refine aw_ialdN (pc := 45) X 437 1 (by omega) hM.a437 (by rfl) (by omega) (by decide) d_Mo_pour_45 ?_
        try simp only [mu, au, reduceIte, Nat.reduceEqDiff]
        refine aw_icmp_geN (pc := 46) X (tgt := 90) d_Mo_pour_46 (by rfl) (by omega) (by omega) (fun h46 => ?_) (fun h46 => ?_)
        -- br 46 lv=3:n,0:r,1:n,2:i st=
        · exact Z90 _
        · refine aw_iload_n (pc := 49) X d_Mo_pour_49 (by rfl) ?_
          refine aw_if_lt (pc := 50) X (tgt := 90) d_Mo_pour_50 (by rfl) (fun h50 => ?_) (fun h50 => ?_)
          -- br 50 lv=3:n,0:r,1:n,2:i st=
          · exact Z90 _
          · exact absurd (show pV none < 0 by decide) h50
      · exact absurd (show pV none < 0 by decide) h9
    | some k =>
      obtain ⟨hk4, hkf⟩ := ht4 k rfl
      obtain ⟨s1, s2, s3⟩ := hRR k hk4
      rw [pV_some]
      refine aw_iload_n (pc := 8) X d_Mo_pour_8 (by rfl) ?_
      refine aw_if_ltN (pc := 9) X (tgt := 37) d_Mo_pour_9 (by rfl) (by omega) ?_
      refine aw_aload_nR (pc := 12) X d_Mo_pour_12 (by rfl) ?_
      refine gm_24 (pc := 13) X hM (by omega) d_Mo_pour_13 ?_
      refine aw_iload_n (pc := 16) X d_Mo_pour_16 (by rfl) ?_
      refine aw_ialdN (pc := 17) X 437 1 (by omega) hM.a437 (by rfl) (by omega) (by decide) d_Mo_pour_17 ?_
      try simp only [mu, au, reduceIte, Nat.reduceEqDiff]
      refine aw_aload_nR (pc := 18) X d_Mo_pour_18 (by rfl) ?_
      refine gm_24 (pc := 19) X hM (by omega) d_Mo_pour_19 ?_
      refine aw_iload_n (pc := 22) X d_Mo_pour_22 (by rfl) ?_
      refine aw_ialdN (pc := 23) X 437 1 (by omega) hM.a437 (by rfl) (by omega) (by decide) d_Mo_pour_23 ?_
      try simp only [mu, au, reduceIte, Nat.reduceEqDiff]
      refine aw_iaddN (pc := 24) X d_Mo_pour_24 ?_
      refine aw_sipushN (pc := 25) X 300 d_Mo_pour_25 (by decide) ?_
      refine aw_icmp_leN (pc := 28) X (tgt := 37) d_Mo_pour_28 (by rfl) (by omega) (by omega) (fun h28 => ?_) (fun h28 => ?_)
      -- br 28 lv=0:r,1:n,2:n st=
      · have hfit : (R k).length + (R f).length ≤ 300 := by omega
        have hS : pourS R f (some k) = (true, upR (upR R k (R k ++ R f)) f []) := by rw [pourS, if_neg hkf, if_pos hfit]
        have K : ∀ (j i : Nat), i + j = (R f).length → ∀ w1 A1, hMo G w1 p m A1 V → fr 418 442 w w1 → (∀ a, a ≠ 436 → A1 a = A a) → (∀ x, x < 300 * k + (R k).length ∨ 300 * k + (R k).length + i ≤ x → A1 436 x = A 436 x) → (∀ y, y < i → A1 436 (300 * k + (R k).length + y) = A 436 (300 * f + y)) → AW G E 4 nx 0 0 w1 39 [(3, .int (nI i)), (0, rf G 418), (1, .int (nI f)), (2, .int (nI k))] [] := by
          intro j
          induction j with
          | zero =>
            intro i hi w1 A1 hM hf hA1 hA2 hA3
            have e37 : A1 437 = A 437 := hA1 437 (by decide)
            have qf : A1 437 f = (R f).length := by rw [e37]; exact r1
            have qk : A1 437 k = (R k).length := by rw [e37]; exact s1
            refine aw_iload_n (pc := 39) X d_Mo_pour_39 (by rfl) ?_
            refine aw_aload_nR (pc := 40) X d_Mo_pour_40 (by rfl) ?_
            refine gm_24 (pc := 41) X hM (by omega) d_Mo_pour_41 ?_
            refine aw_iload_n (pc := 44) X d_Mo_pour_44 (by rfl) ?_
            refine aw_ialdN (pc := 45) X 437 1 (by omega) hM.a437 (by rfl) (by omega) (by decide) d_Mo_pour_45 ?_
            try simp only [mu, au, reduceIte, Nat.reduceEqDiff]
            refine aw_icmp_geN (pc := 46) X (tgt := 90) d_Mo_pour_46 (by rfl) (by omega) (by omega) (fun h46 => ?_) (fun h46 => ?_)
            -- br 46 lv=3:n,0:r,1:n,2:n st=
            · refine aw_iload_n (pc := 90) X d_Mo_pour_90 (by rfl) ?_
              refine aw_if_ltN (pc := 91) X (tgt := 109) d_Mo_pour_91 (by rfl) (by omega) ?_
              refine aw_aload_nR (pc := 94) X d_Mo_pour_94 (by rfl) ?_
              refine gm_24 (pc := 95) X hM (by omega) d_Mo_pour_95 ?_
              refine aw_iload_n (pc := 98) X d_Mo_pour_98 (by rfl) ?_
              refine aw_dup2 (pc := 99) X d_Mo_pour_99 (by rfl) (by rfl) ?_
              refine aw_ialdN (pc := 100) X 437 1 (by omega) hM.a437 (by rfl) (by omega) (by decide) d_Mo_pour_100 ?_
              try simp only [mu, au, reduceIte, Nat.reduceEqDiff]
              refine aw_aload_nR (pc := 101) X d_Mo_pour_101 (by rfl) ?_
              refine gm_24 (pc := 102) X hM (by omega) d_Mo_pour_102 ?_
              refine aw_iload_n (pc := 105) X d_Mo_pour_105 (by rfl) ?_
              refine aw_ialdN (pc := 106) X 437 1 (by omega) hM.a437 (by rfl) (by omega) (by decide) d_Mo_pour_106 ?_
              try simp only [mu, au, reduceIte, Nat.reduceEqDiff]
              refine aw_iaddN (pc := 107) X d_Mo_pour_107 ?_
              refine sm_437 (pc := 108) X hM hf (by omega) (by omega) d_Mo_pour_108 (fun w hM hf => ?_)
              refine aw_aload_nR (pc := 109) X d_Mo_pour_109 (by rfl) ?_
              refine gm_24 (pc := 110) X hM (by omega) d_Mo_pour_110 ?_
              refine aw_iload_n (pc := 113) X d_Mo_pour_113 (by rfl) ?_
              refine aw_iconstN (pc := 114) X 0 d_Mo_pour_114 (by decide) ?_
              refine sm_437 (pc := 115) X hM hf (by omega) (by omega) d_Mo_pour_115 (fun w hM hf => ?_)
              refine aw_vret Y X rfl d_Mo_pour_116 (by omega) (by omega) (hP _ _ _ ?_)
              -- ret 116 lv=3:n,0:r,1:n,2:n st=
              rw [hS]
              refine ⟨rfl, hf, _, _, _, _, hM, rfl, rfl, rfl, fun k h => rfl, fun a h1 h2 => ?_, e0, fun r hr => ?_⟩
              · exact (if_neg h2).trans ((if_neg h2).trans (hA1 a h1))
              · show aw_un (aw_un (A1 437) k _) f 0 r = (upR (upR R k (R k ++ R f)) f [] r).length ∧ (upR (upR R k (R k ++ R f)) f [] r).length ≤ 300 ∧ upR (upR R k (R k ++ R f)) f [] r = sl (A1 436) (300 * r) (upR (upR R k (R k ++ R f)) f [] r).length
                by_cases e : r = f
                · subst e; rw [aw_un_eq, upR_eq]; exact ⟨rfl, Nat.zero_le _, rfl⟩
                · rw [aw_un_ne _ _ e, upR_ne _ _ e]
                  by_cases e2 : r = k
                  · subst e2
                    rw [aw_un_eq, upR_eq, List.length_append]
                    refine ⟨?_, hfit, ?_⟩
                    · first | rw [qf, qk] | (simp only [qf, qk])
                    · rw [sl_app]
                      congr 1
                      · exact s3.trans (sl_congr fun x hx => (hA2 _ (by omega)).symm)
                      · exact r3.trans (sl_congr fun x hx => (hA3 x (by omega)).symm)
                  · rw [aw_un_ne _ _ e2, upR_ne _ _ e2, e37]
                    obtain ⟨z1, z2, z3⟩ := hRR r hr
                    exact ⟨z1, z2, z3.trans (sl_congr fun x hx => (hA2 _ (by omega)).symm)⟩
            · omega
          | succ j ih =>
            intro i hi w1 A1 hM hf hA1 hA2 hA3
            have e37 : A1 437 = A 437 := hA1 437 (by decide)
            have qf : A1 437 f = (R f).length := by rw [e37]; exact r1
            have qk : A1 437 k = (R k).length := by rw [e37]; exact s1
            refine aw_iload_n (pc := 39) X d_Mo_pour_39 (by rfl) ?_
            refine aw_aload_nR (pc := 40) X d_Mo_pour_40 (by rfl) ?_
            refine gm_24 (pc := 41) X hM (by omega) d_Mo_pour_41 ?_
            refine aw_iload_n (pc := 44) X d_Mo_pour_44 (by rfl) ?_
            refine aw_ialdN (pc := 45) X 437 1 (by omega) hM.a437 (by rfl) (by omega) (by decide) d_Mo_pour_45 ?_
            try simp only [mu, au, reduceIte, Nat.reduceEqDiff]
            refine aw_icmp_geN (pc := 46) X (tgt := 90) d_Mo_pour_46 (by rfl) (by omega) (by omega) (fun h46 => ?_) (fun h46 => ?_)
            -- br 46 lv=3:n,0:r,1:n,2:n st=
            · omega
            · refine aw_iload_n (pc := 49) X d_Mo_pour_49 (by rfl) ?_
              refine aw_if_ltN (pc := 50) X (tgt := 90) d_Mo_pour_50 (by rfl) (by omega) ?_
              refine aw_aload_nR (pc := 53) X d_Mo_pour_53 (by rfl) ?_
              refine gm_23 (pc := 54) X hM (by omega) d_Mo_pour_54 ?_
              refine aw_sipushN (pc := 57) X 300 d_Mo_pour_57 (by decide) ?_
              refine aw_iload_n (pc := 60) X d_Mo_pour_60 (by rfl) ?_
              refine aw_imulN (pc := 61) X d_Mo_pour_61 ?_
              refine aw_aload_nR (pc := 62) X d_Mo_pour_62 (by rfl) ?_
              refine gm_24 (pc := 63) X hM (by omega) d_Mo_pour_63 ?_
              refine aw_iload_n (pc := 66) X d_Mo_pour_66 (by rfl) ?_
              refine aw_ialdN (pc := 67) X 437 1 (by omega) hM.a437 (by rfl) (by omega) (by decide) d_Mo_pour_67 ?_
              try simp only [mu, au, reduceIte, Nat.reduceEqDiff]
              refine aw_iaddN (pc := 68) X d_Mo_pour_68 ?_
              refine aw_iload_n (pc := 69) X d_Mo_pour_69 (by rfl) ?_
              refine aw_iaddN (pc := 70) X d_Mo_pour_70 ?_
              refine aw_aload_nR (pc := 71) X d_Mo_pour_71 (by rfl) ?_
              refine gm_23 (pc := 72) X hM (by omega) d_Mo_pour_72 ?_
              refine aw_sipushN (pc := 75) X 300 d_Mo_pour_75 (by decide) ?_
              refine aw_iload_n (pc := 78) X d_Mo_pour_78 (by rfl) ?_
              refine aw_imulN (pc := 79) X d_Mo_pour_79 ?_
              refine aw_iload_n (pc := 80) X d_Mo_pour_80 (by rfl) ?_
              refine aw_iaddN (pc := 81) X d_Mo_pour_81 ?_
              refine aw_caldN (pc := 82) X 436 0 (by omega) hM.a436 (by rfl) (by omega) (by decide) d_Mo_pour_82 ?_
              try simp only [mu, au, reduceIte, Nat.reduceEqDiff]
              refine sm_436 (pc := 83) X hM hf (by omega) (by omega) (by first | omega | exact hM.b435 _ | exact hM.b420 _ | exact hM.b421 _ | exact hM.b424 _ | exact hM.b426 _ | exact hM.b429 _ | exact hM.b436 _ | exact hM.b438 _ | exact hM.b419 _ | exact hM.b441 _) d_Mo_pour_83 (fun w hM hf => ?_)
              refine aw_iincN (pc := 84) X 1 (lv' := [(3, _), (0, _), (1, _), (2, _)]) d_Mo_pour_84 (by rfl) (by decide) (by decide) (by rfl) ?_
              refine aw_goto (pc := 87) X (tgt := 39) d_Mo_pour_87 (by rfl) ?_
              -- stop 39 lv=3:n,0:r,1:n,2:n st=
              refine ih (i + 1) (by omega) _ _ hM hf (fun a h => (if_neg h).trans (hA1 a h)) (fun x hx => ?_) (fun y hy => ?_)
              · show aw_un (A1 436) (300 * k + A1 437 k + i) _ x = _
                rw [aw_un_ne _ _ (by omega)]
                exact hA2 x (by omega)
              · show aw_un (A1 436) (300 * k + A1 437 k + i) _ _ = _
                by_cases e : y = i
                · subst e
                  rw [qk, aw_un_eq]
                  exact hA2 _ (by omega)
                · rw [aw_un_ne _ _ (by omega)]
                  exact hA3 y (by omega)
        refine aw_iconstN (pc := 37) X 0 d_Mo_pour_37 (by decide) ?_
        refine aw_istore_n (pc := 38) X (lv' := [(3, _), (0, _), (1, _), (2, _)]) d_Mo_pour_38 (by decide) (by rfl) ?_
        -- stop 39 lv=3:n,0:r,1:n,2:n st=
        exact K _ 0 (Nat.zero_add _) _ _ hM hf (fun _ _ => rfl) (fun _ _ => rfl) (fun y hy => by omega)
      · have hS : pourS R f (some k) = (false, R) := by rw [pourS, if_neg hkf, if_neg (by omega)]
        refine aw_aload_nR (pc := 31) X d_Mo_pour_31 (by rfl) ?_
        refine aw_iconstN (pc := 32) X 2 d_Mo_pour_32 (by decide) ?_
        -- invokevirtual 33 lv=0:r,1:n,2:n st=n,r
        refine aw_callV (pc := 33) X _ (s_Mo_stop (d := 0) (e := 2) hnx he hM) q_Mo_stop k_1003 k_1005 k_27 (by omega) hM.1 (by rfl) d_Mo_pour_33 (by omega) (Nat.le_of_ble_eq_true rfl) ⟨by omega, by omega⟩ (fun h => by cases h) (fun r w nx hp => ?_)
        clear hM
        obtain ⟨rfl, hf1, p, m, A, V, hM, hq⟩ := hp
        replace hf := hf.trans hf1
        obtain ⟨rfl, hpp, haa, hvv, hmm⟩ := hq
        rw [hpp, haa, hvv, hmm] at hM
        rw [if_pos e0] at hM
        refine aw_vret Y X rfl d_Mo_pour_36 (by omega) (by omega) (hP _ _ _ ?_)
        -- ret 36 lv=0:r,1:n,2:n st=
        rw [hS]
        exact ⟨rfl, hf, _, _, _, _, hM, rfl, rfl, rfl, fun k h => if_neg h, fun a h1 h2 => rfl, rfl, hRR⟩
  · have e0 : ¬ m 28 = 0 := by omega
    rw [if_neg e0, if_neg e0] at hP
    refine aw_vret Y X rfl d_Mo_pour_7 (by omega) (by omega) (hP _ _ _ ?_)
    -- ret 7 lv=0:r,1:n,2:i st=
    exact ⟨rfl, hf, _, _, _, _, hM, rfl, rfl, rfl, fun k h => rfl, fun a h1 h2 => rfl, rfl, hRR⟩
theorem s_Mo_move {a b : Nat} (hnx : 442 ≤ nx) (ha : a < 60) (hba : b < a) (hM : hMo G w p m A V) : AC G y_Mo_move b_Mo_move 4 none d false [rf G 418, .int (nI a), .int (nI b)] nx w 0 0 (mq G nx w (fun r p' m' A' V' => r = none ∧ p' = p ∧ V' = V ∧ m' = m ∧ (∀ x, x < 421 ∨ 425 < x → A' x = A x) ∧ A' 421 = aw_cpn (A 421) (A 421) (12 * a) (12 * b) 12 ∧ A' 422 = aw_un (A 422) b (A 422 a) ∧ A' 423 = aw_un (A 423) b (A 423 a) ∧ A' 424 = aw_cpn (A 424) (A 424) (100 * a) (100 * b) 100 ∧ A' 425 = aw_un (A 425) b (A 425 a))) := by
  refine AC.ofW (by decide) (Nat.le_of_ble_eq_true rfl) ?_
  intro E P hP Y X
  have X : aw_X G "RescanDeskModel" b_Mo_move 4 none "move" _ _ _ _ _ E := X
  refine AW.eql (lv' := [(0, _), (1, _), (2, _)]) (by rfl) ?_
  have hf : fr 418 442 w w := fr.refl _ _ _
  have K2 : ∀ (j i : Nat), i + j = 100 → ∀ w1 A1, hMo G w1 p m A1 V → fr 418 442 w w1 → (∀ x, x < 421 ∨ 425 < x → A1 x = A x) → A1 421 = aw_cpn (A 421) (A 421) (12 * a) (12 * b) 12 → A1 422 = A 422 → A1 423 = A 423 → A1 424 = aw_cpn (A 424) (A 424) (100 * a) (100 * b) i → A1 425 = A 425 → AW G E 4 nx 0 0 w1 38 [(3, .int (nI i)), (0, rf G 418), (1, .int (nI a)), (2, .int (nI b))] [] := by
    intro j
    induction j with
    | zero =>
      intro i hi w1 A1 hM hf h1 h2 h3 h4 h5 h6
      have hi0 : i = 100 := by omega
      subst hi0
      refine aw_iload_n (pc := 38) X d_Mo_move_38 (by rfl) ?_
      refine aw_bipushN (pc := 39) X 100 d_Mo_move_39 (by decide) ?_
      refine aw_icmp_geN (pc := 41) X (tgt := 72) d_Mo_move_41 (by rfl) (by omega) (by omega) (fun h41 => ?_) (fun h41 => ?_)
      -- br 41 lv=3:n,0:r,1:n,2:n st=
      · refine aw_aload_nR (pc := 72) X d_Mo_move_72 (by rfl) ?_
        refine gm_7 (pc := 73) X hM (by omega) d_Mo_move_73 ?_
        refine aw_iload_n (pc := 76) X d_Mo_move_76 (by rfl) ?_
        refine aw_aload_nR (pc := 77) X d_Mo_move_77 (by rfl) ?_
        refine gm_7 (pc := 78) X hM (by omega) d_Mo_move_78 ?_
        refine aw_iload_n (pc := 81) X d_Mo_move_81 (by rfl) ?_
        refine aw_ialdN (pc := 82) X 422 1 (by omega) hM.a422 (by rfl) (by omega) (by decide) d_Mo_move_82 ?_
        refine sm_422 (pc := 83) X hM hf (by omega) (by omega) d_Mo_move_83 (fun w hM hf => ?_)
        refine aw_aload_nR (pc := 84) X d_Mo_move_84 (by rfl) ?_
        refine gm_10 (pc := 85) X hM (by omega) d_Mo_move_85 ?_
        refine aw_iload_n (pc := 88) X d_Mo_move_88 (by rfl) ?_
        refine aw_aload_nR (pc := 89) X d_Mo_move_89 (by rfl) ?_
        refine gm_10 (pc := 90) X hM (by omega) d_Mo_move_90 ?_
        refine aw_iload_n (pc := 93) X d_Mo_move_93 (by rfl) ?_
        refine aw_ialdN (pc := 94) X 425 1 (by omega) hM.a425 (by rfl) (by omega) (by decide) d_Mo_move_94 ?_
        try simp only [mu, au, reduceIte, Nat.reduceEqDiff]
        refine sm_425 (pc := 95) X hM hf (by omega) (by omega) d_Mo_move_95 (fun w hM hf => ?_)
        refine aw_aload_nR (pc := 96) X d_Mo_move_96 (by rfl) ?_
        refine gm_8 (pc := 97) X hM (by omega) d_Mo_move_97 ?_
        refine aw_iload_n (pc := 100) X d_Mo_move_100 (by rfl) ?_
        refine aw_aload_nR (pc := 101) X d_Mo_move_101 (by rfl) ?_
        refine gm_8 (pc := 102) X hM (by omega) d_Mo_move_102 ?_
        refine aw_iload_n (pc := 105) X d_Mo_move_105 (by rfl) ?_
        refine aw_ialdN (pc := 106) X 423 1 (by omega) hM.a423 (by rfl) (by omega) (by decide) d_Mo_move_106 ?_
        try simp only [mu, au, reduceIte, Nat.reduceEqDiff]
        refine sm_423 (pc := 107) X hM hf (by omega) (by omega) d_Mo_move_107 (fun w hM hf => ?_)
        refine aw_vret Y X rfl d_Mo_move_108 (by omega) (by omega) (hP _ _ _ ?_)
        -- ret 108 lv=3:n,0:r,1:n,2:n st=
        refine ⟨rfl, hf, _, _, _, _, hM, rfl, rfl, rfl, rfl, fun x hx => ?_, h2, ?_, ?_, h5, ?_⟩
        · exact (if_neg (by omega)).trans ((if_neg (by omega)).trans ((if_neg (by omega)).trans (h1 x hx)))
        · show aw_un (A1 422) b (A1 422 a) = _
          rw [h3]
        · show aw_un (A1 423) b (A1 423 a) = _
          rw [h4]
        · show aw_un (A1 425) b (A1 425 a) = _
          rw [h6]
      · omega
    | succ j ih =>
      intro i hi w1 A1 hM hf h1 h2 h3 h4 h5 h6
      refine aw_iload_n (pc := 38) X d_Mo_move_38 (by rfl) ?_
      refine aw_bipushN (pc := 39) X 100 d_Mo_move_39 (by decide) ?_
      refine aw_icmp_geN (pc := 41) X (tgt := 72) d_Mo_move_41 (by rfl) (by omega) (by omega) (fun h41 => ?_) (fun h41 => ?_)
      -- br 41 lv=3:n,0:r,1:n,2:n st=
      · omega
      · refine aw_aload_nR (pc := 44) X d_Mo_move_44 (by rfl) ?_
        refine gm_9 (pc := 45) X hM (by omega) d_Mo_move_45 ?_
        refine aw_bipushN (pc := 48) X 100 d_Mo_move_48 (by decide) ?_
        refine aw_iload_n (pc := 50) X d_Mo_move_50 (by rfl) ?_
        refine aw_imulN (pc := 51) X d_Mo_move_51 ?_
        refine aw_iload_n (pc := 52) X d_Mo_move_52 (by rfl) ?_
        refine aw_iaddN (pc := 53) X d_Mo_move_53 ?_
        refine aw_aload_nR (pc := 54) X d_Mo_move_54 (by rfl) ?_
        refine gm_9 (pc := 55) X hM (by omega) d_Mo_move_55 ?_
        refine aw_bipushN (pc := 58) X 100 d_Mo_move_58 (by decide) ?_
        refine aw_iload_n (pc := 60) X d_Mo_move_60 (by rfl) ?_
        refine aw_imulN (pc := 61) X d_Mo_move_61 ?_
        refine aw_iload_n (pc := 62) X d_Mo_move_62 (by rfl) ?_
        refine aw_iaddN (pc := 63) X d_Mo_move_63 ?_
        refine aw_caldN (pc := 64) X 424 0 (by omega) hM.a424 (by rfl) (by omega) (by decide) d_Mo_move_64 ?_
        try simp only [mu, au, reduceIte, Nat.reduceEqDiff]
        refine sm_424 (pc := 65) X hM hf (by omega) (by omega) (by first | omega | exact hM.b435 _ | exact hM.b420 _ | exact hM.b421 _ | exact hM.b424 _ | exact hM.b426 _ | exact hM.b429 _ | exact hM.b436 _ | exact hM.b438 _ | exact hM.b419 _ | exact hM.b441 _) d_Mo_move_65 (fun w hM hf => ?_)
        refine aw_iincN (pc := 66) X 1 (lv' := [(3, _), (0, _), (1, _), (2, _)]) d_Mo_move_66 (by rfl) (by decide) (by decide) (by rfl) ?_
        refine aw_goto (pc := 69) X (tgt := 38) d_Mo_move_69 (by rfl) ?_
        -- stop 38 lv=3:n,0:r,1:n,2:n st=
        refine ih (i + 1) (by omega) _ _ hM hf (fun x hx => (if_neg (by omega)).trans (h1 x hx)) h2 h3 h4 ?_ h6
        show aw_un (A1 424) (100 * b + i) (A1 424 (100 * a + i)) = _
        rw [h5, cpn_out _ _ _ _ _ (j := 100 * a + i) (by omega), cpn_succ]
  have K1 : ∀ (j i : Nat), i + j = 12 → ∀ w1 A1, hMo G w1 p m A1 V → fr 418 442 w w1 → (∀ x, x < 421 ∨ 425 < x → A1 x = A x) → A1 421 = aw_cpn (A 421) (A 421) (12 * a) (12 * b) i → A1 422 = A 422 → A1 423 = A 423 → A1 424 = A 424 → A1 425 = A 425 → AW G E 4 nx 0 0 w1 2 [(3, .int (nI i)), (0, rf G 418), (1, .int (nI a)), (2, .int (nI b))] [] := by
    intro j
    induction j with
    | zero =>
      intro i hi w1 A1 hM hf g1 g2 g3 g4 g5 g6
      have hi0 : i = 12 := by omega
      subst hi0
      refine aw_iload_n (pc := 2) X d_Mo_move_2 (by rfl) ?_
      refine aw_bipushN (pc := 3) X 12 d_Mo_move_3 (by decide) ?_
      refine aw_icmp_geN (pc := 5) X (tgt := 36) d_Mo_move_5 (by rfl) (by omega) (by omega) (fun h5 => ?_) (fun h5 => ?_)
      -- br 5 lv=3:n,0:r,1:n,2:n st=
      · refine aw_iconstN (pc := 36) X 0 d_Mo_move_36 (by decide) ?_
        refine aw_istore_n (pc := 37) X (lv' := [(3, _), (0, _), (1, _), (2, _)]) d_Mo_move_37 (by decide) (by rfl) ?_
        -- stop 38 lv=3:n,0:r,1:n,2:n st=
        exact K2 100 0 (by omega) _ _ hM hf g1 g2 g3 g4 (by rw [cpn_0]; exact g5) g6
      · omega
    | succ j ih =>
      intro i hi w1 A1 hM hf g1 g2 g3 g4 g5 g6
      refine aw_iload_n (pc := 2) X d_Mo_move_2 (by rfl) ?_
      refine aw_bipushN (pc := 3) X 12 d_Mo_move_3 (by decide) ?_
      refine aw_icmp_geN (pc := 5) X (tgt := 36) d_Mo_move_5 (by rfl) (by omega) (by omega) (fun h5 => ?_) (fun h5 => ?_)
      -- br 5 lv=3:n,0:r,1:n,2:n st=
      · omega
      · refine aw_aload_nR (pc := 8) X d_Mo_move_8 (by rfl) ?_
        refine gm_6 (pc := 9) X hM (by omega) d_Mo_move_9 ?_
        refine aw_bipushN (pc := 12) X 12 d_Mo_move_12 (by decide) ?_
        refine aw_iload_n (pc := 14) X d_Mo_move_14 (by rfl) ?_
        refine aw_imulN (pc := 15) X d_Mo_move_15 ?_
        refine aw_iload_n (pc := 16) X d_Mo_move_16 (by rfl) ?_
        refine aw_iaddN (pc := 17) X d_Mo_move_17 ?_
        refine aw_aload_nR (pc := 18) X d_Mo_move_18 (by rfl) ?_
        refine gm_6 (pc := 19) X hM (by omega) d_Mo_move_19 ?_
        refine aw_bipushN (pc := 22) X 12 d_Mo_move_22 (by decide) ?_
        refine aw_iload_n (pc := 24) X d_Mo_move_24 (by rfl) ?_
        refine aw_imulN (pc := 25) X d_Mo_move_25 ?_
        refine aw_iload_n (pc := 26) X d_Mo_move_26 (by rfl) ?_
        refine aw_iaddN (pc := 27) X d_Mo_move_27 ?_
        refine aw_caldN (pc := 28) X 421 0 (by omega) hM.a421 (by rfl) (by omega) (by decide) d_Mo_move_28 ?_
        try simp only [mu, au, reduceIte, Nat.reduceEqDiff]
        refine sm_421 (pc := 29) X hM hf (by omega) (by omega) (by first | omega | exact hM.b435 _ | exact hM.b420 _ | exact hM.b421 _ | exact hM.b424 _ | exact hM.b426 _ | exact hM.b429 _ | exact hM.b436 _ | exact hM.b438 _ | exact hM.b419 _ | exact hM.b441 _) d_Mo_move_29 (fun w hM hf => ?_)
        refine aw_iincN (pc := 30) X 1 (lv' := [(3, _), (0, _), (1, _), (2, _)]) d_Mo_move_30 (by rfl) (by decide) (by decide) (by rfl) ?_
        refine aw_goto (pc := 33) X (tgt := 2) d_Mo_move_33 (by rfl) ?_
        -- stop 2 lv=3:n,0:r,1:n,2:n st=
        refine ih (i + 1) (by omega) _ _ hM hf (fun x hx => (if_neg (by omega)).trans (g1 x hx)) ?_ g3 g4 g5 g6
        show aw_un (A1 421) (12 * b + i) (A1 421 (12 * a + i)) = _
        rw [g2, cpn_out _ _ _ _ _ (j := 12 * a + i) (by omega), cpn_succ]
  refine aw_iconstN (pc := 0) X 0 d_Mo_move_0 (by decide) ?_
  refine aw_istore_n (pc := 1) X (lv' := [(3, _), (0, _), (1, _), (2, _)]) d_Mo_move_1 (by decide) (by rfl) ?_
  -- stop 2 lv=3:n,0:r,1:n,2:n st=
  exact K1 12 0 (by omega) _ _ hM hf (fun _ _ => rfl) (cpn_0 _ _ _ _).symm rfl rfl rfl rfl
theorem s_Mo_define {b : Bool} {T : List Def} (hnx : 442 ≤ nx) (hd : 3 ≤ d) (e28 : m 28 = 0) (hT : RT (m 5) (A 421) (A 422) (A 423) (A 424) (A 425) T) (hY : RY A t ar) (hM : hMo G w p m A V) : AC G y_Mo_define b_Mo_define 5 none d false [rf G 418, .int (nI (bN b))] nx w 0 0 (mq G nx w (fun r p' m' A' V' => r = none ∧ p' = p ∧ V' = V ∧ (∀ k, k ≠ 5 → k ≠ 28 → m' k = m k) ∧ (∀ a, a < 421 ∨ 425 < a → A' a = A a) ∧ m' 28 = (defS T ar b).1 ∧ RT (m' 5) (A' 421) (A' 422) (A' 423) (A' 424) (A' 425) (defS T ar b).2)) := by
  obtain ⟨t1, t2, t3⟩ := id hT
  obtain ⟨a1, a2⟩ := hY.arg 1
  obtain ⟨b1, b2⟩ := hY.arg 2
  have hbb := bN_lt b
  refine AC.ofW (by decide) (Nat.le_of_ble_eq_true rfl) ?_
  intro E P hP Y X
  have X : aw_X G "RescanDeskModel" b_Mo_define 5 none "define" _ _ _ _ _ E := X
  refine AW.eql (lv' := [(0, _), (1, _)]) (by rfl) ?_
  have hf : fr 418 442 w w := fr.refl _ _ _
  refine aw_aload_nR (pc := 0) X d_Mo_define_0 (by rfl) ?_
  refine aw_iconstN (pc := 1) X 1 d_Mo_define_1 (by decide) ?_
  -- invokevirtual 2 lv=0:r,1:n st=n,r
  refine aw_callV (pc := 2) X _ (s_Mo_isName (d := 2) hnx (by omega) (by omega) hY hM) q_Mo_isName k_1087 k_1089 k_46 (by omega) hM.1 (by rfl) d_Mo_define_2 (by omega) (Nat.le_of_ble_eq_true rfl) ⟨by omega, by omega⟩ (fun h => by cases h) (fun r w nx hp => ?_)
  obtain ⟨rfl, rfl, rfl⟩ := hp
  have hbn := bN_lt (isNm (argOf ar 1))
  refine aw_if_neN (pc := 5) X (tgt := 9) d_Mo_define_5 (by rfl) (by omega) (fun h5 => ?_) (fun h5 => ?_)
  -- br 5 lv=0:r,1:n st=
  · have hnm := bN_ne.mp h5
    refine aw_aload_nR (pc := 9) X d_Mo_define_9 (by rfl) ?_
    refine aw_aload_nR (pc := 10) X d_Mo_define_10 (by rfl) ?_
    refine gm_22 (pc := 11) X hM (by omega) d_Mo_define_11 ?_
    refine aw_aload_nR (pc := 14) X d_Mo_define_14 (by rfl) ?_
    refine aw_iconstN (pc := 15) X 1 d_Mo_define_15 (by decide) ?_
    -- invokevirtual 16 lv=0:r,1:n st=n,r,a435,r
    refine aw_callV (pc := 16) X _ (s_Mo_from (d := 1) hnx (by omega) (by omega) hY hM) q_Mo_from k_1075 k_1077 k_43 (by omega) hM.1 (by rfl) d_Mo_define_16 (by omega) (Nat.le_of_ble_eq_true rfl) ⟨by omega, by omega⟩ (fun h => by cases h) (fun r w nx hp => ?_)
    obtain ⟨rfl, rfl, rfl⟩ := hp
    refine aw_aload_nR (pc := 19) X d_Mo_define_19 (by rfl) ?_
    refine aw_iconstN (pc := 20) X 1 d_Mo_define_20 (by decide) ?_
    -- invokevirtual 21 lv=0:r,1:n st=n,r,n,a435,r
    refine aw_callV (pc := 21) X _ (s_Mo_length (d := 1) hnx (by omega) (by omega) hY hM) q_Mo_length k_1071 k_1073 k_42 (by omega) hM.1 (by rfl) d_Mo_define_21 (by omega) (Nat.le_of_ble_eq_true rfl) ⟨by omega, by omega⟩ (fun h => by cases h) (fun r w nx hp => ?_)
    obtain ⟨rfl, rfl, rfl⟩ := hp
    refine aw_callV (pc := 24) X _ (s_Mo_find (d := 1) (l := 400) (u := mfr A 1) (n := (argOf ar 1).length) (T := T) hnx (by omega) (by omega) (by omega) (by omega) hM.b435 hT hM.a435 hM) q_Mo_find k_1033 k_1035 k_33 (by omega) hM.1 (by rfl) d_Mo_define_24 (by omega) (Nat.le_of_ble_eq_true rfl) ⟨by omega, by omega⟩ (fun h => by cases h) (fun r w nx hp => ?_)
    obtain ⟨rfl, rfl, rfl⟩ := hp
    rw [← a1]
    have hlt : ∀ k, tfind T (argOf ar 1) = some k → k < T.length := fun k hk => tfd_lt hk
    -- the body is copied, and that is all
    have J155 : ∀ (dd : Nat) (T' : List Def), dd < 60 → (argOf ar 1).length ≤ 12 → (argOf ar 2).length ≤ 100 → ∀ w1 m1 A1, hMo G w1 p m1 A1 V → fr 418 442 w w1 → (∀ k, k ≠ 5 → k ≠ 28 → m1 k = m k) → (∀ a, a < 421 ∨ 425 < a → A1 a = A a) → m1 28 = (defS T ar b).1 → A1 422 dd = (argOf ar 1).length → argOf ar 1 = sl (A1 421) (12 * dd) (argOf ar 1).length → (∀ b1 b2 b3 b4 b5, dR (b2 dd) b1 (12 * dd) (b3 dd) (b5 dd) b4 (100 * dd) (argOf ar 1, 0, argOf ar 2) → (∀ x t, x ≠ dd → T[x]? = some t → dR (A1 422 x) (A1 421) (12 * x) (A1 423 x) (A1 425 x) (A1 424) (100 * x) t → dR (b2 x) b1 (12 * x) (b3 x) (b5 x) b4 (100 * x) t) → RT (m1 5) b1 b2 b3 b4 b5 (defS T ar b).2) → AW G E 5 nx 0 0 w1 155 [(2, .int (nI dd)), (0, rf G 418)] [] := by
      intro dd T' hdd hl1 hl2 w1 m1 A1 hM hf hm1 hA1 he1 hn1 hn2 hfin
      have KB : ∀ (j i : Nat), i + j = (argOf ar 2).length → ∀ w2 A2, hMo G w2 p m1 A2 V → fr 418 442 w w2 → (∀ x, x ≠ 423 → x ≠ 424 → A2 x = A1 x) → A2 423 = aw_un (A1 423) dd 0 → A2 424 = aw_cpn (A 435) (A1 424) (mfr A 2) (100 * dd) i → AW G E 5 nx 0 0 w2 165 [(4, .int (nI i)), (2, .int (nI dd)), (0, rf G 418)] [] := by
        intro j
        induction j with
        | zero =>
          intro i hi w2 A2 hM hf h1 h2 h3
          have hY2 : RY A2 t ar := hY.kp (fun a ha hb => (h1 a (by omega) (by omega)).trans (hA1 a (by omega)))
          refine aw_iload (pc := 165) X d_Mo_define_165 (by rfl) ?_
          refine aw_aload_nR (pc := 167) X d_Mo_define_167 (by rfl) ?_
          refine aw_iconstN (pc := 168) X 2 d_Mo_define_168 (by decide) ?_
          -- invokevirtual 169 lv=4:n,2:n,0:r st=n,r,n
          refine aw_callV (pc := 169) X _ (s_Mo_length (d := 1) hnx (by omega) (by omega) hY2 hM) q_Mo_length k_1071 k_1073 k_42 (by omega) hM.1 (by rfl) d_Mo_define_169 (by omega) (Nat.le_of_ble_eq_true rfl) ⟨by omega, by omega⟩ (fun h => by cases h) (fun r w nx hp => ?_)
          obtain ⟨rfl, rfl, rfl⟩ := hp
          refine aw_icmp_geN (pc := 172) X (tgt := 206) d_Mo_define_172 (by rfl) (by omega) (by omega) (fun h172 => ?_) (fun h172 => ?_)
          -- br 172 lv=4:n,2:n,0:r st=
          · refine aw_aload_nR (pc := 206) X d_Mo_define_206 (by rfl) ?_
            refine gm_10 (pc := 207) X hM (by omega) d_Mo_define_207 ?_
            refine aw_iload_n (pc := 210) X d_Mo_define_210 (by rfl) ?_
            refine aw_aload_nR (pc := 211) X d_Mo_define_211 (by rfl) ?_
            refine aw_iconstN (pc := 212) X 2 d_Mo_define_212 (by decide) ?_
            -- invokevirtual 213 lv=4:n,2:n,0:r st=n,r,n,a425
            refine aw_callV (pc := 213) X _ (s_Mo_length (d := 1) hnx (by omega) (by omega) hY2 hM) q_Mo_length k_1071 k_1073 k_42 (by omega) hM.1 (by rfl) d_Mo_define_213 (by omega) (Nat.le_of_ble_eq_true rfl) ⟨by omega, by omega⟩ (fun h => by cases h) (fun r w nx hp => ?_)
            obtain ⟨rfl, rfl, rfl⟩ := hp
            refine sm_425 (pc := 216) X hM hf (by omega) (by omega) d_Mo_define_216 (fun w hM hf => ?_)
            refine aw_vret Y X rfl d_Mo_define_217 (by omega) (by omega) (hP _ _ _ ?_)
            -- ret 217 lv=4:n,2:n,0:r st=
            refine ⟨rfl, hf, _, _, _, _, hM, rfl, rfl, rfl, hm1, fun a ha => ?_, he1, ?_⟩
            · exact (if_neg (by omega)).trans ((h1 a (by omega) (by omega)).trans (hA1 a ha))
            · refine hfin _ _ _ _ _ ?_ ?_
              · refine ⟨?_, hl1, ?_, ?_, Nat.zero_le _, ?_, hl2, ?_, hnm⟩
                · show A2 422 dd = _
                  rw [h1 422 (by decide) (by decide)]; exact hn1
                · show argOf ar 1 = sl (A2 421) _ _
                  rw [h1 421 (by decide) (by decide)]; exact hn2
                · show A2 423 dd = 0
                  rw [h2, aw_un_eq]
                · show aw_un (A2 425) dd (argOf ar 2).length dd = _
                  rw [aw_un_eq]
                · show argOf ar 2 = sl (A2 424) _ _
                  refine b1.trans (sl_congr fun x hx => ?_)
                  rw [h3, cpn_in _ _ _ _ _ (by omega)]
              · intro x tx hx htx hdx
                have hx60 := (List.getElem?_eq_some_iff.mp htx).1
                refine hdx.congr ?_ ?_ ?_ (fun j hj => ?_) (fun j hj => ?_)
                · show A2 422 x = _
                  rw [h1 422 (by decide) (by decide)]
                · show A2 423 x = _
                  rw [h2, aw_un_ne _ _ hx]
                · show aw_un (A2 425) dd _ x = _
                  rw [aw_un_ne _ _ hx, h1 425 (by decide) (by decide)]
                · show A2 421 _ = _
                  rw [h1 421 (by decide) (by decide)]
                · show A2 424 _ = _
                  rw [h3, cpn_out _ _ _ _ _ (by omega)]
          · omega
        | succ j ih =>
          intro i hi w2 A2 hM hf h1 h2 h3
          have hY2 : RY A2 t ar := hY.kp (fun a ha hb => (h1 a (by omega) (by omega)).trans (hA1 a (by omega)))
          have e435 : A2 435 = A 435 := (h1 435 (by decide) (by decide)).trans (hA1 435 (by omega))
          have emf : mfr A2 2 = mfr A 2 := by
            unfold mfr
            rw [(h1 431 (by decide) (by decide)).trans (hA1 431 (by omega)), (h1 432 (by decide) (by decide)).trans (hA1 432 (by omega))]
          refine aw_iload (pc := 165) X d_Mo_define_165 (by rfl) ?_
          refine aw_aload_nR (pc := 167) X d_Mo_define_167 (by rfl) ?_
          refine aw_iconstN (pc := 168) X 2 d_Mo_define_168 (by decide) ?_
          -- invokevirtual 169 lv=4:n,2:n,0:r st=n,r,n
          refine aw_callV (pc := 169) X _ (s_Mo_length (d := 1) hnx (by omega) (by omega) hY2 hM) q_Mo_length k_1071 k_1073 k_42 (by omega) hM.1 (by rfl) d_Mo_define_169 (by omega) (Nat.le_of_ble_eq_true rfl) ⟨by omega, by omega⟩ (fun h => by cases h) (fun r w nx hp => ?_)
          obtain ⟨rfl, rfl, rfl⟩ := hp
          refine aw_icmp_geN (pc := 172) X (tgt := 206) d_Mo_define_172 (by rfl) (by omega) (by omega) (fun h172 => ?_) (fun h172 => ?_)
          -- br 172 lv=4:n,2:n,0:r st=
          · omega
          · refine aw_aload_nR (pc := 175) X d_Mo_define_175 (by rfl) ?_
            refine gm_9 (pc := 176) X hM (by omega) d_Mo_define_176 ?_
            refine aw_bipushN (pc := 179) X 100 d_Mo_define_179 (by decide) ?_
            refine aw_iload_n (pc := 181) X d_Mo_define_181 (by rfl) ?_
            refine aw_imulN (pc := 182) X d_Mo_define_182 ?_
            refine aw_iload (pc := 183) X d_Mo_define_183 (by rfl) ?_
            refine aw_iaddN (pc := 185) X d_Mo_define_185 ?_
            refine aw_aload_nR (pc := 186) X d_Mo_define_186 (by rfl) ?_
            refine gm_22 (pc := 187) X hM (by omega) d_Mo_define_187 ?_
            refine aw_aload_nR (pc := 190) X d_Mo_define_190 (by rfl) ?_
            refine aw_iconstN (pc := 191) X 2 d_Mo_define_191 (by decide) ?_
            -- invokevirtual 192 lv=4:n,2:n,0:r st=n,r,a435,n,a424
            refine aw_callV (pc := 192) X _ (s_Mo_from (d := 1) hnx (by omega) (by omega) hY2 hM) q_Mo_from k_1075 k_1077 k_43 (by omega) hM.1 (by rfl) d_Mo_define_192 (by omega) (Nat.le_of_ble_eq_true rfl) ⟨by omega, by omega⟩ (fun h => by cases h) (fun r w nx hp => ?_)
            obtain ⟨rfl, rfl, rfl⟩ := hp
            rw [emf]
            refine aw_iload (pc := 195) X d_Mo_define_195 (by rfl) ?_
            refine aw_iaddN (pc := 197) X d_Mo_define_197 ?_
            refine aw_caldN (pc := 198) X 435 0 (by omega) hM.a435 (by rfl) (by omega) (by decide) d_Mo_define_198 ?_
            try simp only [mu, au, reduceIte, Nat.reduceEqDiff]
            refine sm_424 (pc := 199) X hM hf (by omega) (by omega) (by first | omega | exact hM.b435 _ | exact hM.b420 _ | exact hM.b421 _ | exact hM.b424 _ | exact hM.b426 _ | exact hM.b429 _ | exact hM.b436 _ | exact hM.b438 _ | exact hM.b419 _ | exact hM.b441 _) d_Mo_define_199 (fun w hM hf => ?_)
            refine aw_iincN (pc := 200) X 1 (lv' := [(4, _), (2, _), (0, _)]) d_Mo_define_200 (by rfl) (by decide) (by decide) (by rfl) ?_
            refine aw_goto (pc := 203) X (tgt := 165) d_Mo_define_203 (by rfl) ?_
            -- stop 165 lv=4:n,2:n,0:r st=
            refine ih (i + 1) (by omega) _ _ hM hf (fun x hx hx2 => (if_neg hx2).trans (h1 x hx hx2)) h2 ?_
            show aw_un (A2 424) (100 * dd + i) (A2 435 (mfr A 2 + i)) = _
            rw [h3, e435, cpn_succ]
      refine aw_aload_nR (pc := 155) X d_Mo_define_155 (by rfl) ?_
      refine gm_8 (pc := 156) X hM (by omega) d_Mo_define_156 ?_
      refine aw_iload_n (pc := 159) X d_Mo_define_159 (by rfl) ?_
      refine aw_iconstN (pc := 160) X 0 d_Mo_define_160 (by decide) ?_
      refine sm_423 (pc := 161) X hM hf (by omega) (by omega) d_Mo_define_161 (fun w hM hf => ?_)
      refine aw_iconstN (pc := 162) X 0 d_Mo_define_162 (by decide) ?_
      refine aw_istore (pc := 163) X (lv' := [(4, _), (2, _), (0, _)]) d_Mo_define_163 (by decide) (by rfl) ?_
      -- stop 165 lv=4:n,2:n,0:r st=
      exact KB _ 0 (Nat.zero_add _) _ _ hM hf (fun x hx hx2 => if_neg hx) rfl (by rw [cpn_0]; rfl)
    -- no room
    have J75 : (defS T ar b) = (2, T) → ∀ x y, AW G E 5 nx 0 0 w 75 [(3, .int (nI y)), (2, .int x), (0, rf G 418), (1, .int (nI (bN b)))] [] := by
      intro hS x y
      refine aw_aload_nR (pc := 75) X d_Mo_define_75 (by rfl) ?_
      refine aw_iconstN (pc := 76) X 2 d_Mo_define_76 (by decide) ?_
      -- invokevirtual 77 lv=3:n,2:i,0:r,1:n st=n,r
      refine aw_callV (pc := 77) X _ (s_Mo_stop (d := 0) (e := 2) hnx (by omega) hM) q_Mo_stop k_1003 k_1005 k_27 (by omega) hM.1 (by rfl) d_Mo_define_77 (by omega) (Nat.le_of_ble_eq_true rfl) ⟨by omega, by omega⟩ (fun h => by cases h) (fun r w nx hp => ?_)
      clear hM
      obtain ⟨rfl, hf1, p, m, A, V, hM, hq⟩ := hp
      replace hf := hf.trans hf1
      obtain ⟨rfl, hpp, haa, hvv, hmm⟩ := hq
      rw [hpp, haa, hvv, hmm] at hM
      rw [if_pos e28] at hM
      refine aw_vret Y X rfl d_Mo_define_80 (by omega) (by omega) (hP _ _ _ ?_)
      -- ret 80 lv=3:n,2:i,0:r,1:n st=
      rw [hS]
      exact ⟨rfl, hf, _, _, _, _, hM, rfl, rfl, rfl, fun k h1 h2 => if_neg h2, fun a h => rfl, rfl, hT⟩
    have J41 : ∀ ad, ad < 2 → (ad = 1 ↔ (b = true ∨ tfind T (argOf ar 1) = none)) → AW G E 5 nx 0 0 w 41 [(2, .int (pV (tfind T (argOf ar 1)))), (0, rf G 418), (1, .int (nI (bN b)))] [.int (nI ad)] := by
      intro ad had hiff
      refine aw_istore_n (pc := 41) X (lv' := [(3, _), (2, _), (0, _), (1, _)]) d_Mo_define_41 (by decide) (by rfl) ?_
      refine aw_aload_nR (pc := 42) X d_Mo_define_42 (by rfl) ?_
      refine aw_iconstN (pc := 43) X 1 d_Mo_define_43 (by decide) ?_
      -- invokevirtual 44 lv=3:n,2:i,0:r,1:n st=n,r
      refine aw_callV (pc := 44) X _ (s_Mo_length (d := 1) hnx (by omega) (by omega) hY hM) q_Mo_length k_1071 k_1073 k_42 (by omega) hM.1 (by rfl) d_Mo_define_44 (by omega) (Nat.le_of_ble_eq_true rfl) ⟨by omega, by omega⟩ (fun h => by cases h) (fun r w nx hp => ?_)
      obtain ⟨rfl, rfl, rfl⟩ := hp
      refine aw_bipushN (pc := 47) X 12 d_Mo_define_47 (by decide) ?_
      refine aw_icmp_gtN (pc := 49) X (tgt := 75) d_Mo_define_49 (by rfl) (by omega) (by omega) (fun h49 => ?_) (fun h49 => ?_)
      -- br 49 lv=3:n,2:i,0:r,1:n st=
      · exact J75 (by rw [defS, if_neg (by rw [hnm]; simp), if_pos (Or.inl h49)]) _ _
      · refine aw_aload_nR (pc := 52) X d_Mo_define_52 (by rfl) ?_
        refine aw_iconstN (pc := 53) X 2 d_Mo_define_53 (by decide) ?_
        -- invokevirtual 54 lv=3:n,2:i,0:r,1:n st=n,r
        refine aw_callV (pc := 54) X _ (s_Mo_length (d := 1) hnx (by omega) (by omega) hY hM) q_Mo_length k_1071 k_1073 k_42 (by omega) hM.1 (by rfl) d_Mo_define_54 (by omega) (Nat.le_of_ble_eq_true rfl) ⟨by omega, by omega⟩ (fun h => by cases h) (fun r w nx hp => ?_)
        obtain ⟨rfl, rfl, rfl⟩ := hp
        refine aw_bipushN (pc := 57) X 100 d_Mo_define_57 (by decide) ?_
        refine aw_icmp_gtN (pc := 59) X (tgt := 75) d_Mo_define_59 (by rfl) (by omega) (by omega) (fun h59 => ?_) (fun h59 => ?_)
        -- br 59 lv=3:n,2:i,0:r,1:n st=
        · exact J75 (by rw [defS, if_neg (by rw [hnm]; simp), if_pos (Or.inr h59)]) _ _
        · have hS : defS T ar b = defB T ar (if b = true then none else tfind T (argOf ar 1)) := by rw [defS, if_neg (by rw [hnm]; simp), if_neg (by omega)]
          have J81 : (ad = 1 → T.length < 60) → AW G E 5 nx 0 0 w 81 [(3, .int (nI ad)), (2, .int (pV (tfind T (argOf ar 1)))), (0, rf G 418), (1, .int (nI (bN b)))] [] := by
            intro hroom
            refine aw_iload_n (pc := 81) X d_Mo_define_81 (by rfl) ?_
            refine aw_if_eqN (pc := 82) X (tgt := 155) d_Mo_define_82 (by rfl) (by omega) (fun h82 => ?_) (fun h82 => ?_)
            -- br 82 lv=3:n,2:i,0:r,1:n st=
            · have hna : ¬ (b = true ∨ tfind T (argOf ar 1) = none) := fun z => by have := hiff.mpr z; omega
              have hbf : ¬ b = true := fun z => hna (Or.inl z)
              obtain ⟨i, hi⟩ := Option.ne_none_iff_exists'.mp (fun z => hna (Or.inr z))
              have hil := hlt i hi
              rw [if_neg hbf, hi, defB] at hS
              have hti : T[i]? = some T[i] := List.getElem?_eq_getElem hil
              have hnmi : T[i].1 = argOf ar 1 := by
                have := tfd_name hi
                rw [hti] at this
                simpa using this
              obtain ⟨d1, d2, d3, -⟩ := t3 i _ hti
              rw [hnmi] at d1 d2 d3
              rw [hi, pV_some]
              refine AW.lsub [1, 2] (by rfl) ?_
              refine J155 i T (by omega) (by omega) (by omega) _ _ _ hM hf (fun _ _ _ => rfl) (fun _ _ => rfl) (by rw [hS]; exact e28) d1 d3 (fun c1 c2 c3 c4 c5 hd1 hd2 => ?_)
              rw [hS]
              exact hT.set hd1 (fun x tx hx htx => hd2 x tx hx htx (t3 x tx htx))
            · have had1 : ad = 1 := by omega
              have hl60 := hroom had1
              have hS2 : defS T ar b = (0, T ++ [(argOf ar 1, 0, argOf ar 2)]) := by
                rw [hS]
                have : (if b = true then none else tfind T (argOf ar 1)) = none := by
                  split
                  · rfl
                  · rename_i hb
                    exact (hiff.mp had1).resolve_left hb
                rw [this, defB, if_neg (by omega)]
              have KN : ∀ (j i : Nat), i + j = (argOf ar 1).length → ∀ w2 A2, hMo G w2 p (mu m 5 (m 5 + 1)) A2 V → fr 418 442 w w2 → (∀ x, x ≠ 421 → A2 x = A x) → A2 421 = aw_cpn (A 435) (A 421) (mfr A 1) (12 * T.length) i → AW G E 5 nx 0 0 w2 103 [(4, .int (nI i)), (2, .int (nI T.length)), (3, .int (nI ad)), (0, rf G 418), (1, .int (nI (bN b)))] [] := by
                intro j
                induction j with
                | zero =>
                  intro i hi w2 A2 hM hf h1 h2
                  have hY2 : RY A2 t ar := hY.kp (fun a ha hb => h1 a (by omega))
                  refine aw_iload (pc := 103) X d_Mo_define_103 (by rfl) ?_
                  refine aw_aload_nR (pc := 105) X d_Mo_define_105 (by rfl) ?_
                  refine aw_iconstN (pc := 106) X 1 d_Mo_define_106 (by decide) ?_
                  -- invokevirtual 107 lv=4:n,2:n,3:n,0:r,1:n st=n,r,n
                  refine aw_callV (pc := 107) X _ (s_Mo_length (d := 1) hnx (by omega) (by omega) hY2 hM) q_Mo_length k_1071 k_1073 k_42 (by omega) hM.1 (by rfl) d_Mo_define_107 (by omega) (Nat.le_of_ble_eq_true rfl) ⟨by omega, by omega⟩ (fun h => by cases h) (fun r w nx hp => ?_)
                  obtain ⟨rfl, rfl, rfl⟩ := hp
                  refine aw_icmp_geN (pc := 110) X (tgt := 144) d_Mo_define_110 (by rfl) (by omega) (by omega) (fun h110 => ?_) (fun h110 => ?_)
                  -- br 110 lv=4:n,2:n,3:n,0:r,1:n st=
                  · refine aw_aload_nR (pc := 144) X d_Mo_define_144 (by rfl) ?_
                    refine gm_7 (pc := 145) X hM (by omega) d_Mo_define_145 ?_
                    refine aw_iload_n (pc := 148) X d_Mo_define_148 (by rfl) ?_
                    refine aw_aload_nR (pc := 149) X d_Mo_define_149 (by rfl) ?_
                    refine aw_iconstN (pc := 150) X 1 d_Mo_define_150 (by decide) ?_
                    -- invokevirtual 151 lv=4:n,2:n,3:n,0:r,1:n st=n,r,n,a422
                    refine aw_callV (pc := 151) X _ (s_Mo_length (d := 1) hnx (by omega) (by omega) hY2 hM) q_Mo_length k_1071 k_1073 k_42 (by omega) hM.1 (by rfl) d_Mo_define_151 (by omega) (Nat.le_of_ble_eq_true rfl) ⟨by omega, by omega⟩ (fun h => by cases h) (fun r w nx hp => ?_)
                    obtain ⟨rfl, rfl, rfl⟩ := hp
                    refine sm_422 (pc := 154) X hM hf (by omega) (by omega) d_Mo_define_154 (fun w hM hf => ?_)
                    -- stop 155 lv=4:n,2:n,3:n,0:r,1:n st=
                    refine AW.lsub [1, 3] (by rfl) ?_
                    refine J155 T.length T (by omega) (by omega) (by omega) _ _ _ hM hf (fun k h5 h28 => if_neg h5) (fun a ha => (if_neg (by omega)).trans (h1 a (by omega))) (by rw [hS2]; exact e28) (by show aw_un (A2 422) T.length _ T.length = _; rw [aw_un_eq]) ?_ (fun c1 c2 c3 c4 c5 hd1 hd2 => ?_)
                    · show argOf ar 1 = sl (A2 421) _ _
                      refine a1.trans (sl_congr fun x hx => ?_)
                      rw [h2, cpn_in _ _ _ _ _ (by omega)]
                    · rw [hS2]
                      refine hT.app hl60 hd1 (fun x tx hx htx => hd2 x tx hx htx ?_)
                      have hx60 := (List.getElem?_eq_some_iff.mp htx).1
                      refine (t3 x tx htx).congr ?_ ?_ ?_ (fun j hj => ?_) (fun j hj => ?_)
                      · show aw_un (A2 422) T.length _ x = _
                        rw [aw_un_ne _ _ hx, h1 422 (by decide)]
                      · show A2 423 x = _
                        rw [h1 423 (by decide)]
                      · show A2 425 x = _
                        rw [h1 425 (by decide)]
                      · show A2 421 _ = _
                        rw [h2, cpn_out _ _ _ _ _ (by omega)]
                      · show A2 424 _ = _
                        rw [h1 424 (by decide)]
                  · omega
                | succ j ih =>
                  intro i hi w2 A2 hM hf h1 h2
                  have hY2 : RY A2 t ar := hY.kp (fun a ha hb => h1 a (by omega))
                  have e435 : A2 435 = A 435 := h1 435 (by decide)
                  have emf : mfr A2 1 = mfr A 1 := by
                    unfold mfr
                    rw [h1 431 (by decide), h1 432 (by decide)]
                  refine aw_iload (pc := 103) X d_Mo_define_103 (by rfl) ?_
                  refine aw_aload_nR (pc := 105) X d_Mo_define_105 (by rfl) ?_
                  refine aw_iconstN (pc := 106) X 1 d_Mo_define_106 (by decide) ?_
                  -- invokevirtual 107 lv=4:n,2:n,3:n,0:r,1:n st=n,r,n
                  refine aw_callV (pc := 107) X _ (s_Mo_length (d := 1) hnx (by omega) (by omega) hY2 hM) q_Mo_length k_1071 k_1073 k_42 (by omega) hM.1 (by rfl) d_Mo_define_107 (by omega) (Nat.le_of_ble_eq_true rfl) ⟨by omega, by omega⟩ (fun h => by cases h) (fun r w nx hp => ?_)
                  obtain ⟨rfl, rfl, rfl⟩ := hp
                  refine aw_icmp_geN (pc := 110) X (tgt := 144) d_Mo_define_110 (by rfl) (by omega) (by omega) (fun h110 => ?_) (fun h110 => ?_)
                  -- br 110 lv=4:n,2:n,3:n,0:r,1:n st=
                  · omega
                  · refine aw_aload_nR (pc := 113) X d_Mo_define_113 (by rfl) ?_
                    refine gm_6 (pc := 114) X hM (by omega) d_Mo_define_114 ?_
                    refine aw_bipushN (pc := 117) X 12 d_Mo_define_117 (by decide) ?_
                    refine aw_iload_n (pc := 119) X d_Mo_define_119 (by rfl) ?_
                    refine aw_imulN (pc := 120) X d_Mo_define_120 ?_
                    refine aw_iload (pc := 121) X d_Mo_define_121 (by rfl) ?_
                    refine aw_iaddN (pc := 123) X d_Mo_define_123 ?_
                    refine aw_aload_nR (pc := 124) X d_Mo_define_124 (by rfl) ?_
                    refine gm_22 (pc := 125) X hM (by omega) d_Mo_define_125 ?_
                    refine aw_aload_nR (pc := 128) X d_Mo_define_128 (by rfl) ?_
                    refine aw_iconstN (pc := 129) X 1 d_Mo_define_129 (by decide) ?_
                    -- invokevirtual 130 lv=4:n,2:n,3:n,0:r,1:n st=n,r,a435,n,a421
                    refine aw_callV (pc := 130) X _ (s_Mo_from (d := 1) hnx (by omega) (by omega) hY2 hM) q_Mo_from k_1075 k_1077 k_43 (by omega) hM.1 (by rfl) d_Mo_define_130 (by omega) (Nat.le_of_ble_eq_true rfl) ⟨by omega, by omega⟩ (fun h => by cases h) (fun r w nx hp => ?_)
                    obtain ⟨rfl, rfl, rfl⟩ := hp
                    rw [emf]
                    refine aw_iload (pc := 133) X d_Mo_define_133 (by rfl) ?_
                    refine aw_iaddN (pc := 135) X d_Mo_define_135 ?_
                    refine aw_caldN (pc := 136) X 435 0 (by omega) hM.a435 (by rfl) (by omega) (by decide) d_Mo_define_136 ?_
                    try simp only [mu, au, reduceIte, Nat.reduceEqDiff]
                    refine sm_421 (pc := 137) X hM hf (by omega) (by omega) (by first | omega | exact hM.b435 _ | exact hM.b420 _ | exact hM.b421 _ | exact hM.b424 _ | exact hM.b426 _ | exact hM.b429 _ | exact hM.b436 _ | exact hM.b438 _ | exact hM.b419 _ | exact hM.b441 _) d_Mo_define_137 (fun w hM hf => ?_)
                    refine aw_iincN (pc := 138) X 1 (lv' := [(4, _), (2, _), (3, _), (0, _), (1, _)]) d_Mo_define_138 (by rfl) (by decide) (by decide) (by rfl) ?_
                    refine aw_goto (pc := 141) X (tgt := 103) d_Mo_define_141 (by rfl) ?_
                    -- stop 103 lv=4:n,2:n,3:n,0:r,1:n st=
                    refine ih (i + 1) (by omega) _ _ hM hf (fun x hx => (if_neg hx).trans (h1 x hx)) ?_
                    show aw_un (A2 421) (12 * T.length + i) (A2 435 (mfr A 1 + i)) = _
                    rw [h2, e435, cpn_succ]
              refine aw_aload_nR (pc := 85) X d_Mo_define_85 (by rfl) ?_
              refine gm_5 (pc := 86) X hM (by omega) d_Mo_define_86 ?_
              try simp only [mu, au, reduceIte, Nat.reduceEqDiff]
              refine aw_istore_n (pc := 89) X (lv' := [(2, _), (3, _), (0, _), (1, _)]) d_Mo_define_89 (by decide) (by rfl) ?_
              refine aw_aload_nR (pc := 90) X d_Mo_define_90 (by rfl) ?_
              refine aw_dup (pc := 91) X d_Mo_define_91 (by rfl) ?_
              refine gm_5 (pc := 92) X hM (by omega) d_Mo_define_92 ?_
              try simp only [mu, au, reduceIte, Nat.reduceEqDiff]
              refine aw_iconstN (pc := 95) X 1 d_Mo_define_95 (by decide) ?_
              refine aw_iaddN (pc := 96) X d_Mo_define_96 ?_
              refine pm_5 (pc := 97) X hM hf (by omega) d_Mo_define_97 (fun w hM hf => ?_)
              refine aw_iconstN (pc := 100) X 0 d_Mo_define_100 (by decide) ?_
              refine aw_istore (pc := 101) X (lv' := [(4, _), (2, _), (3, _), (0, _), (1, _)]) d_Mo_define_101 (by decide) (by rfl) ?_
              -- stop 103 lv=4:n,2:n,3:n,0:r,1:n st=
              rw [t1]
              exact KN _ 0 (Nat.zero_add _) _ _ hM hf (fun _ _ => rfl) (cpn_0 _ _ _ _).symm
          refine aw_iload_n (pc := 62) X d_Mo_define_62 (by rfl) ?_
          refine aw_if_eqN (pc := 63) X (tgt := 81) d_Mo_define_63 (by rfl) (by omega) (fun h63 => ?_) (fun h63 => ?_)
          -- br 63 lv=3:n,2:i,0:r,1:n st=
          · exact J81 (fun z => by omega)
          · refine aw_aload_nR (pc := 66) X d_Mo_define_66 (by rfl) ?_
            refine gm_5 (pc := 67) X hM (by omega) d_Mo_define_67 ?_
            try simp only [mu, au, reduceIte, Nat.reduceEqDiff]
            refine aw_bipushN (pc := 70) X 60 d_Mo_define_70 (by decide) ?_
            refine aw_icmp_neN (pc := 72) X (tgt := 81) d_Mo_define_72 (by rfl) (by omega) (by omega) (fun h72 => ?_) (fun h72 => ?_)
            -- br 72 lv=3:n,2:i,0:r,1:n st=
            · exact J81 (fun _ => by omega)
            · refine J75 ?_ _ _
              have : (if b = true then none else tfind T (argOf ar 1)) = none := by
                split
                · rfl
                · rename_i hb
                  exact (hiff.mp (by omega)).resolve_left hb
              rw [hS, this, defB, if_pos (by omega)]
    refine aw_istore_n (pc := 27) X (lv' := [(2, _), (0, _), (1, _)]) d_Mo_define_27 (by decide) (by rfl) ?_
    refine aw_iload_n (pc := 28) X d_Mo_define_28 (by rfl) ?_
    refine aw_if_neN (pc := 29) X (tgt := 36) d_Mo_define_29 (by rfl) (by omega) (fun h29 => ?_) (fun h29 => ?_)
    -- br 29 lv=2:i,0:r,1:n st=
    · have hb1 := bN_ne.mp h29
      refine aw_iconstN (pc := 36) X 1 d_Mo_define_36 (by decide) ?_
      refine aw_goto (pc := 37) X (tgt := 41) d_Mo_define_37 (by rfl) ?_
      -- stop 41 lv=2:i,0:r,1:n st=n
      exact J41 1 (by omega) ⟨fun _ => Or.inl hb1, fun _ => rfl⟩
    · have hb0 := bN_eq.mp h29
      cases ho : tfind T (argOf ar 1) with
      | none =>
        refine aw_iload_n (pc := 32) X d_Mo_define_32 (by rfl) ?_
        refine aw_if_ge (pc := 33) X (tgt := 40) d_Mo_define_33 (by rfl) (fun h33 => ?_) (fun h33 => ?_)
        -- br 33 lv=2:i,0:r,1:n st=
        · exact absurd (show pV none < 0 by decide) (Int32.not_lt.mpr h33)
        · rw [ho] at J41
          refine aw_iconstN (pc := 36) X 1 d_Mo_define_36 (by decide) ?_
          refine aw_goto (pc := 37) X (tgt := 41) d_Mo_define_37 (by rfl) ?_
          -- stop 41 lv=2:i,0:r,1:n st=n
          exact J41 1 (by omega) ⟨fun _ => Or.inr rfl, fun _ => rfl⟩
      | some i =>
        rw [ho] at J41
        have hi := hlt i ho
        refine aw_iload_n (pc := 32) X d_Mo_define_32 (by rfl) ?_
        refine aw_if_ge (pc := 33) X (tgt := 40) d_Mo_define_33 (by rfl) (fun h33 => ?_) (fun h33 => ?_)
        -- br 33 lv=2:i,0:r,1:n st=
        · refine aw_iconstN (pc := 40) X 0 d_Mo_define_40 (by decide) ?_
          -- stop 41 lv=2:i,0:r,1:n st=n
          exact J41 0 (by omega) ⟨fun z => by omega, fun z => by rcases z with z | z; rw [hb0] at z; cases z; cases z⟩
        · exact absurd (show (0 : Int32) ≤ pV (some i) by rw [pV_some]; exact (nILE (a := 0) (by omega) (by omega)).mpr (by omega)) h33
  · have hnm : isNm (argOf ar 1) = false := bN_eq.mp h5
    refine aw_vret Y X rfl d_Mo_define_8 (by omega) (by omega) (hP _ _ _ ?_)
    -- ret 8 lv=0:r,1:n st=
    rw [defS, if_pos hnm]
    exact ⟨rfl, hf, _, _, _, _, hM, rfl, rfl, rfl, fun _ _ _ => rfl, fun _ _ => rfl, e28, hT⟩
end

