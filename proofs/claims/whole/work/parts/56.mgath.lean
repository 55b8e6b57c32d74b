/-! the reference: gather -/
theorem okC.more {u : CS} {r : List CS} {n : Nat} {b : Bool} (h : okC (u :: r) n) (h9 : u.2.1.length ≤ 8) : okC ((u.1, u.2.1 ++ [n], u.2.2.1, b) :: r) n := by
  obtain ⟨⟨x, y, hxy, hr⟩, h2, h3, h4⟩ := h
  refine ⟨⟨x, y ++ [n], by show u.2.1 ++ [n] = _; rw [hxy]; rfl, hr⟩, by show (u.2.1 ++ [n]).length ≤ 9; simp; omega, ?_, ?_⟩
  · show (u.2.1 ++ [n]).Pairwise (· ≤ ·)
    rw [List.pairwise_append]
    exact ⟨h3, List.pairwise_singleton _ _, fun a ha b hb => by rw [List.mem_singleton.mp hb]; exact h4 a ha⟩
  · intro z hz
    rcases List.mem_append.mp hz with hz | hz
    · exact h4 z hz
    · rw [List.mem_singleton.mp hz]; exact Nat.le_refl _
section
variable {G : aw_G} {nx d : Nat} {w : Nat → va_E} {p : Int32} {m : Nat → Nat} {A : Nat → Nat → Nat} {V : Nat → Int64} {tx : List Nat} {σ : SQ} {st : Nat × Nat} {u : CS} {r : List CS}
theorem s_Mo_gather {c : Nat} {F' : List Nat} (hnx : 442 ≤ nx) (hd : 8 ≤ d) (e28 : m 28 = 0) (hc : c < 65536) (hF : σ.1.1 = c :: F') (hC : σ.2.2.1 = u :: r) (hdp : u.2.2.1 ≤ 9000) (hR : RM p m A tx σ st) (hM : hMo G w p m A V) : AC G y_Mo_gather b_Mo_gather 4 none d false [rf G 418, .int (nI c)] nx w 0 0 (mq G nx w (fun x p' m' A' V' => x = none ∧ RM p' m' A' tx (stpX (icS ((F', σ.1.2), σ.2) u r c)).2 st ∧ m' 28 = (stpX (icS ((F', σ.1.2), σ.2) u r c)).1)) := by
  have c2 := hR.2.1
  rw [hF] at c2
  have g3 : m 3 = F'.length + 1 := c2.1
  have g36 : F'.length + 1 ≤ 600 := c2.2.1
  have hR1 : RM p (mu m 3 (m 3 - 1)) A tx ((F', σ.1.2), σ.2) st := hR.fr (fun k h _ _ => if_neg h) (fun _ _ _ => rfl) c2.tail.1
  generalize hσ1 : ((F', σ.1.2), σ.2) = σ1 at hR1
  have hC1 : σ1.2.2.1 = u :: r := by rw [← hσ1]; exact hC
  have t1 : m 11 = r.length + 1 := by have := hR.2.2.2.1.1; rw [hC] at this; exact this
  refine AC.ofW (by decide) (Nat.le_of_ble_eq_true rfl) ?_
  intro E P hP Y X
  have X : aw_X G "RescanDeskModel" b_Mo_gather 4 none "gather" _ _ _ _ _ E := X
  refine AW.eql (lv' := [(0, _), (1, _)]) (by rfl) ?_
  have hf : fr 418 442 w w := fr.refl _ _ _
  have J : ∀ w1 m1, m1 28 = 0 → hMo G w1 p m1 A V → fr 418 442 w w1 → RM p m1 A tx σ1 st → AW G E 4 nx 0 0 w1 17 [(2, .int (nI r.length)), (0, rf G 418), (1, .int (nI c))] [] := by
    intro w1 m1 e28 hM hf hR1
    obtain ⟨c1, c2, c3, c4, ⟨a1, a2, a3, a4⟩, c6, c7, c8, c9⟩ := id hR1
    rw [hC1] at c4 a4
    have h9 := okC.len (n := 0) a4
    obtain ⟨s1, s2, ⟨td, tm, tb, tdp, tdp2, tsn⟩⟩ := c4.top
    have hu9 := a4.2.1
    have N142 : ¬ (c = 41 ∧ u.2.2.1 = 0) → ¬ (c = 44 ∧ u.2.2.1 = 0) → ¬ (isBlk c = true ∧ u.2.2.2 = false) → AW G E 4 nx 0 0 w1 142 [(3, .int (nI 0)), (2, .int (nI r.length)), (0, rf G 418), (1, .int (nI c))] [] := by
      intro n1 n2 n3
      have P : ∀ dp', dp' = (if c = 40 then u.2.2.1 + 1 else if c = 41 then u.2.2.1 - 1 else u.2.2.1) → AW G E 4 nx 0 0 w1 171 [(3, .int (nI 0)), (2, .int (nI r.length)), (0, rf G 418), (1, .int (nI c))] [.int (nI dp'), .int (nI r.length), rf G 433] := by
        intro dp' hdp'
        have hdpb : dp' ≤ 10000 := by rw [hdp']; split <;> (try split) <;> omega
        have hic : icS σ1 u r c = ((wrS (σ1.1, σ1.2.1, (u.1, u.2.1, dp', true) :: r, σ1.2.2.2) [c]).1, (wrS (σ1.1, σ1.2.1, (u.1, u.2.1, dp', true) :: r, σ1.2.2.2) [c]).2, none) := by
          rw [icS, if_neg n1, if_neg n2, if_neg n3, ← hdp']
        have hR2 : RM p m1 (au (au A 433 r.length dp') 434 r.length 1) tx (σ1.1, σ1.2.1, (u.1, u.2.1, dp', true) :: r, σ1.2.2.2) st := by
          refine ⟨c1, c2, c3, ?_, ⟨a1, a2, a3, ?_⟩, c6, c7, c8, c9⟩
          · refine c4.pop.put s1 s2 ⟨td, tm, tb, ?_, hdpb, ?_⟩ (fun i x hi hx hcx => ?_)
            · show aw_un (A 433) r.length dp' r.length = dp'
              rw [aw_un_eq]
            · show aw_un (A 434) r.length 1 r.length = 1
              rw [aw_un_eq]
            · obtain ⟨x1, x2, x3, x4, x5, x6⟩ := hcx
              refine ⟨x1, x2, x3, ?_, x5, ?_⟩
              · show aw_un (A 433) r.length dp' i = _
                rw [aw_un_ne _ _ (by omega)]; exact x4
              · show aw_un (A 434) r.length 1 i = _
                rw [aw_un_ne _ _ (by omega)]; exact x6
          · exact ⟨a4.1, a4.2.1, a4.2.2.1, a4.2.2.2⟩
        refine sm_433 (pc := 171) X hM hf (by omega) (by omega) d_Mo_gather_171 (fun w hM hf => ?_)
        refine aw_aload_nR (pc := 172) X d_Mo_gather_172 (by rfl) ?_
        refine gm_20 (pc := 173) X hM (by omega) d_Mo_gather_173 ?_
        refine aw_iload_n (pc := 176) X d_Mo_gather_176 (by rfl) ?_
        refine aw_iconstN (pc := 177) X 1 d_Mo_gather_177 (by decide) ?_
        refine sm_434 (pc := 178) X hM hf (by omega) (by omega) (by omega) d_Mo_gather_178 (fun w hM hf => ?_)
        refine aw_aload_nR (pc := 179) X d_Mo_gather_179 (by rfl) ?_
        refine aw_iload_n (pc := 180) X d_Mo_gather_180 (by rfl) ?_
        -- invokevirtual 181 lv=3:n,2:n,0:r,1:n st=n,r
        refine aw_callV (pc := 181) X _ (s_Mo_write (d := 1) hnx (by omega) hc (by omega) hR2 hM) q_Mo_write k_1019 k_1021 k_31 (by omega) hM.1 (by rfl) d_Mo_gather_181 (by omega) (Nat.le_of_ble_eq_true rfl) ⟨by omega, by omega⟩ (fun h => by cases h) (fun r w nx hp => ?_)
        clear hM
        obtain ⟨rfl, hf1, p, m, A, V, hM, hq⟩ := hp
        replace hf := hf.trans hf1
        obtain ⟨rfl, hR3, he3, -⟩ := hq
        rw [if_pos e28] at hR3 he3
        refine aw_vret Y X rfl d_Mo_gather_184 (by omega) (by omega) (hP _ _ _ ?_)
        -- ret 184 lv=3:n,2:n,0:r,1:n st=
        rw [hic, stpX_none]
        exact ⟨rfl, hf, _, _, _, _, hM, rfl, hR3, he3⟩
      have hdpv : A 433 r.length = u.2.2.1 := tdp
      refine aw_aload_nR (pc := 142) X d_Mo_gather_142 (by rfl) ?_
      refine gm_19 (pc := 143) X hM (by omega) d_Mo_gather_143 ?_
      refine aw_iload_n (pc := 146) X d_Mo_gather_146 (by rfl) ?_
      refine aw_dup2 (pc := 147) X d_Mo_gather_147 (by rfl) (by rfl) ?_
      refine aw_ialdN (pc := 148) X 433 1 (by omega) hM.a433 (by rfl) (by omega) (by decide) d_Mo_gather_148 ?_
      -- stop 149 lv=3:n,2:n,0:r,1:n st=n,n,a433
      rw [hdpv]
      refine aw_iload_n (pc := 149) X d_Mo_gather_149 (by rfl) ?_
      refine aw_bipushN (pc := 150) X 40 d_Mo_gather_150 (by decide) ?_
      refine aw_icmp_neN (pc := 152) X (tgt := 159) d_Mo_gather_152 (by rfl) (by omega) (by omega) (fun h152 => ?_) (fun h152 => ?_)
      -- br 152 lv=3:n,2:n,0:r,1:n st=n,n,a433
      · refine aw_iload_n (pc := 159) X d_Mo_gather_159 (by rfl) ?_
        refine aw_bipushN (pc := 160) X 41 d_Mo_gather_160 (by decide) ?_
        refine aw_icmp_neN (pc := 162) X (tgt := 169) d_Mo_gather_162 (by rfl) (by omega) (by omega) (fun h162 => ?_) (fun h162 => ?_)
        -- br 162 lv=3:n,2:n,0:r,1:n st=n,n,a433
        · refine aw_iconstN (pc := 169) X 0 d_Mo_gather_169 (by decide) ?_
          refine aw_iaddN (pc := 170) X d_Mo_gather_170 ?_
          -- stop 171 lv=3:n,2:n,0:r,1:n st=n,n,a433
          exact P _ (by rw [if_neg h152, if_neg h162]; rfl)
        · have hd1 : 1 ≤ u.2.2.1 := by omega
          obtain ⟨k, hk⟩ : ∃ k, u.2.2.1 = k + 1 := ⟨u.2.2.1 - 1, by omega⟩
          refine aw_iconst (pc := 165) X (v := -1) d_Mo_gather_165 (by decide) ?_
          refine aw_goto (pc := 166) X (tgt := 170) d_Mo_gather_166 (by rfl) ?_
          -- stop 170 lv=3:n,2:n,0:r,1:n st=i,n,n,a433
          refine aw_iadd (pc := 170) X d_Mo_gather_170 ?_
          rw [show nI u.2.2.1 + (-1 : Int32) = nI k from (dV_dec u.2.2.1).trans (by rw [hk]; rfl)]
          exact P _ (by rw [if_neg h152, if_pos h162]; omega)
      · refine aw_iconstN (pc := 155) X 1 d_Mo_gather_155 (by decide) ?_
        refine aw_goto (pc := 156) X (tgt := 170) d_Mo_gather_156 (by rfl) ?_
        refine aw_iaddN (pc := 170) X d_Mo_gather_170 ?_
        -- stop 171 lv=3:n,2:n,0:r,1:n st=n,n,a433
        exact P _ (by rw [if_pos h152])
    have N121 : ¬ (c = 41 ∧ u.2.2.1 = 0) → ¬ (c = 44 ∧ u.2.2.1 = 0) → AW G E 4 nx 0 0 w1 121 [(3, .int (nI 0)), (2, .int (nI r.length)), (0, rf G 418), (1, .int (nI c))] [] := by
      intro n1 n2
      have hsv : A 434 r.length = bN u.2.2.2 := tsn
      have hbb := bN_lt u.2.2.2
      have N133 : isBlk c = true → AW G E 4 nx 0 0 w1 133 [(3, .int (nI 0)), (2, .int (nI r.length)), (0, rf G 418), (1, .int (nI c))] [] := by
        intro hb
        refine aw_aload_nR (pc := 133) X d_Mo_gather_133 (by rfl) ?_
        refine gm_20 (pc := 134) X hM (by omega) d_Mo_gather_134 ?_
        refine aw_iload_n (pc := 137) X d_Mo_gather_137 (by rfl) ?_
        refine aw_zaldN (pc := 138) X 434 3 (by omega) hM.a434 (by rfl) (by omega) (by decide) d_Mo_gather_138 ?_
        refine aw_if_eqN (pc := 139) X (tgt := 184) d_Mo_gather_139 (by rfl) (by omega) (fun h139 => ?_) (fun h139 => ?_)
        -- br 139 lv=3:n,2:n,0:r,1:n st=
        · have hsf : u.2.2.2 = false := bN_eq.mp (by omega)
          refine aw_vret Y X rfl d_Mo_gather_184 (by omega) (by omega) (hP _ _ _ ?_)
          -- ret 184 lv=3:n,2:n,0:r,1:n st=
          have hic : icS σ1 u r c = (0, σ1, none) := by rw [icS, if_neg n1, if_neg n2, if_pos ⟨hb, hsf⟩]
          rw [hic, stpX_none]
          exact ⟨rfl, hf, _, _, _, _, hM, rfl, hR1, e28⟩
        · have hst : u.2.2.2 = true := bN_ne.mp (by omega)
          exact N142 n1 n2 (fun z => by rw [hst] at z; cases z.2)
      refine aw_iload_n (pc := 121) X d_Mo_gather_121 (by rfl) ?_
      refine aw_bipushN (pc := 122) X 32 d_Mo_gather_122 (by decide) ?_
      refine aw_icmp_eqN (pc := 124) X (tgt := 133) d_Mo_gather_124 (by rfl) (by omega) (by omega) (fun h124 => ?_) (fun h124 => ?_)
      -- br 124 lv=3:n,2:n,0:r,1:n st=
      · exact N133 (decide_eq_true (Or.inl h124))
      · refine aw_iload_n (pc := 127) X d_Mo_gather_127 (by rfl) ?_
        refine aw_bipushN (pc := 128) X 10 d_Mo_gather_128 (by decide) ?_
        refine aw_icmp_neN (pc := 130) X (tgt := 142) d_Mo_gather_130 (by rfl) (by omega) (by omega) (fun h130 => ?_) (fun h130 => ?_)
        -- br 130 lv=3:n,2:n,0:r,1:n st=
        · exact N142 n1 n2 (fun z => by rcases of_decide_eq_true z.1 with q | q; exact h124 q; exact h130 q)
        · exact N133 (decide_eq_true (Or.inr h130))
    have N49 : ¬ (c = 41 ∧ u.2.2.1 = 0) → AW G E 4 nx 0 0 w1 49 [(3, .int (nI 0)), (2, .int (nI r.length)), (0, rf G 418), (1, .int (nI c))] [] := by
      intro n1
      have hdpv : A 433 r.length = u.2.2.1 := tdp
      have hmv : A 431 r.length = u.2.1.length := tm
      refine aw_iload_n (pc := 49) X d_Mo_gather_49 (by rfl) ?_
      refine aw_bipushN (pc := 50) X 44 d_Mo_gather_50 (by decide) ?_
      refine aw_icmp_neN (pc := 52) X (tgt := 121) d_Mo_gather_52 (by rfl) (by omega) (by omega) (fun h52 => ?_) (fun h52 => ?_)
      -- br 52 lv=3:n,2:n,0:r,1:n st=
      · exact N121 n1 (fun z => h52 z.1)
      · refine aw_aload_nR (pc := 55) X d_Mo_gather_55 (by rfl) ?_
        refine gm_19 (pc := 56) X hM (by omega) d_Mo_gather_56 ?_
        refine aw_iload_n (pc := 59) X d_Mo_gather_59 (by rfl) ?_
        refine aw_ialdN (pc := 60) X 433 1 (by omega) hM.a433 (by rfl) (by omega) (by decide) d_Mo_gather_60 ?_
        refine aw_if_neN (pc := 61) X (tgt := 121) d_Mo_gather_61 (by rfl) (by omega) (fun h61 => ?_) (fun h61 => ?_)
        -- br 61 lv=3:n,2:n,0:r,1:n st=
        · exact N121 n1 (fun z => h61 (by omega))
        · have hz : c = 44 ∧ u.2.2.1 = 0 := ⟨h52, by omega⟩
          refine aw_aload_nR (pc := 64) X d_Mo_gather_64 (by rfl) ?_
          refine gm_17 (pc := 65) X hM (by omega) d_Mo_gather_65 ?_
          refine aw_iload_n (pc := 68) X d_Mo_gather_68 (by rfl) ?_
          refine aw_ialdN (pc := 69) X 431 1 (by omega) hM.a431 (by rfl) (by omega) (by decide) d_Mo_gather_69 ?_
          refine aw_bipushN (pc := 70) X 9 d_Mo_gather_70 (by decide) ?_
          refine aw_icmp_neN (pc := 72) X (tgt := 81) d_Mo_gather_72 (by rfl) (by omega) (by omega) (fun h72 => ?_) (fun h72 => ?_)
          -- br 72 lv=3:n,2:n,0:r,1:n st=
          · have h8 : u.2.1.length ≤ 8 := by omega
            have hic : icS σ1 u r c = (0, (σ1.1, σ1.2.1, (u.1, u.2.1 ++ [σ1.2.1.length], u.2.2.1, false) :: r, σ1.2.2.2), none) := by rw [icS, if_neg n1, if_pos hz, if_neg (by omega)]
            refine aw_aload_nR (pc := 81) X d_Mo_gather_81 (by rfl) ?_
            refine gm_18 (pc := 82) X hM (by omega) d_Mo_gather_82 ?_
            refine aw_bipushN (pc := 85) X 11 d_Mo_gather_85 (by decide) ?_
            refine aw_iload_n (pc := 87) X d_Mo_gather_87 (by rfl) ?_
            refine aw_imulN (pc := 88) X d_Mo_gather_88 ?_
            refine aw_aload_nR (pc := 89) X d_Mo_gather_89 (by rfl) ?_
            refine gm_17 (pc := 90) X hM (by omega) d_Mo_gather_90 ?_
            refine aw_iload_n (pc := 93) X d_Mo_gather_93 (by rfl) ?_
            refine aw_ialdN (pc := 94) X 431 1 (by omega) hM.a431 (by rfl) (by omega) (by decide) d_Mo_gather_94 ?_
            refine aw_iaddN (pc := 95) X d_Mo_gather_95 ?_
            refine aw_aload_nR (pc := 96) X d_Mo_gather_96 (by rfl) ?_
            refine gm_21 (pc := 97) X hM (by omega) d_Mo_gather_97 ?_
            refine sm_432 (pc := 100) X hM hf (by omega) (by omega) d_Mo_gather_100 (fun w hM hf => ?_)
            refine aw_aload_nR (pc := 101) X d_Mo_gather_101 (by rfl) ?_
            refine gm_17 (pc := 102) X hM (by omega) d_Mo_gather_102 ?_
            refine aw_iload_n (pc := 105) X d_Mo_gather_105 (by rfl) ?_
            refine aw_dup2 (pc := 106) X d_Mo_gather_106 (by rfl) (by rfl) ?_
            refine aw_ialdN (pc := 107) X 431 1 (by omega) hM.a431 (by rfl) (by omega) (by decide) d_Mo_gather_107 ?_
            try simp only [mu, au, reduceIte, Nat.reduceEqDiff]
            refine aw_iconstN (pc := 108) X 1 d_Mo_gather_108 (by decide) ?_
            refine aw_iaddN (pc := 109) X d_Mo_gather_109 ?_
            refine sm_431 (pc := 110) X hM hf (by omega) (by omega) d_Mo_gather_110 (fun w hM hf => ?_)
            refine aw_aload_nR (pc := 111) X d_Mo_gather_111 (by rfl) ?_
            refine gm_20 (pc := 112) X hM (by omega) d_Mo_gather_112 ?_
            refine aw_iload_n (pc := 115) X d_Mo_gather_115 (by rfl) ?_
            refine aw_iconstN (pc := 116) X 0 d_Mo_gather_116 (by decide) ?_
            refine sm_434 (pc := 117) X hM hf (by omega) (by omega) (by omega) d_Mo_gather_117 (fun w hM hf => ?_)
            refine aw_goto (pc := 118) X (tgt := 184) d_Mo_gather_118 (by rfl) ?_
            refine aw_vret Y X rfl d_Mo_gather_184 (by omega) (by omega) (hP _ _ _ ?_)
            -- ret 184 lv=3:n,2:n,0:r,1:n st=
            rw [hic, stpX_none]
            refine ⟨rfl, hf, _, _, _, _, hM, rfl, ⟨c1, c2, c3, ?_, ⟨a1, a2, a3, a4.more h8⟩, c6, c7, c8, c9⟩, e28⟩
            refine c4.pop.put s1 s2 ⟨td, ?_, fun k hk => ?_, tdp, tdp2, ?_⟩ (fun i x hi hx hcx => ?_)
            · show aw_un (A 431) r.length (A 431 r.length + 1) r.length = (u.2.1 ++ [σ1.2.1.length]).length
              rw [aw_un_eq, hmv]
              simp
            · have hk : k < u.2.1.length + 1 := by simpa using hk
              show aw_un (A 432) (11 * r.length + A 431 r.length) (m1 21) (11 * r.length + k) = (u.2.1 ++ [σ1.2.1.length]).getD k 0
              rw [hmv]
              by_cases e : k = u.2.1.length
              · subst e
                rw [aw_un_eq, a1]
                simp
              · rw [aw_un_ne _ _ (by omega), tb k (by omega), List.getD_eq_getElem?_getD, List.getD_eq_getElem?_getD, List.getElem?_append_left (by omega)]
            · show aw_un (A 434) r.length 0 r.length = 0
              rw [aw_un_eq]
            · obtain ⟨x1, x2, x3, x4, x5, x6⟩ := hcx
              have hx9 := h9 x (List.mem_cons_of_mem _ hx)
              refine ⟨x1, ?_, fun k hk => ?_, x4, x5, ?_⟩
              · show aw_un (A 431) r.length _ i = _
                rw [aw_un_ne _ _ (by omega)]; exact x2
              · show aw_un (A 432) (11 * r.length + A 431 r.length) (m1 21) (11 * i + k) = _
                rw [aw_un_ne _ _ (by omega)]; exact x3 k hk
              · show aw_un (A 434) r.length 0 i = _
                rw [aw_un_ne _ _ (by omega)]; exact x6
          · have hic : icS σ1 u r c = (2, σ1, none) := by rw [icS, if_neg n1, if_pos hz, if_pos (by omega)]
            refine aw_aload_nR (pc := 75) X d_Mo_gather_75 (by rfl) ?_
            refine aw_iconstN (pc := 76) X 2 d_Mo_gather_76 (by decide) ?_
            -- invokevirtual 77 lv=3:n,2:n,0:r,1:n st=n,r
            refine aw_callV (pc := 77) X _ (s_Mo_stop (d := 0) (e := 2) hnx (by omega) hM) q_Mo_stop k_1003 k_1005 k_27 (by omega) hM.1 (by rfl) d_Mo_gather_77 (by omega) (Nat.le_of_ble_eq_true rfl) ⟨by omega, by omega⟩ (fun h => by cases h) (fun r w nx hp => ?_)
            clear hM
            obtain ⟨rfl, hf1, p, m, A, V, hM, hq⟩ := hp
            replace hf := hf.trans hf1
            obtain ⟨rfl, hpp, haa, hvv, hmm⟩ := hq
            rw [if_pos e28] at hmm
            rw [hpp, haa, hvv, hmm] at hM
            refine aw_vret Y X rfl d_Mo_gather_80 (by omega) (by omega) (hP _ _ _ ?_)
            -- ret 80 lv=3:n,2:n,0:r,1:n st=
            rw [hic, stpX_none]
            exact ⟨rfl, hf, _, _, _, _, hM, rfl, hR1.kp (fun k _ h2 _ => if_neg h2) (fun _ _ => rfl), rfl⟩
    have N36 : ¬ (c = 41 ∧ u.2.2.1 = 0) → AW G E 4 nx 0 0 w1 36 [(2, .int (nI r.length)), (0, rf G 418), (1, .int (nI c))] [] := by
      intro n1
      refine aw_iconstN (pc := 36) X 0 d_Mo_gather_36 (by decide) ?_
      refine aw_istore_n (pc := 37) X (lv' := [(3, _), (2, _), (0, _), (1, _)]) d_Mo_gather_37 (by decide) (by rfl) ?_
      refine aw_iload_n (pc := 38) X d_Mo_gather_38 (by rfl) ?_
      refine aw_if_eqN (pc := 39) X (tgt := 49) d_Mo_gather_39 (by rfl) (by omega) (fun h39 => ?_) (fun h39 => ?_)
      -- br 39 lv=3:n,2:n,0:r,1:n st=
      · exact N49 n1
      · exact absurd rfl h39
    have hdpv : A 433 r.length = u.2.2.1 := tdp
    refine aw_iload_n (pc := 17) X d_Mo_gather_17 (by rfl) ?_
    refine aw_bipushN (pc := 18) X 41 d_Mo_gather_18 (by decide) ?_
    refine aw_icmp_neN (pc := 20) X (tgt := 36) d_Mo_gather_20 (by rfl) (by omega) (by omega) (fun h20 => ?_) (fun h20 => ?_)
    -- br 20 lv=2:n,0:r,1:n st=
    · exact N36 (fun z => h20 z.1)
    · refine aw_aload_nR (pc := 23) X d_Mo_gather_23 (by rfl) ?_
      refine gm_19 (pc := 24) X hM (by omega) d_Mo_gather_24 ?_
      refine aw_iload_n (pc := 27) X d_Mo_gather_27 (by rfl) ?_
      refine aw_ialdN (pc := 28) X 433 1 (by omega) hM.a433 (by rfl) (by omega) (by decide) d_Mo_gather_28 ?_
      refine aw_if_neN (pc := 29) X (tgt := 36) d_Mo_gather_29 (by rfl) (by omega) (fun h29 => ?_) (fun h29 => ?_)
      -- br 29 lv=2:n,0:r,1:n st=
      · exact N36 (fun z => h29 (by omega))
      · have hz : c = 41 ∧ u.2.2.1 = 0 := ⟨h20, by omega⟩
        refine aw_iconstN (pc := 32) X 1 d_Mo_gather_32 (by decide) ?_
        refine aw_goto (pc := 33) X (tgt := 37) d_Mo_gather_33 (by rfl) ?_
        refine aw_istore_n (pc := 37) X (lv' := [(3, _), (2, _), (0, _), (1, _)]) d_Mo_gather_37 (by decide) (by rfl) ?_
        refine aw_iload_n (pc := 38) X d_Mo_gather_38 (by rfl) ?_
        refine aw_if_eqN (pc := 39) X (tgt := 49) d_Mo_gather_39 (by rfl) (by omega) (fun h39 => ?_) (fun h39 => ?_)
        -- br 39 lv=3:n,2:n,0:r,1:n st=
        · exact absurd h39 (by decide)
        · refine aw_aload_nR (pc := 42) X d_Mo_gather_42 (by rfl) ?_
          -- invokevirtual 43 lv=3:n,2:n,0:r,1:n st=r
          refine aw_callV (pc := 43) X _ (s_Mo_close (d := 7) (σ := σ1) hnx (by omega) e28 hC1 hR1 hM) q_Mo_close k_1148 k_1150 k_60 (by omega) hM.1 (by rfl) d_Mo_gather_43 (by omega) (Nat.le_of_ble_eq_true rfl) ⟨by omega, by omega⟩ (fun h => by cases h) (fun r w nx hp => ?_)
          clear hM
          obtain ⟨rfl, hf1, p, m, A, V, hM, hq⟩ := hp
          replace hf := hf.trans hf1
          obtain ⟨rfl, hR2, he2⟩ := hq
          refine aw_goto (pc := 46) X (tgt := 184) d_Mo_gather_46 (by rfl) ?_
          refine aw_vret Y X rfl d_Mo_gather_184 (by omega) (by omega) (hP _ _ _ ?_)
          -- ret 184 lv=3:n,2:n,0:r,1:n st=
          have hic : icS σ1 u r c = (0, (σ1.1, σ1.2.1.take (u.2.1.getD 0 0), r, σ1.2.2.2), some (u.1, cut σ1.2.1 u.2.1)) := by rw [icS, if_pos hz]
          rw [hic]
          exact ⟨rfl, hf, _, _, _, _, hM, rfl, hR2, he2⟩
  refine aw_aload_nR (pc := 0) X d_Mo_gather_0 (by rfl) ?_
  refine gm_11 (pc := 1) X hM (by omega) d_Mo_gather_1 ?_
  refine aw_iconstN (pc := 4) X 1 d_Mo_gather_4 (by decide) ?_
  refine aw_isubN (pc := 5) X d_Mo_gather_5 (by omega) ?_
  -- stop 6 lv=0:r,1:n st=n
  rw [show m 11 - 1 = r.length by omega]
  refine aw_istore_n (pc := 6) X (lv' := [(2, _), (0, _), (1, _)]) d_Mo_gather_6 (by decide) (by rfl) ?_
  refine aw_aload_nR (pc := 7) X d_Mo_gather_7 (by rfl) ?_
  refine aw_dup (pc := 8) X d_Mo_gather_8 (by rfl) ?_
  refine gm_3 (pc := 9) X hM (by omega) d_Mo_gather_9 ?_
  refine aw_iconstN (pc := 12) X 1 d_Mo_gather_12 (by decide) ?_
  refine aw_isubN (pc := 13) X d_Mo_gather_13 (by omega) ?_
  refine pm_3 (pc := 14) X hM hf (by omega) d_Mo_gather_14 (fun w hM hf => ?_)
  -- stop 17 lv=2:n,0:r,1:n st=
  exact J _ (mu m 3 (m 3 - 1)) e28 hM hf hR1
end

