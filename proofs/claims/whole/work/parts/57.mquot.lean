/-! the reference: quoted -/
theorem RM.mark {p : Int32} {m : Nat → Nat} {A : Nat → Nat → Nat} {tx : List Nat} {σ : SQ} {st : Nat × Nat} {u : CS} {r : List CS} (h : RM p m A tx σ st) (hC : σ.2.2.1 = u :: r) : RM p m (au A 434 r.length 1) tx (σ.1, σ.2.1, mkB σ.2.2.1, σ.2.2.2) st := by
  obtain ⟨c1, c2, c3, c4, ⟨a1, a2, a3, a4⟩, c6, c7, c8, c9⟩ := h
  rw [hC] at c4 a4 ⊢
  obtain ⟨s1, s2, ⟨td, tm, tb, tdp, tdp2, tsn⟩⟩ := c4.top
  refine ⟨c1, c2, c3, ?_, ⟨a1, a2, a3, a4.1, a4.2.1, a4.2.2.1, a4.2.2.2⟩, c6, c7, c8, c9⟩
  refine c4.pop.put s1 s2 ⟨td, tm, tb, tdp, tdp2, ?_⟩ (fun i x hi hx hcx => ?_)
  · show aw_un (A 434) r.length 1 r.length = 1
    rw [aw_un_eq]
  · obtain ⟨x1, x2, x3, x4, x5, x6⟩ := hcx
    refine ⟨x1, x2, x3, x4, x5, ?_⟩
    show aw_un (A 434) r.length 1 i = _
    rw [aw_un_ne _ _ (by omega)]; exact x6
theorem RF.drop {n : Nat} {g : Nat → Nat} {F : List Nat} (h : RF n g F) {k : Nat} (hk : k ≤ F.length) : RF (n - k) g (F.drop k) := by
  obtain ⟨h1, h2, h3⟩ := h
  refine ⟨by rw [List.length_drop, h1], by rw [List.length_drop]; omega, fun i hi => ?_⟩
  rw [List.length_drop] at hi ⊢
  have := h3 (k + i) (by omega)
  rw [List.getD_eq_getElem?_getD] at this ⊢
  rw [List.getElem?_drop, this]
  congr 1
  omega
theorem take1 {L : List Nat} {k : Nat} (h : k < L.length) : L.take (k + 1) = L.take k ++ [L.getD k 0] := by
  rw [List.take_succ_eq_append_getElem h, List.getD_eq_getElem?_getD, List.getElem?_eq_getElem h]
  rfl
section
variable {G : aw_G} {nx d : Nat} {w : Nat → va_E} {p : Int32} {m : Nat → Nat} {A : Nat → Nat → Nat} {V : Nat → Int64} {tx : List Nat} {σ : SQ} {st : Nat × Nat}
theorem s_Mo_quoted {F : List Nat} (hnx : 442 ≤ nx) (hd : 3 ≤ d) (e28 : m 28 = 0) (hF : σ.1.1 = 96 :: F) (hR : RM p m A tx σ st) (hM : hMo G w p m A V) : AC G y_Mo_quoted b_Mo_quoted 5 none d false [rf G 418] nx w 0 0 (mq G nx w (fun x p' m' A' V' => x = none ∧ RM p' m' A' tx (stpX (qtS σ F)).2 st ∧ m' 28 = (stpX (qtS σ F)).1)) := by
  have c2 := hR.2.1
  have c21 := c2.1
  have c22 := c2.2.1
  have hFl : σ.1.1.length = F.length + 1 := by rw [hF]; rfl
  have hb420 := hM.b420
  refine AC.ofW (by decide) (Nat.le_of_ble_eq_true rfl) ?_
  intro E P hP Y X
  have X : aw_X G "RescanDeskModel" b_Mo_quoted 5 none "quoted" _ _ _ _ _ E := X
  refine AW.eql (lv' := [(0, _)]) (by rfl) ?_
  have hf : fr 418 442 w w := fr.refl _ _ _
  have J83 : ∀ (k : Nat), qcl 1 F = some k → ∀ w1 A1, hMo G w1 p m A1 V → fr 418 442 w w1 → A1 420 = A 420 → RM p m A1 tx (σ.1, σ.2.1, mkB σ.2.2.1, σ.2.2.2) st → AW G E 5 nx 0 0 w1 83 [(2, .int (nI (k + 2))), (1, .int (nI 0)), (0, rf G 418)] [] := by
    intro k hq w1 A1 hM hf h420 hR1
    have hkF := qcl_lt hq
    generalize hs1 : (((F.drop (k + 1), σ.1.2), σ.2.1, mkB σ.2.2.1, σ.2.2.2) : SQ) = s1
    have hqt : qtS σ F = ((wrS s1 (F.take k)).1, (wrS s1 (F.take k)).2, none) := by
      rw [qtS, hq, ← hs1]
    have hg1 : s1.2.1.length ≤ 400 := by rw [← hs1]; exact hR.2.2.2.2.1.2.1
    have hg2 : ∀ q, s1.1.2.1 = some q → (s1.1.2.2.1 q).length ≤ 300 := fun q hq => by
      rw [← hs1] at hq ⊢
      exact (hR.2.2.2.2.2.1 q (hR.2.2.2.2.2.2.1.2 q hq)).2.1
    have KW : ∀ (j i : Nat), i + j = k + 1 → 1 ≤ i → ∀ w1 p1 m1 A1 V1, hMo G w1 p1 m1 A1 V1 → fr 418 442 w w1 → A1 420 = A 420 → m1 28 ≤ 6 → RM p1 m1 A1 tx (wrS s1 (F.take (i - 1))).2 st → m1 28 = (wrS s1 (F.take (i - 1))).1 → AW G E 5 nx 0 0 w1 101 [(4, .int (nI i)), (3, .int (nI σ.1.1.length)), (2, .int (nI (k + 2))), (1, .int (nI 0)), (0, rf G 418)] [] := by
      intro j
      induction j with
      | zero =>
        intro i hi hi1 w1 p1 m1 A1 V1 hM hf h420 h6 hR2 he2
        rw [show i - 1 = k by omega] at hR2 he2
        refine aw_iload (pc := 101) X d_Mo_quoted_101 (by rfl) ?_
        refine aw_iload_n (pc := 103) X d_Mo_quoted_103 (by rfl) ?_
        refine aw_iconstN (pc := 104) X 1 d_Mo_quoted_104 (by decide) ?_
        refine aw_isubN (pc := 105) X d_Mo_quoted_105 (by omega) ?_
        refine aw_icmp_geN (pc := 106) X (tgt := 130) d_Mo_quoted_106 (by rfl) (by omega) (by omega) (fun h106 => ?_) (fun h106 => ?_)
        -- br 106 lv=4:n,3:n,2:n,1:n,0:r st=
        · refine aw_vret Y X rfl d_Mo_quoted_130 (by omega) (by omega) (hP _ _ _ ?_)
          -- ret 130 lv=4:n,3:n,2:n,1:n,0:r st=
          rw [hqt, stpX_none]
          exact ⟨rfl, hf, _, _, _, _, hM, rfl, hR2, he2⟩
        · omega
      | succ j ih =>
        intro i hi hi1 w1 p1 m1 A1 V1 hM hf h420 h6 hR2 he2
        have hch : A1 420 (σ.1.1.length - 1 - i) = F.getD (i - 1) 0 := by
          rw [h420, ← c2.2.2 i (by omega), hF, show i = (i - 1) + 1 by omega]
          rfl
        refine aw_iload (pc := 101) X d_Mo_quoted_101 (by rfl) ?_
        refine aw_iload_n (pc := 103) X d_Mo_quoted_103 (by rfl) ?_
        refine aw_iconstN (pc := 104) X 1 d_Mo_quoted_104 (by decide) ?_
        refine aw_isubN (pc := 105) X d_Mo_quoted_105 (by omega) ?_
        refine aw_icmp_geN (pc := 106) X (tgt := 130) d_Mo_quoted_106 (by rfl) (by omega) (by omega) (fun h106 => ?_) (fun h106 => ?_)
        -- br 106 lv=4:n,3:n,2:n,1:n,0:r st=
        · omega
        · refine aw_aload_nR (pc := 109) X d_Mo_quoted_109 (by rfl) ?_
          refine aw_aload_nR (pc := 110) X d_Mo_quoted_110 (by rfl) ?_
          refine gm_4 (pc := 111) X hM (by omega) d_Mo_quoted_111 ?_
          refine aw_iload_n (pc := 114) X d_Mo_quoted_114 (by rfl) ?_
          refine aw_iconstN (pc := 115) X 1 d_Mo_quoted_115 (by decide) ?_
          refine aw_isubN (pc := 116) X d_Mo_quoted_116 (by omega) ?_
          refine aw_iload (pc := 117) X d_Mo_quoted_117 (by rfl) ?_
          refine aw_isubN (pc := 119) X d_Mo_quoted_119 (by omega) ?_
          refine aw_caldN (pc := 120) X 420 0 (by omega) hM.a420 (by rfl) (by omega) (by decide) d_Mo_quoted_120 ?_
          -- invokevirtual 121 lv=4:n,3:n,2:n,1:n,0:r st=n,r
          refine aw_callV (pc := 121) X _ (s_Mo_write (d := 1) hnx (by omega) (hM.b420 _) h6 hR2 hM) q_Mo_write k_1019 k_1021 k_31 (by omega) hM.1 (by rfl) d_Mo_quoted_121 (by omega) (Nat.le_of_ble_eq_true rfl) ⟨by omega, by omega⟩ (fun h => by cases h) (fun r w nx hp => ?_)
          clear hM
          obtain ⟨rfl, hf1, p, m, A, V, hM, hq⟩ := hp
          replace hf := hf.trans hf1
          obtain ⟨rfl, hR3, he3, -, h420', -⟩ := hq
          refine aw_iincN (pc := 124) X 1 (lv' := [(4, _), (3, _), (2, _), (1, _), (0, _)]) d_Mo_quoted_124 (by rfl) (by decide) (by decide) (by rfl) ?_
          refine aw_goto (pc := 127) X (tgt := 101) d_Mo_quoted_127 (by rfl) ?_
          -- stop 101 lv=4:n,3:n,2:n,1:n,0:r st=
          have hw := wrS_app (σ := s1) (s := F.take (i - 1)) (c := F.getD (i - 1) 0) hg1 hg2
          rw [← take1 (show i - 1 < F.length by omega)] at hw
          rw [hch, he2] at hR3 he3
          refine ih (i + 1) (by omega) (by omega) _ _ _ _ _ hM hf (h420'.trans h420) ?_ ?_ ?_
          · rw [he3]
            split
            · have := wrS_le (wrS s1 (F.take (i - 1))).2 [F.getD (i - 1) 0]
              omega
            · have := wrS_le s1 (F.take (i - 1))
              omega
          · rw [show i + 1 - 1 = i - 1 + 1 by omega, hw]
            split
            · rename_i h0
              rw [if_pos h0] at hR3
              exact hR3
            · rename_i h0
              rw [if_neg h0] at hR3
              exact hR3
          · rw [show i + 1 - 1 = i - 1 + 1 by omega, hw, he3]
            split
            · rfl
            · rfl
    have hR2 : RM p (mu m 3 (m 3 - (k + 2))) A1 tx s1 st := by
      rw [← hs1]
      refine hR1.fr (fun j h _ _ => if_neg h) (fun _ _ _ => rfl) ?_
      have := c2.drop (k := k + 2) (by omega)
      rw [hF] at this
      rw [h420]
      exact this
    refine aw_aload_nR (pc := 83) X d_Mo_quoted_83 (by rfl) ?_
    refine gm_3 (pc := 84) X hM (by omega) d_Mo_quoted_84 ?_
    refine aw_istore_n (pc := 87) X (lv' := [(3, _), (2, _), (1, _), (0, _)]) d_Mo_quoted_87 (by decide) (by rfl) ?_
    refine aw_aload_nR (pc := 88) X d_Mo_quoted_88 (by rfl) ?_
    refine aw_dup (pc := 89) X d_Mo_quoted_89 (by rfl) ?_
    refine gm_3 (pc := 90) X hM (by omega) d_Mo_quoted_90 ?_
    refine aw_iload_n (pc := 93) X d_Mo_quoted_93 (by rfl) ?_
    refine aw_isubN (pc := 94) X d_Mo_quoted_94 (by omega) ?_
    refine pm_3 (pc := 95) X hM hf (by omega) d_Mo_quoted_95 (fun w hM hf => ?_)
    refine aw_iconstN (pc := 98) X 1 d_Mo_quoted_98 (by decide) ?_
    refine aw_istore (pc := 99) X (lv' := [(4, _), (3, _), (2, _), (1, _), (0, _)]) d_Mo_quoted_99 (by decide) (by rfl) ?_
    -- stop 101 lv=4:n,3:n,2:n,1:n,0:r st=
    rw [c21]
    have hnil := wrS_nil hg1 hg2
    exact KW k 1 (by omega) (Nat.le_refl _) _ p (mu m 3 (m 3 - (k + 2))) A1 V hM hf h420 (show m 28 ≤ 6 by omega) (by rw [show 1 - 1 = 0 from rfl, List.take_zero, hnil]; exact hR2) (by rw [show 1 - 1 = 0 from rfl, List.take_zero, hnil]; exact e28)
  have Fin : ∀ (k : Nat), qcl 1 F = some k → AW G E 5 nx 0 0 w 64 [(2, .int (nI (k + 2))), (1, .int (nI 0)), (0, rf G 418)] [] := by
    intro k hq
    have h11 := hR.2.2.2.1.1
    have h12 := hR.2.2.2.1.2.1
    refine aw_aload_nR (pc := 64) X d_Mo_quoted_64 (by rfl) ?_
    refine gm_11 (pc := 65) X hM (by omega) d_Mo_quoted_65 ?_
    refine aw_if_leN (pc := 68) X (tgt := 83) d_Mo_quoted_68 (by rfl) (by omega) (fun h68 => ?_) (fun h68 => ?_)
    -- br 68 lv=2:n,1:n,0:r st=
    · have hC : σ.2.2.1 = [] := List.length_eq_zero_iff.mp (by omega)
      refine J83 k hq _ _ hM hf rfl ?_
      have : mkB σ.2.2.1 = σ.2.2.1 := by rw [hC]; rfl
      rw [this]
      exact hR
    · obtain ⟨u, r, hC⟩ := List.exists_cons_of_ne_nil (show σ.2.2.1 ≠ [] from fun e => by rw [e] at h11; simp at h11; omega)
      have hl : σ.2.2.1.length = r.length + 1 := by rw [hC]; rfl
      refine aw_aload_nR (pc := 71) X d_Mo_quoted_71 (by rfl) ?_
      refine gm_20 (pc := 72) X hM (by omega) d_Mo_quoted_72 ?_
      refine aw_aload_nR (pc := 75) X d_Mo_quoted_75 (by rfl) ?_
      refine gm_11 (pc := 76) X hM (by omega) d_Mo_quoted_76 ?_
      refine aw_iconstN (pc := 79) X 1 d_Mo_quoted_79 (by decide) ?_
      refine aw_isubN (pc := 80) X d_Mo_quoted_80 (by omega) ?_
      refine aw_iconstN (pc := 81) X 1 d_Mo_quoted_81 (by decide) ?_
      refine sm_434 (pc := 82) X hM hf (by omega) (by omega) (by omega) d_Mo_quoted_82 (fun w hM hf => ?_)
      -- stop 83 lv=2:n,1:n,0:r st=
      refine J83 k hq _ _ hM hf rfl ?_
      rw [show m 11 - 1 = r.length by omega]
      exact hR.mark hC
  have K : ∀ (j n e : Nat), n + j = F.length + 1 → 1 ≤ n → 1 ≤ e → e ≤ n → qcl 1 F = (qcl e (F.drop (n - 1))).map (· + (n - 1)) → AW G E 5 nx 0 0 w 4 [(2, .int (nI n)), (1, .int (nI e)), (0, rf G 418)] [] := by
    intro j
    induction j with
    | zero =>
      intro n e hn h1 h2 h3 hq
      rw [List.drop_eq_nil_of_le (by omega)] at hq
      have hq0 : qcl 1 F = none := hq
      have hqt : qtS σ F = (3, σ, none) := by rw [qtS, hq0]
      refine aw_iload_n (pc := 4) X d_Mo_quoted_4 (by rfl) ?_
      refine aw_if_leN (pc := 5) X (tgt := 54) d_Mo_quoted_5 (by rfl) (by omega) (fun h5 => ?_) (fun h5 => ?_)
      -- br 5 lv=2:n,1:n,0:r st=
      · omega
      · refine aw_iload_n (pc := 8) X d_Mo_quoted_8 (by rfl) ?_
        refine aw_aload_nR (pc := 9) X d_Mo_quoted_9 (by rfl) ?_
        refine gm_3 (pc := 10) X hM (by omega) d_Mo_quoted_10 ?_
        refine aw_icmp_geN (pc := 13) X (tgt := 54) d_Mo_quoted_13 (by rfl) (by omega) (by omega) (fun h13 => ?_) (fun h13 => ?_)
        -- br 13 lv=2:n,1:n,0:r st=
        · refine aw_iload_n (pc := 54) X d_Mo_quoted_54 (by rfl) ?_
          refine aw_if_leN (pc := 55) X (tgt := 64) d_Mo_quoted_55 (by rfl) (by omega) (fun h55 => ?_) (fun h55 => ?_)
          -- br 55 lv=2:n,1:n,0:r st=
          · omega
          · refine aw_aload_nR (pc := 58) X d_Mo_quoted_58 (by rfl) ?_
            refine aw_iconstN (pc := 59) X 3 d_Mo_quoted_59 (by decide) ?_
            -- invokevirtual 60 lv=2:n,1:n,0:r st=n,r
            refine aw_callV (pc := 60) X _ (s_Mo_stop (d := 0) (e := 3) hnx (by omega) hM) q_Mo_stop k_1003 k_1005 k_27 (by omega) hM.1 (by rfl) d_Mo_quoted_60 (by omega) (Nat.le_of_ble_eq_true rfl) ⟨by omega, by omega⟩ (fun h => by cases h) (fun r w nx hp => ?_)
            clear hM
            obtain ⟨rfl, hf1, p, m, A, V, hM, hq⟩ := hp
            replace hf := hf.trans hf1
            obtain ⟨rfl, hpp, haa, hvv, hmm⟩ := hq
            rw [if_pos e28] at hmm
            rw [hpp, haa, hvv, hmm] at hM
            refine aw_vret Y X rfl d_Mo_quoted_63 (by omega) (by omega) (hP _ _ _ ?_)
            -- ret 63 lv=2:n,1:n,0:r st=
            rw [hqt, stpX_none]
            exact ⟨rfl, hf, _, _, _, _, hM, rfl, hR.kp (fun k _ h2 _ => if_neg h2) (fun _ _ => rfl), rfl⟩
        · omega
    | succ j ih =>
      intro n e hn h1 h2 h3 hq
      have hx : (σ.1.1)[n]? = some (F.getD (n - 1) 0) := by
        rw [hF, show n = (n - 1) + 1 by omega, List.getElem?_cons_succ]
        exact getD_some (by omega)
      have hxb : F.getD (n - 1) 0 < 65536 := by
        have := c2.2.2 n (by omega)
        rw [List.getD_eq_getElem?_getD, hx] at this
        have h4 : F.getD (n - 1) 0 = A 420 (σ.1.1.length - 1 - n) := this
        rw [h4]
        exact hb420 _
      rw [sl_drop1 (show n - 1 < F.length by omega), qcl, show n - 1 + 1 = n by omega] at hq
      generalize F.getD (n - 1) 0 = x at hx hxb hq
      have up : ∀ (o : Option Nat), (o.map (· + 1)).map (· + (n - 1)) = o.map (· + (n + 1 - 1)) := fun o => by
        cases o with
        | none => rfl
        | some y =>
          show some (y + 1 + (n - 1)) = some (y + (n + 1 - 1))
          congr 1
          omega
      refine aw_iload_n (pc := 4) X d_Mo_quoted_4 (by rfl) ?_
      refine aw_if_leN (pc := 5) X (tgt := 54) d_Mo_quoted_5 (by rfl) (by omega) (fun h5 => ?_) (fun h5 => ?_)
      -- br 5 lv=2:n,1:n,0:r st=
      · omega
      · refine aw_iload_n (pc := 8) X d_Mo_quoted_8 (by rfl) ?_
        refine aw_aload_nR (pc := 9) X d_Mo_quoted_9 (by rfl) ?_
        refine gm_3 (pc := 10) X hM (by omega) d_Mo_quoted_10 ?_
        refine aw_icmp_geN (pc := 13) X (tgt := 54) d_Mo_quoted_13 (by rfl) (by omega) (by omega) (fun h13 => ?_) (fun h13 => ?_)
        -- br 13 lv=2:n,1:n,0:r st=
        · omega
        · refine aw_iload_n (pc := 16) X d_Mo_quoted_16 (by rfl) ?_
          refine aw_aload_nR (pc := 17) X d_Mo_quoted_17 (by rfl) ?_
          refine aw_iload_n (pc := 18) X d_Mo_quoted_18 (by rfl) ?_
          -- invokevirtual 19 lv=2:n,1:n,0:r st=n,r,n
          refine aw_callV (pc := 19) X _ (s_Mo_next (d := 0) (F := σ.1.1) hnx (by omega) c2 hM) q_Mo_next k_1011 k_1013 k_29 (by omega) hM.1 (by rfl) d_Mo_quoted_19 (by omega) (Nat.le_of_ble_eq_true rfl) ⟨by omega, by omega⟩ (fun h => by cases h) (fun r w nx hp => ?_)
          obtain ⟨rfl, rfl, rfl⟩ := hp
          rw [hx, pV_some]
          refine aw_bipushN (pc := 22) X 96 d_Mo_quoted_22 (by decide) ?_
          refine aw_icmp_neN (pc := 24) X (tgt := 31) d_Mo_quoted_24 (by rfl) (by omega) (by omega) (fun h24 => ?_) (fun h24 => ?_)
          -- br 24 lv=2:n,1:n,0:r st=n
          · rw [if_neg h24] at hq
            refine aw_aload_nR (pc := 31) X d_Mo_quoted_31 (by rfl) ?_
            refine aw_iload_n (pc := 32) X d_Mo_quoted_32 (by rfl) ?_
            -- invokevirtual 33 lv=2:n,1:n,0:r st=n,r,n
            refine aw_callV (pc := 33) X _ (s_Mo_next (d := 0) (F := σ.1.1) hnx (by omega) c2 hM) q_Mo_next k_1011 k_1013 k_29 (by omega) hM.1 (by rfl) d_Mo_quoted_33 (by omega) (Nat.le_of_ble_eq_true rfl) ⟨by omega, by omega⟩ (fun h => by cases h) (fun r w nx hp => ?_)
            obtain ⟨rfl, rfl, rfl⟩ := hp
            rw [hx, pV_some]
            refine aw_bipushN (pc := 36) X 39 d_Mo_quoted_36 (by decide) ?_
            refine aw_icmp_neN (pc := 38) X (tgt := 45) d_Mo_quoted_38 (by rfl) (by omega) (by omega) (fun h38 => ?_) (fun h38 => ?_)
            -- br 38 lv=2:n,1:n,0:r st=n
            · rw [if_neg h38, up] at hq
              refine aw_iconstN (pc := 45) X 0 d_Mo_quoted_45 (by decide) ?_
              refine aw_iaddN (pc := 46) X d_Mo_quoted_46 ?_
              refine aw_istore_n (pc := 47) X (lv' := [(1, _), (2, _), (0, _)]) d_Mo_quoted_47 (by decide) (by rfl) ?_
              refine aw_iincN (pc := 48) X 1 (lv' := [(2, _), (1, _), (0, _)]) d_Mo_quoted_48 (by rfl) (by decide) (by decide) (by rfl) ?_
              refine aw_goto (pc := 51) X (tgt := 4) d_Mo_quoted_51 (by rfl) ?_
              -- stop 4 lv=2:n,1:n,0:r st=
              exact ih (n + 1) (e + 0) (by omega) (by omega) (by omega) (by omega) hq
            · rw [if_pos h38] at hq
              obtain ⟨e', rfl⟩ : ∃ e', e = e' + 1 := ⟨e - 1, by omega⟩
              refine aw_iconst (pc := 41) X (v := -1) d_Mo_quoted_41 (by decide) ?_
              refine aw_goto (pc := 42) X (tgt := 46) d_Mo_quoted_42 (by rfl) ?_
              -- stop 46 lv=2:n,1:n,0:r st=i,n
              refine aw_iadd (pc := 46) X d_Mo_quoted_46 ?_
              rw [show nI (e' + 1) + (-1 : Int32) = nI e' from dV_dec (e' + 1)]
              refine aw_istore_n (pc := 47) X (lv' := [(1, _), (2, _), (0, _)]) d_Mo_quoted_47 (by decide) (by rfl) ?_
              refine aw_iincN (pc := 48) X 1 (lv' := [(2, _), (1, _), (0, _)]) d_Mo_quoted_48 (by rfl) (by decide) (by decide) (by rfl) ?_
              refine aw_goto (pc := 51) X (tgt := 4) d_Mo_quoted_51 (by rfl) ?_
              -- stop 4 lv=2:n,1:n,0:r st=
              by_cases he : e' = 0
              · subst he
                rw [if_pos rfl] at hq
                have hq1 : qcl 1 F = some (n - 1) := by rw [hq]; show some (0 + (n - 1)) = _; rw [Nat.zero_add]
                rw [show n + 1 = (n - 1) + 2 by omega]
                refine aw_iload_n (pc := 4) X d_Mo_quoted_4 (by rfl) ?_
                refine aw_if_leN (pc := 5) X (tgt := 54) d_Mo_quoted_5 (by rfl) (by omega) (fun h5 => ?_) (fun h5 => ?_)
                -- br 5 lv=2:n,1:n,0:r st=
                · refine aw_iload_n (pc := 54) X d_Mo_quoted_54 (by rfl) ?_
                  refine aw_if_leN (pc := 55) X (tgt := 64) d_Mo_quoted_55 (by rfl) (by omega) (fun h55 => ?_) (fun h55 => ?_)
                  -- br 55 lv=2:n,1:n,0:r st=
                  · exact Fin (n - 1) hq1
                  · omega
                · omega
              · rw [if_neg (by omega), Nat.add_sub_cancel, up] at hq
                exact ih (n + 1) e' (by omega) (by omega) (by omega) (by omega) hq
          · rw [if_pos h24, up] at hq
            refine aw_iconstN (pc := 27) X 1 d_Mo_quoted_27 (by decide) ?_
            refine aw_goto (pc := 28) X (tgt := 46) d_Mo_quoted_28 (by rfl) ?_
            refine aw_iaddN (pc := 46) X d_Mo_quoted_46 ?_
            refine aw_istore_n (pc := 47) X (lv' := [(1, _), (2, _), (0, _)]) d_Mo_quoted_47 (by decide) (by rfl) ?_
            refine aw_iincN (pc := 48) X 1 (lv' := [(2, _), (1, _), (0, _)]) d_Mo_quoted_48 (by rfl) (by decide) (by decide) (by rfl) ?_
            refine aw_goto (pc := 51) X (tgt := 4) d_Mo_quoted_51 (by rfl) ?_
            -- stop 4 lv=2:n,1:n,0:r st=
            exact ih (n + 1) (e + 1) (by omega) (by omega) (by omega) (by omega) hq
  refine aw_iconstN (pc := 0) X 1 d_Mo_quoted_0 (by decide) ?_
  refine aw_istore_n (pc := 1) X (lv' := [(1, _), (0, _)]) d_Mo_quoted_1 (by decide) (by rfl) ?_
  refine aw_iconstN (pc := 2) X 1 d_Mo_quoted_2 (by decide) ?_
  refine aw_istore_n (pc := 3) X (lv' := [(2, _), (1, _), (0, _)]) d_Mo_quoted_3 (by decide) (by rfl) ?_
  -- stop 4 lv=2:n,1:n,0:r st=
  exact K F.length 1 1 (by omega) (by omega) (by omega) (by omega) (by
    rw [show 1 - 1 = 0 from rfl, List.drop_zero]
    cases qcl 1 F <;> rfl)
end

