/-! Expression.level, operand, reckon -/
theorem sl_D {S : List Nat} {gg : Nat → Nat} (h : S = sl gg 0 S.length) {i : Nat} (hi : i < S.length) : S.getD i 0 = gg i := by
  have q : S.getD i 0 = (sl gg 0 S.length).getD i 0 := congrArg (fun l => l.getD i 0) h
  rw [q, sl_getD hi, Nat.zero_add]
theorem getD_ge {S : List Nat} {i : Nat} (hi : S.length ≤ i) : S.getD i 0 = 0 := by
  rw [List.getD_eq_getElem?_getD, List.getElem?_eq_none_iff.mpr hi]
  rfl
theorem ev_le (S : List Nat) : ∀ (f s dp : Nat) (l : Int64) (m : Bool) (x : ES) (v : Int64) (x' : ES), ev S f s dp l m x = some (v, x') → x.1 ≤ S.length → x'.1 ≤ S.length := by
  intro f
  induction f with
  | zero => intro s dp l m x v x' h; cases m <;> simp [ev] at h
  | succ f ih =>
    intro s dp l m x v x' h hx
    cases m with
    | true =>
      rw [ev] at h
      split at h
      · rename_i hc
        obtain ⟨q, h1, h2⟩ := Option.bind_eq_some_iff.mp h
        have h3 := ih _ _ _ _ _ _ _ h1 (show (x.1 + 1, x.2).1 ≤ S.length from hc.2.1)
        exact ih _ _ _ _ _ _ _ h2 h3
      · cases h; exact hx
    | false =>
      rw [ev] at h
      split at h
      · obtain ⟨q, h1, h2⟩ := Option.bind_eq_some_iff.mp h
        exact ih _ _ _ _ _ _ _ h2 (ih _ _ _ _ _ _ _ h1 hx)
      · have hlt : ∀ c : Nat, c ≠ 0 → S.getD x.1 0 = c → x.1 + 1 ≤ S.length := fun c hc h => by
          refine Nat.lt_of_not_le fun hge => hc ?_
          rw [← h, getD_ge hge]
        split at h
        · rename_i h45
          split at h
          · cases h; exact hx
          · obtain ⟨q, h1, h2⟩ := Option.bind_eq_some_iff.mp h
            cases h2
            exact ih _ _ _ _ _ _ _ h1 (hlt 45 (by decide) h45)
        · split at h
          · rename_i h40
            split at h
            · cases h; exact hx
            · obtain ⟨q, h1, h2⟩ := Option.bind_eq_some_iff.mp h
              have hq := ih _ _ _ _ _ _ _ h1 (hlt 40 (by decide) h40)
              cases h2
              split
              · rename_i h41
                refine Nat.lt_of_not_le fun hge => ?_
                rw [getD_ge hge] at h41
                cases h41
              · exact hq
          · cases h
            have := numV_le 0 (S.drop x.1)
            simp at this ⊢
            omega
theorem ev_succ (S : List Nat) : ∀ (f s dp : Nat) (l : Int64) (m : Bool) (x : ES) (r : Int64 × ES), ev S f s dp l m x = some r → ev S (f + 1) s dp l m x = some r := by
  intro f
  induction f with
  | zero => intro s dp l m x r h; cases m <;> simp [ev] at h
  | succ f ih =>
    intro s dp l m x r h
    cases m with
    | true =>
      rw [ev] at h ⊢
      split at h
      · rename_i hc
        rw [if_pos hc]
        obtain ⟨q, h1, h2⟩ := Option.bind_eq_some_iff.mp h
        exact Option.bind_eq_some_iff.mpr ⟨q, ih _ _ _ _ _ _ h1, ih _ _ _ _ _ _ h2⟩
      · rename_i hc
        rw [if_neg hc]
        exact h
    | false =>
      rw [ev] at h ⊢
      split at h
      · rename_i hc
        rw [if_pos hc]
        obtain ⟨q, h1, h2⟩ := Option.bind_eq_some_iff.mp h
        exact Option.bind_eq_some_iff.mpr ⟨q, ih _ _ _ _ _ _ h1, ih _ _ _ _ _ _ h2⟩
      · rename_i hc
        rw [if_neg hc]
        split at h
        · rename_i h45
          rw [if_pos h45]
          split at h
          · rename_i h6; rw [if_pos h6]; exact h
          · rename_i h6
            rw [if_neg h6]
            obtain ⟨q, h1, h2⟩ := Option.bind_eq_some_iff.mp h
            exact Option.bind_eq_some_iff.mpr ⟨q, ih _ _ _ _ _ _ h1, h2⟩
        · rename_i h45
          rw [if_neg h45]
          split at h
          · rename_i h40
            rw [if_pos h40]
            split at h
            · rename_i h6; rw [if_pos h6]; exact h
            · rename_i h6
              rw [if_neg h6]
              obtain ⟨q, h1, h2⟩ := Option.bind_eq_some_iff.mp h
              exact Option.bind_eq_some_iff.mpr ⟨q, ih _ _ _ _ _ _ h1, h2⟩
          · rename_i h40
            rw [if_neg h40]
            exact h
theorem ev_mono (S : List Nat) {f g s dp : Nat} {l : Int64} {m : Bool} {x : ES} {r : Int64 × ES} (h : ev S f s dp l m x = some r) (hg : f ≤ g) : ev S g s dp l m x = some r := by
  obtain ⟨k, rfl⟩ := Nat.le.dest hg
  clear hg
  induction k with
  | zero => exact h
  | succ k ih => exact ev_succ S _ _ _ _ _ _ _ ih
section
variable {G : aw_G}
theorem ev_AC (S : List Nat) : ∀ (f s dp d nx : Nat) (w : Nat → va_E) (x : ES) (v : Int64) (x' : ES), ev S f s dp 0 false x = some (v, x') → 1 ≤ s → s ≤ 5 → dp ≤ 6 → x.1 ≤ S.length → hTx G w 414 400 S → 416 ≤ nx →
    ((7 - dp) * 7 + (6 - s) + 3 ≤ d → AC G y_Ep_level b_Ep_level 6 (some .long) d false [rf G 413, .int (nI s), .int (nI dp)] nx (wE G w x) 0 0 (fun r w' nx' => nx' = nx ∧ w' = wE G w x' ∧ r = some (.long v))) ∧
    (s = 5 → (7 - dp) * 7 + 3 ≤ d → AC G y_Ep_operand b_Ep_operand 5 (some .long) d false [rf G 413, .int (nI dp)] nx (wE G w x) 0 0 (fun r w' nx' => nx' = nx ∧ w' = wE G w x' ∧ r = some (.long v))) := by
  intro f
  induction f with
  | zero => intro s dp d nx w x v x' h; simp [ev] at h
  | succ f ih =>
    intro s dp d nx w x v x' h hs1 hs5 hdp hx hS hnx
    obtain ⟨gg, s2, s3, s4⟩ := hS.arr
    have s1 := hS.obj
    have hl := hS.le
    have hOp : ∀ d, s = 5 → (7 - dp) * 7 + 3 ≤ d → AC G y_Ep_operand b_Ep_operand 5 (some .long) d false [rf G 413, .int (nI dp)] nx (wE G w x) 0 0 (fun r w' nx' => nx' = nx ∧ w' = wE G w x' ∧ r = some (.long v)) := by
      intro d hs hd
      subst hs
      have hl0 := h
      rw [ev, if_neg (by omega)] at hl0
      have e1 := wE_at G w x
      have e2 : wE G w x 414 = oTx G 415 S.length := (wE_ne G w _ (by omega)).trans s1
      have e3 : wE G w x 415 = aCh G 400 gg := (wE_ne G w _ (by omega)).trans s2
      refine AC.ofW (by decide) (Nat.le_of_ble_eq_true rfl) ?_
      intro E P hP Y X
      have X : aw_X G "RescanDesk$Expression" b_Ep_operand 5 (some .long) "operand" _ _ _ _ _ E := X
      refine AW.eql (lv' := [(0, _), (1, _)]) (by rfl) ?_
      have T : ∀ c, c = S.getD x.1 0 → AW G E 5 nx 0 0 (wE G w x) 30 [(0, rf G 413), (1, .int (nI dp))] [.int (nI c)] := by
        intro c hc
        have hc16 : c < 65536 := by
          by_cases q : x.1 < S.length
          · rw [hc, sl_D s3 q]; exact s4 _
          · rw [hc, getD_ge (by omega)]; omega
        have hlt : c ≠ 0 → x.1 + 1 ≤ S.length := fun hc0 => Nat.lt_of_not_le fun hge => hc0 (by rw [hc, getD_ge hge])
        have J : (c = 45 ∨ c = 40) → AW G E 5 nx 0 0 (wE G w x) 48 [(2, .int (nI c)), (0, rf G 413), (1, .int (nI dp))] [] := by
          intro hcc
          have hx1 := hlt (by omega)
          refine aw_iload_n (pc := 48) X d_Ep_operand_48 (by rfl) ?_
          refine aw_bipushN (pc := 49) X 6 d_Ep_operand_49 (by decide) ?_
          refine aw_icmp_ltN (pc := 51) X (tgt := 61) d_Ep_operand_51 (by rfl) (by omega) (by omega) (fun h51 => ?_) (fun h51 => ?_)
          -- br 51 lv=2:n,0:r,1:n st=
          · -- room for one more
            have D : ∀ s', 1 ≤ s' → True := fun _ _ => trivial
            refine aw_aload_nR (pc := 61) X d_Ep_operand_61 (by rfl) ?_
            refine aw_dup (pc := 62) X d_Ep_operand_62 (by rfl) ?_
            refine aw_getO (pc := 63) X _ 1 (by omega) (by (repeat (first | rw [aw_up_eq] | rw [aw_up_ne _ _ (by first | assumption | omega)])) <;> first | assumption | rfl) (by rfl) in_Ep (by decide) k_342 (by rfl) d_Ep_operand_63 ?_
            refine aw_iconstN (pc := 66) X 1 d_Ep_operand_66 (by decide) ?_
            refine aw_iaddN (pc := 67) X d_Ep_operand_67 ?_
            refine aw_putO (pc := 68) X _ 1 (by omega) (by (repeat (first | rw [aw_up_eq] | rw [aw_up_ne _ _ (by first | assumption | omega)])) <;> first | assumption | rfl) (by rfl) in_Ep (by decide) ty_Ep ok_Ep nm_Ep k_342 (by rfl) (by rfl) (by rfl) (by simp) (fs' := [_, _, _, _]) (by rfl) d_Ep_operand_68 ?_
            -- stop 71 lv=2:n,0:r,1:n st=
            refine AW.eqw (wE_up G w x (x.1 + 1, x.2)) ?_
            refine aw_iload_n (pc := 71) X d_Ep_operand_71 (by rfl) ?_
            refine aw_bipushN (pc := 72) X 45 d_Ep_operand_72 (by decide) ?_
            refine aw_icmp_neN (pc := 74) X (tgt := 86) d_Ep_operand_74 (by rfl) (by omega) (by omega) (fun h74 => ?_) (fun h74 => ?_)
            -- br 74 lv=2:n,0:r,1:n st=
            · have hc40 : c = 40 := by omega
              rw [if_neg (by rw [← hc]; omega), if_pos (by rw [← hc]; exact hc40), if_neg (by omega)] at hl0
              obtain ⟨q, h1, h2⟩ := Option.bind_eq_some_iff.mp hl0
              have hq := ev_le S _ _ _ _ _ _ _ _ h1 hx1
              refine aw_aload_nR (pc := 86) X d_Ep_operand_86 (by rfl) ?_
              refine aw_iconstN (pc := 87) X 1 d_Ep_operand_87 (by decide) ?_
              refine aw_iload_n (pc := 88) X d_Ep_operand_88 (by rfl) ?_
              refine aw_iconstN (pc := 89) X 1 d_Ep_operand_89 (by decide) ?_
              refine aw_iaddN (pc := 90) X d_Ep_operand_90 ?_
              -- invokevirtual 91 lv=2:n,0:r,1:n st=n,n,r
              refine aw_callV (pc := 91) X _ ((ih 1 (dp + 1) ((7 - (dp + 1)) * 7 + 8) nx w _ _ _ h1 (by omega) (by omega) (by omega) hx1 hS hnx).1 (by omega)) q_Ep_level k_742 k_744 k_16 (by omega) (wE_at _ _ _) (by rfl) d_Ep_operand_91 (by omega) (Nat.le_of_ble_eq_true rfl) ⟨by omega, by omega⟩ (fun h => by cases h) (fun r w2 nx2 hp => ?_)
              obtain ⟨rfl, rfl, rfl⟩ := hp
              have e1 := wE_at G w q.2
              have e2 : wE G w q.2 414 = oTx G 415 S.length := (wE_ne G w _ (by omega)).trans s1
              have e3 : wE G w q.2 415 = aCh G 400 gg := (wE_ne G w _ (by omega)).trans s2
              have s4q := s4 q.2.1
              have W1 : S.getD q.2.1 0 ≠ 41 → AW G E 5 nx2 0 0 (wE G w q.2) 139 [(3, .long q.1), (2, .int (nI c)), (0, rf G 413), (1, .int (nI dp))] [] := by
                intro hne
                rw [if_neg hne] at h2
                refine aw_aload_nR (pc := 139) X d_Ep_operand_139 (by rfl) ?_
                refine aw_iconstN (pc := 140) X 1 d_Ep_operand_140 (by decide) ?_
                refine aw_putO (pc := 141) X _ 2 (by omega) (by (repeat (first | rw [aw_up_eq] | rw [aw_up_ne _ _ (by first | assumption | omega)])) <;> first | assumption | rfl) (by rfl) in_Ep (by decide) ty_Ep ok_Ep nm_Ep k_343 (by rfl) (by decide +kernel) (by decide +kernel) (by simp) (fs' := [_, _, _, _]) (by rfl) d_Ep_operand_141 ?_
                refine aw_lload_n (pc := 144) X d_Ep_operand_144 (by rfl) ?_
                refine aw_lret Y X rfl d_Ep_operand_145 (by omega) (by omega) (hP _ _ _ ?_)
                -- ret 145 lv=3:l,2:n,0:r,1:n st=l
                cases h2
                exact ⟨rfl, wE_up G w q.2 (q.2.1, true, q.2.2.2), rfl⟩
              refine aw_lstore_n (pc := 94) X (lv' := [(3, _), (2, _), (0, _), (1, _)]) d_Ep_operand_94 (by decide) (by rfl) ?_
              refine aw_aload_nR (pc := 95) X d_Ep_operand_95 (by rfl) ?_
              refine aw_getO (pc := 96) X _ 1 (by omega) (by (repeat (first | rw [aw_up_eq] | rw [aw_up_ne _ _ (by first | assumption | omega)])) <;> first | assumption | rfl) (by rfl) in_Ep (by decide) k_342 (by rfl) d_Ep_operand_96 ?_
              refine aw_aload_nR (pc := 99) X d_Ep_operand_99 (by rfl) ?_
              refine aw_getO (pc := 100) X _ 0 (by omega) (by (repeat (first | rw [aw_up_eq] | rw [aw_up_ne _ _ (by first | assumption | omega)])) <;> first | assumption | rfl) (by rfl) in_Ep (by decide) k_341 (by rfl) d_Ep_operand_100 ?_
              refine aw_getNO (pc := 103) X _ 1 (by omega) (by (repeat (first | rw [aw_up_eq] | rw [aw_up_ne _ _ (by first | assumption | omega)])) <;> first | assumption | rfl) (by rfl) in_Tx (by decide) k_112 (by rfl) d_Ep_operand_103 ?_
              refine aw_icmp_geN (pc := 106) X (tgt := 139) d_Ep_operand_106 (by rfl) (by omega) (by omega) (fun h106 => ?_) (fun h106 => ?_)
              -- br 106 lv=3:l,2:n,0:r,1:n st=
              · exact W1 (by rw [getD_ge h106]; decide)
              · have hgd := sl_D s3 h106
                refine aw_aload_nR (pc := 109) X d_Ep_operand_109 (by rfl) ?_
                refine aw_getO (pc := 110) X _ 0 (by omega) (by (repeat (first | rw [aw_up_eq] | rw [aw_up_ne _ _ (by first | assumption | omega)])) <;> first | assumption | rfl) (by rfl) in_Ep (by decide) k_341 (by rfl) d_Ep_operand_110 ?_
                refine aw_getNO (pc := 113) X _ 0 (by omega) (by (repeat (first | rw [aw_up_eq] | rw [aw_up_ne _ _ (by first | assumption | omega)])) <;> first | assumption | rfl) (by rfl) in_Tx (by decide) k_106 (by rfl) d_Ep_operand_113 ?_
                refine aw_aload_nR (pc := 116) X d_Ep_operand_116 (by rfl) ?_
                refine aw_getO (pc := 117) X _ 1 (by omega) (by (repeat (first | rw [aw_up_eq] | rw [aw_up_ne _ _ (by first | assumption | omega)])) <;> first | assumption | rfl) (by rfl) in_Ep (by decide) k_342 (by rfl) d_Ep_operand_117 ?_
                refine aw_caldN (pc := 120) X _ 0 (by omega) (by (repeat (first | rw [aw_up_eq] | rw [aw_up_ne _ _ (by first | assumption | omega)])) <;> first | assumption | rfl) (by rfl) (by omega) (by omega) d_Ep_operand_120 ?_
                refine aw_bipushN (pc := 121) X 41 d_Ep_operand_121 (by decide) ?_
                refine aw_icmp_neN (pc := 123) X (tgt := 139) d_Ep_operand_123 (by rfl) (by omega) (by omega) (fun h123 => ?_) (fun h123 => ?_)
                -- br 123 lv=3:l,2:n,0:r,1:n st=
                · exact W1 (by rw [hgd]; exact h123)
                · rw [if_pos (by rw [hgd]; exact h123)] at h2
                  refine aw_aload_nR (pc := 126) X d_Ep_operand_126 (by rfl) ?_
                  refine aw_dup (pc := 127) X d_Ep_operand_127 (by rfl) ?_
                  refine aw_getO (pc := 128) X _ 1 (by omega) (by (repeat (first | rw [aw_up_eq] | rw [aw_up_ne _ _ (by first | assumption | omega)])) <;> first | assumption | rfl) (by rfl) in_Ep (by decide) k_342 (by rfl) d_Ep_operand_128 ?_
                  refine aw_iconstN (pc := 131) X 1 d_Ep_operand_131 (by decide) ?_
                  refine aw_iaddN (pc := 132) X d_Ep_operand_132 ?_
                  refine aw_putO (pc := 133) X _ 1 (by omega) (by (repeat (first | rw [aw_up_eq] | rw [aw_up_ne _ _ (by first | assumption | omega)])) <;> first | assumption | rfl) (by rfl) in_Ep (by decide) ty_Ep ok_Ep nm_Ep k_342 (by rfl) (by rfl) (by rfl) (by simp) (fs' := [_, _, _, _]) (by rfl) d_Ep_operand_133 ?_
                  refine aw_goto (pc := 136) X (tgt := 144) d_Ep_operand_136 (by rfl) ?_
                  refine aw_lload_n (pc := 144) X d_Ep_operand_144 (by rfl) ?_
                  refine aw_lret Y X rfl d_Ep_operand_145 (by omega) (by omega) (hP _ _ _ ?_)
                  -- ret 145 lv=3:l,2:n,0:r,1:n st=l
                  cases h2
                  exact ⟨rfl, wE_up G w q.2 (q.2.1 + 1, q.2.2), rfl⟩
            · rw [if_pos (by rw [← hc]; exact h74), if_neg (by omega)] at hl0
              obtain ⟨q, h1, h2⟩ := Option.bind_eq_some_iff.mp hl0
              refine aw_aload_nR (pc := 77) X d_Ep_operand_77 (by rfl) ?_
              refine aw_iload_n (pc := 78) X d_Ep_operand_78 (by rfl) ?_
              refine aw_iconstN (pc := 79) X 1 d_Ep_operand_79 (by decide) ?_
              refine aw_iaddN (pc := 80) X d_Ep_operand_80 ?_
              -- invokevirtual 81 lv=2:n,0:r,1:n st=n,r
              refine aw_callV (pc := 81) X _ ((ih 5 (dp + 1) ((7 - (dp + 1)) * 7 + 8) nx w _ _ _ h1 (by omega) (by omega) (by omega) hx1 hS hnx).2 rfl (by omega)) q_Ep_operand k_746 k_748 k_17 (by omega) (wE_at _ _ _) (by rfl) d_Ep_operand_81 (by omega) (Nat.le_of_ble_eq_true rfl) ⟨by omega, by omega⟩ (fun h => by cases h) (fun r w2 nx2 hp => ?_)
              obtain ⟨rfl, rfl, rfl⟩ := hp
              refine aw_lneg (pc := 84) X d_Ep_operand_84 ?_
              refine aw_lret Y X rfl d_Ep_operand_85 (by omega) (by omega) (hP _ _ _ ?_)
              -- ret 85 lv=2:n,0:r,1:n st=l
              cases h2
              exact ⟨rfl, rfl, rfl⟩
          · have hz : (v, x') = (0, x.1, true, x.2.2) := by
              rcases hcc with q | q
              · rw [if_pos (by rw [← hc]; exact q), if_pos (by omega)] at hl0
                exact (Option.some.inj hl0).symm
              · rw [if_neg (by rw [← hc]; omega), if_pos (by rw [← hc]; exact q), if_pos (by omega)] at hl0
                exact (Option.some.inj hl0).symm
            refine aw_aload_nR (pc := 54) X d_Ep_operand_54 (by rfl) ?_
            refine aw_iconstN (pc := 55) X 1 d_Ep_operand_55 (by decide) ?_
            refine aw_putO (pc := 56) X _ 2 (by omega) (by (repeat (first | rw [aw_up_eq] | rw [aw_up_ne _ _ (by first | assumption | omega)])) <;> first | assumption | rfl) (by rfl) in_Ep (by decide) ty_Ep ok_Ep nm_Ep k_343 (by rfl) (by decide +kernel) (by decide +kernel) (by simp) (fs' := [_, _, _, _]) (by rfl) d_Ep_operand_56 ?_
            refine aw_lconst (pc := 59) X (v := 0) d_Ep_operand_59 (by decide) ?_
            refine aw_lret Y X rfl d_Ep_operand_60 (by omega) (by omega) (hP _ _ _ ?_)
            -- ret 60 lv=2:n,0:r,1:n st=l
            cases hz
            exact ⟨rfl, wE_up G w x (x.1, true, x.2.2), rfl⟩
        refine aw_istore_n (pc := 30) X (lv' := [(2, _), (0, _), (1, _)]) d_Ep_operand_30 (by decide) (by rfl) ?_
        refine aw_iload_n (pc := 31) X d_Ep_operand_31 (by rfl) ?_
        refine aw_bipushN (pc := 32) X 45 d_Ep_operand_32 (by decide) ?_
        refine aw_icmp_eqN (pc := 34) X (tgt := 48) d_Ep_operand_34 (by rfl) (by omega) (by omega) (fun h34 => ?_) (fun h34 => ?_)
        -- br 34 lv=2:n,0:r,1:n st=
        · exact J (Or.inl h34)
        · refine aw_iload_n (pc := 37) X d_Ep_operand_37 (by rfl) ?_
          refine aw_bipushN (pc := 38) X 40 d_Ep_operand_38 (by decide) ?_
          refine aw_icmp_eqN (pc := 40) X (tgt := 48) d_Ep_operand_40 (by rfl) (by omega) (by omega) (fun h40 => ?_) (fun h40 => ?_)
          -- br 40 lv=2:n,0:r,1:n st=
          · exact J (Or.inr h40)
          · rw [if_neg (by rw [← hc]; exact h34), if_neg (by rw [← hc]; exact h40)] at hl0
            refine aw_aload_nR (pc := 43) X d_Ep_operand_43 (by rfl) ?_
            -- invokevirtual 44 lv=2:n,0:r,1:n st=r
            refine aw_callV (pc := 44) X _ (c_Ep_number (d := 1) (x := x) (S := S) hnx (by omega) hx hS) q_Ep_number k_750 k_752 k_18 (by omega) e1 (by rfl) d_Ep_operand_44 (by omega) (Nat.le_of_ble_eq_true rfl) ⟨by omega, by omega⟩ (fun h => by cases h) (fun r w2 nx2 hp => ?_)
            obtain ⟨rfl, rfl, rfl⟩ := hp
            refine aw_lret Y X rfl d_Ep_operand_47 (by omega) (by omega) (hP _ _ _ ?_)
            -- ret 47 lv=2:n,0:r,1:n st=l
            cases hl0
            exact ⟨rfl, rfl, rfl⟩
      refine aw_aload_nR (pc := 0) X d_Ep_operand_0 (by rfl) ?_
      refine aw_getO (pc := 1) X _ 1 (by omega) (by (repeat (first | rw [aw_up_eq] | rw [aw_up_ne _ _ (by first | assumption | omega)])) <;> first | assumption | rfl) (by rfl) in_Ep (by decide) k_342 (by rfl) d_Ep_operand_1 ?_
      refine aw_aload_nR (pc := 4) X d_Ep_operand_4 (by rfl) ?_
      refine aw_getO (pc := 5) X _ 0 (by omega) (by (repeat (first | rw [aw_up_eq] | rw [aw_up_ne _ _ (by first | assumption | omega)])) <;> first | assumption | rfl) (by rfl) in_Ep (by decide) k_341 (by rfl) d_Ep_operand_5 ?_
      refine aw_getNO (pc := 8) X _ 1 (by omega) (by (repeat (first | rw [aw_up_eq] | rw [aw_up_ne _ _ (by first | assumption | omega)])) <;> first | assumption | rfl) (by rfl) in_Tx (by decide) k_112 (by rfl) d_Ep_operand_8 ?_
      refine aw_icmp_geN (pc := 11) X (tgt := 29) d_Ep_operand_11 (by rfl) (by omega) (by omega) (fun h11 => ?_) (fun h11 => ?_)
      -- br 11 lv=0:r,1:n st=
      · refine aw_iconstN (pc := 29) X 0 d_Ep_operand_29 (by decide) ?_
        -- stop 30 lv=0:r,1:n st=n
        exact T 0 (by rw [getD_ge h11])
      · have s4x := s4 x.1
        refine aw_aload_nR (pc := 14) X d_Ep_operand_14 (by rfl) ?_
        refine aw_getO (pc := 15) X _ 0 (by omega) (by (repeat (first | rw [aw_up_eq] | rw [aw_up_ne _ _ (by first | assumption | omega)])) <;> first | assumption | rfl) (by rfl) in_Ep (by decide) k_341 (by rfl) d_Ep_operand_15 ?_
        refine aw_getNO (pc := 18) X _ 0 (by omega) (by (repeat (first | rw [aw_up_eq] | rw [aw_up_ne _ _ (by first | assumption | omega)])) <;> first | assumption | rfl) (by rfl) in_Tx (by decide) k_106 (by rfl) d_Ep_operand_18 ?_
        refine aw_aload_nR (pc := 21) X d_Ep_operand_21 (by rfl) ?_
        refine aw_getO (pc := 22) X _ 1 (by omega) (by (repeat (first | rw [aw_up_eq] | rw [aw_up_ne _ _ (by first | assumption | omega)])) <;> first | assumption | rfl) (by rfl) in_Ep (by decide) k_342 (by rfl) d_Ep_operand_22 ?_
        refine aw_caldN (pc := 25) X _ 0 (by omega) (by (repeat (first | rw [aw_up_eq] | rw [aw_up_ne _ _ (by first | assumption | omega)])) <;> first | assumption | rfl) (by rfl) (by omega) (by omega) d_Ep_operand_25 ?_
        refine aw_goto (pc := 26) X (tgt := 30) d_Ep_operand_26 (by rfl) ?_
        -- stop 30 lv=0:r,1:n st=n
        exact T (gg x.1) (by rw [sl_D s3 h11])
    refine ⟨fun hd => ?_, hOp d⟩
    refine AC.ofW (by decide) (Nat.le_of_ble_eq_true rfl) ?_
    intro E P hP Y X
    have X : aw_X G "RescanDesk$Expression" b_Ep_level 6 (some .long) "level" _ _ _ _ _ E := X
    refine AW.eql (lv' := [(0, _), (1, _), (2, _)]) (by rfl) ?_
    by_cases h5 : s = 5
    · subst h5
      have e1 := wE_at G w x
      refine aw_iload_n (pc := 0) X d_Ep_level_0 (by rfl) ?_
      refine aw_iconstN (pc := 1) X 4 d_Ep_level_1 (by decide) ?_
      refine aw_icmp_leN (pc := 2) X (tgt := 11) d_Ep_level_2 (by rfl) (by omega) (by omega) (fun h2 => ?_) (fun h2 => ?_)
      -- br 2 lv=0:r,1:n,2:n st=
      · omega
      · refine aw_aload_nR (pc := 5) X d_Ep_level_5 (by rfl) ?_
        refine aw_iload_n (pc := 6) X d_Ep_level_6 (by rfl) ?_
        -- invokevirtual 7 lv=0:r,1:n,2:n st=n,r
        refine aw_callV (pc := 7) X _ (hOp ((7 - dp) * 7 + 3) rfl (by omega)) q_Ep_operand k_746 k_748 k_17 (by omega) e1 (by rfl) d_Ep_level_7 (by omega) (Nat.le_of_ble_eq_true rfl) ⟨by omega, by omega⟩ (fun h => by cases h) (fun r w2 nx2 hp => ?_)
        obtain ⟨rfl, rfl, rfl⟩ := hp
        refine aw_lret Y X rfl d_Ep_level_10 (by omega) (by omega) (hP _ _ _ ?_)
        -- ret 10 lv=0:r,1:n,2:n st=l
        exact ⟨rfl, rfl, rfl⟩
    · have hl0 := h
      rw [ev, if_pos (by omega)] at hl0
      obtain ⟨q, h1, hq2⟩ := Option.bind_eq_some_iff.mp hl0
      have hq := ev_le S _ _ _ _ _ _ _ _ h1 hx
      have L : ∀ (f' : Nat) (l : Int64) (y : ES), f' ≤ f → y.1 ≤ S.length → ev S f' s dp l true y = some (v, x') → AW G E 6 nx 0 0 (wE G w y) 20 [(3, .long l), (0, rf G 413), (1, .int (nI s)), (2, .int (nI dp))] [] := by
        intro f'
        induction f' with
        | zero => intro l y _ _ hy; simp [ev] at hy
        | succ f' ihL =>
          intro l y hf' hy1 hy
          rw [ev] at hy
          have e1 := wE_at G w y
          have e2 : wE G w y 414 = oTx G 415 S.length := (wE_ne G w _ (by omega)).trans s1
          have e3 : wE G w y 415 = aCh G 400 gg := (wE_ne G w _ (by omega)).trans s2
          have hb := bN_lt y.2.1
          have fin : ¬ (y.2.1 = false ∧ y.1 < S.length ∧ strS (S.getD y.1 0) = s) → ∀ lv, aw_lg lv 3 = some (.long l) → AW G E 6 nx 0 0 (wE G w y) 103 lv [] := fun hn lv hlv => by
            rw [if_neg hn] at hy
            refine aw_lload_n (pc := 103) X d_Ep_level_103 hlv ?_
            refine aw_lret Y X rfl d_Ep_level_104 (by omega) (by omega) (hP _ _ _ ?_)
            cases hy
            exact ⟨rfl, rfl, rfl⟩
          refine aw_aload_nR (pc := 20) X d_Ep_level_20 (by rfl) ?_
          refine aw_getO (pc := 21) X _ 2 (by omega) (by (repeat (first | rw [aw_up_eq] | rw [aw_up_ne _ _ (by first | assumption | omega)])) <;> first | assumption | rfl) (by rfl) in_Ep (by decide) k_343 (by rfl) d_Ep_level_21 ?_
          refine aw_if_neN (pc := 24) X (tgt := 103) d_Ep_level_24 (by rfl) (by omega) (fun h24 => ?_) (fun h24 => ?_)
          -- br 24 lv=3:l,0:r,1:n,2:n st=
          · exact fin (fun z => by rw [bN_ne.mp h24] at z; cases z.1) _ (by rfl)
          · have hw0 := bN_eq.mp h24
            refine aw_aload_nR (pc := 27) X d_Ep_level_27 (by rfl) ?_
            refine aw_getO (pc := 28) X _ 1 (by omega) (by (repeat (first | rw [aw_up_eq] | rw [aw_up_ne _ _ (by first | assumption | omega)])) <;> first | assumption | rfl) (by rfl) in_Ep (by decide) k_342 (by rfl) d_Ep_level_28 ?_
            refine aw_aload_nR (pc := 31) X d_Ep_level_31 (by rfl) ?_
            refine aw_getO (pc := 32) X _ 0 (by omega) (by (repeat (first | rw [aw_up_eq] | rw [aw_up_ne _ _ (by first | assumption | omega)])) <;> first | assumption | rfl) (by rfl) in_Ep (by decide) k_341 (by rfl) d_Ep_level_32 ?_
            refine aw_getNO (pc := 35) X _ 1 (by omega) (by (repeat (first | rw [aw_up_eq] | rw [aw_up_ne _ _ (by first | assumption | omega)])) <;> first | assumption | rfl) (by rfl) in_Tx (by decide) k_112 (by rfl) d_Ep_level_35 ?_
            refine aw_icmp_geN (pc := 38) X (tgt := 103) d_Ep_level_38 (by rfl) (by omega) (by omega) (fun h38 => ?_) (fun h38 => ?_)
            -- br 38 lv=3:l,0:r,1:n,2:n st=
            · exact fin (fun z => by omega) _ (by rfl)
            · have hgd := sl_D s3 h38
              have s4y := s4 y.1
              refine aw_aload_nR (pc := 41) X d_Ep_level_41 (by rfl) ?_
              refine aw_getO (pc := 42) X _ 0 (by omega) (by (repeat (first | rw [aw_up_eq] | rw [aw_up_ne _ _ (by first | assumption | omega)])) <;> first | assumption | rfl) (by rfl) in_Ep (by decide) k_341 (by rfl) d_Ep_level_42 ?_
              refine aw_getNO (pc := 45) X _ 0 (by omega) (by (repeat (first | rw [aw_up_eq] | rw [aw_up_ne _ _ (by first | assumption | omega)])) <;> first | assumption | rfl) (by rfl) in_Tx (by decide) k_106 (by rfl) d_Ep_level_45 ?_
              refine aw_aload_nR (pc := 48) X d_Ep_level_48 (by rfl) ?_
              refine aw_getO (pc := 49) X _ 1 (by omega) (by (repeat (first | rw [aw_up_eq] | rw [aw_up_ne _ _ (by first | assumption | omega)])) <;> first | assumption | rfl) (by rfl) in_Ep (by decide) k_342 (by rfl) d_Ep_level_49 ?_
              refine aw_caldN (pc := 52) X _ 0 (by omega) (by (repeat (first | rw [aw_up_eq] | rw [aw_up_ne _ _ (by first | assumption | omega)])) <;> first | assumption | rfl) (by rfl) (by omega) (by omega) d_Ep_level_52 ?_
              -- invokestatic 53 lv=3:l,0:r,1:n,2:n st=n
              refine aw_callS (pc := 53) X (c_Ep_strengthOf (d := 0) s4y) q_Ep_strengthOf k_756 k_757 d_Ep_level_53 (by omega) (Nat.le_of_ble_eq_true rfl) ⟨by omega, by omega⟩ (fun h => by cases h) (fun r w2 nx2 hp => ?_)
              obtain ⟨rfl, rfl, rfl⟩ := hp
              have hst4 : strS (gg y.1) < 5 := by unfold strS; repeat (first | split | omega)
              refine aw_iload_n (pc := 56) X d_Ep_level_56 (by rfl) ?_
              refine aw_icmp_neN (pc := 57) X (tgt := 103) d_Ep_level_57 (by rfl) (by omega) (by omega) (fun h57 => ?_) (fun h57 => ?_)
              -- br 57 lv=3:l,0:r,1:n,2:n st=
              · exact fin (fun z => h57 (by rw [← hgd]; exact z.2.2)) _ (by rfl)
              · rw [if_pos ⟨hw0, h38, by rw [hgd]; exact h57⟩, hgd] at hy
                obtain ⟨u, hu1, hu2⟩ := Option.bind_eq_some_iff.mp hy
                have hu3 := ev_le S _ _ _ _ _ _ _ _ hu1 (show (y.1 + 1, y.2).1 ≤ S.length from h38)
                refine aw_aload_nR (pc := 60) X d_Ep_level_60 (by rfl) ?_
                refine aw_getO (pc := 61) X _ 0 (by omega) (by (repeat (first | rw [aw_up_eq] | rw [aw_up_ne _ _ (by first | assumption | omega)])) <;> first | assumption | rfl) (by rfl) in_Ep (by decide) k_341 (by rfl) d_Ep_level_61 ?_
                refine aw_getNO (pc := 64) X _ 0 (by omega) (by (repeat (first | rw [aw_up_eq] | rw [aw_up_ne _ _ (by first | assumption | omega)])) <;> first | assumption | rfl) (by rfl) in_Tx (by decide) k_106 (by rfl) d_Ep_level_64 ?_
                refine aw_aload_nR (pc := 67) X d_Ep_level_67 (by rfl) ?_
                refine aw_getO (pc := 68) X _ 1 (by omega) (by (repeat (first | rw [aw_up_eq] | rw [aw_up_ne _ _ (by first | assumption | omega)])) <;> first | assumption | rfl) (by rfl) in_Ep (by decide) k_342 (by rfl) d_Ep_level_68 ?_
                refine aw_caldN (pc := 71) X _ 0 (by omega) (by (repeat (first | rw [aw_up_eq] | rw [aw_up_ne _ _ (by first | assumption | omega)])) <;> first | assumption | rfl) (by rfl) (by omega) (by omega) d_Ep_level_71 ?_
                refine aw_istore (pc := 72) X (lv' := [(5, _), (3, _), (0, _), (1, _), (2, _)]) d_Ep_level_72 (by decide) (by rfl) ?_
                refine aw_aload_nR (pc := 74) X d_Ep_level_74 (by rfl) ?_
                refine aw_dup (pc := 75) X d_Ep_level_75 (by rfl) ?_
                refine aw_getO (pc := 76) X _ 1 (by omega) (by (repeat (first | rw [aw_up_eq] | rw [aw_up_ne _ _ (by first | assumption | omega)])) <;> first | assumption | rfl) (by rfl) in_Ep (by decide) k_342 (by rfl) d_Ep_level_76 ?_
                refine aw_iconstN (pc := 79) X 1 d_Ep_level_79 (by decide) ?_
                refine aw_iaddN (pc := 80) X d_Ep_level_80 ?_
                refine aw_putO (pc := 81) X _ 1 (by omega) (by (repeat (first | rw [aw_up_eq] | rw [aw_up_ne _ _ (by first | assumption | omega)])) <;> first | assumption | rfl) (by rfl) in_Ep (by decide) ty_Ep ok_Ep nm_Ep k_342 (by rfl) (by rfl) (by rfl) (by simp) (fs' := [_, _, _, _]) (by rfl) d_Ep_level_81 ?_
                -- stop 84 lv=5:n,3:l,0:r,1:n,2:n st=
                refine AW.eqw (wE_up G w y (y.1 + 1, y.2)) ?_
                refine aw_aload_nR (pc := 84) X d_Ep_level_84 (by rfl) ?_
                refine aw_iload (pc := 85) X d_Ep_level_85 (by rfl) ?_
                refine aw_lload_n (pc := 87) X d_Ep_level_87 (by rfl) ?_
                refine aw_aload_nR (pc := 88) X d_Ep_level_88 (by rfl) ?_
                refine aw_iload_n (pc := 89) X d_Ep_level_89 (by rfl) ?_
                refine aw_iconstN (pc := 90) X 1 d_Ep_level_90 (by decide) ?_
                refine aw_iaddN (pc := 91) X d_Ep_level_91 ?_
                refine aw_iload_n (pc := 92) X d_Ep_level_92 (by rfl) ?_
                -- invokevirtual 93 lv=5:n,3:l,0:r,1:n,2:n st=n,n,r,l,n,r
                have hev : ev S f (s + 1) dp 0 false (y.1 + 1, y.2) = some u := ev_mono S hu1 (by omega)
                refine aw_callV (pc := 93) X _ ((ih (s + 1) dp ((7 - dp) * 7 + (6 - (s + 1)) + 3) nx2 w _ _ _ hev (by omega) (by omega) hdp (show (y.1 + 1, y.2).1 ≤ S.length from h38) hS hnx).1 (Nat.le_refl _)) q_Ep_level k_742 k_744 k_16 (by omega) (wE_at _ _ _) (by rfl) d_Ep_level_93 (by omega) (Nat.le_of_ble_eq_true rfl) ⟨by omega, by omega⟩ (fun h => by cases h) (fun r w2 nx2 hp => ?_)
                obtain ⟨rfl, rfl, rfl⟩ := hp
                refine aw_callV (pc := 96) X _ (c_Ep_combine (d := 1) (x := u.2) (o := gg y.1) (by omega) (by omega) s4y) q_Ep_combine k_759 k_761 k_19 (by omega) (wE_at _ _ _) (by rfl) d_Ep_level_96 (by omega) (Nat.le_of_ble_eq_true rfl) ⟨by omega, by omega⟩ (fun h => by cases h) (fun r w2 nx2 hp => ?_)
                obtain ⟨rfl, rfl, rfl⟩ := hp
                refine aw_lstore_n (pc := 99) X (lv' := [(3, _), (5, _), (0, _), (1, _), (2, _)]) d_Ep_level_99 (by decide) (by rfl) ?_
                refine aw_goto (pc := 100) X (tgt := 20) d_Ep_level_100 (by rfl) ?_
                -- stop 20 lv=3:l,5:n,0:r,1:n,2:n st=
                refine AW.lsub [0, 2, 3, 4] (by rfl) ?_
                exact ihL _ _ (by omega) hu3 hu2
      have e1 := wE_at G w x
      refine aw_iload_n (pc := 0) X d_Ep_level_0 (by rfl) ?_
      refine aw_iconstN (pc := 1) X 4 d_Ep_level_1 (by decide) ?_
      refine aw_icmp_leN (pc := 2) X (tgt := 11) d_Ep_level_2 (by rfl) (by omega) (by omega) (fun h2 => ?_) (fun h2 => ?_)
      -- br 2 lv=0:r,1:n,2:n st=
      · refine aw_aload_nR (pc := 11) X d_Ep_level_11 (by rfl) ?_
        refine aw_iload_n (pc := 12) X d_Ep_level_12 (by rfl) ?_
        refine aw_iconstN (pc := 13) X 1 d_Ep_level_13 (by decide) ?_
        refine aw_iaddN (pc := 14) X d_Ep_level_14 ?_
        refine aw_iload_n (pc := 15) X d_Ep_level_15 (by rfl) ?_
        -- invokevirtual 16 lv=0:r,1:n,2:n st=n,n,r
        refine aw_callV (pc := 16) X _ ((ih (s + 1) dp ((7 - dp) * 7 + (6 - (s + 1)) + 3) nx w _ _ _ h1 (by omega) (by omega) hdp hx hS hnx).1 (Nat.le_refl _)) q_Ep_level k_742 k_744 k_16 (by omega) e1 (by rfl) d_Ep_level_16 (by omega) (Nat.le_of_ble_eq_true rfl) ⟨by omega, by omega⟩ (fun h => by cases h) (fun r w2 nx2 hp => ?_)
        obtain ⟨rfl, rfl, rfl⟩ := hp
        refine aw_lstore_n (pc := 19) X (lv' := [(3, _), (0, _), (1, _), (2, _)]) d_Ep_level_19 (by decide) (by rfl) ?_
        -- stop 20 lv=3:l,0:r,1:n,2:n st=
        exact L f _ _ (Nat.le_refl _) hq hq2
      · omega
end

