/-! the reference: named -/
theorem pV_40 {o : Option Nat} (ho : ∀ k, o = some k → k < 2 ^ 31) : pV o = nI 40 ↔ o = some 40 := pV_inj ho (by decide)
section
variable {G : aw_G} {nx d : Nat} {w0 : Nat → va_E} {p : Int32} {m : Nat → Nat} {A : Nat → Nat → Nat} {V : Nat → Int64} {tx : List Nat} {σ : SQ} {st : Nat × Nat}
theorem s_Mo_named {c : Nat} {F : List Nat} (hnx : 442 ≤ nx) (hd : 8 ≤ d) (e28 : m 28 = 0) (hF : σ.1.1 = c :: F) (hlc : isLet c = true) (hR : RM p m A tx σ st) (hM : hMo G w0 p m A V) : AC G y_Mo_named b_Mo_named 5 none d false [rf G 418] nx w0 0 0 (mq G nx w0 (fun x p' m' A' V' => x = none ∧ RM p' m' A' tx (stpX (nmS σ)).2 st ∧ m' 28 = (stpX (nmS σ)).1)) := by
  have c2 := hR.2.1
  have c21 := c2.1
  have c22 := c2.2.1
  have c3 := hR.2.2.1
  have hFl : σ.1.1.length = F.length + 1 := by rw [hF]; rfl
  have hb420 := hM.b420
  have hnle := nmLen_le σ.1.1
  have hnm : nmLen σ.1.1 = 1 + (F.takeWhile isLD).length := by rw [hF]; simp [nmLen, hlc]
  have hcb : ∀ k x, (σ.1.1)[k]? = some x → x < 65536 := fun k x hx => by
    have hk := (List.getElem?_eq_some_iff.mp hx).1
    have := c2.2.2 k hk
    rw [List.getD_eq_getElem?_getD, hx] at this
    have h4 : x = A 420 (σ.1.1.length - 1 - k) := this
    rw [h4]
    exact hb420 _
  generalize hn : nmLen σ.1.1 = n at hnm hnle
  generalize hs1 : (((σ.1.1.drop n, σ.1.2), σ.2.1, mkB σ.2.2.1, σ.2.2.2) : SQ) = s1
  have hg1 : s1.2.1.length ≤ 400 := by rw [← hs1]; exact hR.2.2.2.2.1.2.1
  have hg2 : ∀ q, s1.1.2.1 = some q → (s1.1.2.2.1 q).length ≤ 300 := fun q hq => by
    rw [← hs1] at hq ⊢
    exact (hR.2.2.2.2.2.1 q (hR.2.2.2.2.2.2.1.2 q hq)).2.1
  refine AC.ofW (by decide) (Nat.le_of_ble_eq_true rfl) ?_
  intro E P hP Y X
  have X : aw_X G "RescanDeskModel" b_Mo_named 5 none "named" _ _ _ _ _ E := X
  refine AW.eql (lv' := [(0, _)]) (by rfl) ?_
  have hf : fr 418 442 w0 w0 := fr.refl _ _ _
  -- the name is written
  have KW : ∀ (x : Int32), nmS σ = ((wrS s1 (σ.1.1.take n)).1, (wrS s1 (σ.1.1.take n)).2, none) → ∀ (j i : Nat), i + j = n → ∀ w1 p1 m1 A1 V1, hMo G w1 p1 m1 A1 V1 → fr 418 442 w0 w1 → (∀ y, y < n → A1 438 y = σ.1.1.getD y 0) → m1 28 ≤ 6 → RM p1 m1 A1 tx (wrS s1 (σ.1.1.take i)).2 st → m1 28 = (wrS s1 (σ.1.1.take i)).1 → AW G E 5 nx 0 0 w1 101 [(3, .int (nI i)), (2, .int x), (1, .int (nI n)), (0, rf G 418)] [] := by
    intro x hnS j
    induction j with
    | zero =>
      intro i hi w1 p1 m1 A1 V1 hM hf h438 h6 hR2 he2
      rw [show i = n by omega] at hR2 he2
      refine aw_iload_n (pc := 101) X d_Mo_named_101 (by rfl) ?_
      refine aw_iload_n (pc := 102) X d_Mo_named_102 (by rfl) ?_
      refine aw_icmp_geN (pc := 103) X (tgt := 122) d_Mo_named_103 (by rfl) (by omega) (by omega) (fun h103 => ?_) (fun h103 => ?_)
      -- br 103 lv=3:n,2:i,1:n,0:r st=
      · refine aw_vret Y X rfl d_Mo_named_122 (by omega) (by omega) (hP _ _ _ ?_)
        -- ret 122 lv=3:n,2:i,1:n,0:r st=
        rw [hnS, stpX_none]
        exact ⟨rfl, hf, _, _, _, _, hM, rfl, hR2, he2⟩
      · omega
    | succ j ih =>
      intro i hi w1 p1 m1 A1 V1 hM hf h438 h6 hR2 he2
      have hch := h438 i (by omega)
      refine aw_iload_n (pc := 101) X d_Mo_named_101 (by rfl) ?_
      refine aw_iload_n (pc := 102) X d_Mo_named_102 (by rfl) ?_
      refine aw_icmp_geN (pc := 103) X (tgt := 122) d_Mo_named_103 (by rfl) (by omega) (by omega) (fun h103 => ?_) (fun h103 => ?_)
      -- br 103 lv=3:n,2:i,1:n,0:r st=
      · omega
      · refine aw_aload_nR (pc := 106) X d_Mo_named_106 (by rfl) ?_
        refine aw_aload_nR (pc := 107) X d_Mo_named_107 (by rfl) ?_
        refine gm_27 (pc := 108) X hM (by omega) d_Mo_named_108 ?_
        refine aw_iload_n (pc := 111) X d_Mo_named_111 (by rfl) ?_
        refine aw_caldN (pc := 112) X 438 0 (by omega) hM.a438 (by rfl) (by omega) (by decide) d_Mo_named_112 ?_
        -- invokevirtual 113 lv=3:n,2:i,1:n,0:r st=n,r
        refine aw_callV (pc := 113) X _ (s_Mo_write (d := 1) hnx (by omega) (hM.b438 _) h6 hR2 hM) q_Mo_write k_1019 k_1021 k_31 (by omega) hM.1 (by rfl) d_Mo_named_113 (by omega) (Nat.le_of_ble_eq_true rfl) ⟨by omega, by omega⟩ (fun h => by cases h) (fun r w nx hp => ?_)
        clear hM
        obtain ⟨rfl, hf1, p, m, A, V, hM, hq⟩ := hp
        replace hf := hf.trans hf1
        obtain ⟨rfl, hR3, he3, h438', -, -⟩ := hq
        refine aw_iincN (pc := 116) X 1 (lv' := [(3, _), (2, _), (1, _), (0, _)]) d_Mo_named_116 (by rfl) (by decide) (by decide) (by rfl) ?_
        refine aw_goto (pc := 119) X (tgt := 101) d_Mo_named_119 (by rfl) ?_
        -- stop 101 lv=3:n,2:i,1:n,0:r st=
        have hw := wrS_app (σ := s1) (s := σ.1.1.take i) (c := σ.1.1.getD i 0) hg1 hg2
        rw [← take1 (show i < σ.1.1.length by omega)] at hw
        rw [hch, he2] at hR3 he3
        refine ih (i + 1) (by omega) _ _ _ _ _ hM hf (fun y hy => by rw [h438']; exact h438 y hy) ?_ ?_ ?_
        · rw [he3]
          split
          · exact wrS_le _ _
          · exact wrS_le _ _
        · rw [hw]
          split
          · rename_i h0
            rw [if_pos h0] at hR3
            exact hR3
          · rename_i h0
            rw [if_neg h0] at hR3
            exact hR3
        · rw [hw, he3]
          split
          · rfl
          · rfl
  -- the name stands in 'making', the call's argument has begun
  have J74 : ∀ w1 A1, hMo G w1 p m A1 V → fr 418 442 w0 w1 → A1 420 = A 420 → (∀ y, y < n → A1 438 y = σ.1.1.getD y 0) → RM p m A1 tx (σ.1, σ.2.1, mkB σ.2.2.1, σ.2.2.2) st → AW G E 5 nx 0 0 w1 74 [(2, .int (nI n)), (1, .int (nI n)), (0, rf G 418)] [] := by
    intro w1 A1 hM hf h420 h438 hR1
    have hsl : σ.1.1.take n = sl (A1 438) 0 n := by
      apply List.ext_getElem
      · rw [List.length_take, sl_len]; omega
      · intro i h1 h2
        rw [sl_len] at h2
        have e1 : (σ.1.1.take n)[i]? = some (σ.1.1.getD i 0) := by rw [List.getElem?_take_of_lt h2]; exact getD_some (by omega)
        have e2 : (sl (A1 438) 0 n)[i]? = some (A1 438 (0 + i)) := sl_get h2
        rw [List.getElem?_eq_getElem h1] at e1
        rw [List.getElem?_eq_getElem (by rw [sl_len]; exact h2)] at e2
        rw [Option.some.inj e1, Option.some.inj e2, Nat.zero_add, h438 i h2]
    have hFd : RF (m 3 - n) (A1 420) (σ.1.1.drop n) := by rw [h420]; exact c2.drop hnle
    have hR2 : RM p (mu m 3 (m 3 - n)) A1 tx s1 st := by
      rw [← hs1]
      exact hR1.fr (fun j h _ _ => if_neg h) (fun _ _ _ => rfl) hFd
    have hT1 := hR2.2.2.1
    have hT0 : s1.1.2.2.2 = σ.1.2.2.2 := by rw [← hs1]
    rw [hT0] at hT1
    -- with the front that is left
    have J94 : ∀ w2, hMo G w2 p (mu m 3 (m 3 - n)) A1 V → fr 418 442 w0 w2 → AW G E 5 nx 0 0 w2 94 [(2, .int (nI n)), (1, .int (nI n)), (0, rf G 418)] [.int (pV (tfind σ.1.2.2.2 (σ.1.1.take n)))] := by
      intro w2 hM hf
      cases ho : tfind σ.1.2.2.2 (σ.1.1.take n) with
      | none =>
        have hnS : nmS σ = ((wrS s1 (σ.1.1.take n)).1, (wrS s1 (σ.1.1.take n)).2, none) := by
          unfold nmS
          simp only
          rw [hn, ho]
          simp only
          rw [hs1]
        have hnil := wrS_nil hg1 hg2
        refine aw_istore_n (pc := 94) X (lv' := [(2, _), (1, _), (0, _)]) d_Mo_named_94 (by decide) (by rfl) ?_
        refine aw_iload_n (pc := 95) X d_Mo_named_95 (by rfl) ?_
        refine aw_if_ge (pc := 96) X (tgt := 123) d_Mo_named_96 (by rfl) (fun h96 => ?_) (fun h96 => ?_)
        -- br 96 lv=2:i,1:n,0:r st=
        · exact absurd (show pV none < 0 by decide) (Int32.not_lt.mpr h96)
        · refine aw_iconstN (pc := 99) X 0 d_Mo_named_99 (by decide) ?_
          refine aw_istore_n (pc := 100) X (lv' := [(3, _), (2, _), (1, _), (0, _)]) d_Mo_named_100 (by decide) (by rfl) ?_
          -- stop 101 lv=3:n,2:i,1:n,0:r st=
          exact KW _ hnS n 0 (by omega) _ p (mu m 3 (m 3 - n)) A1 V hM hf h438 (show m 28 ≤ 6 by omega) (by rw [List.take_zero, hnil]; exact hR2) (by rw [List.take_zero, hnil]; exact e28)
      | some i =>
        have hi : i < σ.1.2.2.2.length := tfd_lt ho
        have hi60 := c3.2.1
        have hti : σ.1.2.2.2[i]? = some σ.1.2.2.2[i] := List.getElem?_eq_getElem hi
        have hgi : σ.1.2.2.2.getD i ([], 0, []) = σ.1.2.2.2[i] := by rw [List.getD_eq_getElem?_getD, hti]; rfl
        have hDi := hT1.2.2 i _ hti
        generalize σ.1.2.2.2[i] = t at hti hgi hDi
        have hnS : nmS σ = (if (σ.1.1.drop n).head? = some 40 then (if 12 ≤ σ.2.2.1.length then (2, (((σ.1.1.drop n).drop 1, σ.1.2), σ.2.1, mkB σ.2.2.1, σ.2.2.2), none) else (0, (((σ.1.1.drop n).drop 1, σ.1.2), σ.2.1, (t, [σ.2.1.length], 0, false) :: mkB σ.2.2.1, max σ.2.2.2 (σ.2.2.1.length + 1)), none)) else (0, s1, some (t, []))) := by
          unfold nmS
          simp only
          rw [hn, ho]
          simp only
          rw [hgi, hs1]
        have hhd : (σ.1.1.drop n).head? = (σ.1.1.drop n)[0]? := List.head?_eq_getElem?
        have hok : ∀ k, (σ.1.1.drop n)[0]? = some k → k < 2 ^ 31 := fun k hk => by
          rw [List.getElem?_drop] at hk
          have := hcb _ _ hk
          omega
        rw [pV_some]
        refine aw_istore_n (pc := 94) X (lv' := [(2, _), (1, _), (0, _)]) d_Mo_named_94 (by decide) (by rfl) ?_
        refine aw_iload_n (pc := 95) X d_Mo_named_95 (by rfl) ?_
        refine aw_if_geN (pc := 96) X (tgt := 123) d_Mo_named_96 (by rfl) (by omega) ?_
        refine aw_aload_nR (pc := 123) X d_Mo_named_123 (by rfl) ?_
        refine aw_iconstN (pc := 124) X 0 d_Mo_named_124 (by decide) ?_
        -- invokevirtual 125 lv=2:n,1:n,0:r st=n,r
        refine aw_callV (pc := 125) X _ (s_Mo_next (m := mu m 3 (m 3 - n)) (d := 0) (F := σ.1.1.drop n) hnx (by omega) hFd hM) q_Mo_next k_1011 k_1013 k_29 (by omega) hM.1 (by rfl) d_Mo_named_125 (by omega) (Nat.le_of_ble_eq_true rfl) ⟨by omega, by omega⟩ (fun h => by cases h) (fun r w nx hp => ?_)
        obtain ⟨rfl, rfl, rfl⟩ := hp
        refine aw_bipushN (pc := 128) X 40 d_Mo_named_128 (by decide) ?_
        refine aw_icmp_ne (pc := 130) X (tgt := 137) d_Mo_named_130 (by rfl) (fun h130 => ?_) (fun h130 => ?_)
        -- br 130 lv=2:n,1:n,0:r st=
        · have hne : ¬ (σ.1.1.drop n).head? = some 40 := fun z => h130 ((pV_40 hok).mpr (hhd ▸ z))
          rw [if_neg hne] at hnS
          refine aw_iconstN (pc := 137) X 0 d_Mo_named_137 (by decide) ?_
          refine aw_istore_n (pc := 138) X (lv' := [(3, _), (2, _), (1, _), (0, _)]) d_Mo_named_138 (by decide) (by rfl) ?_
          refine aw_aload_nR (pc := 139) X d_Mo_named_139 (by rfl) ?_
          refine aw_dup (pc := 140) X d_Mo_named_140 (by rfl) ?_
          refine gm_3 (pc := 141) X hM (by omega) d_Mo_named_141 ?_
          try simp only [mu, au, reduceIte, Nat.reduceEqDiff]
          refine aw_iload_n (pc := 144) X d_Mo_named_144 (by rfl) ?_
          refine aw_if_eqN (pc := 145) X (tgt := 152) d_Mo_named_145 (by rfl) (by omega) (fun h145 => ?_) (fun h145 => ?_)
          -- br 145 lv=3:n,2:n,1:n,0:r st=n,r
          · refine aw_iconstN (pc := 152) X 0 d_Mo_named_152 (by decide) ?_
            refine aw_isubN (pc := 153) X d_Mo_named_153 (by omega) ?_
            refine pm_3 (pc := 154) X hM hf (by omega) d_Mo_named_154 (fun w hM hf => ?_)
            refine aw_iload_n (pc := 157) X d_Mo_named_157 (by rfl) ?_
            refine aw_if_eqN (pc := 158) X (tgt := 168) d_Mo_named_158 (by rfl) (by omega) (fun h158 => ?_) (fun h158 => ?_)
            -- br 158 lv=3:n,2:n,1:n,0:r st=
            · refine aw_bipushN (pc := 168) X 12 d_Mo_named_168 (by decide) ?_
              refine aw_istore (pc := 170) X (lv' := [(4, _), (3, _), (2, _), (1, _), (0, _)]) d_Mo_named_170 (by decide) (by rfl) ?_
              refine aw_iload (pc := 172) X d_Mo_named_172 (by rfl) ?_
              refine aw_bipushN (pc := 174) X 12 d_Mo_named_174 (by decide) ?_
              refine aw_icmp_neN (pc := 176) X (tgt := 189) d_Mo_named_176 (by rfl) (by omega) (by omega) (fun h176 => ?_) (fun h176 => ?_)
              -- br 176 lv=4:n,3:n,2:n,1:n,0:r st=
              · exact absurd rfl h176
              · refine aw_iload_n (pc := 179) X d_Mo_named_179 (by rfl) ?_
                refine aw_if_eqN (pc := 180) X (tgt := 189) d_Mo_named_180 (by rfl) (by omega) (fun h180 => ?_) (fun h180 => ?_)
                -- br 180 lv=4:n,3:n,2:n,1:n,0:r st=
                · rw [Nat.sub_zero] at hM
                  have fin0 : ∀ w3 A3, hMo G w3 p (mu (mu m 3 (m 3 - n)) 3 (m 3 - n)) A3 V → fr 418 442 w0 w3 → (∀ a, a < 426 ∨ 430 < a → A3 a = A1 a) → dR (A3 427 12) (A3 426) (12 * 12) (A3 428 12) (A3 430 12) (A3 429) (100 * 12) t → (∀ x, x < 12 * 12 ∨ 12 * 12 + 12 ≤ x → A3 426 x = A1 426 x) → (∀ x, x < 100 * 12 ∨ 100 * 12 + 100 ≤ x → A3 429 x = A1 429 x) → (∀ x, x ≠ 12 → A3 427 x = A1 427 x ∧ A3 428 x = A1 428 x ∧ A3 430 x = A1 430 x) → AW G E 5 nx 0 0 w3 196 [(4, .int (nI 12)), (3, .int (nI 0)), (2, .int (nI i)), (1, .int (nI n)), (0, rf G 418)] [] := by
                    intro w3 A3 hM hf hA3 hD3 b1 b2 b3
                    have hlow : lowA A1 (au A3 431 12 0) := by
                      refine ⟨fun x hx => b1 x (by omega), fun x hx => ?_, fun x hx => b2 x (by omega), fun x hx => by show A3 432 x = _; rw [hA3 432 (by omega)]⟩
                      obtain ⟨y1, y2, y3⟩ := b3 x (by omega)
                      refine ⟨y1, y2, y3, ?_, ?_, ?_⟩
                      · show aw_un (A3 431) 12 0 x = _
                        rw [aw_un_ne _ _ (by omega), hA3 431 (by omega)]
                      · show A3 433 x = _
                        rw [hA3 433 (by omega)]
                      · show A3 434 x = _
                        rw [hA3 434 (by omega)]
                    have hY : RY (au A3 431 12 0) t [] := ⟨hD3, rfl, Nat.zero_le _, fun k h1 h2 => by simp at h2; omega⟩
                    have hR3 : RM p (mu (mu m 3 (m 3 - n)) 3 (m 3 - n)) (au A3 431 12 0) tx s1 st := by
                      obtain ⟨q1, q2, q3, q4, q5, q6, q7⟩ := hR2
                      refine ⟨?_, ?_, ?_, ?_, ?_, ?_, q7⟩
                      · show RTx _ (A3 419) _
                        rw [hA3 419 (by omega)]; exact q1
                      · show RF _ (A3 420) _
                        rw [hA3 420 (by omega)]; exact q2
                      · show RT _ (A3 421) (A3 422) (A3 423) (A3 424) (A3 425) _
                        rw [hA3 421 (by omega), hA3 422 (by omega), hA3 423 (by omega), hA3 424 (by omega), hA3 425 (by omega)]; exact q3
                      · exact q4.low (okC.len (n := 0) q5.2.2.2) hlow
                      · show RG _ (A3 435) _ _
                        rw [hA3 435 (by omega)]; exact q5
                      · show RR (A3 436) (A3 437) _
                        rw [hA3 436 (by omega), hA3 437 (by omega)]; exact q6
                    refine aw_iload_n (pc := 196) X d_Mo_named_196 (by rfl) ?_
                    refine aw_if_neN (pc := 197) X (tgt := 213) d_Mo_named_197 (by rfl) (by omega) (fun h197 => ?_) (fun h197 => ?_)
                    -- br 197 lv=4:n,3:n,2:n,1:n,0:r st=
                    · exact absurd rfl h197
                    · refine aw_aload_nR (pc := 200) X d_Mo_named_200 (by rfl) ?_
                      refine gm_17 (pc := 201) X hM (by omega) d_Mo_named_201 ?_
                      refine aw_bipushN (pc := 204) X 12 d_Mo_named_204 (by decide) ?_
                      refine aw_iconstN (pc := 206) X 0 d_Mo_named_206 (by decide) ?_
                      refine sm_431 (pc := 207) X hM hf (by omega) (by omega) d_Mo_named_207 (fun w hM hf => ?_)
                      refine aw_aload_nR (pc := 208) X d_Mo_named_208 (by rfl) ?_
                      -- invokevirtual 209 lv=4:n,3:n,2:n,1:n,0:r st=r
                      refine aw_callV (pc := 209) X _ (s_Mo_expand (m := mu (mu m 3 (m 3 - n)) 3 (m 3 - n)) (d := 6) (σ := s1) hnx (by omega) e28 hY hR3 hM) q_Mo_expand k_1045 k_1047 k_36 (by omega) hM.1 (by rfl) d_Mo_named_209 (by omega) (Nat.le_of_ble_eq_true rfl) ⟨by omega, by omega⟩ (fun h => by cases h) (fun r w nx hp => ?_)
                      clear hM
                      obtain ⟨rfl, hf1, p, m, A, V, hM, hq⟩ := hp
                      replace hf := hf.trans hf1
                      obtain ⟨rfl, hR4, he4⟩ := hq
                      refine aw_vret Y X rfl d_Mo_named_212 (by omega) (by omega) (hP _ _ _ ?_)
                      -- ret 212 lv=4:n,3:n,2:n,1:n,0:r st=
                      rw [hnS]
                      exact ⟨rfl, hf, _, _, _, _, hM, rfl, hR4, he4⟩
                  refine aw_aload_nR (pc := 189) X d_Mo_named_189 (by rfl) ?_
                  refine aw_iload (pc := 190) X d_Mo_named_190 (by rfl) ?_
                  refine aw_iload_n (pc := 192) X d_Mo_named_192 (by rfl) ?_
                  -- invokevirtual 193 lv=4:n,3:n,2:n,1:n,0:r st=n,n,r
                  refine aw_callV (pc := 193) X _ (s_Mo_begin (d := 0) (at_ := 12) (dd := i) (t := t) hnx (by omega) (by omega) hDi hM) q_Mo_begin k_1041 k_1043 k_35 (by omega) hM.1 (by rfl) d_Mo_named_193 (by omega) (Nat.le_of_ble_eq_true rfl) ⟨by omega, by omega⟩ (fun h => by cases h) (fun r w nx hp => ?_)
                  clear hM
                  obtain ⟨rfl, hf1, p, m, A, V, hM, hq⟩ := hp
                  replace hf := hf.trans hf1
                  obtain ⟨rfl, hpp, hvv, hmm, hA3, hD3, b1, b2, b3⟩ := hq
                  rw [hpp, hvv, hmm] at hM
                  exact fin0 _ _ hM hf hA3 hD3 b1 b2 b3
                · exact absurd rfl h180
            · exact absurd rfl h158
          · exact absurd rfl h145
        · have hh0 : (σ.1.1.drop n)[0]? = some 40 := (pV_40 hok).mp h130
          have he40 : (σ.1.1.drop n).head? = some 40 := hhd.trans hh0
          rw [if_pos he40] at hnS
          have hlt : n < σ.1.1.length := by
            have := (List.getElem?_eq_some_iff.mp hh0).1
            rw [List.length_drop] at this
            omega
          have hF2 : RF (m 3 - n - 1) (A1 420) ((σ.1.1.drop n).drop 1) := hFd.drop (by rw [List.length_drop]; omega)
          have hR3 : RM p (mu (mu m 3 (m 3 - n)) 3 (m 3 - n - 1)) A1 tx (((σ.1.1.drop n).drop 1, σ.1.2), σ.2.1, mkB σ.2.2.1, σ.2.2.2) st := by
            rw [← hs1] at hR2
            exact hR2.fr (fun j h _ _ => if_neg h) (fun _ _ _ => rfl) hF2
          have h11 := hR.2.2.2.1.1
          have h12 := hR.2.2.2.1.2.1
          refine aw_iconstN (pc := 133) X 1 d_Mo_named_133 (by decide) ?_
          refine aw_goto (pc := 134) X (tgt := 138) d_Mo_named_134 (by rfl) ?_
          refine aw_istore_n (pc := 138) X (lv' := [(3, _), (2, _), (1, _), (0, _)]) d_Mo_named_138 (by decide) (by rfl) ?_
          refine aw_aload_nR (pc := 139) X d_Mo_named_139 (by rfl) ?_
          refine aw_dup (pc := 140) X d_Mo_named_140 (by rfl) ?_
          refine gm_3 (pc := 141) X hM (by omega) d_Mo_named_141 ?_
          try simp only [mu, au, reduceIte, Nat.reduceEqDiff]
          refine aw_iload_n (pc := 144) X d_Mo_named_144 (by rfl) ?_
          refine aw_if_eqN (pc := 145) X (tgt := 152) d_Mo_named_145 (by rfl) (by omega) (fun h145 => ?_) (fun h145 => ?_)
          -- br 145 lv=3:n,2:n,1:n,0:r st=n,r
          · exact absurd h145 (by decide)
          · refine aw_iconstN (pc := 148) X 1 d_Mo_named_148 (by decide) ?_
            refine aw_goto (pc := 149) X (tgt := 153) d_Mo_named_149 (by rfl) ?_
            refine aw_isubN (pc := 153) X d_Mo_named_153 (by omega) ?_
            refine pm_3 (pc := 154) X hM hf (by omega) d_Mo_named_154 (fun w hM hf => ?_)
            refine aw_iload_n (pc := 157) X d_Mo_named_157 (by rfl) ?_
            refine aw_if_eqN (pc := 158) X (tgt := 168) d_Mo_named_158 (by rfl) (by omega) (fun h158 => ?_) (fun h158 => ?_)
            -- br 158 lv=3:n,2:n,1:n,0:r st=
            · exact absurd h158 (by decide)
            · refine aw_aload_nR (pc := 161) X d_Mo_named_161 (by rfl) ?_
              refine gm_11 (pc := 162) X hM (by omega) d_Mo_named_162 ?_
              try simp only [mu, au, reduceIte, Nat.reduceEqDiff]
              refine aw_goto (pc := 165) X (tgt := 170) d_Mo_named_165 (by rfl) ?_
              refine aw_istore (pc := 170) X (lv' := [(4, _), (3, _), (2, _), (1, _), (0, _)]) d_Mo_named_170 (by decide) (by rfl) ?_
              refine aw_iload (pc := 172) X d_Mo_named_172 (by rfl) ?_
              refine aw_bipushN (pc := 174) X 12 d_Mo_named_174 (by decide) ?_
              refine aw_icmp_neN (pc := 176) X (tgt := 189) d_Mo_named_176 (by rfl) (by omega) (by omega) (fun h176 => ?_) (fun h176 => ?_)
              -- br 176 lv=4:n,3:n,2:n,1:n,0:r st=
              · rw [if_neg (by omega)] at hnS
                have hR3c := hR3.2.2.2.1
                have hR3g := hR3.2.2.2.2.1
                have hml : (mkB σ.2.2.1).length = m 11 := by rw [mkB_len]; exact h11.symm
                have g21 : m 21 = σ.2.1.length := hR.2.2.2.2.1.1
                have h30 : m 30 = σ.2.2.2 := hR.2.2.2.2.2.2.2.2.1
                have h3012 := hR.2.2.2.2.2.2.2.2.2
                have fin1 : ∀ w3 A3, hMo G w3 p (mu (mu m 3 (m 3 - n)) 3 (m 3 - n - 1)) A3 V → fr 418 442 w0 w3 → (∀ a, a < 426 ∨ 430 < a → A3 a = A1 a) → dR (A3 427 (m 11)) (A3 426) (12 * m 11) (A3 428 (m 11)) (A3 430 (m 11)) (A3 429) (100 * m 11) t → (∀ x, x < 12 * m 11 ∨ 12 * m 11 + 12 ≤ x → A3 426 x = A1 426 x) → (∀ x, x < 100 * m 11 ∨ 100 * m 11 + 100 ≤ x → A3 429 x = A1 429 x) → (∀ x, x ≠ m 11 → A3 427 x = A1 427 x ∧ A3 428 x = A1 428 x ∧ A3 430 x = A1 430 x) → AW G E 5 nx 0 0 w3 196 [(4, .int (nI (m 11))), (3, .int (nI 1)), (2, .int (nI i)), (1, .int (nI n)), (0, rf G 418)] [] := by
                  intro w3 A3 hM hf hA3 hD3 b1 b2 b3
                  have hfin : ∀ mo', mo' = max σ.2.2.2 (σ.2.2.1.length + 1) → RM p (mu (mu (mu (mu m 3 (m 3 - n)) 3 (m 3 - n - 1)) 11 (m 11 + 1)) 30 mo') (au (au (au (au A3 431 (m 11) 1) 432 (11 * m 11) (m 21)) 433 (m 11) 0) 434 (m 11) 0) tx (((σ.1.1.drop n).drop 1, σ.1.2), σ.2.1, (t, [σ.2.1.length], 0, false) :: mkB σ.2.2.1, max σ.2.2.2 (σ.2.2.1.length + 1)) st := by
                    intro mo' hmo
                    obtain ⟨q1, q2, q3, q4, ⟨r1, r2, r3, r4⟩, q6, q7, q8, q9⟩ := hR3
                    have h9 := okC.len (n := 0) r4
                    refine ⟨?_, ?_, ?_, ?_, ⟨r1, r2, ?_, ?_⟩, ?_, q7, q8, hmo, show max σ.2.2.2 (σ.2.2.1.length + 1) ≤ 12 by omega⟩
                    · show RTx _ (A3 419) _
                      rw [hA3 419 (by omega)]; exact q1
                    · show RF _ (A3 420) _
                      rw [hA3 420 (by omega)]; exact q2
                    · show RT _ (A3 421) (A3 422) (A3 423) (A3 424) (A3 425) _
                      rw [hA3 421 (by omega), hA3 422 (by omega), hA3 423 (by omega), hA3 424 (by omega), hA3 425 (by omega)]; exact q3
                    · refine q4.put (show m 11 + 1 = _ by rw [hml]) (by rw [hml]; omega) ?_ (fun x y hx hy hcx => ?_)
                      · rw [hml]
                        refine ⟨hD3, ?_, fun k hk => ?_, ?_, Nat.zero_le _, ?_⟩
                        · show aw_un (A3 431) (m 11) 1 (m 11) = 1
                          rw [aw_un_eq]
                        · have hk0 : k = 0 := by simpa using hk
                          subst hk0
                          show aw_un (A3 432) (11 * m 11) (m 21) (11 * m 11 + 0) = σ.2.1.length
                          rw [Nat.add_zero, aw_un_eq, g21]
                        · show aw_un (A3 433) (m 11) 0 (m 11) = 0
                          rw [aw_un_eq]
                        · show aw_un (A3 434) (m 11) 0 (m 11) = 0
                          rw [aw_un_eq]
                      · rw [hml] at hx
                        have hy9 := h9 y hy
                        obtain ⟨x1, x2, x3, x4, x5, x6⟩ := hcx
                        obtain ⟨y1, y2, y3⟩ := b3 x (by omega)
                        refine ⟨x1.congr y1 y2 y3 (fun j hj => b1 _ (by omega)) (fun j hj => b2 _ (by omega)), ?_, fun k hk => ?_, ?_, x5, ?_⟩
                        · show aw_un (A3 431) (m 11) 1 x = _
                          rw [aw_un_ne _ _ (by omega), hA3 431 (by omega)]; exact x2
                        · show aw_un (A3 432) (11 * m 11) (m 21) (11 * x + k) = _
                          rw [aw_un_ne _ _ (by omega), hA3 432 (by omega)]; exact x3 k hk
                        · show aw_un (A3 433) (m 11) 0 x = _
                          rw [aw_un_ne _ _ (by omega), hA3 433 (by omega)]; exact x4
                        · show aw_un (A3 434) (m 11) 0 x = _
                          rw [aw_un_ne _ _ (by omega), hA3 434 (by omega)]; exact x6
                    · show _ = sl (A3 435) _ _
                      rw [hA3 435 (by omega)]; exact r3
                    · refine ⟨⟨_, _, rfl, r4⟩, ?_, List.pairwise_singleton _ _, fun z hz => ?_⟩
                      · show 1 ≤ 9
                        decide
                      · rw [List.mem_singleton.mp hz]
                        exact Nat.le_refl _
                    · show RR (A3 436) (A3 437) _
                      rw [hA3 436 (by omega), hA3 437 (by omega)]; exact q6
                  refine aw_iload_n (pc := 196) X d_Mo_named_196 (by rfl) ?_
                  refine aw_if_neN (pc := 197) X (tgt := 213) d_Mo_named_197 (by rfl) (by omega) (fun h197 => ?_) (fun h197 => ?_)
                  -- br 197 lv=4:n,3:n,2:n,1:n,0:r st=
                  · refine aw_aload_nR (pc := 213) X d_Mo_named_213 (by rfl) ?_
                    refine gm_17 (pc := 214) X hM (by omega) d_Mo_named_214 ?_
                    refine aw_iload (pc := 217) X d_Mo_named_217 (by rfl) ?_
                    refine aw_iconstN (pc := 219) X 1 d_Mo_named_219 (by decide) ?_
                    refine sm_431 (pc := 220) X hM hf (by omega) (by omega) d_Mo_named_220 (fun w hM hf => ?_)
                    refine aw_aload_nR (pc := 221) X d_Mo_named_221 (by rfl) ?_
                    refine gm_18 (pc := 222) X hM (by omega) d_Mo_named_222 ?_
                    refine aw_bipushN (pc := 225) X 11 d_Mo_named_225 (by decide) ?_
                    refine aw_iload (pc := 227) X d_Mo_named_227 (by rfl) ?_
                    refine aw_imulN (pc := 229) X d_Mo_named_229 ?_
                    refine aw_aload_nR (pc := 230) X d_Mo_named_230 (by rfl) ?_
                    refine gm_21 (pc := 231) X hM (by omega) d_Mo_named_231 ?_
                    try simp only [mu, au, reduceIte, Nat.reduceEqDiff]
                    refine sm_432 (pc := 234) X hM hf (by omega) (by omega) d_Mo_named_234 (fun w hM hf => ?_)
                    refine aw_aload_nR (pc := 235) X d_Mo_named_235 (by rfl) ?_
                    refine gm_19 (pc := 236) X hM (by omega) d_Mo_named_236 ?_
                    refine aw_iload (pc := 239) X d_Mo_named_239 (by rfl) ?_
                    refine aw_iconstN (pc := 241) X 0 d_Mo_named_241 (by decide) ?_
                    refine sm_433 (pc := 242) X hM hf (by omega) (by omega) d_Mo_named_242 (fun w hM hf => ?_)
                    refine aw_aload_nR (pc := 243) X d_Mo_named_243 (by rfl) ?_
                    refine gm_20 (pc := 244) X hM (by omega) d_Mo_named_244 ?_
                    refine aw_iload (pc := 247) X d_Mo_named_247 (by rfl) ?_
                    refine aw_iconstN (pc := 249) X 0 d_Mo_named_249 (by decide) ?_
                    refine sm_434 (pc := 250) X hM hf (by omega) (by omega) (by omega) d_Mo_named_250 (fun w hM hf => ?_)
                    refine aw_aload_nR (pc := 251) X d_Mo_named_251 (by rfl) ?_
                    refine aw_dup (pc := 252) X d_Mo_named_252 (by rfl) ?_
                    refine gm_11 (pc := 253) X hM (by omega) d_Mo_named_253 ?_
                    try simp only [mu, au, reduceIte, Nat.reduceEqDiff]
                    refine aw_iconstN (pc := 256) X 1 d_Mo_named_256 (by decide) ?_
                    refine aw_iaddN (pc := 257) X d_Mo_named_257 ?_
                    refine pm_11 (pc := 258) X hM hf (by omega) d_Mo_named_258 (fun w hM hf => ?_)
                    refine aw_aload_nR (pc := 261) X d_Mo_named_261 (by rfl) ?_
                    refine aw_aload_nR (pc := 262) X d_Mo_named_262 (by rfl) ?_
                    refine gm_11 (pc := 263) X hM (by omega) d_Mo_named_263 ?_
                    try simp only [mu, au, reduceIte, Nat.reduceEqDiff]
                    refine aw_aload_nR (pc := 266) X d_Mo_named_266 (by rfl) ?_
                    refine gm_30 (pc := 267) X hM (by omega) d_Mo_named_267 ?_
                    try simp only [mu, au, reduceIte, Nat.reduceEqDiff]
                    refine aw_icmp_leN (pc := 270) X (tgt := 280) d_Mo_named_270 (by rfl) (by omega) (by omega) (fun h270 => ?_) (fun h270 => ?_)
                    -- br 270 lv=4:n,3:n,2:n,1:n,0:r st=r
                    · refine aw_aload_nR (pc := 280) X d_Mo_named_280 (by rfl) ?_
                      refine gm_30 (pc := 281) X hM (by omega) d_Mo_named_281 ?_
                      try simp only [mu, au, reduceIte, Nat.reduceEqDiff]
                      refine pm_30 (pc := 284) X hM hf (by omega) d_Mo_named_284 (fun w hM hf => ?_)
                      refine aw_vret Y X rfl d_Mo_named_287 (by omega) (by omega) (hP _ _ _ ?_)
                      -- ret 287 lv=4:n,3:n,2:n,1:n,0:r st=
                      rw [hnS, stpX_none]
                      exact ⟨rfl, hf, _, _, _, _, hM, rfl, hfin _ (by omega), e28⟩
                    · refine aw_aload_nR (pc := 273) X d_Mo_named_273 (by rfl) ?_
                      refine gm_11 (pc := 274) X hM (by omega) d_Mo_named_274 ?_
                      try simp only [mu, au, reduceIte, Nat.reduceEqDiff]
                      refine aw_goto (pc := 277) X (tgt := 284) d_Mo_named_277 (by rfl) ?_
                      refine pm_30 (pc := 284) X hM hf (by omega) d_Mo_named_284 (fun w hM hf => ?_)
                      refine aw_vret Y X rfl d_Mo_named_287 (by omega) (by omega) (hP _ _ _ ?_)
                      -- ret 287 lv=4:n,3:n,2:n,1:n,0:r st=
                      rw [hnS, stpX_none]
                      exact ⟨rfl, hf, _, _, _, _, hM, rfl, hfin _ (by omega), e28⟩
                  · exact absurd h197 (by decide)
                refine aw_aload_nR (pc := 189) X d_Mo_named_189 (by rfl) ?_
                refine aw_iload (pc := 190) X d_Mo_named_190 (by rfl) ?_
                refine aw_iload_n (pc := 192) X d_Mo_named_192 (by rfl) ?_
                -- invokevirtual 193 lv=4:n,3:n,2:n,1:n,0:r st=n,n,r
                refine aw_callV (pc := 193) X _ (s_Mo_begin (d := 0) (at_ := m 11) (dd := i) (t := t) hnx (by omega) (by omega) hDi hM) q_Mo_begin k_1041 k_1043 k_35 (by omega) hM.1 (by rfl) d_Mo_named_193 (by omega) (Nat.le_of_ble_eq_true rfl) ⟨by omega, by omega⟩ (fun h => by cases h) (fun r w nx hp => ?_)
                clear hM
                obtain ⟨rfl, hf1, p, m, A, V, hM, hq⟩ := hp
                replace hf := hf.trans hf1
                obtain ⟨rfl, hpp, hvv, hmm, hA3, hD3, b1, b2, b3⟩ := hq
                rw [hpp, hvv, hmm] at hM
                exact fin1 _ _ hM hf hA3 hD3 b1 b2 b3
              · refine aw_iload_n (pc := 179) X d_Mo_named_179 (by rfl) ?_
                refine aw_if_eqN (pc := 180) X (tgt := 189) d_Mo_named_180 (by rfl) (by omega) (fun h180 => ?_) (fun h180 => ?_)
                -- br 180 lv=4:n,3:n,2:n,1:n,0:r st=
                · exact absurd h180 (by decide)
                · rw [if_pos (by omega)] at hnS
                  refine aw_aload_nR (pc := 183) X d_Mo_named_183 (by rfl) ?_
                  refine aw_iconstN (pc := 184) X 2 d_Mo_named_184 (by decide) ?_
                  -- invokevirtual 185 lv=4:n,3:n,2:n,1:n,0:r st=n,r
                  refine aw_callV (pc := 185) X _ (s_Mo_stop (d := 0) (e := 2) hnx (by show m 28 ≤ 6; omega) hM) q_Mo_stop k_1003 k_1005 k_27 (by omega) hM.1 (by rfl) d_Mo_named_185 (by omega) (Nat.le_of_ble_eq_true rfl) ⟨by omega, by omega⟩ (fun h => by cases h) (fun r w nx hp => ?_)
                  clear hM
                  obtain ⟨rfl, hf1, p, m, A, V, hM, hq⟩ := hp
                  replace hf := hf.trans hf1
                  obtain ⟨rfl, hpp, haa, hvv, hmm⟩ := hq
                  rw [if_pos (show mu (mu _ 3 _) 3 _ 28 = 0 from e28)] at hmm
                  rw [hpp, haa, hvv, hmm] at hM
                  refine aw_vret Y X rfl d_Mo_named_188 (by omega) (by omega) (hP _ _ _ ?_)
                  -- ret 188 lv=4:n,3:n,2:n,1:n,0:r st=
                  rw [hnS, stpX_none]
                  exact ⟨rfl, hf, _, _, _, _, hM, rfl, hR3.kp (fun k _ h2 _ => if_neg h2) (fun _ _ => rfl), rfl⟩
    refine aw_aload_nR (pc := 74) X d_Mo_named_74 (by rfl) ?_
    refine aw_dup (pc := 75) X d_Mo_named_75 (by rfl) ?_
    refine gm_3 (pc := 76) X hM (by omega) d_Mo_named_76 ?_
    refine aw_iload_n (pc := 79) X d_Mo_named_79 (by rfl) ?_
    refine aw_isubN (pc := 80) X d_Mo_named_80 (by omega) ?_
    refine pm_3 (pc := 81) X hM hf (by omega) d_Mo_named_81 (fun w hM hf => ?_)
    refine aw_aload_nR (pc := 84) X d_Mo_named_84 (by rfl) ?_
    refine aw_aload_nR (pc := 85) X d_Mo_named_85 (by rfl) ?_
    refine gm_27 (pc := 86) X hM (by omega) d_Mo_named_86 ?_
    refine aw_iconstN (pc := 89) X 0 d_Mo_named_89 (by decide) ?_
    refine aw_iload_n (pc := 90) X d_Mo_named_90 (by rfl) ?_
    -- invokevirtual 91 lv=2:n,1:n,0:r st=n,n,a438,r
    refine aw_callV (pc := 91) X _ (s_Mo_find (m := mu m 3 (m 3 - n)) (d := 1) (l := 700) (u := 0) (n := n) (T := σ.1.2.2.2) hnx (by omega) (by omega) (by omega) (by omega) hM.b438 hT1 hM.a438 hM) q_Mo_find k_1033 k_1035 k_33 (by omega) hM.1 (by rfl) d_Mo_named_91 (by omega) (Nat.le_of_ble_eq_true rfl) ⟨by omega, by omega⟩ (fun h => by cases h) (fun r w nx hp => ?_)
    obtain ⟨rfl, rfl, rfl⟩ := hp
    rw [← hsl]
    exact J94 _ hM hf
  have J55 : ∀ w1 A1, hMo G w1 p m A1 V → fr 418 442 w0 w1 → (∀ a, a ≠ 438 → A1 a = A a) → (∀ y, y < n → A1 438 y = σ.1.1.getD y 0) → AW G E 5 nx 0 0 w1 55 [(2, .int (nI n)), (1, .int (nI n)), (0, rf G 418)] [] := by
    intro w1 A1 hM hf hA1 h438
    have hR1 : RM p m A1 tx σ st := hR.kp (fun _ _ _ _ => rfl) (fun a ha => hA1 a (by omega))
    have h11 := hR.2.2.2.1.1
    have h12 := hR.2.2.2.1.2.1
    refine aw_aload_nR (pc := 55) X d_Mo_named_55 (by rfl) ?_
    refine gm_11 (pc := 56) X hM (by omega) d_Mo_named_56 ?_
    refine aw_if_leN (pc := 59) X (tgt := 74) d_Mo_named_59 (by rfl) (by omega) (fun h59 => ?_) (fun h59 => ?_)
    -- br 59 lv=2:n,1:n,0:r st=
    · have hC : σ.2.2.1 = [] := List.length_eq_zero_iff.mp (by omega)
      refine J74 _ _ hM hf (hA1 420 (by decide)) h438 ?_
      have : mkB σ.2.2.1 = σ.2.2.1 := by rw [hC]; rfl
      rw [this]
      exact hR1
    · obtain ⟨u, r, hC⟩ := List.exists_cons_of_ne_nil (show σ.2.2.1 ≠ [] from fun e => by rw [e] at h11; simp at h11; omega)
      have hl : σ.2.2.1.length = r.length + 1 := by rw [hC]; rfl
      refine aw_aload_nR (pc := 62) X d_Mo_named_62 (by rfl) ?_
      refine gm_20 (pc := 63) X hM (by omega) d_Mo_named_63 ?_
      refine aw_aload_nR (pc := 66) X d_Mo_named_66 (by rfl) ?_
      refine gm_11 (pc := 67) X hM (by omega) d_Mo_named_67 ?_
      refine aw_iconstN (pc := 70) X 1 d_Mo_named_70 (by decide) ?_
      refine aw_isubN (pc := 71) X d_Mo_named_71 (by omega) ?_
      refine aw_iconstN (pc := 72) X 1 d_Mo_named_72 (by decide) ?_
      refine sm_434 (pc := 73) X hM hf (by omega) (by omega) (by omega) d_Mo_named_73 (fun w hM hf => ?_)
      -- stop 74 lv=2:n,1:n,0:r st=
      refine J74 _ _ hM hf (hA1 420 (by decide)) h438 ?_
      rw [show m 11 - 1 = r.length by omega]
      exact hR1.mark hC
  have K2 : ∀ (j i : Nat), i + j = n → ∀ w1 A1, hMo G w1 p m A1 V → fr 418 442 w0 w1 → (∀ a, a ≠ 438 → A1 a = A a) → (∀ y, y < i → A1 438 y = σ.1.1.getD y 0) → AW G E 5 nx 0 0 w1 32 [(2, .int (nI i)), (1, .int (nI n)), (0, rf G 418)] [] := by
    intro j
    induction j with
    | zero =>
      intro i hi w1 A1 hM hf hA1 h438
      have hi0 : i = n := by omega
      subst hi0
      refine aw_iload_n (pc := 32) X d_Mo_named_32 (by rfl) ?_
      refine aw_iload_n (pc := 33) X d_Mo_named_33 (by rfl) ?_
      refine aw_icmp_geN (pc := 34) X (tgt := 55) d_Mo_named_34 (by rfl) (by omega) (by omega) (fun h34 => ?_) (fun h34 => ?_)
      -- br 34 lv=2:n,1:n,0:r st=
      · exact J55 _ _ hM hf hA1 h438
      · omega
    | succ j ih =>
      intro i hi w1 A1 hM hf hA1 h438
      have hx : (σ.1.1)[i]? = some (σ.1.1.getD i 0) := getD_some (by omega)
      have hxb := hcb _ _ hx
      have c2' : RF (m 3) (A1 420) σ.1.1 := by rw [hA1 420 (by decide)]; exact c2
      refine aw_iload_n (pc := 32) X d_Mo_named_32 (by rfl) ?_
      refine aw_iload_n (pc := 33) X d_Mo_named_33 (by rfl) ?_
      refine aw_icmp_geN (pc := 34) X (tgt := 55) d_Mo_named_34 (by rfl) (by omega) (by omega) (fun h34 => ?_) (fun h34 => ?_)
      -- br 34 lv=2:n,1:n,0:r st=
      · omega
      · refine aw_aload_nR (pc := 37) X d_Mo_named_37 (by rfl) ?_
        refine gm_27 (pc := 38) X hM (by omega) d_Mo_named_38 ?_
        refine aw_iload_n (pc := 41) X d_Mo_named_41 (by rfl) ?_
        refine aw_aload_nR (pc := 42) X d_Mo_named_42 (by rfl) ?_
        refine aw_iload_n (pc := 43) X d_Mo_named_43 (by rfl) ?_
        -- invokevirtual 44 lv=2:n,1:n,0:r st=n,r,n,a438
        refine aw_callV (pc := 44) X _ (s_Mo_next (d := 0) (F := σ.1.1) hnx (by omega) c2' hM) q_Mo_next k_1011 k_1013 k_29 (by omega) hM.1 (by rfl) d_Mo_named_44 (by omega) (Nat.le_of_ble_eq_true rfl) ⟨by omega, by omega⟩ (fun h => by cases h) (fun r w nx hp => ?_)
        obtain ⟨rfl, rfl, rfl⟩ := hp
        rw [hx, pV_some]
        refine aw_i2cN (pc := 47) X d_Mo_named_47 (by omega) ?_
        refine sm_438 (pc := 48) X hM hf (by omega) (by omega) (by first | omega | exact hM.b435 _ | exact hM.b420 _ | exact hM.b421 _ | exact hM.b424 _ | exact hM.b426 _ | exact hM.b429 _ | exact hM.b436 _ | exact hM.b438 _ | exact hM.b419 _ | exact hM.b441 _) d_Mo_named_48 (fun w hM hf => ?_)
        refine aw_iincN (pc := 49) X 1 (lv' := [(2, _), (1, _), (0, _)]) d_Mo_named_49 (by rfl) (by decide) (by decide) (by rfl) ?_
        refine aw_goto (pc := 52) X (tgt := 32) d_Mo_named_52 (by rfl) ?_
        -- stop 32 lv=2:n,1:n,0:r st=
        refine ih (i + 1) (by omega) _ _ hM hf (fun a ha => (if_neg ha).trans (hA1 a ha)) (fun y hy => ?_)
        show aw_un (A1 438) i _ y = _
        by_cases e : y = i
        · subst e; rw [aw_un_eq]
        · rw [aw_un_ne _ _ e]; exact h438 y (by omega)
  have K1 : ∀ (j k : Nat), k + j = F.length + 1 → 1 ≤ k → k + ((F.drop (k - 1)).takeWhile isLD).length = n → AW G E 5 nx 0 0 w0 2 [(1, .int (nI k)), (0, rf G 418)] [] := by
    intro j
    induction j with
    | zero =>
      intro k hk h1 hr
      rw [List.drop_eq_nil_of_le (by omega)] at hr
      have hkn : k = n := hr
      have hx : (σ.1.1)[k]? = none := List.getElem?_eq_none_iff.mpr (by omega)
      subst hkn
      refine aw_aload_nR (pc := 2) X d_Mo_named_2 (by rfl) ?_
      refine aw_iload_n (pc := 3) X d_Mo_named_3 (by rfl) ?_
      -- invokevirtual 4 lv=1:n,0:r st=n,r
      refine aw_callV (pc := 4) X _ (s_Mo_next (d := 0) (F := σ.1.1) hnx (by omega) c2 hM) q_Mo_next k_1011 k_1013 k_29 (by omega) hM.1 (by rfl) d_Mo_named_4 (by omega) (Nat.le_of_ble_eq_true rfl) ⟨by omega, by omega⟩ (fun h => by cases h) (fun r w nx hp => ?_)
      obtain ⟨rfl, rfl, rfl⟩ := hp
      rw [hx, pV_m1]
      refine aw_callS (pc := 7) X (c_Mo_isLetterN (d := 0)) q_Mo_isLetter k_1023 k_1024 d_Mo_named_7 (by omega) (Nat.le_of_ble_eq_true rfl) ⟨by omega, by omega⟩ (fun h => by cases h) (fun r w nx hp => ?_)
      obtain ⟨rfl, rfl, rfl⟩ := hp
      refine aw_if_neN (pc := 10) X (tgt := 24) d_Mo_named_10 (by rfl) (by omega) (fun h10 => ?_) (fun h10 => ?_)
      -- br 10 lv=1:n,0:r st=
      · exact absurd rfl h10
      · refine aw_aload_nR (pc := 13) X d_Mo_named_13 (by rfl) ?_
        refine aw_iload_n (pc := 14) X d_Mo_named_14 (by rfl) ?_
        -- invokevirtual 15 lv=1:n,0:r st=n,r
        refine aw_callV (pc := 15) X _ (s_Mo_next (d := 0) (F := σ.1.1) hnx (by omega) c2 hM) q_Mo_next k_1011 k_1013 k_29 (by omega) hM.1 (by rfl) d_Mo_named_15 (by omega) (Nat.le_of_ble_eq_true rfl) ⟨by omega, by omega⟩ (fun h => by cases h) (fun r w nx hp => ?_)
        obtain ⟨rfl, rfl, rfl⟩ := hp
        rw [hx, pV_m1]
        refine aw_callS (pc := 18) X (c_Mo_isDigitN (d := 0)) q_Mo_isDigit k_1030 k_1031 d_Mo_named_18 (by omega) (Nat.le_of_ble_eq_true rfl) ⟨by omega, by omega⟩ (fun h => by cases h) (fun r w nx hp => ?_)
        obtain ⟨rfl, rfl, rfl⟩ := hp
        refine aw_if_eqN (pc := 21) X (tgt := 30) d_Mo_named_21 (by rfl) (by omega) (fun h21 => ?_) (fun h21 => ?_)
        -- br 21 lv=1:n,0:r st=
        · refine aw_iconstN (pc := 30) X 0 d_Mo_named_30 (by decide) ?_
          refine aw_istore_n (pc := 31) X (lv' := [(2, _), (1, _), (0, _)]) d_Mo_named_31 (by decide) (by rfl) ?_
          -- stop 32 lv=2:n,1:n,0:r st=
          exact K2 _ 0 (Nat.zero_add _) _ _ hM hf (fun _ _ => rfl) (fun y hy => by omega)
        · exact absurd rfl h21
    | succ j ih =>
      intro k hk h1 hr
      have hx : (σ.1.1)[k]? = some (F.getD (k - 1) 0) := by
        rw [hF, show k = (k - 1) + 1 by omega, List.getElem?_cons_succ]
        exact getD_some (by omega)
      have hxb := hcb _ _ hx
      rw [sl_drop1 (show k - 1 < F.length by omega), List.takeWhile_cons, show k - 1 + 1 = k by omega] at hr
      generalize F.getD (k - 1) 0 = x at hx hxb hr
      have hbl := bN_lt (isLet x)
      have hbd := bN_lt (isDig x)
      have more : isLD x = true → AW G E 5 nx 0 0 w0 24 [(1, .int (nI k)), (0, rf G 418)] [] := by
        intro hl
        rw [if_pos hl] at hr
        refine aw_iincN (pc := 24) X 1 (lv' := [(1, _), (0, _)]) d_Mo_named_24 (by rfl) (by decide) (by decide) (by rfl) ?_
        refine aw_goto (pc := 27) X (tgt := 2) d_Mo_named_27 (by rfl) ?_
        -- stop 2 lv=1:n,0:r st=
        refine ih (k + 1) (by omega) (by omega) ?_
        rw [show k + 1 - 1 = k by omega]
        rw [List.length_cons] at hr
        omega
      have hLD : isLD x = (isLet x || isDig x) := rfl
      refine aw_aload_nR (pc := 2) X d_Mo_named_2 (by rfl) ?_
      refine aw_iload_n (pc := 3) X d_Mo_named_3 (by rfl) ?_
      -- invokevirtual 4 lv=1:n,0:r st=n,r
      refine aw_callV (pc := 4) X _ (s_Mo_next (d := 0) (F := σ.1.1) hnx (by omega) c2 hM) q_Mo_next k_1011 k_1013 k_29 (by omega) hM.1 (by rfl) d_Mo_named_4 (by omega) (Nat.le_of_ble_eq_true rfl) ⟨by omega, by omega⟩ (fun h => by cases h) (fun r w nx hp => ?_)
      obtain ⟨rfl, rfl, rfl⟩ := hp
      rw [hx, pV_some]
      refine aw_callS (pc := 7) X (c_Mo_isLetter (d := 0) hxb) q_Mo_isLetter k_1023 k_1024 d_Mo_named_7 (by omega) (Nat.le_of_ble_eq_true rfl) ⟨by omega, by omega⟩ (fun h => by cases h) (fun r w nx hp => ?_)
      obtain ⟨rfl, rfl, rfl⟩ := hp
      refine aw_if_neN (pc := 10) X (tgt := 24) d_Mo_named_10 (by rfl) (by omega) (fun h10 => ?_) (fun h10 => ?_)
      -- br 10 lv=1:n,0:r st=
      · exact more (by rw [hLD, bN_ne.mp h10]; rfl)
      · refine aw_aload_nR (pc := 13) X d_Mo_named_13 (by rfl) ?_
        refine aw_iload_n (pc := 14) X d_Mo_named_14 (by rfl) ?_
        -- invokevirtual 15 lv=1:n,0:r st=n,r
        refine aw_callV (pc := 15) X _ (s_Mo_next (d := 0) (F := σ.1.1) hnx (by omega) c2 hM) q_Mo_next k_1011 k_1013 k_29 (by omega) hM.1 (by rfl) d_Mo_named_15 (by omega) (Nat.le_of_ble_eq_true rfl) ⟨by omega, by omega⟩ (fun h => by cases h) (fun r w nx hp => ?_)
        obtain ⟨rfl, rfl, rfl⟩ := hp
        rw [hx, pV_some]
        refine aw_callS (pc := 18) X (c_Mo_isDigit (d := 0) hxb) q_Mo_isDigit k_1030 k_1031 d_Mo_named_18 (by omega) (Nat.le_of_ble_eq_true rfl) ⟨by omega, by omega⟩ (fun h => by cases h) (fun r w nx hp => ?_)
        obtain ⟨rfl, rfl, rfl⟩ := hp
        refine aw_if_eqN (pc := 21) X (tgt := 30) d_Mo_named_21 (by rfl) (by omega) (fun h21 => ?_) (fun h21 => ?_)
        -- br 21 lv=1:n,0:r st=
        · rw [if_neg (by rw [hLD, bN_eq.mp h10, bN_eq.mp h21]; simp)] at hr
          have hkn : k = n := hr
          subst hkn
          refine aw_iconstN (pc := 30) X 0 d_Mo_named_30 (by decide) ?_
          refine aw_istore_n (pc := 31) X (lv' := [(2, _), (1, _), (0, _)]) d_Mo_named_31 (by decide) (by rfl) ?_
          -- stop 32 lv=2:n,1:n,0:r st=
          exact K2 _ 0 (Nat.zero_add _) _ _ hM hf (fun _ _ => rfl) (fun y hy => by omega)
        · exact more (by rw [hLD, bN_ne.mp h21, Bool.or_true])
  refine aw_iconstN (pc := 0) X 1 d_Mo_named_0 (by decide) ?_
  refine aw_istore_n (pc := 1) X (lv' := [(1, _), (0, _)]) d_Mo_named_1 (by decide) (by rfl) ?_
  -- stop 2 lv=1:n,0:r st=
  exact K1 F.length 1 (by omega) (by omega) (by rw [show 1 - 1 = 0 from rfl, List.drop_zero]; exact hnm.symm)
end

