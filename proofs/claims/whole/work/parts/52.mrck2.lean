/-! the reference: reckon -/
def rkF (G : aw_G) (w : Nat → va_E) (p : Int32) (m : Nat → Nat) (A : Nat → Nat → Nat) (B : Nat → Nat) (w2 : Nat → va_E) (m2 : Nat → Nat) (A2 : Nat → Nat → Nat) (V2 : Nat → Int64) : Prop := hMo G w2 p m2 A2 V2 ∧ fr 418 442 w w2 ∧ (∀ k, k < 31 → m2 k = m k) ∧ (∀ a, a < 439 → A2 a = A a) ∧ A2 441 = B
def rkQ (G : aw_G) (E : aw_E) (nx : Nat) (w : Nat → va_E) (p : Int32) (m : Nat → Nat) (A : Nat → Nat → Nat) (B : Nat → Nat) (N : Nat) : Bool → Nat → List Nat → List Int64 → Nat → Bool → Prop := fun b k o r n z => okS b k o r n → ∀ w2 m2 A2 V2, rkF G w p m A B w2 m2 A2 V2 → rpS m2 (A2 439) V2 o r n z → AW G E 8 nx 0 0 w2 86 [(4, .int (nI k)), (3, .int (nI (bN b))), (2, .int (nI 1)), (1, .int (nI N)), (0, rf G 418)] []
theorem nno_le : ∀ o : List Nat, nno o ≤ o.length
  | [] => Nat.le_refl _
  | c :: o => by
    have := nno_le o
    rw [nno, List.length_cons]
    split <;> omega
section
variable {G : aw_G} {nx d : Nat} {w : Nat → va_E} {p : Int32} {m : Nat → Nat} {A : Nat → Nat → Nat} {V : Nat → Int64} {t : Def} {ar : List (List Nat)} {L : List Nat}
theorem s_Mo_reckon {S : List Nat} {va : Int64} {x' : ES} {f : Nat} (hnx : 442 ≤ nx) (hd : 3 ≤ d) (e28 : m 28 = 0) (h3 : m 3 ≤ 600) (hSt : PSt m (A 438) L) (hY : RY A t ar) (hSe : S = (argOf ar 1).filter nbl) (hev : ev S f 1 0 0 false (0, false, false) = some (va, x')) (hM : hMo G w p m A V) : AC G y_Mo_reckon b_Mo_reckon 8 none d false [rf G 418] nx w 0 0 (mq G nx w (fun r p' m' A' V' => r = none ∧ p' = p ∧ (∀ k, k ≠ 26 → k ≠ 28 → k < 31 → m' k = m k) ∧ (∀ a, a < 438 → A' a = A a) ∧ (rckS S va x' ≠ 0 → m' 28 = rckS S va x') ∧ (rckS S va x' = 0 → PSt m' (A' 438) (L ++ dec va)))) := by
  have hl1 := (hY.arg 1).2
  have hSl : S.length ≤ 400 := by
    rw [hSe]
    have := List.length_filter_le nbl (argOf ar 1)
    omega
  refine AC.ofW (by decide) (Nat.le_of_ble_eq_true rfl) ?_
  intro E P hP Y X
  have X : aw_X G "RescanDeskModel" b_Mo_reckon 8 none "reckon" _ _ _ _ _ E := X
  refine AW.eql (lv' := [(0, _)]) (by rfl) ?_
  have hf : fr 418 442 w w := fr.refl _ _ _
  have J59 : ∀ w1 A1 V1 x, hMo G w1 p m A1 V1 → fr 418 442 w w1 → (∀ a, a ≠ 441 → A1 a = A a) → S = sl (A1 441) 0 S.length → AW G E 8 nx 0 0 w1 59 [(2, .int (nI x)), (1, .int (nI S.length)), (0, rf G 418)] [] := by
    intro w1 A1 V1 x hM1 hf1 hA1 hSB
    generalize hBe : A1 441 = B at hSB
    generalize hN : S.length = N
    -- the end with an error of the text
    have X426 : ∀ w2 m2 A2 V2 x4 x3 x2, rckS S va x' = 6 → rkF G w p m A B w2 m2 A2 V2 → AW G E 8 nx 0 0 w2 426 [(4, .int (nI x4)), (3, .int (nI x3)), (2, .int (nI x2)), (1, .int (nI N)), (0, rf G 418)] [] := by
      intro w2 m2 A2 V2 x4 x3 x2 hW ⟨hM, hf, hm2, hA2, hB⟩
      have q28 : m2 28 = 0 := (hm2 28 (by decide)).trans e28
      refine aw_aload_nR (pc := 426) X d_Mo_reckon_426 (by rfl) ?_
      refine aw_bipushN (pc := 427) X 6 d_Mo_reckon_427 (by decide) ?_
      -- invokevirtual 429 lv=4:n,3:n,2:n,1:n,0:r st=n,r
      refine aw_callV (pc := 429) X _ (s_Mo_stop (d := 0) (e := 6) hnx (by omega) hM) q_Mo_stop k_1003 k_1005 k_27 (by omega) hM.1 (by rfl) d_Mo_reckon_429 (by omega) (Nat.le_of_ble_eq_true rfl) ⟨by omega, by omega⟩ (fun h => by cases h) (fun r w nx hp => ?_)
      clear hM
      obtain ⟨rfl, hf1, p, m, A, V, hM, hq⟩ := hp
      replace hf := hf.trans hf1
      obtain ⟨rfl, hpp, haa, hvv, hmm⟩ := hq
      rw [hpp, haa, hvv, hmm] at hM
      rw [if_pos q28] at hM
      refine aw_goto (pc := 432) X (tgt := 460) d_Mo_reckon_432 (by rfl) ?_
      refine aw_vret Y X rfl d_Mo_reckon_460 (by omega) (by omega) (hP _ _ _ ?_)
      -- ret 460 lv=4:n,3:n,2:n,1:n,0:r st=
      refine ⟨rfl, hf, _, _, _, _, hM, rfl, rfl, fun k h1 h2 h3 => (if_neg h2).trans (hm2 k h3), fun a ha => hA2 a (by omega), fun _ => hW.symm, fun z => ?_⟩
      rw [hW] at z
      cases z
    have Bad : ∀ w2 m2 A2 V2 k b, rckS S va x' = 6 → rkF G w p m A B w2 m2 A2 V2 → k < 2 ^ 31 → AW G E 8 nx 0 0 w2 86 [(4, .int (nI k)), (3, .int (nI b)), (2, .int (nI 0)), (1, .int (nI N)), (0, rf G 418)] [] := by
      intro w2 m2 A2 V2 k b hW hF hk
      have X398 : AW G E 8 nx 0 0 w2 398 [(4, .int (nI k)), (3, .int (nI b)), (2, .int (nI 0)), (1, .int (nI N)), (0, rf G 418)] [] := by
        refine aw_iload_n (pc := 398) X d_Mo_reckon_398 (by rfl) ?_
        refine aw_if_eqN (pc := 399) X (tgt := 411) d_Mo_reckon_399 (by rfl) (by omega) (fun h399 => ?_) (fun h399 => ?_)
        -- br 399 lv=4:n,3:n,2:n,1:n,0:r st=
        · refine aw_iload_n (pc := 411) X d_Mo_reckon_411 (by rfl) ?_
          refine aw_if_eqN (pc := 412) X (tgt := 426) d_Mo_reckon_412 (by rfl) (by omega) (fun h412 => ?_) (fun h412 => ?_)
          -- br 412 lv=4:n,3:n,2:n,1:n,0:r st=
          · exact X426 _ _ _ _ _ _ _ hW hF
          · exact absurd rfl h412
        · exact absurd rfl h399
      refine aw_iload (pc := 86) X d_Mo_reckon_86 (by rfl) ?_
      refine aw_iload_n (pc := 88) X d_Mo_reckon_88 (by rfl) ?_
      refine aw_icmp_geN (pc := 89) X (tgt := 398) d_Mo_reckon_89 (by rfl) (by omega) (by omega) (fun h89 => ?_) (fun h89 => ?_)
      -- br 89 lv=4:n,3:n,2:n,1:n,0:r st=
      · exact X398
      · refine aw_iload_n (pc := 92) X d_Mo_reckon_92 (by rfl) ?_
        refine aw_if_eqN (pc := 93) X (tgt := 398) d_Mo_reckon_93 (by rfl) (by omega) (fun h93 => ?_) (fun h93 => ?_)
        -- br 93 lv=4:n,3:n,2:n,1:n,0:r st=
        · exact X398
        · exact absurd rfl h93
    -- a sign is read
    have Pre : ∀ (b : Bool) (k : Nat) w2 m2 A2 V2, rkF G w p m A B w2 m2 A2 V2 → k < S.length → (b = true → isDig (S.getD k 0) = true → AW G E 8 nx 0 0 w2 120 [(4, .int (nI (k + 1))), (5, .int (nI (S.getD k 0))), (3, .int (nI (bN b))), (2, .int (nI 1)), (1, .int (nI N)), (0, rf G 418)] []) → ((b = false ∨ isDig (S.getD k 0) = false) → AW G E 8 nx 0 0 w2 204 [(4, .int (nI (k + 1))), (5, .int (nI (S.getD k 0))), (3, .int (nI (bN b))), (2, .int (nI 1)), (1, .int (nI N)), (0, rf G 418)] []) → AW G E 8 nx 0 0 w2 86 [(4, .int (nI k)), (3, .int (nI (bN b))), (2, .int (nI 1)), (1, .int (nI N)), (0, rf G 418)] [] := by
      intro b k w2 m2 A2 V2 ⟨hM, hf, hm2, hA2, hB⟩ hk c1 c2
      have hcv : A2 441 k = S.getD k 0 := by rw [hB]; exact (sl_D hSB hk).symm
      have hcb := hM.b441 k
      rw [hcv] at hcb
      have hbb := bN_lt b
      refine aw_iload (pc := 86) X d_Mo_reckon_86 (by rfl) ?_
      refine aw_iload_n (pc := 88) X d_Mo_reckon_88 (by rfl) ?_
      refine aw_icmp_geN (pc := 89) X (tgt := 398) d_Mo_reckon_89 (by rfl) (by omega) (by omega) (fun h89 => ?_) (fun h89 => ?_)
      -- br 89 lv=4:n,3:n,2:n,1:n,0:r st=
      · omega
      · refine aw_iload_n (pc := 92) X d_Mo_reckon_92 (by rfl) ?_
        refine aw_if_eqN (pc := 93) X (tgt := 398) d_Mo_reckon_93 (by rfl) (by omega) (fun h93 => ?_) (fun h93 => ?_)
        -- br 93 lv=4:n,3:n,2:n,1:n,0:r st=
        · exact absurd h93 (by decide)
        · refine aw_aload_nR (pc := 96) X d_Mo_reckon_96 (by rfl) ?_
          refine gm_37 (pc := 97) X hM (by omega) d_Mo_reckon_97 ?_
          refine aw_iload (pc := 100) X d_Mo_reckon_100 (by rfl) ?_
          refine aw_caldN (pc := 102) X 441 0 (by omega) hM.a441 (by rfl) (by omega) (by decide) d_Mo_reckon_102 ?_
          -- stop 103 lv=4:n,3:n,2:n,1:n,0:r st=n
          rw [hcv]
          generalize S.getD k 0 = c at hcb c1 c2
          refine aw_istore (pc := 103) X (lv' := [(5, _), (4, _), (3, _), (2, _), (1, _), (0, _)]) d_Mo_reckon_103 (by decide) (by rfl) ?_
          refine aw_iincN (pc := 105) X 1 (lv' := [(4, _), (5, _), (3, _), (2, _), (1, _), (0, _)]) d_Mo_reckon_105 (by rfl) (by decide) (by decide) (by rfl) ?_
          refine aw_iload_n (pc := 108) X d_Mo_reckon_108 (by rfl) ?_
          refine aw_if_eqN (pc := 109) X (tgt := 204) d_Mo_reckon_109 (by rfl) (by omega) (fun h109 => ?_) (fun h109 => ?_)
          -- br 109 lv=4:n,5:n,3:n,2:n,1:n,0:r st=
          · exact c2 (Or.inl (bN_eq.mp h109))
          · refine aw_iload (pc := 112) X d_Mo_reckon_112 (by rfl) ?_
            -- invokestatic 114 lv=4:n,5:n,3:n,2:n,1:n,0:r st=n
            refine aw_callS (pc := 114) X (c_Mo_isDigit (d := 0) hcb) q_Mo_isDigit k_1030 k_1031 d_Mo_reckon_114 (by omega) (Nat.le_of_ble_eq_true rfl) ⟨by omega, by omega⟩ (fun h => by cases h) (fun r w nx hp => ?_)
            obtain ⟨rfl, rfl, rfl⟩ := hp
            have hbd := bN_lt (isDig c)
            refine aw_if_eqN (pc := 117) X (tgt := 204) d_Mo_reckon_117 (by rfl) (by omega) (fun h117 => ?_) (fun h117 => ?_)
            -- br 117 lv=4:n,5:n,3:n,2:n,1:n,0:r st=
            · exact c2 (Or.inr (bN_eq.mp h117))
            · exact c1 (bN_ne.mp h109) (bN_ne.mp h117)
    have Push : ∀ w2 m2 A2 V2 k c o r n z x (y : Nat), rkF G w p m A B w2 m2 A2 V2 → rpS m2 (A2 439) V2 o r n z → o.length ≤ 400 → (∀ w3 m3 A3 V3, rkF G w p m A B w3 m3 A3 V3 → (m3 31 = o.length + 1 ∧ m3 33 = m2 33 ∧ m3 35 = m2 35 + 1 ∧ m3 36 = m2 36 ∧ A3 439 = aw_un (A2 439) o.length x ∧ V3 = V2) → AW G E 8 nx 0 0 w3 86 [(4, .int (nI k)), (3, .int (nI 1)), (2, .int (nI y)), (1, .int (nI N)), (0, rf G 418)] []) → AW G E 8 nx 0 0 w2 257 [(2, .int (nI y)), (4, .int (nI k)), (5, .int (nI c)), (3, .int (nI (bN true))), (1, .int (nI N)), (0, rf G 418)] [.int (nI x), .int (nI o.length), rf G 439] := by
      intro w2 m2 A2 V2 k c o r n z x y ⟨hM, hf, hm2, hA2, hB⟩ ⟨s1, s2, s3, s4, s5, s6⟩ hl con
      refine sm_439 (pc := 257) X hM hf (by omega) (by omega) d_Mo_reckon_257 (fun w hM hf => ?_)
      refine aw_aload_nR (pc := 258) X d_Mo_reckon_258 (by rfl) ?_
      refine aw_dup (pc := 259) X d_Mo_reckon_259 (by rfl) ?_
      refine gm_31 (pc := 260) X hM (by omega) d_Mo_reckon_260 ?_
      try simp only [mu, au, reduceIte, Nat.reduceEqDiff]
      refine aw_iconstN (pc := 263) X 1 d_Mo_reckon_263 (by decide) ?_
      refine aw_iaddN (pc := 264) X d_Mo_reckon_264 ?_
      refine pm_31 (pc := 265) X hM hf (by omega) d_Mo_reckon_265 (fun w hM hf => ?_)
      refine aw_aload_nR (pc := 268) X d_Mo_reckon_268 (by rfl) ?_
      refine aw_dup (pc := 269) X d_Mo_reckon_269 (by rfl) ?_
      refine gm_35 (pc := 270) X hM (by omega) d_Mo_reckon_270 ?_
      try simp only [mu, au, reduceIte, Nat.reduceEqDiff]
      refine aw_iconstN (pc := 273) X 1 d_Mo_reckon_273 (by decide) ?_
      refine aw_iaddN (pc := 274) X d_Mo_reckon_274 ?_
      refine pm_35 (pc := 275) X hM hf (by omega) d_Mo_reckon_275 (fun w hM hf => ?_)
      refine aw_goto (pc := 278) X (tgt := 395) d_Mo_reckon_278 (by rfl) ?_
      refine aw_goto (pc := 395) X (tgt := 86) d_Mo_reckon_395 (by rfl) ?_
      -- stop 86 lv=2:n,4:n,5:n,3:n,1:n,0:r st=
      refine AW.lsub [1, 3, 0, 4, 5] (by rfl) ?_
      refine con _ _ _ _ ⟨hM, hf, fun k hk => ?_, fun a ha => ?_, ?_⟩ ⟨?_, rfl, rfl, rfl, rfl, rfl⟩
      · rw [mu, if_neg (by omega), mu, if_neg (by omega)]; exact hm2 k hk
      · exact (if_neg (by omega)).trans (hA2 a ha)
      · exact hB
      · show m2 31 + 1 = _
        rw [s1]
    have M204 : ∀ w2 m2 A2 V2 k c o r n z, rkF G w p m A B w2 m2 A2 V2 → rpS m2 (A2 439) V2 o r n z → o.length ≤ 400 → c < 65536 → n < 2 ^ 20 → k < 2 ^ 20 → ((c = 40 ∧ n < 6 ∨ c = 45 ∧ n < 6) → ∀ w3 m3 A3 V3, rkF G w p m A B w3 m3 A3 V3 → (m3 31 = o.length + 1 ∧ m3 33 = m2 33 ∧ m3 35 = m2 35 + 1 ∧ m3 36 = m2 36 ∧ A3 439 = aw_un (A2 439) o.length (if c = 40 then 2 else 1) ∧ V3 = V2) → AW G E 8 nx 0 0 w3 86 [(4, .int (nI k)), (3, .int (nI 1)), (2, .int (nI 1)), (1, .int (nI N)), (0, rf G 418)] []) → (¬ (c = 40 ∧ n < 6 ∨ c = 45 ∧ n < 6) → rckS S va x' = 6) → AW G E 8 nx 0 0 w2 204 [(4, .int (nI k)), (5, .int (nI c)), (3, .int (nI (bN true))), (2, .int (nI 1)), (1, .int (nI N)), (0, rf G 418)] [] := by
      intro w2 m2 A2 V2 k c o r n z hF hS hl hc hn hk con hW
      obtain ⟨hM, hf, hm2, hA2, hB⟩ := id hF
      obtain ⟨s1, s2, s3, s4, s5, s6⟩ := id hS
      have G236 : ∀ y : Nat, (y = 1 ∧ (c = 40 ∧ n < 6 ∨ c = 45 ∧ n < 6) ∨ y = 0 ∧ ¬ (c = 40 ∧ n < 6 ∨ c = 45 ∧ n < 6)) → AW G E 8 nx 0 0 w2 236 [(4, .int (nI k)), (5, .int (nI c)), (3, .int (nI (bN true))), (2, .int (nI 1)), (1, .int (nI N)), (0, rf G 418)] [.int (nI y)] := by
        intro y hy
        have con2 : ∀ w3 m3 A3 V3, rkF G w p m A B w3 m3 A3 V3 → (m3 31 = o.length + 1 ∧ m3 33 = m2 33 ∧ m3 35 = m2 35 + 1 ∧ m3 36 = m2 36 ∧ A3 439 = aw_un (A2 439) o.length (if c = 40 then 2 else 1) ∧ V3 = V2) → AW G E 8 nx 0 0 w3 86 [(4, .int (nI k)), (3, .int (nI 1)), (2, .int (nI y)), (1, .int (nI N)), (0, rf G 418)] [] := by
          intro w3 m3 A3 V3 hF3 hr3
          rcases hy with ⟨rfl, hy⟩ | ⟨rfl, hy⟩
          · exact con hy _ _ _ _ hF3 hr3
          · exact Bad _ _ _ _ _ _ (hW hy) hF3 (by omega)
        refine aw_istore_n (pc := 236) X (lv' := [(2, _), (4, _), (5, _), (3, _), (1, _), (0, _)]) d_Mo_reckon_236 (by decide) (by rfl) ?_
        refine aw_aload_nR (pc := 237) X d_Mo_reckon_237 (by rfl) ?_
        refine gm_32 (pc := 238) X hM (by omega) d_Mo_reckon_238 ?_
        refine aw_aload_nR (pc := 241) X d_Mo_reckon_241 (by rfl) ?_
        refine gm_31 (pc := 242) X hM (by omega) d_Mo_reckon_242 ?_
        refine aw_iload (pc := 245) X d_Mo_reckon_245 (by rfl) ?_
        refine aw_bipushN (pc := 247) X 40 d_Mo_reckon_247 (by decide) ?_
        refine aw_icmp_neN (pc := 249) X (tgt := 256) d_Mo_reckon_249 (by rfl) (by omega) (by omega) (fun h249 => ?_) (fun h249 => ?_)
        -- br 249 lv=2:n,4:n,5:n,3:n,1:n,0:r st=n,a439
        · rw [if_neg h249] at con2
          refine aw_iconstN (pc := 256) X 1 d_Mo_reckon_256 (by decide) ?_
          -- stop 257 lv=2:n,4:n,5:n,3:n,1:n,0:r st=n,n,a439
          rw [s1]
          exact Push _ _ _ _ _ _ _ _ _ _ 1 y hF hS hl con2
        · rw [if_pos h249] at con2
          refine aw_iconstN (pc := 252) X 2 d_Mo_reckon_252 (by decide) ?_
          refine aw_goto (pc := 253) X (tgt := 257) d_Mo_reckon_253 (by rfl) ?_
          -- stop 257 lv=2:n,4:n,5:n,3:n,1:n,0:r st=n,n,a439
          rw [s1]
          exact Push _ _ _ _ _ _ _ _ _ _ 2 y hF hS hl con2
      have G235 : ¬ (c = 40 ∧ n < 6 ∨ c = 45 ∧ n < 6) → AW G E 8 nx 0 0 w2 235 [(4, .int (nI k)), (5, .int (nI c)), (3, .int (nI (bN true))), (2, .int (nI 1)), (1, .int (nI N)), (0, rf G 418)] [] := by
        intro h
        refine aw_iconstN (pc := 235) X 0 d_Mo_reckon_235 (by decide) ?_
        -- stop 236 lv=4:n,5:n,3:n,2:n,1:n,0:r st=n
        exact G236 0 (Or.inr ⟨rfl, h⟩)
      have G222 : c = 40 ∨ c = 45 → AW G E 8 nx 0 0 w2 222 [(4, .int (nI k)), (5, .int (nI c)), (3, .int (nI (bN true))), (2, .int (nI 1)), (1, .int (nI N)), (0, rf G 418)] [] := by
        intro h
        refine aw_aload_nR (pc := 222) X d_Mo_reckon_222 (by rfl) ?_
        refine gm_35 (pc := 223) X hM (by omega) d_Mo_reckon_223 ?_
        refine aw_bipushN (pc := 226) X 6 d_Mo_reckon_226 (by decide) ?_
        refine aw_icmp_geN (pc := 228) X (tgt := 235) d_Mo_reckon_228 (by rfl) (by omega) (by omega) (fun h228 => ?_) (fun h228 => ?_)
        -- br 228 lv=4:n,5:n,3:n,2:n,1:n,0:r st=
        · exact G235 (by omega)
        · refine aw_iconstN (pc := 231) X 1 d_Mo_reckon_231 (by decide) ?_
          refine aw_goto (pc := 232) X (tgt := 236) d_Mo_reckon_232 (by rfl) ?_
          -- stop 236 lv=4:n,5:n,3:n,2:n,1:n,0:r st=n
          exact G236 1 (Or.inl ⟨rfl, by omega⟩)
      refine aw_iload_n (pc := 204) X d_Mo_reckon_204 (by rfl) ?_
      -- stop 205 lv=4:n,5:n,3:n,2:n,1:n,0:r st=n
      have hb1 : bN true = 1 := rfl
      refine aw_if_eqN (pc := 205) X (tgt := 281) d_Mo_reckon_205 (by rfl) (by omega) (fun h205 => ?_) (fun h205 => ?_)
      -- br 205 lv=4:n,5:n,3:n,2:n,1:n,0:r st=
      · omega
      · refine aw_iload (pc := 208) X d_Mo_reckon_208 (by rfl) ?_
        refine aw_bipushN (pc := 210) X 40 d_Mo_reckon_210 (by decide) ?_
        refine aw_icmp_eqN (pc := 212) X (tgt := 222) d_Mo_reckon_212 (by rfl) (by omega) (by omega) (fun h212 => ?_) (fun h212 => ?_)
        -- br 212 lv=4:n,5:n,3:n,2:n,1:n,0:r st=
        · exact G222 (Or.inl h212)
        · refine aw_iload (pc := 215) X d_Mo_reckon_215 (by rfl) ?_
          refine aw_bipushN (pc := 217) X 45 d_Mo_reckon_217 (by decide) ?_
          refine aw_icmp_neN (pc := 219) X (tgt := 235) d_Mo_reckon_219 (by rfl) (by omega) (by omega) (fun h219 => ?_) (fun h219 => ?_)
          -- br 219 lv=4:n,5:n,3:n,2:n,1:n,0:r st=
          · exact G235 (by omega)
          · exact G222 (Or.inr h219)
    have M281 : ∀ w2 k c, AW G E 8 nx 0 0 w2 281 [(4, .int (nI k)), (5, .int (nI c)), (3, .int (nI (bN false))), (2, .int (nI 1)), (1, .int (nI N)), (0, rf G 418)] [] → AW G E 8 nx 0 0 w2 204 [(4, .int (nI k)), (5, .int (nI c)), (3, .int (nI (bN false))), (2, .int (nI 1)), (1, .int (nI N)), (0, rf G 418)] [] := by
      intro w2 k c con
      have hb0 : bN false = 0 := rfl
      refine aw_iload_n (pc := 204) X d_Mo_reckon_204 (by rfl) ?_
      refine aw_if_eqN (pc := 205) X (tgt := 281) d_Mo_reckon_205 (by rfl) (by omega) (fun h205 => ?_) (fun h205 => ?_)
      -- br 205 lv=4:n,5:n,3:n,2:n,1:n,0:r st=
      · exact con
      · exact absurd rfl h205
    have hN400 : N ≤ 400 := by omega
    have cb : ∀ {w2 m2 A2 V2}, rkF G w p m A B w2 m2 A2 V2 → ∀ {k}, k < S.length → S.getD k 0 < 65536 := fun hF k hk => by
      have := hF.1.b441 k
      rw [hF.2.2.2.2, ← sl_D hSB hk] at this
      exact this
    have H1 : ∀ k o r n z, k < S.length → isDig (S.getD k 0) = true → rkQ G E nx w p m A B N false (k + (numV 0 (S.drop k)).2) (whl o (numV 0 (S.drop k)).1 n).1 ((whl o (numV 0 (S.drop k)).1 n).2.1 :: r) (whl o (numV 0 (S.drop k)).1 n).2.2 z → rkQ G E nx w p m A B N true k o r n z := by
      intro k o r n z hk hdg hqq hok w2 m2 A2 V2 hF hS
      obtain ⟨o1, o2, o3, o4, o5, o6⟩ := id hok
      have hrng := of_decide_eq_true hdg
      have hcb := cb hF hk
      refine Pre true k w2 m2 A2 V2 hF hk (fun _ _ => ?_) (fun z => by rcases z with z | z; cases z; rw [hdg] at z; cases z)
      obtain ⟨hM, hf, hm2, hA2, hB⟩ := id hF
      obtain ⟨s1, s2, s3, s4, s5, s6⟩ := id hS
      have hnum : numV 0 (S.drop k) = ((numV (lN (S.getD k 0 - 48)) (S.drop (k + 1))).1, (numV (lN (S.getD k 0 - 48)) (S.drop (k + 1))).2 + 1) := by
        rw [sl_drop1 hk, numV, if_pos hdg, Int64.zero_mul, Int64.zero_add]
      generalize hv : numV 0 (S.drop k) = vn at hqq hnum
      have P174 : ∀ v kk, v = vn.1 → kk = k + vn.2 → k + 1 ≤ kk → kk ≤ S.length → AW G E 8 nx 0 0 w2 174 [(6, .long v), (4, .int (nI kk)), (5, .int (nI (S.getD k 0))), (3, .int (nI (bN true))), (2, .int (nI 1)), (1, .int (nI N)), (0, rf G 418)] [] := by
        intro v kk hv1 hkk hk1 hk2
        subst hv1
        have o1 : r.length = nbo o + 0 := o1
        have hrp : rpS (mu m2 33 (m2 33 + 1)) (A2 439) (vp_updL V2 (m2 33) vn.1) o (vn.1 :: r) n z := ⟨s1, (by show m2 33 + 1 = r.length + 1; rw [s2]), s3, s4, s5, (by show vp_updL V2 _ _ r.length = _; unfold vp_updL; rw [if_pos (by omega)]), stkV.up s6 (fun j hj => by unfold vp_updL; rw [if_neg (by omega)])⟩
        refine aw_aload_nR (pc := 174) X d_Mo_reckon_174 (by rfl) ?_
        refine gm_34 (pc := 175) X hM (by omega) d_Mo_reckon_175 ?_
        refine aw_aload_nR (pc := 178) X d_Mo_reckon_178 (by rfl) ?_
        refine gm_33 (pc := 179) X hM (by omega) d_Mo_reckon_179 ?_
        refine aw_lload (pc := 182) X d_Mo_reckon_182 (by rfl) ?_
        refine sm_440 (pc := 184) X hM hf (by omega) (by omega) d_Mo_reckon_184 (fun w hM hf => ?_)
        refine aw_aload_nR (pc := 185) X d_Mo_reckon_185 (by rfl) ?_
        refine aw_dup (pc := 186) X d_Mo_reckon_186 (by rfl) ?_
        refine gm_33 (pc := 187) X hM (by omega) d_Mo_reckon_187 ?_
        try simp only [mu, au, reduceIte, Nat.reduceEqDiff]
        refine aw_iconstN (pc := 190) X 1 d_Mo_reckon_190 (by decide) ?_
        refine aw_iaddN (pc := 191) X d_Mo_reckon_191 ?_
        refine pm_33 (pc := 192) X hM hf (by omega) d_Mo_reckon_192 (fun w hM hf => ?_)
        refine aw_aload_nR (pc := 195) X d_Mo_reckon_195 (by rfl) ?_
        -- invokevirtual 196 lv=6:l,4:n,5:n,3:n,2:n,1:n,0:r st=r
        refine aw_callV (pc := 196) X _ (s_Mo_whole (d := 0) (n := n) (o := o) (r := r) (v := vn.1) (z := z) hnx o2 o5 (by omega) (by omega) hrp hM) q_Mo_whole k_1115 k_1117 k_53 (by omega) hM.1 (by rfl) d_Mo_reckon_196 (by omega) (Nat.le_of_ble_eq_true rfl) ⟨by omega, by omega⟩ (fun h => by cases h) (fun r w nx hp => ?_)
        clear hM
        obtain ⟨rfl, hf1, p, m, A, V, hM, hq⟩ := hp
        replace hf := hf.trans hf1
        obtain ⟨rfl, hpp, haa, hm3, hS3⟩ := hq
        rw [hpp, haa] at hM
        refine aw_iconstN (pc := 199) X 0 d_Mo_reckon_199 (by decide) ?_
        refine aw_istore_n (pc := 200) X (lv' := [(3, _), (6, _), (4, _), (5, _), (2, _), (1, _), (0, _)]) d_Mo_reckon_200 (by decide) (by rfl) ?_
        refine aw_goto (pc := 201) X (tgt := 395) d_Mo_reckon_201 (by rfl) ?_
        refine aw_goto (pc := 395) X (tgt := 86) d_Mo_reckon_395 (by rfl) ?_
        -- stop 86 lv=3:n,6:l,4:n,5:n,2:n,1:n,0:r st=
        refine AW.lsub [2, 0, 4, 5, 6] (by rfl) ?_
        obtain ⟨i1, i2, i3, i4⟩ := whl_ok o vn.1 n o2
        rw [hkk]
        refine hqq ⟨?_, i2, ?_, ?_, i4 o5, by omega⟩ _ _ _ _ ⟨hM, hf, fun k hk => ?_, hA2, hB⟩ hS3
        · show r.length + 1 = _ + 1
          omega
        · omega
        · show r.length + 1 ≤ _
          omega
        · rw [hm3 k (by omega) (by omega), mu, if_neg (by omega)]
          exact hm2 k hk
      have KD : ∀ (j k' : Nat) (v : Int64), k' + j = S.length → k < k' → (numV v (S.drop k')).1 = vn.1 → k' + (numV v (S.drop k')).2 = k + vn.2 → AW G E 8 nx 0 0 w2 128 [(6, .long v), (4, .int (nI k')), (5, .int (nI (S.getD k 0))), (3, .int (nI (bN true))), (2, .int (nI 1)), (1, .int (nI N)), (0, rf G 418)] [] := by
        intro j
        induction j with
        | zero =>
          intro k' v hk' hkk h1 h2
          rw [List.drop_eq_nil_of_le (by omega), numV] at h1 h2
          refine aw_iload (pc := 128) X d_Mo_reckon_128 (by rfl) ?_
          refine aw_iload_n (pc := 130) X d_Mo_reckon_130 (by rfl) ?_
          refine aw_icmp_geN (pc := 131) X (tgt := 174) d_Mo_reckon_131 (by rfl) (by omega) (by omega) (fun h131 => ?_) (fun h131 => ?_)
          -- br 131 lv=6:l,4:n,5:n,3:n,2:n,1:n,0:r st=
          · exact P174 v k' h1 h2 (by omega) (by omega)
          · omega
        | succ j ih =>
          intro k' v hk' hkk h1 h2
          have hk2 : k' < S.length := by omega
          have hcv : A2 441 k' = S.getD k' 0 := by rw [hB]; exact (sl_D hSB hk2).symm
          have hcb2 := hM.b441 k'
          rw [sl_drop1 hk2, numV] at h1 h2
          refine aw_iload (pc := 128) X d_Mo_reckon_128 (by rfl) ?_
          refine aw_iload_n (pc := 130) X d_Mo_reckon_130 (by rfl) ?_
          refine aw_icmp_geN (pc := 131) X (tgt := 174) d_Mo_reckon_131 (by rfl) (by omega) (by omega) (fun h131 => ?_) (fun h131 => ?_)
          -- br 131 lv=6:l,4:n,5:n,3:n,2:n,1:n,0:r st=
          · omega
          · refine aw_aload_nR (pc := 134) X d_Mo_reckon_134 (by rfl) ?_
            refine gm_37 (pc := 135) X hM (by omega) d_Mo_reckon_135 ?_
            refine aw_iload (pc := 138) X d_Mo_reckon_138 (by rfl) ?_
            refine aw_caldN (pc := 140) X 441 0 (by omega) hM.a441 (by rfl) (by omega) (by decide) d_Mo_reckon_140 ?_
            -- invokestatic 141 lv=6:l,4:n,5:n,3:n,2:n,1:n,0:r st=n
            refine aw_callS (pc := 141) X (c_Mo_isDigit (d := 0) hcb2) q_Mo_isDigit k_1030 k_1031 d_Mo_reckon_141 (by omega) (Nat.le_of_ble_eq_true rfl) ⟨by omega, by omega⟩ (fun h => by cases h) (fun r w nx hp => ?_)
            obtain ⟨rfl, rfl, rfl⟩ := hp
            have hbd := bN_lt (isDig (A2 441 k'))
            refine aw_if_eqN (pc := 144) X (tgt := 174) d_Mo_reckon_144 (by rfl) (by omega) (fun h144 => ?_) (fun h144 => ?_)
            -- br 144 lv=6:l,4:n,5:n,3:n,2:n,1:n,0:r st=
            · have hnd := bN_eq.mp h144
              rw [hcv] at hnd
              rw [if_neg (by rw [hnd]; simp)] at h1 h2
              exact P174 v k' h1 h2 (by omega) (by omega)
            · have hyd := bN_ne.mp h144
              rw [hcv] at hyd
              have h48 : 48 ≤ A2 441 k' := by rw [hcv]; exact (of_decide_eq_true hyd).1
              rw [if_pos hyd] at h1 h2
              refine aw_ldc2 (pc := 147) X k_1061 d_Mo_reckon_147 ?_
              refine aw_lload (pc := 150) X d_Mo_reckon_150 (by rfl) ?_
              refine aw_lmul (pc := 152) X d_Mo_reckon_152 ?_
              refine aw_aload_nR (pc := 153) X d_Mo_reckon_153 (by rfl) ?_
              refine gm_37 (pc := 154) X hM (by omega) d_Mo_reckon_154 ?_
              refine aw_iload (pc := 157) X d_Mo_reckon_157 (by rfl) ?_
              refine aw_caldN (pc := 159) X 441 0 (by omega) hM.a441 (by rfl) (by omega) (by decide) d_Mo_reckon_159 ?_
              refine aw_i2lN (pc := 160) X d_Mo_reckon_160 (by omega) ?_
              refine aw_ladd (pc := 161) X d_Mo_reckon_161 ?_
              refine aw_ldc2 (pc := 162) X k_1062 d_Mo_reckon_162 ?_
              refine aw_lsub (pc := 165) X d_Mo_reckon_165 ?_
              -- stop 166 lv=6:l,4:n,5:n,3:n,2:n,1:n,0:r st=l
              rw [i64dig h48, hcv]
              refine aw_lstore (pc := 166) X (lv' := [(6, _), (4, _), (5, _), (3, _), (2, _), (1, _), (0, _)]) d_Mo_reckon_166 (by decide) (by rfl) ?_
              refine aw_iincN (pc := 168) X 1 (lv' := [(4, _), (6, _), (5, _), (3, _), (2, _), (1, _), (0, _)]) d_Mo_reckon_168 (by rfl) (by decide) (by decide) (by rfl) ?_
              refine aw_goto (pc := 171) X (tgt := 128) d_Mo_reckon_171 (by rfl) ?_
              -- stop 128 lv=4:n,6:l,5:n,3:n,2:n,1:n,0:r st=
              refine AW.lsub [1, 0, 2, 3, 4, 5, 6] (by rfl) ?_
              exact ih (k' + 1) _ (by omega) (by omega) h1 (by simp only at h2; omega)
      refine aw_iload (pc := 120) X d_Mo_reckon_120 (by rfl) ?_
      refine aw_bipushN (pc := 122) X 48 d_Mo_reckon_122 (by decide) ?_
      refine aw_isubN (pc := 124) X d_Mo_reckon_124 (by omega) ?_
      refine aw_i2lN (pc := 125) X d_Mo_reckon_125 (by omega) ?_
      refine aw_lstore (pc := 126) X (lv' := [(6, _), (4, _), (5, _), (3, _), (2, _), (1, _), (0, _)]) d_Mo_reckon_126 (by decide) (by rfl) ?_
      -- stop 128 lv=6:l,4:n,5:n,3:n,2:n,1:n,0:r st=
      exact KD (S.length - (k + 1)) (k + 1) _ (by omega) (by omega) (by rw [hnum]) (by rw [hnum]; simp only; omega)
    have H2 : ∀ k o r n z, k < S.length → n < 6 → (S.getD k 0 = 40 ∧ rkQ G E nx w p m A B N true (k + 1) (2 :: o) r (n + 1) z ∨ S.getD k 0 = 45 ∧ rkQ G E nx w p m A B N true (k + 1) (1 :: o) r (n + 1) z) → rkQ G E nx w p m A B N true k o r n z := by
      intro k o r n z hk hn hq hok w2 m2 A2 V2 hF hS
      obtain ⟨o1, o2, o3, o4, o5, o6⟩ := id hok
      have hcb := cb hF hk
      have hnd : isDig (S.getD k 0) = false := by rcases hq with ⟨e, -⟩ | ⟨e, -⟩ <;> rw [e] <;> rfl
      refine Pre true k w2 m2 A2 V2 hF hk (fun _ z => by rw [hnd] at z; cases z) (fun _ => ?_)
      obtain ⟨s1, s2, s3, s4, s5, s6⟩ := id hS
      refine M204 _ _ _ _ _ _ _ _ _ _ hF hS (by omega) hcb (by omega) (by omega) (fun _ w3 m3 A3 V3 hF3 hr3 => ?_) (fun z => absurd (by rcases hq with ⟨e, -⟩ | ⟨e, -⟩; exact Or.inl ⟨e, hn⟩; exact Or.inr ⟨e, hn⟩) z)
      obtain ⟨r1, r2, r3, r4, r5, r6⟩ := hr3
      have o1 : r.length = nbo o + 0 := o1
      rcases hq with ⟨e, hq⟩ | ⟨e, hq⟩
      · rw [if_pos e] at r5
        refine hq ⟨by show r.length = 0 + nbo o + 0; omega, by show n + 1 = 1 + nno o; omega, by show o.length + 1 ≤ _; omega, by omega, ?_, by omega⟩ _ _ _ _ hF3 ⟨r1, by rw [r2, s2], by rw [r3, s3], by rw [r4, s4], ⟨by rw [r5, aw_un_eq], by rw [r5]; exact s5.up (Nat.le_refl _)⟩, by rw [r6]; exact s6⟩
        intro x hx
        rcases List.mem_cons.mp hx with rfl | hx
        · exact ⟨by decide, fun z => absurd z (by decide)⟩
        · exact o5 x hx
      · rw [if_neg (by omega)] at r5
        refine hq ⟨by show r.length = 0 + nbo o + 0; omega, by show n + 1 = 1 + nno o; omega, by show o.length + 1 ≤ _; omega, by omega, ?_, by omega⟩ _ _ _ _ hF3 ⟨r1, by rw [r2, s2], by rw [r3, s3], by rw [r4, s4], ⟨by rw [r5, aw_un_eq], by rw [r5]; exact s5.up (Nat.le_refl _)⟩, by rw [r6]; exact s6⟩
        intro x hx
        rcases List.mem_cons.mp hx with rfl | hx
        · exact ⟨by decide, fun z => absurd z (by decide)⟩
        · exact o5 x hx
    have H3 : rckS S va x' = 6 → ∀ k o r n z, (S.length ≤ k ∨ k < S.length ∧ isDig (S.getD k 0) = false ∧ ((S.getD k 0 = 40 ∨ S.getD k 0 = 45) → 6 ≤ n)) → rkQ G E nx w p m A B N true k o r n z := by
      intro hW k o r n z hcs hok w2 m2 A2 V2 hF hS
      obtain ⟨o1, o2, o3, o4, o5, o6⟩ := id hok
      rcases hcs with hge | ⟨hk, hnd, h6⟩
      · have X398 : AW G E 8 nx 0 0 w2 398 [(4, .int (nI k)), (3, .int (nI (bN true))), (2, .int (nI 1)), (1, .int (nI N)), (0, rf G 418)] [] := by
          have hb1 : bN true = 1 := rfl
          refine aw_iload_n (pc := 398) X d_Mo_reckon_398 (by rfl) ?_
          refine aw_if_eqN (pc := 399) X (tgt := 411) d_Mo_reckon_399 (by rfl) (by omega) (fun h399 => ?_) (fun h399 => ?_)
          -- br 399 lv=4:n,3:n,2:n,1:n,0:r st=
          · omega
          · refine aw_iload_n (pc := 402) X d_Mo_reckon_402 (by rfl) ?_
            refine aw_if_neN (pc := 403) X (tgt := 411) d_Mo_reckon_403 (by rfl) (by omega) (fun h403 => ?_) (fun h403 => ?_)
            -- br 403 lv=4:n,3:n,2:n,1:n,0:r st=
            · refine aw_iload_n (pc := 411) X d_Mo_reckon_411 (by rfl) ?_
              refine aw_if_eqN (pc := 412) X (tgt := 426) d_Mo_reckon_412 (by rfl) (by omega) (fun h412 => ?_) (fun h412 => ?_)
              -- br 412 lv=4:n,3:n,2:n,1:n,0:r st=
              · exact X426 _ _ _ _ _ _ _ hW hF
              · refine aw_iload_n (pc := 415) X d_Mo_reckon_415 (by rfl) ?_
                refine aw_if_neN (pc := 416) X (tgt := 426) d_Mo_reckon_416 (by rfl) (by omega) (fun h416 => ?_) (fun h416 => ?_)
                -- br 416 lv=4:n,3:n,2:n,1:n,0:r st=
                · exact X426 _ _ _ _ _ _ _ hW hF
                · omega
            · omega
        refine aw_iload (pc := 86) X d_Mo_reckon_86 (by rfl) ?_
        refine aw_iload_n (pc := 88) X d_Mo_reckon_88 (by rfl) ?_
        refine aw_icmp_geN (pc := 89) X (tgt := 398) d_Mo_reckon_89 (by rfl) (by omega) (by omega) (fun h89 => ?_) (fun h89 => ?_)
        -- br 89 lv=4:n,3:n,2:n,1:n,0:r st=
        · exact X398
        · omega
      · have hcb := cb hF hk
        have hno := nno_le o
        refine Pre true k w2 m2 A2 V2 hF hk (fun _ z => by rw [hnd] at z; cases z) (fun _ => ?_)
        exact M204 _ _ _ _ _ _ _ _ _ _ hF hS (by omega) hcb (by omega) (by omega) (fun z => absurd z (by omega)) (fun _ => hW)
    have H4 : ∀ k o r n z o' v r' z', k < S.length → S.getD k 0 = 41 → stl 1 o r z = (2 :: o', v :: r', z') → rkQ G E nx w p m A B N false (k + 1) (whl o' v (n - 1)).1 ((whl o' v (n - 1)).2.1 :: r') (whl o' v (n - 1)).2.2 z' → rkQ G E nx w p m A B N false k o r n z := by
      intro k o r n z o' v r' z' hk h41 hst hqq hok w2 m2 A2 V2 hF hS
      obtain ⟨o1, o2, o3, o4, o5, o6⟩ := id hok
      have hcb := cb hF hk
      refine Pre false k w2 m2 A2 V2 hF hk (fun z => by cases z) (fun _ => M281 _ _ _ ?_)
      obtain ⟨hM, hf, hm2, hA2, hB⟩ := id hF
      have o1 : r.length = nbo o + 1 := o1
      obtain ⟨q1, q2, q3, q4, q5⟩ := stl_ok 1 o r z o1
      rw [hst] at q1 q2 q3 q4 q5
      have q1 : r'.length + 1 = 0 + nbo o' + 1 := q1
      have q2 : 1 + nno o' = nno o := q2
      have q3 : o'.length + 1 ≤ o.length := q3
      have q4 : r'.length + 1 ≤ r.length := q4
      have q6 : opk o' := fun x hx => q5 o5 x (List.mem_cons_of_mem _ hx)
      refine aw_iload (pc := 281) X d_Mo_reckon_281 (by rfl) ?_
      refine aw_bipushN (pc := 283) X 41 d_Mo_reckon_283 (by decide) ?_
      refine aw_icmp_neN (pc := 285) X (tgt := 345) d_Mo_reckon_285 (by rfl) (by omega) (by omega) (fun h285 => ?_) (fun h285 => ?_)
      -- br 285 lv=4:n,5:n,3:n,2:n,1:n,0:r st=
      · exact absurd h41 h285
      · refine aw_aload_nR (pc := 288) X d_Mo_reckon_288 (by rfl) ?_
        refine aw_iconstN (pc := 289) X 1 d_Mo_reckon_289 (by decide) ?_
        -- invokevirtual 290 lv=4:n,5:n,3:n,2:n,1:n,0:r st=n,r
        refine aw_callV (pc := 290) X _ (s_Mo_settle (d := 1) (k := 1) (n := n) hnx (by omega) (by decide) o1 o5 (by omega) (by omega) hS hM) q_Mo_settle k_1119 k_1121 k_54 (by omega) hM.1 (by rfl) d_Mo_reckon_290 (by omega) (Nat.le_of_ble_eq_true rfl) ⟨by omega, by omega⟩ (fun h => by cases h) (fun r w nx hp => ?_)
        clear hM
        obtain ⟨rfl, hf1, p, m, A, V, hM, hq⟩ := hp
        replace hf := hf.trans hf1
        obtain ⟨rfl, hpp, haa, hm3, hS3⟩ := hq
        rw [hpp, haa] at hM
        rw [hst] at hS3
        obtain ⟨u1, u2, u3, u4, u5, u6⟩ := hS3
        have u1 : m 31 = o'.length + 1 := u1
        have u2 : m 33 = r'.length + 1 := u2
        refine aw_aload_nR (pc := 293) X d_Mo_reckon_293 (by rfl) ?_
        refine gm_31 (pc := 294) X hM (by omega) d_Mo_reckon_294 ?_
        refine aw_if_leN (pc := 297) X (tgt := 304) d_Mo_reckon_297 (by rfl) (by omega) (fun h297 => ?_) (fun h297 => ?_)
        -- br 297 lv=4:n,5:n,3:n,2:n,1:n,0:r st=
        · omega
        · refine aw_iconstN (pc := 300) X 1 d_Mo_reckon_300 (by decide) ?_
          refine aw_goto (pc := 301) X (tgt := 305) d_Mo_reckon_301 (by rfl) ?_
          refine aw_istore_n (pc := 305) X (lv' := [(2, _), (4, _), (5, _), (3, _), (1, _), (0, _)]) d_Mo_reckon_305 (by decide) (by rfl) ?_
          refine aw_aload_nR (pc := 306) X d_Mo_reckon_306 (by rfl) ?_
          refine aw_dup (pc := 307) X d_Mo_reckon_307 (by rfl) ?_
          refine gm_31 (pc := 308) X hM (by omega) d_Mo_reckon_308 ?_
          refine aw_iload_n (pc := 311) X d_Mo_reckon_311 (by rfl) ?_
          refine aw_if_eqN (pc := 312) X (tgt := 319) d_Mo_reckon_312 (by rfl) (by omega) (fun h312 => ?_) (fun h312 => ?_)
          -- br 312 lv=2:n,4:n,5:n,3:n,1:n,0:r st=n,r
          · exact absurd h312 (by decide)
          · refine aw_iconstN (pc := 315) X 1 d_Mo_reckon_315 (by decide) ?_
            refine aw_goto (pc := 316) X (tgt := 320) d_Mo_reckon_316 (by rfl) ?_
            refine aw_isubN (pc := 320) X d_Mo_reckon_320 (by omega) ?_
            refine pm_31 (pc := 321) X hM hf (by omega) d_Mo_reckon_321 (fun w hM hf => ?_)
            refine aw_aload_nR (pc := 324) X d_Mo_reckon_324 (by rfl) ?_
            refine aw_dup (pc := 325) X d_Mo_reckon_325 (by rfl) ?_
            refine gm_35 (pc := 326) X hM (by omega) d_Mo_reckon_326 ?_
            try simp only [mu, au, reduceIte, Nat.reduceEqDiff]
            refine aw_iconstN (pc := 329) X 1 d_Mo_reckon_329 (by decide) ?_
            refine aw_isubN (pc := 330) X d_Mo_reckon_330 (by omega) ?_
            refine pm_35 (pc := 331) X hM hf (by omega) d_Mo_reckon_331 (fun w hM hf => ?_)
            refine aw_iload_n (pc := 334) X d_Mo_reckon_334 (by rfl) ?_
            refine aw_if_eqN (pc := 335) X (tgt := 395) d_Mo_reckon_335 (by rfl) (by omega) (fun h335 => ?_) (fun h335 => ?_)
            -- br 335 lv=2:n,4:n,5:n,3:n,1:n,0:r st=
            · exact absurd h335 (by decide)
            · have hrp : rpS (mu (mu m 31 (m 31 - 1)) 35 (m 35 - 1)) (A2 439) V o' (v :: r') (n - 1) z' := ⟨(by show m 31 - 1 = _; omega), u2, (by show m 35 - 1 = _; rw [u3]), u4, u5.2, u6⟩
              refine aw_aload_nR (pc := 338) X d_Mo_reckon_338 (by rfl) ?_
              -- invokevirtual 339 lv=2:n,4:n,5:n,3:n,1:n,0:r st=r
              refine aw_callV (pc := 339) X _ (s_Mo_whole (d := 0) (n := n - 1) (o := o') (r := r') (v := v) (z := z') hnx (by omega) q6 (by omega) (by omega) hrp hM) q_Mo_whole k_1115 k_1117 k_53 (by omega) hM.1 (by rfl) d_Mo_reckon_339 (by omega) (Nat.le_of_ble_eq_true rfl) ⟨by omega, by omega⟩ (fun h => by cases h) (fun r w nx hp => ?_)
              clear hM
              obtain ⟨rfl, hf1, p, m, A, V, hM, hq⟩ := hp
              replace hf := hf.trans hf1
              obtain ⟨rfl, hpp, haa, hm4, hS4⟩ := hq
              rw [hpp, haa] at hM
              refine aw_goto (pc := 342) X (tgt := 395) d_Mo_reckon_342 (by rfl) ?_
              refine aw_goto (pc := 395) X (tgt := 86) d_Mo_reckon_395 (by rfl) ?_
              -- stop 86 lv=2:n,4:n,5:n,3:n,1:n,0:r st=
              refine AW.lsub [1, 3, 0, 4, 5] (by rfl) ?_
              obtain ⟨i1, i2, i3, i4⟩ := whl_ok o' v (n - 1) (by omega)
              refine hqq ⟨?_, i2, ?_, ?_, i4 q6, by omega⟩ _ _ _ _ ⟨hM, hf, fun k hk => ?_, hA2, hB⟩ hS4
              · show r'.length + 1 = _ + 1
                omega
              · omega
              · show r'.length + 1 ≤ _
                omega
              · rw [hm4 k (by omega) (by omega), mu, if_neg (by omega), mu, if_neg (by omega), hm3 k (by omega) (by omega) (by omega)]
                exact hm2 k hk
    have H5 : ∀ k o r n z, k < S.length → 1 ≤ strS (S.getD k 0) → rkQ G E nx w p m A B N true (k + 1) (S.getD k 0 :: (stl (strS (S.getD k 0)) o r z).1) (stl (strS (S.getD k 0)) o r z).2.1 n (stl (strS (S.getD k 0)) o r z).2.2 → rkQ G E nx w p m A B N false k o r n z := by
      intro k o r n z hk hst hqq hok w2 m2 A2 V2 hF hS
      obtain ⟨o1, o2, o3, o4, o5, o6⟩ := id hok
      have hcb := cb hF hk
      refine Pre false k w2 m2 A2 V2 hF hk (fun z => by cases z) (fun _ => M281 _ _ _ ?_)
      obtain ⟨hM, hf, hm2, hA2, hB⟩ := id hF
      generalize S.getD k 0 = c at hst hqq hcb
      have o1 : r.length = nbo o + 1 := o1
      have hc2 : 2 < c := strS_pos hst
      have hs4 := strS_le c
      obtain ⟨q1, q2, q3, q4, q5⟩ := stl_ok (strS c) o r z o1
      refine aw_iload (pc := 281) X d_Mo_reckon_281 (by rfl) ?_
      refine aw_bipushN (pc := 283) X 41 d_Mo_reckon_283 (by decide) ?_
      refine aw_icmp_neN (pc := 285) X (tgt := 345) d_Mo_reckon_285 (by rfl) (by omega) (by omega) (fun h285 => ?_) (fun h285 => ?_)
      -- br 285 lv=4:n,5:n,3:n,2:n,1:n,0:r st=
      · refine aw_iload (pc := 345) X d_Mo_reckon_345 (by rfl) ?_
        -- invokestatic 347 lv=4:n,5:n,3:n,2:n,1:n,0:r st=n
        refine aw_callS (pc := 347) X (c_Mo_strength (d := 0) hcb) q_Mo_strength k_1123 k_1124 d_Mo_reckon_347 (by omega) (Nat.le_of_ble_eq_true rfl) ⟨by omega, by omega⟩ (fun h => by cases h) (fun r w nx hp => ?_)
        obtain ⟨rfl, rfl, rfl⟩ := hp
        refine aw_if_leN (pc := 350) X (tgt := 357) d_Mo_reckon_350 (by rfl) (by omega) (fun h350 => ?_) (fun h350 => ?_)
        -- br 350 lv=4:n,5:n,3:n,2:n,1:n,0:r st=
        · omega
        · refine aw_iconstN (pc := 353) X 1 d_Mo_reckon_353 (by decide) ?_
          refine aw_goto (pc := 354) X (tgt := 358) d_Mo_reckon_354 (by rfl) ?_
          refine aw_istore_n (pc := 358) X (lv' := [(2, _), (4, _), (5, _), (3, _), (1, _), (0, _)]) d_Mo_reckon_358 (by decide) (by rfl) ?_
          refine aw_iload_n (pc := 359) X d_Mo_reckon_359 (by rfl) ?_
          refine aw_if_eqN (pc := 360) X (tgt := 372) d_Mo_reckon_360 (by rfl) (by omega) (fun h360 => ?_) (fun h360 => ?_)
          -- br 360 lv=2:n,4:n,5:n,3:n,1:n,0:r st=
          · exact absurd h360 (by decide)
          · refine aw_aload_nR (pc := 363) X d_Mo_reckon_363 (by rfl) ?_
            refine aw_iload (pc := 364) X d_Mo_reckon_364 (by rfl) ?_
            -- invokestatic 366 lv=2:n,4:n,5:n,3:n,1:n,0:r st=n,r
            refine aw_callS (pc := 366) X (c_Mo_strength (d := 0) hcb) q_Mo_strength k_1123 k_1124 d_Mo_reckon_366 (by omega) (Nat.le_of_ble_eq_true rfl) ⟨by omega, by omega⟩ (fun h => by cases h) (fun r w nx hp => ?_)
            obtain ⟨rfl, rfl, rfl⟩ := hp
            refine aw_callV (pc := 369) X _ (s_Mo_settle (d := 1) (k := strS c) (n := n) hnx (by omega) (by omega) o1 o5 (by omega) (by omega) hS hM) q_Mo_settle k_1119 k_1121 k_54 (by omega) hM.1 (by rfl) d_Mo_reckon_369 (by omega) (Nat.le_of_ble_eq_true rfl) ⟨by omega, by omega⟩ (fun h => by cases h) (fun r w nx hp => ?_)
            clear hM
            obtain ⟨rfl, hf1, p, m, A, V, hM, hq⟩ := hp
            replace hf := hf.trans hf1
            obtain ⟨rfl, hpp, haa, hm3, hS3⟩ := hq
            rw [hpp, haa] at hM
            generalize stl (strS c) o r z = Fn at hqq q1 q2 q3 q4 q5 hS3
            obtain ⟨u1, u2, u3, u4, u5, u6⟩ := hS3
            refine aw_aload_nR (pc := 372) X d_Mo_reckon_372 (by rfl) ?_
            refine gm_32 (pc := 373) X hM (by omega) d_Mo_reckon_373 ?_
            refine aw_aload_nR (pc := 376) X d_Mo_reckon_376 (by rfl) ?_
            refine gm_31 (pc := 377) X hM (by omega) d_Mo_reckon_377 ?_
            refine aw_iload (pc := 380) X d_Mo_reckon_380 (by rfl) ?_
            refine sm_439 (pc := 382) X hM hf (by omega) (by omega) d_Mo_reckon_382 (fun w hM hf => ?_)
            refine aw_aload_nR (pc := 383) X d_Mo_reckon_383 (by rfl) ?_
            refine aw_dup (pc := 384) X d_Mo_reckon_384 (by rfl) ?_
            refine gm_31 (pc := 385) X hM (by omega) d_Mo_reckon_385 ?_
            try simp only [mu, au, reduceIte, Nat.reduceEqDiff]
            refine aw_iconstN (pc := 388) X 1 d_Mo_reckon_388 (by decide) ?_
            refine aw_iaddN (pc := 389) X d_Mo_reckon_389 ?_
            refine pm_31 (pc := 390) X hM hf (by omega) d_Mo_reckon_390 (fun w hM hf => ?_)
            refine aw_iconstN (pc := 393) X 1 d_Mo_reckon_393 (by decide) ?_
            refine aw_istore_n (pc := 394) X (lv' := [(3, _), (2, _), (4, _), (5, _), (1, _), (0, _)]) d_Mo_reckon_394 (by decide) (by rfl) ?_
            refine aw_goto (pc := 395) X (tgt := 86) d_Mo_reckon_395 (by rfl) ?_
            -- stop 86 lv=3:n,2:n,4:n,5:n,1:n,0:r st=
            refine AW.lsub [2, 0, 1, 4, 5] (by rfl) ?_
            refine hqq ⟨?_, ?_, ?_, by omega, ?_, by omega⟩ _ _ _ _ ⟨hM, hf, fun k hk => ?_, fun a ha => ?_, hB⟩ ⟨?_, u2, u3, u4, ⟨?_, ?_⟩, u6⟩
            · rw [nbo, if_pos hc2, if_pos rfl]; omega
            · rw [nno, if_pos hc2]; omega
            · show Fn.1.length + 1 ≤ _; omega
            · intro x hx
              rcases List.mem_cons.mp hx with rfl | hx
              · exact ⟨hcb, fun _ => hst⟩
              · exact q5 o5 x hx
            · rw [mu, if_neg (by omega), hm3 k (by omega) (by omega) (by omega)]
              exact hm2 k hk
            · exact (if_neg (by omega)).trans (hA2 a ha)
            · show m 31 + 1 = Fn.1.length + 1
              rw [u1]
            · show aw_un _ (m 31) c Fn.1.length = c
              rw [u1, aw_un_eq]
            · show stkO (aw_un _ (m 31) c) Fn.1
              rw [u1]
              exact u5.up (Nat.le_refl _)
      · subst h285
        exact absurd hst (by decide)
    have H6 : rckS S va x' = 6 → ∀ k o r n z, k < S.length → strS (S.getD k 0) = 0 → (S.getD k 0 = 41 → (stl 1 o r z).1 = []) → rkQ G E nx w p m A B N false k o r n z := by
      intro hW k o r n z hk hst h41 hok w2 m2 A2 V2 hF hS
      obtain ⟨o1, o2, o3, o4, o5, o6⟩ := id hok
      have hcb := cb hF hk
      refine Pre false k w2 m2 A2 V2 hF hk (fun z => by cases z) (fun _ => M281 _ _ _ ?_)
      obtain ⟨hM, hf, hm2, hA2, hB⟩ := id hF
      obtain ⟨s1, s2, s3, s4, s5, s6⟩ := id hS
      generalize S.getD k 0 = c at hst hcb h41
      have o1 : r.length = nbo o + 1 := o1
      obtain ⟨q1, q2, q3, q4, q5⟩ := stl_ok 1 o r z o1
      refine aw_iload (pc := 281) X d_Mo_reckon_281 (by rfl) ?_
      refine aw_bipushN (pc := 283) X 41 d_Mo_reckon_283 (by decide) ?_
      refine aw_icmp_neN (pc := 285) X (tgt := 345) d_Mo_reckon_285 (by rfl) (by omega) (by omega) (fun h285 => ?_) (fun h285 => ?_)
      -- br 285 lv=4:n,5:n,3:n,2:n,1:n,0:r st=
      · refine aw_iload (pc := 345) X d_Mo_reckon_345 (by rfl) ?_
        -- invokestatic 347 lv=4:n,5:n,3:n,2:n,1:n,0:r st=n
        refine aw_callS (pc := 347) X (c_Mo_strength (d := 0) hcb) q_Mo_strength k_1123 k_1124 d_Mo_reckon_347 (by omega) (Nat.le_of_ble_eq_true rfl) ⟨by omega, by omega⟩ (fun h => by cases h) (fun r w nx hp => ?_)
        obtain ⟨rfl, rfl, rfl⟩ := hp
        refine aw_if_leN (pc := 350) X (tgt := 357) d_Mo_reckon_350 (by rfl) (by omega) (fun h350 => ?_) (fun h350 => ?_)
        -- br 350 lv=4:n,5:n,3:n,2:n,1:n,0:r st=
        · refine aw_iconstN (pc := 357) X 0 d_Mo_reckon_357 (by decide) ?_
          refine aw_istore_n (pc := 358) X (lv' := [(2, _), (4, _), (5, _), (3, _), (1, _), (0, _)]) d_Mo_reckon_358 (by decide) (by rfl) ?_
          refine aw_iload_n (pc := 359) X d_Mo_reckon_359 (by rfl) ?_
          refine aw_if_eqN (pc := 360) X (tgt := 372) d_Mo_reckon_360 (by rfl) (by omega) (fun h360 => ?_) (fun h360 => ?_)
          -- br 360 lv=2:n,4:n,5:n,3:n,1:n,0:r st=
          · refine aw_aload_nR (pc := 372) X d_Mo_reckon_372 (by rfl) ?_
            refine gm_32 (pc := 373) X hM (by omega) d_Mo_reckon_373 ?_
            refine aw_aload_nR (pc := 376) X d_Mo_reckon_376 (by rfl) ?_
            refine gm_31 (pc := 377) X hM (by omega) d_Mo_reckon_377 ?_
            refine aw_iload (pc := 380) X d_Mo_reckon_380 (by rfl) ?_
            refine sm_439 (pc := 382) X hM hf (by omega) (by omega) d_Mo_reckon_382 (fun w hM hf => ?_)
            refine aw_aload_nR (pc := 383) X d_Mo_reckon_383 (by rfl) ?_
            refine aw_dup (pc := 384) X d_Mo_reckon_384 (by rfl) ?_
            refine gm_31 (pc := 385) X hM (by omega) d_Mo_reckon_385 ?_
            try simp only [mu, au, reduceIte, Nat.reduceEqDiff]
            refine aw_iconstN (pc := 388) X 1 d_Mo_reckon_388 (by decide) ?_
            refine aw_iaddN (pc := 389) X d_Mo_reckon_389 ?_
            refine pm_31 (pc := 390) X hM hf (by omega) d_Mo_reckon_390 (fun w hM hf => ?_)
            refine aw_iconstN (pc := 393) X 1 d_Mo_reckon_393 (by decide) ?_
            refine aw_istore_n (pc := 394) X (lv' := [(3, _), (2, _), (4, _), (5, _), (1, _), (0, _)]) d_Mo_reckon_394 (by decide) (by rfl) ?_
            refine aw_goto (pc := 395) X (tgt := 86) d_Mo_reckon_395 (by rfl) ?_
            -- stop 86 lv=3:n,2:n,4:n,5:n,1:n,0:r st=
            refine AW.lsub [2, 0, 1, 4, 5] (by rfl) ?_
            refine Bad _ _ _ _ _ _ hW ⟨hM, hf, fun k hk => ?_, fun a ha => ?_, hB⟩ (by omega)
            · rw [mu, if_neg (by omega)]; exact hm2 k hk
            · exact (if_neg (by omega)).trans (hA2 a ha)
          · exact absurd rfl h360
        · omega
      · have h0 := h41 h285
        rw [h0] at q1 q2
        have q2 : 0 = nno o := q2
        refine aw_aload_nR (pc := 288) X d_Mo_reckon_288 (by rfl) ?_
        refine aw_iconstN (pc := 289) X 1 d_Mo_reckon_289 (by decide) ?_
        -- invokevirtual 290 lv=4:n,5:n,3:n,2:n,1:n,0:r st=n,r
        refine aw_callV (pc := 290) X _ (s_Mo_settle (d := 1) (k := 1) (n := n) hnx (by omega) (by decide) o1 o5 (by omega) (by omega) hS hM) q_Mo_settle k_1119 k_1121 k_54 (by omega) hM.1 (by rfl) d_Mo_reckon_290 (by omega) (Nat.le_of_ble_eq_true rfl) ⟨by omega, by omega⟩ (fun h => by cases h) (fun r w nx hp => ?_)
        clear hM
        obtain ⟨rfl, hf1, p, m, A, V, hM, hq⟩ := hp
        replace hf := hf.trans hf1
        obtain ⟨rfl, hpp, haa, hm3, hS3⟩ := hq
        rw [hpp, haa] at hM
        obtain ⟨u1, u2, u3, u4, u5, u6⟩ := hS3
        rw [h0] at u1
        have u1 : m 31 = 0 := u1
        refine aw_aload_nR (pc := 293) X d_Mo_reckon_293 (by rfl) ?_
        refine gm_31 (pc := 294) X hM (by omega) d_Mo_reckon_294 ?_
        refine aw_if_leN (pc := 297) X (tgt := 304) d_Mo_reckon_297 (by rfl) (by omega) (fun h297 => ?_) (fun h297 => ?_)
        -- br 297 lv=4:n,5:n,3:n,2:n,1:n,0:r st=
        · refine aw_iconstN (pc := 304) X 0 d_Mo_reckon_304 (by decide) ?_
          refine aw_istore_n (pc := 305) X (lv' := [(2, _), (4, _), (5, _), (3, _), (1, _), (0, _)]) d_Mo_reckon_305 (by decide) (by rfl) ?_
          refine aw_aload_nR (pc := 306) X d_Mo_reckon_306 (by rfl) ?_
          refine aw_dup (pc := 307) X d_Mo_reckon_307 (by rfl) ?_
          refine gm_31 (pc := 308) X hM (by omega) d_Mo_reckon_308 ?_
          refine aw_iload_n (pc := 311) X d_Mo_reckon_311 (by rfl) ?_
          refine aw_if_eqN (pc := 312) X (tgt := 319) d_Mo_reckon_312 (by rfl) (by omega) (fun h312 => ?_) (fun h312 => ?_)
          -- br 312 lv=2:n,4:n,5:n,3:n,1:n,0:r st=n,r
          · refine aw_iconstN (pc := 319) X 0 d_Mo_reckon_319 (by decide) ?_
            refine aw_isubN (pc := 320) X d_Mo_reckon_320 (by omega) ?_
            refine pm_31 (pc := 321) X hM hf (by omega) d_Mo_reckon_321 (fun w hM hf => ?_)
            refine aw_aload_nR (pc := 324) X d_Mo_reckon_324 (by rfl) ?_
            refine aw_dup (pc := 325) X d_Mo_reckon_325 (by rfl) ?_
            refine gm_35 (pc := 326) X hM (by omega) d_Mo_reckon_326 ?_
            try simp only [mu, au, reduceIte, Nat.reduceEqDiff]
            refine aw_iconstN (pc := 329) X 1 d_Mo_reckon_329 (by decide) ?_
            -- stop 330 lv=2:n,4:n,5:n,3:n,1:n,0:r st=n,n,r
            have q35 : m 35 = 0 := by omega
            refine aw_isub (pc := 330) X d_Mo_reckon_330 ?_
            rw [q35, show nI 0 - nI 1 = nI 4294967295 by decide]
            refine pm_35 (pc := 331) X hM hf (by omega) d_Mo_reckon_331 (fun w hM hf => ?_)
            refine aw_iload_n (pc := 334) X d_Mo_reckon_334 (by rfl) ?_
            refine aw_if_eqN (pc := 335) X (tgt := 395) d_Mo_reckon_335 (by rfl) (by omega) (fun h335 => ?_) (fun h335 => ?_)
            -- br 335 lv=2:n,4:n,5:n,3:n,1:n,0:r st=
            · refine aw_goto (pc := 395) X (tgt := 86) d_Mo_reckon_395 (by rfl) ?_
              -- stop 86 lv=2:n,4:n,5:n,3:n,1:n,0:r st=
              refine AW.lsub [1, 3, 0, 4, 5] (by rfl) ?_
              refine Bad _ _ _ _ _ _ hW ⟨hM, hf, fun k hk => ?_, hA2, hB⟩ (by omega)
              rw [mu, if_neg (by omega), mu, if_neg (by omega), hm3 k (by omega) (by omega) (by omega)]
              exact hm2 k hk
            · exact absurd rfl h335
          · exact absurd rfl h312
        · omega
    have End : ∀ k o r n z w2 m2 A2 V2, S.length ≤ k → okS false k o r n → rkF G w p m A B w2 m2 A2 V2 → rpS m2 (A2 439) V2 o r n z → (∀ w3 m3 V3, rkF G w p m A B w3 m3 A2 V3 → rpS m3 (A2 439) V3 (stl 1 o r z).1 (stl 1 o r z).2.1 n (stl 1 o r z).2.2 → AW G E 8 nx 0 0 w3 419 [(4, .int (nI k)), (3, .int (nI (bN false))), (2, .int (nI 1)), (1, .int (nI N)), (0, rf G 418)] []) → AW G E 8 nx 0 0 w2 86 [(4, .int (nI k)), (3, .int (nI (bN false))), (2, .int (nI 1)), (1, .int (nI N)), (0, rf G 418)] [] := by
      intro k o r n z w2 m2 A2 V2 hk hok hF hS con
      obtain ⟨o1, o2, o3, o4, o5, o6⟩ := id hok
      obtain ⟨hM, hf, hm2, hA2, hB⟩ := id hF
      have o1 : r.length = nbo o + 1 := o1
      have hb0 : bN false = 0 := rfl
      refine aw_iload (pc := 86) X d_Mo_reckon_86 (by rfl) ?_
      refine aw_iload_n (pc := 88) X d_Mo_reckon_88 (by rfl) ?_
      refine aw_icmp_geN (pc := 89) X (tgt := 398) d_Mo_reckon_89 (by rfl) (by omega) (by omega) (fun h89 => ?_) (fun h89 => ?_)
      -- br 89 lv=4:n,3:n,2:n,1:n,0:r st=
      · refine aw_iload_n (pc := 398) X d_Mo_reckon_398 (by rfl) ?_
        refine aw_if_eqN (pc := 399) X (tgt := 411) d_Mo_reckon_399 (by rfl) (by omega) (fun h399 => ?_) (fun h399 => ?_)
        -- br 399 lv=4:n,3:n,2:n,1:n,0:r st=
        · exact absurd h399 (by decide)
        · refine aw_iload_n (pc := 402) X d_Mo_reckon_402 (by rfl) ?_
          refine aw_if_neN (pc := 403) X (tgt := 411) d_Mo_reckon_403 (by rfl) (by omega) (fun h403 => ?_) (fun h403 => ?_)
          -- br 403 lv=4:n,3:n,2:n,1:n,0:r st=
          · omega
          · refine aw_aload_nR (pc := 406) X d_Mo_reckon_406 (by rfl) ?_
            refine aw_iconstN (pc := 407) X 1 d_Mo_reckon_407 (by decide) ?_
            -- invokevirtual 408 lv=4:n,3:n,2:n,1:n,0:r st=n,r
            refine aw_callV (pc := 408) X _ (s_Mo_settle (d := 1) (k := 1) (n := n) hnx (by omega) (by decide) o1 o5 (by omega) (by omega) hS hM) q_Mo_settle k_1119 k_1121 k_54 (by omega) hM.1 (by rfl) d_Mo_reckon_408 (by omega) (Nat.le_of_ble_eq_true rfl) ⟨by omega, by omega⟩ (fun h => by cases h) (fun r w nx hp => ?_)
            clear hM
            obtain ⟨rfl, hf1, p, m, A, V, hM, hq⟩ := hp
            replace hf := hf.trans hf1
            obtain ⟨rfl, hpp, haa, hm3, hS3⟩ := hq
            rw [hpp, haa] at hM
            refine aw_iload_n (pc := 411) X d_Mo_reckon_411 (by rfl) ?_
            refine aw_if_eqN (pc := 412) X (tgt := 426) d_Mo_reckon_412 (by rfl) (by omega) (fun h412 => ?_) (fun h412 => ?_)
            -- br 412 lv=4:n,3:n,2:n,1:n,0:r st=
            · exact absurd h412 (by decide)
            · refine aw_iload_n (pc := 415) X d_Mo_reckon_415 (by rfl) ?_
              refine aw_if_neN (pc := 416) X (tgt := 426) d_Mo_reckon_416 (by rfl) (by omega) (fun h416 => ?_) (fun h416 => ?_)
              -- br 416 lv=4:n,3:n,2:n,1:n,0:r st=
              · omega
              · exact con _ _ _ ⟨hM, hf, fun k hk => (hm3 k (by omega) (by omega) (by omega)).trans (hm2 k hk), hA2, hB⟩ hS3
      · omega
    have H7 : rckS S va x' = 6 → ∀ k o r n z, S.length ≤ k → (stl 1 o r z).1 ≠ [] → rkQ G E nx w p m A B N false k o r n z := by
      intro hW k o r n z hk hne hok w2 m2 A2 V2 hF hS
      refine End k o r n z w2 m2 A2 V2 hk hok hF hS (fun w3 m3 V3 hF3 hS3 => ?_)
      obtain ⟨hM, hf, hm3, hA3, hB⟩ := id hF3
      obtain ⟨o1, o2, o3, o4, o5, o6⟩ := id hok
      obtain ⟨q1, q2, q3, q4, q5⟩ := stl_ok 1 o r z o1
      have u1 := hS3.1
      have : 0 < (stl 1 o r z).1.length := List.length_pos_iff.mpr hne
      refine aw_aload_nR (pc := 419) X d_Mo_reckon_419 (by rfl) ?_
      refine gm_31 (pc := 420) X hM (by omega) d_Mo_reckon_420 ?_
      refine aw_if_leN (pc := 423) X (tgt := 435) d_Mo_reckon_423 (by rfl) (by omega) (fun h423 => ?_) (fun h423 => ?_)
      -- br 423 lv=4:n,3:n,2:n,1:n,0:r st=
      · omega
      · exact X426 _ _ _ _ _ _ _ hW hF3
    have H8 : x'.2.1 = false → S.length ≤ x'.1 → ∀ k o r n z, S.length ≤ k → stl 1 o r z = ([], [va], x'.2.2) → rkQ G E nx w p m A B N false k o r n z := by
      intro hx1 hx2 k o r n z hk hst hok w2 m2 A2 V2 hF hS
      have hrk : rckS S va x' = if x'.2.2 = true then 5 else 0 := by rw [rckS, if_neg (by rw [hx1]; simp; omega)]
      refine End k o r n z w2 m2 A2 V2 hk hok hF hS (fun w3 m3 V3 hF3 hS3 => ?_)
      obtain ⟨hM, hf, hm3, hA3, hB⟩ := id hF3
      rw [hst] at hS3
      obtain ⟨u1, u2, u3, u4, u5, u6⟩ := hS3
      have u1 : m3 31 = 0 := u1
      have u4 : m3 36 = bN x'.2.2 := u4
      have hbz := bN_lt x'.2.2
      have q28 : m3 28 = 0 := (hm3 28 (by decide)).trans e28
      refine aw_aload_nR (pc := 419) X d_Mo_reckon_419 (by rfl) ?_
      refine gm_31 (pc := 420) X hM (by omega) d_Mo_reckon_420 ?_
      refine aw_if_leN (pc := 423) X (tgt := 435) d_Mo_reckon_423 (by rfl) (by omega) (fun h423 => ?_) (fun h423 => ?_)
      -- br 423 lv=4:n,3:n,2:n,1:n,0:r st=
      · refine aw_aload_nR (pc := 435) X d_Mo_reckon_435 (by rfl) ?_
        refine gm_36 (pc := 436) X hM (by omega) d_Mo_reckon_436 ?_
        refine aw_if_eqN (pc := 439) X (tgt := 450) d_Mo_reckon_439 (by rfl) (by omega) (fun h439 => ?_) (fun h439 => ?_)
        -- br 439 lv=4:n,3:n,2:n,1:n,0:r st=
        · have hz : x'.2.2 = false := bN_eq.mp (by omega)
          rw [hz, if_neg (by simp)] at hrk
          have hps : PSt m3 (A2 438) L := by
            unfold PSt
            rw [hm3 28 (by decide), hm3 26 (by decide), hm3 3 (by decide), hA3 438 (by decide)]
            exact hSt
          have hv : V3 0 = va := u6.1
          refine aw_aload_nR (pc := 450) X d_Mo_reckon_450 (by rfl) ?_
          refine aw_aload_nR (pc := 451) X d_Mo_reckon_451 (by rfl) ?_
          refine gm_34 (pc := 452) X hM (by omega) d_Mo_reckon_452 ?_
          refine aw_iconstN (pc := 455) X 0 d_Mo_reckon_455 (by decide) ?_
          refine aw_laldN (pc := 456) X 440 2 (by omega) hM.a440 (by rfl) (by omega) (by decide) d_Mo_reckon_456 ?_
          -- invokevirtual 457 lv=4:n,3:n,2:n,1:n,0:r st=l,r
          rw [hv]
          refine aw_callV (pc := 457) X _ (s_Mo_putNumber (d := 2) hnx (by omega) (by rw [hm3 3 (by decide)]; exact h3) hps hM) q_Mo_putNumber k_1057 k_1059 k_39 (by omega) hM.1 (by rfl) d_Mo_reckon_457 (by omega) (Nat.le_of_ble_eq_true rfl) ⟨by omega, by omega⟩ (fun h => by cases h) (fun r w nx hp => ?_)
          clear hM
          obtain ⟨rfl, hf1, p, m, A, V, hM, hq⟩ := hp
          replace hf := hf.trans hf1
          obtain ⟨rfl, hpp, hvv, hq2, hS2⟩ := hq
          rw [hpp, hvv] at hM
          refine aw_vret Y X rfl d_Mo_reckon_460 (by omega) (by omega) (hP _ _ _ ?_)
          -- ret 460 lv=4:n,3:n,2:n,1:n,0:r st=
          refine ⟨rfl, hf, _, _, _, _, hM, rfl, rfl, fun k h1 h2 h3 => (hq2.1 k h1 h2).trans (hm3 k h3), fun a ha => (hq2.2 a (by omega)).trans (hA3 a (by omega)), fun z => absurd hrk z, fun _ => hS2⟩
        · have hz : x'.2.2 = true := bN_ne.mp (by omega)
          rw [hz, if_pos rfl] at hrk
          refine aw_aload_nR (pc := 442) X d_Mo_reckon_442 (by rfl) ?_
          refine aw_iconstN (pc := 443) X 5 d_Mo_reckon_443 (by decide) ?_
          -- invokevirtual 444 lv=4:n,3:n,2:n,1:n,0:r st=n,r
          refine aw_callV (pc := 444) X _ (s_Mo_stop (d := 0) (e := 5) hnx (by omega) hM) q_Mo_stop k_1003 k_1005 k_27 (by omega) hM.1 (by rfl) d_Mo_reckon_444 (by omega) (Nat.le_of_ble_eq_true rfl) ⟨by omega, by omega⟩ (fun h => by cases h) (fun r w nx hp => ?_)
          clear hM
          obtain ⟨rfl, hf1, p, m, A, V, hM, hq⟩ := hp
          replace hf := hf.trans hf1
          obtain ⟨rfl, hpp, haa, hvv, hmm⟩ := hq
          rw [hpp, haa, hvv, hmm] at hM
          rw [if_pos q28] at hM
          refine aw_goto (pc := 447) X (tgt := 460) d_Mo_reckon_447 (by rfl) ?_
          refine aw_vret Y X rfl d_Mo_reckon_460 (by omega) (by omega) (hP _ _ _ ?_)
          -- ret 460 lv=4:n,3:n,2:n,1:n,0:r st=
          refine ⟨rfl, hf, _, _, _, _, hM, rfl, rfl, fun k h1 h2 h3 => (if_neg h2).trans (hm3 k h3), fun a ha => hA3 a (by omega), fun _ => hrk.symm, fun z => ?_⟩
          rw [hrk] at z
          cases z
      · omega
    obtain ⟨-, fin, -⟩ := ev_sy (S := S) (W := rckS S va x' = 6) (Q := rkQ G E nx w p m A B N) H1 H2 H3 H4 H5 H6 H7 f 1 0 0 false (0, false, false) va x' hev rfl [] []
    obtain ⟨f1, f2⟩ := fin rfl (by omega) (by omega) trivial
    have start : rkQ G E nx w p m A B N true 0 [] [] 0 false := by
      cases hx1 : x'.2.1 with
      | true => exact f1 hx1 (by rw [rckS, if_pos (Or.inl hx1)])
      | false =>
        obtain ⟨g1, g2⟩ := f2 hx1
        refine g2 (fun o2 r2 z2 hst => ?_)
        have hst1 : stt S x'.1 = 1 := by rw [stt, if_neg (by omega)]
        rw [hst1, stl_nil] at hst
        by_cases hlt : x'.1 < S.length
        · exact H6 (by rw [rckS, if_pos (Or.inr hlt)]) _ _ _ _ _ hlt (by omega) (fun _ => by rw [hst])
        · exact H8 hx1 (by omega) _ _ _ _ _ (by omega) hst
    have hM := hM1
    have hf := hf1
    refine aw_aload_nR (pc := 59) X d_Mo_reckon_59 (by rfl) ?_
    refine aw_iconstN (pc := 60) X 0 d_Mo_reckon_60 (by decide) ?_
    refine pm_31 (pc := 61) X hM hf (by omega) d_Mo_reckon_61 (fun w hM hf => ?_)
    refine aw_aload_nR (pc := 64) X d_Mo_reckon_64 (by rfl) ?_
    refine aw_iconstN (pc := 65) X 0 d_Mo_reckon_65 (by decide) ?_
    refine pm_33 (pc := 66) X hM hf (by omega) d_Mo_reckon_66 (fun w hM hf => ?_)
    refine aw_aload_nR (pc := 69) X d_Mo_reckon_69 (by rfl) ?_
    refine aw_iconstN (pc := 70) X 0 d_Mo_reckon_70 (by decide) ?_
    refine pm_35 (pc := 71) X hM hf (by omega) d_Mo_reckon_71 (fun w hM hf => ?_)
    refine aw_aload_nR (pc := 74) X d_Mo_reckon_74 (by rfl) ?_
    refine aw_iconstN (pc := 75) X 0 d_Mo_reckon_75 (by decide) ?_
    refine pm_36 (pc := 76) X hM hf (by omega) (by omega) d_Mo_reckon_76 (fun w hM hf => ?_)
    refine aw_iconstN (pc := 79) X 1 d_Mo_reckon_79 (by decide) ?_
    refine aw_istore_n (pc := 80) X (lv' := [(2, _), (1, _), (0, _)]) d_Mo_reckon_80 (by decide) (by rfl) ?_
    refine aw_iconstN (pc := 81) X 1 d_Mo_reckon_81 (by decide) ?_
    refine aw_istore_n (pc := 82) X (lv' := [(3, _), (2, _), (1, _), (0, _)]) d_Mo_reckon_82 (by decide) (by rfl) ?_
    refine aw_iconstN (pc := 83) X 0 d_Mo_reckon_83 (by decide) ?_
    refine aw_istore (pc := 84) X (lv' := [(4, _), (3, _), (2, _), (1, _), (0, _)]) d_Mo_reckon_84 (by decide) (by rfl) ?_
    -- stop 86 lv=4:n,3:n,2:n,1:n,0:r st=
    refine start ⟨rfl, rfl, Nat.le_refl _, Nat.le_refl _, (fun c hc => by cases hc), by omega⟩ _ _ _ _ ⟨hM, hf, fun k hk => ?_, fun a ha => hA1 a (by omega), hBe⟩ ⟨rfl, rfl, rfl, rfl, trivial, trivial⟩
    rw [mu, if_neg (by omega), mu, if_neg (by omega), mu, if_neg (by omega), mu, if_neg (by omega)]
  have K1 : ∀ (j k : Nat), k + j = (argOf ar 1).length → ∀ w1 A1 N1, hMo G w1 p m A1 V → fr 418 442 w w1 → (∀ a, a ≠ 441 → A1 a = A a) → N1 = (((argOf ar 1).take k).filter nbl).length → ((argOf ar 1).take k).filter nbl = sl (A1 441) 0 N1 → AW G E 8 nx 0 0 w1 4 [(2, .int (nI k)), (1, .int (nI N1)), (0, rf G 418)] [] := by
    intro j
    induction j with
    | zero =>
      intro k hk w1 A1 N1 hM hf hA1 hN1 hr
      have hY1 : RY A1 t ar := hY.kp (fun a h1 h2 => hA1 a (by omega))
      rw [List.take_of_length_le (by omega), ← hSe] at hr hN1
      subst hN1
      refine aw_iload_n (pc := 4) X d_Mo_reckon_4 (by rfl) ?_
      refine aw_aload_nR (pc := 5) X d_Mo_reckon_5 (by rfl) ?_
      refine aw_iconstN (pc := 6) X 1 d_Mo_reckon_6 (by decide) ?_
      -- invokevirtual 7 lv=2:n,1:n,0:r st=n,r,n
      refine aw_callV (pc := 7) X _ (s_Mo_length (d := 1) hnx (by omega) (by omega) hY1 hM) q_Mo_length k_1071 k_1073 k_42 (by omega) hM.1 (by rfl) d_Mo_reckon_7 (by omega) (Nat.le_of_ble_eq_true rfl) ⟨by omega, by omega⟩ (fun h => by cases h) (fun r w nx hp => ?_)
      obtain ⟨rfl, rfl, rfl⟩ := hp
      refine aw_icmp_geN (pc := 10) X (tgt := 59) d_Mo_reckon_10 (by rfl) (by omega) (by omega) (fun h10 => ?_) (fun h10 => ?_)
      -- br 10 lv=2:n,1:n,0:r st=
      · exact J59 _ _ _ _ hM hf hA1 hr
      · omega
    | succ j ih =>
      intro k hk w1 A1 N1 hM hf hA1 hN1 hr
      have hY1 : RY A1 t ar := hY.kp (fun a h1 h2 => hA1 a (by omega))
      have a1 := (hY1.arg 1).1
      have a2 := (hY1.arg 1).2
      have htk := sl_take1 a1 (show k < (argOf ar 1).length by omega)
      have hNk : N1 ≤ k := by
        rw [hN1]
        have := List.length_filter_le nbl ((argOf ar 1).take k)
        rw [List.length_take] at this
        omega
      have hcb := hM.b435 (mfr A1 1 + k)
      refine aw_iload_n (pc := 4) X d_Mo_reckon_4 (by rfl) ?_
      refine aw_aload_nR (pc := 5) X d_Mo_reckon_5 (by rfl) ?_
      refine aw_iconstN (pc := 6) X 1 d_Mo_reckon_6 (by decide) ?_
      -- invokevirtual 7 lv=2:n,1:n,0:r st=n,r,n
      refine aw_callV (pc := 7) X _ (s_Mo_length (d := 1) hnx (by omega) (by omega) hY1 hM) q_Mo_length k_1071 k_1073 k_42 (by omega) hM.1 (by rfl) d_Mo_reckon_7 (by omega) (Nat.le_of_ble_eq_true rfl) ⟨by omega, by omega⟩ (fun h => by cases h) (fun r w nx hp => ?_)
      obtain ⟨rfl, rfl, rfl⟩ := hp
      refine aw_icmp_geN (pc := 10) X (tgt := 59) d_Mo_reckon_10 (by rfl) (by omega) (by omega) (fun h10 => ?_) (fun h10 => ?_)
      -- br 10 lv=2:n,1:n,0:r st=
      · omega
      · refine aw_aload_nR (pc := 13) X d_Mo_reckon_13 (by rfl) ?_
        refine gm_22 (pc := 14) X hM (by omega) d_Mo_reckon_14 ?_
        refine aw_aload_nR (pc := 17) X d_Mo_reckon_17 (by rfl) ?_
        refine aw_iconstN (pc := 18) X 1 d_Mo_reckon_18 (by decide) ?_
        -- invokevirtual 19 lv=2:n,1:n,0:r st=n,r,a435
        refine aw_callV (pc := 19) X _ (s_Mo_from (d := 1) hnx (by omega) (by omega) hY1 hM) q_Mo_from k_1075 k_1077 k_43 (by omega) hM.1 (by rfl) d_Mo_reckon_19 (by omega) (Nat.le_of_ble_eq_true rfl) ⟨by omega, by omega⟩ (fun h => by cases h) (fun r w nx hp => ?_)
        obtain ⟨rfl, rfl, rfl⟩ := hp
        refine aw_iload_n (pc := 22) X d_Mo_reckon_22 (by rfl) ?_
        refine aw_iaddN (pc := 23) X d_Mo_reckon_23 ?_
        refine aw_caldN (pc := 24) X 435 0 (by omega) hM.a435 (by rfl) (by omega) (by decide) d_Mo_reckon_24 ?_
        -- stop 25 lv=2:n,1:n,0:r st=n
        generalize A1 435 (mfr A1 1 + k) = c at htk hcb
        refine aw_istore_n (pc := 25) X (lv' := [(3, _), (2, _), (1, _), (0, _)]) d_Mo_reckon_25 (by decide) (by rfl) ?_
        refine aw_aload_nR (pc := 26) X d_Mo_reckon_26 (by rfl) ?_
        refine gm_37 (pc := 27) X hM (by omega) d_Mo_reckon_27 ?_
        refine aw_iload_n (pc := 30) X d_Mo_reckon_30 (by rfl) ?_
        refine aw_iload_n (pc := 31) X d_Mo_reckon_31 (by rfl) ?_
        refine sm_441 (pc := 32) X hM hf (by omega) (by omega) (by first | omega | exact hM.b435 _ | exact hM.b420 _ | exact hM.b421 _ | exact hM.b424 _ | exact hM.b426 _ | exact hM.b429 _ | exact hM.b436 _ | exact hM.b438 _ | exact hM.b419 _ | exact hM.b441 _) d_Mo_reckon_32 (fun w hM hf => ?_)
        -- stop 33 lv=3:n,2:n,1:n,0:r st=
        have hA2 : ∀ a, a ≠ 441 → au A1 441 N1 c a = A a := fun a h => (if_neg h).trans (hA1 a h)
        have hB : au A1 441 N1 c 441 = aw_un (A1 441) N1 c := rfl
        have Zb : isBlk c = true → AW G E 8 nx 0 0 w 46 [(3, .int (nI c)), (2, .int (nI k)), (1, .int (nI N1)), (0, rf G 418)] [.int (nI N1)] := by
          intro hb
          refine aw_iconstN (pc := 46) X 0 d_Mo_reckon_46 (by decide) ?_
          refine aw_goto (pc := 47) X (tgt := 51) d_Mo_reckon_47 (by rfl) ?_
          refine aw_iaddN (pc := 51) X d_Mo_reckon_51 ?_
          refine aw_istore_n (pc := 52) X (lv' := [(1, _), (3, _), (2, _), (0, _)]) d_Mo_reckon_52 (by decide) (by rfl) ?_
          refine aw_iincN (pc := 53) X 1 (lv' := [(2, _), (1, _), (3, _), (0, _)]) d_Mo_reckon_53 (by rfl) (by decide) (by decide) (by rfl) ?_
          refine aw_goto (pc := 56) X (tgt := 4) d_Mo_reckon_56 (by rfl) ?_
          -- stop 4 lv=2:n,1:n,3:n,0:r st=
          refine AW.lsub [0, 1, 3] (by rfl) ?_
          refine ih (k + 1) (by omega) _ _ _ hM hf hA2 ?_ ?_
          · rw [htk, List.filter_append, List.filter_cons, if_neg (by rw [nbl, hb]; simp), List.filter_nil, List.append_nil, hN1, Nat.add_zero]
          · rw [htk, List.filter_append, List.filter_cons, if_neg (by rw [nbl, hb]; simp), List.filter_nil, List.append_nil, hr, hB]
            exact sl_congr fun i hi => by rw [aw_un_ne _ _ (by omega)]
        refine aw_iload_n (pc := 33) X d_Mo_reckon_33 (by rfl) ?_
        refine aw_iload_n (pc := 34) X d_Mo_reckon_34 (by rfl) ?_
        refine aw_bipushN (pc := 35) X 32 d_Mo_reckon_35 (by decide) ?_
        refine aw_icmp_eqN (pc := 37) X (tgt := 46) d_Mo_reckon_37 (by rfl) (by omega) (by omega) (fun h37 => ?_) (fun h37 => ?_)
        -- br 37 lv=3:n,2:n,1:n,0:r st=n
        · exact Zb (decide_eq_true (Or.inl h37))
        · refine aw_iload_n (pc := 40) X d_Mo_reckon_40 (by rfl) ?_
          refine aw_bipushN (pc := 41) X 10 d_Mo_reckon_41 (by decide) ?_
          refine aw_icmp_neN (pc := 43) X (tgt := 50) d_Mo_reckon_43 (by rfl) (by omega) (by omega) (fun h43 => ?_) (fun h43 => ?_)
          -- br 43 lv=3:n,2:n,1:n,0:r st=n
          · have hb : isBlk c = false := decide_eq_false (fun z => by rcases z with z | z; exact h37 z; exact h43 z)
            refine aw_iconstN (pc := 50) X 1 d_Mo_reckon_50 (by decide) ?_
            refine aw_iaddN (pc := 51) X d_Mo_reckon_51 ?_
            refine aw_istore_n (pc := 52) X (lv' := [(1, _), (3, _), (2, _), (0, _)]) d_Mo_reckon_52 (by decide) (by rfl) ?_
            refine aw_iincN (pc := 53) X 1 (lv' := [(2, _), (1, _), (3, _), (0, _)]) d_Mo_reckon_53 (by rfl) (by decide) (by decide) (by rfl) ?_
            refine aw_goto (pc := 56) X (tgt := 4) d_Mo_reckon_56 (by rfl) ?_
            -- stop 4 lv=2:n,1:n,3:n,0:r st=
            refine AW.lsub [0, 1, 3] (by rfl) ?_
            refine ih (k + 1) (by omega) _ _ _ hM hf hA2 ?_ ?_
            · rw [htk, List.filter_append, List.filter_cons, if_pos (by rw [nbl, hb]; rfl), List.filter_nil, List.length_append, hN1]
              rfl
            · rw [htk, List.filter_append, List.filter_cons, if_pos (by rw [nbl, hb]; rfl), List.filter_nil, hB, sl_app, Nat.zero_add, sl_cons, sl_0, aw_un_eq, hr]
              congr 1
              exact sl_congr fun i hi => by rw [aw_un_ne _ _ (by omega)]
          · exact Zb (decide_eq_true (Or.inr h43))
  refine aw_iconstN (pc := 0) X 0 d_Mo_reckon_0 (by decide) ?_
  refine aw_istore_n (pc := 1) X (lv' := [(1, _), (0, _)]) d_Mo_reckon_1 (by decide) (by rfl) ?_
  refine aw_iconstN (pc := 2) X 0 d_Mo_reckon_2 (by decide) ?_
  refine aw_istore_n (pc := 3) X (lv' := [(2, _), (1, _), (0, _)]) d_Mo_reckon_3 (by decide) (by rfl) ?_
  -- stop 4 lv=2:n,1:n,0:r st=
  exact K1 _ 0 (Nat.zero_add _) _ _ 0 hM hf (fun _ _ => rfl) rfl rfl
end

