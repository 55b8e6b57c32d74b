/-! the reference: carryOut -/
theorem RM.kp {p : Int32} {m m' : Nat → Nat} {A A' : Nat → Nat → Nat} {tx : List Nat} {σ : SQ} {st : Nat × Nat} (h : RM p m A tx σ st) (hm : ∀ k, k ≠ 26 → k ≠ 28 → k < 31 → m' k = m k) (hA : ∀ a, a < 438 → A' a = A a) : RM p m' A' tx σ st := by
  unfold RM at *
  rw [hm 1 (by decide) (by decide) (by decide), hm 3 (by decide) (by decide) (by decide), hm 5 (by decide) (by decide) (by decide), hm 11 (by decide) (by decide) (by decide), hm 21 (by decide) (by decide) (by decide), hm 29 (by decide) (by decide) (by decide), hm 0 (by decide) (by decide) (by decide), hm 30 (by decide) (by decide) (by decide)]
  rw [hA 419 (by decide), hA 420 (by decide), hA 421 (by decide), hA 422 (by decide), hA 423 (by decide), hA 424 (by decide), hA 425 (by decide), hA 426 (by decide), hA 427 (by decide), hA 428 (by decide), hA 429 (by decide), hA 430 (by decide), hA 431 (by decide), hA 432 (by decide), hA 433 (by decide), hA 434 (by decide), hA 435 (by decide), hA 436 (by decide), hA 437 (by decide)]
  exact h
theorem RM.tb {p : Int32} {m m' : Nat → Nat} {A A' : Nat → Nat → Nat} {tx : List Nat} {σ : SQ} {st : Nat × Nat} {T' : List Def} (h : RM p m A tx σ st) (hm : ∀ k, k ≠ 5 → k ≠ 28 → m' k = m k) (hA : ∀ a, a < 421 ∨ 425 < a → A' a = A a) (hT : RT (m' 5) (A' 421) (A' 422) (A' 423) (A' 424) (A' 425) T') : RM p m' A' tx ((σ.1.1, σ.1.2.1, σ.1.2.2.1, T'), σ.2) st := by
  obtain ⟨q1, q2, -, q4, q5, q6, q7, q8, q9⟩ := h
  unfold RM
  rw [hm 1 (by decide) (by decide), hm 3 (by decide) (by decide), hm 11 (by decide) (by decide), hm 21 (by decide) (by decide), hm 29 (by decide) (by decide), hm 0 (by decide) (by decide), hm 30 (by decide) (by decide)]
  rw [hA 419 (by decide), hA 420 (by decide), hA 426 (by decide), hA 427 (by decide), hA 428 (by decide), hA 429 (by decide), hA 430 (by decide), hA 431 (by decide), hA 432 (by decide), hA 433 (by decide), hA 434 (by decide), hA 435 (by decide), hA 436 (by decide), hA 437 (by decide)]
  exact ⟨q1, q2, hT, q4, q5, q6, q7, q8, q9⟩
theorem RM.ro {p : Int32} {m m' : Nat → Nat} {A A' : Nat → Nat → Nat} {tx : List Nat} {σ : SQ} {st : Nat × Nat} {R' : Nat → List Nat} (h : RM p m A tx σ st) (hm : ∀ k, k ≠ 28 → m' k = m k) (hA : ∀ a, a ≠ 436 → a ≠ 437 → A' a = A a) (hR : RR (A' 436) (A' 437) R') : RM p m' A' tx ((σ.1.1, σ.1.2.1, R', σ.1.2.2.2), σ.2) st := by
  obtain ⟨q1, q2, q3, q4, q5, -, q7, q8, q9⟩ := h
  unfold RM
  rw [hm 1 (by decide), hm 3 (by decide), hm 5 (by decide), hm 11 (by decide), hm 21 (by decide), hm 29 (by decide), hm 0 (by decide), hm 30 (by decide)]
  rw [hA 419 (by decide) (by decide), hA 420 (by decide) (by decide), hA 421 (by decide) (by decide), hA 422 (by decide) (by decide), hA 423 (by decide) (by decide), hA 424 (by decide) (by decide), hA 425 (by decide) (by decide), hA 426 (by decide) (by decide), hA 427 (by decide) (by decide), hA 428 (by decide) (by decide), hA 429 (by decide) (by decide), hA 430 (by decide) (by decide), hA 431 (by decide) (by decide), hA 432 (by decide) (by decide), hA 433 (by decide) (by decide), hA 434 (by decide) (by decide), hA 435 (by decide) (by decide)]
  exact ⟨q1, q2, q3, q4, q5, hR, q7, q8, q9⟩
theorem RM.fr {p : Int32} {m m' : Nat → Nat} {A A' : Nat → Nat → Nat} {tx : List Nat} {σ : SQ} {st : Nat × Nat} {F' : List Nat} (h : RM p m A tx σ st) (hm : ∀ k, k ≠ 3 → k ≠ 26 → k < 31 → m' k = m k) (hA : ∀ a, a ≠ 420 → a < 438 → A' a = A a) (hF : RF (m' 3) (A' 420) F') : RM p m' A' tx ((F', σ.1.2.1, σ.1.2.2.1, σ.1.2.2.2), σ.2) st := by
  obtain ⟨q1, -, q3, q4, q5, q6, q7, q8, q9⟩ := h
  unfold RM
  rw [hm 1 (by decide) (by decide) (by decide), hm 5 (by decide) (by decide) (by decide), hm 11 (by decide) (by decide) (by decide), hm 21 (by decide) (by decide) (by decide), hm 29 (by decide) (by decide) (by decide), hm 0 (by decide) (by decide) (by decide), hm 30 (by decide) (by decide) (by decide)]
  rw [hA 419 (by decide) (by decide), hA 421 (by decide) (by decide), hA 422 (by decide) (by decide), hA 423 (by decide) (by decide), hA 424 (by decide) (by decide), hA 425 (by decide) (by decide), hA 426 (by decide) (by decide), hA 427 (by decide) (by decide), hA 428 (by decide) (by decide), hA 429 (by decide) (by decide), hA 430 (by decide) (by decide), hA 431 (by decide) (by decide), hA 432 (by decide) (by decide), hA 433 (by decide) (by decide), hA 434 (by decide) (by decide), hA 435 (by decide) (by decide), hA 436 (by decide) (by decide), hA 437 (by decide) (by decide)]
  exact ⟨q1, hF, q3, q4, q5, q6, q7, q8, q9⟩
theorem RF.tail {n : Nat} {g : Nat → Nat} {x : Nat} {F : List Nat} (h : RF n g (x :: F)) : RF (n - 1) g F ∧ g F.length = x := by
  obtain ⟨h1, h2, h3⟩ := h
  have h1 : n = F.length + 1 := h1
  have h2 : F.length + 1 ≤ 600 := h2
  refine ⟨⟨by omega, by omega, fun k hk => ?_⟩, ?_⟩
  · have := h3 (k + 1) (by simp; omega)
    rw [show (x :: F).length - 1 - (k + 1) = F.length - 1 - k by simp; omega] at this
    rw [← this]
    simp
  · have := h3 0 (by simp)
    rw [show (x :: F).length - 1 - 0 = F.length by simp] at this
    rw [← this]
    rfl
theorem ln_cons (x : Nat) (F : List Nat) : (x :: F).drop (lnLen (x :: F)) = if x = 10 then F else F.drop (lnLen F) := by
  unfold lnLen
  by_cases h : x = 10
  · rw [if_pos h]
    subst h
    simp
  · rw [if_neg h]
    have e : ((x :: F).takeWhile (fun c => decide (c ≠ 10))).length = (F.takeWhile (fun c => decide (c ≠ 10))).length + 1 := by
      rw [List.takeWhile_cons, if_pos (by simpa using h)]
      rfl
    rw [e]
    by_cases h2 : (F.takeWhile (fun c => decide (c ≠ 10))).length < F.length
    · rw [if_pos h2, if_pos (by rw [List.length_cons]; omega)]
      rfl
    · rw [if_neg h2, if_neg (by rw [List.length_cons]; omega)]
      rfl
theorem dgl_len (n : Nat) : ∀ k, (dgl n k).length = k + 1
  | 0 => rfl
  | k + 1 => by rw [dgl, List.length_cons, dgl_len n k]
theorem dec_len (v : Int64) : (dec v).length ≤ 20 := by
  rw [dec, List.length_append, dgl_len]
  have := topx_le v.toInt.natAbs 18 0
  split <;> simp <;> omega
/-- what an undivert does, row by row -/
def udS (ar : List (List Nat)) (p : Option Nat) : Nat → Nat → Nat → (Nat → List Nat) → Nat × (Nat → List Nat)
  | 0, _, e, R => (e, R)
  | j + 1, r, e, R => if (ar.length = 0 ∨ valL (argOf ar 1) = lN r) ∧ e = 0 then udS ar p j (r + 1) (e2 (pourS R r p).1) (pourS R r p).2 else udS ar p j (r + 1) e R
theorem e2_0 (b : Bool) : e2 b = 0 ↔ b = true := by cases b <;> decide
theorem udS_und (ar : List (List Nat)) (p : Option Nat) (R : Nat → List Nat) : udS ar p 3 1 0 R = (e2 (undS p R ar).1, (undS p R ar).2) := by
  unfold undS
  by_cases h : ar.length = 0
  · rw [if_pos h]
    have st : ∀ j r e R, udS ar p (j + 1) r e R = if e = 0 then udS ar p j (r + 1) (e2 (pourS R r p).1) (pourS R r p).2 else udS ar p j (r + 1) e R := fun j r e R => by
      rw [udS]
      by_cases he : e = 0
      · rw [if_pos ⟨Or.inl h, he⟩, if_pos he]
      · rw [if_neg (fun z => he z.2), if_neg he]
    rw [st, if_pos rfl, st]
    unfold pourAllS
    simp only [e2_0]
    by_cases h1 : (pourS R 1 p).1 = true
    · rw [if_pos h1, if_pos h1, st]
      simp only [e2_0]
      by_cases h2 : (pourS (pourS R 1 p).2 2 p).1 = true
      · rw [if_pos h2, if_pos h2, udS]
      · rw [if_neg h2, if_neg h2, udS]
    · rw [if_neg h1, if_neg h1, st]
      simp only [e2_0]
      rw [if_neg h1, udS]
  · rw [if_neg h]
    have st : ∀ j r e R, udS ar p (j + 1) r e R = if valL (argOf ar 1) = lN r ∧ e = 0 then udS ar p j (r + 1) (e2 (pourS R r p).1) (pourS R r p).2 else udS ar p j (r + 1) e R := fun j r e R => by
      rw [udS]
      by_cases he : valL (argOf ar 1) = lN r ∧ e = 0
      · rw [if_pos ⟨Or.inr he.1, he.2⟩, if_pos he]
      · rw [if_neg (fun z => he ⟨z.1.resolve_left h, z.2⟩), if_neg he]
    generalize valL (argOf ar 1) = v at st
    by_cases h1 : v = lN 1
    · subst h1
      rw [st, if_pos ⟨rfl, rfl⟩, st, if_neg (fun z => absurd z.1 (by decide)), st, if_neg (fun z => absurd z.1 (by decide)), udS, if_pos (by decide)]
      rfl
    · by_cases h2 : v = lN 2
      · subst h2
        rw [st, if_neg (fun z => absurd z.1 (by decide)), st, if_pos ⟨rfl, rfl⟩, st, if_neg (fun z => absurd z.1 (by decide)), udS, if_pos (by decide)]
        rfl
      · by_cases h3 : v = lN 3
        · subst h3
          rw [st, if_neg (fun z => absurd z.1 (by decide)), st, if_neg (fun z => absurd z.1 (by decide)), st, if_pos ⟨rfl, rfl⟩, udS, if_pos (by decide)]
          rfl
        · rw [st, if_neg (fun z => h1 z.1), st, if_neg (fun z => h2 z.1), st, if_neg (fun z => h3 z.1), udS, if_neg]
          · rfl
          · intro ⟨a1, a2⟩
            have b1 := Int64.le_iff_toInt_le.mp a1
            have b2 := Int64.lt_iff_toInt_lt.mp a2
            have c1 : (1 : Int64).toInt = 1 := by decide
            have c4 : (4 : Int64).toInt = 4 := by decide
            have k : ∀ n, n < 4 → v ≠ lN n → v.toInt ≠ n := fun n hn hv z => hv (Int64.toInt_inj.mp (by rw [pk_lT (by omega)]; exact z))
            have k1 := k 1 (by omega) h1
            have k2 := k 2 (by omega) h2
            have k3 := k 3 (by omega) h3
            omega
section
variable {G : aw_G} {nx d : Nat} {w : Nat → va_E} {p : Int32} {m : Nat → Nat} {A : Nat → Nat → Nat} {V : Nat → Int64} {t : Def} {ar : List (List Nat)} {tx : List Nat} {σ : SQ} {st : Nat × Nat}
theorem s_Mo_carryOut {k : Nat} {Xs : Nat × XS} (hnx : 442 ≤ nx) (hd : 5 ≤ d) (hk : k < 16) (hXs : Xs = actS k ar (evS ((argOf ar 1).filter nbl)).1 (evS ((argOf ar 1).filter nbl)).2 (σ.1.1, σ.1.2.1, σ.1.2.2.1, σ.1.2.2.2, [])) (e28 : m 28 = 0) (e26 : m 26 = 0) (hY : RY A t ar) (hR : RM p m A tx σ st) (hM : hMo G w p m A V) : AC G y_Mo_carryOut b_Mo_carryOut 3 none d false [rf G 418, .int (nI (k + 1))] nx w 0 0 (mq G nx w (fun r p' m' A' V' => r = none ∧ (∀ a, 426 ≤ a → a ≤ 435 → A' a = A a) ∧ RM p' m' A' tx ((Xs.2.1, Xs.2.2.1, Xs.2.2.2.1, Xs.2.2.2.2.1), σ.2) st ∧ (Xs.1 ≠ 0 → m' 28 = Xs.1) ∧ (Xs.1 = 0 → PSt m' (A' 438) (Xs.2.2.2.2.2 ++ txtS k ar Xs.2.2.1 Xs.2.2.2.2.1)))) := by
  obtain ⟨c1, ⟨f1, f2, f3⟩, c3, c4, c5, c6, ⟨c7, c7b⟩, c8, c9⟩ := id hR
  have h600 : m 3 ≤ 600 := by omega
  have hS0 : PSt m (A 438) [] := Or.inl ⟨e28, e26, rfl, by simpa using h600⟩
  have hn9 := hY.2.2.1
  have e31 := hY.2.1
  obtain ⟨a1, a2⟩ := hY.arg 1
  refine AC.ofW (by decide) (Nat.le_of_ble_eq_true rfl) ?_
  intro E P hP Y X
  have X : aw_X G "RescanDeskModel" b_Mo_carryOut 3 none "carryOut" _ _ _ _ _ E := X
  refine AW.eql (lv' := [(0, _), (1, _)]) (by rfl) ?_
  have hf : fr 418 442 w w := fr.refl _ _ _
  refine aw_iload_n (pc := 0) X d_Mo_carryOut_0 (by rfl) ?_
  -- tableswitch 1 lv=0:r,1:n st=n
  obtain rfl | rfl | rfl | rfl | rfl | rfl | rfl | rfl | rfl | rfl | rfl | rfl | rfl | rfl | rfl | rfl : k = 0 ∨ k = 1 ∨ k = 2 ∨ k = 3 ∨ k = 4 ∨ k = 5 ∨ k = 6 ∨ k = 7 ∨ k = 8 ∨ k = 9 ∨ k = 10 ∨ k = 11 ∨ k = 12 ∨ k = 13 ∨ k = 14 ∨ k = 15 := by omega
  · refine aw_tableIn (pc := 1) X (off := 75) (tgt := 76) d_Mo_carryOut_1 (by decide) (by decide) (by rfl) (by rfl) ?_
    have hXe : Xs = ((defS σ.1.2.2.2 ar false).1, σ.1.1, σ.1.2.1, σ.1.2.2.1, (defS σ.1.2.2.2 ar false).2, []) := hXs
    have D : AW G E 3 nx 0 0 w 87 [(0, rf G 418), (1, .int (nI (0 + 1)))] [.int (nI (bN false)), rf G 418] := by
      refine aw_callV (pc := 87) X _ (s_Mo_define (d := 3) (b := false) hnx (by omega) e28 c3 hY hM) q_Mo_define k_1083 k_1085 k_45 (by omega) hM.1 (by rfl) d_Mo_carryOut_87 (by omega) (Nat.le_of_ble_eq_true rfl) ⟨by omega, by omega⟩ (fun h => by cases h) (fun r w nx hp => ?_)
      clear hM
      obtain ⟨rfl, hf1, p, m, A, V, hM, hq⟩ := hp
      replace hf := hf.trans hf1
      obtain ⟨rfl, hpp, hvv, hm2, hA2, he2, hT2⟩ := hq
      rw [hpp, hvv] at hM
      refine aw_goto (pc := 90) X (tgt := 359) d_Mo_carryOut_90 (by rfl) ?_
      refine aw_vret Y X rfl d_Mo_carryOut_359 (by omega) (by omega) (hP _ _ _ ?_)
      -- ret 359 lv=0:r,1:n st=
      rw [hXe]
      refine ⟨rfl, hf, _, _, _, _, hM, rfl, fun a h1 h2 => hA2 a (by omega), hR.tb hm2 hA2 hT2, fun _ => he2, fun z => ?_⟩
      exact Or.inl ⟨he2.trans z, (hm2 26 (by decide) (by decide)).trans e26, rfl, (by have q := hm2 3 (by decide) (by decide); show _ + 0 ≤ 600; omega)⟩
    refine aw_aload_nR (pc := 76) X d_Mo_carryOut_76 (by rfl) ?_
    refine aw_iload_n (pc := 77) X d_Mo_carryOut_77 (by rfl) ?_
    refine aw_iconstN (pc := 78) X 2 d_Mo_carryOut_78 (by decide) ?_
    refine aw_icmp_neN (pc := 79) X (tgt := 86) d_Mo_carryOut_79 (by rfl) (by omega) (by omega) (fun h79 => ?_) (fun h79 => ?_)
    -- br 79 lv=0:r,1:n st=r
    · refine aw_iconstN (pc := 86) X 0 d_Mo_carryOut_86 (by decide) ?_
      -- stop 87 lv=0:r,1:n st=n,r
      exact D
    · exact absurd h79 (by decide)
  · refine aw_tableIn (pc := 1) X (off := 75) (tgt := 76) d_Mo_carryOut_1 (by decide) (by decide) (by rfl) (by rfl) ?_
    have hXe : Xs = ((defS σ.1.2.2.2 ar true).1, σ.1.1, σ.1.2.1, σ.1.2.2.1, (defS σ.1.2.2.2 ar true).2, []) := hXs
    have D : AW G E 3 nx 0 0 w 87 [(0, rf G 418), (1, .int (nI (1 + 1)))] [.int (nI (bN true)), rf G 418] := by
      refine aw_callV (pc := 87) X _ (s_Mo_define (d := 3) (b := true) hnx (by omega) e28 c3 hY hM) q_Mo_define k_1083 k_1085 k_45 (by omega) hM.1 (by rfl) d_Mo_carryOut_87 (by omega) (Nat.le_of_ble_eq_true rfl) ⟨by omega, by omega⟩ (fun h => by cases h) (fun r w nx hp => ?_)
      clear hM
      obtain ⟨rfl, hf1, p, m, A, V, hM, hq⟩ := hp
      replace hf := hf.trans hf1
      obtain ⟨rfl, hpp, hvv, hm2, hA2, he2, hT2⟩ := hq
      rw [hpp, hvv] at hM
      refine aw_goto (pc := 90) X (tgt := 359) d_Mo_carryOut_90 (by rfl) ?_
      refine aw_vret Y X rfl d_Mo_carryOut_359 (by omega) (by omega) (hP _ _ _ ?_)
      -- ret 359 lv=0:r,1:n st=
      rw [hXe]
      refine ⟨rfl, hf, _, _, _, _, hM, rfl, fun a h1 h2 => hA2 a (by omega), hR.tb hm2 hA2 hT2, fun _ => he2, fun z => ?_⟩
      exact Or.inl ⟨he2.trans z, (hm2 26 (by decide) (by decide)).trans e26, rfl, (by have q := hm2 3 (by decide) (by decide); show _ + 0 ≤ 600; omega)⟩
    refine aw_aload_nR (pc := 76) X d_Mo_carryOut_76 (by rfl) ?_
    refine aw_iload_n (pc := 77) X d_Mo_carryOut_77 (by rfl) ?_
    refine aw_iconstN (pc := 78) X 2 d_Mo_carryOut_78 (by decide) ?_
    refine aw_icmp_neN (pc := 79) X (tgt := 86) d_Mo_carryOut_79 (by rfl) (by omega) (by omega) (fun h79 => ?_) (fun h79 => ?_)
    -- br 79 lv=0:r,1:n st=r
    · exact absurd rfl h79
    · refine aw_iconstN (pc := 82) X 1 d_Mo_carryOut_82 (by decide) ?_
      refine aw_goto (pc := 83) X (tgt := 87) d_Mo_carryOut_83 (by rfl) ?_
      -- stop 87 lv=0:r,1:n st=n,r
      exact D
  · refine aw_tableIn (pc := 1) X (off := 92) (tgt := 93) d_Mo_carryOut_1 (by decide) (by decide) (by rfl) (by rfl) ?_
    have hXe : Xs = (0, σ.1.1, σ.1.2.1, σ.1.2.2.1, popS σ.1.2.2.2 (argOf ar 1), []) := hXs
    have D : AW G E 3 nx 0 0 w 104 [(0, rf G 418), (1, .int (nI (2 + 1)))] [.int (nI (bN false)), rf G 418] := by
      refine aw_callV (pc := 104) X _ (s_Mo_undefine (d := 3) (b := false) hnx (by omega) c3 hY hM) q_Mo_undefine k_1091 k_1093 k_47 (by omega) hM.1 (by rfl) d_Mo_carryOut_104 (by omega) (Nat.le_of_ble_eq_true rfl) ⟨by omega, by omega⟩ (fun h => by cases h) (fun r w nx hp => ?_)
      clear hM
      obtain ⟨rfl, hf1, p, m, A, V, hM, hq⟩ := hp
      replace hf := hf.trans hf1
      obtain ⟨rfl, hpp, hvv, hm2, hA2, hT2⟩ := hq
      rw [hpp, hvv] at hM
      refine aw_goto (pc := 107) X (tgt := 359) d_Mo_carryOut_107 (by rfl) ?_
      refine aw_vret Y X rfl d_Mo_carryOut_359 (by omega) (by omega) (hP _ _ _ ?_)
      -- ret 359 lv=0:r,1:n st=
      rw [hXe]
      exact ⟨rfl, hf, _, _, _, _, hM, rfl, fun a h1 h2 => hA2 a (by omega), hR.tb (fun k h _ => hm2 k h) hA2 hT2, fun z => absurd rfl z, fun _ => Or.inl ⟨(hm2 28 (by decide)).trans e28, (hm2 26 (by decide)).trans e26, rfl, (by have q := hm2 3 (by decide); show _ + 0 ≤ 600; omega)⟩⟩
    refine aw_aload_nR (pc := 93) X d_Mo_carryOut_93 (by rfl) ?_
    refine aw_iload_n (pc := 94) X d_Mo_carryOut_94 (by rfl) ?_
    refine aw_iconstN (pc := 95) X 4 d_Mo_carryOut_95 (by decide) ?_
    refine aw_icmp_neN (pc := 96) X (tgt := 103) d_Mo_carryOut_96 (by rfl) (by omega) (by omega) (fun h96 => ?_) (fun h96 => ?_)
    -- br 96 lv=0:r,1:n st=r
    · refine aw_iconstN (pc := 103) X 0 d_Mo_carryOut_103 (by decide) ?_
      -- stop 104 lv=0:r,1:n st=n,r
      exact D
    · exact absurd h96 (by decide)
  · refine aw_tableIn (pc := 1) X (off := 92) (tgt := 93) d_Mo_carryOut_1 (by decide) (by decide) (by rfl) (by rfl) ?_
    have hXe : Xs = (0, σ.1.1, σ.1.2.1, σ.1.2.2.1, σ.1.2.2.2.filter (isn (argOf ar 1)), []) := hXs
    have D : AW G E 3 nx 0 0 w 104 [(0, rf G 418), (1, .int (nI (3 + 1)))] [.int (nI (bN true)), rf G 418] := by
      refine aw_callV (pc := 104) X _ (s_Mo_undefine (d := 3) (b := true) hnx (by omega) c3 hY hM) q_Mo_undefine k_1091 k_1093 k_47 (by omega) hM.1 (by rfl) d_Mo_carryOut_104 (by omega) (Nat.le_of_ble_eq_true rfl) ⟨by omega, by omega⟩ (fun h => by cases h) (fun r w nx hp => ?_)
      clear hM
      obtain ⟨rfl, hf1, p, m, A, V, hM, hq⟩ := hp
      replace hf := hf.trans hf1
      obtain ⟨rfl, hpp, hvv, hm2, hA2, hT2⟩ := hq
      rw [hpp, hvv] at hM
      refine aw_goto (pc := 107) X (tgt := 359) d_Mo_carryOut_107 (by rfl) ?_
      refine aw_vret Y X rfl d_Mo_carryOut_359 (by omega) (by omega) (hP _ _ _ ?_)
      -- ret 359 lv=0:r,1:n st=
      rw [hXe]
      exact ⟨rfl, hf, _, _, _, _, hM, rfl, fun a h1 h2 => hA2 a (by omega), hR.tb (fun k h _ => hm2 k h) hA2 hT2, fun z => absurd rfl z, fun _ => Or.inl ⟨(hm2 28 (by decide)).trans e28, (hm2 26 (by decide)).trans e26, rfl, (by have q := hm2 3 (by decide); show _ + 0 ≤ 600; omega)⟩⟩
    refine aw_aload_nR (pc := 93) X d_Mo_carryOut_93 (by rfl) ?_
    refine aw_iload_n (pc := 94) X d_Mo_carryOut_94 (by rfl) ?_
    refine aw_iconstN (pc := 95) X 4 d_Mo_carryOut_95 (by decide) ?_
    refine aw_icmp_neN (pc := 96) X (tgt := 103) d_Mo_carryOut_96 (by rfl) (by omega) (by omega) (fun h96 => ?_) (fun h96 => ?_)
    -- br 96 lv=0:r,1:n st=r
    · exact absurd rfl h96
    · refine aw_iconstN (pc := 99) X 1 d_Mo_carryOut_99 (by decide) ?_
      refine aw_goto (pc := 100) X (tgt := 104) d_Mo_carryOut_100 (by rfl) ?_
      -- stop 104 lv=0:r,1:n st=n,r
      exact D
  · refine aw_tableIn (pc := 1) X (off := 109) (tgt := 110) d_Mo_carryOut_1 (by decide) (by decide) (by rfl) (by rfl) ?_
    have hXe : Xs = (0, σ.1.1, σ.1.2.1, σ.1.2.2.1, σ.1.2.2.2, []) := hXs
    have D : ∀ q, q < 100 → q = (if tfind σ.1.2.2.2 (argOf ar 1) = none then 3 else 2) → AW G E 3 nx 0 0 w 145 [(0, rf G 418), (1, .int (nI (4 + 1)))] [.int (nI q), rf G 418] := by
      intro q hq0 hq1
      refine aw_callV (pc := 145) X _ (s_Mo_putArgument (d := 2) (a := q) hnx (by omega) hq0 h600 hS0 hY hM) q_Mo_putArgument k_1067 k_1069 k_41 (by omega) hM.1 (by rfl) d_Mo_carryOut_145 (by omega) (Nat.le_of_ble_eq_true rfl) ⟨by omega, by omega⟩ (fun h => by cases h) (fun r w nx hp => ?_)
      clear hM
      obtain ⟨rfl, hf1, p, m, A, V, hM, hq⟩ := hp
      replace hf := hf.trans hf1
      obtain ⟨rfl, hpp, hvv, hq2, hS2⟩ := hq
      rw [hpp, hvv] at hM
      refine aw_goto (pc := 148) X (tgt := 359) d_Mo_carryOut_148 (by rfl) ?_
      refine aw_vret Y X rfl d_Mo_carryOut_359 (by omega) (by omega) (hP _ _ _ ?_)
      -- ret 359 lv=0:r,1:n st=
      rw [hq1] at hS2
      rw [hXe]
      exact ⟨rfl, hf, _, _, _, _, hM, rfl, fun a h1 h2 => hq2.2 a (by omega), hR.kp (fun k h1 h2 _ => hq2.1 k h1 h2) (fun a ha => hq2.2 a (by omega)), fun z => absurd rfl z, fun _ => hS2⟩
    refine aw_aload_nR (pc := 110) X d_Mo_carryOut_110 (by rfl) ?_
    refine aw_aload_nR (pc := 111) X d_Mo_carryOut_111 (by rfl) ?_
    refine aw_iconstN (pc := 112) X 1 d_Mo_carryOut_112 (by decide) ?_
    -- invokevirtual 113 lv=0:r,1:n st=n,r,r
    refine aw_callV (pc := 113) X _ (s_Mo_isName (d := 2) hnx (by omega) (by omega) hY hM) q_Mo_isName k_1087 k_1089 k_46 (by omega) hM.1 (by rfl) d_Mo_carryOut_113 (by omega) (Nat.le_of_ble_eq_true rfl) ⟨by omega, by omega⟩ (fun h => by cases h) (fun r w nx hp => ?_)
    obtain ⟨rfl, rfl, rfl⟩ := hp
    have hbn := bN_lt (isNm (argOf ar 1))
    refine aw_if_eqN (pc := 116) X (tgt := 144) d_Mo_carryOut_116 (by rfl) (by omega) (fun h116 => ?_) (fun h116 => ?_)
    -- br 116 lv=0:r,1:n st=r
    · have hnm := bN_eq.mp h116
      refine aw_iconstN (pc := 144) X 3 d_Mo_carryOut_144 (by decide) ?_
      -- stop 145 lv=0:r,1:n st=n,r
      refine D 3 (by omega) ?_
      rw [if_pos]
      cases ho : tfind σ.1.2.2.2 (argOf ar 1) with
      | none => rfl
      | some i =>
        have hi : i < σ.1.2.2.2.length := tfd_lt ho
        have hn := tfd_name ho
        have hti : σ.1.2.2.2[i]? = some σ.1.2.2.2[i] := List.getElem?_eq_getElem hi
        obtain ⟨-, -, -, -, -, -, -, -, z9⟩ := c3.2.2 i _ hti
        rw [hti] at hn
        have : σ.1.2.2.2[i].1 = argOf ar 1 := by simpa using hn
        rw [this, hnm] at z9
        cases z9
    · refine aw_aload_nR (pc := 119) X d_Mo_carryOut_119 (by rfl) ?_
      refine aw_aload_nR (pc := 120) X d_Mo_carryOut_120 (by rfl) ?_
      refine gm_22 (pc := 121) X hM (by omega) d_Mo_carryOut_121 ?_
      refine aw_aload_nR (pc := 124) X d_Mo_carryOut_124 (by rfl) ?_
      refine aw_iconstN (pc := 125) X 1 d_Mo_carryOut_125 (by decide) ?_
      -- invokevirtual 126 lv=0:r,1:n st=n,r,a435,r,r
      refine aw_callV (pc := 126) X _ (s_Mo_from (d := 1) hnx (by omega) (by omega) hY hM) q_Mo_from k_1075 k_1077 k_43 (by omega) hM.1 (by rfl) d_Mo_carryOut_126 (by omega) (Nat.le_of_ble_eq_true rfl) ⟨by omega, by omega⟩ (fun h => by cases h) (fun r w nx hp => ?_)
      obtain ⟨rfl, rfl, rfl⟩ := hp
      refine aw_aload_nR (pc := 129) X d_Mo_carryOut_129 (by rfl) ?_
      refine aw_iconstN (pc := 130) X 1 d_Mo_carryOut_130 (by decide) ?_
      -- invokevirtual 131 lv=0:r,1:n st=n,r,n,a435,r,r
      refine aw_callV (pc := 131) X _ (s_Mo_length (d := 1) hnx (by omega) (by omega) hY hM) q_Mo_length k_1071 k_1073 k_42 (by omega) hM.1 (by rfl) d_Mo_carryOut_131 (by omega) (Nat.le_of_ble_eq_true rfl) ⟨by omega, by omega⟩ (fun h => by cases h) (fun r w nx hp => ?_)
      obtain ⟨rfl, rfl, rfl⟩ := hp
      refine aw_callV (pc := 134) X _ (s_Mo_find (d := 1) (l := 400) (u := mfr A 1) (n := (argOf ar 1).length) (T := σ.1.2.2.2) hnx (by omega) (by omega) (by omega) (by omega) hM.b435 c3 hM.a435 hM) q_Mo_find k_1033 k_1035 k_33 (by omega) hM.1 (by rfl) d_Mo_carryOut_134 (by omega) (Nat.le_of_ble_eq_true rfl) ⟨by omega, by omega⟩ (fun h => by cases h) (fun r w nx hp => ?_)
      obtain ⟨rfl, rfl, rfl⟩ := hp
      rw [← a1]
      cases ho : tfind σ.1.2.2.2 (argOf ar 1) with
      | none =>
        refine aw_if_lt (pc := 137) X (tgt := 144) d_Mo_carryOut_137 (by rfl) (fun h137 => ?_) (fun h137 => ?_)
        -- br 137 lv=0:r,1:n st=r
        · refine aw_iconstN (pc := 144) X 3 d_Mo_carryOut_144 (by decide) ?_
          -- stop 145 lv=0:r,1:n st=n,r
          exact D 3 (by omega) (by rw [ho, if_pos rfl])
        · exact absurd (show pV none < 0 by decide) h137
      | some i =>
        have hi : i < σ.1.2.2.2.length := tfd_lt ho
        have hi60 := c3.2.1
        rw [pV_some]
        refine aw_if_ltN (pc := 137) X (tgt := 144) d_Mo_carryOut_137 (by rfl) (by omega) ?_
        refine aw_iconstN (pc := 140) X 2 d_Mo_carryOut_140 (by decide) ?_
        refine aw_goto (pc := 141) X (tgt := 145) d_Mo_carryOut_141 (by rfl) ?_
        -- stop 145 lv=0:r,1:n st=n,r
        exact D 2 (by omega) (by rw [ho, if_neg (by simp)])
  · refine aw_tableIn (pc := 1) X (off := 150) (tgt := 151) d_Mo_carryOut_1 (by decide) (by decide) (by rfl) (by rfl) ?_
    have hXe : Xs = (0, σ.1.1, σ.1.2.1, σ.1.2.2.1, σ.1.2.2.2, []) := hXs
    refine aw_aload_nR (pc := 151) X d_Mo_carryOut_151 (by rfl) ?_
    -- invokevirtual 152 lv=0:r,1:n st=r
    refine aw_callV (pc := 152) X _ (s_Mo_choose (d := 4) hnx (by omega) h600 hS0 hY hM) q_Mo_choose k_1099 k_1101 k_49 (by omega) hM.1 (by rfl) d_Mo_carryOut_152 (by omega) (Nat.le_of_ble_eq_true rfl) ⟨by omega, by omega⟩ (fun h => by cases h) (fun r w nx hp => ?_)
    clear hM
    obtain ⟨rfl, hf1, p, m, A, V, hM, hq⟩ := hp
    replace hf := hf.trans hf1
    obtain ⟨rfl, hpp, hvv, hq2, hS2⟩ := hq
    rw [hpp, hvv] at hM
    refine aw_goto (pc := 155) X (tgt := 359) d_Mo_carryOut_155 (by rfl) ?_
    refine aw_vret Y X rfl d_Mo_carryOut_359 (by omega) (by omega) (hP _ _ _ ?_)
    -- ret 359 lv=0:r,1:n st=
    rw [hXe]
    exact ⟨rfl, hf, _, _, _, _, hM, rfl, fun a h1 h2 => hq2.2 a (by omega), hR.kp (fun k h1 h2 _ => hq2.1 k h1 h2) (fun a ha => hq2.2 a (by omega)), fun z => absurd rfl z, fun _ => hS2⟩
  · refine aw_tableIn (pc := 1) X (off := 157) (tgt := 158) d_Mo_carryOut_1 (by decide) (by decide) (by rfl) (by rfl) ?_
    have hXe : Xs = (0, σ.1.1, σ.1.2.1, σ.1.2.2.1, σ.1.2.2.2, []) := hXs
    refine aw_aload_nR (pc := 158) X d_Mo_carryOut_158 (by rfl) ?_
    refine aw_aload_nR (pc := 159) X d_Mo_carryOut_159 (by rfl) ?_
    refine aw_iconstN (pc := 160) X 1 d_Mo_carryOut_160 (by decide) ?_
    -- invokevirtual 161 lv=0:r,1:n st=n,r,r
    refine aw_callV (pc := 161) X _ (s_Mo_value (d := 2) hnx (by omega) (by omega) hY hM) q_Mo_value k_1107 k_1109 k_51 (by omega) hM.1 (by rfl) d_Mo_carryOut_161 (by omega) (Nat.le_of_ble_eq_true rfl) ⟨by omega, by omega⟩ (fun h => by cases h) (fun r w nx hp => ?_)
    obtain ⟨rfl, rfl, rfl⟩ := hp
    refine aw_lconst (pc := 164) X (v := 1) d_Mo_carryOut_164 (by decide) ?_
    refine aw_ladd (pc := 165) X d_Mo_carryOut_165 ?_
    -- invokevirtual 166 lv=0:r,1:n st=l,r
    refine aw_callV (pc := 166) X _ (s_Mo_putNumber (d := 2) hnx (by omega) h600 hS0 hM) q_Mo_putNumber k_1057 k_1059 k_39 (by omega) hM.1 (by rfl) d_Mo_carryOut_166 (by omega) (Nat.le_of_ble_eq_true rfl) ⟨by omega, by omega⟩ (fun h => by cases h) (fun r w nx hp => ?_)
    clear hM
    obtain ⟨rfl, hf1, p, m, A, V, hM, hq⟩ := hp
    replace hf := hf.trans hf1
    obtain ⟨rfl, hpp, hvv, hq2, hS2⟩ := hq
    rw [hpp, hvv] at hM
    refine aw_goto (pc := 169) X (tgt := 359) d_Mo_carryOut_169 (by rfl) ?_
    refine aw_vret Y X rfl d_Mo_carryOut_359 (by omega) (by omega) (hP _ _ _ ?_)
    -- ret 359 lv=0:r,1:n st=
    rw [hXe]
    exact ⟨rfl, hf, _, _, _, _, hM, rfl, fun a h1 h2 => hq2.2 a (by omega), hR.kp (fun k h1 h2 _ => hq2.1 k h1 h2) (fun a ha => hq2.2 a (by omega)), fun z => absurd rfl z, fun _ => hS2⟩
  · refine aw_tableIn (pc := 1) X (off := 171) (tgt := 172) d_Mo_carryOut_1 (by decide) (by decide) (by rfl) (by rfl) ?_
    generalize hva : evS ((argOf ar 1).filter nbl) = va at hXs
    have hev := evS_eq ((argOf ar 1).filter nbl)
    rw [hva] at hev
    have hXe : Xs = (rckS ((argOf ar 1).filter nbl) va.1 va.2, σ.1.1, σ.1.2.1, σ.1.2.2.1, σ.1.2.2.2, if rckS ((argOf ar 1).filter nbl) va.1 va.2 = 0 then ([] ++ dec va.1).take 601 else []) := hXs
    refine aw_aload_nR (pc := 172) X d_Mo_carryOut_172 (by rfl) ?_
    -- invokevirtual 173 lv=0:r,1:n st=r
    refine aw_callV (pc := 173) X _ (s_Mo_reckon (d := 4) hnx (by omega) e28 h600 hS0 hY rfl hev hM) q_Mo_reckon k_1111 k_1113 k_52 (by omega) hM.1 (by rfl) d_Mo_carryOut_173 (by omega) (Nat.le_of_ble_eq_true rfl) ⟨by omega, by omega⟩ (fun h => by cases h) (fun r w nx hp => ?_)
    clear hM
    obtain ⟨rfl, hf1, p, m, A, V, hM, hq⟩ := hp
    replace hf := hf.trans hf1
    obtain ⟨rfl, hpp, hm2, hA2, hr1, hr2⟩ := hq
    rw [hpp] at hM
    refine aw_goto (pc := 176) X (tgt := 359) d_Mo_carryOut_176 (by rfl) ?_
    refine aw_vret Y X rfl d_Mo_carryOut_359 (by omega) (by omega) (hP _ _ _ ?_)
    -- ret 359 lv=0:r,1:n st=
    rw [hXe]
    refine ⟨rfl, hf, _, _, _, _, hM, rfl, fun a h1 h2 => hA2 a (by omega), hR.kp hm2 hA2, hr1, fun z => ?_⟩
    have hd20 := dec_len va.1
    have := hr2 z
    show PSt _ _ ((if rckS ((argOf ar 1).filter nbl) va.1 va.2 = 0 then ([] ++ dec va.1).take 601 else []) ++ [])
    rw [if_pos z, List.append_nil, List.take_of_length_le (by simp; omega)]
    exact this
  · refine aw_tableIn (pc := 1) X (off := 178) (tgt := 179) d_Mo_carryOut_1 (by decide) (by decide) (by rfl) (by rfl) ?_
    have hXe : Xs = (0, σ.1.1, σ.1.2.1, σ.1.2.2.1, σ.1.2.2.2, []) := hXs
    refine aw_aload_nR (pc := 179) X d_Mo_carryOut_179 (by rfl) ?_
    refine aw_aload_nR (pc := 180) X d_Mo_carryOut_180 (by rfl) ?_
    refine aw_iconstN (pc := 181) X 1 d_Mo_carryOut_181 (by decide) ?_
    -- invokevirtual 182 lv=0:r,1:n st=n,r,r
    refine aw_callV (pc := 182) X _ (s_Mo_length (d := 1) hnx (by omega) (by omega) hY hM) q_Mo_length k_1071 k_1073 k_42 (by omega) hM.1 (by rfl) d_Mo_carryOut_182 (by omega) (Nat.le_of_ble_eq_true rfl) ⟨by omega, by omega⟩ (fun h => by cases h) (fun r w nx hp => ?_)
    obtain ⟨rfl, rfl, rfl⟩ := hp
    refine aw_i2lN (pc := 185) X d_Mo_carryOut_185 (by omega) ?_
    -- invokevirtual 186 lv=0:r,1:n st=l,r
    refine aw_callV (pc := 186) X _ (s_Mo_putNumber (d := 2) hnx (by omega) h600 hS0 hM) q_Mo_putNumber k_1057 k_1059 k_39 (by omega) hM.1 (by rfl) d_Mo_carryOut_186 (by omega) (Nat.le_of_ble_eq_true rfl) ⟨by omega, by omega⟩ (fun h => by cases h) (fun r w nx hp => ?_)
    clear hM
    obtain ⟨rfl, hf1, p, m, A, V, hM, hq⟩ := hp
    replace hf := hf.trans hf1
    obtain ⟨rfl, hpp, hvv, hq2, hS2⟩ := hq
    rw [hpp, hvv] at hM
    refine aw_goto (pc := 189) X (tgt := 359) d_Mo_carryOut_189 (by rfl) ?_
    refine aw_vret Y X rfl d_Mo_carryOut_359 (by omega) (by omega) (hP _ _ _ ?_)
    -- ret 359 lv=0:r,1:n st=
    rw [hXe]
    exact ⟨rfl, hf, _, _, _, _, hM, rfl, fun a h1 h2 => hq2.2 a (by omega), hR.kp (fun k h1 h2 _ => hq2.1 k h1 h2) (fun a ha => hq2.2 a (by omega)), fun z => absurd rfl z, fun _ => hS2⟩
  · refine aw_tableIn (pc := 1) X (off := 191) (tgt := 192) d_Mo_carryOut_1 (by decide) (by decide) (by rfl) (by rfl) ?_
    have hXe : Xs = (0, σ.1.1, σ.1.2.1, σ.1.2.2.1, σ.1.2.2.2, []) := hXs
    refine aw_aload_nR (pc := 192) X d_Mo_carryOut_192 (by rfl) ?_
    -- invokevirtual 193 lv=0:r,1:n st=r
    refine aw_callV (pc := 193) X _ (s_Mo_cut (d := 4) hnx (by omega) h600 hS0 hY hM) q_Mo_cut k_1130 k_1132 k_56 (by omega) hM.1 (by rfl) d_Mo_carryOut_193 (by omega) (Nat.le_of_ble_eq_true rfl) ⟨by omega, by omega⟩ (fun h => by cases h) (fun r w nx hp => ?_)
    clear hM
    obtain ⟨rfl, hf1, p, m, A, V, hM, hq⟩ := hp
    replace hf := hf.trans hf1
    obtain ⟨rfl, hpp, hvv, hq2, hS2⟩ := hq
    rw [hpp, hvv] at hM
    refine aw_goto (pc := 196) X (tgt := 359) d_Mo_carryOut_196 (by rfl) ?_
    refine aw_vret Y X rfl d_Mo_carryOut_359 (by omega) (by omega) (hP _ _ _ ?_)
    -- ret 359 lv=0:r,1:n st=
    rw [hXe]
    exact ⟨rfl, hf, _, _, _, _, hM, rfl, fun a h1 h2 => hq2.2 a (by omega), hR.kp (fun k h1 h2 _ => hq2.1 k h1 h2) (fun a ha => hq2.2 a (by omega)), fun z => absurd rfl z, fun _ => hS2⟩
  · refine aw_tableIn (pc := 1) X (off := 198) (tgt := 199) d_Mo_carryOut_1 (by decide) (by decide) (by rfl) (by rfl) ?_
    have hXe : Xs = (0, σ.1.1, σ.1.2.1, σ.1.2.2.1, σ.1.2.2.2, []) := hXs
    refine aw_aload_nR (pc := 199) X d_Mo_carryOut_199 (by rfl) ?_
    refine aw_aload_nR (pc := 200) X d_Mo_carryOut_200 (by rfl) ?_
    -- invokevirtual 201 lv=0:r,1:n st=r,r
    refine aw_callV (pc := 201) X _ (s_Mo_index (d := 2) hnx (by omega) hY hM) q_Mo_index k_1135 k_1137 k_57 (by omega) hM.1 (by rfl) d_Mo_carryOut_201 (by omega) (Nat.le_of_ble_eq_true rfl) ⟨by omega, by omega⟩ (fun h => by cases h) (fun r w nx hp => ?_)
    obtain ⟨rfl, rfl, rfl⟩ := hp
    refine aw_i2l (pc := 204) X d_Mo_carryOut_204 ?_
    -- invokevirtual 205 lv=0:r,1:n st=l,r
    refine aw_callV (pc := 205) X _ (s_Mo_putNumber (d := 2) hnx (by omega) h600 hS0 hM) q_Mo_putNumber k_1057 k_1059 k_39 (by omega) hM.1 (by rfl) d_Mo_carryOut_205 (by omega) (Nat.le_of_ble_eq_true rfl) ⟨by omega, by omega⟩ (fun h => by cases h) (fun r w nx hp => ?_)
    clear hM
    obtain ⟨rfl, hf1, p, m, A, V, hM, hq⟩ := hp
    replace hf := hf.trans hf1
    obtain ⟨rfl, hpp, hvv, hq2, hS2⟩ := hq
    rw [hpp, hvv] at hM
    refine aw_goto (pc := 208) X (tgt := 359) d_Mo_carryOut_208 (by rfl) ?_
    refine aw_vret Y X rfl d_Mo_carryOut_359 (by omega) (by omega) (hP _ _ _ ?_)
    -- ret 359 lv=0:r,1:n st=
    rw [hXe]
    exact ⟨rfl, hf, _, _, _, _, hM, rfl, fun a h1 h2 => hq2.2 a (by omega), hR.kp (fun k h1 h2 _ => hq2.1 k h1 h2) (fun a ha => hq2.2 a (by omega)), fun z => absurd rfl z, fun _ => hS2⟩
  · refine aw_tableIn (pc := 1) X (off := 210) (tgt := 211) d_Mo_carryOut_1 (by decide) (by decide) (by rfl) (by rfl) ?_
    have hXe : Xs = (0, σ.1.1, σ.1.2.1, σ.1.2.2.1, σ.1.2.2.2, []) := hXs
    refine aw_aload_nR (pc := 211) X d_Mo_carryOut_211 (by rfl) ?_
    refine aw_iconstN (pc := 212) X 2 d_Mo_carryOut_212 (by decide) ?_
    refine aw_iconstN (pc := 213) X 1 d_Mo_carryOut_213 (by decide) ?_
    -- invokevirtual 214 lv=0:r,1:n st=n,n,r
    refine aw_callV (pc := 214) X _ (s_Mo_putAll (d := 3) (f := 2) (q := true) hnx (by omega) (by omega) (by omega) h600 hS0 hY hM) q_Mo_putAll k_1063 k_1065 k_40 (by omega) hM.1 (by rfl) d_Mo_carryOut_214 (by omega) (Nat.le_of_ble_eq_true rfl) ⟨by omega, by omega⟩ (fun h => by cases h) (fun r w nx hp => ?_)
    clear hM
    obtain ⟨rfl, hf1, p, m, A, V, hM, hq⟩ := hp
    replace hf := hf.trans hf1
    obtain ⟨rfl, hpp, hvv, hq2, hS2⟩ := hq
    rw [hpp, hvv] at hM
    refine aw_goto (pc := 217) X (tgt := 359) d_Mo_carryOut_217 (by rfl) ?_
    refine aw_vret Y X rfl d_Mo_carryOut_359 (by omega) (by omega) (hP _ _ _ ?_)
    -- ret 359 lv=0:r,1:n st=
    rw [hXe]
    exact ⟨rfl, hf, _, _, _, _, hM, rfl, fun a h1 h2 => hq2.2 a (by omega), hR.kp (fun k h1 h2 _ => hq2.1 k h1 h2) (fun a ha => hq2.2 a (by omega)), fun z => absurd rfl z, fun _ => hS2⟩
  · refine aw_tableIn (pc := 1) X (off := 219) (tgt := 220) d_Mo_carryOut_1 (by decide) (by decide) (by rfl) (by rfl) ?_
    have hXe : Xs = (0, σ.1.1, chS (valL (argOf ar 1)), σ.1.2.2.1, σ.1.2.2.2, []) := hXs
    have D : ∀ x : Int32, x = pV (chS (valL (argOf ar 1))) → (∀ q, chS (valL (argOf ar 1)) = some q → q < 4) → AW G E 3 nx 0 0 w 253 [(0, rf G 418), (1, .int (nI (12 + 1)))] [.int x, rf G 418] := by
      intro x hx hx2
      refine pm_25 (pc := 253) X hM hf (by omega) d_Mo_carryOut_253 (fun w hM hf => ?_)
      refine aw_goto (pc := 256) X (tgt := 359) d_Mo_carryOut_256 (by rfl) ?_
      refine aw_vret Y X rfl d_Mo_carryOut_359 (by omega) (by omega) (hP _ _ _ ?_)
      -- ret 359 lv=0:r,1:n st=
      rw [hXe]
      refine ⟨rfl, hf, _, _, _, _, hM, rfl, fun a h1 h2 => rfl, ⟨c1, ⟨f1, f2, f3⟩, c3, c4, c5, c6, ⟨hx, hx2⟩, c8, c9⟩, fun z => absurd rfl z, fun _ => hS0⟩
    generalize hva : valL (argOf ar 1) = va at D
    have Dn : ¬ (0 ≤ va ∧ va < 4) → AW G E 3 nx 0 0 w 252 [(0, rf G 418), (1, .int (nI (12 + 1)))] [rf G 418] := by
      intro hn
      have hch : chS va = none := by rw [chS, if_neg hn]
      refine aw_iconst (pc := 252) X (v := -1) d_Mo_carryOut_252 (by decide) ?_
      -- stop 253 lv=0:r,1:n st=i,r
      exact D _ (by rw [hch]; rfl) (fun q hq => by rw [hch] at hq; cases hq)
    refine aw_aload_nR (pc := 220) X d_Mo_carryOut_220 (by rfl) ?_
    refine aw_aload_nR (pc := 221) X d_Mo_carryOut_221 (by rfl) ?_
    refine aw_iconstN (pc := 222) X 1 d_Mo_carryOut_222 (by decide) ?_
    -- invokevirtual 223 lv=0:r,1:n st=n,r,r
    refine aw_callV (pc := 223) X _ (s_Mo_value (d := 2) hnx (by omega) (by omega) hY hM) q_Mo_value k_1107 k_1109 k_51 (by omega) hM.1 (by rfl) d_Mo_carryOut_223 (by omega) (Nat.le_of_ble_eq_true rfl) ⟨by omega, by omega⟩ (fun h => by cases h) (fun r w nx hp => ?_)
    obtain ⟨rfl, rfl, rfl⟩ := hp
    rw [hva]
    refine aw_lconst (pc := 226) X (v := 0) d_Mo_carryOut_226 (by decide) ?_
    refine aw_lcmp (pc := 227) X d_Mo_carryOut_227 ?_
    refine aw_if_lt (pc := 228) X (tgt := 252) d_Mo_carryOut_228 (by rfl) (fun h228 => ?_) (fun h228 => ?_)
    -- br 228 lv=0:r,1:n st=r
    · exact Dn (fun z => absurd ((lg_lt0 _ _).mp h228) (Int64.not_lt.mpr z.1))
    · have h0 : 0 ≤ va := Int64.not_lt.mp (fun z => h228 ((lg_lt0 _ _).mpr z))
      refine aw_aload_nR (pc := 231) X d_Mo_carryOut_231 (by rfl) ?_
      refine aw_iconstN (pc := 232) X 1 d_Mo_carryOut_232 (by decide) ?_
      -- invokevirtual 233 lv=0:r,1:n st=n,r,r
      refine aw_callV (pc := 233) X _ (s_Mo_value (d := 2) hnx (by omega) (by omega) hY hM) q_Mo_value k_1107 k_1109 k_51 (by omega) hM.1 (by rfl) d_Mo_carryOut_233 (by omega) (Nat.le_of_ble_eq_true rfl) ⟨by omega, by omega⟩ (fun h => by cases h) (fun r w nx hp => ?_)
      obtain ⟨rfl, rfl, rfl⟩ := hp
      rw [hva]
      refine aw_ldc2 (pc := 236) X k_1139 d_Mo_carryOut_236 ?_
      refine aw_lcmp (pc := 239) X d_Mo_carryOut_239 ?_
      refine aw_if_ge (pc := 240) X (tgt := 252) d_Mo_carryOut_240 (by rfl) (fun h240 => ?_) (fun h240 => ?_)
      -- br 240 lv=0:r,1:n st=r
      · exact Dn (fun z => absurd ((lg_lt0 _ _).mpr z.2) (Int32.not_lt.mpr h240))
      · have h4 : va < 4 := (lg_lt0 _ _).mp (Int32.not_le.mp h240)
        obtain ⟨P, hP63, hPv⟩ := nn_lN h0
        have hP4 : P < 4 := by
          rw [hPv] at h4
          exact (pk_lLT hP63 (by omega)).mp h4
        have hch : chS va = some P := by
          rw [chS, if_pos ⟨h0, h4⟩, hPv, pk_lT hP63]
          rfl
        refine aw_aload_nR (pc := 243) X d_Mo_carryOut_243 (by rfl) ?_
        refine aw_iconstN (pc := 244) X 1 d_Mo_carryOut_244 (by decide) ?_
        -- invokevirtual 245 lv=0:r,1:n st=n,r,r
        refine aw_callV (pc := 245) X _ (s_Mo_value (d := 2) hnx (by omega) (by omega) hY hM) q_Mo_value k_1107 k_1109 k_51 (by omega) hM.1 (by rfl) d_Mo_carryOut_245 (by omega) (Nat.le_of_ble_eq_true rfl) ⟨by omega, by omega⟩ (fun h => by cases h) (fun r w nx hp => ?_)
        obtain ⟨rfl, rfl, rfl⟩ := hp
        rw [hva, hPv]
        refine aw_l2i (pc := 248) X d_Mo_carryOut_248 ?_
        -- stop 249 lv=0:r,1:n st=i,r
        rw [lN_i]
        refine aw_goto (pc := 249) X (tgt := 253) d_Mo_carryOut_249 (by rfl) ?_
        -- stop 253 lv=0:r,1:n st=i,r
        exact D _ (by rw [hch]; rfl) (fun q hq => by rw [hch] at hq; cases hq; exact hP4)
  · refine aw_tableIn (pc := 1) X (off := 258) (tgt := 259) d_Mo_carryOut_1 (by decide) (by decide) (by rfl) (by rfl) ?_
    have hXe : Xs = (e2 (undS σ.1.2.1 σ.1.2.2.1 ar).1, σ.1.1, σ.1.2.1, (undS σ.1.2.1 σ.1.2.2.1 ar).2, σ.1.2.2.2, []) := hXs
    have K : ∀ (j r : Nat), r + j = 4 → 1 ≤ r → ∀ w1 m1 A1 R1, hMo G w1 p m1 A1 V → fr 418 442 w w1 → (∀ k, k ≠ 28 → m1 k = m k) → (∀ a, a ≠ 436 → a ≠ 437 → A1 a = A a) → m1 28 ≤ 6 → RR (A1 436) (A1 437) R1 → udS ar σ.1.2.1 j r (m1 28) R1 = (e2 (undS σ.1.2.1 σ.1.2.2.1 ar).1, (undS σ.1.2.1 σ.1.2.2.1 ar).2) → AW G E 3 nx 0 0 w1 261 [(2, .int (nI r)), (0, rf G 418), (1, .int (nI (13 + 1)))] [] := by
      intro j
      induction j with
      | zero =>
        intro r hr hr1 w1 m1 A1 R1 hM hf hm1 hA1 h6 hRR hu
        rw [udS] at hu
        refine aw_iload_n (pc := 261) X d_Mo_carryOut_261 (by rfl) ?_
        refine aw_iconstN (pc := 262) X 4 d_Mo_carryOut_262 (by decide) ?_
        refine aw_icmp_geN (pc := 263) X (tgt := 310) d_Mo_carryOut_263 (by rfl) (by omega) (by omega) (fun h263 => ?_) (fun h263 => ?_)
        -- br 263 lv=2:n,0:r,1:n st=
        · refine aw_goto (pc := 310) X (tgt := 359) d_Mo_carryOut_310 (by rfl) ?_
          refine aw_vret Y X rfl d_Mo_carryOut_359 (by omega) (by omega) (hP _ _ _ ?_)
          -- ret 359 lv=2:n,0:r,1:n st=
          rw [hXe]
          have u1 : m1 28 = e2 (undS σ.1.2.1 σ.1.2.2.1 ar).1 := congrArg Prod.fst hu
          have u2 : R1 = (undS σ.1.2.1 σ.1.2.2.1 ar).2 := congrArg Prod.snd hu
          rw [u2] at hRR
          exact ⟨rfl, hf, _, _, _, _, hM, rfl, fun a h1 h2 => hA1 a (by omega) (by omega), hR.ro hm1 hA1 hRR, fun _ => u1, fun z => Or.inl ⟨u1.trans z, (hm1 26 (by decide)).trans e26, rfl, (by have q := hm1 3 (by decide); show _ + 0 ≤ 600; omega)⟩⟩
        · omega
      | succ j ih =>
        intro r hr hr1 w1 m1 A1 R1 hM hf hm1 hA1 h6 hRR hu
        have hY1 : RY A1 t ar := hY.kp (fun a h1 h2 => hA1 a (by omega) (by omega))
        have e31' := hY1.2.1
        have hskip : udS ar σ.1.2.1 j (r + 1) (m1 28) R1 = (e2 (undS σ.1.2.1 σ.1.2.2.1 ar).1, (undS σ.1.2.1 σ.1.2.2.1 ar).2) → AW G E 3 nx 0 0 w1 304 [(2, .int (nI r)), (0, rf G 418), (1, .int (nI (13 + 1)))] [] := by
          intro hu2
          refine aw_iincN (pc := 304) X 1 (lv' := [(2, _), (0, _), (1, _)]) d_Mo_carryOut_304 (by rfl) (by decide) (by decide) (by rfl) ?_
          refine aw_goto (pc := 307) X (tgt := 261) d_Mo_carryOut_307 (by rfl) ?_
          -- stop 261 lv=2:n,0:r,1:n st=
          exact ih (r + 1) (by omega) (by omega) _ _ _ _ hM hf hm1 hA1 h6 hRR hu2
        rw [udS] at hu
        have P287 : (ar.length = 0 ∨ valL (argOf ar 1) = lN r) → AW G E 3 nx 0 0 w1 287 [(2, .int (nI r)), (0, rf G 418), (1, .int (nI (13 + 1)))] [] := by
          intro hc
          have hpr : p = pV σ.1.2.1 := c7
          have hinj := pV_inj (o := σ.1.2.1) (fun q hq => by have := c7b q hq; omega) (show r < 2 ^ 31 by omega)
          refine aw_iload_n (pc := 287) X d_Mo_carryOut_287 (by rfl) ?_
          refine aw_aload_nR (pc := 288) X d_Mo_carryOut_288 (by rfl) ?_
          refine gm_25 (pc := 289) X hM (by omega) d_Mo_carryOut_289 ?_
          refine aw_icmp_eq (pc := 292) X (tgt := 304) d_Mo_carryOut_292 (by rfl) (fun h292 => ?_) (fun h292 => ?_)
          -- br 292 lv=2:n,0:r,1:n st=
          · have hps : σ.1.2.1 = some r := hinj.mp (by rw [← hpr, h292])
            refine hskip ?_
            by_cases he : m1 28 = 0
            · rw [if_pos ⟨hc, he⟩, hps, pourS, if_pos rfl] at hu
              rw [he, hps]
              exact hu
            · rw [if_neg (fun z => he z.2)] at hu
              exact hu
          · have hps : σ.1.2.1 ≠ some r := fun z => h292 (by rw [hpr, z, pV_some])
            refine aw_aload_nR (pc := 295) X d_Mo_carryOut_295 (by rfl) ?_
            refine aw_iload_n (pc := 296) X d_Mo_carryOut_296 (by rfl) ?_
            refine aw_aload_nR (pc := 297) X d_Mo_carryOut_297 (by rfl) ?_
            refine gm_25 (pc := 298) X hM (by omega) d_Mo_carryOut_298 ?_
            -- stop 301 lv=2:n,0:r,1:n st=i,n,r
            rw [hpr]
            refine aw_callV (pc := 301) X _ (s_Mo_pour (d := 1) (tt := σ.1.2.1) hnx (by omega) (by omega) (fun q hq => ⟨c7b q hq, fun z => hps (by rw [hq, z])⟩) h6 hRR hM) q_Mo_pour k_1140 k_1142 k_58 (by omega) hM.1 (by rfl) d_Mo_carryOut_301 (by omega) (Nat.le_of_ble_eq_true rfl) ⟨by omega, by omega⟩ (fun h => by cases h) (fun r w nx hp => ?_)
            clear hM
            obtain ⟨rfl, hf1, p, m, A, V, hM, hq⟩ := hp
            replace hf := hf.trans hf1
            obtain ⟨rfl, hpp, hvv, hm2, hA2, he2, hRR2⟩ := hq
            rw [hpp, hvv] at hM
            refine aw_iincN (pc := 304) X 1 (lv' := [(2, _), (0, _), (1, _)]) d_Mo_carryOut_304 (by rfl) (by decide) (by decide) (by rfl) ?_
            refine aw_goto (pc := 307) X (tgt := 261) d_Mo_carryOut_307 (by rfl) ?_
            -- stop 261 lv=2:n,0:r,1:n st=
            refine ih (r + 1) (by omega) (by omega) _ _ _ _ hM hf (fun k hk => (hm2 k hk).trans (hm1 k hk)) (fun a h1 h2 => (hA2 a h1 h2).trans (hA1 a h1 h2)) ?_ hRR2 ?_
            · rw [he2]
              split
              · generalize (pourS R1 r σ.1.2.1).1 = bb
                cases bb <;> decide
              · exact h6
            · rw [he2]
              by_cases he : m1 28 = 0
              · rw [if_pos ⟨hc, he⟩] at hu
                rw [if_pos he, if_pos he]
                exact hu
              · rw [if_neg (fun z => he z.2)] at hu
                rw [if_neg he, if_neg he]
                exact hu
        refine aw_iload_n (pc := 261) X d_Mo_carryOut_261 (by rfl) ?_
        refine aw_iconstN (pc := 262) X 4 d_Mo_carryOut_262 (by decide) ?_
        refine aw_icmp_geN (pc := 263) X (tgt := 310) d_Mo_carryOut_263 (by rfl) (by omega) (by omega) (fun h263 => ?_) (fun h263 => ?_)
        -- br 263 lv=2:n,0:r,1:n st=
        · omega
        · refine aw_aload_nR (pc := 266) X d_Mo_carryOut_266 (by rfl) ?_
          refine gm_17 (pc := 267) X hM (by omega) d_Mo_carryOut_267 ?_
          refine aw_bipushN (pc := 270) X 12 d_Mo_carryOut_270 (by decide) ?_
          refine aw_ialdN (pc := 272) X 431 1 (by omega) hM.a431 (by rfl) (by omega) (by decide) d_Mo_carryOut_272 ?_
          refine aw_if_eqN (pc := 273) X (tgt := 287) d_Mo_carryOut_273 (by rfl) (by omega) (fun h273 => ?_) (fun h273 => ?_)
          -- br 273 lv=2:n,0:r,1:n st=
          · exact P287 (Or.inl (by omega))
          · refine aw_aload_nR (pc := 276) X d_Mo_carryOut_276 (by rfl) ?_
            refine aw_iconstN (pc := 277) X 1 d_Mo_carryOut_277 (by decide) ?_
            -- invokevirtual 278 lv=2:n,0:r,1:n st=n,r
            refine aw_callV (pc := 278) X _ (s_Mo_value (d := 2) hnx (by omega) (by omega) hY1 hM) q_Mo_value k_1107 k_1109 k_51 (by omega) hM.1 (by rfl) d_Mo_carryOut_278 (by omega) (Nat.le_of_ble_eq_true rfl) ⟨by omega, by omega⟩ (fun h => by cases h) (fun r w nx hp => ?_)
            obtain ⟨rfl, rfl, rfl⟩ := hp
            refine aw_iload_n (pc := 281) X d_Mo_carryOut_281 (by rfl) ?_
            refine aw_i2lN (pc := 282) X d_Mo_carryOut_282 (by omega) ?_
            refine aw_lcmp (pc := 283) X d_Mo_carryOut_283 ?_
            refine aw_if_ne (pc := 284) X (tgt := 304) d_Mo_carryOut_284 (by rfl) (fun h284 => ?_) (fun h284 => ?_)
            -- br 284 lv=2:n,0:r,1:n st=
            · have hv : ¬ valL (argOf ar 1) = lN r := fun z => h284 ((lg_eq0 _ _).mpr z)
              rw [if_neg (fun z => by rcases z.1 with z | z; omega; exact hv z)] at hu
              exact hskip hu
            · exact P287 (Or.inr ((lg_eq0 _ _).mp h284))
    refine aw_iconstN (pc := 259) X 1 d_Mo_carryOut_259 (by decide) ?_
    refine aw_istore_n (pc := 260) X (lv' := [(2, _), (0, _), (1, _)]) d_Mo_carryOut_260 (by decide) (by rfl) ?_
    -- stop 261 lv=2:n,0:r,1:n st=
    exact K 3 1 (by omega) (by omega) _ _ _ _ hM hf (fun _ _ => rfl) (fun _ _ _ => rfl) (by omega) c6 (by rw [e28]; exact udS_und ar σ.1.2.1 σ.1.2.2.1)
  · refine aw_tableIn (pc := 1) X (off := 312) (tgt := 313) d_Mo_carryOut_1 (by decide) (by decide) (by rfl) (by rfl) ?_
    have hXe : Xs = (0, σ.1.1, σ.1.2.1, σ.1.2.2.1, σ.1.2.2.2, []) := hXs
    have hpr : p = pV σ.1.2.1 := c7
    refine aw_aload_nR (pc := 313) X d_Mo_carryOut_313 (by rfl) ?_
    refine aw_aload_nR (pc := 314) X d_Mo_carryOut_314 (by rfl) ?_
    refine gm_25 (pc := 315) X hM (by omega) d_Mo_carryOut_315 ?_
    refine aw_i2l (pc := 318) X d_Mo_carryOut_318 ?_
    -- stop 319 lv=0:r,1:n st=l,r
    rw [hpr]
    refine aw_callV (pc := 319) X _ (s_Mo_putNumber (d := 2) hnx (by omega) h600 hS0 hM) q_Mo_putNumber k_1057 k_1059 k_39 (by omega) hM.1 (by rfl) d_Mo_carryOut_319 (by omega) (Nat.le_of_ble_eq_true rfl) ⟨by omega, by omega⟩ (fun h => by cases h) (fun r w nx hp => ?_)
    clear hM
    obtain ⟨rfl, hf1, p, m, A, V, hM, hq⟩ := hp
    replace hf := hf.trans hf1
    obtain ⟨rfl, hpp, hvv, hq2, hS2⟩ := hq
    rw [hpp, hvv] at hM
    refine aw_goto (pc := 322) X (tgt := 359) d_Mo_carryOut_322 (by rfl) ?_
    refine aw_vret Y X rfl d_Mo_carryOut_359 (by omega) (by omega) (hP _ _ _ ?_)
    -- ret 359 lv=0:r,1:n st=
    rw [hXe]
    exact ⟨rfl, hf, _, _, _, _, hM, rfl, fun a h1 h2 => hq2.2 a (by omega), hR.kp (fun k h1 h2 _ => hq2.1 k h1 h2) (fun a ha => hq2.2 a (by omega)), fun z => absurd rfl z, fun _ => hS2⟩
  · refine aw_tableOut (pc := 1) X (tgt := 325) d_Mo_carryOut_1 (Or.inr (by decide)) (by rfl) ?_
    have hXe : Xs = (0, σ.1.1.drop (lnLen σ.1.1), σ.1.2.1, σ.1.2.2.1, σ.1.2.2.2, []) := hXs
    have K : ∀ (F1 : List Nat) (c : Nat) w1 m1, c < 65536 → hMo G w1 p m1 A V → fr 418 442 w w1 → (∀ k, k ≠ 3 → m1 k = m k) → RF (m1 3) (A 420) F1 → (c ≠ 10 → F1.drop (lnLen F1) = σ.1.1.drop (lnLen σ.1.1)) → (c = 10 → F1 = σ.1.1.drop (lnLen σ.1.1)) → AW G E 3 nx 0 0 w1 327 [(2, .int (nI c)), (0, rf G 418), (1, .int (nI (15 + 1)))] [] := by
      intro F1
      induction F1 with
      | nil =>
        intro c w1 m1 hc hM hf hm1 hF h1 h2
        have g1 : m1 3 = 0 := hF.1
        have hFin : [] = σ.1.1.drop (lnLen σ.1.1) := by
          by_cases h : c = 10
          · exact h2 h
          · have := h1 h
            rwa [List.drop_nil] at this
        refine aw_aload_nR (pc := 327) X d_Mo_carryOut_327 (by rfl) ?_
        refine gm_3 (pc := 328) X hM (by omega) d_Mo_carryOut_328 ?_
        refine aw_if_leN (pc := 331) X (tgt := 359) d_Mo_carryOut_331 (by rfl) (by omega) (fun h331 => ?_) (fun h331 => ?_)
        -- br 331 lv=2:n,0:r,1:n st=
        · refine aw_vret Y X rfl d_Mo_carryOut_359 (by omega) (by omega) (hP _ _ _ ?_)
          -- ret 359 lv=2:n,0:r,1:n st=
          rw [hXe]
          refine ⟨rfl, hf, _, _, _, _, hM, rfl, fun _ _ _ => rfl, hR.fr (fun k h1 _ _ => hm1 k h1) (fun _ _ _ => rfl) (hFin ▸ hF), fun z => absurd rfl z, fun _ => Or.inl ⟨(hm1 28 (by decide)).trans e28, (hm1 26 (by decide)).trans e26, rfl, (by show _ + 0 ≤ 600; omega)⟩⟩
        · omega
      | cons x F2 ih =>
        intro c w1 m1 hc hM hf hm1 hF h1 h2
        obtain ⟨t1, t2⟩ := hF.tail
        have g1 : m1 3 = F2.length + 1 := hF.1
        have g2 : F2.length + 1 ≤ 600 := hF.2.1
        have hxb : x < 65536 := by rw [← t2]; exact hM.b420 _
        refine aw_aload_nR (pc := 327) X d_Mo_carryOut_327 (by rfl) ?_
        refine gm_3 (pc := 328) X hM (by omega) d_Mo_carryOut_328 ?_
        refine aw_if_leN (pc := 331) X (tgt := 359) d_Mo_carryOut_331 (by rfl) (by omega) (fun h331 => ?_) (fun h331 => ?_)
        -- br 331 lv=2:n,0:r,1:n st=
        · omega
        · refine aw_iload_n (pc := 334) X d_Mo_carryOut_334 (by rfl) ?_
          refine aw_bipushN (pc := 335) X 10 d_Mo_carryOut_335 (by decide) ?_
          refine aw_icmp_eqN (pc := 337) X (tgt := 359) d_Mo_carryOut_337 (by rfl) (by omega) (by omega) (fun h337 => ?_) (fun h337 => ?_)
          -- br 337 lv=2:n,0:r,1:n st=
          · refine aw_vret Y X rfl d_Mo_carryOut_359 (by omega) (by omega) (hP _ _ _ ?_)
            -- ret 359 lv=2:n,0:r,1:n st=
            rw [hXe]
            refine ⟨rfl, hf, _, _, _, _, hM, rfl, fun _ _ _ => rfl, hR.fr (fun k h1 _ _ => hm1 k h1) (fun _ _ _ => rfl) ((h2 h337) ▸ hF), fun z => absurd rfl z, fun _ => Or.inl ⟨(hm1 28 (by decide)).trans e28, (hm1 26 (by decide)).trans e26, rfl, (by show _ + 0 ≤ 600; omega)⟩⟩
          · have h1 := h1 h337
            rw [ln_cons] at h1
            refine aw_aload_nR (pc := 340) X d_Mo_carryOut_340 (by rfl) ?_
            refine aw_iconstN (pc := 341) X 0 d_Mo_carryOut_341 (by decide) ?_
            -- invokevirtual 342 lv=2:n,0:r,1:n st=n,r
            refine aw_callV (pc := 342) X _ (s_Mo_next (d := 0) (F := x :: F2) hnx (by decide) hF hM) q_Mo_next k_1011 k_1013 k_29 (by omega) hM.1 (by rfl) d_Mo_carryOut_342 (by omega) (Nat.le_of_ble_eq_true rfl) ⟨by omega, by omega⟩ (fun h => by cases h) (fun r w nx hp => ?_)
            obtain ⟨rfl, rfl, rfl⟩ := hp
            rw [show pV (x :: F2)[0]? = nI x from rfl]
            refine aw_istore_n (pc := 345) X (lv' := [(2, _), (0, _), (1, _)]) d_Mo_carryOut_345 (by decide) (by rfl) ?_
            refine aw_aload_nR (pc := 346) X d_Mo_carryOut_346 (by rfl) ?_
            refine aw_dup (pc := 347) X d_Mo_carryOut_347 (by rfl) ?_
            refine gm_3 (pc := 348) X hM (by omega) d_Mo_carryOut_348 ?_
            refine aw_iconstN (pc := 351) X 1 d_Mo_carryOut_351 (by decide) ?_
            refine aw_isubN (pc := 352) X d_Mo_carryOut_352 (by omega) ?_
            refine pm_3 (pc := 353) X hM hf (by omega) d_Mo_carryOut_353 (fun w hM hf => ?_)
            refine aw_goto (pc := 356) X (tgt := 327) d_Mo_carryOut_356 (by rfl) ?_
            -- stop 327 lv=2:n,0:r,1:n st=
            refine ih x _ _ hxb hM hf (fun k hk => (if_neg hk).trans (hm1 k hk)) t1 (fun z => ?_) (fun z => ?_)
            · rw [if_neg z] at h1; exact h1
            · rw [if_pos z] at h1; exact h1
    refine aw_iconstN (pc := 325) X 0 d_Mo_carryOut_325 (by decide) ?_
    refine aw_istore_n (pc := 326) X (lv' := [(2, _), (0, _), (1, _)]) d_Mo_carryOut_326 (by decide) (by rfl) ?_
    -- stop 327 lv=2:n,0:r,1:n st=
    exact K σ.1.1 0 _ _ (by decide) hM hf (fun _ _ => rfl) ⟨f1, f2, f3⟩ (fun _ => rfl) (fun z => absurd z (by decide))
end

