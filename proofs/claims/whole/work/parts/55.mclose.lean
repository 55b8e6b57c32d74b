/-! the reference: close, gather -/
/-- what was read, and what is expanded for it -/
def stpX (X : Nat × SQ × Option (Def × List (List Nat))) : Nat × SQ :=
  if X.1 = 0 then (match X.2.2 with
    | none => (0, X.2.1)
    | some x => ((expS x.1 x.2 X.2.1.1.1 X.2.1.1.2.1 X.2.1.1.2.2.1 X.2.1.1.2.2.2).1, (expS x.1 x.2 X.2.1.1.1 X.2.1.1.2.1 X.2.1.1.2.2.1 X.2.1.1.2.2.2).2, X.2.1.2))
  else (X.1, X.2.1)
theorem stpX_none {e : Nat} {s : SQ} : stpX (e, s, none) = (e, s) := by
  unfold stpX
  split
  · rename_i h
    rw [show e = 0 from h]
  · rfl
theorem okC.len {n : Nat} : ∀ {C : List CS} {n : Nat}, okC C n → ∀ u, u ∈ C → u.2.1.length ≤ 9
  | [], _, _, u, hu => by cases hu
  | v :: r, n, h, u, hu => by
    rcases List.mem_cons.mp hu with rfl | hu
    · exact h.2.1
    · obtain ⟨x, y, -, h2⟩ := h.1
      exact okC.len (n := 0) h2 u hu
/-- the rows of the open calls are what they were -/
def lowA (A A1 : Nat → Nat → Nat) : Prop := (∀ x, x < 144 → A1 426 x = A 426 x) ∧ (∀ x, x < 12 → A1 427 x = A 427 x ∧ A1 428 x = A 428 x ∧ A1 430 x = A 430 x ∧ A1 431 x = A 431 x ∧ A1 433 x = A 433 x ∧ A1 434 x = A 434 x) ∧ (∀ x, x < 1200 → A1 429 x = A 429 x) ∧ ∀ x, x < 132 → A1 432 x = A 432 x
theorem RC.low {n : Nat} {A A1 : Nat → Nat → Nat} {C : List CS} (h : RC n (A 426) (A 427) (A 428) (A 429) (A 430) (A 431) (A 432) (A 433) (A 434) C) (h9 : ∀ u, u ∈ C → u.2.1.length ≤ 9) (hl : lowA A A1) : RC n (A1 426) (A1 427) (A1 428) (A1 429) (A1 430) (A1 431) (A1 432) (A1 433) (A1 434) C := by
  obtain ⟨h1, h2, h3⟩ := h
  obtain ⟨l1, l2, l3, l4⟩ := hl
  refine ⟨h1, h2, fun i u hu => ?_⟩
  have hi : i < 12 := by
    have := (List.getElem?_eq_some_iff.mp hu).1
    simp at this
    omega
  have hm : u ∈ C := by
    have := List.mem_of_getElem? hu
    simpa using this
  have hu9 := h9 u hm
  obtain ⟨c1, c2, c3, c4, c5, c6⟩ := h3 i u hu
  obtain ⟨k1, k2, k3, k4, k5, k6⟩ := l2 i hi
  refine ⟨c1.congr k1 k2 k3 (fun j hj => l1 _ (by omega)) (fun j hj => l3 _ (by omega)), k4.trans c2, fun k hk => ?_, k5.trans c4, c5, k6.trans c6⟩
  rw [l4 _ (by omega)]
  exact c3 k hk
theorem RC.pop {n : Nat} {a1 a2 a3 a4 a5 a6 a7 a8 a9 : Nat → Nat} {u : CS} {r : List CS} (h : RC n a1 a2 a3 a4 a5 a6 a7 a8 a9 (u :: r)) : RC (n - 1) a1 a2 a3 a4 a5 a6 a7 a8 a9 r := by
  obtain ⟨h1, h2, h3⟩ := h
  have h1 : n = r.length + 1 := h1
  have h2 : r.length + 1 ≤ 12 := h2
  refine ⟨by omega, by omega, fun i v hv => h3 i v ?_⟩
  have hi := (List.getElem?_eq_some_iff.mp hv).1
  rw [List.reverse_cons, List.getElem?_append_left hi]
  exact hv
theorem RC.top {n : Nat} {a1 a2 a3 a4 a5 a6 a7 a8 a9 : Nat → Nat} {u : CS} {r : List CS} (h : RC n a1 a2 a3 a4 a5 a6 a7 a8 a9 (u :: r)) : n = r.length + 1 ∧ r.length < 12 ∧ cR r.length a1 a2 a3 a4 a5 a6 a7 a8 a9 u := ⟨h.1, h.2.1, h.2.2 _ _ (rev_last u r)⟩
theorem RC.put {n n' : Nat} {a1 a2 a3 a4 a5 a6 a7 a8 a9 b1 b2 b3 b4 b5 b6 b7 b8 b9 : Nat → Nat} {v : CS} {r : List CS} (h : RC n a1 a2 a3 a4 a5 a6 a7 a8 a9 r) (hn : n' = r.length + 1) (hl : r.length < 12) (hv : cR r.length b1 b2 b3 b4 b5 b6 b7 b8 b9 v) (ho : ∀ i x, i < r.length → x ∈ r → cR i a1 a2 a3 a4 a5 a6 a7 a8 a9 x → cR i b1 b2 b3 b4 b5 b6 b7 b8 b9 x) : RC n' b1 b2 b3 b4 b5 b6 b7 b8 b9 (v :: r) := by
  refine ⟨hn, hl, fun i x hx => ?_⟩
  by_cases e : i = r.length
  · subst e
    rw [rev_last] at hx
    cases hx
    exact hv
  · have hi : i < r.length := by
      have := (List.getElem?_eq_some_iff.mp hx).1
      simp at this
      omega
    rw [List.reverse_cons, List.getElem?_append_left (by simpa using hi)] at hx
    exact ho i x hi (by have := List.mem_of_getElem? hx; simpa using this) (h.2.2 i x hx)
/-- the arguments of a call, cut out of what is gathered -/
theorem cut_arg {ga l : List Nat} {g : Nat → Nat} (hg : ga = sl g 0 ga.length) (hp : l.Pairwise (· ≤ ·)) (hle : ∀ x ∈ l, x ≤ ga.length) {k : Nat} (h1 : 1 ≤ k) (h2 : k ≤ l.length) : l.getD (k - 1) 0 ≤ (if k < l.length then l.getD k 0 else ga.length) ∧ (if k < l.length then l.getD k 0 else ga.length) ≤ ga.length ∧ argOf (cut ga l) k = sl g (l.getD (k - 1) 0) ((if k < l.length then l.getD k 0 else ga.length) - l.getD (k - 1) 0) := by
  have m1 : l.getD (k - 1) 0 ∈ l := by
    rw [List.getD_eq_getElem?_getD, List.getElem?_eq_getElem (show k - 1 < l.length by omega)]
    exact List.getElem_mem _
  have b1 := hle _ m1
  have hb : (if k < l.length then l.getD k 0 else ga.length) ≤ ga.length := by
    split
    · rename_i h
      refine hle _ ?_
      rw [List.getD_eq_getElem?_getD, List.getElem?_eq_getElem h]
      exact List.getElem_mem _
    · exact Nat.le_refl _
  have ha : l.getD (k - 1) 0 ≤ (if k < l.length then l.getD k 0 else ga.length) := by
    split
    · rename_i h
      rw [List.getD_eq_getElem?_getD, List.getElem?_eq_getElem (show k - 1 < l.length by omega), List.getD_eq_getElem?_getD, List.getElem?_eq_getElem h]
      exact List.pairwise_iff_getElem.mp hp (k - 1) k (by omega) h (by omega)
    · exact b1
  refine ⟨ha, hb, ?_⟩
  rw [argOf, if_pos ⟨h1, by rw [cut_len]; exact h2⟩, cut_get ga l (k - 1) (by omega), show k - 1 + 1 = k by omega]
  generalize (if k < l.length then l.getD k 0 else ga.length) = y at ha hb
  generalize l.getD (k - 1) 0 = x at b1 ha
  have e := sl_drop g 0 ga.length x b1
  rw [← hg, Nat.zero_add] at e
  rw [e, sl_take _ _ _ _ (by omega)]
section
variable {G : aw_G} {nx d : Nat} {w : Nat → va_E} {p : Int32} {m : Nat → Nat} {A : Nat → Nat → Nat} {V : Nat → Int64} {tx : List Nat} {σ : SQ} {st : Nat × Nat} {u : CS} {r : List CS}
theorem s_Mo_close (hnx : 442 ≤ nx) (hd : 7 ≤ d) (e28 : m 28 = 0) (hC : σ.2.2.1 = u :: r) (hR : RM p m A tx σ st) (hM : hMo G w p m A V) : AC G y_Mo_close b_Mo_close 2 none d false [rf G 418] nx w 0 0 (mq G nx w (fun x p' m' A' V' => x = none ∧ RM p' m' A' tx ((expS u.1 (cut σ.2.1 u.2.1) σ.1.1 σ.1.2.1 σ.1.2.2.1 σ.1.2.2.2).2, σ.2.1.take (u.2.1.getD 0 0), r, σ.2.2.2) st ∧ m' 28 = (expS u.1 (cut σ.2.1 u.2.1) σ.1.1 σ.1.2.1 σ.1.2.2.1 σ.1.2.2.2).1)) := by
  obtain ⟨c1, c2, c3, c4, ⟨g1, g2, g3, g4⟩, c6, c7, c8, c9⟩ := id hR
  rw [hC] at c4 g4
  have h9 := okC.len (n := 0) g4
  obtain ⟨⟨x0, y0, hxy, hokr⟩, hn9, hpw, hle⟩ := id g4
  obtain ⟨t1, t2, ⟨td, tm, tb, -⟩⟩ := c4.top
  obtain ⟨z1, z2, z3, z4, z5, z6, z7, z8, z9⟩ := id td
  have hn1 : 1 ≤ u.2.1.length := by rw [hxy]; simp
  have hx0 : u.2.1.getD 0 0 = x0 := by rw [hxy]; rfl
  have hx0l : x0 ≤ σ.2.1.length := hle x0 (by rw [hxy]; exact List.mem_cons_self)
  generalize ho : r.length = o at t1 t2 td tm tb z1 z2 z3 z4 z5 z6 z7 z8 z9
  refine AC.ofW (by decide) (Nat.le_of_ble_eq_true rfl) ?_
  intro E P hP Y X
  have X : aw_X G "RescanDeskModel" b_Mo_close 2 none "close" _ _ _ _ _ E := X
  refine AW.eql (lv' := [(0, _)]) (by rfl) ?_
  have hf : fr 418 442 w w := fr.refl _ _ _
  have K3 : ∀ m1, m1 11 = o → (∀ k, k ≠ 11 → m1 k = m k) → ∀ (j i : Nat), i + j = u.2.1.length → ∀ w1 A1, hMo G w1 p m1 A1 V → fr 418 442 w w1 → (∀ a, a < 426 ∨ 432 < a → A1 a = A a) → A1 426 = aw_cpn (A 426) (A 426) (12 * o) 144 12 → A1 427 = aw_un (A 427) 12 (A 427 o) → A1 428 = aw_un (A 428) 12 (A 428 o) → A1 429 = aw_cpn (A 429) (A 429) (100 * o) 1200 (A 430 o) → A1 430 = aw_un (A 430) 12 (A 430 o) → A1 431 = aw_un (A 431) 12 (A 431 o) → A1 432 = aw_cpn (A 432) (A 432) (11 * o) 132 i → AW G E 2 nx 0 0 w1 159 [(1, .int (nI i)), (0, rf G 418)] [] := by
    intro m1 e11 hm1 j
    induction j with
    | zero =>
      intro i hi w1 A1 hM hf k0 k1 k2 k3 k4 k5 k6 k7
      have hi0 : i = u.2.1.length := by omega
      subst hi0
      have q31 : A1 431 (m1 11) = u.2.1.length := by rw [k6, e11, aw_un_ne _ _ (by omega)]; exact tm
      have q21 : m1 21 = σ.2.1.length := (hm1 21 (by decide)).trans g1
      have hb : ∀ k, k < u.2.1.length → A1 432 (132 + k) = u.2.1.getD k 0 := fun k hk => by rw [k7, cpn_in _ _ _ _ _ hk]; exact tb k hk
      refine aw_iload_n (pc := 159) X d_Mo_close_159 (by rfl) ?_
      refine aw_aload_nR (pc := 160) X d_Mo_close_160 (by rfl) ?_
      refine gm_17 (pc := 161) X hM (by omega) d_Mo_close_161 ?_
      refine aw_aload_nR (pc := 164) X d_Mo_close_164 (by rfl) ?_
      refine gm_11 (pc := 165) X hM (by omega) d_Mo_close_165 ?_
      refine aw_ialdN (pc := 168) X 431 1 (by omega) hM.a431 (by rfl) (by omega) (by decide) d_Mo_close_168 ?_
      refine aw_icmp_geN (pc := 169) X (tgt := 202) d_Mo_close_169 (by rfl) (by omega) (by omega) (fun h169 => ?_) (fun h169 => ?_)
      -- br 169 lv=1:n,0:r st=
      · refine aw_aload_nR (pc := 202) X d_Mo_close_202 (by rfl) ?_
        refine gm_18 (pc := 203) X hM (by omega) d_Mo_close_203 ?_
        refine aw_sipushN (pc := 206) X 132 d_Mo_close_206 (by decide) ?_
        refine aw_aload_nR (pc := 209) X d_Mo_close_209 (by rfl) ?_
        refine gm_17 (pc := 210) X hM (by omega) d_Mo_close_210 ?_
        refine aw_aload_nR (pc := 213) X d_Mo_close_213 (by rfl) ?_
        refine gm_11 (pc := 214) X hM (by omega) d_Mo_close_214 ?_
        refine aw_ialdN (pc := 217) X 431 1 (by omega) hM.a431 (by rfl) (by omega) (by decide) d_Mo_close_217 ?_
        refine aw_iaddN (pc := 218) X d_Mo_close_218 ?_
        refine aw_aload_nR (pc := 219) X d_Mo_close_219 (by rfl) ?_
        refine gm_21 (pc := 220) X hM (by omega) d_Mo_close_220 ?_
        refine sm_432 (pc := 223) X hM hf (by omega) (by omega) d_Mo_close_223 (fun w hM hf => ?_)
        refine aw_aload_nR (pc := 224) X d_Mo_close_224 (by rfl) ?_
        refine aw_aload_nR (pc := 225) X d_Mo_close_225 (by rfl) ?_
        refine gm_18 (pc := 226) X hM (by omega) d_Mo_close_226 ?_
        refine aw_sipushN (pc := 229) X 132 d_Mo_close_229 (by decide) ?_
        refine aw_ialdN (pc := 232) X 432 1 (by omega) hM.a432 (by rfl) (by omega) (by decide) d_Mo_close_232 ?_
        try simp only [mu, au, reduceIte, Nat.reduceEqDiff]
        refine pm_21 (pc := 233) X hM hf (by omega) d_Mo_close_233 (fun w hM hf => ?_)
        refine aw_aload_nR (pc := 236) X d_Mo_close_236 (by rfl) ?_
        -- invokevirtual 237 lv=1:n,0:r st=r
        have hA2 : ∀ a, a ≠ 432 → au A1 432 (132 + A1 431 (m1 11)) (m1 21) a = A1 a := fun a h => if_neg h
        have hA3 : au A1 432 (132 + A1 431 (m1 11)) (m1 21) 432 = aw_un (A1 432) (132 + u.2.1.length) σ.2.1.length := by rw [← q31, ← q21]; rfl
        generalize hAg : au A1 432 (132 + A1 431 (m1 11)) (m1 21) = A2 at hA2 hA3 hM
        have e132 : A2 432 132 = x0 := by rw [hA3, aw_un_ne _ _ (by omega), ← hx0]; exact hb 0 (by omega)
        have hval : ∀ k, k ≤ u.2.1.length → A2 432 (132 + k) = if k < u.2.1.length then u.2.1.getD k 0 else σ.2.1.length := fun k hk => by
          rw [hA3]
          by_cases h : k < u.2.1.length
          · rw [if_pos h, aw_un_ne _ _ (by omega), hb k h]
          · rw [if_neg h, show k = u.2.1.length by omega, aw_un_eq]
        have hlow : lowA A A2 := by
          refine ⟨fun x hx => ?_, fun x hx => ⟨?_, ?_, ?_, ?_, ?_, ?_⟩, fun x hx => ?_, fun x hx => ?_⟩
          · rw [hA2 426 (by decide), k1, cpn_out _ _ _ _ _ (by omega)]
          · rw [hA2 427 (by decide), k2, aw_un_ne _ _ (by omega)]
          · rw [hA2 428 (by decide), k3, aw_un_ne _ _ (by omega)]
          · rw [hA2 430 (by decide), k5, aw_un_ne _ _ (by omega)]
          · rw [hA2 431 (by decide), k6, aw_un_ne _ _ (by omega)]
          · rw [hA2 433 (by decide), k0 433 (by omega)]
          · rw [hA2 434 (by decide), k0 434 (by omega)]
          · rw [hA2 429 (by decide), k4, cpn_out _ _ _ _ _ (by omega)]
          · rw [hA3, aw_un_ne _ _ (by omega), k7, cpn_out _ _ _ _ _ (by omega)]
        have e435 : A2 435 = A 435 := (hA2 435 (by decide)).trans (k0 435 (by omega))
        have hY : RY A2 u.1 (cut σ.2.1 u.2.1) := by
          refine ⟨?_, ?_, by rw [cut_len]; exact hn9, fun k hk1 hk2 => ?_⟩
          · refine td.from ?_ ?_ ?_ (fun j hj => ?_) (fun j hj => ?_)
            · rw [hA2 427 (by decide), k2, aw_un_eq]
            · rw [hA2 428 (by decide), k3, aw_un_eq]
            · rw [hA2 430 (by decide), k5, aw_un_eq]
            · rw [hA2 426 (by decide), k1, cpn_in _ _ _ _ _ (by omega)]
            · rw [hA2 429 (by decide), k4, cpn_in _ _ _ _ _ (by omega)]
          · rw [cut_len, hA2 431 (by decide), k6, aw_un_eq]
            exact tm
          · rw [cut_len] at hk2
            obtain ⟨v1, v2, v3⟩ := cut_arg g3 hpw hle hk1 hk2
            have w1' := hval (k - 1) (by omega)
            rw [if_pos (by omega), show 132 + (k - 1) = 131 + k by omega] at w1'
            rw [w1', hval k hk2, e435]
            exact ⟨v1, by omega, v3⟩
        have hRM : RM p (mu m1 21 x0) A2 tx (σ.1, σ.2.1.take x0, r, σ.2.2.2) st := by
          have hlt : (σ.2.1.take x0).length = x0 := by rw [List.length_take]; omega
          refine ⟨?_, ?_, ?_, ?_, ⟨?_, ?_, ?_, ?_⟩, ?_, c7, ?_, ?_⟩
          · show RTx (m1 1) (A2 419) tx
            rw [hm1 1 (by decide), hA2 419 (by decide), k0 419 (by omega)]; exact c1
          · show RF (m1 3) (A2 420) σ.1.1
            rw [hm1 3 (by decide), hA2 420 (by decide), k0 420 (by omega)]; exact c2
          · show RT (m1 5) (A2 421) (A2 422) (A2 423) (A2 424) (A2 425) σ.1.2.2.2
            rw [hm1 5 (by decide), hA2 421 (by decide), k0 421 (by omega), hA2 422 (by decide), k0 422 (by omega), hA2 423 (by decide), k0 423 (by omega), hA2 424 (by decide), k0 424 (by omega), hA2 425 (by decide), k0 425 (by omega)]; exact c3
          · show RC (m1 11) _ _ _ _ _ _ _ _ _ r
            have := c4.pop.low (fun v hv => h9 v (List.mem_cons_of_mem _ hv)) hlow
            rw [t1, show o + 1 - 1 = m1 11 by omega] at this
            exact this
          · show x0 = _
            rw [hlt]
          · show (σ.2.1.take x0).length ≤ 400
            omega
          · rw [hlt, g3, sl_take _ _ _ _ hx0l, e435]
          · rw [hlt]; exact hokr
          · show RR (A2 436) (A2 437) _
            rw [hA2 436 (by decide), k0 436 (by omega), hA2 437 (by decide), k0 437 (by omega)]; exact c6
          · show m1 29 = st.1 ∧ m1 0 = st.2
            rw [hm1 29 (by decide), hm1 0 (by decide)]; exact c8
          · show m1 30 = _ ∧ _
            rw [hm1 30 (by decide)]; exact c9
        rw [show aw_un (A1 432) (132 + A1 431 (m1 11)) (m1 21) 132 = x0 by rw [q31, aw_un_ne _ _ (by omega), ← hx0]; exact hb 0 (by omega)] at hM
        refine aw_callV (pc := 237) X _ (s_Mo_expand (m := mu m1 21 x0) (d := 6) (σ := (σ.1, σ.2.1.take x0, r, σ.2.2.2)) hnx (by omega) (show m1 28 = 0 from (hm1 28 (by decide)).trans e28) hY hRM hM) q_Mo_expand k_1045 k_1047 k_36 (by omega) hM.1 (by rfl) d_Mo_close_237 (by omega) (Nat.le_of_ble_eq_true rfl) ⟨by omega, by omega⟩ (fun h => by cases h) (fun r w nx hp => ?_)
        clear hM
        obtain ⟨rfl, hf1, p, m, A, V, hM, hq⟩ := hp
        replace hf := hf.trans hf1
        obtain ⟨rfl, hR2, he2⟩ := hq
        refine aw_vret Y X rfl d_Mo_close_240 (by omega) (by omega) (hP _ _ _ ?_)
        -- ret 240 lv=1:n,0:r st=
        rw [hx0]
        exact ⟨rfl, hf, _, _, _, _, hM, rfl, hR2, he2⟩
      · omega
    | succ j ih =>
      intro i hi w1 A1 hM hf k0 k1 k2 k3 k4 k5 k6 k7
      have q31 : A1 431 (m1 11) = u.2.1.length := by rw [k6, e11, aw_un_ne _ _ (by omega)]; exact tm
      refine aw_iload_n (pc := 159) X d_Mo_close_159 (by rfl) ?_
      refine aw_aload_nR (pc := 160) X d_Mo_close_160 (by rfl) ?_
      refine gm_17 (pc := 161) X hM (by omega) d_Mo_close_161 ?_
      refine aw_aload_nR (pc := 164) X d_Mo_close_164 (by rfl) ?_
      refine gm_11 (pc := 165) X hM (by omega) d_Mo_close_165 ?_
      refine aw_ialdN (pc := 168) X 431 1 (by omega) hM.a431 (by rfl) (by omega) (by decide) d_Mo_close_168 ?_
      refine aw_icmp_geN (pc := 169) X (tgt := 202) d_Mo_close_169 (by rfl) (by omega) (by omega) (fun h169 => ?_) (fun h169 => ?_)
      -- br 169 lv=1:n,0:r st=
      · omega
      · refine aw_aload_nR (pc := 172) X d_Mo_close_172 (by rfl) ?_
        refine gm_18 (pc := 173) X hM (by omega) d_Mo_close_173 ?_
        refine aw_sipushN (pc := 176) X 132 d_Mo_close_176 (by decide) ?_
        refine aw_iload_n (pc := 179) X d_Mo_close_179 (by rfl) ?_
        refine aw_iaddN (pc := 180) X d_Mo_close_180 ?_
        refine aw_aload_nR (pc := 181) X d_Mo_close_181 (by rfl) ?_
        refine gm_18 (pc := 182) X hM (by omega) d_Mo_close_182 ?_
        refine aw_bipushN (pc := 185) X 11 d_Mo_close_185 (by decide) ?_
        refine aw_aload_nR (pc := 187) X d_Mo_close_187 (by rfl) ?_
        refine gm_11 (pc := 188) X hM (by omega) d_Mo_close_188 ?_
        refine aw_imulN (pc := 191) X d_Mo_close_191 ?_
        refine aw_iload_n (pc := 192) X d_Mo_close_192 (by rfl) ?_
        refine aw_iaddN (pc := 193) X d_Mo_close_193 ?_
        refine aw_ialdN (pc := 194) X 432 1 (by omega) hM.a432 (by rfl) (by omega) (by decide) d_Mo_close_194 ?_
        refine sm_432 (pc := 195) X hM hf (by omega) (by omega) d_Mo_close_195 (fun w hM hf => ?_)
        refine aw_iincN (pc := 196) X 1 (lv' := [(1, _), (0, _)]) d_Mo_close_196 (by rfl) (by decide) (by decide) (by rfl) ?_
        refine aw_goto (pc := 199) X (tgt := 159) d_Mo_close_199 (by rfl) ?_
        -- stop 159 lv=1:n,0:r st=
        refine ih (i + 1) (by omega) _ _ hM hf (fun a ha => (if_neg (by omega)).trans (k0 a ha)) k1 k2 k3 k4 k5 k6 ?_
        show aw_un (A1 432) (132 + i) (A1 432 (11 * m1 11 + i)) = _
        rw [e11, k7, cpn_out _ _ _ _ _ (j := 11 * o + i) (by omega), cpn_succ]
  have K2 : ∀ m1, m1 11 = o → (∀ k, k ≠ 11 → m1 k = m k) → ∀ (j i : Nat), i + j = A 430 o → ∀ w1 A1, hMo G w1 p m1 A1 V → fr 418 442 w w1 → (∀ a, a < 426 ∨ 429 < a → A1 a = A a) → A1 426 = aw_cpn (A 426) (A 426) (12 * o) 144 12 → A1 427 = aw_un (A 427) 12 (A 427 o) → A1 428 = aw_un (A 428) 12 (A 428 o) → A1 429 = aw_cpn (A 429) (A 429) (100 * o) 1200 i → AW G E 2 nx 0 0 w1 82 [(1, .int (nI i)), (0, rf G 418)] [] := by
    intro m1 e11 hm1 j
    induction j with
    | zero =>
      intro i hi w1 A1 hM hf k0 k1 k2 k3 k4
      have hi0 : i = A 430 o := by omega
      subst hi0
      have q30 : A1 430 (m1 11) = A 430 o := by rw [k0 430 (by omega), e11]
      refine aw_iload_n (pc := 82) X d_Mo_close_82 (by rfl) ?_
      refine aw_aload_nR (pc := 83) X d_Mo_close_83 (by rfl) ?_
      refine gm_16 (pc := 84) X hM (by omega) d_Mo_close_84 ?_
      refine aw_aload_nR (pc := 87) X d_Mo_close_87 (by rfl) ?_
      refine gm_11 (pc := 88) X hM (by omega) d_Mo_close_88 ?_
      refine aw_ialdN (pc := 91) X 430 1 (by omega) hM.a430 (by rfl) (by omega) (by decide) d_Mo_close_91 ?_
      refine aw_icmp_geN (pc := 92) X (tgt := 125) d_Mo_close_92 (by rfl) (by omega) (by omega) (fun h92 => ?_) (fun h92 => ?_)
      -- br 92 lv=1:n,0:r st=
      · refine aw_aload_nR (pc := 125) X d_Mo_close_125 (by rfl) ?_
        refine gm_16 (pc := 126) X hM (by omega) d_Mo_close_126 ?_
        refine aw_bipushN (pc := 129) X 12 d_Mo_close_129 (by decide) ?_
        refine aw_aload_nR (pc := 131) X d_Mo_close_131 (by rfl) ?_
        refine gm_16 (pc := 132) X hM (by omega) d_Mo_close_132 ?_
        refine aw_aload_nR (pc := 135) X d_Mo_close_135 (by rfl) ?_
        refine gm_11 (pc := 136) X hM (by omega) d_Mo_close_136 ?_
        refine aw_ialdN (pc := 139) X 430 1 (by omega) hM.a430 (by rfl) (by omega) (by decide) d_Mo_close_139 ?_
        refine sm_430 (pc := 140) X hM hf (by omega) (by omega) d_Mo_close_140 (fun w hM hf => ?_)
        refine aw_aload_nR (pc := 141) X d_Mo_close_141 (by rfl) ?_
        refine gm_17 (pc := 142) X hM (by omega) d_Mo_close_142 ?_
        refine aw_bipushN (pc := 145) X 12 d_Mo_close_145 (by decide) ?_
        refine aw_aload_nR (pc := 147) X d_Mo_close_147 (by rfl) ?_
        refine gm_17 (pc := 148) X hM (by omega) d_Mo_close_148 ?_
        refine aw_aload_nR (pc := 151) X d_Mo_close_151 (by rfl) ?_
        refine gm_11 (pc := 152) X hM (by omega) d_Mo_close_152 ?_
        try simp only [mu, au, reduceIte, Nat.reduceEqDiff]
        refine aw_ialdN (pc := 155) X 431 1 (by omega) hM.a431 (by rfl) (by omega) (by decide) d_Mo_close_155 ?_
        try simp only [mu, au, reduceIte, Nat.reduceEqDiff]
        refine sm_431 (pc := 156) X hM hf (by omega) (by omega) d_Mo_close_156 (fun w hM hf => ?_)
        refine aw_iconstN (pc := 157) X 0 d_Mo_close_157 (by decide) ?_
        refine aw_istore_n (pc := 158) X (lv' := [(1, _), (0, _)]) d_Mo_close_158 (by decide) (by rfl) ?_
        -- stop 159 lv=1:n,0:r st=
        refine K3 m1 e11 hm1 _ 0 (Nat.zero_add _) _ _ hM hf (fun a ha => (if_neg (by omega)).trans ((if_neg (by omega)).trans (k0 a (by omega)))) k1 k2 k3 k4 ?_ ?_ ?_
        · show aw_un (A1 430) 12 (A1 430 (m1 11)) = _
          rw [q30, k0 430 (by omega)]
        · show aw_un (A1 431) 12 (A1 431 (m1 11)) = _
          rw [k0 431 (by omega), e11]
        · rw [cpn_0]
          exact k0 432 (by omega)
      · omega
    | succ j ih =>
      intro i hi w1 A1 hM hf k0 k1 k2 k3 k4
      have q30 : A1 430 (m1 11) = A 430 o := by rw [k0 430 (by omega), e11]
      refine aw_iload_n (pc := 82) X d_Mo_close_82 (by rfl) ?_
      refine aw_aload_nR (pc := 83) X d_Mo_close_83 (by rfl) ?_
      refine gm_16 (pc := 84) X hM (by omega) d_Mo_close_84 ?_
      refine aw_aload_nR (pc := 87) X d_Mo_close_87 (by rfl) ?_
      refine gm_11 (pc := 88) X hM (by omega) d_Mo_close_88 ?_
      refine aw_ialdN (pc := 91) X 430 1 (by omega) hM.a430 (by rfl) (by omega) (by decide) d_Mo_close_91 ?_
      refine aw_icmp_geN (pc := 92) X (tgt := 125) d_Mo_close_92 (by rfl) (by omega) (by omega) (fun h92 => ?_) (fun h92 => ?_)
      -- br 92 lv=1:n,0:r st=
      · omega
      · refine aw_aload_nR (pc := 95) X d_Mo_close_95 (by rfl) ?_
        refine gm_15 (pc := 96) X hM (by omega) d_Mo_close_96 ?_
        refine aw_sipushN (pc := 99) X 1200 d_Mo_close_99 (by decide) ?_
        refine aw_iload_n (pc := 102) X d_Mo_close_102 (by rfl) ?_
        refine aw_iaddN (pc := 103) X d_Mo_close_103 ?_
        refine aw_aload_nR (pc := 104) X d_Mo_close_104 (by rfl) ?_
        refine gm_15 (pc := 105) X hM (by omega) d_Mo_close_105 ?_
        refine aw_bipushN (pc := 108) X 100 d_Mo_close_108 (by decide) ?_
        refine aw_aload_nR (pc := 110) X d_Mo_close_110 (by rfl) ?_
        refine gm_11 (pc := 111) X hM (by omega) d_Mo_close_111 ?_
        refine aw_imulN (pc := 114) X d_Mo_close_114 ?_
        refine aw_iload_n (pc := 115) X d_Mo_close_115 (by rfl) ?_
        refine aw_iaddN (pc := 116) X d_Mo_close_116 ?_
        refine aw_caldN (pc := 117) X 429 0 (by omega) hM.a429 (by rfl) (by omega) (by decide) d_Mo_close_117 ?_
        refine sm_429 (pc := 118) X hM hf (by omega) (by omega) (by first | omega | exact hM.b435 _ | exact hM.b420 _ | exact hM.b421 _ | exact hM.b424 _ | exact hM.b426 _ | exact hM.b429 _ | exact hM.b436 _ | exact hM.b438 _ | exact hM.b419 _ | exact hM.b441 _) d_Mo_close_118 (fun w hM hf => ?_)
        refine aw_iincN (pc := 119) X 1 (lv' := [(1, _), (0, _)]) d_Mo_close_119 (by rfl) (by decide) (by decide) (by rfl) ?_
        refine aw_goto (pc := 122) X (tgt := 82) d_Mo_close_122 (by rfl) ?_
        -- stop 82 lv=1:n,0:r st=
        refine ih (i + 1) (by omega) _ _ hM hf (fun a ha => (if_neg (by omega)).trans (k0 a ha)) k1 k2 k3 ?_
        show aw_un (A1 429) (1200 + i) (A1 429 (100 * m1 11 + i)) = _
        rw [e11, k4, cpn_out _ _ _ _ _ (j := 100 * o + i) (by omega), cpn_succ]
  have K1 : ∀ m1, m1 11 = o → (∀ k, k ≠ 11 → m1 k = m k) → ∀ (j i : Nat), i + j = 12 → ∀ w1 A1, hMo G w1 p m1 A1 V → fr 418 442 w w1 → (∀ a, a ≠ 426 → A1 a = A a) → A1 426 = aw_cpn (A 426) (A 426) (12 * o) 144 i → AW G E 2 nx 0 0 w1 12 [(1, .int (nI i)), (0, rf G 418)] [] := by
    intro m1 e11 hm1 j
    induction j with
    | zero =>
      intro i hi w1 A1 hM hf k0 k1
      have hi0 : i = 12 := by omega
      subst hi0
      refine aw_iload_n (pc := 12) X d_Mo_close_12 (by rfl) ?_
      refine aw_bipushN (pc := 13) X 12 d_Mo_close_13 (by decide) ?_
      refine aw_icmp_geN (pc := 15) X (tgt := 48) d_Mo_close_15 (by rfl) (by omega) (by omega) (fun h15 => ?_) (fun h15 => ?_)
      -- br 15 lv=1:n,0:r st=
      · refine aw_aload_nR (pc := 48) X d_Mo_close_48 (by rfl) ?_
        refine gm_13 (pc := 49) X hM (by omega) d_Mo_close_49 ?_
        refine aw_bipushN (pc := 52) X 12 d_Mo_close_52 (by decide) ?_
        refine aw_aload_nR (pc := 54) X d_Mo_close_54 (by rfl) ?_
        refine gm_13 (pc := 55) X hM (by omega) d_Mo_close_55 ?_
        refine aw_aload_nR (pc := 58) X d_Mo_close_58 (by rfl) ?_
        refine gm_11 (pc := 59) X hM (by omega) d_Mo_close_59 ?_
        refine aw_ialdN (pc := 62) X 427 1 (by omega) hM.a427 (by rfl) (by omega) (by decide) d_Mo_close_62 ?_
        refine sm_427 (pc := 63) X hM hf (by omega) (by omega) d_Mo_close_63 (fun w hM hf => ?_)
        refine aw_aload_nR (pc := 64) X d_Mo_close_64 (by rfl) ?_
        refine gm_14 (pc := 65) X hM (by omega) d_Mo_close_65 ?_
        refine aw_bipushN (pc := 68) X 12 d_Mo_close_68 (by decide) ?_
        refine aw_aload_nR (pc := 70) X d_Mo_close_70 (by rfl) ?_
        refine gm_14 (pc := 71) X hM (by omega) d_Mo_close_71 ?_
        refine aw_aload_nR (pc := 74) X d_Mo_close_74 (by rfl) ?_
        refine gm_11 (pc := 75) X hM (by omega) d_Mo_close_75 ?_
        try simp only [mu, au, reduceIte, Nat.reduceEqDiff]
        refine aw_ialdN (pc := 78) X 428 1 (by omega) hM.a428 (by rfl) (by omega) (by decide) d_Mo_close_78 ?_
        try simp only [mu, au, reduceIte, Nat.reduceEqDiff]
        refine sm_428 (pc := 79) X hM hf (by omega) (by omega) d_Mo_close_79 (fun w hM hf => ?_)
        refine aw_iconstN (pc := 80) X 0 d_Mo_close_80 (by decide) ?_
        refine aw_istore_n (pc := 81) X (lv' := [(1, _), (0, _)]) d_Mo_close_81 (by decide) (by rfl) ?_
        -- stop 82 lv=1:n,0:r st=
        refine K2 m1 e11 hm1 _ 0 (Nat.zero_add _) _ _ hM hf (fun a ha => (if_neg (by omega)).trans ((if_neg (by omega)).trans (k0 a (by omega)))) k1 ?_ ?_ ?_
        · show aw_un (A1 427) 12 (A1 427 (m1 11)) = _
          rw [k0 427 (by decide), e11]
        · show aw_un (A1 428) 12 (A1 428 (m1 11)) = _
          rw [k0 428 (by decide), e11]
        · rw [cpn_0]
          exact k0 429 (by decide)
      · omega
    | succ j ih =>
      intro i hi w1 A1 hM hf k0 k1
      refine aw_iload_n (pc := 12) X d_Mo_close_12 (by rfl) ?_
      refine aw_bipushN (pc := 13) X 12 d_Mo_close_13 (by decide) ?_
      refine aw_icmp_geN (pc := 15) X (tgt := 48) d_Mo_close_15 (by rfl) (by omega) (by omega) (fun h15 => ?_) (fun h15 => ?_)
      -- br 15 lv=1:n,0:r st=
      · omega
      · refine aw_aload_nR (pc := 18) X d_Mo_close_18 (by rfl) ?_
        refine gm_12 (pc := 19) X hM (by omega) d_Mo_close_19 ?_
        refine aw_sipushN (pc := 22) X 144 d_Mo_close_22 (by decide) ?_
        refine aw_iload_n (pc := 25) X d_Mo_close_25 (by rfl) ?_
        refine aw_iaddN (pc := 26) X d_Mo_close_26 ?_
        refine aw_aload_nR (pc := 27) X d_Mo_close_27 (by rfl) ?_
        refine gm_12 (pc := 28) X hM (by omega) d_Mo_close_28 ?_
        refine aw_bipushN (pc := 31) X 12 d_Mo_close_31 (by decide) ?_
        refine aw_aload_nR (pc := 33) X d_Mo_close_33 (by rfl) ?_
        refine gm_11 (pc := 34) X hM (by omega) d_Mo_close_34 ?_
        refine aw_imulN (pc := 37) X d_Mo_close_37 ?_
        refine aw_iload_n (pc := 38) X d_Mo_close_38 (by rfl) ?_
        refine aw_iaddN (pc := 39) X d_Mo_close_39 ?_
        refine aw_caldN (pc := 40) X 426 0 (by omega) hM.a426 (by rfl) (by omega) (by decide) d_Mo_close_40 ?_
        refine sm_426 (pc := 41) X hM hf (by omega) (by omega) (by first | omega | exact hM.b435 _ | exact hM.b420 _ | exact hM.b421 _ | exact hM.b424 _ | exact hM.b426 _ | exact hM.b429 _ | exact hM.b436 _ | exact hM.b438 _ | exact hM.b419 _ | exact hM.b441 _) d_Mo_close_41 (fun w hM hf => ?_)
        refine aw_iincN (pc := 42) X 1 (lv' := [(1, _), (0, _)]) d_Mo_close_42 (by rfl) (by decide) (by decide) (by rfl) ?_
        refine aw_goto (pc := 45) X (tgt := 12) d_Mo_close_45 (by rfl) ?_
        -- stop 12 lv=1:n,0:r st=
        refine ih (i + 1) (by omega) _ _ hM hf (fun a ha => (if_neg ha).trans (k0 a ha)) ?_
        show aw_un (A1 426) (144 + i) (A1 426 (12 * m1 11 + i)) = _
        rw [e11, k1, cpn_out _ _ _ _ _ (j := 12 * o + i) (by omega), cpn_succ]
  refine aw_aload_nR (pc := 0) X d_Mo_close_0 (by rfl) ?_
  refine aw_dup (pc := 1) X d_Mo_close_1 (by rfl) ?_
  refine gm_11 (pc := 2) X hM (by omega) d_Mo_close_2 ?_
  refine aw_iconstN (pc := 5) X 1 d_Mo_close_5 (by decide) ?_
  refine aw_isubN (pc := 6) X d_Mo_close_6 (by omega) ?_
  refine pm_11 (pc := 7) X hM hf (by omega) d_Mo_close_7 (fun w hM hf => ?_)
  refine aw_iconstN (pc := 10) X 0 d_Mo_close_10 (by decide) ?_
  refine aw_istore_n (pc := 11) X (lv' := [(1, _), (0, _)]) d_Mo_close_11 (by decide) (by rfl) ?_
  -- stop 12 lv=1:n,0:r st=
  exact K1 (mu m 11 (m 11 - 1)) (show m 11 - 1 = o by omega) (fun k h => if_neg h) 12 0 (by omega) _ _ hM hf (fun _ _ => rfl) (cpn_0 _ _ _ _).symm
end

