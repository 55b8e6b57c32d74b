/-! the reference's reckoning: two stacks; what they say of a text is what the reckoning by levels says -/
/-- the reference settles what stands: operators, numbers, whether it divided by 0 -/
def stl (t : Nat) : List Nat → List Int64 → Bool → List Nat × List Int64 × Bool
  | c :: o, b :: a :: r, z => if 2 < c ∧ t ≤ strS c then stl t o ((cmbS c a b).1 :: r) (z || (cmbS c a b).2) else (c :: o, b :: a :: r, z)
  | [], r, z => ([], r, z)
  | c :: o, [], z => (c :: o, [], z)
  | c :: o, [b], z => (c :: o, [b], z)
/-- the signs before a number that is whole -/
def whl : List Nat → Int64 → Nat → List Nat × Int64 × Nat
  | [], v, n => ([], v, n)
  | c :: o, v, n => if c = 1 then whl o (-v) (n - 1) else (c :: o, v, n)
def stt (S : List Nat) (k : Nat) : Nat := if 1 ≤ strS (S.getD k 0) then strS (S.getD k 0) else 1
def weak (s : Nat) : List Nat → Prop
  | [] => True
  | c :: _ => c = 2 ∨ (2 < c ∧ strS c < s)
theorem stl_weak {t s : Nat} {o : List Nat} (h : weak s o) (ht : s ≤ t) (r : List Int64) (z : Bool) : stl t o r z = (o, r, z) := by
  cases o with
  | nil => rw [stl]
  | cons c o =>
    match r with
    | [] => rw [stl]
    | [b] => rw [stl]
    | b :: a :: r =>
      rw [stl, if_neg]
      intro q
      rcases h with h | h <;> omega
theorem stl_pop {t c : Nat} (h1 : 2 < c) (h2 : t ≤ strS c) (o : List Nat) (a b : Int64) (r : List Int64) (z : Bool) : stl t (c :: o) (b :: a :: r) z = stl t o ((cmbS c a b).1 :: r) (z || (cmbS c a b).2) := by
  rw [stl, if_pos ⟨h1, h2⟩]
theorem whl_weak {s : Nat} {o : List Nat} (h : weak s o) (v : Int64) (n : Nat) : whl o v n = (o, v, n) := by
  cases o with
  | nil => rw [whl]
  | cons c o =>
    rw [whl, if_neg]
    rcases h with h | h <;> omega
theorem strS_le (c : Nat) : strS c ≤ 4 := by
  unfold strS
  split
  · omega
  split
  · omega
  split
  · omega
  split <;> omega
theorem strS_pos {c : Nat} (h : 1 ≤ strS c) : 2 < c := by
  by_cases h2 : c ≤ 2
  · rcases (by omega : c = 0 ∨ c = 1 ∨ c = 2) with rfl | rfl | rfl <;> simp [strS] at h
  · omega
section
variable {S : List Nat} {W : Prop} {Q : Bool → Nat → List Nat → List Int64 → Nat → Bool → Prop}
theorem ev_sy
    (h1 : ∀ k o r n z, k < S.length → isDig (S.getD k 0) = true → Q false (k + (numV 0 (S.drop k)).2) (whl o (numV 0 (S.drop k)).1 n).1 ((whl o (numV 0 (S.drop k)).1 n).2.1 :: r) (whl o (numV 0 (S.drop k)).1 n).2.2 z → Q true k o r n z)
    (h2 : ∀ k o r n z, k < S.length → n < 6 → (S.getD k 0 = 40 ∧ Q true (k + 1) (2 :: o) r (n + 1) z ∨ S.getD k 0 = 45 ∧ Q true (k + 1) (1 :: o) r (n + 1) z) → Q true k o r n z)
    (h3 : W → ∀ k o r n z, (S.length ≤ k ∨ k < S.length ∧ isDig (S.getD k 0) = false ∧ ((S.getD k 0 = 40 ∨ S.getD k 0 = 45) → 6 ≤ n)) → Q true k o r n z)
    (h4 : ∀ k o r n z o' v r' z', k < S.length → S.getD k 0 = 41 → stl 1 o r z = (2 :: o', v :: r', z') → Q false (k + 1) (whl o' v (n - 1)).1 ((whl o' v (n - 1)).2.1 :: r') (whl o' v (n - 1)).2.2 z' → Q false k o r n z)
    (h5 : ∀ k o r n z, k < S.length → 1 ≤ strS (S.getD k 0) → Q true (k + 1) (S.getD k 0 :: (stl (strS (S.getD k 0)) o r z).1) (stl (strS (S.getD k 0)) o r z).2.1 n (stl (strS (S.getD k 0)) o r z).2.2 → Q false k o r n z)
    (h6' : W → ∀ k o r n z, k < S.length → strS (S.getD k 0) = 0 → (S.getD k 0 = 41 → (stl 1 o r z).1 = []) → Q false k o r n z)
    (h7 : W → ∀ k o r n z, S.length ≤ k → (stl 1 o r z).1 ≠ [] → Q false k o r n z) :
    ∀ (f s dp : Nat) (l : Int64) (m : Bool) (x : ES) (v : Int64) (x' : ES), ev S f s dp l m x = some (v, x') → x.2.1 = false → ∀ (o : List Nat) (r : List Int64),
      (m = false → s = 5 → (x'.2.1 = true → W → Q true x.1 o r dp x.2.2) ∧ (x'.2.1 = false → (∀ o2 r2 z2, stl (stt S x'.1) o2 r2 z2 = stl (stt S x'.1) (whl o v dp).1 ((whl o v dp).2.1 :: r) x'.2.2 → Q false x'.1 o2 r2 (whl o v dp).2.2 z2) → Q true x.1 o r dp x.2.2)) ∧
      (m = false → 1 ≤ s → s ≤ 4 → weak s o → (x'.2.1 = true → W → Q true x.1 o r dp x.2.2) ∧ (x'.2.1 = false → strS (S.getD x'.1 0) < s ∧ ((∀ o2 r2 z2, stl (stt S x'.1) o2 r2 z2 = stl (stt S x'.1) o (v :: r) x'.2.2 → Q false x'.1 o2 r2 dp z2) → Q true x.1 o r dp x.2.2))) ∧
      (m = true → 1 ≤ s → s ≤ 4 → weak s o → strS (S.getD x.1 0) ≤ s → (x'.2.1 = true → W → ∀ o2 r2 z2, stl (stt S x.1) o2 r2 z2 = stl (stt S x.1) o (l :: r) x.2.2 → Q false x.1 o2 r2 dp z2) ∧ (x'.2.1 = false → strS (S.getD x'.1 0) < s ∧ ((∀ o2 r2 z2, stl (stt S x'.1) o2 r2 z2 = stl (stt S x'.1) o (v :: r) x'.2.2 → Q false x'.1 o2 r2 dp z2) → ∀ o2 r2 z2, stl (stt S x.1) o2 r2 z2 = stl (stt S x.1) o (l :: r) x.2.2 → Q false x.1 o2 r2 dp z2))) := by
  intro f
  induction f with
  | zero => intro s dp l m x v x' h; cases m <;> simp [ev] at h
  | succ f ih =>
    intro s dp l m x v x' h hx o r
    cases m with
    | true =>
      refine ⟨(fun e => by cases e), (fun e => by cases e), fun _ hs1 hs4 hw hle => ?_⟩
      rw [ev] at h
      split at h
      · rename_i hc
        obtain ⟨-, hlt, hst⟩ := hc
        obtain ⟨q, e1, e2⟩ := Option.bind_eq_some_iff.mp h
        generalize hcc : S.getD x.1 0 = c at *
        have hc2 : 2 < c := strS_pos (by omega)
        have hstt : stt S x.1 = s := by rw [stt, hcc, hst, if_pos hs1]
        have hwc : weak (s + 1) (c :: o) := Or.inr ⟨hc2, by omega⟩
        have push : Q true (x.1 + 1) (c :: o) (l :: r) dp x.2.2 → ∀ o2 r2 z2, stl (stt S x.1) o2 r2 z2 = stl (stt S x.1) o (l :: r) x.2.2 → Q false x.1 o2 r2 dp z2 := by
          intro hq o2 r2 z2 hs
          rw [hstt, stl_weak hw (Nat.le_refl _)] at hs
          refine h5 _ _ _ _ _ hlt (by rw [hcc]; omega) ?_
          rw [hcc, hst, hs]
          exact hq
        have inner : (q.2.2.1 = true → W → Q true (x.1 + 1) (c :: o) (l :: r) dp x.2.2) ∧ (q.2.2.1 = false → strS (S.getD q.2.1 0) < s + 1 ∧ ((∀ o2 r2 z2, stl (stt S q.2.1) o2 r2 z2 = stl (stt S q.2.1) (c :: o) (q.1 :: l :: r) q.2.2.2 → Q false q.2.1 o2 r2 dp z2) → Q true (x.1 + 1) (c :: o) (l :: r) dp x.2.2)) := by
          obtain ⟨i1, i2, -⟩ := ih _ _ _ _ _ _ _ e1 hx (c :: o) (l :: r)
          by_cases h5s : s = 4
          · obtain ⟨j1, j2⟩ := i1 rfl (by omega)
            refine ⟨j1, fun e => ⟨by have := strS_le (S.getD q.2.1 0); omega, fun hH => j2 e ?_⟩⟩
            rw [whl_weak hwc]
            exact hH
          · exact i2 rfl (by omega) (by omega) hwc
        obtain ⟨j1, j2⟩ := inner
        cases hq : q.2.2.1 with
        | true =>
          have hx' : x'.2.1 = true := by
            cases f with
            | zero => simp [ev] at e2
            | succ f =>
              rw [ev, if_neg (by rw [hq]; simp)] at e2
              cases e2
              exact hq
          refine ⟨fun _ hW => push (j1 hq hW), fun e => ?_⟩
          rw [hx'] at e
          cases e
        | false =>
          obtain ⟨k1, k2⟩ := j2 hq
          obtain ⟨-, -, i3⟩ := ih _ _ _ _ _ _ _ e2 hq o r
          obtain ⟨n1, n2⟩ := i3 rfl hs1 hs4 hw (show strS (S.getD q.2.1 0) ≤ s by omega)
          have hle2 : stt S q.2.1 ≤ strS c := by
            unfold stt
            split <;> omega
          have early : (∀ o2 r2 z2, stl (stt S q.2.1) o2 r2 z2 = stl (stt S q.2.1) o ((cmbS c l q.1).1 :: r) (q.2.2.2 || (cmbS c l q.1).2) → Q false q.2.1 o2 r2 dp z2) → Q true (x.1 + 1) (c :: o) (l :: r) dp x.2.2 := fun hH => k2 (fun o2 r2 z2 hs => hH o2 r2 z2 (by rw [hs, stl_pop hc2 hle2]))
          exact ⟨fun e hW => push (early (n1 e hW)), fun e => ⟨(n2 e).1, fun hH => push (early ((n2 e).2 hH))⟩⟩
      · rename_i hc
        cases h
        refine ⟨(fun e => by rw [hx] at e; cases e), fun _ => ⟨?_, fun hH => hH⟩⟩
        by_cases hlt : x.1 < S.length
        · have : ¬ strS (S.getD x.1 0) = s := fun e => hc ⟨hx, hlt, e⟩
          omega
        · rw [getD_ge (by omega)]
          have : strS 0 = 0 := rfl
          omega
    | false =>
      have hlt : ∀ c : Nat, c ≠ 0 → S.getD x.1 0 = c → x.1 < S.length := fun c hc h => by
        refine Nat.lt_of_not_le fun hge => hc ?_
        rw [← h, getD_ge hge]
      rw [ev] at h
      split at h
      · rename_i hs4
        refine ⟨(fun _ e => by omega), (fun _ hs1 _ hw => ?_), (fun e => by cases e)⟩
        obtain ⟨q, e1, e2⟩ := Option.bind_eq_some_iff.mp h
        have hw' : weak (s + 1) o := by
          cases o with
          | nil => trivial
          | cons c o => rcases hw with hw | hw; exact Or.inl hw; exact Or.inr ⟨hw.1, by omega⟩
        have inner : (q.2.2.1 = true → W → Q true x.1 o r dp x.2.2) ∧ (q.2.2.1 = false → strS (S.getD q.2.1 0) < s + 1 ∧ ((∀ o2 r2 z2, stl (stt S q.2.1) o2 r2 z2 = stl (stt S q.2.1) o (q.1 :: r) q.2.2.2 → Q false q.2.1 o2 r2 dp z2) → Q true x.1 o r dp x.2.2)) := by
          obtain ⟨i1, i2, -⟩ := ih _ _ _ _ _ _ _ e1 hx o r
          by_cases h5s : s = 4
          · obtain ⟨j1, j2⟩ := i1 rfl (by omega)
            refine ⟨j1, fun e => ⟨by have := strS_le (S.getD q.2.1 0); omega, fun hH => j2 e ?_⟩⟩
            rw [whl_weak hw']
            exact hH
          · exact i2 rfl (by omega) (by omega) hw'
        obtain ⟨j1, j2⟩ := inner
        cases hq : q.2.2.1 with
        | true =>
          have hx' : x'.2.1 = true := by
            cases f with
            | zero => simp [ev] at e2
            | succ f =>
              rw [ev, if_neg (by rw [hq]; simp)] at e2
              cases e2
              exact hq
          refine ⟨fun _ hW => j1 hq hW, fun e => ?_⟩
          rw [hx'] at e
          cases e
        | false =>
          obtain ⟨k1, k2⟩ := j2 hq
          obtain ⟨-, -, i3⟩ := ih _ _ _ _ _ _ _ e2 hq o r
          obtain ⟨n1, n2⟩ := i3 rfl hs1 hs4 hw (by omega)
          exact ⟨fun e hW => k2 (n1 e hW), fun e => ⟨(n2 e).1, fun hH => k2 ((n2 e).2 hH)⟩⟩
      · rename_i hs4
        refine ⟨(fun _ hs5 => ?_), (fun _ _ e => by omega), (fun e => by cases e)⟩
        have nodig : ∀ c, S.getD x.1 0 = c → c < 48 → isDig (S.getD x.1 0) = false := fun c e hc => by
          rw [e]
          exact decide_eq_false (by omega)
        split at h
        · rename_i h45
          have hl := hlt 45 (by decide) h45
          split at h
          · rename_i h6
            cases h
            exact ⟨fun _ hW => h3 hW _ _ _ _ _ (Or.inr ⟨hl, nodig _ h45 (by decide), fun _ => h6⟩), fun e => by cases e⟩
          · rename_i h6
            obtain ⟨q, e1, e2⟩ := Option.bind_eq_some_iff.mp h
            cases e2
            obtain ⟨i1, -⟩ := ih _ _ _ _ _ _ _ e1 hx (1 :: o) r
            obtain ⟨j1, j2⟩ := i1 rfl rfl
            refine ⟨fun e hW => h2 _ _ _ _ _ hl (by omega) (Or.inr ⟨h45, j1 e hW⟩), fun e hH => h2 _ _ _ _ _ hl (by omega) (Or.inr ⟨h45, j2 e ?_⟩)⟩
            rw [whl, if_pos rfl, Nat.add_sub_cancel]
            exact hH
        · rename_i h45
          split at h
          · rename_i h40
            have hl := hlt 40 (by decide) h40
            split at h
            · rename_i h6
              cases h
              exact ⟨fun _ hW => h3 hW _ _ _ _ _ (Or.inr ⟨hl, nodig _ h40 (by decide), fun _ => h6⟩), fun e => by cases e⟩
            · rename_i h6
              obtain ⟨q, e1, e2⟩ := Option.bind_eq_some_iff.mp h
              obtain ⟨-, i2, -⟩ := ih _ _ _ _ _ _ _ e1 hx (2 :: o) r
              obtain ⟨j1, j2⟩ := i2 rfl (by omega) (by omega) (Or.inl rfl)
              have push : Q true (x.1 + 1) (2 :: o) r (dp + 1) x.2.2 → Q true x.1 o r dp x.2.2 := fun hq => h2 _ _ _ _ _ hl (by omega) (Or.inl ⟨h40, hq⟩)
              cases hq : q.2.2.1 with
              | true =>
                have hx' : x'.2.1 = true := by
                  cases e2
                  split
                  · exact hq
                  · rfl
                refine ⟨fun _ hW => push (j1 hq hW), fun e => ?_⟩
                rw [hx'] at e
                cases e
              | false =>
                obtain ⟨k1, k2⟩ := j2 hq
                have hst1 : stt S q.2.1 = 1 := by rw [stt, if_neg (by omega)]
                have hstl : stl 1 (2 :: o) (q.1 :: r) q.2.2.2 = (2 :: o, q.1 :: r, q.2.2.2) := stl_weak (s := 1) (o := 2 :: o) (Or.inl rfl) (Nat.le_refl _) _ _
                by_cases h41 : S.getD q.2.1 0 = 41
                · rw [if_pos h41] at e2
                  cases e2
                  have hl2 : q.2.1 < S.length := by
                    refine Nat.lt_of_not_le fun hge => ?_
                    rw [getD_ge hge] at h41
                    cases h41
                  refine ⟨fun e => absurd e (by simp [hq]), fun _ hH => push (k2 fun o2 r2 z2 hs => ?_)⟩
                  rw [hst1, hstl] at hs
                  refine h4 _ _ _ _ _ _ _ _ _ hl2 h41 hs ?_
                  exact hH _ _ _ rfl
                · rw [if_neg h41] at e2
                  cases e2
                  refine ⟨fun _ hW => push (k2 fun o2 r2 z2 hs => ?_), fun e => by cases e⟩
                  rw [hst1, hstl] at hs
                  by_cases hl2 : q.2.1 < S.length
                  · exact h6' hW _ _ _ _ _ hl2 (by omega) (fun e => absurd e h41)
                  · exact h7 hW _ _ _ _ _ (by omega) (by rw [hs]; simp)
          · rename_i h40
            cases h
            cases hn : (numV 0 (S.drop x.1)).2 with
            | zero =>
              refine ⟨fun _ hW => h3 hW _ _ _ _ _ ?_, fun e => ?_⟩
              · by_cases hl : x.1 < S.length
                · refine Or.inr ⟨hl, ?_, fun e => by rcases e with e | e; exact absurd e h40; exact absurd e h45⟩
                  rw [List.drop_eq_getElem_cons hl, numV] at hn
                  split at hn
                  · cases hn
                  · rename_i hd
                    rw [List.getD_eq_getElem?_getD, List.getElem?_eq_getElem hl]
                    simpa using hd
                · exact Or.inl (by omega)
              · simp at e
            | succ n =>
              have hl : x.1 < S.length := by
                refine Nat.lt_of_not_le fun hge => ?_
                rw [List.drop_eq_nil_iff.mpr hge, numV] at hn
                cases hn
              have hd : isDig (S.getD x.1 0) = true := by
                rw [List.drop_eq_getElem_cons hl, numV] at hn
                split at hn
                · rename_i hd
                  rw [List.getD_eq_getElem?_getD, List.getElem?_eq_getElem hl]
                  exact hd
                · cases hn
              refine ⟨fun e => ?_, fun _ hH => h1 _ _ _ _ _ hl hd ?_⟩
              · simp [hx] at e
              · rw [hn]
                exact hH _ _ _ rfl
end
def nbo : List Nat → Nat
  | [] => 0
  | c :: o => (if 2 < c then 1 else 0) + nbo o
def nno : List Nat → Nat
  | [] => 0
  | c :: o => (if 2 < c then 0 else 1) + nno o
def opk (o : List Nat) : Prop := ∀ c, c ∈ o → c < 65536 ∧ (2 < c → 1 ≤ strS c)
def stkO (g : Nat → Nat) : List Nat → Prop
  | [] => True
  | c :: o => g o.length = c ∧ stkO g o
def stkV (V : Nat → Int64) : List Int64 → Prop
  | [] => True
  | v :: r => V r.length = v ∧ stkV V r
def rpS (m g : Nat → Nat) (V : Nat → Int64) (o : List Nat) (r : List Int64) (n : Nat) (z : Bool) : Prop := m 31 = o.length ∧ m 33 = r.length ∧ m 35 = n ∧ m 36 = bN z ∧ stkO g o ∧ stkV V r
def okS (b : Bool) (k : Nat) (o : List Nat) (r : List Int64) (n : Nat) : Prop := r.length = nbo o + (if b = true then 0 else 1) ∧ n = nno o ∧ o.length ≤ k ∧ r.length ≤ k ∧ opk o ∧ k ≤ 400
theorem stkO.up {g : Nat → Nat} {k x : Nat} : ∀ {o : List Nat}, stkO g o → o.length ≤ k → stkO (aw_un g k x) o
  | [], _, _ => trivial
  | c :: o, h, hk => ⟨by rw [aw_un_ne _ _ (by simp at hk; omega)]; exact h.1, stkO.up h.2 (by simp at hk; omega)⟩
theorem stkV.up {V V' : Nat → Int64} : ∀ {r : List Int64}, stkV V r → (∀ j, j < r.length → V' j = V j) → stkV V' r
  | [], _, _ => trivial
  | v :: r, h, hk => ⟨by rw [hk _ (by simp)]; exact h.1, stkV.up h.2 (fun j hj => hk j (by simp; omega))⟩
theorem stl_stop {t c : Nat} (h : ¬ (2 < c ∧ t ≤ strS c)) (o : List Nat) (r : List Int64) (z : Bool) : stl t (c :: o) r z = (c :: o, r, z) := by
  match r with
  | [] => rw [stl]
  | [b] => rw [stl]
  | b :: a :: r => rw [stl, if_neg h]
theorem stl_nil (t : Nat) (r : List Int64) (z : Bool) : stl t [] r z = ([], r, z) := by rw [stl]
theorem stl_ok (t : Nat) : ∀ (o : List Nat) (r : List Int64) (z : Bool), r.length = nbo o + 1 → (stl t o r z).2.1.length = nbo (stl t o r z).1 + 1 ∧ nno (stl t o r z).1 = nno o ∧ (stl t o r z).1.length ≤ o.length ∧ (stl t o r z).2.1.length ≤ r.length ∧ (opk o → opk (stl t o r z).1)
  | [], r, z, h => by rw [stl_nil]; exact ⟨h, rfl, Nat.le_refl _, Nat.le_refl _, fun h => h⟩
  | c :: o, r, z, h => by
    by_cases hc : 2 < c ∧ t ≤ strS c
    · rw [nbo, if_pos hc.1] at h
      match r, h with
      | [], h => simp at h
      | [b], h => simp at h; try omega
      | b :: a :: r, h =>
        rw [stl_pop hc.1 hc.2]
        obtain ⟨i1, i2, i3, i4, i5⟩ := stl_ok t o ((cmbS c a b).1 :: r) (z || (cmbS c a b).2) (by simp at h ⊢; omega)
        refine ⟨i1, ?_, ?_, ?_, fun hk => i5 (fun x hx => hk x (List.mem_cons_of_mem _ hx))⟩
        · rw [i2, nno, if_pos hc.1, Nat.zero_add]
        · simp; omega
        · simp at i4 ⊢; omega
    · rw [stl_stop hc]
      exact ⟨h, rfl, Nat.le_refl _, Nat.le_refl _, fun h => h⟩
theorem whl_ok : ∀ (o : List Nat) (v : Int64) (n : Nat), n = nno o → nbo (whl o v n).1 = nbo o ∧ (whl o v n).2.2 = nno (whl o v n).1 ∧ (whl o v n).1.length ≤ o.length ∧ (opk o → opk (whl o v n).1)
  | [], v, n, h => by rw [whl]; exact ⟨rfl, h, Nat.le_refl _, fun h => h⟩
  | c :: o, v, n, h => by
    rw [whl]
    split
    · rename_i hc
      subst hc
      rw [nno, if_neg (by omega)] at h
      obtain ⟨i1, i2, i3, i4⟩ := whl_ok o (-v) (n - 1) (by omega)
      refine ⟨?_, i2, by simp; omega, fun hk => i4 (fun x hx => hk x (List.mem_cons_of_mem _ hx))⟩
      rw [i1, nbo, if_neg (by omega), Nat.zero_add]
    · exact ⟨rfl, h, Nat.le_refl _, fun h => h⟩
theorem okS.wants {b : Bool} {k : Nat} {o : List Nat} {r : List Int64} {n : Nat} (h : okS b k o r n) : nno o = n := h.2.1.symm
theorem sl_drop1 {S : List Nat} {k : Nat} (h : k < S.length) : S.drop k = S.getD k 0 :: S.drop (k + 1) := by
  rw [List.drop_eq_getElem_cons h, List.getD_eq_getElem?_getD, List.getElem?_eq_getElem h]
  rfl
theorem cmbS_pos {c : Nat} (h : 1 ≤ strS c) : c = 42 ∨ c = 47 ∨ c = 37 ∨ c = 43 ∨ c = 45 ∨ c = 60 ∨ c = 62 ∨ c = 61 ∨ c = 38 ∨ c = 124 := by
  unfold strS at h
  split at h
  · omega
  split at h
  · omega
  split at h
  · omega
  split at h
  · omega
  · omega
section
variable {G : aw_G} {nx d : Nat} {w : Nat → va_E} {p : Int32} {m : Nat → Nat} {A : Nat → Nat → Nat} {V : Nat → Int64} {t : Def} {ar : List (List Nat)} {L : List Nat}
theorem c_Mo_strength {c : Nat} (hc : c < 65536) : AC G y_Mo_strength b_Mo_strength 1 (some .int) d false [.int (nI c)] nx w 0 0 (fun r w' nx' => nx' = nx ∧ w' = w ∧ r = some (.int (nI (strS c)))) := by
  refine AC.ofW (by decide) (Nat.le_of_ble_eq_true rfl) ?_
  intro E P hP Y X
  have X : aw_X G "RescanDeskModel" b_Mo_strength 1 (some .int) "strength" _ _ _ _ _ E := X
  refine AW.eql (lv' := [(0, _)]) (by rfl) ?_
  have Z4 : c = 42 ∨ c = 47 ∨ c = 37 → AW G E 1 nx 0 0 w 18 [(0, .int (nI c))] [] := fun h => by
    refine aw_iconstN (pc := 18) X 4 d_Mo_strength_18 (by decide) ?_
    refine aw_goto (pc := 19) X (tgt := 77) d_Mo_strength_19 (by rfl) ?_
    refine aw_iret Y X rfl d_Mo_strength_77 (by omega) (by omega) (hP _ _ _ ?_)
    -- ret 77 lv=0:n st=n
    exact ⟨rfl, rfl, by rw [strS, if_pos h]⟩
  have Z3 : ¬ (c = 42 ∨ c = 47 ∨ c = 37) → c = 43 ∨ c = 45 → AW G E 1 nx 0 0 w 34 [(0, .int (nI c))] [] := fun h4 h => by
    refine aw_iconstN (pc := 34) X 3 d_Mo_strength_34 (by decide) ?_
    refine aw_goto (pc := 35) X (tgt := 77) d_Mo_strength_35 (by rfl) ?_
    refine aw_iret Y X rfl d_Mo_strength_77 (by omega) (by omega) (hP _ _ _ ?_)
    -- ret 77 lv=0:n st=n
    exact ⟨rfl, rfl, by rw [strS, if_neg h4, if_pos h]⟩
  have Z2 : ¬ (c = 42 ∨ c = 47 ∨ c = 37) → ¬ (c = 43 ∨ c = 45) → c = 60 ∨ c = 62 ∨ c = 61 → AW G E 1 nx 0 0 w 56 [(0, .int (nI c))] [] := fun h4 h3 h => by
    refine aw_iconstN (pc := 56) X 2 d_Mo_strength_56 (by decide) ?_
    refine aw_goto (pc := 57) X (tgt := 77) d_Mo_strength_57 (by rfl) ?_
    refine aw_iret Y X rfl d_Mo_strength_77 (by omega) (by omega) (hP _ _ _ ?_)
    -- ret 77 lv=0:n st=n
    exact ⟨rfl, rfl, by rw [strS, if_neg h4, if_neg h3, if_pos h]⟩
  have Z1 : ¬ (c = 42 ∨ c = 47 ∨ c = 37) → ¬ (c = 43 ∨ c = 45) → ¬ (c = 60 ∨ c = 62 ∨ c = 61) → c = 38 ∨ c = 124 → AW G E 1 nx 0 0 w 72 [(0, .int (nI c))] [] := fun h4 h3 h2 h => by
    refine aw_iconstN (pc := 72) X 1 d_Mo_strength_72 (by decide) ?_
    refine aw_goto (pc := 73) X (tgt := 77) d_Mo_strength_73 (by rfl) ?_
    refine aw_iret Y X rfl d_Mo_strength_77 (by omega) (by omega) (hP _ _ _ ?_)
    -- ret 77 lv=0:n st=n
    exact ⟨rfl, rfl, by rw [strS, if_neg h4, if_neg h3, if_neg h2, if_pos h]⟩
  refine aw_iload_n (pc := 0) X d_Mo_strength_0 (by rfl) ?_
  refine aw_bipushN (pc := 1) X 42 d_Mo_strength_1 (by decide) ?_
  refine aw_icmp_eqN (pc := 3) X (tgt := 18) d_Mo_strength_3 (by rfl) (by omega) (by omega) (fun h3 => ?_) (fun h3 => ?_)
  -- br 3 lv=0:n st=
  · exact Z4 (by omega)
  · refine aw_iload_n (pc := 6) X d_Mo_strength_6 (by rfl) ?_
    refine aw_bipushN (pc := 7) X 47 d_Mo_strength_7 (by decide) ?_
    refine aw_icmp_eqN (pc := 9) X (tgt := 18) d_Mo_strength_9 (by rfl) (by omega) (by omega) (fun h9 => ?_) (fun h9 => ?_)
    -- br 9 lv=0:n st=
    · exact Z4 (by omega)
    · refine aw_iload_n (pc := 12) X d_Mo_strength_12 (by rfl) ?_
      refine aw_bipushN (pc := 13) X 37 d_Mo_strength_13 (by decide) ?_
      refine aw_icmp_neN (pc := 15) X (tgt := 22) d_Mo_strength_15 (by rfl) (by omega) (by omega) (fun h15 => ?_) (fun h15 => ?_)
      -- br 15 lv=0:n st=
      · refine aw_iload_n (pc := 22) X d_Mo_strength_22 (by rfl) ?_
        refine aw_bipushN (pc := 23) X 43 d_Mo_strength_23 (by decide) ?_
        refine aw_icmp_eqN (pc := 25) X (tgt := 34) d_Mo_strength_25 (by rfl) (by omega) (by omega) (fun h25 => ?_) (fun h25 => ?_)
        -- br 25 lv=0:n st=
        · exact Z3 (by omega) (by omega)
        · refine aw_iload_n (pc := 28) X d_Mo_strength_28 (by rfl) ?_
          refine aw_bipushN (pc := 29) X 45 d_Mo_strength_29 (by decide) ?_
          refine aw_icmp_neN (pc := 31) X (tgt := 38) d_Mo_strength_31 (by rfl) (by omega) (by omega) (fun h31 => ?_) (fun h31 => ?_)
          -- br 31 lv=0:n st=
          · refine aw_iload_n (pc := 38) X d_Mo_strength_38 (by rfl) ?_
            refine aw_bipushN (pc := 39) X 60 d_Mo_strength_39 (by decide) ?_
            refine aw_icmp_eqN (pc := 41) X (tgt := 56) d_Mo_strength_41 (by rfl) (by omega) (by omega) (fun h41 => ?_) (fun h41 => ?_)
            -- br 41 lv=0:n st=
            · exact Z2 (by omega) (by omega) (by omega)
            · refine aw_iload_n (pc := 44) X d_Mo_strength_44 (by rfl) ?_
              refine aw_bipushN (pc := 45) X 62 d_Mo_strength_45 (by decide) ?_
              refine aw_icmp_eqN (pc := 47) X (tgt := 56) d_Mo_strength_47 (by rfl) (by omega) (by omega) (fun h47 => ?_) (fun h47 => ?_)
              -- br 47 lv=0:n st=
              · exact Z2 (by omega) (by omega) (by omega)
              · refine aw_iload_n (pc := 50) X d_Mo_strength_50 (by rfl) ?_
                refine aw_bipushN (pc := 51) X 61 d_Mo_strength_51 (by decide) ?_
                refine aw_icmp_neN (pc := 53) X (tgt := 60) d_Mo_strength_53 (by rfl) (by omega) (by omega) (fun h53 => ?_) (fun h53 => ?_)
                -- br 53 lv=0:n st=
                · refine aw_iload_n (pc := 60) X d_Mo_strength_60 (by rfl) ?_
                  refine aw_bipushN (pc := 61) X 38 d_Mo_strength_61 (by decide) ?_
                  refine aw_icmp_eqN (pc := 63) X (tgt := 72) d_Mo_strength_63 (by rfl) (by omega) (by omega) (fun h63 => ?_) (fun h63 => ?_)
                  -- br 63 lv=0:n st=
                  · exact Z1 (by omega) (by omega) (by omega) (by omega)
                  · refine aw_iload_n (pc := 66) X d_Mo_strength_66 (by rfl) ?_
                    refine aw_bipushN (pc := 67) X 124 d_Mo_strength_67 (by decide) ?_
                    refine aw_icmp_neN (pc := 69) X (tgt := 76) d_Mo_strength_69 (by rfl) (by omega) (by omega) (fun h69 => ?_) (fun h69 => ?_)
                    -- br 69 lv=0:n st=
                    · refine aw_iconstN (pc := 76) X 0 d_Mo_strength_76 (by decide) ?_
                      refine aw_iret Y X rfl d_Mo_strength_77 (by omega) (by omega) (hP _ _ _ ?_)
                      -- ret 77 lv=0:n st=n
                      exact ⟨rfl, rfl, by rw [strS, if_neg (by omega), if_neg (by omega), if_neg (by omega), if_neg (by omega)]⟩
                    · exact Z1 (by omega) (by omega) (by omega) (by omega)
                · exact Z2 (by omega) (by omega) (by omega)
          · exact Z3 (by omega) (by omega)
      · exact Z4 (by omega)
theorem s_Mo_made {o : Nat} {a b : Int64} (hnx : 442 ≤ nx) (ho : 1 ≤ strS o) (hM : hMo G w p m A V) : AC G y_Mo_made b_Mo_made 6 (some .long) d false [rf G 418, .int (nI o), .long a, .long b] nx w 0 0 (mq G nx w (fun r p' m' A' V' => r = some (.long (cmbS o a b).1) ∧ p' = p ∧ A' = A ∧ V' = V ∧ m' = (if (cmbS o a b).2 = true then mu m 36 1 else m))) := by
  have hcs := cmbS_pos ho
  have hT : (nI o).toInt = (o : Int) := nI_toInt (by omega)
  refine AC.ofW (by decide) (Nat.le_of_ble_eq_true rfl) ?_
  intro E P hP Y X
  have X : aw_X G "RescanDeskModel" b_Mo_made 6 (some .long) "made" _ _ _ _ _ E := X
  refine AW.eql (lv' := [(0, _), (1, _), (2, _), (4, _)]) (by rfl) ?_
  have hf : fr 418 442 w w := fr.refl _ _ _
  have S : ((o = 47 ∨ o = 37) → ¬ b = 0) → AW G E 6 nx 0 0 w 26 [(0, rf G 418), (1, .int (nI o)), (2, .long a), (4, .long b)] [] := by
    intro hne
    refine aw_iload_n (pc := 26) X d_Mo_made_26 (by rfl) ?_
    -- tableswitch 27 lv=0:r,1:n,2:l,4:l st=n
    rcases hcs with h | h | h | h | h | h | h | h | h | h
    · refine aw_tableIn (pc := 27) X (off := 117) (tgt := 144) d_Mo_made_27 (by rw [hT]; omega) (by rw [hT]; omega) (by rw [hT, h]; rfl) (by rfl) ?_
      refine aw_lload_n (pc := 144) X d_Mo_made_144 (by rfl) ?_
      refine aw_lload (pc := 145) X d_Mo_made_145 (by rfl) ?_
      refine aw_lmul (pc := 147) X d_Mo_made_147 ?_
      refine aw_lret Y X rfl d_Mo_made_148 (by omega) (by omega) (hP _ _ _ ?_)
      -- ret 148 lv=0:r,1:n,2:l,4:l st=l
      subst h
      exact ⟨rfl, hf, _, _, _, _, hM, rfl, rfl, rfl, rfl, rfl⟩
    · have hb := hne (Or.inl h)
      refine aw_tableIn (pc := 27) X (off := 122) (tgt := 149) d_Mo_made_27 (by rw [hT]; omega) (by rw [hT]; omega) (by rw [hT, h]; rfl) (by rfl) ?_
      refine aw_lload_n (pc := 149) X d_Mo_made_149 (by rfl) ?_
      refine aw_lload (pc := 150) X d_Mo_made_150 (by rfl) ?_
      refine aw_ldiv (pc := 152) X d_Mo_made_152 hb ?_
      refine aw_lret Y X rfl d_Mo_made_153 (by omega) (by omega) (hP _ _ _ ?_)
      -- ret 153 lv=0:r,1:n,2:l,4:l st=l
      subst h
      have hcm : cmbS 47 a b = (a / b, false) := by simp [cmbS, hb]
      rw [hcm]
      exact ⟨rfl, hf, _, _, _, _, hM, rfl, rfl, rfl, rfl, rfl⟩
    · have hb := hne (Or.inr h)
      refine aw_tableIn (pc := 27) X (off := 127) (tgt := 154) d_Mo_made_27 (by rw [hT]; omega) (by rw [hT]; omega) (by rw [hT, h]; rfl) (by rfl) ?_
      refine aw_lload_n (pc := 154) X d_Mo_made_154 (by rfl) ?_
      refine aw_lload (pc := 155) X d_Mo_made_155 (by rfl) ?_
      refine aw_lrem (pc := 157) X d_Mo_made_157 hb ?_
      refine aw_lret Y X rfl d_Mo_made_158 (by omega) (by omega) (hP _ _ _ ?_)
      -- ret 158 lv=0:r,1:n,2:l,4:l st=l
      subst h
      have hcm : cmbS 37 a b = (a - a / b * b, false) := by simp [cmbS, hb]
      rw [hcm]
      exact ⟨rfl, hf, _, _, _, _, hM, rfl, rfl, rfl, rfl, rfl⟩
    · refine aw_tableIn (pc := 27) X (off := 132) (tgt := 159) d_Mo_made_27 (by rw [hT]; omega) (by rw [hT]; omega) (by rw [hT, h]; rfl) (by rfl) ?_
      refine aw_lload_n (pc := 159) X d_Mo_made_159 (by rfl) ?_
      refine aw_lload (pc := 160) X d_Mo_made_160 (by rfl) ?_
      refine aw_ladd (pc := 162) X d_Mo_made_162 ?_
      refine aw_lret Y X rfl d_Mo_made_163 (by omega) (by omega) (hP _ _ _ ?_)
      -- ret 163 lv=0:r,1:n,2:l,4:l st=l
      subst h
      exact ⟨rfl, hf, _, _, _, _, hM, rfl, rfl, rfl, rfl, rfl⟩
    · refine aw_tableIn (pc := 27) X (off := 137) (tgt := 164) d_Mo_made_27 (by rw [hT]; omega) (by rw [hT]; omega) (by rw [hT, h]; rfl) (by rfl) ?_
      refine aw_lload_n (pc := 164) X d_Mo_made_164 (by rfl) ?_
      refine aw_lload (pc := 165) X d_Mo_made_165 (by rfl) ?_
      refine aw_lsub (pc := 167) X d_Mo_made_167 ?_
      refine aw_lret Y X rfl d_Mo_made_168 (by omega) (by omega) (hP _ _ _ ?_)
      -- ret 168 lv=0:r,1:n,2:l,4:l st=l
      subst h
      exact ⟨rfl, hf, _, _, _, _, hM, rfl, rfl, rfl, rfl, rfl⟩
    · refine aw_tableIn (pc := 27) X (off := 142) (tgt := 169) d_Mo_made_27 (by rw [hT]; omega) (by rw [hT]; omega) (by rw [hT, h]; rfl) (by rfl) ?_
      subst h
      refine aw_lload_n (pc := 169) X d_Mo_made_169 (by rfl) ?_
      refine aw_lload (pc := 170) X d_Mo_made_170 (by rfl) ?_
      refine aw_lcmp (pc := 172) X d_Mo_made_172 ?_
      refine aw_if_ge (pc := 173) X (tgt := 180) d_Mo_made_173 (by rfl) (fun h173 => ?_) (fun h173 => ?_)
      -- br 173 lv=0:r,1:n,2:l,4:l st=
      · have hc : ¬ a < b := fun q => absurd ((lg_lt0 _ _).mpr q) (Int32.not_lt.mpr h173)
        have hcm : cmbS 60 a b = (0, false) := by simp [cmbS, hc]
        refine aw_lconst (pc := 180) X (v := 0) d_Mo_made_180 (by decide) ?_
        refine aw_lret Y X rfl d_Mo_made_181 (by omega) (by omega) (hP _ _ _ ?_)
        -- ret 181 lv=0:r,1:n,2:l,4:l st=l
        rw [hcm]
        exact ⟨rfl, hf, _, _, _, _, hM, rfl, rfl, rfl, rfl, rfl⟩
      · have hc : a < b := (lg_lt0 _ _).mp (Int32.not_le.mp h173)
        have hcm : cmbS 60 a b = (1, false) := by simp [cmbS, hc]
        refine aw_lconst (pc := 176) X (v := 1) d_Mo_made_176 (by decide) ?_
        refine aw_goto (pc := 177) X (tgt := 181) d_Mo_made_177 (by rfl) ?_
        refine aw_lret Y X rfl d_Mo_made_181 (by omega) (by omega) (hP _ _ _ ?_)
        -- ret 181 lv=0:r,1:n,2:l,4:l st=l
        rw [hcm]
        exact ⟨rfl, hf, _, _, _, _, hM, rfl, rfl, rfl, rfl, rfl⟩
    · refine aw_tableIn (pc := 27) X (off := 155) (tgt := 182) d_Mo_made_27 (by rw [hT]; omega) (by rw [hT]; omega) (by rw [hT, h]; rfl) (by rfl) ?_
      subst h
      refine aw_lload_n (pc := 182) X d_Mo_made_182 (by rfl) ?_
      refine aw_lload (pc := 183) X d_Mo_made_183 (by rfl) ?_
      refine aw_lcmp (pc := 185) X d_Mo_made_185 ?_
      refine aw_if_le (pc := 186) X (tgt := 193) d_Mo_made_186 (by rfl) (fun h186 => ?_) (fun h186 => ?_)
      -- br 186 lv=0:r,1:n,2:l,4:l st=
      · have hc : ¬ b < a := fun q => absurd ((lg_gt0 _ _).mpr q) (Int32.not_lt.mpr h186)
        have hcm : cmbS 62 a b = (0, false) := by simp [cmbS, hc]
        refine aw_lconst (pc := 193) X (v := 0) d_Mo_made_193 (by decide) ?_
        refine aw_lret Y X rfl d_Mo_made_194 (by omega) (by omega) (hP _ _ _ ?_)
        -- ret 194 lv=0:r,1:n,2:l,4:l st=l
        rw [hcm]
        exact ⟨rfl, hf, _, _, _, _, hM, rfl, rfl, rfl, rfl, rfl⟩
      · have hc : b < a := (lg_gt0 _ _).mp (Int32.not_le.mp h186)
        have hcm : cmbS 62 a b = (1, false) := by simp [cmbS, hc]
        refine aw_lconst (pc := 189) X (v := 1) d_Mo_made_189 (by decide) ?_
        refine aw_goto (pc := 190) X (tgt := 194) d_Mo_made_190 (by rfl) ?_
        refine aw_lret Y X rfl d_Mo_made_194 (by omega) (by omega) (hP _ _ _ ?_)
        -- ret 194 lv=0:r,1:n,2:l,4:l st=l
        rw [hcm]
        exact ⟨rfl, hf, _, _, _, _, hM, rfl, rfl, rfl, rfl, rfl⟩
    · refine aw_tableIn (pc := 27) X (off := 168) (tgt := 195) d_Mo_made_27 (by rw [hT]; omega) (by rw [hT]; omega) (by rw [hT, h]; rfl) (by rfl) ?_
      subst h
      refine aw_lload_n (pc := 195) X d_Mo_made_195 (by rfl) ?_
      refine aw_lload (pc := 196) X d_Mo_made_196 (by rfl) ?_
      refine aw_lcmp (pc := 198) X d_Mo_made_198 ?_
      refine aw_if_ne (pc := 199) X (tgt := 206) d_Mo_made_199 (by rfl) (fun h199 => ?_) (fun h199 => ?_)
      -- br 199 lv=0:r,1:n,2:l,4:l st=
      · have hc : ¬ a = b := fun q => h199 ((lg_eq0 _ _).mpr q)
        have hcm : cmbS 61 a b = (0, false) := by simp [cmbS, hc]
        refine aw_lconst (pc := 206) X (v := 0) d_Mo_made_206 (by decide) ?_
        refine aw_lret Y X rfl d_Mo_made_207 (by omega) (by omega) (hP _ _ _ ?_)
        -- ret 207 lv=0:r,1:n,2:l,4:l st=l
        rw [hcm]
        exact ⟨rfl, hf, _, _, _, _, hM, rfl, rfl, rfl, rfl, rfl⟩
      · have hc : a = b := (lg_eq0 _ _).mp h199
        have hcm : cmbS 61 a b = (1, false) := by simp [cmbS, hc]
        refine aw_lconst (pc := 202) X (v := 1) d_Mo_made_202 (by decide) ?_
        refine aw_goto (pc := 203) X (tgt := 207) d_Mo_made_203 (by rfl) ?_
        refine aw_lret Y X rfl d_Mo_made_207 (by omega) (by omega) (hP _ _ _ ?_)
        -- ret 207 lv=0:r,1:n,2:l,4:l st=l
        rw [hcm]
        exact ⟨rfl, hf, _, _, _, _, hM, rfl, rfl, rfl, rfl, rfl⟩
    · refine aw_tableIn (pc := 27) X (off := 181) (tgt := 208) d_Mo_made_27 (by rw [hT]; omega) (by rw [hT]; omega) (by rw [hT, h]; rfl) (by rfl) ?_
      subst h
      have Z : ¬ (a ≠ 0 ∧ b ≠ 0) → AW G E 6 nx 0 0 w 225 [(0, rf G 418), (1, .int (nI 38)), (2, .long a), (4, .long b)] [] := by
        intro hc
        have hcm : cmbS 38 a b = (0, false) := by rw [cmbS, if_pos rfl, if_neg hc]
        refine aw_lconst (pc := 225) X (v := 0) d_Mo_made_225 (by decide) ?_
        refine aw_lret Y X rfl d_Mo_made_226 (by omega) (by omega) (hP _ _ _ ?_)
        -- ret 226 lv=0:r,1:n,2:l,4:l st=l
        rw [hcm]
        exact ⟨rfl, hf, _, _, _, _, hM, rfl, rfl, rfl, rfl, rfl⟩
      refine aw_lload_n (pc := 208) X d_Mo_made_208 (by rfl) ?_
      refine aw_lconst (pc := 209) X (v := 0) d_Mo_made_209 (by decide) ?_
      refine aw_lcmp (pc := 210) X d_Mo_made_210 ?_
      refine aw_if_eq (pc := 211) X (tgt := 225) d_Mo_made_211 (by rfl) (fun h211 => ?_) (fun h211 => ?_)
      -- br 211 lv=0:r,1:n,2:l,4:l st=
      · exact Z (fun q => q.1 ((lg_eq0 _ _).mp h211))
      · refine aw_lload (pc := 214) X d_Mo_made_214 (by rfl) ?_
        refine aw_lconst (pc := 216) X (v := 0) d_Mo_made_216 (by decide) ?_
        refine aw_lcmp (pc := 217) X d_Mo_made_217 ?_
        refine aw_if_eq (pc := 218) X (tgt := 225) d_Mo_made_218 (by rfl) (fun h218 => ?_) (fun h218 => ?_)
        -- br 218 lv=0:r,1:n,2:l,4:l st=
        · exact Z (fun q => q.2 ((lg_eq0 _ _).mp h218))
        · have hcm : cmbS 38 a b = (1, false) := by rw [cmbS, if_pos rfl, if_pos ⟨fun q => h211 ((lg_eq0 _ _).mpr q), fun q => h218 ((lg_eq0 _ _).mpr q)⟩]
          refine aw_lconst (pc := 221) X (v := 1) d_Mo_made_221 (by decide) ?_
          refine aw_goto (pc := 222) X (tgt := 226) d_Mo_made_222 (by rfl) ?_
          refine aw_lret Y X rfl d_Mo_made_226 (by omega) (by omega) (hP _ _ _ ?_)
          -- ret 226 lv=0:r,1:n,2:l,4:l st=l
          rw [hcm]
          exact ⟨rfl, hf, _, _, _, _, hM, rfl, rfl, rfl, rfl, rfl⟩
    · refine aw_tableOut (pc := 27) X (tgt := 227) d_Mo_made_27 (Or.inr (by rw [hT]; omega)) (by rfl) ?_
      subst h
      have Z : (a ≠ 0 ∨ b ≠ 0) → AW G E 6 nx 0 0 w 240 [(0, rf G 418), (1, .int (nI 124)), (2, .long a), (4, .long b)] [] := by
        intro hc
        have hcm : cmbS 124 a b = (1, false) := by rw [cmbS, if_neg (by decide), if_pos rfl, if_pos hc]
        refine aw_lconst (pc := 240) X (v := 1) d_Mo_made_240 (by decide) ?_
        refine aw_goto (pc := 241) X (tgt := 245) d_Mo_made_241 (by rfl) ?_
        refine aw_lret Y X rfl d_Mo_made_245 (by omega) (by omega) (hP _ _ _ ?_)
        -- ret 245 lv=0:r,1:n,2:l,4:l st=l
        rw [hcm]
        exact ⟨rfl, hf, _, _, _, _, hM, rfl, rfl, rfl, rfl, rfl⟩
      refine aw_lload_n (pc := 227) X d_Mo_made_227 (by rfl) ?_
      refine aw_lconst (pc := 228) X (v := 0) d_Mo_made_228 (by decide) ?_
      refine aw_lcmp (pc := 229) X d_Mo_made_229 ?_
      refine aw_if_ne (pc := 230) X (tgt := 240) d_Mo_made_230 (by rfl) (fun h230 => ?_) (fun h230 => ?_)
      -- br 230 lv=0:r,1:n,2:l,4:l st=
      · exact Z (Or.inl (fun q => h230 ((lg_eq0 _ _).mpr q)))
      · refine aw_lload (pc := 233) X d_Mo_made_233 (by rfl) ?_
        refine aw_lconst (pc := 235) X (v := 0) d_Mo_made_235 (by decide) ?_
        refine aw_lcmp (pc := 236) X d_Mo_made_236 ?_
        refine aw_if_eq (pc := 237) X (tgt := 244) d_Mo_made_237 (by rfl) (fun h237 => ?_) (fun h237 => ?_)
        -- br 237 lv=0:r,1:n,2:l,4:l st=
        · have hcm : cmbS 124 a b = (0, false) := by rw [cmbS, if_neg (by decide), if_pos rfl, if_neg (fun q => by rcases q with q | q; exact q ((lg_eq0 _ _).mp h230); exact q ((lg_eq0 _ _).mp h237))]
          refine aw_lconst (pc := 244) X (v := 0) d_Mo_made_244 (by decide) ?_
          refine aw_lret Y X rfl d_Mo_made_245 (by omega) (by omega) (hP _ _ _ ?_)
          -- ret 245 lv=0:r,1:n,2:l,4:l st=l
          rw [hcm]
          exact ⟨rfl, hf, _, _, _, _, hM, rfl, rfl, rfl, rfl, rfl⟩
        · exact Z (Or.inr (fun q => h237 ((lg_eq0 _ _).mpr q)))
  have D : o = 47 ∨ o = 37 → AW G E 6 nx 0 0 w 12 [(0, rf G 418), (1, .int (nI o)), (2, .long a), (4, .long b)] [] := by
    intro hd
    refine aw_lload (pc := 12) X d_Mo_made_12 (by rfl) ?_
    refine aw_lconst (pc := 14) X (v := 0) d_Mo_made_14 (by decide) ?_
    refine aw_lcmp (pc := 15) X d_Mo_made_15 ?_
    refine aw_if_ne (pc := 16) X (tgt := 26) d_Mo_made_16 (by rfl) (fun h16 => ?_) (fun h16 => ?_)
    -- br 16 lv=0:r,1:n,2:l,4:l st=
    · exact S (fun _ q => h16 ((lg_eq0 _ _).mpr q))
    · have hb : b = 0 := (lg_eq0 _ _).mp h16
      have hcm : cmbS o a b = (0, true) := by rcases hd with rfl | rfl <;> simp [cmbS, hb]
      refine aw_aload_nR (pc := 19) X d_Mo_made_19 (by rfl) ?_
      refine aw_iconstN (pc := 20) X 1 d_Mo_made_20 (by decide) ?_
      refine pm_36 (pc := 21) X hM hf (by omega) (by omega) d_Mo_made_21 (fun w hM hf => ?_)
      refine aw_lconst (pc := 24) X (v := 0) d_Mo_made_24 (by decide) ?_
      refine aw_lret Y X rfl d_Mo_made_25 (by omega) (by omega) (hP _ _ _ ?_)
      -- ret 25 lv=0:r,1:n,2:l,4:l st=l
      rw [hcm]
      exact ⟨rfl, hf, _, _, _, _, hM, rfl, rfl, rfl, rfl, rfl⟩
  refine aw_iload_n (pc := 0) X d_Mo_made_0 (by rfl) ?_
  refine aw_bipushN (pc := 1) X 47 d_Mo_made_1 (by decide) ?_
  refine aw_icmp_eqN (pc := 3) X (tgt := 12) d_Mo_made_3 (by rfl) (by omega) (by omega) (fun h3 => ?_) (fun h3 => ?_)
  -- br 3 lv=0:r,1:n,2:l,4:l st=
  · exact D (Or.inl h3)
  · refine aw_iload_n (pc := 6) X d_Mo_made_6 (by rfl) ?_
    refine aw_bipushN (pc := 7) X 37 d_Mo_made_7 (by decide) ?_
    refine aw_icmp_neN (pc := 9) X (tgt := 26) d_Mo_made_9 (by rfl) (by omega) (by omega) (fun h9 => ?_) (fun h9 => ?_)
    -- br 9 lv=0:r,1:n,2:l,4:l st=
    · exact S (fun q => by omega)
    · exact D (Or.inr h9)
theorem s_Mo_settle {k n : Nat} {o : List Nat} {r : List Int64} {z : Bool} (hnx : 442 ≤ nx) (hd : 1 ≤ d) (hk : k < 100) (hr : r.length = nbo o + 1) (ho : opk o) (hl1 : o.length ≤ 400) (hl2 : r.length ≤ 400) (hS : rpS m (A 439) V o r n z) (hM : hMo G w p m A V) : AC G y_Mo_settle b_Mo_settle 2 none d false [rf G 418, .int (nI k)] nx w 0 0 (mq G nx w (fun x p' m' A' V' => x = none ∧ p' = p ∧ A' = A ∧ (∀ j, j ≠ 31 → j ≠ 33 → j ≠ 36 → m' j = m j) ∧ rpS m' (A 439) V' (stl k o r z).1 (stl k o r z).2.1 n (stl k o r z).2.2)) := by
  generalize hF : stl k o r z = Fn
  refine AC.ofW (by decide) (Nat.le_of_ble_eq_true rfl) ?_
  intro E P hP Y X
  have X : aw_X G "RescanDeskModel" b_Mo_settle 2 none "settle" _ _ _ _ _ E := X
  refine AW.eql (lv' := [(0, _), (1, _)]) (by rfl) ?_
  have hf : fr 418 442 w w := fr.refl _ _ _
  have K : ∀ (o : List Nat) (r : List Int64) (z : Bool) w1 m1 V1, r.length = nbo o + 1 → opk o → o.length ≤ 400 → r.length ≤ 400 → hMo G w1 p m1 A V1 → fr 418 442 w w1 → (∀ j, j ≠ 31 → j ≠ 33 → j ≠ 36 → m1 j = m j) → rpS m1 (A 439) V1 o r n z → stl k o r z = Fn → AW G E 2 nx 0 0 w1 0 [(0, rf G 418), (1, .int (nI k))] [] := by
    intro o
    induction o with
    | nil =>
      intro r z w1 m1 V1 hr ho hl1 hl2 hM hf hm1 hS hF
      obtain ⟨s1, s2, s3, s4, s5, s6⟩ := id hS
      rw [stl_nil] at hF
      subst hF
      have s1 : m1 31 = 0 := s1
      refine aw_aload_nR (pc := 0) X d_Mo_settle_0 (by rfl) ?_
      refine gm_31 (pc := 1) X hM (by omega) d_Mo_settle_1 ?_
      refine aw_if_leN (pc := 4) X (tgt := 107) d_Mo_settle_4 (by rfl) (by omega) (fun h4 => ?_) (fun h4 => ?_)
      -- br 4 lv=0:r,1:n st=
      · refine aw_vret Y X rfl d_Mo_settle_107 (by omega) (by omega) (hP _ _ _ ?_)
        -- ret 107 lv=0:r,1:n st=
        exact ⟨rfl, hf, _, _, _, _, hM, rfl, rfl, rfl, hm1, hS⟩
      · omega
    | cons c o ih =>
      intro r z w1 m1 V1 hr ho hl1 hl2 hM hf hm1 hS hF
      obtain ⟨s1, s2, s3, s4, s5, s6⟩ := id hS
      have s1 : m1 31 = o.length + 1 := s1
      have hl1 : o.length + 1 ≤ 400 := hl1
      have hc : A 439 (m1 31 - 1) = c := by rw [s1]; exact s5.1
      obtain ⟨hcb, hcp⟩ := ho c List.mem_cons_self
      have hcb2 : A 439 (m1 31 - 1) < 65536 := by rw [hc]; exact hcb
      have St : ¬ (2 < c ∧ k ≤ strS c) → AW G E 2 nx 0 0 w1 107 [(0, rf G 418), (1, .int (nI k))] [] := by
        intro hn
        rw [stl_stop hn] at hF
        subst hF
        refine aw_vret Y X rfl d_Mo_settle_107 (by omega) (by omega) (hP _ _ _ ?_)
        -- ret 107 lv=0:r,1:n st=
        exact ⟨rfl, hf, _, _, _, _, hM, rfl, rfl, rfl, hm1, hS⟩
      refine aw_aload_nR (pc := 0) X d_Mo_settle_0 (by rfl) ?_
      refine gm_31 (pc := 1) X hM (by omega) d_Mo_settle_1 ?_
      refine aw_if_leN (pc := 4) X (tgt := 107) d_Mo_settle_4 (by rfl) (by omega) (fun h4 => ?_) (fun h4 => ?_)
      -- br 4 lv=0:r,1:n st=
      · omega
      · refine aw_aload_nR (pc := 7) X d_Mo_settle_7 (by rfl) ?_
        refine gm_32 (pc := 8) X hM (by omega) d_Mo_settle_8 ?_
        refine aw_aload_nR (pc := 11) X d_Mo_settle_11 (by rfl) ?_
        refine gm_31 (pc := 12) X hM (by omega) d_Mo_settle_12 ?_
        refine aw_iconstN (pc := 15) X 1 d_Mo_settle_15 (by decide) ?_
        refine aw_isubN (pc := 16) X d_Mo_settle_16 (by omega) ?_
        refine aw_ialdN (pc := 17) X 439 1 (by omega) hM.a439 (by rfl) (by omega) (by decide) d_Mo_settle_17 ?_
        refine aw_iconstN (pc := 18) X 2 d_Mo_settle_18 (by decide) ?_
        refine aw_icmp_leN (pc := 19) X (tgt := 107) d_Mo_settle_19 (by rfl) (by omega) (by omega) (fun h19 => ?_) (fun h19 => ?_)
        -- br 19 lv=0:r,1:n st=
        · exact St (by omega)
        · refine aw_aload_nR (pc := 22) X d_Mo_settle_22 (by rfl) ?_
          refine gm_32 (pc := 23) X hM (by omega) d_Mo_settle_23 ?_
          refine aw_aload_nR (pc := 26) X d_Mo_settle_26 (by rfl) ?_
          refine gm_31 (pc := 27) X hM (by omega) d_Mo_settle_27 ?_
          refine aw_iconstN (pc := 30) X 1 d_Mo_settle_30 (by decide) ?_
          refine aw_isubN (pc := 31) X d_Mo_settle_31 (by omega) ?_
          refine aw_ialdN (pc := 32) X 439 1 (by omega) hM.a439 (by rfl) (by omega) (by decide) d_Mo_settle_32 ?_
          -- invokestatic 33 lv=0:r,1:n st=n
          refine aw_callS (pc := 33) X (c_Mo_strength (d := 0) hcb2) q_Mo_strength k_1123 k_1124 d_Mo_settle_33 (by omega) (Nat.le_of_ble_eq_true rfl) ⟨by omega, by omega⟩ (fun h => by cases h) (fun r w nx hp => ?_)
          obtain ⟨rfl, rfl, rfl⟩ := hp
          have hsl := strS_le (A 439 (m1 31 - 1))
          refine aw_iload_n (pc := 36) X d_Mo_settle_36 (by rfl) ?_
          refine aw_icmp_ltN (pc := 37) X (tgt := 107) d_Mo_settle_37 (by rfl) (by omega) (by omega) (fun h37 => ?_) (fun h37 => ?_)
          -- br 37 lv=0:r,1:n st=
          · rw [hc] at h37
            exact St (by omega)
          · rw [hc] at h37 h19
            have hc2 : 2 < c := by omega
            rw [nbo, if_pos hc2] at hr
            match r, hr, hl2, hS, s2, s6, hF with
            | [], hr, _, _, _, _, _ => simp at hr
            | [b], hr, _, _, _, _, _ => simp at hr; try omega
            | b :: a :: r, hr, hl2, hS, s2, s6, hF =>
              rw [stl_pop hc2 (by omega)] at hF
              have s2 : m1 33 = r.length + 2 := s2
              have hv1 : V1 (m1 33 - 1) = b := by rw [s2]; exact s6.1
              have hv2 : V1 (m1 33 - 1 - 1) = a := by rw [s2]; exact s6.2.1
              have hl2 : r.length + 2 ≤ 400 := by simp at hl2; omega
              refine aw_aload_nR (pc := 40) X d_Mo_settle_40 (by rfl) ?_
              refine aw_dup (pc := 41) X d_Mo_settle_41 (by rfl) ?_
              refine gm_31 (pc := 42) X hM (by omega) d_Mo_settle_42 ?_
              refine aw_iconstN (pc := 45) X 1 d_Mo_settle_45 (by decide) ?_
              refine aw_isubN (pc := 46) X d_Mo_settle_46 (by omega) ?_
              refine pm_31 (pc := 47) X hM hf (by omega) d_Mo_settle_47 (fun w hM hf => ?_)
              refine aw_aload_nR (pc := 50) X d_Mo_settle_50 (by rfl) ?_
              refine aw_dup (pc := 51) X d_Mo_settle_51 (by rfl) ?_
              refine gm_33 (pc := 52) X hM (by omega) d_Mo_settle_52 ?_
              try simp only [mu, au, reduceIte, Nat.reduceEqDiff]
              refine aw_iconstN (pc := 55) X 1 d_Mo_settle_55 (by decide) ?_
              refine aw_isubN (pc := 56) X d_Mo_settle_56 (by omega) ?_
              refine pm_33 (pc := 57) X hM hf (by omega) d_Mo_settle_57 (fun w hM hf => ?_)
              refine aw_aload_nR (pc := 60) X d_Mo_settle_60 (by rfl) ?_
              refine gm_34 (pc := 61) X hM (by omega) d_Mo_settle_61 ?_
              refine aw_aload_nR (pc := 64) X d_Mo_settle_64 (by rfl) ?_
              refine gm_33 (pc := 65) X hM (by omega) d_Mo_settle_65 ?_
              try simp only [mu, au, reduceIte, Nat.reduceEqDiff]
              refine aw_iconstN (pc := 68) X 1 d_Mo_settle_68 (by decide) ?_
              refine aw_isubN (pc := 69) X d_Mo_settle_69 (by omega) ?_
              refine aw_aload_nR (pc := 70) X d_Mo_settle_70 (by rfl) ?_
              refine aw_aload_nR (pc := 71) X d_Mo_settle_71 (by rfl) ?_
              refine gm_32 (pc := 72) X hM (by omega) d_Mo_settle_72 ?_
              refine aw_aload_nR (pc := 75) X d_Mo_settle_75 (by rfl) ?_
              refine gm_31 (pc := 76) X hM (by omega) d_Mo_settle_76 ?_
              try simp only [mu, au, reduceIte, Nat.reduceEqDiff]
              refine aw_ialdN (pc := 79) X 439 1 (by omega) hM.a439 (by rfl) (by omega) (by decide) d_Mo_settle_79 ?_
              try simp only [mu, au, reduceIte, Nat.reduceEqDiff]
              refine aw_aload_nR (pc := 80) X d_Mo_settle_80 (by rfl) ?_
              refine gm_34 (pc := 81) X hM (by omega) d_Mo_settle_81 ?_
              refine aw_aload_nR (pc := 84) X d_Mo_settle_84 (by rfl) ?_
              refine gm_33 (pc := 85) X hM (by omega) d_Mo_settle_85 ?_
              try simp only [mu, au, reduceIte, Nat.reduceEqDiff]
              refine aw_iconstN (pc := 88) X 1 d_Mo_settle_88 (by decide) ?_
              refine aw_isubN (pc := 89) X d_Mo_settle_89 (by omega) ?_
              refine aw_laldN (pc := 90) X 440 2 (by omega) hM.a440 (by rfl) (by omega) (by decide) d_Mo_settle_90 ?_
              try simp only [mu, au, reduceIte, Nat.reduceEqDiff]
              refine aw_aload_nR (pc := 91) X d_Mo_settle_91 (by rfl) ?_
              refine gm_34 (pc := 92) X hM (by omega) d_Mo_settle_92 ?_
              refine aw_aload_nR (pc := 95) X d_Mo_settle_95 (by rfl) ?_
              refine gm_33 (pc := 96) X hM (by omega) d_Mo_settle_96 ?_
              try simp only [mu, au, reduceIte, Nat.reduceEqDiff]
              refine aw_laldN (pc := 99) X 440 2 (by omega) hM.a440 (by rfl) (by omega) (by decide) d_Mo_settle_99 ?_
              try simp only [mu, au, reduceIte, Nat.reduceEqDiff]
              -- invokevirtual 100 lv=0:r,1:n st=l,l,n,r,n,a440
              rw [hc, hv1, hv2]
              refine aw_callV (pc := 100) X _ (s_Mo_made (d := 0) (o := c) (a := a) (b := b) hnx (hcp hc2) hM) q_Mo_made k_1126 k_1128 k_55 (by omega) hM.1 (by rfl) d_Mo_settle_100 (by omega) (Nat.le_of_ble_eq_true rfl) ⟨by omega, by omega⟩ (fun h => by cases h) (fun r w nx hp => ?_)
              clear hM
              obtain ⟨rfl, hf1, p, m, A, V, hM, hq⟩ := hp
              replace hf := hf.trans hf1
              obtain ⟨rfl, hpp, haa, hvv, hmm⟩ := hq
              rw [hpp, haa, hvv, hmm] at hM
              refine sm_440 (pc := 103) X hM hf (by omega) (by omega) d_Mo_settle_103 (fun w hM hf => ?_)
              refine aw_goto (pc := 104) X (tgt := 0) d_Mo_settle_104 (by rfl) ?_
              -- stop 0 lv=0:r,1:n st=
              refine ih _ _ _ _ _ ?_ (fun x hx => ho x (List.mem_cons_of_mem _ hx)) (by omega) ?_ hM hf ?_ ?_ hF
              · simp at hr ⊢; omega
              · simp; omega
              · intro j j1 j2 j3
                refine Eq.trans ?_ (hm1 j j1 j2 j3)
                split
                · show mu _ 36 1 j = _
                  rw [mu, if_neg j3, mu, if_neg j2, mu, if_neg j1]
                · rw [mu, if_neg j2, mu, if_neg j1]
              · refine ⟨?_, ?_, ?_, ?_, s5.2, ?_⟩
                · split
                  · show m1 31 - 1 = _; omega
                  · show m1 31 - 1 = _; omega
                · split
                  · show m1 33 - 1 = r.length + 1; omega
                  · show m1 33 - 1 = r.length + 1; omega
                · split
                  · exact s3
                  · exact s3
                · cases hcz : (cmbS c a b).2 with
                  | true =>
                    rw [if_pos rfl, Bool.or_true]
                    rfl
                  | false =>
                    rw [if_neg (by simp), Bool.or_false]
                    exact s4
                · refine ⟨?_, stkV.up s6.2.2 (fun j hj => ?_)⟩
                  · show vp_updL V1 _ _ r.length = _
                    unfold vp_updL
                    rw [if_pos (by omega)]
                  · unfold vp_updL
                    rw [if_neg (by omega)]
  exact K o r z w m V hr ho hl1 hl2 hM hf (fun _ _ _ _ => rfl) hS hF
theorem s_Mo_whole {n : Nat} {o : List Nat} {r : List Int64} {v : Int64} {z : Bool} (hnx : 442 ≤ nx) (hn : n = nno o) (ho : opk o) (hl1 : o.length ≤ 400) (hl2 : r.length ≤ 400) (hS : rpS m (A 439) V o (v :: r) n z) (hM : hMo G w p m A V) : AC G y_Mo_whole b_Mo_whole 1 none d false [rf G 418] nx w 0 0 (mq G nx w (fun x p' m' A' V' => x = none ∧ p' = p ∧ A' = A ∧ (∀ j, j ≠ 31 → j ≠ 35 → m' j = m j) ∧ rpS m' (A 439) V' (whl o v n).1 ((whl o v n).2.1 :: r) (whl o v n).2.2 z)) := by
  generalize hF : whl o v n = Fn
  refine AC.ofW (by decide) (Nat.le_of_ble_eq_true rfl) ?_
  intro E P hP Y X
  have X : aw_X G "RescanDeskModel" b_Mo_whole 1 none "whole" _ _ _ _ _ E := X
  refine AW.eql (lv' := [(0, _)]) (by rfl) ?_
  have hf : fr 418 442 w w := fr.refl _ _ _
  have K : ∀ (o : List Nat) (v : Int64) (n : Nat) w1 m1 V1, n = nno o → o.length ≤ 400 → hMo G w1 p m1 A V1 → fr 418 442 w w1 → (∀ j, j ≠ 31 → j ≠ 35 → m1 j = m j) → rpS m1 (A 439) V1 o (v :: r) n z → (∀ c, c ∈ o → c < 2 ^ 31) → whl o v n = Fn → AW G E 1 nx 0 0 w1 0 [(0, rf G 418)] [] := by
    intro o
    induction o with
    | nil =>
      intro v n w1 m1 V1 hn hl1 hM hf hm1 hS hb hF
      obtain ⟨s1, s2, s3, s4, s5, s6⟩ := id hS
      rw [whl] at hF
      subst hF
      have s1 : m1 31 = 0 := s1
      refine aw_aload_nR (pc := 0) X d_Mo_whole_0 (by rfl) ?_
      refine gm_31 (pc := 1) X hM (by omega) d_Mo_whole_1 ?_
      refine aw_if_leN (pc := 4) X (tgt := 68) d_Mo_whole_4 (by rfl) (by omega) (fun h4 => ?_) (fun h4 => ?_)
      -- br 4 lv=0:r st=
      · refine aw_vret Y X rfl d_Mo_whole_68 (by omega) (by omega) (hP _ _ _ ?_)
        -- ret 68 lv=0:r st=
        exact ⟨rfl, hf, _, _, _, _, hM, rfl, rfl, rfl, hm1, hS⟩
      · omega
    | cons c o ih =>
      intro v n w1 m1 V1 hn hl1 hM hf hm1 hS hb hF
      obtain ⟨s1, s2, s3, s4, s5, s6⟩ := id hS
      have s1 : m1 31 = o.length + 1 := s1
      have s2 : m1 33 = r.length + 1 := s2
      have hl1 : o.length + 1 ≤ 400 := hl1
      have hc : A 439 (m1 31 - 1) = c := by rw [s1]; exact s5.1
      have hcb := hb c List.mem_cons_self
      rw [whl] at hF
      refine aw_aload_nR (pc := 0) X d_Mo_whole_0 (by rfl) ?_
      refine gm_31 (pc := 1) X hM (by omega) d_Mo_whole_1 ?_
      refine aw_if_leN (pc := 4) X (tgt := 68) d_Mo_whole_4 (by rfl) (by omega) (fun h4 => ?_) (fun h4 => ?_)
      -- br 4 lv=0:r st=
      · omega
      · refine aw_aload_nR (pc := 7) X d_Mo_whole_7 (by rfl) ?_
        refine gm_32 (pc := 8) X hM (by omega) d_Mo_whole_8 ?_
        refine aw_aload_nR (pc := 11) X d_Mo_whole_11 (by rfl) ?_
        refine gm_31 (pc := 12) X hM (by omega) d_Mo_whole_12 ?_
        refine aw_iconstN (pc := 15) X 1 d_Mo_whole_15 (by decide) ?_
        refine aw_isubN (pc := 16) X d_Mo_whole_16 (by omega) ?_
        refine aw_ialdN (pc := 17) X 439 1 (by omega) hM.a439 (by rfl) (by omega) (by decide) d_Mo_whole_17 ?_
        -- stop 18 lv=0:r st=n
        rw [hc]
        refine aw_iconstN (pc := 18) X 1 d_Mo_whole_18 (by decide) ?_
        refine aw_icmp_neN (pc := 19) X (tgt := 68) d_Mo_whole_19 (by rfl) (by omega) (by omega) (fun h19 => ?_) (fun h19 => ?_)
        -- br 19 lv=0:r st=
        · rw [if_neg h19] at hF
          subst hF
          refine aw_vret Y X rfl d_Mo_whole_68 (by omega) (by omega) (hP _ _ _ ?_)
          -- ret 68 lv=0:r st=
          exact ⟨rfl, hf, _, _, _, _, hM, rfl, rfl, rfl, hm1, hS⟩
        · rw [if_pos h19] at hF
          subst h19
          rw [nno, if_neg (by omega)] at hn
          have hv1 : V1 (m1 33 - 1) = v := by rw [s2]; exact s6.1
          refine aw_aload_nR (pc := 22) X d_Mo_whole_22 (by rfl) ?_
          refine aw_dup (pc := 23) X d_Mo_whole_23 (by rfl) ?_
          refine gm_31 (pc := 24) X hM (by omega) d_Mo_whole_24 ?_
          refine aw_iconstN (pc := 27) X 1 d_Mo_whole_27 (by decide) ?_
          refine aw_isubN (pc := 28) X d_Mo_whole_28 (by omega) ?_
          refine pm_31 (pc := 29) X hM hf (by omega) d_Mo_whole_29 (fun w hM hf => ?_)
          refine aw_aload_nR (pc := 32) X d_Mo_whole_32 (by rfl) ?_
          refine aw_dup (pc := 33) X d_Mo_whole_33 (by rfl) ?_
          refine gm_35 (pc := 34) X hM (by omega) d_Mo_whole_34 ?_
          try simp only [mu, au, reduceIte, Nat.reduceEqDiff]
          refine aw_iconstN (pc := 37) X 1 d_Mo_whole_37 (by decide) ?_
          refine aw_isubN (pc := 38) X d_Mo_whole_38 (by omega) ?_
          refine pm_35 (pc := 39) X hM hf (by omega) d_Mo_whole_39 (fun w hM hf => ?_)
          refine aw_aload_nR (pc := 42) X d_Mo_whole_42 (by rfl) ?_
          refine gm_34 (pc := 43) X hM (by omega) d_Mo_whole_43 ?_
          refine aw_aload_nR (pc := 46) X d_Mo_whole_46 (by rfl) ?_
          refine gm_33 (pc := 47) X hM (by omega) d_Mo_whole_47 ?_
          try simp only [mu, au, reduceIte, Nat.reduceEqDiff]
          refine aw_iconstN (pc := 50) X 1 d_Mo_whole_50 (by decide) ?_
          refine aw_isubN (pc := 51) X d_Mo_whole_51 (by omega) ?_
          refine aw_aload_nR (pc := 52) X d_Mo_whole_52 (by rfl) ?_
          refine gm_34 (pc := 53) X hM (by omega) d_Mo_whole_53 ?_
          refine aw_aload_nR (pc := 56) X d_Mo_whole_56 (by rfl) ?_
          refine gm_33 (pc := 57) X hM (by omega) d_Mo_whole_57 ?_
          try simp only [mu, au, reduceIte, Nat.reduceEqDiff]
          refine aw_iconstN (pc := 60) X 1 d_Mo_whole_60 (by decide) ?_
          refine aw_isubN (pc := 61) X d_Mo_whole_61 (by omega) ?_
          refine aw_laldN (pc := 62) X 440 2 (by omega) hM.a440 (by rfl) (by omega) (by decide) d_Mo_whole_62 ?_
          try simp only [mu, au, reduceIte, Nat.reduceEqDiff]
          -- stop 63 lv=0:r st=l,n,a440
          rw [hv1]
          refine aw_lneg (pc := 63) X d_Mo_whole_63 ?_
          refine sm_440 (pc := 64) X hM hf (by omega) (by omega) d_Mo_whole_64 (fun w hM hf => ?_)
          refine aw_goto (pc := 65) X (tgt := 0) d_Mo_whole_65 (by rfl) ?_
          -- stop 0 lv=0:r st=
          refine ih (-v) (n - 1) _ _ _ (by omega) (by omega) hM hf ?_ ?_ (fun x hx => hb x (List.mem_cons_of_mem _ hx)) hF
          · intro j j1 j2
            refine Eq.trans ?_ (hm1 j j1 j2)
            rw [mu, if_neg j2, mu, if_neg j1]
          · refine ⟨show m1 31 - 1 = _ by omega, s2, show m1 35 - 1 = _ by omega, s4, s5.2, ?_, stkV.up s6.2 (fun j hj => ?_)⟩
            · unfold vp_updL
              rw [if_pos (by omega)]
            · unfold vp_updL
              rw [if_neg (by omega)]
  exact K o v n w m V hn hl1 hM hf (fun _ _ _ => rfl) hS (fun c hc => by have := (ho c hc).1; omega) hF
end

