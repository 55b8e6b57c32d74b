/-! RescanDesk$Table -/
/-- a count that goes down to -1 -/
def dV (i : Nat) : Int32 := match i with
  | 0 => -1
  | i + 1 => nI i
theorem dV_sub (n : Nat) : nI n - nI 1 = dV n := by
  cases n with
  | zero => decide
  | succ n => exact pk_sub (a := n + 1) (b := 1) (by omega)
theorem dV_dec (i : Nat) : nI i + Int32.ofInt (-1) = dV i := by
  rw [← dV_sub, Int32.sub_eq_add_neg]
  rfl
/-- the place of the last definition of that name below place i -/
def tfd (T : List Def) (s : List Nat) : Nat → Option Nat
  | 0 => none
  | i + 1 => if (T[i]?).map (fun t => t.1) = some s then some i else tfd T s i
def tfind (T : List Def) (s : List Nat) : Option Nat := tfd T s T.length
theorem tfd_lt {T : List Def} {s : List Nat} : ∀ {i k : Nat}, tfd T s i = some k → k < i
  | 0, k, h => by cases h
  | i + 1, k, h => by
    unfold tfd at h
    split at h
    · cases h; omega
    · have := tfd_lt h; omega
/-- the table: f the array, g the places of its definitions -/
def hTaP (G : aw_G) (w : Nat → va_E) (T : List Def) (f : Nat → Option Nat) (g : Nat → Nat) : Prop :=
  T.length ≤ 60 ∧ w 15 = aObj 4 [rf G 16, .int (nI T.length)] ∧ w 16 = aRefs (G.2.2.2.1 5) 60 f ∧ (∀ i, i < 60 → f i = some (G.2.2.1 + (17 + 5 * g i)) ∧ g i < 60) ∧ (∀ i j, i < 60 → j < 60 → g i = g j → i = j) ∧ ∀ i, i < 60 → ∃ t : Def, hDe G w (17 + 5 * g i) t ∧ t.2.1 ≤ 16 ∧ ∀ u, T[i]? = some u → u = t
def hTa (G : aw_G) (w : Nat → va_E) (T : List Def) : Prop := ∃ f g, hTaP G w T f g
theorem hTaP.at {G : aw_G} {w : Nat → va_E} {T : List Def} {f : Nat → Option Nat} {g : Nat → Nat} (h : hTaP G w T f g) {i : Nat} {t : Def} (ht : T[i]? = some t) : hDe G w (17 + 5 * g i) t := by
  have hi : i < T.length := (List.getElem?_eq_some_iff.mp ht).1
  obtain ⟨u, h1, -, h2⟩ := h.2.2.2.2.2 i (by have := h.1; omega)
  rw [h2 t ht]
  exact h1
theorem hTaP.keep {G : aw_G} {w w' : Nat → va_E} {T : List Def} {f : Nat → Option Nat} {g : Nat → Nat} {lo hi : Nat} (h : hTaP G w T f g) (hf : fr lo hi w w') (h1 : hi ≤ 15 ∨ 317 ≤ lo) : hTaP G w' T f g := by
  obtain ⟨a1, a2, a3, a4, a5, a6⟩ := h
  refine ⟨a1, (hf _ (by omega)).trans a2, (hf _ (by omega)).trans a3, a4, a5, fun i hi => ?_⟩
  obtain ⟨t, b1, b2⟩ := a6 i hi
  have := (a4 i hi).2
  exact ⟨t, b1.keep hf (by omega), b2⟩
theorem hTa.keep {G : aw_G} {w w' : Nat → va_E} {T : List Def} {lo hi : Nat} (h : hTa G w T) (hf : fr lo hi w w') (h1 : hi ≤ 15 ∨ 317 ≤ lo) : hTa G w' T := by
  obtain ⟨f, g, h⟩ := h
  exact ⟨f, g, h.keep hf h1⟩
/-- a definition of the table has become another -/
theorem hTaP.set {G : aw_G} {w w' : Nat → va_E} {T : List Def} {f : Nat → Option Nat} {g : Nat → Nat} {i : Nat} {t : Def} (h : hTaP G w T f g) (hi : i < T.length) (ht : hDe G w' (17 + 5 * g i) t) (hk : t.2.1 ≤ 16) (hf : fr (17 + 5 * g i) (17 + 5 * g i + 5) w w') : hTaP G w' (T.set i t) f g := by
  obtain ⟨a1, a2, a3, a4, a5, a6⟩ := h
  refine ⟨by rw [List.length_set]; exact a1, by rw [List.length_set]; exact (hf _ (by omega)).trans a2, (hf _ (by omega)).trans a3, a4, a5, fun j hj => ?_⟩
  by_cases e : j = i
  · subst e
    refine ⟨t, ht, hk, fun u hu => ?_⟩
    rw [List.getElem?_set_self hi] at hu
    exact (Option.some.inj hu).symm
  · obtain ⟨u, b1, b2, b3⟩ := a6 j hj
    refine ⟨u, b1.keep hf ?_, b2, fun v hv => b3 v ?_⟩
    · have : g j ≠ g i := fun q => e (a5 j i hj (by omega) q)
      omega
    · rwa [List.getElem?_set_ne (Ne.symm e)] at hv
section
variable {G : aw_G} {nx d : Nat} {w : Nat → va_E}
theorem s_Ta_topmost {T : List Def} {q l u v : Nat} {f : Nat → Nat} (hnx : 317 ≤ nx) (hq : q < nx) (hd : 1 ≤ d) (hl : l < 2 ^ 20) (huv : u ≤ v) (hvl : v ≤ l) (hf : ∀ j, f j < 65536) (h : hTa G w T) (h3 : w q = aCh G l f) : AC G y_Ta_topmost b_Ta_topmost 5 (some .int) d false [rf G 15, rf G q, .int (nI u), .int (nI v)] nx w 0 0 (fun r w' nx' => nx' = nx ∧ w' = w ∧ r = some (.int (pV (tfind T (sl f u (v - u)))))) := by
  obtain ⟨fa, g, h⟩ := h
  obtain ⟨a1, a2, a3, a4, a5, a6⟩ := id h
  refine AC.ofW (by decide) (Nat.le_of_ble_eq_true rfl) ?_
  intro E P hP Y X
  have X : aw_X G "RescanDesk$Table" b_Ta_topmost 5 (some .int) "topmost" _ _ _ _ _ E := X
  refine AW.eql (lv' := [(0, _), (1, _), (2, _), (3, _)]) (by rfl) ?_
  have L : ∀ i, i ≤ T.length → tfd T (sl f u (v - u)) i = tfind T (sl f u (v - u)) → AW G E 5 nx 0 0 w 8 [(4, .int (dV i)), (0, rf G 15), (1, rf G q), (2, .int (nI u)), (3, .int (nI v))] [] := by
    intro i
    induction i with
    | zero =>
      intro hi hr
      refine aw_iload (pc := 8) X d_Ta_topmost_8 (by rfl) ?_
      refine aw_if_lt (pc := 10) X (tgt := 41) d_Ta_topmost_10 (by rfl) (fun h10 => ?_) (fun h10 => ?_)
      -- br 10 lv=4:i,0:r,1:r,2:n,3:n st=
      · refine aw_iconst (pc := 41) X (v := -1) d_Ta_topmost_41 (by decide) ?_
        refine aw_iret Y X rfl d_Ta_topmost_42 (by omega) (by omega) (hP _ _ _ ?_)
        -- ret 42 lv=4:i,0:r,1:r,2:n,3:n st=i
        exact ⟨rfl, rfl, by rw [← hr]; rfl⟩
      · exact absurd (show (-1 : Int32) < 0 by decide) h10
    | succ i ih =>
      intro hi hr
      obtain ⟨b1, b2⟩ := a4 i (by omega)
      have hti : T[i]? = some T[i] := List.getElem?_eq_getElem (by omega)
      obtain ⟨c1, c2, c3⟩ := h.at hti
      have c1' : w (17 + 5 * g i) = aObj 5 [rf G (17 + 5 * g i + 1), rf G (17 + 5 * g i + 3), kV G T[i].2.1] := c1
      refine AW.eql (lv' := [(4, .int (nI i)), (0, rf G 15), (1, rf G q), (2, .int (nI u)), (3, .int (nI v))]) rfl ?_
      refine aw_iload (pc := 8) X d_Ta_topmost_8 (by rfl) ?_
      refine aw_if_ltN (pc := 10) X (tgt := 41) d_Ta_topmost_10 (by rfl) (by omega) ?_
      refine aw_aload_nR (pc := 13) X d_Ta_topmost_13 (by rfl) ?_
      refine aw_getO (pc := 14) X _ 0 (by omega) (by (repeat (first | rw [aw_up_eq] | rw [aw_up_ne _ _ (by first | assumption | omega)])) <;> first | assumption | rfl) (by rfl) in_Ta (by decide) k_251 (by rfl) d_Ta_topmost_14 ?_
      refine aw_iload (pc := 17) X d_Ta_topmost_17 (by rfl) ?_
      refine aw_aaldN (pc := 19) X _ 5 (by omega) (by (repeat (first | rw [aw_up_eq] | rw [aw_up_ne _ _ (by first | assumption | omega)])) <;> first | assumption | rfl) (by rfl) (by omega) (by omega) (by assumption) d_Ta_topmost_19 ?_
      refine aw_getNO (pc := 20) X _ 0 (by omega) (by (repeat (first | rw [aw_up_eq] | rw [aw_up_ne _ _ (by first | assumption | omega)])) <;> first | assumption | rfl) (by rfl) in_De (by decide) k_176 (by rfl) d_Ta_topmost_20 ?_
      refine aw_aload_nR (pc := 23) X d_Ta_topmost_23 (by rfl) ?_
      refine aw_iload_n (pc := 24) X d_Ta_topmost_24 (by rfl) ?_
      refine aw_iload_n (pc := 25) X d_Ta_topmost_25 (by rfl) ?_
      -- invokevirtual 26 lv=4:n,0:r,1:r,2:n,3:n st=n,n,r,r
      refine aw_callV (pc := 26) X _ (s_Tx_isSame (d := 0) (a := 17 + 5 * g i + 1) (m := 12) (by omega) hq (by omega) hl huv hvl hf c2 h3) q_Tx_isSame k_419 k_420 k_421 (by omega) c2.obj (by rfl) d_Ta_topmost_26 (by omega) (Nat.le_of_ble_eq_true rfl) ⟨by omega, by omega⟩ (fun h => by cases h) (fun r w2 nx2 hp => ?_)
      obtain ⟨rfl, rfl, rfl⟩ := hp
      have hb := bN_lt (decide (T[i].1 = sl f u (v - u)))
      rw [tfd, hti] at hr
      refine aw_if_eqN (pc := 29) X (tgt := 35) d_Ta_topmost_29 (by rfl) (by omega) (fun h29 => ?_) (fun h29 => ?_)
      -- br 29 lv=4:n,0:r,1:r,2:n,3:n st=
      · have hne := of_decide_eq_false (bN_eq.mp h29)
        rw [if_neg (by simpa using hne)] at hr
        refine aw_iinc (pc := 35) X (v := dV i) (lv' := [(4, _), (0, _), (1, _), (2, _), (3, _)]) d_Ta_topmost_35 (by rfl) (dV_dec i) (by decide) (by rfl) ?_
        refine aw_goto (pc := 38) X (tgt := 8) d_Ta_topmost_38 (by rfl) ?_
        -- stop 8 lv=4:i,0:r,1:r,2:n,3:n st=
        exact ih (by omega) hr
      · have he := of_decide_eq_true (bN_ne.mp h29)
        rw [if_pos (by simpa using he)] at hr
        refine aw_iload (pc := 32) X d_Ta_topmost_32 (by rfl) ?_
        refine aw_iret Y X rfl d_Ta_topmost_34 (by omega) (by omega) (hP _ _ _ ?_)
        -- ret 34 lv=4:n,0:r,1:r,2:n,3:n st=n
        exact ⟨rfl, rfl, by rw [← hr]; rfl⟩
  refine aw_aload_nR (pc := 0) X d_Ta_topmost_0 (by rfl) ?_
  refine aw_getO (pc := 1) X _ 1 (by omega) (by (repeat (first | rw [aw_up_eq] | rw [aw_up_ne _ _ (by first | assumption | omega)])) <;> first | assumption | rfl) (by rfl) in_Ta (by decide) k_254 (by rfl) d_Ta_topmost_1 ?_
  refine aw_iconstN (pc := 4) X 1 d_Ta_topmost_4 (by decide) ?_
  -- stop 5 lv=0:r,1:r,2:n,3:n st=n,n
  refine aw_isub (pc := 5) X d_Ta_topmost_5 ?_
  rw [dV_sub]
  refine aw_istore (pc := 6) X (lv' := [(4, _), (0, _), (1, _), (2, _), (3, _)]) d_Ta_topmost_6 (by decide) (by rfl) ?_
  -- stop 8 lv=4:i,0:r,1:r,2:n,3:n st=
  exact L T.length (Nat.le_refl _) rfl
/-- how many names there are -/
def mcount (T : List Def) : Nat → Nat
  | 0 => 0
  | i + 1 => mcount T i + (if (T[i]?).bind (fun t => tfind T t.1) = some i then 1 else 0)
theorem mcount_le (T : List Def) : ∀ i, mcount T i ≤ i
  | 0 => Nat.le_refl _
  | i + 1 => by unfold mcount; have := mcount_le T i; split <;> omega
theorem pV_inj {o : Option Nat} {i : Nat} (ho : ∀ k, o = some k → k < 2 ^ 31) (hi : i < 2 ^ 31) : pV o = nI i ↔ o = some i := by
  cases o with
  | none =>
    refine ⟨fun h => absurd h ?_, fun h => by cases h⟩
    intro h
    have := congrArg Int32.toInt h
    rw [nI_toInt hi] at this
    have e : (pV none).toInt = -1 := by decide
    omega
  | some k =>
    have := ho k rfl
    exact ⟨fun h => by rw [(nI_eq this hi).mp h], fun h => by cases h; rfl⟩
theorem s_Ta_macros {T : List Def} (hnx : 317 ≤ nx) (hd : 2 ≤ d) (h : hTa G w T) : AC G y_Ta_macros b_Ta_macros 4 (some .int) d false [rf G 15] nx w 0 0 (fun r w' nx' => nx' = nx ∧ w' = w ∧ r = some (.int (nI (mcount T T.length)))) := by
  have h0 := h
  obtain ⟨fa, g, h⟩ := h
  obtain ⟨a1, a2, a3, a4, a5, a6⟩ := id h
  refine AC.ofW (by decide) (Nat.le_of_ble_eq_true rfl) ?_
  intro E P hP Y X
  have X : aw_X G "RescanDesk$Table" b_Ta_macros 4 (some .int) "macros" _ _ _ _ _ E := X
  refine AW.eql (lv' := [(0, _)]) (by rfl) ?_
  have L : ∀ (k i : Nat) (x : List (Nat × Value)), i + k = T.length → AW G E 4 nx 0 0 w 4 [(2, .int (nI i)), (1, .int (nI (mcount T i))), (0, rf G 15)] [] := by
    intro k
    induction k with
    | zero =>
      intro i x hi
      refine aw_iload_n (pc := 4) X d_Ta_macros_4 (by rfl) ?_
      refine aw_aload_nR (pc := 5) X d_Ta_macros_5 (by rfl) ?_
      refine aw_getO (pc := 6) X _ 1 (by omega) (by (repeat (first | rw [aw_up_eq] | rw [aw_up_ne _ _ (by first | assumption | omega)])) <;> first | assumption | rfl) (by rfl) in_Ta (by decide) k_254 (by rfl) d_Ta_macros_6 ?_
      refine aw_icmp_geN (pc := 9) X (tgt := 48) d_Ta_macros_9 (by rfl) (by omega) (by omega) (fun h9 => ?_) (fun h9 => ?_)
      -- br 9 lv=2:n,1:n,0:r st=
      · refine aw_iload_n (pc := 48) X d_Ta_macros_48 (by rfl) ?_
        refine aw_iret Y X rfl d_Ta_macros_49 (by omega) (by omega) (hP _ _ _ ?_)
        -- ret 49 lv=2:n,1:n,0:r st=n
        exact ⟨rfl, rfl, by rw [show i = T.length by omega]⟩
      · omega
    | succ k ih =>
      intro i x hi
      have hml := mcount_le T i
      obtain ⟨b1, b2⟩ := a4 i (by omega)
      have hti : T[i]? = some T[i] := List.getElem?_eq_getElem (by omega)
      obtain ⟨c1, c2, c3⟩ := h.at hti
      have c1' : w (17 + 5 * g i) = aObj 5 [rf G (17 + 5 * g i + 1), rf G (17 + 5 * g i + 3), kV G T[i].2.1] := c1
      obtain ⟨gn, e2, e3, e5⟩ := c2.arr
      have e1 := c2.obj
      refine aw_iload_n (pc := 4) X d_Ta_macros_4 (by rfl) ?_
      refine aw_aload_nR (pc := 5) X d_Ta_macros_5 (by rfl) ?_
      refine aw_getO (pc := 6) X _ 1 (by omega) (by (repeat (first | rw [aw_up_eq] | rw [aw_up_ne _ _ (by first | assumption | omega)])) <;> first | assumption | rfl) (by rfl) in_Ta (by decide) k_254 (by rfl) d_Ta_macros_6 ?_
      refine aw_icmp_geN (pc := 9) X (tgt := 48) d_Ta_macros_9 (by rfl) (by omega) (by omega) (fun h9 => ?_) (fun h9 => ?_)
      -- br 9 lv=2:n,1:n,0:r st=
      · omega
      · refine aw_aload_nR (pc := 12) X d_Ta_macros_12 (by rfl) ?_
        refine aw_getO (pc := 13) X _ 0 (by omega) (by (repeat (first | rw [aw_up_eq] | rw [aw_up_ne _ _ (by first | assumption | omega)])) <;> first | assumption | rfl) (by rfl) in_Ta (by decide) k_251 (by rfl) d_Ta_macros_13 ?_
        refine aw_iload_n (pc := 16) X d_Ta_macros_16 (by rfl) ?_
        refine aw_aaldN (pc := 17) X _ 5 (by omega) (by (repeat (first | rw [aw_up_eq] | rw [aw_up_ne _ _ (by first | assumption | omega)])) <;> first | assumption | rfl) (by rfl) (by omega) (by omega) (by assumption) d_Ta_macros_17 ?_
        refine aw_getNO (pc := 18) X _ 0 (by omega) (by (repeat (first | rw [aw_up_eq] | rw [aw_up_ne _ _ (by first | assumption | omega)])) <;> first | assumption | rfl) (by rfl) in_De (by decide) k_176 (by rfl) d_Ta_macros_18 ?_
        refine aw_astore_nR (pc := 21) X (lv' := [(3, _), (2, _), (1, _), (0, _)]) d_Ta_macros_21 (by decide) (by rfl) ?_
        refine aw_aload_nR (pc := 22) X d_Ta_macros_22 (by rfl) ?_
        refine aw_aload_nR (pc := 23) X d_Ta_macros_23 (by rfl) ?_
        refine aw_getNO (pc := 24) X _ 0 (by omega) (by (repeat (first | rw [aw_up_eq] | rw [aw_up_ne _ _ (by first | assumption | omega)])) <;> first | assumption | rfl) (by rfl) in_Tx (by decide) k_105 (by rfl) d_Ta_macros_24 ?_
        refine aw_iconstN (pc := 27) X 0 d_Ta_macros_27 (by decide) ?_
        refine aw_aload_nR (pc := 28) X d_Ta_macros_28 (by rfl) ?_
        refine aw_getNO (pc := 29) X _ 1 (by omega) (by (repeat (first | rw [aw_up_eq] | rw [aw_up_ne _ _ (by first | assumption | omega)])) <;> first | assumption | rfl) (by rfl) in_Tx (by decide) k_115 (by rfl) d_Ta_macros_29 ?_
        -- invokevirtual 32 lv=3:r,2:n,1:n,0:r st=n,n,r,r
        refine aw_callV (pc := 32) X _ (s_Ta_topmost (d := 1) (q := 17 + 5 * g i + 1 + 1) (l := 12) (f := gn) (u := 0) (v := T[i].1.length) hnx (by omega) (by omega) (by omega) (by omega) c2.le e5 h0 e2) q_Ta_topmost k_415 k_416 k_417 (by omega) a2 (by rfl) d_Ta_macros_32 (by omega) (Nat.le_of_ble_eq_true rfl) ⟨by omega, by omega⟩ (fun h => by cases h) (fun r w2 nx2 hp => ?_)
        obtain ⟨rfl, rfl, rfl⟩ := hp
        rw [Nat.sub_zero, ← e3]
        have hm : mcount T (i + 1) = mcount T i + (if tfind T T[i].1 = some i then 1 else 0) := by rw [mcount, hti]; rfl
        have hlt : ∀ k, tfind T T[i].1 = some k → k < 2 ^ 31 := fun k hk => by have := tfd_lt hk; omega
        refine aw_iload_n (pc := 35) X d_Ta_macros_35 (by rfl) ?_
        refine aw_icmp_ne (pc := 36) X (tgt := 42) d_Ta_macros_36 (by rfl) (fun h36 => ?_) (fun h36 => ?_)
        -- br 36 lv=3:r,2:n,1:n,0:r st=
        · have hm2 : mcount T (i + 1) = mcount T i := by rw [hm, if_neg (fun q => h36 ((pV_inj hlt (by omega)).mpr q))]; rfl
          refine aw_iincN (pc := 42) X 1 (lv' := [(2, _), (3, _), (1, _), (0, _)]) d_Ta_macros_42 (by rfl) (by decide) (by decide) (by rfl) ?_
          refine aw_goto (pc := 45) X (tgt := 4) d_Ta_macros_45 (by rfl) ?_
          -- stop 4 lv=2:n,3:r,1:n,0:r st=
          rw [← hm2]
          refine AW.lsub [0, 2, 3] (by rfl) ?_
          exact ih (i + 1) [] (by omega)
        · rw [if_pos ((pV_inj hlt (by omega)).mp h36)] at hm
          refine aw_iincN (pc := 39) X 1 (lv' := [(1, _), (3, _), (2, _), (0, _)]) d_Ta_macros_39 (by rfl) (by decide) (by decide) (by rfl) ?_
          refine aw_iincN (pc := 42) X 1 (lv' := [(2, _), (1, _), (3, _), (0, _)]) d_Ta_macros_42 (by rfl) (by decide) (by decide) (by rfl) ?_
          refine aw_goto (pc := 45) X (tgt := 4) d_Ta_macros_45 (by rfl) ?_
          -- stop 4 lv=2:n,1:n,3:r,0:r st=
          rw [← hm]
          refine AW.lsub [0, 1, 3] (by rfl) ?_
          exact ih (i + 1) [] (by omega)
  refine aw_iconstN (pc := 0) X 0 d_Ta_macros_0 (by decide) ?_
  refine aw_istore_n (pc := 1) X (lv' := [(1, _), (0, _)]) d_Ta_macros_1 (by decide) (by rfl) ?_
  refine aw_iconstN (pc := 2) X 0 d_Ta_macros_2 (by decide) ?_
  refine aw_istore_n (pc := 3) X (lv' := [(2, _), (1, _), (0, _)]) d_Ta_macros_3 (by decide) (by rfl) ?_
  -- stop 4 lv=2:n,1:n,0:r st=
  exact L T.length 0 [] (by omega)
/-- a new definition on top, its body still to be set -/
theorem s_Ta_push {T : List Def} {fa : Nat → Option Nat} {g : Nat → Nat} {q l u v : Nat} {f : Nat → Nat} (hnx : 317 ≤ nx) (hq : q < nx) (hq2 : 317 ≤ q) (hd : 3 ≤ d) (hl : l < 2 ^ 20) (huv : u ≤ v) (hvl : v ≤ l) (hf : ∀ j, f j < 65536) (h : hTaP G w T fa g) (h3 : w q = aCh G l f) : AC G y_Ta_push b_Ta_push 5 (some (.object "RescanDesk$Definition")) d false [rf G 15, rf G q, .int (nI u), .int (nI v)] nx w 0 0 (fun r w' nx' => nx' = nx ∧ ((60 ≤ T.length ∧ w' = w ∧ r = some .null) ∨ (T.length < 60 ∧ r = some (rf G (17 + 5 * g T.length)) ∧ (∃ t : Def, hTaP G w' (T ++ [((sl f u (v - u)).take 12, t.2)]) fa g) ∧ fr 15 317 w w'))) := by
  have h0 := h
  obtain ⟨a1, a2, a3, a4, a5, a6⟩ := h
  refine AC.ofW (by decide) (Nat.le_of_ble_eq_true rfl) ?_
  intro E P hP Y X
  have X : aw_X G "RescanDesk$Table" b_Ta_push 5 (some (.object "RescanDesk$Definition")) "push" _ _ _ _ _ E := X
  refine AW.eql (lv' := [(0, _), (1, _), (2, _), (3, _)]) (by rfl) ?_
  refine aw_aload_nR (pc := 0) X d_Ta_push_0 (by rfl) ?_
  refine aw_getO (pc := 1) X _ 1 (by omega) (by (repeat (first | rw [aw_up_eq] | rw [aw_up_ne _ _ (by first | assumption | omega)])) <;> first | assumption | rfl) (by rfl) in_Ta (by decide) k_254 (by rfl) d_Ta_push_1 ?_
  refine aw_bipushN (pc := 4) X 60 d_Ta_push_4 (by decide) ?_
  refine aw_icmp_ltN (pc := 6) X (tgt := 11) d_Ta_push_6 (by rfl) (by omega) (by omega) (fun h6 => ?_) (fun h6 => ?_)
  -- br 6 lv=0:r,1:r,2:n,3:n st=
  · obtain ⟨b1, b2⟩ := a4 T.length h6
    obtain ⟨t, c0, c4, c5⟩ := a6 T.length h6
    obtain ⟨c1, c2, c3⟩ := c0
    have c1' : w (17 + 5 * g T.length) = aObj 5 [rf G (17 + 5 * g T.length + 1), rf G (17 + 5 * g T.length + 3), kV G t.2.1] := c1
    refine aw_aload_nR (pc := 11) X d_Ta_push_11 (by rfl) ?_
    refine aw_getO (pc := 12) X _ 0 (by omega) (by (repeat (first | rw [aw_up_eq] | rw [aw_up_ne _ _ (by first | assumption | omega)])) <;> first | assumption | rfl) (by rfl) in_Ta (by decide) k_251 (by rfl) d_Ta_push_12 ?_
    refine aw_aload_nR (pc := 15) X d_Ta_push_15 (by rfl) ?_
    refine aw_getO (pc := 16) X _ 1 (by omega) (by (repeat (first | rw [aw_up_eq] | rw [aw_up_ne _ _ (by first | assumption | omega)])) <;> first | assumption | rfl) (by rfl) in_Ta (by decide) k_254 (by rfl) d_Ta_push_16 ?_
    refine aw_aaldN (pc := 19) X _ 5 (by omega) (by (repeat (first | rw [aw_up_eq] | rw [aw_up_ne _ _ (by first | assumption | omega)])) <;> first | assumption | rfl) (by rfl) (by omega) (by omega) (by assumption) d_Ta_push_19 ?_
    refine aw_astoreR (pc := 20) X (lv' := [(4, _), (0, _), (1, _), (2, _), (3, _)]) d_Ta_push_20 (by decide) (by rfl) ?_
    refine aw_aloadR (pc := 22) X d_Ta_push_22 (by rfl) ?_
    refine aw_getNO (pc := 24) X _ 0 (by omega) (by (repeat (first | rw [aw_up_eq] | rw [aw_up_ne _ _ (by first | assumption | omega)])) <;> first | assumption | rfl) (by rfl) in_De (by decide) k_176 (by rfl) d_Ta_push_24 ?_
    refine aw_aload_nR (pc := 27) X d_Ta_push_27 (by rfl) ?_
    refine aw_iload_n (pc := 28) X d_Ta_push_28 (by rfl) ?_
    refine aw_iload_n (pc := 29) X d_Ta_push_29 (by rfl) ?_
    -- invokevirtual 30 lv=4:r,0:r,1:r,2:n,3:n st=n,n,r,r
    refine aw_callV (pc := 30) X _ (s_Tx_set (d := 2) (a := 17 + 5 * g T.length + 1) (m := 12) (q := q) (l := l) (f := f) (by omega) hq (by omega) (by omega) (by omega) hl huv hvl hf c2 h3) q_Tx_set k_682 k_577 k_578 (by omega) c2.obj (by rfl) d_Ta_push_30 (by omega) (Nat.le_of_ble_eq_true rfl) ⟨by omega, by omega⟩ (fun h => by cases h) (fun r w2 nx2 hp => ?_)
    obtain ⟨rfl, rfl, ht, hf2⟩ := hp
    have a22 : w2 15 = aObj 4 [rf G 16, .int (nI T.length)] := (hf2 _ (by omega)).trans a2
    refine aw_aload_nR (pc := 33) X d_Ta_push_33 (by rfl) ?_
    refine aw_dup (pc := 34) X d_Ta_push_34 (by rfl) ?_
    refine aw_getO (pc := 35) X _ 1 (by omega) (by (repeat (first | rw [aw_up_eq] | rw [aw_up_ne _ _ (by first | assumption | omega)])) <;> first | assumption | rfl) (by rfl) in_Ta (by decide) k_254 (by rfl) d_Ta_push_35 ?_
    refine aw_iconstN (pc := 38) X 1 d_Ta_push_38 (by decide) ?_
    refine aw_iaddN (pc := 39) X d_Ta_push_39 ?_
    refine aw_putO (pc := 40) X _ 1 (by omega) (by (repeat (first | rw [aw_up_eq] | rw [aw_up_ne _ _ (by first | assumption | omega)])) <;> first | assumption | rfl) (by rfl) in_Ta (by decide) ty_Ta ok_Ta nm_Ta k_254 (by rfl) (by rfl) (by rfl) (by simp) (fs' := [_, _]) (by rfl) d_Ta_push_40 ?_
    refine aw_aloadR (pc := 43) X d_Ta_push_43 (by rfl) ?_
    refine aw_aret Y X rfl (Or.inr ⟨_, rfl⟩) d_Ta_push_45 (by omega) (by omega) (hP _ _ _ ?_)
    -- ret 45 lv=4:r,0:r,1:r,2:n,3:n st=r
    refine ⟨rfl, Or.inr ⟨h6, rfl, ⟨t, ?_⟩, (hf2.mono (by omega) (by omega)).up _ (by omega)⟩⟩
    have hlen : (T ++ [((sl f u (v - u)).take 12, t.2)]).length = T.length + 1 := by simp
    refine ⟨by omega, by rw [hlen]; exact aw_up_eq _ _ _, by rw [aw_up_ne _ _ (by omega)]; exact (hf2 _ (by omega)).trans a3, a4, a5, fun j hj => ?_⟩
    have ff : fr 15 16 w2 (aw_up w2 15 (aObj 4 [rf G 16, .int (nI (T.length + 1))])) := (fr.refl _ _ _).up _ (by omega)
    by_cases e : j = T.length
    · subst e
      refine ⟨((sl f u (v - u)).take 12, t.2), ?_, c4, fun x hx => ?_⟩
      · refine hDe.keep ⟨(hf2 _ (by omega)).trans c1, ht, c3.keep hf2 (by omega)⟩ ff (by omega)
      · rw [List.getElem?_append_right (Nat.le_refl _)] at hx
        simp at hx
        exact hx.symm
    · obtain ⟨x, x1, x2, x3⟩ := a6 j hj
      have hne : g j ≠ g T.length := fun q => e (a5 j _ hj h6 q)
      refine ⟨x, (x1.keep hf2 (by omega)).keep ff (by omega), x2, fun y hy => x3 y ?_⟩
      by_cases hjl : j < T.length
      · rwa [List.getElem?_append_left hjl] at hy
      · rw [List.getElem?_eq_none_iff.mpr (by rw [hlen]; omega)] at hy
        cases hy
  · refine aw_null (pc := 9) X d_Ta_push_9 ?_
    refine aw_aret Y X rfl (Or.inl rfl) d_Ta_push_10 (by omega) (by omega) (hP _ _ _ ?_)
    -- ret 10 lv=0:r,1:r,2:n,3:n st=0
    exact ⟨rfl, Or.inl ⟨h6, rfl, rfl⟩⟩
/-- the array with place p taken out of the first n and put behind them -/
def rot {α : Type} (f : Nat → α) (p n : Nat) : Nat → α := fun i => if i < p then f i else if i + 1 < n then f (i + 1) else if i + 1 = n then f p else f i
theorem s_Ta_remove {T : List Def} {p : Nat} (hnx : 317 ≤ nx) (hp0 : p < T.length) (h : hTa G w T) : AC G y_Ta_remove b_Ta_remove 4 none d false [rf G 15, .int (nI p)] nx w 0 0 (fun r w' nx' => nx' = nx ∧ r = none ∧ hTa G w' (T.eraseIdx p) ∧ fr 15 17 w w') := by
  obtain ⟨fa, g, h⟩ := h
  have h0 := h
  obtain ⟨a1, a2, a3, a4, a5, a6⟩ := h
  obtain ⟨bp1, bp2⟩ := a4 p (by omega)
  refine AC.ofW (by decide) (Nat.le_of_ble_eq_true rfl) ?_
  intro E P hP Y X
  have X : aw_X G "RescanDesk$Table" b_Ta_remove 4 none "remove" _ _ _ _ _ E := X
  refine AW.eql (lv' := [(0, _), (1, _)]) (by rfl) ?_
  have L : ∀ (k i : Nat) (w1 : Nat → va_E) (f1 : Nat → Option Nat), i + k + 1 = T.length → p ≤ i → w1 15 = aObj 4 [rf G 16, .int (nI T.length)] → w1 16 = aRefs (G.2.2.2.1 5) 60 f1 → fr 15 17 w w1 → (∀ j, f1 j = if p ≤ j ∧ j < i then fa (j + 1) else fa j) → AW G E 4 nx 0 0 w1 9 [(3, .int (nI i)), (2, rf G (17 + 5 * g p)), (0, rf G 15), (1, .int (nI p))] [] := by
    intro k
    induction k with
    | zero =>
      intro i w1 f1 hi hpi e1 e2 hf hj
      obtain ⟨t, c0, -⟩ := a6 p (by omega)
      have c1 : w1 (17 + 5 * g p) = aObj 5 [rf G (17 + 5 * g p + 1), rf G (17 + 5 * g p + 3), kV G t.2.1] := (hf _ (by omega)).trans c0.1
      refine aw_iload_n (pc := 9) X d_Ta_remove_9 (by rfl) ?_
      refine aw_iconstN (pc := 10) X 1 d_Ta_remove_10 (by decide) ?_
      refine aw_iaddN (pc := 11) X d_Ta_remove_11 ?_
      refine aw_aload_nR (pc := 12) X d_Ta_remove_12 (by rfl) ?_
      refine aw_getO (pc := 13) X _ 1 (by omega) (by (repeat (first | rw [aw_up_eq] | rw [aw_up_ne _ _ (by first | assumption | omega)])) <;> first | assumption | rfl) (by rfl) in_Ta (by decide) k_254 (by rfl) d_Ta_remove_13 ?_
      refine aw_icmp_geN (pc := 16) X (tgt := 39) d_Ta_remove_16 (by rfl) (by omega) (by omega) (fun h16 => ?_) (fun h16 => ?_)
      -- br 16 lv=3:n,2:r,0:r,1:n st=
      · refine aw_aload_nR (pc := 39) X d_Ta_remove_39 (by rfl) ?_
        refine aw_dup (pc := 40) X d_Ta_remove_40 (by rfl) ?_
        refine aw_getO (pc := 41) X _ 1 (by omega) (by (repeat (first | rw [aw_up_eq] | rw [aw_up_ne _ _ (by first | assumption | omega)])) <;> first | assumption | rfl) (by rfl) in_Ta (by decide) k_254 (by rfl) d_Ta_remove_41 ?_
        refine aw_iconstN (pc := 44) X 1 d_Ta_remove_44 (by decide) ?_
        refine aw_isubN (pc := 45) X d_Ta_remove_45 (by omega) ?_
        refine aw_putO (pc := 46) X _ 1 (by omega) (by (repeat (first | rw [aw_up_eq] | rw [aw_up_ne _ _ (by first | assumption | omega)])) <;> first | assumption | rfl) (by rfl) in_Ta (by decide) ty_Ta ok_Ta nm_Ta k_254 (by rfl) (by rfl) (by rfl) (by simp) (fs' := [_, _]) (by rfl) d_Ta_remove_46 ?_
        refine aw_aload_nR (pc := 49) X d_Ta_remove_49 (by rfl) ?_
        refine aw_getO (pc := 50) X _ 0 (by omega) (by (repeat (first | rw [aw_up_eq] | rw [aw_up_ne _ _ (by first | assumption | omega)])) <;> first | assumption | rfl) (by rfl) in_Ta (by decide) k_251 (by rfl) d_Ta_remove_50 ?_
        refine aw_aload_nR (pc := 53) X d_Ta_remove_53 (by rfl) ?_
        refine aw_getO (pc := 54) X _ 1 (by omega) (by (repeat (first | rw [aw_up_eq] | rw [aw_up_ne _ _ (by first | assumption | omega)])) <;> first | assumption | rfl) (by rfl) in_Ta (by decide) k_254 (by rfl) d_Ta_remove_54 ?_
        refine aw_aload_nR (pc := 57) X d_Ta_remove_57 (by rfl) ?_
        -- stop 58 lv=3:n,2:r,0:r,1:n st=r,n,r
        refine aw_aastN (pc := 58) X (r := (R_De, T_De, 3)) 16 5 (17 + 5 * g p) 5 (by omega) (by rw [aw_up_ne _ _ (by omega)]; exact e2) (by rfl) (by omega) (by rw [aw_up_ne _ _ (by omega)]; exact c1) (by rfl) (by omega) (by omega) d_Ta_remove_58 ?_
        refine aw_vret Y X rfl d_Ta_remove_59 (by omega) (by omega) (hP _ _ _ ?_)
        -- ret 59 lv=3:n,2:r,0:r,1:n st=
        refine ⟨rfl, rfl, ⟨rot fa p T.length, rot g p T.length, ?_⟩, ((hf.up _ (by omega)).up _ (by omega))⟩
        have hle : (T.eraseIdx p).length = T.length - 1 := by rw [List.length_eraseIdx]; simp [hp0]
        have hrot : va_up f1 (T.length - 1) (some (G.2.2.1 + (17 + 5 * g p))) = rot fa p T.length := by
          funext j
          unfold va_up rot
          by_cases q1 : j = T.length - 1
          · rw [if_pos q1, if_neg (by omega), if_neg (by omega), if_pos (by omega), bp1]
          · rw [if_neg q1, hj j]
            by_cases q2 : j < p
            · rw [if_neg (by omega), if_pos q2]
            · by_cases q3 : j + 1 < T.length
              · rw [if_pos (by omega), if_neg q2, if_pos q3]
              · rw [if_neg (by omega), if_neg q2, if_neg q3, if_neg (by omega)]
        refine ⟨by omega, ?_, ?_, fun j hj2 => ?_, fun x y hx hy hxy => ?_, fun j hj2 => ?_⟩
        · rw [aw_up_ne _ _ (by omega), aw_up_eq, hle]
        · rw [aw_up_eq, hrot]
        · unfold rot
          split
          · exact a4 j hj2
          · split
            · exact a4 (j + 1) (by omega)
            · split
              · exact a4 p (by omega)
              · exact a4 j hj2
        · have key : ∀ z, z < 60 → ∃ z', z' < 60 ∧ rot g p T.length z = g z' ∧ (z < p ∧ z' = z ∨ p ≤ z ∧ z + 1 < T.length ∧ z' = z + 1 ∨ z + 1 = T.length ∧ z' = p ∨ T.length ≤ z ∧ z' = z) := by
            intro z hz
            unfold rot
            split
            · exact ⟨z, hz, rfl, by omega⟩
            · split
              · exact ⟨z + 1, by omega, rfl, by omega⟩
              · split
                · exact ⟨p, by omega, rfl, by omega⟩
                · exact ⟨z, hz, rfl, by omega⟩
          obtain ⟨x', x1, x2, x3⟩ := key x hx
          obtain ⟨y', y1, y2, y3⟩ := key y hy
          have := a5 x' y' x1 y1 (by rw [← x2, ← y2]; exact hxy)
          omega
        · have fw : fr 15 17 w (aw_up (aw_up w1 15 (aObj 4 [rf G 16, .int (nI (T.length - 1))])) 16 (aRefs (G.2.2.2.1 5) 60 (va_up f1 (T.length - 1) (some (G.2.2.1 + (17 + 5 * g p)))))) := ((hf.up _ (by omega)).up _ (by omega))
          unfold rot
          by_cases q2 : j < p
          · rw [if_pos q2]
            obtain ⟨t, t1, t2, t3⟩ := a6 j hj2
            exact ⟨t, t1.keep fw (by omega), t2, fun y hy => t3 y (by rwa [List.getElem?_eraseIdx_of_lt q2] at hy)⟩
          · rw [if_neg q2]
            by_cases q3 : j + 1 < T.length
            · rw [if_pos q3]
              obtain ⟨t, t1, t2, t3⟩ := a6 (j + 1) (by omega)
              exact ⟨t, t1.keep fw (by omega), t2, fun y hy => t3 y (by rwa [List.getElem?_eraseIdx_of_ge (by omega)] at hy)⟩
            · rw [if_neg q3]
              have hnone : (T.eraseIdx p)[j]? = none := List.getElem?_eq_none_iff.mpr (by rw [hle]; omega)
              split
              · obtain ⟨t, t1, t2, t3⟩ := a6 p (by omega)
                exact ⟨t, t1.keep fw (by omega), t2, fun y hy => by rw [hnone] at hy; cases hy⟩
              · obtain ⟨t, t1, t2, t3⟩ := a6 j hj2
                exact ⟨t, t1.keep fw (by omega), t2, fun y hy => by rw [hnone] at hy; cases hy⟩
      · omega
    | succ k ih =>
      intro i w1 f1 hi hpi e1 e2 hf hj
      obtain ⟨b1, b2⟩ := a4 (i + 1) (by omega)
      have f1i : f1 (i + 1) = some (G.2.2.1 + (17 + 5 * g (i + 1))) := by rw [hj, if_neg (by omega), b1]
      obtain ⟨t, c0, -⟩ := a6 (i + 1) (by omega)
      have c1 : w1 (17 + 5 * g (i + 1)) = aObj 5 [rf G (17 + 5 * g (i + 1) + 1), rf G (17 + 5 * g (i + 1) + 3), kV G t.2.1] := (hf _ (by omega)).trans c0.1
      refine aw_iload_n (pc := 9) X d_Ta_remove_9 (by rfl) ?_
      refine aw_iconstN (pc := 10) X 1 d_Ta_remove_10 (by decide) ?_
      refine aw_iaddN (pc := 11) X d_Ta_remove_11 ?_
      refine aw_aload_nR (pc := 12) X d_Ta_remove_12 (by rfl) ?_
      refine aw_getO (pc := 13) X _ 1 (by omega) (by (repeat (first | rw [aw_up_eq] | rw [aw_up_ne _ _ (by first | assumption | omega)])) <;> first | assumption | rfl) (by rfl) in_Ta (by decide) k_254 (by rfl) d_Ta_remove_13 ?_
      refine aw_icmp_geN (pc := 16) X (tgt := 39) d_Ta_remove_16 (by rfl) (by omega) (by omega) (fun h16 => ?_) (fun h16 => ?_)
      -- br 16 lv=3:n,2:r,0:r,1:n st=
      · omega
      · refine aw_aload_nR (pc := 19) X d_Ta_remove_19 (by rfl) ?_
        refine aw_getO (pc := 20) X _ 0 (by omega) (by (repeat (first | rw [aw_up_eq] | rw [aw_up_ne _ _ (by first | assumption | omega)])) <;> first | assumption | rfl) (by rfl) in_Ta (by decide) k_251 (by rfl) d_Ta_remove_20 ?_
        refine aw_iload_n (pc := 23) X d_Ta_remove_23 (by rfl) ?_
        refine aw_aload_nR (pc := 24) X d_Ta_remove_24 (by rfl) ?_
        refine aw_getO (pc := 25) X _ 0 (by omega) (by (repeat (first | rw [aw_up_eq] | rw [aw_up_ne _ _ (by first | assumption | omega)])) <;> first | assumption | rfl) (by rfl) in_Ta (by decide) k_251 (by rfl) d_Ta_remove_25 ?_
        refine aw_iload_n (pc := 28) X d_Ta_remove_28 (by rfl) ?_
        refine aw_iconstN (pc := 29) X 1 d_Ta_remove_29 (by decide) ?_
        refine aw_iaddN (pc := 30) X d_Ta_remove_30 ?_
        refine aw_aaldN (pc := 31) X _ 5 (by omega) (by (repeat (first | rw [aw_up_eq] | rw [aw_up_ne _ _ (by first | assumption | omega)])) <;> first | assumption | rfl) (by rfl) (by omega) (by omega) (by assumption) d_Ta_remove_31 ?_
        -- stop 32 lv=3:n,2:r,0:r,1:n st=r,n,r
        refine aw_aastN (pc := 32) X (r := (R_De, T_De, 3)) 16 5 (17 + 5 * g (i + 1)) 5 (by omega) e2 (by rfl) (by omega) c1 (by rfl) (by omega) (by omega) d_Ta_remove_32 ?_
        refine aw_iincN (pc := 33) X 1 (lv' := [(3, _), (2, _), (0, _), (1, _)]) d_Ta_remove_33 (by rfl) (by decide) (by decide) (by rfl) ?_
        refine aw_goto (pc := 36) X (tgt := 9) d_Ta_remove_36 (by rfl) ?_
        -- stop 9 lv=3:n,2:r,0:r,1:n st=
        refine ih (i + 1) _ _ (by omega) (by omega) (by rw [aw_up_ne _ _ (by omega)]; exact e1) (aw_up_eq _ _ _) (hf.up _ (by omega)) (fun j => ?_)
        unfold va_up
        by_cases q1 : j = i
        · rw [if_pos q1, q1, if_pos (by omega), b1]
        · rw [if_neg q1, hj j]
          by_cases q2 : p ≤ j ∧ j < i
          · rw [if_pos q2, if_pos (by omega)]
          · rw [if_neg q2, if_neg (by omega)]
  refine aw_aload_nR (pc := 0) X d_Ta_remove_0 (by rfl) ?_
  refine aw_getO (pc := 1) X _ 0 (by omega) (by (repeat (first | rw [aw_up_eq] | rw [aw_up_ne _ _ (by first | assumption | omega)])) <;> first | assumption | rfl) (by rfl) in_Ta (by decide) k_251 (by rfl) d_Ta_remove_1 ?_
  refine aw_iload_n (pc := 4) X d_Ta_remove_4 (by rfl) ?_
  refine aw_aaldN (pc := 5) X _ 5 (by omega) (by (repeat (first | rw [aw_up_eq] | rw [aw_up_ne _ _ (by first | assumption | omega)])) <;> first | assumption | rfl) (by rfl) (by omega) (by omega) (by assumption) d_Ta_remove_5 ?_
  refine aw_astore_nR (pc := 6) X (lv' := [(2, _), (0, _), (1, _)]) d_Ta_remove_6 (by decide) (by rfl) ?_
  refine aw_iload_n (pc := 7) X d_Ta_remove_7 (by rfl) ?_
  refine aw_istore_n (pc := 8) X (lv' := [(3, _), (2, _), (0, _), (1, _)]) d_Ta_remove_8 (by decide) (by rfl) ?_
  -- stop 9 lv=3:n,2:r,0:r,1:n st=
  exact L (T.length - p - 1) p w fa (by omega) (Nat.le_refl _) a2 a3 (fr.refl _ _ _) (fun j => by rw [if_neg (by omega)])
end

