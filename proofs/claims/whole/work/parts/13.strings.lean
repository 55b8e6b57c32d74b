/-! texts as strings. hTx G w a m s: at offset a lies a Text of room m (its array behind it) that holds s; fr lo hi w w': nothing but lo .. hi - 1 has changed -/
def fr (lo hi : Nat) (w w' : Nat → va_E) : Prop := ∀ x, x < lo ∨ hi ≤ x → w' x = w x
theorem fr.refl (lo hi : Nat) (w : Nat → va_E) : fr lo hi w w := fun _ _ => rfl
theorem fr.trans {lo hi : Nat} {w w1 w2 : Nat → va_E} (h1 : fr lo hi w w1) (h2 : fr lo hi w1 w2) : fr lo hi w w2 := fun x hx => (h2 x hx).trans (h1 x hx)
theorem fr.mono {lo hi lo' hi' : Nat} {w w' : Nat → va_E} (h : fr lo hi w w') (h1 : lo' ≤ lo) (h2 : hi ≤ hi') : fr lo' hi' w w' := fun x hx => h x (by omega)
theorem fr.up {lo hi : Nat} {w w' : Nat → va_E} {a : Nat} (c : va_E) (h : fr lo hi w w') (ha : lo ≤ a ∧ a < hi) : fr lo hi w (aw_up w' a c) := fun x hx => by
  rw [aw_up_ne _ _ (by omega)]
  exact h x hx
def hTx (G : aw_G) (w : Nat → va_E) (a m : Nat) (s : List Nat) : Prop := ∃ g : Nat → Nat, w a = oTx G (a + 1) s.length ∧ w (a + 1) = aCh G m g ∧ s = sl g 0 s.length ∧ s.length ≤ m ∧ ∀ j, g j < 65536
theorem hTx.le {G : aw_G} {w : Nat → va_E} {a m : Nat} {s : List Nat} (h : hTx G w a m s) : s.length ≤ m := by
  obtain ⟨g, -, -, -, h, -⟩ := h
  exact h
theorem hTx.ch {G : aw_G} {w : Nat → va_E} {a m : Nat} {s : List Nat} (h : hTx G w a m s) : ∀ c ∈ s, c < 65536 := by
  obtain ⟨g, -, -, h3, -, h5⟩ := h
  intro c hc
  rw [h3] at hc
  obtain ⟨i, -, rfl⟩ := List.mem_map.mp hc
  exact h5 _
theorem hTx.obj {G : aw_G} {w : Nat → va_E} {a m : Nat} {s : List Nat} (h : hTx G w a m s) : w a = oTx G (a + 1) s.length := by
  obtain ⟨g, h, -⟩ := h
  exact h
theorem hTx.arr {G : aw_G} {w : Nat → va_E} {a m : Nat} {s : List Nat} (h : hTx G w a m s) : ∃ g : Nat → Nat, w (a + 1) = aCh G m g ∧ s = sl g 0 s.length ∧ ∀ j, g j < 65536 := by
  obtain ⟨g, -, h2, h3, -, h5⟩ := h
  exact ⟨g, h2, h3, h5⟩
theorem hTx.kept {G : aw_G} {w w' : Nat → va_E} {a m : Nat} {s : List Nat} (h : hTx G w a m s) (h1 : w' a = w a) (h2 : w' (a + 1) = w (a + 1)) : hTx G w' a m s := by
  obtain ⟨g, e1, e2, e3⟩ := h
  exact ⟨g, h1.trans e1, h2.trans e2, e3⟩
theorem hTx.keep {G : aw_G} {w w' : Nat → va_E} {a m : Nat} {s : List Nat} {lo hi : Nat} (h : hTx G w a m s) (hf : fr lo hi w w') (h1 : a + 2 ≤ lo ∨ hi ≤ a) : hTx G w' a m s := h.kept (hf _ (by omega)) (hf _ (by omega))
theorem sl_app (g : Nat → Nat) (s n k : Nat) : sl g s (n + k) = sl g s n ++ sl g (s + n) k := by
  apply List.ext_getElem?
  intro i
  by_cases h1 : i < n
  · rw [sl_get (by omega), List.getElem?_append_left (by rw [sl_len]; exact h1), sl_get h1]
  · rw [List.getElem?_append_right (by rw [sl_len]; omega), sl_len]
    by_cases h2 : i < n + k
    · rw [sl_get h2, sl_get (by omega), show s + n + (i - n) = s + i by omega]
    · rw [List.getElem?_eq_none_iff.mpr (by rw [sl_len]; omega), List.getElem?_eq_none_iff.mpr (by rw [sl_len]; omega)]
theorem sl_take (g : Nat → Nat) (s n k : Nat) (h : k ≤ n) : (sl g s n).take k = sl g s k := by
  rw [show n = k + (n - k) by omega, sl_app, List.take_append_of_le_length (by rw [sl_len]; exact Nat.le_refl _), List.take_of_length_le (by rw [sl_len]; exact Nat.le_refl _)]
theorem sl_congr {g h : Nat → Nat} {s t n : Nat} (e : ∀ i, i < n → g (s + i) = h (t + i)) : sl g s n = sl h t n := sl_eq.mpr e
section
variable {G : aw_G} {nx d : Nat} {w : Nat → va_E}
theorem s_Tx_empty {a m : Nat} {s : List Nat} (ha : a < nx) (h : hTx G w a m s) : AC G y_Tx_empty b_Tx_empty 1 none d false [rf G a] nx w 0 0 (fun r w' nx' => r = none ∧ nx' = nx ∧ hTx G w' a m [] ∧ fr a (a + 2) w w') := by
  obtain ⟨g, h1, h2, h3, h4, h5⟩ := h
  refine (c_Tx_empty ha h1).weak ?_
  rintro r w' nx' ⟨rfl, rfl, rfl⟩
  exact ⟨rfl, rfl, ⟨g, aw_up_eq _ _ _, by rw [aw_up_ne _ _ (by omega)]; exact h2, rfl, Nat.zero_le _, h5⟩, (fr.refl _ _ _).up _ (by omega)⟩
theorem s_Tx_add {a m x : Nat} {s : List Nat} (ha : a + 1 < nx) (hm : m < 2 ^ 20) (hx : x < 65536) (h : hTx G w a m s) : AC G y_Tx_add b_Tx_add 2 (some .boolean) d false [rf G a, .int (nI x)] nx w 0 0 (fun r w' nx' => nx' = nx ∧ r = some (.int (nI (bN (decide (s.length < m))))) ∧ hTx G w' a m ((s ++ [x]).take m) ∧ fr a (a + 2) w w') := by
  have hh := h
  obtain ⟨g, h1, h2, h3, h4, h5⟩ := h
  refine (c_Tx_add (by omega) ha (by omega) (by omega) hx h4 h1 h2).weak ?_
  rintro r w' nx' ⟨rfl, ⟨q, rfl, rfl⟩ | ⟨q, rfl, rfl⟩⟩
  · refine ⟨rfl, by rw [decide_eq_true q]; rfl, ?_, ((fr.refl _ _ _).up _ (by omega)).up _ (by omega)⟩
    rw [List.take_of_length_le (by simp; omega)]
    refine ⟨aw_un g s.length x, ?_, ?_, ?_, by simp; omega, fun j => ?_⟩
    · rw [aw_up_eq]; simp
    · rw [aw_up_ne _ _ (by omega), aw_up_eq]
    · rw [List.length_append, List.length_singleton, sl_app]
      congr 1
      · conv => lhs; rw [h3]
        exact sl_congr (fun i hi => by rw [aw_un_ne _ _ (by omega)])
      · rw [sl_cons, sl_0, Nat.zero_add, aw_un_eq]
    · unfold aw_un; split
      · exact hx
      · exact h5 j
  · refine ⟨rfl, by rw [decide_eq_false (by omega)]; rfl, ?_, fr.refl _ _ _⟩
    rw [List.take_append_of_le_length q, List.take_of_length_le h4]
    exact hh
/-- addPart of the piece [u, v) of an array -/
theorem s_Tx_addPart {a m q l u v : Nat} {s : List Nat} {f : Nat → Nat} (ha : a + 1 < nx) (hq : q < nx) (hd : 1 ≤ d) (hm : m < 2 ^ 20) (hl : l < 2 ^ 20) (hst : u ≤ v) (htl : v ≤ l) (hf : ∀ j, f j < 65536) (h : hTx G w a m s) (h3 : w q = aCh G l f) : AC G y_Tx_addPart b_Tx_addPart 5 (some .boolean) d false [rf G a, rf G q, .int (nI u), .int (nI v)] nx w 0 0 (fun r w' nx' => nx' = nx ∧ r = some (.int (nI (bN (decide (s.length + (v - u) ≤ m))))) ∧ hTx G w' a m ((s ++ sl f u (v - u)).take m) ∧ fr a (a + 2) w w') := by
  have hh := h
  obtain ⟨g, h1, h2, h30, h4, h5⟩ := h
  refine (c_Tx_addPart (by omega) ha hq (by omega) hd hm hl h4 hst htl hf h1 h2 h3).weak ?_
  rintro r w' nx' ⟨rfl, rfl, rfl⟩
  refine ⟨rfl, rfl, ?_, ?_⟩
  · by_cases hk : min (v - u) (m - s.length) = 0
    · rw [if_pos hk]
      have e : (s ++ sl f u (v - u)).take m = s := by
        rcases (show v - u = 0 ∨ m = s.length by omega) with e | e
        · rw [e, sl_0, List.append_nil, List.take_of_length_le h4]
        · rw [e, List.take_append_of_le_length (Nat.le_refl _), List.take_of_length_le (Nat.le_refl _)]
      rw [e]
      exact hh
    · rw [if_neg hk]
      generalize hke : min (v - u) (m - s.length) = k at hk ⊢
      have e : (s ++ sl f u (v - u)).take m = s ++ sl f u k := by
        rw [List.take_append, List.take_of_length_le h4]
        congr 1
        rcases (show k = v - u ∧ v - u ≤ m - s.length ∨ k = m - s.length ∧ m - s.length ≤ v - u by omega) with ⟨e1, e2⟩ | ⟨e1, e2⟩
        · rw [List.take_of_length_le (by rw [sl_len]; exact e2), e1]
        · rw [sl_take _ _ _ _ e2, e1]
      rw [e]
      refine ⟨aw_cpn f g u s.length k, ?_, ?_, ?_, by rw [List.length_append, sl_len]; omega, fun j => ?_⟩
      · rw [tx_add, aw_up_eq, List.length_append, sl_len]
      · rw [tx_add, aw_up_ne _ _ (by omega), aw_up_eq]
      · rw [List.length_append, sl_len, sl_app]
        congr 1
        · conv => lhs; rw [h30]
          exact sl_congr (fun i hi => by rw [aw_cpn, if_neg (by omega)])
        · exact sl_congr (fun i hi => by rw [aw_cpn, if_pos (by omega)]; congr 1; omega)
      · unfold aw_cpn; split
        · exact hf _
        · exact h5 _
  · split
    · exact fr.refl _ _ _
    · exact ((fr.refl _ _ _).up _ (by omega)).up _ (by omega)
theorem s_Tx_hasRoomFor {a m a2 m2 : Nat} {s s2 : List Nat} (ha : a + 1 < nx) (ha2 : a2 + 1 < nx) (hm : m < 2 ^ 20) (hm2 : m2 < 2 ^ 20) (h : hTx G w a m s) (h2 : hTx G w a2 m2 s2) : AC G y_Tx_hasRoomFor b_Tx_hasRoomFor 2 (some .boolean) d false [rf G a, rf G a2] nx w 0 0 (fun r w' nx' => nx' = nx ∧ w' = w ∧ r = some (.int (nI (bN (decide (s.length + s2.length ≤ m)))))) := by
  obtain ⟨g, h1, h2', h3, h4, h5⟩ := h
  obtain ⟨g2, e1, e2, e3, e4, e5⟩ := h2
  exact c_Tx_hasRoomFor (by omega) (by omega) (by omega) (by omega) h4 (by omega) h1 h2' e1
theorem s_Tx_set {a m q l u v : Nat} {s : List Nat} {f : Nat → Nat} (ha : a + 1 < nx) (hq : q < nx) (haq : a ≠ q) (hd : 2 ≤ d) (hm : m < 2 ^ 20) (hl : l < 2 ^ 20) (hst : u ≤ v) (htl : v ≤ l) (hf : ∀ j, f j < 65536) (h : hTx G w a m s) (h3 : w q = aCh G l f) : AC G y_Tx_set b_Tx_set 4 none d false [rf G a, rf G q, .int (nI u), .int (nI v)] nx w 0 0 (fun r w' nx' => nx' = nx ∧ r = none ∧ hTx G w' a m ((sl f u (v - u)).take m) ∧ fr a (a + 2) w w') := by
  obtain ⟨g, h1, h2, h30, h4, h5⟩ := h
  refine (c_Tx_set (by omega) ha hq (by omega) haq hd hm hl hst htl hf h1 h2 h3).weak ?_
  rintro r w' nx' ⟨rfl, rfl, rfl⟩
  refine ⟨rfl, rfl, ?_, ((fr.refl _ _ _).up _ (by omega)).up _ (by omega)⟩
  generalize hke : min (v - u) m = k
  have e : (sl f u (v - u)).take m = sl f u k := by
    rcases (show k = v - u ∧ v - u ≤ m ∨ k = m ∧ m ≤ v - u by omega) with ⟨e1, e2⟩ | ⟨e1, e2⟩
    · rw [List.take_of_length_le (by rw [sl_len]; exact e2), e1]
    · rw [sl_take _ _ _ _ e2, e1]
  rw [e]
  refine ⟨aw_cpn f g u 0 k, ?_, ?_, ?_, by rw [sl_len]; omega, fun j => ?_⟩
  · rw [aw_up_eq, sl_len]
  · rw [aw_up_ne _ _ (by omega), aw_up_eq]
  · rw [sl_len]
    exact sl_congr (fun i hi => by rw [aw_cpn, if_pos (by omega)]; congr 1; omega)
  · unfold aw_cpn; split
    · exact hf _
    · exact h5 _
theorem s_Tx_isSame {a m q l u v : Nat} {s : List Nat} {f : Nat → Nat} (ha : a + 1 < nx) (hq : q < nx) (hm : m < 2 ^ 20) (hl : l < 2 ^ 20) (hst : u ≤ v) (htl : v ≤ l) (hf : ∀ j, f j < 65536) (h : hTx G w a m s) (h3 : w q = aCh G l f) : AC G y_Tx_isSame b_Tx_isSame 5 (some .boolean) d false [rf G a, rf G q, .int (nI u), .int (nI v)] nx w 0 0 (fun r w' nx' => nx' = nx ∧ w' = w ∧ r = some (.int (nI (bN (decide (s = sl f u (v - u))))))) := by
  obtain ⟨g, h1, h2, h30, h4, h5⟩ := h
  have := c_Tx_isSame (d := d) (by omega) ha hq hm hl h4 hst htl h5 hf h1 h2 h3
  rwa [← h30] at this
end

