/-! Expander.act, makeText: the constants' switches. The state: front, present row, rows, table, what is made -/
def y_JE_ordinal : MethodName := ⟨"java/lang/Enum", "ordinal", "()I"⟩
abbrev b_JE_ordinal : ByteArray := prog_15_method_2_code
theorem d_JE_ordinal_0 : decode b_JE_ordinal 0 = .ok (.aload_n 0, 1) := by decide +kernel
theorem d_JE_ordinal_1 : decode b_JE_ordinal 1 = .ok (.getfield 7, 3) := by decide +kernel
theorem d_JE_ordinal_4 : decode b_JE_ordinal 4 = .ok (.ireturn, 1) := by decide +kernel
theorem q_JE_ordinal : aw_q1 y_JE_ordinal b_JE_ordinal 1 (some .int) 0 := ⟨k_659, k_69, ⟨by decide, by decide, by decide +kernel⟩, by decide⟩
abbrev XS : Type := List Nat × Option Nat × (Nat → List Nat) × List Def × List Nat
def hFr (G : aw_G) (w : Nat → va_E) (F : List Nat) : Prop := F.length ≤ 600 ∧ ∃ f : Nat → Nat, w 3 = oFr G 4 (600 - F.length) ∧ w 4 = aCh G 600 f ∧ F = sl f (600 - F.length) F.length ∧ ∀ j, f j < 65536
theorem hFr.keep {G : aw_G} {w w' : Nat → va_E} {F : List Nat} {lo hi : Nat} (h : hFr G w F) (hf : fr lo hi w w') (h1 : hi ≤ 3 ∨ 5 ≤ lo) : hFr G w' F := by
  obtain ⟨h0, f, a1, a2, a3⟩ := h
  exact ⟨h0, f, (hf _ (by omega)).trans a1, (hf _ (by omega)).trans a2, a3⟩
def hX (G : aw_G) (w : Nat → va_E) (q : XS) : Prop := hFr G w q.1 ∧ hRo G w q.2.1 q.2.2.1 ∧ hTa G w q.2.2.2.1 ∧ hEp G w ∧ hTx G w 416 601 q.2.2.2.2 ∧ hEx w G
/-- nothing but the front, the rows, the table, the expression and what is made has changed -/
def fx (w w' : Nat → va_E) : Prop := ∀ x, x < 3 ∨ (317 ≤ x ∧ x < 413) ∨ 418 ≤ x → w' x = w x
theorem fx.refl (w : Nat → va_E) : fx w w := fun _ _ => rfl
theorem fx.trans {w w1 w2 : Nat → va_E} (h1 : fx w w1) (h2 : fx w1 w2) : fx w w2 := fun x hx => (h2 x hx).trans (h1 x hx)
theorem fx.of {w w' : Nat → va_E} {lo hi : Nat} (h : fr lo hi w w') (h1 : 3 ≤ lo ∧ hi ≤ 317 ∨ 413 ≤ lo ∧ hi ≤ 418) : fx w w' := fun x hx => h x (by omega)
theorem hRdy.fx {G : aw_G} {w w' : Nat → va_E} {a : Nat} {t : Def} {ar : List (List Nat)} (h : hRdy G w a t ar) (ha : 321 ≤ a ∧ a + 7 ≤ 412) (hf : fx w w') : hRdy G w' a t ar := by
  obtain ⟨st, gg, dp, bg, c1, c2, c3, c4⟩ := h
  exact ⟨st, gg, dp, bg, ⟨(hf _ (by omega)).trans c1.1, ⟨(hf _ (by omega)).trans c1.2.1.1, c1.2.1.2.1.kept (hf _ (by omega)) (hf _ (by omega)), c1.2.1.2.2.kept (hf _ (by omega)) (hf _ (by omega))⟩, (hf _ (by omega)).trans c1.2.2⟩, c2, (hf _ (by omega)).trans c3, c4⟩
/-- what a builtin does beside the text that it makes: its error, the state -/
def actS (k : Nat) (ar : List (List Nat)) (va : Int64) (x' : ES) (q : XS) : Nat × XS :=
  if k = 0 then ((defS q.2.2.2.1 ar false).1, q.1, q.2.1, q.2.2.1, (defS q.2.2.2.1 ar false).2, q.2.2.2.2)
  else if k = 1 then ((defS q.2.2.2.1 ar true).1, q.1, q.2.1, q.2.2.1, (defS q.2.2.2.1 ar true).2, q.2.2.2.2)
  else if k = 2 then (0, q.1, q.2.1, q.2.2.1, popS q.2.2.2.1 (argOf ar 1), q.2.2.2.2)
  else if k = 3 then (0, q.1, q.2.1, q.2.2.1, q.2.2.2.1.filter (isn (argOf ar 1)), q.2.2.2.2)
  else if k = 12 then (0, q.1, chS (valL (argOf ar 1)), q.2.2)
  else if k = 13 then (e2 (undS q.2.1 q.2.2.1 ar).1, q.1, q.2.1, (undS q.2.1 q.2.2.1 ar).2, q.2.2.2)
  else if k = 15 then (0, q.1.drop (lnLen q.1), q.2)
  else if k = 7 then (rckS ((argOf ar 1).filter nbl) va x', q.1, q.2.1, q.2.2.1, q.2.2.2.1, if rckS ((argOf ar 1).filter nbl) va x' = 0 then (q.2.2.2.2 ++ dec va).take 601 else q.2.2.2.2)
  else (0, q)
section
variable {G : aw_G} {nx d : Nat} {w : Nat → va_E}
theorem c_JE_ordinal {k : Nat} (hk : k < 16) : AC G y_JE_ordinal b_JE_ordinal 1 (some .int) d false [.ref (G.2.2.2.2 k)] nx w 0 0 (fun r w' nx' => nx' = nx ∧ w' = w ∧ r = some (.int (nI k))) := by
  refine AC.ofW (by decide) (Nat.le_of_ble_eq_true rfl) ?_
  intro E P hP Y X
  have X : aw_X G "java/lang/Enum" b_JE_ordinal 1 (some .int) "ordinal" _ _ _ _ _ E := X
  refine AW.eql (lv' := [(0, _)]) (by rfl) ?_
  refine aw_aload_n (pc := 0) X d_JE_ordinal_0 (by rfl) ?_
  -- field 1 lv=0:c st=c
  refine aw_getc (pc := 1) X (X.c.2.2.2.2.2.2 k hk).2.1 k_1164 d_JE_ordinal_1 ?_
  refine aw_iret Y X rfl d_JE_ordinal_4 (by omega) (by omega) (hP _ _ _ ?_)
  -- ret 4 lv=0:c st=n
  exact ⟨rfl, rfl, rfl⟩
end

