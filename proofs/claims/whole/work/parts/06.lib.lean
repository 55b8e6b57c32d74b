section AWL
variable {G : aw_G} {E : aw_E} {P : Option Value → (Nat → va_E) → Nat → Prop} {nL d mc ms nx n0 cells slots pc : Nat} {al : Bool} {w : Nat → va_E} {lv : List (Nat × Value)} {rest : List Value} {own nm : String} {cc : ByteArray} {ret : Option FieldType}
theorem aw_cpn_eq (f g : Nat → Nat) (sp dp n : Nat) : va_cpy (fun j => nI (f j)) (fun j => nI (g j)) sp dp n = fun j => nI (aw_cpn f g sp dp n j) := by
  funext j
  unfold va_cpy aw_cpn
  by_cases h : dp ≤ j ∧ j < dp + n
  · rw [if_pos h, if_pos h]
  · rw [if_neg h, if_neg h]
/-- System.arraycopy between two char arrays -/
theorem aw_copyC (X : aw_X G own cc nL ret nm al n0 d mc ms E) (a0 a1 : Nat) {n0' n1 sp dp n index : Nat} {f g : Nat → Nat} (ha0 : a0 < nx) (hw0 : w a0 = aArr (G.2.2.2.1 0) n0' f) (ha1 : a1 < nx) (hw1 : w a1 = aArr (G.2.2.2.1 0) n1 g) (h4 : sp + n ≤ n0') (h5 : dp + n ≤ n1) (hb0 : n0' < 2 ^ 31) (hb1 : n1 < 2 ^ 31) (hf : ∀ j, f j < 65536)
    (hlink : Cond.methodLink own index arraycopyName ∈ aw_tbl) (hnat : Cond.native arraycopyName ∈ aw_tbl) (hsta : Cond.static arraycopyName ∈ aw_tbl) (hini : Cond.initialized "java/lang/System" ∈ aw_tbl) (hd : 1 ≤ d) (hlo : (rest.map fun v => v.category).sum + (nativeFrameWords "java/lang/System" "arraycopy" 5 + 11) ≤ 40 * d) (hdg : decode cc pc = .ok (.invokestatic index, 3))
    (kk : AW G E nL nx cells slots (aw_up w a1 (aArr (G.2.2.2.1 0) n1 (aw_cpn f g sp dp n))) (pc + 3) lv rest) : AW G E nL nx cells slots w pc lv (.int (nI n) :: .int (nI dp) :: rf G a1 :: .int (nI sp) :: rf G a0 :: rest) := by
  intro H locs ls hP hS hl
  obtain ⟨hx, hb, hmx, hown, hts, -, -, -, hK, -, hbs, hsz, hRf, hRl, hRc, hRs⟩ := X
  have c1 : (nI sp).toNatClampNeg = sp := nI_clamp (by omega)
  have c2 : (nI dp).toNatClampNeg = dp := nI_clamp (by omega)
  have c3 : (nI n).toNatClampNeg = n := nI_clamp (by omega)
  have e0 : (aw_ws G.2.2.1 nx w)[a0]? = some (G.2.2.1 + a0, .inl (G.2.2.2.1 0, n0', .inl (fun j => nI (f j)))) := by rw [aw_ws_get ha0, hw0]; rfl
  have e1 : (aw_ws G.2.2.1 nx w)[a1]? = some (G.2.2.1 + a1, .inl (G.2.2.2.1 0, n1, .inl (fun j => nI (g j)))) := by rw [aw_ws_get ha1, hw1]; rfl
  have et : (aw_tys G)[0]? = some (G.2.2.2.1 0, .char) := rfl
  refine va_copyi (ty := .char) (c0 := G.2.2.2.1 0) (c1 := G.2.2.2.1 0) (n0 := n0') (n1 := n1) (f := fun j => nI (f j)) (g := fun j => nI (g j)) (sp := nI sp) (dp := nI dp) (n := nI n) (A := aw_own G) hx hb (by rw [hmx]; exact hl.1.symm) hown (hts _ hlink) (hts _ hnat) (hts _ hsta) (hts _ hini) hK hP aw_D hS a0 a1 0 0 e0 e1 et et rfl (nI_pos (by omega)) (nI_pos (by omega)) (nI_pos (by omega)) (by rw [c1, c3]; exact h4) (by rw [c2, c3]; exact h5) (fun i _ => (pk_charN (hf _)).2) (Nat.le_trans hd hRf) (Nat.le_trans hlo hRl) hdg (fun H1 locs1 hP1 hD1 hS1 => ?_)
  rw [c1, c2, c3, aw_cpn_eq, aw_ws_set _ ha1] at hP1
  exact kk H1 locs1 ls hP1 hS1 hl
theorem aw_mminN (X : aw_X G own cc nL ret nm al n0 d mc ms E) {x y index : Nat} (hx' : x < 2 ^ 31) (hy' : y < 2 ^ 31) (hlink : Cond.methodLink own index Lib.Math.min.name ∈ aw_tbl) (hsta : Cond.static Lib.Math.min.name ∈ aw_tbl) (hini : Cond.initialized "java/lang/Math" ∈ aw_tbl) (hcode : Cond.code Lib.Math.min.name Lib.Math.min.code 2 (some .int) ∈ aw_tbl) (hd : 1 ≤ d) (hlo : (rest.map fun v => v.category).sum + 13 ≤ 40 * d) (hc : cells ≤ mc) (hs : slots ≤ ms) (hdg : decode cc pc = .ok (.invokestatic index, 3))
    (kk : AW G E nL nx cells slots w (pc + 3) lv (.int (nI (min x y)) :: rest)) : AW G E nL nx cells slots w pc lv (.int (nI y) :: .int (nI x) :: rest) := by
  intro H locs ls hP hS hl
  obtain ⟨hx, hb, hmx, hown, hts, -, -, -, hK, -, hbs, hsz, hRf, hRl, hRc, hRs⟩ := X
  refine va_mmin hx hb (by rw [hmx]; exact hl.1.symm) hown (hts _ hlink) (hts _ hsta) (hts _ hini) (hts _ hcode) (Nat.le_trans hd hRf) (Nat.le_trans hlo hRl) (Nat.le_trans hc hRc) (Nat.le_trans hs hRs) hdg ?_
  have e : (if nI y < nI x then nI y else nI x) = nI (min x y) := by
    by_cases h : y < x
    · rw [if_pos ((nI_ltI hy' hx').mpr h), Nat.min_eq_right (Nat.le_of_lt h)]
    · rw [if_neg (fun q => h ((nI_ltI hy' hx').mp q)), Nat.min_eq_left (Nat.not_lt.mp h)]
  rw [e]
  exact kk H locs ls hP hS hl
theorem aw_mmaxN (X : aw_X G own cc nL ret nm al n0 d mc ms E) {x y index : Nat} (hx' : x < 2 ^ 31) (hy' : y < 2 ^ 31) (hlink : Cond.methodLink own index Lib.Math.max.name ∈ aw_tbl) (hsta : Cond.static Lib.Math.max.name ∈ aw_tbl) (hini : Cond.initialized "java/lang/Math" ∈ aw_tbl) (hcode : Cond.code Lib.Math.max.name Lib.Math.max.code 2 (some .int) ∈ aw_tbl) (hd : 1 ≤ d) (hlo : (rest.map fun v => v.category).sum + 13 ≤ 40 * d) (hc : cells ≤ mc) (hs : slots ≤ ms) (hdg : decode cc pc = .ok (.invokestatic index, 3))
    (kk : AW G E nL nx cells slots w (pc + 3) lv (.int (nI (max x y)) :: rest)) : AW G E nL nx cells slots w pc lv (.int (nI y) :: .int (nI x) :: rest) := by
  intro H locs ls hP hS hl
  obtain ⟨hx, hb, hmx, hown, hts, -, -, -, hK, -, hbs, hsz, hRf, hRl, hRc, hRs⟩ := X
  refine va_mmax hx hb (by rw [hmx]; exact hl.1.symm) hown (hts _ hlink) (hts _ hsta) (hts _ hini) (hts _ hcode) (Nat.le_trans hd hRf) (Nat.le_trans hlo hRl) (Nat.le_trans hc hRc) (Nat.le_trans hs hRs) hdg ?_
  have e : (if nI x < nI y then nI y else nI x) = nI (max x y) := by
    by_cases h : x < y
    · rw [if_pos ((nI_ltI hx' hy').mpr h), Nat.max_eq_right (Nat.le_of_lt h)]
    · rw [if_neg (fun q => h ((nI_ltI hx' hy').mp q)), Nat.max_eq_left (Nat.not_lt.mp h)]
  rw [e]
  exact kk H locs ls hP hS hl
theorem aw_mminL (X : aw_X G own cc nL ret nm al n0 d mc ms E) {x y : Int64} {index : Nat} (hlink : Cond.methodLink own index Lib.MathLoose.min_long.x ∈ aw_tbl) (hsta : Cond.static Lib.MathLoose.min_long.x ∈ aw_tbl) (hini : Cond.initialized "java/lang/Math" ∈ aw_tbl) (hcode : Cond.code Lib.MathLoose.min_long.x Lib.MathLoose.min_long.code 4 (some .long) ∈ aw_tbl) (hd : 1 ≤ d) (hlo : (rest.map fun v => v.category).sum + 15 ≤ 40 * d) (hc : cells ≤ mc) (hs : slots ≤ ms) (hdg : decode cc pc = .ok (.invokestatic index, 3))
    (kk : AW G E nL nx cells slots w (pc + 3) lv (.long (if y < x then y else x) :: rest)) : AW G E nL nx cells slots w pc lv (.long y :: .long x :: rest) := by
  intro H locs ls hP hS hl
  obtain ⟨hx, hb, hmx, hown, hts, -, -, -, hK, -, hbs, hsz, hRf, hRl, hRc, hRs⟩ := X
  exact va_mmin_long hx hb (by rw [hmx]; exact hl.1.symm) hown (hts _ hlink) (hts _ hsta) (hts _ hini) (hts _ hcode) (Nat.le_trans hd hRf) (Nat.le_trans hlo hRl) (Nat.le_trans hc hRc) (Nat.le_trans hs hRs) hdg (kk H locs ls hP hS hl)
theorem aw_mmaxL (X : aw_X G own cc nL ret nm al n0 d mc ms E) {x y : Int64} {index : Nat} (hlink : Cond.methodLink own index Lib.MathLoose.max_long.x ∈ aw_tbl) (hsta : Cond.static Lib.MathLoose.max_long.x ∈ aw_tbl) (hini : Cond.initialized "java/lang/Math" ∈ aw_tbl) (hcode : Cond.code Lib.MathLoose.max_long.x Lib.MathLoose.max_long.code 4 (some .long) ∈ aw_tbl) (hd : 1 ≤ d) (hlo : (rest.map fun v => v.category).sum + 15 ≤ 40 * d) (hc : cells ≤ mc) (hs : slots ≤ ms) (hdg : decode cc pc = .ok (.invokestatic index, 3))
    (kk : AW G E nL nx cells slots w (pc + 3) lv (.long (if y < x then x else y) :: rest)) : AW G E nL nx cells slots w pc lv (.long y :: .long x :: rest) := by
  intro H locs ls hP hS hl
  obtain ⟨hx, hb, hmx, hown, hts, -, -, -, hK, -, hbs, hsz, hRf, hRl, hRc, hRs⟩ := X
  exact va_mmax_long hx hb (by rw [hmx]; exact hl.1.symm) hown (hts _ hlink) (hts _ hsta) (hts _ hini) (hts _ hcode) (Nat.le_trans hd hRf) (Nat.le_trans hlo hRl) (Nat.le_trans hc hRc) (Nat.le_trans hs hRs) hdg (kk H locs ls hP hS hl)
end AWL
