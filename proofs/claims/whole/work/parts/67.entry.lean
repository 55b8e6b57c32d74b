/-! what holds at the law's entry, out of the Statement's words (written by wip/whole/mkentry.py) -/
def nar : List Cond := flatC (.and given_1 narrow_1)
def bnm (k : Nat) : String := (["DEFINE", "PUSHDEF", "POPDEF", "UNDEFINE", "IFDEF", "IFELSE", "INCR", "EVAL", "LEN", "SUBSTR", "INDEX", "SHIFT", "DIVERT", "UNDIVERT", "DIVNUM", "DNL"] : List String).getD k ""
def cix (k : Nat) : Nat := ([76, 82, 85, 88, 91, 94, 97, 100, 103, 106, 109, 112, 115, 118, 121, 124] : List Nat).getD k 0
def bst (k : Nat) : Term := .static "RescanDesk$BuiltIn" (bnm k) "LRescanDesk$BuiltIn;"
def bsr (k : Nat) : Term := .string "RescanDesk$BuiltIn" (cix k)
def bvl (k : Nat) : Term := .field (bsr k) "java/lang/String" "value" "[B"
def tAll : Term := .static "RescanDesk$BuiltIn" "ALL" "[LRescanDesk$BuiltIn;"
def tSw : Term := .static "RescanDesk$1" "$SwitchMap$RescanDesk$BuiltIn" "[I"
theorem nr_ex : ∀ k, k < 16 → nar[([51, 54, 58, 63, 69, 76, 84, 93, 103, 114, 126, 139, 153, 168, 184, 201] : List Nat).getD k 0]? = some (Cond.exactly (bst k) "RescanDesk$BuiltIn") := by decide +kernel
theorem nr_or : ∀ k, k < 16 → nar[([52, 55, 59, 64, 70, 77, 85, 94, 104, 115, 127, 140, 154, 169, 185, 202] : List Nat).getD k 0]? = some (Cond.eq (.field (bst k) "java/lang/Enum" "ordinal" "I") (.int (nI k))) := by decide +kernel
theorem nr_wd : ∀ k, k < 16 → nar[([53, 56, 60, 65, 71, 78, 86, 95, 105, 116, 128, 141, 155, 170, 186, 203] : List Nat).getD k 0]? = some (Cond.eq (.field (bst k) "RescanDesk$BuiltIn" "word" "Ljava/lang/String;") (bsr k)) := by decide +kernel
theorem nr_sx : ∀ k, k < 16 → nar[([245, 255, 267, 279, 294, 307, 322, 336, 351, 366, 385, 404, 424, 446, 471, 495] : List Nat).getD k 0]? = some (Cond.exactly (bsr k) "java/lang/String") := by decide +kernel
theorem nr_co : ∀ k, k < 16 → nar[([246, 256, 268, 280, 295, 308, 323, 337, 352, 367, 386, 405, 425, 447, 472, 496] : List Nat).getD k 0]? = some (Cond.eq (.field (bsr k) "java/lang/String" "coder" "B") (.int (nI 0))) := by decide +kernel
theorem nr_ar : ∀ k, k < 16 → nar[([247, 257, 269, 281, 296, 309, 324, 338, 353, 368, 387, 406, 426, 448, 473, 497] : List Nat).getD k 0]? = some (Cond.arrayOf (bvl k) .byte) := by decide +kernel
theorem nr_ln : ∀ k, k < 16 → nar[([248, 258, 270, 282, 297, 310, 325, 339, 354, 369, 388, 407, 427, 449, 474, 498] : List Nat).getD k 0]? = some (Cond.eq (.length (bvl k)) (.int (Int32.ofNat (wrd k).length))) := by decide +kernel
theorem nr_el : ∀ k, k < 16 → ∀ j, j < (wrd k).length → nar[([249, 259, 271, 283, 298, 311, 326, 340, 355, 370, 389, 408, 428, 450, 475, 499] : List Nat).getD k 0 + j]? = some (Cond.eq (.elem (bvl k) (.int (Int32.ofNat j))) (.int (nI ((wrd k).getD j 0)))) := by decide +kernel
theorem nr_Aa : nar[6]? = some (Cond.arrayOf tAll (.object "RescanDesk$BuiltIn")) := by decide +kernel
theorem nr_Al : nar[7]? = some (Cond.eq (.length tAll) (.int (Int32.ofNat 16))) := by decide +kernel
theorem nr_Ae : ∀ k, k < 16 → nar[([9, 10, 11, 12, 13, 14, 15, 16, 17, 18, 19, 20, 21, 22, 23, 24] : List Nat).getD k 0]? = some (Cond.eq (.elem tAll (.int (Int32.ofNat k))) (bst k)) := by decide +kernel
theorem nr_Sa : nar[33]? = some (Cond.arrayOf tSw .int) := by decide +kernel
theorem nr_Sl : nar[34]? = some (Cond.eq (.length tSw) (.int (Int32.ofNat 16))) := by decide +kernel
theorem nr_Se : ∀ k, k < 16 → nar[([35, 36, 37, 38, 39, 40, 41, 42, 43, 44, 45, 46, 47, 48, 49, 50] : List Nat).getD k 0]? = some (Cond.eq (.elem tSw (.int (Int32.ofNat k))) (.int (nI (swm.getD k 0)))) := by decide +kernel
theorem nr_cs : nar[25]? = some (Cond.eq (.static "java/lang/String" "COMPACT_STRINGS" "Z") (.int (nI 1))) := by decide +kernel
theorem nr_pr : nar[26]? = some (Cond.isRef (.static "jdk/internal/util/Preconditions" "SIOOBE_FORMATTER" "Ljava/util/function/BiFunction;")) := by decide +kernel
theorem nr_t1 : nar[30]? = some (tz1) := by decide +kernel
theorem nr_t2 : nar[31]? = some (tz2) := by decide +kernel
theorem nr_na : nar[231]? = some (Cond.not (.castable nIOB nIAE)) := by decide +kernel
theorem lw_m1 {c : Cond} (i : Nat) (h : (tables_1_1)[i]? = some c) : c ∈ lw_tbl := List.mem_append_right _ (List.mem_append_left _ (List.mem_of_getElem? h))
theorem lw_m2 {c : Cond} (i : Nat) (h : (tables_1_2)[i]? = some c) : c ∈ lw_tbl := List.mem_append_right _ (List.mem_append_right _ (List.mem_append_left _ (List.mem_of_getElem? h)))
theorem lw_m3 {c : Cond} (i : Nat) (h : (tables_1_3)[i]? = some c) : c ∈ lw_tbl := List.mem_append_right _ (List.mem_append_right _ (List.mem_append_right _ (List.mem_append_left _ (List.mem_of_getElem? h))))
theorem lw_m4 {c : Cond} (i : Nat) (h : (tables_1_4)[i]? = some c) : c ∈ lw_tbl := List.mem_append_right _ (List.mem_append_right _ (List.mem_append_right _ (List.mem_append_right _ (List.mem_append_left _ (List.mem_of_getElem? h)))))
theorem lw_m5 {c : Cond} (i : Nat) (h : (tables_1_5)[i]? = some c) : c ∈ lw_tbl := List.mem_append_right _ (List.mem_append_right _ (List.mem_append_right _ (List.mem_append_right _ (List.mem_append_right _ (List.mem_of_getElem? h)))))
theorem cls_0 {s : State} {args : Array Value} (hA : ∀ w ∈ aw_tbl, w.before args s = true) : ∃ z : Nat → ClassId × (Nat → Nat), ∀ (c : Nat) (q : vw_C), classes[c]? = some q → u_Kn s q.1 q.2.1 q.2.2 (z c).1 (z c).2 := by
  have h : ∀ q ∈ classes, ∃ (cC : ClassId) (iS : Nat → Nat), u_Kn s q.1 q.2.1 q.2.2 cC iS := List.forall_mem_cons.mpr ⟨u_known hA in_Rd (hA _ k_89), List.forall_mem_cons.mpr ⟨u_known hA in_Tx (hA _ k_97), List.forall_mem_cons.mpr ⟨u_known hA in_Fr (hA _ k_127), List.forall_mem_cons.mpr ⟨u_known hA in_Ro (hA _ k_142), List.forall_mem_cons.mpr ⟨u_known hA in_Ta (hA _ k_161), List.forall_mem_cons.mpr ⟨u_known hA in_De (hA _ k_168), List.forall_mem_cons.mpr ⟨u_known hA in_Cs (hA _ k_262), List.forall_mem_cons.mpr ⟨u_known hA in_Ca (hA _ k_271), List.forall_mem_cons.mpr ⟨u_known hA in_Ex (hA _ k_328), List.forall_mem_cons.mpr ⟨u_known hA in_Ep (hA _ k_334), List.forall_mem_cons.mpr ⟨u_known hA in_Mo (hA _ k_837), fun _ h => absurd h List.not_mem_nil⟩⟩⟩⟩⟩⟩⟩⟩⟩⟩⟩
  have h0 : ∀ c : Nat, ∃ z : ClassId × (Nat → Nat), ∀ q : vw_C, classes[c]? = some q → u_Kn s q.1 q.2.1 q.2.2 z.1 z.2 := by
    intro c
    cases hc : classes[c]? with
    | none => exact ⟨(0, fun _ => 0), fun q hq => by cases hq⟩
    | some q =>
      obtain ⟨cC, iS, hk⟩ := h q (List.mem_of_getElem? hc)
      exact ⟨(cC, iS), fun q2 h2 => by cases h2; exact hk⟩
  exact Classical.axiomOfChoice h0
theorem arr_p {s : State} {args : Array Value} {ty : FieldType} (hty : ∀ C, ty ≠ .object C) (h : (Cond.arrayClass ty).before args s = true) : ∃ cA : ClassId, ArrOfT s cA ty ∧ va_RA s cA ty := by
  obtain ⟨c, k, comp, h1, h2, h3⟩ := Cond.arrayClass_spec h
  refine ⟨c, fun N z => ⟨(fun k h => by cases h), k, h2, comp, h3⟩, ?_⟩
  cases ty with
  | object C => exact absurd rfl (hty C)
  | _ => exact h1
theorem arr_q {s : State} {args : Array Value} {C : String} (h : (Cond.arrayOver (.object C)).before args s = true) : ∃ cA : ClassId, ArrOfT s cA (.object C) ∧ va_RA s cA (.object C) := by
  obtain ⟨comp, c, k, h1, h2, h3, h4, h5⟩ := Cond.arrayOver_spec h
  exact ⟨c, fun N z => ⟨(fun k h => by cases h), k, h3, comp, h4⟩, k, comp, h3, h4, h1, h5⟩
theorem va_T.congr {ty : FieldType} {t N : Nat} {f g : Nat → Value} {A : Nat → Prop} {U : State} {H : Heap} (h : va_T ty t N f A U H) (e : ∀ j, j < N → f j = g j) : va_T ty t N g A U H := by
  obtain ⟨cell, h1, h2, h3, h4, h5, h6, h7⟩ := h
  exact ⟨cell, h1, h2, h3, h4, h5, fun j hj => by rw [h6 j hj, e j hj], h7⟩
theorem aw_N0 {w : Cond} (hn : aw_isNest w = true) {A : Array Value} {U : State} (h : w.before A U = true) : va_Nw w U := by
  cases w with
  | fieldLinkNest => exact va_Nw.of rfl h
  | methodLinkNest => exact va_Nw.of rfl h
  | arrayOver t => cases t with
    | object C => exact h
    | _ => cases hn
  | _ => cases hn
theorem tzL_of {args : Array Value} {s : State} {C n d : String} {A : Nat → Prop} (hl : (Cond.laysStatic C n d).before args s = true) (h : (Cond.isRef (.static C n d)).before args s = true) (hA : ∀ a : Nat, a < s.heap.size → ¬ A a) : tzL C n d A s s.heap := by
  obtain ⟨c, k, i, f, a, cell, hc, hi, hst, ha, hcell, hs, hcls, hlt, hty⟩ := Cond.laysStatic_spec hl
  cases hv : (Term.static C n d).eval args s none [] s with
  | none => simp [Cond.before, Cond.holds, Cond.value, hv] at h
  | some w =>
    obtain ⟨hst', a', cell', ha', hcell', -, hslot⟩ := Term.static_spec hi hv
    cases ha.symm.trans ha'
    cases hcell.symm.trans hcell'
    refine ⟨c, k, i, f, a, cell, hc, hi, hst, ha, hcell, hs, hcls, hlt, hty, ?_, hA a (Array.getElem?_eq_some_iff.mp hcell).1⟩
    simp only [Cond.before, Cond.holds, Cond.value, hv] at h
    cases w with
    | null => exact Or.inl hslot
    | ref t => exact Or.inr ⟨t, hslot⟩
    | _ => simp at h
theorem con_0 {s : State} {args : Array Value} {A : Nat → Prop} (hn : ∀ c ∈ nar, c.before args s = true) (hA : ∀ a : Nat, a < s.heap.size → ¬ A a) : ∃ q : Nat → Nat × Nat × Nat, ∀ k, k < 16 → (bst k).eval args s none [] s = some (.ref (q k).1) ∧ va_O "RescanDesk$BuiltIn" (q k).1 A s s.heap ∧ va_OF "java/lang/Enum" "ordinal" "I" (.int (nI k)) (q k).1 A s s.heap ∧ va_OF "RescanDesk$BuiltIn" "word" "Ljava/lang/String;" (.ref (q k).2.1) (q k).1 A s s.heap ∧ va_O "java/lang/String" (q k).2.1 A s s.heap ∧ va_OF "java/lang/String" "coder" "B" (.int (nI 0)) (q k).2.1 A s s.heap ∧ va_OF "java/lang/String" "value" "[B" (.ref (q k).2.2) (q k).2.1 A s s.heap ∧ va_T .byte (q k).2.2 (wrd k).length (fun i => .int (nI ((wrd k).getD i 0))) A s s.heap := by
  have h0 : ∀ k : Nat, ∃ q : Nat × Nat × Nat, k < 16 → (bst k).eval args s none [] s = some (.ref q.1) ∧ va_O "RescanDesk$BuiltIn" q.1 A s s.heap ∧ va_OF "java/lang/Enum" "ordinal" "I" (.int (nI k)) q.1 A s s.heap ∧ va_OF "RescanDesk$BuiltIn" "word" "Ljava/lang/String;" (.ref q.2.1) q.1 A s s.heap ∧ va_O "java/lang/String" q.2.1 A s s.heap ∧ va_OF "java/lang/String" "coder" "B" (.int (nI 0)) q.2.1 A s s.heap ∧ va_OF "java/lang/String" "value" "[B" (.ref q.2.2) q.2.1 A s s.heap ∧ va_T .byte q.2.2 (wrd k).length (fun i => .int (nI ((wrd k).getD i 0))) A s s.heap := by
    intro k
    by_cases hk : k < 16
    · have x1 := hn _ (List.mem_of_getElem? (nr_ex k hk))
      have x2 := hn _ (List.mem_of_getElem? (nr_sx k hk))
      obtain ⟨a, c, cA, kA, q1, -⟩ := Cond.exactly_spec (args := args) (first := s) (o := none) (s := s) (idx := []) (t := bst k) (cls := "RescanDesk$BuiltIn") x1
      obtain ⟨a2, c2, cA2, kA2, q2, -⟩ := Cond.exactly_spec (args := args) (first := s) (o := none) (s := s) (idx := []) (t := bsr k) (cls := "java/lang/String") x2
      obtain ⟨t, ht, hT⟩ := va_Tof (tm := bvl k) (ty := .byte) (f := fun i => .int (nI ((wrd k).getD i 0))) (A := A) (Nat.lt_of_le_of_lt (wrd_len k hk).1 (by decide)) (hn _ (List.mem_of_getElem? (nr_ar k hk))) (va_eqt (hn _ (List.mem_of_getElem? (nr_ln k hk)))) (fun j hj => va_eqt (hn _ (List.mem_of_getElem? (nr_el k hk j hj)))) hA
      exact ⟨(a, a2, t), fun _ => ⟨q1, va_Oof x1 q1 hA, vk_OFof q1 (va_eqt (hn _ (List.mem_of_getElem? (nr_or k hk)))) hA, vk_OFof q1 (va_eqv (hn _ (List.mem_of_getElem? (nr_wd k hk))) q2) hA, va_Oof x2 q2 hA, vk_OFof q2 (va_eqt (hn _ (List.mem_of_getElem? (nr_co k hk)))) hA, vk_OFof q2 ht hA, hT⟩⟩
    · exact ⟨(0, 0, 0), fun h => absurd h hk⟩
  exact Classical.axiomOfChoice h0
theorem tzw_in : ∀ w ∈ tzw, w ∈ lw_tbl := List.forall_mem_cons.mpr ⟨lw_m2 136 rfl, List.forall_mem_cons.mpr ⟨lw_m2 138 rfl, List.forall_mem_cons.mpr ⟨lw_m2 140 rfl, List.forall_mem_cons.mpr ⟨lw_m2 135 rfl, List.forall_mem_cons.mpr ⟨lw_m4 41 rfl, fun _ h => absurd h List.not_mem_nil⟩⟩⟩⟩⟩
theorem entry_G {s : State} {args : Array Value} (l : Launch) (hts : ∀ w ∈ lw_tbl, w.before args s = true) (hn : ∀ c ∈ nar, c.before args s = true) : ∃ G : aw_G, G.1 = l ∧ G.2.2.1 = s.heap.size ∧ va_K G.2.1 classes (aw_tys G) s ∧ aw_K G s ∧ aw_T G s := by
  have hw : ∀ w ∈ aw_tbl, w.before args s = true := fun w h => hts w (List.mem_filter.mp h).1
  have hA : ∀ a : Nat, a < s.heap.size → ¬ (fun q : Nat => s.heap.size ≤ q) a := fun a h q => absurd h (Nat.not_lt.mpr q)
  obtain ⟨z, hz⟩ := cls_0 hw
  obtain ⟨q, hq⟩ := con_0 hn hA
  obtain ⟨c0, a0⟩ := arr_p (ty := .char) (fun C h => by cases h) (hw _ k_125)
  obtain ⟨c1, a1⟩ := arr_p (ty := .int) (fun C h => by cases h) (hw _ k_307)
  obtain ⟨c2, a2⟩ := arr_p (ty := .long) (fun C h => by cases h) (hw _ k_979)
  obtain ⟨c3, a3⟩ := arr_p (ty := .boolean) (fun C h => by cases h) (hw _ k_978)
  obtain ⟨c4, a4⟩ := arr_q (hts (.arrayOver (.object "RescanDesk$Text")) (lw_m1 86 rfl))
  obtain ⟨c5, a5⟩ := arr_q (hts (.arrayOver (.object "RescanDesk$Definition")) (lw_m1 105 rfl))
  obtain ⟨c6, a6⟩ := arr_q (hts (.arrayOver (.object "RescanDesk$Call")) (lw_m1 208 rfl))
  obtain ⟨tS, eS, hS⟩ := va_Tof (tm := tSw) (ty := .int) (N := 16) (f := fun i => .int (nI (swm.getD i 0))) (A := fun q : Nat => s.heap.size ≤ q) (by decide) (hn _ (List.mem_of_getElem? nr_Sa)) (va_eqt (hn _ (List.mem_of_getElem? nr_Sl))) (fun j hj => va_eqt (hn _ (List.mem_of_getElem? (nr_Se j hj)))) hA
  obtain ⟨tA, eA, hAl⟩ := va_Tof (tm := tAll) (ty := .object "RescanDesk$BuiltIn") (N := 16) (f := fun i => .ref (q i).1) (A := fun q : Nat => s.heap.size ≤ q) (by decide) (hn _ (List.mem_of_getElem? nr_Aa)) (va_eqt (hn _ (List.mem_of_getElem? nr_Al))) (fun j hj => va_eqv (hn _ (List.mem_of_getElem? (nr_Ae j hj))) (hq j hj).1) hA
  obtain ⟨ad, had⟩ : ∃ ad : Nat → Nat, ad = fun n => if n < 16 then (q n).1 else if n = 16 then tS else if n = 17 then tA else if n < 34 then (q (n - 18)).2.1 else (q (n - 34)).2.2 := ⟨_, rfl⟩
  have e1 : ∀ k, k < 16 → ad k = (q k).1 := fun k hk => by rw [had]; exact if_pos hk
  have e16 : ad 16 = tS := by rw [had]; rfl
  have e17 : ad 17 = tA := by rw [had]; rfl
  have e18 : ∀ k, k < 16 → ad (18 + k) = (q k).2.1 := fun k hk => by
    rw [had]
    show (if 18 + k < 16 then _ else if 18 + k = 16 then _ else if 18 + k = 17 then _ else if 18 + k < 34 then (q (18 + k - 18)).2.1 else _) = _
    rw [if_neg (by omega), if_neg (by omega), if_neg (by omega), if_pos (by omega), Nat.add_sub_cancel_left]
  have e34 : ∀ k, k < 16 → ad (34 + k) = (q k).2.2 := fun k hk => by
    rw [had]
    show (if 34 + k < 16 then _ else if 34 + k = 16 then _ else if 34 + k = 17 then _ else if 34 + k < 34 then _ else (q (34 + k - 34)).2.2) = _
    rw [if_neg (by omega), if_neg (by omega), if_neg (by omega), if_neg (by omega), Nat.add_sub_cancel_left]
  refine ⟨(l, (fun c => (z c).1, fun c => (z c).2), s.heap.size, fun n => match n with | 0 => c0 | 1 => c1 | 2 => c2 | 3 => c3 | 4 => c4 | 5 => c5 | _ => c6, ad), rfl, rfl, ⟨hz, fun k q2 h => (List.forall_mem_cons.mpr ⟨a0, List.forall_mem_cons.mpr ⟨a1, List.forall_mem_cons.mpr ⟨a2, List.forall_mem_cons.mpr ⟨a3, List.forall_mem_cons.mpr ⟨a4, List.forall_mem_cons.mpr ⟨a5, List.forall_mem_cons.mpr ⟨a6, fun _ h => absurd h List.not_mem_nil⟩⟩⟩⟩⟩⟩⟩ : ∀ q3 ∈ [(c0, FieldType.char), (c1, .int), (c2, .long), (c3, .boolean), (c4, .object "RescanDesk$Text"), (c5, .object "RescanDesk$Definition"), (c6, .object "RescanDesk$Call")], ArrOfT s q3.1 q3.2 ∧ va_RA s q3.1 q3.2) q2 (List.mem_of_getElem? h)⟩, ⟨fun w h => aw_N0 (List.mem_filter.mp h).2 (hts w (List.mem_filter.mp h).1), Nat.le_refl _, ?_, ?_, ?_, ?_, ?_, ?_, ?_⟩, fun w h => tzw_k (State.WarmedH.refl s) h (hts w (tzw_in w h)), ?_, ?_, ?_⟩
  · show va_Z _ _ _ (.ref (ad 16)) _ s s.heap
    rw [e16]
    exact va_Zof (hts _ (lw_m3 111 rfl)) (hw _ k_86) eS hA
  · show va_T _ (ad 16) _ _ _ s s.heap
    rw [e16]
    exact hS
  · show va_Z _ _ _ (.ref (ad 17)) _ s s.heap
    rw [e17]
    exact va_Zof (hts _ (lw_m1 128 rfl)) (hw _ k_70) eA hA
  · show va_T _ (ad 17) _ (fun i => .ref (ad i)) _ s s.heap
    rw [e17]
    exact hAl.congr (fun j hj => by rw [e1 j hj])
  · exact va_Zof (hts _ (lw_m1 146 rfl)) (hw _ k_71) (va_eqi (hn _ (List.mem_of_getElem? nr_cs))) hA
  · exact va_Zqof (hts _ (lw_m1 162 rfl)) (hw _ k_73) (hn _ (List.mem_of_getElem? nr_pr)) hA
  · intro k hk
    obtain ⟨-, g1, g2, g3, g4, g5, g6, g7⟩ := hq k hk
    show va_O _ (ad k) _ s s.heap ∧ va_OF _ _ _ _ (ad k) _ s s.heap ∧ va_OF _ _ _ (.ref (ad (18 + k))) (ad k) _ s s.heap ∧ va_O _ (ad (18 + k)) _ s s.heap ∧ va_OF _ _ _ _ (ad (18 + k)) _ s s.heap ∧ va_OF _ _ _ (.ref (ad (34 + k))) (ad (18 + k)) _ s s.heap ∧ va_T _ (ad (34 + k)) _ _ _ s s.heap
    rw [e1 k hk, e18 k hk, e34 k hk]
    exact ⟨g1, g2, g3, g4, g5, g6, g7⟩
  · exact tzL_of (hts _ (lw_m2 160 rfl)) (hn _ (List.mem_of_getElem? nr_t1)) hA
  · exact tzL_of (hts _ (lw_m2 162 rfl)) (hn _ (List.mem_of_getElem? nr_t2)) hA
  · exact Cond.notCastable_spec (hn _ (List.mem_of_getElem? nr_na))

