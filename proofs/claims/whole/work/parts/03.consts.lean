/-! what stays while nothing below our cells changes: links across the nest, constants -/
def aw_own (G : aw_G) : Nat → Prop := fun q => G.2.2.1 ≤ q
/-- the switch's table, by the constants' places -/
def swm : List Nat := [1, 2, 3, 4, 9, 10, 11, 8, 12, 13, 14, 15, 5, 6, 16, 7]
/-- the constants' words -/
def wrd (k : Nat) : List Nat := ([[100, 101, 102, 105, 110, 101], [112, 117, 115, 104, 100, 101, 102], [112, 111, 112, 100, 101, 102], [117, 110, 100, 101, 102, 105, 110, 101], [105, 102, 100, 101, 102], [105, 102, 101, 108, 115, 101], [105, 110, 99, 114], [101, 118, 97, 108], [108, 101, 110], [115, 117, 98, 115, 116, 114], [105, 110, 100, 101, 120], [115, 104, 105, 102, 116], [100, 105, 118, 101, 114, 116], [117, 110, 100, 105, 118, 101, 114, 116], [100, 105, 118, 110, 117, 109], [100, 110, 108]] : List (List Nat)).getD k []
/-- one constant, its word, the word's bytes: k the constant's place, 18 + k its word's, 34 + k that one's array's -/
def aw_C1 (G : aw_G) (U : State) (H : Heap) (k : Nat) : Prop :=
  va_O "RescanDesk$BuiltIn" (G.2.2.2.2 k) (aw_own G) U H ∧ va_OF "java/lang/Enum" "ordinal" "I" (.int (nI k)) (G.2.2.2.2 k) (aw_own G) U H ∧ va_OF "RescanDesk$BuiltIn" "word" "Ljava/lang/String;" (.ref (G.2.2.2.2 (18 + k))) (G.2.2.2.2 k) (aw_own G) U H ∧ va_O "java/lang/String" (G.2.2.2.2 (18 + k)) (aw_own G) U H ∧ va_OF "java/lang/String" "coder" "B" (.int (nI 0)) (G.2.2.2.2 (18 + k)) (aw_own G) U H ∧ va_OF "java/lang/String" "value" "[B" (.ref (G.2.2.2.2 (34 + k))) (G.2.2.2.2 (18 + k)) (aw_own G) U H ∧ va_T .byte (G.2.2.2.2 (34 + k)) (wrd k).length (fun i => .int (nI ((wrd k).getD i 0))) (aw_own G) U H
def aw_C2 (G : aw_G) (U : State) (H : Heap) : Prop :=
  va_Z "RescanDesk$1" "$SwitchMap$RescanDesk$BuiltIn" "[I" (.ref (G.2.2.2.2 16)) (aw_own G) U H ∧ va_T .int (G.2.2.2.2 16) 16 (fun i => .int (nI (swm.getD i 0))) (aw_own G) U H ∧
  va_Z "RescanDesk$BuiltIn" "ALL" "[LRescanDesk$BuiltIn;" (.ref (G.2.2.2.2 17)) (aw_own G) U H ∧ va_T (.object "RescanDesk$BuiltIn") (G.2.2.2.2 17) 16 (fun i => .ref (G.2.2.2.2 i)) (aw_own G) U H ∧
  va_Z "java/lang/String" "COMPACT_STRINGS" "Z" (.int (nI 1)) (aw_own G) U H ∧ va_Zq "jdk/internal/util/Preconditions" "SIOOBE_FORMATTER" "Ljava/util/function/BiFunction;" (aw_own G) U H ∧ ∀ k, k < 16 → aw_C1 G U H k
def aw_C (G : aw_G) (U : State) : Prop := G.2.2.1 ≤ U.heap.size ∧ aw_C2 G U U.heap
theorem aw_Ck {G : aw_G} {u U : State} {H H1 : Heap} (hv : u.vm.Alike U.vm) (hq : ∀ a : Nat, a < H.size → ¬ aw_own G a → H1[a]? = H[a]?) (h : aw_C2 G u H) : aw_C2 G U H1 := by
  obtain ⟨h1, h2, h3, h4, h5, h6, h7⟩ := h
  refine ⟨(h1.moved hv).kept hq, (h2.moved hv).kept hq, (h3.moved hv).kept hq, (h4.moved hv).kept hq, (h5.moved hv).kept hq, (h6.moved hv).kept hq, fun k hk => ?_⟩
  obtain ⟨a1, a2, a3, a4, a5, a6, a7⟩ := h7 k hk
  exact ⟨(a1.moved hv).kept hq, (a2.moved hv).kept hq, (a3.moved hv).kept hq, (a4.moved hv).kept hq, (a5.moved hv).kept hq, (a6.moved hv).kept hq, (a7.moved hv).kept hq⟩
def aw_K (G : aw_G) (U : State) : Prop := (∀ w ∈ aw_nest, va_Nw w U) ∧ aw_C G U
theorem aw_Nk {u U : State} (hW : u.WarmedH U.vm) {w : Cond} (hn : aw_isNest w = true) (h : va_Nw w u) : va_Nw w U := by
  cases w with
  | fieldLinkNest a i b n d h9 => exact va_Nw.warmF hW h
  | methodLinkNest a i x h9 => exact va_Nw.warmM hW h
  | arrayOver t => cases t with
    | object C => exact va_AO.moved hW.alike h
    | _ => cases hn
  | _ => cases hn
theorem aw_Kk {G : aw_G} {u U : State} (hW : u.WarmedH U.vm) (hz : u.heap.size ≤ U.heap.size) (h : ∀ q : Nat, q < u.heap.size → ¬ aw_own G q → U.heap[q]? = u.heap[q]?) (hK : aw_K G u) : aw_K G U :=
  ⟨fun w hw => aw_Nk hW (List.mem_filter.mp hw).2 (hK.1 w hw), Nat.le_trans hK.2.1 hz, aw_Ck hW.alike h hK.2.2⟩
