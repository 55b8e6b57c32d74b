/-! what stays while nothing below our cells changes: links across the nest, constants -/
def aw_own (G : aw_G) : Nat → Prop := fun q => G.2.2.1 ≤ q
def aw_C (G : aw_G) (U : State) : Prop := G.2.2.1 ≤ U.heap.size
def aw_K (G : aw_G) (U : State) : Prop := (∀ w ∈ aw_nest, va_Nw w U) ∧ aw_C G U
theorem aw_Nk {u U : State} (hW : u.WarmedH U.vm) {w : Cond} (hn : aw_isNest w = true) (h : va_Nw w u) : va_Nw w U := by
  cases w with
  | fieldLinkNest a i b n d h9 => exact va_Nw.warmF hW h
  | methodLinkNest a i x h9 => exact va_Nw.warmM hW h
  | arrayOver t => cases t with
    | object C => exact va_AO.moved hW.alike h
    | _ => cases hn
  | _ => cases hn
theorem aw_Kk {G : aw_G} {u U : State} (hW : u.WarmedH U.vm) (hz : u.heap.size ≤ U.heap.size) (h : ∀ q : Nat, q < u.heap.size → ¬ aw_own G q → U.heap[q]? = u.heap[q]?) (hK : aw_K G u) : aw_K G U :=
  ⟨fun w hw => aw_Nk hW (List.mem_filter.mp hw).2 (hK.1 w hw), Nat.le_trans hK.2 hz⟩
