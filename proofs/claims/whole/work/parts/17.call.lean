/-! Table.pop, popAll; RescanDesk$Call: at a, its definition at a + 1, its starts at a + 6; the gathered characters' array is at 319 -/
def y_Ca_init : MethodName := ⟨"RescanDesk$Call", "<init>", "([C)V"⟩
abbrev b_Ca_init : ByteArray := prog_4_method_1_code
theorem d_Ca_init_0 : decode b_Ca_init 0 = .ok (.aload_n 0, 1) := by decide +kernel
theorem d_Ca_init_1 : decode b_Ca_init 1 = .ok (.invokespecial 3, 3) := by decide +kernel
theorem d_Ca_init_4 : decode b_Ca_init 4 = .ok (.aload_n 0, 1) := by decide +kernel
theorem d_Ca_init_5 : decode b_Ca_init 5 = .ok (.new 9, 3) := by decide +kernel
theorem d_Ca_init_8 : decode b_Ca_init 8 = .ok (.dup, 1) := by decide +kernel
theorem d_Ca_init_9 : decode b_Ca_init 9 = .ok (.invokespecial 11, 3) := by decide +kernel
theorem d_Ca_init_12 : decode b_Ca_init 12 = .ok (.putfield 12, 3) := by decide +kernel
theorem d_Ca_init_15 : decode b_Ca_init 15 = .ok (.aload_n 0, 1) := by decide +kernel
theorem d_Ca_init_16 : decode b_Ca_init 16 = .ok (.aload_n 1, 1) := by decide +kernel
theorem d_Ca_init_17 : decode b_Ca_init 17 = .ok (.putfield 18, 3) := by decide +kernel
theorem d_Ca_init_20 : decode b_Ca_init 20 = .ok (.aload_n 0, 1) := by decide +kernel
theorem d_Ca_init_21 : decode b_Ca_init 21 = .ok (.bipush 10, 2) := by decide +kernel
theorem d_Ca_init_23 : decode b_Ca_init 23 = .ok (.newarray .int, 2) := by decide +kernel
theorem d_Ca_init_25 : decode b_Ca_init 25 = .ok (.putfield 22, 3) := by decide +kernel
theorem d_Ca_init_28 : decode b_Ca_init 28 = .ok (.aload_n 0, 1) := by decide +kernel
theorem d_Ca_init_29 : decode b_Ca_init 29 = .ok (.iconst 0, 1) := by decide +kernel
theorem d_Ca_init_30 : decode b_Ca_init 30 = .ok (.putfield 26, 3) := by decide +kernel
theorem d_Ca_init_33 : decode b_Ca_init 33 = .ok (.aload_n 0, 1) := by decide +kernel
theorem d_Ca_init_34 : decode b_Ca_init 34 = .ok (.iconst 0, 1) := by decide +kernel
theorem d_Ca_init_35 : decode b_Ca_init 35 = .ok (.putfield 30, 3) := by decide +kernel
theorem d_Ca_init_38 : decode b_Ca_init 38 = .ok (.aload_n 0, 1) := by decide +kernel
theorem d_Ca_init_39 : decode b_Ca_init 39 = .ok (.iconst 0, 1) := by decide +kernel
theorem d_Ca_init_40 : decode b_Ca_init 40 = .ok (.putfield 33, 3) := by decide +kernel
theorem d_Ca_init_43 : decode b_Ca_init 43 = .ok (.return_, 1) := by decide +kernel
theorem q_Ca_init : aw_q1 y_Ca_init b_Ca_init 2 none 1 := ⟨k_274, k_76, ⟨by decide, by decide, by decide +kernel⟩, by decide⟩
def y_Ca_from : MethodName := ⟨"RescanDesk$Call", "from", "(I)I"⟩
abbrev b_Ca_from : ByteArray := prog_4_method_2_code
theorem d_Ca_from_0 : decode b_Ca_from 0 = .ok (.iload_n 1, 1) := by decide +kernel
theorem d_Ca_from_1 : decode b_Ca_from 1 = .ok (.iconst 1, 1) := by decide +kernel
theorem d_Ca_from_2 : decode b_Ca_from 2 = .ok (.if_icmp .lt 22, 3) := by decide +kernel
theorem d_Ca_from_5 : decode b_Ca_from 5 = .ok (.iload_n 1, 1) := by decide +kernel
theorem d_Ca_from_6 : decode b_Ca_from 6 = .ok (.aload_n 0, 1) := by decide +kernel
theorem d_Ca_from_7 : decode b_Ca_from 7 = .ok (.getfield 26, 3) := by decide +kernel
theorem d_Ca_from_10 : decode b_Ca_from 10 = .ok (.if_icmp .gt 14, 3) := by decide +kernel
theorem d_Ca_from_13 : decode b_Ca_from 13 = .ok (.aload_n 0, 1) := by decide +kernel
theorem d_Ca_from_14 : decode b_Ca_from 14 = .ok (.getfield 22, 3) := by decide +kernel
theorem d_Ca_from_17 : decode b_Ca_from 17 = .ok (.iload_n 1, 1) := by decide +kernel
theorem d_Ca_from_18 : decode b_Ca_from 18 = .ok (.iconst 1, 1) := by decide +kernel
theorem d_Ca_from_19 : decode b_Ca_from 19 = .ok (.isub, 1) := by decide +kernel
theorem d_Ca_from_20 : decode b_Ca_from 20 = .ok (.iaload, 1) := by decide +kernel
theorem d_Ca_from_21 : decode b_Ca_from 21 = .ok (.goto 4, 3) := by decide +kernel
theorem d_Ca_from_24 : decode b_Ca_from 24 = .ok (.iconst 0, 1) := by decide +kernel
theorem d_Ca_from_25 : decode b_Ca_from 25 = .ok (.ireturn, 1) := by decide +kernel
theorem q_Ca_from : aw_q1 y_Ca_from b_Ca_from 2 (some .int) 1 := ⟨k_630, k_76, ⟨by decide, by decide, by decide +kernel⟩, by decide⟩
def y_Ca_to : MethodName := ⟨"RescanDesk$Call", "to", "(I)I"⟩
abbrev b_Ca_to : ByteArray := prog_4_method_3_code
theorem d_Ca_to_0 : decode b_Ca_to 0 = .ok (.iload_n 1, 1) := by decide +kernel
theorem d_Ca_to_1 : decode b_Ca_to 1 = .ok (.iconst 1, 1) := by decide +kernel
theorem d_Ca_to_2 : decode b_Ca_to 2 = .ok (.if_icmp .lt 20, 3) := by decide +kernel
theorem d_Ca_to_5 : decode b_Ca_to 5 = .ok (.iload_n 1, 1) := by decide +kernel
theorem d_Ca_to_6 : decode b_Ca_to 6 = .ok (.aload_n 0, 1) := by decide +kernel
theorem d_Ca_to_7 : decode b_Ca_to 7 = .ok (.getfield 26, 3) := by decide +kernel
theorem d_Ca_to_10 : decode b_Ca_to 10 = .ok (.if_icmp .gt 12, 3) := by decide +kernel
theorem d_Ca_to_13 : decode b_Ca_to 13 = .ok (.aload_n 0, 1) := by decide +kernel
theorem d_Ca_to_14 : decode b_Ca_to 14 = .ok (.getfield 22, 3) := by decide +kernel
theorem d_Ca_to_17 : decode b_Ca_to 17 = .ok (.iload_n 1, 1) := by decide +kernel
theorem d_Ca_to_18 : decode b_Ca_to 18 = .ok (.iaload, 1) := by decide +kernel
theorem d_Ca_to_19 : decode b_Ca_to 19 = .ok (.goto 4, 3) := by decide +kernel
theorem d_Ca_to_22 : decode b_Ca_to 22 = .ok (.iconst 0, 1) := by decide +kernel
theorem d_Ca_to_23 : decode b_Ca_to 23 = .ok (.ireturn, 1) := by decide +kernel
theorem q_Ca_to : aw_q1 y_Ca_to b_Ca_to 2 (some .int) 1 := ⟨k_634, k_76, ⟨by decide, by decide, by decide +kernel⟩, by decide⟩
def y_Ca_length : MethodName := ⟨"RescanDesk$Call", "length", "(I)I"⟩
abbrev b_Ca_length : ByteArray := prog_4_method_4_code
theorem d_Ca_length_0 : decode b_Ca_length 0 = .ok (.aload_n 0, 1) := by decide +kernel
theorem d_Ca_length_1 : decode b_Ca_length 1 = .ok (.iload_n 1, 1) := by decide +kernel
theorem d_Ca_length_2 : decode b_Ca_length 2 = .ok (.invokevirtual 37, 3) := by decide +kernel
theorem d_Ca_length_5 : decode b_Ca_length 5 = .ok (.aload_n 0, 1) := by decide +kernel
theorem d_Ca_length_6 : decode b_Ca_length 6 = .ok (.iload_n 1, 1) := by decide +kernel
theorem d_Ca_length_7 : decode b_Ca_length 7 = .ok (.invokevirtual 41, 3) := by decide +kernel
theorem d_Ca_length_10 : decode b_Ca_length 10 = .ok (.isub, 1) := by decide +kernel
theorem d_Ca_length_11 : decode b_Ca_length 11 = .ok (.ireturn, 1) := by decide +kernel
theorem q_Ca_length : aw_q1 y_Ca_length b_Ca_length 2 (some .int) 1 := ⟨k_670, k_76, ⟨by decide, by decide, by decide +kernel⟩, by decide⟩
def y_Ca_value : MethodName := ⟨"RescanDesk$Call", "value", "(I)J"⟩
abbrev b_Ca_value : ByteArray := prog_4_method_5_code
theorem d_Ca_value_0 : decode b_Ca_value 0 = .ok (.aload_n 0, 1) := by decide +kernel
theorem d_Ca_value_1 : decode b_Ca_value 1 = .ok (.getfield 18, 3) := by decide +kernel
theorem d_Ca_value_4 : decode b_Ca_value 4 = .ok (.aload_n 0, 1) := by decide +kernel
theorem d_Ca_value_5 : decode b_Ca_value 5 = .ok (.iload_n 1, 1) := by decide +kernel
theorem d_Ca_value_6 : decode b_Ca_value 6 = .ok (.invokevirtual 41, 3) := by decide +kernel
theorem d_Ca_value_9 : decode b_Ca_value 9 = .ok (.aload_n 0, 1) := by decide +kernel
theorem d_Ca_value_10 : decode b_Ca_value 10 = .ok (.iload_n 1, 1) := by decide +kernel
theorem d_Ca_value_11 : decode b_Ca_value 11 = .ok (.invokevirtual 37, 3) := by decide +kernel
theorem d_Ca_value_14 : decode b_Ca_value 14 = .ok (.invokestatic 44, 3) := by decide +kernel
theorem d_Ca_value_17 : decode b_Ca_value 17 = .ok (.lreturn, 1) := by decide +kernel
theorem q_Ca_value : aw_q1 y_Ca_value b_Ca_value 2 (some .long) 1 := ⟨k_702, k_76, ⟨by decide, by decide, by decide +kernel⟩, by decide⟩
def y_Ca_isSame : MethodName := ⟨"RescanDesk$Call", "isSame", "(II)Z"⟩
abbrev b_Ca_isSame : ByteArray := prog_4_method_6_code
theorem d_Ca_isSame_0 : decode b_Ca_isSame 0 = .ok (.aload_n 0, 1) := by decide +kernel
theorem d_Ca_isSame_1 : decode b_Ca_isSame 1 = .ok (.iload_n 1, 1) := by decide +kernel
theorem d_Ca_isSame_2 : decode b_Ca_isSame 2 = .ok (.invokevirtual 48, 3) := by decide +kernel
theorem d_Ca_isSame_5 : decode b_Ca_isSame 5 = .ok (.aload_n 0, 1) := by decide +kernel
theorem d_Ca_isSame_6 : decode b_Ca_isSame 6 = .ok (.iload_n 2, 1) := by decide +kernel
theorem d_Ca_isSame_7 : decode b_Ca_isSame 7 = .ok (.invokevirtual 48, 3) := by decide +kernel
theorem d_Ca_isSame_10 : decode b_Ca_isSame 10 = .ok (.if_icmp .ne 17, 3) := by decide +kernel
theorem d_Ca_isSame_13 : decode b_Ca_isSame 13 = .ok (.aload_n 0, 1) := by decide +kernel
theorem d_Ca_isSame_14 : decode b_Ca_isSame 14 = .ok (.iload_n 2, 1) := by decide +kernel
theorem d_Ca_isSame_15 : decode b_Ca_isSame 15 = .ok (.iload_n 1, 1) := by decide +kernel
theorem d_Ca_isSame_16 : decode b_Ca_isSame 16 = .ok (.iconst 0, 1) := by decide +kernel
theorem d_Ca_isSame_17 : decode b_Ca_isSame 17 = .ok (.invokevirtual 51, 3) := by decide +kernel
theorem d_Ca_isSame_20 : decode b_Ca_isSame 20 = .ok (.ifCond .eq 7, 3) := by decide +kernel
theorem d_Ca_isSame_23 : decode b_Ca_isSame 23 = .ok (.iconst 1, 1) := by decide +kernel
theorem d_Ca_isSame_24 : decode b_Ca_isSame 24 = .ok (.goto 4, 3) := by decide +kernel
theorem d_Ca_isSame_27 : decode b_Ca_isSame 27 = .ok (.iconst 0, 1) := by decide +kernel
theorem d_Ca_isSame_28 : decode b_Ca_isSame 28 = .ok (.ireturn, 1) := by decide +kernel
theorem q_Ca_isSame : aw_q1 y_Ca_isSame b_Ca_isSame 3 (some .boolean) 2 := ⟨k_782, k_76, ⟨by decide, by decide, by decide +kernel⟩, by decide⟩
def y_Ca_stands : MethodName := ⟨"RescanDesk$Call", "stands", "(III)Z"⟩
abbrev b_Ca_stands : ByteArray := prog_4_method_7_code
theorem d_Ca_stands_0 : decode b_Ca_stands 0 = .ok (.aload_n 0, 1) := by decide +kernel
theorem d_Ca_stands_1 : decode b_Ca_stands 1 = .ok (.iload_n 1, 1) := by decide +kernel
theorem d_Ca_stands_2 : decode b_Ca_stands 2 = .ok (.invokevirtual 48, 3) := by decide +kernel
theorem d_Ca_stands_5 : decode b_Ca_stands 5 = .ok (.istore 4, 2) := by decide +kernel
theorem d_Ca_stands_7 : decode b_Ca_stands 7 = .ok (.iload_n 3, 1) := by decide +kernel
theorem d_Ca_stands_8 : decode b_Ca_stands 8 = .ok (.ifCond .lt 15, 3) := by decide +kernel
theorem d_Ca_stands_11 : decode b_Ca_stands 11 = .ok (.iload 4, 2) := by decide +kernel
theorem d_Ca_stands_13 : decode b_Ca_stands 13 = .ok (.aload_n 0, 1) := by decide +kernel
theorem d_Ca_stands_14 : decode b_Ca_stands 14 = .ok (.iload_n 2, 1) := by decide +kernel
theorem d_Ca_stands_15 : decode b_Ca_stands 15 = .ok (.invokevirtual 48, 3) := by decide +kernel
theorem d_Ca_stands_18 : decode b_Ca_stands 18 = .ok (.iload_n 3, 1) := by decide +kernel
theorem d_Ca_stands_19 : decode b_Ca_stands 19 = .ok (.isub, 1) := by decide +kernel
theorem d_Ca_stands_20 : decode b_Ca_stands 20 = .ok (.if_icmp .le 5, 3) := by decide +kernel
theorem d_Ca_stands_23 : decode b_Ca_stands 23 = .ok (.iconst 0, 1) := by decide +kernel
theorem d_Ca_stands_24 : decode b_Ca_stands 24 = .ok (.ireturn, 1) := by decide +kernel
theorem d_Ca_stands_25 : decode b_Ca_stands 25 = .ok (.iconst 0, 1) := by decide +kernel
theorem d_Ca_stands_26 : decode b_Ca_stands 26 = .ok (.istore 5, 2) := by decide +kernel
theorem d_Ca_stands_28 : decode b_Ca_stands 28 = .ok (.iload 5, 2) := by decide +kernel
theorem d_Ca_stands_30 : decode b_Ca_stands 30 = .ok (.iload 4, 2) := by decide +kernel
theorem d_Ca_stands_32 : decode b_Ca_stands 32 = .ok (.if_icmp .ge 42, 3) := by decide +kernel
theorem d_Ca_stands_35 : decode b_Ca_stands 35 = .ok (.aload_n 0, 1) := by decide +kernel
theorem d_Ca_stands_36 : decode b_Ca_stands 36 = .ok (.getfield 18, 3) := by decide +kernel
theorem d_Ca_stands_39 : decode b_Ca_stands 39 = .ok (.aload_n 0, 1) := by decide +kernel
theorem d_Ca_stands_40 : decode b_Ca_stands 40 = .ok (.iload_n 1, 1) := by decide +kernel
theorem d_Ca_stands_41 : decode b_Ca_stands 41 = .ok (.invokevirtual 41, 3) := by decide +kernel
theorem d_Ca_stands_44 : decode b_Ca_stands 44 = .ok (.iload 5, 2) := by decide +kernel
theorem d_Ca_stands_46 : decode b_Ca_stands 46 = .ok (.iadd, 1) := by decide +kernel
theorem d_Ca_stands_47 : decode b_Ca_stands 47 = .ok (.caload, 1) := by decide +kernel
theorem d_Ca_stands_48 : decode b_Ca_stands 48 = .ok (.aload_n 0, 1) := by decide +kernel
theorem d_Ca_stands_49 : decode b_Ca_stands 49 = .ok (.getfield 18, 3) := by decide +kernel
theorem d_Ca_stands_52 : decode b_Ca_stands 52 = .ok (.aload_n 0, 1) := by decide +kernel
theorem d_Ca_stands_53 : decode b_Ca_stands 53 = .ok (.iload_n 2, 1) := by decide +kernel
theorem d_Ca_stands_54 : decode b_Ca_stands 54 = .ok (.invokevirtual 41, 3) := by decide +kernel
theorem d_Ca_stands_57 : decode b_Ca_stands 57 = .ok (.iload_n 3, 1) := by decide +kernel
theorem d_Ca_stands_58 : decode b_Ca_stands 58 = .ok (.iadd, 1) := by decide +kernel
theorem d_Ca_stands_59 : decode b_Ca_stands 59 = .ok (.iload 5, 2) := by decide +kernel
theorem d_Ca_stands_61 : decode b_Ca_stands 61 = .ok (.iadd, 1) := by decide +kernel
theorem d_Ca_stands_62 : decode b_Ca_stands 62 = .ok (.caload, 1) := by decide +kernel
theorem d_Ca_stands_63 : decode b_Ca_stands 63 = .ok (.if_icmp .eq 5, 3) := by decide +kernel
theorem d_Ca_stands_66 : decode b_Ca_stands 66 = .ok (.iconst 0, 1) := by decide +kernel
theorem d_Ca_stands_67 : decode b_Ca_stands 67 = .ok (.ireturn, 1) := by decide +kernel
theorem d_Ca_stands_68 : decode b_Ca_stands 68 = .ok (.iinc 5 1, 3) := by decide +kernel
theorem d_Ca_stands_71 : decode b_Ca_stands 71 = .ok (.goto (-43), 3) := by decide +kernel
theorem d_Ca_stands_74 : decode b_Ca_stands 74 = .ok (.iconst 1, 1) := by decide +kernel
theorem d_Ca_stands_75 : decode b_Ca_stands 75 = .ok (.ireturn, 1) := by decide +kernel
theorem q_Ca_stands : aw_q1 y_Ca_stands b_Ca_stands 6 (some .boolean) 3 := ⟨k_787, k_76, ⟨by decide, by decide, by decide +kernel⟩, by decide⟩
def popS (T : List Def) (s : List Nat) : List Def := match tfind T s with
  | none => T
  | some i => T.eraseIdx i
def isn (s : List Nat) (t : Def) : Bool := decide (t.1 ≠ s)
def frm (st : Nat → Nat) (n i : Nat) : Nat := if 1 ≤ i ∧ i ≤ n then st (i - 1) else 0
def too (st : Nat → Nat) (n i : Nat) : Nat := if 1 ≤ i ∧ i ≤ n then st i else 0
/-- the argument of number i -/
def argL (gg st : Nat → Nat) (n i : Nat) : List Nat := sl gg (frm st n i) (too st n i - frm st n i)
def oCa (G : aw_G) (a n dp : Nat) (bg : Bool) : va_E := aObj 7 [rf G (a + 1), rf G 319, rf G (a + 6), .int (nI n), .int (nI dp), .int (nI (bN bg))]
def hCa (G : aw_G) (w : Nat → va_E) (a : Nat) (t : Def) (st : Nat → Nat) (n dp : Nat) (bg : Bool) : Prop := w a = oCa G a n dp bg ∧ hDe G w (a + 1) t ∧ w (a + 6) = aArr (G.2.2.2.1 1) 10 st
/-- the starts of n arguments: they rise, up to 400 -/
def okSt (st : Nat → Nat) (n : Nat) : Prop := n ≤ 9 ∧ (∀ i j, i ≤ j → j ≤ n → st i ≤ st j) ∧ st n ≤ 400
theorem okSt.ft {st : Nat → Nat} {n : Nat} (h : okSt st n) (i : Nat) : frm st n i ≤ too st n i ∧ too st n i ≤ 400 := by
  unfold frm too
  split
  · have h1 := h.2.1 (i - 1) i (by omega) (by omega)
    have h2 := h.2.1 i n (by omega) (by omega)
    have := h.2.2
    omega
  · omega
section
variable {G : aw_G} {nx d : Nat} {w : Nat → va_E}
theorem s_Ta_pop {T : List Def} {q l u v : Nat} {f : Nat → Nat} (hnx : 317 ≤ nx) (hq : q < nx) (hd : 2 ≤ d) (hl : l < 2 ^ 20) (huv : u ≤ v) (hvl : v ≤ l) (hf : ∀ j, f j < 65536) (h : hTa G w T) (h3 : w q = aCh G l f) : AC G y_Ta_pop b_Ta_pop 5 none d false [rf G 15, rf G q, .int (nI u), .int (nI v)] nx w 0 0 (fun r w' nx' => nx' = nx ∧ r = none ∧ hTa G w' (popS T (sl f u (v - u))) ∧ fr 15 17 w w') := by
  have h0 := h
  obtain ⟨fa, g, h⟩ := h
  obtain ⟨a1, a2, -⟩ := h
  refine AC.ofW (by decide) (Nat.le_of_ble_eq_true rfl) ?_
  intro E P hP Y X
  have X : aw_X G "RescanDesk$Table" b_Ta_pop 5 none "pop" _ _ _ _ _ E := X
  refine AW.eql (lv' := [(0, _), (1, _), (2, _), (3, _)]) (by rfl) ?_
  refine aw_aload_nR (pc := 0) X d_Ta_pop_0 (by rfl) ?_
  refine aw_aload_nR (pc := 1) X d_Ta_pop_1 (by rfl) ?_
  refine aw_iload_n (pc := 2) X d_Ta_pop_2 (by rfl) ?_
  refine aw_iload_n (pc := 3) X d_Ta_pop_3 (by rfl) ?_
  -- invokevirtual 4 lv=0:r,1:r,2:n,3:n st=n,n,r,r
  refine aw_callV (pc := 4) X _ (s_Ta_topmost (d := 1) hnx hq (by omega) hl huv hvl hf h0 h3) q_Ta_topmost k_415 k_416 k_417 (by omega) a2 (by rfl) d_Ta_pop_4 (by omega) (Nat.le_of_ble_eq_true rfl) ⟨by omega, by omega⟩ (fun h => by cases h) (fun r w2 nx2 hp => ?_)
  obtain ⟨rfl, rfl, rfl⟩ := hp
  cases ho : tfind T (sl f u (v - u)) with
  | none =>
    have e : popS T (sl f u (v - u)) = T := by rw [popS, ho]
    refine aw_istore (pc := 7) X (lv' := [(4, _), (0, _), (1, _), (2, _), (3, _)]) d_Ta_pop_7 (by decide) (by rfl) ?_
    refine aw_iload (pc := 9) X d_Ta_pop_9 (by rfl) ?_
    refine aw_iconst (pc := 11) X (v := -1) d_Ta_pop_11 (by decide) ?_
    refine aw_icmp_eq (pc := 12) X (tgt := 21) d_Ta_pop_12 (by rfl) (fun h12 => ?_) (fun h12 => ?_)
    -- br 12 lv=4:i,0:r,1:r,2:n,3:n st=
    · refine aw_vret Y X rfl d_Ta_pop_21 (by omega) (by omega) (hP _ _ _ ?_)
      -- ret 21 lv=4:i,0:r,1:r,2:n,3:n st=
      rw [e]
      exact ⟨rfl, rfl, h0, fr.refl _ _ _⟩
    · exact absurd rfl h12
  | some k =>
    have e : popS T (sl f u (v - u)) = T.eraseIdx k := by rw [popS, ho]
    have hk := tfd_lt ho
    refine aw_istore (pc := 7) X (lv' := [(4, _), (0, _), (1, _), (2, _), (3, _)]) d_Ta_pop_7 (by decide) (by rfl) ?_
    refine aw_iload (pc := 9) X d_Ta_pop_9 (by rfl) ?_
    refine aw_iconst (pc := 11) X (v := -1) d_Ta_pop_11 (by decide) ?_
    refine aw_icmp_eq (pc := 12) X (tgt := 21) d_Ta_pop_12 (by rfl) (fun h12 => ?_) (fun h12 => ?_)
    -- br 12 lv=4:i,0:r,1:r,2:n,3:n st=
    · exact absurd ((pV_inj (o := none) (i := k) (fun _ q => by cases q) (by omega)).mp h12.symm) (by simp)
    · refine aw_aload_nR (pc := 15) X d_Ta_pop_15 (by rfl) ?_
      refine aw_iload (pc := 16) X d_Ta_pop_16 (by rfl) ?_
      -- invokevirtual 18 lv=4:i,0:r,1:r,2:n,3:n st=i,r
      refine aw_callV (pc := 18) X _ (s_Ta_remove (d := 1) hnx hk h0) q_Ta_remove k_691 k_693 k_14 (by omega) a2 (by rfl) d_Ta_pop_18 (by omega) (Nat.le_of_ble_eq_true rfl) ⟨by omega, by omega⟩ (fun h => by cases h) (fun r w3 nx3 hp => ?_)
      obtain ⟨rfl, rfl, h4, hf4⟩ := hp
      refine aw_vret Y X rfl d_Ta_pop_21 (by omega) (by omega) (hP _ _ _ ?_)
      -- ret 21 lv=4:i,0:r,1:r,2:n,3:n st=
      rw [e]
      exact ⟨rfl, rfl, h4, hf4⟩
theorem s_Ta_popAll {T : List Def} {q l u v : Nat} {f : Nat → Nat} (hnx : 317 ≤ nx) (hq : q < nx) (hq2 : 317 ≤ q) (hd : 2 ≤ d) (hl : l < 2 ^ 20) (huv : u ≤ v) (hvl : v ≤ l) (hf : ∀ j, f j < 65536) (h : hTa G w T) (h3 : w q = aCh G l f) : AC G y_Ta_popAll b_Ta_popAll 5 none d false [rf G 15, rf G q, .int (nI u), .int (nI v)] nx w 0 0 (fun r w' nx' => nx' = nx ∧ r = none ∧ hTa G w' (T.filter (isn (sl f u (v - u)))) ∧ fr 15 17 w w') := by
  have h0 := h
  obtain ⟨fa, g, h⟩ := h
  obtain ⟨a1, a2, -⟩ := h
  refine AC.ofW (by decide) (Nat.le_of_ble_eq_true rfl) ?_
  intro E P hP Y X
  have X : aw_X G "RescanDesk$Table" b_Ta_popAll 5 none "popAll" _ _ _ _ _ E := X
  refine AW.eql (lv' := [(0, _), (1, _), (2, _), (3, _)]) (by rfl) ?_
  have L : ∀ i w1, i ≤ T.length → hTa G w1 (T.take i ++ (T.drop i).filter (isn (sl f u (v - u)))) → fr 15 17 w w1 → AW G E 5 nx 0 0 w1 8 [(4, .int (dV i)), (0, rf G 15), (1, rf G q), (2, .int (nI u)), (3, .int (nI v))] [] := by
    intro i
    induction i with
    | zero =>
      intro w1 hi h1 hfr
      refine aw_iload (pc := 8) X d_Ta_popAll_8 (by rfl) ?_
      refine aw_if_lt (pc := 10) X (tgt := 44) d_Ta_popAll_10 (by rfl) (fun h10 => ?_) (fun h10 => ?_)
      -- br 10 lv=4:i,0:r,1:r,2:n,3:n st=
      · refine aw_vret Y X rfl d_Ta_popAll_44 (by omega) (by omega) (hP _ _ _ ?_)
        -- ret 44 lv=4:i,0:r,1:r,2:n,3:n st=
        exact ⟨rfl, rfl, by simpa using h1, hfr⟩
      · exact absurd (show (-1 : Int32) < 0 by decide) h10
    | succ i ih =>
      intro w1 hi h1 hfr
      have h10 := h1
      obtain ⟨f1, g1, h1⟩ := h1
      obtain ⟨b1, b2, b3, b4, b5, b6⟩ := id h1
      have hlen : i < (T.take (i + 1) ++ (T.drop (i + 1)).filter (isn (sl f u (v - u)))).length := by simp; omega
      obtain ⟨x1, x2⟩ := b4 i (by omega)
      have htk : T.take (i + 1) = T.take i ++ [T[i]] := (List.take_append_getElem (by omega)).symm
      have hdr : T.drop i = T[i] :: T.drop (i + 1) := List.drop_eq_getElem_cons (by omega)
      have hti : (T.take (i + 1) ++ (T.drop (i + 1)).filter (isn (sl f u (v - u))))[i]? = some T[i] := by
        rw [List.getElem?_append_left (by simp; omega), List.getElem?_take_of_lt (by omega), List.getElem?_eq_getElem (by omega)]
      obtain ⟨c1, c2, c3⟩ := h1.at hti
      have c1' : w1 (17 + 5 * g1 i) = aObj 5 [rf G (17 + 5 * g1 i + 1), rf G (17 + 5 * g1 i + 3), kV G T[i].2.1] := c1
      have h31 : w1 q = aCh G l f := (hfr _ (by omega)).trans h3
      refine AW.eql (lv' := [(4, .int (nI i)), (0, rf G 15), (1, rf G q), (2, .int (nI u)), (3, .int (nI v))]) rfl ?_
      have fin : ∀ w2, hTa G w2 (T.take i ++ (T.drop i).filter (isn (sl f u (v - u)))) → fr 15 17 w w2 → AW G E 5 nx 0 0 w2 38 [(4, .int (nI i)), (0, rf G 15), (1, rf G q), (2, .int (nI u)), (3, .int (nI v))] [] := fun w2 q1 q2 => by
        refine aw_iinc (pc := 38) X (v := dV i) (lv' := [(4, _), (0, _), (1, _), (2, _), (3, _)]) d_Ta_popAll_38 (by rfl) (dV_dec i) (by decide) (by rfl) ?_
        refine aw_goto (pc := 41) X (tgt := 8) d_Ta_popAll_41 (by rfl) ?_
        -- stop 8 lv=4:i,0:r,1:r,2:n,3:n st=
        exact ih w2 (by omega) q1 q2
      refine aw_iload (pc := 8) X d_Ta_popAll_8 (by rfl) ?_
      refine aw_if_ltN (pc := 10) X (tgt := 44) d_Ta_popAll_10 (by rfl) (by omega) ?_
      refine aw_aload_nR (pc := 13) X d_Ta_popAll_13 (by rfl) ?_
      refine aw_getO (pc := 14) X _ 0 (by omega) (by (repeat (first | rw [aw_up_eq] | rw [aw_up_ne _ _ (by first | assumption | omega)])) <;> first | assumption | rfl) (by rfl) in_Ta (by decide) k_251 (by rfl) d_Ta_popAll_14 ?_
      refine aw_iload (pc := 17) X d_Ta_popAll_17 (by rfl) ?_
      refine aw_aaldN (pc := 19) X _ 5 (by omega) (by (repeat (first | rw [aw_up_eq] | rw [aw_up_ne _ _ (by first | assumption | omega)])) <;> first | assumption | rfl) (by rfl) (by omega) (by omega) (by assumption) d_Ta_popAll_19 ?_
      refine aw_getNO (pc := 20) X _ 0 (by omega) (by (repeat (first | rw [aw_up_eq] | rw [aw_up_ne _ _ (by first | assumption | omega)])) <;> first | assumption | rfl) (by rfl) in_De (by decide) k_176 (by rfl) d_Ta_popAll_20 ?_
      refine aw_aload_nR (pc := 23) X d_Ta_popAll_23 (by rfl) ?_
      refine aw_iload_n (pc := 24) X d_Ta_popAll_24 (by rfl) ?_
      refine aw_iload_n (pc := 25) X d_Ta_popAll_25 (by rfl) ?_
      -- invokevirtual 26 lv=4:n,0:r,1:r,2:n,3:n st=n,n,r,r
      refine aw_callV (pc := 26) X _ (s_Tx_isSame (d := 0) (a := 17 + 5 * g1 i + 1) (m := 12) (by omega) hq (by omega) hl huv hvl hf c2 h31) q_Tx_isSame k_419 k_420 k_421 (by omega) c2.obj (by rfl) d_Ta_popAll_26 (by omega) (Nat.le_of_ble_eq_true rfl) ⟨by omega, by omega⟩ (fun h => by cases h) (fun r w2 nx2 hp => ?_)
      obtain ⟨rfl, rfl, rfl⟩ := hp
      have hb := bN_lt (decide (T[i].1 = sl f u (v - u)))
      refine aw_if_eqN (pc := 29) X (tgt := 38) d_Ta_popAll_29 (by rfl) (by omega) (fun h29 => ?_) (fun h29 => ?_)
      -- br 29 lv=4:n,0:r,1:r,2:n,3:n st=
      · have hne := of_decide_eq_false (bN_eq.mp h29)
        refine fin _ ?_ hfr
        rw [hdr, List.filter_cons_of_pos (by simpa [isn] using hne)]
        rw [htk, List.append_assoc] at h10
        exact h10
      · have he := of_decide_eq_true (bN_ne.mp h29)
        refine aw_aload_nR (pc := 32) X d_Ta_popAll_32 (by rfl) ?_
        refine aw_iload (pc := 33) X d_Ta_popAll_33 (by rfl) ?_
        -- invokevirtual 35 lv=4:n,0:r,1:r,2:n,3:n st=n,r
        refine aw_callV (pc := 35) X _ (s_Ta_remove (d := 1) (p := i) hnx hlen h10) q_Ta_remove k_691 k_693 k_14 (by omega) b2 (by rfl) d_Ta_popAll_35 (by omega) (Nat.le_of_ble_eq_true rfl) ⟨by omega, by omega⟩ (fun h => by cases h) (fun r w3 nx3 hp => ?_)
        obtain ⟨rfl, rfl, h4, hf4⟩ := hp
        refine fin _ ?_ (hfr.trans hf4)
        rw [hdr, List.filter_cons_of_neg (by simp [isn, he])]
        have : (T.take (i + 1) ++ (T.drop (i + 1)).filter (isn (sl f u (v - u)))).eraseIdx i = T.take i ++ (T.drop (i + 1)).filter (isn (sl f u (v - u))) := by
          rw [htk, List.append_assoc, List.eraseIdx_append_of_length_le (by simp; omega)]
          have : i - (T.take i).length = 0 := by simp; omega
          rw [this]
          rfl
        rwa [this] at h4
  refine aw_aload_nR (pc := 0) X d_Ta_popAll_0 (by rfl) ?_
  refine aw_getO (pc := 1) X _ 1 (by omega) (by (repeat (first | rw [aw_up_eq] | rw [aw_up_ne _ _ (by first | assumption | omega)])) <;> first | assumption | rfl) (by rfl) in_Ta (by decide) k_254 (by rfl) d_Ta_popAll_1 ?_
  refine aw_iconstN (pc := 4) X 1 d_Ta_popAll_4 (by decide) ?_
  -- stop 5 lv=0:r,1:r,2:n,3:n st=n,n
  refine aw_isub (pc := 5) X d_Ta_popAll_5 ?_
  rw [dV_sub]
  refine aw_istore (pc := 6) X (lv' := [(4, _), (0, _), (1, _), (2, _), (3, _)]) d_Ta_popAll_6 (by decide) (by rfl) ?_
  -- stop 8 lv=4:i,0:r,1:r,2:n,3:n st=
  exact L T.length w (Nat.le_refl _) (by simpa using h0) (fr.refl _ _ _)
theorem c_Ca_from {a n dp i : Nat} {t : Def} {st : Nat → Nat} {bg : Bool} (ha : a + 6 < nx) (hi : i < 100) (ho : okSt st n) (h : hCa G w a t st n dp bg) : AC G y_Ca_from b_Ca_from 2 (some .int) d false [rf G a, .int (nI i)] nx w 0 0 (fun r w' nx' => nx' = nx ∧ w' = w ∧ r = some (.int (nI (frm st n i)))) := by
  obtain ⟨h1, -, h3⟩ := h
  have h1' : w a = aObj 7 [rf G (a + 1), rf G 319, rf G (a + 6), .int (nI n), .int (nI dp), .int (nI (bN bg))] := h1
  have hn := ho.1
  refine AC.ofW (by decide) (Nat.le_of_ble_eq_true rfl) ?_
  intro E P hP Y X
  have X : aw_X G "RescanDesk$Call" b_Ca_from 2 (some .int) "from" _ _ _ _ _ E := X
  refine AW.eql (lv' := [(0, _), (1, _)]) (by rfl) ?_
  refine aw_iload_n (pc := 0) X d_Ca_from_0 (by rfl) ?_
  refine aw_iconstN (pc := 1) X 1 d_Ca_from_1 (by decide) ?_
  refine aw_icmp_ltN (pc := 2) X (tgt := 24) d_Ca_from_2 (by rfl) (by omega) (by omega) (fun h2 => ?_) (fun h2 => ?_)
  -- br 2 lv=0:r,1:n st=
  · refine aw_iconstN (pc := 24) X 0 d_Ca_from_24 (by decide) ?_
    refine aw_iret Y X rfl d_Ca_from_25 (by omega) (by omega) (hP _ _ _ ?_)
    -- ret 25 lv=0:r,1:n st=n
    exact ⟨rfl, rfl, by rw [frm, if_neg (by omega)]⟩
  · refine aw_iload_n (pc := 5) X d_Ca_from_5 (by rfl) ?_
    refine aw_aload_nR (pc := 6) X d_Ca_from_6 (by rfl) ?_
    refine aw_getO (pc := 7) X _ 3 (by omega) (by (repeat (first | rw [aw_up_eq] | rw [aw_up_ne _ _ (by first | assumption | omega)])) <;> first | assumption | rfl) (by rfl) in_Ca (by decide) k_285 (by rfl) d_Ca_from_7 ?_
    refine aw_icmp_gtN (pc := 10) X (tgt := 24) d_Ca_from_10 (by rfl) (by omega) (by omega) (fun h10 => ?_) (fun h10 => ?_)
    -- br 10 lv=0:r,1:n st=
    · refine aw_iconstN (pc := 24) X 0 d_Ca_from_24 (by decide) ?_
      refine aw_iret Y X rfl d_Ca_from_25 (by omega) (by omega) (hP _ _ _ ?_)
      -- ret 25 lv=0:r,1:n st=n
      exact ⟨rfl, rfl, by rw [frm, if_neg (by omega)]⟩
    · refine aw_aload_nR (pc := 13) X d_Ca_from_13 (by rfl) ?_
      refine aw_getO (pc := 14) X _ 2 (by omega) (by (repeat (first | rw [aw_up_eq] | rw [aw_up_ne _ _ (by first | assumption | omega)])) <;> first | assumption | rfl) (by rfl) in_Ca (by decide) k_283 (by rfl) d_Ca_from_14 ?_
      refine aw_iload_n (pc := 17) X d_Ca_from_17 (by rfl) ?_
      refine aw_iconstN (pc := 18) X 1 d_Ca_from_18 (by decide) ?_
      refine aw_isubN (pc := 19) X d_Ca_from_19 (by omega) ?_
      refine aw_ialdN (pc := 20) X _ 1 (by omega) (by (repeat (first | rw [aw_up_eq] | rw [aw_up_ne _ _ (by first | assumption | omega)])) <;> first | assumption | rfl) (by rfl) (by omega) (by omega) d_Ca_from_20 ?_
      refine aw_goto (pc := 21) X (tgt := 25) d_Ca_from_21 (by rfl) ?_
      refine aw_iret Y X rfl d_Ca_from_25 (by omega) (by omega) (hP _ _ _ ?_)
      -- ret 25 lv=0:r,1:n st=n
      exact ⟨rfl, rfl, by rw [frm, if_pos (by omega)]⟩
theorem c_Ca_to {a n dp i : Nat} {t : Def} {st : Nat → Nat} {bg : Bool} (ha : a + 6 < nx) (hi : i < 100) (ho : okSt st n) (h : hCa G w a t st n dp bg) : AC G y_Ca_to b_Ca_to 2 (some .int) d false [rf G a, .int (nI i)] nx w 0 0 (fun r w' nx' => nx' = nx ∧ w' = w ∧ r = some (.int (nI (too st n i)))) := by
  obtain ⟨h1, -, h3⟩ := h
  have h1' : w a = aObj 7 [rf G (a + 1), rf G 319, rf G (a + 6), .int (nI n), .int (nI dp), .int (nI (bN bg))] := h1
  have hn := ho.1
  refine AC.ofW (by decide) (Nat.le_of_ble_eq_true rfl) ?_
  intro E P hP Y X
  have X : aw_X G "RescanDesk$Call" b_Ca_to 2 (some .int) "to" _ _ _ _ _ E := X
  refine AW.eql (lv' := [(0, _), (1, _)]) (by rfl) ?_
  refine aw_iload_n (pc := 0) X d_Ca_to_0 (by rfl) ?_
  refine aw_iconstN (pc := 1) X 1 d_Ca_to_1 (by decide) ?_
  refine aw_icmp_ltN (pc := 2) X (tgt := 22) d_Ca_to_2 (by rfl) (by omega) (by omega) (fun h2 => ?_) (fun h2 => ?_)
  -- br 2 lv=0:r,1:n st=
  · refine aw_iconstN (pc := 22) X 0 d_Ca_to_22 (by decide) ?_
    refine aw_iret Y X rfl d_Ca_to_23 (by omega) (by omega) (hP _ _ _ ?_)
    -- ret 23 lv=0:r,1:n st=n
    exact ⟨rfl, rfl, by rw [too, if_neg (by omega)]⟩
  · refine aw_iload_n (pc := 5) X d_Ca_to_5 (by rfl) ?_
    refine aw_aload_nR (pc := 6) X d_Ca_to_6 (by rfl) ?_
    refine aw_getO (pc := 7) X _ 3 (by omega) (by (repeat (first | rw [aw_up_eq] | rw [aw_up_ne _ _ (by first | assumption | omega)])) <;> first | assumption | rfl) (by rfl) in_Ca (by decide) k_285 (by rfl) d_Ca_to_7 ?_
    refine aw_icmp_gtN (pc := 10) X (tgt := 22) d_Ca_to_10 (by rfl) (by omega) (by omega) (fun h10 => ?_) (fun h10 => ?_)
    -- br 10 lv=0:r,1:n st=
    · refine aw_iconstN (pc := 22) X 0 d_Ca_to_22 (by decide) ?_
      refine aw_iret Y X rfl d_Ca_to_23 (by omega) (by omega) (hP _ _ _ ?_)
      -- ret 23 lv=0:r,1:n st=n
      exact ⟨rfl, rfl, by rw [too, if_neg (by omega)]⟩
    · refine aw_aload_nR (pc := 13) X d_Ca_to_13 (by rfl) ?_
      refine aw_getO (pc := 14) X _ 2 (by omega) (by (repeat (first | rw [aw_up_eq] | rw [aw_up_ne _ _ (by first | assumption | omega)])) <;> first | assumption | rfl) (by rfl) in_Ca (by decide) k_283 (by rfl) d_Ca_to_14 ?_
      refine aw_iload_n (pc := 17) X d_Ca_to_17 (by rfl) ?_
      refine aw_ialdN (pc := 18) X _ 1 (by omega) (by (repeat (first | rw [aw_up_eq] | rw [aw_up_ne _ _ (by first | assumption | omega)])) <;> first | assumption | rfl) (by rfl) (by omega) (by omega) d_Ca_to_18 ?_
      refine aw_goto (pc := 19) X (tgt := 23) d_Ca_to_19 (by rfl) ?_
      refine aw_iret Y X rfl d_Ca_to_23 (by omega) (by omega) (hP _ _ _ ?_)
      -- ret 23 lv=0:r,1:n st=n
      exact ⟨rfl, rfl, by rw [too, if_pos (by omega)]⟩
theorem c_Ca_length {a n dp i : Nat} {t : Def} {st : Nat → Nat} {bg : Bool} (ha : a + 6 < nx) (hd : 1 ≤ d) (hi : i < 100) (ho : okSt st n) (h : hCa G w a t st n dp bg) : AC G y_Ca_length b_Ca_length 2 (some .int) d false [rf G a, .int (nI i)] nx w 0 0 (fun r w' nx' => nx' = nx ∧ w' = w ∧ r = some (.int (nI (too st n i - frm st n i)))) := by
  have h1 := h.1
  have hft := ho.ft i
  refine AC.ofW (by decide) (Nat.le_of_ble_eq_true rfl) ?_
  intro E P hP Y X
  have X : aw_X G "RescanDesk$Call" b_Ca_length 2 (some .int) "length" _ _ _ _ _ E := X
  refine AW.eql (lv' := [(0, _), (1, _)]) (by rfl) ?_
  refine aw_aload_nR (pc := 0) X d_Ca_length_0 (by rfl) ?_
  refine aw_iload_n (pc := 1) X d_Ca_length_1 (by rfl) ?_
  -- invokevirtual 2 lv=0:r,1:n st=n,r
  refine aw_callV (pc := 2) X _ (c_Ca_to (d := 0) ha hi ho h) q_Ca_to k_671 k_632 k_633 (by omega) h1 (by rfl) d_Ca_length_2 (by omega) (Nat.le_of_ble_eq_true rfl) ⟨by omega, by omega⟩ (fun h => by cases h) (fun r w2 nx2 hp => ?_)
  obtain ⟨rfl, rfl, rfl⟩ := hp
  refine aw_aload_nR (pc := 5) X d_Ca_length_5 (by rfl) ?_
  refine aw_iload_n (pc := 6) X d_Ca_length_6 (by rfl) ?_
  -- invokevirtual 7 lv=0:r,1:n st=n,r,n
  refine aw_callV (pc := 7) X _ (c_Ca_from (d := 0) ha hi ho h) q_Ca_from k_672 k_628 k_629 (by omega) h1 (by rfl) d_Ca_length_7 (by omega) (Nat.le_of_ble_eq_true rfl) ⟨by omega, by omega⟩ (fun h => by cases h) (fun r w2 nx2 hp => ?_)
  obtain ⟨rfl, rfl, rfl⟩ := hp
  refine aw_isubN (pc := 10) X d_Ca_length_10 (by omega) ?_
  refine aw_iret Y X rfl d_Ca_length_11 (by omega) (by omega) (hP _ _ _ ?_)
  -- ret 11 lv=0:r,1:n st=n
  exact ⟨rfl, rfl, rfl⟩
theorem c_Ca_value {a n dp i : Nat} {t : Def} {st gg : Nat → Nat} {bg : Bool} (ha : a + 6 < nx) (h319 : 319 < nx) (hd : 2 ≤ d) (hi : i < 100) (ho : okSt st n) (h : hCa G w a t st n dp bg) (hg : ∀ j, gg j < 65536) (hgg : w 319 = aCh G 400 gg) : AC G y_Ca_value b_Ca_value 2 (some .long) d false [rf G a, .int (nI i)] nx w 0 0 (fun r w' nx' => nx' = nx ∧ w' = w ∧ r = some (.long (valL (argL gg st n i)))) := by
  have h1 := h.1
  have h1' : w a = aObj 7 [rf G (a + 1), rf G 319, rf G (a + 6), .int (nI n), .int (nI dp), .int (nI (bN bg))] := h1
  have hft := ho.ft i
  refine AC.ofW (by decide) (Nat.le_of_ble_eq_true rfl) ?_
  intro E P hP Y X
  have X : aw_X G "RescanDesk$Call" b_Ca_value 2 (some .long) "value" _ _ _ _ _ E := X
  refine AW.eql (lv' := [(0, _), (1, _)]) (by rfl) ?_
  refine aw_aload_nR (pc := 0) X d_Ca_value_0 (by rfl) ?_
  refine aw_getO (pc := 1) X _ 1 (by omega) (by (repeat (first | rw [aw_up_eq] | rw [aw_up_ne _ _ (by first | assumption | omega)])) <;> first | assumption | rfl) (by rfl) in_Ca (by decide) k_281 (by rfl) d_Ca_value_1 ?_
  refine aw_aload_nR (pc := 4) X d_Ca_value_4 (by rfl) ?_
  refine aw_iload_n (pc := 5) X d_Ca_value_5 (by rfl) ?_
  -- invokevirtual 6 lv=0:r,1:n st=n,r,r
  refine aw_callV (pc := 6) X _ (c_Ca_from (d := 0) ha hi ho h) q_Ca_from k_672 k_628 k_629 (by omega) h1 (by rfl) d_Ca_value_6 (by omega) (Nat.le_of_ble_eq_true rfl) ⟨by omega, by omega⟩ (fun h => by cases h) (fun r w2 nx2 hp => ?_)
  obtain ⟨rfl, rfl, rfl⟩ := hp
  refine aw_aload_nR (pc := 9) X d_Ca_value_9 (by rfl) ?_
  refine aw_iload_n (pc := 10) X d_Ca_value_10 (by rfl) ?_
  -- invokevirtual 11 lv=0:r,1:n st=n,r,n,r
  refine aw_callV (pc := 11) X _ (c_Ca_to (d := 0) ha hi ho h) q_Ca_to k_671 k_632 k_633 (by omega) h1 (by rfl) d_Ca_value_11 (by omega) (Nat.le_of_ble_eq_true rfl) ⟨by omega, by omega⟩ (fun h => by cases h) (fun r w2 nx2 hp => ?_)
  obtain ⟨rfl, rfl, rfl⟩ := hp
  refine aw_callSN (pc := 14) X (c_Rd_valueOf (d := 1) (q := 319) (l := 400) h319 (by omega) (by omega) hft.1 hft.2 hg hgg) q_Rd_valueOf k_703 k_704 d_Ca_value_14 (by omega) (Nat.le_of_ble_eq_true rfl) ⟨by omega, by omega⟩ (fun h => by cases h) (fun r w2 nx2 hp => ?_)
  obtain ⟨rfl, rfl, rfl⟩ := hp
  refine aw_lret Y X rfl d_Ca_value_17 (by omega) (by omega) (hP _ _ _ ?_)
  -- ret 17 lv=0:r,1:n st=l
  exact ⟨rfl, rfl, rfl⟩
/-- whether the argument x stands at place p of the argument y -/
def stnd (gg st : Nat → Nat) (n x y p : Nat) : Bool := decide (p + (argL gg st n x).length ≤ (argL gg st n y).length ∧ argL gg st n x = ((argL gg st n y).drop p).take (argL gg st n x).length)
theorem argL_len (gg st : Nat → Nat) (n i : Nat) : (argL gg st n i).length = too st n i - frm st n i := sl_len _ _ _
theorem sl_drop (g : Nat → Nat) (s n k : Nat) (h : k ≤ n) : (sl g s n).drop k = sl g (s + k) (n - k) := by
  conv => lhs; rw [show n = k + (n - k) by omega, sl_app]
  rw [List.drop_append_of_le_length (by rw [sl_len]; exact Nat.le_refl _), List.drop_of_length_le (by rw [sl_len]; exact Nat.le_refl _), List.nil_append]
theorem c_Ca_stands {a n dp x y p : Nat} {t : Def} {st gg : Nat → Nat} {bg : Bool} (ha : a + 6 < nx) (h319 : 319 < nx) (hd : 2 ≤ d) (hx : x < 100) (hy : y < 100) (hp0 : p ≤ too st n y - frm st n y) (ho : okSt st n) (h : hCa G w a t st n dp bg) (hg : ∀ j, gg j < 65536) (hgg : w 319 = aCh G 400 gg) : AC G y_Ca_stands b_Ca_stands 6 (some .boolean) d false [rf G a, .int (nI x), .int (nI y), .int (nI p)] nx w 0 0 (fun r w' nx' => nx' = nx ∧ w' = w ∧ r = some (.int (nI (bN (stnd gg st n x y p))))) := by
  have h1 := h.1
  have h1' : w a = aObj 7 [rf G (a + 1), rf G 319, rf G (a + 6), .int (nI n), .int (nI dp), .int (nI (bN bg))] := h1
  have hfx := ho.ft x
  have hfy := ho.ft y
  refine AC.ofW (by decide) (Nat.le_of_ble_eq_true rfl) ?_
  intro E P hP Y X
  have X : aw_X G "RescanDesk$Call" b_Ca_stands 6 (some .boolean) "stands" _ _ _ _ _ E := X
  refine AW.eql (lv' := [(0, _), (1, _), (2, _), (3, _)]) (by rfl) ?_
  refine aw_aload_nR (pc := 0) X d_Ca_stands_0 (by rfl) ?_
  refine aw_iload_n (pc := 1) X d_Ca_stands_1 (by rfl) ?_
  -- invokevirtual 2 lv=0:r,1:n,2:n,3:n st=n,r
  refine aw_callV (pc := 2) X _ (c_Ca_length (d := 1) ha (by omega) hx ho h) q_Ca_length k_783 k_668 k_669 (by omega) h1 (by rfl) d_Ca_stands_2 (by omega) (Nat.le_of_ble_eq_true rfl) ⟨by omega, by omega⟩ (fun h => by cases h) (fun r w2 nx2 hp => ?_)
  obtain ⟨rfl, rfl, rfl⟩ := hp
  refine aw_istore (pc := 5) X (lv' := [(4, _), (0, _), (1, _), (2, _), (3, _)]) d_Ca_stands_5 (by decide) (by rfl) ?_
  refine aw_iload_n (pc := 7) X d_Ca_stands_7 (by rfl) ?_
  refine aw_if_ltN (pc := 8) X (tgt := 23) d_Ca_stands_8 (by rfl) (by omega) ?_
  refine aw_iload (pc := 11) X d_Ca_stands_11 (by rfl) ?_
  refine aw_aload_nR (pc := 13) X d_Ca_stands_13 (by rfl) ?_
  refine aw_iload_n (pc := 14) X d_Ca_stands_14 (by rfl) ?_
  -- invokevirtual 15 lv=4:n,0:r,1:n,2:n,3:n st=n,r,n
  refine aw_callV (pc := 15) X _ (c_Ca_length (d := 1) ha (by omega) hy ho h) q_Ca_length k_783 k_668 k_669 (by omega) h1 (by rfl) d_Ca_stands_15 (by omega) (Nat.le_of_ble_eq_true rfl) ⟨by omega, by omega⟩ (fun h => by cases h) (fun r w2 nx2 hp => ?_)
  obtain ⟨rfl, rfl, rfl⟩ := hp
  refine aw_iload_n (pc := 18) X d_Ca_stands_18 (by rfl) ?_
  refine aw_isubN (pc := 19) X d_Ca_stands_19 (by omega) ?_
  refine aw_icmp_leN (pc := 20) X (tgt := 25) d_Ca_stands_20 (by rfl) (by omega) (by omega) (fun h20 => ?_) (fun h20 => ?_)
  -- br 20 lv=4:n,0:r,1:n,2:n,3:n st=
  · have hfit : p + (argL gg st n x).length ≤ (argL gg st n y).length := by rw [argL_len, argL_len]; omega
    have hcond : stnd gg st n x y p = true ↔ ∀ i, i < too st n x - frm st n x → gg (frm st n x + i) = gg (frm st n y + p + i) := by
      unfold stnd
      rw [decide_eq_true_iff]
      have e : ((argL gg st n y).drop p).take (argL gg st n x).length = sl gg (frm st n y + p) (too st n x - frm st n x) := by
        rw [argL_len]
        unfold argL
        rw [sl_drop _ _ _ _ (by omega), sl_take _ _ _ _ (by omega)]
      rw [e]
      exact ⟨fun q => sl_eq.mp q.2, fun q => ⟨hfit, sl_eq.mpr q⟩⟩
    have L : ∀ (k i : Nat), i + k = too st n x - frm st n x → (∀ j, j < i → gg (frm st n x + j) = gg (frm st n y + p + j)) → AW G E 6 nx2 0 0 w2 28 [(5, .int (nI i)), (4, .int (nI (too st n x - frm st n x))), (0, rf G a), (1, .int (nI x)), (2, .int (nI y)), (3, .int (nI p))] [] := by
      intro k
      induction k with
      | zero =>
        intro i hi hj
        refine aw_iload (pc := 28) X d_Ca_stands_28 (by rfl) ?_
        refine aw_iload (pc := 30) X d_Ca_stands_30 (by rfl) ?_
        refine aw_icmp_geN (pc := 32) X (tgt := 74) d_Ca_stands_32 (by rfl) (by omega) (by omega) (fun h32 => ?_) (fun h32 => ?_)
        -- br 32 lv=5:n,4:n,0:r,1:n,2:n,3:n st=
        · refine aw_iconstN (pc := 74) X 1 d_Ca_stands_74 (by decide) ?_
          refine aw_zret Y X rfl (by decide +kernel) d_Ca_stands_75 (by omega) (by omega) (hP _ _ _ ?_)
          -- ret 75 lv=5:n,4:n,0:r,1:n,2:n,3:n st=n
          exact ⟨rfl, rfl, by rw [hcond.mpr (fun j hj' => hj j (by omega))]; rfl⟩
        · omega
      | succ k ih =>
        intro i hi hj
        have q1 := hg (frm st n x + i)
        have q2 := hg (frm st n y + p + i)
        refine aw_iload (pc := 28) X d_Ca_stands_28 (by rfl) ?_
        refine aw_iload (pc := 30) X d_Ca_stands_30 (by rfl) ?_
        refine aw_icmp_geN (pc := 32) X (tgt := 74) d_Ca_stands_32 (by rfl) (by omega) (by omega) (fun h32 => ?_) (fun h32 => ?_)
        -- br 32 lv=5:n,4:n,0:r,1:n,2:n,3:n st=
        · omega
        · refine aw_aload_nR (pc := 35) X d_Ca_stands_35 (by rfl) ?_
          refine aw_getO (pc := 36) X _ 1 (by omega) (by (repeat (first | rw [aw_up_eq] | rw [aw_up_ne _ _ (by first | assumption | omega)])) <;> first | assumption | rfl) (by rfl) in_Ca (by decide) k_281 (by rfl) d_Ca_stands_36 ?_
          refine aw_aload_nR (pc := 39) X d_Ca_stands_39 (by rfl) ?_
          refine aw_iload_n (pc := 40) X d_Ca_stands_40 (by rfl) ?_
          -- invokevirtual 41 lv=5:n,4:n,0:r,1:n,2:n,3:n st=n,r,r
          refine aw_callV (pc := 41) X _ (c_Ca_from (d := 0) ha hx ho h) q_Ca_from k_672 k_628 k_629 (by omega) h1 (by rfl) d_Ca_stands_41 (by omega) (Nat.le_of_ble_eq_true rfl) ⟨by omega, by omega⟩ (fun h => by cases h) (fun r w2 nx2 hp => ?_)
          obtain ⟨rfl, rfl, rfl⟩ := hp
          refine aw_iload (pc := 44) X d_Ca_stands_44 (by rfl) ?_
          refine aw_iaddN (pc := 46) X d_Ca_stands_46 ?_
          refine aw_caldN (pc := 47) X _ 0 (by omega) (by (repeat (first | rw [aw_up_eq] | rw [aw_up_ne _ _ (by first | assumption | omega)])) <;> first | assumption | rfl) (by rfl) (by omega) (by omega) d_Ca_stands_47 ?_
          refine aw_aload_nR (pc := 48) X d_Ca_stands_48 (by rfl) ?_
          refine aw_getO (pc := 49) X _ 1 (by omega) (by (repeat (first | rw [aw_up_eq] | rw [aw_up_ne _ _ (by first | assumption | omega)])) <;> first | assumption | rfl) (by rfl) in_Ca (by decide) k_281 (by rfl) d_Ca_stands_49 ?_
          refine aw_aload_nR (pc := 52) X d_Ca_stands_52 (by rfl) ?_
          refine aw_iload_n (pc := 53) X d_Ca_stands_53 (by rfl) ?_
          -- invokevirtual 54 lv=5:n,4:n,0:r,1:n,2:n,3:n st=n,r,r,n
          refine aw_callV (pc := 54) X _ (c_Ca_from (d := 0) ha hy ho h) q_Ca_from k_672 k_628 k_629 (by omega) h1 (by rfl) d_Ca_stands_54 (by omega) (Nat.le_of_ble_eq_true rfl) ⟨by omega, by omega⟩ (fun h => by cases h) (fun r w2 nx2 hp => ?_)
          obtain ⟨rfl, rfl, rfl⟩ := hp
          refine aw_iload_n (pc := 57) X d_Ca_stands_57 (by rfl) ?_
          refine aw_iaddN (pc := 58) X d_Ca_stands_58 ?_
          refine aw_iload (pc := 59) X d_Ca_stands_59 (by rfl) ?_
          refine aw_iaddN (pc := 61) X d_Ca_stands_61 ?_
          refine aw_caldN (pc := 62) X _ 0 (by omega) (by (repeat (first | rw [aw_up_eq] | rw [aw_up_ne _ _ (by first | assumption | omega)])) <;> first | assumption | rfl) (by rfl) (by omega) (by omega) d_Ca_stands_62 ?_
          refine aw_icmp_eqN (pc := 63) X (tgt := 68) d_Ca_stands_63 (by rfl) (by omega) (by omega) (fun h63 => ?_) (fun h63 => ?_)
          -- br 63 lv=5:n,4:n,0:r,1:n,2:n,3:n st=
          · refine aw_iincN (pc := 68) X 1 (lv' := [(5, _), (4, _), (0, _), (1, _), (2, _), (3, _)]) d_Ca_stands_68 (by rfl) (by decide) (by decide) (by rfl) ?_
            refine aw_goto (pc := 71) X (tgt := 28) d_Ca_stands_71 (by rfl) ?_
            -- stop 28 lv=5:n,4:n,0:r,1:n,2:n,3:n st=
            exact ih (i + 1) (by omega) (fun j hj' => by
              rcases Nat.lt_succ_iff_lt_or_eq.mp hj' with h | h
              · exact hj j h
              · rw [h]; exact h63)
          · have hf : stnd gg st n x y p = false := by
              cases hs : stnd gg st n x y p with
              | false => rfl
              | true => exact absurd (hcond.mp hs i (by omega)) h63
            refine aw_iconstN (pc := 66) X 0 d_Ca_stands_66 (by decide) ?_
            refine aw_zret Y X rfl (by decide +kernel) d_Ca_stands_67 (by omega) (by omega) (hP _ _ _ ?_)
            -- ret 67 lv=5:n,4:n,0:r,1:n,2:n,3:n st=n
            exact ⟨rfl, rfl, by rw [hf]; rfl⟩
    refine aw_iconstN (pc := 25) X 0 d_Ca_stands_25 (by decide) ?_
    refine aw_istore (pc := 26) X (lv' := [(5, _), (4, _), (0, _), (1, _), (2, _), (3, _)]) d_Ca_stands_26 (by decide) (by rfl) ?_
    -- stop 28 lv=5:n,4:n,0:r,1:n,2:n,3:n st=
    exact L (too st n x - frm st n x) 0 (Nat.zero_add _) (fun j hj => absurd hj (by omega))
  · have hf : stnd gg st n x y p = false := decide_eq_false (fun q => by have := q.1; rw [argL_len, argL_len] at this; omega)
    refine aw_iconstN (pc := 23) X 0 d_Ca_stands_23 (by decide) ?_
    refine aw_zret Y X rfl (by decide +kernel) d_Ca_stands_24 (by omega) (by omega) (hP _ _ _ ?_)
    -- ret 24 lv=4:n,0:r,1:n,2:n,3:n st=n
    exact ⟨rfl, rfl, by rw [hf]; rfl⟩
theorem c_Ca_isSame {a n dp x y : Nat} {t : Def} {st gg : Nat → Nat} {bg : Bool} (ha : a + 6 < nx) (h319 : 319 < nx) (hd : 3 ≤ d) (hx : x < 100) (hy : y < 100) (ho : okSt st n) (h : hCa G w a t st n dp bg) (hg : ∀ j, gg j < 65536) (hgg : w 319 = aCh G 400 gg) : AC G y_Ca_isSame b_Ca_isSame 3 (some .boolean) d false [rf G a, .int (nI x), .int (nI y)] nx w 0 0 (fun r w' nx' => nx' = nx ∧ w' = w ∧ r = some (.int (nI (bN (decide (argL gg st n x = argL gg st n y)))))) := by
  have h1 := h.1
  have hfx := ho.ft x
  have hfy := ho.ft y
  refine AC.ofW (by decide) (Nat.le_of_ble_eq_true rfl) ?_
  intro E P hP Y X
  have X : aw_X G "RescanDesk$Call" b_Ca_isSame 3 (some .boolean) "isSame" _ _ _ _ _ E := X
  refine AW.eql (lv' := [(0, _), (1, _), (2, _)]) (by rfl) ?_
  refine aw_aload_nR (pc := 0) X d_Ca_isSame_0 (by rfl) ?_
  refine aw_iload_n (pc := 1) X d_Ca_isSame_1 (by rfl) ?_
  -- invokevirtual 2 lv=0:r,1:n,2:n st=n,r
  refine aw_callV (pc := 2) X _ (c_Ca_length (d := 1) ha (by omega) hx ho h) q_Ca_length k_783 k_668 k_669 (by omega) h1 (by rfl) d_Ca_isSame_2 (by omega) (Nat.le_of_ble_eq_true rfl) ⟨by omega, by omega⟩ (fun h => by cases h) (fun r w2 nx2 hp => ?_)
  obtain ⟨rfl, rfl, rfl⟩ := hp
  refine aw_aload_nR (pc := 5) X d_Ca_isSame_5 (by rfl) ?_
  refine aw_iload_n (pc := 6) X d_Ca_isSame_6 (by rfl) ?_
  -- invokevirtual 7 lv=0:r,1:n,2:n st=n,r,n
  refine aw_callV (pc := 7) X _ (c_Ca_length (d := 1) ha (by omega) hy ho h) q_Ca_length k_783 k_668 k_669 (by omega) h1 (by rfl) d_Ca_isSame_7 (by omega) (Nat.le_of_ble_eq_true rfl) ⟨by omega, by omega⟩ (fun h => by cases h) (fun r w2 nx2 hp => ?_)
  obtain ⟨rfl, rfl, rfl⟩ := hp
  refine aw_icmp_neN (pc := 10) X (tgt := 27) d_Ca_isSame_10 (by rfl) (by omega) (by omega) (fun h10 => ?_) (fun h10 => ?_)
  -- br 10 lv=0:r,1:n,2:n st=
  · refine aw_iconstN (pc := 27) X 0 d_Ca_isSame_27 (by decide) ?_
    refine aw_zret Y X rfl (by decide +kernel) d_Ca_isSame_28 (by omega) (by omega) (hP _ _ _ ?_)
    -- ret 28 lv=0:r,1:n,2:n st=n
    exact ⟨rfl, rfl, by rw [decide_eq_false (fun q => h10 (by have := congrArg List.length q; rwa [argL_len, argL_len] at this))]; rfl⟩
  · have e : stnd gg st n y x 0 = decide (argL gg st n x = argL gg st n y) := by
      unfold stnd
      have hl : (argL gg st n y).length = (argL gg st n x).length := by rw [argL_len, argL_len]; omega
      rw [List.drop_zero, hl, List.take_length]
      by_cases q : argL gg st n x = argL gg st n y
      · rw [decide_eq_true q, decide_eq_true ⟨by omega, q.symm⟩]
      · rw [decide_eq_false q, decide_eq_false (fun z => q z.2.symm)]
    refine aw_aload_nR (pc := 13) X d_Ca_isSame_13 (by rfl) ?_
    refine aw_iload_n (pc := 14) X d_Ca_isSame_14 (by rfl) ?_
    refine aw_iload_n (pc := 15) X d_Ca_isSame_15 (by rfl) ?_
    refine aw_iconstN (pc := 16) X 0 d_Ca_isSame_16 (by decide) ?_
    -- invokevirtual 17 lv=0:r,1:n,2:n st=n,n,n,r
    refine aw_callV (pc := 17) X _ (c_Ca_stands (d := 2) ha h319 (by omega) hy hx (by omega) ho h hg hgg) q_Ca_stands k_784 k_785 k_786 (by omega) h1 (by rfl) d_Ca_isSame_17 (by omega) (Nat.le_of_ble_eq_true rfl) ⟨by omega, by omega⟩ (fun h => by cases h) (fun r w2 nx2 hp => ?_)
    obtain ⟨rfl, rfl, rfl⟩ := hp
    rw [e]
    have hb := bN_lt (decide (argL gg st n x = argL gg st n y))
    refine aw_if_eqN (pc := 20) X (tgt := 27) d_Ca_isSame_20 (by rfl) (by omega) (fun h20 => ?_) (fun h20 => ?_)
    -- br 20 lv=0:r,1:n,2:n st=
    · refine aw_iconstN (pc := 27) X 0 d_Ca_isSame_27 (by decide) ?_
      refine aw_zret Y X rfl (by decide +kernel) d_Ca_isSame_28 (by omega) (by omega) (hP _ _ _ ?_)
      -- ret 28 lv=0:r,1:n,2:n st=n
      exact ⟨rfl, rfl, by rw [bN_eq.mp h20]; rfl⟩
    · refine aw_iconstN (pc := 23) X 1 d_Ca_isSame_23 (by decide) ?_
      refine aw_goto (pc := 24) X (tgt := 28) d_Ca_isSame_24 (by rfl) ?_
      refine aw_zret Y X rfl (by decide +kernel) d_Ca_isSame_28 (by omega) (by omega) (hP _ _ _ ?_)
      -- ret 28 lv=0:r,1:n,2:n st=n
      exact ⟨rfl, rfl, by rw [bN_ne.mp h20]; rfl⟩
end

