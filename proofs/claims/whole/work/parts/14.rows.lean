/-! RescanDesk$Rows, at its places (5 .. 14) -/
def y_Ro_init : MethodName := ⟨"RescanDesk$Rows", "<init>", "()V"⟩
abbrev b_Ro_init : ByteArray := prog_10_method_1_code
theorem d_Ro_init_0 : decode b_Ro_init 0 = .ok (.aload_n 0, 1) := by decide +kernel
theorem d_Ro_init_1 : decode b_Ro_init 1 = .ok (.invokespecial 3, 3) := by decide +kernel
theorem d_Ro_init_4 : decode b_Ro_init 4 = .ok (.aload_n 0, 1) := by decide +kernel
theorem d_Ro_init_5 : decode b_Ro_init 5 = .ok (.iconst 4, 1) := by decide +kernel
theorem d_Ro_init_6 : decode b_Ro_init 6 = .ok (.anewarray 9, 3) := by decide +kernel
theorem d_Ro_init_9 : decode b_Ro_init 9 = .ok (.putfield 11, 3) := by decide +kernel
theorem d_Ro_init_12 : decode b_Ro_init 12 = .ok (.iconst 0, 1) := by decide +kernel
theorem d_Ro_init_13 : decode b_Ro_init 13 = .ok (.istore_n 1, 1) := by decide +kernel
theorem d_Ro_init_14 : decode b_Ro_init 14 = .ok (.iload_n 1, 1) := by decide +kernel
theorem d_Ro_init_15 : decode b_Ro_init 15 = .ok (.iconst 4, 1) := by decide +kernel
theorem d_Ro_init_16 : decode b_Ro_init 16 = .ok (.if_icmp .ge 25, 3) := by decide +kernel
theorem d_Ro_init_19 : decode b_Ro_init 19 = .ok (.aload_n 0, 1) := by decide +kernel
theorem d_Ro_init_20 : decode b_Ro_init 20 = .ok (.getfield 11, 3) := by decide +kernel
theorem d_Ro_init_23 : decode b_Ro_init 23 = .ok (.iload_n 1, 1) := by decide +kernel
theorem d_Ro_init_24 : decode b_Ro_init 24 = .ok (.new 9, 3) := by decide +kernel
theorem d_Ro_init_27 : decode b_Ro_init 27 = .ok (.dup, 1) := by decide +kernel
theorem d_Ro_init_28 : decode b_Ro_init 28 = .ok (.sipush 300, 3) := by decide +kernel
theorem d_Ro_init_31 : decode b_Ro_init 31 = .ok (.invokespecial 17, 3) := by decide +kernel
theorem d_Ro_init_34 : decode b_Ro_init 34 = .ok (.aastore, 1) := by decide +kernel
theorem d_Ro_init_35 : decode b_Ro_init 35 = .ok (.iinc 1 1, 3) := by decide +kernel
theorem d_Ro_init_38 : decode b_Ro_init 38 = .ok (.goto (-24), 3) := by decide +kernel
theorem d_Ro_init_41 : decode b_Ro_init 41 = .ok (.aload_n 0, 1) := by decide +kernel
theorem d_Ro_init_42 : decode b_Ro_init 42 = .ok (.iconst 0, 1) := by decide +kernel
theorem d_Ro_init_43 : decode b_Ro_init 43 = .ok (.putfield 20, 3) := by decide +kernel
theorem d_Ro_init_46 : decode b_Ro_init 46 = .ok (.return_, 1) := by decide +kernel
theorem q_Ro_init : aw_q1 y_Ro_init b_Ro_init 2 none 0 := ⟨k_145, k_66, ⟨by decide, by decide, by decide +kernel⟩, by decide⟩
def y_Ro_begin : MethodName := ⟨"RescanDesk$Rows", "begin", "()V"⟩
abbrev b_Ro_begin : ByteArray := prog_10_method_2_code
theorem d_Ro_begin_0 : decode b_Ro_begin 0 = .ok (.iconst 0, 1) := by decide +kernel
theorem d_Ro_begin_1 : decode b_Ro_begin 1 = .ok (.istore_n 1, 1) := by decide +kernel
theorem d_Ro_begin_2 : decode b_Ro_begin 2 = .ok (.iload_n 1, 1) := by decide +kernel
theorem d_Ro_begin_3 : decode b_Ro_begin 3 = .ok (.iconst 4, 1) := by decide +kernel
theorem d_Ro_begin_4 : decode b_Ro_begin 4 = .ok (.if_icmp .ge 18, 3) := by decide +kernel
theorem d_Ro_begin_7 : decode b_Ro_begin 7 = .ok (.aload_n 0, 1) := by decide +kernel
theorem d_Ro_begin_8 : decode b_Ro_begin 8 = .ok (.getfield 11, 3) := by decide +kernel
theorem d_Ro_begin_11 : decode b_Ro_begin 11 = .ok (.iload_n 1, 1) := by decide +kernel
theorem d_Ro_begin_12 : decode b_Ro_begin 12 = .ok (.aaload, 1) := by decide +kernel
theorem d_Ro_begin_13 : decode b_Ro_begin 13 = .ok (.invokevirtual 24, 3) := by decide +kernel
theorem d_Ro_begin_16 : decode b_Ro_begin 16 = .ok (.iinc 1 1, 3) := by decide +kernel
theorem d_Ro_begin_19 : decode b_Ro_begin 19 = .ok (.goto (-17), 3) := by decide +kernel
theorem d_Ro_begin_22 : decode b_Ro_begin 22 = .ok (.aload_n 0, 1) := by decide +kernel
theorem d_Ro_begin_23 : decode b_Ro_begin 23 = .ok (.iconst 0, 1) := by decide +kernel
theorem d_Ro_begin_24 : decode b_Ro_begin 24 = .ok (.putfield 20, 3) := by decide +kernel
theorem d_Ro_begin_27 : decode b_Ro_begin 27 = .ok (.return_, 1) := by decide +kernel
theorem q_Ro_begin : aw_q1 y_Ro_begin b_Ro_begin 2 none 0 := ⟨k_515, k_66, ⟨by decide, by decide, by decide +kernel⟩, by decide⟩
def y_Ro_presentRow : MethodName := ⟨"RescanDesk$Rows", "presentRow", "()LRescanDesk$Text;"⟩
abbrev b_Ro_presentRow : ByteArray := prog_10_method_3_code
theorem d_Ro_presentRow_0 : decode b_Ro_presentRow 0 = .ok (.aload_n 0, 1) := by decide +kernel
theorem d_Ro_presentRow_1 : decode b_Ro_presentRow 1 = .ok (.getfield 20, 3) := by decide +kernel
theorem d_Ro_presentRow_4 : decode b_Ro_presentRow 4 = .ok (.iconst (-1), 1) := by decide +kernel
theorem d_Ro_presentRow_5 : decode b_Ro_presentRow 5 = .ok (.if_icmp .ne 7, 3) := by decide +kernel
theorem d_Ro_presentRow_8 : decode b_Ro_presentRow 8 = .ok (.aconst_null, 1) := by decide +kernel
theorem d_Ro_presentRow_9 : decode b_Ro_presentRow 9 = .ok (.goto 12, 3) := by decide +kernel
theorem d_Ro_presentRow_12 : decode b_Ro_presentRow 12 = .ok (.aload_n 0, 1) := by decide +kernel
theorem d_Ro_presentRow_13 : decode b_Ro_presentRow 13 = .ok (.getfield 11, 3) := by decide +kernel
theorem d_Ro_presentRow_16 : decode b_Ro_presentRow 16 = .ok (.aload_n 0, 1) := by decide +kernel
theorem d_Ro_presentRow_17 : decode b_Ro_presentRow 17 = .ok (.getfield 20, 3) := by decide +kernel
theorem d_Ro_presentRow_20 : decode b_Ro_presentRow 20 = .ok (.aaload, 1) := by decide +kernel
theorem d_Ro_presentRow_21 : decode b_Ro_presentRow 21 = .ok (.areturn, 1) := by decide +kernel
theorem q_Ro_presentRow : aw_q1 y_Ro_presentRow b_Ro_presentRow 1 (some (.object "RescanDesk$Text")) 0 := ⟨k_545, k_66, ⟨by decide, by decide, by decide +kernel⟩, by decide⟩
def y_Ro_choose : MethodName := ⟨"RescanDesk$Rows", "choose", "(J)V"⟩
abbrev b_Ro_choose : ByteArray := prog_10_method_4_code
theorem d_Ro_choose_0 : decode b_Ro_choose 0 = .ok (.aload_n 0, 1) := by decide +kernel
theorem d_Ro_choose_1 : decode b_Ro_choose 1 = .ok (.lload_n 1, 1) := by decide +kernel
theorem d_Ro_choose_2 : decode b_Ro_choose 2 = .ok (.lconst 0, 1) := by decide +kernel
theorem d_Ro_choose_3 : decode b_Ro_choose 3 = .ok (.lcmp, 1) := by decide +kernel
theorem d_Ro_choose_4 : decode b_Ro_choose 4 = .ok (.ifCond .lt 16, 3) := by decide +kernel
theorem d_Ro_choose_7 : decode b_Ro_choose 7 = .ok (.lload_n 1, 1) := by decide +kernel
theorem d_Ro_choose_8 : decode b_Ro_choose 8 = .ok (.ldc2_w 27, 3) := by decide +kernel
theorem d_Ro_choose_11 : decode b_Ro_choose 11 = .ok (.lcmp, 1) := by decide +kernel
theorem d_Ro_choose_12 : decode b_Ro_choose 12 = .ok (.ifCond .ge 8, 3) := by decide +kernel
theorem d_Ro_choose_15 : decode b_Ro_choose 15 = .ok (.lload_n 1, 1) := by decide +kernel
theorem d_Ro_choose_16 : decode b_Ro_choose 16 = .ok (.l2i, 1) := by decide +kernel
theorem d_Ro_choose_17 : decode b_Ro_choose 17 = .ok (.goto 4, 3) := by decide +kernel
theorem d_Ro_choose_20 : decode b_Ro_choose 20 = .ok (.iconst (-1), 1) := by decide +kernel
theorem d_Ro_choose_21 : decode b_Ro_choose 21 = .ok (.putfield 20, 3) := by decide +kernel
theorem d_Ro_choose_24 : decode b_Ro_choose 24 = .ok (.return_, 1) := by decide +kernel
theorem q_Ro_choose : aw_q1 y_Ro_choose b_Ro_choose 3 none 1 := ⟨k_710, k_66, ⟨by decide, by decide, by decide +kernel⟩, by decide⟩
def y_Ro_pour : MethodName := ⟨"RescanDesk$Rows", "pour", "(II)Z"⟩
abbrev b_Ro_pour : ByteArray := prog_10_method_5_code
theorem d_Ro_pour_0 : decode b_Ro_pour 0 = .ok (.iload_n 1, 1) := by decide +kernel
theorem d_Ro_pour_1 : decode b_Ro_pour 1 = .ok (.iload_n 2, 1) := by decide +kernel
theorem d_Ro_pour_2 : decode b_Ro_pour 2 = .ok (.if_icmp .ne 5, 3) := by decide +kernel
theorem d_Ro_pour_5 : decode b_Ro_pour 5 = .ok (.iconst 1, 1) := by decide +kernel
theorem d_Ro_pour_6 : decode b_Ro_pour 6 = .ok (.ireturn, 1) := by decide +kernel
theorem d_Ro_pour_7 : decode b_Ro_pour 7 = .ok (.aload_n 0, 1) := by decide +kernel
theorem d_Ro_pour_8 : decode b_Ro_pour 8 = .ok (.getfield 11, 3) := by decide +kernel
theorem d_Ro_pour_11 : decode b_Ro_pour 11 = .ok (.iload_n 1, 1) := by decide +kernel
theorem d_Ro_pour_12 : decode b_Ro_pour 12 = .ok (.aaload, 1) := by decide +kernel
theorem d_Ro_pour_13 : decode b_Ro_pour 13 = .ok (.astore_n 3, 1) := by decide +kernel
theorem d_Ro_pour_14 : decode b_Ro_pour 14 = .ok (.iload_n 2, 1) := by decide +kernel
theorem d_Ro_pour_15 : decode b_Ro_pour 15 = .ok (.iconst (-1), 1) := by decide +kernel
theorem d_Ro_pour_16 : decode b_Ro_pour 16 = .ok (.if_icmp .eq 37, 3) := by decide +kernel
theorem d_Ro_pour_19 : decode b_Ro_pour 19 = .ok (.aload_n 0, 1) := by decide +kernel
theorem d_Ro_pour_20 : decode b_Ro_pour 20 = .ok (.getfield 11, 3) := by decide +kernel
theorem d_Ro_pour_23 : decode b_Ro_pour 23 = .ok (.iload_n 2, 1) := by decide +kernel
theorem d_Ro_pour_24 : decode b_Ro_pour 24 = .ok (.aaload, 1) := by decide +kernel
theorem d_Ro_pour_25 : decode b_Ro_pour 25 = .ok (.aload_n 3, 1) := by decide +kernel
theorem d_Ro_pour_26 : decode b_Ro_pour 26 = .ok (.invokevirtual 29, 3) := by decide +kernel
theorem d_Ro_pour_29 : decode b_Ro_pour 29 = .ok (.ifCond .ne 5, 3) := by decide +kernel
theorem d_Ro_pour_32 : decode b_Ro_pour 32 = .ok (.iconst 0, 1) := by decide +kernel
theorem d_Ro_pour_33 : decode b_Ro_pour 33 = .ok (.ireturn, 1) := by decide +kernel
theorem d_Ro_pour_34 : decode b_Ro_pour 34 = .ok (.aload_n 0, 1) := by decide +kernel
theorem d_Ro_pour_35 : decode b_Ro_pour 35 = .ok (.getfield 11, 3) := by decide +kernel
theorem d_Ro_pour_38 : decode b_Ro_pour 38 = .ok (.iload_n 2, 1) := by decide +kernel
theorem d_Ro_pour_39 : decode b_Ro_pour 39 = .ok (.aaload, 1) := by decide +kernel
theorem d_Ro_pour_40 : decode b_Ro_pour 40 = .ok (.aload_n 3, 1) := by decide +kernel
theorem d_Ro_pour_41 : decode b_Ro_pour 41 = .ok (.getfield 33, 3) := by decide +kernel
theorem d_Ro_pour_44 : decode b_Ro_pour 44 = .ok (.iconst 0, 1) := by decide +kernel
theorem d_Ro_pour_45 : decode b_Ro_pour 45 = .ok (.aload_n 3, 1) := by decide +kernel
theorem d_Ro_pour_46 : decode b_Ro_pour 46 = .ok (.getfield 37, 3) := by decide +kernel
theorem d_Ro_pour_49 : decode b_Ro_pour 49 = .ok (.invokevirtual 40, 3) := by decide +kernel
theorem d_Ro_pour_52 : decode b_Ro_pour 52 = .ok (.pop, 1) := by decide +kernel
theorem d_Ro_pour_53 : decode b_Ro_pour 53 = .ok (.aload_n 3, 1) := by decide +kernel
theorem d_Ro_pour_54 : decode b_Ro_pour 54 = .ok (.invokevirtual 24, 3) := by decide +kernel
theorem d_Ro_pour_57 : decode b_Ro_pour 57 = .ok (.iconst 1, 1) := by decide +kernel
theorem d_Ro_pour_58 : decode b_Ro_pour 58 = .ok (.ireturn, 1) := by decide +kernel
theorem q_Ro_pour : aw_q1 y_Ro_pour b_Ro_pour 4 (some .boolean) 2 := ⟨k_723, k_66, ⟨by decide, by decide, by decide +kernel⟩, by decide⟩
def y_Ro_pourAll : MethodName := ⟨"RescanDesk$Rows", "pourAll", "(I)Z"⟩
abbrev b_Ro_pourAll : ByteArray := prog_10_method_6_code
theorem d_Ro_pourAll_0 : decode b_Ro_pourAll 0 = .ok (.iconst 1, 1) := by decide +kernel
theorem d_Ro_pourAll_1 : decode b_Ro_pourAll 1 = .ok (.istore_n 2, 1) := by decide +kernel
theorem d_Ro_pourAll_2 : decode b_Ro_pourAll 2 = .ok (.iload_n 2, 1) := by decide +kernel
theorem d_Ro_pourAll_3 : decode b_Ro_pourAll 3 = .ok (.iconst 4, 1) := by decide +kernel
theorem d_Ro_pourAll_4 : decode b_Ro_pourAll 4 = .ok (.if_icmp .ge 20, 3) := by decide +kernel
theorem d_Ro_pourAll_7 : decode b_Ro_pourAll 7 = .ok (.aload_n 0, 1) := by decide +kernel
theorem d_Ro_pourAll_8 : decode b_Ro_pourAll 8 = .ok (.iload_n 2, 1) := by decide +kernel
theorem d_Ro_pourAll_9 : decode b_Ro_pourAll 9 = .ok (.iload_n 1, 1) := by decide +kernel
theorem d_Ro_pourAll_10 : decode b_Ro_pourAll 10 = .ok (.invokevirtual 44, 3) := by decide +kernel
theorem d_Ro_pourAll_13 : decode b_Ro_pourAll 13 = .ok (.ifCond .ne 5, 3) := by decide +kernel
theorem d_Ro_pourAll_16 : decode b_Ro_pourAll 16 = .ok (.iconst 0, 1) := by decide +kernel
theorem d_Ro_pourAll_17 : decode b_Ro_pourAll 17 = .ok (.ireturn, 1) := by decide +kernel
theorem d_Ro_pourAll_18 : decode b_Ro_pourAll 18 = .ok (.iinc 2 1, 3) := by decide +kernel
theorem d_Ro_pourAll_21 : decode b_Ro_pourAll 21 = .ok (.goto (-19), 3) := by decide +kernel
theorem d_Ro_pourAll_24 : decode b_Ro_pourAll 24 = .ok (.iconst 1, 1) := by decide +kernel
theorem d_Ro_pourAll_25 : decode b_Ro_pourAll 25 = .ok (.ireturn, 1) := by decide +kernel
theorem q_Ro_pourAll : aw_q1 y_Ro_pourAll b_Ro_pourAll 3 (some .boolean) 1 := ⟨k_719, k_66, ⟨by decide, by decide, by decide +kernel⟩, by decide⟩
def y_Ro_join : MethodName := ⟨"RescanDesk$Rows", "join", "()Z"⟩
abbrev b_Ro_join : ByteArray := prog_10_method_7_code
theorem d_Ro_join_0 : decode b_Ro_join 0 = .ok (.aload_n 0, 1) := by decide +kernel
theorem d_Ro_join_1 : decode b_Ro_join 1 = .ok (.iconst 0, 1) := by decide +kernel
theorem d_Ro_join_2 : decode b_Ro_join 2 = .ok (.invokevirtual 48, 3) := by decide +kernel
theorem d_Ro_join_5 : decode b_Ro_join 5 = .ok (.ifCond .ne 5, 3) := by decide +kernel
theorem d_Ro_join_8 : decode b_Ro_join 8 = .ok (.iconst 0, 1) := by decide +kernel
theorem d_Ro_join_9 : decode b_Ro_join 9 = .ok (.ireturn, 1) := by decide +kernel
theorem d_Ro_join_10 : decode b_Ro_join 10 = .ok (.aload_n 0, 1) := by decide +kernel
theorem d_Ro_join_11 : decode b_Ro_join 11 = .ok (.iconst 0, 1) := by decide +kernel
theorem d_Ro_join_12 : decode b_Ro_join 12 = .ok (.putfield 20, 3) := by decide +kernel
theorem d_Ro_join_15 : decode b_Ro_join 15 = .ok (.iconst 1, 1) := by decide +kernel
theorem d_Ro_join_16 : decode b_Ro_join 16 = .ok (.ireturn, 1) := by decide +kernel
theorem q_Ro_join : aw_q1 y_Ro_join b_Ro_join 1 (some .boolean) 0 := ⟨k_811, k_66, ⟨by decide, by decide, by decide +kernel⟩, by decide⟩
/-- the present row: none, or its number -/
def pV (p : Option Nat) : Int32 := match p with
  | none => -1
  | some k => nI k
def upR (R : Nat → List Nat) (k : Nat) (s : List Nat) : Nat → List Nat := fun j => if j = k then s else R j
theorem upR_eq (R : Nat → List Nat) (k : Nat) (s : List Nat) : upR R k s k = s := if_pos rfl
theorem upR_ne (R : Nat → List Nat) {k j : Nat} (s : List Nat) (h : j ≠ k) : upR R k s j = R j := if_neg h
def hRo (G : aw_G) (w : Nat → va_E) (p : Option Nat) (R : Nat → List Nat) : Prop := w 5 = aObj 3 [rf G 6, .int (pV p)] ∧ (∃ f : Nat → Option Nat, w 6 = aRefs (G.2.2.2.1 4) 4 f ∧ ∀ r, r < 4 → f r = some (G.2.2.1 + (7 + 2 * r))) ∧ (∀ r, r < 4 → hTx G w (7 + 2 * r) 300 (R r)) ∧ ∀ k, p = some k → k < 4
theorem hRo.keep {G : aw_G} {w w' : Nat → va_E} {p : Option Nat} {R : Nat → List Nat} {lo hi : Nat} (h : hRo G w p R) (hf : fr lo hi w w') (hl : hi ≤ 5 ∨ 15 ≤ lo) : hRo G w' p R := by
  obtain ⟨h1, ⟨f, h2, h3⟩, h4, h5⟩ := h
  exact ⟨(hf 5 (by omega)).trans h1, ⟨f, (hf 6 (by omega)).trans h2, h3⟩, fun r hr => (h4 r hr).keep hf (by omega), h5⟩
/-- one row of them has got another text -/
theorem hRo.row {G : aw_G} {w w' : Nat → va_E} {p : Option Nat} {R : Nat → List Nat} {k : Nat} {s : List Nat} (h : hRo G w p R) (hk : k < 4) (ht : hTx G w' (7 + 2 * k) 300 s) (hf : fr (7 + 2 * k) (7 + 2 * k + 2) w w') : hRo G w' p (upR R k s) := by
  obtain ⟨h1, ⟨f, h2, h3⟩, h4, h5⟩ := h
  refine ⟨(hf 5 (by omega)).trans h1, ⟨f, (hf 6 (by omega)).trans h2, h3⟩, fun r hr => ?_, h5⟩
  by_cases e : r = k
  · subst e; rw [upR_eq]; exact ht
  · rw [upR_ne _ _ e]; exact (h4 r hr).keep hf (by omega)
theorem hRo.len {G : aw_G} {w : Nat → va_E} {p : Option Nat} {R : Nat → List Nat} (h : hRo G w p R) {r : Nat} (hr : r < 4) : (R r).length ≤ 300 := (h.2.2.1 r hr).le
theorem hRo.congr {G : aw_G} {w : Nat → va_E} {p : Option Nat} {R R' : Nat → List Nat} (h : hRo G w p R) (e : ∀ r, r < 4 → R r = R' r) : hRo G w p R' := ⟨h.1, h.2.1, fun r hr => by rw [← e r hr]; exact h.2.2.1 r hr, h.2.2.2⟩
/-- a row poured behind another, or away -/
def pourS (R : Nat → List Nat) (f : Nat) (t : Option Nat) : Bool × (Nat → List Nat) := match t with
  | none => (true, upR R f [])
  | some k => if k = f then (true, R) else if (R k).length + (R f).length ≤ 300 then (true, upR (upR R k (R k ++ R f)) f []) else (false, R)
def pourAllS (R : Nat → List Nat) (t : Option Nat) : Bool × (Nat → List Nat) :=
  if (pourS R 1 t).1 = true then (if (pourS (pourS R 1 t).2 2 t).1 = true then pourS (pourS (pourS R 1 t).2 2 t).2 3 t else pourS (pourS R 1 t).2 2 t) else pourS R 1 t
def chS (v : Int64) : Option Nat := if 0 ≤ v ∧ v < 4 then some v.toInt.toNat else none
section
variable {G : aw_G} {nx d : Nat} {w : Nat → va_E}
theorem s_Ro_begin {p : Option Nat} {R : Nat → List Nat} (hnx : 15 ≤ nx) (hd : 1 ≤ d) (h : hRo G w p R) : AC G y_Ro_begin b_Ro_begin 2 none d false [rf G 5] nx w 0 0 (fun r w' nx' => nx' = nx ∧ r = none ∧ hRo G w' (some 0) (fun _ => []) ∧ fr 5 15 w w') := by
  refine AC.ofW (by decide) (Nat.le_of_ble_eq_true rfl) ?_
  intro E P hP Y X
  have X : aw_X G "RescanDesk$Rows" b_Ro_begin 2 none "begin" _ _ _ _ _ E := X
  refine AW.eql (lv' := [(0, _)]) (by rfl) ?_
  have L : ∀ (k i : Nat) (w1 : Nat → va_E) (R1 : Nat → List Nat), i + k = 4 → hRo G w1 p R1 → fr 5 15 w w1 → (∀ j, j < i → R1 j = []) → AW G E 2 nx 0 0 w1 2 [(1, .int (nI i)), (0, rf G 5)] [] := by
    intro k
    induction k with
    | zero =>
      intro i w1 R1 hi h1 hf hj
      obtain ⟨g1, ⟨f, g2, g3⟩, g4, g5⟩ := h1
      refine aw_iload_n (pc := 2) X d_Ro_begin_2 (by rfl) ?_
      refine aw_iconstN (pc := 3) X 4 d_Ro_begin_3 (by decide) ?_
      refine aw_icmp_geN (pc := 4) X (tgt := 22) d_Ro_begin_4 (by rfl) (by omega) (by omega) (fun h4 => ?_) (fun h4 => ?_)
      -- br 4 lv=1:n,0:r st=
      · refine aw_aload_nR (pc := 22) X d_Ro_begin_22 (by rfl) ?_
        refine aw_iconstN (pc := 23) X 0 d_Ro_begin_23 (by decide) ?_
        refine aw_putO (pc := 24) X _ 1 (by omega) (by (repeat (first | rw [aw_up_eq] | rw [aw_up_ne _ _ (by first | assumption | omega)])) <;> first | assumption | rfl) (by rfl) in_Ro (by decide) ty_Ro ok_Ro nm_Ro k_152 (by rfl) (by rfl) (by rfl) (by simp) (fs' := [_, _]) (by rfl) d_Ro_begin_24 ?_
        refine aw_vret Y X rfl d_Ro_begin_27 (by omega) (by omega) (hP _ _ _ ?_)
        -- ret 27 lv=1:n,0:r st=
        refine ⟨rfl, rfl, ⟨aw_up_eq _ _ _, ⟨f, by rw [aw_up_ne _ _ (by omega)]; exact g2, g3⟩, fun r hr => ?_, fun k e => by cases e; omega⟩, hf.up _ (by omega)⟩
        have := g4 r hr
        rw [hj r (by omega)] at this
        exact this.kept (by rw [aw_up_ne _ _ (by omega)]) (by rw [aw_up_ne _ _ (by omega)])
      · omega
    | succ k ih =>
      intro i w1 R1 hi h1 hf hj
      have h10 := h1
      obtain ⟨g1, ⟨f, g2, g3⟩, g4, g5⟩ := h1
      have g3i := g3 i (by omega)
      refine aw_iload_n (pc := 2) X d_Ro_begin_2 (by rfl) ?_
      refine aw_iconstN (pc := 3) X 4 d_Ro_begin_3 (by decide) ?_
      refine aw_icmp_geN (pc := 4) X (tgt := 22) d_Ro_begin_4 (by rfl) (by omega) (by omega) (fun h4 => ?_) (fun h4 => ?_)
      -- br 4 lv=1:n,0:r st=
      · omega
      · refine aw_aload_nR (pc := 7) X d_Ro_begin_7 (by rfl) ?_
        refine aw_getO (pc := 8) X _ 0 (by omega) (by (repeat (first | rw [aw_up_eq] | rw [aw_up_ne _ _ (by first | assumption | omega)])) <;> first | assumption | rfl) (by rfl) in_Ro (by decide) k_150 (by rfl) d_Ro_begin_8 ?_
        refine aw_iload_n (pc := 11) X d_Ro_begin_11 (by rfl) ?_
        refine aw_aaldN (pc := 12) X _ 4 (by omega) (by (repeat (first | rw [aw_up_eq] | rw [aw_up_ne _ _ (by first | assumption | omega)])) <;> first | assumption | rfl) (by rfl) (by omega) (by omega) (by assumption) d_Ro_begin_12 ?_
        -- invokevirtual 13 lv=1:n,0:r st=r
        refine aw_callV (pc := 13) X _ (s_Tx_empty (d := 0) (a := 7 + 2 * i) (by omega) (g4 i (by omega))) q_Tx_empty k_516 k_196 k_197 (by omega) (by obtain ⟨g9, e9, -⟩ := g4 i (by omega); exact e9) (by rfl) d_Ro_begin_13 (by omega) (Nat.le_of_ble_eq_true rfl) ⟨by omega, by omega⟩ (fun h => by cases h) (fun r w' nx' hp => ?_)
        obtain ⟨rfl, rfl, ht, hf2⟩ := hp
        refine aw_iincN (pc := 16) X 1 (lv' := [(1, _), (0, _)]) d_Ro_begin_16 (by rfl) (by decide) (by decide) (by rfl) ?_
        refine aw_goto (pc := 19) X (tgt := 2) d_Ro_begin_19 (by rfl) ?_
        -- stop 2 lv=1:n,0:r st=
        exact ih (i + 1) _ _ (by omega) (h10.row (by omega) ht hf2) (hf.trans (hf2.mono (by omega) (by omega))) (fun j hj' => by
          by_cases e : j = i
          · subst e; exact upR_eq _ _ _
          · rw [upR_ne _ _ e]; exact hj j (by omega))
  refine aw_iconstN (pc := 0) X 0 d_Ro_begin_0 (by decide) ?_
  refine aw_istore_n (pc := 1) X (lv' := [(1, _), (0, _)]) d_Ro_begin_1 (by decide) (by rfl) ?_
  -- stop 2 lv=1:n,0:r st=
  exact L 4 0 w R (by omega) h (fr.refl _ _ _) (fun j hj => absurd hj (by omega))
theorem s_Ro_presentRow {p : Option Nat} {R : Nat → List Nat} (hnx : 15 ≤ nx) (h : hRo G w p R) : AC G y_Ro_presentRow b_Ro_presentRow 1 (some (.object "RescanDesk$Text")) d false [rf G 5] nx w 0 0 (fun r w' nx' => nx' = nx ∧ w' = w ∧ r = some (match p with | none => .null | some k => rf G (7 + 2 * k))) := by
  obtain ⟨g1, ⟨f, g2, g3⟩, g4, g5⟩ := h
  refine AC.ofW (by decide) (Nat.le_of_ble_eq_true rfl) ?_
  intro E P hP Y X
  have X : aw_X G "RescanDesk$Rows" b_Ro_presentRow 1 (some (.object "RescanDesk$Text")) "presentRow" _ _ _ _ _ E := X
  refine AW.eql (lv' := [(0, _)]) (by rfl) ?_
  cases p with
  | none =>
    refine aw_aload_nR (pc := 0) X d_Ro_presentRow_0 (by rfl) ?_
    refine aw_getO (pc := 1) X _ 1 (by omega) (by (repeat (first | rw [aw_up_eq] | rw [aw_up_ne _ _ (by first | assumption | omega)])) <;> first | assumption | rfl) (by rfl) in_Ro (by decide) k_152 (by rfl) d_Ro_presentRow_1 ?_
    refine aw_iconst (pc := 4) X (v := -1) d_Ro_presentRow_4 (by decide) ?_
    refine aw_icmp_ne (pc := 5) X (tgt := 12) d_Ro_presentRow_5 (by rfl) (fun h5 => ?_) (fun h5 => ?_)
    -- br 5 lv=0:r st=
    · exact absurd rfl h5
    · refine aw_null (pc := 8) X d_Ro_presentRow_8 ?_
      refine aw_goto (pc := 9) X (tgt := 21) d_Ro_presentRow_9 (by rfl) ?_
      refine aw_aret Y X rfl (Or.inl rfl) d_Ro_presentRow_21 (by omega) (by omega) (hP _ _ _ ?_)
      -- ret 21 lv=0:r st=0
      exact ⟨rfl, rfl, rfl⟩
  | some k =>
    have hk := g5 k rfl
    have g3k := g3 k hk
    have g1' : w 5 = aObj 3 [rf G 6, .int (nI k)] := g1
    refine aw_aload_nR (pc := 0) X d_Ro_presentRow_0 (by rfl) ?_
    refine aw_getO (pc := 1) X _ 1 (by omega) (by (repeat (first | rw [aw_up_eq] | rw [aw_up_ne _ _ (by first | assumption | omega)])) <;> first | assumption | rfl) (by rfl) in_Ro (by decide) k_152 (by rfl) d_Ro_presentRow_1 ?_
    refine aw_iconst (pc := 4) X (v := -1) d_Ro_presentRow_4 (by decide) ?_
    refine aw_icmp_ne (pc := 5) X (tgt := 12) d_Ro_presentRow_5 (by rfl) (fun h5 => ?_) (fun h5 => ?_)
    -- br 5 lv=0:r st=
    · refine aw_aload_nR (pc := 12) X d_Ro_presentRow_12 (by rfl) ?_
      refine aw_getO (pc := 13) X _ 0 (by omega) (by (repeat (first | rw [aw_up_eq] | rw [aw_up_ne _ _ (by first | assumption | omega)])) <;> first | assumption | rfl) (by rfl) in_Ro (by decide) k_150 (by rfl) d_Ro_presentRow_13 ?_
      refine aw_aload_nR (pc := 16) X d_Ro_presentRow_16 (by rfl) ?_
      refine aw_getO (pc := 17) X _ 1 (by omega) (by (repeat (first | rw [aw_up_eq] | rw [aw_up_ne _ _ (by first | assumption | omega)])) <;> first | assumption | rfl) (by rfl) in_Ro (by decide) k_152 (by rfl) d_Ro_presentRow_17 ?_
      -- stop 20 lv=0:r st=i,r
      refine AW.of rfl rfl rfl rfl rfl (rest' := [.int (nI k), rf G 6]) rfl ?_
      refine aw_aaldN (pc := 20) X _ 4 (by omega) (by (repeat (first | rw [aw_up_eq] | rw [aw_up_ne _ _ (by first | assumption | omega)])) <;> first | assumption | rfl) (by rfl) (by omega) (by omega) (by assumption) d_Ro_presentRow_20 ?_
      refine aw_aret Y X rfl (Or.inr ⟨_, rfl⟩) d_Ro_presentRow_21 (by omega) (by omega) (hP _ _ _ ?_)
      -- ret 21 lv=0:r st=r
      exact ⟨rfl, rfl, rfl⟩
    · exact absurd h5 (by rcases (show k = 0 ∨ k = 1 ∨ k = 2 ∨ k = 3 by omega) with rfl | rfl | rfl | rfl <;> decide)
theorem s_Ro_choose {p : Option Nat} {R : Nat → List Nat} {v : Int64} (hnx : 15 ≤ nx) (h : hRo G w p R) : AC G y_Ro_choose b_Ro_choose 3 none d false [rf G 5, .long v] nx w 0 0 (fun r w' nx' => nx' = nx ∧ r = none ∧ hRo G w' (chS v) R ∧ fr 5 15 w w') := by
  have h0 := h
  obtain ⟨g1, ⟨f, g2, g3⟩, g4, g5⟩ := h
  have fin : ∀ p', (∀ k, p' = some k → k < 4) → hRo G (aw_up w 5 (aObj 3 [rf G 6, .int (pV p')])) p' R := fun p' hp' =>
    ⟨aw_up_eq _ _ _, ⟨f, by rw [aw_up_ne _ _ (by omega)]; exact g2, g3⟩, fun r hr => (g4 r hr).kept (by rw [aw_up_ne _ _ (by omega)]) (by rw [aw_up_ne _ _ (by omega)]), hp'⟩
  have c0 : ∀ x y : Int64, lg_cmp x y < 0 ↔ x < y := fun x y => by
    unfold lg_cmp
    by_cases h1 : y < x
    · simp only [h1, if_true]
      exact ⟨fun q => absurd q (by decide), fun q => (Int64.lt_irrefl (Int64.lt_trans h1 q)).elim⟩
    · by_cases h2 : x = y
      · subst h2; simp [Int64.lt_irrefl]
      · simp only [h1, h2, if_false]
        exact ⟨fun _ => Int64.lt_of_le_of_ne (Int64.not_lt.mp h1) h2, fun _ => by decide⟩
  refine AC.ofW (by decide) (Nat.le_of_ble_eq_true rfl) ?_
  intro E P hP Y X
  have X : aw_X G "RescanDesk$Rows" b_Ro_choose 3 none "choose" _ _ _ _ _ E := X
  refine AW.eql (lv' := [(0, _), (1, _)]) (by rfl) ?_
  refine aw_aload_nR (pc := 0) X d_Ro_choose_0 (by rfl) ?_
  refine aw_lload_n (pc := 1) X d_Ro_choose_1 (by rfl) ?_
  refine aw_lconst (pc := 2) X (v := 0) d_Ro_choose_2 (by decide) ?_
  refine aw_lcmp (pc := 3) X d_Ro_choose_3 ?_
  refine aw_if_lt (pc := 4) X (tgt := 20) d_Ro_choose_4 (by rfl) (fun h4 => ?_) (fun h4 => ?_)
  -- br 4 lv=0:r,1:l st=r
  · refine aw_iconst (pc := 20) X (v := -1) d_Ro_choose_20 (by decide) ?_
    refine aw_putO (pc := 21) X _ 1 (by omega) (by (repeat (first | rw [aw_up_eq] | rw [aw_up_ne _ _ (by first | assumption | omega)])) <;> first | assumption | rfl) (by rfl) in_Ro (by decide) ty_Ro ok_Ro nm_Ro k_152 (by rfl) (by rfl) (by rfl) (by simp) (fs' := [_, _]) (by rfl) d_Ro_choose_21 ?_
    refine aw_vret Y X rfl d_Ro_choose_24 (by omega) (by omega) (hP _ _ _ ?_)
    -- ret 24 lv=0:r,1:l st=
    refine ⟨rfl, rfl, ?_, (fr.refl _ _ _).up _ (by omega)⟩
    rw [chS, if_neg (fun q => absurd ((c0 _ _).mp h4) (Int64.not_lt.mpr q.1))]
    exact fin none (fun k e => by cases e)
  · refine aw_lload_n (pc := 7) X d_Ro_choose_7 (by rfl) ?_
    refine aw_ldc2 (pc := 8) X k_711 d_Ro_choose_8 ?_
    refine aw_lcmp (pc := 11) X d_Ro_choose_11 ?_
    refine aw_if_ge (pc := 12) X (tgt := 20) d_Ro_choose_12 (by rfl) (fun h12 => ?_) (fun h12 => ?_)
    -- br 12 lv=0:r,1:l st=r
    · refine aw_iconst (pc := 20) X (v := -1) d_Ro_choose_20 (by decide) ?_
      refine aw_putO (pc := 21) X _ 1 (by omega) (by (repeat (first | rw [aw_up_eq] | rw [aw_up_ne _ _ (by first | assumption | omega)])) <;> first | assumption | rfl) (by rfl) in_Ro (by decide) ty_Ro ok_Ro nm_Ro k_152 (by rfl) (by rfl) (by rfl) (by simp) (fs' := [_, _]) (by rfl) d_Ro_choose_21 ?_
      refine aw_vret Y X rfl d_Ro_choose_24 (by omega) (by omega) (hP _ _ _ ?_)
      -- ret 24 lv=0:r,1:l st=
      refine ⟨rfl, rfl, ?_, (fr.refl _ _ _).up _ (by omega)⟩
      rw [chS, if_neg (fun q => absurd h12 (Int32.not_le.mpr ((c0 _ _).mpr q.2)))]
      exact fin none (fun k e => by cases e)
    · have v1 : 0 ≤ v := Int64.not_lt.mp (fun q => h4 ((c0 _ _).mpr q))
      have v2 : v < 4 := (c0 _ _).mp (Int32.not_le.mp h12)
      have i1 : 0 ≤ v.toInt := by simpa using Int64.le_iff_toInt_le.mp v1
      have i2 : v.toInt < 4 := by simpa using Int64.lt_iff_toInt_lt.mp v2
      have e1 : v = lN v.toInt.toNat := Int64.toInt_inj.mp (by rw [lN_toInt (by omega)]; omega)
      have e2 : v.toInt32 = nI v.toInt.toNat := by conv => lhs; rw [e1]
                                                   exact lN_i _
      refine aw_lload_n (pc := 15) X d_Ro_choose_15 (by rfl) ?_
      refine aw_l2i (pc := 16) X d_Ro_choose_16 ?_
      refine aw_goto (pc := 17) X (tgt := 21) d_Ro_choose_17 (by rfl) ?_
      refine aw_putO (pc := 21) X _ 1 (by omega) (by (repeat (first | rw [aw_up_eq] | rw [aw_up_ne _ _ (by first | assumption | omega)])) <;> first | assumption | rfl) (by rfl) in_Ro (by decide) ty_Ro ok_Ro nm_Ro k_152 (by rfl) (by rfl) (by rfl) (by simp) (fs' := [_, _]) (by rfl) d_Ro_choose_21 ?_
      refine aw_vret Y X rfl d_Ro_choose_24 (by omega) (by omega) (hP _ _ _ ?_)
      -- ret 24 lv=0:r,1:l st=
      refine ⟨rfl, rfl, ?_, (fr.refl _ _ _).up _ (by omega)⟩
      rw [chS, if_pos ⟨v1, v2⟩, e2]
      exact fin (some v.toInt.toNat) (fun k e => by cases e; omega)
theorem pV_ne {k : Nat} (h : k < 4) : nI k ≠ -1 := by
  rcases (show k = 0 ∨ k = 1 ∨ k = 2 ∨ k = 3 by omega) with rfl | rfl | rfl | rfl <;> decide
theorem s_Ro_pour {p : Option Nat} {R : Nat → List Nat} {a : Nat} {t : Option Nat} (hnx : 15 ≤ nx) (hd : 2 ≤ d) (ha : a < 4) (htk : ∀ k, t = some k → k < 4) (h : hRo G w p R) : AC G y_Ro_pour b_Ro_pour 4 (some .boolean) d false [rf G 5, .int (nI a), .int (pV t)] nx w 0 0 (fun r w' nx' => nx' = nx ∧ r = some (.int (nI (bN (pourS R a t).1))) ∧ hRo G w' p (pourS R a t).2 ∧ fr 5 15 w w') := by
  have h0 := h
  obtain ⟨g1, ⟨f, g2, g3⟩, g4, g5⟩ := h
  have g3a := g3 a ha
  have hTa := g4 a ha
  obtain ⟨fa, ea, ea2, -⟩ := g4 a ha
  refine AC.ofW (by decide) (Nat.le_of_ble_eq_true rfl) ?_
  intro E P hP Y X
  have X : aw_X G "RescanDesk$Rows" b_Ro_pour 4 (some .boolean) "pour" _ _ _ _ _ E := X
  refine AW.eql (lv' := [(0, _), (1, _), (2, _)]) (by rfl) ?_
  cases t with
  | none =>
    refine aw_iload_n (pc := 0) X d_Ro_pour_0 (by rfl) ?_
    refine aw_iload_n (pc := 1) X d_Ro_pour_1 (by rfl) ?_
    refine aw_icmp_ne (pc := 2) X (tgt := 7) d_Ro_pour_2 (by rfl) (fun h2 => ?_) (fun h2 => ?_)
    -- br 2 lv=0:r,1:n,2:i st=
    · refine aw_aload_nR (pc := 7) X d_Ro_pour_7 (by rfl) ?_
      refine aw_getO (pc := 8) X _ 0 (by omega) (by (repeat (first | rw [aw_up_eq] | rw [aw_up_ne _ _ (by first | assumption | omega)])) <;> first | assumption | rfl) (by rfl) in_Ro (by decide) k_150 (by rfl) d_Ro_pour_8 ?_
      refine aw_iload_n (pc := 11) X d_Ro_pour_11 (by rfl) ?_
      refine aw_aaldN (pc := 12) X _ 4 (by omega) (by (repeat (first | rw [aw_up_eq] | rw [aw_up_ne _ _ (by first | assumption | omega)])) <;> first | assumption | rfl) (by rfl) (by omega) (by omega) (by assumption) d_Ro_pour_12 ?_
      refine aw_astore_nR (pc := 13) X (lv' := [(3, _), (0, _), (1, _), (2, _)]) d_Ro_pour_13 (by decide) (by rfl) ?_
      refine aw_iload_n (pc := 14) X d_Ro_pour_14 (by rfl) ?_
      refine aw_iconst (pc := 15) X (v := -1) d_Ro_pour_15 (by decide) ?_
      refine aw_icmp_eq (pc := 16) X (tgt := 53) d_Ro_pour_16 (by rfl) (fun h16 => ?_) (fun h16 => ?_)
      -- br 16 lv=3:r,0:r,1:n,2:i st=
      · have hT53 := s_Tx_empty (d := 0) (nx := nx) (by omega) hTa
        refine aw_aload_nR (pc := 53) X d_Ro_pour_53 (by rfl) ?_
        -- invokevirtual 54 lv=3:r,0:r,1:n,2:i st=r
        refine aw_callV (pc := 54) X _ hT53 q_Tx_empty k_516 k_196 k_197 (by omega) ea (by rfl) d_Ro_pour_54 (by omega) (Nat.le_of_ble_eq_true rfl) ⟨by omega, by omega⟩ (fun h => by cases h) (fun r w' nx' hp => ?_)
        obtain ⟨rfl, rfl, ht, hf2⟩ := hp
        refine aw_iconstN (pc := 57) X 1 d_Ro_pour_57 (by decide) ?_
        refine aw_zret Y X rfl (by decide +kernel) d_Ro_pour_58 (by omega) (by omega) (hP _ _ _ ?_)
        -- ret 58 lv=3:r,0:r,1:n,2:i st=n
        exact ⟨rfl, rfl, h0.row ha ht hf2, hf2.mono (by omega) (by omega)⟩
      · exact absurd rfl h16
    · exact absurd h2 (pV_ne ha)
  | some k =>
    have hk := htk k rfl
    have g3k := g3 k hk
    have hTk := g4 k hk
    obtain ⟨fk, ek, ek2, -⟩ := g4 k hk
    refine AW.eql (lv' := [(0, rf G 5), (1, .int (nI a)), (2, .int (nI k))]) rfl ?_
    refine aw_iload_n (pc := 0) X d_Ro_pour_0 (by rfl) ?_
    refine aw_iload_n (pc := 1) X d_Ro_pour_1 (by rfl) ?_
    refine aw_icmp_neN (pc := 2) X (tgt := 7) d_Ro_pour_2 (by rfl) (by omega) (by omega) (fun h2 => ?_) (fun h2 => ?_)
    -- br 2 lv=0:r,1:n,2:n st=
    · have hne : ¬ k = a := fun e => h2 e.symm
      refine aw_aload_nR (pc := 7) X d_Ro_pour_7 (by rfl) ?_
      refine aw_getO (pc := 8) X _ 0 (by omega) (by (repeat (first | rw [aw_up_eq] | rw [aw_up_ne _ _ (by first | assumption | omega)])) <;> first | assumption | rfl) (by rfl) in_Ro (by decide) k_150 (by rfl) d_Ro_pour_8 ?_
      refine aw_iload_n (pc := 11) X d_Ro_pour_11 (by rfl) ?_
      refine aw_aaldN (pc := 12) X _ 4 (by omega) (by (repeat (first | rw [aw_up_eq] | rw [aw_up_ne _ _ (by first | assumption | omega)])) <;> first | assumption | rfl) (by rfl) (by omega) (by omega) (by assumption) d_Ro_pour_12 ?_
      refine aw_astore_nR (pc := 13) X (lv' := [(3, _), (0, _), (1, _), (2, _)]) d_Ro_pour_13 (by decide) (by rfl) ?_
      refine aw_iload_n (pc := 14) X d_Ro_pour_14 (by rfl) ?_
      refine aw_iconst (pc := 15) X (v := -1) d_Ro_pour_15 (by decide) ?_
      refine aw_icmp_eq (pc := 16) X (tgt := 53) d_Ro_pour_16 (by rfl) (fun h16 => ?_) (fun h16 => ?_)
      -- br 16 lv=3:r,0:r,1:n,2:n st=
      · exact absurd h16 (pV_ne hk)
      · refine aw_aload_nR (pc := 19) X d_Ro_pour_19 (by rfl) ?_
        refine aw_getO (pc := 20) X _ 0 (by omega) (by (repeat (first | rw [aw_up_eq] | rw [aw_up_ne _ _ (by first | assumption | omega)])) <;> first | assumption | rfl) (by rfl) in_Ro (by decide) k_150 (by rfl) d_Ro_pour_20 ?_
        refine aw_iload_n (pc := 23) X d_Ro_pour_23 (by rfl) ?_
        refine aw_aaldN (pc := 24) X _ 4 (by omega) (by (repeat (first | rw [aw_up_eq] | rw [aw_up_ne _ _ (by first | assumption | omega)])) <;> first | assumption | rfl) (by rfl) (by omega) (by omega) (by assumption) d_Ro_pour_24 ?_
        refine aw_aload_nR (pc := 25) X d_Ro_pour_25 (by rfl) ?_
        -- invokevirtual 26 lv=3:r,0:r,1:n,2:n st=r,r
        refine aw_callV (pc := 26) X _ (s_Tx_hasRoomFor (d := 0) (by omega) (by omega) (by omega) (by omega) hTk hTa) q_Tx_hasRoomFor k_724 k_725 k_726 (by omega) ek (by rfl) d_Ro_pour_26 (by omega) (Nat.le_of_ble_eq_true rfl) ⟨by omega, by omega⟩ (fun h => by cases h) (fun r w' nx' hp => ?_)
        obtain ⟨rfl, rfl, rfl⟩ := hp
        have hb := bN_lt (decide ((R k).length + (R a).length ≤ 300))
        refine aw_if_neN (pc := 29) X (tgt := 34) d_Ro_pour_29 (by rfl) (by omega) (fun h29 => ?_) (fun h29 => ?_)
        -- br 29 lv=3:r,0:r,1:n,2:n st=
        · have hfit := of_decide_eq_true (bN_ne.mp h29)
          have eP : pourS R a (some k) = (true, upR (upR R k (R k ++ R a)) a []) := by simp [pourS, hne, hfit]
          obtain ⟨ga, q1, q2, q3, q4, q5⟩ := hTa
          refine aw_aload_nR (pc := 34) X d_Ro_pour_34 (by rfl) ?_
          refine aw_getO (pc := 35) X _ 0 (by omega) (by (repeat (first | rw [aw_up_eq] | rw [aw_up_ne _ _ (by first | assumption | omega)])) <;> first | assumption | rfl) (by rfl) in_Ro (by decide) k_150 (by rfl) d_Ro_pour_35 ?_
          refine aw_iload_n (pc := 38) X d_Ro_pour_38 (by rfl) ?_
          refine aw_aaldN (pc := 39) X _ 4 (by omega) (by (repeat (first | rw [aw_up_eq] | rw [aw_up_ne _ _ (by first | assumption | omega)])) <;> first | assumption | rfl) (by rfl) (by omega) (by omega) (by assumption) d_Ro_pour_39 ?_
          refine aw_aload_nR (pc := 40) X d_Ro_pour_40 (by rfl) ?_
          refine aw_getNO (pc := 41) X _ 0 (by omega) (by (repeat (first | rw [aw_up_eq] | rw [aw_up_ne _ _ (by first | assumption | omega)])) <;> first | assumption | rfl) (by rfl) in_Tx (by decide) k_109 (by rfl) d_Ro_pour_41 ?_
          refine aw_iconstN (pc := 44) X 0 d_Ro_pour_44 (by decide) ?_
          refine aw_aload_nR (pc := 45) X d_Ro_pour_45 (by rfl) ?_
          refine aw_getNO (pc := 46) X _ 1 (by omega) (by (repeat (first | rw [aw_up_eq] | rw [aw_up_ne _ _ (by first | assumption | omega)])) <;> first | assumption | rfl) (by rfl) in_Tx (by decide) k_118 (by rfl) d_Ro_pour_46 ?_
          -- invokevirtual 49 lv=3:r,0:r,1:n,2:n st=n,n,r,r
          refine aw_callV (pc := 49) X _ (s_Tx_addPart (d := 1) (a := 7 + 2 * k) (m := 300) (q := 7 + 2 * a + 1) (l := 300) (f := ga) (by omega) (by omega) (by omega) (by omega) (by omega) (by omega) q4 q5 hTk q2) q_Tx_addPart k_728 k_547 k_548 (by omega) ek (by rfl) d_Ro_pour_49 (by omega) (Nat.le_of_ble_eq_true rfl) ⟨by omega, by omega⟩ (fun h => by cases h) (fun r w' nx' hp => ?_)
          obtain ⟨rfl, rfl, ht, hf2⟩ := hp
          rw [Nat.sub_zero, ← q3, List.take_of_length_le (by simp; omega)] at ht
          have hTa2 : hTx G w' (7 + 2 * a) 300 (R a) := (g4 a ha).keep hf2 (by omega)
          have ea3 : w' (7 + 2 * a) = oTx G (7 + 2 * a + 1) (R a).length := (hf2 _ (by omega)).trans ea
          refine aw_pop (pc := 52) X d_Ro_pour_52 (by rfl) ?_
          refine aw_aload_nR (pc := 53) X d_Ro_pour_53 (by rfl) ?_
          -- invokevirtual 54 lv=3:r,0:r,1:n,2:n st=r
          refine aw_callV (pc := 54) X _ (s_Tx_empty (d := 0) (by omega) hTa2) q_Tx_empty k_516 k_196 k_197 (by omega) ea3 (by rfl) d_Ro_pour_54 (by omega) (Nat.le_of_ble_eq_true rfl) ⟨by omega, by omega⟩ (fun h => by cases h) (fun r w' nx' hp => ?_)
          obtain ⟨rfl, rfl, ht2, hf3⟩ := hp
          refine aw_iconstN (pc := 57) X 1 d_Ro_pour_57 (by decide) ?_
          refine aw_zret Y X rfl (by decide +kernel) d_Ro_pour_58 (by omega) (by omega) (hP _ _ _ ?_)
          -- ret 58 lv=3:r,0:r,1:n,2:n st=n
          rw [eP]
          exact ⟨rfl, rfl, (h0.row hk ht hf2).row ha ht2 hf3, (hf2.mono (by omega) (by omega)).trans (hf3.mono (by omega) (by omega))⟩
        · have hfit := of_decide_eq_false (bN_eq.mp h29)
          have eP : pourS R a (some k) = (false, R) := by simp [pourS, hne, hfit]
          refine aw_iconstN (pc := 32) X 0 d_Ro_pour_32 (by decide) ?_
          refine aw_zret Y X rfl (by decide +kernel) d_Ro_pour_33 (by omega) (by omega) (hP _ _ _ ?_)
          -- ret 33 lv=3:r,0:r,1:n,2:n st=n
          rw [eP]
          exact ⟨rfl, rfl, h0, fr.refl _ _ _⟩
    · have eP : pourS R a (some k) = (true, R) := by simp [pourS, h2]
      refine aw_iconstN (pc := 5) X 1 d_Ro_pour_5 (by decide) ?_
      refine aw_zret Y X rfl (by decide +kernel) d_Ro_pour_6 (by omega) (by omega) (hP _ _ _ ?_)
      -- ret 6 lv=0:r,1:n,2:n st=n
      rw [eP]
      exact ⟨rfl, rfl, h0, fr.refl _ _ _⟩
theorem s_Ro_pourAll {p : Option Nat} {R : Nat → List Nat} {t : Option Nat} (hnx : 15 ≤ nx) (hd : 3 ≤ d) (htk : ∀ k, t = some k → k < 4) (h : hRo G w p R) : AC G y_Ro_pourAll b_Ro_pourAll 3 (some .boolean) d false [rf G 5, .int (pV t)] nx w 0 0 (fun r w' nx' => nx' = nx ∧ r = some (.int (nI (bN (pourAllS R t).1))) ∧ hRo G w' p (pourAllS R t).2 ∧ fr 5 15 w w') := by
  refine AC.ofW (by decide) (Nat.le_of_ble_eq_true rfl) ?_
  intro E P hP Y X
  have X : aw_X G "RescanDesk$Rows" b_Ro_pourAll 3 (some .boolean) "pourAll" _ _ _ _ _ E := X
  refine AW.eql (lv' := [(0, _), (1, _)]) (by rfl) ?_
  have S : ∀ (i : Nat) (w1 : Nat → va_E) (R1 : Nat → List Nat), i < 4 → hRo G w1 p R1 → fr 5 15 w w1 →
      (∀ w2, (pourS R1 i t).1 = true → hRo G w2 p (pourS R1 i t).2 → fr 5 15 w w2 → AW G E 3 nx 0 0 w2 2 [(2, .int (nI (i + 1))), (0, rf G 5), (1, .int (pV t))] []) →
      ((pourS R1 i t).1 = false → (pourAllS R t) = pourS R1 i t) →
      AW G E 3 nx 0 0 w1 2 [(2, .int (nI i)), (0, rf G 5), (1, .int (pV t))] [] := by
    intro i w1 R1 hi h1 hf hgo hstop
    have h10 := h1
    obtain ⟨g1, -⟩ := h1
    refine aw_iload_n (pc := 2) X d_Ro_pourAll_2 (by rfl) ?_
    refine aw_iconstN (pc := 3) X 4 d_Ro_pourAll_3 (by decide) ?_
    refine aw_icmp_geN (pc := 4) X (tgt := 24) d_Ro_pourAll_4 (by rfl) (by omega) (by omega) (fun h4 => ?_) (fun h4 => ?_)
    -- br 4 lv=2:n,0:r,1:i st=
    · omega
    · refine aw_aload_nR (pc := 7) X d_Ro_pourAll_7 (by rfl) ?_
      refine aw_iload_n (pc := 8) X d_Ro_pourAll_8 (by rfl) ?_
      refine aw_iload_n (pc := 9) X d_Ro_pourAll_9 (by rfl) ?_
      -- invokevirtual 10 lv=2:n,0:r,1:i st=i,n,r
      refine aw_callV (pc := 10) X _ (s_Ro_pour (d := 2) (p := p) (R := R1) (t := t) hnx (by omega) hi htk h10) q_Ro_pour k_720 k_721 k_722 (by omega) g1 (by rfl) d_Ro_pourAll_10 (by omega) (Nat.le_of_ble_eq_true rfl) ⟨by omega, by omega⟩ (fun h => by cases h) (fun r w' nx' hp => ?_)
      obtain ⟨rfl, rfl, h2, hf2⟩ := hp
      have hb := bN_lt (pourS R1 i t).1
      refine aw_if_neN (pc := 13) X (tgt := 18) d_Ro_pourAll_13 (by rfl) (by omega) (fun h13 => ?_) (fun h13 => ?_)
      -- br 13 lv=2:n,0:r,1:i st=
      · refine aw_iincN (pc := 18) X 1 (lv' := [(2, _), (0, _), (1, _)]) d_Ro_pourAll_18 (by rfl) (by decide) (by decide) (by rfl) ?_
        refine aw_goto (pc := 21) X (tgt := 2) d_Ro_pourAll_21 (by rfl) ?_
        -- stop 2 lv=2:n,0:r,1:i st=
        exact hgo _ (bN_ne.mp h13) h2 (hf.trans hf2)
      · have he := bN_eq.mp h13
        refine aw_iconstN (pc := 16) X 0 d_Ro_pourAll_16 (by decide) ?_
        refine aw_zret Y X rfl (by decide +kernel) d_Ro_pourAll_17 (by omega) (by omega) (hP _ _ _ ?_)
        -- ret 17 lv=2:n,0:r,1:i st=n
        rw [hstop he, he]
        exact ⟨rfl, rfl, h2, hf.trans hf2⟩
  refine aw_iconstN (pc := 0) X 1 d_Ro_pourAll_0 (by decide) ?_
  refine aw_istore_n (pc := 1) X (lv' := [(2, _), (0, _), (1, _)]) d_Ro_pourAll_1 (by decide) (by rfl) ?_
  -- stop 2 lv=2:n,0:r,1:i st=
  refine S 1 w R (by omega) h (fr.refl _ _ _) (fun w2 e2 h2 f2 => ?_) (fun e => by rw [pourAllS, if_neg (by rw [e]; decide)])
  refine S 2 w2 _ (by omega) h2 f2 (fun w3 e3 h3 f3 => ?_) (fun e => by rw [pourAllS, if_pos e2, if_neg (by rw [e]; decide)])
  refine S 3 w3 _ (by omega) h3 f3 (fun w4 e4 q4 f4 => ?_) (fun e => by rw [pourAllS, if_pos e2, if_pos e3])
  refine aw_iload_n (pc := 2) X d_Ro_pourAll_2 (by rfl) ?_
  refine aw_iconstN (pc := 3) X 4 d_Ro_pourAll_3 (by decide) ?_
  refine aw_icmp_geN (pc := 4) X (tgt := 24) d_Ro_pourAll_4 (by rfl) (by omega) (by omega) (fun h4 => ?_) (fun h4 => ?_)
  -- br 4 lv=2:n,0:r,1:i st=
  · have e : pourAllS R t = pourS (pourS (pourS R 1 t).2 2 t).2 3 t := by rw [pourAllS, if_pos e2, if_pos e3]
    refine aw_iconstN (pc := 24) X 1 d_Ro_pourAll_24 (by decide) ?_
    refine aw_zret Y X rfl (by decide +kernel) d_Ro_pourAll_25 (by omega) (by omega) (hP _ _ _ ?_)
    -- ret 25 lv=2:n,0:r,1:i st=n
    rw [e, e4]
    exact ⟨rfl, rfl, q4, f4⟩
  · omega
theorem s_Ro_join {p : Option Nat} {R : Nat → List Nat} (hnx : 15 ≤ nx) (hd : 4 ≤ d) (h : hRo G w p R) : AC G y_Ro_join b_Ro_join 1 (some .boolean) d false [rf G 5] nx w 0 0 (fun r w' nx' => nx' = nx ∧ r = some (.int (nI (bN (pourAllS R (some 0)).1))) ∧ hRo G w' (if (pourAllS R (some 0)).1 = true then some 0 else p) (pourAllS R (some 0)).2 ∧ fr 5 15 w w') := by
  have h0 := h
  obtain ⟨g1, -⟩ := h
  refine AC.ofW (by decide) (Nat.le_of_ble_eq_true rfl) ?_
  intro E P hP Y X
  have X : aw_X G "RescanDesk$Rows" b_Ro_join 1 (some .boolean) "join" _ _ _ _ _ E := X
  refine AW.eql (lv' := [(0, _)]) (by rfl) ?_
  refine aw_aload_nR (pc := 0) X d_Ro_join_0 (by rfl) ?_
  refine aw_iconstN (pc := 1) X 0 d_Ro_join_1 (by decide) ?_
  -- invokevirtual 2 lv=0:r st=n,r
  refine aw_callV (pc := 2) X _ (s_Ro_pourAll (d := 3) (p := p) (R := R) (t := some 0) hnx (by omega) (fun k e => by cases e; omega) h0) q_Ro_pourAll k_812 k_717 k_718 (by omega) g1 (by rfl) d_Ro_join_2 (by omega) (Nat.le_of_ble_eq_true rfl) ⟨by omega, by omega⟩ (fun h => by cases h) (fun r w' nx' hp => ?_)
  obtain ⟨rfl, rfl, h2, hf2⟩ := hp
  have hb := bN_lt (pourAllS R (some 0)).1
  refine aw_if_neN (pc := 5) X (tgt := 10) d_Ro_join_5 (by rfl) (by omega) (fun h5 => ?_) (fun h5 => ?_)
  -- br 5 lv=0:r st=
  · have he := bN_ne.mp h5
    obtain ⟨k1, ⟨f, k2, k3⟩, k4, k5⟩ := h2
    refine aw_aload_nR (pc := 10) X d_Ro_join_10 (by rfl) ?_
    refine aw_iconstN (pc := 11) X 0 d_Ro_join_11 (by decide) ?_
    refine aw_putO (pc := 12) X _ 1 (by omega) (by (repeat (first | rw [aw_up_eq] | rw [aw_up_ne _ _ (by first | assumption | omega)])) <;> first | assumption | rfl) (by rfl) in_Ro (by decide) ty_Ro ok_Ro nm_Ro k_152 (by rfl) (by rfl) (by rfl) (by simp) (fs' := [_, _]) (by rfl) d_Ro_join_12 ?_
    refine aw_iconstN (pc := 15) X 1 d_Ro_join_15 (by decide) ?_
    refine aw_zret Y X rfl (by decide +kernel) d_Ro_join_16 (by omega) (by omega) (hP _ _ _ ?_)
    -- ret 16 lv=0:r st=n
    rw [if_pos he, he]
    refine ⟨rfl, rfl, ⟨aw_up_eq _ _ _, ⟨f, by rw [aw_up_ne _ _ (by omega)]; exact k2, k3⟩, fun r hr => (k4 r hr).kept (by rw [aw_up_ne _ _ (by omega)]) (by rw [aw_up_ne _ _ (by omega)]), fun k e => by cases e; omega⟩, hf2.up _ (by omega)⟩
  · have he := bN_eq.mp h5
    refine aw_iconstN (pc := 8) X 0 d_Ro_join_8 (by decide) ?_
    refine aw_zret Y X rfl (by decide +kernel) d_Ro_join_9 (by omega) (by omega) (hP _ _ _ ?_)
    -- ret 9 lv=0:r st=n
    rw [if_neg (by rw [he]; decide), he]
    exact ⟨rfl, rfl, h2, hf2⟩
end

