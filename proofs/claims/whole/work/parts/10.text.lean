/-! RescanDesk$Text: a row of characters. oTx: the object, its characters' array at offset c, its length n; aCh: the array -/
def y_Tx_init : MethodName := ⟨"RescanDesk$Text", "<init>", "(I)V"⟩
abbrev b_Tx_init : ByteArray := prog_12_method_1_code
theorem d_Tx_init_0 : decode b_Tx_init 0 = .ok (.aload_n 0, 1) := by decide +kernel
theorem d_Tx_init_1 : decode b_Tx_init 1 = .ok (.invokespecial 3, 3) := by decide +kernel
theorem d_Tx_init_4 : decode b_Tx_init 4 = .ok (.aload_n 0, 1) := by decide +kernel
theorem d_Tx_init_5 : decode b_Tx_init 5 = .ok (.iload_n 1, 1) := by decide +kernel
theorem d_Tx_init_6 : decode b_Tx_init 6 = .ok (.newarray .char, 2) := by decide +kernel
theorem d_Tx_init_8 : decode b_Tx_init 8 = .ok (.putfield 9, 3) := by decide +kernel
theorem d_Tx_init_11 : decode b_Tx_init 11 = .ok (.aload_n 0, 1) := by decide +kernel
theorem d_Tx_init_12 : decode b_Tx_init 12 = .ok (.iconst 0, 1) := by decide +kernel
theorem d_Tx_init_13 : decode b_Tx_init 13 = .ok (.putfield 15, 3) := by decide +kernel
theorem d_Tx_init_16 : decode b_Tx_init 16 = .ok (.return_, 1) := by decide +kernel
theorem q_Tx_init : aw_q1 y_Tx_init b_Tx_init 2 none 1 := ⟨k_100, k_64, ⟨by decide, by decide, by decide +kernel⟩, by decide⟩
def y_Tx_empty : MethodName := ⟨"RescanDesk$Text", "empty", "()V"⟩
abbrev b_Tx_empty : ByteArray := prog_12_method_2_code
theorem d_Tx_empty_0 : decode b_Tx_empty 0 = .ok (.aload_n 0, 1) := by decide +kernel
theorem d_Tx_empty_1 : decode b_Tx_empty 1 = .ok (.iconst 0, 1) := by decide +kernel
theorem d_Tx_empty_2 : decode b_Tx_empty 2 = .ok (.putfield 15, 3) := by decide +kernel
theorem d_Tx_empty_5 : decode b_Tx_empty 5 = .ok (.return_, 1) := by decide +kernel
theorem q_Tx_empty : aw_q1 y_Tx_empty b_Tx_empty 1 none 0 := ⟨k_198, k_64, ⟨by decide, by decide, by decide +kernel⟩, by decide⟩
def y_Tx_add : MethodName := ⟨"RescanDesk$Text", "add", "(C)Z"⟩
abbrev b_Tx_add : ByteArray := prog_12_method_3_code
theorem d_Tx_add_0 : decode b_Tx_add 0 = .ok (.aload_n 0, 1) := by decide +kernel
theorem d_Tx_add_1 : decode b_Tx_add 1 = .ok (.getfield 15, 3) := by decide +kernel
theorem d_Tx_add_4 : decode b_Tx_add 4 = .ok (.aload_n 0, 1) := by decide +kernel
theorem d_Tx_add_5 : decode b_Tx_add 5 = .ok (.getfield 9, 3) := by decide +kernel
theorem d_Tx_add_8 : decode b_Tx_add 8 = .ok (.arraylength, 1) := by decide +kernel
theorem d_Tx_add_9 : decode b_Tx_add 9 = .ok (.if_icmp .lt 5, 3) := by decide +kernel
theorem d_Tx_add_12 : decode b_Tx_add 12 = .ok (.iconst 0, 1) := by decide +kernel
theorem d_Tx_add_13 : decode b_Tx_add 13 = .ok (.ireturn, 1) := by decide +kernel
theorem d_Tx_add_14 : decode b_Tx_add 14 = .ok (.aload_n 0, 1) := by decide +kernel
theorem d_Tx_add_15 : decode b_Tx_add 15 = .ok (.getfield 9, 3) := by decide +kernel
theorem d_Tx_add_18 : decode b_Tx_add 18 = .ok (.aload_n 0, 1) := by decide +kernel
theorem d_Tx_add_19 : decode b_Tx_add 19 = .ok (.getfield 15, 3) := by decide +kernel
theorem d_Tx_add_22 : decode b_Tx_add 22 = .ok (.iload_n 1, 1) := by decide +kernel
theorem d_Tx_add_23 : decode b_Tx_add 23 = .ok (.castore, 1) := by decide +kernel
theorem d_Tx_add_24 : decode b_Tx_add 24 = .ok (.aload_n 0, 1) := by decide +kernel
theorem d_Tx_add_25 : decode b_Tx_add 25 = .ok (.dup, 1) := by decide +kernel
theorem d_Tx_add_26 : decode b_Tx_add 26 = .ok (.getfield 15, 3) := by decide +kernel
theorem d_Tx_add_29 : decode b_Tx_add 29 = .ok (.iconst 1, 1) := by decide +kernel
theorem d_Tx_add_30 : decode b_Tx_add 30 = .ok (.iadd, 1) := by decide +kernel
theorem d_Tx_add_31 : decode b_Tx_add 31 = .ok (.putfield 15, 3) := by decide +kernel
theorem d_Tx_add_34 : decode b_Tx_add 34 = .ok (.iconst 1, 1) := by decide +kernel
theorem d_Tx_add_35 : decode b_Tx_add 35 = .ok (.ireturn, 1) := by decide +kernel
theorem q_Tx_add : aw_q1 y_Tx_add b_Tx_add 2 (some .boolean) 1 := ⟨k_250, k_64, ⟨by decide, by decide, by decide +kernel⟩, by decide⟩
def y_Tx_addPart : MethodName := ⟨"RescanDesk$Text", "addPart", "([CII)Z"⟩
abbrev b_Tx_addPart : ByteArray := prog_12_method_4_code
theorem d_Tx_addPart_0 : decode b_Tx_addPart 0 = .ok (.iload_n 3, 1) := by decide +kernel
theorem d_Tx_addPart_1 : decode b_Tx_addPart 1 = .ok (.iload_n 2, 1) := by decide +kernel
theorem d_Tx_addPart_2 : decode b_Tx_addPart 2 = .ok (.isub, 1) := by decide +kernel
theorem d_Tx_addPart_3 : decode b_Tx_addPart 3 = .ok (.aload_n 0, 1) := by decide +kernel
theorem d_Tx_addPart_4 : decode b_Tx_addPart 4 = .ok (.getfield 9, 3) := by decide +kernel
theorem d_Tx_addPart_7 : decode b_Tx_addPart 7 = .ok (.arraylength, 1) := by decide +kernel
theorem d_Tx_addPart_8 : decode b_Tx_addPart 8 = .ok (.aload_n 0, 1) := by decide +kernel
theorem d_Tx_addPart_9 : decode b_Tx_addPart 9 = .ok (.getfield 15, 3) := by decide +kernel
theorem d_Tx_addPart_12 : decode b_Tx_addPart 12 = .ok (.isub, 1) := by decide +kernel
theorem d_Tx_addPart_13 : decode b_Tx_addPart 13 = .ok (.invokestatic 19, 3) := by decide +kernel
theorem d_Tx_addPart_16 : decode b_Tx_addPart 16 = .ok (.istore 4, 2) := by decide +kernel
theorem d_Tx_addPart_18 : decode b_Tx_addPart 18 = .ok (.iload 4, 2) := by decide +kernel
theorem d_Tx_addPart_20 : decode b_Tx_addPart 20 = .ok (.ifCond .le 29, 3) := by decide +kernel
theorem d_Tx_addPart_23 : decode b_Tx_addPart 23 = .ok (.aload_n 1, 1) := by decide +kernel
theorem d_Tx_addPart_24 : decode b_Tx_addPart 24 = .ok (.iload_n 2, 1) := by decide +kernel
theorem d_Tx_addPart_25 : decode b_Tx_addPart 25 = .ok (.aload_n 0, 1) := by decide +kernel
theorem d_Tx_addPart_26 : decode b_Tx_addPart 26 = .ok (.getfield 9, 3) := by decide +kernel
theorem d_Tx_addPart_29 : decode b_Tx_addPart 29 = .ok (.aload_n 0, 1) := by decide +kernel
theorem d_Tx_addPart_30 : decode b_Tx_addPart 30 = .ok (.getfield 15, 3) := by decide +kernel
theorem d_Tx_addPart_33 : decode b_Tx_addPart 33 = .ok (.iload 4, 2) := by decide +kernel
theorem d_Tx_addPart_35 : decode b_Tx_addPart 35 = .ok (.invokestatic 25, 3) := by decide +kernel
theorem d_Tx_addPart_38 : decode b_Tx_addPart 38 = .ok (.aload_n 0, 1) := by decide +kernel
theorem d_Tx_addPart_39 : decode b_Tx_addPart 39 = .ok (.dup, 1) := by decide +kernel
theorem d_Tx_addPart_40 : decode b_Tx_addPart 40 = .ok (.getfield 15, 3) := by decide +kernel
theorem d_Tx_addPart_43 : decode b_Tx_addPart 43 = .ok (.iload 4, 2) := by decide +kernel
theorem d_Tx_addPart_45 : decode b_Tx_addPart 45 = .ok (.iadd, 1) := by decide +kernel
theorem d_Tx_addPart_46 : decode b_Tx_addPart 46 = .ok (.putfield 15, 3) := by decide +kernel
theorem d_Tx_addPart_49 : decode b_Tx_addPart 49 = .ok (.iload_n 3, 1) := by decide +kernel
theorem d_Tx_addPart_50 : decode b_Tx_addPart 50 = .ok (.iload_n 2, 1) := by decide +kernel
theorem d_Tx_addPart_51 : decode b_Tx_addPart 51 = .ok (.isub, 1) := by decide +kernel
theorem d_Tx_addPart_52 : decode b_Tx_addPart 52 = .ok (.iload 4, 2) := by decide +kernel
theorem d_Tx_addPart_54 : decode b_Tx_addPart 54 = .ok (.if_icmp .gt 7, 3) := by decide +kernel
theorem d_Tx_addPart_57 : decode b_Tx_addPart 57 = .ok (.iconst 1, 1) := by decide +kernel
theorem d_Tx_addPart_58 : decode b_Tx_addPart 58 = .ok (.goto 4, 3) := by decide +kernel
theorem d_Tx_addPart_61 : decode b_Tx_addPart 61 = .ok (.iconst 0, 1) := by decide +kernel
theorem d_Tx_addPart_62 : decode b_Tx_addPart 62 = .ok (.ireturn, 1) := by decide +kernel
theorem q_Tx_addPart : aw_q1 y_Tx_addPart b_Tx_addPart 5 (some .boolean) 3 := ⟨k_549, k_64, ⟨by decide, by decide, by decide +kernel⟩, by decide⟩
def y_Tx_hasRoomFor : MethodName := ⟨"RescanDesk$Text", "hasRoomFor", "(LRescanDesk$Text;)Z"⟩
abbrev b_Tx_hasRoomFor : ByteArray := prog_12_method_5_code
theorem d_Tx_hasRoomFor_0 : decode b_Tx_hasRoomFor 0 = .ok (.aload_n 1, 1) := by decide +kernel
theorem d_Tx_hasRoomFor_1 : decode b_Tx_hasRoomFor 1 = .ok (.getfield 15, 3) := by decide +kernel
theorem d_Tx_hasRoomFor_4 : decode b_Tx_hasRoomFor 4 = .ok (.aload_n 0, 1) := by decide +kernel
theorem d_Tx_hasRoomFor_5 : decode b_Tx_hasRoomFor 5 = .ok (.getfield 9, 3) := by decide +kernel
theorem d_Tx_hasRoomFor_8 : decode b_Tx_hasRoomFor 8 = .ok (.arraylength, 1) := by decide +kernel
theorem d_Tx_hasRoomFor_9 : decode b_Tx_hasRoomFor 9 = .ok (.aload_n 0, 1) := by decide +kernel
theorem d_Tx_hasRoomFor_10 : decode b_Tx_hasRoomFor 10 = .ok (.getfield 15, 3) := by decide +kernel
theorem d_Tx_hasRoomFor_13 : decode b_Tx_hasRoomFor 13 = .ok (.isub, 1) := by decide +kernel
theorem d_Tx_hasRoomFor_14 : decode b_Tx_hasRoomFor 14 = .ok (.if_icmp .gt 7, 3) := by decide +kernel
theorem d_Tx_hasRoomFor_17 : decode b_Tx_hasRoomFor 17 = .ok (.iconst 1, 1) := by decide +kernel
theorem d_Tx_hasRoomFor_18 : decode b_Tx_hasRoomFor 18 = .ok (.goto 4, 3) := by decide +kernel
theorem d_Tx_hasRoomFor_21 : decode b_Tx_hasRoomFor 21 = .ok (.iconst 0, 1) := by decide +kernel
theorem d_Tx_hasRoomFor_22 : decode b_Tx_hasRoomFor 22 = .ok (.ireturn, 1) := by decide +kernel
theorem q_Tx_hasRoomFor : aw_q1 y_Tx_hasRoomFor b_Tx_hasRoomFor 2 (some .boolean) 1 := ⟨k_727, k_64, ⟨by decide, by decide, by decide +kernel⟩, by decide⟩
def y_Tx_set : MethodName := ⟨"RescanDesk$Text", "set", "([CII)V"⟩
abbrev b_Tx_set : ByteArray := prog_12_method_6_code
theorem d_Tx_set_0 : decode b_Tx_set 0 = .ok (.aload_n 0, 1) := by decide +kernel
theorem d_Tx_set_1 : decode b_Tx_set 1 = .ok (.iconst 0, 1) := by decide +kernel
theorem d_Tx_set_2 : decode b_Tx_set 2 = .ok (.putfield 15, 3) := by decide +kernel
theorem d_Tx_set_5 : decode b_Tx_set 5 = .ok (.aload_n 0, 1) := by decide +kernel
theorem d_Tx_set_6 : decode b_Tx_set 6 = .ok (.aload_n 1, 1) := by decide +kernel
theorem d_Tx_set_7 : decode b_Tx_set 7 = .ok (.iload_n 2, 1) := by decide +kernel
theorem d_Tx_set_8 : decode b_Tx_set 8 = .ok (.iload_n 3, 1) := by decide +kernel
theorem d_Tx_set_9 : decode b_Tx_set 9 = .ok (.invokevirtual 31, 3) := by decide +kernel
theorem d_Tx_set_12 : decode b_Tx_set 12 = .ok (.pop, 1) := by decide +kernel
theorem d_Tx_set_13 : decode b_Tx_set 13 = .ok (.return_, 1) := by decide +kernel
theorem q_Tx_set : aw_q1 y_Tx_set b_Tx_set 4 none 3 := ⟨k_579, k_64, ⟨by decide, by decide, by decide +kernel⟩, by decide⟩
def y_Tx_isSame : MethodName := ⟨"RescanDesk$Text", "isSame", "([CII)Z"⟩
abbrev b_Tx_isSame : ByteArray := prog_12_method_8_code
theorem d_Tx_isSame_0 : decode b_Tx_isSame 0 = .ok (.iload_n 3, 1) := by decide +kernel
theorem d_Tx_isSame_1 : decode b_Tx_isSame 1 = .ok (.iload_n 2, 1) := by decide +kernel
theorem d_Tx_isSame_2 : decode b_Tx_isSame 2 = .ok (.isub, 1) := by decide +kernel
theorem d_Tx_isSame_3 : decode b_Tx_isSame 3 = .ok (.aload_n 0, 1) := by decide +kernel
theorem d_Tx_isSame_4 : decode b_Tx_isSame 4 = .ok (.getfield 15, 3) := by decide +kernel
theorem d_Tx_isSame_7 : decode b_Tx_isSame 7 = .ok (.if_icmp .eq 5, 3) := by decide +kernel
theorem d_Tx_isSame_10 : decode b_Tx_isSame 10 = .ok (.iconst 0, 1) := by decide +kernel
theorem d_Tx_isSame_11 : decode b_Tx_isSame 11 = .ok (.ireturn, 1) := by decide +kernel
theorem d_Tx_isSame_12 : decode b_Tx_isSame 12 = .ok (.iconst 0, 1) := by decide +kernel
theorem d_Tx_isSame_13 : decode b_Tx_isSame 13 = .ok (.istore 4, 2) := by decide +kernel
theorem d_Tx_isSame_15 : decode b_Tx_isSame 15 = .ok (.iload 4, 2) := by decide +kernel
theorem d_Tx_isSame_17 : decode b_Tx_isSame 17 = .ok (.aload_n 0, 1) := by decide +kernel
theorem d_Tx_isSame_18 : decode b_Tx_isSame 18 = .ok (.getfield 15, 3) := by decide +kernel
theorem d_Tx_isSame_21 : decode b_Tx_isSame 21 = .ok (.if_icmp .ge 27, 3) := by decide +kernel
theorem d_Tx_isSame_24 : decode b_Tx_isSame 24 = .ok (.aload_n 0, 1) := by decide +kernel
theorem d_Tx_isSame_25 : decode b_Tx_isSame 25 = .ok (.getfield 9, 3) := by decide +kernel
theorem d_Tx_isSame_28 : decode b_Tx_isSame 28 = .ok (.iload 4, 2) := by decide +kernel
theorem d_Tx_isSame_30 : decode b_Tx_isSame 30 = .ok (.caload, 1) := by decide +kernel
theorem d_Tx_isSame_31 : decode b_Tx_isSame 31 = .ok (.aload_n 1, 1) := by decide +kernel
theorem d_Tx_isSame_32 : decode b_Tx_isSame 32 = .ok (.iload_n 2, 1) := by decide +kernel
theorem d_Tx_isSame_33 : decode b_Tx_isSame 33 = .ok (.iload 4, 2) := by decide +kernel
theorem d_Tx_isSame_35 : decode b_Tx_isSame 35 = .ok (.iadd, 1) := by decide +kernel
theorem d_Tx_isSame_36 : decode b_Tx_isSame 36 = .ok (.caload, 1) := by decide +kernel
theorem d_Tx_isSame_37 : decode b_Tx_isSame 37 = .ok (.if_icmp .eq 5, 3) := by decide +kernel
theorem d_Tx_isSame_40 : decode b_Tx_isSame 40 = .ok (.iconst 0, 1) := by decide +kernel
theorem d_Tx_isSame_41 : decode b_Tx_isSame 41 = .ok (.ireturn, 1) := by decide +kernel
theorem d_Tx_isSame_42 : decode b_Tx_isSame 42 = .ok (.iinc 4 1, 3) := by decide +kernel
theorem d_Tx_isSame_45 : decode b_Tx_isSame 45 = .ok (.goto (-30), 3) := by decide +kernel
theorem d_Tx_isSame_48 : decode b_Tx_isSame 48 = .ok (.iconst 1, 1) := by decide +kernel
theorem d_Tx_isSame_49 : decode b_Tx_isSame 49 = .ok (.ireturn, 1) := by decide +kernel
theorem q_Tx_isSame : aw_q1 y_Tx_isSame b_Tx_isSame 5 (some .boolean) 3 := ⟨k_422, k_64, ⟨by decide, by decide, by decide +kernel⟩, by decide⟩
def oTx (G : aw_G) (c n : Nat) : va_E := aObj 1 [rf G c, .int (nI n)]
def aCh (G : aw_G) (n : Nat) (g : Nat → Nat) : va_E := aArr (G.2.2.2.1 0) n g
/-- the text of length n at place s -/
def sl (g : Nat → Nat) (s n : Nat) : List Nat := (List.range n).map (fun i => g (s + i))
theorem sl_len (g : Nat → Nat) (s n : Nat) : (sl g s n).length = n := by simp [sl]
theorem sl_get {g : Nat → Nat} {s n i : Nat} (h : i < n) : (sl g s n)[i]? = some (g (s + i)) := by simp [sl, h]
theorem sl_eq {g h : Nat → Nat} {s t n : Nat} : sl g s n = sl h t n ↔ ∀ i, i < n → g (s + i) = h (t + i) := by
  constructor
  · intro e i hi
    have := congrArg (fun l => l[i]?) e
    simpa [sl_get hi] using this
  · intro e
    apply List.ext_getElem?
    intro i
    by_cases hi : i < n
    · rw [sl_get hi, sl_get hi, e i hi]
    · rw [List.getElem?_eq_none_iff.mpr (by rw [sl_len]; omega), List.getElem?_eq_none_iff.mpr (by rw [sl_len]; omega)]
def bN (p : Bool) : Nat := cond p 1 0
section
variable {G : aw_G} {nx d : Nat} {w : Nat → va_E}
/-- empty() -/
theorem c_Tx_empty {a c n : Nat} (ha : a < nx) (h1 : w a = oTx G c n) : AC G y_Tx_empty b_Tx_empty 1 none d false [rf G a] nx w 0 0 (fun r w' nx' => r = none ∧ w' = aw_up w a (oTx G c 0) ∧ nx' = nx) := by
  refine AC.ofW (by decide) (Nat.le_of_ble_eq_true rfl) ?_
  intro E P hP Y X
  have X : aw_X G "RescanDesk$Text" b_Tx_empty 1 none "empty" _ _ _ _ _ E := X
  refine AW.eql (lv' := [(0, _)]) (by rfl) ?_
  refine aw_aload_nR (pc := 0) X d_Tx_empty_0 (by rfl) ?_
  refine aw_iconstN (pc := 1) X 0 d_Tx_empty_1 (by decide) ?_
  refine aw_putO (pc := 2) X _ 1 (by omega) (by (repeat (first | rw [aw_up_eq] | rw [aw_up_ne _ _ (by first | assumption | omega)])) <;> first | assumption | rfl) (by rfl) in_Tx (by decide) ty_Tx ok_Tx nm_Tx k_111 (by rfl) (by rfl) (by rfl) (by simp) (fs' := [_, _]) (by rfl) d_Tx_empty_2 ?_
  refine aw_vret Y X rfl d_Tx_empty_5 (by omega) (by omega) (hP _ _ _ ?_)
  -- ret 5 lv=0:r st=
  exact ⟨rfl, rfl, rfl⟩
/-- Text(room) -/
theorem c_Tx_init {a m : Nat} (ha : a < nx) (hd : 1 ≤ d) (hm : m < 2 ^ 20) (h1 : w a = aObj 1 [.null, .int 0]) : AC G y_Tx_init b_Tx_init 2 none d true [rf G a, .int (nI m)] nx w 1 m (fun r w' nx' => r = none ∧ w' = aw_up (aw_up w nx (aCh G m (fun _ => 0))) a (oTx G nx 0) ∧ nx' = nx + 1) := by
  have hne : a ≠ nx := by omega
  refine AC.ofW (by decide) (Nat.le_of_ble_eq_true rfl) ?_
  intro E P hP Y X
  have X : aw_X G "RescanDesk$Text" b_Tx_init 2 none "<init>" _ _ _ _ _ E := X
  refine AW.eql (lv' := [(0, _), (1, _)]) (by rfl) ?_
  refine aw_aload_nR (pc := 0) X d_Tx_init_0 (by rfl) ?_
  refine aw_objInit (pc := 1) X k_101 k_94 k_95 d_Tx_init_1 (by omega) (Nat.le_trans (m := 20) (Nat.le_of_ble_eq_true rfl) (by omega)) ?_
  refine aw_aload_nR (pc := 4) X d_Tx_init_4 (by rfl) ?_
  refine aw_iload_n (pc := 5) X d_Tx_init_5 (by rfl) ?_
  refine aw_newaN (pc := 6) X (atype := .char) (ty := .char) rfl 0 (by rfl) (by intro C h; cases h) rfl (by decide) rfl (by omega) k_125 (by omega) (by omega) (by omega) d_Tx_init_6 ?_
  refine aw_putFO (pc := 8) X _ 0 (by omega) (by (repeat (first | rw [aw_up_eq] | rw [aw_up_ne _ _ (by first | assumption | omega)])) <;> first | assumption | rfl) (by rfl) in_Tx (by decide) ty_Tx ok_Tx nm_Tx k_102 (by rfl) (by rfl) (by rfl) (by rfl) (by rfl) (by simp) (fs' := [_, _]) (by rfl) d_Tx_init_8 ?_
  refine aw_aload_nR (pc := 11) X d_Tx_init_11 (by rfl) ?_
  refine aw_iconstN (pc := 12) X 0 d_Tx_init_12 (by decide) ?_
  refine aw_putO (pc := 13) X _ 1 (by omega) (by (repeat (first | rw [aw_up_eq] | rw [aw_up_ne _ _ (by first | assumption | omega)])) <;> first | assumption | rfl) (by rfl) in_Tx (by decide) ty_Tx ok_Tx nm_Tx k_111 (by rfl) (by rfl) (by rfl) (by simp) (fs' := [_, _]) (by rfl) d_Tx_init_13 ?_
  refine aw_vret Y X rfl d_Tx_init_16 (by omega) (by omega) (hP _ _ _ ?_)
  -- ret 16 lv=0:r,1:n st=
  refine ⟨rfl, ?_, rfl⟩
  funext x
  simp only [aw_up_if]
  by_cases h : x = a
  · simp [h, hne]; rfl
  · simp [h]; rfl
/-- add(c) -/
theorem c_Tx_add {a c n m x : Nat} {g : Nat → Nat} (ha : a < nx) (hc : c < nx) (hac : a ≠ c) (hm : m < 2 ^ 31) (hx : x < 65536) (hn : n ≤ m) (h1 : w a = oTx G c n) (h2 : w c = aCh G m g) : AC G y_Tx_add b_Tx_add 2 (some .boolean) d false [rf G a, .int (nI x)] nx w 0 0 (fun r w' nx' => nx' = nx ∧ ((n < m ∧ r = some (.int (nI 1)) ∧ w' = aw_up (aw_up w c (aCh G m (aw_un g n x))) a (oTx G c (n + 1))) ∨ (m ≤ n ∧ r = some (.int (nI 0)) ∧ w' = w))) := by
  refine AC.ofW (by decide) (Nat.le_of_ble_eq_true rfl) ?_
  intro E P hP Y X
  have X : aw_X G "RescanDesk$Text" b_Tx_add 2 (some .boolean) "add" _ _ _ _ _ E := X
  refine AW.eql (lv' := [(0, _), (1, _)]) (by rfl) ?_
  refine aw_aload_nR (pc := 0) X d_Tx_add_0 (by rfl) ?_
  refine aw_getO (pc := 1) X _ 1 (by omega) (by (repeat (first | rw [aw_up_eq] | rw [aw_up_ne _ _ (by first | assumption | omega)])) <;> first | assumption | rfl) (by rfl) in_Tx (by decide) k_111 (by rfl) d_Tx_add_1 ?_
  refine aw_aload_nR (pc := 4) X d_Tx_add_4 (by rfl) ?_
  refine aw_getO (pc := 5) X _ 0 (by omega) (by (repeat (first | rw [aw_up_eq] | rw [aw_up_ne _ _ (by first | assumption | omega)])) <;> first | assumption | rfl) (by rfl) in_Tx (by decide) k_102 (by rfl) d_Tx_add_5 ?_
  refine aw_alenN (pc := 8) X _ 0 (by omega) (by (repeat (first | rw [aw_up_eq] | rw [aw_up_ne _ _ (by first | assumption | omega)])) <;> first | assumption | rfl) (by rfl) d_Tx_add_8 ?_
  refine aw_icmp_ltN (pc := 9) X (tgt := 14) d_Tx_add_9 (by rfl) (by omega) (by omega) (fun h9 => ?_) (fun h9 => ?_)
  -- br 9 lv=0:r,1:n st=
  · refine aw_aload_nR (pc := 14) X d_Tx_add_14 (by rfl) ?_
    refine aw_getO (pc := 15) X _ 0 (by omega) (by (repeat (first | rw [aw_up_eq] | rw [aw_up_ne _ _ (by first | assumption | omega)])) <;> first | assumption | rfl) (by rfl) in_Tx (by decide) k_102 (by rfl) d_Tx_add_15 ?_
    refine aw_aload_nR (pc := 18) X d_Tx_add_18 (by rfl) ?_
    refine aw_getO (pc := 19) X _ 1 (by omega) (by (repeat (first | rw [aw_up_eq] | rw [aw_up_ne _ _ (by first | assumption | omega)])) <;> first | assumption | rfl) (by rfl) in_Tx (by decide) k_111 (by rfl) d_Tx_add_19 ?_
    refine aw_iload_n (pc := 22) X d_Tx_add_22 (by rfl) ?_
    refine aw_castN (pc := 23) X _ 0 (by omega) (by (repeat (first | rw [aw_up_eq] | rw [aw_up_ne _ _ (by first | assumption | omega)])) <;> first | assumption | rfl) (by rfl) (by omega) (by omega) (by omega) d_Tx_add_23 ?_
    refine aw_aload_nR (pc := 24) X d_Tx_add_24 (by rfl) ?_
    refine aw_dup (pc := 25) X d_Tx_add_25 (by rfl) ?_
    refine aw_getO (pc := 26) X _ 1 (by omega) (by (repeat (first | rw [aw_up_eq] | rw [aw_up_ne _ _ (by first | assumption | omega)])) <;> first | assumption | rfl) (by rfl) in_Tx (by decide) k_111 (by rfl) d_Tx_add_26 ?_
    refine aw_iconstN (pc := 29) X 1 d_Tx_add_29 (by decide) ?_
    refine aw_iaddN (pc := 30) X d_Tx_add_30 ?_
    refine aw_putO (pc := 31) X _ 1 (by omega) (by (repeat (first | rw [aw_up_eq] | rw [aw_up_ne _ _ (by first | assumption | omega)])) <;> first | assumption | rfl) (by rfl) in_Tx (by decide) ty_Tx ok_Tx nm_Tx k_111 (by rfl) (by rfl) (by rfl) (by simp) (fs' := [_, _]) (by rfl) d_Tx_add_31 ?_
    refine aw_iconstN (pc := 34) X 1 d_Tx_add_34 (by decide) ?_
    refine aw_zret Y X rfl (by decide +kernel) d_Tx_add_35 (by omega) (by omega) (hP _ _ _ ?_)
    -- ret 35 lv=0:r,1:n st=n
    exact ⟨rfl, Or.inl ⟨h9, rfl, rfl⟩⟩
  · refine aw_iconstN (pc := 12) X 0 d_Tx_add_12 (by decide) ?_
    refine aw_zret Y X rfl (by decide +kernel) d_Tx_add_13 (by omega) (by omega) (hP _ _ _ ?_)
    -- ret 13 lv=0:r,1:n st=n
    exact ⟨rfl, Or.inr ⟨h9, rfl, rfl⟩⟩
/-- hasRoomFor(other) -/
theorem c_Tx_hasRoomFor {a c n m a2 c2 n2 : Nat} {g : Nat → Nat} (ha : a < nx) (hc : c < nx) (ha2 : a2 < nx) (hm : m < 2 ^ 31) (hn : n ≤ m) (hn2 : n2 < 2 ^ 31) (h1 : w a = oTx G c n) (h2 : w c = aCh G m g) (h3 : w a2 = oTx G c2 n2) : AC G y_Tx_hasRoomFor b_Tx_hasRoomFor 2 (some .boolean) d false [rf G a, rf G a2] nx w 0 0 (fun r w' nx' => nx' = nx ∧ w' = w ∧ r = some (.int (nI (bN (decide (n + n2 ≤ m)))))) := by
  refine AC.ofW (by decide) (Nat.le_of_ble_eq_true rfl) ?_
  intro E P hP Y X
  have X : aw_X G "RescanDesk$Text" b_Tx_hasRoomFor 2 (some .boolean) "hasRoomFor" _ _ _ _ _ E := X
  refine AW.eql (lv' := [(0, _), (1, _)]) (by rfl) ?_
  refine aw_aload_nR (pc := 0) X d_Tx_hasRoomFor_0 (by rfl) ?_
  refine aw_getO (pc := 1) X _ 1 (by omega) (by (repeat (first | rw [aw_up_eq] | rw [aw_up_ne _ _ (by first | assumption | omega)])) <;> first | assumption | rfl) (by rfl) in_Tx (by decide) k_111 (by rfl) d_Tx_hasRoomFor_1 ?_
  refine aw_aload_nR (pc := 4) X d_Tx_hasRoomFor_4 (by rfl) ?_
  refine aw_getO (pc := 5) X _ 0 (by omega) (by (repeat (first | rw [aw_up_eq] | rw [aw_up_ne _ _ (by first | assumption | omega)])) <;> first | assumption | rfl) (by rfl) in_Tx (by decide) k_102 (by rfl) d_Tx_hasRoomFor_5 ?_
  refine aw_alenN (pc := 8) X _ 0 (by omega) (by (repeat (first | rw [aw_up_eq] | rw [aw_up_ne _ _ (by first | assumption | omega)])) <;> first | assumption | rfl) (by rfl) d_Tx_hasRoomFor_8 ?_
  refine aw_aload_nR (pc := 9) X d_Tx_hasRoomFor_9 (by rfl) ?_
  refine aw_getO (pc := 10) X _ 1 (by omega) (by (repeat (first | rw [aw_up_eq] | rw [aw_up_ne _ _ (by first | assumption | omega)])) <;> first | assumption | rfl) (by rfl) in_Tx (by decide) k_111 (by rfl) d_Tx_hasRoomFor_10 ?_
  refine aw_isubN (pc := 13) X d_Tx_hasRoomFor_13 (by omega) ?_
  refine aw_icmp_gtN (pc := 14) X (tgt := 21) d_Tx_hasRoomFor_14 (by rfl) (by omega) (by omega) (fun h14 => ?_) (fun h14 => ?_)
  -- br 14 lv=0:r,1:r st=
  · refine aw_iconstN (pc := 21) X 0 d_Tx_hasRoomFor_21 (by decide) ?_
    refine aw_zret Y X rfl (by decide +kernel) d_Tx_hasRoomFor_22 (by omega) (by omega) (hP _ _ _ ?_)
    -- ret 22 lv=0:r,1:r st=n
    rw [show decide (n + n2 ≤ m) = false from decide_eq_false (by omega)]
    exact ⟨rfl, rfl, rfl⟩
  · refine aw_iconstN (pc := 17) X 1 d_Tx_hasRoomFor_17 (by decide) ?_
    refine aw_goto (pc := 18) X (tgt := 22) d_Tx_hasRoomFor_18 (by rfl) ?_
    refine aw_zret Y X rfl (by decide +kernel) d_Tx_hasRoomFor_22 (by omega) (by omega) (hP _ _ _ ?_)
    -- ret 22 lv=0:r,1:r st=n
    rw [show decide (n + n2 ≤ m) = true from decide_eq_true (by omega)]
    exact ⟨rfl, rfl, rfl⟩
/-- addPart(from, s, t): all that there is room for -/
def tx_add (G : aw_G) (w : Nat → va_E) (a c n m : Nat) (g f : Nat → Nat) (s k : Nat) : Nat → va_E := aw_up (aw_up w c (aCh G m (aw_cpn f g s n k))) a (oTx G c (n + k))
theorem c_Tx_addPart {a c n m q l s t : Nat} {g f : Nat → Nat} (ha : a < nx) (hc : c < nx) (hq : q < nx) (hac : a ≠ c) (hd : 1 ≤ d) (hm : m < 2 ^ 20) (hl : l < 2 ^ 20) (hn : n ≤ m) (hst : s ≤ t) (htl : t ≤ l) (hf : ∀ j, f j < 65536) (h1 : w a = oTx G c n) (h2 : w c = aCh G m g) (h3 : w q = aCh G l f) : AC G y_Tx_addPart b_Tx_addPart 5 (some .boolean) d false [rf G a, rf G q, .int (nI s), .int (nI t)] nx w 0 0 (fun r w' nx' => nx' = nx ∧ r = some (.int (nI (bN (decide (n + (t - s) ≤ m))))) ∧ w' = if min (t - s) (m - n) = 0 then w else tx_add G w a c n m g f s (min (t - s) (m - n))) := by
  refine AC.ofW (by decide) (Nat.le_of_ble_eq_true rfl) ?_
  intro E P hP Y X
  have X : aw_X G "RescanDesk$Text" b_Tx_addPart 5 (some .boolean) "addPart" _ _ _ _ _ E := X
  refine AW.eql (lv' := [(0, _), (1, _), (2, _), (3, _)]) (by rfl) ?_
  refine aw_iload_n (pc := 0) X d_Tx_addPart_0 (by rfl) ?_
  refine aw_iload_n (pc := 1) X d_Tx_addPart_1 (by rfl) ?_
  refine aw_isubN (pc := 2) X d_Tx_addPart_2 (by omega) ?_
  refine aw_aload_nR (pc := 3) X d_Tx_addPart_3 (by rfl) ?_
  refine aw_getO (pc := 4) X _ 0 (by omega) (by (repeat (first | rw [aw_up_eq] | rw [aw_up_ne _ _ (by first | assumption | omega)])) <;> first | assumption | rfl) (by rfl) in_Tx (by decide) k_102 (by rfl) d_Tx_addPart_4 ?_
  refine aw_alenN (pc := 7) X _ 0 (by omega) (by (repeat (first | rw [aw_up_eq] | rw [aw_up_ne _ _ (by first | assumption | omega)])) <;> first | assumption | rfl) (by rfl) d_Tx_addPart_7 ?_
  refine aw_aload_nR (pc := 8) X d_Tx_addPart_8 (by rfl) ?_
  refine aw_getO (pc := 9) X _ 1 (by omega) (by (repeat (first | rw [aw_up_eq] | rw [aw_up_ne _ _ (by first | assumption | omega)])) <;> first | assumption | rfl) (by rfl) in_Tx (by decide) k_111 (by rfl) d_Tx_addPart_9 ?_
  refine aw_isubN (pc := 12) X d_Tx_addPart_12 (by omega) ?_
  refine aw_mminN (pc := 13) X (by omega) (by omega) k_550 k_551 k_85 k_552 (by omega) (Nat.le_trans (m := 24) (Nat.le_of_ble_eq_true rfl) (by omega)) (by omega) (by omega) d_Tx_addPart_13 ?_
  refine aw_istore (pc := 16) X (lv' := [(4, _), (0, _), (1, _), (2, _), (3, _)]) d_Tx_addPart_16 (by decide) (by rfl) ?_
  refine aw_iload (pc := 18) X d_Tx_addPart_18 (by rfl) ?_
  refine aw_if_leN (pc := 20) X (tgt := 49) d_Tx_addPart_20 (by rfl) (by omega) (fun h20 => ?_) (fun h20 => ?_)
  -- br 20 lv=4:n,0:r,1:r,2:n,3:n st=
  · rw [Nat.le_zero.mp h20]
    refine aw_iload_n (pc := 49) X d_Tx_addPart_49 (by rfl) ?_
    refine aw_iload_n (pc := 50) X d_Tx_addPart_50 (by rfl) ?_
    refine aw_isubN (pc := 51) X d_Tx_addPart_51 (by omega) ?_
    refine aw_iload (pc := 52) X d_Tx_addPart_52 (by rfl) ?_
    refine aw_icmp_gtN (pc := 54) X (tgt := 61) d_Tx_addPart_54 (by rfl) (by omega) (by omega) (fun h54 => ?_) (fun h54 => ?_)
    -- br 54 lv=4:n,0:r,1:r,2:n,3:n st=
    · refine aw_iconstN (pc := 61) X 0 d_Tx_addPart_61 (by decide) ?_
      refine aw_zret Y X rfl (by decide +kernel) d_Tx_addPart_62 (by omega) (by omega) (hP _ _ _ ?_)
      -- ret 62 lv=4:n,0:r,1:r,2:n,3:n st=n
      rw [show decide (n + (t - s) ≤ m) = false from decide_eq_false (by omega), if_pos (by omega)]
      exact ⟨rfl, rfl, rfl⟩
    · refine aw_iconstN (pc := 57) X 1 d_Tx_addPart_57 (by decide) ?_
      refine aw_goto (pc := 58) X (tgt := 62) d_Tx_addPart_58 (by rfl) ?_
      refine aw_zret Y X rfl (by decide +kernel) d_Tx_addPart_62 (by omega) (by omega) (hP _ _ _ ?_)
      -- ret 62 lv=4:n,0:r,1:r,2:n,3:n st=n
      rw [show decide (n + (t - s) ≤ m) = true from decide_eq_true (by omega), if_pos (by omega)]
      exact ⟨rfl, rfl, rfl⟩
  · refine aw_aload_nR (pc := 23) X d_Tx_addPart_23 (by rfl) ?_
    refine aw_iload_n (pc := 24) X d_Tx_addPart_24 (by rfl) ?_
    refine aw_aload_nR (pc := 25) X d_Tx_addPart_25 (by rfl) ?_
    refine aw_getO (pc := 26) X _ 0 (by omega) (by (repeat (first | rw [aw_up_eq] | rw [aw_up_ne _ _ (by first | assumption | omega)])) <;> first | assumption | rfl) (by rfl) in_Tx (by decide) k_102 (by rfl) d_Tx_addPart_26 ?_
    refine aw_aload_nR (pc := 29) X d_Tx_addPart_29 (by rfl) ?_
    refine aw_getO (pc := 30) X _ 1 (by omega) (by (repeat (first | rw [aw_up_eq] | rw [aw_up_ne _ _ (by first | assumption | omega)])) <;> first | assumption | rfl) (by rfl) in_Tx (by decide) k_111 (by rfl) d_Tx_addPart_30 ?_
    refine aw_iload (pc := 33) X d_Tx_addPart_33 (by rfl) ?_
    refine aw_copyC (pc := 35) X _ _ (by omega) (by (repeat (first | rw [aw_up_eq] | rw [aw_up_ne _ _ (by first | assumption | omega)])) <;> first | assumption | rfl) (by omega) (by (repeat (first | rw [aw_up_eq] | rw [aw_up_ne _ _ (by first | assumption | omega)])) <;> first | assumption | rfl) (by omega) (by omega) (by omega) (by omega) (by assumption) k_553 k_511 k_510 k_84 (by omega) (Nat.le_trans (m := 40) (Nat.le_of_ble_eq_true rfl) (by omega)) d_Tx_addPart_35 ?_
    refine aw_aload_nR (pc := 38) X d_Tx_addPart_38 (by rfl) ?_
    refine aw_dup (pc := 39) X d_Tx_addPart_39 (by rfl) ?_
    refine aw_getO (pc := 40) X _ 1 (by omega) (by (repeat (first | rw [aw_up_eq] | rw [aw_up_ne _ _ (by first | assumption | omega)])) <;> first | assumption | rfl) (by rfl) in_Tx (by decide) k_111 (by rfl) d_Tx_addPart_40 ?_
    refine aw_iload (pc := 43) X d_Tx_addPart_43 (by rfl) ?_
    refine aw_iaddN (pc := 45) X d_Tx_addPart_45 ?_
    refine aw_putO (pc := 46) X _ 1 (by omega) (by (repeat (first | rw [aw_up_eq] | rw [aw_up_ne _ _ (by first | assumption | omega)])) <;> first | assumption | rfl) (by rfl) in_Tx (by decide) ty_Tx ok_Tx nm_Tx k_111 (by rfl) (by rfl) (by rfl) (by simp) (fs' := [_, _]) (by rfl) d_Tx_addPart_46 ?_
    refine aw_iload_n (pc := 49) X d_Tx_addPart_49 (by rfl) ?_
    refine aw_iload_n (pc := 50) X d_Tx_addPart_50 (by rfl) ?_
    refine aw_isubN (pc := 51) X d_Tx_addPart_51 (by omega) ?_
    refine aw_iload (pc := 52) X d_Tx_addPart_52 (by rfl) ?_
    refine aw_icmp_gtN (pc := 54) X (tgt := 61) d_Tx_addPart_54 (by rfl) (by omega) (by omega) (fun h54 => ?_) (fun h54 => ?_)
    -- br 54 lv=4:n,0:r,1:r,2:n,3:n st=
    · refine aw_iconstN (pc := 61) X 0 d_Tx_addPart_61 (by decide) ?_
      refine aw_zret Y X rfl (by decide +kernel) d_Tx_addPart_62 (by omega) (by omega) (hP _ _ _ ?_)
      -- ret 62 lv=4:n,0:r,1:r,2:n,3:n st=n
      rw [show decide (n + (t - s) ≤ m) = false from decide_eq_false (by omega), if_neg (by omega)]
      exact ⟨rfl, rfl, rfl⟩
    · refine aw_iconstN (pc := 57) X 1 d_Tx_addPart_57 (by decide) ?_
      refine aw_goto (pc := 58) X (tgt := 62) d_Tx_addPart_58 (by rfl) ?_
      refine aw_zret Y X rfl (by decide +kernel) d_Tx_addPart_62 (by omega) (by omega) (hP _ _ _ ?_)
      -- ret 62 lv=4:n,0:r,1:r,2:n,3:n st=n
      rw [show decide (n + (t - s) ≤ m) = true from decide_eq_true (by omega), if_neg (by omega)]
      exact ⟨rfl, rfl, rfl⟩
/-- isSame(other, s, t) -/
theorem c_Tx_isSame {a c n m q l s t : Nat} {g f : Nat → Nat} (ha : a < nx) (hc : c < nx) (hq : q < nx) (hm : m < 2 ^ 20) (hl : l < 2 ^ 20) (hn : n ≤ m) (hst : s ≤ t) (htl : t ≤ l) (hg : ∀ j, g j < 65536) (hf : ∀ j, f j < 65536) (h1 : w a = oTx G c n) (h2 : w c = aCh G m g) (h3 : w q = aCh G l f) : AC G y_Tx_isSame b_Tx_isSame 5 (some .boolean) d false [rf G a, rf G q, .int (nI s), .int (nI t)] nx w 0 0 (fun r w' nx' => nx' = nx ∧ w' = w ∧ r = some (.int (nI (bN (decide (sl g 0 n = sl f s (t - s))))))) := by
  refine AC.ofW (by decide) (Nat.le_of_ble_eq_true rfl) ?_
  intro E P hP Y X
  have X : aw_X G "RescanDesk$Text" b_Tx_isSame 5 (some .boolean) "isSame" _ _ _ _ _ E := X
  refine AW.eql (lv' := [(0, _), (1, _), (2, _), (3, _)]) (by rfl) ?_
  refine aw_iload_n (pc := 0) X d_Tx_isSame_0 (by rfl) ?_
  refine aw_iload_n (pc := 1) X d_Tx_isSame_1 (by rfl) ?_
  refine aw_isubN (pc := 2) X d_Tx_isSame_2 (by omega) ?_
  refine aw_aload_nR (pc := 3) X d_Tx_isSame_3 (by rfl) ?_
  refine aw_getO (pc := 4) X _ 1 (by omega) (by (repeat (first | rw [aw_up_eq] | rw [aw_up_ne _ _ (by first | assumption | omega)])) <;> first | assumption | rfl) (by rfl) in_Tx (by decide) k_111 (by rfl) d_Tx_isSame_4 ?_
  refine aw_icmp_eqN (pc := 7) X (tgt := 12) d_Tx_isSame_7 (by rfl) (by omega) (by omega) (fun h7 => ?_) (fun h7 => ?_)
  -- br 7 lv=0:r,1:r,2:n,3:n st=
  · have L : ∀ (k i : Nat), i + k = n → (∀ j, j < i → g j = f (s + j)) → AW G E 5 nx 0 0 w 15 [(4, .int (nI i)), (0, rf G a), (1, rf G q), (2, .int (nI s)), (3, .int (nI t))] [] := by
      intro k
      induction k with
      | zero =>
        intro i hi hj
        refine aw_iload (pc := 15) X d_Tx_isSame_15 (by rfl) ?_
        refine aw_aload_nR (pc := 17) X d_Tx_isSame_17 (by rfl) ?_
        refine aw_getO (pc := 18) X _ 1 (by omega) (by (repeat (first | rw [aw_up_eq] | rw [aw_up_ne _ _ (by first | assumption | omega)])) <;> first | assumption | rfl) (by rfl) in_Tx (by decide) k_111 (by rfl) d_Tx_isSame_18 ?_
        refine aw_icmp_geN (pc := 21) X (tgt := 48) d_Tx_isSame_21 (by rfl) (by omega) (by omega) (fun h21 => ?_) (fun h21 => ?_)
        -- br 21 lv=4:n,0:r,1:r,2:n,3:n st=
        · refine aw_iconstN (pc := 48) X 1 d_Tx_isSame_48 (by decide) ?_
          refine aw_zret Y X rfl (by decide +kernel) d_Tx_isSame_49 (by omega) (by omega) (hP _ _ _ ?_)
          -- ret 49 lv=4:n,0:r,1:r,2:n,3:n st=n
          rw [show decide (sl g 0 n = sl f s (t - s)) = true from decide_eq_true (by rw [h7]; exact sl_eq.mpr (fun j hj' => by rw [Nat.zero_add]; exact hj j (by omega)))]
          exact ⟨rfl, rfl, rfl⟩
        · omega
      | succ k ih =>
        intro i hi hj
        have hgi := hg i
        have hfi := hf (s + i)
        refine aw_iload (pc := 15) X d_Tx_isSame_15 (by rfl) ?_
        refine aw_aload_nR (pc := 17) X d_Tx_isSame_17 (by rfl) ?_
        refine aw_getO (pc := 18) X _ 1 (by omega) (by (repeat (first | rw [aw_up_eq] | rw [aw_up_ne _ _ (by first | assumption | omega)])) <;> first | assumption | rfl) (by rfl) in_Tx (by decide) k_111 (by rfl) d_Tx_isSame_18 ?_
        refine aw_icmp_geN (pc := 21) X (tgt := 48) d_Tx_isSame_21 (by rfl) (by omega) (by omega) (fun h21 => ?_) (fun h21 => ?_)
        -- br 21 lv=4:n,0:r,1:r,2:n,3:n st=
        · omega
        · refine aw_aload_nR (pc := 24) X d_Tx_isSame_24 (by rfl) ?_
          refine aw_getO (pc := 25) X _ 0 (by omega) (by (repeat (first | rw [aw_up_eq] | rw [aw_up_ne _ _ (by first | assumption | omega)])) <;> first | assumption | rfl) (by rfl) in_Tx (by decide) k_102 (by rfl) d_Tx_isSame_25 ?_
          refine aw_iload (pc := 28) X d_Tx_isSame_28 (by rfl) ?_
          refine aw_caldN (pc := 30) X _ 0 (by omega) (by (repeat (first | rw [aw_up_eq] | rw [aw_up_ne _ _ (by first | assumption | omega)])) <;> first | assumption | rfl) (by rfl) (by omega) (by omega) d_Tx_isSame_30 ?_
          refine aw_aload_nR (pc := 31) X d_Tx_isSame_31 (by rfl) ?_
          refine aw_iload_n (pc := 32) X d_Tx_isSame_32 (by rfl) ?_
          refine aw_iload (pc := 33) X d_Tx_isSame_33 (by rfl) ?_
          refine aw_iaddN (pc := 35) X d_Tx_isSame_35 ?_
          refine aw_caldN (pc := 36) X _ 0 (by omega) (by (repeat (first | rw [aw_up_eq] | rw [aw_up_ne _ _ (by first | assumption | omega)])) <;> first | assumption | rfl) (by rfl) (by omega) (by omega) d_Tx_isSame_36 ?_
          refine aw_icmp_eqN (pc := 37) X (tgt := 42) d_Tx_isSame_37 (by rfl) (by omega) (by omega) (fun h37 => ?_) (fun h37 => ?_)
          -- br 37 lv=4:n,0:r,1:r,2:n,3:n st=
          · refine aw_iincN (pc := 42) X 1 (lv' := [(4, _), (0, _), (1, _), (2, _), (3, _)]) d_Tx_isSame_42 (by rfl) (by decide) (by decide) (by rfl) ?_
            refine aw_goto (pc := 45) X (tgt := 15) d_Tx_isSame_45 (by rfl) ?_
            -- stop 15 lv=4:n,0:r,1:r,2:n,3:n st=
            exact ih (i + 1) (by omega) (fun j hj' => by
              rcases Nat.lt_succ_iff_lt_or_eq.mp hj' with h | h
              · exact hj j h
              · rw [h]; exact h37)
          · refine aw_iconstN (pc := 40) X 0 d_Tx_isSame_40 (by decide) ?_
            refine aw_zret Y X rfl (by decide +kernel) d_Tx_isSame_41 (by omega) (by omega) (hP _ _ _ ?_)
            -- ret 41 lv=4:n,0:r,1:r,2:n,3:n st=n
            rw [show decide (sl g 0 n = sl f s (t - s)) = false from decide_eq_false (fun e => h37 (by
              rw [h7] at e
              have := sl_eq.mp e i (by omega)
              rwa [Nat.zero_add] at this))]
            exact ⟨rfl, rfl, rfl⟩
    refine aw_iconstN (pc := 12) X 0 d_Tx_isSame_12 (by decide) ?_
    refine aw_istore (pc := 13) X (lv' := [(4, _), (0, _), (1, _), (2, _), (3, _)]) d_Tx_isSame_13 (by decide) (by rfl) ?_
    -- stop 15 lv=4:n,0:r,1:r,2:n,3:n st=
    exact L n 0 (by omega) (fun j hj => absurd hj (by omega))
  · refine aw_iconstN (pc := 10) X 0 d_Tx_isSame_10 (by decide) ?_
    refine aw_zret Y X rfl (by decide +kernel) d_Tx_isSame_11 (by omega) (by omega) (hP _ _ _ ?_)
    -- ret 11 lv=0:r,1:r,2:n,3:n st=n
    rw [show decide (sl g 0 n = sl f s (t - s)) = false from decide_eq_false (fun e => h7 (by have := congrArg List.length e; rw [sl_len, sl_len] at this; omega))]
    exact ⟨rfl, rfl, rfl⟩
/-- set(from, s, t) -/
theorem c_Tx_set {a c n m q l s t : Nat} {g f : Nat → Nat} (ha : a < nx) (hc : c < nx) (hq : q < nx) (hac : a ≠ c) (haq : a ≠ q) (hd : 2 ≤ d) (hm : m < 2 ^ 20) (hl : l < 2 ^ 20) (hst : s ≤ t) (htl : t ≤ l) (hf : ∀ j, f j < 65536) (h1 : w a = oTx G c n) (h2 : w c = aCh G m g) (h3 : w q = aCh G l f) : AC G y_Tx_set b_Tx_set 4 none d false [rf G a, rf G q, .int (nI s), .int (nI t)] nx w 0 0 (fun r w' nx' => nx' = nx ∧ r = none ∧ w' = aw_up (aw_up w c (aCh G m (aw_cpn f g s 0 (min (t - s) m)))) a (oTx G c (min (t - s) m))) := by
  have hca : c ≠ a := Ne.symm hac
  have hqa : q ≠ a := Ne.symm haq
  refine AC.ofW (by decide) (Nat.le_of_ble_eq_true rfl) ?_
  intro E P hP Y X
  have X : aw_X G "RescanDesk$Text" b_Tx_set 4 none "set" _ _ _ _ _ E := X
  refine AW.eql (lv' := [(0, _), (1, _), (2, _), (3, _)]) (by rfl) ?_
  refine aw_aload_nR (pc := 0) X d_Tx_set_0 (by rfl) ?_
  refine aw_iconstN (pc := 1) X 0 d_Tx_set_1 (by decide) ?_
  refine aw_putO (pc := 2) X _ 1 (by omega) (by (repeat (first | rw [aw_up_eq] | rw [aw_up_ne _ _ (by first | assumption | omega)])) <;> first | assumption | rfl) (by rfl) in_Tx (by decide) ty_Tx ok_Tx nm_Tx k_111 (by rfl) (by rfl) (by rfl) (by simp) (fs' := [_, _]) (by rfl) d_Tx_set_2 ?_
  refine aw_aload_nR (pc := 5) X d_Tx_set_5 (by rfl) ?_
  refine aw_aload_nR (pc := 6) X d_Tx_set_6 (by rfl) ?_
  refine aw_iload_n (pc := 7) X d_Tx_set_7 (by rfl) ?_
  refine aw_iload_n (pc := 8) X d_Tx_set_8 (by rfl) ?_
  -- invokevirtual 9 lv=0:r,1:r,2:n,3:n st=n,n,r,r
  refine aw_callV (pc := 9) X _ (c_Tx_addPart (d := 1) (a := a) (c := c) (n := 0) (m := m) (q := q) (l := l) (g := g) (f := f) ha hc hq hac (by omega) hm hl (by omega) hst htl hf (by rw [aw_up_eq]; rfl) (by rw [aw_up_ne _ _ hca]; exact h2) (by rw [aw_up_ne _ _ hqa]; exact h3)) q_Tx_addPart k_580 k_547 k_548 (by omega) (by (repeat (first | rw [aw_up_eq] | rw [aw_up_ne _ _ (by first | assumption | omega)])) <;> first | assumption | rfl) (by rfl) d_Tx_set_9 (by omega) (Nat.le_of_ble_eq_true rfl) ⟨by omega, by omega⟩ (fun h => by cases h) (fun r w' nx' hp => ?_)
  obtain ⟨rfl, rfl, rfl⟩ := hp
  refine aw_pop (pc := 12) X d_Tx_set_12 (by rfl) ?_
  refine aw_vret Y X rfl d_Tx_set_13 (by omega) (by omega) (hP _ _ _ ?_)
  -- ret 13 lv=0:r,1:r,2:n,3:n st=
  refine ⟨rfl, rfl, ?_⟩
  funext x
  simp only [Nat.sub_zero, tx_add, Nat.zero_add]
  by_cases hk : min (t - s) m = 0
  · rw [if_pos hk, hk]
    simp only [aw_up_if]
    by_cases h : x = a
    · simp [h]; rfl
    · by_cases hx : x = c
      · simp [h, hx, hca, h2]
        congr 1
      · simp [h, hx]
  · rw [if_neg hk]
    simp only [aw_up_if]
    by_cases h : x = a
    · simp [h]
    · simp [h]
end

