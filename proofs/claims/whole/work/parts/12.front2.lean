/-! valueOf; RescanDesk$Front -/
def oFr (G : aw_G) (c n : Nat) : va_E := aObj 2 [rf G c, .int (nI n)]
/-- where the quote that is open at depth e is closed in the text -/
def qcl : Nat → List Nat → Option Nat
  | _, [] => none
  | e, c :: r => if c = 96 then (qcl (e + 1) r).map (· + 1) else if c = 39 then (if e = 1 then some 0 else (qcl (e - 1) r).map (· + 1)) else (qcl e r).map (· + 1)
/-- how many characters a line takes, its end with it -/
def lnLen (L : List Nat) : Nat := if (L.takeWhile (fun c => decide (c ≠ 10))).length < L.length then (L.takeWhile (fun c => decide (c ≠ 10))).length + 1 else L.length
section
variable {G : aw_G} {nx d : Nat} {w : Nat → va_E}
/-- valueOf(chars, s, t) -/
theorem c_Rd_valueOf {q l s t : Nat} {f : Nat → Nat} (hq : q < nx) (hd : 1 ≤ d) (hl : l < 2 ^ 20) (hst : s ≤ t) (htl : t ≤ l) (hf : ∀ j, f j < 65536) (h3 : w q = aCh G l f) : AC G y_Rd_valueOf b_Rd_valueOf 8 (some .long) d false [rf G q, .int (nI s), .int (nI t)] nx w 0 0 (fun r w' nx' => nx' = nx ∧ w' = w ∧ r = some (.long (valL (sl f s (t - s))))) := by
  refine AC.ofW (by decide) (Nat.le_of_ble_eq_true rfl) ?_
  intro E P hP Y X
  have X : aw_X G "RescanDesk" b_Rd_valueOf 8 (some .long) "valueOf" _ _ _ _ _ E := X
  refine AW.eql (lv' := [(0, _), (1, _), (2, _)]) (by rfl) ?_
  have L : ∀ (bl fi k i : Nat) (v : Int64), bl < 2 → i + k = t → valF bl (valD v (sl f i k)) = valL (sl f s (t - s)) → AW G E 8 nx 0 0 w 39 [(7, .int (nI i)), (5, .long v), (4, .int (nI fi)), (3, .int (nI bl)), (0, rf G q), (1, .int (nI s)), (2, .int (nI t))] [] := by
    intro bl fi k
    induction k with
    | zero =>
      intro i v hbl hi hr
      rw [sl_0] at hr
      refine aw_iload (pc := 39) X d_Rd_valueOf_39 (by rfl) ?_
      refine aw_iload_n (pc := 41) X d_Rd_valueOf_41 (by rfl) ?_
      refine aw_icmp_geN (pc := 42) X (tgt := 80) d_Rd_valueOf_42 (by rfl) (by omega) (by omega) (fun h42 => ?_) (fun h42 => ?_)
      -- br 42 lv=7:n,5:l,4:n,3:n,0:r,1:n,2:n st=
      · refine aw_iload_n (pc := 80) X d_Rd_valueOf_80 (by rfl) ?_
        refine aw_if_eqN (pc := 81) X (tgt := 90) d_Rd_valueOf_81 (by rfl) (by omega) (fun h81 => ?_) (fun h81 => ?_)
        -- br 81 lv=7:n,5:l,4:n,3:n,0:r,1:n,2:n st=
        · refine aw_lload (pc := 90) X d_Rd_valueOf_90 (by rfl) ?_
          refine aw_lret Y X rfl d_Rd_valueOf_92 (by omega) (by omega) (hP _ _ _ ?_)
          -- ret 92 lv=7:n,5:l,4:n,3:n,0:r,1:n,2:n st=l
          exact ⟨rfl, rfl, by rw [← hr, h81]; rfl⟩
        · refine aw_lload (pc := 84) X d_Rd_valueOf_84 (by rfl) ?_
          refine aw_lneg (pc := 86) X d_Rd_valueOf_86 ?_
          refine aw_goto (pc := 87) X (tgt := 92) d_Rd_valueOf_87 (by rfl) ?_
          refine aw_lret Y X rfl d_Rd_valueOf_92 (by omega) (by omega) (hP _ _ _ ?_)
          -- ret 92 lv=7:n,5:l,4:n,3:n,0:r,1:n,2:n st=l
          exact ⟨rfl, rfl, by rw [← hr]; simp [valD, valF, h81]⟩
      · omega
    | succ k ih =>
      intro i v hbl hi hr
      have hfi := hf i
      rw [sl_cons] at hr
      refine aw_iload (pc := 39) X d_Rd_valueOf_39 (by rfl) ?_
      refine aw_iload_n (pc := 41) X d_Rd_valueOf_41 (by rfl) ?_
      refine aw_icmp_geN (pc := 42) X (tgt := 80) d_Rd_valueOf_42 (by rfl) (by omega) (by omega) (fun h42 => ?_) (fun h42 => ?_)
      -- br 42 lv=7:n,5:l,4:n,3:n,0:r,1:n,2:n st=
      · omega
      · refine aw_aload_nR (pc := 45) X d_Rd_valueOf_45 (by rfl) ?_
        refine aw_iload (pc := 46) X d_Rd_valueOf_46 (by rfl) ?_
        refine aw_caldN (pc := 48) X _ 0 (by omega) (by (repeat (first | rw [aw_up_eq] | rw [aw_up_ne _ _ (by first | assumption | omega)])) <;> first | assumption | rfl) (by rfl) (by omega) (by omega) d_Rd_valueOf_48 ?_
        -- invokestatic 49 lv=7:n,5:l,4:n,3:n,0:r,1:n,2:n st=n
        refine aw_callS (pc := 49) X (c_Rd_isDigit (d := 0) hfi) q_Rd_isDigit k_564 k_565 d_Rd_valueOf_49 (by omega) (Nat.le_of_ble_eq_true rfl) ⟨by omega, by omega⟩ (fun h => by cases h) (fun r w' nx' hp => ?_)
        obtain ⟨rfl, rfl, rfl⟩ := hp
        have hb := bN_lt (isDig (f i))
        refine aw_if_neN (pc := 52) X (tgt := 57) d_Rd_valueOf_52 (by rfl) (by omega) (fun h52 => ?_) (fun h52 => ?_)
        -- br 52 lv=7:n,5:l,4:n,3:n,0:r,1:n,2:n st=
        · have hL := bN_ne.mp h52
          have hL2 := of_decide_eq_true hL
          refine aw_lload (pc := 57) X d_Rd_valueOf_57 (by rfl) ?_
          refine aw_ldc2 (pc := 59) X k_706 d_Rd_valueOf_59 ?_
          refine aw_lmul (pc := 62) X d_Rd_valueOf_62 ?_
          refine aw_aload_nR (pc := 63) X d_Rd_valueOf_63 (by rfl) ?_
          refine aw_iload (pc := 64) X d_Rd_valueOf_64 (by rfl) ?_
          refine aw_caldN (pc := 66) X _ 0 (by omega) (by (repeat (first | rw [aw_up_eq] | rw [aw_up_ne _ _ (by first | assumption | omega)])) <;> first | assumption | rfl) (by rfl) (by omega) (by omega) d_Rd_valueOf_66 ?_
          refine aw_bipushN (pc := 67) X 48 d_Rd_valueOf_67 (by decide) ?_
          refine aw_isubN (pc := 69) X d_Rd_valueOf_69 (by omega) ?_
          refine aw_i2lN (pc := 70) X d_Rd_valueOf_70 (by omega) ?_
          refine aw_ladd (pc := 71) X d_Rd_valueOf_71 ?_
          refine aw_lstore (pc := 72) X (lv' := [(5, _), (7, _), (4, _), (3, _), (0, _), (1, _), (2, _)]) d_Rd_valueOf_72 (by decide) (by rfl) ?_
          refine aw_iincN (pc := 74) X 1 (lv' := [(7, _), (5, _), (4, _), (3, _), (0, _), (1, _), (2, _)]) d_Rd_valueOf_74 (by rfl) (by decide) (by decide) (by rfl) ?_
          refine aw_goto (pc := 77) X (tgt := 39) d_Rd_valueOf_77 (by rfl) ?_
          -- stop 39 lv=7:n,5:l,4:n,3:n,0:r,1:n,2:n st=
          refine AW.lsub [0, 1, 2, 3, 4, 5, 6] (by rfl) ?_
          exact ih (i + 1) _ hbl (by omega) (by rw [← hr]; simp [valD, hL])
        · have hL := bN_eq.mp h52
          refine aw_lconst (pc := 55) X (v := 0) d_Rd_valueOf_55 (by decide) ?_
          refine aw_lret Y X rfl d_Rd_valueOf_56 (by omega) (by omega) (hP _ _ _ ?_)
          -- ret 56 lv=7:n,5:l,4:n,3:n,0:r,1:n,2:n st=l
          exact ⟨rfl, rfl, by rw [← hr]; simp [valD, hL, valF]⟩
  have J : ∀ (bl : Nat), bl < 2 → (bl ≠ 0 → s < t) → valF bl (valD 0 (sl f (s + bl) (t - (s + bl)))) = valL (sl f s (t - s)) → AW G E 8 nx 0 0 w 18 [(0, rf G q), (1, .int (nI s)), (2, .int (nI t))] [.int (nI bl)] := by
    intro bl hbl hs hr
    refine aw_istore_n (pc := 18) X (lv' := [(3, _), (0, _), (1, _), (2, _)]) d_Rd_valueOf_18 (by decide) (by rfl) ?_
    refine aw_iload_n (pc := 19) X d_Rd_valueOf_19 (by rfl) ?_
    refine aw_if_eqN (pc := 20) X (tgt := 29) d_Rd_valueOf_20 (by rfl) (by omega) (fun h20 => ?_) (fun h20 => ?_)
    -- br 20 lv=3:n,0:r,1:n,2:n st=
    · subst h20
      refine aw_iload_n (pc := 29) X d_Rd_valueOf_29 (by rfl) ?_
      refine aw_istore (pc := 30) X (lv' := [(4, _), (3, _), (0, _), (1, _), (2, _)]) d_Rd_valueOf_30 (by decide) (by rfl) ?_
      refine aw_lconst (pc := 32) X (v := 0) d_Rd_valueOf_32 (by decide) ?_
      refine aw_lstore (pc := 33) X (lv' := [(5, _), (4, _), (3, _), (0, _), (1, _), (2, _)]) d_Rd_valueOf_33 (by decide) (by rfl) ?_
      refine aw_iload (pc := 35) X d_Rd_valueOf_35 (by rfl) ?_
      refine aw_istore (pc := 37) X (lv' := [(7, _), (5, _), (4, _), (3, _), (0, _), (1, _), (2, _)]) d_Rd_valueOf_37 (by decide) (by rfl) ?_
      -- stop 39 lv=7:n,5:l,4:n,3:n,0:r,1:n,2:n st=
      exact L 0 s (t - s) s 0 (by omega) (by omega) hr
    · have hb1 : bl = 1 := by omega
      subst hb1
      refine aw_iload_n (pc := 23) X d_Rd_valueOf_23 (by rfl) ?_
      refine aw_iconstN (pc := 24) X 1 d_Rd_valueOf_24 (by decide) ?_
      refine aw_iaddN (pc := 25) X d_Rd_valueOf_25 ?_
      refine aw_goto (pc := 26) X (tgt := 30) d_Rd_valueOf_26 (by rfl) ?_
      refine aw_istore (pc := 30) X (lv' := [(4, _), (3, _), (0, _), (1, _), (2, _)]) d_Rd_valueOf_30 (by decide) (by rfl) ?_
      refine aw_lconst (pc := 32) X (v := 0) d_Rd_valueOf_32 (by decide) ?_
      refine aw_lstore (pc := 33) X (lv' := [(5, _), (4, _), (3, _), (0, _), (1, _), (2, _)]) d_Rd_valueOf_33 (by decide) (by rfl) ?_
      refine aw_iload (pc := 35) X d_Rd_valueOf_35 (by rfl) ?_
      refine aw_istore (pc := 37) X (lv' := [(7, _), (5, _), (4, _), (3, _), (0, _), (1, _), (2, _)]) d_Rd_valueOf_37 (by decide) (by rfl) ?_
      -- stop 39 lv=7:n,5:l,4:n,3:n,0:r,1:n,2:n st=
      exact L 1 (s + 1) (t - (s + 1)) (s + 1) 0 (by omega) (by have := hs h20; omega) hr
  refine aw_iload_n (pc := 0) X d_Rd_valueOf_0 (by rfl) ?_
  refine aw_iload_n (pc := 1) X d_Rd_valueOf_1 (by rfl) ?_
  refine aw_icmp_geN (pc := 2) X (tgt := 17) d_Rd_valueOf_2 (by rfl) (by omega) (by omega) (fun h2 => ?_) (fun h2 => ?_)
  -- br 2 lv=0:r,1:n,2:n st=
  · refine aw_iconstN (pc := 17) X 0 d_Rd_valueOf_17 (by decide) ?_
    -- stop 18 lv=0:r,1:n,2:n st=n
    exact J 0 (by omega) (by omega) (by rw [show t - (s + 0) = 0 by omega, show t - s = 0 by omega]; rfl)
  · have hfi := hf s
    have e : sl f s (t - s) = f s :: sl f (s + 1) (t - s - 1) := by rw [← sl_cons]; congr 1; omega
    refine aw_aload_nR (pc := 5) X d_Rd_valueOf_5 (by rfl) ?_
    refine aw_iload_n (pc := 6) X d_Rd_valueOf_6 (by rfl) ?_
    refine aw_caldN (pc := 7) X _ 0 (by omega) (by (repeat (first | rw [aw_up_eq] | rw [aw_up_ne _ _ (by first | assumption | omega)])) <;> first | assumption | rfl) (by rfl) (by omega) (by omega) d_Rd_valueOf_7 ?_
    refine aw_bipushN (pc := 8) X 45 d_Rd_valueOf_8 (by decide) ?_
    refine aw_icmp_neN (pc := 10) X (tgt := 17) d_Rd_valueOf_10 (by rfl) (by omega) (by omega) (fun h10 => ?_) (fun h10 => ?_)
    -- br 10 lv=0:r,1:n,2:n st=
    · refine aw_iconstN (pc := 17) X 0 d_Rd_valueOf_17 (by decide) ?_
      -- stop 18 lv=0:r,1:n,2:n st=n
      exact J 0 (by omega) (by omega) (by rw [Nat.add_zero, e]; simp [valL, h10])
    · refine aw_iconstN (pc := 13) X 1 d_Rd_valueOf_13 (by decide) ?_
      refine aw_goto (pc := 14) X (tgt := 18) d_Rd_valueOf_14 (by rfl) ?_
      -- stop 18 lv=0:r,1:n,2:n st=n
      exact J 1 (by omega) (by omega) (by rw [e, show t - (s + 1) = t - s - 1 by omega]; simp [valL, h10])
/-- Front() -/
theorem c_Fr_init {a : Nat} (ha : a < nx) (hd : 1 ≤ d) (h1 : w a = aObj 2 [.null, .int 0]) : AC G y_Fr_init b_Fr_init 1 none d true [rf G a] nx w 1 600 (fun r w' nx' => r = none ∧ w' = aw_up (aw_up w nx (aCh G 600 (fun _ => 0))) a (oFr G nx 600) ∧ nx' = nx + 1) := by
  have hne : a ≠ nx := by omega
  refine AC.ofW (by decide) (Nat.le_of_ble_eq_true rfl) ?_
  intro E P hP Y X
  have X : aw_X G "RescanDesk$Front" b_Fr_init 1 none "<init>" _ _ _ _ _ E := X
  refine AW.eql (lv' := [(0, _)]) (by rfl) ?_
  refine aw_aload_nR (pc := 0) X d_Fr_init_0 (by rfl) ?_
  refine aw_objInit (pc := 1) X k_131 k_94 k_95 d_Fr_init_1 (by omega) (Nat.le_trans (m := 20) (Nat.le_of_ble_eq_true rfl) (by omega)) ?_
  refine aw_aload_nR (pc := 4) X d_Fr_init_4 (by rfl) ?_
  refine aw_sipushN (pc := 5) X 600 d_Fr_init_5 (by decide) ?_
  refine aw_newaN (pc := 8) X (atype := .char) (ty := .char) rfl 0 (by rfl) (by intro C h; cases h) rfl (by decide) rfl (by omega) k_125 (by omega) (by omega) (by omega) d_Fr_init_8 ?_
  refine aw_putFO (pc := 10) X _ 0 (by omega) (by (repeat (first | rw [aw_up_eq] | rw [aw_up_ne _ _ (by first | assumption | omega)])) <;> first | assumption | rfl) (by rfl) in_Fr (by decide) ty_Fr ok_Fr nm_Fr k_132 (by rfl) (by rfl) (by rfl) (by rfl) (by rfl) (by simp) (fs' := [_, _]) (by rfl) d_Fr_init_10 ?_
  refine aw_aload_nR (pc := 13) X d_Fr_init_13 (by rfl) ?_
  refine aw_sipushN (pc := 14) X 600 d_Fr_init_14 (by decide) ?_
  refine aw_putO (pc := 17) X _ 1 (by omega) (by (repeat (first | rw [aw_up_eq] | rw [aw_up_ne _ _ (by first | assumption | omega)])) <;> first | assumption | rfl) (by rfl) in_Fr (by decide) ty_Fr ok_Fr nm_Fr k_134 (by rfl) (by rfl) (by rfl) (by simp) (fs' := [_, _]) (by rfl) d_Fr_init_17 ?_
  refine aw_vret Y X rfl d_Fr_init_20 (by omega) (by omega) (hP _ _ _ ?_)
  -- ret 20 lv=0:r st=
  refine ⟨rfl, ?_, rfl⟩
  rw [aw_up_up]
  rfl
/-- length() -/
theorem c_Fr_length {a c n : Nat} (ha : a < nx) (hn : n ≤ 600) (h1 : w a = oFr G c n) : AC G y_Fr_length b_Fr_length 1 (some .int) d false [rf G a] nx w 0 0 (fun r w' nx' => nx' = nx ∧ w' = w ∧ r = some (.int (nI (600 - n)))) := by
  refine AC.ofW (by decide) (Nat.le_of_ble_eq_true rfl) ?_
  intro E P hP Y X
  have X : aw_X G "RescanDesk$Front" b_Fr_length 1 (some .int) "length" _ _ _ _ _ E := X
  refine AW.eql (lv' := [(0, _)]) (by rfl) ?_
  refine aw_sipushN (pc := 0) X 600 d_Fr_length_0 (by decide) ?_
  refine aw_aload_nR (pc := 3) X d_Fr_length_3 (by rfl) ?_
  refine aw_getO (pc := 4) X _ 1 (by omega) (by (repeat (first | rw [aw_up_eq] | rw [aw_up_ne _ _ (by first | assumption | omega)])) <;> first | assumption | rfl) (by rfl) in_Fr (by decide) k_134 (by rfl) d_Fr_length_4 ?_
  refine aw_isubN (pc := 7) X d_Fr_length_7 (by omega) ?_
  refine aw_iret Y X rfl d_Fr_length_8 (by omega) (by omega) (hP _ _ _ ?_)
  -- ret 8 lv=0:r st=n
  exact ⟨rfl, rfl, rfl⟩
/-- putBefore(text) -/
theorem c_Fr_putBefore {a c n a2 c2 n2 m2 : Nat} {f g : Nat → Nat} (ha : a < nx) (hc : c < nx) (ha2 : a2 < nx) (hc2 : c2 < nx) (hac : a ≠ c) (haa : a ≠ a2) (hac2 : a ≠ c2) (hd : 1 ≤ d) (hn : n ≤ 600) (hm : m2 < 2 ^ 20) (hn2 : n2 ≤ m2) (hg : ∀ j, g j < 65536) (h1 : w a = oFr G c n) (h2 : w c = aCh G 600 f) (h3 : w a2 = oTx G c2 n2) (h4 : w c2 = aCh G m2 g) : AC G y_Fr_putBefore b_Fr_putBefore 2 (some .boolean) d false [rf G a, rf G a2] nx w 0 0 (fun r w' nx' => nx' = nx ∧ ((n2 ≤ n ∧ r = some (.int (nI 1)) ∧ w' = aw_up (aw_up w a (oFr G c (n - n2))) c (aCh G 600 (aw_cpn g f 0 (n - n2) n2))) ∨ (n < n2 ∧ r = some (.int (nI 0)) ∧ w' = w))) := by
  have e1 := Ne.symm hac
  have e2 := Ne.symm haa
  have e3 := Ne.symm hac2
  refine AC.ofW (by decide) (Nat.le_of_ble_eq_true rfl) ?_
  intro E P hP Y X
  have X : aw_X G "RescanDesk$Front" b_Fr_putBefore 2 (some .boolean) "putBefore" _ _ _ _ _ E := X
  refine AW.eql (lv' := [(0, _), (1, _)]) (by rfl) ?_
  refine aw_aload_nR (pc := 0) X d_Fr_putBefore_0 (by rfl) ?_
  refine aw_getNO (pc := 1) X _ 1 (by omega) (by (repeat (first | rw [aw_up_eq] | rw [aw_up_ne _ _ (by first | assumption | omega)])) <;> first | assumption | rfl) (by rfl) in_Tx (by decide) k_116 (by rfl) d_Fr_putBefore_1 ?_
  refine aw_aload_nR (pc := 4) X d_Fr_putBefore_4 (by rfl) ?_
  refine aw_getO (pc := 5) X _ 1 (by omega) (by (repeat (first | rw [aw_up_eq] | rw [aw_up_ne _ _ (by first | assumption | omega)])) <;> first | assumption | rfl) (by rfl) in_Fr (by decide) k_134 (by rfl) d_Fr_putBefore_5 ?_
  refine aw_icmp_leN (pc := 8) X (tgt := 13) d_Fr_putBefore_8 (by rfl) (by omega) (by omega) (fun h8 => ?_) (fun h8 => ?_)
  -- br 8 lv=0:r,1:r st=
  · refine aw_aload_nR (pc := 13) X d_Fr_putBefore_13 (by rfl) ?_
    refine aw_dup (pc := 14) X d_Fr_putBefore_14 (by rfl) ?_
    refine aw_getO (pc := 15) X _ 1 (by omega) (by (repeat (first | rw [aw_up_eq] | rw [aw_up_ne _ _ (by first | assumption | omega)])) <;> first | assumption | rfl) (by rfl) in_Fr (by decide) k_134 (by rfl) d_Fr_putBefore_15 ?_
    refine aw_aload_nR (pc := 18) X d_Fr_putBefore_18 (by rfl) ?_
    refine aw_getNO (pc := 19) X _ 1 (by omega) (by (repeat (first | rw [aw_up_eq] | rw [aw_up_ne _ _ (by first | assumption | omega)])) <;> first | assumption | rfl) (by rfl) in_Tx (by decide) k_116 (by rfl) d_Fr_putBefore_19 ?_
    refine aw_isubN (pc := 22) X d_Fr_putBefore_22 (by omega) ?_
    refine aw_putO (pc := 23) X _ 1 (by omega) (by (repeat (first | rw [aw_up_eq] | rw [aw_up_ne _ _ (by first | assumption | omega)])) <;> first | assumption | rfl) (by rfl) in_Fr (by decide) ty_Fr ok_Fr nm_Fr k_134 (by rfl) (by rfl) (by rfl) (by simp) (fs' := [_, _]) (by rfl) d_Fr_putBefore_23 ?_
    refine aw_aload_nR (pc := 26) X d_Fr_putBefore_26 (by rfl) ?_
    refine aw_getNO (pc := 27) X _ 0 (by omega) (by (repeat (first | rw [aw_up_eq] | rw [aw_up_ne _ _ (by first | assumption | omega)])) <;> first | assumption | rfl) (by rfl) in_Tx (by decide) k_108 (by rfl) d_Fr_putBefore_27 ?_
    refine aw_iconstN (pc := 30) X 0 d_Fr_putBefore_30 (by decide) ?_
    refine aw_aload_nR (pc := 31) X d_Fr_putBefore_31 (by rfl) ?_
    refine aw_getO (pc := 32) X _ 0 (by omega) (by (repeat (first | rw [aw_up_eq] | rw [aw_up_ne _ _ (by first | assumption | omega)])) <;> first | assumption | rfl) (by rfl) in_Fr (by decide) k_132 (by rfl) d_Fr_putBefore_32 ?_
    refine aw_aload_nR (pc := 35) X d_Fr_putBefore_35 (by rfl) ?_
    refine aw_getO (pc := 36) X _ 1 (by omega) (by (repeat (first | rw [aw_up_eq] | rw [aw_up_ne _ _ (by first | assumption | omega)])) <;> first | assumption | rfl) (by rfl) in_Fr (by decide) k_134 (by rfl) d_Fr_putBefore_36 ?_
    refine aw_aload_nR (pc := 39) X d_Fr_putBefore_39 (by rfl) ?_
    refine aw_getNO (pc := 40) X _ 1 (by omega) (by (repeat (first | rw [aw_up_eq] | rw [aw_up_ne _ _ (by first | assumption | omega)])) <;> first | assumption | rfl) (by rfl) in_Tx (by decide) k_116 (by rfl) d_Fr_putBefore_40 ?_
    refine aw_copyC (pc := 43) X _ _ (by omega) (by (repeat (first | rw [aw_up_eq] | rw [aw_up_ne _ _ (by first | assumption | omega)])) <;> first | assumption | rfl) (by omega) (by (repeat (first | rw [aw_up_eq] | rw [aw_up_ne _ _ (by first | assumption | omega)])) <;> first | assumption | rfl) (by omega) (by omega) (by omega) (by omega) (by assumption) k_509 k_511 k_510 k_84 (by omega) (Nat.le_trans (m := 40) (Nat.le_of_ble_eq_true rfl) (by omega)) d_Fr_putBefore_43 ?_
    refine aw_iconstN (pc := 46) X 1 d_Fr_putBefore_46 (by decide) ?_
    refine aw_zret Y X rfl (by decide +kernel) d_Fr_putBefore_47 (by omega) (by omega) (hP _ _ _ ?_)
    -- ret 47 lv=0:r,1:r st=n
    exact ⟨rfl, Or.inl ⟨h8, rfl, rfl⟩⟩
  · refine aw_iconstN (pc := 11) X 0 d_Fr_putBefore_11 (by decide) ?_
    refine aw_zret Y X rfl (by decide +kernel) d_Fr_putBefore_12 (by omega) (by omega) (hP _ _ _ ?_)
    -- ret 12 lv=0:r,1:r st=n
    exact ⟨rfl, Or.inr ⟨h8, rfl, rfl⟩⟩
/-- load(text) -/
theorem c_Fr_load {a c n a2 c2 n2 m2 : Nat} {f g : Nat → Nat} (ha : a < nx) (hc : c < nx) (ha2 : a2 < nx) (hc2 : c2 < nx) (hac : a ≠ c) (haa : a ≠ a2) (hac2 : a ≠ c2) (hd : 2 ≤ d) (hm : m2 ≤ 600) (hn2 : n2 ≤ m2) (hg : ∀ j, g j < 65536) (h1 : w a = oFr G c n) (h2 : w c = aCh G 600 f) (h3 : w a2 = oTx G c2 n2) (h4 : w c2 = aCh G m2 g) : AC G y_Fr_load b_Fr_load 2 none d false [rf G a, rf G a2] nx w 0 0 (fun r w' nx' => nx' = nx ∧ r = none ∧ w' = aw_up (aw_up w a (oFr G c (600 - n2))) c (aCh G 600 (aw_cpn g f 0 (600 - n2) n2))) := by
  have e1 := Ne.symm hac
  have e2 := Ne.symm haa
  have e3 := Ne.symm hac2
  refine AC.ofW (by decide) (Nat.le_of_ble_eq_true rfl) ?_
  intro E P hP Y X
  have X : aw_X G "RescanDesk$Front" b_Fr_load 2 none "load" _ _ _ _ _ E := X
  refine AW.eql (lv' := [(0, _), (1, _)]) (by rfl) ?_
  refine aw_aload_nR (pc := 0) X d_Fr_load_0 (by rfl) ?_
  refine aw_sipushN (pc := 1) X 600 d_Fr_load_1 (by decide) ?_
  refine aw_putO (pc := 4) X _ 1 (by omega) (by (repeat (first | rw [aw_up_eq] | rw [aw_up_ne _ _ (by first | assumption | omega)])) <;> first | assumption | rfl) (by rfl) in_Fr (by decide) ty_Fr ok_Fr nm_Fr k_134 (by rfl) (by rfl) (by rfl) (by simp) (fs' := [_, _]) (by rfl) d_Fr_load_4 ?_
  refine aw_aload_nR (pc := 7) X d_Fr_load_7 (by rfl) ?_
  refine aw_aload_nR (pc := 8) X d_Fr_load_8 (by rfl) ?_
  -- invokevirtual 9 lv=0:r,1:r st=r,r
  refine aw_callV (pc := 9) X _ (c_Fr_putBefore (d := 1) (a := a) (c := c) (n := 600) (a2 := a2) (c2 := c2) (n2 := n2) (m2 := m2) (f := f) (g := g) ha hc ha2 hc2 hac haa hac2 (by omega) (by omega) (by omega) hn2 hg (by rw [aw_up_eq]; rfl) (by rw [aw_up_ne _ _ e1]; exact h2) (by rw [aw_up_ne _ _ e2]; exact h3) (by rw [aw_up_ne _ _ e3]; exact h4)) q_Fr_putBefore k_505 k_506 k_507 (by omega) (by (repeat (first | rw [aw_up_eq] | rw [aw_up_ne _ _ (by first | assumption | omega)])) <;> first | assumption | rfl) (by rfl) d_Fr_load_9 (by omega) (Nat.le_of_ble_eq_true rfl) ⟨by omega, by omega⟩ (fun h => by cases h) (fun r w' nx' hp => ?_)
  obtain ⟨rfl, ⟨-, rfl, rfl⟩ | ⟨h, -⟩⟩ := hp
  · refine aw_pop (pc := 12) X d_Fr_load_12 (by rfl) ?_
    refine aw_vret Y X rfl d_Fr_load_13 (by omega) (by omega) (hP _ _ _ ?_)
    -- ret 13 lv=0:r,1:r st=
    exact ⟨rfl, rfl, by rw [aw_up_up]⟩
  · omega
/-- closingQuote(), the quote being open at the start -/
theorem c_Fr_closingQuote {a c n : Nat} {f : Nat → Nat} (ha : a < nx) (hc : c < nx) (hn : n < 600) (hf : ∀ j, f j < 65536) (hq : f n = 96) (h1 : w a = oFr G c n) (h2 : w c = aCh G 600 f) : AC G y_Fr_closingQuote b_Fr_closingQuote 3 (some .int) d false [rf G a] nx w 0 0 (fun r w' nx' => nx' = nx ∧ w' = w ∧ ((qcl 1 (sl f (n + 1) (600 - (n + 1))) = none ∧ r = some (.int (-1))) ∨ ∃ k, qcl 1 (sl f (n + 1) (600 - (n + 1))) = some k ∧ r = some (.int (nI (n + 1 + k))))) := by
  refine AC.ofW (by decide) (Nat.le_of_ble_eq_true rfl) ?_
  intro E P hP Y X
  have X : aw_X G "RescanDesk$Front" b_Fr_closingQuote 3 (some .int) "closingQuote" _ _ _ _ _ E := X
  refine AW.eql (lv' := [(0, _)]) (by rfl) ?_
  have L : ∀ (k i e : Nat), i + k = 600 → 1 ≤ e → e ≤ i → (qcl e (sl f i k)).map (· + i) = (qcl 1 (sl f (n + 1) (600 - (n + 1)))).map (· + (n + 1)) → AW G E 3 nx 0 0 w 7 [(2, .int (nI i)), (1, .int (nI e)), (0, rf G a)] [] := by
    intro k
    induction k with
    | zero =>
      intro i e hi he hei hr
      rw [sl_0] at hr
      refine aw_iload_n (pc := 7) X d_Fr_closingQuote_7 (by rfl) ?_
      refine aw_sipushN (pc := 8) X 600 d_Fr_closingQuote_8 (by decide) ?_
      refine aw_icmp_geN (pc := 11) X (tgt := 57) d_Fr_closingQuote_11 (by rfl) (by omega) (by omega) (fun h11 => ?_) (fun h11 => ?_)
      -- br 11 lv=2:n,1:n,0:r st=
      · refine aw_iconst (pc := 57) X (v := -1) d_Fr_closingQuote_57 (by decide) ?_
        refine aw_iret Y X rfl d_Fr_closingQuote_58 (by omega) (by omega) (hP _ _ _ ?_)
        -- ret 58 lv=2:n,1:n,0:r st=i
        refine ⟨rfl, rfl, Or.inl ⟨?_, rfl⟩⟩
        cases h : qcl 1 (sl f (n + 1) (600 - (n + 1))) with
        | none => rfl
        | some k => rw [h] at hr; cases hr
      · omega
    | succ k ih =>
      intro i e hi he hei hr
      have hfi := hf i
      have hmm : ∀ o : Option Nat, (o.map (· + 1)).map (· + i) = o.map (· + (i + 1)) := fun o => by
        cases o with
        | none => rfl
        | some x => show some (x + 1 + i) = some (x + (i + 1)); congr 1; omega
      rw [sl_cons] at hr
      refine aw_iload_n (pc := 7) X d_Fr_closingQuote_7 (by rfl) ?_
      refine aw_sipushN (pc := 8) X 600 d_Fr_closingQuote_8 (by decide) ?_
      refine aw_icmp_geN (pc := 11) X (tgt := 57) d_Fr_closingQuote_11 (by rfl) (by omega) (by omega) (fun h11 => ?_) (fun h11 => ?_)
      -- br 11 lv=2:n,1:n,0:r st=
      · omega
      · refine aw_aload_nR (pc := 14) X d_Fr_closingQuote_14 (by rfl) ?_
        refine aw_getO (pc := 15) X _ 0 (by omega) (by (repeat (first | rw [aw_up_eq] | rw [aw_up_ne _ _ (by first | assumption | omega)])) <;> first | assumption | rfl) (by rfl) in_Fr (by decide) k_132 (by rfl) d_Fr_closingQuote_15 ?_
        refine aw_iload_n (pc := 18) X d_Fr_closingQuote_18 (by rfl) ?_
        refine aw_caldN (pc := 19) X _ 0 (by omega) (by (repeat (first | rw [aw_up_eq] | rw [aw_up_ne _ _ (by first | assumption | omega)])) <;> first | assumption | rfl) (by rfl) (by omega) (by omega) d_Fr_closingQuote_19 ?_
        refine aw_bipushN (pc := 20) X 96 d_Fr_closingQuote_20 (by decide) ?_
        refine aw_icmp_neN (pc := 22) X (tgt := 31) d_Fr_closingQuote_22 (by rfl) (by omega) (by omega) (fun h22 => ?_) (fun h22 => ?_)
        -- br 22 lv=2:n,1:n,0:r st=
        · refine aw_aload_nR (pc := 31) X d_Fr_closingQuote_31 (by rfl) ?_
          refine aw_getO (pc := 32) X _ 0 (by omega) (by (repeat (first | rw [aw_up_eq] | rw [aw_up_ne _ _ (by first | assumption | omega)])) <;> first | assumption | rfl) (by rfl) in_Fr (by decide) k_132 (by rfl) d_Fr_closingQuote_32 ?_
          refine aw_iload_n (pc := 35) X d_Fr_closingQuote_35 (by rfl) ?_
          refine aw_caldN (pc := 36) X _ 0 (by omega) (by (repeat (first | rw [aw_up_eq] | rw [aw_up_ne _ _ (by first | assumption | omega)])) <;> first | assumption | rfl) (by rfl) (by omega) (by omega) d_Fr_closingQuote_36 ?_
          refine aw_bipushN (pc := 37) X 39 d_Fr_closingQuote_37 (by decide) ?_
          refine aw_icmp_neN (pc := 39) X (tgt := 51) d_Fr_closingQuote_39 (by rfl) (by omega) (by omega) (fun h39 => ?_) (fun h39 => ?_)
          -- br 39 lv=2:n,1:n,0:r st=
          · rw [qcl, if_neg h22, if_neg h39, hmm] at hr
            refine aw_iincN (pc := 51) X 1 (lv' := [(2, _), (1, _), (0, _)]) d_Fr_closingQuote_51 (by rfl) (by decide) (by decide) (by rfl) ?_
            refine aw_goto (pc := 54) X (tgt := 7) d_Fr_closingQuote_54 (by rfl) ?_
            -- stop 7 lv=2:n,1:n,0:r st=
            exact ih (i + 1) e (by omega) he (by omega) hr
          · refine aw_iincM (pc := 42) X 1 (lv' := [(1, _), (2, _), (0, _)]) d_Fr_closingQuote_42 (by rfl) (by decide) (by omega) (by decide) (by rfl) ?_
            refine aw_iload_n (pc := 45) X d_Fr_closingQuote_45 (by rfl) ?_
            refine aw_if_neN (pc := 46) X (tgt := 51) d_Fr_closingQuote_46 (by rfl) (by omega) (fun h46 => ?_) (fun h46 => ?_)
            -- br 46 lv=1:n,2:n,0:r st=
            · rw [qcl, if_neg h22, if_pos h39, if_neg (by omega), hmm] at hr
              refine aw_iincN (pc := 51) X 1 (lv' := [(2, _), (1, _), (0, _)]) d_Fr_closingQuote_51 (by rfl) (by decide) (by decide) (by rfl) ?_
              refine aw_goto (pc := 54) X (tgt := 7) d_Fr_closingQuote_54 (by rfl) ?_
              -- stop 7 lv=2:n,1:n,0:r st=
              exact ih (i + 1) (e - 1) (by omega) (by omega) (by omega) hr
            · rw [qcl, if_neg h22, if_pos h39, if_pos (by omega)] at hr
              refine aw_iload_n (pc := 49) X d_Fr_closingQuote_49 (by rfl) ?_
              refine aw_iret Y X rfl d_Fr_closingQuote_50 (by omega) (by omega) (hP _ _ _ ?_)
              -- ret 50 lv=1:n,2:n,0:r st=n
              refine ⟨rfl, rfl, Or.inr ?_⟩
              cases h : qcl 1 (sl f (n + 1) (600 - (n + 1))) with
              | none => rw [h] at hr; cases hr
              | some k =>
                rw [h] at hr
                refine ⟨k, rfl, ?_⟩
                have : 0 + i = k + (n + 1) := Option.some.inj hr
                rw [show i = n + 1 + k by omega]
        · rw [qcl, if_pos h22, hmm] at hr
          refine aw_iincN (pc := 25) X 1 (lv' := [(1, _), (2, _), (0, _)]) d_Fr_closingQuote_25 (by rfl) (by decide) (by decide) (by rfl) ?_
          refine aw_goto (pc := 28) X (tgt := 51) d_Fr_closingQuote_28 (by rfl) ?_
          refine aw_iincN (pc := 51) X 1 (lv' := [(2, _), (1, _), (0, _)]) d_Fr_closingQuote_51 (by rfl) (by decide) (by decide) (by rfl) ?_
          refine aw_goto (pc := 54) X (tgt := 7) d_Fr_closingQuote_54 (by rfl) ?_
          -- stop 7 lv=2:n,1:n,0:r st=
          refine AW.lsub [0, 1, 2] (by rfl) ?_
          exact ih (i + 1) (e + 1) (by omega) (by omega) (by omega) hr
  have hqn : f n = 96 := hq
  refine aw_iconstN (pc := 0) X 0 d_Fr_closingQuote_0 (by decide) ?_
  refine aw_istore_n (pc := 1) X (lv' := [(1, _), (0, _)]) d_Fr_closingQuote_1 (by decide) (by rfl) ?_
  refine aw_aload_nR (pc := 2) X d_Fr_closingQuote_2 (by rfl) ?_
  refine aw_getO (pc := 3) X _ 1 (by omega) (by (repeat (first | rw [aw_up_eq] | rw [aw_up_ne _ _ (by first | assumption | omega)])) <;> first | assumption | rfl) (by rfl) in_Fr (by decide) k_134 (by rfl) d_Fr_closingQuote_3 ?_
  refine aw_istore_n (pc := 6) X (lv' := [(2, _), (1, _), (0, _)]) d_Fr_closingQuote_6 (by decide) (by rfl) ?_
  refine aw_iload_n (pc := 7) X d_Fr_closingQuote_7 (by rfl) ?_
  refine aw_sipushN (pc := 8) X 600 d_Fr_closingQuote_8 (by decide) ?_
  refine aw_icmp_geN (pc := 11) X (tgt := 57) d_Fr_closingQuote_11 (by rfl) (by omega) (by omega) (fun h11 => ?_) (fun h11 => ?_)
  -- br 11 lv=2:n,1:n,0:r st=
  · omega
  · refine aw_aload_nR (pc := 14) X d_Fr_closingQuote_14 (by rfl) ?_
    refine aw_getO (pc := 15) X _ 0 (by omega) (by (repeat (first | rw [aw_up_eq] | rw [aw_up_ne _ _ (by first | assumption | omega)])) <;> first | assumption | rfl) (by rfl) in_Fr (by decide) k_132 (by rfl) d_Fr_closingQuote_15 ?_
    refine aw_iload_n (pc := 18) X d_Fr_closingQuote_18 (by rfl) ?_
    refine aw_caldN (pc := 19) X _ 0 (by omega) (by (repeat (first | rw [aw_up_eq] | rw [aw_up_ne _ _ (by first | assumption | omega)])) <;> first | assumption | rfl) (by rfl) (by omega) (by omega) d_Fr_closingQuote_19 ?_
    refine aw_bipushN (pc := 20) X 96 d_Fr_closingQuote_20 (by decide) ?_
    refine aw_icmp_neN (pc := 22) X (tgt := 31) d_Fr_closingQuote_22 (by rfl) (by omega) (by omega) (fun h22 => ?_) (fun h22 => ?_)
    -- br 22 lv=2:n,1:n,0:r st=
    · exact absurd hqn h22
    · refine aw_iincN (pc := 25) X 1 (lv' := [(1, _), (2, _), (0, _)]) d_Fr_closingQuote_25 (by rfl) (by decide) (by decide) (by rfl) ?_
      refine aw_goto (pc := 28) X (tgt := 51) d_Fr_closingQuote_28 (by rfl) ?_
      refine aw_iincN (pc := 51) X 1 (lv' := [(2, _), (1, _), (0, _)]) d_Fr_closingQuote_51 (by rfl) (by decide) (by decide) (by rfl) ?_
      refine aw_goto (pc := 54) X (tgt := 7) d_Fr_closingQuote_54 (by rfl) ?_
      -- stop 7 lv=2:n,1:n,0:r st=
      exact L (600 - (n + 1)) (n + 1) 1 (by omega) (by omega) (by omega) rfl
/-- takeLine() -/
theorem c_Fr_takeLine {a c n : Nat} {f : Nat → Nat} (ha : a < nx) (hc : c < nx) (hac : a ≠ c) (hn : n ≤ 600) (hf : ∀ j, f j < 65536) (h1 : w a = oFr G c n) (h2 : w c = aCh G 600 f) : AC G y_Fr_takeLine b_Fr_takeLine 1 none d false [rf G a] nx w 0 0 (fun r w' nx' => nx' = nx ∧ r = none ∧ w' = aw_up w a (oFr G c (n + lnLen (sl f n (600 - n))))) := by
  have e1 := Ne.symm hac
  refine AC.ofW (by decide) (Nat.le_of_ble_eq_true rfl) ?_
  intro E P hP Y X
  have X : aw_X G "RescanDesk$Front" b_Fr_takeLine 1 none "takeLine" _ _ _ _ _ E := X
  refine AW.eql (lv' := [(0, _)]) (by rfl) ?_
  have L : ∀ (k i : Nat), i + k = 600 → i + lnLen (sl f i k) = n + lnLen (sl f n (600 - n)) → AW G E 1 nx 0 0 (aw_up w a (oFr G c i)) 0 [(0, rf G a)] [] := by
    intro k
    induction k with
    | zero =>
      intro i hi hr
      have g1 : aw_up w a (oFr G c i) a = oFr G c i := aw_up_eq _ _ _
      have g2 : aw_up w a (oFr G c i) c = aCh G 600 f := by rw [aw_up_ne _ _ e1]; exact h2
      rw [sl_0] at hr
      refine aw_aload_nR (pc := 0) X d_Fr_takeLine_0 (by rfl) ?_
      refine aw_getO (pc := 1) X _ 1 (by omega) (by (repeat (first | rw [aw_up_eq] | rw [aw_up_ne _ _ (by first | assumption | omega)])) <;> first | assumption | rfl) (by rfl) in_Fr (by decide) k_134 (by rfl) d_Fr_takeLine_1 ?_
      refine aw_sipushN (pc := 4) X 600 d_Fr_takeLine_4 (by decide) ?_
      refine aw_icmp_geN (pc := 7) X (tgt := 37) d_Fr_takeLine_7 (by rfl) (by omega) (by omega) (fun h7 => ?_) (fun h7 => ?_)
      -- br 7 lv=0:r st=
      · refine aw_aload_nR (pc := 37) X d_Fr_takeLine_37 (by rfl) ?_
        refine aw_getO (pc := 38) X _ 1 (by omega) (by (repeat (first | rw [aw_up_eq] | rw [aw_up_ne _ _ (by first | assumption | omega)])) <;> first | assumption | rfl) (by rfl) in_Fr (by decide) k_134 (by rfl) d_Fr_takeLine_38 ?_
        refine aw_sipushN (pc := 41) X 600 d_Fr_takeLine_41 (by decide) ?_
        refine aw_icmp_geN (pc := 44) X (tgt := 57) d_Fr_takeLine_44 (by rfl) (by omega) (by omega) (fun h44 => ?_) (fun h44 => ?_)
        -- br 44 lv=0:r st=
        · refine aw_vret Y X rfl d_Fr_takeLine_57 (by omega) (by omega) (hP _ _ _ ?_)
          -- ret 57 lv=0:r st=
          exact ⟨rfl, rfl, by rw [← hr]; rfl⟩
        · omega
      · omega
    | succ k ih =>
      intro i hi hr
      have g1 : aw_up w a (oFr G c i) a = oFr G c i := aw_up_eq _ _ _
      have g2 : aw_up w a (oFr G c i) c = aCh G 600 f := by rw [aw_up_ne _ _ e1]; exact h2
      have hfi := hf i
      rw [sl_cons] at hr
      refine aw_aload_nR (pc := 0) X d_Fr_takeLine_0 (by rfl) ?_
      refine aw_getO (pc := 1) X _ 1 (by omega) (by (repeat (first | rw [aw_up_eq] | rw [aw_up_ne _ _ (by first | assumption | omega)])) <;> first | assumption | rfl) (by rfl) in_Fr (by decide) k_134 (by rfl) d_Fr_takeLine_1 ?_
      refine aw_sipushN (pc := 4) X 600 d_Fr_takeLine_4 (by decide) ?_
      refine aw_icmp_geN (pc := 7) X (tgt := 37) d_Fr_takeLine_7 (by rfl) (by omega) (by omega) (fun h7 => ?_) (fun h7 => ?_)
      -- br 7 lv=0:r st=
      · omega
      · refine aw_aload_nR (pc := 10) X d_Fr_takeLine_10 (by rfl) ?_
        refine aw_getO (pc := 11) X _ 0 (by omega) (by (repeat (first | rw [aw_up_eq] | rw [aw_up_ne _ _ (by first | assumption | omega)])) <;> first | assumption | rfl) (by rfl) in_Fr (by decide) k_132 (by rfl) d_Fr_takeLine_11 ?_
        refine aw_aload_nR (pc := 14) X d_Fr_takeLine_14 (by rfl) ?_
        refine aw_getO (pc := 15) X _ 1 (by omega) (by (repeat (first | rw [aw_up_eq] | rw [aw_up_ne _ _ (by first | assumption | omega)])) <;> first | assumption | rfl) (by rfl) in_Fr (by decide) k_134 (by rfl) d_Fr_takeLine_15 ?_
        refine aw_caldN (pc := 18) X _ 0 (by omega) (by (repeat (first | rw [aw_up_eq] | rw [aw_up_ne _ _ (by first | assumption | omega)])) <;> first | assumption | rfl) (by rfl) (by omega) (by omega) d_Fr_takeLine_18 ?_
        refine aw_bipushN (pc := 19) X 10 d_Fr_takeLine_19 (by decide) ?_
        refine aw_icmp_eqN (pc := 21) X (tgt := 37) d_Fr_takeLine_21 (by rfl) (by omega) (by omega) (fun h21 => ?_) (fun h21 => ?_)
        -- br 21 lv=0:r st=
        · rw [lnLen, List.takeWhile_cons_of_neg (by simp [h21])] at hr
          refine aw_aload_nR (pc := 37) X d_Fr_takeLine_37 (by rfl) ?_
          refine aw_getO (pc := 38) X _ 1 (by omega) (by (repeat (first | rw [aw_up_eq] | rw [aw_up_ne _ _ (by first | assumption | omega)])) <;> first | assumption | rfl) (by rfl) in_Fr (by decide) k_134 (by rfl) d_Fr_takeLine_38 ?_
          refine aw_sipushN (pc := 41) X 600 d_Fr_takeLine_41 (by decide) ?_
          refine aw_icmp_geN (pc := 44) X (tgt := 57) d_Fr_takeLine_44 (by rfl) (by omega) (by omega) (fun h44 => ?_) (fun h44 => ?_)
          -- br 44 lv=0:r st=
          · omega
          · refine aw_aload_nR (pc := 47) X d_Fr_takeLine_47 (by rfl) ?_
            refine aw_dup (pc := 48) X d_Fr_takeLine_48 (by rfl) ?_
            refine aw_getO (pc := 49) X _ 1 (by omega) (by (repeat (first | rw [aw_up_eq] | rw [aw_up_ne _ _ (by first | assumption | omega)])) <;> first | assumption | rfl) (by rfl) in_Fr (by decide) k_134 (by rfl) d_Fr_takeLine_49 ?_
            refine aw_iconstN (pc := 52) X 1 d_Fr_takeLine_52 (by decide) ?_
            refine aw_iaddN (pc := 53) X d_Fr_takeLine_53 ?_
            refine aw_putO (pc := 54) X _ 1 (by omega) (by (repeat (first | rw [aw_up_eq] | rw [aw_up_ne _ _ (by first | assumption | omega)])) <;> first | assumption | rfl) (by rfl) in_Fr (by decide) ty_Fr ok_Fr nm_Fr k_134 (by rfl) (by rfl) (by rfl) (by simp) (fs' := [_, _]) (by rfl) d_Fr_takeLine_54 ?_
            refine aw_vret Y X rfl d_Fr_takeLine_57 (by omega) (by omega) (hP _ _ _ ?_)
            -- ret 57 lv=0:r st=
            refine ⟨rfl, rfl, ?_⟩
            rw [aw_up_up, ← hr]
            simp
            rfl
        · have hr2 : i + 1 + lnLen (sl f (i + 1) k) = n + lnLen (sl f n (600 - n)) := by
            rw [← hr, lnLen, lnLen, List.takeWhile_cons_of_pos (by simp [h21])]
            simp only [List.length_cons, sl_len]
            split <;> split <;> omega
          refine aw_aload_nR (pc := 24) X d_Fr_takeLine_24 (by rfl) ?_
          refine aw_dup (pc := 25) X d_Fr_takeLine_25 (by rfl) ?_
          refine aw_getO (pc := 26) X _ 1 (by omega) (by (repeat (first | rw [aw_up_eq] | rw [aw_up_ne _ _ (by first | assumption | omega)])) <;> first | assumption | rfl) (by rfl) in_Fr (by decide) k_134 (by rfl) d_Fr_takeLine_26 ?_
          refine aw_iconstN (pc := 29) X 1 d_Fr_takeLine_29 (by decide) ?_
          refine aw_iaddN (pc := 30) X d_Fr_takeLine_30 ?_
          refine aw_putO (pc := 31) X _ 1 (by omega) (by (repeat (first | rw [aw_up_eq] | rw [aw_up_ne _ _ (by first | assumption | omega)])) <;> first | assumption | rfl) (by rfl) in_Fr (by decide) ty_Fr ok_Fr nm_Fr k_134 (by rfl) (by rfl) (by rfl) (by simp) (fs' := [_, _]) (by rfl) d_Fr_takeLine_31 ?_
          refine aw_goto (pc := 34) X (tgt := 0) d_Fr_takeLine_34 (by rfl) ?_
          -- stop 0 lv=0:r st=
          rw [aw_up_up]
          exact ih (i + 1) (by omega) hr2
  refine AW.eqw (aw_up_self h1).symm ?_
  exact L (600 - n) n (by omega) rfl
end

