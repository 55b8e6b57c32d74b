/-! the reference: the relation of its memory to the state; its small methods -/
def RTx (n : Nat) (g : Nat → Nat) (tx : List Nat) : Prop := n = tx.length ∧ tx.length ≤ 300 ∧ tx = sl g 0 tx.length
def RF (n : Nat) (g : Nat → Nat) (F : List Nat) : Prop := n = F.length ∧ F.length ≤ 600 ∧ ∀ k, k < F.length → F.getD k 0 = g (F.length - 1 - k)
/-- a definition in its row of the arrays -/
def dR (ns : Nat) (g : Nat → Nat) (o k bs : Nat) (h : Nat → Nat) (o' : Nat) (t : Def) : Prop := ns = t.1.length ∧ t.1.length ≤ 12 ∧ t.1 = sl g o t.1.length ∧ k = t.2.1 ∧ t.2.1 ≤ 16 ∧ bs = t.2.2.length ∧ t.2.2.length ≤ 100 ∧ t.2.2 = sl h o' t.2.2.length ∧ isNm t.1 = true
def RT (n : Nat) (a1 a2 a3 a4 a5 : Nat → Nat) (T : List Def) : Prop := n = T.length ∧ T.length ≤ 60 ∧ ∀ i t, T[i]? = some t → dR (a2 i) a1 (12 * i) (a3 i) (a5 i) a4 (100 * i) t
def cR (i : Nat) (a6 a7 a8 a9 a10 a11 a12 a13 a14 : Nat → Nat) (u : CS) : Prop := dR (a7 i) a6 (12 * i) (a8 i) (a10 i) a9 (100 * i) u.1 ∧ a11 i = u.2.1.length ∧ (∀ k, k < u.2.1.length → a12 (11 * i + k) = u.2.1.getD k 0) ∧ a13 i = u.2.2.1 ∧ u.2.2.1 ≤ 10000 ∧ a14 i = bN u.2.2.2
def RC (n : Nat) (a6 a7 a8 a9 a10 a11 a12 a13 a14 : Nat → Nat) (C : List CS) : Prop := n = C.length ∧ C.length ≤ 12 ∧ ∀ i u, C.reverse[i]? = some u → cR i a6 a7 a8 a9 a10 a11 a12 a13 a14 u
def RG (n : Nat) (g : Nat → Nat) (ga : List Nat) (C : List CS) : Prop := n = ga.length ∧ ga.length ≤ 400 ∧ ga = sl g 0 ga.length ∧ okC C ga.length
def RR (g s : Nat → Nat) (R : Nat → List Nat) : Prop := ∀ r, r < 4 → s r = (R r).length ∧ (R r).length ≤ 300 ∧ R r = sl g (300 * r) (R r).length
def RP (p : Int32) (o : Option Nat) : Prop := p = pV o ∧ ∀ k, o = some k → k < 4
def RM (p : Int32) (m : Nat → Nat) (A : Nat → Nat → Nat) (tx : List Nat) (σ : SQ) (st : Nat × Nat) : Prop :=
  RTx (m 1) (A 419) tx ∧ RF (m 3) (A 420) σ.1.1 ∧ RT (m 5) (A 421) (A 422) (A 423) (A 424) (A 425) σ.1.2.2.2 ∧ RC (m 11) (A 426) (A 427) (A 428) (A 429) (A 430) (A 431) (A 432) (A 433) (A 434) σ.2.2.1 ∧ RG (m 21) (A 435) σ.2.1 σ.2.2.1 ∧ RR (A 436) (A 437) σ.1.2.2.1 ∧ RP p σ.1.2.1 ∧ (m 29 = st.1 ∧ m 0 = st.2) ∧ m 30 = σ.2.2.2 ∧ σ.2.2.2 ≤ 12
def isLetO (o : Option Nat) : Bool := match o with
  | none => false
  | some c => isLet c
def isDigO (o : Option Nat) : Bool := match o with
  | none => false
  | some c => isDig c
theorem pV_m1 : pV none = -1 := rfl
theorem pV_some (k : Nat) : pV (some k) = nI k := rfl
theorem getD_some {L : List Nat} {k : Nat} (h : k < L.length) : L[k]? = some (L.getD k 0) := by
  rw [List.getD_eq_getElem?_getD, List.getElem?_eq_getElem h]
  rfl
section
variable {G : aw_G} {nx d : Nat} {w : Nat → va_E} {p : Int32} {m : Nat → Nat} {A : Nat → Nat → Nat} {V : Nat → Int64}
theorem c_Mo_in {x lo hi : Int32} : AC G y_Mo_in b_Mo_in 3 (some .boolean) d false [.int x, .int lo, .int hi] nx w 0 0 (fun r w' nx' => nx' = nx ∧ w' = w ∧ r = some (.int (nI (bN (decide (lo ≤ x ∧ x ≤ hi)))))) := by
  refine AC.ofW (by decide) (Nat.le_of_ble_eq_true rfl) ?_
  intro E P hP Y X
  have X : aw_X G "RescanDeskModel" b_Mo_in 3 (some .boolean) "in" _ _ _ _ _ E := X
  refine AW.eql (lv' := [(0, _), (1, _), (2, _)]) (by rfl) ?_
  refine aw_iload_n (pc := 0) X d_Mo_in_0 (by rfl) ?_
  refine aw_iload_n (pc := 1) X d_Mo_in_1 (by rfl) ?_
  refine aw_icmp_lt (pc := 2) X (tgt := 14) d_Mo_in_2 (by rfl) (fun h2 => ?_) (fun h2 => ?_)
  -- br 2 lv=0:i,1:i,2:i st=
  · refine aw_iconstN (pc := 14) X 0 d_Mo_in_14 (by decide) ?_
    refine aw_zret Y X rfl (by decide +kernel) d_Mo_in_15 (by omega) (by omega) (hP _ _ _ ?_)
    -- ret 15 lv=0:i,1:i,2:i st=n
    exact ⟨rfl, rfl, by rw [decide_eq_false (fun e => absurd e.1 (by rw [Int32.le_iff_toInt_le]; rw [Int32.lt_iff_toInt_lt] at h2; omega))]; rfl⟩
  · refine aw_iload_n (pc := 5) X d_Mo_in_5 (by rfl) ?_
    refine aw_iload_n (pc := 6) X d_Mo_in_6 (by rfl) ?_
    refine aw_icmp_gt (pc := 7) X (tgt := 14) d_Mo_in_7 (by rfl) (fun h7 => ?_) (fun h7 => ?_)
    -- br 7 lv=0:i,1:i,2:i st=
    · refine aw_iconstN (pc := 14) X 0 d_Mo_in_14 (by decide) ?_
      refine aw_zret Y X rfl (by decide +kernel) d_Mo_in_15 (by omega) (by omega) (hP _ _ _ ?_)
      -- ret 15 lv=0:i,1:i,2:i st=n
      exact ⟨rfl, rfl, by rw [decide_eq_false (fun e => absurd e.2 (by rw [Int32.le_iff_toInt_le]; rw [Int32.lt_iff_toInt_lt] at h7; omega))]; rfl⟩
    · refine aw_iconstN (pc := 10) X 1 d_Mo_in_10 (by decide) ?_
      refine aw_goto (pc := 11) X (tgt := 15) d_Mo_in_11 (by rfl) ?_
      refine aw_zret Y X rfl (by decide +kernel) d_Mo_in_15 (by omega) (by omega) (hP _ _ _ ?_)
      -- ret 15 lv=0:i,1:i,2:i st=n
      exact ⟨rfl, rfl, by rw [decide_eq_true ⟨by rw [Int32.le_iff_toInt_le]; rw [Int32.lt_iff_toInt_lt] at h2; omega, by rw [Int32.le_iff_toInt_le]; rw [Int32.lt_iff_toInt_lt] at h7; omega⟩]; rfl⟩
theorem c_Mo_isLetter {c : Nat} (hc : c < 65536) : AC G y_Mo_isLetter b_Mo_isLetter 1 (some .boolean) d false [.int (nI c)] nx w 0 0 (fun r w' nx' => nx' = nx ∧ w' = w ∧ r = some (.int (nI (bN (isLet c))))) := by
  have t1 : ∀ q : Prop, (97 ≤ c ∧ c ≤ 122 ∨ 65 ≤ c ∧ c ≤ 90 ∨ c = 95) → isLet c = true := fun _ h => decide_eq_true h
  have t2 : ∀ q : Prop, ¬ (97 ≤ c ∧ c ≤ 122 ∨ 65 ≤ c ∧ c ≤ 90 ∨ c = 95) → isLet c = false := fun _ h => decide_eq_false h
  refine AC.ofW (by decide) (Nat.le_of_ble_eq_true rfl) ?_
  intro E P hP Y X
  have X : aw_X G "RescanDeskModel" b_Mo_isLetter 1 (some .boolean) "isLetter" _ _ _ _ _ E := X
  refine AW.eql (lv' := [(0, _)]) (by rfl) ?_
  have Lt : isLet c = true → AW G E 1 nx 0 0 w 30 [(0, .int (nI c))] [] := fun h => by
    refine aw_iconstN (pc := 30) X 1 d_Mo_isLetter_30 (by decide) ?_
    refine aw_goto (pc := 31) X (tgt := 35) d_Mo_isLetter_31 (by rfl) ?_
    refine aw_zret Y X rfl (by decide +kernel) d_Mo_isLetter_35 (by omega) (by omega) (hP _ _ _ ?_)
    -- ret 35 lv=0:n st=n
    exact ⟨rfl, rfl, by rw [h]; rfl⟩
  have Lf : isLet c = false → AW G E 1 nx 0 0 w 34 [(0, .int (nI c))] [] := fun h => by
    refine aw_iconstN (pc := 34) X 0 d_Mo_isLetter_34 (by decide) ?_
    refine aw_zret Y X rfl (by decide +kernel) d_Mo_isLetter_35 (by omega) (by omega) (hP _ _ _ ?_)
    -- ret 35 lv=0:n st=n
    exact ⟨rfl, rfl, by rw [h]; rfl⟩
  have L24 : ¬ (97 ≤ c ∧ c ≤ 122 ∨ 65 ≤ c ∧ c ≤ 90) → AW G E 1 nx 0 0 w 24 [(0, .int (nI c))] [] := fun h => by
    refine aw_iload_n (pc := 24) X d_Mo_isLetter_24 (by rfl) ?_
    refine aw_bipushN (pc := 25) X 95 d_Mo_isLetter_25 (by decide) ?_
    refine aw_icmp_neN (pc := 27) X (tgt := 34) d_Mo_isLetter_27 (by rfl) (by omega) (by omega) (fun h27 => ?_) (fun h27 => ?_)
    -- br 27 lv=0:n st=
    · exact Lf (t2 True (by omega))
    · exact Lt (t1 True (by omega))
  have L12 : ¬ (97 ≤ c ∧ c ≤ 122) → AW G E 1 nx 0 0 w 12 [(0, .int (nI c))] [] := fun h => by
    refine aw_iload_n (pc := 12) X d_Mo_isLetter_12 (by rfl) ?_
    refine aw_bipushN (pc := 13) X 65 d_Mo_isLetter_13 (by decide) ?_
    refine aw_icmp_ltN (pc := 15) X (tgt := 24) d_Mo_isLetter_15 (by rfl) (by omega) (by omega) (fun h15 => ?_) (fun h15 => ?_)
    -- br 15 lv=0:n st=
    · exact L24 (by omega)
    · refine aw_iload_n (pc := 18) X d_Mo_isLetter_18 (by rfl) ?_
      refine aw_bipushN (pc := 19) X 90 d_Mo_isLetter_19 (by decide) ?_
      refine aw_icmp_leN (pc := 21) X (tgt := 30) d_Mo_isLetter_21 (by rfl) (by omega) (by omega) (fun h21 => ?_) (fun h21 => ?_)
      -- br 21 lv=0:n st=
      · exact Lt (t1 True (by omega))
      · exact L24 (by omega)
  refine aw_iload_n (pc := 0) X d_Mo_isLetter_0 (by rfl) ?_
  refine aw_bipushN (pc := 1) X 97 d_Mo_isLetter_1 (by decide) ?_
  refine aw_icmp_ltN (pc := 3) X (tgt := 12) d_Mo_isLetter_3 (by rfl) (by omega) (by omega) (fun h3 => ?_) (fun h3 => ?_)
  -- br 3 lv=0:n st=
  · exact L12 (by omega)
  · refine aw_iload_n (pc := 6) X d_Mo_isLetter_6 (by rfl) ?_
    refine aw_bipushN (pc := 7) X 122 d_Mo_isLetter_7 (by decide) ?_
    refine aw_icmp_leN (pc := 9) X (tgt := 30) d_Mo_isLetter_9 (by rfl) (by omega) (by omega) (fun h9 => ?_) (fun h9 => ?_)
    -- br 9 lv=0:n st=
    · exact Lt (t1 True (by omega))
    · exact L12 (by omega)
theorem c_Mo_isLetterN : AC G y_Mo_isLetter b_Mo_isLetter 1 (some .boolean) d false [.int (-1)] nx w 0 0 (fun r w' nx' => nx' = nx ∧ w' = w ∧ r = some (.int (nI 0))) := by
  refine AC.ofW (by decide) (Nat.le_of_ble_eq_true rfl) ?_
  intro E P hP Y X
  have X : aw_X G "RescanDeskModel" b_Mo_isLetter 1 (some .boolean) "isLetter" _ _ _ _ _ E := X
  refine AW.eql (lv' := [(0, _)]) (by rfl) ?_
  refine aw_iload_n (pc := 0) X d_Mo_isLetter_0 (by rfl) ?_
  refine aw_bipushN (pc := 1) X 97 d_Mo_isLetter_1 (by decide) ?_
  refine aw_icmp_lt (pc := 3) X (tgt := 12) d_Mo_isLetter_3 (by rfl) (fun h3 => ?_) (fun h3 => ?_)
  -- br 3 lv=0:i st=
  · refine aw_iload_n (pc := 12) X d_Mo_isLetter_12 (by rfl) ?_
    refine aw_bipushN (pc := 13) X 65 d_Mo_isLetter_13 (by decide) ?_
    refine aw_icmp_lt (pc := 15) X (tgt := 24) d_Mo_isLetter_15 (by rfl) (fun h15 => ?_) (fun h15 => ?_)
    -- br 15 lv=0:i st=
    · refine aw_iload_n (pc := 24) X d_Mo_isLetter_24 (by rfl) ?_
      refine aw_bipushN (pc := 25) X 95 d_Mo_isLetter_25 (by decide) ?_
      refine aw_icmp_ne (pc := 27) X (tgt := 34) d_Mo_isLetter_27 (by rfl) (fun h27 => ?_) (fun h27 => ?_)
      -- br 27 lv=0:i st=
      · refine aw_iconstN (pc := 34) X 0 d_Mo_isLetter_34 (by decide) ?_
        refine aw_zret Y X rfl (by decide +kernel) d_Mo_isLetter_35 (by omega) (by omega) (hP _ _ _ ?_)
        -- ret 35 lv=0:i st=n
        exact ⟨rfl, rfl, rfl⟩
      · exact absurd h27 (by decide)
    · exact absurd (show (-1 : Int32) < nI 65 by decide) h15
  · exact absurd (show (-1 : Int32) < nI 97 by decide) h3
theorem c_Mo_isLetterO {o : Option Nat} (ho : ∀ c, o = some c → c < 65536) : AC G y_Mo_isLetter b_Mo_isLetter 1 (some .boolean) d false [.int (pV o)] nx w 0 0 (fun r w' nx' => nx' = nx ∧ w' = w ∧ r = some (.int (nI (bN (isLetO o))))) := by
  cases o with
  | none => exact c_Mo_isLetterN
  | some c => exact c_Mo_isLetter (ho c rfl)
theorem c_Mo_isDigit {c : Nat} (hc : c < 65536) : AC G y_Mo_isDigit b_Mo_isDigit 1 (some .boolean) d false [.int (nI c)] nx w 0 0 (fun r w' nx' => nx' = nx ∧ w' = w ∧ r = some (.int (nI (bN (isDig c))))) := by
  refine AC.ofW (by decide) (Nat.le_of_ble_eq_true rfl) ?_
  intro E P hP Y X
  have X : aw_X G "RescanDeskModel" b_Mo_isDigit 1 (some .boolean) "isDigit" _ _ _ _ _ E := X
  refine AW.eql (lv' := [(0, _)]) (by rfl) ?_
  refine aw_iload_n (pc := 0) X d_Mo_isDigit_0 (by rfl) ?_
  refine aw_bipushN (pc := 1) X 48 d_Mo_isDigit_1 (by decide) ?_
  refine aw_icmp_ltN (pc := 3) X (tgt := 16) d_Mo_isDigit_3 (by rfl) (by omega) (by omega) (fun h3 => ?_) (fun h3 => ?_)
  -- br 3 lv=0:n st=
  · refine aw_iconstN (pc := 16) X 0 d_Mo_isDigit_16 (by decide) ?_
    refine aw_zret Y X rfl (by decide +kernel) d_Mo_isDigit_17 (by omega) (by omega) (hP _ _ _ ?_)
    -- ret 17 lv=0:n st=n
    exact ⟨rfl, rfl, by rw [show isDig c = false from decide_eq_false (by omega)]; rfl⟩
  · refine aw_iload_n (pc := 6) X d_Mo_isDigit_6 (by rfl) ?_
    refine aw_bipushN (pc := 7) X 57 d_Mo_isDigit_7 (by decide) ?_
    refine aw_icmp_gtN (pc := 9) X (tgt := 16) d_Mo_isDigit_9 (by rfl) (by omega) (by omega) (fun h9 => ?_) (fun h9 => ?_)
    -- br 9 lv=0:n st=
    · refine aw_iconstN (pc := 16) X 0 d_Mo_isDigit_16 (by decide) ?_
      refine aw_zret Y X rfl (by decide +kernel) d_Mo_isDigit_17 (by omega) (by omega) (hP _ _ _ ?_)
      -- ret 17 lv=0:n st=n
      exact ⟨rfl, rfl, by rw [show isDig c = false from decide_eq_false (by omega)]; rfl⟩
    · refine aw_iconstN (pc := 12) X 1 d_Mo_isDigit_12 (by decide) ?_
      refine aw_goto (pc := 13) X (tgt := 17) d_Mo_isDigit_13 (by rfl) ?_
      refine aw_zret Y X rfl (by decide +kernel) d_Mo_isDigit_17 (by omega) (by omega) (hP _ _ _ ?_)
      -- ret 17 lv=0:n st=n
      exact ⟨rfl, rfl, by rw [show isDig c = true from decide_eq_true (by omega)]; rfl⟩
theorem c_Mo_isDigitN : AC G y_Mo_isDigit b_Mo_isDigit 1 (some .boolean) d false [.int (-1)] nx w 0 0 (fun r w' nx' => nx' = nx ∧ w' = w ∧ r = some (.int (nI 0))) := by
  refine AC.ofW (by decide) (Nat.le_of_ble_eq_true rfl) ?_
  intro E P hP Y X
  have X : aw_X G "RescanDeskModel" b_Mo_isDigit 1 (some .boolean) "isDigit" _ _ _ _ _ E := X
  refine AW.eql (lv' := [(0, _)]) (by rfl) ?_
  refine aw_iload_n (pc := 0) X d_Mo_isDigit_0 (by rfl) ?_
  refine aw_bipushN (pc := 1) X 48 d_Mo_isDigit_1 (by decide) ?_
  refine aw_icmp_lt (pc := 3) X (tgt := 16) d_Mo_isDigit_3 (by rfl) (fun h3 => ?_) (fun h3 => ?_)
  -- br 3 lv=0:i st=
  · refine aw_iconstN (pc := 16) X 0 d_Mo_isDigit_16 (by decide) ?_
    refine aw_zret Y X rfl (by decide +kernel) d_Mo_isDigit_17 (by omega) (by omega) (hP _ _ _ ?_)
    -- ret 17 lv=0:i st=n
    exact ⟨rfl, rfl, rfl⟩
  · exact absurd (show (-1 : Int32) < nI 48 by decide) h3
theorem c_Mo_isDigitO {o : Option Nat} (ho : ∀ c, o = some c → c < 65536) : AC G y_Mo_isDigit b_Mo_isDigit 1 (some .boolean) d false [.int (pV o)] nx w 0 0 (fun r w' nx' => nx' = nx ∧ w' = w ∧ r = some (.int (nI (bN (isDigO o))))) := by
  cases o with
  | none => exact c_Mo_isDigitN
  | some c => exact c_Mo_isDigit (ho c rfl)
theorem s_Mo_stop {e : Nat} (hnx : 442 ≤ nx) (he : m 28 ≤ 6) (hM : hMo G w p m A V) : AC G y_Mo_stop b_Mo_stop 2 none d false [rf G 418, .int (nI e)] nx w 0 0 (mq G nx w (fun r p' m' A' V' => r = none ∧ p' = p ∧ A' = A ∧ V' = V ∧ m' = (if m 28 = 0 then mu m 28 e else m))) := by
  refine AC.ofW (by decide) (Nat.le_of_ble_eq_true rfl) ?_
  intro E P hP Y X
  have X : aw_X G "RescanDeskModel" b_Mo_stop 2 none "stop" _ _ _ _ _ E := X
  refine AW.eql (lv' := [(0, _), (1, _)]) (by rfl) ?_
  have hf : fr 418 442 w w := fr.refl _ _ _
  refine aw_aload_nR (pc := 0) X d_Mo_stop_0 (by rfl) ?_
  refine gm_28 (pc := 1) X hM (by omega) d_Mo_stop_1 ?_
  refine aw_if_neN (pc := 4) X (tgt := 12) d_Mo_stop_4 (by rfl) (by omega) (fun h4 => ?_) (fun h4 => ?_)
  -- br 4 lv=0:r,1:n st=
  · refine aw_vret Y X rfl d_Mo_stop_12 (by omega) (by omega) (hP _ _ _ ?_)
    -- ret 12 lv=0:r,1:n st=
    exact ⟨rfl, hf, _, _, _, _, hM, rfl, rfl, rfl, rfl, by rw [if_neg h4]⟩
  · refine aw_aload_nR (pc := 7) X d_Mo_stop_7 (by rfl) ?_
    refine aw_iload_n (pc := 8) X d_Mo_stop_8 (by rfl) ?_
    refine pm_28 (pc := 9) X hM hf (by omega) d_Mo_stop_9 (fun w hM hf => ?_)
    refine aw_vret Y X rfl d_Mo_stop_12 (by omega) (by omega) (hP _ _ _ ?_)
    -- ret 12 lv=0:r,1:n st=
    exact ⟨rfl, hf, _, _, _, _, hM, rfl, rfl, rfl, rfl, by rw [if_pos h4]⟩
theorem s_Mo_next {k : Nat} {F : List Nat} (hnx : 442 ≤ nx) (hk : k < 2 ^ 30) (hF : RF (m 3) (A 420) F) (hM : hMo G w p m A V) : AC G y_Mo_next b_Mo_next 2 (some .int) d false [rf G 418, .int (nI k)] nx w 0 0 (fun r w' nx' => nx' = nx ∧ w' = w ∧ r = some (.int (pV F[k]?))) := by
  obtain ⟨f1, f2, f3⟩ := hF
  refine AC.ofW (by decide) (Nat.le_of_ble_eq_true rfl) ?_
  intro E P hP Y X
  have X : aw_X G "RescanDeskModel" b_Mo_next 2 (some .int) "next" _ _ _ _ _ E := X
  refine AW.eql (lv' := [(0, _), (1, _)]) (by rfl) ?_
  refine aw_iload_n (pc := 0) X d_Mo_next_0 (by rfl) ?_
  refine aw_aload_nR (pc := 1) X d_Mo_next_1 (by rfl) ?_
  refine gm_3 (pc := 2) X hM (by omega) d_Mo_next_2 ?_
  refine aw_icmp_geN (pc := 5) X (tgt := 24) d_Mo_next_5 (by rfl) (by omega) (by omega) (fun h5 => ?_) (fun h5 => ?_)
  -- br 5 lv=0:r,1:n st=
  · refine aw_iconst (pc := 24) X (v := -1) d_Mo_next_24 (by decide) ?_
    refine aw_iret Y X rfl d_Mo_next_25 (by omega) (by omega) (hP _ _ _ ?_)
    -- ret 25 lv=0:r,1:n st=i
    exact ⟨rfl, rfl, by rw [List.getElem?_eq_none_iff.mpr (by omega)]; rfl⟩
  · have e := f3 k (by omega)
    refine aw_aload_nR (pc := 8) X d_Mo_next_8 (by rfl) ?_
    refine gm_4 (pc := 9) X hM (by omega) d_Mo_next_9 ?_
    refine aw_aload_nR (pc := 12) X d_Mo_next_12 (by rfl) ?_
    refine gm_3 (pc := 13) X hM (by omega) d_Mo_next_13 ?_
    refine aw_iconstN (pc := 16) X 1 d_Mo_next_16 (by decide) ?_
    refine aw_isubN (pc := 17) X d_Mo_next_17 (by omega) ?_
    refine aw_iload_n (pc := 18) X d_Mo_next_18 (by rfl) ?_
    refine aw_isubN (pc := 19) X d_Mo_next_19 (by omega) ?_
    refine aw_caldN (pc := 20) X 420 0 (by omega) hM.a420 (by rfl) (by omega) (by decide) d_Mo_next_20 ?_
    refine aw_goto (pc := 21) X (tgt := 25) d_Mo_next_21 (by rfl) ?_
    refine aw_iret Y X rfl d_Mo_next_25 (by omega) (by omega) (hP _ _ _ ?_)
    -- ret 25 lv=0:r,1:n st=n
    refine ⟨rfl, rfl, ?_⟩
    rw [getD_some (by omega), e, pV_some, f1]
theorem s_Mo_thrown (hnx : 442 ≤ nx) (hM : hMo G w p m A V) : AC G y_Mo_thrown b_Mo_thrown 1 (some .int) d false [rf G 418] nx w 0 0 (fun r w' nx' => nx' = nx ∧ w' = w ∧ r = some (.int (nI (m 0)))) := by
  refine AC.ofW (by decide) (Nat.le_of_ble_eq_true rfl) ?_
  intro E P hP Y X
  have X : aw_X G "RescanDeskModel" b_Mo_thrown 1 (some .int) "thrown" _ _ _ _ _ E := X
  refine AW.eql (lv' := [(0, _)]) (by rfl) ?_
  refine aw_aload_nR (pc := 0) X d_Mo_thrown_0 (by rfl) ?_
  refine gm_0 (pc := 1) X hM (by omega) d_Mo_thrown_1 ?_
  refine aw_iret Y X rfl d_Mo_thrown_4 (by omega) (by omega) (hP _ _ _ ?_)
  -- ret 4 lv=0:r st=n
  exact ⟨rfl, rfl, rfl⟩
theorem s_Mo_type {x : Nat} {st : Nat × Nat} {tx : List Nat} {σ : SQ} (hnx : 442 ≤ nx) (hx : x < 65536) (hR : RM p m A tx σ st) (hM : hMo G w p m A V) : AC G y_Mo_type b_Mo_type 2 (some .boolean) d false [rf G 418, .int (nI x)] nx w 0 0 (mq G nx w (fun r p' m' A' V' => r = some (.int (nI (bN (decide (tx.length < 300))))) ∧ RM p' m' A' ((tx ++ [x]).take 300) σ (st.1, 0))) := by
  obtain ⟨⟨t1, t2, t3⟩, r2, r3, r4, r5, r6, r7, r8, r9⟩ := hR
  refine AC.ofW (by decide) (Nat.le_of_ble_eq_true rfl) ?_
  intro E P hP Y X
  have X : aw_X G "RescanDeskModel" b_Mo_type 2 (some .boolean) "type" _ _ _ _ _ E := X
  refine AW.eql (lv' := [(0, _), (1, _)]) (by rfl) ?_
  have hf : fr 418 442 w w := fr.refl _ _ _
  refine aw_aload_nR (pc := 0) X d_Mo_type_0 (by rfl) ?_
  refine aw_iconstN (pc := 1) X 0 d_Mo_type_1 (by decide) ?_
  refine pm_0 (pc := 2) X hM hf (by omega) d_Mo_type_2 (fun w hM hf => ?_)
  refine aw_aload_nR (pc := 5) X d_Mo_type_5 (by rfl) ?_
  refine gm_1 (pc := 6) X hM (by omega) d_Mo_type_6 ?_
  try simp only [mu, au, reduceIte, Nat.reduceEqDiff]
  refine aw_sipushN (pc := 9) X 300 d_Mo_type_9 (by decide) ?_
  refine aw_icmp_neN (pc := 12) X (tgt := 17) d_Mo_type_12 (by rfl) (by omega) (by omega) (fun h12 => ?_) (fun h12 => ?_)
  -- br 12 lv=0:r,1:n st=
  · refine aw_aload_nR (pc := 17) X d_Mo_type_17 (by rfl) ?_
    refine gm_2 (pc := 18) X hM (by omega) d_Mo_type_18 ?_
    refine aw_aload_nR (pc := 21) X d_Mo_type_21 (by rfl) ?_
    refine gm_1 (pc := 22) X hM (by omega) d_Mo_type_22 ?_
    try simp only [mu, au, reduceIte, Nat.reduceEqDiff]
    refine aw_iload_n (pc := 25) X d_Mo_type_25 (by rfl) ?_
    refine sm_419 (pc := 26) X hM hf (by omega) (by omega) (by first | omega | exact hM.b435 _ | exact hM.b420 _ | exact hM.b421 _ | exact hM.b424 _ | exact hM.b426 _ | exact hM.b429 _ | exact hM.b436 _ | exact hM.b438 _ | exact hM.b419 _ | exact hM.b441 _) d_Mo_type_26 (fun w hM hf => ?_)
    refine aw_aload_nR (pc := 27) X d_Mo_type_27 (by rfl) ?_
    refine aw_dup (pc := 28) X d_Mo_type_28 (by rfl) ?_
    refine gm_1 (pc := 29) X hM (by omega) d_Mo_type_29 ?_
    try simp only [mu, au, reduceIte, Nat.reduceEqDiff]
    refine aw_iconstN (pc := 32) X 1 d_Mo_type_32 (by decide) ?_
    refine aw_iaddN (pc := 33) X d_Mo_type_33 ?_
    refine pm_1 (pc := 34) X hM hf (by omega) d_Mo_type_34 (fun w hM hf => ?_)
    refine aw_iconstN (pc := 37) X 1 d_Mo_type_37 (by decide) ?_
    refine aw_zret Y X rfl (by decide +kernel) d_Mo_type_38 (by omega) (by omega) (hP _ _ _ ?_)
    -- ret 38 lv=0:r,1:n st=n
    refine ⟨rfl, hf, _, _, _, _, hM, by rw [decide_eq_true (show tx.length < 300 by omega)]; rfl, ⟨?_, ?_, ?_⟩, r2, r3, r4, r5, r6, r7, ⟨r8.1, rfl⟩, r9⟩
    · show m 1 + 1 = _
      rw [List.length_take, List.length_append]
      simp
      omega
    · rw [List.length_take]; omega
    · rw [List.take_of_length_le (by simp; omega), List.length_append]
      show tx ++ [x] = sl (aw_un (A 419) (m 1) x) 0 (tx.length + 1)
      rw [sl_app, Nat.zero_add, sl_cons, sl_0, ← t1, aw_un_eq]
      congr 1
      rw [t1]
      exact t3.trans (sl_congr fun i hi => by rw [aw_un_ne _ _ (by omega)])
  · refine aw_iconstN (pc := 15) X 0 d_Mo_type_15 (by decide) ?_
    refine aw_zret Y X rfl (by decide +kernel) d_Mo_type_16 (by omega) (by omega) (hP _ _ _ ?_)
    -- ret 16 lv=0:r,1:n st=n
    have : (tx ++ [x]).take 300 = tx := by rw [List.take_append_of_le_length (by omega), List.take_of_length_le (by omega)]
    refine ⟨rfl, hf, _, _, _, _, hM, by rw [decide_eq_false (show ¬ tx.length < 300 by omega)]; rfl, ?_⟩
    rw [this]
    exact ⟨⟨t1, t2, t3⟩, r2, r3, r4, r5, r6, r7, ⟨r8.1, rfl⟩, r9⟩
theorem s_Mo_clear {st : Nat × Nat} {tx : List Nat} {σ : SQ} (hnx : 442 ≤ nx) (hR : RM p m A tx σ st) (hM : hMo G w p m A V) : AC G y_Mo_clear b_Mo_clear 2 (some .int) d false [rf G 418] nx w 0 0 (mq G nx w (fun r p' m' A' V' => r = some (.int (nI tx.length)) ∧ RM p' m' A' [] σ (st.1, 0))) := by
  obtain ⟨⟨t1, t2, t3⟩, r2, r3, r4, r5, r6, r7, r8, r9⟩ := hR
  refine AC.ofW (by decide) (Nat.le_of_ble_eq_true rfl) ?_
  intro E P hP Y X
  have X : aw_X G "RescanDeskModel" b_Mo_clear 2 (some .int) "clear" _ _ _ _ _ E := X
  refine AW.eql (lv' := [(0, _)]) (by rfl) ?_
  have hf : fr 418 442 w w := fr.refl _ _ _
  refine aw_aload_nR (pc := 0) X d_Mo_clear_0 (by rfl) ?_
  refine aw_iconstN (pc := 1) X 0 d_Mo_clear_1 (by decide) ?_
  refine pm_0 (pc := 2) X hM hf (by omega) d_Mo_clear_2 (fun w hM hf => ?_)
  refine aw_aload_nR (pc := 5) X d_Mo_clear_5 (by rfl) ?_
  refine gm_1 (pc := 6) X hM (by omega) d_Mo_clear_6 ?_
  try simp only [mu, au, reduceIte, Nat.reduceEqDiff]
  refine aw_istore_n (pc := 9) X (lv' := [(1, _), (0, _)]) d_Mo_clear_9 (by decide) (by rfl) ?_
  refine aw_aload_nR (pc := 10) X d_Mo_clear_10 (by rfl) ?_
  refine aw_iconstN (pc := 11) X 0 d_Mo_clear_11 (by decide) ?_
  refine pm_1 (pc := 12) X hM hf (by omega) d_Mo_clear_12 (fun w hM hf => ?_)
  refine aw_iload_n (pc := 15) X d_Mo_clear_15 (by rfl) ?_
  refine aw_iret Y X rfl d_Mo_clear_16 (by omega) (by omega) (hP _ _ _ ?_)
  -- ret 16 lv=1:n,0:r st=n
  exact ⟨rfl, hf, _, _, _, _, hM, by rw [t1], ⟨rfl, Nat.zero_le _, rfl⟩, r2, r3, r4, r5, r6, r7, ⟨r8.1, rfl⟩, r9⟩
end

