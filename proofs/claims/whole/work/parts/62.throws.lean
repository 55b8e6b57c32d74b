/-! RescanDesk.run and output, where they throw -/
/-- a contract of a method that throws -/
def ACT (G : aw_G) (y : MethodName) (cc : ByteArray) (nL : Nat) (ret : Option FieldType) (d : Nat) (a : List Value) (nx : Nat) (w : Nat → va_E) (cls : String) : Prop :=
  MetFree G.1 y (headSpec (Cond.code y cc nL ret :: aw_tbl) (aw_R d 1 6)) (fun args U => aw_Pc G false a nx w args U ∧ aw_T G U) (fun _ _ _ _ _ => True) (aw_Qt G nx w cls)
theorem AZ.eql {G : aw_G} {E : aw_E} {nL nx pc : Nat} {w : Nat → va_E} {lv lv' : List (Nat × Value)} {rest : List Value} (h : lv = lv') (k : AZ G E nL nx w pc lv' rest) : AZ G E nL nx w pc lv rest := h ▸ k
theorem ACT.ofW {G : aw_G} {y : MethodName} {cc : ByteArray} {nL : Nat} {ret : Option FieldType} {d : Nat} {a : List Value} {nx : Nat} {w : Nat → va_E} {cls : String} (hy : plainName y.cls = true) (ha : (lg_sl a).length ≤ nL)
    (body : ∀ (E : aw_E), (∀ (t : State) (o : Outcome), t.status = .running → Ended t E.2.2.2.2.2.1 o → aw_Qt G nx w cls E.2.2.2.2.1 E.2.2.1 o t → E.2.2.2.2.2.2.2.2.2 t) → aw_X G y.cls cc nL ret y.name false nx d 1 6 E → (∀ q, ∀ x ∈ E.2.2.2.2.2.2.2.1.exceptionTable.toList, covers x q = false) → aw_T G E.2.2.1 → AZ G E nL nx w 0 (lv_args 0 a) []) : ACT G y cc nL ret d a nx w cls := by
  refine MetFree.of_bodyS (code := cc) (maxLocals := nL) (ret := ret) hy ?_ ?_
  · intro args s m h hn
    obtain ⟨meth, c, h1, h2, h3, h4, h5, h6, -, -⟩ := Cond.code_spec hn (atoms_spec (ws := Cond.code y cc nL ret :: aw_tbl) h _ List.mem_cons_self)
    exact ⟨meth, c, h1, h2, h3, h4, h5, h6⟩
  · intro p e s m args below meth c s₁ B hml hP _
    obtain ⟨⟨rfl, hsz, hP, hK, hKs, hbs⟩, hT⟩ := hP
    have hh0 : s₁.heap = s.heap := by rw [B.state]; rfl
    have hown : s.vm.findClass y.cls = some m.cls := findClass_of_methodNamed B.named
    have hin : meth.name = y.name := (name_of_methodNamed B.named B.method).1
    have hl := lv_entry a (n := nL) ha
    have hcode : (Cond.code y cc nL ret).before a.toArray s = true := atoms_spec (ws := Cond.code y cc nL ret :: aw_tbl) B.pre _ List.mem_cons_self
    have K : W p G.1 e (aw_R d 1 6) s m a.toArray below meth c s.heap [] 0 0 (fun t => ∃ o, t.status = .running ∧ Ended t below o ∧ aw_Qt G nx w cls a.toArray s o t) (entryFrame m a.toArray nL) := by
      rw [lg_entry_eq]
      exact body (p, e, s, m, a.toArray, below, meth, c, aw_R d 1 6, fun t => ∃ o, t.status = .running ∧ Ended t below o ∧ aw_Qt G nx w cls a.toArray s o t) (fun t o h1 h2 h3 => ⟨o, h1, h2, h3⟩) ⟨B.exec, B.bytes, hml, hown, fun w h => atoms_spec (ws := Cond.code y cc nL ret :: aw_tbl) B.pre w (List.mem_cons_of_mem _ h), B.returns, B.notSynchronized, hin, hK, hKs, hbs, hsz, Nat.le_refl _, Nat.le_refl _, Nat.le_refl _, Nat.le_refl _⟩ (fun q => covers_of_empty (B.noHandlers hcode) q) hT hP _ hl
    obtain ⟨t, a1, o, b1, b2, b3⟩ := K s₁ hh0 (Stand.of_body B)
    exact ⟨t, o, a1, b1, b2, b3⟩
section
variable {G : aw_G} {nx d : Nat} {w : Nat → va_E} {tx : List Nat} {σ : SQ} {rd : Value} {st : Nat}
theorem s_Rd_runT {x : Int32} (hfl : G.1.flags = pinnedFlags ++ [noTraceFlag]) (hd : 10 ≤ d) (hx : ¬ (0 ≤ x.toInt ∧ x.toInt ≤ 5000)) : ACT G y_Rd_run b_Rd_run 3 (some .int) d [rf G 0, .int x] nx w nIAE := by
  refine ACT.ofW (by decide) (Nat.le_of_ble_eq_true rfl) ?_
  intro E hZ X hnh hT0
  have X : aw_X G "RescanDesk" b_Rd_run 3 (some .int) "run" _ _ _ _ _ E := X
  refine AZ.eql (lv' := [(0, _), (1, _)]) (by rfl) ?_
  have T : AZ G E 3 nx w 11 [(0, rf G 0), (1, .int x)] [] := by
    exact az_throw (pc := 11) X hfl (by decide +kernel) thr_IAE hT0 k_435 k_436 k_83 hnh (by omega) d_Rd_run_11 d_Rd_run_14 d_Rd_run_15 d_Rd_run_18 hZ
  refine az_iload_n (pc := 0) X d_Rd_run_0 (by rfl) ?_
  refine az_if_lt (pc := 1) X (tgt := 11) d_Rd_run_1 (by rfl) (fun h1 => ?_) (fun h1 => ?_)
  -- br 1 lv=0:r,1:i st=
  · exact T
  · refine az_iload_n (pc := 4) X d_Rd_run_4 (by rfl) ?_
    refine az_sipushN (pc := 5) X 5000 d_Rd_run_5 (by decide) ?_
    refine az_icmp_le (pc := 8) X (tgt := 19) d_Rd_run_8 (by rfl) (fun h8 => ?_) (fun h8 => ?_)
    -- br 8 lv=0:r,1:i st=
    · refine absurd ⟨?_, ?_⟩ hx
      · have := Int32.not_lt.mp h1
        rw [Int32.le_iff_toInt_le] at this
        simpa using this
      · rw [Int32.le_iff_toInt_le, nI_toInt (by decide)] at h8
        omega
    · exact T
theorem s_Rd_outT1 {x y : Int32} (hfl : G.1.flags = pinnedFlags ++ [noTraceFlag]) (hd : 10 ≤ d) (hx : ¬ (0 ≤ x.toInt ∧ x.toInt < 4)) : ACT G y_Rd_output b_Rd_output 4 (some .char) d [rf G 0, .int x, .int y] nx w nIAE := by
  refine ACT.ofW (by decide) (Nat.le_of_ble_eq_true rfl) ?_
  intro E hZ X hnh hT0
  have X : aw_X G "RescanDesk" b_Rd_output 4 (some .char) "output" _ _ _ _ _ E := X
  refine AZ.eql (lv' := [(0, _), (1, _), (2, _)]) (by rfl) ?_
  have T : AZ G E 4 nx w 9 [(0, rf G 0), (1, .int x), (2, .int y)] [] := by
    exact az_throw (pc := 9) X hfl (by decide +kernel) thr_IAE hT0 k_435 k_436 k_83 hnh (by omega) d_Rd_output_9 d_Rd_output_12 d_Rd_output_13 d_Rd_output_16 hZ
  refine az_iload_n (pc := 0) X d_Rd_output_0 (by rfl) ?_
  refine az_if_lt (pc := 1) X (tgt := 9) d_Rd_output_1 (by rfl) (fun h1 => ?_) (fun h1 => ?_)
  -- br 1 lv=0:r,1:i,2:i st=
  · exact T
  · refine az_iload_n (pc := 4) X d_Rd_output_4 (by rfl) ?_
    refine az_iconstN (pc := 5) X 4 d_Rd_output_5 (by decide) ?_
    refine az_icmp_lt (pc := 6) X (tgt := 17) d_Rd_output_6 (by rfl) (fun h6 => ?_) (fun h6 => ?_)
    -- br 6 lv=0:r,1:i,2:i st=
    · refine absurd ⟨?_, ?_⟩ hx
      · have := Int32.not_lt.mp h1
        rw [Int32.le_iff_toInt_le] at this
        simpa using this
      · rw [Int32.lt_iff_toInt_lt, nI_toInt (by decide)] at h6
        omega
    · exact T
theorem s_Rd_outT2 {r : Nat} {y : Int32} (hfl : G.1.flags = pinnedFlags ++ [noTraceFlag]) (hnx : 418 ≤ nx) (hd : 10 ≤ d) (hr : r < 4) (hy : ¬ (0 ≤ y.toInt ∧ y.toInt < (σ.1.2.2.1 r).length)) (h : hRd G w tx σ rd st) : ACT G y_Rd_output b_Rd_output 4 (some .char) d [rf G 0, .int (nI r), .int y] nx w nIOB := by
  obtain ⟨a1, a2, ⟨s, a3⟩, a4⟩ := h
  have r0 : hRo G w σ.1.2.1 σ.1.2.2.1 := a3.2.1
  have r0o := r0.1
  obtain ⟨g6, r6, r6q⟩ := r0.2.1
  have hq := r6q r hr
  obtain ⟨g, t1, t2, t3, t4, t5⟩ := r0.2.2.1 r hr
  refine ACT.ofW (by decide) (Nat.le_of_ble_eq_true rfl) ?_
  intro E hZ X hnh hT0
  have X : aw_X G "RescanDesk" b_Rd_output 4 (some .char) "output" _ _ _ _ _ E := X
  refine AZ.eql (lv' := [(0, _), (1, _), (2, _)]) (by rfl) ?_
  have T : AZ G E 4 nx w 39 [(3, rf G (7 + 2 * r)), (0, rf G 0), (1, .int (nI r)), (2, .int y)] [] := by
    exact az_throw (pc := 39) X hfl (by decide +kernel) thr_IOB hT0 k_821 k_822 k_87 hnh (by omega) d_Rd_output_39 d_Rd_output_42 d_Rd_output_43 d_Rd_output_46 hZ
  refine az_iload_n (pc := 0) X d_Rd_output_0 (by rfl) ?_
  refine az_if_ltN (pc := 1) X (tgt := 9) d_Rd_output_1 (by rfl) (by omega) ?_
  refine az_iload_n (pc := 4) X d_Rd_output_4 (by rfl) ?_
  refine az_iconstN (pc := 5) X 4 d_Rd_output_5 (by decide) ?_
  refine az_icmp_ltN (pc := 6) X (tgt := 17) d_Rd_output_6 (by rfl) (by omega) (by omega) (fun h6 => ?_) (fun h6 => ?_)
  -- br 6 lv=0:r,1:n,2:i st=
  · refine az_aload_nR (pc := 17) X d_Rd_output_17 (by rfl) ?_
    refine az_getO (pc := 18) X _ 2 (by omega) (by (repeat (first | rw [aw_up_eq] | rw [aw_up_ne _ _ (by first | assumption | omega)])) <;> first | assumption | rfl) (by rfl) in_Rd (by decide) k_374 (by rfl) d_Rd_output_18 ?_
    refine az_getNO (pc := 21) X _ 0 (by omega) (by (repeat (first | rw [aw_up_eq] | rw [aw_up_ne _ _ (by first | assumption | omega)])) <;> first | assumption | rfl) (by rfl) in_Ro (by decide) k_151 (by rfl) d_Rd_output_21 ?_
    refine az_iload_n (pc := 24) X d_Rd_output_24 (by rfl) ?_
    refine az_aaldN (pc := 25) X _ 4 (by omega) (by (repeat (first | rw [aw_up_eq] | rw [aw_up_ne _ _ (by first | assumption | omega)])) <;> first | assumption | rfl) (by rfl) (by omega) (by omega) (by assumption) d_Rd_output_25 ?_
    refine az_astore_nR (pc := 26) X (lv' := [(3, _), (0, _), (1, _), (2, _)]) d_Rd_output_26 (by decide) (by rfl) ?_
    refine az_iload_n (pc := 27) X d_Rd_output_27 (by rfl) ?_
    refine az_if_lt (pc := 28) X (tgt := 39) d_Rd_output_28 (by rfl) (fun h28 => ?_) (fun h28 => ?_)
    -- br 28 lv=3:r,0:r,1:n,2:i st=
    · exact T
    · refine az_iload_n (pc := 31) X d_Rd_output_31 (by rfl) ?_
      refine az_aload_nR (pc := 32) X d_Rd_output_32 (by rfl) ?_
      refine az_getNO (pc := 33) X _ 1 (by omega) (by (repeat (first | rw [aw_up_eq] | rw [aw_up_ne _ _ (by first | assumption | omega)])) <;> first | assumption | rfl) (by rfl) in_Tx (by decide) k_113 (by rfl) d_Rd_output_33 ?_
      refine az_icmp_lt (pc := 36) X (tgt := 47) d_Rd_output_36 (by rfl) (fun h36 => ?_) (fun h36 => ?_)
      -- br 36 lv=3:r,0:r,1:n,2:i st=
      · refine absurd ⟨?_, ?_⟩ hy
        · have := Int32.not_lt.mp h28
          rw [Int32.le_iff_toInt_le] at this
          simpa using this
        · rw [Int32.lt_iff_toInt_lt, nI_toInt (by omega)] at h36
          omega
      · exact T
  · omega
end

