/-! RescanDesk.count; output, where its numbers are right -/
theorem i32_nat {x : Int32} (h : 0 ≤ x.toInt) : ∃ k, k < 2 ^ 31 ∧ x = nI k := by
  have h2 : x.toInt < 2 ^ 31 := Int32.toInt_lt x
  refine ⟨x.toInt.toNat, by omega, ?_⟩
  apply Int32.toInt_inj.mp
  rw [nI_toInt (by omega)]
  omega
/-- what a count answers -/
def cntV (x : Int32) (σ : SQ) (st : Nat) : Int32 :=
  if 0 ≤ x.toInt ∧ x.toInt < 4 then nI (σ.1.2.2.1 x.toInt.toNat).length
  else if x.toInt = 4 then nI σ.1.2.2.2.length
  else if x.toInt = 5 then nI (mcount σ.1.2.2.2 σ.1.2.2.2.length)
  else if x.toInt = 6 then nI st
  else if x.toInt = 7 then nI σ.2.2.2
  else if x.toInt = 8 then nI σ.1.1.length
  else if x.toInt = 9 then pV σ.1.2.1
  else -1
section
variable {G : aw_G} {nx d : Nat} {w : Nat → va_E} {tx : List Nat} {σ : SQ} {rd : Value} {st : Nat}
theorem s_Rd_count {x : Int32} (hnx : 418 ≤ nx) (hd : 3 ≤ d) (h : hRd G w tx σ rd st) : AC G y_Rd_count b_Rd_count 2 (some .int) d false [rf G 0, .int x] nx w 0 0 (fun r w' nx' => nx' = nx ∧ w' = w ∧ r = some (.int (cntV x σ st))) := by
  obtain ⟨a1, a2, ⟨s, a3⟩, a4⟩ := h
  have b2 := a4.2.1
  have r0 : hRo G w σ.1.2.1 σ.1.2.2.1 := a3.2.1
  have r0o := r0.1
  have a33 : hTa G w σ.1.2.2.2 := a3.2.2.1
  obtain ⟨fl, f, fr1, -⟩ := id (show hFr G w σ.1.1 from a3.1)
  obtain ⟨nT, t15⟩ : ∃ n, w 15 = aObj 4 [rf G 16, .int (nI n)] ∧ n = σ.1.2.2.2.length := by obtain ⟨fa, g, z⟩ := a33; exact ⟨_, z.2.1, rfl⟩
  obtain ⟨t15, rfl⟩ := t15
  obtain ⟨g6, r6, r6q⟩ := r0.2.1
  refine AC.ofW (by decide) (Nat.le_of_ble_eq_true rfl) ?_
  intro E P hP Y X
  have X : aw_X G "RescanDesk" b_Rd_count 2 (some .int) "count" _ _ _ _ _ E := X
  refine AW.eql (lv' := [(0, _), (1, _)]) (by rfl) ?_
  have Z : ¬ (0 ≤ x.toInt ∧ x.toInt < 4) → AW G E 2 nx 0 0 w 22 [(0, rf G 0), (1, .int x)] [] := by
    intro hz
    refine aw_iload_n (pc := 22) X d_Rd_count_22 (by rfl) ?_
    -- stop 23 lv=0:r,1:i st=i
    by_cases k4 : x.toInt = 4
    · refine aw_tableIn (pc := 23) X (off := 37) (tgt := 60) d_Rd_count_23 (by rw [k4]; decide) (by rw [k4]; decide) (by rw [k4]; decide) (by rfl) ?_
      refine aw_aload_nR (pc := 60) X d_Rd_count_60 (by rfl) ?_
      refine aw_getO (pc := 61) X _ 3 (by omega) (by (repeat (first | rw [aw_up_eq] | rw [aw_up_ne _ _ (by first | assumption | omega)])) <;> first | assumption | rfl) (by rfl) in_Rd (by decide) k_375 (by rfl) d_Rd_count_61 ?_
      refine aw_getNO (pc := 64) X _ 1 (by omega) (by (repeat (first | rw [aw_up_eq] | rw [aw_up_ne _ _ (by first | assumption | omega)])) <;> first | assumption | rfl) (by rfl) in_Ta (by decide) k_255 (by rfl) d_Rd_count_64 ?_
      refine aw_iret Y X rfl d_Rd_count_67 (by omega) (by omega) (hP _ _ _ ?_)
      -- ret 67 lv=0:r,1:i st=n
      exact ⟨rfl, rfl, by rw [cntV, if_neg hz, if_pos k4]⟩
    by_cases k5 : x.toInt = 5
    · refine aw_tableIn (pc := 23) X (off := 45) (tgt := 68) d_Rd_count_23 (by rw [k5]; decide) (by rw [k5]; decide) (by rw [k5]; decide) (by rfl) ?_
      refine aw_aload_nR (pc := 68) X d_Rd_count_68 (by rfl) ?_
      refine aw_getO (pc := 69) X _ 3 (by omega) (by (repeat (first | rw [aw_up_eq] | rw [aw_up_ne _ _ (by first | assumption | omega)])) <;> first | assumption | rfl) (by rfl) in_Rd (by decide) k_375 (by rfl) d_Rd_count_69 ?_
      -- invokevirtual 72 lv=0:r,1:i st=r
      refine aw_callV (pc := 72) X _ (s_Ta_macros (d := 2) (by omega) (by omega) a33) q_Ta_macros k_411 k_412 k_413 (by omega) t15 (by rfl) d_Rd_count_72 (by omega) (Nat.le_of_ble_eq_true rfl) ⟨by omega, by omega⟩ (fun h => by cases h) (fun r w2 nx2 hp => ?_)
      obtain ⟨rfl, rfl, rfl⟩ := hp
      refine aw_iret Y X rfl d_Rd_count_75 (by omega) (by omega) (hP _ _ _ ?_)
      -- ret 75 lv=0:r,1:i st=n
      exact ⟨rfl, rfl, by rw [cntV, if_neg hz, if_neg k4, if_pos k5]⟩
    by_cases k6 : x.toInt = 6
    · refine aw_tableIn (pc := 23) X (off := 53) (tgt := 76) d_Rd_count_23 (by rw [k6]; decide) (by rw [k6]; decide) (by rw [k6]; decide) (by rfl) ?_
      refine aw_aload_nR (pc := 76) X d_Rd_count_76 (by rfl) ?_
      refine aw_getO (pc := 77) X _ 7 (by omega) (by (repeat (first | rw [aw_up_eq] | rw [aw_up_ne _ _ (by first | assumption | omega)])) <;> first | assumption | rfl) (by rfl) in_Rd (by decide) k_379 (by rfl) d_Rd_count_77 ?_
      refine aw_iret Y X rfl d_Rd_count_80 (by omega) (by omega) (hP _ _ _ ?_)
      -- ret 80 lv=0:r,1:i st=n
      exact ⟨rfl, rfl, by rw [cntV, if_neg hz, if_neg k4, if_neg k5, if_pos k6]⟩
    by_cases k7 : x.toInt = 7
    · refine aw_tableIn (pc := 23) X (off := 58) (tgt := 81) d_Rd_count_23 (by rw [k7]; decide) (by rw [k7]; decide) (by rw [k7]; decide) (by rfl) ?_
      refine aw_aload_nR (pc := 81) X d_Rd_count_81 (by rfl) ?_
      refine aw_getO (pc := 82) X _ 4 (by omega) (by (repeat (first | rw [aw_up_eq] | rw [aw_up_ne _ _ (by first | assumption | omega)])) <;> first | assumption | rfl) (by rfl) in_Rd (by decide) k_376 (by rfl) d_Rd_count_82 ?_
      refine aw_getNO (pc := 85) X _ 4 (by omega) (by (repeat (first | rw [aw_up_eq] | rw [aw_up_ne _ _ (by first | assumption | omega)])) <;> first | assumption | rfl) (by rfl) in_Cs (by decide) k_315 (by rfl) d_Rd_count_85 ?_
      refine aw_iret Y X rfl d_Rd_count_88 (by omega) (by omega) (hP _ _ _ ?_)
      -- ret 88 lv=0:r,1:i st=n
      exact ⟨rfl, rfl, by rw [cntV, if_neg hz, if_neg k4, if_neg k5, if_neg k6, if_pos k7]⟩
    by_cases k8 : x.toInt = 8
    · refine aw_tableIn (pc := 23) X (off := 66) (tgt := 89) d_Rd_count_23 (by rw [k8]; decide) (by rw [k8]; decide) (by rw [k8]; decide) (by rfl) ?_
      refine aw_aload_nR (pc := 89) X d_Rd_count_89 (by rfl) ?_
      refine aw_getO (pc := 90) X _ 1 (by omega) (by (repeat (first | rw [aw_up_eq] | rw [aw_up_ne _ _ (by first | assumption | omega)])) <;> first | assumption | rfl) (by rfl) in_Rd (by decide) k_373 (by rfl) d_Rd_count_90 ?_
      -- invokevirtual 93 lv=0:r,1:i st=r
      refine aw_callV (pc := 93) X _ (c_Fr_length (d := 0) (a := 3) (n := 600 - σ.1.1.length) (by omega) (by omega) fr1) q_Fr_length k_423 k_424 k_425 (by omega) fr1 (by rfl) d_Rd_count_93 (by omega) (Nat.le_of_ble_eq_true rfl) ⟨by omega, by omega⟩ (fun h => by cases h) (fun r w2 nx2 hp => ?_)
      obtain ⟨rfl, rfl, rfl⟩ := hp
      rw [show 600 - (600 - σ.1.1.length) = σ.1.1.length by omega]
      refine aw_iret Y X rfl d_Rd_count_96 (by omega) (by omega) (hP _ _ _ ?_)
      -- ret 96 lv=0:r,1:i st=n
      exact ⟨rfl, rfl, by rw [cntV, if_neg hz, if_neg k4, if_neg k5, if_neg k6, if_neg k7, if_pos k8]⟩
    by_cases k9 : x.toInt = 9
    · refine aw_tableIn (pc := 23) X (off := 74) (tgt := 97) d_Rd_count_23 (by rw [k9]; decide) (by rw [k9]; decide) (by rw [k9]; decide) (by rfl) ?_
      refine aw_aload_nR (pc := 97) X d_Rd_count_97 (by rfl) ?_
      refine aw_getO (pc := 98) X _ 2 (by omega) (by (repeat (first | rw [aw_up_eq] | rw [aw_up_ne _ _ (by first | assumption | omega)])) <;> first | assumption | rfl) (by rfl) in_Rd (by decide) k_374 (by rfl) d_Rd_count_98 ?_
      refine aw_getNO (pc := 101) X _ 1 (by omega) (by (repeat (first | rw [aw_up_eq] | rw [aw_up_ne _ _ (by first | assumption | omega)])) <;> first | assumption | rfl) (by rfl) in_Ro (by decide) k_153 (by rfl) d_Rd_count_101 ?_
      refine aw_iret Y X rfl d_Rd_count_104 (by omega) (by omega) (hP _ _ _ ?_)
      -- ret 104 lv=0:r,1:i st=i
      exact ⟨rfl, rfl, by rw [cntV, if_neg hz, if_neg k4, if_neg k5, if_neg k6, if_neg k7, if_neg k8, if_pos k9]⟩
    refine aw_tableOut (pc := 23) X (tgt := 105) d_Rd_count_23 (by omega) (by rfl) ?_
    refine aw_iconst (pc := 105) X (v := -1) d_Rd_count_105 (by decide) ?_
    refine aw_iret Y X rfl d_Rd_count_106 (by omega) (by omega) (hP _ _ _ ?_)
    -- ret 106 lv=0:r,1:i st=i
    exact ⟨rfl, rfl, by rw [cntV, if_neg hz, if_neg k4, if_neg k5, if_neg k6, if_neg k7, if_neg k8, if_neg k9]⟩
  by_cases hz : 0 ≤ x.toInt ∧ x.toInt < 4
  · obtain ⟨k, hk, rfl⟩ := i32_nat hz.1
    rw [nI_toInt hk] at hz
    have hk4 : k < 4 := by omega
    have hq := r6q k hk4
    have hrow := (r0.2.2.1 k hk4).obj
    refine aw_iload_n (pc := 0) X d_Rd_count_0 (by rfl) ?_
    refine aw_if_ltN (pc := 1) X (tgt := 22) d_Rd_count_1 (by rfl) (by omega) ?_
    refine aw_iload_n (pc := 4) X d_Rd_count_4 (by rfl) ?_
    refine aw_iconstN (pc := 5) X 4 d_Rd_count_5 (by decide) ?_
    refine aw_icmp_geN (pc := 6) X (tgt := 22) d_Rd_count_6 (by rfl) (by omega) (by omega) (fun h6 => ?_) (fun h6 => ?_)
    -- br 6 lv=0:r,1:n st=
    · omega
    · refine aw_aload_nR (pc := 9) X d_Rd_count_9 (by rfl) ?_
      refine aw_getO (pc := 10) X _ 2 (by omega) (by (repeat (first | rw [aw_up_eq] | rw [aw_up_ne _ _ (by first | assumption | omega)])) <;> first | assumption | rfl) (by rfl) in_Rd (by decide) k_374 (by rfl) d_Rd_count_10 ?_
      refine aw_getNO (pc := 13) X _ 0 (by omega) (by (repeat (first | rw [aw_up_eq] | rw [aw_up_ne _ _ (by first | assumption | omega)])) <;> first | assumption | rfl) (by rfl) in_Ro (by decide) k_151 (by rfl) d_Rd_count_13 ?_
      refine aw_iload_n (pc := 16) X d_Rd_count_16 (by rfl) ?_
      refine aw_aaldN (pc := 17) X _ 4 (by omega) (by (repeat (first | rw [aw_up_eq] | rw [aw_up_ne _ _ (by first | assumption | omega)])) <;> first | assumption | rfl) (by rfl) (by omega) (by omega) (by assumption) d_Rd_count_17 ?_
      refine aw_getNO (pc := 18) X _ 1 (by omega) (by (repeat (first | rw [aw_up_eq] | rw [aw_up_ne _ _ (by first | assumption | omega)])) <;> first | assumption | rfl) (by rfl) in_Tx (by decide) k_113 (by rfl) d_Rd_count_18 ?_
      refine aw_iret Y X rfl d_Rd_count_21 (by omega) (by omega) (hP _ _ _ ?_)
      -- ret 21 lv=0:r,1:n st=n
      refine ⟨rfl, rfl, ?_⟩
      rw [cntV, if_pos (by rw [nI_toInt hk]; omega), nI_toInt hk]
      rfl
  · refine aw_iload_n (pc := 0) X d_Rd_count_0 (by rfl) ?_
    refine aw_if_lt (pc := 1) X (tgt := 22) d_Rd_count_1 (by rfl) (fun h1 => ?_) (fun h1 => ?_)
    -- br 1 lv=0:r,1:i st=
    · exact Z hz
    · refine aw_iload_n (pc := 4) X d_Rd_count_4 (by rfl) ?_
      refine aw_iconstN (pc := 5) X 4 d_Rd_count_5 (by decide) ?_
      refine aw_icmp_ge (pc := 6) X (tgt := 22) d_Rd_count_6 (by rfl) (fun h6 => ?_) (fun h6 => ?_)
      -- br 6 lv=0:r,1:i st=
      · exact Z hz
      · exfalso
        rw [Int32.lt_iff_toInt_lt] at h1
        rw [Int32.le_iff_toInt_le] at h6
        rw [nI_toInt (by decide)] at h6
        have : (0 : Int32).toInt = 0 := by decide
        omega
theorem narC {c : Nat} (h : c < 65536) : narrow .char (.int (nI c)) = .int (nI c) := congrArg Value.int (aw_nar h)
theorem s_Rd_output {r k : Nat} (hnx : 418 ≤ nx) (hr : r < 4) (hk : k < (σ.1.2.2.1 r).length) (h : hRd G w tx σ rd st) : AC G y_Rd_output b_Rd_output 4 (some .char) d false [rf G 0, .int (nI r), .int (nI k)] nx w 0 0 (fun v w' nx' => nx' = nx ∧ w' = w ∧ v = some (.int (nI ((σ.1.2.2.1 r).getD k 0))) ∧ (σ.1.2.2.1 r).getD k 0 < 65536) := by
  obtain ⟨a1, a2, ⟨s, a3⟩, a4⟩ := h
  have r0 : hRo G w σ.1.2.1 σ.1.2.2.1 := a3.2.1
  have r0o := r0.1
  obtain ⟨g6, r6, r6q⟩ := r0.2.1
  have hq := r6q r hr
  obtain ⟨g, t1, t2, t3, t4, t5⟩ := r0.2.2.1 r hr
  have e : (σ.1.2.2.1 r).getD k 0 = g k := by rw [t3, sl_getD hk, Nat.zero_add]
  have e5 := t5 k
  refine AC.ofW (by decide) (Nat.le_of_ble_eq_true rfl) ?_
  intro E P hP Y X
  have X : aw_X G "RescanDesk" b_Rd_output 4 (some .char) "output" _ _ _ _ _ E := X
  refine AW.eql (lv' := [(0, _), (1, _), (2, _)]) (by rfl) ?_
  refine aw_iload_n (pc := 0) X d_Rd_output_0 (by rfl) ?_
  refine aw_if_ltN (pc := 1) X (tgt := 9) d_Rd_output_1 (by rfl) (by omega) ?_
  refine aw_iload_n (pc := 4) X d_Rd_output_4 (by rfl) ?_
  refine aw_iconstN (pc := 5) X 4 d_Rd_output_5 (by decide) ?_
  refine aw_icmp_ltN (pc := 6) X (tgt := 17) d_Rd_output_6 (by rfl) (by omega) (by omega) (fun h6 => ?_) (fun h6 => ?_)
  -- br 6 lv=0:r,1:n,2:n st=
  · refine aw_aload_nR (pc := 17) X d_Rd_output_17 (by rfl) ?_
    refine aw_getO (pc := 18) X _ 2 (by omega) (by (repeat (first | rw [aw_up_eq] | rw [aw_up_ne _ _ (by first | assumption | omega)])) <;> first | assumption | rfl) (by rfl) in_Rd (by decide) k_374 (by rfl) d_Rd_output_18 ?_
    refine aw_getNO (pc := 21) X _ 0 (by omega) (by (repeat (first | rw [aw_up_eq] | rw [aw_up_ne _ _ (by first | assumption | omega)])) <;> first | assumption | rfl) (by rfl) in_Ro (by decide) k_151 (by rfl) d_Rd_output_21 ?_
    refine aw_iload_n (pc := 24) X d_Rd_output_24 (by rfl) ?_
    refine aw_aaldN (pc := 25) X _ 4 (by omega) (by (repeat (first | rw [aw_up_eq] | rw [aw_up_ne _ _ (by first | assumption | omega)])) <;> first | assumption | rfl) (by rfl) (by omega) (by omega) (by assumption) d_Rd_output_25 ?_
    refine aw_astore_nR (pc := 26) X (lv' := [(3, _), (0, _), (1, _), (2, _)]) d_Rd_output_26 (by decide) (by rfl) ?_
    refine aw_iload_n (pc := 27) X d_Rd_output_27 (by rfl) ?_
    refine aw_if_ltN (pc := 28) X (tgt := 39) d_Rd_output_28 (by rfl) (by omega) ?_
    refine aw_iload_n (pc := 31) X d_Rd_output_31 (by rfl) ?_
    refine aw_aload_nR (pc := 32) X d_Rd_output_32 (by rfl) ?_
    refine aw_getNO (pc := 33) X _ 1 (by omega) (by (repeat (first | rw [aw_up_eq] | rw [aw_up_ne _ _ (by first | assumption | omega)])) <;> first | assumption | rfl) (by rfl) in_Tx (by decide) k_113 (by rfl) d_Rd_output_33 ?_
    refine aw_icmp_ltN (pc := 36) X (tgt := 47) d_Rd_output_36 (by rfl) (by omega) (by omega) (fun h36 => ?_) (fun h36 => ?_)
    -- br 36 lv=3:r,0:r,1:n,2:n st=
    · refine aw_aload_nR (pc := 47) X d_Rd_output_47 (by rfl) ?_
      refine aw_getNO (pc := 48) X _ 0 (by omega) (by (repeat (first | rw [aw_up_eq] | rw [aw_up_ne _ _ (by first | assumption | omega)])) <;> first | assumption | rfl) (by rfl) in_Tx (by decide) k_110 (by rfl) d_Rd_output_48 ?_
      refine aw_iload_n (pc := 51) X d_Rd_output_51 (by rfl) ?_
      refine aw_caldN (pc := 52) X _ 0 (by omega) (by (repeat (first | rw [aw_up_eq] | rw [aw_up_ne _ _ (by first | assumption | omega)])) <;> first | assumption | rfl) (by rfl) (by omega) (by omega) d_Rd_output_52 ?_
      refine aw_zret Y X rfl (narC (t5 k)) d_Rd_output_53 (by omega) (by omega) (hP _ _ _ ?_)
      -- ret 53 lv=3:r,0:r,1:n,2:n st=n
      exact ⟨rfl, rfl, by rw [e], by rw [e]; exact e5⟩
    · omega
  · omega
end

