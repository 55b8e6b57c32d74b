/-! the law's two methods that catch -/
def y_La_run : MethodName := ⟨"RescanDeskLaw", "run", "(LRescanDesk;I[J)I"⟩
abbrev b_La_run : ByteArray := method_3_code
theorem d_La_run_0 : decode b_La_run 0 = .ok (.aload_n 2, 1) := by decide +kernel
theorem d_La_run_1 : decode b_La_run 1 = .ok (.iconst 0, 1) := by decide +kernel
theorem d_La_run_2 : decode b_La_run 2 = .ok (.aload_n 0, 1) := by decide +kernel
theorem d_La_run_3 : decode b_La_run 3 = .ok (.iload_n 1, 1) := by decide +kernel
theorem d_La_run_4 : decode b_La_run 4 = .ok (.invokevirtual 7, 3) := by decide +kernel
theorem d_La_run_7 : decode b_La_run 7 = .ok (.i2l, 1) := by decide +kernel
theorem d_La_run_8 : decode b_La_run 8 = .ok (.lastore, 1) := by decide +kernel
theorem d_La_run_9 : decode b_La_run 9 = .ok (.goto 6, 3) := by decide +kernel
theorem d_La_run_12 : decode b_La_run 12 = .ok (.astore_n 3, 1) := by decide +kernel
theorem d_La_run_13 : decode b_La_run 13 = .ok (.iconst 1, 1) := by decide +kernel
theorem d_La_run_14 : decode b_La_run 14 = .ok (.ireturn, 1) := by decide +kernel
theorem d_La_run_15 : decode b_La_run 15 = .ok (.iconst 0, 1) := by decide +kernel
theorem d_La_run_16 : decode b_La_run 16 = .ok (.ireturn, 1) := by decide +kernel
def y_La_output : MethodName := ⟨"RescanDeskLaw", "output", "(LRescanDesk;II[J)I"⟩
abbrev b_La_output : ByteArray := method_4_code
theorem d_La_output_0 : decode b_La_output 0 = .ok (.aload_n 3, 1) := by decide +kernel
theorem d_La_output_1 : decode b_La_output 1 = .ok (.iconst 0, 1) := by decide +kernel
theorem d_La_output_2 : decode b_La_output 2 = .ok (.aload_n 0, 1) := by decide +kernel
theorem d_La_output_3 : decode b_La_output 3 = .ok (.iload_n 1, 1) := by decide +kernel
theorem d_La_output_4 : decode b_La_output 4 = .ok (.iload_n 2, 1) := by decide +kernel
theorem d_La_output_5 : decode b_La_output 5 = .ok (.invokevirtual 15, 3) := by decide +kernel
theorem d_La_output_8 : decode b_La_output 8 = .ok (.i2l, 1) := by decide +kernel
theorem d_La_output_9 : decode b_La_output 9 = .ok (.lastore, 1) := by decide +kernel
theorem d_La_output_10 : decode b_La_output 10 = .ok (.goto 11, 3) := by decide +kernel
theorem d_La_output_13 : decode b_La_output 13 = .ok (.astore 4, 2) := by decide +kernel
theorem d_La_output_15 : decode b_La_output 15 = .ok (.iconst 1, 1) := by decide +kernel
theorem d_La_output_16 : decode b_La_output 16 = .ok (.ireturn, 1) := by decide +kernel
theorem d_La_output_17 : decode b_La_output 17 = .ok (.astore 4, 2) := by decide +kernel
theorem d_La_output_19 : decode b_La_output 19 = .ok (.iconst 2, 1) := by decide +kernel
theorem d_La_output_20 : decode b_La_output 20 = .ok (.ireturn, 1) := by decide +kernel
theorem d_La_output_21 : decode b_La_output 21 = .ok (.iconst 0, 1) := by decide +kernel
theorem d_La_output_22 : decode b_La_output 22 = .ok (.ireturn, 1) := by decide +kernel
section
variable {G : aw_G} {nx d : Nat} {w : Nat → va_E} {tx : List Nat} {σ : SQ} {rd : Value} {st : Nat} {f : Nat → Int64}
theorem s_La_run {fu : Nat} (hnx : 443 ≤ nx) (hd : 63 ≤ d) (hfu : fu ≤ 5000) (h : hRd G w tx σ rd st) (h42 : w 442 = aLong (G.2.2.2.1 2) 1 f) : ACW G y_La_run b_La_run 4 (some .int) [(0, 9, 12, 13)] d [rf G 0, .int (nI fu), rf G 442] nx w 1 6 (fun r w' nx' => nx' = nx ∧ r = some (.int (nI 0)) ∧ (∃ rd', hRd G w' [] (runS fu tx σ.1.2.2.2).2.1 rd' (runS fu tx σ.1.2.2.2).2.2) ∧ (∃ f', w' 442 = aLong (G.2.2.2.1 2) 1 f' ∧ f' 0 = (nI (runS fu tx σ.1.2.2.2).1).toInt64) ∧ ∀ x, 418 ≤ x → x ≠ 442 → w' x = w x) := by
  have a1 := h.1
  refine ACW.ofW (by decide) (Nat.le_of_ble_eq_true rfl) ?_
  intro E hP Y X hex hT0
  have X : aw_X G "RescanDeskLaw" b_La_run 4 (some .int) "run" _ _ _ _ _ E := X
  refine AW.eql (lv' := [(0, _), (1, _), (2, _)]) (by rfl) ?_
  refine aw_aload_nR (pc := 0) X d_La_run_0 (by rfl) ?_
  refine aw_iconstN (pc := 1) X 0 d_La_run_1 (by decide) ?_
  refine aw_aload_nR (pc := 2) X d_La_run_2 (by rfl) ?_
  refine aw_iload_n (pc := 3) X d_La_run_3 (by rfl) ?_
  -- invokevirtual 4 lv=0:r,1:n,2:r st=n,r,n,r
  refine aw_callV (pc := 4) X _ (s_Rd_run (d := 62) (by omega) (by omega) hfu h) q_Rd_run k_431 k_432 k_433 (by omega) a1 (by rfl) d_La_run_4 (by omega) (Nat.le_of_ble_eq_true rfl) ⟨by omega, by omega⟩ (fun h => by cases h) (fun r w2 nx2 hp => ?_)
  obtain ⟨rfl, rfl, ⟨rd', k4⟩, kf⟩ := hp
  have e442 : w2 442 = aLong (G.2.2.2.1 2) 1 f := (kf _ (by omega)).trans h42
  refine aw_i2l (pc := 7) X d_La_run_7 ?_
  refine aw_lastN (pc := 8) X _ 2 (by omega) (by (repeat (first | rw [aw_up_eq] | rw [aw_up_ne _ _ (by first | assumption | omega)])) <;> first | assumption | rfl) (by rfl) (by omega) (by omega) d_La_run_8 ?_
  refine aw_goto (pc := 9) X (tgt := 15) d_La_run_9 (by rfl) ?_
  refine aw_iconstN (pc := 15) X 0 d_La_run_15 (by decide) ?_
  refine aw_iret Y X rfl d_La_run_16 (by omega) (by omega) (hP _ _ _ ?_)
  -- ret 16 lv=0:r,1:n,2:r st=n
  refine ⟨rfl, rfl, ⟨rd', k4.keep ((fr.refl 442 443 w2).up _ (by omega)) (by omega)⟩, ⟨_, aw_up_eq _ _ _, ?_⟩, fun x hx hx2 => ?_⟩
  · unfold vp_updL
    rw [if_pos rfl]
  · rw [aw_up_ne _ _ hx2]
    exact kf x (by omega)
theorem s_La_runT {x : Int32} (hfl : G.1.flags = pinnedFlags ++ [noTraceFlag]) (hnx : 443 ≤ nx) (hd : 63 ≤ d) (hx : ¬ (0 ≤ x.toInt ∧ x.toInt ≤ 5000)) (h : hRd G w tx σ rd st) : ACW G y_La_run b_La_run 4 (some .int) [(0, 9, 12, 13)] d [rf G 0, .int x, rf G 442] nx w 1 6 (fun r w' nx' => nx' = nx ∧ r = some (.int (nI 1)) ∧ w' = w) := by
  have a1 := h.1
  refine ACW.ofW (by decide) (Nat.le_of_ble_eq_true rfl) ?_
  intro E hP Y X hex hT0
  have X : aw_X G "RescanDeskLaw" b_La_run 4 (some .int) "run" _ _ _ _ _ E := X
  refine AW.eql (lv' := [(0, _), (1, _), (2, _)]) (by rfl) ?_
  refine aw_aload_nR (pc := 0) X d_La_run_0 (by rfl) ?_
  refine aw_iconstN (pc := 1) X 0 d_La_run_1 (by decide) ?_
  refine aw_aload_nR (pc := 2) X d_La_run_2 (by rfl) ?_
  refine aw_iload_n (pc := 3) X d_La_run_3 (by rfl) ?_
  -- invokevirtual 4 lv=0:r,1:i,2:r st=i,r,n,r
  refine aw_callT (pc := 4) X _ (s_Rd_runT (d := 10) hfl (by omega) hx) q_Rd_run k_431 k_432 k_433 (by omega) a1 (by rfl) d_La_run_4 (by omega) (Nat.le_of_ble_eq_true rfl) ⟨by omega, by omega⟩ hT0 (hpc := 12) (fun T' locs' v ce g St hg hpc hce hfc has hns => caught_1 St X.2.2.2.1 hex (by decide) (X.2.2.2.2.1 _ k_430) hg (by omega) hce hfc has hns) (fun v => ?_)
  refine aw_astore_n (pc := 12) X (lv' := [(3, _), (0, _), (1, _), (2, _)]) d_La_run_12 (by decide) (by rfl) ?_
  refine aw_iconstN (pc := 13) X 1 d_La_run_13 (by decide) ?_
  refine aw_iret Y X rfl d_La_run_14 (by omega) (by omega) (hP _ _ _ ?_)
  -- ret 14 lv=3:c,0:r,1:i,2:r st=n
  exact ⟨rfl, rfl, rfl⟩
theorem s_La_output {r k : Nat} (hnx : 443 ≤ nx) (hd : 63 ≤ d) (hr : r < 4) (hk : k < (σ.1.2.2.1 r).length) (h : hRd G w tx σ rd st) (h42 : w 442 = aLong (G.2.2.2.1 2) 1 f) : ACW G y_La_output b_La_output 5 (some .int) [(0, 10, 13, 13), (0, 10, 17, 19)] d [rf G 0, .int (nI r), .int (nI k), rf G 442] nx w 1 6 (fun v w' nx' => nx' = nx ∧ v = some (.int (nI 0)) ∧ (∃ f', w' 442 = aLong (G.2.2.2.1 2) 1 f' ∧ f' 0 = (nI ((σ.1.2.2.1 r).getD k 0)).toInt64) ∧ fr 442 443 w w') := by
  have a1 := h.1
  refine ACW.ofW (by decide) (Nat.le_of_ble_eq_true rfl) ?_
  intro E hP Y X hex hT0
  have X : aw_X G "RescanDeskLaw" b_La_output 5 (some .int) "output" _ _ _ _ _ E := X
  refine AW.eql (lv' := [(0, _), (1, _), (2, _), (3, _)]) (by rfl) ?_
  refine aw_aload_nR (pc := 0) X d_La_output_0 (by rfl) ?_
  refine aw_iconstN (pc := 1) X 0 d_La_output_1 (by decide) ?_
  refine aw_aload_nR (pc := 2) X d_La_output_2 (by rfl) ?_
  refine aw_iload_n (pc := 3) X d_La_output_3 (by rfl) ?_
  refine aw_iload_n (pc := 4) X d_La_output_4 (by rfl) ?_
  -- invokevirtual 5 lv=0:r,1:n,2:n,3:r st=n,n,r,n,r
  refine aw_callV (pc := 5) X _ (s_Rd_output (d := 0) (by omega) hr hk h) q_Rd_output k_817 k_818 k_819 (by omega) a1 (by rfl) d_La_output_5 (by omega) (Nat.le_of_ble_eq_true rfl) ⟨by omega, by omega⟩ (fun h => by cases h) (fun r w2 nx2 hp => ?_)
  obtain ⟨rfl, rfl, rfl, -⟩ := hp
  refine aw_i2l (pc := 8) X d_La_output_8 ?_
  refine aw_lastN (pc := 9) X _ 2 (by omega) (by (repeat (first | rw [aw_up_eq] | rw [aw_up_ne _ _ (by first | assumption | omega)])) <;> first | assumption | rfl) (by rfl) (by omega) (by omega) d_La_output_9 ?_
  refine aw_goto (pc := 10) X (tgt := 21) d_La_output_10 (by rfl) ?_
  refine aw_iconstN (pc := 21) X 0 d_La_output_21 (by decide) ?_
  refine aw_iret Y X rfl d_La_output_22 (by omega) (by omega) (hP _ _ _ ?_)
  -- ret 22 lv=0:r,1:n,2:n,3:r st=n
  refine ⟨rfl, rfl, ⟨_, aw_up_eq _ _ _, ?_⟩, (fr.refl _ _ _).up _ (by omega)⟩
  unfold vp_updL
  rw [if_pos rfl]
theorem s_La_outT1 {x y : Int32} (hfl : G.1.flags = pinnedFlags ++ [noTraceFlag]) (hnx : 443 ≤ nx) (hd : 63 ≤ d) (hx : ¬ (0 ≤ x.toInt ∧ x.toInt < 4)) (h : hRd G w tx σ rd st) : ACW G y_La_output b_La_output 5 (some .int) [(0, 10, 13, 13), (0, 10, 17, 19)] d [rf G 0, .int x, .int y, rf G 442] nx w 1 6 (fun r w' nx' => nx' = nx ∧ r = some (.int (nI 1)) ∧ w' = w) := by
  have a1 := h.1
  refine ACW.ofW (by decide) (Nat.le_of_ble_eq_true rfl) ?_
  intro E hP Y X hex hT0
  have X : aw_X G "RescanDeskLaw" b_La_output 5 (some .int) "output" _ _ _ _ _ E := X
  refine AW.eql (lv' := [(0, _), (1, _), (2, _), (3, _)]) (by rfl) ?_
  refine aw_aload_nR (pc := 0) X d_La_output_0 (by rfl) ?_
  refine aw_iconstN (pc := 1) X 0 d_La_output_1 (by decide) ?_
  refine aw_aload_nR (pc := 2) X d_La_output_2 (by rfl) ?_
  refine aw_iload_n (pc := 3) X d_La_output_3 (by rfl) ?_
  refine aw_iload_n (pc := 4) X d_La_output_4 (by rfl) ?_
  -- invokevirtual 5 lv=0:r,1:i,2:i,3:r st=i,i,r,n,r
  refine aw_callT (pc := 5) X _ (s_Rd_outT1 (d := 10) hfl (by omega) hx) q_Rd_output k_817 k_818 k_819 (by omega) a1 (by rfl) d_La_output_5 (by omega) (Nat.le_of_ble_eq_true rfl) ⟨by omega, by omega⟩ hT0 (hpc := 13) (fun T' locs' v ce g St hg hpc hce hfc has hns => caught_1 St X.2.2.2.1 hex (by decide) (X.2.2.2.2.1 _ k_430) hg (by omega) hce hfc has hns) (fun v => ?_)
  refine aw_astore (pc := 13) X (lv' := [(4, _), (0, _), (1, _), (2, _), (3, _)]) d_La_output_13 (by decide) (by rfl) ?_
  refine aw_iconstN (pc := 15) X 1 d_La_output_15 (by decide) ?_
  refine aw_iret Y X rfl d_La_output_16 (by omega) (by omega) (hP _ _ _ ?_)
  -- ret 16 lv=4:c,0:r,1:i,2:i,3:r st=n
  exact ⟨rfl, rfl, rfl⟩
theorem s_La_outT2 {r : Nat} {y : Int32} (hfl : G.1.flags = pinnedFlags ++ [noTraceFlag]) (hnx : 443 ≤ nx) (hd : 63 ≤ d) (hr : r < 4) (hy : ¬ (0 ≤ y.toInt ∧ y.toInt < (σ.1.2.2.1 r).length)) (h : hRd G w tx σ rd st) : ACW G y_La_output b_La_output 5 (some .int) [(0, 10, 13, 13), (0, 10, 17, 19)] d [rf G 0, .int (nI r), .int y, rf G 442] nx w 1 6 (fun r w' nx' => nx' = nx ∧ r = some (.int (nI 2)) ∧ w' = w) := by
  have a1 := h.1
  refine ACW.ofW (by decide) (Nat.le_of_ble_eq_true rfl) ?_
  intro E hP Y X hex hT0
  have X : aw_X G "RescanDeskLaw" b_La_output 5 (some .int) "output" _ _ _ _ _ E := X
  refine AW.eql (lv' := [(0, _), (1, _), (2, _), (3, _)]) (by rfl) ?_
  refine aw_aload_nR (pc := 0) X d_La_output_0 (by rfl) ?_
  refine aw_iconstN (pc := 1) X 0 d_La_output_1 (by decide) ?_
  refine aw_aload_nR (pc := 2) X d_La_output_2 (by rfl) ?_
  refine aw_iload_n (pc := 3) X d_La_output_3 (by rfl) ?_
  refine aw_iload_n (pc := 4) X d_La_output_4 (by rfl) ?_
  -- invokevirtual 5 lv=0:r,1:n,2:i,3:r st=i,n,r,n,r
  obtain ⟨cB, cA, hcB, hcA, hno⟩ := hT0.2.2.2
  refine aw_callT (pc := 5) X _ (s_Rd_outT2 (d := 10) hfl (by omega) (by omega) hr hy h) q_Rd_output k_817 k_818 k_819 (by omega) a1 (by rfl) d_La_output_5 (by omega) (Nat.le_of_ble_eq_true rfl) ⟨by omega, by omega⟩ hT0 (hpc := 17) (fun T' locs' v ce g St hg hpc hce hfc has hns => caught_2 St X.2.2.2.1 hex (by decide) (by decide) (X.2.2.2.2.1 _ k_430) (X.2.2.2.2.1 _ k_816) hg (by omega) hce hfc has hns hcA (by cases hcB.symm.trans hfc; exact hno)) (fun v => ?_)
  refine aw_astore (pc := 17) X (lv' := [(4, _), (0, _), (1, _), (2, _), (3, _)]) d_La_output_17 (by decide) (by rfl) ?_
  refine aw_iconstN (pc := 19) X 2 d_La_output_19 (by decide) ?_
  refine aw_iret Y X rfl d_La_output_20 (by omega) (by omega) (hP _ _ _ ?_)
  -- ret 20 lv=4:c,0:r,1:n,2:i,3:r st=n
  exact ⟨rfl, rfl, rfl⟩
end

