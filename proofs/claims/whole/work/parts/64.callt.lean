/-! rows: a call that throws and is caught; a contract of a method with handlers, and its call -/
section
variable {G : aw_G} {E : aw_E} {nL d mc ms nx n0 cells slots pc : Nat} {al : Bool} {w : Nat → va_E} {lv : List (Nat × Value)} {rest : List Value} {own nm : String} {cc : ByteArray} {ret : Option FieldType}
theorem aw_wd {args a' : Array Value} {s U : State} (hW : s.WarmedH U.vm) (hts : ∀ w ∈ aw_tbl, w.before args s = true) {w : Cond} (hw : w ∈ aw_tbl) : w.before a' U = true := word_at hW (good_of_word (List.mem_filter.mp hw).2) (hts w hw)
theorem aw_callT (X : aw_X G own cc nL ret nm al n0 d mc ms E) {y : MethodName} {bytes : ByteArray} {maxL index d' : Nat} {rt : Option FieldType} {As : List Value} {cls : String} {T0 : u_T} {N0 ci : Nat} {fs : List Value} (a : Nat) (hM : ACT G y bytes maxL rt d' (rf G a :: As) nx w cls) (hq : aw_q1 y bytes maxL rt As.length) (hlink : Cond.methodLink own index y ∈ aw_tbl) (hin : Cond.instanceMethod y ∈ aw_tbl) (hsel : Cond.selects y.cls y y ∈ aw_tbl) (ha : a < nx) (hwa : w a = aObj ci fs) (hc : classes[ci]? = some (y.cls, T0, N0)) (hdg : decode cc pc = .ok (.invokevirtual index, 3)) (hd : d' + 1 ≤ d) (hst : (rest.map fun v => v.category).sum ≤ 8) (hf : cells + 1 ≤ mc ∧ slots + 6 ≤ ms) (hT0 : aw_T G E.2.2.1) {hpc : Nat}
    (hcatch : ∀ (T' : State) (locs' : List Loc) (v : Nat) (ce : Cell) (g : JFrame), Stand E.1 G.1 E.2.1 E.2.2.2.2.2.2.2.2.1 E.2.2.1 E.2.2.2.1 E.2.2.2.2.1 E.2.2.2.2.2.1 E.2.2.2.2.2.2.1 E.2.2.2.2.2.2.2.1 T' locs' (cells + 1) (slots + 6) → g.method = E.2.2.2.1 → g.pc = pc → T'.heap[v]? = some ce → E.2.2.1.vm.findClass cls = some ce.cls → E.2.2.1.vm.assignable ce.cls ce.cls = true → ce.vm.isStatics = false →
      ∃ vm', Stand E.1 G.1 E.2.1 E.2.2.2.2.2.2.2.2.1 E.2.2.1 E.2.2.2.1 E.2.2.2.2.1 E.2.2.2.2.2.1 E.2.2.2.2.2.2.1 E.2.2.2.2.2.2.2.1 (T'.setVm vm') locs' (cells + 1) (slots + 6) ∧ ∀ target, Steps E.1.tables E.2.1 E.2.2.2.2.2.1 ((T'.setVm vm').setTop { g with pc := hpc, stack := [.ref v] }) target → Steps E.1.tables E.2.1 E.2.2.2.2.2.1 (T'.setFrames (.throwing v :: .java g :: E.2.2.2.2.2.1)) target)
    (kk : ∀ v : Nat, AW G E nL nx (cells + 1) (slots + 6) w hpc lv [.ref v]) : AW G E nL nx cells slots w pc lv (As.reverse ++ rf G a :: rest) := by
  intro H locs ls hP hS hl T hT St
  have hpre := aw_pre (al' := false) X (fun h => by cases h) hT St hP hS (rf G a :: As)
  have hTk : ∀ U : State, U.heap = H → E.2.2.1.WarmedH U.vm → aw_T G U := fun U hU hW => aw_Tk hW (fun q h1 h2 => by rw [hU]; exact hS.2.1 q h1 h2) hT0
  obtain ⟨hx, hb, hmx, hown, hts, -, -, -, hK, hKs, hbs, hsz, hRf, hRl, hRc, hRs⟩ := X
  obtain ⟨p, e, s, m, args, below, meth, c, R, Z⟩ := E
  dsimp only at *
  have hml := hq.2.2.2
  have hBT : BackT G.1 R p e below s args y 3 8 (fun A as => A.cells + 1 ≤ R.cells ∧ A.slots + 6 ≤ R.slots ∧ aw_Pc G false (rf G a :: As) nx w as A.U ∧ aw_T G A.U) (fun A as v B => ∃ (g : JFrame) (mk : MethodId) (t : State), B.U.heap = t.heap ∧ B.U.vm = t.vm ∧ aw_Qt G nx w cls as (A.U.calling g mk as) (.threw v) t ∧ B.locs = A.locs ∧ B.cells = A.cells + 1 ∧ B.slots = A.slots + 6) := by
    refine BackT.of_free (bytes := bytes) (maxL := maxL) (ret := rt) (E := fun _ _ _ _ L k n => L = [] ∧ k = 1 ∧ n = 6) hM (by show d' + 1 ≤ _; omega) (by show 8 + (maxL + 11) + 40 * d' ≤ _; omega) ?_ ?_ (fun _ _ _ _ _ _ _ _ _ => trivial) ?_ ?_
    · intro m meth c A a X hp
      refine ⟨atoms_intro (fun w hw => ?_), aw_wd X.warmed hts hq.1, aw_wd X.warmed hts hq.2.1, hp.1, hp.2.1⟩
      rcases List.mem_cons.mp hw with rfl | hw
      · exact aw_wd X.warmed hts hq.1
      · exact aw_wd X.warmed hts hw
    · intro m meth c A a g mk X hp
      exact ⟨aw_blind _ _ _ _ hp.2.2.1, aw_Tk (u := A.U) (U := A.U.calling g mk a) (State.WarmedH.refl A.U) (fun _ _ _ => rfl) hp.2.2.2⟩
    · intro a first o t h
      obtain ⟨v, ce, rfl, h1, h2, h3, h4, h5, h6, h7, hF⟩ := h
      exact ⟨[], 1, 6, hF, rfl, rfl, rfl⟩
    · intro m meth c A a g mk v t L k n X hp hq hF ⟨e1, e2, e3⟩
      subst e1; subst e2; subst e3
      exact ⟨g, mk, t, rfl, rfl, hq, List.append_nil _, rfl, rfl⟩
  have hy : y.cls ≠ "java/lang/invoke/MethodHandle" ∧ y.cls ≠ "java/lang/invoke/VarHandle" := ⟨hq.2.2.1.1, hq.2.2.1.2.1⟩
  have hlen : ∀ sig, parseMethodDescriptor y.desc = some sig → As.length = sig.parameters.length := fun sig h => by
    have := hq.2.2.1.2.2
    rw [h] at this
    exact (Option.some.inj this).symm
  obtain ⟨cellB, hcell, hobj, hcls⟩ := va_recv hK hP hc (by rw [aw_ws_get ha, hwa]; rfl)
  obtain ⟨mk, methM, hnamed, hmethM, hstM, habM⟩ := Cond.instanceMethod_spec (hts _ hin)
  obtain ⟨methM', cM, hmethM', -, -, -, -, -, -, hsigM⟩ := Cond.code_spec hnamed (hts _ hq.1)
  cases hmethM.symm.trans hmethM'
  obtain ⟨c2, r2, m2, q1, q2, q3, q4, kP, hkP, hkPi⟩ := Cond.selects_spec (hts _ hsel)
  cases hcls.symm.trans q1
  cases (State.methodFound?_of_named hnamed hy).symm.trans q2
  cases hnamed.symm.trans q3
  have hselP : selectMethod e.platform s.vm cellB.cls mk = .method mk := by rw [Launch.admits_selectMethod St.admits]; exact q4
  subst hT
  obtain ⟨vm₁, X₁, hstep₁⟩ := St.invokevirtual hx hown (hts _ hlink) hnamed hmethM hstM hkP hkPi hy (a := G.2.2.1 + a) (cell := cellB) hcell (fun z h => by rw [h] at hobj; cases hobj) hselP hmethM habM hkP hkPi (g := F0 m pc ls (As.reverse ++ rf G a :: rest)) rfl (argsL := As) (rest := rest) (hlen _ hsigM) rfl (by rw [hb]; exact hdg)
  obtain ⟨v, B, X', ⟨g', mk', t, e1, e2, hQ, e3, e4, e5⟩, hsteps⟩ := hBT m meth c ⟨T.setVm vm₁, locs, cells, slots⟩ (F0 m pc ls rest) (.invokevirtual index) mk (rf G a :: As).toArray X₁ rfl (hl.1.trans hmx.symm) (by rw [hb]; exact hdg) (lv_room hst) (X₁.named hnamed) ⟨by show cells + 1 ≤ _; omega, by show slots + 6 ≤ _; omega, hpre _ rfl X₁.warmed, hTk _ rfl X₁.warmed⟩
  obtain ⟨v', ce, hv, hsz2, hce, hfc, hasg, hns, hP2, ⟨hF1, hF2⟩, -⟩ := hQ
  cases hv
  obtain ⟨U', l2, c2', s2⟩ := B
  dsimp only [Pt.U, Pt.locs, Pt.cells, Pt.slots] at X' e1 e2 e3 e4 e5 hsteps
  subst e3; subst e4; subst e5
  have hfc' : s.vm.findClass cls = some ce.cls := by rw [← X₁.warmed.alike.findClass]; exact hfc
  have has' : s.vm.assignable ce.cls ce.cls = true := by rw [← X₁.warmed.alike.assignable]; exact hasg
  obtain ⟨vm', X2, hgo⟩ := hcatch U' _ v ce (F0 m pc ls rest) X' rfl rfl (by rw [e1]; exact hce) hfc' has' hns
  obtain ⟨t2, a1, b1⟩ := kk v U'.heap _ ls (by rw [e1]; exact hP2) ⟨Nat.le_trans hS.1 (by rw [e1]; exact hF1), fun q h1 h2 => by rw [e1, hF2 q (Nat.lt_of_lt_of_le h1 hS.1) h2]; exact hS.2.1 q h1 h2, hS.2.2⟩ hl (U'.setVm vm') rfl X2
  refine ⟨t2, hstep₁ _ fun acts => ?_, b1⟩
  rw [doInvoke_state]
  refine hsteps.trans ?_
  rw [X'.pushThrowing_eq]
  exact hgo _ a1
/-- a contract of a method with handlers -/
def ACW (G : aw_G) (y : MethodName) (cc : ByteArray) (nL : Nat) (ret : Option FieldType) (hh : List (Nat × Nat × Nat × Nat)) (d : Nat) (a : List Value) (nx : Nat) (w : Nat → va_E) (mc ms : Nat) (post : Option Value → (Nat → va_E) → Nat → Prop) : Prop :=
  Met G.1 y (Cond.codeWith y cc nL ret hh :: aw_tbl) (aw_R d mc ms) (fun args U => aw_Pc G false a nx w args U ∧ aw_T G U) (aw_Qc G post) mc ms (aw_own G)
theorem ACW.ofW {y : MethodName} {hh : List (Nat × Nat × Nat × Nat)} {a : List Value} {post : Option Value → (Nat → va_E) → Nat → Prop} (hy : plainName y.cls = true) (ha : (lg_sl a).length ≤ nL)
    (body : ∀ (E : aw_E), (∀ r w' nx', post r w' nx' → post r w' nx') → aw_Y G post mc ms E → aw_X G y.cls cc nL ret y.name false nx d mc ms E → E.2.2.2.2.2.2.2.1.exceptionTable.toList.map (fun h => (h.startPc, h.endPc, h.handlerPc, h.catchType)) = hh → aw_T G E.2.2.1 → AW G E nL nx 0 0 w 0 (lv_args 0 a) []) : ACW G y cc nL ret hh d a nx w mc ms post := by
  refine va_MetW (cc := cc) (maxL := nL) (ret := ret) (hh := hh) hy rfl ?_
  intro p e s m args below meth c s₁ B hml hv
  obtain ⟨⟨rfl, hsz, hP, hK, hKs, hbs⟩, hT⟩ := hv
  have hown : s.vm.findClass y.cls = some m.cls := findClass_of_methodNamed B.named
  have hin : meth.name = y.name := (name_of_methodNamed B.named B.method).1
  have hl := lv_entry a (n := nL) ha
  have hex : c.exceptionTable.toList.map (fun h => (h.startPc, h.endPc, h.handlerPc, h.catchType)) = hh := by
    obtain ⟨m9, meth9, c9, hn9, h1, h2, h3, h4, h5, -⟩ := Cond.codeWith_spec (atoms_spec (ws := Cond.codeWith y cc nL ret hh :: aw_tbl) B.pre _ List.mem_cons_self)
    cases B.named.symm.trans hn9
    cases B.method.symm.trans h1
    cases (Stand.of_body B).code.symm.trans h2
    exact h5
  rw [lg_entry_eq]
  exact body (p, e, s, m, a.toArray, below, meth, c, aw_R d mc ms, MQ below (aw_Qc G post) a.toArray s mc ms (aw_own G)) (fun _ _ _ h => h) rfl ⟨B.exec, B.bytes, hml, hown, fun w h => atoms_spec (ws := Cond.codeWith y cc nL ret hh :: aw_tbl) B.pre w (List.mem_cons_of_mem _ h), B.returns, B.notSynchronized, hin, hK, hKs, hbs, hsz, Nat.le_refl _, Nat.le_refl _, Nat.le_refl _, Nat.le_refl _⟩ hex hT s.heap [] _ hP va_S.rf hl
theorem aw_callSW (X : aw_X G own cc nL ret nm al n0 d mc ms E) {y : MethodName} {bytes : ByteArray} {maxL mc' ms' index d' : Nat} {rt : Option FieldType} {hh : List (Nat × Nat × Nat × Nat)} {As : List Value} {post : Option Value → (Nat → va_E) → Nat → Prop} (hM : ACW G y bytes maxL rt hh d' As nx w mc' ms' post) (hcw : Cond.codeWith y bytes maxL rt hh ∈ aw_tbl) (hini : Cond.initialized y.cls ∈ aw_tbl) (hy : y.cls ≠ "java/lang/invoke/MethodHandle" ∧ y.cls ≠ "java/lang/invoke/VarHandle") (hlen : (parseMethodDescriptor y.desc).map (fun d => d.parameters.length) = some As.length) (hml : maxL ≤ 20) (hlink : Cond.methodLink own index y ∈ aw_tbl) (hsta : Cond.static y ∈ aw_tbl) (hdg : decode cc pc = .ok (.invokestatic index, 3)) (hd : d' + 1 ≤ d) (hst : (rest.map fun v => v.category).sum ≤ 8) (hf : cells + mc' ≤ mc ∧ slots + ms' ≤ ms) (hT0 : aw_T G E.2.2.1)
    (kk : ∀ (r : Option Value) (w' : Nat → va_E) (nx' : Nat), post r w' nx' → AW G E nL nx' (cells + mc') (slots + ms') w' (pc + 3) lv (r.toList ++ rest)) : AW G E nL nx cells slots w pc lv (As.reverse ++ rest) := by
  intro H locs ls hP hS hl T hT St
  have hpre := aw_pre (al' := false) X (fun h => by cases h) hT St hP hS As
  have hTk : ∀ U : State, U.heap = H → E.2.2.1.WarmedH U.vm → aw_T G U := fun U hU hW => aw_Tk hW (fun q h1 h2 => by rw [hU]; exact hS.2.1 q h1 h2) hT0
  obtain ⟨hx, hb, hmx, hown, hts, -, -, -, hK, hKs, hbs, hsz, hRf, hRl, hRc, hRs⟩ := X
  refine (aw_core (post := post) (a := As.toArray) (st0 := (As.reverse ++ rest)) (ls := ls) (mc' := mc') (ms' := ms') ?_ hS hl kk) T hT St
  obtain ⟨p, e, s, m, args, below, meth, c, R, Z⟩ := E
  dsimp only at *
  have hBK : Back G.1 R p e below s args y 3 8 (PreOf R mc' ms' (fun args U => aw_Pc G false As nx w args U ∧ aw_T G U)) (PostOf (aw_Qc G post) mc' ms' (aw_own G)) := by
    refine va_backW (bytes := bytes) (maxL := maxL) (ret := rt) (hh := hh) hM (fun a U g mk h => ⟨aw_blind _ _ _ _ h.1, aw_Tk (u := U) (U := U.calling g mk a) (State.WarmedH.refl U) (fun _ _ _ => rfl) h.2⟩) rfl rfl (by show d' + 1 ≤ _; omega) (by show 8 + (maxL + 11) + 40 * d' ≤ _; omega) (fun w hw a' U hW => ?_) List.mem_cons_self (fun a' U hW => aw_wd hW hts hini)
    rcases List.mem_cons.mp hw with rfl | hw
    · exact aw_wd hW hts hcw
    · exact aw_wd hW hts hw
  intro T hT X
  obtain ⟨mk, methM, cM, hnamed, hmethM, -, -, -, -, -, -, hsigM⟩ := Cond.codeWith_spec (hts _ hcw)
  have hstatic : methM.isStatic = true := Cond.static_spec hnamed hmethM (hts _ hsta)
  obtain ⟨kP, hkP, -⟩ := className_of_methodNamed hnamed
  have hinitP : kP.init = .initialized := Cond.initialized_spec (findClass_of_methodNamed hnamed) hkP (hts _ hini)
  have hlen' : As.length = methM.sig.parameters.length := by
    rw [hsigM] at hlen
    exact (Option.some.inj hlen).symm
  obtain ⟨vm₁, X₁, hstep₁⟩ := X.invokestatic hx hown (hts _ hlink) hnamed hmethM hstatic hkP hinitP hy (g := F0 m pc ls (As.reverse ++ rest)) rfl (argsL := As) (rest := rest) hlen' rfl (by rw [hb]; exact hdg)
  obtain ⟨v, ⟨U', l2, c2, s2⟩, X', ⟨g', mk', t, L, e1, e2, hq, h1, hL, h2, h3⟩, hsteps⟩ := hBK m meth c ⟨T.setVm vm₁, locs, cells, slots⟩ (F0 m pc ls rest) (.invokestatic index) mk As.toArray X₁ rfl (hl.1.trans hmx.symm) (by rw [hb]; exact hdg) (lv_room hst) (X₁.named hnamed) ⟨by show cells + mc' ≤ _; omega, by show slots + ms' ≤ _; omega, hpre (T.setVm vm₁) hT X₁.warmed, hTk (T.setVm vm₁) hT X₁.warmed⟩
  dsimp only [Pt.U, Pt.locs, Pt.cells, Pt.slots] at X' e1 e2 h1 h2 h3 hsteps
  subst h1; subst h2; subst h3
  exact ⟨v, (T.setVm vm₁).calling g' mk' As.toArray, t, U', L, hT, X', hL, e1, e2, hq, fun target h => hstep₁ _ fun acts => by rw [doInvoke_state]; exact hsteps.trans h⟩
end

