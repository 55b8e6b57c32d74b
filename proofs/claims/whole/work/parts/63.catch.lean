/-! a call that throws, and the handlers that catch it -/
theorem ex_cons {c : Code} {a b h k : Nat} {tl : List (Nat × Nat × Nat × Nat)} {L : List ExceptionTableEntry} (hex : L.map (fun h => (h.startPc, h.endPc, h.handlerPc, h.catchType)) = (a, b, h, k) :: tl) : ∃ x r, L = x :: r ∧ x.startPc = a ∧ x.endPc = b ∧ x.handlerPc = h ∧ x.catchType = k ∧ r.map (fun h => (h.startPc, h.endPc, h.handlerPc, h.catchType)) = tl := by
  cases L with
  | nil => cases hex
  | cons x r =>
    simp only [List.map_cons, List.cons.injEq, Prod.mk.injEq] at hex
    exact ⟨x, r, rfl, hex.1.1, hex.1.2.1, hex.1.2.2.1, hex.1.2.2.2, hex.2⟩
section
variable {p : Program} {l : Launch} {e : Env} {R : Room} {s : State} {m : MethodId} {args : Array Value} {below : List Frame} {meth : Method} {c : Code} {T : State} {locs : List Loc} {cells slots : Nat}
theorem caught_1 (St : Stand p l e R s m args below meth c T locs cells slots) {own cls : String} (hown : s.vm.findClass own = some m.cls) {b h k : Nat} {tl : List (Nat × Nat × Nat × Nat)} (hex : c.exceptionTable.toList.map (fun h => (h.startPc, h.endPc, h.handlerPc, h.catchType)) = (0, b, h, k) :: tl) (hk : k ≠ 0) (hlink : (Cond.classLink own k cls).before args s = true) {g : JFrame} (hg : g.method = m) (hpc : g.pc < b) {v : Nat} {ce : Cell} (hce : T.heap[v]? = some ce) (hfc : s.vm.findClass cls = some ce.cls) (has : s.vm.assignable ce.cls ce.cls = true) (hns : ce.vm.isStatics = false) :
    ∃ vm', Stand p l e R s m args below meth c (T.setVm vm') locs cells slots ∧ ∀ target, Steps p.tables e below ((T.setVm vm').setTop { g with pc := h, stack := [.ref v] }) target → Steps p.tables e below (T.setFrames (.throwing v :: .java g :: below)) target := by
  obtain ⟨x, r, hL, h1, h2, h3, h4, -⟩ := ex_cons (c := c) hex
  subst h3
  subst h4
  exact St.caughtLink v hg hown [] x r hL (fun y hy => by cases hy) (by simp [covers, h1, h2]; omega) hk hlink hfc hce hns has
theorem go_pass {Q : Handler → Pre} {E : CtlPost} {d : Bool} {acts : List Action} {f : JFrame} {a : Addr} {x : ExceptionTableEntry} {t : List ExceptionTableEntry} {c : ClassId} {cell : Cell} (hx : covers x f.pc = true) (h0 : x.catchType ≠ 0)
    (hl : s.vm.ClassLinks e.platform f.method.cls x.catchType c) (hcell : s.heap[a]? = some cell) (hobj : ∀ k, cell.vm ≠ .statics k)
    (hk : ∃ k, s.vm.classes[cell.cls]? = some k) (hc : ∃ k, s.vm.classes[c]? = some k) (hfit : s.vm.assignable cell.cls c = false) :
    wp (findHandler.go f a (x :: t)) Q E e d acts s ↔ wp (findHandler.go f a t) Q E e d acts (s.setVm (s.vm.noted f.method.cls x.catchType (.cls c))) := by
  simp only [covers] at hx
  obtain ⟨ha, ht⟩ := (resolveClass_links e.toSetting hl).op (op := VmOp.resolveClass f.method.cls x.catchType) rfl
  have hal : s.vm.Alike (s.vm.noted f.method.cls x.catchType (.cls c)) := (Vm.Alike.refl s.vm).noted _ _ _
  obtain ⟨k1, hk1⟩ := hk
  obtain ⟨k2, hk2⟩ := hc
  obtain ⟨k1', hk1', -⟩ := hal.2.2 _ _ hk1
  obtain ⟨k2', hk2', -⟩ := hal.2.2 _ _ hk2
  have hfit' : (s.vm.noted f.method.cls x.catchType (.cls c)).assignable cell.cls c = false := by rw [hal.assignable]; exact hfit
  simp [findHandler.go, hx, h0, ha, ht, hcell, hobj, hk1', hk2', hfit', VmOp.dirties, VmOp.acts]
theorem caught_2 (St : Stand p l e R s m args below meth c T locs cells slots) {own cls cl1 : String} (hown : s.vm.findClass own = some m.cls) {b h1 k1 h k : Nat} {tl : List (Nat × Nat × Nat × Nat)} (hex : c.exceptionTable.toList.map (fun h => (h.startPc, h.endPc, h.handlerPc, h.catchType)) = (0, b, h1, k1) :: (0, b, h, k) :: tl) (hk1 : k1 ≠ 0) (hk : k ≠ 0) (hlink1 : (Cond.classLink own k1 cl1).before args s = true) (hlink : (Cond.classLink own k cls).before args s = true) {g : JFrame} (hg : g.method = m) (hpc : g.pc < b) {v : Nat} {ce : Cell} (hce : T.heap[v]? = some ce) (hfc : s.vm.findClass cls = some ce.cls) (has : s.vm.assignable ce.cls ce.cls = true) (hns : ce.vm.isStatics = false) {c1 : ClassId} (hf1 : s.vm.findClass cl1 = some c1) (hno : s.vm.assignable ce.cls c1 = false) :
    ∃ vm', Stand p l e R s m args below meth c (T.setVm vm') locs cells slots ∧ ∀ target, Steps p.tables e below ((T.setVm vm').setTop { g with pc := h, stack := [.ref v] }) target → Steps p.tables e below (T.setFrames (.throwing v :: .java g :: below)) target := by
  obtain ⟨x, r, hL, x1, x2, x3, x4, hex2⟩ := ex_cons (c := c) hex
  obtain ⟨y, r2, hr, y1, y2, y3, y4, -⟩ := ex_cons (c := c) hex2
  subst hr
  subst x4
  subst y3
  subst y4
  subst hg
  have hpl : e.platform.magicAccessors = ({} : Platform).magicAccessors := by rw [St.admits.platform]
  obtain ⟨c1', hc1', hcl1⟩ := Cond.classLink_spec hown hlink1 e.platform hpl
  cases hf1.symm.trans hc1'
  obtain ⟨c2', hc2', hcl2⟩ := Cond.classLink_spec hown hlink e.platform hpl
  cases hfc.symm.trans hc2'
  obtain ⟨dk, _, _, kt, hd, _, _, _, _, hkt, _, hopen⟩ := hcl1.here
  obtain ⟨dk2, _, _, kt2, hd2, _, _, _, _, hkt2, _, hopen2⟩ := hcl2.here
  have hW1 : s.WarmedH (T.vm.noted g.method.cls x.catchType (.cls c1)) := St.warmed.noted hd hopen (State.rightAt_cls hcl1)
  have hW2 : s.WarmedH ((T.vm.noted g.method.cls x.catchType (.cls c1)).noted g.method.cls y.catchType (.cls ce.cls)) := hW1.noted hd2 hopen2 (State.rightAt_cls hcl2)
  have hal := St.warmed.alike
  obtain ⟨kt', hkt', -⟩ := hal.2.2 _ _ hkt
  obtain ⟨kt2', hkt2', -⟩ := hal.2.2 _ _ hkt2
  obtain ⟨kt3', hkt3', -⟩ := hW1.alike.2.2 _ _ hkt2
  refine ⟨_, St.noted hW2, fun target hrest => ?_⟩
  rw [← St.pushThrowing_eq g v]
  refine Steps.caughtTo (c := c) St.here (pc := y.handlerPc) ?_ hrest
  intro Q E d acts
  rw [W.findHandler_eq (s := (T.setTop g).pushFrame (.throwing v)) St.method' St.code, hL]
  have hvm : ((T.setTop g).pushFrame (.throwing v)).vm = T.vm := Stand.throwing_vm T g v
  have hhp : ((T.setTop g).pushFrame (.throwing v)).heap = T.heap := Stand.throwing_heap T g v
  rw [go_pass (c := c1) (cell := ce) (by simp [covers, x1, x2]; omega) hk1 (by rw [hvm]; exact St.warmed.classLinks hcl1) (by rw [hhp]; exact hce) (VmData.ne_statics_of hns) (by rw [hvm]; exact ⟨_, hkt2'⟩) (by rw [hvm]; exact ⟨_, hkt'⟩) (by rw [hvm, hal.assignable]; exact hno)]
  rw [W.findHandler_go_link (c := ce.cls) (cell := ce) (by simp [covers, y1, y2]; omega) hk (by show Vm.ClassLinks _ _ _ _ _; rw [hvm]; exact hW1.classLinks hcl2) (by show ((T.setTop g).pushFrame (.throwing v)).heap[v]? = _; rw [hhp]; exact hce) (VmData.ne_statics_of hns) (by rw [hvm]; exact ⟨_, hkt3'⟩) (by rw [hvm]; exact ⟨_, hkt3'⟩) (by rw [hvm]; show (T.vm.noted g.method.cls x.catchType (.cls c1)).assignable _ _ = true; rw [hW1.alike.assignable]; exact has)]
  rw [hvm]
  rfl
end

