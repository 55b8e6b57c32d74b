section AWCO
variable {G : aw_G} {E : aw_E} {P : Option Value → (Nat → va_E) → Nat → Prop} {nL d mc ms nx n0 cells slots pc : Nat} {al : Bool} {w : Nat → va_E} {lv : List (Nat × Value)} {rest : List Value} {own nm : String} {cc : ByteArray} {ret : Option FieldType}
theorem aw_X.c {G : aw_G} {own nm : String} {cc : ByteArray} {nL n0 d mc ms : Nat} {ret : Option FieldType} {al : Bool} {E : aw_E} (X : aw_X G own cc nL ret nm al n0 d mc ms E) : aw_C2 G E.2.2.1 E.2.2.1.heap := X.2.2.2.2.2.2.2.2.2.1.2.2
theorem aw_gets (X : aw_X G own cc nL ret nm al n0 d mc ms E) {C n ds : String} {v : Value} {index : Nat} (hZ : va_Z C n ds v (aw_own G) E.2.2.1 E.2.2.1.heap) (hlink : Cond.fieldLink own index C n ds ∈ aw_tbl) (hdg : decode cc pc = .ok (.getstatic index, 3)) (kk : AW G E nL nx cells slots w (pc + 3) lv (v :: rest)) : AW G E nL nx cells slots w pc lv rest := by
  intro H locs ls hP hS hl
  exact va_gets X.1 X.2.1 hZ hS X.2.2.2.1 (X.2.2.2.2.1 _ hlink) (fun _ h => h) hdg (kk H locs ls hP hS hl)
theorem aw_getsN (X : aw_X G own cc nL ret nm al n0 d mc ms E) {C n ds host : String} {v : Value} {index : Nat} (hZ : va_Z C n ds v (aw_own G) E.2.2.1 E.2.2.1.heap) (hlink : Cond.fieldLinkNest own index C n ds host ∈ aw_nest) (hdg : decode cc pc = .ok (.getstatic index, 3)) (kk : AW G E nL nx cells slots w (pc + 3) lv (v :: rest)) : AW G E nL nx cells slots w pc lv rest := by
  intro H locs ls hP hS hl
  exact va_getsN X.1 X.2.1 hZ hS X.2.2.2.1 (va_Nw.use rfl (X.2.2.2.2.2.2.2.2.2.1.1 _ hlink)) (fun _ h => h) hdg (kk H locs ls hP hS hl)
theorem aw_ti (X : aw_X G own cc nL ret nm al n0 d mc ms E) {t N i : Nat} {f : Nat → Value} {v : Value} (hT : va_T .int t N f (aw_own G) E.2.2.1 E.2.2.1.heap) (hi : i < N) (hN : N < 2 ^ 31) (hv : f i = v) (hdg : decode cc pc = .ok (.iaload, 1)) (kk : AW G E nL nx cells slots w (pc + 1) lv (v :: rest)) : AW G E nL nx cells slots w pc lv (.int (nI i) :: .ref t :: rest) := by
  intro H locs ls hP hS hl
  exact va_ti X.1 X.2.1 hT hS (vp_in_nI hi hN) (by rw [nI_clamp (by omega)]; exact hv) hdg (kk H locs ls hP hS hl)
theorem aw_tb (X : aw_X G own cc nL ret nm al n0 d mc ms E) {t N i : Nat} {f : Nat → Value} {v : Value} (hT : va_T .byte t N f (aw_own G) E.2.2.1 E.2.2.1.heap) (hi : i < N) (hN : N < 2 ^ 31) (hv : f i = v) (hdg : decode cc pc = .ok (.baload, 1)) (kk : AW G E nL nx cells slots w (pc + 1) lv (v :: rest)) : AW G E nL nx cells slots w pc lv (.int (nI i) :: .ref t :: rest) := by
  intro H locs ls hP hS hl
  exact va_tb X.1 X.2.1 hT hS (vp_in_nI hi hN) (by rw [nI_clamp (by omega)]; exact hv) hdg (kk H locs ls hP hS hl)
theorem aw_tq (X : aw_X G own cc nL ret nm al n0 d mc ms E) {C : String} {t N i : Nat} {f : Nat → Value} {v : Value} (hT : va_T (.object C) t N f (aw_own G) E.2.2.1 E.2.2.1.heap) (hi : i < N) (hN : N < 2 ^ 31) (hv : f i = v) (hdg : decode cc pc = .ok (.aaload, 1)) (kk : AW G E nL nx cells slots w (pc + 1) lv (v :: rest)) : AW G E nL nx cells slots w pc lv (.int (nI i) :: .ref t :: rest) := by
  intro H locs ls hP hS hl
  exact vb_tq X.1 X.2.1 hT hS (vp_in_nI hi hN) (by rw [nI_clamp (by omega)]; exact hv) hdg (kk H locs ls hP hS hl)
theorem aw_tlen (X : aw_X G own cc nL ret nm al n0 d mc ms E) {ty : FieldType} {t N : Nat} {f : Nat → Value} (hT : va_T ty t N f (aw_own G) E.2.2.1 E.2.2.1.heap) (hdg : decode cc pc = .ok (.arraylength, 1)) (kk : AW G E nL nx cells slots w (pc + 1) lv (.int (nI N) :: rest)) : AW G E nL nx cells slots w pc lv (.ref t :: rest) := by
  intro H locs ls hP hS hl
  exact va_tlen X.1 X.2.1 hT hS rfl hdg (kk H locs ls hP hS hl)
theorem aw_getc (X : aw_X G own cc nL ret nm al n0 d mc ms E) {o n ds : String} {index q : Nat} {v : Value} (hE : va_OF o n ds v q (aw_own G) E.2.2.1 E.2.2.1.heap) (hlink : Cond.fieldLink own index o n ds ∈ aw_tbl) (hdg : decode cc pc = .ok (.getfield index, 3)) (kk : AW G E nL nx cells slots w (pc + 3) lv (v :: rest)) : AW G E nL nx cells slots w pc lv (.ref q :: rest) := by
  intro H locs ls hP hS hl
  exact vk_getf X.1 X.2.1 hE hS X.2.2.2.1 (X.2.2.2.2.1 _ hlink) (fun _ h => h) hdg (kk H locs ls hP hS hl)
theorem aw_getcN (X : aw_X G own cc nL ret nm al n0 d mc ms E) {o n ds host : String} {index q : Nat} {v : Value} (hE : va_OF o n ds v q (aw_own G) E.2.2.1 E.2.2.1.heap) (hlink : Cond.fieldLinkNest own index o n ds host ∈ aw_nest) (hdg : decode cc pc = .ok (.getfield index, 3)) (kk : AW G E nL nx cells slots w (pc + 3) lv (v :: rest)) : AW G E nL nx cells slots w pc lv (.ref q :: rest) := by
  intro H locs ls hP hS hl
  obtain ⟨cf, k, fi, f, cell, h1, h2, h3, h4, h5, h6⟩ := hE.kept hS.2.1
  exact va_Wgetf X.1 X.2.1 X.2.2.2.1 (va_Nw.use rfl (X.2.2.2.2.2.2.2.2.2.1.1 _ hlink)) h1 h2 h3 h4 (v := v) h5 rfl rfl hdg (kk H locs ls hP hS hl)

theorem aw_ishr (X : aw_X G own cc nL ret nm al n0 d mc ms E) {x y : Int32} (hdg : decode cc pc = .ok (.ishr, 1)) (k : AW G E nL nx cells slots w (pc + 1) lv (.int (x >>> (y &&& 31)) :: rest)) : AW G E nL nx cells slots w pc lv (.int y :: .int x :: rest) := fun H locs ls hP hS hl => lv_ishr X.1 X.2.1 hdg (k H locs ls hP hS hl)
/-- a virtual call whose receiver is a constant -/
theorem aw_callC (X : aw_X G own cc nL ret nm al n0 d mc ms E) {y : MethodName} {bytes : ByteArray} {maxL mc' ms' index d' : Nat} {rt : Option FieldType} {As : List Value} {post : Option Value → (Nat → va_E) → Nat → Prop} {al' : Bool} (bb : Nat) (hM : AC G y bytes maxL rt d' al' (.ref bb :: As) nx w mc' ms' post) (hq : aw_q1 y bytes maxL rt As.length) (hlink : Cond.methodLink own index y ∈ aw_tbl) (hin : Cond.instanceMethod y ∈ aw_tbl) (hsel : Cond.selects y.cls y y ∈ aw_tbl) (hO : va_O y.cls bb (aw_own G) E.2.2.1 E.2.2.1.heap) (hdg : decode cc pc = .ok (.invokevirtual index, 3)) (hd : d' + 1 ≤ d) (hst : (rest.map fun v => v.category).sum ≤ 8) (hf : cells + mc' ≤ mc ∧ slots + ms' ≤ ms) (has : al' = true → al = true ∧ nx = n0 + cells) (kk : ∀ (r : Option Value) (w' : Nat → va_E) (nx' : Nat), post r w' nx' → AW G E nL nx' (cells + mc') (slots + ms') w' (pc + 3) lv (r.toList ++ rest)) : AW G E nL nx cells slots w pc lv (As.reverse ++ .ref bb :: rest) := by
  obtain ⟨post0, hM, hpw⟩ := hM
  intro H locs ls hP hS hl T hT St
  have hpre := aw_pre X has hT St hP hS (.ref bb :: As)
  have hG := aw_gd hq.1
  have hyd := hq.2.2.1
  have hini := hq.2.1
  obtain ⟨hx, hb, hmx, hown, hts, -, -, -, hK, hKs, hbs, hsz, hRf, hRl, hRc, hRs⟩ := X
  refine (aw_core (post := post0) (a := (.ref bb :: As).toArray) (st0 := As.reverse ++ .ref bb :: rest) (ls := ls) ?_ hS hl (fun r w' nx' hp => kk r w' nx' (hpw _ _ _ hp))) T hT St
  exact va_runV (C := y.cls) (As := As) (rest := rest) ⟨hx, hb, hmx, hown, hts⟩ hM ⟨(callB_of As.length hts hG rfl rfl rfl (hts _ hini) (hts _ hlink) hyd ⟨by show d' + 1 ≤ _; omega, by have hml := hq.2.2.2; show 8 + (maxL + 11) + 40 * d' ≤ _; omega⟩), hts _ hin, hts _ hsel⟩ ⟨aw_blind, va_Orecv hO hS, hpre⟩ rfl rfl hl.1 rfl (lv_room hst) hdg ⟨Nat.le_trans hf.1 hRc, Nat.le_trans hf.2 hRs⟩
/-- a virtual call of a method that the receiver's class inherits; the receiver is a constant -/
theorem aw_callU (X : aw_X G own cc nL ret nm al n0 d mc ms E) {y : MethodName} {bytes : ByteArray} {maxL mc' ms' index d' : Nat} {rt : Option FieldType} {As : List Value} {post : Option Value → (Nat → va_E) → Nat → Prop} {al' : Bool} {x : MethodName} {owner : String} (C : String) (bb : Nat) (hM : AC G y bytes maxL rt d' al' (.ref bb :: As) nx w mc' ms' post) (hq : aw_q1 y bytes maxL rt As.length) (hyx : y = ⟨owner, x.name, x.desc⟩) (hx2 : owner ≠ "java/lang/invoke/MethodHandle" ∧ owner ≠ "java/lang/invoke/VarHandle" ∧ (parseMethodDescriptor x.desc).map (fun d => d.parameters.length) = some As.length) (hlink : Cond.methodLink own index x ∈ aw_tbl) (hsm : Cond.sameMethod x.cls owner x.name x.desc ∈ aw_tbl) (hin : Cond.instanceMethod y ∈ aw_tbl) (hsel : Cond.selects C x y ∈ aw_tbl) (hO : va_O C bb (aw_own G) E.2.2.1 E.2.2.1.heap) (hdg : decode cc pc = .ok (.invokevirtual index, 3)) (hd : d' + 1 ≤ d) (hst : (rest.map fun v => v.category).sum ≤ 8) (hf : cells + mc' ≤ mc ∧ slots + ms' ≤ ms) (has : al' = true → al = true ∧ nx = n0 + cells) (kk : ∀ (r : Option Value) (w' : Nat → va_E) (nx' : Nat), post r w' nx' → AW G E nL nx' (cells + mc') (slots + ms') w' (pc + 3) lv (r.toList ++ rest)) : AW G E nL nx cells slots w pc lv (As.reverse ++ .ref bb :: rest) := by
  obtain ⟨post0, hM, hpw⟩ := hM
  intro H locs ls hP hS hl T hT St
  have hpre := aw_pre X has hT St hP hS (.ref bb :: As)
  have hG := aw_gd hq.1
  have hini := hq.2.1
  obtain ⟨hx, hb, hmx, hown, hts, -, -, -, hK, hKs, hbs, hsz, hRf, hRl, hRc, hRs⟩ := X
  refine (aw_core (post := post0) (a := (.ref bb :: As).toArray) (st0 := As.reverse ++ .ref bb :: rest) (ls := ls) ?_ hS hl (fun r w' nx' hp => kk r w' nx' (hpw _ _ _ hp))) T hT St
  have hGU : GoodIn aw_tbl (va_wsU own index C owner x y (Cond.code y bytes maxL rt :: aw_tbl)) := fun z hz => by
    unfold va_wsU at hz
    rcases List.mem_append.mp hz with q | q
    · have q2 : z ∈ aw_tbl := by
        simp only [List.mem_cons, List.not_mem_nil, or_false] at q
        rcases q with rfl | rfl | rfl | rfl | rfl <;> assumption
      exact ⟨q2, good_of_word (List.mem_filter.mp q2).2⟩
    · exact hG z q
  exact va_runU (C := C) (owner := owner) (x := x) (As := As) (rest := rest) ⟨hx, hb, hmx, hown, hts⟩ hM (va_cwU As.length hts hGU rfl rfl rfl hyx hx2 ⟨by show d' + 1 ≤ _; omega, by have hml := hq.2.2.2; show 8 + (maxL + 11) + 40 * d' ≤ _; omega⟩) ⟨aw_blind, va_Orecv hO hS, hpre⟩ rfl rfl hl.1 rfl (lv_room hst) hdg ⟨Nat.le_trans hf.1 hRc, Nat.le_trans hf.2 hRs⟩
end AWCO
