/-! Offset worlds: what the run has made lies at b, b + 1, ..; a world is a function from the offset to the cell. -/
def aw_up (w : Nat → va_E) (a : Nat) (c : va_E) : Nat → va_E := fun x => cond (Nat.beq x a) c (w x)
theorem aw_up_if (w : Nat → va_E) (a : Nat) (c : va_E) (x : Nat) : aw_up w a c x = if x = a then c else w x := by
  unfold aw_up
  by_cases h : x = a
  · subst h; simp
  · cases hb : Nat.beq x a with
    | true => exact absurd (Nat.eq_of_beq_eq_true hb) h
    | false => rw [if_neg h]; rfl
theorem aw_up_eq (w : Nat → va_E) (a : Nat) (c : va_E) : aw_up w a c a = c := by rw [aw_up_if, if_pos rfl]
theorem aw_up_ne (w : Nat → va_E) {a x : Nat} (c : va_E) (h : x ≠ a) : aw_up w a c x = w x := by rw [aw_up_if, if_neg h]
def aw_ws (b nx : Nat) (w : Nat → va_E) : va_W := (List.range nx).map (fun i => (b + i, w i))
theorem aw_ws_len (b nx : Nat) (w : Nat → va_E) : (aw_ws b nx w).length = nx := by simp [aw_ws]
theorem aw_ws_get {b nx a : Nat} {w : Nat → va_E} (h : a < nx) : (aw_ws b nx w)[a]? = some (b + a, w a) := by
  simp [aw_ws, h]
theorem aw_ws_some {b nx a : Nat} {w : Nat → va_E} {q : Nat × va_E} (h : (aw_ws b nx w)[a]? = some q) : a < nx ∧ q = (b + a, w a) := by
  have h1 : a < (aw_ws b nx w).length := (List.getElem?_eq_some_iff.mp h).1
  rw [aw_ws_len] at h1
  rw [aw_ws_get h1] at h
  exact ⟨h1, (Option.some.inj h).symm⟩
theorem aw_ws_set {b nx a : Nat} {w : Nat → va_E} (c : va_E) (h : a < nx) : (aw_ws b nx w).set a (b + a, c) = aw_ws b nx (aw_up w a c) := by
  apply List.ext_getElem?
  intro i
  rw [List.getElem?_set]
  by_cases hi : i < nx
  · rw [aw_ws_get hi, aw_ws_get hi, aw_ws_len]
    by_cases h2 : a = i
    · subst h2
      simp [h, aw_up_eq]
    · rw [if_neg h2, aw_up_ne _ _ (Ne.symm h2)]
  · have e1 : (aw_ws b nx w)[i]? = none := by rw [List.getElem?_eq_none_iff, aw_ws_len]; omega
    have e2 : (aw_ws b nx (aw_up w a c))[i]? = none := by rw [List.getElem?_eq_none_iff, aw_ws_len]; omega
    rw [e1, e2, if_neg (by omega)]
theorem aw_ws_push {b nx : Nat} {w : Nat → va_E} (c : va_E) : aw_ws b nx w ++ [(b + nx, c)] = aw_ws b (nx + 1) (aw_up w nx c) := by
  apply List.ext_getElem?
  intro i
  by_cases hi : i < nx
  · rw [List.getElem?_append_left (by rw [aw_ws_len]; exact hi), aw_ws_get hi, aw_ws_get (by omega), aw_up_ne _ _ (by omega)]
  · rw [List.getElem?_append_right (by rw [aw_ws_len]; omega), aw_ws_len]
    by_cases h2 : i = nx
    · subst h2
      rw [aw_ws_get (by omega), aw_up_eq]
      simp
    · have e2 : (aw_ws b (nx + 1) (aw_up w nx c))[i]? = none := by rw [List.getElem?_eq_none_iff, aw_ws_len]; omega
      rw [e2, List.getElem?_eq_none_iff]
      simp
      omega
theorem aw_D0 {b nx : Nat} {w : Nat → va_E} : va_D (fun q => b ≤ q) (aw_ws b nx w) := by
  refine ⟨fun i j x y hi hj e => ?_, fun k q h => ?_⟩
  · obtain ⟨-, rfl⟩ := aw_ws_some hi
    obtain ⟨-, rfl⟩ := aw_ws_some hj
    have : b + i = b + j := e
    omega
  · obtain ⟨-, rfl⟩ := aw_ws_some h
    exact Nat.le_add_right _ _
def aw_lg : List (Nat × Value) → Nat → Option Value
  | [], _ => none
  | q :: r, i => cond (Nat.beq q.1 i) (some q.2) (aw_lg r i)
theorem aw_lg_mem : ∀ {lv : List (Nat × Value)} {i : Nat} {v : Value}, aw_lg lv i = some v → (i, v) ∈ lv
  | [], i, v, h => by simp [aw_lg] at h
  | q :: r, i, v, h => by
    obtain ⟨a, u⟩ := q
    have h' : cond (Nat.beq a i) (some u) (aw_lg r i) = some v := h
    cases hq : Nat.beq a i with
    | true =>
      rw [hq] at h'
      have e1 : a = i := Nat.eq_of_beq_eq_true hq
      have e2 : u = v := Option.some.inj h'
      subst e1; subst e2
      exact List.mem_cons_self
    | false =>
      rw [hq] at h'
      exact List.mem_cons_of_mem _ (aw_lg_mem h')
theorem aw_la {ls : Array Slot} {nL : Nat} {lv : List (Nat × Value)} (h : lv_has ls nL lv) {i : Nat} {v : Value} (hk : aw_lg lv i = some v) : ls[i]? = some (.val v) := h.2.2 (i, v) (aw_lg_mem hk)
def aObj (ci : Nat) (fs : List Value) : va_E := .inr (ci, fs)
def aArr (cA : ClassId) (n : Nat) (g : Nat → Nat) : va_E := .inl (cA, n, .inl (fun j => nI (g j)))
def aLong (cA : ClassId) (n : Nat) (f : Nat → Int64) : va_E := .inl (cA, n, .inr (.inl f))
def aRefs (cA : ClassId) (n : Nat) (f : Nat → Option Nat) : va_E := .inl (cA, n, .inr (.inr (.inr (.inr f))))
/-- a method's frame on the machine -/
abbrev aw_E : Type := Program × Env × State × MethodId × Array Value × List Frame × Method × Code × Room × (State → Prop)
def rf (G : aw_G) (a : Nat) : Value := .ref (G.2.2.1 + a)
theorem aw_D {G : aw_G} {nx : Nat} {w : Nat → va_E} : va_D (aw_own G) (aw_ws G.2.2.1 nx w) := aw_D0
/-- what a method's frame is given: the machine, its own code, the words of the tables -/
def aw_X (G : aw_G) (own : String) (cc : ByteArray) (nL : Nat) (ret : Option FieldType) (nm : String) (al : Bool) (n0 d mc ms : Nat) (E : aw_E) : Prop :=
  E.1.tables.exec = Jvm.exec ∧ E.2.2.2.2.2.2.2.1.code = cc ∧ E.2.2.2.2.2.2.2.1.maxLocals = nL ∧ E.2.2.1.vm.findClass own = some E.2.2.2.1.cls ∧ (∀ w ∈ aw_tbl, w.before E.2.2.2.2.1 E.2.2.1 = true) ∧ E.2.2.2.2.2.2.1.sig.returnType = ret ∧ E.2.2.2.2.2.2.1.locks = false ∧ E.2.2.2.2.2.2.1.name = nm ∧ va_K G.2.1 classes (aw_tys G) E.2.2.1 ∧ aw_K G E.2.2.1 ∧ G.2.2.1 ≤ E.2.2.1.heap.size ∧ (al = true → E.2.2.1.heap.size = G.2.2.1 + n0) ∧ d ≤ E.2.2.2.2.2.2.2.2.1.frames ∧ 40 * d ≤ E.2.2.2.2.2.2.2.2.1.locals ∧ mc ≤ E.2.2.2.2.2.2.2.2.1.cells ∧ ms ≤ E.2.2.2.2.2.2.2.2.1.slots
abbrev aw_R (d mc ms : Nat) : Room := { frames := d, cells := mc, slots := ms, locals := 40 * d }
def aw_Qc (G : aw_G) (post : Option Value → (Nat → va_E) → Nat → Prop) : Array Value → State → Outcome → State → Prop := fun _ st oc t =>
  (∃ (r : Option Value) (w' : Nat → va_E) (nx' : Nat), oc = .returned r ∧ post r w' nx' ∧ va_P G.2.1 classes (aw_ws G.2.2.1 nx' w') t.heap) ∧ va_F (aw_own G) st t
/-- the frame's walk: from here on the method returns, with an answer and a world that P allows -/
def AW (G : aw_G) (E : aw_E) (nL nx cells slots : Nat) (w : Nat → va_E) (pc : Nat) (lv : List (Nat × Value)) (st : List Value) : Prop :=
  ∀ (H : Heap) (locs : List Loc) (ls : Array Slot), va_P G.2.1 classes (aw_ws G.2.2.1 nx w) H → va_S (aw_own G) E.2.2.1.heap H locs → lv_has ls nL lv → W E.1 G.1 E.2.1 E.2.2.2.2.2.2.2.2.1 E.2.2.1 E.2.2.2.1 E.2.2.2.2.1 E.2.2.2.2.2.1 E.2.2.2.2.2.2.1 E.2.2.2.2.2.2.2.1 H locs cells slots E.2.2.2.2.2.2.2.2.2 (F0 E.2.2.2.1 pc ls st)
/-- the frame's end is a contract's -/
def aw_Y (G : aw_G) (P : Option Value → (Nat → va_E) → Nat → Prop) (mc ms : Nat) (E : aw_E) : Prop := E.2.2.2.2.2.2.2.2.2 = MQ E.2.2.2.2.2.1 (aw_Qc G P) E.2.2.2.2.1 E.2.2.1 mc ms (aw_own G)
/-- a contract over offset worlds -/
def aw_Pc (G : aw_G) (al : Bool) (a : List Value) (nx : Nat) (w : Nat → va_E) : Array Value → State → Prop :=
  va_Pc a (fun U => (al = true → U.heap.size = G.2.2.1 + nx) ∧ va_P G.2.1 classes (aw_ws G.2.2.1 nx w) U.heap ∧ va_K G.2.1 classes (aw_tys G) U ∧ aw_K G U ∧ G.2.2.1 ≤ U.heap.size)
def AC0 (G : aw_G) (y : MethodName) (cc : ByteArray) (nL : Nat) (ret : Option FieldType) (d : Nat) (al : Bool) (a : List Value) (nx : Nat) (w : Nat → va_E) (mc ms : Nat) (post : Option Value → (Nat → va_E) → Nat → Prop) : Prop :=
  Met G.1 y (Cond.code y cc nL ret :: aw_tbl) (aw_R d mc ms) (aw_Pc G al a nx w) (aw_Qc G post) mc ms (aw_own G)
def AC (G : aw_G) (y : MethodName) (cc : ByteArray) (nL : Nat) (ret : Option FieldType) (d : Nat) (al : Bool) (a : List Value) (nx : Nat) (w : Nat → va_E) (mc ms : Nat) (post : Option Value → (Nat → va_E) → Nat → Prop) : Prop :=
  ∃ post0 : Option Value → (Nat → va_E) → Nat → Prop, AC0 G y cc nL ret d al a nx w mc ms post0 ∧ ∀ r w' nx', post0 r w' nx' → post r w' nx'
theorem AC.weak {G : aw_G} {y : MethodName} {cc : ByteArray} {nL : Nat} {ret : Option FieldType} {d : Nat} {al : Bool} {a : List Value} {nx : Nat} {w : Nat → va_E} {mc ms : Nat} {post post' : Option Value → (Nat → va_E) → Nat → Prop} (h : AC G y cc nL ret d al a nx w mc ms post) (hw : ∀ r w' nx', post r w' nx' → post' r w' nx') : AC G y cc nL ret d al a nx w mc ms post' := by
  obtain ⟨p0, h1, h2⟩ := h
  exact ⟨p0, h1, fun r w' nx' h => hw _ _ _ (h2 _ _ _ h)⟩
theorem aw_blind {G : aw_G} {al : Bool} {a : List Value} {nx : Nat} {w : Nat → va_E} : FrameBlind (aw_Pc G al a nx w) := by
  intro a' U g mk h
  obtain ⟨h1, h2, h3, h4, h5, h6⟩ := h
  exact ⟨h1, h2, h3, va_K.moved (u := U) (U := U.calling g mk a') (Vm.Alike.refl U.vm) h4, aw_Kk (u := U) (U := U.calling g mk a') (State.WarmedH.refl U) (Nat.le_refl _) (fun _ _ _ => rfl) h5, h6⟩

section AWS
variable {G : aw_G} {E : aw_E} {P : Option Value → (Nat → va_E) → Nat → Prop} {nL d mc ms nx n0 cells slots pc : Nat} {al : Bool} {w : Nat → va_E} {lv : List (Nat × Value)} {rest : List Value} {own nm : String} {cc : ByteArray} {ret : Option FieldType}
theorem AW.of {lv' : List (Nat × Value)} {rest' : List Value} {w' : Nat → va_E} {nx' cells' slots' : Nat} (h1 : nx = nx') (h3 : cells = cells') (h4 : slots = slots') (h5 : w = w') (h6 : lv = lv') (h7 : rest = rest') (k : AW G E nL nx' cells' slots' w' pc lv' rest') : AW G E nL nx cells slots w pc lv rest := by
  subst h1; subst h3; subst h4; subst h5; subst h6; subst h7; exact k
theorem AW.eqw {w' : Nat → va_E} (h : w = w') (k : AW G E nL nx cells slots w' pc lv rest) : AW G E nL nx cells slots w pc lv rest := h ▸ k
theorem AW.eql {lv' : List (Nat × Value)} (h : lv = lv') (k : AW G E nL nx cells slots w pc lv' rest) : AW G E nL nx cells slots w pc lv rest := h ▸ k
theorem AW.lsub (ks : List Nat) {lv' : List (Nat × Value)} (h : lv_pick lv ks = lv') (k : AW G E nL nx cells slots w pc lv' rest) : AW G E nL nx cells slots w pc lv rest := fun H locs ls hP hS hl => k H locs ls hP hS (lv_sub hl ks h)
theorem AW.wide {k n : Nat} (h1 : cells ≤ k) (h2 : slots ≤ n) (kk : AW G E nL nx k n w pc lv rest) : AW G E nL nx cells slots w pc lv rest := fun H locs ls hP hS hl => W.widen h1 h2 (kk H locs ls hP hS hl)
/-- a contract by a walk of the body -/
theorem AC.ofW {y : MethodName} {a : List Value} {post : Option Value → (Nat → va_E) → Nat → Prop} (hy : plainName y.cls = true) (ha : (lg_sl a).length ≤ nL)
    (body : ∀ (E : aw_E) (P : Option Value → (Nat → va_E) → Nat → Prop), (∀ r w' nx', post r w' nx' → P r w' nx') → aw_Y G P mc ms E → aw_X G y.cls cc nL ret y.name al nx d mc ms E → AW G E nL nx 0 0 w 0 (lv_args 0 a) []) : AC G y cc nL ret d al a nx w mc ms post := by
  refine ⟨post, ?_, fun _ _ _ h => h⟩
  refine Met.ofW (cc := cc) (maxL := nL) (ret := ret) hy rfl ?_
  intro p e s m args below meth c s₁ B hml hv
  obtain ⟨rfl, hsz, hP, hK, hKs, hbs⟩ := hv
  have hown : s.vm.findClass y.cls = some m.cls := findClass_of_methodNamed B.named
  have hin : meth.name = y.name := (name_of_methodNamed B.named B.method).1
  have hl := lv_entry a (n := nL) ha
  rw [lg_entry_eq]
  exact body (p, e, s, m, a.toArray, below, meth, c, aw_R d mc ms, MQ below (aw_Qc G post) a.toArray s mc ms (aw_own G)) post (fun _ _ _ h => h) rfl ⟨B.exec, B.bytes, hml, hown, fun w h => atoms_spec (ws := Cond.code y cc nL ret :: aw_tbl) B.pre w (List.mem_cons_of_mem _ h), B.returns, B.notSynchronized, hin, hK, hKs, hbs, hsz, Nat.le_refl _, Nat.le_refl _, Nat.le_refl _, Nat.le_refl _⟩ s.heap [] _ hP va_S.rf hl

theorem aw_iconst (X : aw_X G own cc nL ret nm al n0 d mc ms E) {n : Int} {v : Int32} (hdg : decode cc pc = .ok (.iconst n, 1)) (hv : Int32.ofInt n = v) (k : AW G E nL nx cells slots w (pc + 1) lv (.int v :: rest)) : AW G E nL nx cells slots w pc lv rest := fun H locs ls hP hS hl => lv_iconst X.1 X.2.1 hdg hv (k H locs ls hP hS hl)
theorem aw_bipush (X : aw_X G own cc nL ret nm al n0 d mc ms E) {n : Int} {v : Int32} (hdg : decode cc pc = .ok (.bipush n, 2)) (hv : (Int8.ofInt n).toInt32 = v) (k : AW G E nL nx cells slots w (pc + 2) lv (.int v :: rest)) : AW G E nL nx cells slots w pc lv rest := fun H locs ls hP hS hl => lv_bipush X.1 X.2.1 hdg hv (k H locs ls hP hS hl)
theorem aw_sipush (X : aw_X G own cc nL ret nm al n0 d mc ms E) {n : Int} {v : Int32} (hdg : decode cc pc = .ok (.sipush n, 3)) (hv : (Int16.ofInt n).toInt32 = v) (k : AW G E nL nx cells slots w (pc + 3) lv (.int v :: rest)) : AW G E nL nx cells slots w pc lv rest := fun H locs ls hP hS hl => lv_sipush X.1 X.2.1 hdg hv (k H locs ls hP hS hl)
theorem aw_lconst (X : aw_X G own cc nL ret nm al n0 d mc ms E) {n : Fin 2} {v : Int64} (hdg : decode cc pc = .ok (.lconst n, 1)) (hv : Int64.ofNat n = v) (k : AW G E nL nx cells slots w (pc + 1) lv (.long v :: rest)) : AW G E nL nx cells slots w pc lv rest := fun H locs ls hP hS hl => lv_lconst X.1 X.2.1 hdg hv (k H locs ls hP hS hl)
theorem aw_iadd (X : aw_X G own cc nL ret nm al n0 d mc ms E) {x y : Int32} (hdg : decode cc pc = .ok (.iadd, 1))  (k : AW G E nL nx cells slots w (pc + 1) lv (.int (x + y) :: rest)) : AW G E nL nx cells slots w pc lv (.int y :: .int x :: rest) := fun H locs ls hP hS hl => lv_iadd X.1 X.2.1 hdg  (k H locs ls hP hS hl)
theorem aw_isub (X : aw_X G own cc nL ret nm al n0 d mc ms E) {x y : Int32} (hdg : decode cc pc = .ok (.isub, 1))  (k : AW G E nL nx cells slots w (pc + 1) lv (.int (x - y) :: rest)) : AW G E nL nx cells slots w pc lv (.int y :: .int x :: rest) := fun H locs ls hP hS hl => lv_isub X.1 X.2.1 hdg  (k H locs ls hP hS hl)
theorem aw_imul (X : aw_X G own cc nL ret nm al n0 d mc ms E) {x y : Int32} (hdg : decode cc pc = .ok (.imul, 1))  (k : AW G E nL nx cells slots w (pc + 1) lv (.int (x * y) :: rest)) : AW G E nL nx cells slots w pc lv (.int y :: .int x :: rest) := fun H locs ls hP hS hl => lv_imul X.1 X.2.1 hdg  (k H locs ls hP hS hl)
theorem aw_iand (X : aw_X G own cc nL ret nm al n0 d mc ms E) {x y : Int32} (hdg : decode cc pc = .ok (.iand, 1))  (k : AW G E nL nx cells slots w (pc + 1) lv (.int (x &&& y) :: rest)) : AW G E nL nx cells slots w pc lv (.int y :: .int x :: rest) := fun H locs ls hP hS hl => lv_iand X.1 X.2.1 hdg  (k H locs ls hP hS hl)
theorem aw_ior (X : aw_X G own cc nL ret nm al n0 d mc ms E) {x y : Int32} (hdg : decode cc pc = .ok (.ior, 1))  (k : AW G E nL nx cells slots w (pc + 1) lv (.int (x ||| y) :: rest)) : AW G E nL nx cells slots w pc lv (.int y :: .int x :: rest) := fun H locs ls hP hS hl => lv_ior X.1 X.2.1 hdg  (k H locs ls hP hS hl)
theorem aw_ixor (X : aw_X G own cc nL ret nm al n0 d mc ms E) {x y : Int32} (hdg : decode cc pc = .ok (.ixor, 1))  (k : AW G E nL nx cells slots w (pc + 1) lv (.int (x ^^^ y) :: rest)) : AW G E nL nx cells slots w pc lv (.int y :: .int x :: rest) := fun H locs ls hP hS hl => lv_ixor X.1 X.2.1 hdg  (k H locs ls hP hS hl)
theorem aw_ladd (X : aw_X G own cc nL ret nm al n0 d mc ms E) {x y : Int64} (hdg : decode cc pc = .ok (.ladd, 1))  (k : AW G E nL nx cells slots w (pc + 1) lv (.long (x + y) :: rest)) : AW G E nL nx cells slots w pc lv (.long y :: .long x :: rest) := fun H locs ls hP hS hl => lv_ladd X.1 X.2.1 hdg  (k H locs ls hP hS hl)
theorem aw_lsub (X : aw_X G own cc nL ret nm al n0 d mc ms E) {x y : Int64} (hdg : decode cc pc = .ok (.lsub, 1))  (k : AW G E nL nx cells slots w (pc + 1) lv (.long (x - y) :: rest)) : AW G E nL nx cells slots w pc lv (.long y :: .long x :: rest) := fun H locs ls hP hS hl => lv_lsub X.1 X.2.1 hdg  (k H locs ls hP hS hl)
theorem aw_lmul (X : aw_X G own cc nL ret nm al n0 d mc ms E) {x y : Int64} (hdg : decode cc pc = .ok (.lmul, 1))  (k : AW G E nL nx cells slots w (pc + 1) lv (.long (x * y) :: rest)) : AW G E nL nx cells slots w pc lv (.long y :: .long x :: rest) := fun H locs ls hP hS hl => lv_lmul X.1 X.2.1 hdg  (k H locs ls hP hS hl)
theorem aw_land (X : aw_X G own cc nL ret nm al n0 d mc ms E) {x y : Int64} (hdg : decode cc pc = .ok (.land, 1))  (k : AW G E nL nx cells slots w (pc + 1) lv (.long (x &&& y) :: rest)) : AW G E nL nx cells slots w pc lv (.long y :: .long x :: rest) := fun H locs ls hP hS hl => lv_land X.1 X.2.1 hdg  (k H locs ls hP hS hl)
theorem aw_lor (X : aw_X G own cc nL ret nm al n0 d mc ms E) {x y : Int64} (hdg : decode cc pc = .ok (.lor, 1))  (k : AW G E nL nx cells slots w (pc + 1) lv (.long (x ||| y) :: rest)) : AW G E nL nx cells slots w pc lv (.long y :: .long x :: rest) := fun H locs ls hP hS hl => lv_lor X.1 X.2.1 hdg  (k H locs ls hP hS hl)
theorem aw_lxor (X : aw_X G own cc nL ret nm al n0 d mc ms E) {x y : Int64} (hdg : decode cc pc = .ok (.lxor, 1))  (k : AW G E nL nx cells slots w (pc + 1) lv (.long (x ^^^ y) :: rest)) : AW G E nL nx cells slots w pc lv (.long y :: .long x :: rest) := fun H locs ls hP hS hl => lv_lxor X.1 X.2.1 hdg  (k H locs ls hP hS hl)
theorem aw_idiv (X : aw_X G own cc nL ret nm al n0 d mc ms E) {x y : Int32} (hdg : decode cc pc = .ok (.idiv, 1)) (hne : ¬ y = 0) (k : AW G E nL nx cells slots w (pc + 1) lv (.int (x / y) :: rest)) : AW G E nL nx cells slots w pc lv (.int y :: .int x :: rest) := fun H locs ls hP hS hl => lv_idiv X.1 X.2.1 hdg hne (k H locs ls hP hS hl)
theorem aw_irem (X : aw_X G own cc nL ret nm al n0 d mc ms E) {x y : Int32} (hdg : decode cc pc = .ok (.irem, 1)) (hne : ¬ y = 0) (k : AW G E nL nx cells slots w (pc + 1) lv (.int (x - x / y * y) :: rest)) : AW G E nL nx cells slots w pc lv (.int y :: .int x :: rest) := fun H locs ls hP hS hl => lv_irem X.1 X.2.1 hdg hne (k H locs ls hP hS hl)
theorem aw_ldiv (X : aw_X G own cc nL ret nm al n0 d mc ms E) {x y : Int64} (hdg : decode cc pc = .ok (.ldiv, 1)) (hne : ¬ y = 0) (k : AW G E nL nx cells slots w (pc + 1) lv (.long (x / y) :: rest)) : AW G E nL nx cells slots w pc lv (.long y :: .long x :: rest) := fun H locs ls hP hS hl => lv_ldiv X.1 X.2.1 hdg hne (k H locs ls hP hS hl)
theorem aw_lrem (X : aw_X G own cc nL ret nm al n0 d mc ms E) {x y : Int64} (hdg : decode cc pc = .ok (.lrem, 1)) (hne : ¬ y = 0) (k : AW G E nL nx cells slots w (pc + 1) lv (.long (x - x / y * y) :: rest)) : AW G E nL nx cells slots w pc lv (.long y :: .long x :: rest) := fun H locs ls hP hS hl => lv_lrem X.1 X.2.1 hdg hne (k H locs ls hP hS hl)
theorem aw_ineg (X : aw_X G own cc nL ret nm al n0 d mc ms E) {x : Int32} (hdg : decode cc pc = .ok (.ineg, 1))  (k : AW G E nL nx cells slots w (pc + 1) lv (.int (-x) :: rest)) : AW G E nL nx cells slots w pc lv (.int x :: rest) := fun H locs ls hP hS hl => lv_ineg X.1 X.2.1 hdg  (k H locs ls hP hS hl)
theorem aw_lneg (X : aw_X G own cc nL ret nm al n0 d mc ms E) {x : Int64} (hdg : decode cc pc = .ok (.lneg, 1))  (k : AW G E nL nx cells slots w (pc + 1) lv (.long (-x) :: rest)) : AW G E nL nx cells slots w pc lv (.long x :: rest) := fun H locs ls hP hS hl => lv_lneg X.1 X.2.1 hdg  (k H locs ls hP hS hl)
theorem aw_i2l (X : aw_X G own cc nL ret nm al n0 d mc ms E) {x : Int32} (hdg : decode cc pc = .ok (.i2l, 1))  (k : AW G E nL nx cells slots w (pc + 1) lv (.long x.toInt64 :: rest)) : AW G E nL nx cells slots w pc lv (.int x :: rest) := fun H locs ls hP hS hl => lv_i2l X.1 X.2.1 hdg rfl (k H locs ls hP hS hl)
theorem aw_l2i (X : aw_X G own cc nL ret nm al n0 d mc ms E) {x : Int64} (hdg : decode cc pc = .ok (.l2i, 1))  (k : AW G E nL nx cells slots w (pc + 1) lv (.int x.toInt32 :: rest)) : AW G E nL nx cells slots w pc lv (.long x :: rest) := fun H locs ls hP hS hl => lv_l2i X.1 X.2.1 hdg rfl (k H locs ls hP hS hl)
theorem aw_i2c (X : aw_X G own cc nL ret nm al n0 d mc ms E) {x : Int32} (hdg : decode cc pc = .ok (.i2c, 1))  (k : AW G E nL nx cells slots w (pc + 1) lv (.int (x.toUInt32 % 65536).toInt32 :: rest)) : AW G E nL nx cells slots w pc lv (.int x :: rest) := fun H locs ls hP hS hl => lv_i2c X.1 X.2.1 hdg rfl (k H locs ls hP hS hl)
theorem aw_lshr (X : aw_X G own cc nL ret nm al n0 d mc ms E) {x : Int64} {y : Int32} (hdg : decode cc pc = .ok (.lshr, 1))  (k : AW G E nL nx cells slots w (pc + 1) lv (.long (x >>> (y.toInt64 &&& 63)) :: rest)) : AW G E nL nx cells slots w pc lv (.int y :: .long x :: rest) := fun H locs ls hP hS hl => lv_lshr X.1 X.2.1 hdg rfl (k H locs ls hP hS hl)
theorem aw_dup (X : aw_X G own cc nL ret nm al n0 d mc ms E) {va : Value} (hdg : decode cc pc = .ok (.dup, 1)) (hva : va.category = 1) (k : AW G E nL nx cells slots w (pc + 1) lv (va :: va :: rest)) : AW G E nL nx cells slots w pc lv (va :: rest) := fun H locs ls hP hS hl => lv_dup X.1 X.2.1 hdg hva (k H locs ls hP hS hl)
theorem aw_pop (X : aw_X G own cc nL ret nm al n0 d mc ms E) {va : Value} (hdg : decode cc pc = .ok (.pop, 1)) (hva : va.category = 1) (k : AW G E nL nx cells slots w (pc + 1) lv rest) : AW G E nL nx cells slots w pc lv (va :: rest) := fun H locs ls hP hS hl => lv_pop X.1 X.2.1 hdg hva (k H locs ls hP hS hl)
theorem aw_dup_x1 (X : aw_X G own cc nL ret nm al n0 d mc ms E) {va vb : Value} (hdg : decode cc pc = .ok (.dup_x1, 1)) (hva : va.category = 1) (hvb : vb.category = 1) (k : AW G E nL nx cells slots w (pc + 1) lv (va :: vb :: va :: rest)) : AW G E nL nx cells slots w pc lv (va :: vb :: rest) := fun H locs ls hP hS hl => lv_dup_x1 X.1 X.2.1 hdg hva hvb (k H locs ls hP hS hl)
theorem aw_dup_x2 (X : aw_X G own cc nL ret nm al n0 d mc ms E) {va vb vd : Value} (hdg : decode cc pc = .ok (.dup_x2, 1)) (hva : va.category = 1) (hvb : vb.category = 1) (hvd : vd.category = 1) (k : AW G E nL nx cells slots w (pc + 1) lv (va :: vb :: vd :: va :: rest)) : AW G E nL nx cells slots w pc lv (va :: vb :: vd :: rest) := fun H locs ls hP hS hl => lv_dup_x2 X.1 X.2.1 hdg hva hvb hvd (k H locs ls hP hS hl)
theorem aw_dup2 (X : aw_X G own cc nL ret nm al n0 d mc ms E) {va vb : Value} (hdg : decode cc pc = .ok (.dup2, 1)) (hva : va.category = 1) (hvb : vb.category = 1) (k : AW G E nL nx cells slots w (pc + 1) lv (va :: vb :: va :: vb :: rest)) : AW G E nL nx cells slots w pc lv (va :: vb :: rest) := fun H locs ls hP hS hl => lv_dup2_11 X.1 X.2.1 hdg hva hvb (k H locs ls hP hS hl)
theorem aw_dup2L (X : aw_X G own cc nL ret nm al n0 d mc ms E) {va : Value} (hdg : decode cc pc = .ok (.dup2, 1)) (hva : va.category = 2) (k : AW G E nL nx cells slots w (pc + 1) lv (va :: va :: rest)) : AW G E nL nx cells slots w pc lv (va :: rest) := fun H locs ls hP hS hl => lv_dup2_2 X.1 X.2.1 hdg hva (k H locs ls hP hS hl)
theorem aw_pop2L (X : aw_X G own cc nL ret nm al n0 d mc ms E) {va : Value} (hdg : decode cc pc = .ok (.pop2, 1)) (hva : va.category = 2) (k : AW G E nL nx cells slots w (pc + 1) lv rest) : AW G E nL nx cells slots w pc lv (va :: rest) := fun H locs ls hP hS hl => lv_pop2_2 X.1 X.2.1 hdg hva (k H locs ls hP hS hl)
theorem aw_null (X : aw_X G own cc nL ret nm al n0 d mc ms E)  (hdg : decode cc pc = .ok (.aconst_null, 1))  (k : AW G E nL nx cells slots w (pc + 1) lv (.null :: rest)) : AW G E nL nx cells slots w pc lv rest := fun H locs ls hP hS hl => lv_null X.1 X.2.1 hdg  (k H locs ls hP hS hl)
theorem aw_iload_n (X : aw_X G own cc nL ret nm al n0 d mc ms E) {k : Fin 4} {x : Int32} (hdg : decode cc pc = .ok (.iload_n k, 1)) (hv : aw_lg lv k = some (.int x)) (kk : AW G E nL nx cells slots w (pc + 1) lv (.int x :: rest)) : AW G E nL nx cells slots w pc lv rest := fun H locs ls hP hS hl => lv_iload_n X.1 X.2.1 hdg rfl (aw_la hl hv) (kk H locs ls hP hS hl)
theorem aw_iload (X : aw_X G own cc nL ret nm al n0 d mc ms E) {i : Nat} {x : Int32} (hdg : decode cc pc = .ok (.iload i, 2)) (hv : aw_lg lv i = some (.int x)) (kk : AW G E nL nx cells slots w (pc + 2) lv (.int x :: rest)) : AW G E nL nx cells slots w pc lv rest := fun H locs ls hP hS hl => lv_iload X.1 X.2.1 hdg (aw_la hl hv) (kk H locs ls hP hS hl)
theorem aw_lload_n (X : aw_X G own cc nL ret nm al n0 d mc ms E) {k : Fin 4} {x : Int64} (hdg : decode cc pc = .ok (.lload_n k, 1)) (hv : aw_lg lv k = some (.long x)) (kk : AW G E nL nx cells slots w (pc + 1) lv (.long x :: rest)) : AW G E nL nx cells slots w pc lv rest := fun H locs ls hP hS hl => lv_lload_n X.1 X.2.1 hdg rfl (aw_la hl hv) (kk H locs ls hP hS hl)
theorem aw_lload (X : aw_X G own cc nL ret nm al n0 d mc ms E) {i : Nat} {x : Int64} (hdg : decode cc pc = .ok (.lload i, 2)) (hv : aw_lg lv i = some (.long x)) (kk : AW G E nL nx cells slots w (pc + 2) lv (.long x :: rest)) : AW G E nL nx cells slots w pc lv rest := fun H locs ls hP hS hl => lv_lload X.1 X.2.1 hdg (aw_la hl hv) (kk H locs ls hP hS hl)
theorem aw_aload_n (X : aw_X G own cc nL ret nm al n0 d mc ms E) {k : Fin 4} {x : Nat} (hdg : decode cc pc = .ok (.aload_n k, 1)) (hv : aw_lg lv k = some (.ref x)) (kk : AW G E nL nx cells slots w (pc + 1) lv (.ref x :: rest)) : AW G E nL nx cells slots w pc lv rest := fun H locs ls hP hS hl => lv_aload_n X.1 X.2.1 hdg rfl (aw_la hl hv) (kk H locs ls hP hS hl)
theorem aw_aload (X : aw_X G own cc nL ret nm al n0 d mc ms E) {i : Nat} {x : Nat} (hdg : decode cc pc = .ok (.aload i, 2)) (hv : aw_lg lv i = some (.ref x)) (kk : AW G E nL nx cells slots w (pc + 2) lv (.ref x :: rest)) : AW G E nL nx cells slots w pc lv rest := fun H locs ls hP hS hl => lv_aload X.1 X.2.1 hdg (aw_la hl hv) (kk H locs ls hP hS hl)
theorem aw_aload_nR (X : aw_X G own cc nL ret nm al n0 d mc ms E) {k : Fin 4} {a : Nat} (hdg : decode cc pc = .ok (.aload_n k, 1)) (hv : aw_lg lv k = some (rf G a)) (kk : AW G E nL nx cells slots w (pc + 1) lv (rf G a :: rest)) : AW G E nL nx cells slots w pc lv rest := fun H locs ls hP hS hl => lv_aload_n X.1 X.2.1 hdg rfl (aw_la hl hv) (kk H locs ls hP hS hl)
theorem aw_aloadR (X : aw_X G own cc nL ret nm al n0 d mc ms E) {i a : Nat} (hdg : decode cc pc = .ok (.aload i, 2)) (hv : aw_lg lv i = some (rf G a)) (kk : AW G E nL nx cells slots w (pc + 2) lv (rf G a :: rest)) : AW G E nL nx cells slots w pc lv rest := fun H locs ls hP hS hl => lv_aload X.1 X.2.1 hdg (aw_la hl hv) (kk H locs ls hP hS hl)
theorem aw_aload_nN (X : aw_X G own cc nL ret nm al n0 d mc ms E) {k : Fin 4} (hdg : decode cc pc = .ok (.aload_n k, 1)) (hv : aw_lg lv k = some .null) (kk : AW G E nL nx cells slots w (pc + 1) lv (.null :: rest)) : AW G E nL nx cells slots w pc lv rest := fun H locs ls hP hS hl => lv_aload_nN X.1 X.2.1 hdg rfl (aw_la hl hv) (kk H locs ls hP hS hl)
theorem aw_aloadN (X : aw_X G own cc nL ret nm al n0 d mc ms E) {i : Nat} (hdg : decode cc pc = .ok (.aload i, 2)) (hv : aw_lg lv i = some .null) (kk : AW G E nL nx cells slots w (pc + 2) lv (.null :: rest)) : AW G E nL nx cells slots w pc lv rest := fun H locs ls hP hS hl => lv_aloadN X.1 X.2.1 hdg (aw_la hl hv) (kk H locs ls hP hS hl)
theorem aw_istore_n (X : aw_X G own cc nL ret nm al n0 d mc ms E) {k : Fin 4} {x : Int32} {lv' : List (Nat × Value)} (hdg : decode cc pc = .ok (.istore_n k, 1)) (hn : ((k : Nat) < nL)) (h : ((k : Nat), Value.int x) :: lv.filter (fun q => !(q.1 == (k : Nat)) && !(q.1 + 1 == (k : Nat) && q.2.category == 2)) = lv') (kk : AW G E nL nx cells slots w (pc + 1) lv' rest) : AW G E nL nx cells slots w pc lv (.int x :: rest) := fun H locs ls hP hS hl => lv_istore_n X.1 X.2.1 hdg rfl hl hn h (fun ls' hl' => kk H locs ls' hP hS hl')
theorem aw_istore (X : aw_X G own cc nL ret nm al n0 d mc ms E) {i : Nat} {x : Int32} {lv' : List (Nat × Value)} (hdg : decode cc pc = .ok (.istore i, 2)) (hn : (i < nL)) (h : (i, Value.int x) :: lv.filter (fun q => !(q.1 == i) && !(q.1 + 1 == i && q.2.category == 2)) = lv') (kk : AW G E nL nx cells slots w (pc + 2) lv' rest) : AW G E nL nx cells slots w pc lv (.int x :: rest) := fun H locs ls hP hS hl => lv_istore X.1 X.2.1 hdg hl hn h (fun ls' hl' => kk H locs ls' hP hS hl')
theorem aw_lstore_n (X : aw_X G own cc nL ret nm al n0 d mc ms E) {k : Fin 4} {x : Int64} {lv' : List (Nat × Value)} (hdg : decode cc pc = .ok (.lstore_n k, 1)) (hn : ((k : Nat) + 1 < nL)) (h : ((k : Nat), Value.long x) :: lv.filter (fun q => !(q.1 == (k : Nat)) && (!(q.1 == (k : Nat) + 1) && !(q.1 + 1 == (k : Nat) && q.2.category == 2))) = lv') (kk : AW G E nL nx cells slots w (pc + 1) lv' rest) : AW G E nL nx cells slots w pc lv (.long x :: rest) := fun H locs ls hP hS hl => lv_lstore_n X.1 X.2.1 hdg rfl hl hn h (fun ls' hl' => kk H locs ls' hP hS hl')
theorem aw_lstore (X : aw_X G own cc nL ret nm al n0 d mc ms E) {i : Nat} {x : Int64} {lv' : List (Nat × Value)} (hdg : decode cc pc = .ok (.lstore i, 2)) (hn : (i + 1 < nL)) (h : (i, Value.long x) :: lv.filter (fun q => !(q.1 == i) && (!(q.1 == i + 1) && !(q.1 + 1 == i && q.2.category == 2))) = lv') (kk : AW G E nL nx cells slots w (pc + 2) lv' rest) : AW G E nL nx cells slots w pc lv (.long x :: rest) := fun H locs ls hP hS hl => lv_lstore X.1 X.2.1 hdg hl hn h (fun ls' hl' => kk H locs ls' hP hS hl')
theorem aw_astore_n (X : aw_X G own cc nL ret nm al n0 d mc ms E) {k : Fin 4} {x : Nat} {lv' : List (Nat × Value)} (hdg : decode cc pc = .ok (.astore_n k, 1)) (hn : ((k : Nat) < nL)) (h : ((k : Nat), Value.ref x) :: lv.filter (fun q => !(q.1 == (k : Nat)) && !(q.1 + 1 == (k : Nat) && q.2.category == 2)) = lv') (kk : AW G E nL nx cells slots w (pc + 1) lv' rest) : AW G E nL nx cells slots w pc lv (.ref x :: rest) := fun H locs ls hP hS hl => lv_astore_n X.1 X.2.1 hdg rfl hl hn h (fun ls' hl' => kk H locs ls' hP hS hl')
theorem aw_astore (X : aw_X G own cc nL ret nm al n0 d mc ms E) {i : Nat} {x : Nat} {lv' : List (Nat × Value)} (hdg : decode cc pc = .ok (.astore i, 2)) (hn : (i < nL)) (h : (i, Value.ref x) :: lv.filter (fun q => !(q.1 == i) && !(q.1 + 1 == i && q.2.category == 2)) = lv') (kk : AW G E nL nx cells slots w (pc + 2) lv' rest) : AW G E nL nx cells slots w pc lv (.ref x :: rest) := fun H locs ls hP hS hl => lv_astore X.1 X.2.1 hdg hl hn h (fun ls' hl' => kk H locs ls' hP hS hl')
theorem aw_astore_nR (X : aw_X G own cc nL ret nm al n0 d mc ms E) {k : Fin 4} {a : Nat} {lv' : List (Nat × Value)} (hdg : decode cc pc = .ok (.astore_n k, 1)) (hn : (k : Nat) < nL) (h : ((k : Nat), rf G a) :: lv.filter (fun q => !(q.1 == (k : Nat)) && !(q.1 + 1 == (k : Nat) && q.2.category == 2)) = lv') (kk : AW G E nL nx cells slots w (pc + 1) lv' rest) : AW G E nL nx cells slots w pc lv (rf G a :: rest) := fun H locs ls hP hS hl => lv_astore_n X.1 X.2.1 hdg rfl hl hn h (fun ls' hl' => kk H locs ls' hP hS hl')
theorem aw_astoreR (X : aw_X G own cc nL ret nm al n0 d mc ms E) {i a : Nat} {lv' : List (Nat × Value)} (hdg : decode cc pc = .ok (.astore i, 2)) (hn : i < nL) (h : (i, rf G a) :: lv.filter (fun q => !(q.1 == i) && !(q.1 + 1 == i && q.2.category == 2)) = lv') (kk : AW G E nL nx cells slots w (pc + 2) lv' rest) : AW G E nL nx cells slots w pc lv (rf G a :: rest) := fun H locs ls hP hS hl => lv_astore X.1 X.2.1 hdg hl hn h (fun ls' hl' => kk H locs ls' hP hS hl')
theorem aw_astore_nN (X : aw_X G own cc nL ret nm al n0 d mc ms E) {k : Fin 4}  {lv' : List (Nat × Value)} (hdg : decode cc pc = .ok (.astore_n k, 1)) (hn : ((k : Nat) < nL)) (h : ((k : Nat), Value.null) :: lv.filter (fun q => !(q.1 == (k : Nat)) && !(q.1 + 1 == (k : Nat) && q.2.category == 2)) = lv') (kk : AW G E nL nx cells slots w (pc + 1) lv' rest) : AW G E nL nx cells slots w pc lv (.null :: rest) := fun H locs ls hP hS hl => lv_astore_nN X.1 X.2.1 hdg rfl hl hn h (fun ls' hl' => kk H locs ls' hP hS hl')
theorem aw_astoreN (X : aw_X G own cc nL ret nm al n0 d mc ms E) {i : Nat}  {lv' : List (Nat × Value)} (hdg : decode cc pc = .ok (.astore i, 2)) (hn : (i < nL)) (h : (i, Value.null) :: lv.filter (fun q => !(q.1 == i) && !(q.1 + 1 == i && q.2.category == 2)) = lv') (kk : AW G E nL nx cells slots w (pc + 2) lv' rest) : AW G E nL nx cells slots w pc lv (.null :: rest) := fun H locs ls hP hS hl => lv_astoreN X.1 X.2.1 hdg hl hn h (fun ls' hl' => kk H locs ls' hP hS hl')
theorem aw_iinc (X : aw_X G own cc nL ret nm al n0 d mc ms E) {i : Nat} {n : Int} {x v : Int32} {lv' : List (Nat × Value)} (hdg : decode cc pc = .ok (.iinc i n, 3)) (hx : aw_lg lv i = some (.int x)) (hv : x + Int32.ofInt n = v) (hn : i < nL) (h : (i, Value.int v) :: lv.filter (fun q => !(q.1 == i) && !(q.1 + 1 == i && q.2.category == 2)) = lv') (kk : AW G E nL nx cells slots w (pc + 3) lv' rest) : AW G E nL nx cells slots w pc lv rest := fun H locs ls hP hS hl => by
  obtain ⟨k, hk⟩ := List.getElem?_of_mem (aw_lg_mem hx)
  exact lv_iinc (k := k) X.1 X.2.1 hdg hl hk hv hn h (fun ls' hl' => kk H locs ls' hP hS hl')
theorem aw_if_eq (X : aw_X G own cc nL ret nm al n0 d mc ms E) {x : Int32} {off : Int} {tgt : Nat} (hdg : decode cc pc = .ok (.ifCond .eq off, 3)) (ht : (pc : Int) + off = (tgt : Int)) (kt : x = 0 → AW G E nL nx cells slots w tgt lv rest) (kf : ¬ x = 0 → AW G E nL nx cells slots w (pc + 3) lv rest) : AW G E nL nx cells slots w pc lv (.int x :: rest) := fun H locs ls hP hS hl => lv_if_eq X.1 X.2.1 hdg ht (fun h => kt h H locs ls hP hS hl) (fun h => kf h H locs ls hP hS hl)
theorem aw_icmp_eq (X : aw_X G own cc nL ret nm al n0 d mc ms E) {x y : Int32} {off : Int} {tgt : Nat} (hdg : decode cc pc = .ok (.if_icmp .eq off, 3)) (ht : (pc : Int) + off = (tgt : Int)) (kt : x = y → AW G E nL nx cells slots w tgt lv rest) (kf : ¬ x = y → AW G E nL nx cells slots w (pc + 3) lv rest) : AW G E nL nx cells slots w pc lv (.int y :: .int x :: rest) := fun H locs ls hP hS hl => lv_icmp_eq X.1 X.2.1 hdg ht (fun h => kt h H locs ls hP hS hl) (fun h => kf h H locs ls hP hS hl)
theorem aw_if_ne (X : aw_X G own cc nL ret nm al n0 d mc ms E) {x : Int32} {off : Int} {tgt : Nat} (hdg : decode cc pc = .ok (.ifCond .ne off, 3)) (ht : (pc : Int) + off = (tgt : Int)) (kt : ¬ x = 0 → AW G E nL nx cells slots w tgt lv rest) (kf : x = 0 → AW G E nL nx cells slots w (pc + 3) lv rest) : AW G E nL nx cells slots w pc lv (.int x :: rest) := fun H locs ls hP hS hl => lv_if_ne X.1 X.2.1 hdg ht (fun h => kt h H locs ls hP hS hl) (fun h => kf h H locs ls hP hS hl)
theorem aw_icmp_ne (X : aw_X G own cc nL ret nm al n0 d mc ms E) {x y : Int32} {off : Int} {tgt : Nat} (hdg : decode cc pc = .ok (.if_icmp .ne off, 3)) (ht : (pc : Int) + off = (tgt : Int)) (kt : ¬ x = y → AW G E nL nx cells slots w tgt lv rest) (kf : x = y → AW G E nL nx cells slots w (pc + 3) lv rest) : AW G E nL nx cells slots w pc lv (.int y :: .int x :: rest) := fun H locs ls hP hS hl => lv_icmp_ne X.1 X.2.1 hdg ht (fun h => kt h H locs ls hP hS hl) (fun h => kf h H locs ls hP hS hl)
theorem aw_if_lt (X : aw_X G own cc nL ret nm al n0 d mc ms E) {x : Int32} {off : Int} {tgt : Nat} (hdg : decode cc pc = .ok (.ifCond .lt off, 3)) (ht : (pc : Int) + off = (tgt : Int)) (kt : x < 0 → AW G E nL nx cells slots w tgt lv rest) (kf : ¬ x < 0 → AW G E nL nx cells slots w (pc + 3) lv rest) : AW G E nL nx cells slots w pc lv (.int x :: rest) := fun H locs ls hP hS hl => lv_if_lt X.1 X.2.1 hdg ht (fun h => kt h H locs ls hP hS hl) (fun h => kf h H locs ls hP hS hl)
theorem aw_icmp_lt (X : aw_X G own cc nL ret nm al n0 d mc ms E) {x y : Int32} {off : Int} {tgt : Nat} (hdg : decode cc pc = .ok (.if_icmp .lt off, 3)) (ht : (pc : Int) + off = (tgt : Int)) (kt : x < y → AW G E nL nx cells slots w tgt lv rest) (kf : ¬ x < y → AW G E nL nx cells slots w (pc + 3) lv rest) : AW G E nL nx cells slots w pc lv (.int y :: .int x :: rest) := fun H locs ls hP hS hl => lv_icmp_lt X.1 X.2.1 hdg ht (fun h => kt h H locs ls hP hS hl) (fun h => kf h H locs ls hP hS hl)
theorem aw_if_ge (X : aw_X G own cc nL ret nm al n0 d mc ms E) {x : Int32} {off : Int} {tgt : Nat} (hdg : decode cc pc = .ok (.ifCond .ge off, 3)) (ht : (pc : Int) + off = (tgt : Int)) (kt : 0 ≤ x → AW G E nL nx cells slots w tgt lv rest) (kf : ¬ 0 ≤ x → AW G E nL nx cells slots w (pc + 3) lv rest) : AW G E nL nx cells slots w pc lv (.int x :: rest) := fun H locs ls hP hS hl => lv_if_ge X.1 X.2.1 hdg ht (fun h => kt h H locs ls hP hS hl) (fun h => kf h H locs ls hP hS hl)
theorem aw_icmp_ge (X : aw_X G own cc nL ret nm al n0 d mc ms E) {x y : Int32} {off : Int} {tgt : Nat} (hdg : decode cc pc = .ok (.if_icmp .ge off, 3)) (ht : (pc : Int) + off = (tgt : Int)) (kt : y ≤ x → AW G E nL nx cells slots w tgt lv rest) (kf : ¬ y ≤ x → AW G E nL nx cells slots w (pc + 3) lv rest) : AW G E nL nx cells slots w pc lv (.int y :: .int x :: rest) := fun H locs ls hP hS hl => lv_icmp_ge X.1 X.2.1 hdg ht (fun h => kt h H locs ls hP hS hl) (fun h => kf h H locs ls hP hS hl)
theorem aw_if_gt (X : aw_X G own cc nL ret nm al n0 d mc ms E) {x : Int32} {off : Int} {tgt : Nat} (hdg : decode cc pc = .ok (.ifCond .gt off, 3)) (ht : (pc : Int) + off = (tgt : Int)) (kt : 0 < x → AW G E nL nx cells slots w tgt lv rest) (kf : ¬ 0 < x → AW G E nL nx cells slots w (pc + 3) lv rest) : AW G E nL nx cells slots w pc lv (.int x :: rest) := fun H locs ls hP hS hl => lv_if_gt X.1 X.2.1 hdg ht (fun h => kt h H locs ls hP hS hl) (fun h => kf h H locs ls hP hS hl)
theorem aw_icmp_gt (X : aw_X G own cc nL ret nm al n0 d mc ms E) {x y : Int32} {off : Int} {tgt : Nat} (hdg : decode cc pc = .ok (.if_icmp .gt off, 3)) (ht : (pc : Int) + off = (tgt : Int)) (kt : y < x → AW G E nL nx cells slots w tgt lv rest) (kf : ¬ y < x → AW G E nL nx cells slots w (pc + 3) lv rest) : AW G E nL nx cells slots w pc lv (.int y :: .int x :: rest) := fun H locs ls hP hS hl => lv_icmp_gt X.1 X.2.1 hdg ht (fun h => kt h H locs ls hP hS hl) (fun h => kf h H locs ls hP hS hl)
theorem aw_if_le (X : aw_X G own cc nL ret nm al n0 d mc ms E) {x : Int32} {off : Int} {tgt : Nat} (hdg : decode cc pc = .ok (.ifCond .le off, 3)) (ht : (pc : Int) + off = (tgt : Int)) (kt : x ≤ 0 → AW G E nL nx cells slots w tgt lv rest) (kf : ¬ x ≤ 0 → AW G E nL nx cells slots w (pc + 3) lv rest) : AW G E nL nx cells slots w pc lv (.int x :: rest) := fun H locs ls hP hS hl => lv_if_le X.1 X.2.1 hdg ht (fun h => kt h H locs ls hP hS hl) (fun h => kf h H locs ls hP hS hl)
theorem aw_icmp_le (X : aw_X G own cc nL ret nm al n0 d mc ms E) {x y : Int32} {off : Int} {tgt : Nat} (hdg : decode cc pc = .ok (.if_icmp .le off, 3)) (ht : (pc : Int) + off = (tgt : Int)) (kt : x ≤ y → AW G E nL nx cells slots w tgt lv rest) (kf : ¬ x ≤ y → AW G E nL nx cells slots w (pc + 3) lv rest) : AW G E nL nx cells slots w pc lv (.int y :: .int x :: rest) := fun H locs ls hP hS hl => lv_icmp_le X.1 X.2.1 hdg ht (fun h => kt h H locs ls hP hS hl) (fun h => kf h H locs ls hP hS hl)
theorem aw_goto (X : aw_X G own cc nL ret nm al n0 d mc ms E) {off : Int} {tgt : Nat} (hdg : decode cc pc = .ok (.goto off, 3)) (ht : (pc : Int) + off = (tgt : Int)) (k : AW G E nL nx cells slots w tgt lv rest) : AW G E nL nx cells slots w pc lv rest := fun H locs ls hP hS hl => lv_goto X.1 X.2.1 hdg ht (k H locs ls hP hS hl)
theorem aw_ifnonnull (X : aw_X G own cc nL ret nm al n0 d mc ms E) {x : Nat} {off : Int} {tgt : Nat} (hdg : decode cc pc = .ok (.ifnonnull off, 3)) (ht : (pc : Int) + off = (tgt : Int)) (k : AW G E nL nx cells slots w tgt lv rest) : AW G E nL nx cells slots w pc lv (.ref x :: rest) := fun H locs ls hP hS hl => lv_ifnonnull X.1 X.2.1 hdg ht (k H locs ls hP hS hl)
theorem aw_ifnonnullN (X : aw_X G own cc nL ret nm al n0 d mc ms E) {off : Int} (hdg : decode cc pc = .ok (.ifnonnull off, 3)) (k : AW G E nL nx cells slots w (pc + 3) lv rest) : AW G E nL nx cells slots w pc lv (.null :: rest) := fun H locs ls hP hS hl => lv_ifnonnullN X.1 X.2.1 hdg (k H locs ls hP hS hl)
theorem aw_ifnull (X : aw_X G own cc nL ret nm al n0 d mc ms E) {x : Nat} {off : Int} (hdg : decode cc pc = .ok (.ifnull off, 3)) (k : AW G E nL nx cells slots w (pc + 3) lv rest) : AW G E nL nx cells slots w pc lv (.ref x :: rest) := fun H locs ls hP hS hl => lv_ifnull X.1 X.2.1 hdg (k H locs ls hP hS hl)
theorem aw_ifnullN (X : aw_X G own cc nL ret nm al n0 d mc ms E) {off : Int} {tgt : Nat} (hdg : decode cc pc = .ok (.ifnull off, 3)) (ht : (pc : Int) + off = (tgt : Int)) (k : AW G E nL nx cells slots w tgt lv rest) : AW G E nL nx cells slots w pc lv (.null :: rest) := fun H locs ls hP hS hl => lv_ifnullN X.1 X.2.1 hdg ht (k H locs ls hP hS hl)
theorem aw_tableOut (X : aw_X G own cc nL ret nm al n0 d mc ms E) {dflt lo hi : Int} {offs : Array Int} {len : Nat} {x : Int32} {tgt : Nat} (hdg : decode cc pc = .ok (.tableswitch dflt lo hi offs, len)) (h : x.toInt < lo ∨ hi < x.toInt) (ht : (pc : Int) + dflt = (tgt : Int)) (k : AW G E nL nx cells slots w tgt lv rest) : AW G E nL nx cells slots w pc lv (.int x :: rest) := fun H locs ls hP hS hl => lv_tableOut X.1 X.2.1 hdg h ht (k H locs ls hP hS hl)
theorem aw_tableIn (X : aw_X G own cc nL ret nm al n0 d mc ms E) {dflt lo hi : Int} {offs : Array Int} {len : Nat} {x : Int32} {off : Int} {tgt : Nat} (hdg : decode cc pc = .ok (.tableswitch dflt lo hi offs, len)) (h1 : ¬ x.toInt < lo) (h2 : ¬ hi < x.toInt) (ho : offs[(x.toInt - lo).toNat]? = some off) (ht : (pc : Int) + off = (tgt : Int)) (k : AW G E nL nx cells slots w tgt lv rest) : AW G E nL nx cells slots w pc lv (.int x :: rest) := fun H locs ls hP hS hl => lv_tableIn X.1 X.2.1 hdg h1 h2 ho ht (k H locs ls hP hS hl)
theorem aw_lookup (X : aw_X G own cc nL ret nm al n0 d mc ms E) {dflt : Int} {ps : Array (Int × Int)} {len : Nat} {x : Int32} {off : Int} {tgt : Nat} (hdg : decode cc pc = .ok (.lookupswitch dflt ps, len)) (hp : (ps.toList.zip (ps.toList.drop 1)).all (fun (a, next) => a.1 < next.1) = true) (ho : Op.lookupswitch.offset ps.toList dflt x.toInt = off) (ht : (pc : Int) + off = (tgt : Int)) (k : AW G E nL nx cells slots w tgt lv rest) : AW G E nL nx cells slots w pc lv (.int x :: rest) := fun H locs ls hP hS hl => lv_lookup X.1 X.2.1 hdg hp ho ht (k H locs ls hP hS hl)

theorem aw_get (X : aw_X G own cc nL ret nm al n0 d mc ms E) {C : String} {T : u_T} {N ci index : Nat} {fs : List Value} {v : Value} (a k : Nat) (ha : a < nx) (hw : w a = .inr (ci, fs)) (hc : classes[ci]? = some (C, T, N)) (hin : ∀ w ∈ u_ws C T N, w ∈ aw_tbl) (hk : k < N) (hlink : Cond.fieldLink own index (T k).1 (T k).2.1 (T k).2.2.1 ∈ aw_tbl) (hv : fs[k]? = some v) (hdg : decode cc pc = .ok (.getfield index, 3)) (kk : AW G E nL nx cells slots w (pc + 3) lv (v :: rest)) : AW G E nL nx cells slots w pc lv (rf G a :: rest) := by
  intro H locs ls hP hS hl
  obtain ⟨hx, hb, -, hown, hts, -, -, -, hK, -, -, -, -, -, -, -⟩ := X
  exact va_get hx hb hts hin hown hK hP a (by rw [aw_ws_get ha, hw]) hc k hk (hts _ hlink) (fun _ h => h) hv hdg (kk H locs ls hP hS hl)
theorem aw_getN (X : aw_X G own cc nL ret nm al n0 d mc ms E) {host : String} {C : String} {T : u_T} {N ci index : Nat} {fs : List Value} {v : Value} (a k : Nat) (ha : a < nx) (hw : w a = .inr (ci, fs)) (hc : classes[ci]? = some (C, T, N)) (hin : ∀ w ∈ u_ws C T N, w ∈ aw_tbl) (hk : k < N) (hlink : Cond.fieldLinkNest own index (T k).1 (T k).2.1 (T k).2.2.1 host ∈ aw_nest) (hv : fs[k]? = some v) (hdg : decode cc pc = .ok (.getfield index, 3)) (kk : AW G E nL nx cells slots w (pc + 3) lv (v :: rest)) : AW G E nL nx cells slots w pc lv (rf G a :: rest) := by
  intro H locs ls hP hS hl
  obtain ⟨hx, hb, -, hown, hts, -, -, -, hK, hKs, -, -, -, -, -, -⟩ := X
  exact va_getN hx hb hts hin hown hK hP a (by rw [aw_ws_get ha, hw]) hc k hk (va_Nw.use rfl (hKs.1 _ hlink)) (fun _ h => h) hv hdg (kk H locs ls hP hS hl)

theorem aw_put (X : aw_X G own cc nL ret nm al n0 d mc ms E)  {C : String} {T : u_T} {N ci index : Nat} {fs : List Value} {v : Value} (a k : Nat) (ha : a < nx) (hw : w a = .inr (ci, fs)) (hc : classes[ci]? = some (C, T, N)) (hin : ∀ w ∈ u_ws C T N, w ∈ aw_tbl) (hk : k < N) (ty0 : Nat → FieldType) (hty : ∀ k, k < N → parseFieldDescriptor (T k).2.2.1 = some (ty0 k)) (hnm : ∀ a, a < N → ∀ b, b < N → a ≠ b → (T a).2.1 ≠ (T b).2.1) (hlink : Cond.fieldLink own index (T k).1 (T k).2.1 (T k).2.2.1 ∈ aw_tbl) (hfin : (T k).2.2.2 = false)  (hn : narrow (ty0 k) v = v) (hfit : fits (ty0 k) v = true) (hl0 : k < fs.length) (hdg : decode cc pc = .ok (.putfield index, 3)) (kk : AW G E nL nx cells slots (aw_up w a (.inr (ci, fs.set k v))) (pc + 3) lv rest) : AW G E nL nx cells slots w pc lv (v :: rf G a :: rest) := by
  intro H locs ls hP hS hl
  obtain ⟨hx, hb, -, hown, hts, -, -, hnmm, hK, hKs, -, -, -, -, -, -⟩ := X
  refine va_put hx hb hts hin ty0 hty hnm hown hK hP aw_D hS a (by rw [aw_ws_get ha, hw]) hc k hk (hts _ hlink) (fun _ h => h) hfin  (hty k hk) hn hfit hl0 hdg (fun H1 locs1 hP1 hD1 hS1 => ?_)
  rw [aw_ws_set _ ha] at hP1
  exact kk H1 locs1 ls hP1 hS1 hl
theorem aw_putN (X : aw_X G own cc nL ret nm al n0 d mc ms E) {host : String} {C : String} {T : u_T} {N ci index : Nat} {fs : List Value} {v : Value} (a k : Nat) (ha : a < nx) (hw : w a = .inr (ci, fs)) (hc : classes[ci]? = some (C, T, N)) (hin : ∀ w ∈ u_ws C T N, w ∈ aw_tbl) (hk : k < N) (ty0 : Nat → FieldType) (hty : ∀ k, k < N → parseFieldDescriptor (T k).2.2.1 = some (ty0 k)) (hnm : ∀ a, a < N → ∀ b, b < N → a ≠ b → (T a).2.1 ≠ (T b).2.1) (hlink : Cond.fieldLinkNest own index (T k).1 (T k).2.1 (T k).2.2.1 host ∈ aw_nest) (hfin : (T k).2.2.2 = false)  (hn : narrow (ty0 k) v = v) (hfit : fits (ty0 k) v = true) (hl0 : k < fs.length) (hdg : decode cc pc = .ok (.putfield index, 3)) (kk : AW G E nL nx cells slots (aw_up w a (.inr (ci, fs.set k v))) (pc + 3) lv rest) : AW G E nL nx cells slots w pc lv (v :: rf G a :: rest) := by
  intro H locs ls hP hS hl
  obtain ⟨hx, hb, -, hown, hts, -, -, hnmm, hK, hKs, -, -, -, -, -, -⟩ := X
  refine va_putN hx hb hts hin ty0 hty hnm hown hK hP aw_D hS a (by rw [aw_ws_get ha, hw]) hc k hk (va_Nw.use rfl (hKs.1 _ hlink)) (fun _ h => h) hfin  (hty k hk) hn hfit hl0 hdg (fun H1 locs1 hP1 hD1 hS1 => ?_)
  rw [aw_ws_set _ ha] at hP1
  exact kk H1 locs1 ls hP1 hS1 hl
theorem aw_putF (X : aw_X G own cc nL ret nm al n0 d mc ms E)  {C : String} {T : u_T} {N ci index : Nat} {fs : List Value} {v : Value} (a k : Nat) (ha : a < nx) (hw : w a = .inr (ci, fs)) (hc : classes[ci]? = some (C, T, N)) (hin : ∀ w ∈ u_ws C T N, w ∈ aw_tbl) (hk : k < N) (ty0 : Nat → FieldType) (hty : ∀ k, k < N → parseFieldDescriptor (T k).2.2.1 = some (ty0 k)) (hnm : ∀ a, a < N → ∀ b, b < N → a ≠ b → (T a).2.1 ≠ (T b).2.1) (hlink : Cond.fieldLink own index (T k).1 (T k).2.1 (T k).2.2.1 ∈ aw_tbl) (hfin : (T k).2.2.2 = true) (hin2 : nm = "<init>") (hdecl : (T k).1 = own) (hn : narrow (ty0 k) v = v) (hfit : fits (ty0 k) v = true) (hl0 : k < fs.length) (hdg : decode cc pc = .ok (.putfield index, 3)) (kk : AW G E nL nx cells slots (aw_up w a (.inr (ci, fs.set k v))) (pc + 3) lv rest) : AW G E nL nx cells slots w pc lv (v :: rf G a :: rest) := by
  intro H locs ls hP hS hl
  obtain ⟨hx, hb, -, hown, hts, -, -, hnmm, hK, hKs, -, -, -, -, -, -⟩ := X
  refine va_putF hx hb hts hin ty0 hty hnm hown hK hP aw_D hS a (by rw [aw_ws_get ha, hw]) hc k hk (hts _ hlink) (fun _ h => h) hfin (hnmm.trans hin2) hdecl (hty k hk) hn hfit hl0 hdg (fun H1 locs1 hP1 hD1 hS1 => ?_)
  rw [aw_ws_set _ ha] at hP1
  exact kk H1 locs1 ls hP1 hS1 hl
theorem aw_iald (X : aw_X G own cc nL ret nm al n0 d mc ms E) (a t0 : Nat) {cA : ClassId} {n : Nat} {f : Nat → Int32} {i : Int32} (ha : a < nx) (hw : w a = .inl (cA, n, .inl f)) (ht : (aw_tys G)[t0]? = some (cA, .int)) (hin : vp_in i n) (hdg : decode cc pc = .ok (.iaload, 1)) (kk : AW G E nL nx cells slots w (pc + 1) lv (.int (f i.toNatClampNeg) :: rest)) : AW G E nL nx cells slots w pc lv (.int i :: rf G a :: rest) := by
  intro H locs ls hP hS hl
  obtain ⟨hx, hb, -, -, -, -, -, -, hK, -, -, -, -, -, -, -⟩ := X
  exact va_iald hx hb hK hP a t0 (by rw [aw_ws_get ha, hw]) ht hin hdg (kk H locs ls hP hS hl)
theorem aw_bald (X : aw_X G own cc nL ret nm al n0 d mc ms E) (a t0 : Nat) {cA : ClassId} {n : Nat} {f : Nat → Int32} {i : Int32} (ha : a < nx) (hw : w a = .inl (cA, n, .inl f)) (ht : (aw_tys G)[t0]? = some (cA, .byte)) (hin : vp_in i n) (hdg : decode cc pc = .ok (.baload, 1)) (kk : AW G E nL nx cells slots w (pc + 1) lv (.int (f i.toNatClampNeg) :: rest)) : AW G E nL nx cells slots w pc lv (.int i :: rf G a :: rest) := by
  intro H locs ls hP hS hl
  obtain ⟨hx, hb, -, -, -, -, -, -, hK, -, -, -, -, -, -, -⟩ := X
  exact va_bald hx hb hK hP a t0 (by rw [aw_ws_get ha, hw]) ht hin hdg (kk H locs ls hP hS hl)
theorem aw_zald (X : aw_X G own cc nL ret nm al n0 d mc ms E) (a t0 : Nat) {cA : ClassId} {n : Nat} {f : Nat → Int32} {i : Int32} (ha : a < nx) (hw : w a = .inl (cA, n, .inl f)) (ht : (aw_tys G)[t0]? = some (cA, .boolean)) (hin : vp_in i n) (hdg : decode cc pc = .ok (.baload, 1)) (kk : AW G E nL nx cells slots w (pc + 1) lv (.int (f i.toNatClampNeg) :: rest)) : AW G E nL nx cells slots w pc lv (.int i :: rf G a :: rest) := by
  intro H locs ls hP hS hl
  obtain ⟨hx, hb, -, -, -, -, -, -, hK, -, -, -, -, -, -, -⟩ := X
  exact va_zald hx hb hK hP a t0 (by rw [aw_ws_get ha, hw]) ht hin hdg (kk H locs ls hP hS hl)
theorem aw_cald (X : aw_X G own cc nL ret nm al n0 d mc ms E) (a t0 : Nat) {cA : ClassId} {n : Nat} {f : Nat → Int32} {i : Int32} (ha : a < nx) (hw : w a = .inl (cA, n, .inl f)) (ht : (aw_tys G)[t0]? = some (cA, .char)) (hin : vp_in i n) (hdg : decode cc pc = .ok (.caload, 1)) (kk : AW G E nL nx cells slots w (pc + 1) lv (.int (f i.toNatClampNeg) :: rest)) : AW G E nL nx cells slots w pc lv (.int i :: rf G a :: rest) := by
  intro H locs ls hP hS hl
  obtain ⟨hx, hb, -, -, -, -, -, -, hK, -, -, -, -, -, -, -⟩ := X
  exact va_cald hx hb hK hP a t0 (by rw [aw_ws_get ha, hw]) ht hin hdg (kk H locs ls hP hS hl)
theorem aw_sald (X : aw_X G own cc nL ret nm al n0 d mc ms E) (a t0 : Nat) {cA : ClassId} {n : Nat} {f : Nat → Int32} {i : Int32} (ha : a < nx) (hw : w a = .inl (cA, n, .inl f)) (ht : (aw_tys G)[t0]? = some (cA, .short)) (hin : vp_in i n) (hdg : decode cc pc = .ok (.saload, 1)) (kk : AW G E nL nx cells slots w (pc + 1) lv (.int (f i.toNatClampNeg) :: rest)) : AW G E nL nx cells slots w pc lv (.int i :: rf G a :: rest) := by
  intro H locs ls hP hS hl
  obtain ⟨hx, hb, -, -, -, -, -, -, hK, -, -, -, -, -, -, -⟩ := X
  exact va_sald hx hb hK hP a t0 (by rw [aw_ws_get ha, hw]) ht hin hdg (kk H locs ls hP hS hl)
theorem aw_iast (X : aw_X G own cc nL ret nm al n0 d mc ms E) (a t0 : Nat) {cA : ClassId} {n : Nat} {f : Nat → Int32} {i x : Int32} (ha : a < nx) (hw : w a = .inl (cA, n, .inl f)) (ht : (aw_tys G)[t0]? = some (cA, .int)) (hin : vp_in i n) (hdg : decode cc pc = .ok (.iastore, 1)) (kk : AW G E nL nx cells slots (aw_up w a (.inl (cA, n, .inl (upd f i.toNatClampNeg x)))) (pc + 1) lv rest) : AW G E nL nx cells slots w pc lv (.int x :: .int i :: rf G a :: rest) := by
  intro H locs ls hP hS hl
  obtain ⟨hx, hb, -, -, -, -, -, -, hK, -, -, -, -, -, -, -⟩ := X
  refine va_iast hx hb hK hP aw_D hS a t0 (by rw [aw_ws_get ha, hw]) ht hin hdg (fun H1 locs1 hP1 hD1 hS1 => ?_)
  rw [aw_ws_set _ ha] at hP1
  exact kk H1 locs1 ls hP1 hS1 hl
theorem aw_bast (X : aw_X G own cc nL ret nm al n0 d mc ms E) (a t0 : Nat) {cA : ClassId} {n : Nat} {f : Nat → Int32} {i x : Int32} (ha : a < nx) (hw : w a = .inl (cA, n, .inl f)) (ht : (aw_tys G)[t0]? = some (cA, .byte)) (hin : vp_in i n) (hdg : decode cc pc = .ok (.bastore, 1)) (kk : AW G E nL nx cells slots (aw_up w a (.inl (cA, n, .inl (upd f i.toNatClampNeg (vp_nar .byte x))))) (pc + 1) lv rest) : AW G E nL nx cells slots w pc lv (.int x :: .int i :: rf G a :: rest) := by
  intro H locs ls hP hS hl
  obtain ⟨hx, hb, -, -, -, -, -, -, hK, -, -, -, -, -, -, -⟩ := X
  refine va_bast hx hb hK hP aw_D hS a t0 (by rw [aw_ws_get ha, hw]) ht hin hdg (fun H1 locs1 hP1 hD1 hS1 => ?_)
  rw [aw_ws_set _ ha] at hP1
  exact kk H1 locs1 ls hP1 hS1 hl
theorem aw_zast (X : aw_X G own cc nL ret nm al n0 d mc ms E) (a t0 : Nat) {cA : ClassId} {n : Nat} {f : Nat → Int32} {i x : Int32} (ha : a < nx) (hw : w a = .inl (cA, n, .inl f)) (ht : (aw_tys G)[t0]? = some (cA, .boolean)) (hin : vp_in i n) (hdg : decode cc pc = .ok (.bastore, 1)) (kk : AW G E nL nx cells slots (aw_up w a (.inl (cA, n, .inl (upd f i.toNatClampNeg (vp_nar .boolean x))))) (pc + 1) lv rest) : AW G E nL nx cells slots w pc lv (.int x :: .int i :: rf G a :: rest) := by
  intro H locs ls hP hS hl
  obtain ⟨hx, hb, -, -, -, -, -, -, hK, -, -, -, -, -, -, -⟩ := X
  refine va_zast hx hb hK hP aw_D hS a t0 (by rw [aw_ws_get ha, hw]) ht hin hdg (fun H1 locs1 hP1 hD1 hS1 => ?_)
  rw [aw_ws_set _ ha] at hP1
  exact kk H1 locs1 ls hP1 hS1 hl
theorem aw_cast (X : aw_X G own cc nL ret nm al n0 d mc ms E) (a t0 : Nat) {cA : ClassId} {n : Nat} {f : Nat → Int32} {i x : Int32} (ha : a < nx) (hw : w a = .inl (cA, n, .inl f)) (ht : (aw_tys G)[t0]? = some (cA, .char)) (hin : vp_in i n) (hdg : decode cc pc = .ok (.castore, 1)) (kk : AW G E nL nx cells slots (aw_up w a (.inl (cA, n, .inl (upd f i.toNatClampNeg (vp_nar .char x))))) (pc + 1) lv rest) : AW G E nL nx cells slots w pc lv (.int x :: .int i :: rf G a :: rest) := by
  intro H locs ls hP hS hl
  obtain ⟨hx, hb, -, -, -, -, -, -, hK, -, -, -, -, -, -, -⟩ := X
  refine va_cast hx hb hK hP aw_D hS a t0 (by rw [aw_ws_get ha, hw]) ht hin hdg (fun H1 locs1 hP1 hD1 hS1 => ?_)
  rw [aw_ws_set _ ha] at hP1
  exact kk H1 locs1 ls hP1 hS1 hl
theorem aw_lald (X : aw_X G own cc nL ret nm al n0 d mc ms E) (a t0 : Nat) {cA : ClassId} {n : Nat} {f : Nat → Int64} {i : Int32} (ha : a < nx) (hw : w a = .inl (cA, n, .inr (.inl f))) (ht : (aw_tys G)[t0]? = some (cA, .long)) (hin : vp_in i n) (hdg : decode cc pc = .ok (.laload, 1)) (kk : AW G E nL nx cells slots w (pc + 1) lv (.long (f i.toNatClampNeg) :: rest)) : AW G E nL nx cells slots w pc lv (.int i :: rf G a :: rest) := by
  intro H locs ls hP hS hl
  obtain ⟨hx, hb, -, -, -, -, -, -, hK, -, -, -, -, -, -, -⟩ := X
  exact va_lald hx hb hK hP a t0 (by rw [aw_ws_get ha, hw]) ht hin hdg (kk H locs ls hP hS hl)
theorem aw_last (X : aw_X G own cc nL ret nm al n0 d mc ms E) (a t0 : Nat) {cA : ClassId} {n : Nat} {f : Nat → Int64} {i : Int32} {x : Int64} (ha : a < nx) (hw : w a = .inl (cA, n, .inr (.inl f))) (ht : (aw_tys G)[t0]? = some (cA, .long)) (hin : vp_in i n) (hdg : decode cc pc = .ok (.lastore, 1)) (kk : AW G E nL nx cells slots (aw_up w a (.inl (cA, n, .inr (.inl (vp_updL f i.toNatClampNeg x))))) (pc + 1) lv rest) : AW G E nL nx cells slots w pc lv (.long x :: .int i :: rf G a :: rest) := by
  intro H locs ls hP hS hl
  obtain ⟨hx, hb, -, -, -, -, -, -, hK, -, -, -, -, -, -, -⟩ := X
  refine va_last hx hb hK hP aw_D hS a t0 (by rw [aw_ws_get ha, hw]) ht hin hdg (fun H1 locs1 hP1 hD1 hS1 => ?_)
  rw [aw_ws_set _ ha] at hP1
  exact kk H1 locs1 ls hP1 hS1 hl
theorem aw_aald (X : aw_X G own cc nL ret nm al n0 d mc ms E) (a t0 : Nat) {cA : ClassId} {C : String} {n : Nat} {f : Nat → Option Nat} {i : Int32} (ha : a < nx) (hw : w a = .inl (cA, n, .inr (.inr (.inr (.inr f))))) (ht : (aw_tys G)[t0]? = some (cA, .object C)) (hin : vp_in i n) (hdg : decode cc pc = .ok (.aaload, 1)) (kk : AW G E nL nx cells slots w (pc + 1) lv (va_rf (f i.toNatClampNeg) :: rest)) : AW G E nL nx cells slots w pc lv (.int i :: rf G a :: rest) := by
  intro H locs ls hP hS hl
  obtain ⟨hx, hb, -, -, -, -, -, -, hK, -, -, -, -, -, -, -⟩ := X
  exact va_aldq hx hb hK hP a t0 (by rw [aw_ws_get ha, hw]) ht hin hdg (kk H locs ls hP hS hl)
theorem aw_aast (X : aw_X G own cc nL ret nm al n0 d mc ms E) (a t0 v ci : Nat) {cA : ClassId} {r : vw_C} {n : Nat} {vs : List Value} {f : Nat → Option Nat} {i : Int32} (ha : a < nx) (hw : w a = .inl (cA, n, .inr (.inr (.inr (.inr f))))) (ht : (aw_tys G)[t0]? = some (cA, .object r.1)) (hv : v < nx) (hwv : w v = .inr (ci, vs)) (hc : classes[ci]? = some r) (hin : vp_in i n) (hdg : decode cc pc = .ok (.aastore, 1)) (kk : AW G E nL nx cells slots (aw_up w a (.inl (cA, n, .inr (.inr (.inr (.inr (va_up f i.toNatClampNeg (some (G.2.2.1 + v))))))))) (pc + 1) lv rest) : AW G E nL nx cells slots w pc lv (rf G v :: .int i :: rf G a :: rest) := by
  intro H locs ls hP hS hl
  obtain ⟨hx, hb, -, -, -, -, -, -, hK, -, -, -, -, -, -, -⟩ := X
  refine va_astq hx hb hK hP aw_D hS a t0 v ci (by rw [aw_ws_get ha, hw]) ht (by rw [aw_ws_get hv, hwv]) hc hin hdg (fun H1 locs1 hP1 hD1 hS1 => ?_)
  rw [aw_ws_set _ ha] at hP1
  exact kk H1 locs1 ls hP1 hS1 hl
theorem aw_alen (X : aw_X G own cc nL ret nm al n0 d mc ms E) (a t0 : Nat) {cA : ClassId} {x : vp_A} {ty : FieldType} (ha : a < nx) (hw : w a = .inl (cA, x)) (ht : (aw_tys G)[t0]? = some (cA, ty)) (hdg : decode cc pc = .ok (.arraylength, 1)) (kk : AW G E nL nx cells slots w (pc + 1) lv (.int (nI x.1) :: rest)) : AW G E nL nx cells slots w pc lv (rf G a :: rest) := by
  intro H locs ls hP hS hl
  obtain ⟨hx, hb, -, -, -, -, -, -, hK, -, -, -, -, -, -, -⟩ := X
  exact va_alen hx hb hK hP a t0 (by rw [aw_ws_get ha, hw]) ht rfl hdg (kk H locs ls hP hS hl)
theorem aw_lcmp (X : aw_X G own cc nL ret nm al n0 d mc ms E) {x y : Int64} (hdg : decode cc pc = .ok (.lcmp, 1)) (k : AW G E nL nx cells slots w (pc + 1) lv (.int (lg_cmp x y) :: rest)) : AW G E nL nx cells slots w pc lv (.long y :: .long x :: rest) := fun H locs ls hP hS hl => W.lcmp X.1 X.2.1 hdg (k H locs ls hP hS hl)
theorem aw_ldc (X : aw_X G own cc nL ret nm al n0 d mc ms E) {index : Nat} {v : Int32} (hco : Cond.constant own index v ∈ aw_tbl) (hdg : decode cc pc = .ok (.ldc index, 2)) (k : AW G E nL nx cells slots w (pc + 2) lv (.int v :: rest)) : AW G E nL nx cells slots w pc lv rest := fun H locs ls hP hS hl => lv_ldc X.1 X.2.1 X.2.2.2.1 (X.2.2.2.2.1 _ hco) hdg (k H locs ls hP hS hl)
theorem aw_ldc2 (X : aw_X G own cc nL ret nm al n0 d mc ms E) {index : Nat} {v : Int64} (hco : Cond.constantLong own index v ∈ aw_tbl) (hdg : decode cc pc = .ok (.ldc2_w index, 3)) (k : AW G E nL nx cells slots w (pc + 3) lv (.long v :: rest)) : AW G E nL nx cells slots w pc lv rest := fun H locs ls hP hS hl => lv_ldc2 X.1 X.2.1 X.2.2.2.1 (X.2.2.2.2.1 _ hco) hdg (k H locs ls hP hS hl)

theorem aw_lo {H : Heap} (hP : va_P G.2.1 classes (aw_ws G.2.2.1 nx w) H) (hb : G.2.2.1 ≤ H.size) : G.2.2.1 + nx ≤ H.size := by
  cases nx with
  | zero => exact hb
  | succ n => exact (hP n _ (aw_ws_get (Nat.lt_succ_self n))).lt
theorem aw_q {H : Heap} {q : Nat} {ce : va_E} (hP : va_P G.2.1 classes (aw_ws G.2.2.1 nx w ++ [(q, ce)]) H) (hD : va_D (aw_own G) (aw_ws G.2.2.1 nx w ++ [(q, ce)])) (hH : H.size ≤ G.2.2.1 + (nx + 1)) : q = G.2.2.1 + nx := by
  have hg : (aw_ws G.2.2.1 nx w ++ [(q, ce)])[nx]? = some (q, ce) := by
    rw [List.getElem?_append_right (by rw [aw_ws_len]; exact Nat.le_refl _), aw_ws_len]; simp
  have h1 : q < H.size := (hP nx _ hg).lt
  have h2 : G.2.2.1 ≤ q := hD.2 nx _ hg
  refine Classical.byContradiction fun hne => ?_
  have h3 : q - G.2.2.1 < nx := by omega
  have hg2 : (aw_ws G.2.2.1 nx w ++ [(q, ce)])[q - G.2.2.1]? = some (G.2.2.1 + (q - G.2.2.1), w (q - G.2.2.1)) := by
    rw [List.getElem?_append_left (by rw [aw_ws_len]; exact h3), aw_ws_get h3]
  have := hD.1 _ _ _ _ hg2 hg (by show G.2.2.1 + (q - G.2.2.1) = q; omega)
  omega
theorem aw_size (X : aw_X G own cc nL ret nm al n0 d mc ms E) (hal : al = true) (hn : nx = n0 + cells) {R : Room} {T : State} {locs : List Loc} (St : Stand E.1 G.1 E.2.1 R E.2.2.1 E.2.2.2.1 E.2.2.2.2.1 E.2.2.2.2.2.1 E.2.2.2.2.2.2.1 E.2.2.2.2.2.2.2.1 T locs cells slots) : T.heap.size ≤ G.2.2.1 + nx := by
  have h1 : T.heap.size ≤ E.2.2.1.heap.size + cells := St.same.2.2.1
  have h2 := X.2.2.2.2.2.2.2.2.2.2.2.1 hal
  omega
theorem aw_new (X : aw_X G own cc nL ret nm al n0 d mc ms E) {C : String} {T : u_T} {N ci index : Nat} (ty0 : Nat → FieldType) (hty : ∀ k, k < N → parseFieldDescriptor (T k).2.2.1 = some (ty0 k)) (hal : al = true) (hn : nx = n0 + cells) (hc : classes[ci]? = some (C, T, N)) (hin : ∀ w ∈ u_ws C T N, w ∈ aw_tbl) (hcl : Cond.classLink own index C ∈ aw_tbl) (hinst : Cond.instantiable C N ∈ aw_tbl) (hini : Cond.initialized C ∈ aw_tbl) (fs : List Value) (hfs : ∀ j, j < N → defaultValue (ty0 j) = vp_V fs j) (hcells : cells + 1 ≤ mc) (hslots : slots + N ≤ ms) (hdg : decode cc pc = .ok (.new index, 3))
    (kk : AW G E nL (nx + 1) (cells + 1) (slots + N) (aw_up w nx (aObj ci fs)) (pc + 3) lv (rf G nx :: rest)) : AW G E nL nx cells slots w pc lv rest := by
  intro H locs ls hP hS hl
  have X0 := X
  obtain ⟨hx, hb, -, hown, hts, -, -, -, hK, -, hbs, hsz, hRf, hRl, hRc, hRs⟩ := X
  refine va_new hx hb hts hin ty0 hty hown (hts _ hcl) (hts _ hinst) (hts _ hini) hK hP aw_D hS (fun q h => Nat.le_trans hbs h) hc hfs (Nat.le_trans hcells hRc) (Nat.le_trans hslots hRs) hdg (fun q H1 hP1 hD1 hS1 => ?_)
  intro T hT St
  have hq := aw_q hP1 hD1 (by rw [← hT]; exact aw_size (nx := nx + 1) X0 hal (by omega) St)
  subst hq
  rw [aw_ws_push] at hP1
  exact kk H1 locs ls hP1 hS1 hl T hT St
theorem aw_newa (X : aw_X G own cc nL ret nm al n0 d mc ms E) {atype : ArrayType} {ty : FieldType} (hty : newarray.typeOf atype = ty) (t0 : Nat) {cA : ClassId} (ht : (aw_tys G)[t0]? = some (cA, ty)) (hob : ∀ C, ty ≠ .object C) (hal : al = true) (hnx : nx = n0 + cells) (harr : Cond.arrayClass (newarray.typeOf atype) ∈ aw_tbl) {n : Int32} {N' : Nat} (a0 : vp_A) (ha : ∀ cA : ClassId, vp_cell cA a0 = arrV cA N' (fun _ => defaultValue ty)) (hn : ¬ n < 0) (hN : n.toNatClampNeg = N') (hbytes : N' * componentBytes ty ≤ 536870912) (hcells : cells + 1 ≤ mc) (hslots : slots + N' ≤ ms) (hdg : decode cc pc = .ok (.newarray atype, 2))
    (kk : AW G E nL (nx + 1) (cells + 1) (slots + N') (aw_up w nx (.inl (cA, a0))) (pc + 2) lv (rf G nx :: rest)) : AW G E nL nx cells slots w pc lv (.int n :: rest) := by
  intro H locs ls hP hS hl
  have X0 := X
  obtain ⟨hx, hb, -, hown, hts, -, -, -, hK, -, hbs, hsz, hRf, hRl, hRc, hRs⟩ := X
  refine va_newa hx hb (hts _ harr) hty hK hP aw_D hS (fun q h => Nat.le_trans hbs h) ha hn hN hbytes (Nat.le_trans hcells hRc) (Nat.le_trans hslots hRs) hdg (fun q cB H1 hK1 hP1 hD1 hS1 => ?_)
  have e1 : va_RA E.2.2.1 cB ty := (hK1.2 (aw_tys G).length (cB, ty) (by simp)).2
  have e2 : va_RA E.2.2.1 cA ty := (hK.2 t0 _ ht).2
  have e3 : cB = cA := by
    have f1 : E.2.2.1.vm.findClass ("[" ++ ty.toString) = some cB := by cases ty <;> first | exact e1 | exact absurd rfl (hob _)
    have f2 : E.2.2.1.vm.findClass ("[" ++ ty.toString) = some cA := by cases ty <;> first | exact e2 | exact absurd rfl (hob _)
    exact Option.some.inj (f1.symm.trans f2)
  subst e3
  intro T hT St
  have hq := aw_q hP1 hD1 (by rw [← hT]; exact aw_size (nx := nx + 1) X0 hal (by omega) St)
  subst hq
  rw [aw_ws_push] at hP1
  exact kk H1 locs ls hP1 hS1 hl T hT St
theorem aw_newq (X : aw_X G own cc nL ret nm al n0 d mc ms E) {C : String} {index : Nat} (t0 : Nat) {cA : ClassId} (ht : (aw_tys G)[t0]? = some (cA, .object C)) (hal : al = true) (hnx : nx = n0 + cells) (hcl : Cond.classLink own index C ∈ aw_tbl) (hov : Cond.arrayOver (.object C) ∈ aw_nest) {n : Int32} {N' : Nat} (hn : ¬ n < 0) (hN : n.toNatClampNeg = N') (hbytes : N' * 4 ≤ 536870912) (hcells : cells + 1 ≤ mc) (hslots : slots + N' ≤ ms) (hdg : decode cc pc = .ok (.anewarray index, 3))
    (kk : AW G E nL (nx + 1) (cells + 1) (slots + N') (aw_up w nx (aRefs cA N' (fun _ => none))) (pc + 3) lv (rf G nx :: rest)) : AW G E nL nx cells slots w pc lv (.int n :: rest) := by
  intro H locs ls hP hS hl
  have X0 := X
  obtain ⟨hx, hb, -, hown, hts, -, -, -, hK, hKs, hbs, hsz, hRf, hRl, hRc, hRs⟩ := X
  refine va_newq hx hb hown (hts _ hcl) (hKs.1 _ hov) hK hP aw_D hS (fun q h => Nat.le_trans hbs h) hn hN hbytes (Nat.le_trans hcells hRc) (Nat.le_trans hslots hRs) hdg (fun q cB H1 hK1 hP1 hD1 hS1 => ?_)
  have e3 : cB = cA := by
    obtain ⟨_, _, _, _, _, f1⟩ := (hK1.2 (aw_tys G).length (cB, .object C) (by simp)).2
    obtain ⟨_, _, _, _, _, f2⟩ := (hK.2 t0 _ ht).2
    exact Option.some.inj (f1.symm.trans f2)
  subst e3
  intro T hT St
  have hq := aw_q hP1 hD1 (by rw [← hT]; exact aw_size (nx := nx + 1) X0 hal (by omega) St)
  subst hq
  rw [aw_ws_push] at hP1
  exact kk H1 locs ls hP1 hS1 hl T hT St
theorem aw_objInit (X : aw_X G own cc nL ret nm al n0 d mc ms E) {index a : Nat} (hlink : Cond.methodLink own index Lib.objectInit ∈ aw_tbl) (hinst : Cond.instanceMethod Lib.objectInit ∈ aw_tbl) (hcode : Cond.code Lib.objectInit ⟨#[0xb1]⟩ 1 none ∈ aw_tbl) (hdg : decode cc pc = .ok (.invokespecial index, 3)) (hframes : 1 ≤ d) (hlocals : (rest.map fun v => v.category).sum + 12 ≤ 40 * d) (kk : AW G E nL nx cells slots w (pc + 3) lv rest) : AW G E nL nx cells slots w pc lv (rf G a :: rest) := by
  intro H locs ls hP hS hl
  obtain ⟨hx, hb, hml, hown, hts, -, -, -, hK, -, hbs, hsz, hRf, hRl, hRc, hRs⟩ := X
  exact W.objInit hx hb hown (hts _ hlink) (hts _ hinst) (hts _ hcode) rfl (by rw [hml]; exact hl.1) rfl hdg (Nat.le_trans hframes hRf) (by show 2 * 0 + _ + 12 ≤ _; omega) (kk H locs ls hP hS hl)

theorem aw_fin {H : Heap} {locs : List Loc} {r : Option Value} (hP : va_P G.2.1 classes (aw_ws G.2.2.1 nx w) H) (hS : va_S (aw_own G) E.2.2.1.heap H locs) (hp : P r w nx) {t : State} (ht : t.heap = H) : aw_Qc G P E.2.2.2.2.1 E.2.2.1 (.returned r) t :=
  ⟨⟨r, w, nx, rfl, hp, by rw [ht]; exact hP⟩, hS.F ht⟩

theorem aw_iret (Y : aw_Y G P mc ms E) (X : aw_X G own cc nL ret nm al n0 d mc ms E) {v : Int32} (hr : ret = some .int) (hdg : decode cc pc = .ok (.ireturn, 1)) (hc : cells ≤ mc) (hs : slots ≤ ms) (hp : P (some (.int v)) w nx) : AW G E nL nx cells slots w pc lv [.int v] := by
  intro H locs ls hP hS hl
  rw [Y]
  refine W.widen hc hs ?_
  exact W.iret X.1 X.2.1 (X.2.2.2.2.2.1.trans hr) (fun t ht _ => aw_fin hP hS hp ht) hS.2.2 hdg X.2.2.2.2.2.2.1
theorem aw_lret (Y : aw_Y G P mc ms E) (X : aw_X G own cc nL ret nm al n0 d mc ms E) {v : Int64} (hr : ret = some .long) (hdg : decode cc pc = .ok (.lreturn, 1)) (hc : cells ≤ mc) (hs : slots ≤ ms) (hp : P (some (.long v)) w nx) : AW G E nL nx cells slots w pc lv [.long v] := by
  intro H locs ls hP hS hl
  rw [Y]
  refine W.widen hc hs ?_
  exact W.lret X.1 X.2.1 (X.2.2.2.2.2.1.trans hr) (fun t ht _ => aw_fin hP hS hp ht) hS.2.2 hdg X.2.2.2.2.2.2.1
theorem aw_vret (Y : aw_Y G P mc ms E) (X : aw_X G own cc nL ret nm al n0 d mc ms E)  (hr : ret = none) (hdg : decode cc pc = .ok (.return_, 1)) (hc : cells ≤ mc) (hs : slots ≤ ms) (hp : P none w nx) : AW G E nL nx cells slots w pc lv [] := by
  intro H locs ls hP hS hl
  rw [Y]
  refine W.widen hc hs ?_
  exact W.vret X.1 X.2.1 (X.2.2.2.2.2.1.trans hr) (fun t ht _ => aw_fin hP hS hp ht) hS.2.2 hdg X.2.2.2.2.2.2.1
theorem aw_zret (Y : aw_Y G P mc ms E) (X : aw_X G own cc nL ret nm al n0 d mc ms E) {v : Int32} {ty : FieldType} (hr : ret = some ty) (hn : narrow ty (.int v) = .int v) (hdg : decode cc pc = .ok (.ireturn, 1)) (hc : cells ≤ mc) (hs : slots ≤ ms) (hp : P (some (.int v)) w nx) : AW G E nL nx cells slots w pc lv [.int v] := by
  intro H locs ls hP hS hl
  rw [Y]
  refine W.widen hc hs ?_
  exact W.zret X.1 X.2.1 (X.2.2.2.2.2.1.trans hr) hn (fun t ht _ => aw_fin hP hS hp ht) hS.2.2 hdg X.2.2.2.2.2.2.1
theorem aw_aret (Y : aw_Y G P mc ms E) (X : aw_X G own cc nL ret nm al n0 d mc ms E) {v : Value} {n : String} (hr : ret = some (.object n)) (hv : v = .null ∨ ∃ a, v = .ref a) (hdg : decode cc pc = .ok (.areturn, 1)) (hc : cells ≤ mc) (hs : slots ≤ ms) (hp : P (some v) w nx) : AW G E nL nx cells slots w pc lv [v] := by
  intro H locs ls hP hS hl
  rw [Y]
  refine W.widen hc hs ?_
  exact W.aret X.1 X.2.1 (X.2.2.2.2.2.1.trans hr) (Or.inl ⟨n, rfl⟩) hv (fun t ht _ => aw_fin hP hS hp ht) hS.2.2 hdg X.2.2.2.2.2.2.1

theorem aw_core {mc' ms' : Nat} {post : Option Value → (Nat → va_E) → Nat → Prop} {a : Array Value} {st0 : List Value} {H : Heap} {locs : List Loc} {ls : Array Slot} (hr : va_Run E.1 G.1 E.2.1 E.2.2.2.2.2.2.2.2.1 E.2.2.1 E.2.2.2.1 E.2.2.2.2.1 E.2.2.2.2.2.1 E.2.2.2.2.2.2.1 E.2.2.2.2.2.2.2.1 H locs cells slots mc' ms' (F0 E.2.2.2.1 pc ls st0) rest (aw_Qc G post a) (aw_own G)) (hS : va_S (aw_own G) E.2.2.1.heap H locs) (hl : lv_has ls nL lv) (kk : ∀ (r : Option Value) (w' : Nat → va_E) (nx' : Nat), post r w' nx' → AW G E nL nx' (cells + mc') (slots + ms') w' (pc + 3) lv (r.toList ++ rest)) : W E.1 G.1 E.2.1 E.2.2.2.2.2.2.2.2.1 E.2.2.1 E.2.2.2.1 E.2.2.2.2.1 E.2.2.2.2.2.1 E.2.2.2.2.2.2.1 E.2.2.2.2.2.2.2.1 H locs cells slots E.2.2.2.2.2.2.2.2.2 (F0 E.2.2.2.1 pc ls st0) := by
  intro T hT X
  obtain ⟨v, st₀, t, T', L, h0, X', hL, e1, e2, ⟨⟨r, w', nx', hv, hp, hP'⟩, hz, hk⟩, st⟩ := hr T hT X
  cases hv
  rw [h0] at hz hk
  obtain ⟨t2, a1, b1⟩ := kk v w' nx' hp T'.heap (locs ++ L) ls (by rw [e1]; exact hP')
    ⟨Nat.le_trans hS.1 (by rw [e1]; exact hz), fun q h1 h2 => by rw [e1, hk q (Nat.lt_of_lt_of_le h1 hS.1) h2]; exact hS.2.1 q h1 h2, fun q hq => by
      rcases List.mem_append.mp hq with h | h
      · exact hS.2.2 q h
      · exact hL q h⟩ hl T' rfl X'
  exact ⟨t2, st t2 a1, b1⟩
theorem aw_pre (X : aw_X G own cc nL ret nm al n0 d mc ms E) {al' : Bool} (has : al' = true → al = true ∧ nx = n0 + cells) {H : Heap} {locs : List Loc} {T : State} (hT : T.heap = H) (St : Stand E.1 G.1 E.2.1 E.2.2.2.2.2.2.2.2.1 E.2.2.1 E.2.2.2.1 E.2.2.2.2.1 E.2.2.2.2.2.1 E.2.2.2.2.2.2.1 E.2.2.2.2.2.2.2.1 T locs cells slots) (hP : va_P G.2.1 classes (aw_ws G.2.2.1 nx w) H) (hS : va_S (aw_own G) E.2.2.1.heap H locs) (As : List Value) : ∀ U : State, U.heap = H → E.2.2.1.WarmedH U.vm → aw_Pc G al' As nx w As.toArray U := by
  intro U hU hW
  have hbs := X.2.2.2.2.2.2.2.2.2.2.1
  refine ⟨rfl, fun h => ?_, by rw [hU]; exact hP, va_K.moved hW.alike X.2.2.2.2.2.2.2.2.1, aw_Kk hW (by rw [hU]; exact hS.1) (fun q h1 h2 => by rw [hU]; exact hS.2.1 q h1 h2) X.2.2.2.2.2.2.2.2.2.1, by rw [hU]; exact Nat.le_trans hbs hS.1⟩
  have h1 := aw_size X (has h).1 (has h).2 St
  have h2 := aw_lo hP (Nat.le_trans hbs hS.1)
  rw [hT] at h1
  rw [hU]
  omega

theorem aw_callV (X : aw_X G own cc nL ret nm al n0 d mc ms E) {y : MethodName} {bytes : ByteArray} {maxL mc' ms' index d' : Nat} {rt : Option FieldType} {As : List Value} {post : Option Value → (Nat → va_E) → Nat → Prop} {al' : Bool} {T0 : u_T} {N0 ci : Nat} {fs : List Value} (a : Nat) (hM : AC G y bytes maxL rt d' al' (rf G a :: As) nx w mc' ms' post) (hq : aw_q1 y bytes maxL rt As.length) (hlink : Cond.methodLink own index y ∈ aw_tbl) (hin : Cond.instanceMethod y ∈ aw_tbl) (hsel : Cond.selects y.cls y y ∈ aw_tbl) (ha : a < nx) (hwa : w a = aObj ci fs) (hc : classes[ci]? = some (y.cls, T0, N0)) (hdg : decode cc pc = .ok (.invokevirtual index, 3)) (hd : d' + 1 ≤ d) (hst : (rest.map fun v => v.category).sum ≤ 8) (hf : cells + mc' ≤ mc ∧ slots + ms' ≤ ms) (has : al' = true → al = true ∧ nx = n0 + cells) (kk : ∀ (r : Option Value) (w' : Nat → va_E) (nx' : Nat), post r w' nx' → AW G E nL nx' (cells + mc') (slots + ms') w' (pc + 3) lv (r.toList ++ rest)) : AW G E nL nx cells slots w pc lv (As.reverse ++ rf G a :: rest) := by
  obtain ⟨post0, hM, hpw⟩ := hM
  intro H locs ls hP hS hl T hT St
  have hpre := aw_pre X has hT St hP hS (rf G a :: As)
  have hG := aw_gd hq.1
  have hyd := hq.2.2.1
  have hini := hq.2.1
  have X0 := X
  obtain ⟨hx, hb, hmx, hown, hts, -, -, -, hK, hKs, hbs, hsz, hRf, hRl, hRc, hRs⟩ := X
  refine (aw_core (post := post0) (a := (rf G a :: As).toArray) (st0 := (As.reverse ++ rf G a :: rest)) (ls := ls) ?_ hS hl (fun r w' nx' hp => kk r w' nx' (hpw _ _ _ hp))) T hT St
  exact va_runV (C := y.cls) (As := As) (rest := rest) ⟨hx, hb, hmx, hown, hts⟩ hM ⟨(callB_of As.length hts hG rfl rfl rfl (hts _ hini) (hts _ hlink) hyd ⟨by show d' + 1 ≤ _; omega, by have hml := hq.2.2.2; show 8 + (maxL + 11) + 40 * d' ≤ _; omega⟩), hts _ hin, hts _ hsel⟩ ⟨aw_blind, (va_recv hK hP hc (by rw [aw_ws_get ha, hwa]; rfl)), hpre⟩ rfl rfl hl.1 rfl (lv_room hst) hdg ⟨Nat.le_trans hf.1 hRc, Nat.le_trans hf.2 hRs⟩
theorem aw_callS (X : aw_X G own cc nL ret nm al n0 d mc ms E) {y : MethodName} {bytes : ByteArray} {maxL mc' ms' index d' : Nat} {rt : Option FieldType} {As : List Value} {post : Option Value → (Nat → va_E) → Nat → Prop} {al' : Bool}  (hM : AC G y bytes maxL rt d' al' As nx w mc' ms' post) (hq : aw_q1 y bytes maxL rt As.length) (hlink : Cond.methodLink own index y ∈ aw_tbl) (hsta : Cond.static y ∈ aw_tbl) (hdg : decode cc pc = .ok (.invokestatic index, 3)) (hd : d' + 1 ≤ d) (hst : (rest.map fun v => v.category).sum ≤ 8) (hf : cells + mc' ≤ mc ∧ slots + ms' ≤ ms) (has : al' = true → al = true ∧ nx = n0 + cells) (kk : ∀ (r : Option Value) (w' : Nat → va_E) (nx' : Nat), post r w' nx' → AW G E nL nx' (cells + mc') (slots + ms') w' (pc + 3) lv (r.toList ++ rest)) : AW G E nL nx cells slots w pc lv (As.reverse ++ rest) := by
  obtain ⟨post0, hM, hpw⟩ := hM
  intro H locs ls hP hS hl T hT St
  have hpre := aw_pre X has hT St hP hS As
  have hG := aw_gd hq.1
  have hyd := hq.2.2.1
  have hini := hq.2.1
  have X0 := X
  obtain ⟨hx, hb, hmx, hown, hts, -, -, -, hK, hKs, hbs, hsz, hRf, hRl, hRc, hRs⟩ := X
  refine (aw_core (post := post0) (a := As.toArray) (st0 := (As.reverse ++ rest)) (ls := ls) ?_ hS hl (fun r w' nx' hp => kk r w' nx' (hpw _ _ _ hp))) T hT St
  exact va_runS (As := As) (rest := rest) ⟨hx, hb, hmx, hown, hts⟩ hM ⟨(callB_of As.length hts hG rfl rfl rfl (hts _ hini) (hts _ hlink) hyd ⟨by show d' + 1 ≤ _; omega, by have hml := hq.2.2.2; show 8 + (maxL + 11) + 40 * d' ≤ _; omega⟩), hts _ hsta⟩ ⟨aw_blind, hpre⟩ rfl rfl hl.1 rfl (lv_room hst) hdg ⟨Nat.le_trans hf.1 hRc, Nat.le_trans hf.2 hRs⟩
theorem aw_callVN (X : aw_X G own cc nL ret nm al n0 d mc ms E) {y : MethodName} {bytes : ByteArray} {maxL mc' ms' index d' : Nat} {rt : Option FieldType} {As : List Value} {post : Option Value → (Nat → va_E) → Nat → Prop} {al' : Bool} {T0 : u_T} {N0 ci : Nat} {fs : List Value} (a : Nat) {host : String} (hM : AC G y bytes maxL rt d' al' (rf G a :: As) nx w mc' ms' post) (hq : aw_q1 y bytes maxL rt As.length) (hlink : Cond.methodLinkNest own index y host ∈ aw_nest) (hin : Cond.instanceMethod y ∈ aw_tbl) (hsel : Cond.selects y.cls y y ∈ aw_tbl) (ha : a < nx) (hwa : w a = aObj ci fs) (hc : classes[ci]? = some (y.cls, T0, N0)) (hdg : decode cc pc = .ok (.invokevirtual index, 3)) (hd : d' + 1 ≤ d) (hst : (rest.map fun v => v.category).sum ≤ 8) (hf : cells + mc' ≤ mc ∧ slots + ms' ≤ ms) (has : al' = true → al = true ∧ nx = n0 + cells) (kk : ∀ (r : Option Value) (w' : Nat → va_E) (nx' : Nat), post r w' nx' → AW G E nL nx' (cells + mc') (slots + ms') w' (pc + 3) lv (r.toList ++ rest)) : AW G E nL nx cells slots w pc lv (As.reverse ++ rf G a :: rest) := by
  obtain ⟨post0, hM, hpw⟩ := hM
  intro H locs ls hP hS hl T hT St
  have hpre := aw_pre X has hT St hP hS (rf G a :: As)
  have hG := aw_gd hq.1
  have hyd := hq.2.2.1
  have hini := hq.2.1
  have X0 := X
  obtain ⟨hx, hb, hmx, hown, hts, -, -, -, hK, hKs, hbs, hsz, hRf, hRl, hRc, hRs⟩ := X
  refine (aw_core (post := post0) (a := (rf G a :: As).toArray) (st0 := (As.reverse ++ rf G a :: rest)) (ls := ls) ?_ hS hl (fun r w' nx' hp => kk r w' nx' (hpw _ _ _ hp))) T hT St
  exact va_runVN (C := y.cls) (As := As) (rest := rest) ⟨hx, hb, hmx, hown, hts⟩ hM ⟨(va_cnB As.length hts hG rfl rfl rfl (hKs.1 _ hlink) (hts _ hini) hyd ⟨by show d' + 1 ≤ _; omega, by have hml := hq.2.2.2; show 8 + (maxL + 11) + 40 * d' ≤ _; omega⟩), hts _ hin, hts _ hsel⟩ ⟨aw_blind, (va_recv hK hP hc (by rw [aw_ws_get ha, hwa]; rfl)), hpre⟩ rfl rfl hl.1 rfl (lv_room hst) hdg ⟨Nat.le_trans hf.1 hRc, Nat.le_trans hf.2 hRs⟩
theorem aw_callSN (X : aw_X G own cc nL ret nm al n0 d mc ms E) {y : MethodName} {bytes : ByteArray} {maxL mc' ms' index d' : Nat} {rt : Option FieldType} {As : List Value} {post : Option Value → (Nat → va_E) → Nat → Prop} {al' : Bool} {host : String} (hM : AC G y bytes maxL rt d' al' As nx w mc' ms' post) (hq : aw_q1 y bytes maxL rt As.length) (hlink : Cond.methodLinkNest own index y host ∈ aw_nest) (hsta : Cond.static y ∈ aw_tbl) (hdg : decode cc pc = .ok (.invokestatic index, 3)) (hd : d' + 1 ≤ d) (hst : (rest.map fun v => v.category).sum ≤ 8) (hf : cells + mc' ≤ mc ∧ slots + ms' ≤ ms) (has : al' = true → al = true ∧ nx = n0 + cells) (kk : ∀ (r : Option Value) (w' : Nat → va_E) (nx' : Nat), post r w' nx' → AW G E nL nx' (cells + mc') (slots + ms') w' (pc + 3) lv (r.toList ++ rest)) : AW G E nL nx cells slots w pc lv (As.reverse ++ rest) := by
  obtain ⟨post0, hM, hpw⟩ := hM
  intro H locs ls hP hS hl T hT St
  have hpre := aw_pre X has hT St hP hS As
  have hG := aw_gd hq.1
  have hyd := hq.2.2.1
  have hini := hq.2.1
  have X0 := X
  obtain ⟨hx, hb, hmx, hown, hts, -, -, -, hK, hKs, hbs, hsz, hRf, hRl, hRc, hRs⟩ := X
  refine (aw_core (post := post0) (a := As.toArray) (st0 := (As.reverse ++ rest)) (ls := ls) ?_ hS hl (fun r w' nx' hp => kk r w' nx' (hpw _ _ _ hp))) T hT St
  exact va_runSN (As := As) (rest := rest) ⟨hx, hb, hmx, hown, hts⟩ hM ⟨(va_cnB As.length hts hG rfl rfl rfl (hKs.1 _ hlink) (hts _ hini) hyd ⟨by show d' + 1 ≤ _; omega, by have hml := hq.2.2.2; show 8 + (maxL + 11) + 40 * d' ≤ _; omega⟩), hts _ hsta, trivial⟩ ⟨aw_blind, hpre⟩ rfl rfl hl.1 rfl (lv_room hst) hdg ⟨Nat.le_trans hf.1 hRc, Nat.le_trans hf.2 hRs⟩
theorem aw_callI (X : aw_X G own cc nL ret nm al n0 d mc ms E) {y : MethodName} {bytes : ByteArray} {maxL mc' ms' index d' : Nat} {rt : Option FieldType} {As : List Value} {post : Option Value → (Nat → va_E) → Nat → Prop} {al' : Bool} (a : Nat) (hM : AC G y bytes maxL rt d' al' (rf G a :: As) nx w mc' ms' post) (hq : aw_q1 y bytes maxL rt As.length) (hlink : Cond.methodLink own index y ∈ aw_tbl) (hin : Cond.instanceMethod y ∈ aw_tbl) (hy1 : y.name = "<init>") (hrt : rt = none) (hdg : decode cc pc = .ok (.invokespecial index, 3)) (hd : d' + 1 ≤ d) (hst : (rest.map fun v => v.category).sum ≤ 8) (hf : cells + mc' ≤ mc ∧ slots + ms' ≤ ms) (has : al' = true → al = true ∧ nx = n0 + cells) (kk : ∀ (r : Option Value) (w' : Nat → va_E) (nx' : Nat), post r w' nx' → AW G E nL nx' (cells + mc') (slots + ms') w' (pc + 3) lv (r.toList ++ rest)) : AW G E nL nx cells slots w pc lv (As.reverse ++ rf G a :: rest) := by
  obtain ⟨post0, hM, hpw⟩ := hM
  intro H locs ls hP hS hl T hT St
  have hpre := aw_pre X has hT St hP hS (rf G a :: As)
  have hG := aw_gd hq.1
  have hyd := hq.2.2.1
  have hini := hq.2.1
  have X0 := X
  obtain ⟨hx, hb, hmx, hown, hts, -, -, -, hK, hKs, hbs, hsz, hRf, hRl, hRc, hRs⟩ := X
  refine (aw_core (post := post0) (a := (rf G a :: As).toArray) (st0 := (As.reverse ++ rf G a :: rest)) (ls := ls) ?_ hS hl (fun r w' nx' hp => kk r w' nx' (hpw _ _ _ hp))) T hT St
  exact by
    subst hrt
    exact va_runI (As := As) (rest := rest) ⟨hx, hb, hmx, hown, hts⟩ hM ⟨(callB_of As.length hts hG rfl rfl rfl (hts _ hini) (hts _ hlink) hyd ⟨by show d' + 1 ≤ _; omega, by have hml := hq.2.2.2; show 8 + (maxL + 11) + 40 * d' ≤ _; omega⟩), hy1, hts _ hin⟩ ⟨aw_blind, hpre⟩ rfl rfl hl.1 rfl (lv_room hst) hdg ⟨Nat.le_trans hf.1 hRc, Nat.le_trans hf.2 hRs⟩
theorem aw_callIN (X : aw_X G own cc nL ret nm al n0 d mc ms E) {y : MethodName} {bytes : ByteArray} {maxL mc' ms' index d' : Nat} {rt : Option FieldType} {As : List Value} {post : Option Value → (Nat → va_E) → Nat → Prop} {al' : Bool} (a : Nat) {host : String} (hM : AC G y bytes maxL rt d' al' (rf G a :: As) nx w mc' ms' post) (hq : aw_q1 y bytes maxL rt As.length) (hlink : Cond.methodLinkNest own index y host ∈ aw_nest) (hin : Cond.instanceMethod y ∈ aw_tbl) (hy1 : y.name = "<init>") (hrt : rt = none) (hdg : decode cc pc = .ok (.invokespecial index, 3)) (hd : d' + 1 ≤ d) (hst : (rest.map fun v => v.category).sum ≤ 8) (hf : cells + mc' ≤ mc ∧ slots + ms' ≤ ms) (has : al' = true → al = true ∧ nx = n0 + cells) (kk : ∀ (r : Option Value) (w' : Nat → va_E) (nx' : Nat), post r w' nx' → AW G E nL nx' (cells + mc') (slots + ms') w' (pc + 3) lv (r.toList ++ rest)) : AW G E nL nx cells slots w pc lv (As.reverse ++ rf G a :: rest) := by
  obtain ⟨post0, hM, hpw⟩ := hM
  intro H locs ls hP hS hl T hT St
  have hpre := aw_pre X has hT St hP hS (rf G a :: As)
  have hG := aw_gd hq.1
  have hyd := hq.2.2.1
  have hini := hq.2.1
  have X0 := X
  obtain ⟨hx, hb, hmx, hown, hts, -, -, -, hK, hKs, hbs, hsz, hRf, hRl, hRc, hRs⟩ := X
  refine (aw_core (post := post0) (a := (rf G a :: As).toArray) (st0 := (As.reverse ++ rf G a :: rest)) (ls := ls) ?_ hS hl (fun r w' nx' hp => kk r w' nx' (hpw _ _ _ hp))) T hT St
  exact by
    subst hrt
    exact va_runIN (As := As) (rest := rest) ⟨hx, hb, hmx, hown, hts⟩ hM ⟨(va_cnB As.length hts hG rfl rfl rfl (hKs.1 _ hlink) (hts _ hini) hyd ⟨by show d' + 1 ≤ _; omega, by have hml := hq.2.2.2; show 8 + (maxL + 11) + 40 * d' ≤ _; omega⟩), hy1, hts _ hin⟩ ⟨aw_blind, hpre⟩ rfl rfl hl.1 rfl (lv_room hst) hdg ⟨Nat.le_trans hf.1 hRc, Nat.le_trans hf.2 hRs⟩
end AWS
