/-! the law's own walk: both sides at every call of a script -/
def y_La_law : MethodName := ⟨"RescanDeskLaw", "law", "([I)Z"⟩
abbrev b_La_law : ByteArray := code
theorem d_La_law_0 : decode b_La_law 0 = .ok (.new 8, 3) := by decide +kernel
theorem d_La_law_3 : decode b_La_law 3 = .ok (.dup, 1) := by decide +kernel
theorem d_La_law_4 : decode b_La_law 4 = .ok (.invokespecial 21, 3) := by decide +kernel
theorem d_La_law_7 : decode b_La_law 7 = .ok (.astore_n 1, 1) := by decide +kernel
theorem d_La_law_8 : decode b_La_law 8 = .ok (.new 22, 3) := by decide +kernel
theorem d_La_law_11 : decode b_La_law 11 = .ok (.dup, 1) := by decide +kernel
theorem d_La_law_12 : decode b_La_law 12 = .ok (.invokespecial 24, 3) := by decide +kernel
theorem d_La_law_15 : decode b_La_law 15 = .ok (.astore_n 2, 1) := by decide +kernel
theorem d_La_law_16 : decode b_La_law 16 = .ok (.iconst 1, 1) := by decide +kernel
theorem d_La_law_17 : decode b_La_law 17 = .ok (.newarray .long, 2) := by decide +kernel
theorem d_La_law_19 : decode b_La_law 19 = .ok (.astore_n 3, 1) := by decide +kernel
theorem d_La_law_20 : decode b_La_law 20 = .ok (.iconst 0, 1) := by decide +kernel
theorem d_La_law_21 : decode b_La_law 21 = .ok (.istore 4, 2) := by decide +kernel
theorem d_La_law_23 : decode b_La_law 23 = .ok (.iload 4, 2) := by decide +kernel
theorem d_La_law_25 : decode b_La_law 25 = .ok (.aload_n 0, 1) := by decide +kernel
theorem d_La_law_26 : decode b_La_law 26 = .ok (.arraylength, 1) := by decide +kernel
theorem d_La_law_27 : decode b_La_law 27 = .ok (.iconst 3, 1) := by decide +kernel
theorem d_La_law_28 : decode b_La_law 28 = .ok (.isub, 1) := by decide +kernel
theorem d_La_law_29 : decode b_La_law 29 = .ok (.if_icmp .gt 238, 3) := by decide +kernel
theorem d_La_law_32 : decode b_La_law 32 = .ok (.aload_n 0, 1) := by decide +kernel
theorem d_La_law_33 : decode b_La_law 33 = .ok (.iload 4, 2) := by decide +kernel
theorem d_La_law_35 : decode b_La_law 35 = .ok (.iaload, 1) := by decide +kernel
theorem d_La_law_36 : decode b_La_law 36 = .ok (.bipush 7, 2) := by decide +kernel
theorem d_La_law_38 : decode b_La_law 38 = .ok (.iand, 1) := by decide +kernel
theorem d_La_law_39 : decode b_La_law 39 = .ok (.tableswitch 222 0 4 #[33, 60, 73, 129, 197], 33) := by decide +kernel
theorem d_La_law_72 : decode b_La_law 72 = .ok (.aload_n 1, 1) := by decide +kernel
theorem d_La_law_73 : decode b_La_law 73 = .ok (.aload_n 0, 1) := by decide +kernel
theorem d_La_law_74 : decode b_La_law 74 = .ok (.iload 4, 2) := by decide +kernel
theorem d_La_law_76 : decode b_La_law 76 = .ok (.iconst 1, 1) := by decide +kernel
theorem d_La_law_77 : decode b_La_law 77 = .ok (.iadd, 1) := by decide +kernel
theorem d_La_law_78 : decode b_La_law 78 = .ok (.iaload, 1) := by decide +kernel
theorem d_La_law_79 : decode b_La_law 79 = .ok (.i2c, 1) := by decide +kernel
theorem d_La_law_80 : decode b_La_law 80 = .ok (.invokevirtual 25, 3) := by decide +kernel
theorem d_La_law_83 : decode b_La_law 83 = .ok (.aload_n 2, 1) := by decide +kernel
theorem d_La_law_84 : decode b_La_law 84 = .ok (.aload_n 0, 1) := by decide +kernel
theorem d_La_law_85 : decode b_La_law 85 = .ok (.iload 4, 2) := by decide +kernel
theorem d_La_law_87 : decode b_La_law 87 = .ok (.iconst 1, 1) := by decide +kernel
theorem d_La_law_88 : decode b_La_law 88 = .ok (.iadd, 1) := by decide +kernel
theorem d_La_law_89 : decode b_La_law 89 = .ok (.iaload, 1) := by decide +kernel
theorem d_La_law_90 : decode b_La_law 90 = .ok (.i2c, 1) := by decide +kernel
theorem d_La_law_91 : decode b_La_law 91 = .ok (.invokevirtual 29, 3) := by decide +kernel
theorem d_La_law_94 : decode b_La_law 94 = .ok (.if_icmp .eq 167, 3) := by decide +kernel
theorem d_La_law_97 : decode b_La_law 97 = .ok (.iconst 0, 1) := by decide +kernel
theorem d_La_law_98 : decode b_La_law 98 = .ok (.ireturn, 1) := by decide +kernel
theorem d_La_law_99 : decode b_La_law 99 = .ok (.aload_n 1, 1) := by decide +kernel
theorem d_La_law_100 : decode b_La_law 100 = .ok (.invokevirtual 30, 3) := by decide +kernel
theorem d_La_law_103 : decode b_La_law 103 = .ok (.aload_n 2, 1) := by decide +kernel
theorem d_La_law_104 : decode b_La_law 104 = .ok (.invokevirtual 34, 3) := by decide +kernel
theorem d_La_law_107 : decode b_La_law 107 = .ok (.if_icmp .eq 154, 3) := by decide +kernel
theorem d_La_law_110 : decode b_La_law 110 = .ok (.iconst 0, 1) := by decide +kernel
theorem d_La_law_111 : decode b_La_law 111 = .ok (.ireturn, 1) := by decide +kernel
theorem d_La_law_112 : decode b_La_law 112 = .ok (.aload_n 1, 1) := by decide +kernel
theorem d_La_law_113 : decode b_La_law 113 = .ok (.aload_n 0, 1) := by decide +kernel
theorem d_La_law_114 : decode b_La_law 114 = .ok (.iload 4, 2) := by decide +kernel
theorem d_La_law_116 : decode b_La_law 116 = .ok (.iconst 1, 1) := by decide +kernel
theorem d_La_law_117 : decode b_La_law 117 = .ok (.iadd, 1) := by decide +kernel
theorem d_La_law_118 : decode b_La_law 118 = .ok (.iaload, 1) := by decide +kernel
theorem d_La_law_119 : decode b_La_law 119 = .ok (.aload_n 3, 1) := by decide +kernel
theorem d_La_law_120 : decode b_La_law 120 = .ok (.invokestatic 35, 3) := by decide +kernel
theorem d_La_law_123 : decode b_La_law 123 = .ok (.istore 5, 2) := by decide +kernel
theorem d_La_law_125 : decode b_La_law 125 = .ok (.aload_n 2, 1) := by decide +kernel
theorem d_La_law_126 : decode b_La_law 126 = .ok (.aload_n 0, 1) := by decide +kernel
theorem d_La_law_127 : decode b_La_law 127 = .ok (.iload 4, 2) := by decide +kernel
theorem d_La_law_129 : decode b_La_law 129 = .ok (.iconst 1, 1) := by decide +kernel
theorem d_La_law_130 : decode b_La_law 130 = .ok (.iadd, 1) := by decide +kernel
theorem d_La_law_131 : decode b_La_law 131 = .ok (.iaload, 1) := by decide +kernel
theorem d_La_law_132 : decode b_La_law 132 = .ok (.invokevirtual 40, 3) := by decide +kernel
theorem d_La_law_135 : decode b_La_law 135 = .ok (.istore 6, 2) := by decide +kernel
theorem d_La_law_137 : decode b_La_law 137 = .ok (.aload_n 2, 1) := by decide +kernel
theorem d_La_law_138 : decode b_La_law 138 = .ok (.invokevirtual 41, 3) := by decide +kernel
theorem d_La_law_141 : decode b_La_law 141 = .ok (.iload 5, 2) := by decide +kernel
theorem d_La_law_143 : decode b_La_law 143 = .ok (.if_icmp .eq 5, 3) := by decide +kernel
theorem d_La_law_146 : decode b_La_law 146 = .ok (.iconst 0, 1) := by decide +kernel
theorem d_La_law_147 : decode b_La_law 147 = .ok (.ireturn, 1) := by decide +kernel
theorem d_La_law_148 : decode b_La_law 148 = .ok (.iload 5, 2) := by decide +kernel
theorem d_La_law_150 : decode b_La_law 150 = .ok (.ifCond .ne 15, 3) := by decide +kernel
theorem d_La_law_153 : decode b_La_law 153 = .ok (.aload_n 3, 1) := by decide +kernel
theorem d_La_law_154 : decode b_La_law 154 = .ok (.iconst 0, 1) := by decide +kernel
theorem d_La_law_155 : decode b_La_law 155 = .ok (.laload, 1) := by decide +kernel
theorem d_La_law_156 : decode b_La_law 156 = .ok (.iload 6, 2) := by decide +kernel
theorem d_La_law_158 : decode b_La_law 158 = .ok (.i2l, 1) := by decide +kernel
theorem d_La_law_159 : decode b_La_law 159 = .ok (.lcmp, 1) := by decide +kernel
theorem d_La_law_160 : decode b_La_law 160 = .ok (.ifCond .eq 5, 3) := by decide +kernel
theorem d_La_law_163 : decode b_La_law 163 = .ok (.iconst 0, 1) := by decide +kernel
theorem d_La_law_164 : decode b_La_law 164 = .ok (.ireturn, 1) := by decide +kernel
theorem d_La_law_165 : decode b_La_law 165 = .ok (.goto 96, 3) := by decide +kernel
theorem d_La_law_168 : decode b_La_law 168 = .ok (.aload_n 1, 1) := by decide +kernel
theorem d_La_law_169 : decode b_La_law 169 = .ok (.aload_n 0, 1) := by decide +kernel
theorem d_La_law_170 : decode b_La_law 170 = .ok (.iload 4, 2) := by decide +kernel
theorem d_La_law_172 : decode b_La_law 172 = .ok (.iconst 1, 1) := by decide +kernel
theorem d_La_law_173 : decode b_La_law 173 = .ok (.iadd, 1) := by decide +kernel
theorem d_La_law_174 : decode b_La_law 174 = .ok (.iaload, 1) := by decide +kernel
theorem d_La_law_175 : decode b_La_law 175 = .ok (.aload_n 0, 1) := by decide +kernel
theorem d_La_law_176 : decode b_La_law 176 = .ok (.iload 4, 2) := by decide +kernel
theorem d_La_law_178 : decode b_La_law 178 = .ok (.iconst 2, 1) := by decide +kernel
theorem d_La_law_179 : decode b_La_law 179 = .ok (.iadd, 1) := by decide +kernel
theorem d_La_law_180 : decode b_La_law 180 = .ok (.iaload, 1) := by decide +kernel
theorem d_La_law_181 : decode b_La_law 181 = .ok (.aload_n 3, 1) := by decide +kernel
theorem d_La_law_182 : decode b_La_law 182 = .ok (.invokestatic 44, 3) := by decide +kernel
theorem d_La_law_185 : decode b_La_law 185 = .ok (.istore 5, 2) := by decide +kernel
theorem d_La_law_187 : decode b_La_law 187 = .ok (.aload_n 2, 1) := by decide +kernel
theorem d_La_law_188 : decode b_La_law 188 = .ok (.aload_n 0, 1) := by decide +kernel
theorem d_La_law_189 : decode b_La_law 189 = .ok (.iload 4, 2) := by decide +kernel
theorem d_La_law_191 : decode b_La_law 191 = .ok (.iconst 1, 1) := by decide +kernel
theorem d_La_law_192 : decode b_La_law 192 = .ok (.iadd, 1) := by decide +kernel
theorem d_La_law_193 : decode b_La_law 193 = .ok (.iaload, 1) := by decide +kernel
theorem d_La_law_194 : decode b_La_law 194 = .ok (.aload_n 0, 1) := by decide +kernel
theorem d_La_law_195 : decode b_La_law 195 = .ok (.iload 4, 2) := by decide +kernel
theorem d_La_law_197 : decode b_La_law 197 = .ok (.iconst 2, 1) := by decide +kernel
theorem d_La_law_198 : decode b_La_law 198 = .ok (.iadd, 1) := by decide +kernel
theorem d_La_law_199 : decode b_La_law 199 = .ok (.iaload, 1) := by decide +kernel
theorem d_La_law_200 : decode b_La_law 200 = .ok (.invokevirtual 47, 3) := by decide +kernel
theorem d_La_law_203 : decode b_La_law 203 = .ok (.istore 6, 2) := by decide +kernel
theorem d_La_law_205 : decode b_La_law 205 = .ok (.aload_n 2, 1) := by decide +kernel
theorem d_La_law_206 : decode b_La_law 206 = .ok (.invokevirtual 41, 3) := by decide +kernel
theorem d_La_law_209 : decode b_La_law 209 = .ok (.iload 5, 2) := by decide +kernel
theorem d_La_law_211 : decode b_La_law 211 = .ok (.if_icmp .eq 5, 3) := by decide +kernel
theorem d_La_law_214 : decode b_La_law 214 = .ok (.iconst 0, 1) := by decide +kernel
theorem d_La_law_215 : decode b_La_law 215 = .ok (.ireturn, 1) := by decide +kernel
theorem d_La_law_216 : decode b_La_law 216 = .ok (.iload 5, 2) := by decide +kernel
theorem d_La_law_218 : decode b_La_law 218 = .ok (.ifCond .ne 15, 3) := by decide +kernel
theorem d_La_law_221 : decode b_La_law 221 = .ok (.aload_n 3, 1) := by decide +kernel
theorem d_La_law_222 : decode b_La_law 222 = .ok (.iconst 0, 1) := by decide +kernel
theorem d_La_law_223 : decode b_La_law 223 = .ok (.laload, 1) := by decide +kernel
theorem d_La_law_224 : decode b_La_law 224 = .ok (.iload 6, 2) := by decide +kernel
theorem d_La_law_226 : decode b_La_law 226 = .ok (.i2l, 1) := by decide +kernel
theorem d_La_law_227 : decode b_La_law 227 = .ok (.lcmp, 1) := by decide +kernel
theorem d_La_law_228 : decode b_La_law 228 = .ok (.ifCond .eq 5, 3) := by decide +kernel
theorem d_La_law_231 : decode b_La_law 231 = .ok (.iconst 0, 1) := by decide +kernel
theorem d_La_law_232 : decode b_La_law 232 = .ok (.ireturn, 1) := by decide +kernel
theorem d_La_law_233 : decode b_La_law 233 = .ok (.goto 28, 3) := by decide +kernel
theorem d_La_law_236 : decode b_La_law 236 = .ok (.aload_n 1, 1) := by decide +kernel
theorem d_La_law_237 : decode b_La_law 237 = .ok (.aload_n 0, 1) := by decide +kernel
theorem d_La_law_238 : decode b_La_law 238 = .ok (.iload 4, 2) := by decide +kernel
theorem d_La_law_240 : decode b_La_law 240 = .ok (.iconst 1, 1) := by decide +kernel
theorem d_La_law_241 : decode b_La_law 241 = .ok (.iadd, 1) := by decide +kernel
theorem d_La_law_242 : decode b_La_law 242 = .ok (.iaload, 1) := by decide +kernel
theorem d_La_law_243 : decode b_La_law 243 = .ok (.invokevirtual 48, 3) := by decide +kernel
theorem d_La_law_246 : decode b_La_law 246 = .ok (.aload_n 2, 1) := by decide +kernel
theorem d_La_law_247 : decode b_La_law 247 = .ok (.aload_n 0, 1) := by decide +kernel
theorem d_La_law_248 : decode b_La_law 248 = .ok (.iload 4, 2) := by decide +kernel
theorem d_La_law_250 : decode b_La_law 250 = .ok (.iconst 1, 1) := by decide +kernel
theorem d_La_law_251 : decode b_La_law 251 = .ok (.iadd, 1) := by decide +kernel
theorem d_La_law_252 : decode b_La_law 252 = .ok (.iaload, 1) := by decide +kernel
theorem d_La_law_253 : decode b_La_law 253 = .ok (.invokevirtual 51, 3) := by decide +kernel
theorem d_La_law_256 : decode b_La_law 256 = .ok (.if_icmp .eq 5, 3) := by decide +kernel
theorem d_La_law_259 : decode b_La_law 259 = .ok (.iconst 0, 1) := by decide +kernel
theorem d_La_law_260 : decode b_La_law 260 = .ok (.ireturn, 1) := by decide +kernel
theorem d_La_law_261 : decode b_La_law 261 = .ok (.iinc 4 3, 3) := by decide +kernel
theorem d_La_law_264 : decode b_La_law 264 = .ok (.goto (-241), 3) := by decide +kernel
theorem d_La_law_267 : decode b_La_law 267 = .ok (.iconst 1, 1) := by decide +kernel
theorem d_La_law_268 : decode b_La_law 268 = .ok (.ireturn, 1) := by decide +kernel
theorem k_cw1 : Cond.codeWith y_La_run b_La_run 4 (some .int) [(0, 9, 12, 13)] ∈ aw_tbl := aw_i2 127 rfl rfl
theorem k_cw2 : Cond.codeWith y_La_output b_La_output 5 (some .int) [(0, 10, 13, 13), (0, 10, 17, 19)] ∈ aw_tbl := aw_i4 33 rfl rfl
theorem k_cl1 : (parseMethodDescriptor y_La_run.desc).map (fun d => d.parameters.length) = some 3 := by decide +kernel
theorem k_cl2 : (parseMethodDescriptor y_La_output.desc).map (fun d => d.parameters.length) = some 4 := by decide +kernel
theorem lpS_st : ∀ (k : Nat) (σ : SQ) (st : Nat), (lpS k σ st).2.2 ≤ st + k
  | 0, σ, st => Nat.le_refl _
  | k + 1, σ, st => by
    unfold lpS
    split
    · show st ≤ _
      omega
    · split
      · have := lpS_st k (stpS σ).2 (st + 1)
        omega
      · show st + 1 ≤ _
        omega
theorem runS_st (fu : Nat) (tx : List Nat) (T : List Def) : (runS fu tx T).2.2 ≤ fu := by
  have h := lpS_st fu ((tx, some 0, fun _ => [], T), [], [], 0) 0
  unfold runS endS
  split
  · omega
  · split
    · show (lpS fu ((tx, some 0, fun _ => [], T), [], [], 0) 0).2.2 ≤ fu
      omega
    · show (lpS fu ((tx, some 0, fun _ => [], T), [], [], 0) 0).2.2 ≤ fu
      omega
theorem i2c_ex (x : Int32) : ∃ c : Nat, c < 65536 ∧ (x.toUInt32 % 65536).toInt32 = nI c := by
  refine ⟨(x.toUInt32 % 65536).toNat, ?_, ?_⟩
  · rw [UInt32.toNat_mod]
    exact Nat.mod_lt _ (by decide)
  · show (⟨x.toUInt32 % 65536⟩ : Int32) = ⟨UInt32.ofNat (x.toUInt32 % 65536).toNat⟩
    rw [UInt32.ofNat_toNat]
theorem lw_cmp {L i : Nat} (hL : L ≤ 1536) (hi : i ≤ 1536) : (nI L - nI 3 < nI i) ↔ L < i + 3 := by
  have h : (nI L - nI 3).toInt = (L : Int) - 3 := by
    by_cases h3 : 3 ≤ L
    · have e : nI L - nI 3 = nI (L - 3) := by
        have := nI_add (L - 3) 3
        rw [show L - 3 + 3 = L by omega] at this
        rw [← this, Int32.add_sub_cancel]
      rw [e, nI_toInt (by omega)]
      omega
    · have h0 : L = 0 ∨ L = 1 ∨ L = 2 := by omega
      rcases h0 with rfl | rfl | rfl <;> decide
  rw [Int32.lt_iff_toInt_lt, h, nI_toInt (by omega)]
  omega
section
variable {G : aw_G} {E : aw_E} {d b L : Nat} {xs : Nat → Int32} {nm : String}
theorem aw_xald {nL nx cells slots pc mc ms n0 : Nat} {own : String} {cc : ByteArray} {rt : Option FieldType} {al : Bool} {w : Nat → va_E} {lv : List (Nat × Value)} {rest : List Value} (X : aw_X G own cc nL rt nm al n0 d mc ms E) {i : Nat} (hX : va_X b L xs E.2.2.1 E.2.2.1.heap) (hbl : b < E.2.2.1.heap.size) (hbA : ¬ aw_own G b) (hi : i < L) (hL : L < 2 ^ 31) (hdg : decode cc pc = .ok (.iaload, 1)) (kk : AW G E nL nx cells slots w (pc + 1) lv (.int (xs i) :: rest)) : AW G E nL nx cells slots w pc lv (.int (nI i) :: .ref b :: rest) := fun H locs ls hP hS hl =>
  va_sld X.1 X.2.1 hX hbl hbA hS (vp_in_nI hi hL) hdg (by rw [nI_clamp (by omega)]; exact kk H locs ls hP hS hl)
theorem aw_xlen {nL nx cells slots pc mc ms n0 : Nat} {own : String} {cc : ByteArray} {rt : Option FieldType} {al : Bool} {w : Nat → va_E} {lv : List (Nat × Value)} {rest : List Value} (X : aw_X G own cc nL rt nm al n0 d mc ms E) (hX : va_X b L xs E.2.2.1 E.2.2.1.heap) (hbl : b < E.2.2.1.heap.size) (hbA : ¬ aw_own G b) (hdg : decode cc pc = .ok (.arraylength, 1)) (kk : AW G E nL nx cells slots w (pc + 1) lv (.int (nI L) :: rest)) : AW G E nL nx cells slots w pc lv (.ref b :: rest) := fun H locs ls hP hS hl =>
  va_slen X.1 X.2.1 hX hbl hbA hS hdg (kk H locs ls hP hS hl)
theorem hMo.keep2 {w w2 : Nat → va_E} {p : Int32} {m : Nat → Nat} {A : Nat → Nat → Nat} {V : Nat → Int64} (hM : hMo G w p m A V) (kf : ∀ x, 418 ≤ x → x ≠ 442 → w2 x = w x) : hMo G w2 p m A V :=
  (hM.keep (w' := fun x => if x < 418 then w2 x else w x) (lo := 0) (hi := 418) (fun x hx => if_neg (by omega)) (Or.inl (by omega))).keep (w' := w2) (lo := 442) (hi := 443) (fun x hx => by
    by_cases h : x < 418
    · show w2 x = if x < 418 then w2 x else w x
      rw [if_pos h]
    · show w2 x = if x < 418 then w2 x else w x
      rw [if_neg h]
      exact kf x (by omega) (by omega)) (Or.inr (by omega))
theorem law_loop (X : aw_X G "RescanDeskLaw" code 7 ret nm true 0 d 601024 7293033 E) (hfl : G.1.flags = pinnedFlags ++ [noTraceFlag]) (hT0 : aw_T G E.2.2.1) (hd : 70 ≤ d) (hX : va_X b L xs E.2.2.1 E.2.2.1.heap) (hbl : b < E.2.2.1.heap.size) (hbA : ¬ aw_own G b) (hL : L ≤ 1536) (hend : ∀ w lv, AW G E 7 443 601024 7293033 w 268 lv [.int (nI 1)]) : ∀ (k i c s : Nat) (w : Nat → va_E) (tx : List Nat) (σ : SQ) (rd : Value) (st cd : Nat) (p : Int32) (m : Nat → Nat) (A : Nat → Nat → Nat) (V : Nat → Int64) (f : Nat → Int64), L ≤ i + 3 * k → i ≤ 1536 → c + k ≤ 2000 → s + 6 * k ≤ 40000 → hRd G w tx σ rd st → hMo G w p m A V → RM p m A tx σ (st, cd) → w 442 = aLong (G.2.2.2.1 2) 1 f → st ≤ 5000 → AW G E 7 443 c s w 23 [(4, .int (nI i)), (3, rf G 442), (2, rf G 418), (1, rf G 0), (0, .ref b)] [] := by
  intro k
  induction k with
  | zero =>
    intro i c s w tx σ rd st cd p m A V f hi hi2 hc hs hR hM hQ h42 hst
    refine aw_iload (pc := 23) X d_La_law_23 (by rfl) ?_
    refine aw_aload_n (pc := 25) X d_La_law_25 (by rfl) ?_
    refine aw_xlen (pc := 26) X hX hbl hbA d_La_law_26 ?_
    refine aw_iconstN (pc := 27) X 3 d_La_law_27 (by decide) ?_
    refine aw_isub (pc := 28) X d_La_law_28 ?_
    refine aw_icmp_gt (pc := 29) X (tgt := 267) d_La_law_29 (by rfl) (fun h29 => ?_) (fun h29 => ?_)
    -- br 29 lv=4:n,3:r,2:r,1:r,0:s st=
    · refine aw_iconstN (pc := 267) X 1 d_La_law_267 (by decide) ?_
      -- stop 268 lv=4:n,3:r,2:r,1:r,0:s st=n
      exact AW.wide (by omega) (by omega) (hend _ _)
    · exact absurd ((lw_cmp hL hi2).mpr (by omega)) h29
  | succ k ih =>
    intro i c s w tx σ rd st cd p m A V f hi hi2 hc hs hR hM hQ h42 hst
    refine aw_iload (pc := 23) X d_La_law_23 (by rfl) ?_
    refine aw_aload_n (pc := 25) X d_La_law_25 (by rfl) ?_
    refine aw_xlen (pc := 26) X hX hbl hbA d_La_law_26 ?_
    refine aw_iconstN (pc := 27) X 3 d_La_law_27 (by decide) ?_
    refine aw_isub (pc := 28) X d_La_law_28 ?_
    refine aw_icmp_gt (pc := 29) X (tgt := 267) d_La_law_29 (by rfl) (fun h29 => ?_) (fun h29 => ?_)
    -- br 29 lv=4:n,3:r,2:r,1:r,0:s st=
    · refine aw_iconstN (pc := 267) X 1 d_La_law_267 (by decide) ?_
      -- stop 268 lv=4:n,3:r,2:r,1:r,0:s st=n
      exact AW.wide (by omega) (by omega) (hend _ _)
    · have hiL : i + 3 ≤ L := by
        by_cases q : L < i + 3
        · exact absurd ((lw_cmp hL hi2).mpr q) h29
        · omega
      have Z : ∀ (c2 s2 : Nat) (w2 : Nat → va_E) (tx : List Nat) (σ : SQ) (rd : Value) (st cd : Nat) (p : Int32) (m : Nat → Nat) (A : Nat → Nat → Nat) (V : Nat → Int64) (f : Nat → Int64), c2 ≤ c + 1 → s2 ≤ s + 6 → hRd G w2 tx σ rd st → hMo G w2 p m A V → RM p m A tx σ (st, cd) → w2 442 = aLong (G.2.2.2.1 2) 1 f → st ≤ 5000 → AW G E 7 443 c2 s2 w2 261 [(4, .int (nI i)), (3, rf G 442), (2, rf G 418), (1, rf G 0), (0, .ref b)] [] := by
        intro c2 s2 w2 tx σ rd st cd p m A V f hc2 hs2 hR hM hQ h42 hst
        refine aw_iincN (pc := 261) X 3 (lv' := [(4, _), (3, _), (2, _), (1, _), (0, _)]) d_La_law_261 (by rfl) (by decide) (by decide) (by rfl) ?_
        refine aw_goto (pc := 264) X (tgt := 23) d_La_law_264 (by rfl) ?_
        -- stop 23 lv=4:n,3:r,2:r,1:r,0:s st=
        exact ih (i + 3) c2 s2 w2 tx σ rd st cd p m A V f (by omega) (by omega) (by omega) (by omega) hR hM hQ h42 hst
      refine aw_aload_n (pc := 32) X d_La_law_32 (by rfl) ?_
      refine aw_iload (pc := 33) X d_La_law_33 (by rfl) ?_
      refine aw_xald (pc := 35) X hX hbl hbA (by omega) (by omega) d_La_law_35 ?_
      refine aw_bipushN (pc := 36) X 7 d_La_law_36 (by decide) ?_
      refine aw_iand (pc := 38) X d_La_law_38 ?_
      -- tableswitch 39 lv=4:n,3:r,2:r,1:r,0:s st=i
      by_cases k0 : (xs i &&& nI 7).toInt = 0
      · refine aw_tableIn (pc := 39) X (off := 33) (tgt := 72) d_La_law_39 (by rw [k0]; decide) (by rw [k0]; decide) (by rw [k0]; decide) (by rfl) ?_
        obtain ⟨ch, hch, ech⟩ := i2c_ex (xs (i + 1))
        refine aw_aload_nR (pc := 72) X d_La_law_72 (by rfl) ?_
        refine aw_aload_n (pc := 73) X d_La_law_73 (by rfl) ?_
        refine aw_iload (pc := 74) X d_La_law_74 (by rfl) ?_
        refine aw_iconstN (pc := 76) X 1 d_La_law_76 (by decide) ?_
        refine aw_iaddN (pc := 77) X d_La_law_77 ?_
        refine aw_xald (pc := 78) X hX hbl hbA (by omega) (by omega) d_La_law_78 ?_
        refine aw_i2c (pc := 79) X d_La_law_79 ?_
        -- stop 80 lv=4:n,3:r,2:r,1:r,0:s st=i,r
        rw [ech]
        refine aw_callV (pc := 80) X _ (s_Rd_type (d := 1) (by omega) (by omega) hch hR) q_Rd_type k_397 k_398 k_399 (by omega) hR.1 (by rfl) d_La_law_80 (by omega) (Nat.le_of_ble_eq_true rfl) ⟨by omega, by omega⟩ (fun h => by cases h) (fun r w2 nx2 hp => ?_)
        obtain ⟨rfl, rfl, kR, kf⟩ := hp
        refine aw_aload_nR (pc := 83) X d_La_law_83 (by rfl) ?_
        refine aw_aload_n (pc := 84) X d_La_law_84 (by rfl) ?_
        refine aw_iload (pc := 85) X d_La_law_85 (by rfl) ?_
        refine aw_iconstN (pc := 87) X 1 d_La_law_87 (by decide) ?_
        refine aw_iaddN (pc := 88) X d_La_law_88 ?_
        refine aw_xald (pc := 89) X hX hbl hbA (by omega) (by omega) d_La_law_89 ?_
        refine aw_i2c (pc := 90) X d_La_law_90 ?_
        -- stop 91 lv=4:n,3:r,2:r,1:r,0:s st=i,r,i
        rw [ech]
        have hM2 := hM.keep kf (Or.inl (by omega))
        refine aw_callV (pc := 91) X _ (s_Mo_type (d := 0) (by omega) hch hQ hM2) q_Mo_type k_984 k_985 k_986 (by omega) hM2.1 (by rfl) d_La_law_91 (by omega) (Nat.le_of_ble_eq_true rfl) ⟨by omega, by omega⟩ (fun h => by cases h) (fun r w3 nx3 hp => ?_)
        obtain ⟨rfl, kf2, p2, m2, A2, V2, hM3, rfl, hQ3⟩ := hp
        refine aw_icmp_eq (pc := 94) X (tgt := 261) d_La_law_94 (by rfl) (fun h94 => ?_) (fun h94 => ?_)
        -- br 94 lv=4:n,3:r,2:r,1:r,0:s st=
        · exact Z _ _ w3 _ _ _ _ _ _ _ _ _ f (by omega) (by omega) (kR.keep kf2 (by omega)) hM3 hQ3 ((kf2 442 (by omega)).trans ((kf 442 (by omega)).trans h42)) hst
        · exact absurd rfl h94
      by_cases k1 : (xs i &&& nI 7).toInt = 1
      · refine aw_tableIn (pc := 39) X (off := 60) (tgt := 99) d_La_law_39 (by rw [k1]; decide) (by rw [k1]; decide) (by rw [k1]; decide) (by rfl) ?_
        refine aw_aload_nR (pc := 99) X d_La_law_99 (by rfl) ?_
        -- stop 100 lv=4:n,3:r,2:r,1:r,0:s st=r
        refine aw_callV (pc := 100) X _ (s_Rd_clear (d := 1) (by omega) (by omega) hR) q_Rd_clear k_402 k_403 k_404 (by omega) hR.1 (by rfl) d_La_law_100 (by omega) (Nat.le_of_ble_eq_true rfl) ⟨by omega, by omega⟩ (fun h => by cases h) (fun r w2 nx2 hp => ?_)
        obtain ⟨rfl, rfl, kR, kf⟩ := hp
        refine aw_aload_nR (pc := 103) X d_La_law_103 (by rfl) ?_
        -- stop 104 lv=4:n,3:r,2:r,1:r,0:s st=r,i
        have hM2 := hM.keep kf (Or.inl (by omega))
        refine aw_callV (pc := 104) X _ (s_Mo_clear (d := 0) (by omega) hQ hM2) q_Mo_clear k_988 k_989 k_990 (by omega) hM2.1 (by rfl) d_La_law_104 (by omega) (Nat.le_of_ble_eq_true rfl) ⟨by omega, by omega⟩ (fun h => by cases h) (fun r w3 nx3 hp => ?_)
        obtain ⟨rfl, kf2, p2, m2, A2, V2, hM3, rfl, hQ3⟩ := hp
        refine aw_icmp_eq (pc := 107) X (tgt := 261) d_La_law_107 (by rfl) (fun h107 => ?_) (fun h107 => ?_)
        -- br 107 lv=4:n,3:r,2:r,1:r,0:s st=
        · exact Z _ _ w3 _ _ _ _ _ _ _ _ _ f (by omega) (by omega) (kR.keep kf2 (by omega)) hM3 hQ3 ((kf2 442 (by omega)).trans ((kf 442 (by omega)).trans h42)) hst
        · exact absurd rfl h107
      by_cases k4 : (xs i &&& nI 7).toInt = 4
      · refine aw_tableIn (pc := 39) X (off := 197) (tgt := 236) d_La_law_39 (by rw [k4]; decide) (by rw [k4]; decide) (by rw [k4]; decide) (by rfl) ?_
        refine aw_aload_nR (pc := 236) X d_La_law_236 (by rfl) ?_
        refine aw_aload_n (pc := 237) X d_La_law_237 (by rfl) ?_
        refine aw_iload (pc := 238) X d_La_law_238 (by rfl) ?_
        refine aw_iconstN (pc := 240) X 1 d_La_law_240 (by decide) ?_
        refine aw_iaddN (pc := 241) X d_La_law_241 ?_
        refine aw_xald (pc := 242) X hX hbl hbA (by omega) (by omega) d_La_law_242 ?_
        -- stop 243 lv=4:n,3:r,2:r,1:r,0:s st=i,r
        refine aw_callV (pc := 243) X _ (s_Rd_count (d := 3) (by omega) (by omega) hR) q_Rd_count k_407 k_408 k_409 (by omega) hR.1 (by rfl) d_La_law_243 (by omega) (Nat.le_of_ble_eq_true rfl) ⟨by omega, by omega⟩ (fun h => by cases h) (fun r w2 nx2 hp => ?_)
        obtain ⟨rfl, rfl, rfl⟩ := hp
        refine aw_aload_nR (pc := 246) X d_La_law_246 (by rfl) ?_
        refine aw_aload_n (pc := 247) X d_La_law_247 (by rfl) ?_
        refine aw_iload (pc := 248) X d_La_law_248 (by rfl) ?_
        refine aw_iconstN (pc := 250) X 1 d_La_law_250 (by decide) ?_
        refine aw_iaddN (pc := 251) X d_La_law_251 ?_
        refine aw_xald (pc := 252) X hX hbl hbA (by omega) (by omega) d_La_law_252 ?_
        -- stop 253 lv=4:n,3:r,2:r,1:r,0:s st=i,r,i
        refine aw_callV (pc := 253) X _ (s_Mo_count (d := 3) (by omega) (by omega) (by show st < _; omega) hQ hM) q_Mo_count k_1152 k_1153 k_1154 (by omega) hM.1 (by rfl) d_La_law_253 (by omega) (Nat.le_of_ble_eq_true rfl) ⟨by omega, by omega⟩ (fun h => by cases h) (fun r w3 nx3 hp => ?_)
        obtain ⟨rfl, kf2, p2, m2, A2, V2, hM3, rfl, hQ3⟩ := hp
        refine aw_icmp_eq (pc := 256) X (tgt := 261) d_La_law_256 (by rfl) (fun h256 => ?_) (fun h256 => ?_)
        -- br 256 lv=4:n,3:r,2:r,1:r,0:s st=
        · exact Z _ _ w3 _ _ _ _ _ _ _ _ _ f (by omega) (by omega) (hR.keep kf2 (by omega)) hM3 hQ3 ((kf2 442 (by omega)).trans h42) hst
        · exact absurd rfl h256
      by_cases k2 : (xs i &&& nI 7).toInt = 2
      · refine aw_tableIn (pc := 39) X (off := 73) (tgt := 112) d_La_law_39 (by rw [k2]; decide) (by rw [k2]; decide) (by rw [k2]; decide) (by rfl) ?_
        by_cases hx : 0 ≤ (xs (i + 1)).toInt ∧ (xs (i + 1)).toInt ≤ 5000
        · obtain ⟨fu, hfu, efu⟩ := i32_nat hx.1
          rw [efu, nI_toInt hfu] at hx
          have hfu5 : fu ≤ 5000 := by omega
          refine aw_aload_nR (pc := 112) X d_La_law_112 (by rfl) ?_
          refine aw_aload_n (pc := 113) X d_La_law_113 (by rfl) ?_
          refine aw_iload (pc := 114) X d_La_law_114 (by rfl) ?_
          refine aw_iconstN (pc := 116) X 1 d_La_law_116 (by decide) ?_
          refine aw_iaddN (pc := 117) X d_La_law_117 ?_
          refine aw_xald (pc := 118) X hX hbl hbA (by omega) (by omega) d_La_law_118 ?_
          refine aw_aload_nR (pc := 119) X d_La_law_119 (by rfl) ?_
          -- stop 120 lv=4:n,3:r,2:r,1:r,0:s st=r,i,r
          rw [efu]
          refine aw_callSW (pc := 120) X (s_La_run (d := 63) (by omega) (by omega) hfu5 hR h42) k_cw1 k_62 ⟨by decide, by decide⟩ k_cl1 (by decide) k_427 k_428 d_La_law_120 (by omega) (Nat.le_of_ble_eq_true rfl) ⟨by omega, by omega⟩ hT0 (fun r w2 nx2 hp => ?_)
          obtain ⟨rfl, rfl, ⟨rd2, kR⟩, ⟨f2, e42, e20⟩, kf⟩ := hp
          have hM2 := hM.keep2 kf
          refine aw_istore (pc := 123) X (lv' := [(5, _), (4, _), (3, _), (2, _), (1, _), (0, _)]) d_La_law_123 (by decide) (by rfl) ?_
          refine aw_aload_nR (pc := 125) X d_La_law_125 (by rfl) ?_
          refine aw_aload_n (pc := 126) X d_La_law_126 (by rfl) ?_
          refine aw_iload (pc := 127) X d_La_law_127 (by rfl) ?_
          refine aw_iconstN (pc := 129) X 1 d_La_law_129 (by decide) ?_
          refine aw_iaddN (pc := 130) X d_La_law_130 ?_
          refine aw_xald (pc := 131) X hX hbl hbA (by omega) (by omega) d_La_law_131 ?_
          -- stop 132 lv=5:i,4:n,3:r,2:r,1:r,0:s st=i,r
          rw [efu]
          refine aw_callV (pc := 132) X _ (s_Mo_run (d := 10) (by omega) (by omega) hfu5 hQ hM2) q_Mo_run k_999 k_1000 k_1001 (by omega) hM2.1 (by rfl) d_La_law_132 (by omega) (Nat.le_of_ble_eq_true rfl) ⟨by omega, by omega⟩ (fun h => by cases h) (fun r w3 nx3 hp => ?_)
          obtain ⟨rfl, kf2, p2, m2, A2, V2, hM3, rfl, e0, hQ3⟩ := hp
          have e43 : w3 442 = aLong (G.2.2.2.1 2) 1 f2 := (kf2 442 (by omega)).trans e42
          refine aw_istore (pc := 135) X (lv' := [(6, _), (5, _), (4, _), (3, _), (2, _), (1, _), (0, _)]) d_La_law_135 (by decide) (by rfl) ?_
          refine aw_aload_nR (pc := 137) X d_La_law_137 (by rfl) ?_
          -- stop 138 lv=6:i,5:i,4:n,3:r,2:r,1:r,0:s st=r
          refine aw_callV (pc := 138) X _ (s_Mo_thrown (d := 0) (by omega) hM3) q_Mo_thrown k_980 k_981 k_982 (by omega) hM3.1 (by rfl) d_La_law_138 (by omega) (Nat.le_of_ble_eq_true rfl) ⟨by omega, by omega⟩ (fun h => by cases h) (fun r w4 nx4 hp => ?_)
          obtain ⟨rfl, rfl, rfl⟩ := hp
          rw [e0]
          refine aw_iload (pc := 141) X d_La_law_141 (by rfl) ?_
          refine aw_icmp_eq (pc := 143) X (tgt := 148) d_La_law_143 (by rfl) (fun h143 => ?_) (fun h143 => ?_)
          -- br 143 lv=6:i,5:i,4:n,3:r,2:r,1:r,0:s st=
          · refine aw_iload (pc := 148) X d_La_law_148 (by rfl) ?_
            refine aw_if_ne (pc := 150) X (tgt := 165) d_La_law_150 (by rfl) (fun h150 => ?_) (fun h150 => ?_)
            -- br 150 lv=6:i,5:i,4:n,3:r,2:r,1:r,0:s st=
            · exact absurd (by decide) h150
            · refine aw_aload_nR (pc := 153) X d_La_law_153 (by rfl) ?_
              refine aw_iconstN (pc := 154) X 0 d_La_law_154 (by decide) ?_
              refine aw_laldN (pc := 155) X _ 2 (by omega) (by (repeat (first | rw [aw_up_eq] | rw [aw_up_ne _ _ (by first | assumption | omega)])) <;> first | assumption | rfl) (by rfl) (by omega) (by omega) d_La_law_155 ?_
              refine aw_iload (pc := 156) X d_La_law_156 (by rfl) ?_
              refine aw_i2l (pc := 158) X d_La_law_158 ?_
              refine aw_lcmp (pc := 159) X d_La_law_159 ?_
              refine aw_if_eq (pc := 160) X (tgt := 165) d_La_law_160 (by rfl) (fun h160 => ?_) (fun h160 => ?_)
              -- br 160 lv=6:i,5:i,4:n,3:r,2:r,1:r,0:s st=
              · refine aw_goto (pc := 165) X (tgt := 261) d_La_law_165 (by rfl) ?_
                -- stop 261 lv=6:i,5:i,4:n,3:r,2:r,1:r,0:s st=
                refine AW.lsub [2, 3, 4, 5, 6] (by rfl) ?_
                exact Z _ _ _ _ _ _ _ _ _ _ _ _ f2 (by omega) (by omega) (kR.keep kf2 (by omega)) hM3 hQ3 e43 (Nat.le_trans (runS_st _ _ _) hfu5)
              · exact absurd ((lg_eq0 _ _).mpr e20) h160
          · exact absurd rfl h143
        · refine aw_aload_nR (pc := 112) X d_La_law_112 (by rfl) ?_
          refine aw_aload_n (pc := 113) X d_La_law_113 (by rfl) ?_
          refine aw_iload (pc := 114) X d_La_law_114 (by rfl) ?_
          refine aw_iconstN (pc := 116) X 1 d_La_law_116 (by decide) ?_
          refine aw_iaddN (pc := 117) X d_La_law_117 ?_
          refine aw_xald (pc := 118) X hX hbl hbA (by omega) (by omega) d_La_law_118 ?_
          refine aw_aload_nR (pc := 119) X d_La_law_119 (by rfl) ?_
          -- stop 120 lv=4:n,3:r,2:r,1:r,0:s st=r,i,r
          refine aw_callSW (pc := 120) X (s_La_runT (d := 63) hfl (by omega) (by omega) hx hR) k_cw1 k_62 ⟨by decide, by decide⟩ k_cl1 (by decide) k_427 k_428 d_La_law_120 (by omega) (Nat.le_of_ble_eq_true rfl) ⟨by omega, by omega⟩ hT0 (fun r w2 nx2 hp => ?_)
          obtain ⟨rfl, rfl, rfl⟩ := hp
          refine aw_istore (pc := 123) X (lv' := [(5, _), (4, _), (3, _), (2, _), (1, _), (0, _)]) d_La_law_123 (by decide) (by rfl) ?_
          refine aw_aload_nR (pc := 125) X d_La_law_125 (by rfl) ?_
          refine aw_aload_n (pc := 126) X d_La_law_126 (by rfl) ?_
          refine aw_iload (pc := 127) X d_La_law_127 (by rfl) ?_
          refine aw_iconstN (pc := 129) X 1 d_La_law_129 (by decide) ?_
          refine aw_iaddN (pc := 130) X d_La_law_130 ?_
          refine aw_xald (pc := 131) X hX hbl hbA (by omega) (by omega) d_La_law_131 ?_
          -- stop 132 lv=5:i,4:n,3:r,2:r,1:r,0:s st=i,r
          refine aw_callV (pc := 132) X _ (s_Mo_runN (d := 1) (by omega) (by omega) hx hQ hM) q_Mo_run k_999 k_1000 k_1001 (by omega) hM.1 (by rfl) d_La_law_132 (by omega) (Nat.le_of_ble_eq_true rfl) ⟨by omega, by omega⟩ (fun h => by cases h) (fun r w3 nx3 hp => ?_)
          obtain ⟨rfl, kf2, p2, m2, A2, V2, hM3, rfl, e0, hQ3⟩ := hp
          refine aw_istore (pc := 135) X (lv' := [(6, _), (5, _), (4, _), (3, _), (2, _), (1, _), (0, _)]) d_La_law_135 (by decide) (by rfl) ?_
          refine aw_aload_nR (pc := 137) X d_La_law_137 (by rfl) ?_
          -- stop 138 lv=6:i,5:i,4:n,3:r,2:r,1:r,0:s st=r
          refine aw_callV (pc := 138) X _ (s_Mo_thrown (d := 0) (by omega) hM3) q_Mo_thrown k_980 k_981 k_982 (by omega) hM3.1 (by rfl) d_La_law_138 (by omega) (Nat.le_of_ble_eq_true rfl) ⟨by omega, by omega⟩ (fun h => by cases h) (fun r w4 nx4 hp => ?_)
          obtain ⟨rfl, rfl, rfl⟩ := hp
          rw [e0]
          refine aw_iload (pc := 141) X d_La_law_141 (by rfl) ?_
          refine aw_icmp_eq (pc := 143) X (tgt := 148) d_La_law_143 (by rfl) (fun h143 => ?_) (fun h143 => ?_)
          -- br 143 lv=6:i,5:i,4:n,3:r,2:r,1:r,0:s st=
          · refine aw_iload (pc := 148) X d_La_law_148 (by rfl) ?_
            refine aw_if_ne (pc := 150) X (tgt := 165) d_La_law_150 (by rfl) (fun h150 => ?_) (fun h150 => ?_)
            -- br 150 lv=6:i,5:i,4:n,3:r,2:r,1:r,0:s st=
            · refine aw_goto (pc := 165) X (tgt := 261) d_La_law_165 (by rfl) ?_
              -- stop 261 lv=6:i,5:i,4:n,3:r,2:r,1:r,0:s st=
              refine AW.lsub [2, 3, 4, 5, 6] (by rfl) ?_
              exact Z _ _ _ _ _ _ _ _ _ _ _ _ f (by omega) (by omega) (hR.keep kf2 (by omega)) hM3 hQ3 ((kf2 442 (by omega)).trans h42) hst
            · exact absurd h150 (by decide)
          · exact absurd rfl h143
      by_cases k3 : (xs i &&& nI 7).toInt = 3
      · refine aw_tableIn (pc := 39) X (off := 129) (tgt := 168) d_La_law_39 (by rw [k3]; decide) (by rw [k3]; decide) (by rw [k3]; decide) (by rfl) ?_
        by_cases hx : 0 ≤ (xs (i + 1)).toInt ∧ (xs (i + 1)).toInt < 4
        · obtain ⟨ro, hro, ero⟩ := i32_nat hx.1
          have hx' := hx
          rw [ero, nI_toInt hro] at hx'
          have hr4 : ro < 4 := by omega
          by_cases hy : 0 ≤ (xs (i + 2)).toInt ∧ (xs (i + 2)).toInt < (σ.1.2.2.1 ro).length
          · obtain ⟨pl, hpl, epl⟩ := i32_nat hy.1
            have hy' := hy
            rw [epl, nI_toInt hpl] at hy'
            have hpl4 : pl < (σ.1.2.2.1 ro).length := by omega
            have eoc : outC (nI ro) (nI pl) σ.1.2.2.1 = 0 := by
              unfold outC
              rw [nI_toInt hro, nI_toInt hpl, if_neg (by omega), if_neg]
              rw [Int.toNat_natCast]
              omega
            refine aw_aload_nR (pc := 168) X d_La_law_168 (by rfl) ?_
            refine aw_aload_n (pc := 169) X d_La_law_169 (by rfl) ?_
            refine aw_iload (pc := 170) X d_La_law_170 (by rfl) ?_
            refine aw_iconstN (pc := 172) X 1 d_La_law_172 (by decide) ?_
            refine aw_iaddN (pc := 173) X d_La_law_173 ?_
            refine aw_xald (pc := 174) X hX hbl hbA (by omega) (by omega) d_La_law_174 ?_
            refine aw_aload_n (pc := 175) X d_La_law_175 (by rfl) ?_
            refine aw_iload (pc := 176) X d_La_law_176 (by rfl) ?_
            refine aw_iconstN (pc := 178) X 2 d_La_law_178 (by decide) ?_
            refine aw_iaddN (pc := 179) X d_La_law_179 ?_
            refine aw_xald (pc := 180) X hX hbl hbA (by omega) (by omega) d_La_law_180 ?_
            refine aw_aload_nR (pc := 181) X d_La_law_181 (by rfl) ?_
            -- stop 182 lv=4:n,3:r,2:r,1:r,0:s st=r,i,i,r
            rw [ero, epl]
            refine aw_callSW (pc := 182) X (s_La_output (d := 63) (by omega) (by omega) hr4 hpl4 hR h42) k_cw2 k_62 ⟨by decide, by decide⟩ k_cl2 (by decide) k_813 k_814 d_La_law_182 (by omega) (Nat.le_of_ble_eq_true rfl) ⟨by omega, by omega⟩ hT0 (fun r w2 nx2 hp => ?_)
            obtain ⟨rfl, rfl, ⟨f2, e42, e20⟩, kf⟩ := hp
            have hM2 := hM.keep kf (Or.inr (by omega))
            have kR := hR.keep kf (by omega)
            refine aw_istore (pc := 185) X (lv' := [(5, _), (4, _), (3, _), (2, _), (1, _), (0, _)]) d_La_law_185 (by decide) (by rfl) ?_
            refine aw_aload_nR (pc := 187) X d_La_law_187 (by rfl) ?_
            refine aw_aload_n (pc := 188) X d_La_law_188 (by rfl) ?_
            refine aw_iload (pc := 189) X d_La_law_189 (by rfl) ?_
            refine aw_iconstN (pc := 191) X 1 d_La_law_191 (by decide) ?_
            refine aw_iaddN (pc := 192) X d_La_law_192 ?_
            refine aw_xald (pc := 193) X hX hbl hbA (by omega) (by omega) d_La_law_193 ?_
            refine aw_aload_n (pc := 194) X d_La_law_194 (by rfl) ?_
            refine aw_iload (pc := 195) X d_La_law_195 (by rfl) ?_
            refine aw_iconstN (pc := 197) X 2 d_La_law_197 (by decide) ?_
            refine aw_iaddN (pc := 198) X d_La_law_198 ?_
            refine aw_xald (pc := 199) X hX hbl hbA (by omega) (by omega) d_La_law_199 ?_
            -- stop 200 lv=5:i,4:n,3:r,2:r,1:r,0:s st=i,i,r
            rw [ero, epl]
            refine aw_callV (pc := 200) X _ (s_Mo_output (d := 1) (by omega) (by omega) hQ hM2) q_Mo_output k_992 k_993 k_994 (by omega) hM2.1 (by rfl) d_La_law_200 (by omega) (Nat.le_of_ble_eq_true rfl) ⟨by omega, by omega⟩ (fun h => by cases h) (fun r w3 nx3 hp => ?_)
            obtain ⟨rfl, kf2, p2, m2, A2, V2, hM3, hQ3, e0, cc9, hcc9, rfl, ecc9⟩ := hp
            have e43 : w3 442 = aLong (G.2.2.2.1 2) 1 f2 := (kf2 442 (by omega)).trans e42
            have e9 : cc9 = (σ.1.2.2.1 ro).getD pl 0 := by
              have := ecc9 eoc
              rw [nI_toInt hro, nI_toInt hpl, Int.toNat_natCast, Int.toNat_natCast] at this
              exact this
            rw [eoc] at e0
            refine aw_istore (pc := 203) X (lv' := [(6, _), (5, _), (4, _), (3, _), (2, _), (1, _), (0, _)]) d_La_law_203 (by decide) (by rfl) ?_
            refine aw_aload_nR (pc := 205) X d_La_law_205 (by rfl) ?_
            -- stop 206 lv=6:i,5:i,4:n,3:r,2:r,1:r,0:s st=r
            refine aw_callV (pc := 206) X _ (s_Mo_thrown (d := 0) (by omega) hM3) q_Mo_thrown k_980 k_981 k_982 (by omega) hM3.1 (by rfl) d_La_law_206 (by omega) (Nat.le_of_ble_eq_true rfl) ⟨by omega, by omega⟩ (fun h => by cases h) (fun r w4 nx4 hp => ?_)
            obtain ⟨rfl, rfl, rfl⟩ := hp
            rw [e0]
            refine aw_iload (pc := 209) X d_La_law_209 (by rfl) ?_
            refine aw_icmp_eq (pc := 211) X (tgt := 216) d_La_law_211 (by rfl) (fun h211 => ?_) (fun h211 => ?_)
            -- br 211 lv=6:i,5:i,4:n,3:r,2:r,1:r,0:s st=
            · refine aw_iload (pc := 216) X d_La_law_216 (by rfl) ?_
              refine aw_if_ne (pc := 218) X (tgt := 233) d_La_law_218 (by rfl) (fun h218 => ?_) (fun h218 => ?_)
              -- br 218 lv=6:i,5:i,4:n,3:r,2:r,1:r,0:s st=
              · exact absurd (by decide) h218
              · refine aw_aload_nR (pc := 221) X d_La_law_221 (by rfl) ?_
                refine aw_iconstN (pc := 222) X 0 d_La_law_222 (by decide) ?_
                refine aw_laldN (pc := 223) X _ 2 (by omega) (by (repeat (first | rw [aw_up_eq] | rw [aw_up_ne _ _ (by first | assumption | omega)])) <;> first | assumption | rfl) (by rfl) (by omega) (by omega) d_La_law_223 ?_
                refine aw_iload (pc := 224) X d_La_law_224 (by rfl) ?_
                refine aw_i2l (pc := 226) X d_La_law_226 ?_
                refine aw_lcmp (pc := 227) X d_La_law_227 ?_
                refine aw_if_eq (pc := 228) X (tgt := 233) d_La_law_228 (by rfl) (fun h228 => ?_) (fun h228 => ?_)
                -- br 228 lv=6:i,5:i,4:n,3:r,2:r,1:r,0:s st=
                · refine aw_goto (pc := 233) X (tgt := 261) d_La_law_233 (by rfl) ?_
                  -- stop 261 lv=6:i,5:i,4:n,3:r,2:r,1:r,0:s st=
                  refine AW.lsub [2, 3, 4, 5, 6] (by rfl) ?_
                  exact Z _ _ _ _ _ _ _ _ _ _ _ _ f2 (by omega) (by omega) (kR.keep kf2 (by omega)) hM3 hQ3 e43 hst
                · exact absurd ((lg_eq0 _ _).mpr (by rw [e20, e9])) h228
            · exact absurd rfl h211
          · have eoc : outC (nI ro) (xs (i + 2)) σ.1.2.2.1 = 2 := by
              unfold outC
              rw [nI_toInt hro, if_neg (by omega), if_pos]
              rw [Int.toNat_natCast]
              exact hy
            refine aw_aload_nR (pc := 168) X d_La_law_168 (by rfl) ?_
            refine aw_aload_n (pc := 169) X d_La_law_169 (by rfl) ?_
            refine aw_iload (pc := 170) X d_La_law_170 (by rfl) ?_
            refine aw_iconstN (pc := 172) X 1 d_La_law_172 (by decide) ?_
            refine aw_iaddN (pc := 173) X d_La_law_173 ?_
            refine aw_xald (pc := 174) X hX hbl hbA (by omega) (by omega) d_La_law_174 ?_
            refine aw_aload_n (pc := 175) X d_La_law_175 (by rfl) ?_
            refine aw_iload (pc := 176) X d_La_law_176 (by rfl) ?_
            refine aw_iconstN (pc := 178) X 2 d_La_law_178 (by decide) ?_
            refine aw_iaddN (pc := 179) X d_La_law_179 ?_
            refine aw_xald (pc := 180) X hX hbl hbA (by omega) (by omega) d_La_law_180 ?_
            refine aw_aload_nR (pc := 181) X d_La_law_181 (by rfl) ?_
            -- stop 182 lv=4:n,3:r,2:r,1:r,0:s st=r,i,i,r
            rw [ero]
            refine aw_callSW (pc := 182) X (s_La_outT2 (d := 63) hfl (by omega) (by omega) hr4 hy hR) k_cw2 k_62 ⟨by decide, by decide⟩ k_cl2 (by decide) k_813 k_814 d_La_law_182 (by omega) (Nat.le_of_ble_eq_true rfl) ⟨by omega, by omega⟩ hT0 (fun r w2 nx2 hp => ?_)
            obtain ⟨rfl, rfl, rfl⟩ := hp
            refine aw_istore (pc := 185) X (lv' := [(5, _), (4, _), (3, _), (2, _), (1, _), (0, _)]) d_La_law_185 (by decide) (by rfl) ?_
            refine aw_aload_nR (pc := 187) X d_La_law_187 (by rfl) ?_
            refine aw_aload_n (pc := 188) X d_La_law_188 (by rfl) ?_
            refine aw_iload (pc := 189) X d_La_law_189 (by rfl) ?_
            refine aw_iconstN (pc := 191) X 1 d_La_law_191 (by decide) ?_
            refine aw_iaddN (pc := 192) X d_La_law_192 ?_
            refine aw_xald (pc := 193) X hX hbl hbA (by omega) (by omega) d_La_law_193 ?_
            refine aw_aload_n (pc := 194) X d_La_law_194 (by rfl) ?_
            refine aw_iload (pc := 195) X d_La_law_195 (by rfl) ?_
            refine aw_iconstN (pc := 197) X 2 d_La_law_197 (by decide) ?_
            refine aw_iaddN (pc := 198) X d_La_law_198 ?_
            refine aw_xald (pc := 199) X hX hbl hbA (by omega) (by omega) d_La_law_199 ?_
            -- stop 200 lv=5:i,4:n,3:r,2:r,1:r,0:s st=i,i,r
            rw [ero]
            refine aw_callV (pc := 200) X _ (s_Mo_output (d := 1) (by omega) (by omega) hQ hM) q_Mo_output k_992 k_993 k_994 (by omega) hM.1 (by rfl) d_La_law_200 (by omega) (Nat.le_of_ble_eq_true rfl) ⟨by omega, by omega⟩ (fun h => by cases h) (fun r w3 nx3 hp => ?_)
            obtain ⟨rfl, kf2, p2, m2, A2, V2, hM3, hQ3, e0, cc9, hcc9, rfl, ecc9⟩ := hp
            rw [eoc] at e0
            refine aw_istore (pc := 203) X (lv' := [(6, _), (5, _), (4, _), (3, _), (2, _), (1, _), (0, _)]) d_La_law_203 (by decide) (by rfl) ?_
            refine aw_aload_nR (pc := 205) X d_La_law_205 (by rfl) ?_
            -- stop 206 lv=6:i,5:i,4:n,3:r,2:r,1:r,0:s st=r
            refine aw_callV (pc := 206) X _ (s_Mo_thrown (d := 0) (by omega) hM3) q_Mo_thrown k_980 k_981 k_982 (by omega) hM3.1 (by rfl) d_La_law_206 (by omega) (Nat.le_of_ble_eq_true rfl) ⟨by omega, by omega⟩ (fun h => by cases h) (fun r w4 nx4 hp => ?_)
            obtain ⟨rfl, rfl, rfl⟩ := hp
            rw [e0]
            refine aw_iload (pc := 209) X d_La_law_209 (by rfl) ?_
            refine aw_icmp_eq (pc := 211) X (tgt := 216) d_La_law_211 (by rfl) (fun h211 => ?_) (fun h211 => ?_)
            -- br 211 lv=6:i,5:i,4:n,3:r,2:r,1:r,0:s st=
            · refine aw_iload (pc := 216) X d_La_law_216 (by rfl) ?_
              refine aw_if_ne (pc := 218) X (tgt := 233) d_La_law_218 (by rfl) (fun h218 => ?_) (fun h218 => ?_)
              -- br 218 lv=6:i,5:i,4:n,3:r,2:r,1:r,0:s st=
              · refine aw_goto (pc := 233) X (tgt := 261) d_La_law_233 (by rfl) ?_
                -- stop 261 lv=6:i,5:i,4:n,3:r,2:r,1:r,0:s st=
                refine AW.lsub [2, 3, 4, 5, 6] (by rfl) ?_
                exact Z _ _ _ _ _ _ _ _ _ _ _ _ f (by omega) (by omega) (hR.keep kf2 (by omega)) hM3 hQ3 ((kf2 442 (by omega)).trans h42) hst
              · exact absurd h218 (by decide)
            · exact absurd rfl h211
        · have eoc : outC (xs (i + 1)) (xs (i + 2)) σ.1.2.2.1 = 1 := by
            unfold outC
            rw [if_pos hx]
          refine aw_aload_nR (pc := 168) X d_La_law_168 (by rfl) ?_
          refine aw_aload_n (pc := 169) X d_La_law_169 (by rfl) ?_
          refine aw_iload (pc := 170) X d_La_law_170 (by rfl) ?_
          refine aw_iconstN (pc := 172) X 1 d_La_law_172 (by decide) ?_
          refine aw_iaddN (pc := 173) X d_La_law_173 ?_
          refine aw_xald (pc := 174) X hX hbl hbA (by omega) (by omega) d_La_law_174 ?_
          refine aw_aload_n (pc := 175) X d_La_law_175 (by rfl) ?_
          refine aw_iload (pc := 176) X d_La_law_176 (by rfl) ?_
          refine aw_iconstN (pc := 178) X 2 d_La_law_178 (by decide) ?_
          refine aw_iaddN (pc := 179) X d_La_law_179 ?_
          refine aw_xald (pc := 180) X hX hbl hbA (by omega) (by omega) d_La_law_180 ?_
          refine aw_aload_nR (pc := 181) X d_La_law_181 (by rfl) ?_
          -- stop 182 lv=4:n,3:r,2:r,1:r,0:s st=r,i,i,r
          refine aw_callSW (pc := 182) X (s_La_outT1 (d := 63) hfl (by omega) (by omega) hx hR) k_cw2 k_62 ⟨by decide, by decide⟩ k_cl2 (by decide) k_813 k_814 d_La_law_182 (by omega) (Nat.le_of_ble_eq_true rfl) ⟨by omega, by omega⟩ hT0 (fun r w2 nx2 hp => ?_)
          obtain ⟨rfl, rfl, rfl⟩ := hp
          refine aw_istore (pc := 185) X (lv' := [(5, _), (4, _), (3, _), (2, _), (1, _), (0, _)]) d_La_law_185 (by decide) (by rfl) ?_
          refine aw_aload_nR (pc := 187) X d_La_law_187 (by rfl) ?_
          refine aw_aload_n (pc := 188) X d_La_law_188 (by rfl) ?_
          refine aw_iload (pc := 189) X d_La_law_189 (by rfl) ?_
          refine aw_iconstN (pc := 191) X 1 d_La_law_191 (by decide) ?_
          refine aw_iaddN (pc := 192) X d_La_law_192 ?_
          refine aw_xald (pc := 193) X hX hbl hbA (by omega) (by omega) d_La_law_193 ?_
          refine aw_aload_n (pc := 194) X d_La_law_194 (by rfl) ?_
          refine aw_iload (pc := 195) X d_La_law_195 (by rfl) ?_
          refine aw_iconstN (pc := 197) X 2 d_La_law_197 (by decide) ?_
          refine aw_iaddN (pc := 198) X d_La_law_198 ?_
          refine aw_xald (pc := 199) X hX hbl hbA (by omega) (by omega) d_La_law_199 ?_
          -- stop 200 lv=5:i,4:n,3:r,2:r,1:r,0:s st=i,i,r
          refine aw_callV (pc := 200) X _ (s_Mo_output (d := 1) (by omega) (by omega) hQ hM) q_Mo_output k_992 k_993 k_994 (by omega) hM.1 (by rfl) d_La_law_200 (by omega) (Nat.le_of_ble_eq_true rfl) ⟨by omega, by omega⟩ (fun h => by cases h) (fun r w3 nx3 hp => ?_)
          obtain ⟨rfl, kf2, p2, m2, A2, V2, hM3, hQ3, e0, cc9, hcc9, rfl, ecc9⟩ := hp
          rw [eoc] at e0
          refine aw_istore (pc := 203) X (lv' := [(6, _), (5, _), (4, _), (3, _), (2, _), (1, _), (0, _)]) d_La_law_203 (by decide) (by rfl) ?_
          refine aw_aload_nR (pc := 205) X d_La_law_205 (by rfl) ?_
          -- stop 206 lv=6:i,5:i,4:n,3:r,2:r,1:r,0:s st=r
          refine aw_callV (pc := 206) X _ (s_Mo_thrown (d := 0) (by omega) hM3) q_Mo_thrown k_980 k_981 k_982 (by omega) hM3.1 (by rfl) d_La_law_206 (by omega) (Nat.le_of_ble_eq_true rfl) ⟨by omega, by omega⟩ (fun h => by cases h) (fun r w4 nx4 hp => ?_)
          obtain ⟨rfl, rfl, rfl⟩ := hp
          rw [e0]
          refine aw_iload (pc := 209) X d_La_law_209 (by rfl) ?_
          refine aw_icmp_eq (pc := 211) X (tgt := 216) d_La_law_211 (by rfl) (fun h211 => ?_) (fun h211 => ?_)
          -- br 211 lv=6:i,5:i,4:n,3:r,2:r,1:r,0:s st=
          · refine aw_iload (pc := 216) X d_La_law_216 (by rfl) ?_
            refine aw_if_ne (pc := 218) X (tgt := 233) d_La_law_218 (by rfl) (fun h218 => ?_) (fun h218 => ?_)
            -- br 218 lv=6:i,5:i,4:n,3:r,2:r,1:r,0:s st=
            · refine aw_goto (pc := 233) X (tgt := 261) d_La_law_233 (by rfl) ?_
              -- stop 261 lv=6:i,5:i,4:n,3:r,2:r,1:r,0:s st=
              refine AW.lsub [2, 3, 4, 5, 6] (by rfl) ?_
              exact Z _ _ _ _ _ _ _ _ _ _ _ _ f (by omega) (by omega) (hR.keep kf2 (by omega)) hM3 hQ3 ((kf2 442 (by omega)).trans h42) hst
            · exact absurd h218 (by decide)
          · exact absurd rfl h211
      refine aw_tableOut (pc := 39) X (tgt := 261) d_La_law_39 (by omega) (by rfl) ?_
      exact Z _ _ w _ _ _ _ _ _ _ _ _ f (by omega) (by omega) hR hM hQ h42 hst
theorem law_walk {w : Nat → va_E} (X : aw_X G "RescanDeskLaw" code 7 ret nm true 0 d 601024 7293033 E) (hfl : G.1.flags = pinnedFlags ++ [noTraceFlag]) (hT0 : aw_T G E.2.2.1) (hd : 70 ≤ d) (hX : va_X b L xs E.2.2.1 E.2.2.1.heap) (hbl : b < E.2.2.1.heap.size) (hbA : ¬ aw_own G b) (hL : L ≤ 1536) (hend : ∀ w lv, AW G E 7 443 601024 7293033 w 268 lv [.int (nI 1)]) : AW G E 7 0 0 0 w 0 [(0, .ref b)] [] := by
  refine aw_new (pc := 0) X ty_Rd ok_Rd rfl (by omega) (ci := 0) (by rfl) in_Rd k_88 k_89 k_63 _ df_Rd (by omega) (by omega) d_La_law_0 ?_
  refine aw_dup (pc := 3) X d_La_law_3 (by rfl) ?_
  -- invokespecial 4 lv=0:s,1:r st=r,r
  refine aw_callI (pc := 4) X _ (s_Rd_init (d := 6) rfl (by omega) (aw_up_eq _ _ _)) q_Rd_init k_90 k_91 (by rfl) (by rfl) d_La_law_4 (by omega) (Nat.le_of_ble_eq_true rfl) ⟨by omega, by omega⟩ (fun _ => ⟨rfl, by omega⟩) (fun r w1 nx1 hp => ?_)
  obtain ⟨rfl, rfl, hR⟩ := hp
  refine aw_astore_nR (pc := 7) X (lv' := [(1, _), (0, _)]) d_La_law_7 (by decide) (by rfl) ?_
  refine aw_new (pc := 8) X ty_Mo ok_Mo rfl (by omega) (ci := 10) (by rfl) in_Mo k_836 k_837 k_79 _ df_Mo (by omega) (by omega) d_La_law_8 ?_
  refine aw_dup (pc := 11) X d_La_law_11 (by rfl) ?_
  -- invokespecial 12 lv=1:r,0:s st=r,r
  refine aw_callI (pc := 12) X _ (s_Mo_init (d := 2) rfl (by omega) (aw_up_eq _ _ _)) q_Mo_init k_838 k_839 (by rfl) (by rfl) d_La_law_12 (by omega) (Nat.le_of_ble_eq_true rfl) ⟨by omega, by omega⟩ (fun _ => ⟨rfl, by omega⟩) (fun r w2 nx2 hp => ?_)
  obtain ⟨rfl, rfl, ⟨m, A, V, hM, hQ⟩, kf⟩ := hp
  refine aw_astore_nR (pc := 15) X (lv' := [(2, _), (1, _), (0, _)]) d_La_law_15 (by decide) (by rfl) ?_
  refine aw_iconstN (pc := 16) X 1 d_La_law_16 (by decide) ?_
  refine aw_newaL (pc := 17) X (atype := .long) (ty := .long) rfl 2 (by rfl) (by intro C h; cases h) rfl rfl (by omega) k_979 (by omega) (by omega) (by omega) d_La_law_17 ?_
  refine aw_astore_nR (pc := 19) X (lv' := [(3, _), (2, _), (1, _), (0, _)]) d_La_law_19 (by decide) (by rfl) ?_
  refine aw_iconstN (pc := 20) X 0 d_La_law_20 (by decide) ?_
  refine aw_istore (pc := 21) X (lv' := [(4, _), (3, _), (2, _), (1, _), (0, _)]) d_La_law_21 (by decide) (by rfl) ?_
  -- stop 23 lv=4:n,3:r,2:r,1:r,0:s st=
  have f1 : fr 418 442 w1 w2 := ((fr.refl 418 442 w1).up _ (by omega)).trans kf
  have f2 : fr 442 443 w2 (aw_up w2 442 (aLong (G.2.2.2.1 2) 1 fun _ => 0)) := (fr.refl _ _ _).up _ (by omega)
  exact law_loop X hfl hT0 hd hX hbl hbA hL hend 520 0 _ _ _ _ _ _ _ _ _ _ _ _ (fun _ => 0) (by omega) (by omega) (by omega) (by omega) ((hR.keep f1 (by omega)).keep f2 (by omega)) (hM.keep f2 (Or.inr (by omega))) hQ (aw_up_eq _ _ _) (by omega)
end

