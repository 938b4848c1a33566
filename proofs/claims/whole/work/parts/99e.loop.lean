theorem lcmp_same {a : Int64} : lg_cmp a a = 0 := by
  unfold lg_cmp
  simp
theorem cw_type : CSw y_La_type b_La_type 4 hh_type 3 := by
  refine ⟨by decide +kernel, by decide +kernel, by decide, by decide, by decide +kernel, by decide +kernel⟩
theorem cw_add : CSw y_La_add b_La_add 6 hh_add 5 := by
  refine ⟨by decide +kernel, by decide +kernel, by decide, by decide, by decide +kernel, by decide +kernel⟩
theorem cw_wipe : CSw y_La_wipe b_La_wipe 3 hh_wipe 2 := by
  refine ⟨by decide +kernel, by decide +kernel, by decide, by decide, by decide +kernel, by decide +kernel⟩
theorem cw_compile : CSw y_La_compile b_La_compile 4 hh_compile 3 := by
  refine ⟨by decide +kernel, by decide +kernel, by decide, by decide, by decide +kernel, by decide +kernel⟩
theorem cw_size : CSw y_La_size b_La_size 5 hh_size 4 := by
  refine ⟨by decide +kernel, by decide +kernel, by decide, by decide, by decide +kernel, by decide +kernel⟩
theorem cw_code : CSw y_La_code b_La_code 6 hh_code 5 := by
  refine ⟨by decide +kernel, by decide +kernel, by decide, by decide, by decide +kernel, by decide +kernel⟩
theorem cw_action : CSw y_La_action b_La_action 6 hh_action 5 := by
  refine ⟨by decide +kernel, by decide +kernel, by decide, by decide, by decide +kernel, by decide +kernel⟩
theorem cw_site : CSw y_La_site b_La_site 6 hh_site 5 := by
  refine ⟨by decide +kernel, by decide +kernel, by decide, by decide, by decide +kernel, by decide +kernel⟩
theorem cw_run : CSw y_La_run b_La_run 4 hh_run 3 := by
  refine ⟨by decide +kernel, by decide +kernel, by decide, by decide, by decide +kernel, by decide +kernel⟩
theorem cw_count : CSw y_La_count b_La_count 4 hh_count 3 := by
  refine ⟨by decide +kernel, by decide +kernel, by decide, by decide, by decide +kernel, by decide +kernel⟩
theorem cw_out : CSw y_La_out b_La_out 4 hh_out 3 := by
  refine ⟨by decide +kernel, by decide +kernel, by decide, by decide, by decide +kernel, by decide +kernel⟩
def JL (p : Program) (l : Launch) (e : Env) (s : State) (m : MethodId) (b : Nat) (below : List Frame) (meth : Method) (c : Code) (D : va_G) (aC : Nat → ClassId) (q : Nat) (x mm : tm_M) (f : Nat → Int64) (pc : Nat) (lv : List (Nat × Value)) (st : List Value) : Prop :=
  J p l e room_1 s m #[Value.ref b] below meth c D (fun q => s.heap.size ≤ q) (142 + q) (7670 + 6 * q) (lw_Z below #[Value.ref b] s) 142 (fun k => s.heap.size + k) (WL s.heap.size aC x mm f) 7 pc lv st
abbrev lvL (s : State) (b i : Nat) : List (Nat × Value) := [(4, .int (nI i)), (3, .ref (s.heap.size + 141)), (2, .ref (s.heap.size + 111)), (1, .ref (s.heap.size + 0)), (0, .ref b)]
def CL (p : Program) (s : State) (m : MethodId) (b : Nat) (c : Code) (D : va_G) (aC : Nat → ClassId) : Prop := Cx p s m c #[Value.ref b] code R_La D aC (fun q => s.heap.size ≤ q) 142 (fun k => s.heap.size + k)
set_option maxRecDepth 100000 in
theorem la_type {p : Program} {e : Env} {s : State} {m : MethodId} {below : List Frame} {meth : Method} {c : Code} {l : Launch} {b L : Nat} {xs : Nat → Int32} {D : va_G} {aC : Nat → ClassId} (htr : l.stackTraces = false) (B : CL p s m b c D aC) (hZ : ZS (fun q => s.heap.size ≤ q) s) (hml : c.maxLocals = 7) (hX : va_X b L xs s s.heap) (hbl : b < s.heap.size) {q : Nat} (hL : L ≤ 2048) (hq : 4 * q + 4 ≤ L) {x mm : tm_M} {f : Nat → Int64} (H : Rel x mm) (kk : ∀ x' m' f', Rel x' m' → JL p l e s m b below meth c D aC (q + 1) x' m' f' 23 (lvL s b (4 * (q + 1))) []) : JL p l e s m b below meth c D aC q x mm f 96 (lvL s b (4 * q)) [] := by
  obtain ⟨k, r, x', m', s1, s2, s3, s4⟩ := both_type H (xs (4 * q + 1))
  have hbA : ¬ s.heap.size ≤ b := Nat.not_le.mpr hbl
  unfold JL
  unfold CL at B
  refine j_aloadn B d_La_law_96 rfl ?_
  refine j_aloadn B d_La_law_97 rfl ?_
  refine j_iload B d_La_law_98 rfl ?_
  refine j_iconst (v := nI 1) B d_La_law_100 (by decide) ?_
  refine j_iadd B d_La_law_101 ?_
  refine j_topi (nI (4 * q + 1)) (nI_add _ _) ?_
  refine j_sld B hX hbl hbA ⟨rfl, by omega, by omega⟩ d_La_law_102 ?_
  refine j_aloadn B d_La_law_103 rfl ?_
  refine j_cSw (As := [.ref (adh s.heap.size 0), .int (xs (4 * q + 1)), .ref (adh s.heap.size 111)]) (st := []) (w2 := WL s.heap.size aC x' mm (fo k r f)) B hZ sub_h inj_h (s1 l D aC (adh s.heap.size) f htr) cw_type ml_La_56 rfl ⟨rfl, rfl, by decide, by decide⟩ ⟨by show 142 + q + 1 ≤ 601024; omega, by show 7670 + 6 * q + 6 ≤ 7293034; omega⟩ see_h put_h hml (Nat.le_of_ble_eq_true rfl) rfl d_La_law_104 ?_
  refine j_istore B d_La_law_107 (by decide) ?_
  refine j_aloadn B d_La_law_109 rfl ?_
  refine j_aloadn B d_La_law_110 rfl ?_
  refine j_iload B d_La_law_111 rfl ?_
  refine j_iconst (v := nI 1) B d_La_law_113 (by decide) ?_
  refine j_iadd B d_La_law_114 ?_
  refine j_topi (nI (4 * q + 1)) (nI_add _ _) ?_
  refine j_sld B hX hbl hbA ⟨rfl, by omega, by omega⟩ d_La_law_115 ?_
  refine j_cVs (k0 := 0) (As := [.int (xs (4 * q + 1))]) (st := []) (w2 := WL s.heap.size aC x' m' (fo k r f)) B sub_m inj_m (s2 l D aC (fun j => s.heap.size + 111 + j)) cv_Mo_type ml_La_61 rfl ⟨rfl, rfl, by decide, by decide⟩ ⟨by show 142 + q + 1 ≤ 601024; omega, by show 7670 + 6 * q + 6 ≤ 7293034; omega⟩ see_m (by decide) rfl rfl put_m hml (Nat.le_of_ble_eq_true rfl) rfl d_La_law_116 ?_
  refine j_istore B d_La_law_119 (by decide) ?_
  refine j_aloadn B d_La_law_121 rfl ?_
  refine j_cVs (k0 := 0) (As := []) (st := []) (w2 := WL s.heap.size aC x' m' (fo k r f)) B sub_m inj_m (ok_Mo_thrown (l := l) (D := D) (aC := aC) (ad := fun j => s.heap.size + 111 + j) m') cv_Mo_thrown ml_La_62 rfl ⟨rfl, rfl, by decide, by decide⟩ ⟨by show 142 + q + 1 ≤ 601024; omega, by show 7670 + 6 * q + 6 ≤ 7293034; omega⟩ see_m (by decide) rfl rfl put_m hml (Nat.le_of_ble_eq_true rfl) rfl d_La_law_122 ?_
  refine j_iload B d_La_law_125 rfl ?_
  refine j_icmp_eq (tgt := 132) B d_La_law_127 (by decide) (fun _ => ?_) (fun h => absurd s3 h)
  refine j_iload B d_La_law_132 rfl ?_
  refine j_if_ne (tgt := 149) B d_La_law_134 (by decide) (fun _ => ?_) (fun h0 => ?_)
  · refine j_goto (tgt := 800) B d_La_law_149 (by decide) ?_
    refine j_iinc B d_La_law_800 rfl (by decide) (nI_add (4 * q) 4) ?_
    refine j_goto (tgt := 23) B d_La_law_803 (by decide) ?_
    refine j_loc (lvL s b (4 * (q + 1))) ⟨rfl, rfl, rfl, rfl, rfl, trivial⟩ ?_
    exact j_cast (n' := 142) (cells' := 142 + (q + 1)) (slots' := 7670 + 6 * (q + 1)) rfl (by omega) (by omega) (kk x' m' (fo k r f) s4)
  · refine j_aloadn B d_La_law_137 rfl ?_
    refine j_iconst (v := 0) B d_La_law_138 (by decide) ?_
    refine j_lald (k := 141) B (by decide) WL_o (by decide) (by decide) d_La_law_139 ?_
    refine j_iload B d_La_law_140 rfl ?_
    refine j_i2l B d_La_law_142 ?_
    refine j_lcmp B d_La_law_143 ?_
    refine j_if_eq (tgt := 149) B d_La_law_144 (by decide) (fun _ => ?_) (fun h => absurd (by rw [h0, fo_0]; exact lcmp_same) h)
    refine j_goto (tgt := 800) B d_La_law_149 (by decide) ?_
    refine j_iinc B d_La_law_800 rfl (by decide) (nI_add (4 * q) 4) ?_
    refine j_goto (tgt := 23) B d_La_law_803 (by decide) ?_
    refine j_loc (lvL s b (4 * (q + 1))) ⟨rfl, rfl, rfl, rfl, rfl, trivial⟩ ?_
    exact j_cast (n' := 142) (cells' := 142 + (q + 1)) (slots' := 7670 + 6 * (q + 1)) rfl (by omega) (by omega) (kk x' m' (fo k r f) s4)
set_option maxRecDepth 100000 in
theorem la_add {p : Program} {e : Env} {s : State} {m : MethodId} {below : List Frame} {meth : Method} {c : Code} {l : Launch} {b L : Nat} {xs : Nat → Int32} {D : va_G} {aC : Nat → ClassId} (htr : l.stackTraces = false) (B : CL p s m b c D aC) (hZ : ZS (fun q => s.heap.size ≤ q) s) (hml : c.maxLocals = 7) (hX : va_X b L xs s s.heap) (hbl : b < s.heap.size) {q : Nat} (hL : L ≤ 2048) (hq : 4 * q + 4 ≤ L) {x mm : tm_M} {f : Nat → Int64} (H : Rel x mm) (kk : ∀ x' m' f', Rel x' m' → JL p l e s m b below meth c D aC (q + 1) x' m' f' 23 (lvL s b (4 * (q + 1))) []) : JL p l e s m b below meth c D aC q x mm f 152 (lvL s b (4 * q)) [] := by
  obtain ⟨k, r, x', m', s1, s2, s3, s4⟩ := both_add H (xs (4 * q + 1)) (xs (4 * q + 2)) (xs (4 * q + 3))
  have hbA : ¬ s.heap.size ≤ b := Nat.not_le.mpr hbl
  unfold JL
  unfold CL at B
  refine j_aloadn B d_La_law_152 rfl ?_
  refine j_aloadn B d_La_law_153 rfl ?_
  refine j_iload B d_La_law_154 rfl ?_
  refine j_iconst (v := nI 1) B d_La_law_156 (by decide) ?_
  refine j_iadd B d_La_law_157 ?_
  refine j_topi (nI (4 * q + 1)) (nI_add _ _) ?_
  refine j_sld B hX hbl hbA ⟨rfl, by omega, by omega⟩ d_La_law_158 ?_
  refine j_aloadn B d_La_law_159 rfl ?_
  refine j_iload B d_La_law_160 rfl ?_
  refine j_iconst (v := nI 2) B d_La_law_162 (by decide) ?_
  refine j_iadd B d_La_law_163 ?_
  refine j_topi (nI (4 * q + 2)) (nI_add _ _) ?_
  refine j_sld B hX hbl hbA ⟨rfl, by omega, by omega⟩ d_La_law_164 ?_
  refine j_aloadn B d_La_law_165 rfl ?_
  refine j_iload B d_La_law_166 rfl ?_
  refine j_iconst (v := nI 3) B d_La_law_168 (by decide) ?_
  refine j_iadd B d_La_law_169 ?_
  refine j_topi (nI (4 * q + 3)) (nI_add _ _) ?_
  refine j_sld B hX hbl hbA ⟨rfl, by omega, by omega⟩ d_La_law_170 ?_
  refine j_aloadn B d_La_law_171 rfl ?_
  refine j_cSw (As := [.ref (adh s.heap.size 0), .int (xs (4 * q + 1)), .int (xs (4 * q + 2)), .int (xs (4 * q + 3)), .ref (adh s.heap.size 111)]) (st := []) (w2 := WL s.heap.size aC x' mm (fo k r f)) B hZ sub_h inj_h (s1 l D aC (adh s.heap.size) f htr) cw_add ml_La_66 rfl ⟨rfl, rfl, by decide, by decide⟩ ⟨by show 142 + q + 1 ≤ 601024; omega, by show 7670 + 6 * q + 6 ≤ 7293034; omega⟩ see_h put_h hml (Nat.le_of_ble_eq_true rfl) rfl d_La_law_172 ?_
  refine j_istore B d_La_law_175 (by decide) ?_
  refine j_aloadn B d_La_law_177 rfl ?_
  refine j_aloadn B d_La_law_178 rfl ?_
  refine j_iload B d_La_law_179 rfl ?_
  refine j_iconst (v := nI 1) B d_La_law_181 (by decide) ?_
  refine j_iadd B d_La_law_182 ?_
  refine j_topi (nI (4 * q + 1)) (nI_add _ _) ?_
  refine j_sld B hX hbl hbA ⟨rfl, by omega, by omega⟩ d_La_law_183 ?_
  refine j_aloadn B d_La_law_184 rfl ?_
  refine j_iload B d_La_law_185 rfl ?_
  refine j_iconst (v := nI 2) B d_La_law_187 (by decide) ?_
  refine j_iadd B d_La_law_188 ?_
  refine j_topi (nI (4 * q + 2)) (nI_add _ _) ?_
  refine j_sld B hX hbl hbA ⟨rfl, by omega, by omega⟩ d_La_law_189 ?_
  refine j_aloadn B d_La_law_190 rfl ?_
  refine j_iload B d_La_law_191 rfl ?_
  refine j_iconst (v := nI 3) B d_La_law_193 (by decide) ?_
  refine j_iadd B d_La_law_194 ?_
  refine j_topi (nI (4 * q + 3)) (nI_add _ _) ?_
  refine j_sld B hX hbl hbA ⟨rfl, by omega, by omega⟩ d_La_law_195 ?_
  refine j_cVs (k0 := 0) (As := [.int (xs (4 * q + 1)), .int (xs (4 * q + 2)), .int (xs (4 * q + 3))]) (st := []) (w2 := WL s.heap.size aC x' m' (fo k r f)) B sub_m inj_m (s2 l D aC (fun j => s.heap.size + 111 + j)) cv_Mo_add ml_La_69 rfl ⟨rfl, rfl, by decide, by decide⟩ ⟨by show 142 + q + 1 ≤ 601024; omega, by show 7670 + 6 * q + 6 ≤ 7293034; omega⟩ see_m (by decide) rfl rfl put_m hml (Nat.le_of_ble_eq_true rfl) rfl d_La_law_196 ?_
  refine j_istore B d_La_law_199 (by decide) ?_
  refine j_aloadn B d_La_law_201 rfl ?_
  refine j_cVs (k0 := 0) (As := []) (st := []) (w2 := WL s.heap.size aC x' m' (fo k r f)) B sub_m inj_m (ok_Mo_thrown (l := l) (D := D) (aC := aC) (ad := fun j => s.heap.size + 111 + j) m') cv_Mo_thrown ml_La_62 rfl ⟨rfl, rfl, by decide, by decide⟩ ⟨by show 142 + q + 1 ≤ 601024; omega, by show 7670 + 6 * q + 6 ≤ 7293034; omega⟩ see_m (by decide) rfl rfl put_m hml (Nat.le_of_ble_eq_true rfl) rfl d_La_law_202 ?_
  refine j_iload B d_La_law_205 rfl ?_
  refine j_icmp_eq (tgt := 212) B d_La_law_207 (by decide) (fun _ => ?_) (fun h => absurd s3 h)
  refine j_iload B d_La_law_212 rfl ?_
  refine j_if_ne (tgt := 229) B d_La_law_214 (by decide) (fun _ => ?_) (fun h0 => ?_)
  · refine j_goto (tgt := 800) B d_La_law_229 (by decide) ?_
    refine j_iinc B d_La_law_800 rfl (by decide) (nI_add (4 * q) 4) ?_
    refine j_goto (tgt := 23) B d_La_law_803 (by decide) ?_
    refine j_loc (lvL s b (4 * (q + 1))) ⟨rfl, rfl, rfl, rfl, rfl, trivial⟩ ?_
    exact j_cast (n' := 142) (cells' := 142 + (q + 1)) (slots' := 7670 + 6 * (q + 1)) rfl (by omega) (by omega) (kk x' m' (fo k r f) s4)
  · refine j_aloadn B d_La_law_217 rfl ?_
    refine j_iconst (v := 0) B d_La_law_218 (by decide) ?_
    refine j_lald (k := 141) B (by decide) WL_o (by decide) (by decide) d_La_law_219 ?_
    refine j_iload B d_La_law_220 rfl ?_
    refine j_i2l B d_La_law_222 ?_
    refine j_lcmp B d_La_law_223 ?_
    refine j_if_eq (tgt := 229) B d_La_law_224 (by decide) (fun _ => ?_) (fun h => absurd (by rw [h0, fo_0]; exact lcmp_same) h)
    refine j_goto (tgt := 800) B d_La_law_229 (by decide) ?_
    refine j_iinc B d_La_law_800 rfl (by decide) (nI_add (4 * q) 4) ?_
    refine j_goto (tgt := 23) B d_La_law_803 (by decide) ?_
    refine j_loc (lvL s b (4 * (q + 1))) ⟨rfl, rfl, rfl, rfl, rfl, trivial⟩ ?_
    exact j_cast (n' := 142) (cells' := 142 + (q + 1)) (slots' := 7670 + 6 * (q + 1)) rfl (by omega) (by omega) (kk x' m' (fo k r f) s4)
set_option maxRecDepth 100000 in
theorem la_wipe {p : Program} {e : Env} {s : State} {m : MethodId} {below : List Frame} {meth : Method} {c : Code} {l : Launch} {b L : Nat} {xs : Nat → Int32} {D : va_G} {aC : Nat → ClassId} (htr : l.stackTraces = false) (B : CL p s m b c D aC) (hZ : ZS (fun q => s.heap.size ≤ q) s) (hml : c.maxLocals = 7) (hX : va_X b L xs s s.heap) (hbl : b < s.heap.size) {q : Nat} (hL : L ≤ 2048) (hq : 4 * q + 4 ≤ L) {x mm : tm_M} {f : Nat → Int64} (H : Rel x mm) (kk : ∀ x' m' f', Rel x' m' → JL p l e s m b below meth c D aC (q + 1) x' m' f' 23 (lvL s b (4 * (q + 1))) []) : JL p l e s m b below meth c D aC q x mm f 232 (lvL s b (4 * q)) [] := by
  obtain ⟨k, x', m', s1, s2, s3, s4⟩ := both_wipe H (xs (4 * q + 1))
  have hbA : ¬ s.heap.size ≤ b := Nat.not_le.mpr hbl
  unfold JL
  unfold CL at B
  refine j_aloadn B d_La_law_232 rfl ?_
  refine j_aloadn B d_La_law_233 rfl ?_
  refine j_iload B d_La_law_234 rfl ?_
  refine j_iconst (v := nI 1) B d_La_law_236 (by decide) ?_
  refine j_iadd B d_La_law_237 ?_
  refine j_topi (nI (4 * q + 1)) (nI_add _ _) ?_
  refine j_sld B hX hbl hbA ⟨rfl, by omega, by omega⟩ d_La_law_238 ?_
  refine j_cSw (As := [.ref (adh s.heap.size 0), .int (xs (4 * q + 1))]) (st := []) (w2 := WL s.heap.size aC x' mm f) B hZ sub_h inj_h (s1 l D aC (adh s.heap.size) f htr) cw_wipe ml_La_70 rfl ⟨rfl, rfl, by decide, by decide⟩ ⟨by show 142 + q + 1 ≤ 601024; omega, by show 7670 + 6 * q + 6 ≤ 7293034; omega⟩ see_h put_h hml (Nat.le_of_ble_eq_true rfl) rfl d_La_law_239 ?_
  refine j_istore B d_La_law_242 (by decide) ?_
  refine j_aloadn B d_La_law_244 rfl ?_
  refine j_aloadn B d_La_law_245 rfl ?_
  refine j_iload B d_La_law_246 rfl ?_
  refine j_iconst (v := nI 1) B d_La_law_248 (by decide) ?_
  refine j_iadd B d_La_law_249 ?_
  refine j_topi (nI (4 * q + 1)) (nI_add _ _) ?_
  refine j_sld B hX hbl hbA ⟨rfl, by omega, by omega⟩ d_La_law_250 ?_
  refine j_cVs (k0 := 0) (As := [.int (xs (4 * q + 1))]) (st := []) (w2 := WL s.heap.size aC x' m' f) B sub_m inj_m (s2 l D aC (fun j => s.heap.size + 111 + j)) cv_Mo_wipe ml_La_73 rfl ⟨rfl, rfl, by decide, by decide⟩ ⟨by show 142 + q + 1 ≤ 601024; omega, by show 7670 + 6 * q + 6 ≤ 7293034; omega⟩ see_m (by decide) rfl rfl put_m hml (Nat.le_of_ble_eq_true rfl) rfl d_La_law_251 ?_
  refine j_aloadn B d_La_law_254 rfl ?_
  refine j_cVs (k0 := 0) (As := []) (st := []) (w2 := WL s.heap.size aC x' m' f) B sub_m inj_m (ok_Mo_thrown (l := l) (D := D) (aC := aC) (ad := fun j => s.heap.size + 111 + j) m') cv_Mo_thrown ml_La_62 rfl ⟨rfl, rfl, by decide, by decide⟩ ⟨by show 142 + q + 1 ≤ 601024; omega, by show 7670 + 6 * q + 6 ≤ 7293034; omega⟩ see_m (by decide) rfl rfl put_m hml (Nat.le_of_ble_eq_true rfl) rfl d_La_law_255 ?_
  refine j_iload B d_La_law_258 rfl ?_
  refine j_icmp_eq (tgt := 265) B d_La_law_260 (by decide) (fun _ => ?_) (fun h => absurd s3 h)
  refine j_goto (tgt := 800) B d_La_law_265 (by decide) ?_
  refine j_iinc B d_La_law_800 rfl (by decide) (nI_add (4 * q) 4) ?_
  refine j_goto (tgt := 23) B d_La_law_803 (by decide) ?_
  refine j_loc (lvL s b (4 * (q + 1))) ⟨rfl, rfl, rfl, rfl, rfl, trivial⟩ ?_
  exact j_cast (n' := 142) (cells' := 142 + (q + 1)) (slots' := 7670 + 6 * (q + 1)) rfl (by omega) (by omega) (kk x' m' f s4)
set_option maxRecDepth 100000 in
theorem la_compile {p : Program} {e : Env} {s : State} {m : MethodId} {below : List Frame} {meth : Method} {c : Code} {l : Launch} {b L : Nat} {xs : Nat → Int32} {D : va_G} {aC : Nat → ClassId} (htr : l.stackTraces = false) (B : CL p s m b c D aC) (hZ : ZS (fun q => s.heap.size ≤ q) s) (hml : c.maxLocals = 7) (hX : va_X b L xs s s.heap) (hbl : b < s.heap.size) {q : Nat} (hL : L ≤ 2048) (hq : 4 * q + 4 ≤ L) {x mm : tm_M} {f : Nat → Int64} (H : Rel x mm) (kk : ∀ x' m' f', Rel x' m' → JL p l e s m b below meth c D aC (q + 1) x' m' f' 23 (lvL s b (4 * (q + 1))) []) : JL p l e s m b below meth c D aC q x mm f 268 (lvL s b (4 * q)) [] := by
  obtain ⟨k, r, x', m', s1, s2, s3, s4⟩ := both_compile H (xs (4 * q + 1))
  have hbA : ¬ s.heap.size ≤ b := Nat.not_le.mpr hbl
  unfold JL
  unfold CL at B
  refine j_aloadn B d_La_law_268 rfl ?_
  refine j_aloadn B d_La_law_269 rfl ?_
  refine j_iload B d_La_law_270 rfl ?_
  refine j_iconst (v := nI 1) B d_La_law_272 (by decide) ?_
  refine j_iadd B d_La_law_273 ?_
  refine j_topi (nI (4 * q + 1)) (nI_add _ _) ?_
  refine j_sld B hX hbl hbA ⟨rfl, by omega, by omega⟩ d_La_law_274 ?_
  refine j_aloadn B d_La_law_275 rfl ?_
  refine j_cSw (As := [.ref (adh s.heap.size 0), .int (xs (4 * q + 1)), .ref (adh s.heap.size 111)]) (st := []) (w2 := WL s.heap.size aC x' mm (fo k r f)) B hZ sub_h inj_h (s1 l D aC (adh s.heap.size) f htr) cw_compile ml_La_74 rfl ⟨rfl, rfl, by decide, by decide⟩ ⟨by show 142 + q + 1 ≤ 601024; omega, by show 7670 + 6 * q + 6 ≤ 7293034; omega⟩ see_h put_h hml (Nat.le_of_ble_eq_true rfl) rfl d_La_law_276 ?_
  refine j_istore B d_La_law_279 (by decide) ?_
  refine j_aloadn B d_La_law_281 rfl ?_
  refine j_aloadn B d_La_law_282 rfl ?_
  refine j_iload B d_La_law_283 rfl ?_
  refine j_iconst (v := nI 1) B d_La_law_285 (by decide) ?_
  refine j_iadd B d_La_law_286 ?_
  refine j_topi (nI (4 * q + 1)) (nI_add _ _) ?_
  refine j_sld B hX hbl hbA ⟨rfl, by omega, by omega⟩ d_La_law_287 ?_
  refine j_cVs (k0 := 0) (As := [.int (xs (4 * q + 1))]) (st := []) (w2 := WL s.heap.size aC x' m' (fo k r f)) B sub_m inj_m (s2 l D aC (fun j => s.heap.size + 111 + j)) cv_Mo_compile ml_La_76 rfl ⟨rfl, rfl, by decide, by decide⟩ ⟨by show 142 + q + 1 ≤ 601024; omega, by show 7670 + 6 * q + 6 ≤ 7293034; omega⟩ see_m (by decide) rfl rfl put_m hml (Nat.le_of_ble_eq_true rfl) rfl d_La_law_288 ?_
  refine j_istore B d_La_law_291 (by decide) ?_
  refine j_aloadn B d_La_law_293 rfl ?_
  refine j_cVs (k0 := 0) (As := []) (st := []) (w2 := WL s.heap.size aC x' m' (fo k r f)) B sub_m inj_m (ok_Mo_thrown (l := l) (D := D) (aC := aC) (ad := fun j => s.heap.size + 111 + j) m') cv_Mo_thrown ml_La_62 rfl ⟨rfl, rfl, by decide, by decide⟩ ⟨by show 142 + q + 1 ≤ 601024; omega, by show 7670 + 6 * q + 6 ≤ 7293034; omega⟩ see_m (by decide) rfl rfl put_m hml (Nat.le_of_ble_eq_true rfl) rfl d_La_law_294 ?_
  refine j_iload B d_La_law_297 rfl ?_
  refine j_icmp_eq (tgt := 304) B d_La_law_299 (by decide) (fun _ => ?_) (fun h => absurd s3 h)
  refine j_iload B d_La_law_304 rfl ?_
  refine j_if_ne (tgt := 321) B d_La_law_306 (by decide) (fun _ => ?_) (fun h0 => ?_)
  · refine j_goto (tgt := 800) B d_La_law_321 (by decide) ?_
    refine j_iinc B d_La_law_800 rfl (by decide) (nI_add (4 * q) 4) ?_
    refine j_goto (tgt := 23) B d_La_law_803 (by decide) ?_
    refine j_loc (lvL s b (4 * (q + 1))) ⟨rfl, rfl, rfl, rfl, rfl, trivial⟩ ?_
    exact j_cast (n' := 142) (cells' := 142 + (q + 1)) (slots' := 7670 + 6 * (q + 1)) rfl (by omega) (by omega) (kk x' m' (fo k r f) s4)
  · refine j_aloadn B d_La_law_309 rfl ?_
    refine j_iconst (v := 0) B d_La_law_310 (by decide) ?_
    refine j_lald (k := 141) B (by decide) WL_o (by decide) (by decide) d_La_law_311 ?_
    refine j_iload B d_La_law_312 rfl ?_
    refine j_i2l B d_La_law_314 ?_
    refine j_lcmp B d_La_law_315 ?_
    refine j_if_eq (tgt := 321) B d_La_law_316 (by decide) (fun _ => ?_) (fun h => absurd (by rw [h0, fo_0]; exact lcmp_same) h)
    refine j_goto (tgt := 800) B d_La_law_321 (by decide) ?_
    refine j_iinc B d_La_law_800 rfl (by decide) (nI_add (4 * q) 4) ?_
    refine j_goto (tgt := 23) B d_La_law_803 (by decide) ?_
    refine j_loc (lvL s b (4 * (q + 1))) ⟨rfl, rfl, rfl, rfl, rfl, trivial⟩ ?_
    exact j_cast (n' := 142) (cells' := 142 + (q + 1)) (slots' := 7670 + 6 * (q + 1)) rfl (by omega) (by omega) (kk x' m' (fo k r f) s4)
set_option maxRecDepth 100000 in
theorem la_size {p : Program} {e : Env} {s : State} {m : MethodId} {below : List Frame} {meth : Method} {c : Code} {l : Launch} {b L : Nat} {xs : Nat → Int32} {D : va_G} {aC : Nat → ClassId} (htr : l.stackTraces = false) (B : CL p s m b c D aC) (hZ : ZS (fun q => s.heap.size ≤ q) s) (hml : c.maxLocals = 7) (hX : va_X b L xs s s.heap) (hbl : b < s.heap.size) {q : Nat} (hL : L ≤ 2048) (hq : 4 * q + 4 ≤ L) {x mm : tm_M} {f : Nat → Int64} (H : Rel x mm) (kk : ∀ x' m' f', Rel x' m' → JL p l e s m b below meth c D aC (q + 1) x' m' f' 23 (lvL s b (4 * (q + 1))) []) : JL p l e s m b below meth c D aC q x mm f 324 (lvL s b (4 * q)) [] := by
  obtain ⟨k, r, x', m', s1, s2, s3, s4⟩ := both_size H (xs (4 * q + 1)) (xs (4 * q + 2))
  have hbA : ¬ s.heap.size ≤ b := Nat.not_le.mpr hbl
  unfold JL
  unfold CL at B
  refine j_aloadn B d_La_law_324 rfl ?_
  refine j_aloadn B d_La_law_325 rfl ?_
  refine j_iload B d_La_law_326 rfl ?_
  refine j_iconst (v := nI 1) B d_La_law_328 (by decide) ?_
  refine j_iadd B d_La_law_329 ?_
  refine j_topi (nI (4 * q + 1)) (nI_add _ _) ?_
  refine j_sld B hX hbl hbA ⟨rfl, by omega, by omega⟩ d_La_law_330 ?_
  refine j_aloadn B d_La_law_331 rfl ?_
  refine j_iload B d_La_law_332 rfl ?_
  refine j_iconst (v := nI 2) B d_La_law_334 (by decide) ?_
  refine j_iadd B d_La_law_335 ?_
  refine j_topi (nI (4 * q + 2)) (nI_add _ _) ?_
  refine j_sld B hX hbl hbA ⟨rfl, by omega, by omega⟩ d_La_law_336 ?_
  refine j_aloadn B d_La_law_337 rfl ?_
  refine j_cSw (As := [.ref (adh s.heap.size 0), .int (xs (4 * q + 1)), .int (xs (4 * q + 2)), .ref (adh s.heap.size 111)]) (st := []) (w2 := WL s.heap.size aC x' mm (fo k r f)) B hZ sub_h inj_h (s1 l D aC (adh s.heap.size) f htr) cw_size ml_La_77 rfl ⟨rfl, rfl, by decide, by decide⟩ ⟨by show 142 + q + 1 ≤ 601024; omega, by show 7670 + 6 * q + 6 ≤ 7293034; omega⟩ see_h put_h hml (Nat.le_of_ble_eq_true rfl) rfl d_La_law_338 ?_
  refine j_istore B d_La_law_341 (by decide) ?_
  refine j_aloadn B d_La_law_343 rfl ?_
  refine j_aloadn B d_La_law_344 rfl ?_
  refine j_iload B d_La_law_345 rfl ?_
  refine j_iconst (v := nI 1) B d_La_law_347 (by decide) ?_
  refine j_iadd B d_La_law_348 ?_
  refine j_topi (nI (4 * q + 1)) (nI_add _ _) ?_
  refine j_sld B hX hbl hbA ⟨rfl, by omega, by omega⟩ d_La_law_349 ?_
  refine j_aloadn B d_La_law_350 rfl ?_
  refine j_iload B d_La_law_351 rfl ?_
  refine j_iconst (v := nI 2) B d_La_law_353 (by decide) ?_
  refine j_iadd B d_La_law_354 ?_
  refine j_topi (nI (4 * q + 2)) (nI_add _ _) ?_
  refine j_sld B hX hbl hbA ⟨rfl, by omega, by omega⟩ d_La_law_355 ?_
  refine j_cVs (k0 := 0) (As := [.int (xs (4 * q + 1)), .int (xs (4 * q + 2))]) (st := []) (w2 := WL s.heap.size aC x' m' (fo k r f)) B sub_m inj_m (s2 l D aC (fun j => s.heap.size + 111 + j)) cv_Mo_size ml_La_80 rfl ⟨rfl, rfl, by decide, by decide⟩ ⟨by show 142 + q + 1 ≤ 601024; omega, by show 7670 + 6 * q + 6 ≤ 7293034; omega⟩ see_m (by decide) rfl rfl put_m hml (Nat.le_of_ble_eq_true rfl) rfl d_La_law_356 ?_
  refine j_istore B d_La_law_359 (by decide) ?_
  refine j_aloadn B d_La_law_361 rfl ?_
  refine j_cVs (k0 := 0) (As := []) (st := []) (w2 := WL s.heap.size aC x' m' (fo k r f)) B sub_m inj_m (ok_Mo_thrown (l := l) (D := D) (aC := aC) (ad := fun j => s.heap.size + 111 + j) m') cv_Mo_thrown ml_La_62 rfl ⟨rfl, rfl, by decide, by decide⟩ ⟨by show 142 + q + 1 ≤ 601024; omega, by show 7670 + 6 * q + 6 ≤ 7293034; omega⟩ see_m (by decide) rfl rfl put_m hml (Nat.le_of_ble_eq_true rfl) rfl d_La_law_362 ?_
  refine j_iload B d_La_law_365 rfl ?_
  refine j_icmp_eq (tgt := 372) B d_La_law_367 (by decide) (fun _ => ?_) (fun h => absurd s3 h)
  refine j_iload B d_La_law_372 rfl ?_
  refine j_if_ne (tgt := 389) B d_La_law_374 (by decide) (fun _ => ?_) (fun h0 => ?_)
  · refine j_goto (tgt := 800) B d_La_law_389 (by decide) ?_
    refine j_iinc B d_La_law_800 rfl (by decide) (nI_add (4 * q) 4) ?_
    refine j_goto (tgt := 23) B d_La_law_803 (by decide) ?_
    refine j_loc (lvL s b (4 * (q + 1))) ⟨rfl, rfl, rfl, rfl, rfl, trivial⟩ ?_
    exact j_cast (n' := 142) (cells' := 142 + (q + 1)) (slots' := 7670 + 6 * (q + 1)) rfl (by omega) (by omega) (kk x' m' (fo k r f) s4)
  · refine j_aloadn B d_La_law_377 rfl ?_
    refine j_iconst (v := 0) B d_La_law_378 (by decide) ?_
    refine j_lald (k := 141) B (by decide) WL_o (by decide) (by decide) d_La_law_379 ?_
    refine j_iload B d_La_law_380 rfl ?_
    refine j_i2l B d_La_law_382 ?_
    refine j_lcmp B d_La_law_383 ?_
    refine j_if_eq (tgt := 389) B d_La_law_384 (by decide) (fun _ => ?_) (fun h => absurd (by rw [h0, fo_0]; exact lcmp_same) h)
    refine j_goto (tgt := 800) B d_La_law_389 (by decide) ?_
    refine j_iinc B d_La_law_800 rfl (by decide) (nI_add (4 * q) 4) ?_
    refine j_goto (tgt := 23) B d_La_law_803 (by decide) ?_
    refine j_loc (lvL s b (4 * (q + 1))) ⟨rfl, rfl, rfl, rfl, rfl, trivial⟩ ?_
    exact j_cast (n' := 142) (cells' := 142 + (q + 1)) (slots' := 7670 + 6 * (q + 1)) rfl (by omega) (by omega) (kk x' m' (fo k r f) s4)
set_option maxRecDepth 100000 in
theorem la_code {p : Program} {e : Env} {s : State} {m : MethodId} {below : List Frame} {meth : Method} {c : Code} {l : Launch} {b L : Nat} {xs : Nat → Int32} {D : va_G} {aC : Nat → ClassId} (htr : l.stackTraces = false) (B : CL p s m b c D aC) (hZ : ZS (fun q => s.heap.size ≤ q) s) (hml : c.maxLocals = 7) (hX : va_X b L xs s s.heap) (hbl : b < s.heap.size) {q : Nat} (hL : L ≤ 2048) (hq : 4 * q + 4 ≤ L) {x mm : tm_M} {f : Nat → Int64} (H : Rel x mm) (kk : ∀ x' m' f', Rel x' m' → JL p l e s m b below meth c D aC (q + 1) x' m' f' 23 (lvL s b (4 * (q + 1))) []) : JL p l e s m b below meth c D aC q x mm f 392 (lvL s b (4 * q)) [] := by
  obtain ⟨k, r, x', m', s1, s2, s3, s4⟩ := both_code H (xs (4 * q + 1)) (xs (4 * q + 2)) (xs (4 * q + 3))
  have hbA : ¬ s.heap.size ≤ b := Nat.not_le.mpr hbl
  unfold JL
  unfold CL at B
  refine j_aloadn B d_La_law_392 rfl ?_
  refine j_aloadn B d_La_law_393 rfl ?_
  refine j_iload B d_La_law_394 rfl ?_
  refine j_iconst (v := nI 1) B d_La_law_396 (by decide) ?_
  refine j_iadd B d_La_law_397 ?_
  refine j_topi (nI (4 * q + 1)) (nI_add _ _) ?_
  refine j_sld B hX hbl hbA ⟨rfl, by omega, by omega⟩ d_La_law_398 ?_
  refine j_aloadn B d_La_law_399 rfl ?_
  refine j_iload B d_La_law_400 rfl ?_
  refine j_iconst (v := nI 2) B d_La_law_402 (by decide) ?_
  refine j_iadd B d_La_law_403 ?_
  refine j_topi (nI (4 * q + 2)) (nI_add _ _) ?_
  refine j_sld B hX hbl hbA ⟨rfl, by omega, by omega⟩ d_La_law_404 ?_
  refine j_aloadn B d_La_law_405 rfl ?_
  refine j_iload B d_La_law_406 rfl ?_
  refine j_iconst (v := nI 3) B d_La_law_408 (by decide) ?_
  refine j_iadd B d_La_law_409 ?_
  refine j_topi (nI (4 * q + 3)) (nI_add _ _) ?_
  refine j_sld B hX hbl hbA ⟨rfl, by omega, by omega⟩ d_La_law_410 ?_
  refine j_aloadn B d_La_law_411 rfl ?_
  refine j_cSw (As := [.ref (adh s.heap.size 0), .int (xs (4 * q + 1)), .int (xs (4 * q + 2)), .int (xs (4 * q + 3)), .ref (adh s.heap.size 111)]) (st := []) (w2 := WL s.heap.size aC x' mm (fo k r f)) B hZ sub_h inj_h (s1 l D aC (adh s.heap.size) f htr) cw_code ml_La_81 rfl ⟨rfl, rfl, by decide, by decide⟩ ⟨by show 142 + q + 1 ≤ 601024; omega, by show 7670 + 6 * q + 6 ≤ 7293034; omega⟩ see_h put_h hml (Nat.le_of_ble_eq_true rfl) rfl d_La_law_412 ?_
  refine j_istore B d_La_law_415 (by decide) ?_
  refine j_aloadn B d_La_law_417 rfl ?_
  refine j_aloadn B d_La_law_418 rfl ?_
  refine j_iload B d_La_law_419 rfl ?_
  refine j_iconst (v := nI 1) B d_La_law_421 (by decide) ?_
  refine j_iadd B d_La_law_422 ?_
  refine j_topi (nI (4 * q + 1)) (nI_add _ _) ?_
  refine j_sld B hX hbl hbA ⟨rfl, by omega, by omega⟩ d_La_law_423 ?_
  refine j_aloadn B d_La_law_424 rfl ?_
  refine j_iload B d_La_law_425 rfl ?_
  refine j_iconst (v := nI 2) B d_La_law_427 (by decide) ?_
  refine j_iadd B d_La_law_428 ?_
  refine j_topi (nI (4 * q + 2)) (nI_add _ _) ?_
  refine j_sld B hX hbl hbA ⟨rfl, by omega, by omega⟩ d_La_law_429 ?_
  refine j_aloadn B d_La_law_430 rfl ?_
  refine j_iload B d_La_law_431 rfl ?_
  refine j_iconst (v := nI 3) B d_La_law_433 (by decide) ?_
  refine j_iadd B d_La_law_434 ?_
  refine j_topi (nI (4 * q + 3)) (nI_add _ _) ?_
  refine j_sld B hX hbl hbA ⟨rfl, by omega, by omega⟩ d_La_law_435 ?_
  refine j_cVs (k0 := 0) (As := [.int (xs (4 * q + 1)), .int (xs (4 * q + 2)), .int (xs (4 * q + 3))]) (st := []) (w2 := WL s.heap.size aC x' m' (fo k r f)) B sub_m inj_m (s2 l D aC (fun j => s.heap.size + 111 + j)) cv_Mo_code ml_La_83 rfl ⟨rfl, rfl, by decide, by decide⟩ ⟨by show 142 + q + 1 ≤ 601024; omega, by show 7670 + 6 * q + 6 ≤ 7293034; omega⟩ see_m (by decide) rfl rfl put_m hml (Nat.le_of_ble_eq_true rfl) rfl d_La_law_436 ?_
  refine j_istore B d_La_law_439 (by decide) ?_
  refine j_aloadn B d_La_law_441 rfl ?_
  refine j_cVs (k0 := 0) (As := []) (st := []) (w2 := WL s.heap.size aC x' m' (fo k r f)) B sub_m inj_m (ok_Mo_thrown (l := l) (D := D) (aC := aC) (ad := fun j => s.heap.size + 111 + j) m') cv_Mo_thrown ml_La_62 rfl ⟨rfl, rfl, by decide, by decide⟩ ⟨by show 142 + q + 1 ≤ 601024; omega, by show 7670 + 6 * q + 6 ≤ 7293034; omega⟩ see_m (by decide) rfl rfl put_m hml (Nat.le_of_ble_eq_true rfl) rfl d_La_law_442 ?_
  refine j_iload B d_La_law_445 rfl ?_
  refine j_icmp_eq (tgt := 452) B d_La_law_447 (by decide) (fun _ => ?_) (fun h => absurd s3 h)
  refine j_iload B d_La_law_452 rfl ?_
  refine j_if_ne (tgt := 469) B d_La_law_454 (by decide) (fun _ => ?_) (fun h0 => ?_)
  · refine j_goto (tgt := 800) B d_La_law_469 (by decide) ?_
    refine j_iinc B d_La_law_800 rfl (by decide) (nI_add (4 * q) 4) ?_
    refine j_goto (tgt := 23) B d_La_law_803 (by decide) ?_
    refine j_loc (lvL s b (4 * (q + 1))) ⟨rfl, rfl, rfl, rfl, rfl, trivial⟩ ?_
    exact j_cast (n' := 142) (cells' := 142 + (q + 1)) (slots' := 7670 + 6 * (q + 1)) rfl (by omega) (by omega) (kk x' m' (fo k r f) s4)
  · refine j_aloadn B d_La_law_457 rfl ?_
    refine j_iconst (v := 0) B d_La_law_458 (by decide) ?_
    refine j_lald (k := 141) B (by decide) WL_o (by decide) (by decide) d_La_law_459 ?_
    refine j_iload B d_La_law_460 rfl ?_
    refine j_i2l B d_La_law_462 ?_
    refine j_lcmp B d_La_law_463 ?_
    refine j_if_eq (tgt := 469) B d_La_law_464 (by decide) (fun _ => ?_) (fun h => absurd (by rw [h0, fo_0]; exact lcmp_same) h)
    refine j_goto (tgt := 800) B d_La_law_469 (by decide) ?_
    refine j_iinc B d_La_law_800 rfl (by decide) (nI_add (4 * q) 4) ?_
    refine j_goto (tgt := 23) B d_La_law_803 (by decide) ?_
    refine j_loc (lvL s b (4 * (q + 1))) ⟨rfl, rfl, rfl, rfl, rfl, trivial⟩ ?_
    exact j_cast (n' := 142) (cells' := 142 + (q + 1)) (slots' := 7670 + 6 * (q + 1)) rfl (by omega) (by omega) (kk x' m' (fo k r f) s4)
set_option maxRecDepth 100000 in
theorem la_action {p : Program} {e : Env} {s : State} {m : MethodId} {below : List Frame} {meth : Method} {c : Code} {l : Launch} {b L : Nat} {xs : Nat → Int32} {D : va_G} {aC : Nat → ClassId} (htr : l.stackTraces = false) (B : CL p s m b c D aC) (hZ : ZS (fun q => s.heap.size ≤ q) s) (hml : c.maxLocals = 7) (hX : va_X b L xs s s.heap) (hbl : b < s.heap.size) {q : Nat} (hL : L ≤ 2048) (hq : 4 * q + 4 ≤ L) {x mm : tm_M} {f : Nat → Int64} (H : Rel x mm) (kk : ∀ x' m' f', Rel x' m' → JL p l e s m b below meth c D aC (q + 1) x' m' f' 23 (lvL s b (4 * (q + 1))) []) : JL p l e s m b below meth c D aC q x mm f 472 (lvL s b (4 * q)) [] := by
  obtain ⟨k, r, x', m', s1, s2, s3, s4⟩ := both_action H (xs (4 * q + 1)) (xs (4 * q + 2)) (xs (4 * q + 3))
  have hbA : ¬ s.heap.size ≤ b := Nat.not_le.mpr hbl
  unfold JL
  unfold CL at B
  refine j_aloadn B d_La_law_472 rfl ?_
  refine j_aloadn B d_La_law_473 rfl ?_
  refine j_iload B d_La_law_474 rfl ?_
  refine j_iconst (v := nI 1) B d_La_law_476 (by decide) ?_
  refine j_iadd B d_La_law_477 ?_
  refine j_topi (nI (4 * q + 1)) (nI_add _ _) ?_
  refine j_sld B hX hbl hbA ⟨rfl, by omega, by omega⟩ d_La_law_478 ?_
  refine j_aloadn B d_La_law_479 rfl ?_
  refine j_iload B d_La_law_480 rfl ?_
  refine j_iconst (v := nI 2) B d_La_law_482 (by decide) ?_
  refine j_iadd B d_La_law_483 ?_
  refine j_topi (nI (4 * q + 2)) (nI_add _ _) ?_
  refine j_sld B hX hbl hbA ⟨rfl, by omega, by omega⟩ d_La_law_484 ?_
  refine j_aloadn B d_La_law_485 rfl ?_
  refine j_iload B d_La_law_486 rfl ?_
  refine j_iconst (v := nI 3) B d_La_law_488 (by decide) ?_
  refine j_iadd B d_La_law_489 ?_
  refine j_topi (nI (4 * q + 3)) (nI_add _ _) ?_
  refine j_sld B hX hbl hbA ⟨rfl, by omega, by omega⟩ d_La_law_490 ?_
  refine j_aloadn B d_La_law_491 rfl ?_
  refine j_cSw (As := [.ref (adh s.heap.size 0), .int (xs (4 * q + 1)), .int (xs (4 * q + 2)), .int (xs (4 * q + 3)), .ref (adh s.heap.size 111)]) (st := []) (w2 := WL s.heap.size aC x' mm (fo k r f)) B hZ sub_h inj_h (s1 l D aC (adh s.heap.size) f htr) cw_action ml_La_84 rfl ⟨rfl, rfl, by decide, by decide⟩ ⟨by show 142 + q + 1 ≤ 601024; omega, by show 7670 + 6 * q + 6 ≤ 7293034; omega⟩ see_h put_h hml (Nat.le_of_ble_eq_true rfl) rfl d_La_law_492 ?_
  refine j_istore B d_La_law_495 (by decide) ?_
  refine j_aloadn B d_La_law_497 rfl ?_
  refine j_aloadn B d_La_law_498 rfl ?_
  refine j_iload B d_La_law_499 rfl ?_
  refine j_iconst (v := nI 1) B d_La_law_501 (by decide) ?_
  refine j_iadd B d_La_law_502 ?_
  refine j_topi (nI (4 * q + 1)) (nI_add _ _) ?_
  refine j_sld B hX hbl hbA ⟨rfl, by omega, by omega⟩ d_La_law_503 ?_
  refine j_aloadn B d_La_law_504 rfl ?_
  refine j_iload B d_La_law_505 rfl ?_
  refine j_iconst (v := nI 2) B d_La_law_507 (by decide) ?_
  refine j_iadd B d_La_law_508 ?_
  refine j_topi (nI (4 * q + 2)) (nI_add _ _) ?_
  refine j_sld B hX hbl hbA ⟨rfl, by omega, by omega⟩ d_La_law_509 ?_
  refine j_aloadn B d_La_law_510 rfl ?_
  refine j_iload B d_La_law_511 rfl ?_
  refine j_iconst (v := nI 3) B d_La_law_513 (by decide) ?_
  refine j_iadd B d_La_law_514 ?_
  refine j_topi (nI (4 * q + 3)) (nI_add _ _) ?_
  refine j_sld B hX hbl hbA ⟨rfl, by omega, by omega⟩ d_La_law_515 ?_
  refine j_cVs (k0 := 0) (As := [.int (xs (4 * q + 1)), .int (xs (4 * q + 2)), .int (xs (4 * q + 3))]) (st := []) (w2 := WL s.heap.size aC x' m' (fo k r f)) B sub_m inj_m (s2 l D aC (fun j => s.heap.size + 111 + j)) cv_Mo_action ml_La_86 rfl ⟨rfl, rfl, by decide, by decide⟩ ⟨by show 142 + q + 1 ≤ 601024; omega, by show 7670 + 6 * q + 6 ≤ 7293034; omega⟩ see_m (by decide) rfl rfl put_m hml (Nat.le_of_ble_eq_true rfl) rfl d_La_law_516 ?_
  refine j_istore B d_La_law_519 (by decide) ?_
  refine j_aloadn B d_La_law_521 rfl ?_
  refine j_cVs (k0 := 0) (As := []) (st := []) (w2 := WL s.heap.size aC x' m' (fo k r f)) B sub_m inj_m (ok_Mo_thrown (l := l) (D := D) (aC := aC) (ad := fun j => s.heap.size + 111 + j) m') cv_Mo_thrown ml_La_62 rfl ⟨rfl, rfl, by decide, by decide⟩ ⟨by show 142 + q + 1 ≤ 601024; omega, by show 7670 + 6 * q + 6 ≤ 7293034; omega⟩ see_m (by decide) rfl rfl put_m hml (Nat.le_of_ble_eq_true rfl) rfl d_La_law_522 ?_
  refine j_iload B d_La_law_525 rfl ?_
  refine j_icmp_eq (tgt := 532) B d_La_law_527 (by decide) (fun _ => ?_) (fun h => absurd s3 h)
  refine j_iload B d_La_law_532 rfl ?_
  refine j_if_ne (tgt := 549) B d_La_law_534 (by decide) (fun _ => ?_) (fun h0 => ?_)
  · refine j_goto (tgt := 800) B d_La_law_549 (by decide) ?_
    refine j_iinc B d_La_law_800 rfl (by decide) (nI_add (4 * q) 4) ?_
    refine j_goto (tgt := 23) B d_La_law_803 (by decide) ?_
    refine j_loc (lvL s b (4 * (q + 1))) ⟨rfl, rfl, rfl, rfl, rfl, trivial⟩ ?_
    exact j_cast (n' := 142) (cells' := 142 + (q + 1)) (slots' := 7670 + 6 * (q + 1)) rfl (by omega) (by omega) (kk x' m' (fo k r f) s4)
  · refine j_aloadn B d_La_law_537 rfl ?_
    refine j_iconst (v := 0) B d_La_law_538 (by decide) ?_
    refine j_lald (k := 141) B (by decide) WL_o (by decide) (by decide) d_La_law_539 ?_
    refine j_iload B d_La_law_540 rfl ?_
    refine j_i2l B d_La_law_542 ?_
    refine j_lcmp B d_La_law_543 ?_
    refine j_if_eq (tgt := 549) B d_La_law_544 (by decide) (fun _ => ?_) (fun h => absurd (by rw [h0, fo_0]; exact lcmp_same) h)
    refine j_goto (tgt := 800) B d_La_law_549 (by decide) ?_
    refine j_iinc B d_La_law_800 rfl (by decide) (nI_add (4 * q) 4) ?_
    refine j_goto (tgt := 23) B d_La_law_803 (by decide) ?_
    refine j_loc (lvL s b (4 * (q + 1))) ⟨rfl, rfl, rfl, rfl, rfl, trivial⟩ ?_
    exact j_cast (n' := 142) (cells' := 142 + (q + 1)) (slots' := 7670 + 6 * (q + 1)) rfl (by omega) (by omega) (kk x' m' (fo k r f) s4)
set_option maxRecDepth 100000 in
theorem la_site {p : Program} {e : Env} {s : State} {m : MethodId} {below : List Frame} {meth : Method} {c : Code} {l : Launch} {b L : Nat} {xs : Nat → Int32} {D : va_G} {aC : Nat → ClassId} (htr : l.stackTraces = false) (B : CL p s m b c D aC) (hZ : ZS (fun q => s.heap.size ≤ q) s) (hml : c.maxLocals = 7) (hX : va_X b L xs s s.heap) (hbl : b < s.heap.size) {q : Nat} (hL : L ≤ 2048) (hq : 4 * q + 4 ≤ L) {x mm : tm_M} {f : Nat → Int64} (H : Rel x mm) (kk : ∀ x' m' f', Rel x' m' → JL p l e s m b below meth c D aC (q + 1) x' m' f' 23 (lvL s b (4 * (q + 1))) []) : JL p l e s m b below meth c D aC q x mm f 552 (lvL s b (4 * q)) [] := by
  obtain ⟨k, r, x', m', s1, s2, s3, s4⟩ := both_site H (xs (4 * q + 1)) (xs (4 * q + 2)) (xs (4 * q + 3))
  have hbA : ¬ s.heap.size ≤ b := Nat.not_le.mpr hbl
  unfold JL
  unfold CL at B
  refine j_aloadn B d_La_law_552 rfl ?_
  refine j_aloadn B d_La_law_553 rfl ?_
  refine j_iload B d_La_law_554 rfl ?_
  refine j_iconst (v := nI 1) B d_La_law_556 (by decide) ?_
  refine j_iadd B d_La_law_557 ?_
  refine j_topi (nI (4 * q + 1)) (nI_add _ _) ?_
  refine j_sld B hX hbl hbA ⟨rfl, by omega, by omega⟩ d_La_law_558 ?_
  refine j_aloadn B d_La_law_559 rfl ?_
  refine j_iload B d_La_law_560 rfl ?_
  refine j_iconst (v := nI 2) B d_La_law_562 (by decide) ?_
  refine j_iadd B d_La_law_563 ?_
  refine j_topi (nI (4 * q + 2)) (nI_add _ _) ?_
  refine j_sld B hX hbl hbA ⟨rfl, by omega, by omega⟩ d_La_law_564 ?_
  refine j_aloadn B d_La_law_565 rfl ?_
  refine j_iload B d_La_law_566 rfl ?_
  refine j_iconst (v := nI 3) B d_La_law_568 (by decide) ?_
  refine j_iadd B d_La_law_569 ?_
  refine j_topi (nI (4 * q + 3)) (nI_add _ _) ?_
  refine j_sld B hX hbl hbA ⟨rfl, by omega, by omega⟩ d_La_law_570 ?_
  refine j_aloadn B d_La_law_571 rfl ?_
  refine j_cSw (As := [.ref (adh s.heap.size 0), .int (xs (4 * q + 1)), .int (xs (4 * q + 2)), .int (xs (4 * q + 3)), .ref (adh s.heap.size 111)]) (st := []) (w2 := WL s.heap.size aC x' mm (fo k r f)) B hZ sub_h inj_h (s1 l D aC (adh s.heap.size) f htr) cw_site ml_La_87 rfl ⟨rfl, rfl, by decide, by decide⟩ ⟨by show 142 + q + 1 ≤ 601024; omega, by show 7670 + 6 * q + 6 ≤ 7293034; omega⟩ see_h put_h hml (Nat.le_of_ble_eq_true rfl) rfl d_La_law_572 ?_
  refine j_istore B d_La_law_575 (by decide) ?_
  refine j_aloadn B d_La_law_577 rfl ?_
  refine j_aloadn B d_La_law_578 rfl ?_
  refine j_iload B d_La_law_579 rfl ?_
  refine j_iconst (v := nI 1) B d_La_law_581 (by decide) ?_
  refine j_iadd B d_La_law_582 ?_
  refine j_topi (nI (4 * q + 1)) (nI_add _ _) ?_
  refine j_sld B hX hbl hbA ⟨rfl, by omega, by omega⟩ d_La_law_583 ?_
  refine j_aloadn B d_La_law_584 rfl ?_
  refine j_iload B d_La_law_585 rfl ?_
  refine j_iconst (v := nI 2) B d_La_law_587 (by decide) ?_
  refine j_iadd B d_La_law_588 ?_
  refine j_topi (nI (4 * q + 2)) (nI_add _ _) ?_
  refine j_sld B hX hbl hbA ⟨rfl, by omega, by omega⟩ d_La_law_589 ?_
  refine j_aloadn B d_La_law_590 rfl ?_
  refine j_iload B d_La_law_591 rfl ?_
  refine j_iconst (v := nI 3) B d_La_law_593 (by decide) ?_
  refine j_iadd B d_La_law_594 ?_
  refine j_topi (nI (4 * q + 3)) (nI_add _ _) ?_
  refine j_sld B hX hbl hbA ⟨rfl, by omega, by omega⟩ d_La_law_595 ?_
  refine j_cVs (k0 := 0) (As := [.int (xs (4 * q + 1)), .int (xs (4 * q + 2)), .int (xs (4 * q + 3))]) (st := []) (w2 := WL s.heap.size aC x' m' (fo k r f)) B sub_m inj_m (s2 l D aC (fun j => s.heap.size + 111 + j)) cv_Mo_site ml_La_89 rfl ⟨rfl, rfl, by decide, by decide⟩ ⟨by show 142 + q + 1 ≤ 601024; omega, by show 7670 + 6 * q + 6 ≤ 7293034; omega⟩ see_m (by decide) rfl rfl put_m hml (Nat.le_of_ble_eq_true rfl) rfl d_La_law_596 ?_
  refine j_istore B d_La_law_599 (by decide) ?_
  refine j_aloadn B d_La_law_601 rfl ?_
  refine j_cVs (k0 := 0) (As := []) (st := []) (w2 := WL s.heap.size aC x' m' (fo k r f)) B sub_m inj_m (ok_Mo_thrown (l := l) (D := D) (aC := aC) (ad := fun j => s.heap.size + 111 + j) m') cv_Mo_thrown ml_La_62 rfl ⟨rfl, rfl, by decide, by decide⟩ ⟨by show 142 + q + 1 ≤ 601024; omega, by show 7670 + 6 * q + 6 ≤ 7293034; omega⟩ see_m (by decide) rfl rfl put_m hml (Nat.le_of_ble_eq_true rfl) rfl d_La_law_602 ?_
  refine j_iload B d_La_law_605 rfl ?_
  refine j_icmp_eq (tgt := 612) B d_La_law_607 (by decide) (fun _ => ?_) (fun h => absurd s3 h)
  refine j_iload B d_La_law_612 rfl ?_
  refine j_if_ne (tgt := 629) B d_La_law_614 (by decide) (fun _ => ?_) (fun h0 => ?_)
  · refine j_goto (tgt := 800) B d_La_law_629 (by decide) ?_
    refine j_iinc B d_La_law_800 rfl (by decide) (nI_add (4 * q) 4) ?_
    refine j_goto (tgt := 23) B d_La_law_803 (by decide) ?_
    refine j_loc (lvL s b (4 * (q + 1))) ⟨rfl, rfl, rfl, rfl, rfl, trivial⟩ ?_
    exact j_cast (n' := 142) (cells' := 142 + (q + 1)) (slots' := 7670 + 6 * (q + 1)) rfl (by omega) (by omega) (kk x' m' (fo k r f) s4)
  · refine j_aloadn B d_La_law_617 rfl ?_
    refine j_iconst (v := 0) B d_La_law_618 (by decide) ?_
    refine j_lald (k := 141) B (by decide) WL_o (by decide) (by decide) d_La_law_619 ?_
    refine j_iload B d_La_law_620 rfl ?_
    refine j_i2l B d_La_law_622 ?_
    refine j_lcmp B d_La_law_623 ?_
    refine j_if_eq (tgt := 629) B d_La_law_624 (by decide) (fun _ => ?_) (fun h => absurd (by rw [h0, fo_0]; exact lcmp_same) h)
    refine j_goto (tgt := 800) B d_La_law_629 (by decide) ?_
    refine j_iinc B d_La_law_800 rfl (by decide) (nI_add (4 * q) 4) ?_
    refine j_goto (tgt := 23) B d_La_law_803 (by decide) ?_
    refine j_loc (lvL s b (4 * (q + 1))) ⟨rfl, rfl, rfl, rfl, rfl, trivial⟩ ?_
    exact j_cast (n' := 142) (cells' := 142 + (q + 1)) (slots' := 7670 + 6 * (q + 1)) rfl (by omega) (by omega) (kk x' m' (fo k r f) s4)
set_option maxRecDepth 100000 in
theorem la_run {p : Program} {e : Env} {s : State} {m : MethodId} {below : List Frame} {meth : Method} {c : Code} {l : Launch} {b L : Nat} {xs : Nat → Int32} {D : va_G} {aC : Nat → ClassId} (htr : l.stackTraces = false) (B : CL p s m b c D aC) (hZ : ZS (fun q => s.heap.size ≤ q) s) (hml : c.maxLocals = 7) (hX : va_X b L xs s s.heap) (hbl : b < s.heap.size) {q : Nat} (hL : L ≤ 2048) (hq : 4 * q + 4 ≤ L) {x mm : tm_M} {f : Nat → Int64} (H : Rel x mm) (kk : ∀ x' m' f', Rel x' m' → JL p l e s m b below meth c D aC (q + 1) x' m' f' 23 (lvL s b (4 * (q + 1))) []) : JL p l e s m b below meth c D aC q x mm f 632 (lvL s b (4 * q)) [] := by
  obtain ⟨k, r, x', m', s1, s2, s3, s4⟩ := both_run H (xs (4 * q + 1))
  have hbA : ¬ s.heap.size ≤ b := Nat.not_le.mpr hbl
  unfold JL
  unfold CL at B
  refine j_aloadn B d_La_law_632 rfl ?_
  refine j_aloadn B d_La_law_633 rfl ?_
  refine j_iload B d_La_law_634 rfl ?_
  refine j_iconst (v := nI 1) B d_La_law_636 (by decide) ?_
  refine j_iadd B d_La_law_637 ?_
  refine j_topi (nI (4 * q + 1)) (nI_add _ _) ?_
  refine j_sld B hX hbl hbA ⟨rfl, by omega, by omega⟩ d_La_law_638 ?_
  refine j_aloadn B d_La_law_639 rfl ?_
  refine j_cSw (As := [.ref (adh s.heap.size 0), .int (xs (4 * q + 1)), .ref (adh s.heap.size 111)]) (st := []) (w2 := WL s.heap.size aC x' mm (fo k r f)) B hZ sub_h inj_h (s1 l D aC (adh s.heap.size) f htr) cw_run ml_La_90 rfl ⟨rfl, rfl, by decide, by decide⟩ ⟨by show 142 + q + 1 ≤ 601024; omega, by show 7670 + 6 * q + 6 ≤ 7293034; omega⟩ see_h put_h hml (Nat.le_of_ble_eq_true rfl) rfl d_La_law_640 ?_
  refine j_istore B d_La_law_643 (by decide) ?_
  refine j_aloadn B d_La_law_645 rfl ?_
  refine j_aloadn B d_La_law_646 rfl ?_
  refine j_iload B d_La_law_647 rfl ?_
  refine j_iconst (v := nI 1) B d_La_law_649 (by decide) ?_
  refine j_iadd B d_La_law_650 ?_
  refine j_topi (nI (4 * q + 1)) (nI_add _ _) ?_
  refine j_sld B hX hbl hbA ⟨rfl, by omega, by omega⟩ d_La_law_651 ?_
  refine j_cVs (k0 := 0) (As := [.int (xs (4 * q + 1))]) (st := []) (w2 := WL s.heap.size aC x' m' (fo k r f)) B sub_m inj_m (s2 l D aC (fun j => s.heap.size + 111 + j)) cv_Mo_run ml_La_92 rfl ⟨rfl, rfl, by decide, by decide⟩ ⟨by show 142 + q + 1 ≤ 601024; omega, by show 7670 + 6 * q + 6 ≤ 7293034; omega⟩ see_m (by decide) rfl rfl put_m hml (Nat.le_of_ble_eq_true rfl) rfl d_La_law_652 ?_
  refine j_istore B d_La_law_655 (by decide) ?_
  refine j_aloadn B d_La_law_657 rfl ?_
  refine j_cVs (k0 := 0) (As := []) (st := []) (w2 := WL s.heap.size aC x' m' (fo k r f)) B sub_m inj_m (ok_Mo_thrown (l := l) (D := D) (aC := aC) (ad := fun j => s.heap.size + 111 + j) m') cv_Mo_thrown ml_La_62 rfl ⟨rfl, rfl, by decide, by decide⟩ ⟨by show 142 + q + 1 ≤ 601024; omega, by show 7670 + 6 * q + 6 ≤ 7293034; omega⟩ see_m (by decide) rfl rfl put_m hml (Nat.le_of_ble_eq_true rfl) rfl d_La_law_658 ?_
  refine j_iload B d_La_law_661 rfl ?_
  refine j_icmp_eq (tgt := 668) B d_La_law_663 (by decide) (fun _ => ?_) (fun h => absurd s3 h)
  refine j_iload B d_La_law_668 rfl ?_
  refine j_if_ne (tgt := 685) B d_La_law_670 (by decide) (fun _ => ?_) (fun h0 => ?_)
  · refine j_goto (tgt := 800) B d_La_law_685 (by decide) ?_
    refine j_iinc B d_La_law_800 rfl (by decide) (nI_add (4 * q) 4) ?_
    refine j_goto (tgt := 23) B d_La_law_803 (by decide) ?_
    refine j_loc (lvL s b (4 * (q + 1))) ⟨rfl, rfl, rfl, rfl, rfl, trivial⟩ ?_
    exact j_cast (n' := 142) (cells' := 142 + (q + 1)) (slots' := 7670 + 6 * (q + 1)) rfl (by omega) (by omega) (kk x' m' (fo k r f) s4)
  · refine j_aloadn B d_La_law_673 rfl ?_
    refine j_iconst (v := 0) B d_La_law_674 (by decide) ?_
    refine j_lald (k := 141) B (by decide) WL_o (by decide) (by decide) d_La_law_675 ?_
    refine j_iload B d_La_law_676 rfl ?_
    refine j_i2l B d_La_law_678 ?_
    refine j_lcmp B d_La_law_679 ?_
    refine j_if_eq (tgt := 685) B d_La_law_680 (by decide) (fun _ => ?_) (fun h => absurd (by rw [h0, fo_0]; exact lcmp_same) h)
    refine j_goto (tgt := 800) B d_La_law_685 (by decide) ?_
    refine j_iinc B d_La_law_800 rfl (by decide) (nI_add (4 * q) 4) ?_
    refine j_goto (tgt := 23) B d_La_law_803 (by decide) ?_
    refine j_loc (lvL s b (4 * (q + 1))) ⟨rfl, rfl, rfl, rfl, rfl, trivial⟩ ?_
    exact j_cast (n' := 142) (cells' := 142 + (q + 1)) (slots' := 7670 + 6 * (q + 1)) rfl (by omega) (by omega) (kk x' m' (fo k r f) s4)
set_option maxRecDepth 100000 in
theorem la_count {p : Program} {e : Env} {s : State} {m : MethodId} {below : List Frame} {meth : Method} {c : Code} {l : Launch} {b L : Nat} {xs : Nat → Int32} {D : va_G} {aC : Nat → ClassId} (htr : l.stackTraces = false) (B : CL p s m b c D aC) (hZ : ZS (fun q => s.heap.size ≤ q) s) (hml : c.maxLocals = 7) (hX : va_X b L xs s s.heap) (hbl : b < s.heap.size) {q : Nat} (hL : L ≤ 2048) (hq : 4 * q + 4 ≤ L) {x mm : tm_M} {f : Nat → Int64} (H : Rel x mm) (kk : ∀ x' m' f', Rel x' m' → JL p l e s m b below meth c D aC (q + 1) x' m' f' 23 (lvL s b (4 * (q + 1))) []) : JL p l e s m b below meth c D aC q x mm f 688 (lvL s b (4 * q)) [] := by
  obtain ⟨k, r, x', m', s1, s2, s3, s4⟩ := both_count H (xs (4 * q + 1))
  have hbA : ¬ s.heap.size ≤ b := Nat.not_le.mpr hbl
  unfold JL
  unfold CL at B
  refine j_aloadn B d_La_law_688 rfl ?_
  refine j_aloadn B d_La_law_689 rfl ?_
  refine j_iload B d_La_law_690 rfl ?_
  refine j_iconst (v := nI 1) B d_La_law_692 (by decide) ?_
  refine j_iadd B d_La_law_693 ?_
  refine j_topi (nI (4 * q + 1)) (nI_add _ _) ?_
  refine j_sld B hX hbl hbA ⟨rfl, by omega, by omega⟩ d_La_law_694 ?_
  refine j_aloadn B d_La_law_695 rfl ?_
  refine j_cSw (As := [.ref (adh s.heap.size 0), .int (xs (4 * q + 1)), .ref (adh s.heap.size 111)]) (st := []) (w2 := WL s.heap.size aC x' mm (fo k r f)) B hZ sub_h inj_h (s1 l D aC (adh s.heap.size) f htr) cw_count ml_La_93 rfl ⟨rfl, rfl, by decide, by decide⟩ ⟨by show 142 + q + 1 ≤ 601024; omega, by show 7670 + 6 * q + 6 ≤ 7293034; omega⟩ see_h put_h hml (Nat.le_of_ble_eq_true rfl) rfl d_La_law_696 ?_
  refine j_istore B d_La_law_699 (by decide) ?_
  refine j_aloadn B d_La_law_701 rfl ?_
  refine j_aloadn B d_La_law_702 rfl ?_
  refine j_iload B d_La_law_703 rfl ?_
  refine j_iconst (v := nI 1) B d_La_law_705 (by decide) ?_
  refine j_iadd B d_La_law_706 ?_
  refine j_topi (nI (4 * q + 1)) (nI_add _ _) ?_
  refine j_sld B hX hbl hbA ⟨rfl, by omega, by omega⟩ d_La_law_707 ?_
  refine j_cVs (k0 := 0) (As := [.int (xs (4 * q + 1))]) (st := []) (w2 := WL s.heap.size aC x' m' (fo k r f)) B sub_m inj_m (s2 l D aC (fun j => s.heap.size + 111 + j)) cv_Mo_count ml_La_95 rfl ⟨rfl, rfl, by decide, by decide⟩ ⟨by show 142 + q + 1 ≤ 601024; omega, by show 7670 + 6 * q + 6 ≤ 7293034; omega⟩ see_m (by decide) rfl rfl put_m hml (Nat.le_of_ble_eq_true rfl) rfl d_La_law_708 ?_
  refine j_istore B d_La_law_711 (by decide) ?_
  refine j_aloadn B d_La_law_713 rfl ?_
  refine j_cVs (k0 := 0) (As := []) (st := []) (w2 := WL s.heap.size aC x' m' (fo k r f)) B sub_m inj_m (ok_Mo_thrown (l := l) (D := D) (aC := aC) (ad := fun j => s.heap.size + 111 + j) m') cv_Mo_thrown ml_La_62 rfl ⟨rfl, rfl, by decide, by decide⟩ ⟨by show 142 + q + 1 ≤ 601024; omega, by show 7670 + 6 * q + 6 ≤ 7293034; omega⟩ see_m (by decide) rfl rfl put_m hml (Nat.le_of_ble_eq_true rfl) rfl d_La_law_714 ?_
  refine j_iload B d_La_law_717 rfl ?_
  refine j_icmp_eq (tgt := 724) B d_La_law_719 (by decide) (fun _ => ?_) (fun h => absurd s3 h)
  refine j_iload B d_La_law_724 rfl ?_
  refine j_if_ne (tgt := 741) B d_La_law_726 (by decide) (fun _ => ?_) (fun h0 => ?_)
  · refine j_goto (tgt := 800) B d_La_law_741 (by decide) ?_
    refine j_iinc B d_La_law_800 rfl (by decide) (nI_add (4 * q) 4) ?_
    refine j_goto (tgt := 23) B d_La_law_803 (by decide) ?_
    refine j_loc (lvL s b (4 * (q + 1))) ⟨rfl, rfl, rfl, rfl, rfl, trivial⟩ ?_
    exact j_cast (n' := 142) (cells' := 142 + (q + 1)) (slots' := 7670 + 6 * (q + 1)) rfl (by omega) (by omega) (kk x' m' (fo k r f) s4)
  · refine j_aloadn B d_La_law_729 rfl ?_
    refine j_iconst (v := 0) B d_La_law_730 (by decide) ?_
    refine j_lald (k := 141) B (by decide) WL_o (by decide) (by decide) d_La_law_731 ?_
    refine j_iload B d_La_law_732 rfl ?_
    refine j_i2l B d_La_law_734 ?_
    refine j_lcmp B d_La_law_735 ?_
    refine j_if_eq (tgt := 741) B d_La_law_736 (by decide) (fun _ => ?_) (fun h => absurd (by rw [h0, fo_0]; exact lcmp_same) h)
    refine j_goto (tgt := 800) B d_La_law_741 (by decide) ?_
    refine j_iinc B d_La_law_800 rfl (by decide) (nI_add (4 * q) 4) ?_
    refine j_goto (tgt := 23) B d_La_law_803 (by decide) ?_
    refine j_loc (lvL s b (4 * (q + 1))) ⟨rfl, rfl, rfl, rfl, rfl, trivial⟩ ?_
    exact j_cast (n' := 142) (cells' := 142 + (q + 1)) (slots' := 7670 + 6 * (q + 1)) rfl (by omega) (by omega) (kk x' m' (fo k r f) s4)
set_option maxRecDepth 100000 in
theorem la_out {p : Program} {e : Env} {s : State} {m : MethodId} {below : List Frame} {meth : Method} {c : Code} {l : Launch} {b L : Nat} {xs : Nat → Int32} {D : va_G} {aC : Nat → ClassId} (htr : l.stackTraces = false) (B : CL p s m b c D aC) (hZ : ZS (fun q => s.heap.size ≤ q) s) (hml : c.maxLocals = 7) (hX : va_X b L xs s s.heap) (hbl : b < s.heap.size) {q : Nat} (hL : L ≤ 2048) (hq : 4 * q + 4 ≤ L) {x mm : tm_M} {f : Nat → Int64} (H : Rel x mm) (kk : ∀ x' m' f', Rel x' m' → JL p l e s m b below meth c D aC (q + 1) x' m' f' 23 (lvL s b (4 * (q + 1))) []) : JL p l e s m b below meth c D aC q x mm f 744 (lvL s b (4 * q)) [] := by
  obtain ⟨k, r, x', m', s1, s2, s3, s4⟩ := both_out H (xs (4 * q + 1))
  have hbA : ¬ s.heap.size ≤ b := Nat.not_le.mpr hbl
  unfold JL
  unfold CL at B
  refine j_aloadn B d_La_law_744 rfl ?_
  refine j_aloadn B d_La_law_745 rfl ?_
  refine j_iload B d_La_law_746 rfl ?_
  refine j_iconst (v := nI 1) B d_La_law_748 (by decide) ?_
  refine j_iadd B d_La_law_749 ?_
  refine j_topi (nI (4 * q + 1)) (nI_add _ _) ?_
  refine j_sld B hX hbl hbA ⟨rfl, by omega, by omega⟩ d_La_law_750 ?_
  refine j_aloadn B d_La_law_751 rfl ?_
  refine j_cSw (As := [.ref (adh s.heap.size 0), .int (xs (4 * q + 1)), .ref (adh s.heap.size 111)]) (st := []) (w2 := WL s.heap.size aC x' mm (fo k r f)) B hZ sub_h inj_h (s1 l D aC (adh s.heap.size) f htr) cw_out ml_La_96 rfl ⟨rfl, rfl, by decide, by decide⟩ ⟨by show 142 + q + 1 ≤ 601024; omega, by show 7670 + 6 * q + 6 ≤ 7293034; omega⟩ see_h put_h hml (Nat.le_of_ble_eq_true rfl) rfl d_La_law_752 ?_
  refine j_istore B d_La_law_755 (by decide) ?_
  refine j_aloadn B d_La_law_757 rfl ?_
  refine j_aloadn B d_La_law_758 rfl ?_
  refine j_iload B d_La_law_759 rfl ?_
  refine j_iconst (v := nI 1) B d_La_law_761 (by decide) ?_
  refine j_iadd B d_La_law_762 ?_
  refine j_topi (nI (4 * q + 1)) (nI_add _ _) ?_
  refine j_sld B hX hbl hbA ⟨rfl, by omega, by omega⟩ d_La_law_763 ?_
  refine j_cVs (k0 := 0) (As := [.int (xs (4 * q + 1))]) (st := []) (w2 := WL s.heap.size aC x' m' (fo k r f)) B sub_m inj_m (s2 l D aC (fun j => s.heap.size + 111 + j)) cv_Mo_out ml_La_98 rfl ⟨rfl, rfl, by decide, by decide⟩ ⟨by show 142 + q + 1 ≤ 601024; omega, by show 7670 + 6 * q + 6 ≤ 7293034; omega⟩ see_m (by decide) rfl rfl put_m hml (Nat.le_of_ble_eq_true rfl) rfl d_La_law_764 ?_
  refine j_istore B d_La_law_767 (by decide) ?_
  refine j_aloadn B d_La_law_769 rfl ?_
  refine j_cVs (k0 := 0) (As := []) (st := []) (w2 := WL s.heap.size aC x' m' (fo k r f)) B sub_m inj_m (ok_Mo_thrown (l := l) (D := D) (aC := aC) (ad := fun j => s.heap.size + 111 + j) m') cv_Mo_thrown ml_La_62 rfl ⟨rfl, rfl, by decide, by decide⟩ ⟨by show 142 + q + 1 ≤ 601024; omega, by show 7670 + 6 * q + 6 ≤ 7293034; omega⟩ see_m (by decide) rfl rfl put_m hml (Nat.le_of_ble_eq_true rfl) rfl d_La_law_770 ?_
  refine j_iload B d_La_law_773 rfl ?_
  refine j_icmp_eq (tgt := 780) B d_La_law_775 (by decide) (fun _ => ?_) (fun h => absurd s3 h)
  refine j_iload B d_La_law_780 rfl ?_
  refine j_if_ne (tgt := 797) B d_La_law_782 (by decide) (fun _ => ?_) (fun h0 => ?_)
  · refine j_goto (tgt := 800) B d_La_law_797 (by decide) ?_
    refine j_iinc B d_La_law_800 rfl (by decide) (nI_add (4 * q) 4) ?_
    refine j_goto (tgt := 23) B d_La_law_803 (by decide) ?_
    refine j_loc (lvL s b (4 * (q + 1))) ⟨rfl, rfl, rfl, rfl, rfl, trivial⟩ ?_
    exact j_cast (n' := 142) (cells' := 142 + (q + 1)) (slots' := 7670 + 6 * (q + 1)) rfl (by omega) (by omega) (kk x' m' (fo k r f) s4)
  · refine j_aloadn B d_La_law_785 rfl ?_
    refine j_iconst (v := 0) B d_La_law_786 (by decide) ?_
    refine j_lald (k := 141) B (by decide) WL_o (by decide) (by decide) d_La_law_787 ?_
    refine j_iload B d_La_law_788 rfl ?_
    refine j_i2l B d_La_law_790 ?_
    refine j_lcmp B d_La_law_791 ?_
    refine j_if_eq (tgt := 797) B d_La_law_792 (by decide) (fun _ => ?_) (fun h => absurd (by rw [h0, fo_0]; exact lcmp_same) h)
    refine j_goto (tgt := 800) B d_La_law_797 (by decide) ?_
    refine j_iinc B d_La_law_800 rfl (by decide) (nI_add (4 * q) 4) ?_
    refine j_goto (tgt := 23) B d_La_law_803 (by decide) ?_
    refine j_loc (lvL s b (4 * (q + 1))) ⟨rfl, rfl, rfl, rfl, rfl, trivial⟩ ?_
    exact j_cast (n' := 142) (cells' := 142 + (q + 1)) (slots' := 7670 + 6 * (q + 1)) rfl (by omega) (by omega) (kk x' m' (fo k r f) s4)
