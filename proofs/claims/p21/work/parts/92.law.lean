/-! ===== the law: a case each ===== -/
set_option maxRecDepth 100000 in
theorem ul_value : (Cond.methodLink RL 62 yL_value) ∈ lw_g := zt6 90 rfl rfl
set_option maxRecDepth 100000 in
theorem uc_value : (Cond.codeWith yL_value cL_value 3 (some .int) [(0, 7, 10, 13)]) ∈ lw_g := zt6 92 rfl rfl
set_option maxRecDepth 100000 in
theorem us_value : (Cond.static yL_value) ∈ lw_g := zt6 91 rfl rfl
theorem ud_value : yL_value.cls ≠ "java/lang/invoke/MethodHandle" ∧ yL_value.cls ≠ "java/lang/invoke/VarHandle" ∧ (parseMethodDescriptor yL_value.desc).map (fun d => d.parameters.length) = some 2 := ⟨by decide +kernel, by decide +kernel, by decide +kernel⟩
set_option maxRecDepth 100000 in
theorem ul_token : (Cond.methodLink RL 68 yL_token) ∈ lw_g := zt6 163 rfl rfl
set_option maxRecDepth 100000 in
theorem uc_token : (Cond.codeWith yL_token cL_token 5 (some .int) [(0, 10, 13, 13)]) ∈ lw_g := zt6 165 rfl rfl
set_option maxRecDepth 100000 in
theorem us_token : (Cond.static yL_token) ∈ lw_g := zt6 164 rfl rfl
theorem ud_token : yL_token.cls ≠ "java/lang/invoke/MethodHandle" ∧ yL_token.cls ≠ "java/lang/invoke/VarHandle" ∧ (parseMethodDescriptor yL_token.desc).map (fun d => d.parameters.length) = some 4 := ⟨by decide +kernel, by decide +kernel, by decide +kernel⟩
set_option maxRecDepth 100000 in
theorem ul_macro : (Cond.methodLink RL 76 yL_macro) ∈ lw_g := zt6 172 rfl rfl
set_option maxRecDepth 100000 in
theorem uc_macro : (Cond.codeWith yL_macro cL_macro 5 (some .int) [(0, 10, 13, 13)]) ∈ lw_g := zt6 174 rfl rfl
set_option maxRecDepth 100000 in
theorem us_macro : (Cond.static yL_macro) ∈ lw_g := zt6 173 rfl rfl
theorem ud_macro : yL_macro.cls ≠ "java/lang/invoke/MethodHandle" ∧ yL_macro.cls ≠ "java/lang/invoke/VarHandle" ∧ (parseMethodDescriptor yL_macro.desc).map (fun d => d.parameters.length) = some 4 := ⟨by decide +kernel, by decide +kernel, by decide +kernel⟩
set_option maxRecDepth 100000 in
theorem ui_L : (Cond.initialized RL) ∈ lw_g := zt1 0 rfl rfl
section LAWC
variable {w : zWp} {p : Program} {e : Env} {s : State} {m : MethodId} {args : Array Value} {below : List Frame} {meth : Method} {c : Code} {Q : State → Prop} {sb L : Nat} {xs : Nat → Int32} {a it kc nc : Nat} {i : Int} {T : zTl} {M : zMm} {J : zJm} {R : zRm'}
theorem lc_0 (C : zCx w p s m args meth c yL_law cL_law 8 (some .boolean)) (hS0 : zScr w s sb L xs) (hi : i = 6 * (it : Int)) (hL : i ≤ (L : Int) - 6) (hv : zLv a it kc nc T M R) (kk : ∀ (T2 : zTl) (M2 : zMm) (J2 : zJm) (R2 : zRm') (kc2 nc2 : Nat), zLv a (it + 1) kc2 nc2 T2 M2 R2 → zJ w p e 1312 601024 7293034 s m args below meth c 8 Q kc2 nc2 1021 [.ref sb, .ref (w.2.1 + a), .ref (w.2.1 + (a + 836)), .ref (w.2.1 + (a + 919)), zi i, .null, .null, .null] [] (T2, M2, J2, R2)) : zJ w p e 1312 601024 7293034 s m args below meth c 8 Q kc nc 168 [.ref sb, .ref (w.2.1 + a), .ref (w.2.1 + (a + 836)), .ref (w.2.1 + (a + 919)), zi i, .null, .null, .null] [] (T, M, J, R) := by
  obtain ⟨hk, hte, U, F, hs, hy, hd⟩ := hv
  have hI := hd.1
  have hF := hd.2.1
  have hci := hd.2.2.1
  have hL2 := hS0.2.2.2
  have hk1 := hk.1
  have hk2 := hk.2.1
  refine jq_aload_n C dL_law_168 (n := 169) rfl rfl ?_
  refine jq_aload_n C dL_law_169 (n := 170) rfl rfl ?_
  refine jq_iload C dL_law_170 (n := 172) rfl rfl ?_
  refine jq_iconst C dL_law_172 (n := 173) rfl ?_
  refine jq_iadd C dL_law_173 (n := 174) rfl (v := i + 1) rfl ?_
  refine j_sld C hS0 dL_law_174 (n := 175) rfl ⟨by omega, by omega⟩ ?_
  refine jq_aload_n C dL_law_175 (n := 176) rfl rfl ?_
  refine jq_iload C dL_law_176 (n := 178) rfl rfl ?_
  refine jq_iconst C dL_law_178 (n := 179) rfl ?_
  refine jq_iadd C dL_law_179 (n := 180) rfl (v := i + 2) rfl ?_
  refine j_sld C hS0 dL_law_180 (n := 181) rfl ⟨by omega, by omega⟩ ?_
  refine jq_aload_n C dL_law_181 (n := 182) rfl rfl ?_
  refine jq_iload C dL_law_182 (n := 184) rfl rfl ?_
  refine jq_iconst C dL_law_184 (n := 185) rfl ?_
  refine jq_iadd C dL_law_185 (n := 186) rfl (v := i + 3) rfl ?_
  refine j_sld C hS0 dL_law_186 (n := 187) rfl ⟨by omega, by omega⟩ ?_
  refine jq_aload_n C dL_law_187 (n := 188) rfl rfl ?_
  refine jq_iload C dL_law_188 (n := 190) rfl rfl ?_
  refine jq_iconst C dL_law_190 (n := 191) rfl ?_
  refine jq_iadd C dL_law_191 (n := 192) rfl (v := i + 4) rfl ?_
  refine j_sld C hS0 dL_law_192 (n := 193) rfl ⟨by omega, by omega⟩ ?_
  refine jq_aload_n C dL_law_193 (n := 194) rfl rfl ?_
  refine jq_iload C dL_law_194 (n := 196) rfl rfl ?_
  refine jq_iconst C dL_law_196 (n := 197) rfl ?_
  refine jq_iadd C dL_law_197 (n := 198) rfl (v := i + 5) rfl ?_
  refine j_sld C hS0 dL_law_198 (n := 199) rfl ⟨by omega, by omega⟩ ?_
  refine jq_callVi C dL_law_199 (n := 202) rfl m_L_26 v_yX11_feed hs.hs.1 ⟨by decide, rfl⟩ (c_X11_feed (w := w) (J := J) hI hF hs.hs (zsc xs (i + 1)) (zsc xs (i + 2)) (zsc xs (i + 3)) (zsc xs (i + 4)) (zsc xs (i + 5))) (Nat.le_of_ble_eq_true rfl) rfl rfl (Nat.le_of_ble_eq_true rfl) ⟨by omega, by omega⟩ (fun x1 M1 J1 hI1 e1 => ?_)
  have hD : zVd a U F M1 R := hd.cl2 hs hI1 e1.1 (by decide) hF
  have ec := hs.ec (e1.1.le (by decide))
  have c1 := e1.2.2.2
  have c2 := hs.kd e1.1 (by decide)
  refine jq_pop C dL_law_202 (n := 203) rfl rfl ?_
  refine jq_aload_n C dL_law_203 (n := 204) rfl rfl ?_
  refine jq_aload_n C dL_law_204 (n := 205) rfl rfl ?_
  refine jq_iload C dL_law_205 (n := 207) rfl rfl ?_
  refine jq_iconst C dL_law_207 (n := 208) rfl ?_
  refine jq_iadd C dL_law_208 (n := 209) rfl (v := i + 1) rfl ?_
  refine j_sld C hS0 dL_law_209 (n := 210) rfl ⟨by omega, by omega⟩ ?_
  refine jq_aload_n C dL_law_210 (n := 211) rfl rfl ?_
  refine jq_iload C dL_law_211 (n := 213) rfl rfl ?_
  refine jq_iconst C dL_law_213 (n := 214) rfl ?_
  refine jq_iadd C dL_law_214 (n := 215) rfl (v := i + 2) rfl ?_
  refine j_sld C hS0 dL_law_215 (n := 216) rfl ⟨by omega, by omega⟩ ?_
  refine jq_aload_n C dL_law_216 (n := 217) rfl rfl ?_
  refine jq_iload C dL_law_217 (n := 219) rfl rfl ?_
  refine jq_iconst C dL_law_219 (n := 220) rfl ?_
  refine jq_iadd C dL_law_220 (n := 221) rfl (v := i + 3) rfl ?_
  refine j_sld C hS0 dL_law_221 (n := 222) rfl ⟨by omega, by omega⟩ ?_
  refine jq_aload_n C dL_law_222 (n := 223) rfl rfl ?_
  refine jq_iload C dL_law_223 (n := 225) rfl rfl ?_
  refine jq_iconst C dL_law_225 (n := 226) rfl ?_
  refine jq_iadd C dL_law_226 (n := 227) rfl (v := i + 4) rfl ?_
  refine j_sld C hS0 dL_law_227 (n := 228) rfl ⟨by omega, by omega⟩ ?_
  refine jq_aload_n C dL_law_228 (n := 229) rfl rfl ?_
  refine jq_iload C dL_law_229 (n := 231) rfl rfl ?_
  refine jq_iconst C dL_law_231 (n := 232) rfl ?_
  refine jq_iadd C dL_law_232 (n := 233) rfl (v := i + 5) rfl ?_
  refine j_sld C hS0 dL_law_233 (n := 234) rfl ⟨by omega, by omega⟩ ?_
  refine jq_callVi C dL_law_234 (n := 237) rfl m_L_30 v_yX12_feed (zM0 hs.mo) ⟨by decide, rfl⟩ (c_X12_feed (w := w) (J := J1) hD.1 hD.2.1 hs.mo (zsc xs (i + 1)) (zsc xs (i + 2)) (zsc xs (i + 3)) (zsc xs (i + 4)) (zsc xs (i + 5))) (Nat.le_of_ble_eq_true rfl) rfl rfl (Nat.le_of_ble_eq_true rfl) ⟨by omega, by omega⟩ (fun x2 M2 J2 hI2 e2 => ?_)
  have lo := zTE.lo e2.1 rfl rfl
  have lo8 : ∀ c k, c < a + 836 → M2 c k = M1 c k := fun c k q => e2.1.reg (n := 83) rfl rfl (by decide) c k (Or.inl q)
  have mf2 : ∀ j, M2 (a + 836 + 2) j = M1 (a + 836 + 2) j := fun j => e2.1.getA rfl rfl rfl
  have mf3 : ∀ j, M2 (a + 836 + 3) j = M1 (a + 836 + 3) j := fun j => e2.1.getA rfl rfl rfl
  have mf4 : ∀ j, M2 (a + 836 + 4) j = M1 (a + 836 + 4) j := fun j => e2.1.getA rfl rfl rfl
  have mf5 : ∀ j, M2 (a + 836 + 5) j = M1 (a + 836 + 5) j := fun j => e2.1.getA rfl rfl rfl
  have mg13 : M2 (a + 836) 13 = M1 (a + 836) 13 := e2.1.getS rfl rfl
  have mg8 : ∀ j, M2 (a + 836 + 8) j = M1 (a + 836 + 8) j := fun j => e2.1.getA rfl rfl rfl
  have m1 := e2.2.2.2
  have m2 : ∀ j, M2 (a + 836 + 6) j = M1 (a + 836 + 6) j := fun j => e2.1.getA rfl rfl rfl
  have hE : zVd a U F M2 R := hD.mod hI2 e2.1 rfl rfl (hD.2.2.2.1.cg (fun j => e2.1.getA rfl rfl rfl)) (hD.2.2.2.2.1.cg (fun j => e2.1.getA rfl rfl rfl)) (hD.2.2.2.2.2.cg (fun j => e2.1.getA rfl rfl rfl) (fun j => e2.1.getA rfl rfl rfl))
  refine jq_pop C dL_law_237 (n := 238) rfl rfl ?_
  have r_0 := zsc_r xs (i + 1)
  have r_1 := zsc_r xs (i + 2)
  have r_2 := zsc_r xs (i + 3)
  have r_3 := zsc_r xs (i + 4)
  have r_4 := zsc_r xs (i + 5)
  have t10 : zTF a M2 := hte.2.2.2.1.st (hs.rws e1.1 (by decide)) lo8 mf2 mf3
  have t11 : zTW a M2 := hte.2.2.2.2.1.st (hs.rws e1.1 (by decide)) lo8 mf2 mf3
  have t12 : zTB a M2 := hte.2.2.2.2.2.1.st (hs.rws e1.1 (by decide)).1 (Or.inr rfl) (hs.rws e1.1 (by decide)).2.2.2.1 (hs.rws e1.1 (by decide)).2.2.2.2 lo8 (fun j _ => mf4 j) mf5
  have nm9 : zNM a M2 := hte.2.2.2.2.2.2.2.cg (hs.gn e1.1 (by decide)) (hs.eg (e1.1.le (by decide))) lo8 ⟨mg13, mg8⟩
  have t13 : zTG a M2 := hte.2.2.2.2.2.2.st (hs.rws e1.1 (by decide)).1 (Or.inr rfl) lo8 nm9
  have te1 := hte.1
  have t9 : zTE a M2 := ⟨by have l1 := lo.1; have y0 := c1; have y1 := ec.1; omega, fun j j0 j1 => by
    have te2 := hte.2.1 j j0 j1
    have l2 := lo.2.1 j
    have n2 := m2 j
    have z0 := c2 j
    have z1 := ec.2.1 j
    omega, fun j j0 j1 => by
    have l1 := lo.1
    have l3 := lo.2.2 j
    have y0 := c1
    have y1 := ec.1
    have hn : M1 (a + 836) 2 = M a 1 := by omega
    by_cases hq : M a 1 + 20 ≤ 440
    · have k1 := e1.2.2.1 hq
      have k2 := e2.2.2.1 (by omega)
      rw [hn] at k2
      have k3 := zFe.eq k1 k2 (fun j j0 j1 => (hte.2.2.1 j j0 j1).trans (ec.2.2 j).symm) j j0 (by omega)
      omega
    · have k1 := e1.2.1 (by omega) j
      have k2 := e2.2.1 (by omega) j
      have k3 := ec.2.2 j
      have k4 := hte.2.2.1 j j0 (by omega)
      omega, t10, t11, t12, t13⟩
  refine jq_goto C 1021 dL_law_238 rfl ?_
  exact kk T M2 J2 R kc nc ⟨hk.up ⟨by omega, by omega⟩, t9, U, F, hs, hy, hE⟩
theorem lc_1 (C : zCx w p s m args meth c yL_law cL_law 8 (some .boolean)) (hS0 : zScr w s sb L xs) (hi : i = 6 * (it : Int)) (hL : i ≤ (L : Int) - 6) (hv : zLv a it kc nc T M R) (kk : ∀ (T2 : zTl) (M2 : zMm) (J2 : zJm) (R2 : zRm') (kc2 nc2 : Nat), zLv a (it + 1) kc2 nc2 T2 M2 R2 → zJ w p e 1312 601024 7293034 s m args below meth c 8 Q kc2 nc2 1021 [.ref sb, .ref (w.2.1 + a), .ref (w.2.1 + (a + 836)), .ref (w.2.1 + (a + 919)), zi i, .null, .null, .null] [] (T2, M2, J2, R2)) : zJ w p e 1312 601024 7293034 s m args below meth c 8 Q kc nc 241 [.ref sb, .ref (w.2.1 + a), .ref (w.2.1 + (a + 836)), .ref (w.2.1 + (a + 919)), zi i, .null, .null, .null] [] (T, M, J, R) := by
  obtain ⟨hk, hte, U, F, hs, hy, hd⟩ := hv
  have hI := hd.1
  have hF := hd.2.1
  have hci := hd.2.2.1
  have hL2 := hS0.2.2.2
  have hk1 := hk.1
  have hk2 := hk.2.1
  refine jq_aload_n C dL_law_241 (n := 242) rfl rfl ?_
  refine jq_aload_n C dL_law_242 (n := 243) rfl rfl ?_
  refine jq_iload C dL_law_243 (n := 245) rfl rfl ?_
  refine jq_iconst C dL_law_245 (n := 246) rfl ?_
  refine jq_iadd C dL_law_246 (n := 247) rfl (v := i + 1) rfl ?_
  refine j_sld C hS0 dL_law_247 (n := 248) rfl ⟨by omega, by omega⟩ ?_
  refine jq_callVi C dL_law_248 (n := 251) rfl m_L_31 v_yX11_end hs.hs.1 ⟨by decide, rfl⟩ (c_X11_end (w := w) (J := J) hI hF hs.hs (zsc xs (i + 1)) (zsc_r xs _)) (Nat.le_of_ble_eq_true rfl) rfl rfl (Nat.le_of_ble_eq_true rfl) ⟨by omega, by omega⟩ (fun x1 M1 J1 hI1 e1 => ?_)
  have hD : zVd a U F M1 R := hd.cl2 hs hI1 e1.1 (by decide) hF
  have ec := hs.ec (e1.1.le (by decide))
  have c1 := e1.2.2.1
  have c2 := hs.kd e1.1 (by decide)
  have c3 := e1.2.2.2
  refine jq_pop C dL_law_251 (n := 252) rfl rfl ?_
  refine jq_aload_n C dL_law_252 (n := 253) rfl rfl ?_
  refine jq_aload_n C dL_law_253 (n := 254) rfl rfl ?_
  refine jq_iload C dL_law_254 (n := 256) rfl rfl ?_
  refine jq_iconst C dL_law_256 (n := 257) rfl ?_
  refine jq_iadd C dL_law_257 (n := 258) rfl (v := i + 1) rfl ?_
  refine j_sld C hS0 dL_law_258 (n := 259) rfl ⟨by omega, by omega⟩ ?_
  refine jq_callVi C dL_law_259 (n := 262) rfl m_L_35 v_yX12_end (zM0 hs.mo) ⟨by decide, rfl⟩ (c_X12_end (w := w) (J := J1) hD.1 hD.2.1 hs.mo (zsc xs (i + 1)) (zsc_r xs _)) (Nat.le_of_ble_eq_true rfl) rfl rfl (Nat.le_of_ble_eq_true rfl) ⟨by omega, by omega⟩ (fun x2 M2 J2 hI2 e2 => ?_)
  have lo := zTE.lo e2.1 rfl rfl
  have lo8 : ∀ c k, c < a + 836 → M2 c k = M1 c k := fun c k q => e2.1.reg (n := 83) rfl rfl (by decide) c k (Or.inl q)
  have mf2 : ∀ j, M2 (a + 836 + 2) j = M1 (a + 836 + 2) j := fun j => e2.1.getA rfl rfl rfl
  have mf3 : ∀ j, M2 (a + 836 + 3) j = M1 (a + 836 + 3) j := fun j => e2.1.getA rfl rfl rfl
  have mf4 : ∀ j, M2 (a + 836 + 4) j = M1 (a + 836 + 4) j := fun j => e2.1.getA rfl rfl rfl
  have mf5 : ∀ j, M2 (a + 836 + 5) j = M1 (a + 836 + 5) j := fun j => e2.1.getA rfl rfl rfl
  have mg13 : M2 (a + 836) 13 = M1 (a + 836) 13 := e2.1.getS rfl rfl
  have mg8 : ∀ j, M2 (a + 836 + 8) j = M1 (a + 836 + 8) j := fun j => e2.1.getA rfl rfl rfl
  have m1 := e2.2.2
  have m2 : ∀ j, M2 (a + 836 + 6) j = M1 (a + 836 + 6) j := fun j => e2.1.getA rfl rfl rfl
  have m3 : ∀ j, M2 (a + 836 + 1) j = M1 (a + 836 + 1) j := fun j => e2.1.getA rfl rfl rfl
  have hE : zVd a U F M2 R := hD.mod hI2 e2.1 rfl rfl (hD.2.2.2.1.cg (fun j => e2.1.getA rfl rfl rfl)) (hD.2.2.2.2.1.cg (fun j => e2.1.getA rfl rfl rfl)) (hD.2.2.2.2.2.cg (fun j => e2.1.getA rfl rfl rfl) (fun j => e2.1.getA rfl rfl rfl))
  refine jq_pop C dL_law_262 (n := 263) rfl rfl ?_
  have r_0 := zsc_r xs (i + 1)
  have t10 : zTF a M2 := hte.2.2.2.1.st (hs.rws e1.1 (by decide)) lo8 mf2 mf3
  have t11 : zTW a M2 := hte.2.2.2.2.1.st (hs.rws e1.1 (by decide)) lo8 mf2 mf3
  have t12 : zTB a M2 := hte.2.2.2.2.2.1.st (hs.rws e1.1 (by decide)).1 (Or.inr rfl) (hs.rws e1.1 (by decide)).2.2.2.1 (hs.rws e1.1 (by decide)).2.2.2.2 lo8 (fun j _ => mf4 j) mf5
  have nm9 : zNM a M2 := hte.2.2.2.2.2.2.2.cg (hs.gn e1.1 (by decide)) (hs.eg (e1.1.le (by decide))) lo8 ⟨mg13, mg8⟩
  have t13 : zTG a M2 := hte.2.2.2.2.2.2.st (hs.rws e1.1 (by decide)).1 (Or.inr rfl) lo8 nm9
  have te1 := hte.1
  have t9 : zTE a M2 := ⟨by have l1 := lo.1; have y0 := c1; have y1 := ec.1; omega, fun j j0 j1 => by
    have te2 := hte.2.1 j j0 j1
    have l2 := lo.2.1 j
    have n2 := m2 j
    have z0 := c2 j
    have z1 := ec.2.1 j
    omega, fun j j0 j1 => by
    have l1 := lo.1
    have l3 := lo.2.2 j
    have y0 := c1
    have y1 := ec.1
    have te3 := hte.2.2.1 j j0
    have n3 := m3 j
    have x5 := c3 j
    have x6 := ec.2.2 j
    omega, t10, t11, t12, t13⟩
  refine jq_goto C 1021 dL_law_263 rfl ?_
  exact kk T M2 J2 R kc nc ⟨hk.up ⟨by omega, by omega⟩, t9, U, F, hs, hy, hE⟩
theorem lc_2 (C : zCx w p s m args meth c yL_law cL_law 8 (some .boolean)) (hS0 : zScr w s sb L xs) (hi : i = 6 * (it : Int)) (hL : i ≤ (L : Int) - 6) (hv : zLv a it kc nc T M R) (kk : ∀ (T2 : zTl) (M2 : zMm) (J2 : zJm) (R2 : zRm') (kc2 nc2 : Nat), zLv a (it + 1) kc2 nc2 T2 M2 R2 → zJ w p e 1312 601024 7293034 s m args below meth c 8 Q kc2 nc2 1021 [.ref sb, .ref (w.2.1 + a), .ref (w.2.1 + (a + 836)), .ref (w.2.1 + (a + 919)), zi i, .null, .null, .null] [] (T2, M2, J2, R2)) : zJ w p e 1312 601024 7293034 s m args below meth c 8 Q kc nc 266 [.ref sb, .ref (w.2.1 + a), .ref (w.2.1 + (a + 836)), .ref (w.2.1 + (a + 919)), zi i, .null, .null, .null] [] (T, M, J, R) := by
  obtain ⟨hk, hte, U, F, hs, hy, hd⟩ := hv
  have hI := hd.1
  have hF := hd.2.1
  have hci := hd.2.2.1
  have hL2 := hS0.2.2.2
  have hk1 := hk.1
  have hk2 := hk.2.1
  refine jq_aload_n C dL_law_266 (n := 267) rfl rfl ?_
  refine jq_aload_n C dL_law_267 (n := 268) rfl rfl ?_
  refine jq_iload C dL_law_268 (n := 270) rfl rfl ?_
  refine jq_iconst C dL_law_270 (n := 271) rfl ?_
  refine jq_iadd C dL_law_271 (n := 272) rfl (v := i + 1) rfl ?_
  refine j_sld C hS0 dL_law_272 (n := 273) rfl ⟨by omega, by omega⟩ ?_
  refine jq_callVi C dL_law_273 (n := 276) rfl m_L_36 v_yX11_file hs.hs.1 ⟨by decide, rfl⟩ (c_X11_file_g (w := w) (J := J) hI hF hs.hs (zsc xs (i + 1)) hy.st hs.g30 (zsc_r xs _) hci) (Nat.le_of_ble_eq_true rfl) rfl rfl (Nat.le_of_ble_eq_true rfl) ⟨by omega, by omega⟩ (fun x1 M1 J1 hI1 e1 => ?_)
  have hD : zVd a U F M1 R := hd.cls hs hI1 e1.1 e1.2.2.2.2.1 hF
  have ec := hs.ec (e1.1.le (by decide))
  have c1 := e1.2.1
  have c2 := e1.2.2.1
  refine jq_pop C dL_law_276 (n := 277) rfl rfl ?_
  refine jq_aload_n C dL_law_277 (n := 278) rfl rfl ?_
  refine jq_aload_n C dL_law_278 (n := 279) rfl rfl ?_
  refine jq_iload C dL_law_279 (n := 281) rfl rfl ?_
  refine jq_iconst C dL_law_281 (n := 282) rfl ?_
  refine jq_iadd C dL_law_282 (n := 283) rfl (v := i + 1) rfl ?_
  refine j_sld C hS0 dL_law_283 (n := 284) rfl ⟨by omega, by omega⟩ ?_
  refine jq_callVi C dL_law_284 (n := 287) rfl m_L_40 v_yX12_file (zM0 hs.mo) ⟨by decide, rfl⟩ (c_X12_file_w (w := w) (J := J1) hD.1 hD.2.1 hs.mo (zsc xs (i + 1)) hD.2.2.2.1 (zsc_r xs _)) (Nat.le_of_ble_eq_true rfl) rfl rfl (Nat.le_of_ble_eq_true rfl) ⟨by omega, by omega⟩ (fun x2 M2 J2 hI2 e2 => ?_)
  have lo := zTE.lo e2.1 rfl rfl
  have lo8 : ∀ c k, c < a + 836 → M2 c k = M1 c k := fun c k q => e2.1.reg (n := 83) rfl rfl (by decide) c k (Or.inl q)
  have mf3 : ∀ j, M2 (a + 836 + 3) j = M1 (a + 836 + 3) j := fun j => e2.1.getA rfl rfl rfl
  have mf5 : ∀ j, M2 (a + 836 + 5) j = M1 (a + 836 + 5) j := fun j => e2.1.getA rfl rfl rfl
  have mg13 : M2 (a + 836) 13 = M1 (a + 836) 13 := e2.1.getS rfl rfl
  have mg8 : ∀ j, M2 (a + 836 + 8) j = M1 (a + 836 + 8) j := fun j => e2.1.getA rfl rfl rfl
  have m1 := e2.2.2.1
  have m2 : ∀ j, M2 (a + 836 + 6) j = M1 (a + 836 + 6) j := fun j => e2.1.getA rfl rfl rfl
  have m3 : ∀ j, M2 (a + 836 + 1) j = M1 (a + 836 + 1) j := fun j => e2.1.getA rfl rfl rfl
  have hE : zVd a U F M2 R := hD.mod hI2 e2.1 rfl rfl e2.2.1 (hD.2.2.2.2.1.cg (fun j => e2.1.getA rfl rfl rfl)) (hD.2.2.2.2.2.cg (fun j => e2.1.getA rfl rfl rfl) (fun j => e2.1.getA rfl rfl rfl))
  refine jq_pop C dL_law_287 (n := 288) rfl rfl ?_
  have r_0 := zsc_r xs (i + 1)
  have ef := hs.ef (e1.1.le (by decide))
  have hn9 : M1 (a + 836) 2 = M a 1 := by have := hte.1; have := ec.1; omega
  have ht9 : ∀ j, 0 ≤ j → j < M a 1 → M (a + 1) j = M1 (a + 836 + 1) j := fun j j0 j1 => (hte.2.2.1 j j0 j1).trans (ec.2.2 j).symm
  have hf2 := e2.2.2.2.1
  rw [hn9] at hf2
  have hx := zFA.eq e1.2.2.2.1 hf2 ht9
  have t10 : zTF a M2 := (e1.2.2.2.2.2.1).elim (fun q => hte.2.2.2.1.st ⟨q.2, ef⟩ lo8 (e2.2.2.2.2.2.1 (by omega)) mf3) (fun q => hte.2.2.2.1.file q.2.1 ⟨q.1, (e1.2.2.2.1).le⟩ q.2.2.1 q.2.2.2 ef.1 ef.2.1 lo8 (by have h := e2.2.2.2.2.1 (by omega); rw [hn9, ← hx] at h; exact h) mf3 ht9)
  have t11 : zTW a M2 := (e1.2.2.2.2.2.1).elim (fun q => hte.2.2.2.2.1.st ⟨q.2, ef⟩ lo8 (e2.2.2.2.2.2.1 (by omega)) mf3) (fun q => hte.2.2.2.2.1.pg q.2.2.2 (by have := q.2.1; omega) ef.1 ef.2.1 lo8 (fun j hj => (e2.2.2.2.2.1 (by omega)).2.2.2 j (by have := q.2.1; omega) (by have := q.2.1; omega) (by have := q.2.1; omega)) mf3)
  have t12 : zTB a M2 := (e1.2.2.2.2.2.1).elim (fun q => hte.2.2.2.2.2.1.st q.2 (Or.inr rfl) ef.2.2.1 ef.2.2.2 lo8 (fun j _ => e2.2.2.2.2.2.2.2 (by omega) j) mf5) (fun q => hte.2.2.2.2.2.1.file q.2.1 (zFA.n2 e1.2.2.2.1 q.1) ((e1.2.2.2.2.2.2.1).resolve_left (by omega)).1 ((e1.2.2.2.2.2.2.1).resolve_left (by omega)).2 q.2.2.2 ef.2.2.1 ef.2.2.2 lo8 (by have h := e2.2.2.2.2.2.2.1 (by omega); rw [hn9] at h; exact h) mf5 ht9)
  have nm9 : zNM a M2 := hte.2.2.2.2.2.2.2.cg ⟨e1.2.2.2.2.2.2.2.2.1, e1.2.2.2.2.2.2.2.2.2⟩ (hs.eg (e1.1.le (by decide))) lo8 ⟨mg13, mg8⟩
  have t13 : zTG a M2 := (e1.2.2.2.2.2.1).elim (fun q => hte.2.2.2.2.2.2.st q.2 (Or.inr rfl) lo8 nm9) (fun q => hte.2.2.2.2.2.2.cur q.2.1 ((e1.2.2.2.2.2.2.2.1).resolve_left (by omega)) q.2.2.2 lo8 nm9)
  have te1 := hte.1
  have t9 : zTE a M2 := ⟨by have l1 := lo.1; have y0 := c1; have y1 := ec.1; omega, fun j j0 j1 => by
    have te2 := hte.2.1 j j0 j1
    have l2 := lo.2.1 j
    have n2 := m2 j
    have z0 := c2 j
    have z1 := ec.2.1 j
    omega, fun j j0 j1 => by
    have l1 := lo.1
    have l3 := lo.2.2 j
    have y0 := c1
    have y1 := ec.1
    have te3 := hte.2.2.1 j j0
    have n3 := m3 j
    have x5 := ec.2.2 j
    omega, t10, t11, t12, t13⟩
  refine jq_goto C 1021 dL_law_288 rfl ?_
  exact kk T M2 J2 R kc nc ⟨hk.up ⟨by omega, by omega⟩, t9, U, F, hs, hy, hE⟩
theorem lc_3 (C : zCx w p s m args meth c yL_law cL_law 8 (some .boolean)) (hS0 : zScr w s sb L xs) (hi : i = 6 * (it : Int)) (hL : i ≤ (L : Int) - 6) (hv : zLv a it kc nc T M R) (kk : ∀ (T2 : zTl) (M2 : zMm) (J2 : zJm) (R2 : zRm') (kc2 nc2 : Nat), zLv a (it + 1) kc2 nc2 T2 M2 R2 → zJ w p e 1312 601024 7293034 s m args below meth c 8 Q kc2 nc2 1021 [.ref sb, .ref (w.2.1 + a), .ref (w.2.1 + (a + 836)), .ref (w.2.1 + (a + 919)), zi i, .null, .null, .null] [] (T2, M2, J2, R2)) : zJ w p e 1312 601024 7293034 s m args below meth c 8 Q kc nc 291 [.ref sb, .ref (w.2.1 + a), .ref (w.2.1 + (a + 836)), .ref (w.2.1 + (a + 919)), zi i, .null, .null, .null] [] (T, M, J, R) := by
  obtain ⟨hk, hte, U, F, hs, hy, hd⟩ := hv
  have hI := hd.1
  have hF := hd.2.1
  have hci := hd.2.2.1
  have hL2 := hS0.2.2.2
  have hk1 := hk.1
  have hk2 := hk.2.1
  refine jq_aload_n C dL_law_291 (n := 292) rfl rfl ?_
  refine jq_callVi C dL_law_292 (n := 295) rfl m_L_41 v_yX11_switches hs.hs.1 ⟨by decide, rfl⟩ (c_X11_switches_w (w := w) (J := J) hI hF hs.hs hy.st) (Nat.le_of_ble_eq_true rfl) rfl rfl (Nat.le_of_ble_eq_true rfl) ⟨by omega, by omega⟩ (fun x1 M1 J1 hI1 e1 => ?_)
  have hD : zVd a U F M1 R := hd.cl2 hs hI1 e1.1 (by decide) hF
  have ec := hs.ec (e1.1.le (by decide))
  have c1 := e1.2.1
  have c2 := hs.kd e1.1 (by decide)
  refine jq_pop C dL_law_295 (n := 296) rfl rfl ?_
  refine jq_aload_n C dL_law_296 (n := 297) rfl rfl ?_
  refine jq_callVi C dL_law_297 (n := 300) rfl m_L_45 v_yX12_switches (zM0 hs.mo) ⟨by decide, rfl⟩ (c_X12_switches_w (w := w) (J := J1) hD.1 hD.2.1 hs.mo hD.2.2.2.1) (Nat.le_of_ble_eq_true rfl) rfl rfl (Nat.le_of_ble_eq_true rfl) ⟨by omega, by omega⟩ (fun x2 M2 J2 hI2 e2 => ?_)
  have lo := zTE.lo e2.1 rfl rfl
  have lo8 : ∀ c k, c < a + 836 → M2 c k = M1 c k := fun c k q => e2.1.reg (n := 83) rfl rfl (by decide) c k (Or.inl q)
  have mf3 : ∀ j, M2 (a + 836 + 3) j = M1 (a + 836 + 3) j := fun j => e2.1.getA rfl rfl rfl
  have mf5 : ∀ j, M2 (a + 836 + 5) j = M1 (a + 836 + 5) j := fun j => e2.1.getA rfl rfl rfl
  have mg13 : M2 (a + 836) 13 = M1 (a + 836) 13 := e2.1.getS rfl rfl
  have mg8 : ∀ j, M2 (a + 836 + 8) j = M1 (a + 836 + 8) j := fun j => e2.1.getA rfl rfl rfl
  have m1 := e2.2.2.1
  have m2 : ∀ j, M2 (a + 836 + 6) j = M1 (a + 836 + 6) j := fun j => e2.1.getA rfl rfl rfl
  have m3 : ∀ j, M2 (a + 836 + 1) j = M1 (a + 836 + 1) j := fun j => e2.1.getA rfl rfl rfl
  have hE : zVd a U F M2 R := hD.mod hI2 e2.1 rfl rfl e2.2.1 (hD.2.2.2.2.1.cg (fun j => e2.1.getA rfl rfl rfl)) (hD.2.2.2.2.2.cg (fun j => e2.1.getA rfl rfl rfl) (fun j => e2.1.getA rfl rfl rfl))
  refine jq_pop C dL_law_300 (n := 301) rfl rfl ?_
  have ef := hs.ef (e1.1.le (by decide))
  have t10 : zTF a M2 := hte.2.2.2.1.sw e1.2.2.2.1 ef.1 ef.2.1 lo8 (fun j hj => e2.2.2.2.2.1 j (by omega)) mf3
  have hn9 : M1 (a + 836) 2 = M a 1 := by have := hte.1; have := ec.1; omega
  have hw2 := e2.2.2.2.2.2.1
  rw [hn9, ← zClip_cg (g := M (a + 1)) (fun j j0 j1 => (hte.2.2.1 j j0 j1).trans (ec.2.2 j).symm)] at hw2
  have hx := zSwA.eq e1.2.2.2.2 hw2
  have t11 : zTW a M2 := by
    have u1 := hte.2.2.2.2.1.1
    have u2 := ef.1 168
    have u3 := ef.1 172
    have u5 := e1.2.2.1
    have u6 := e2.2.2.2.1
    exact hte.2.2.2.2.1.cur e1.2.2.2.1 ef.2.1 lo8 ⟨by omega, by omega⟩ mf3
  have t12 : zTB a M2 := hte.2.2.2.2.2.1.st e1.2.2.2.1 (Or.inl ⟨by omega, by omega⟩) ef.2.2.1 ef.2.2.2 lo8 (fun j hj => e2.2.2.2.2.2.2 j hj) mf5
  have nm9 : zNM a M2 := hte.2.2.2.2.2.2.2.cg (hs.gn e1.1 (by decide)) (hs.eg (e1.1.le (by decide))) lo8 ⟨mg13, mg8⟩
  have t13 : zTG a M2 := hte.2.2.2.2.2.2.st e1.2.2.2.1 (Or.inl ⟨by omega, by omega⟩) lo8 nm9
  have te1 := hte.1
  have t9 : zTE a M2 := ⟨by have l1 := lo.1; have y0 := c1; have y1 := ec.1; omega, fun j j0 j1 => by
    have te2 := hte.2.1 j j0 j1
    have l2 := lo.2.1 j
    have n2 := m2 j
    have z0 := c2 j
    have z1 := ec.2.1 j
    omega, fun j j0 j1 => by
    have l1 := lo.1
    have l3 := lo.2.2 j
    have y0 := c1
    have y1 := ec.1
    have te3 := hte.2.2.1 j j0
    have n3 := m3 j
    have x5 := ec.2.2 j
    omega, t10, t11, t12, t13⟩
  refine jq_goto C 1021 dL_law_301 rfl ?_
  exact kk T M2 J2 R kc nc ⟨hk.up ⟨by omega, by omega⟩, t9, U, F, hs, hy, hE⟩
theorem lc_4 (C : zCx w p s m args meth c yL_law cL_law 8 (some .boolean)) (hS0 : zScr w s sb L xs) (hi : i = 6 * (it : Int)) (hL : i ≤ (L : Int) - 6) (hv : zLv a it kc nc T M R) (kk : ∀ (T2 : zTl) (M2 : zMm) (J2 : zJm) (R2 : zRm') (kc2 nc2 : Nat), zLv a (it + 1) kc2 nc2 T2 M2 R2 → zJ w p e 1312 601024 7293034 s m args below meth c 8 Q kc2 nc2 1021 [.ref sb, .ref (w.2.1 + a), .ref (w.2.1 + (a + 836)), .ref (w.2.1 + (a + 919)), zi i, .null, .null, .null] [] (T2, M2, J2, R2)) : zJ w p e 1312 601024 7293034 s m args below meth c 8 Q kc nc 304 [.ref sb, .ref (w.2.1 + a), .ref (w.2.1 + (a + 836)), .ref (w.2.1 + (a + 919)), zi i, .null, .null, .null] [] (T, M, J, R) := by
  obtain ⟨hk, hte, U, F, hs, hy, hd⟩ := hv
  have hI := hd.1
  have hF := hd.2.1
  have hci := hd.2.2.1
  have hL2 := hS0.2.2.2
  have hk1 := hk.1
  have hk2 := hk.2.1
  refine jq_aload_n C dL_law_304 (n := 305) rfl rfl ?_
  refine jq_aload_n C dL_law_305 (n := 306) rfl rfl ?_
  refine jq_iload C dL_law_306 (n := 308) rfl rfl ?_
  refine jq_iconst C dL_law_308 (n := 309) rfl ?_
  refine jq_iadd C dL_law_309 (n := 310) rfl (v := i + 1) rfl ?_
  refine j_sld C hS0 dL_law_310 (n := 311) rfl ⟨by omega, by omega⟩ ?_
  refine jq_callVi C dL_law_311 (n := 314) rfl m_L_46 v_yX11_set hs.hs.1 ⟨by decide, rfl⟩ (c_X11_set_v (w := w) (J := J) hI hF hs.hs (zsc xs (i + 1)) (zsc_r xs _)) (Nat.le_of_ble_eq_true rfl) rfl rfl (Nat.le_of_ble_eq_true rfl) ⟨by omega, by omega⟩ (fun x1 M1 J1 hI1 e1 => ?_)
  have hD : zVd a U F M1 R := hd.cl2 hs hI1 e1.1 (by decide) hF
  have ec := hs.ec (e1.1.le (by decide))
  have c1 := e1.2.1
  have c2 := hs.kd e1.1 (by decide)
  have c3 := e1.2.2.1
  refine jq_pop C dL_law_314 (n := 315) rfl rfl ?_
  refine jq_aload_n C dL_law_315 (n := 316) rfl rfl ?_
  refine jq_aload_n C dL_law_316 (n := 317) rfl rfl ?_
  refine jq_iload C dL_law_317 (n := 319) rfl rfl ?_
  refine jq_iconst C dL_law_319 (n := 320) rfl ?_
  refine jq_iadd C dL_law_320 (n := 321) rfl (v := i + 1) rfl ?_
  refine j_sld C hS0 dL_law_321 (n := 322) rfl ⟨by omega, by omega⟩ ?_
  refine jq_callVi C dL_law_322 (n := 325) rfl m_L_49 v_yX12_set (zM0 hs.mo) ⟨by decide, rfl⟩ (c_X12_set_v (w := w) (J := J1) hD.1 hD.2.1 hs.mo (zsc xs (i + 1)) hD.2.2.2.1 (zsc_r xs _)) (Nat.le_of_ble_eq_true rfl) rfl rfl (Nat.le_of_ble_eq_true rfl) ⟨by omega, by omega⟩ (fun x2 M2 J2 hI2 e2 => ?_)
  have lo := zTE.lo e2.1 rfl rfl
  have lo8 : ∀ c k, c < a + 836 → M2 c k = M1 c k := fun c k q => e2.1.reg (n := 83) rfl rfl (by decide) c k (Or.inl q)
  have mf3 : ∀ j, M2 (a + 836 + 3) j = M1 (a + 836 + 3) j := fun j => e2.1.getA rfl rfl rfl
  have mf4 : ∀ j, M2 (a + 836 + 4) j = M1 (a + 836 + 4) j := fun j => e2.1.getA rfl rfl rfl
  have mf5 : ∀ j, M2 (a + 836 + 5) j = M1 (a + 836 + 5) j := fun j => e2.1.getA rfl rfl rfl
  have mg13 : M2 (a + 836) 13 = M1 (a + 836) 13 := e2.1.getS rfl rfl
  have mg8 : ∀ j, M2 (a + 836 + 8) j = M1 (a + 836 + 8) j := fun j => e2.1.getA rfl rfl rfl
  have m1 : M2 (a + 836) 2 = M1 (a + 836) 2 := e2.1.getS rfl rfl
  have m2 : ∀ j, M2 (a + 836 + 6) j = M1 (a + 836 + 6) j := fun j => e2.1.getA rfl rfl rfl
  have m3 : ∀ j, M2 (a + 836 + 1) j = M1 (a + 836 + 1) j := fun j => e2.1.getA rfl rfl rfl
  have hE : zVd a U F M2 R := hD.mod hI2 e2.1 rfl rfl e2.2.1 (hD.2.2.2.2.1.cg (fun j => e2.1.getA rfl rfl rfl)) (hD.2.2.2.2.2.cg (fun j => e2.1.getA rfl rfl rfl) (fun j => e2.1.getA rfl rfl rfl))
  refine jq_pop C dL_law_325 (n := 326) rfl rfl ?_
  have r_0 := zsc_r xs (i + 1)
  have ef := hs.ef (e1.1.le (by decide))
  have t10 : zTF a M2 := hte.2.2.2.1.sw (e1.2.2.2.2.2.wd (Or.inl ⟨by omega, by omega⟩)) ef.1 ef.2.1 lo8 (fun j hj => e2.2.2.2 j (by omega)) mf3
  have t11 : zTW a M2 := by
    have u1 := hte.2.2.2.2.1.1
    have u2 := ef.1 168
    have u3 := ef.1 172
    have u4 := e2.2.2.2 168 (by omega)
    have u5 := e1.2.2.2.1
    have u6 := e2.2.2.1
    have u7 := e1.2.2.2.2.1
    rw [u2, ← u1.1] at u6
    exact hte.2.2.2.2.1.cur (e1.2.2.2.2.2.wd (Or.inl ⟨by omega, by omega⟩)) ef.2.1 lo8 ⟨by omega, by omega⟩ mf3
  have t12 : zTB a M2 := hte.2.2.2.2.2.1.st e1.2.2.2.2.2 (Or.inl ⟨by omega, by omega⟩) ef.2.2.1 ef.2.2.2 lo8 (fun j _ => mf4 j) mf5
  have nm9 : zNM a M2 := hte.2.2.2.2.2.2.2.cg (hs.gn e1.1 (by decide)) (hs.eg (e1.1.le (by decide))) lo8 ⟨mg13, mg8⟩
  have t13 : zTG a M2 := hte.2.2.2.2.2.2.st e1.2.2.2.2.2 (Or.inl ⟨by omega, by omega⟩) lo8 nm9
  have te1 := hte.1
  have t9 : zTE a M2 := ⟨by have l1 := lo.1; have y0 := c1; have y1 := ec.1; omega, fun j j0 j1 => by
    have te2 := hte.2.1 j j0 j1
    have l2 := lo.2.1 j
    have n2 := m2 j
    have z0 := c2 j
    have z1 := ec.2.1 j
    omega, fun j j0 j1 => by
    have l1 := lo.1
    have l3 := lo.2.2 j
    have y0 := c1
    have y1 := ec.1
    have te3 := hte.2.2.1 j j0
    have n3 := m3 j
    have x5 := c3 j
    have x6 := ec.2.2 j
    omega, t10, t11, t12, t13⟩
  refine jq_goto C 1021 dL_law_326 rfl ?_
  exact kk T M2 J2 R kc nc ⟨hk.up ⟨by omega, by omega⟩, t9, U, F, hs, hy, hE⟩
theorem lc_5 (C : zCx w p s m args meth c yL_law cL_law 8 (some .boolean)) (hS0 : zScr w s sb L xs) (hi : i = 6 * (it : Int)) (hL : i ≤ (L : Int) - 6) (hv : zLv a it kc nc T M R) (kk : ∀ (T2 : zTl) (M2 : zMm) (J2 : zJm) (R2 : zRm') (kc2 nc2 : Nat), zLv a (it + 1) kc2 nc2 T2 M2 R2 → zJ w p e 1312 601024 7293034 s m args below meth c 8 Q kc2 nc2 1021 [.ref sb, .ref (w.2.1 + a), .ref (w.2.1 + (a + 836)), .ref (w.2.1 + (a + 919)), zi i, .null, .null, .null] [] (T2, M2, J2, R2)) : zJ w p e 1312 601024 7293034 s m args below meth c 8 Q kc nc 329 [.ref sb, .ref (w.2.1 + a), .ref (w.2.1 + (a + 836)), .ref (w.2.1 + (a + 919)), zi i, .null, .null, .null] [] (T, M, J, R) := by
  obtain ⟨hk, hte, U, F, hs, hy, hd⟩ := hv
  have hI := hd.1
  have hF := hd.2.1
  have hci := hd.2.2.1
  have hL2 := hS0.2.2.2
  have hk1 := hk.1
  have hk2 := hk.2.1
  refine jq_aload_n C dL_law_329 (n := 330) rfl rfl ?_
  refine jq_aload_n C dL_law_330 (n := 331) rfl rfl ?_
  refine jq_iload C dL_law_331 (n := 333) rfl rfl ?_
  refine jq_iconst C dL_law_333 (n := 334) rfl ?_
  refine jq_iadd C dL_law_334 (n := 335) rfl (v := i + 1) rfl ?_
  refine j_sld C hS0 dL_law_335 (n := 336) rfl ⟨by omega, by omega⟩ ?_
  refine jq_callViE C dL_law_336 (n := 339) rfl m_L_50 v_yX11_run hs.hs.1 ⟨by decide, rfl⟩ (c_X11_run (w := w) (J := J) hI hF hs.hs (zsc xs (i + 1)) (zsc_r xs _) hci) (Nat.le_of_ble_eq_true rfl) rfl rfl (Nat.le_of_ble_eq_true rfl) ⟨by omega, by omega⟩ (fun x1 M1 J1 R1 hI1 e1 => ?_)
  have hF1 : zF F R1 := e1.2.F hF (hs.2.2.2.2.2.2.2.2.1 _ _ (by omega)) (hs.2.2.2.2.2.2.2.2.1 _ _ (by omega)) (hs.2.2.2.2.2.2.2.2.1 _ _ (by omega))
  have h8 : R1 a 8 = R a 8 := e1.2 a 8 (by omega) (by omega) (by omega)
  have hD : zVd a U F M1 R1 := hd.cl2 hs hI1 e1.1 (by decide) hF1
  have ec := hs.ec (e1.1.le (by decide))
  have c1 := hs.tp e1.1 (by decide)
  have c2 := hs.kd e1.1 (by decide)
  have c3 := hs.tr e1.1 (by decide)
  refine jq_pop C dL_law_339 (n := 340) rfl rfl ?_
  refine jq_aload_n C dL_law_340 (n := 341) rfl rfl ?_
  refine jq_aload_n C dL_law_341 (n := 342) rfl rfl ?_
  refine jq_iload C dL_law_342 (n := 344) rfl rfl ?_
  refine jq_iconst C dL_law_344 (n := 345) rfl ?_
  refine jq_iadd C dL_law_345 (n := 346) rfl (v := i + 1) rfl ?_
  refine j_sld C hS0 dL_law_346 (n := 347) rfl ⟨by omega, by omega⟩ ?_
  refine jq_callVi C dL_law_347 (n := 350) rfl m_L_53 v_yX12_run (zM0 hs.mo) ⟨by decide, rfl⟩ (c_X12_run (w := w) (J := J1) hD.1 hD.2.1 hs.mo (zsc xs (i + 1)) hD.2.2.2.1 hD.2.2.2.2.2 (zsc_r xs _)) (Nat.le_of_ble_eq_true rfl) rfl rfl (Nat.le_of_ble_eq_true rfl) ⟨by omega, by omega⟩ (fun x2 M2 J2 hI2 e2 => ?_)
  have lo := zTE.lo e2.1 rfl rfl
  have lo8 : ∀ c k, c < a + 836 → M2 c k = M1 c k := fun c k q => e2.1.reg (n := 83) rfl rfl (by decide) c k (Or.inl q)
  have mf2 : ∀ j, M2 (a + 836 + 2) j = M1 (a + 836 + 2) j := fun j => e2.1.getA rfl rfl rfl
  have mf3 : ∀ j, M2 (a + 836 + 3) j = M1 (a + 836 + 3) j := fun j => e2.1.getA rfl rfl rfl
  have mf4 : ∀ j, M2 (a + 836 + 4) j = M1 (a + 836 + 4) j := fun j => e2.1.getA rfl rfl rfl
  have mf5 : ∀ j, M2 (a + 836 + 5) j = M1 (a + 836 + 5) j := fun j => e2.1.getA rfl rfl rfl
  have mg13 : M2 (a + 836) 13 = M1 (a + 836) 13 := e2.1.getS rfl rfl
  have mg8 : ∀ j, M2 (a + 836 + 8) j = M1 (a + 836 + 8) j := fun j => e2.1.getA rfl rfl rfl
  have m1 : M2 (a + 836) 2 = M1 (a + 836) 2 := e2.1.getS rfl rfl
  have m2 : ∀ j, M2 (a + 836 + 6) j = M1 (a + 836 + 6) j := fun j => e2.1.getA rfl rfl rfl
  have m3 : ∀ j, M2 (a + 836 + 1) j = M1 (a + 836 + 1) j := fun j => e2.1.getA rfl rfl rfl
  have hE : zVd a U F M2 R1 := hD.mod hI2 e2.1 rfl rfl (hD.2.2.2.1.cg (fun j => e2.1.getA rfl rfl rfl)) (hD.2.2.2.2.1.cg (fun j => e2.1.getA rfl rfl rfl)) e2.2
  refine jq_pop C dL_law_350 (n := 351) rfl rfl ?_
  have r_0 := zsc_r xs (i + 1)
  have t10 : zTF a M2 := hte.2.2.2.1.st (hs.rws e1.1 (by decide)) lo8 mf2 mf3
  have t11 : zTW a M2 := hte.2.2.2.2.1.st (hs.rws e1.1 (by decide)) lo8 mf2 mf3
  have t12 : zTB a M2 := hte.2.2.2.2.2.1.st (hs.rws e1.1 (by decide)).1 (Or.inr rfl) (hs.rws e1.1 (by decide)).2.2.2.1 (hs.rws e1.1 (by decide)).2.2.2.2 lo8 (fun j _ => mf4 j) mf5
  have nm9 : zNM a M2 := hte.2.2.2.2.2.2.2.cg (hs.gn e1.1 (by decide)) (hs.eg (e1.1.le (by decide))) lo8 ⟨mg13, mg8⟩
  have t13 : zTG a M2 := hte.2.2.2.2.2.2.st (hs.rws e1.1 (by decide)).1 (Or.inr rfl) lo8 nm9
  have te1 := hte.1
  have t9 : zTE a M2 := ⟨by have l1 := lo.1; have y0 := c1; have y1 := ec.1; omega, fun j j0 j1 => by
    have te2 := hte.2.1 j j0 j1
    have l2 := lo.2.1 j
    have n2 := m2 j
    have z0 := c2 j
    have z1 := ec.2.1 j
    omega, fun j j0 j1 => by
    have l1 := lo.1
    have l3 := lo.2.2 j
    have y0 := c1
    have y1 := ec.1
    have te3 := hte.2.2.1 j j0
    have n3 := m3 j
    have x5 := c3 j
    have x6 := ec.2.2 j
    omega, t10, t11, t12, t13⟩
  refine jq_goto C 1021 dL_law_351 rfl ?_
  exact kk T M2 J2 R1 kc nc ⟨(hk.R h8).up ⟨by omega, by omega⟩, t9, U, F, hs, hy.R h8, hE⟩
theorem lc_6 (C : zCx w p s m args meth c yL_law cL_law 8 (some .boolean)) (hS0 : zScr w s sb L xs) (hi : i = 6 * (it : Int)) (hL : i ≤ (L : Int) - 6) (hv : zLv a it kc nc T M R) (kk : ∀ (T2 : zTl) (M2 : zMm) (J2 : zJm) (R2 : zRm') (kc2 nc2 : Nat), zLv a (it + 1) kc2 nc2 T2 M2 R2 → zJ w p e 1312 601024 7293034 s m args below meth c 8 Q kc2 nc2 1021 [.ref sb, .ref (w.2.1 + a), .ref (w.2.1 + (a + 836)), .ref (w.2.1 + (a + 919)), zi i, .null, .null, .null] [] (T2, M2, J2, R2)) : zJ w p e 1312 601024 7293034 s m args below meth c 8 Q kc nc 354 [.ref sb, .ref (w.2.1 + a), .ref (w.2.1 + (a + 836)), .ref (w.2.1 + (a + 919)), zi i, .null, .null, .null] [] (T, M, J, R) := by
  obtain ⟨hk, hte, U, F, hs, hy, hd⟩ := hv
  have hI := hd.1
  have hF := hd.2.1
  have hci := hd.2.2.1
  have hL2 := hS0.2.2.2
  have hk1 := hk.1
  have hk2 := hk.2.1
  refine jq_aload_n C dL_law_354 (n := 355) rfl rfl ?_
  refine jq_aload_n C dL_law_355 (n := 356) rfl rfl ?_
  refine jq_iload C dL_law_356 (n := 358) rfl rfl ?_
  refine jq_iconst C dL_law_358 (n := 359) rfl ?_
  refine jq_iadd C dL_law_359 (n := 360) rfl (v := i + 1) rfl ?_
  refine j_sld C hS0 dL_law_360 (n := 361) rfl ⟨by omega, by omega⟩ ?_
  refine jq_callVp C dL_law_361 (n := 364) rfl m_L_54 v_yX11_fault hs.hs.1 ⟨by decide, rfl⟩ (c_X11_fault (w := w) (J := J) hI hF hs.hs (zsc xs (i + 1)) (zsc_r xs _)) (Nat.le_of_ble_eq_true rfl) rfl rfl (Nat.le_of_ble_eq_true rfl) ⟨by omega, by omega⟩ (fun x1 e1 => ?_)
  refine jq_pop C dL_law_364 (n := 365) rfl rfl ?_
  refine jq_aload_n C dL_law_365 (n := 366) rfl rfl ?_
  refine jq_aload_n C dL_law_366 (n := 367) rfl rfl ?_
  refine jq_iload C dL_law_367 (n := 369) rfl rfl ?_
  refine jq_iconst C dL_law_369 (n := 370) rfl ?_
  refine jq_iadd C dL_law_370 (n := 371) rfl (v := i + 1) rfl ?_
  refine j_sld C hS0 dL_law_371 (n := 372) rfl ⟨by omega, by omega⟩ ?_
  refine jq_callVi C dL_law_372 (n := 375) rfl m_L_57 v_yX12_fault (zM0 hs.mo) ⟨by decide, rfl⟩ (c_X12_fault (w := w) (J := J) hd.1 hd.2.1 hs.mo (zsc xs (i + 1)) (zsc_r xs _)) (Nat.le_of_ble_eq_true rfl) rfl rfl (Nat.le_of_ble_eq_true rfl) ⟨by omega, by omega⟩ (fun x2 M2 J2 hI2 e2 => ?_)
  have lo := zTE.lo e2 rfl rfl
  have lo8 : ∀ c k, c < a + 836 → M2 c k = M c k := fun c k q => e2.reg (n := 83) rfl rfl (by decide) c k (Or.inl q)
  have mf2 : ∀ j, M2 (a + 836 + 2) j = M (a + 836 + 2) j := fun j => e2.getA rfl rfl rfl
  have mf3 : ∀ j, M2 (a + 836 + 3) j = M (a + 836 + 3) j := fun j => e2.getA rfl rfl rfl
  have mf4 : ∀ j, M2 (a + 836 + 4) j = M (a + 836 + 4) j := fun j => e2.getA rfl rfl rfl
  have mf5 : ∀ j, M2 (a + 836 + 5) j = M (a + 836 + 5) j := fun j => e2.getA rfl rfl rfl
  have mg13 : M2 (a + 836) 13 = M (a + 836) 13 := e2.getS rfl rfl
  have mg8 : ∀ j, M2 (a + 836 + 8) j = M (a + 836 + 8) j := fun j => e2.getA rfl rfl rfl
  have m1 : M2 (a + 836) 2 = M (a + 836) 2 := e2.getS rfl rfl
  have m2 : ∀ j, M2 (a + 836 + 6) j = M (a + 836 + 6) j := fun j => e2.getA rfl rfl rfl
  have m3 : ∀ j, M2 (a + 836 + 1) j = M (a + 836 + 1) j := fun j => e2.getA rfl rfl rfl
  have hE : zVd a U F M2 R := hd.mod hI2 e2 rfl rfl (hd.2.2.2.1.cg (fun j => e2.getA rfl rfl rfl)) (hd.2.2.2.2.1.cg (fun j => e2.getA rfl rfl rfl)) (hd.2.2.2.2.2.cg (fun j => e2.getA rfl rfl rfl) (fun j => e2.getA rfl rfl rfl))
  refine jq_pop C dL_law_375 (n := 376) rfl rfl ?_
  have r_0 := zsc_r xs (i + 1)
  have t10 : zTF a M2 := hte.2.2.2.1.st zRw.rf lo8 mf2 mf3
  have t11 : zTW a M2 := hte.2.2.2.2.1.st zRw.rf lo8 mf2 mf3
  have t12 : zTB a M2 := hte.2.2.2.2.2.1.st zRw.rf.1 (Or.inr rfl) zRw.rf.2.2.2.1 zRw.rf.2.2.2.2 lo8 (fun j _ => mf4 j) mf5
  have nm9 : zNM a M2 := hte.2.2.2.2.2.2.2.cg ⟨rfl, fun _ => rfl⟩ ⟨rfl, fun _ => rfl⟩ lo8 ⟨mg13, mg8⟩
  have t13 : zTG a M2 := hte.2.2.2.2.2.2.st zRw.rf.1 (Or.inr rfl) lo8 nm9
  have te1 := hte.1
  have t9 : zTE a M2 := ⟨by have l1 := lo.1; omega, fun j j0 j1 => by
    have te2 := hte.2.1 j j0 j1
    have l2 := lo.2.1 j
    have n2 := m2 j
    omega, fun j j0 j1 => by
    have l1 := lo.1
    have l3 := lo.2.2 j
    have te3 := hte.2.2.1 j j0
    have n3 := m3 j
    omega, t10, t11, t12, t13⟩
  refine jq_goto C 1021 dL_law_376 rfl ?_
  exact kk T M2 J2 R kc nc ⟨hk.up ⟨by omega, by omega⟩, t9, U, F, hs, hy, hE⟩
theorem lc_7 (C : zCx w p s m args meth c yL_law cL_law 8 (some .boolean)) (hS0 : zScr w s sb L xs) (hi : i = 6 * (it : Int)) (hL : i ≤ (L : Int) - 6) (hv : zLv a it kc nc T M R) (kk : ∀ (T2 : zTl) (M2 : zMm) (J2 : zJm) (R2 : zRm') (kc2 nc2 : Nat), zLv a (it + 1) kc2 nc2 T2 M2 R2 → zJ w p e 1312 601024 7293034 s m args below meth c 8 Q kc2 nc2 1021 [.ref sb, .ref (w.2.1 + a), .ref (w.2.1 + (a + 836)), .ref (w.2.1 + (a + 919)), zi i, .null, .null, .null] [] (T2, M2, J2, R2)) : zJ w p e 1312 601024 7293034 s m args below meth c 8 Q kc nc 379 [.ref sb, .ref (w.2.1 + a), .ref (w.2.1 + (a + 836)), .ref (w.2.1 + (a + 919)), zi i, .null, .null, .null] [] (T, M, J, R) := by
  obtain ⟨hk, hte, U, F, hs, hy, hd⟩ := hv
  have hI := hd.1
  have hF := hd.2.1
  have hci := hd.2.2.1
  have hL2 := hS0.2.2.2
  have hk1 := hk.1
  have hk2 := hk.2.1
  refine jq_aload_n C dL_law_379 (n := 380) rfl rfl ?_
  refine jq_callViE C dL_law_380 (n := 383) rfl m_L_58 v_yX11_expand hs.hs.1 ⟨by decide, rfl⟩ (c_X11_expand (w := w) (J := J) hI hF hs.hs ) (Nat.le_of_ble_eq_true rfl) rfl rfl (Nat.le_of_ble_eq_true rfl) ⟨by omega, by omega⟩ (fun x1 M1 J1 R1 hI1 e1 => ?_)
  have hF1 : zF F R1 := e1.2.2.F hF (hs.2.2.2.2.2.2.2.2.1 _ _ (by omega)) (hs.2.2.2.2.2.2.2.2.1 _ _ (by omega))
  have h8 : R1 a 8 = R a 8 := e1.2.2.1 a 8 (by omega) (by omega)
  have hD : zVd a U F M1 R1 := hd.cl2 hs hI1 e1.1 (by decide) hF1
  have ec := hs.ec (e1.1.le (by decide))
  have c1 := e1.2.1
  have c2 := hs.kd e1.1 (by decide)
  refine jq_pop C dL_law_383 (n := 384) rfl rfl ?_
  refine jq_aload_n C dL_law_384 (n := 385) rfl rfl ?_
  refine jq_callVi C dL_law_385 (n := 388) rfl m_L_61 v_yX12_expand (zM0 hs.mo) ⟨by decide, rfl⟩ (c_X12_expand (w := w) (J := J1) hD.1 hD.2.1 hs.mo hD.2.2.2.2.2) (Nat.le_of_ble_eq_true rfl) rfl rfl (Nat.le_of_ble_eq_true rfl) ⟨by omega, by omega⟩ (fun x2 M2 J2 hI2 e2 => ?_)
  have lo := zTE.lo e2.1 rfl rfl
  have lo8 : ∀ c k, c < a + 836 → M2 c k = M1 c k := fun c k q => e2.1.reg (n := 83) rfl rfl (by decide) c k (Or.inl q)
  have mf2 : ∀ j, M2 (a + 836 + 2) j = M1 (a + 836 + 2) j := fun j => e2.1.getA rfl rfl rfl
  have mf3 : ∀ j, M2 (a + 836 + 3) j = M1 (a + 836 + 3) j := fun j => e2.1.getA rfl rfl rfl
  have mf4 : ∀ j, M2 (a + 836 + 4) j = M1 (a + 836 + 4) j := fun j => e2.1.getA rfl rfl rfl
  have mf5 : ∀ j, M2 (a + 836 + 5) j = M1 (a + 836 + 5) j := fun j => e2.1.getA rfl rfl rfl
  have mg13 : M2 (a + 836) 13 = M1 (a + 836) 13 := e2.1.getS rfl rfl
  have mg8 : ∀ j, M2 (a + 836 + 8) j = M1 (a + 836 + 8) j := fun j => e2.1.getA rfl rfl rfl
  have m1 := e2.2
  have m2 : ∀ j, M2 (a + 836 + 6) j = M1 (a + 836 + 6) j := fun j => e2.1.getA rfl rfl rfl
  have m3 : ∀ j, M2 (a + 836 + 1) j = M1 (a + 836 + 1) j := fun j => e2.1.getA rfl rfl rfl
  have hE : zVd a U F M2 R1 := hD.mod hI2 e2.1 rfl rfl (hD.2.2.2.1.cg (fun j => e2.1.getA rfl rfl rfl)) (hD.2.2.2.2.1.cg (fun j => e2.1.getA rfl rfl rfl)) (hD.2.2.2.2.2.cg (fun j => e2.1.getA rfl rfl rfl) (fun j => e2.1.getA rfl rfl rfl))
  refine jq_pop C dL_law_388 (n := 389) rfl rfl ?_
  have t10 : zTF a M2 := hte.2.2.2.1.st (hs.rws e1.1 (by decide)) lo8 mf2 mf3
  have t11 : zTW a M2 := hte.2.2.2.2.1.st (hs.rws e1.1 (by decide)) lo8 mf2 mf3
  have t12 : zTB a M2 := hte.2.2.2.2.2.1.st (hs.rws e1.1 (by decide)).1 (Or.inr rfl) (hs.rws e1.1 (by decide)).2.2.2.1 (hs.rws e1.1 (by decide)).2.2.2.2 lo8 (fun j _ => mf4 j) mf5
  have nm9 : zNM a M2 := hte.2.2.2.2.2.2.2.cg (hs.gn e1.1 (by decide)) (hs.eg (e1.1.le (by decide))) lo8 ⟨mg13, mg8⟩
  have t13 : zTG a M2 := hte.2.2.2.2.2.2.st (hs.rws e1.1 (by decide)).1 (Or.inr rfl) lo8 nm9
  have te1 := hte.1
  have t9 : zTE a M2 := ⟨by have l1 := lo.1; have y0 := c1; have y1 := ec.1; omega, fun j j0 j1 => by
    have te2 := hte.2.1 j j0 j1
    have l2 := lo.2.1 j
    have n2 := m2 j
    have z0 := c2 j
    have z1 := ec.2.1 j
    omega, fun j j0 j1 => by
    have l1 := lo.1
    have l3 := lo.2.2 j
    have y0 := c1
    have y1 := ec.1
    have te3 := hte.2.2.1 j j0
    have n3 := m3 j
    have x5 := ec.2.2 j
    omega, t10, t11, t12, t13⟩
  refine jq_goto C 1021 dL_law_389 rfl ?_
  exact kk T M2 J2 R1 kc nc ⟨(hk.R h8).up ⟨by omega, by omega⟩, t9, U, F, hs, hy.R h8, hE⟩
theorem lc_8 (C : zCx w p s m args meth c yL_law cL_law 8 (some .boolean)) (hS0 : zScr w s sb L xs) (hi : i = 6 * (it : Int)) (hL : i ≤ (L : Int) - 6) (hv : zLv a it kc nc T M R) (kk : ∀ (T2 : zTl) (M2 : zMm) (J2 : zJm) (R2 : zRm') (kc2 nc2 : Nat), zLv a (it + 1) kc2 nc2 T2 M2 R2 → zJ w p e 1312 601024 7293034 s m args below meth c 8 Q kc2 nc2 1021 [.ref sb, .ref (w.2.1 + a), .ref (w.2.1 + (a + 836)), .ref (w.2.1 + (a + 919)), zi i, .null, .null, .null] [] (T2, M2, J2, R2)) : zJ w p e 1312 601024 7293034 s m args below meth c 8 Q kc nc 392 [.ref sb, .ref (w.2.1 + a), .ref (w.2.1 + (a + 836)), .ref (w.2.1 + (a + 919)), zi i, .null, .null, .null] [] (T, M, J, R) := by
  obtain ⟨hk, hte, U, F, hs, hy, hd⟩ := hv
  have hI := hd.1
  have hF := hd.2.1
  have hci := hd.2.2.1
  have hL2 := hS0.2.2.2
  have hk1 := hk.1
  have hk2 := hk.2.1
  refine jq_aload_n C dL_law_392 (n := 393) rfl rfl ?_
  refine jq_aload_n C dL_law_393 (n := 394) rfl rfl ?_
  refine jr_callU C (As := [.ref (w.2.1 + a), .ref (w.2.1 + (a + 919))]) ul_value uc_value ui_L us_value ud_value (by decide) rfl (c_L_value (w := w) (J := J) hI hF hs.hs hs.2.2.1) (Nat.le_of_ble_eq_true rfl) rfl (Nat.le_of_ble_eq_true rfl) ⟨by omega, by omega⟩ dL_law_394 (fun v τ hp => ?_)
  obtain ⟨x1, M1, J1, R1, rfl, hτ, hI1, e1, e0, e2⟩ := hp
  have hF1 : zF F R1 := e2.F hF (hs.2.2.2.2.2.2.2.2.1 _ _ (by omega)) (hs.2.2.2.2.2.2.2.2.1 _ _ (by omega))
  have h8 : R1 a 8 = R a 8 := e2.1 a 8 (by omega) (by omega)
  have hD : zVd a U F M1 R1 := hd.cl2 hs hI1 e1 (by decide) hF1
  have ec := hs.ec (e1.le (by decide))
  have c1 := e0
  have c2 := hs.kd e1 (by decide)
  obtain ⟨T2, hT, hs2, hy2⟩ : ∃ T2, τ = (T2, M1, J1, R1) ∧ zVs a T2 U F ∧ zVy a T2 U F R := hτ.elim (fun h => ⟨T, h, hs, hy⟩) (fun h => ⟨_, h, hs.ext, hy.ext⟩)
  subst hT
  refine jq_istore C [.ref sb, .ref (w.2.1 + a), .ref (w.2.1 + (a + 836)), .ref (w.2.1 + (a + 919)), zi i, zi x1, .null, .null] dL_law_397 (n := 399) rfl rfl rfl ?_
  refine jq_aload_n C dL_law_399 (n := 400) rfl rfl ?_
  refine jq_callVl C dL_law_400 (n := 403) rfl m_L_67 v_yX12_value (zM0 hs2.mo) ⟨by decide, rfl⟩ (c_X12_value (w := w) (J := J1) hD.1 hD.2.1 hs2.mo hD.2.2.2.2.2) (Nat.le_of_ble_eq_true rfl) rfl rfl (Nat.le_of_ble_eq_true rfl) ⟨by omega, by omega⟩ (fun x2 M2 J2 hI2 e2 => ?_)
  have lo := zTE.lo e2.1 rfl rfl
  have lo8 : ∀ c k, c < a + 836 → M2 c k = M1 c k := fun c k q => e2.1.reg (n := 83) rfl rfl (by decide) c k (Or.inl q)
  have mf2 : ∀ j, M2 (a + 836 + 2) j = M1 (a + 836 + 2) j := fun j => e2.1.getA rfl rfl rfl
  have mf3 : ∀ j, M2 (a + 836 + 3) j = M1 (a + 836 + 3) j := fun j => e2.1.getA rfl rfl rfl
  have mf4 : ∀ j, M2 (a + 836 + 4) j = M1 (a + 836 + 4) j := fun j => e2.1.getA rfl rfl rfl
  have mf5 : ∀ j, M2 (a + 836 + 5) j = M1 (a + 836 + 5) j := fun j => e2.1.getA rfl rfl rfl
  have mg13 : M2 (a + 836) 13 = M1 (a + 836) 13 := e2.1.getS rfl rfl
  have mg8 : ∀ j, M2 (a + 836 + 8) j = M1 (a + 836 + 8) j := fun j => e2.1.getA rfl rfl rfl
  have m1 := e2.2
  have m2 : ∀ j, M2 (a + 836 + 6) j = M1 (a + 836 + 6) j := fun j => e2.1.getA rfl rfl rfl
  have m3 : ∀ j, M2 (a + 836 + 1) j = M1 (a + 836 + 1) j := fun j => e2.1.getA rfl rfl rfl
  have hE : zVd a U F M2 R1 := hD.mod hI2 e2.1 rfl rfl (hD.2.2.2.1.cg (fun j => e2.1.getA rfl rfl rfl)) (hD.2.2.2.2.1.cg (fun j => e2.1.getA rfl rfl rfl)) (hD.2.2.2.2.2.cg (fun j => e2.1.getA rfl rfl rfl) (fun j => e2.1.getA rfl rfl rfl))
  refine jq_lstore C [.ref sb, .ref (w.2.1 + a), .ref (w.2.1 + (a + 836)), .ref (w.2.1 + (a + 919)), zi i, zi x1, .long x2, .null] dL_law_403 (n := 405) rfl rfl rfl ?_
  have t10 : zTF a M2 := hte.2.2.2.1.st (hs.rws e1 (by decide)) lo8 mf2 mf3
  have t11 : zTW a M2 := hte.2.2.2.2.1.st (hs.rws e1 (by decide)) lo8 mf2 mf3
  have t12 : zTB a M2 := hte.2.2.2.2.2.1.st (hs.rws e1 (by decide)).1 (Or.inr rfl) (hs.rws e1 (by decide)).2.2.2.1 (hs.rws e1 (by decide)).2.2.2.2 lo8 (fun j _ => mf4 j) mf5
  have nm9 : zNM a M2 := hte.2.2.2.2.2.2.2.cg (hs.gn e1 (by decide)) (hs.eg (e1.le (by decide))) lo8 ⟨mg13, mg8⟩
  have t13 : zTG a M2 := hte.2.2.2.2.2.2.st (hs.rws e1 (by decide)).1 (Or.inr rfl) lo8 nm9
  have te1 := hte.1
  have t9 : zTE a M2 := ⟨by have l1 := lo.1; have y0 := c1; have y1 := ec.1; omega, fun j j0 j1 => by
    have te2 := hte.2.1 j j0 j1
    have l2 := lo.2.1 j
    have n2 := m2 j
    have z0 := c2 j
    have z1 := ec.2.1 j
    omega, fun j j0 j1 => by
    have l1 := lo.1
    have l3 := lo.2.2 j
    have y0 := c1
    have y1 := ec.1
    have te3 := hte.2.2.1 j j0
    have n3 := m3 j
    have x5 := ec.2.2 j
    omega, t10, t11, t12, t13⟩
  refine jq_goto C 1021 dL_law_405 rfl ?_
  exact zJ.weak (kk T2 M2 J2 R1 (kc + 1) (nc + 6) ⟨(hk.R h8).up ⟨by omega, by omega⟩, t9, U, F, hs2, hy2.R h8, hE⟩) (zwk_c (zwk_c (zwk_c (zwk_c (zwk_c (zwk_n (zwk_n (zwk_n zwk_e))))))))
theorem lc_9 (C : zCx w p s m args meth c yL_law cL_law 8 (some .boolean)) (hS0 : zScr w s sb L xs) (hi : i = 6 * (it : Int)) (hL : i ≤ (L : Int) - 6) (hv : zLv a it kc nc T M R) (kk : ∀ (T2 : zTl) (M2 : zMm) (J2 : zJm) (R2 : zRm') (kc2 nc2 : Nat), zLv a (it + 1) kc2 nc2 T2 M2 R2 → zJ w p e 1312 601024 7293034 s m args below meth c 8 Q kc2 nc2 1021 [.ref sb, .ref (w.2.1 + a), .ref (w.2.1 + (a + 836)), .ref (w.2.1 + (a + 919)), zi i, .null, .null, .null] [] (T2, M2, J2, R2)) : zJ w p e 1312 601024 7293034 s m args below meth c 8 Q kc nc 408 [.ref sb, .ref (w.2.1 + a), .ref (w.2.1 + (a + 836)), .ref (w.2.1 + (a + 919)), zi i, .null, .null, .null] [] (T, M, J, R) := by
  obtain ⟨hk, hte, U, F, hs, hy, hd⟩ := hv
  have hI := hd.1
  have hF := hd.2.1
  have hci := hd.2.2.1
  have hL2 := hS0.2.2.2
  have hk1 := hk.1
  have hk2 := hk.2.1
  refine jq_aload_n C dL_law_408 (n := 409) rfl rfl ?_
  refine jq_aload_n C dL_law_409 (n := 410) rfl rfl ?_
  refine jq_iload C dL_law_410 (n := 412) rfl rfl ?_
  refine jq_iconst C dL_law_412 (n := 413) rfl ?_
  refine jq_iadd C dL_law_413 (n := 414) rfl (v := i + 1) rfl ?_
  refine j_sld C hS0 dL_law_414 (n := 415) rfl ⟨by omega, by omega⟩ ?_
  refine jq_aload_n C dL_law_415 (n := 416) rfl rfl ?_
  refine jq_iload C dL_law_416 (n := 418) rfl rfl ?_
  refine jq_iconst C dL_law_418 (n := 419) rfl ?_
  refine jq_iadd C dL_law_419 (n := 420) rfl (v := i + 2) rfl ?_
  refine j_sld C hS0 dL_law_420 (n := 421) rfl ⟨by omega, by omega⟩ ?_
  refine jq_aload_n C dL_law_421 (n := 422) rfl rfl ?_
  refine jr_callU C (As := [.ref (w.2.1 + a), zi (zsc xs (i + 1)), zi (zsc xs (i + 2)), .ref (w.2.1 + (a + 919))]) ul_token uc_token ui_L us_token ud_token (by decide) rfl (c_L_token (w := w) (J := J) hI hF hs.hs hs.2.2.1 (zsc xs (i + 1)) (zsc xs (i + 2)) (zsc_r xs _) (zsc_r xs _)) (Nat.le_of_ble_eq_true rfl) rfl (Nat.le_of_ble_eq_true rfl) ⟨by omega, by omega⟩ dL_law_422 (fun v τ hp => ?_)
  obtain ⟨x1, J1, rfl, hτ⟩ := hp
  obtain ⟨T2, hT, hs2, hy2⟩ : ∃ T2, τ = (T2, M, J1, R) ∧ zVs a T2 U F ∧ zVy a T2 U F R := hτ.elim (fun h => ⟨T, h, hs, hy⟩) (fun h => ⟨_, h, hs.ext, hy.ext⟩)
  subst hT
  refine jq_istore C [.ref sb, .ref (w.2.1 + a), .ref (w.2.1 + (a + 836)), .ref (w.2.1 + (a + 919)), zi i, zi x1, .null, .null] dL_law_425 (n := 427) rfl rfl rfl ?_
  refine jq_aload_n C dL_law_427 (n := 428) rfl rfl ?_
  refine jq_aload_n C dL_law_428 (n := 429) rfl rfl ?_
  refine jq_iload C dL_law_429 (n := 431) rfl rfl ?_
  refine jq_iconst C dL_law_431 (n := 432) rfl ?_
  refine jq_iadd C dL_law_432 (n := 433) rfl (v := i + 1) rfl ?_
  refine j_sld C hS0 dL_law_433 (n := 434) rfl ⟨by omega, by omega⟩ ?_
  refine jq_aload_n C dL_law_434 (n := 435) rfl rfl ?_
  refine jq_iload C dL_law_435 (n := 437) rfl rfl ?_
  refine jq_iconst C dL_law_437 (n := 438) rfl ?_
  refine jq_iadd C dL_law_438 (n := 439) rfl (v := i + 2) rfl ?_
  refine j_sld C hS0 dL_law_439 (n := 440) rfl ⟨by omega, by omega⟩ ?_
  refine jq_callVi C dL_law_440 (n := 443) rfl m_L_71 v_yX12_token (zM0 hs2.mo) ⟨by decide, rfl⟩ (c_X12_token (w := w) (J := J1) hd.1 hd.2.1 hs2.mo (zsc xs (i + 1)) (zsc xs (i + 2)) (zsc_r xs _) (zsc_r xs _)) (Nat.le_of_ble_eq_true rfl) rfl rfl (Nat.le_of_ble_eq_true rfl) ⟨by omega, by omega⟩ (fun x2 M2 J2 hI2 e2 => ?_)
  have lo := zTE.lo e2 rfl rfl
  have lo8 : ∀ c k, c < a + 836 → M2 c k = M c k := fun c k q => e2.reg (n := 83) rfl rfl (by decide) c k (Or.inl q)
  have mf2 : ∀ j, M2 (a + 836 + 2) j = M (a + 836 + 2) j := fun j => e2.getA rfl rfl rfl
  have mf3 : ∀ j, M2 (a + 836 + 3) j = M (a + 836 + 3) j := fun j => e2.getA rfl rfl rfl
  have mf4 : ∀ j, M2 (a + 836 + 4) j = M (a + 836 + 4) j := fun j => e2.getA rfl rfl rfl
  have mf5 : ∀ j, M2 (a + 836 + 5) j = M (a + 836 + 5) j := fun j => e2.getA rfl rfl rfl
  have mg13 : M2 (a + 836) 13 = M (a + 836) 13 := e2.getS rfl rfl
  have mg8 : ∀ j, M2 (a + 836 + 8) j = M (a + 836 + 8) j := fun j => e2.getA rfl rfl rfl
  have m1 : M2 (a + 836) 2 = M (a + 836) 2 := e2.getS rfl rfl
  have m2 : ∀ j, M2 (a + 836 + 6) j = M (a + 836 + 6) j := fun j => e2.getA rfl rfl rfl
  have m3 : ∀ j, M2 (a + 836 + 1) j = M (a + 836 + 1) j := fun j => e2.getA rfl rfl rfl
  have hE : zVd a U F M2 R := hd.mod hI2 e2 rfl rfl (hd.2.2.2.1.cg (fun j => e2.getA rfl rfl rfl)) (hd.2.2.2.2.1.cg (fun j => e2.getA rfl rfl rfl)) (hd.2.2.2.2.2.cg (fun j => e2.getA rfl rfl rfl) (fun j => e2.getA rfl rfl rfl))
  refine jq_istore C [.ref sb, .ref (w.2.1 + a), .ref (w.2.1 + (a + 836)), .ref (w.2.1 + (a + 919)), zi i, zi x1, zi x2, .null] dL_law_443 (n := 445) rfl rfl rfl ?_
  have t10 : zTF a M2 := hte.2.2.2.1.st zRw.rf lo8 mf2 mf3
  have t11 : zTW a M2 := hte.2.2.2.2.1.st zRw.rf lo8 mf2 mf3
  have t12 : zTB a M2 := hte.2.2.2.2.2.1.st zRw.rf.1 (Or.inr rfl) zRw.rf.2.2.2.1 zRw.rf.2.2.2.2 lo8 (fun j _ => mf4 j) mf5
  have nm9 : zNM a M2 := hte.2.2.2.2.2.2.2.cg ⟨rfl, fun _ => rfl⟩ ⟨rfl, fun _ => rfl⟩ lo8 ⟨mg13, mg8⟩
  have t13 : zTG a M2 := hte.2.2.2.2.2.2.st zRw.rf.1 (Or.inr rfl) lo8 nm9
  have te1 := hte.1
  have t9 : zTE a M2 := ⟨by have l1 := lo.1; omega, fun j j0 j1 => by
    have te2 := hte.2.1 j j0 j1
    have l2 := lo.2.1 j
    have n2 := m2 j
    omega, fun j j0 j1 => by
    have l1 := lo.1
    have l3 := lo.2.2 j
    have te3 := hte.2.2.1 j j0
    have n3 := m3 j
    omega, t10, t11, t12, t13⟩
  refine jq_goto C 1021 dL_law_445 rfl ?_
  exact zJ.weak (kk T2 M2 J2 R (kc + 1) (nc + 6) ⟨(hk.R rfl).up ⟨by omega, by omega⟩, t9, U, F, hs2, hy2.R rfl, hE⟩) (zwk_c (zwk_c (zwk_c (zwk_c (zwk_c (zwk_n (zwk_n (zwk_n zwk_e))))))))
theorem lc_10 (C : zCx w p s m args meth c yL_law cL_law 8 (some .boolean)) (hS0 : zScr w s sb L xs) (hi : i = 6 * (it : Int)) (hL : i ≤ (L : Int) - 6) (hv : zLv a it kc nc T M R) (kk : ∀ (T2 : zTl) (M2 : zMm) (J2 : zJm) (R2 : zRm') (kc2 nc2 : Nat), zLv a (it + 1) kc2 nc2 T2 M2 R2 → zJ w p e 1312 601024 7293034 s m args below meth c 8 Q kc2 nc2 1021 [.ref sb, .ref (w.2.1 + a), .ref (w.2.1 + (a + 836)), .ref (w.2.1 + (a + 919)), zi i, .null, .null, .null] [] (T2, M2, J2, R2)) : zJ w p e 1312 601024 7293034 s m args below meth c 8 Q kc nc 448 [.ref sb, .ref (w.2.1 + a), .ref (w.2.1 + (a + 836)), .ref (w.2.1 + (a + 919)), zi i, .null, .null, .null] [] (T, M, J, R) := by
  obtain ⟨hk, hte, U, F, hs, hy, hd⟩ := hv
  have hI := hd.1
  have hF := hd.2.1
  have hci := hd.2.2.1
  have hL2 := hS0.2.2.2
  have hk1 := hk.1
  have hk2 := hk.2.1
  refine jq_aload_n C dL_law_448 (n := 449) rfl rfl ?_
  refine jq_aload_n C dL_law_449 (n := 450) rfl rfl ?_
  refine jq_iload C dL_law_450 (n := 452) rfl rfl ?_
  refine jq_iconst C dL_law_452 (n := 453) rfl ?_
  refine jq_iadd C dL_law_453 (n := 454) rfl (v := i + 1) rfl ?_
  refine j_sld C hS0 dL_law_454 (n := 455) rfl ⟨by omega, by omega⟩ ?_
  refine jq_aload_n C dL_law_455 (n := 456) rfl rfl ?_
  refine jq_iload C dL_law_456 (n := 458) rfl rfl ?_
  refine jq_iconst C dL_law_458 (n := 459) rfl ?_
  refine jq_iadd C dL_law_459 (n := 460) rfl (v := i + 2) rfl ?_
  refine j_sld C hS0 dL_law_460 (n := 461) rfl ⟨by omega, by omega⟩ ?_
  refine jq_callVp C dL_law_461 (n := 464) rfl m_L_72 v_yX11_tokenAt hs.hs.1 ⟨by decide, rfl⟩ (c_X11_tokenAt (w := w) (J := J) hI hF hs.hs (zsc xs (i + 1)) (zsc xs (i + 2)) (zsc_r xs _) (zsc_r xs _)) (Nat.le_of_ble_eq_true rfl) rfl rfl (Nat.le_of_ble_eq_true rfl) ⟨by omega, by omega⟩ (fun x1 e1 => ?_)
  refine jq_pop C dL_law_464 (n := 465) rfl rfl ?_
  refine jq_aload_n C dL_law_465 (n := 466) rfl rfl ?_
  refine jq_aload_n C dL_law_466 (n := 467) rfl rfl ?_
  refine jq_iload C dL_law_467 (n := 469) rfl rfl ?_
  refine jq_iconst C dL_law_469 (n := 470) rfl ?_
  refine jq_iadd C dL_law_470 (n := 471) rfl (v := i + 1) rfl ?_
  refine j_sld C hS0 dL_law_471 (n := 472) rfl ⟨by omega, by omega⟩ ?_
  refine jq_aload_n C dL_law_472 (n := 473) rfl rfl ?_
  refine jq_iload C dL_law_473 (n := 475) rfl rfl ?_
  refine jq_iconst C dL_law_475 (n := 476) rfl ?_
  refine jq_iadd C dL_law_476 (n := 477) rfl (v := i + 2) rfl ?_
  refine j_sld C hS0 dL_law_477 (n := 478) rfl ⟨by omega, by omega⟩ ?_
  refine jq_callVi C dL_law_478 (n := 481) rfl m_L_75 v_yX12_tokenAt (zM0 hs.mo) ⟨by decide, rfl⟩ (c_X12_tokenAt (w := w) (J := J) hd.1 hd.2.1 hs.mo (zsc xs (i + 1)) (zsc xs (i + 2)) (zsc_r xs _) (zsc_r xs _)) (Nat.le_of_ble_eq_true rfl) rfl rfl (Nat.le_of_ble_eq_true rfl) ⟨by omega, by omega⟩ (fun x2 M2 J2 hI2 e2 => ?_)
  have lo := zTE.lo e2 rfl rfl
  have lo8 : ∀ c k, c < a + 836 → M2 c k = M c k := fun c k q => e2.reg (n := 83) rfl rfl (by decide) c k (Or.inl q)
  have mf2 : ∀ j, M2 (a + 836 + 2) j = M (a + 836 + 2) j := fun j => e2.getA rfl rfl rfl
  have mf3 : ∀ j, M2 (a + 836 + 3) j = M (a + 836 + 3) j := fun j => e2.getA rfl rfl rfl
  have mf4 : ∀ j, M2 (a + 836 + 4) j = M (a + 836 + 4) j := fun j => e2.getA rfl rfl rfl
  have mf5 : ∀ j, M2 (a + 836 + 5) j = M (a + 836 + 5) j := fun j => e2.getA rfl rfl rfl
  have mg13 : M2 (a + 836) 13 = M (a + 836) 13 := e2.getS rfl rfl
  have mg8 : ∀ j, M2 (a + 836 + 8) j = M (a + 836 + 8) j := fun j => e2.getA rfl rfl rfl
  have m1 : M2 (a + 836) 2 = M (a + 836) 2 := e2.getS rfl rfl
  have m2 : ∀ j, M2 (a + 836 + 6) j = M (a + 836 + 6) j := fun j => e2.getA rfl rfl rfl
  have m3 : ∀ j, M2 (a + 836 + 1) j = M (a + 836 + 1) j := fun j => e2.getA rfl rfl rfl
  have hE : zVd a U F M2 R := hd.mod hI2 e2 rfl rfl (hd.2.2.2.1.cg (fun j => e2.getA rfl rfl rfl)) (hd.2.2.2.2.1.cg (fun j => e2.getA rfl rfl rfl)) (hd.2.2.2.2.2.cg (fun j => e2.getA rfl rfl rfl) (fun j => e2.getA rfl rfl rfl))
  refine jq_pop C dL_law_481 (n := 482) rfl rfl ?_
  have r_0 := zsc_r xs (i + 1)
  have r_1 := zsc_r xs (i + 2)
  have t10 : zTF a M2 := hte.2.2.2.1.st zRw.rf lo8 mf2 mf3
  have t11 : zTW a M2 := hte.2.2.2.2.1.st zRw.rf lo8 mf2 mf3
  have t12 : zTB a M2 := hte.2.2.2.2.2.1.st zRw.rf.1 (Or.inr rfl) zRw.rf.2.2.2.1 zRw.rf.2.2.2.2 lo8 (fun j _ => mf4 j) mf5
  have nm9 : zNM a M2 := hte.2.2.2.2.2.2.2.cg ⟨rfl, fun _ => rfl⟩ ⟨rfl, fun _ => rfl⟩ lo8 ⟨mg13, mg8⟩
  have t13 : zTG a M2 := hte.2.2.2.2.2.2.st zRw.rf.1 (Or.inr rfl) lo8 nm9
  have te1 := hte.1
  have t9 : zTE a M2 := ⟨by have l1 := lo.1; omega, fun j j0 j1 => by
    have te2 := hte.2.1 j j0 j1
    have l2 := lo.2.1 j
    have n2 := m2 j
    omega, fun j j0 j1 => by
    have l1 := lo.1
    have l3 := lo.2.2 j
    have te3 := hte.2.2.1 j j0
    have n3 := m3 j
    omega, t10, t11, t12, t13⟩
  refine jq_goto C 1021 dL_law_482 rfl ?_
  exact kk T M2 J2 R kc nc ⟨hk.up ⟨by omega, by omega⟩, t9, U, F, hs, hy, hE⟩
theorem lc_11 (C : zCx w p s m args meth c yL_law cL_law 8 (some .boolean)) (hS0 : zScr w s sb L xs) (hi : i = 6 * (it : Int)) (hL : i ≤ (L : Int) - 6) (hv : zLv a it kc nc T M R) (kk : ∀ (T2 : zTl) (M2 : zMm) (J2 : zJm) (R2 : zRm') (kc2 nc2 : Nat), zLv a (it + 1) kc2 nc2 T2 M2 R2 → zJ w p e 1312 601024 7293034 s m args below meth c 8 Q kc2 nc2 1021 [.ref sb, .ref (w.2.1 + a), .ref (w.2.1 + (a + 836)), .ref (w.2.1 + (a + 919)), zi i, .null, .null, .null] [] (T2, M2, J2, R2)) : zJ w p e 1312 601024 7293034 s m args below meth c 8 Q kc nc 485 [.ref sb, .ref (w.2.1 + a), .ref (w.2.1 + (a + 836)), .ref (w.2.1 + (a + 919)), zi i, .null, .null, .null] [] (T, M, J, R) := by
  obtain ⟨hk, hte, U, F, hs, hy, hd⟩ := hv
  have hI := hd.1
  have hF := hd.2.1
  have hci := hd.2.2.1
  have hL2 := hS0.2.2.2
  have hk1 := hk.1
  have hk2 := hk.2.1
  refine jq_aload_n C dL_law_485 (n := 486) rfl rfl ?_
  refine jq_aload_n C dL_law_486 (n := 487) rfl rfl ?_
  refine jq_iload C dL_law_487 (n := 489) rfl rfl ?_
  refine jq_iconst C dL_law_489 (n := 490) rfl ?_
  refine jq_iadd C dL_law_490 (n := 491) rfl (v := i + 1) rfl ?_
  refine j_sld C hS0 dL_law_491 (n := 492) rfl ⟨by omega, by omega⟩ ?_
  refine jq_aload_n C dL_law_492 (n := 493) rfl rfl ?_
  refine jq_iload C dL_law_493 (n := 495) rfl rfl ?_
  refine jq_iconst C dL_law_495 (n := 496) rfl ?_
  refine jq_iadd C dL_law_496 (n := 497) rfl (v := i + 2) rfl ?_
  refine j_sld C hS0 dL_law_497 (n := 498) rfl ⟨by omega, by omega⟩ ?_
  refine jq_aload_n C dL_law_498 (n := 499) rfl rfl ?_
  refine jr_callU C (As := [.ref (w.2.1 + a), zi (zsc xs (i + 1)), zi (zsc xs (i + 2)), .ref (w.2.1 + (a + 919))]) ul_macro uc_macro ui_L us_macro ud_macro (by decide) rfl (c_L_macro (w := w) (J := J) hI hF hs.hs hs.2.2.1 (zsc xs (i + 1)) (zsc xs (i + 2)) (zsc_r xs _) (zsc_r xs _)) (Nat.le_of_ble_eq_true rfl) rfl (Nat.le_of_ble_eq_true rfl) ⟨by omega, by omega⟩ dL_law_499 (fun v τ hp => ?_)
  obtain ⟨x1, J1, rfl, hτ⟩ := hp
  obtain ⟨T2, hT, hs2, hy2⟩ : ∃ T2, τ = (T2, M, J1, R) ∧ zVs a T2 U F ∧ zVy a T2 U F R := hτ.elim (fun h => ⟨T, h, hs, hy⟩) (fun h => ⟨_, h, hs.ext, hy.ext⟩)
  subst hT
  refine jq_istore C [.ref sb, .ref (w.2.1 + a), .ref (w.2.1 + (a + 836)), .ref (w.2.1 + (a + 919)), zi i, zi x1, .null, .null] dL_law_502 (n := 504) rfl rfl rfl ?_
  refine jq_aload_n C dL_law_504 (n := 505) rfl rfl ?_
  refine jq_aload_n C dL_law_505 (n := 506) rfl rfl ?_
  refine jq_iload C dL_law_506 (n := 508) rfl rfl ?_
  refine jq_iconst C dL_law_508 (n := 509) rfl ?_
  refine jq_iadd C dL_law_509 (n := 510) rfl (v := i + 1) rfl ?_
  refine j_sld C hS0 dL_law_510 (n := 511) rfl ⟨by omega, by omega⟩ ?_
  refine jq_aload_n C dL_law_511 (n := 512) rfl rfl ?_
  refine jq_iload C dL_law_512 (n := 514) rfl rfl ?_
  refine jq_iconst C dL_law_514 (n := 515) rfl ?_
  refine jq_iadd C dL_law_515 (n := 516) rfl (v := i + 2) rfl ?_
  refine j_sld C hS0 dL_law_516 (n := 517) rfl ⟨by omega, by omega⟩ ?_
  refine jq_callVi C dL_law_517 (n := 520) rfl m_L_78 v_yX12_macro (zM0 hs2.mo) ⟨by decide, rfl⟩ (c_X12_macro (w := w) (J := J1) hd.1 hd.2.1 hs2.mo (zsc xs (i + 1)) (zsc xs (i + 2)) (zsc_r xs _) (zsc_r xs _)) (Nat.le_of_ble_eq_true rfl) rfl rfl (Nat.le_of_ble_eq_true rfl) ⟨by omega, by omega⟩ (fun x2 M2 J2 hI2 e2 => ?_)
  have lo := zTE.lo e2 rfl rfl
  have lo8 : ∀ c k, c < a + 836 → M2 c k = M c k := fun c k q => e2.reg (n := 83) rfl rfl (by decide) c k (Or.inl q)
  have mf2 : ∀ j, M2 (a + 836 + 2) j = M (a + 836 + 2) j := fun j => e2.getA rfl rfl rfl
  have mf3 : ∀ j, M2 (a + 836 + 3) j = M (a + 836 + 3) j := fun j => e2.getA rfl rfl rfl
  have mf4 : ∀ j, M2 (a + 836 + 4) j = M (a + 836 + 4) j := fun j => e2.getA rfl rfl rfl
  have mf5 : ∀ j, M2 (a + 836 + 5) j = M (a + 836 + 5) j := fun j => e2.getA rfl rfl rfl
  have mg13 : M2 (a + 836) 13 = M (a + 836) 13 := e2.getS rfl rfl
  have mg8 : ∀ j, M2 (a + 836 + 8) j = M (a + 836 + 8) j := fun j => e2.getA rfl rfl rfl
  have m1 : M2 (a + 836) 2 = M (a + 836) 2 := e2.getS rfl rfl
  have m2 : ∀ j, M2 (a + 836 + 6) j = M (a + 836 + 6) j := fun j => e2.getA rfl rfl rfl
  have m3 : ∀ j, M2 (a + 836 + 1) j = M (a + 836 + 1) j := fun j => e2.getA rfl rfl rfl
  have hE : zVd a U F M2 R := hd.mod hI2 e2 rfl rfl (hd.2.2.2.1.cg (fun j => e2.getA rfl rfl rfl)) (hd.2.2.2.2.1.cg (fun j => e2.getA rfl rfl rfl)) (hd.2.2.2.2.2.cg (fun j => e2.getA rfl rfl rfl) (fun j => e2.getA rfl rfl rfl))
  refine jq_istore C [.ref sb, .ref (w.2.1 + a), .ref (w.2.1 + (a + 836)), .ref (w.2.1 + (a + 919)), zi i, zi x1, zi x2, .null] dL_law_520 (n := 522) rfl rfl rfl ?_
  have t10 : zTF a M2 := hte.2.2.2.1.st zRw.rf lo8 mf2 mf3
  have t11 : zTW a M2 := hte.2.2.2.2.1.st zRw.rf lo8 mf2 mf3
  have t12 : zTB a M2 := hte.2.2.2.2.2.1.st zRw.rf.1 (Or.inr rfl) zRw.rf.2.2.2.1 zRw.rf.2.2.2.2 lo8 (fun j _ => mf4 j) mf5
  have nm9 : zNM a M2 := hte.2.2.2.2.2.2.2.cg ⟨rfl, fun _ => rfl⟩ ⟨rfl, fun _ => rfl⟩ lo8 ⟨mg13, mg8⟩
  have t13 : zTG a M2 := hte.2.2.2.2.2.2.st zRw.rf.1 (Or.inr rfl) lo8 nm9
  have te1 := hte.1
  have t9 : zTE a M2 := ⟨by have l1 := lo.1; omega, fun j j0 j1 => by
    have te2 := hte.2.1 j j0 j1
    have l2 := lo.2.1 j
    have n2 := m2 j
    omega, fun j j0 j1 => by
    have l1 := lo.1
    have l3 := lo.2.2 j
    have te3 := hte.2.2.1 j j0
    have n3 := m3 j
    omega, t10, t11, t12, t13⟩
  refine jq_goto C 1021 dL_law_522 rfl ?_
  exact zJ.weak (kk T2 M2 J2 R (kc + 1) (nc + 6) ⟨(hk.R rfl).up ⟨by omega, by omega⟩, t9, U, F, hs2, hy2.R rfl, hE⟩) (zwk_c (zwk_c (zwk_c (zwk_c (zwk_c (zwk_n (zwk_n (zwk_n zwk_e))))))))
theorem lc_12 (C : zCx w p s m args meth c yL_law cL_law 8 (some .boolean)) (hS0 : zScr w s sb L xs) (hi : i = 6 * (it : Int)) (hL : i ≤ (L : Int) - 6) (hv : zLv a it kc nc T M R) (kk : ∀ (T2 : zTl) (M2 : zMm) (J2 : zJm) (R2 : zRm') (kc2 nc2 : Nat), zLv a (it + 1) kc2 nc2 T2 M2 R2 → zJ w p e 1312 601024 7293034 s m args below meth c 8 Q kc2 nc2 1021 [.ref sb, .ref (w.2.1 + a), .ref (w.2.1 + (a + 836)), .ref (w.2.1 + (a + 919)), zi i, .null, .null, .null] [] (T2, M2, J2, R2)) : zJ w p e 1312 601024 7293034 s m args below meth c 8 Q kc nc 525 [.ref sb, .ref (w.2.1 + a), .ref (w.2.1 + (a + 836)), .ref (w.2.1 + (a + 919)), zi i, .null, .null, .null] [] (T, M, J, R) := by
  obtain ⟨hk, hte, U, F, hs, hy, hd⟩ := hv
  have hI := hd.1
  have hF := hd.2.1
  have hci := hd.2.2.1
  have hL2 := hS0.2.2.2
  have hk1 := hk.1
  have hk2 := hk.2.1
  refine jq_aload_n C dL_law_525 (n := 526) rfl rfl ?_
  refine jq_aload_n C dL_law_526 (n := 527) rfl rfl ?_
  refine jq_iload C dL_law_527 (n := 529) rfl rfl ?_
  refine jq_iconst C dL_law_529 (n := 530) rfl ?_
  refine jq_iadd C dL_law_530 (n := 531) rfl (v := i + 1) rfl ?_
  refine j_sld C hS0 dL_law_531 (n := 532) rfl ⟨by omega, by omega⟩ ?_
  refine jq_aload_n C dL_law_532 (n := 533) rfl rfl ?_
  refine jq_iload C dL_law_533 (n := 535) rfl rfl ?_
  refine jq_iconst C dL_law_535 (n := 536) rfl ?_
  refine jq_iadd C dL_law_536 (n := 537) rfl (v := i + 2) rfl ?_
  refine j_sld C hS0 dL_law_537 (n := 538) rfl ⟨by omega, by omega⟩ ?_
  refine jq_callVp C dL_law_538 (n := 541) rfl m_L_79 v_yX11_macroAt hs.hs.1 ⟨by decide, rfl⟩ (c_X11_macroAt (w := w) (J := J) hI hF hs.hs (zsc xs (i + 1)) (zsc xs (i + 2)) (zsc_r xs _) (zsc_r xs _)) (Nat.le_of_ble_eq_true rfl) rfl rfl (Nat.le_of_ble_eq_true rfl) ⟨by omega, by omega⟩ (fun x1 e1 => ?_)
  refine jq_pop C dL_law_541 (n := 542) rfl rfl ?_
  refine jq_aload_n C dL_law_542 (n := 543) rfl rfl ?_
  refine jq_aload_n C dL_law_543 (n := 544) rfl rfl ?_
  refine jq_iload C dL_law_544 (n := 546) rfl rfl ?_
  refine jq_iconst C dL_law_546 (n := 547) rfl ?_
  refine jq_iadd C dL_law_547 (n := 548) rfl (v := i + 1) rfl ?_
  refine j_sld C hS0 dL_law_548 (n := 549) rfl ⟨by omega, by omega⟩ ?_
  refine jq_aload_n C dL_law_549 (n := 550) rfl rfl ?_
  refine jq_iload C dL_law_550 (n := 552) rfl rfl ?_
  refine jq_iconst C dL_law_552 (n := 553) rfl ?_
  refine jq_iadd C dL_law_553 (n := 554) rfl (v := i + 2) rfl ?_
  refine j_sld C hS0 dL_law_554 (n := 555) rfl ⟨by omega, by omega⟩ ?_
  refine jq_callVi C dL_law_555 (n := 558) rfl m_L_82 v_yX12_macroAt (zM0 hs.mo) ⟨by decide, rfl⟩ (c_X12_macroAt (w := w) (J := J) hd.1 hd.2.1 hs.mo (zsc xs (i + 1)) (zsc xs (i + 2)) (zsc_r xs _) (zsc_r xs _)) (Nat.le_of_ble_eq_true rfl) rfl rfl (Nat.le_of_ble_eq_true rfl) ⟨by omega, by omega⟩ (fun x2 M2 J2 hI2 e2 => ?_)
  have lo := zTE.lo e2 rfl rfl
  have lo8 : ∀ c k, c < a + 836 → M2 c k = M c k := fun c k q => e2.reg (n := 83) rfl rfl (by decide) c k (Or.inl q)
  have mf2 : ∀ j, M2 (a + 836 + 2) j = M (a + 836 + 2) j := fun j => e2.getA rfl rfl rfl
  have mf3 : ∀ j, M2 (a + 836 + 3) j = M (a + 836 + 3) j := fun j => e2.getA rfl rfl rfl
  have mf4 : ∀ j, M2 (a + 836 + 4) j = M (a + 836 + 4) j := fun j => e2.getA rfl rfl rfl
  have mf5 : ∀ j, M2 (a + 836 + 5) j = M (a + 836 + 5) j := fun j => e2.getA rfl rfl rfl
  have mg13 : M2 (a + 836) 13 = M (a + 836) 13 := e2.getS rfl rfl
  have mg8 : ∀ j, M2 (a + 836 + 8) j = M (a + 836 + 8) j := fun j => e2.getA rfl rfl rfl
  have m1 : M2 (a + 836) 2 = M (a + 836) 2 := e2.getS rfl rfl
  have m2 : ∀ j, M2 (a + 836 + 6) j = M (a + 836 + 6) j := fun j => e2.getA rfl rfl rfl
  have m3 : ∀ j, M2 (a + 836 + 1) j = M (a + 836 + 1) j := fun j => e2.getA rfl rfl rfl
  have hE : zVd a U F M2 R := hd.mod hI2 e2 rfl rfl (hd.2.2.2.1.cg (fun j => e2.getA rfl rfl rfl)) (hd.2.2.2.2.1.cg (fun j => e2.getA rfl rfl rfl)) (hd.2.2.2.2.2.cg (fun j => e2.getA rfl rfl rfl) (fun j => e2.getA rfl rfl rfl))
  refine jq_pop C dL_law_558 (n := 559) rfl rfl ?_
  have r_0 := zsc_r xs (i + 1)
  have r_1 := zsc_r xs (i + 2)
  have t10 : zTF a M2 := hte.2.2.2.1.st zRw.rf lo8 mf2 mf3
  have t11 : zTW a M2 := hte.2.2.2.2.1.st zRw.rf lo8 mf2 mf3
  have t12 : zTB a M2 := hte.2.2.2.2.2.1.st zRw.rf.1 (Or.inr rfl) zRw.rf.2.2.2.1 zRw.rf.2.2.2.2 lo8 (fun j _ => mf4 j) mf5
  have nm9 : zNM a M2 := hte.2.2.2.2.2.2.2.cg ⟨rfl, fun _ => rfl⟩ ⟨rfl, fun _ => rfl⟩ lo8 ⟨mg13, mg8⟩
  have t13 : zTG a M2 := hte.2.2.2.2.2.2.st zRw.rf.1 (Or.inr rfl) lo8 nm9
  have te1 := hte.1
  have t9 : zTE a M2 := ⟨by have l1 := lo.1; omega, fun j j0 j1 => by
    have te2 := hte.2.1 j j0 j1
    have l2 := lo.2.1 j
    have n2 := m2 j
    omega, fun j j0 j1 => by
    have l1 := lo.1
    have l3 := lo.2.2 j
    have te3 := hte.2.2.1 j j0
    have n3 := m3 j
    omega, t10, t11, t12, t13⟩
  refine jq_goto C 1021 dL_law_559 rfl ?_
  exact kk T M2 J2 R kc nc ⟨hk.up ⟨by omega, by omega⟩, t9, U, F, hs, hy, hE⟩
theorem lc_13 (C : zCx w p s m args meth c yL_law cL_law 8 (some .boolean)) (hS0 : zScr w s sb L xs) (hi : i = 6 * (it : Int)) (hL : i ≤ (L : Int) - 6) (hv : zLv a it kc nc T M R) (kk : ∀ (T2 : zTl) (M2 : zMm) (J2 : zJm) (R2 : zRm') (kc2 nc2 : Nat), zLv a (it + 1) kc2 nc2 T2 M2 R2 → zJ w p e 1312 601024 7293034 s m args below meth c 8 Q kc2 nc2 1021 [.ref sb, .ref (w.2.1 + a), .ref (w.2.1 + (a + 836)), .ref (w.2.1 + (a + 919)), zi i, .null, .null, .null] [] (T2, M2, J2, R2)) : zJ w p e 1312 601024 7293034 s m args below meth c 8 Q kc nc 562 [.ref sb, .ref (w.2.1 + a), .ref (w.2.1 + (a + 836)), .ref (w.2.1 + (a + 919)), zi i, .null, .null, .null] [] (T, M, J, R) := by
  obtain ⟨hk, hte, U, F, hs, hy, hd⟩ := hv
  have hI := hd.1
  have hF := hd.2.1
  have hci := hd.2.2.1
  have hL2 := hS0.2.2.2
  have hk1 := hk.1
  have hk2 := hk.2.1
  refine jq_aload_n C dL_law_562 (n := 563) rfl rfl ?_
  refine jq_aload_n C dL_law_563 (n := 564) rfl rfl ?_
  refine jq_iload C dL_law_564 (n := 566) rfl rfl ?_
  refine jq_iconst C dL_law_566 (n := 567) rfl ?_
  refine jq_iadd C dL_law_567 (n := 568) rfl (v := i + 1) rfl ?_
  refine j_sld C hS0 dL_law_568 (n := 569) rfl ⟨by omega, by omega⟩ ?_
  refine jq_callVp C dL_law_569 (n := 572) rfl m_L_83 v_yX11_now hs.hs.1 ⟨by decide, rfl⟩ (c_X11_now (w := w) (J := J) hI hF hs.hs (zsc xs (i + 1)) (zsc_r xs _)) (Nat.le_of_ble_eq_true rfl) rfl rfl (Nat.le_of_ble_eq_true rfl) ⟨by omega, by omega⟩ (fun x1 e1 => ?_)
  refine jq_pop C dL_law_572 (n := 573) rfl rfl ?_
  refine jq_aload_n C dL_law_573 (n := 574) rfl rfl ?_
  refine jq_aload_n C dL_law_574 (n := 575) rfl rfl ?_
  refine jq_iload C dL_law_575 (n := 577) rfl rfl ?_
  refine jq_iconst C dL_law_577 (n := 578) rfl ?_
  refine jq_iadd C dL_law_578 (n := 579) rfl (v := i + 1) rfl ?_
  refine j_sld C hS0 dL_law_579 (n := 580) rfl ⟨by omega, by omega⟩ ?_
  refine jq_callVi C dL_law_580 (n := 583) rfl m_L_86 v_yX12_now (zM0 hs.mo) ⟨by decide, rfl⟩ (c_X12_now (w := w) (J := J) hd.1 hd.2.1 hs.mo (zsc xs (i + 1)) (zsc_r xs _)) (Nat.le_of_ble_eq_true rfl) rfl rfl (Nat.le_of_ble_eq_true rfl) ⟨by omega, by omega⟩ (fun x2 M2 J2 hI2 e2 => ?_)
  have lo := zTE.lo e2 rfl rfl
  have lo8 : ∀ c k, c < a + 836 → M2 c k = M c k := fun c k q => e2.reg (n := 83) rfl rfl (by decide) c k (Or.inl q)
  have mf2 : ∀ j, M2 (a + 836 + 2) j = M (a + 836 + 2) j := fun j => e2.getA rfl rfl rfl
  have mf3 : ∀ j, M2 (a + 836 + 3) j = M (a + 836 + 3) j := fun j => e2.getA rfl rfl rfl
  have mf4 : ∀ j, M2 (a + 836 + 4) j = M (a + 836 + 4) j := fun j => e2.getA rfl rfl rfl
  have mf5 : ∀ j, M2 (a + 836 + 5) j = M (a + 836 + 5) j := fun j => e2.getA rfl rfl rfl
  have mg13 : M2 (a + 836) 13 = M (a + 836) 13 := e2.getS rfl rfl
  have mg8 : ∀ j, M2 (a + 836 + 8) j = M (a + 836 + 8) j := fun j => e2.getA rfl rfl rfl
  have m1 : M2 (a + 836) 2 = M (a + 836) 2 := e2.getS rfl rfl
  have m2 : ∀ j, M2 (a + 836 + 6) j = M (a + 836 + 6) j := fun j => e2.getA rfl rfl rfl
  have m3 : ∀ j, M2 (a + 836 + 1) j = M (a + 836 + 1) j := fun j => e2.getA rfl rfl rfl
  have hE : zVd a U F M2 R := hd.mod hI2 e2 rfl rfl (hd.2.2.2.1.cg (fun j => e2.getA rfl rfl rfl)) (hd.2.2.2.2.1.cg (fun j => e2.getA rfl rfl rfl)) (hd.2.2.2.2.2.cg (fun j => e2.getA rfl rfl rfl) (fun j => e2.getA rfl rfl rfl))
  refine jq_pop C dL_law_583 (n := 584) rfl rfl ?_
  have r_0 := zsc_r xs (i + 1)
  have t10 : zTF a M2 := hte.2.2.2.1.st zRw.rf lo8 mf2 mf3
  have t11 : zTW a M2 := hte.2.2.2.2.1.st zRw.rf lo8 mf2 mf3
  have t12 : zTB a M2 := hte.2.2.2.2.2.1.st zRw.rf.1 (Or.inr rfl) zRw.rf.2.2.2.1 zRw.rf.2.2.2.2 lo8 (fun j _ => mf4 j) mf5
  have nm9 : zNM a M2 := hte.2.2.2.2.2.2.2.cg ⟨rfl, fun _ => rfl⟩ ⟨rfl, fun _ => rfl⟩ lo8 ⟨mg13, mg8⟩
  have t13 : zTG a M2 := hte.2.2.2.2.2.2.st zRw.rf.1 (Or.inr rfl) lo8 nm9
  have te1 := hte.1
  have t9 : zTE a M2 := ⟨by have l1 := lo.1; omega, fun j j0 j1 => by
    have te2 := hte.2.1 j j0 j1
    have l2 := lo.2.1 j
    have n2 := m2 j
    omega, fun j j0 j1 => by
    have l1 := lo.1
    have l3 := lo.2.2 j
    have te3 := hte.2.2.1 j j0
    have n3 := m3 j
    omega, t10, t11, t12, t13⟩
  refine jq_goto C 1021 dL_law_584 rfl ?_
  exact kk T M2 J2 R kc nc ⟨hk.up ⟨by omega, by omega⟩, t9, U, F, hs, hy, hE⟩
theorem lc_14 (C : zCx w p s m args meth c yL_law cL_law 8 (some .boolean)) (hS0 : zScr w s sb L xs) (hi : i = 6 * (it : Int)) (hL : i ≤ (L : Int) - 6) (hv : zLv a it kc nc T M R) (kk : ∀ (T2 : zTl) (M2 : zMm) (J2 : zJm) (R2 : zRm') (kc2 nc2 : Nat), zLv a (it + 1) kc2 nc2 T2 M2 R2 → zJ w p e 1312 601024 7293034 s m args below meth c 8 Q kc2 nc2 1021 [.ref sb, .ref (w.2.1 + a), .ref (w.2.1 + (a + 836)), .ref (w.2.1 + (a + 919)), zi i, .null, .null, .null] [] (T2, M2, J2, R2)) : zJ w p e 1312 601024 7293034 s m args below meth c 8 Q kc nc 587 [.ref sb, .ref (w.2.1 + a), .ref (w.2.1 + (a + 836)), .ref (w.2.1 + (a + 919)), zi i, .null, .null, .null] [] (T, M, J, R) := by
  obtain ⟨hk, hte, U, F, hs, hy, hd⟩ := hv
  have hI := hd.1
  have hF := hd.2.1
  have hci := hd.2.2.1
  have hL2 := hS0.2.2.2
  have hk1 := hk.1
  have hk2 := hk.2.1
  refine jq_aload_n C dL_law_587 (n := 588) rfl rfl ?_
  refine jq_aload_n C dL_law_588 (n := 589) rfl rfl ?_
  refine jq_iload C dL_law_589 (n := 591) rfl rfl ?_
  refine jq_iconst C dL_law_591 (n := 592) rfl ?_
  refine jq_iadd C dL_law_592 (n := 593) rfl (v := i + 1) rfl ?_
  refine j_sld C hS0 dL_law_593 (n := 594) rfl ⟨by omega, by omega⟩ ?_
  refine jq_aload_n C dL_law_594 (n := 595) rfl rfl ?_
  refine jq_iload C dL_law_595 (n := 597) rfl rfl ?_
  refine jq_iconst C dL_law_597 (n := 598) rfl ?_
  refine jq_iadd C dL_law_598 (n := 599) rfl (v := i + 2) rfl ?_
  refine j_sld C hS0 dL_law_599 (n := 600) rfl ⟨by omega, by omega⟩ ?_
  refine jq_callVp C dL_law_600 (n := 603) rfl m_L_87 v_yX11_passed hs.hs.1 ⟨by decide, rfl⟩ (c_X11_passed (w := w) (J := J) hI hF hs.hs (zsc xs (i + 1)) (zsc xs (i + 2)) (zsc_r xs _) (zsc_r xs _)) (Nat.le_of_ble_eq_true rfl) rfl rfl (Nat.le_of_ble_eq_true rfl) ⟨by omega, by omega⟩ (fun x1 e1 => ?_)
  refine jq_pop C dL_law_603 (n := 604) rfl rfl ?_
  refine jq_aload_n C dL_law_604 (n := 605) rfl rfl ?_
  refine jq_aload_n C dL_law_605 (n := 606) rfl rfl ?_
  refine jq_iload C dL_law_606 (n := 608) rfl rfl ?_
  refine jq_iconst C dL_law_608 (n := 609) rfl ?_
  refine jq_iadd C dL_law_609 (n := 610) rfl (v := i + 1) rfl ?_
  refine j_sld C hS0 dL_law_610 (n := 611) rfl ⟨by omega, by omega⟩ ?_
  refine jq_aload_n C dL_law_611 (n := 612) rfl rfl ?_
  refine jq_iload C dL_law_612 (n := 614) rfl rfl ?_
  refine jq_iconst C dL_law_614 (n := 615) rfl ?_
  refine jq_iadd C dL_law_615 (n := 616) rfl (v := i + 2) rfl ?_
  refine j_sld C hS0 dL_law_616 (n := 617) rfl ⟨by omega, by omega⟩ ?_
  refine jq_callVi C dL_law_617 (n := 620) rfl m_L_90 v_yX12_passed (zM0 hs.mo) ⟨by decide, rfl⟩ (c_X12_passed (w := w) (J := J) hd.1 hd.2.1 hs.mo (zsc xs (i + 1)) (zsc xs (i + 2)) (zsc_r xs _) (zsc_r xs _)) (Nat.le_of_ble_eq_true rfl) rfl rfl (Nat.le_of_ble_eq_true rfl) ⟨by omega, by omega⟩ (fun x2 M2 J2 hI2 e2 => ?_)
  have lo := zTE.lo e2 rfl rfl
  have lo8 : ∀ c k, c < a + 836 → M2 c k = M c k := fun c k q => e2.reg (n := 83) rfl rfl (by decide) c k (Or.inl q)
  have mf2 : ∀ j, M2 (a + 836 + 2) j = M (a + 836 + 2) j := fun j => e2.getA rfl rfl rfl
  have mf3 : ∀ j, M2 (a + 836 + 3) j = M (a + 836 + 3) j := fun j => e2.getA rfl rfl rfl
  have mf4 : ∀ j, M2 (a + 836 + 4) j = M (a + 836 + 4) j := fun j => e2.getA rfl rfl rfl
  have mf5 : ∀ j, M2 (a + 836 + 5) j = M (a + 836 + 5) j := fun j => e2.getA rfl rfl rfl
  have mg13 : M2 (a + 836) 13 = M (a + 836) 13 := e2.getS rfl rfl
  have mg8 : ∀ j, M2 (a + 836 + 8) j = M (a + 836 + 8) j := fun j => e2.getA rfl rfl rfl
  have m1 : M2 (a + 836) 2 = M (a + 836) 2 := e2.getS rfl rfl
  have m2 : ∀ j, M2 (a + 836 + 6) j = M (a + 836 + 6) j := fun j => e2.getA rfl rfl rfl
  have m3 : ∀ j, M2 (a + 836 + 1) j = M (a + 836 + 1) j := fun j => e2.getA rfl rfl rfl
  have hE : zVd a U F M2 R := hd.mod hI2 e2 rfl rfl (hd.2.2.2.1.cg (fun j => e2.getA rfl rfl rfl)) (hd.2.2.2.2.1.cg (fun j => e2.getA rfl rfl rfl)) (hd.2.2.2.2.2.cg (fun j => e2.getA rfl rfl rfl) (fun j => e2.getA rfl rfl rfl))
  refine jq_pop C dL_law_620 (n := 621) rfl rfl ?_
  have r_0 := zsc_r xs (i + 1)
  have r_1 := zsc_r xs (i + 2)
  have t10 : zTF a M2 := hte.2.2.2.1.st zRw.rf lo8 mf2 mf3
  have t11 : zTW a M2 := hte.2.2.2.2.1.st zRw.rf lo8 mf2 mf3
  have t12 : zTB a M2 := hte.2.2.2.2.2.1.st zRw.rf.1 (Or.inr rfl) zRw.rf.2.2.2.1 zRw.rf.2.2.2.2 lo8 (fun j _ => mf4 j) mf5
  have nm9 : zNM a M2 := hte.2.2.2.2.2.2.2.cg ⟨rfl, fun _ => rfl⟩ ⟨rfl, fun _ => rfl⟩ lo8 ⟨mg13, mg8⟩
  have t13 : zTG a M2 := hte.2.2.2.2.2.2.st zRw.rf.1 (Or.inr rfl) lo8 nm9
  have te1 := hte.1
  have t9 : zTE a M2 := ⟨by have l1 := lo.1; omega, fun j j0 j1 => by
    have te2 := hte.2.1 j j0 j1
    have l2 := lo.2.1 j
    have n2 := m2 j
    omega, fun j j0 j1 => by
    have l1 := lo.1
    have l3 := lo.2.2 j
    have te3 := hte.2.2.1 j j0
    have n3 := m3 j
    omega, t10, t11, t12, t13⟩
  refine jq_goto C 1021 dL_law_621 rfl ?_
  exact kk T M2 J2 R kc nc ⟨hk.up ⟨by omega, by omega⟩, t9, U, F, hs, hy, hE⟩
theorem lc_15 (C : zCx w p s m args meth c yL_law cL_law 8 (some .boolean)) (hS0 : zScr w s sb L xs) (hi : i = 6 * (it : Int)) (hL : i ≤ (L : Int) - 6) (hv : zLv a it kc nc T M R) (kk : ∀ (T2 : zTl) (M2 : zMm) (J2 : zJm) (R2 : zRm') (kc2 nc2 : Nat), zLv a (it + 1) kc2 nc2 T2 M2 R2 → zJ w p e 1312 601024 7293034 s m args below meth c 8 Q kc2 nc2 1021 [.ref sb, .ref (w.2.1 + a), .ref (w.2.1 + (a + 836)), .ref (w.2.1 + (a + 919)), zi i, .null, .null, .null] [] (T2, M2, J2, R2)) : zJ w p e 1312 601024 7293034 s m args below meth c 8 Q kc nc 624 [.ref sb, .ref (w.2.1 + a), .ref (w.2.1 + (a + 836)), .ref (w.2.1 + (a + 919)), zi i, .null, .null, .null] [] (T, M, J, R) := by
  obtain ⟨hk, hte, U, F, hs, hy, hd⟩ := hv
  have hI := hd.1
  have hF := hd.2.1
  have hci := hd.2.2.1
  have hL2 := hS0.2.2.2
  have hk1 := hk.1
  have hk2 := hk.2.1
  refine jq_aload_n C dL_law_624 (n := 625) rfl rfl ?_
  refine jq_aload_n C dL_law_625 (n := 626) rfl rfl ?_
  refine jq_iload C dL_law_626 (n := 628) rfl rfl ?_
  refine jq_iconst C dL_law_628 (n := 629) rfl ?_
  refine jq_iadd C dL_law_629 (n := 630) rfl (v := i + 1) rfl ?_
  refine j_sld C hS0 dL_law_630 (n := 631) rfl ⟨by omega, by omega⟩ ?_
  refine jq_aload_n C dL_law_631 (n := 632) rfl rfl ?_
  refine jq_iload C dL_law_632 (n := 634) rfl rfl ?_
  refine jq_iconst C dL_law_634 (n := 635) rfl ?_
  refine jq_iadd C dL_law_635 (n := 636) rfl (v := i + 2) rfl ?_
  refine j_sld C hS0 dL_law_636 (n := 637) rfl ⟨by omega, by omega⟩ ?_
  refine jq_aload_n C dL_law_637 (n := 638) rfl rfl ?_
  refine jq_iload C dL_law_638 (n := 640) rfl rfl ?_
  refine jq_iconst C dL_law_640 (n := 641) rfl ?_
  refine jq_iadd C dL_law_641 (n := 642) rfl (v := i + 3) rfl ?_
  refine j_sld C hS0 dL_law_642 (n := 643) rfl ⟨by omega, by omega⟩ ?_
  rcases id hy with h8 | ⟨b, h8, hb, hp⟩
  · by_cases hc : 0 ≤ (zsc xs (i + 1)) ∧ (zsc xs (i + 1)) ≤ 3 ∧ M (a + 2 + 9 + 4 * (zsc xs (i + 1)).toNat) 4 = 1 ∧ 0 ≤ (zsc xs (i + 2)) ∧ (zsc xs (i + 2)) ≤ 3 ∧ M (a + 2 + 9 + 4 * (zsc xs (i + 2)).toNat) 4 = 1 ∧ 0 ≤ (zsc xs (i + 3)) ∧ (zsc xs (i + 3)) < M (a + 2 + 9 + 4 * (zsc xs (i + 2)).toNat) 3
    · obtain ⟨V, M0, J0, R0, q0, hz, w1, w2, w3, w4, w5, i1, i2, i3, i4, i5, i6⟩ := zGrow J hs hd
      have hlen := hs.len
      obtain ⟨hs1, hs2, hs3, hs4, hs5, hs6, hs7, ⟨Rz, n1, n2⟩, hs9, hs10, hs11⟩ := id hs
      have h0 : zHideSets T F (zGu V) a := zMk11 hs1 (zGk11 w1) n1 n2 hs9
      have k8 := hk.2.2 h8
      have hc0 : 0 ≤ (zsc xs (i + 1)) ∧ (zsc xs (i + 1)) ≤ 3 ∧ M0 (a + 2 + 9 + 4 * (zsc xs (i + 1)).toNat) 4 = 1 ∧ 0 ≤ (zsc xs (i + 2)) ∧ (zsc xs (i + 2)) ≤ 3 ∧ M0 (a + 2 + 9 + 4 * (zsc xs (i + 2)).toNat) 4 = 1 ∧ 0 ≤ (zsc xs (i + 3)) ∧ (zsc xs (i + 3)) < M0 (a + 2 + 9 + 4 * (zsc xs (i + 2)).toNat) 3 := by
        have hcb := hc
        rw [(q0 (a + 2 + 9 + 4 * (zsc xs (i + 1)).toNat) 4 (by omega)).1, (q0 (a + 2 + 9 + 4 * (zsc xs (i + 2)).toNat) 3 (by omega)).1, (q0 (a + 2 + 9 + 4 * (zsc xs (i + 2)).toNat) 4 (by omega)).1]
        exact hc
      refine zJ.cg (M2 := M0) (J2 := J0) (R2 := R0) ?_ q0
      refine jr_callV C m_L_91 v_yX11_presence (σ := (T, M0, J0, R0)) h0.1 (by decide) rfl rfl (c_X11_presence_n1 (w := w) (J := J0) i1 i2 h0 rfl ((q0 a 8 (by omega)).2.2.trans h8) hz (zGk8 w5) hs1 (zGk11 w1) n1 n2 hs9 i3 (zsc xs (i + 1)) (zsc xs (i + 2)) (zsc xs (i + 3)) (zsc_r xs _) (zsc_r xs _) (zsc_r xs _) hc0) (Nat.le_of_ble_eq_true rfl) rfl (Nat.le_of_ble_eq_true rfl) ⟨by omega, by omega⟩ dL_law_643 (fun v τ hp _ _ => ?_)
      obtain ⟨x1, M1, J1, R1, F1, rfl, rfl, t1, t2, t3, t4, s1, s2, s3, s4, s5, s6, s7, s8, s9, s10, s11⟩ := zMade.step hs w1 w2 w3 w4 w5 i3 i4 i5 i6 hp
      have c1 := s1.trans (q0 a 1 (by omega)).1
      have c2 : ∀ j, M1 (a + 28) j = M (a + 28) j := fun j => (s2 j).trans (q0 _ _ (by omega)).1
      have c3 := s3.trans (q0 _ _ (by omega)).1
      have c4 : ∀ j, M1 (a + 836 + 6) j = M (a + 836 + 6) j := fun j => (s4 j).trans (q0 _ _ (by omega)).1
      have c5 : ∀ j, M1 (a + 1) j = M (a + 1) j := fun j => (s5 j).trans (q0 _ _ (by omega)).1
      have c6 : ∀ j, M1 (a + 836 + 1) j = M (a + 836 + 1) j := fun j => (s6 j).trans (q0 _ _ (by omega)).1
      refine jq_pop C dL_law_646 (n := 647) rfl rfl ?_
      refine jq_aload_n C dL_law_647 (n := 648) rfl rfl ?_
      refine jq_aload_n C dL_law_648 (n := 649) rfl rfl ?_
      refine jq_iload C dL_law_649 (n := 651) rfl rfl ?_
      refine jq_iconst C dL_law_651 (n := 652) rfl ?_
      refine jq_iadd C dL_law_652 (n := 653) rfl (v := i + 1) rfl ?_
      refine j_sld C hS0 dL_law_653 (n := 654) rfl ⟨by omega, by omega⟩ ?_
      refine jq_aload_n C dL_law_654 (n := 655) rfl rfl ?_
      refine jq_iload C dL_law_655 (n := 657) rfl rfl ?_
      refine jq_iconst C dL_law_657 (n := 658) rfl ?_
      refine jq_iadd C dL_law_658 (n := 659) rfl (v := i + 2) rfl ?_
      refine j_sld C hS0 dL_law_659 (n := 660) rfl ⟨by omega, by omega⟩ ?_
      refine jq_aload_n C dL_law_660 (n := 661) rfl rfl ?_
      refine jq_iload C dL_law_661 (n := 663) rfl rfl ?_
      refine jq_iconst C dL_law_663 (n := 664) rfl ?_
      refine jq_iadd C dL_law_664 (n := 665) rfl (v := i + 3) rfl ?_
      refine j_sld C hS0 dL_law_665 (n := 666) rfl ⟨by omega, by omega⟩ ?_
      refine jq_callVi C dL_law_666 (n := 669) rfl m_L_95 v_yX12_presence (zM0 t1.mo) ⟨by decide, rfl⟩ (c_X12_presence (w := w) (J := J1) t3.1 t3.2.1 t1.mo (zsc xs (i + 1)) (zsc xs (i + 2)) (zsc xs (i + 3)) t3.2.2.2.1 (zsc_r xs _) (zsc_r xs _) (zsc_r xs _)) (Nat.le_of_ble_eq_true rfl) rfl rfl (Nat.le_of_ble_eq_true rfl) ⟨by omega, by omega⟩ (fun x2 M2 J2 hI2 e2 => ?_)
      have lo := zTE.lo e2 rfl rfl
      have lo8 : ∀ c k, c < a + 836 → M2 c k = M1 c k := fun c k q => e2.reg (n := 83) rfl rfl (by decide) c k (Or.inl q)
      have mf2 : ∀ j, M2 (a + 836 + 2) j = M1 (a + 836 + 2) j := fun j => e2.getA rfl rfl rfl
      have mf3 : ∀ j, M2 (a + 836 + 3) j = M1 (a + 836 + 3) j := fun j => e2.getA rfl rfl rfl
      have mf4 : ∀ j, M2 (a + 836 + 4) j = M1 (a + 836 + 4) j := fun j => e2.getA rfl rfl rfl
      have mf5 : ∀ j, M2 (a + 836 + 5) j = M1 (a + 836 + 5) j := fun j => e2.getA rfl rfl rfl
      have mg13 : M2 (a + 836) 13 = M1 (a + 836) 13 := e2.getS rfl rfl
      have mg8 : ∀ j, M2 (a + 836 + 8) j = M1 (a + 836 + 8) j := fun j => e2.getA rfl rfl rfl
      have m1 : M2 (a + 836) 2 = M1 (a + 836) 2 := e2.getS rfl rfl
      have m2 : ∀ j, M2 (a + 836 + 6) j = M1 (a + 836 + 6) j := fun j => e2.getA rfl rfl rfl
      have m3 : ∀ j, M2 (a + 836 + 1) j = M1 (a + 836 + 1) j := fun j => e2.getA rfl rfl rfl
      have hE : zVd a V F1 M2 R1 := t3.mod hI2 e2 rfl rfl (t3.2.2.2.1.cg (fun j => e2.getA rfl rfl rfl)) (t3.2.2.2.2.1.cg (fun j => e2.getA rfl rfl rfl)) (t3.2.2.2.2.2.cg (fun j => e2.getA rfl rfl rfl) (fun j => e2.getA rfl rfl rfl))
      refine jq_pop C dL_law_669 (n := 670) rfl rfl ?_
      have t10 : zTF a M2 := hte.2.2.2.1.st ((zRw.lo (fun c k q => (q0 c k (by omega)).1)).tr s7) lo8 mf2 mf3
      have t11 : zTW a M2 := hte.2.2.2.2.1.st ((zRw.lo (fun c k q => (q0 c k (by omega)).1)).tr s7) lo8 mf2 mf3
      have t12 : zTB a M2 := hte.2.2.2.2.2.1.st ((zRw.lo (fun c k q => (q0 c k (by omega)).1)).tr s7).1 (Or.inr rfl) ((zRw.lo (fun c k q => (q0 c k (by omega)).1)).tr s7).2.2.2.1 ((zRw.lo (fun c k q => (q0 c k (by omega)).1)).tr s7).2.2.2.2 lo8 (fun j _ => mf4 j) mf5
      have nm9 : zNM a M2 := hte.2.2.2.2.2.2.2.cg ⟨s8.trans (q0 _ _ (by omega)).1, fun j => (s9 j).trans (q0 _ _ (by omega)).1⟩ ⟨s10.trans (q0 _ _ (by omega)).1, fun j => (s11 j).trans (q0 _ _ (by omega)).1⟩ lo8 ⟨mg13, mg8⟩
      have t13 : zTG a M2 := hte.2.2.2.2.2.2.st ((zRw.lo (fun c k q => (q0 c k (by omega)).1)).tr s7).1 (Or.inr rfl) lo8 nm9
      have te1 := hte.1
      have t9 : zTE a M2 := ⟨by have l1 := lo.1; have y0 := c1; have y1 := c3; omega, fun j j0 j1 => by
        have te2 := hte.2.1 j j0 j1
        have l2 := lo.2.1 j
        have n2 := m2 j
        have z0 := c2 j
        have z1 := c4 j
        omega, fun j j0 j1 => by
        have l1 := lo.1
        have l3 := lo.2.2 j
        have y0 := c1
        have y1 := c3
        have te3 := hte.2.2.1 j j0
        have n3 := m3 j
        have x5 := c5 j
        have x6 := c6 j
        omega, t10, t11, t12, t13⟩
      refine jq_goto C 1021 dL_law_670 rfl ?_
      exact kk (T ++ zL8) M2 J2 R1 (kc + 761) (nc + 164533) ⟨hk.mk h8 t4, t9, V, F1, t1, t2, hE⟩
    · refine jq_callVp C dL_law_643 (n := 646) rfl m_L_91 v_yX11_presence hs.hs.1 ⟨by decide, rfl⟩ (c_X11_presence_n0 (w := w) (J := J) hI hF hs.hs (zsc xs (i + 1)) (zsc xs (i + 2)) (zsc xs (i + 3)) (zsc_r xs _) (zsc_r xs _) (zsc_r xs _) hc) (Nat.le_of_ble_eq_true rfl) rfl rfl (Nat.le_of_ble_eq_true rfl) ⟨by omega, by omega⟩ (fun x1 e1 => ?_)
      refine jq_pop C dL_law_646 (n := 647) rfl rfl ?_
      refine jq_aload_n C dL_law_647 (n := 648) rfl rfl ?_
      refine jq_aload_n C dL_law_648 (n := 649) rfl rfl ?_
      refine jq_iload C dL_law_649 (n := 651) rfl rfl ?_
      refine jq_iconst C dL_law_651 (n := 652) rfl ?_
      refine jq_iadd C dL_law_652 (n := 653) rfl (v := i + 1) rfl ?_
      refine j_sld C hS0 dL_law_653 (n := 654) rfl ⟨by omega, by omega⟩ ?_
      refine jq_aload_n C dL_law_654 (n := 655) rfl rfl ?_
      refine jq_iload C dL_law_655 (n := 657) rfl rfl ?_
      refine jq_iconst C dL_law_657 (n := 658) rfl ?_
      refine jq_iadd C dL_law_658 (n := 659) rfl (v := i + 2) rfl ?_
      refine j_sld C hS0 dL_law_659 (n := 660) rfl ⟨by omega, by omega⟩ ?_
      refine jq_aload_n C dL_law_660 (n := 661) rfl rfl ?_
      refine jq_iload C dL_law_661 (n := 663) rfl rfl ?_
      refine jq_iconst C dL_law_663 (n := 664) rfl ?_
      refine jq_iadd C dL_law_664 (n := 665) rfl (v := i + 3) rfl ?_
      refine j_sld C hS0 dL_law_665 (n := 666) rfl ⟨by omega, by omega⟩ ?_
      refine jq_callVi C dL_law_666 (n := 669) rfl m_L_95 v_yX12_presence (zM0 hs.mo) ⟨by decide, rfl⟩ (c_X12_presence (w := w) (J := J) hd.1 hd.2.1 hs.mo (zsc xs (i + 1)) (zsc xs (i + 2)) (zsc xs (i + 3)) hd.2.2.2.1 (zsc_r xs _) (zsc_r xs _) (zsc_r xs _)) (Nat.le_of_ble_eq_true rfl) rfl rfl (Nat.le_of_ble_eq_true rfl) ⟨by omega, by omega⟩ (fun x2 M2 J2 hI2 e2 => ?_)
      have lo := zTE.lo e2 rfl rfl
      have lo8 : ∀ c k, c < a + 836 → M2 c k = M c k := fun c k q => e2.reg (n := 83) rfl rfl (by decide) c k (Or.inl q)
      have mf2 : ∀ j, M2 (a + 836 + 2) j = M (a + 836 + 2) j := fun j => e2.getA rfl rfl rfl
      have mf3 : ∀ j, M2 (a + 836 + 3) j = M (a + 836 + 3) j := fun j => e2.getA rfl rfl rfl
      have mf4 : ∀ j, M2 (a + 836 + 4) j = M (a + 836 + 4) j := fun j => e2.getA rfl rfl rfl
      have mf5 : ∀ j, M2 (a + 836 + 5) j = M (a + 836 + 5) j := fun j => e2.getA rfl rfl rfl
      have mg13 : M2 (a + 836) 13 = M (a + 836) 13 := e2.getS rfl rfl
      have mg8 : ∀ j, M2 (a + 836 + 8) j = M (a + 836 + 8) j := fun j => e2.getA rfl rfl rfl
      have m1 : M2 (a + 836) 2 = M (a + 836) 2 := e2.getS rfl rfl
      have m2 : ∀ j, M2 (a + 836 + 6) j = M (a + 836 + 6) j := fun j => e2.getA rfl rfl rfl
      have m3 : ∀ j, M2 (a + 836 + 1) j = M (a + 836 + 1) j := fun j => e2.getA rfl rfl rfl
      have hE : zVd a U F M2 R := hd.mod hI2 e2 rfl rfl (hd.2.2.2.1.cg (fun j => e2.getA rfl rfl rfl)) (hd.2.2.2.2.1.cg (fun j => e2.getA rfl rfl rfl)) (hd.2.2.2.2.2.cg (fun j => e2.getA rfl rfl rfl) (fun j => e2.getA rfl rfl rfl))
      refine jq_pop C dL_law_669 (n := 670) rfl rfl ?_
      have t10 : zTF a M2 := hte.2.2.2.1.st zRw.rf lo8 mf2 mf3
      have t11 : zTW a M2 := hte.2.2.2.2.1.st zRw.rf lo8 mf2 mf3
      have t12 : zTB a M2 := hte.2.2.2.2.2.1.st zRw.rf.1 (Or.inr rfl) zRw.rf.2.2.2.1 zRw.rf.2.2.2.2 lo8 (fun j _ => mf4 j) mf5
      have nm9 : zNM a M2 := hte.2.2.2.2.2.2.2.cg ⟨rfl, fun _ => rfl⟩ ⟨rfl, fun _ => rfl⟩ lo8 ⟨mg13, mg8⟩
      have t13 : zTG a M2 := hte.2.2.2.2.2.2.st zRw.rf.1 (Or.inr rfl) lo8 nm9
      have te1 := hte.1
      have t9 : zTE a M2 := ⟨by have l1 := lo.1; omega, fun j j0 j1 => by
        have te2 := hte.2.1 j j0 j1
        have l2 := lo.2.1 j
        have n2 := m2 j
        omega, fun j j0 j1 => by
        have l1 := lo.1
        have l3 := lo.2.2 j
        have te3 := hte.2.2.1 j j0
        have n3 := m3 j
        omega, t10, t11, t12, t13⟩
      refine jq_goto C 1021 dL_law_670 rfl ?_
      exact kk T M2 J2 R kc nc ⟨hk.up ⟨by omega, by omega⟩, t9, U, F, hs, hy, hE⟩
  · refine jq_callViE C dL_law_643 (n := 646) rfl m_L_91 v_yX11_presence hs.hs.1 ⟨by decide, rfl⟩ (c_X11_presence_s (w := w) (J := J) hI hF hs.hs (zsc xs (i + 1)) (zsc xs (i + 2)) (zsc xs (i + 3)) h8 hp.st (zsc_r xs _) (zsc_r xs _) (zsc_r xs _) hci) (Nat.le_of_ble_eq_true rfl) rfl rfl (Nat.le_of_ble_eq_true rfl) ⟨by omega, by omega⟩ (fun x1 M1 J1 R1 hI1 e1 => ?_)
    have hF1 : zF F R1 := e1.2.F hF (hp.2.2.2 _ _ (by omega)) (hp.2.2.2 _ _ (by omega)) (hp.2.2.2 _ _ (by omega))
    have h9 : R1 a 8 = R a 8 := e1.2 a 8 (by omega) (by omega) (by omega)
    have hD : zVd a U F M1 R1 := hd.cl2 hs hI1 e1.1 (by decide) hF1
    have ec := hs.ec (e1.1.le (by decide))
    have c1 := hs.tp e1.1 (by decide)
    have c2 := hs.kd e1.1 (by decide)
    have c3 := hs.tr e1.1 (by decide)
    refine jq_pop C dL_law_646 (n := 647) rfl rfl ?_
    refine jq_aload_n C dL_law_647 (n := 648) rfl rfl ?_
    refine jq_aload_n C dL_law_648 (n := 649) rfl rfl ?_
    refine jq_iload C dL_law_649 (n := 651) rfl rfl ?_
    refine jq_iconst C dL_law_651 (n := 652) rfl ?_
    refine jq_iadd C dL_law_652 (n := 653) rfl (v := i + 1) rfl ?_
    refine j_sld C hS0 dL_law_653 (n := 654) rfl ⟨by omega, by omega⟩ ?_
    refine jq_aload_n C dL_law_654 (n := 655) rfl rfl ?_
    refine jq_iload C dL_law_655 (n := 657) rfl rfl ?_
    refine jq_iconst C dL_law_657 (n := 658) rfl ?_
    refine jq_iadd C dL_law_658 (n := 659) rfl (v := i + 2) rfl ?_
    refine j_sld C hS0 dL_law_659 (n := 660) rfl ⟨by omega, by omega⟩ ?_
    refine jq_aload_n C dL_law_660 (n := 661) rfl rfl ?_
    refine jq_iload C dL_law_661 (n := 663) rfl rfl ?_
    refine jq_iconst C dL_law_663 (n := 664) rfl ?_
    refine jq_iadd C dL_law_664 (n := 665) rfl (v := i + 3) rfl ?_
    refine j_sld C hS0 dL_law_665 (n := 666) rfl ⟨by omega, by omega⟩ ?_
    refine jq_callVi C dL_law_666 (n := 669) rfl m_L_95 v_yX12_presence (zM0 hs.mo) ⟨by decide, rfl⟩ (c_X12_presence (w := w) (J := J1) hD.1 hD.2.1 hs.mo (zsc xs (i + 1)) (zsc xs (i + 2)) (zsc xs (i + 3)) hD.2.2.2.1 (zsc_r xs _) (zsc_r xs _) (zsc_r xs _)) (Nat.le_of_ble_eq_true rfl) rfl rfl (Nat.le_of_ble_eq_true rfl) ⟨by omega, by omega⟩ (fun x2 M2 J2 hI2 e2 => ?_)
    have lo := zTE.lo e2 rfl rfl
    have lo8 : ∀ c k, c < a + 836 → M2 c k = M1 c k := fun c k q => e2.reg (n := 83) rfl rfl (by decide) c k (Or.inl q)
    have mf2 : ∀ j, M2 (a + 836 + 2) j = M1 (a + 836 + 2) j := fun j => e2.getA rfl rfl rfl
    have mf3 : ∀ j, M2 (a + 836 + 3) j = M1 (a + 836 + 3) j := fun j => e2.getA rfl rfl rfl
    have mf4 : ∀ j, M2 (a + 836 + 4) j = M1 (a + 836 + 4) j := fun j => e2.getA rfl rfl rfl
    have mf5 : ∀ j, M2 (a + 836 + 5) j = M1 (a + 836 + 5) j := fun j => e2.getA rfl rfl rfl
    have mg13 : M2 (a + 836) 13 = M1 (a + 836) 13 := e2.getS rfl rfl
    have mg8 : ∀ j, M2 (a + 836 + 8) j = M1 (a + 836 + 8) j := fun j => e2.getA rfl rfl rfl
    have m1 : M2 (a + 836) 2 = M1 (a + 836) 2 := e2.getS rfl rfl
    have m2 : ∀ j, M2 (a + 836 + 6) j = M1 (a + 836 + 6) j := fun j => e2.getA rfl rfl rfl
    have m3 : ∀ j, M2 (a + 836 + 1) j = M1 (a + 836 + 1) j := fun j => e2.getA rfl rfl rfl
    have hE : zVd a U F M2 R1 := hD.mod hI2 e2 rfl rfl (hD.2.2.2.1.cg (fun j => e2.getA rfl rfl rfl)) (hD.2.2.2.2.1.cg (fun j => e2.getA rfl rfl rfl)) (hD.2.2.2.2.2.cg (fun j => e2.getA rfl rfl rfl) (fun j => e2.getA rfl rfl rfl))
    refine jq_pop C dL_law_669 (n := 670) rfl rfl ?_
    have t10 : zTF a M2 := hte.2.2.2.1.st (hs.rws e1.1 (by decide)) lo8 mf2 mf3
    have t11 : zTW a M2 := hte.2.2.2.2.1.st (hs.rws e1.1 (by decide)) lo8 mf2 mf3
    have t12 : zTB a M2 := hte.2.2.2.2.2.1.st (hs.rws e1.1 (by decide)).1 (Or.inr rfl) (hs.rws e1.1 (by decide)).2.2.2.1 (hs.rws e1.1 (by decide)).2.2.2.2 lo8 (fun j _ => mf4 j) mf5
    have nm9 : zNM a M2 := hte.2.2.2.2.2.2.2.cg (hs.gn e1.1 (by decide)) (hs.eg (e1.1.le (by decide))) lo8 ⟨mg13, mg8⟩
    have t13 : zTG a M2 := hte.2.2.2.2.2.2.st (hs.rws e1.1 (by decide)).1 (Or.inr rfl) lo8 nm9
    have te1 := hte.1
    have t9 : zTE a M2 := ⟨by have l1 := lo.1; have y0 := c1; have y1 := ec.1; omega, fun j j0 j1 => by
      have te2 := hte.2.1 j j0 j1
      have l2 := lo.2.1 j
      have n2 := m2 j
      have z0 := c2 j
      have z1 := ec.2.1 j
      omega, fun j j0 j1 => by
      have l1 := lo.1
      have l3 := lo.2.2 j
      have y0 := c1
      have y1 := ec.1
      have te3 := hte.2.2.1 j j0
      have n3 := m3 j
      have x5 := c3 j
      have x6 := ec.2.2 j
      omega, t10, t11, t12, t13⟩
    refine jq_goto C 1021 dL_law_670 rfl ?_
    exact kk T M2 J2 R1 kc nc ⟨(hk.R h9).up ⟨by omega, by omega⟩, t9, U, F, hs, hy.R h9, hE⟩
theorem lc_16 (C : zCx w p s m args meth c yL_law cL_law 8 (some .boolean)) (hS0 : zScr w s sb L xs) (hi : i = 6 * (it : Int)) (hL : i ≤ (L : Int) - 6) (hv : zLv a it kc nc T M R) (kk : ∀ (T2 : zTl) (M2 : zMm) (J2 : zJm) (R2 : zRm') (kc2 nc2 : Nat), zLv a (it + 1) kc2 nc2 T2 M2 R2 → zJ w p e 1312 601024 7293034 s m args below meth c 8 Q kc2 nc2 1021 [.ref sb, .ref (w.2.1 + a), .ref (w.2.1 + (a + 836)), .ref (w.2.1 + (a + 919)), zi i, .null, .null, .null] [] (T2, M2, J2, R2)) : zJ w p e 1312 601024 7293034 s m args below meth c 8 Q kc nc 673 [.ref sb, .ref (w.2.1 + a), .ref (w.2.1 + (a + 836)), .ref (w.2.1 + (a + 919)), zi i, .null, .null, .null] [] (T, M, J, R) := by
  obtain ⟨hk, hte, U, F, hs, hy, hd⟩ := hv
  have hI := hd.1
  have hF := hd.2.1
  have hci := hd.2.2.1
  have hL2 := hS0.2.2.2
  have hk1 := hk.1
  have hk2 := hk.2.1
  refine jq_aload_n C dL_law_673 (n := 674) rfl rfl ?_
  refine jq_aload_n C dL_law_674 (n := 675) rfl rfl ?_
  refine jq_iload C dL_law_675 (n := 677) rfl rfl ?_
  refine jq_iconst C dL_law_677 (n := 678) rfl ?_
  refine jq_iadd C dL_law_678 (n := 679) rfl (v := i + 1) rfl ?_
  refine j_sld C hS0 dL_law_679 (n := 680) rfl ⟨by omega, by omega⟩ ?_
  rcases id hy with h8 | ⟨b, h8, hb, hp⟩
  · by_cases hc : 0 ≤ (zsc xs (i + 1)) ∧ (zsc xs (i + 1)) ≤ 3 ∧ M (a + 2 + 9 + 4 * (zsc xs (i + 1)).toNat) 4 = 1
    · obtain ⟨V, M0, J0, R0, q0, hz, w1, w2, w3, w4, w5, i1, i2, i3, i4, i5, i6⟩ := zGrow J hs hd
      have hlen := hs.len
      obtain ⟨hs1, hs2, hs3, hs4, hs5, hs6, hs7, ⟨Rz, n1, n2⟩, hs9, hs10, hs11⟩ := id hs
      have h0 : zHideSets T F (zGu V) a := zMk11 hs1 (zGk11 w1) n1 n2 hs9
      have k8 := hk.2.2 h8
      have hc0 : 0 ≤ (zsc xs (i + 1)) ∧ (zsc xs (i + 1)) ≤ 3 ∧ M0 (a + 2 + 9 + 4 * (zsc xs (i + 1)).toNat) 4 = 1 := by
        have hcb := hc
        rw [(q0 (a + 2 + 9 + 4 * (zsc xs (i + 1)).toNat) 4 (by omega)).1]
        exact hc
      refine zJ.cg (M2 := M0) (J2 := J0) (R2 := R0) ?_ q0
      refine jr_callV C m_L_96 v_yX11_outcomes (σ := (T, M0, J0, R0)) h0.1 (by decide) rfl rfl (c_X11_outcomes_n1 (w := w) (J := J0) i1 i2 h0 rfl ((q0 a 8 (by omega)).2.2.trans h8) hz (zGk8 w5) hs1 (zGk11 w1) n1 n2 hs9 i3 (zsc xs (i + 1)) (zsc_r xs _) hc0) (Nat.le_of_ble_eq_true rfl) rfl (Nat.le_of_ble_eq_true rfl) ⟨by omega, by omega⟩ dL_law_680 (fun v τ hp _ _ => ?_)
      obtain ⟨x1, M1, J1, R1, F1, rfl, rfl, t1, t2, t3, t4, s1, s2, s3, s4, s5, s6, s7, s8, s9, s10, s11⟩ := zMade.step hs w1 w2 w3 w4 w5 i3 i4 i5 i6 hp
      have c1 := s1.trans (q0 a 1 (by omega)).1
      have c2 : ∀ j, M1 (a + 28) j = M (a + 28) j := fun j => (s2 j).trans (q0 _ _ (by omega)).1
      have c3 := s3.trans (q0 _ _ (by omega)).1
      have c4 : ∀ j, M1 (a + 836 + 6) j = M (a + 836 + 6) j := fun j => (s4 j).trans (q0 _ _ (by omega)).1
      have c5 : ∀ j, M1 (a + 1) j = M (a + 1) j := fun j => (s5 j).trans (q0 _ _ (by omega)).1
      have c6 : ∀ j, M1 (a + 836 + 1) j = M (a + 836 + 1) j := fun j => (s6 j).trans (q0 _ _ (by omega)).1
      refine jq_pop C dL_law_683 (n := 684) rfl rfl ?_
      refine jq_aload_n C dL_law_684 (n := 685) rfl rfl ?_
      refine jq_aload_n C dL_law_685 (n := 686) rfl rfl ?_
      refine jq_iload C dL_law_686 (n := 688) rfl rfl ?_
      refine jq_iconst C dL_law_688 (n := 689) rfl ?_
      refine jq_iadd C dL_law_689 (n := 690) rfl (v := i + 1) rfl ?_
      refine j_sld C hS0 dL_law_690 (n := 691) rfl ⟨by omega, by omega⟩ ?_
      refine jq_callVi C dL_law_691 (n := 694) rfl m_L_99 v_yX12_outcomes (zM0 t1.mo) ⟨by decide, rfl⟩ (c_X12_outcomes (w := w) (J := J1) t3.1 t3.2.1 t1.mo (zsc xs (i + 1)) t3.2.2.2.1 (zsc_r xs _)) (Nat.le_of_ble_eq_true rfl) rfl rfl (Nat.le_of_ble_eq_true rfl) ⟨by omega, by omega⟩ (fun x2 M2 J2 hI2 e2 => ?_)
      have lo := zTE.lo e2 rfl rfl
      have lo8 : ∀ c k, c < a + 836 → M2 c k = M1 c k := fun c k q => e2.reg (n := 83) rfl rfl (by decide) c k (Or.inl q)
      have mf2 : ∀ j, M2 (a + 836 + 2) j = M1 (a + 836 + 2) j := fun j => e2.getA rfl rfl rfl
      have mf3 : ∀ j, M2 (a + 836 + 3) j = M1 (a + 836 + 3) j := fun j => e2.getA rfl rfl rfl
      have mf4 : ∀ j, M2 (a + 836 + 4) j = M1 (a + 836 + 4) j := fun j => e2.getA rfl rfl rfl
      have mf5 : ∀ j, M2 (a + 836 + 5) j = M1 (a + 836 + 5) j := fun j => e2.getA rfl rfl rfl
      have mg13 : M2 (a + 836) 13 = M1 (a + 836) 13 := e2.getS rfl rfl
      have mg8 : ∀ j, M2 (a + 836 + 8) j = M1 (a + 836 + 8) j := fun j => e2.getA rfl rfl rfl
      have m1 : M2 (a + 836) 2 = M1 (a + 836) 2 := e2.getS rfl rfl
      have m2 : ∀ j, M2 (a + 836 + 6) j = M1 (a + 836 + 6) j := fun j => e2.getA rfl rfl rfl
      have m3 : ∀ j, M2 (a + 836 + 1) j = M1 (a + 836 + 1) j := fun j => e2.getA rfl rfl rfl
      have hE : zVd a V F1 M2 R1 := t3.mod hI2 e2 rfl rfl (t3.2.2.2.1.cg (fun j => e2.getA rfl rfl rfl)) (t3.2.2.2.2.1.cg (fun j => e2.getA rfl rfl rfl)) (t3.2.2.2.2.2.cg (fun j => e2.getA rfl rfl rfl) (fun j => e2.getA rfl rfl rfl))
      refine jq_pop C dL_law_694 (n := 695) rfl rfl ?_
      have t10 : zTF a M2 := hte.2.2.2.1.st ((zRw.lo (fun c k q => (q0 c k (by omega)).1)).tr s7) lo8 mf2 mf3
      have t11 : zTW a M2 := hte.2.2.2.2.1.st ((zRw.lo (fun c k q => (q0 c k (by omega)).1)).tr s7) lo8 mf2 mf3
      have t12 : zTB a M2 := hte.2.2.2.2.2.1.st ((zRw.lo (fun c k q => (q0 c k (by omega)).1)).tr s7).1 (Or.inr rfl) ((zRw.lo (fun c k q => (q0 c k (by omega)).1)).tr s7).2.2.2.1 ((zRw.lo (fun c k q => (q0 c k (by omega)).1)).tr s7).2.2.2.2 lo8 (fun j _ => mf4 j) mf5
      have nm9 : zNM a M2 := hte.2.2.2.2.2.2.2.cg ⟨s8.trans (q0 _ _ (by omega)).1, fun j => (s9 j).trans (q0 _ _ (by omega)).1⟩ ⟨s10.trans (q0 _ _ (by omega)).1, fun j => (s11 j).trans (q0 _ _ (by omega)).1⟩ lo8 ⟨mg13, mg8⟩
      have t13 : zTG a M2 := hte.2.2.2.2.2.2.st ((zRw.lo (fun c k q => (q0 c k (by omega)).1)).tr s7).1 (Or.inr rfl) lo8 nm9
      have te1 := hte.1
      have t9 : zTE a M2 := ⟨by have l1 := lo.1; have y0 := c1; have y1 := c3; omega, fun j j0 j1 => by
        have te2 := hte.2.1 j j0 j1
        have l2 := lo.2.1 j
        have n2 := m2 j
        have z0 := c2 j
        have z1 := c4 j
        omega, fun j j0 j1 => by
        have l1 := lo.1
        have l3 := lo.2.2 j
        have y0 := c1
        have y1 := c3
        have te3 := hte.2.2.1 j j0
        have n3 := m3 j
        have x5 := c5 j
        have x6 := c6 j
        omega, t10, t11, t12, t13⟩
      refine jq_goto C 1021 dL_law_695 rfl ?_
      exact kk (T ++ zL8) M2 J2 R1 (kc + 761) (nc + 164533) ⟨hk.mk h8 t4, t9, V, F1, t1, t2, hE⟩
    · refine jq_callVp C dL_law_680 (n := 683) rfl m_L_96 v_yX11_outcomes hs.hs.1 ⟨by decide, rfl⟩ (c_X11_outcomes_n0 (w := w) (J := J) hI hF hs.hs (zsc xs (i + 1)) (zsc_r xs _) hc) (Nat.le_of_ble_eq_true rfl) rfl rfl (Nat.le_of_ble_eq_true rfl) ⟨by omega, by omega⟩ (fun x1 e1 => ?_)
      refine jq_pop C dL_law_683 (n := 684) rfl rfl ?_
      refine jq_aload_n C dL_law_684 (n := 685) rfl rfl ?_
      refine jq_aload_n C dL_law_685 (n := 686) rfl rfl ?_
      refine jq_iload C dL_law_686 (n := 688) rfl rfl ?_
      refine jq_iconst C dL_law_688 (n := 689) rfl ?_
      refine jq_iadd C dL_law_689 (n := 690) rfl (v := i + 1) rfl ?_
      refine j_sld C hS0 dL_law_690 (n := 691) rfl ⟨by omega, by omega⟩ ?_
      refine jq_callVi C dL_law_691 (n := 694) rfl m_L_99 v_yX12_outcomes (zM0 hs.mo) ⟨by decide, rfl⟩ (c_X12_outcomes (w := w) (J := J) hd.1 hd.2.1 hs.mo (zsc xs (i + 1)) hd.2.2.2.1 (zsc_r xs _)) (Nat.le_of_ble_eq_true rfl) rfl rfl (Nat.le_of_ble_eq_true rfl) ⟨by omega, by omega⟩ (fun x2 M2 J2 hI2 e2 => ?_)
      have lo := zTE.lo e2 rfl rfl
      have lo8 : ∀ c k, c < a + 836 → M2 c k = M c k := fun c k q => e2.reg (n := 83) rfl rfl (by decide) c k (Or.inl q)
      have mf2 : ∀ j, M2 (a + 836 + 2) j = M (a + 836 + 2) j := fun j => e2.getA rfl rfl rfl
      have mf3 : ∀ j, M2 (a + 836 + 3) j = M (a + 836 + 3) j := fun j => e2.getA rfl rfl rfl
      have mf4 : ∀ j, M2 (a + 836 + 4) j = M (a + 836 + 4) j := fun j => e2.getA rfl rfl rfl
      have mf5 : ∀ j, M2 (a + 836 + 5) j = M (a + 836 + 5) j := fun j => e2.getA rfl rfl rfl
      have mg13 : M2 (a + 836) 13 = M (a + 836) 13 := e2.getS rfl rfl
      have mg8 : ∀ j, M2 (a + 836 + 8) j = M (a + 836 + 8) j := fun j => e2.getA rfl rfl rfl
      have m1 : M2 (a + 836) 2 = M (a + 836) 2 := e2.getS rfl rfl
      have m2 : ∀ j, M2 (a + 836 + 6) j = M (a + 836 + 6) j := fun j => e2.getA rfl rfl rfl
      have m3 : ∀ j, M2 (a + 836 + 1) j = M (a + 836 + 1) j := fun j => e2.getA rfl rfl rfl
      have hE : zVd a U F M2 R := hd.mod hI2 e2 rfl rfl (hd.2.2.2.1.cg (fun j => e2.getA rfl rfl rfl)) (hd.2.2.2.2.1.cg (fun j => e2.getA rfl rfl rfl)) (hd.2.2.2.2.2.cg (fun j => e2.getA rfl rfl rfl) (fun j => e2.getA rfl rfl rfl))
      refine jq_pop C dL_law_694 (n := 695) rfl rfl ?_
      have t10 : zTF a M2 := hte.2.2.2.1.st zRw.rf lo8 mf2 mf3
      have t11 : zTW a M2 := hte.2.2.2.2.1.st zRw.rf lo8 mf2 mf3
      have t12 : zTB a M2 := hte.2.2.2.2.2.1.st zRw.rf.1 (Or.inr rfl) zRw.rf.2.2.2.1 zRw.rf.2.2.2.2 lo8 (fun j _ => mf4 j) mf5
      have nm9 : zNM a M2 := hte.2.2.2.2.2.2.2.cg ⟨rfl, fun _ => rfl⟩ ⟨rfl, fun _ => rfl⟩ lo8 ⟨mg13, mg8⟩
      have t13 : zTG a M2 := hte.2.2.2.2.2.2.st zRw.rf.1 (Or.inr rfl) lo8 nm9
      have te1 := hte.1
      have t9 : zTE a M2 := ⟨by have l1 := lo.1; omega, fun j j0 j1 => by
        have te2 := hte.2.1 j j0 j1
        have l2 := lo.2.1 j
        have n2 := m2 j
        omega, fun j j0 j1 => by
        have l1 := lo.1
        have l3 := lo.2.2 j
        have te3 := hte.2.2.1 j j0
        have n3 := m3 j
        omega, t10, t11, t12, t13⟩
      refine jq_goto C 1021 dL_law_695 rfl ?_
      exact kk T M2 J2 R kc nc ⟨hk.up ⟨by omega, by omega⟩, t9, U, F, hs, hy, hE⟩
  · refine jq_callViE C dL_law_680 (n := 683) rfl m_L_96 v_yX11_outcomes hs.hs.1 ⟨by decide, rfl⟩ (c_X11_outcomes_s (w := w) (J := J) hI hF hs.hs (zsc xs (i + 1)) h8 hp.st (zsc_r xs _) hci) (Nat.le_of_ble_eq_true rfl) rfl rfl (Nat.le_of_ble_eq_true rfl) ⟨by omega, by omega⟩ (fun x1 M1 J1 R1 hI1 e1 => ?_)
    have hF1 : zF F R1 := e1.2.F hF (hp.2.2.2 _ _ (by omega)) (hp.2.2.2 _ _ (by omega)) (hp.2.2.2 _ _ (by omega))
    have h9 : R1 a 8 = R a 8 := e1.2 a 8 (by omega) (by omega) (by omega)
    have hD : zVd a U F M1 R1 := hd.cl2 hs hI1 e1.1 (by decide) hF1
    have ec := hs.ec (e1.1.le (by decide))
    have c1 := hs.tp e1.1 (by decide)
    have c2 := hs.kd e1.1 (by decide)
    have c3 := hs.tr e1.1 (by decide)
    refine jq_pop C dL_law_683 (n := 684) rfl rfl ?_
    refine jq_aload_n C dL_law_684 (n := 685) rfl rfl ?_
    refine jq_aload_n C dL_law_685 (n := 686) rfl rfl ?_
    refine jq_iload C dL_law_686 (n := 688) rfl rfl ?_
    refine jq_iconst C dL_law_688 (n := 689) rfl ?_
    refine jq_iadd C dL_law_689 (n := 690) rfl (v := i + 1) rfl ?_
    refine j_sld C hS0 dL_law_690 (n := 691) rfl ⟨by omega, by omega⟩ ?_
    refine jq_callVi C dL_law_691 (n := 694) rfl m_L_99 v_yX12_outcomes (zM0 hs.mo) ⟨by decide, rfl⟩ (c_X12_outcomes (w := w) (J := J1) hD.1 hD.2.1 hs.mo (zsc xs (i + 1)) hD.2.2.2.1 (zsc_r xs _)) (Nat.le_of_ble_eq_true rfl) rfl rfl (Nat.le_of_ble_eq_true rfl) ⟨by omega, by omega⟩ (fun x2 M2 J2 hI2 e2 => ?_)
    have lo := zTE.lo e2 rfl rfl
    have lo8 : ∀ c k, c < a + 836 → M2 c k = M1 c k := fun c k q => e2.reg (n := 83) rfl rfl (by decide) c k (Or.inl q)
    have mf2 : ∀ j, M2 (a + 836 + 2) j = M1 (a + 836 + 2) j := fun j => e2.getA rfl rfl rfl
    have mf3 : ∀ j, M2 (a + 836 + 3) j = M1 (a + 836 + 3) j := fun j => e2.getA rfl rfl rfl
    have mf4 : ∀ j, M2 (a + 836 + 4) j = M1 (a + 836 + 4) j := fun j => e2.getA rfl rfl rfl
    have mf5 : ∀ j, M2 (a + 836 + 5) j = M1 (a + 836 + 5) j := fun j => e2.getA rfl rfl rfl
    have mg13 : M2 (a + 836) 13 = M1 (a + 836) 13 := e2.getS rfl rfl
    have mg8 : ∀ j, M2 (a + 836 + 8) j = M1 (a + 836 + 8) j := fun j => e2.getA rfl rfl rfl
    have m1 : M2 (a + 836) 2 = M1 (a + 836) 2 := e2.getS rfl rfl
    have m2 : ∀ j, M2 (a + 836 + 6) j = M1 (a + 836 + 6) j := fun j => e2.getA rfl rfl rfl
    have m3 : ∀ j, M2 (a + 836 + 1) j = M1 (a + 836 + 1) j := fun j => e2.getA rfl rfl rfl
    have hE : zVd a U F M2 R1 := hD.mod hI2 e2 rfl rfl (hD.2.2.2.1.cg (fun j => e2.getA rfl rfl rfl)) (hD.2.2.2.2.1.cg (fun j => e2.getA rfl rfl rfl)) (hD.2.2.2.2.2.cg (fun j => e2.getA rfl rfl rfl) (fun j => e2.getA rfl rfl rfl))
    refine jq_pop C dL_law_694 (n := 695) rfl rfl ?_
    have t10 : zTF a M2 := hte.2.2.2.1.st (hs.rws e1.1 (by decide)) lo8 mf2 mf3
    have t11 : zTW a M2 := hte.2.2.2.2.1.st (hs.rws e1.1 (by decide)) lo8 mf2 mf3
    have t12 : zTB a M2 := hte.2.2.2.2.2.1.st (hs.rws e1.1 (by decide)).1 (Or.inr rfl) (hs.rws e1.1 (by decide)).2.2.2.1 (hs.rws e1.1 (by decide)).2.2.2.2 lo8 (fun j _ => mf4 j) mf5
    have nm9 : zNM a M2 := hte.2.2.2.2.2.2.2.cg (hs.gn e1.1 (by decide)) (hs.eg (e1.1.le (by decide))) lo8 ⟨mg13, mg8⟩
    have t13 : zTG a M2 := hte.2.2.2.2.2.2.st (hs.rws e1.1 (by decide)).1 (Or.inr rfl) lo8 nm9
    have te1 := hte.1
    have t9 : zTE a M2 := ⟨by have l1 := lo.1; have y0 := c1; have y1 := ec.1; omega, fun j j0 j1 => by
      have te2 := hte.2.1 j j0 j1
      have l2 := lo.2.1 j
      have n2 := m2 j
      have z0 := c2 j
      have z1 := ec.2.1 j
      omega, fun j j0 j1 => by
      have l1 := lo.1
      have l3 := lo.2.2 j
      have y0 := c1
      have y1 := ec.1
      have te3 := hte.2.2.1 j j0
      have n3 := m3 j
      have x5 := c3 j
      have x6 := ec.2.2 j
      omega, t10, t11, t12, t13⟩
    refine jq_goto C 1021 dL_law_695 rfl ?_
    exact kk T M2 J2 R1 kc nc ⟨(hk.R h9).up ⟨by omega, by omega⟩, t9, U, F, hs, hy.R h9, hE⟩
theorem lc_17 (C : zCx w p s m args meth c yL_law cL_law 8 (some .boolean)) (hS0 : zScr w s sb L xs) (hi : i = 6 * (it : Int)) (hL : i ≤ (L : Int) - 6) (hv : zLv a it kc nc T M R) (kk : ∀ (T2 : zTl) (M2 : zMm) (J2 : zJm) (R2 : zRm') (kc2 nc2 : Nat), zLv a (it + 1) kc2 nc2 T2 M2 R2 → zJ w p e 1312 601024 7293034 s m args below meth c 8 Q kc2 nc2 1021 [.ref sb, .ref (w.2.1 + a), .ref (w.2.1 + (a + 836)), .ref (w.2.1 + (a + 919)), zi i, .null, .null, .null] [] (T2, M2, J2, R2)) : zJ w p e 1312 601024 7293034 s m args below meth c 8 Q kc nc 698 [.ref sb, .ref (w.2.1 + a), .ref (w.2.1 + (a + 836)), .ref (w.2.1 + (a + 919)), zi i, .null, .null, .null] [] (T, M, J, R) := by
  obtain ⟨hk, hte, U, F, hs, hy, hd⟩ := hv
  have hI := hd.1
  have hF := hd.2.1
  have hci := hd.2.2.1
  have hL2 := hS0.2.2.2
  have hk1 := hk.1
  have hk2 := hk.2.1
  refine jq_aload_n C dL_law_698 (n := 699) rfl rfl ?_
  refine jq_aload_n C dL_law_699 (n := 700) rfl rfl ?_
  refine jq_iload C dL_law_700 (n := 702) rfl rfl ?_
  refine jq_iconst C dL_law_702 (n := 703) rfl ?_
  refine jq_iadd C dL_law_703 (n := 704) rfl (v := i + 1) rfl ?_
  refine j_sld C hS0 dL_law_704 (n := 705) rfl ⟨by omega, by omega⟩ ?_
  refine jq_aload_n C dL_law_705 (n := 706) rfl rfl ?_
  refine jq_iload C dL_law_706 (n := 708) rfl rfl ?_
  refine jq_iconst C dL_law_708 (n := 709) rfl ?_
  refine jq_iadd C dL_law_709 (n := 710) rfl (v := i + 2) rfl ?_
  refine j_sld C hS0 dL_law_710 (n := 711) rfl ⟨by omega, by omega⟩ ?_
  rcases id hy with h8 | ⟨b, h8, hb, hp⟩
  · by_cases hc : 0 ≤ (zsc xs (i + 1)) ∧ (zsc xs (i + 1)) ≤ 3 ∧ M (a + 2 + 9 + 4 * (zsc xs (i + 1)).toNat) 4 = 1 ∧ 0 ≤ (zsc xs (i + 2)) ∧ (zsc xs (i + 2)) < zshl 1 (M (a + 2) 3)
    · obtain ⟨V, M0, J0, R0, q0, hz, w1, w2, w3, w4, w5, i1, i2, i3, i4, i5, i6⟩ := zGrow J hs hd
      have hlen := hs.len
      obtain ⟨hs1, hs2, hs3, hs4, hs5, hs6, hs7, ⟨Rz, n1, n2⟩, hs9, hs10, hs11⟩ := id hs
      have h0 : zHideSets T F (zGu V) a := zMk11 hs1 (zGk11 w1) n1 n2 hs9
      have k8 := hk.2.2 h8
      have hc0 : 0 ≤ (zsc xs (i + 1)) ∧ (zsc xs (i + 1)) ≤ 3 ∧ M0 (a + 2 + 9 + 4 * (zsc xs (i + 1)).toNat) 4 = 1 ∧ 0 ≤ (zsc xs (i + 2)) ∧ (zsc xs (i + 2)) < zshl 1 (M0 (a + 2) 3) := by
        have hcb := hc
        rw [(q0 (a + 2 + 9 + 4 * (zsc xs (i + 1)).toNat) 4 (by omega)).1, (q0 (a + 2) 3 (by omega)).1]
        exact hc
      refine zJ.cg (M2 := M0) (J2 := J0) (R2 := R0) ?_ q0
      refine jr_callV C m_L_100 v_yX11_like (σ := (T, M0, J0, R0)) h0.1 (by decide) rfl rfl (c_X11_like_n1 (w := w) (J := J0) i1 i2 h0 rfl ((q0 a 8 (by omega)).2.2.trans h8) hz (zGk8 w5) hs1 (zGk11 w1) n1 n2 hs9 i3 (zsc xs (i + 1)) (zsc xs (i + 2)) (zsc_r xs _) (zsc_r xs _) hc0) (Nat.le_of_ble_eq_true rfl) rfl (Nat.le_of_ble_eq_true rfl) ⟨by omega, by omega⟩ dL_law_711 (fun v τ hp _ _ => ?_)
      obtain ⟨x1, M1, J1, R1, F1, rfl, rfl, t1, t2, t3, t4, s1, s2, s3, s4, s5, s6, s7, s8, s9, s10, s11⟩ := zMade.step hs w1 w2 w3 w4 w5 i3 i4 i5 i6 hp
      have c1 := s1.trans (q0 a 1 (by omega)).1
      have c2 : ∀ j, M1 (a + 28) j = M (a + 28) j := fun j => (s2 j).trans (q0 _ _ (by omega)).1
      have c3 := s3.trans (q0 _ _ (by omega)).1
      have c4 : ∀ j, M1 (a + 836 + 6) j = M (a + 836 + 6) j := fun j => (s4 j).trans (q0 _ _ (by omega)).1
      have c5 : ∀ j, M1 (a + 1) j = M (a + 1) j := fun j => (s5 j).trans (q0 _ _ (by omega)).1
      have c6 : ∀ j, M1 (a + 836 + 1) j = M (a + 836 + 1) j := fun j => (s6 j).trans (q0 _ _ (by omega)).1
      refine jq_pop C dL_law_714 (n := 715) rfl rfl ?_
      refine jq_aload_n C dL_law_715 (n := 716) rfl rfl ?_
      refine jq_aload_n C dL_law_716 (n := 717) rfl rfl ?_
      refine jq_iload C dL_law_717 (n := 719) rfl rfl ?_
      refine jq_iconst C dL_law_719 (n := 720) rfl ?_
      refine jq_iadd C dL_law_720 (n := 721) rfl (v := i + 1) rfl ?_
      refine j_sld C hS0 dL_law_721 (n := 722) rfl ⟨by omega, by omega⟩ ?_
      refine jq_aload_n C dL_law_722 (n := 723) rfl rfl ?_
      refine jq_iload C dL_law_723 (n := 725) rfl rfl ?_
      refine jq_iconst C dL_law_725 (n := 726) rfl ?_
      refine jq_iadd C dL_law_726 (n := 727) rfl (v := i + 2) rfl ?_
      refine j_sld C hS0 dL_law_727 (n := 728) rfl ⟨by omega, by omega⟩ ?_
      refine jq_callVi C dL_law_728 (n := 731) rfl m_L_103 v_yX12_like (zM0 t1.mo) ⟨by decide, rfl⟩ (c_X12_like (w := w) (J := J1) t3.1 t3.2.1 t1.mo (zsc xs (i + 1)) (zsc xs (i + 2)) t3.2.2.2.1 (zsc_r xs _) (zsc_r xs _)) (Nat.le_of_ble_eq_true rfl) rfl rfl (Nat.le_of_ble_eq_true rfl) ⟨by omega, by omega⟩ (fun x2 M2 J2 hI2 e2 => ?_)
      have lo := zTE.lo e2 rfl rfl
      have lo8 : ∀ c k, c < a + 836 → M2 c k = M1 c k := fun c k q => e2.reg (n := 83) rfl rfl (by decide) c k (Or.inl q)
      have mf2 : ∀ j, M2 (a + 836 + 2) j = M1 (a + 836 + 2) j := fun j => e2.getA rfl rfl rfl
      have mf3 : ∀ j, M2 (a + 836 + 3) j = M1 (a + 836 + 3) j := fun j => e2.getA rfl rfl rfl
      have mf4 : ∀ j, M2 (a + 836 + 4) j = M1 (a + 836 + 4) j := fun j => e2.getA rfl rfl rfl
      have mf5 : ∀ j, M2 (a + 836 + 5) j = M1 (a + 836 + 5) j := fun j => e2.getA rfl rfl rfl
      have mg13 : M2 (a + 836) 13 = M1 (a + 836) 13 := e2.getS rfl rfl
      have mg8 : ∀ j, M2 (a + 836 + 8) j = M1 (a + 836 + 8) j := fun j => e2.getA rfl rfl rfl
      have m1 : M2 (a + 836) 2 = M1 (a + 836) 2 := e2.getS rfl rfl
      have m2 : ∀ j, M2 (a + 836 + 6) j = M1 (a + 836 + 6) j := fun j => e2.getA rfl rfl rfl
      have m3 : ∀ j, M2 (a + 836 + 1) j = M1 (a + 836 + 1) j := fun j => e2.getA rfl rfl rfl
      have hE : zVd a V F1 M2 R1 := t3.mod hI2 e2 rfl rfl (t3.2.2.2.1.cg (fun j => e2.getA rfl rfl rfl)) (t3.2.2.2.2.1.cg (fun j => e2.getA rfl rfl rfl)) (t3.2.2.2.2.2.cg (fun j => e2.getA rfl rfl rfl) (fun j => e2.getA rfl rfl rfl))
      refine jq_pop C dL_law_731 (n := 732) rfl rfl ?_
      have t10 : zTF a M2 := hte.2.2.2.1.st ((zRw.lo (fun c k q => (q0 c k (by omega)).1)).tr s7) lo8 mf2 mf3
      have t11 : zTW a M2 := hte.2.2.2.2.1.st ((zRw.lo (fun c k q => (q0 c k (by omega)).1)).tr s7) lo8 mf2 mf3
      have t12 : zTB a M2 := hte.2.2.2.2.2.1.st ((zRw.lo (fun c k q => (q0 c k (by omega)).1)).tr s7).1 (Or.inr rfl) ((zRw.lo (fun c k q => (q0 c k (by omega)).1)).tr s7).2.2.2.1 ((zRw.lo (fun c k q => (q0 c k (by omega)).1)).tr s7).2.2.2.2 lo8 (fun j _ => mf4 j) mf5
      have nm9 : zNM a M2 := hte.2.2.2.2.2.2.2.cg ⟨s8.trans (q0 _ _ (by omega)).1, fun j => (s9 j).trans (q0 _ _ (by omega)).1⟩ ⟨s10.trans (q0 _ _ (by omega)).1, fun j => (s11 j).trans (q0 _ _ (by omega)).1⟩ lo8 ⟨mg13, mg8⟩
      have t13 : zTG a M2 := hte.2.2.2.2.2.2.st ((zRw.lo (fun c k q => (q0 c k (by omega)).1)).tr s7).1 (Or.inr rfl) lo8 nm9
      have te1 := hte.1
      have t9 : zTE a M2 := ⟨by have l1 := lo.1; have y0 := c1; have y1 := c3; omega, fun j j0 j1 => by
        have te2 := hte.2.1 j j0 j1
        have l2 := lo.2.1 j
        have n2 := m2 j
        have z0 := c2 j
        have z1 := c4 j
        omega, fun j j0 j1 => by
        have l1 := lo.1
        have l3 := lo.2.2 j
        have y0 := c1
        have y1 := c3
        have te3 := hte.2.2.1 j j0
        have n3 := m3 j
        have x5 := c5 j
        have x6 := c6 j
        omega, t10, t11, t12, t13⟩
      refine jq_goto C 1021 dL_law_732 rfl ?_
      exact kk (T ++ zL8) M2 J2 R1 (kc + 761) (nc + 164533) ⟨hk.mk h8 t4, t9, V, F1, t1, t2, hE⟩
    · refine jq_callVp C dL_law_711 (n := 714) rfl m_L_100 v_yX11_like hs.hs.1 ⟨by decide, rfl⟩ (c_X11_like_n0 (w := w) (J := J) hI hF hs.hs (zsc xs (i + 1)) (zsc xs (i + 2)) (zsc_r xs _) (zsc_r xs _) hc) (Nat.le_of_ble_eq_true rfl) rfl rfl (Nat.le_of_ble_eq_true rfl) ⟨by omega, by omega⟩ (fun x1 e1 => ?_)
      refine jq_pop C dL_law_714 (n := 715) rfl rfl ?_
      refine jq_aload_n C dL_law_715 (n := 716) rfl rfl ?_
      refine jq_aload_n C dL_law_716 (n := 717) rfl rfl ?_
      refine jq_iload C dL_law_717 (n := 719) rfl rfl ?_
      refine jq_iconst C dL_law_719 (n := 720) rfl ?_
      refine jq_iadd C dL_law_720 (n := 721) rfl (v := i + 1) rfl ?_
      refine j_sld C hS0 dL_law_721 (n := 722) rfl ⟨by omega, by omega⟩ ?_
      refine jq_aload_n C dL_law_722 (n := 723) rfl rfl ?_
      refine jq_iload C dL_law_723 (n := 725) rfl rfl ?_
      refine jq_iconst C dL_law_725 (n := 726) rfl ?_
      refine jq_iadd C dL_law_726 (n := 727) rfl (v := i + 2) rfl ?_
      refine j_sld C hS0 dL_law_727 (n := 728) rfl ⟨by omega, by omega⟩ ?_
      refine jq_callVi C dL_law_728 (n := 731) rfl m_L_103 v_yX12_like (zM0 hs.mo) ⟨by decide, rfl⟩ (c_X12_like (w := w) (J := J) hd.1 hd.2.1 hs.mo (zsc xs (i + 1)) (zsc xs (i + 2)) hd.2.2.2.1 (zsc_r xs _) (zsc_r xs _)) (Nat.le_of_ble_eq_true rfl) rfl rfl (Nat.le_of_ble_eq_true rfl) ⟨by omega, by omega⟩ (fun x2 M2 J2 hI2 e2 => ?_)
      have lo := zTE.lo e2 rfl rfl
      have lo8 : ∀ c k, c < a + 836 → M2 c k = M c k := fun c k q => e2.reg (n := 83) rfl rfl (by decide) c k (Or.inl q)
      have mf2 : ∀ j, M2 (a + 836 + 2) j = M (a + 836 + 2) j := fun j => e2.getA rfl rfl rfl
      have mf3 : ∀ j, M2 (a + 836 + 3) j = M (a + 836 + 3) j := fun j => e2.getA rfl rfl rfl
      have mf4 : ∀ j, M2 (a + 836 + 4) j = M (a + 836 + 4) j := fun j => e2.getA rfl rfl rfl
      have mf5 : ∀ j, M2 (a + 836 + 5) j = M (a + 836 + 5) j := fun j => e2.getA rfl rfl rfl
      have mg13 : M2 (a + 836) 13 = M (a + 836) 13 := e2.getS rfl rfl
      have mg8 : ∀ j, M2 (a + 836 + 8) j = M (a + 836 + 8) j := fun j => e2.getA rfl rfl rfl
      have m1 : M2 (a + 836) 2 = M (a + 836) 2 := e2.getS rfl rfl
      have m2 : ∀ j, M2 (a + 836 + 6) j = M (a + 836 + 6) j := fun j => e2.getA rfl rfl rfl
      have m3 : ∀ j, M2 (a + 836 + 1) j = M (a + 836 + 1) j := fun j => e2.getA rfl rfl rfl
      have hE : zVd a U F M2 R := hd.mod hI2 e2 rfl rfl (hd.2.2.2.1.cg (fun j => e2.getA rfl rfl rfl)) (hd.2.2.2.2.1.cg (fun j => e2.getA rfl rfl rfl)) (hd.2.2.2.2.2.cg (fun j => e2.getA rfl rfl rfl) (fun j => e2.getA rfl rfl rfl))
      refine jq_pop C dL_law_731 (n := 732) rfl rfl ?_
      have t10 : zTF a M2 := hte.2.2.2.1.st zRw.rf lo8 mf2 mf3
      have t11 : zTW a M2 := hte.2.2.2.2.1.st zRw.rf lo8 mf2 mf3
      have t12 : zTB a M2 := hte.2.2.2.2.2.1.st zRw.rf.1 (Or.inr rfl) zRw.rf.2.2.2.1 zRw.rf.2.2.2.2 lo8 (fun j _ => mf4 j) mf5
      have nm9 : zNM a M2 := hte.2.2.2.2.2.2.2.cg ⟨rfl, fun _ => rfl⟩ ⟨rfl, fun _ => rfl⟩ lo8 ⟨mg13, mg8⟩
      have t13 : zTG a M2 := hte.2.2.2.2.2.2.st zRw.rf.1 (Or.inr rfl) lo8 nm9
      have te1 := hte.1
      have t9 : zTE a M2 := ⟨by have l1 := lo.1; omega, fun j j0 j1 => by
        have te2 := hte.2.1 j j0 j1
        have l2 := lo.2.1 j
        have n2 := m2 j
        omega, fun j j0 j1 => by
        have l1 := lo.1
        have l3 := lo.2.2 j
        have te3 := hte.2.2.1 j j0
        have n3 := m3 j
        omega, t10, t11, t12, t13⟩
      refine jq_goto C 1021 dL_law_732 rfl ?_
      exact kk T M2 J2 R kc nc ⟨hk.up ⟨by omega, by omega⟩, t9, U, F, hs, hy, hE⟩
  · refine jq_callViE C dL_law_711 (n := 714) rfl m_L_100 v_yX11_like hs.hs.1 ⟨by decide, rfl⟩ (c_X11_like_s (w := w) (J := J) hI hF hs.hs (zsc xs (i + 1)) (zsc xs (i + 2)) h8 hp.st (zsc_r xs _) (zsc_r xs _) hci) (Nat.le_of_ble_eq_true rfl) rfl rfl (Nat.le_of_ble_eq_true rfl) ⟨by omega, by omega⟩ (fun x1 M1 J1 R1 hI1 e1 => ?_)
    have hF1 : zF F R1 := e1.2.F hF (hp.2.2.2 _ _ (by omega)) (hp.2.2.2 _ _ (by omega)) (hp.2.2.2 _ _ (by omega))
    have h9 : R1 a 8 = R a 8 := e1.2 a 8 (by omega) (by omega) (by omega)
    have hD : zVd a U F M1 R1 := hd.cl2 hs hI1 e1.1 (by decide) hF1
    have ec := hs.ec (e1.1.le (by decide))
    have c1 := hs.tp e1.1 (by decide)
    have c2 := hs.kd e1.1 (by decide)
    have c3 := hs.tr e1.1 (by decide)
    refine jq_pop C dL_law_714 (n := 715) rfl rfl ?_
    refine jq_aload_n C dL_law_715 (n := 716) rfl rfl ?_
    refine jq_aload_n C dL_law_716 (n := 717) rfl rfl ?_
    refine jq_iload C dL_law_717 (n := 719) rfl rfl ?_
    refine jq_iconst C dL_law_719 (n := 720) rfl ?_
    refine jq_iadd C dL_law_720 (n := 721) rfl (v := i + 1) rfl ?_
    refine j_sld C hS0 dL_law_721 (n := 722) rfl ⟨by omega, by omega⟩ ?_
    refine jq_aload_n C dL_law_722 (n := 723) rfl rfl ?_
    refine jq_iload C dL_law_723 (n := 725) rfl rfl ?_
    refine jq_iconst C dL_law_725 (n := 726) rfl ?_
    refine jq_iadd C dL_law_726 (n := 727) rfl (v := i + 2) rfl ?_
    refine j_sld C hS0 dL_law_727 (n := 728) rfl ⟨by omega, by omega⟩ ?_
    refine jq_callVi C dL_law_728 (n := 731) rfl m_L_103 v_yX12_like (zM0 hs.mo) ⟨by decide, rfl⟩ (c_X12_like (w := w) (J := J1) hD.1 hD.2.1 hs.mo (zsc xs (i + 1)) (zsc xs (i + 2)) hD.2.2.2.1 (zsc_r xs _) (zsc_r xs _)) (Nat.le_of_ble_eq_true rfl) rfl rfl (Nat.le_of_ble_eq_true rfl) ⟨by omega, by omega⟩ (fun x2 M2 J2 hI2 e2 => ?_)
    have lo := zTE.lo e2 rfl rfl
    have lo8 : ∀ c k, c < a + 836 → M2 c k = M1 c k := fun c k q => e2.reg (n := 83) rfl rfl (by decide) c k (Or.inl q)
    have mf2 : ∀ j, M2 (a + 836 + 2) j = M1 (a + 836 + 2) j := fun j => e2.getA rfl rfl rfl
    have mf3 : ∀ j, M2 (a + 836 + 3) j = M1 (a + 836 + 3) j := fun j => e2.getA rfl rfl rfl
    have mf4 : ∀ j, M2 (a + 836 + 4) j = M1 (a + 836 + 4) j := fun j => e2.getA rfl rfl rfl
    have mf5 : ∀ j, M2 (a + 836 + 5) j = M1 (a + 836 + 5) j := fun j => e2.getA rfl rfl rfl
    have mg13 : M2 (a + 836) 13 = M1 (a + 836) 13 := e2.getS rfl rfl
    have mg8 : ∀ j, M2 (a + 836 + 8) j = M1 (a + 836 + 8) j := fun j => e2.getA rfl rfl rfl
    have m1 : M2 (a + 836) 2 = M1 (a + 836) 2 := e2.getS rfl rfl
    have m2 : ∀ j, M2 (a + 836 + 6) j = M1 (a + 836 + 6) j := fun j => e2.getA rfl rfl rfl
    have m3 : ∀ j, M2 (a + 836 + 1) j = M1 (a + 836 + 1) j := fun j => e2.getA rfl rfl rfl
    have hE : zVd a U F M2 R1 := hD.mod hI2 e2 rfl rfl (hD.2.2.2.1.cg (fun j => e2.getA rfl rfl rfl)) (hD.2.2.2.2.1.cg (fun j => e2.getA rfl rfl rfl)) (hD.2.2.2.2.2.cg (fun j => e2.getA rfl rfl rfl) (fun j => e2.getA rfl rfl rfl))
    refine jq_pop C dL_law_731 (n := 732) rfl rfl ?_
    have t10 : zTF a M2 := hte.2.2.2.1.st (hs.rws e1.1 (by decide)) lo8 mf2 mf3
    have t11 : zTW a M2 := hte.2.2.2.2.1.st (hs.rws e1.1 (by decide)) lo8 mf2 mf3
    have t12 : zTB a M2 := hte.2.2.2.2.2.1.st (hs.rws e1.1 (by decide)).1 (Or.inr rfl) (hs.rws e1.1 (by decide)).2.2.2.1 (hs.rws e1.1 (by decide)).2.2.2.2 lo8 (fun j _ => mf4 j) mf5
    have nm9 : zNM a M2 := hte.2.2.2.2.2.2.2.cg (hs.gn e1.1 (by decide)) (hs.eg (e1.1.le (by decide))) lo8 ⟨mg13, mg8⟩
    have t13 : zTG a M2 := hte.2.2.2.2.2.2.st (hs.rws e1.1 (by decide)).1 (Or.inr rfl) lo8 nm9
    have te1 := hte.1
    have t9 : zTE a M2 := ⟨by have l1 := lo.1; have y0 := c1; have y1 := ec.1; omega, fun j j0 j1 => by
      have te2 := hte.2.1 j j0 j1
      have l2 := lo.2.1 j
      have n2 := m2 j
      have z0 := c2 j
      have z1 := ec.2.1 j
      omega, fun j j0 j1 => by
      have l1 := lo.1
      have l3 := lo.2.2 j
      have y0 := c1
      have y1 := ec.1
      have te3 := hte.2.2.1 j j0
      have n3 := m3 j
      have x5 := c3 j
      have x6 := ec.2.2 j
      omega, t10, t11, t12, t13⟩
    refine jq_goto C 1021 dL_law_732 rfl ?_
    exact kk T M2 J2 R1 kc nc ⟨(hk.R h9).up ⟨by omega, by omega⟩, t9, U, F, hs, hy.R h9, hE⟩
theorem lc_18 (C : zCx w p s m args meth c yL_law cL_law 8 (some .boolean)) (hS0 : zScr w s sb L xs) (hi : i = 6 * (it : Int)) (hL : i ≤ (L : Int) - 6) (hv : zLv a it kc nc T M R) (kk : ∀ (T2 : zTl) (M2 : zMm) (J2 : zJm) (R2 : zRm') (kc2 nc2 : Nat), zLv a (it + 1) kc2 nc2 T2 M2 R2 → zJ w p e 1312 601024 7293034 s m args below meth c 8 Q kc2 nc2 1021 [.ref sb, .ref (w.2.1 + a), .ref (w.2.1 + (a + 836)), .ref (w.2.1 + (a + 919)), zi i, .null, .null, .null] [] (T2, M2, J2, R2)) : zJ w p e 1312 601024 7293034 s m args below meth c 8 Q kc nc 735 [.ref sb, .ref (w.2.1 + a), .ref (w.2.1 + (a + 836)), .ref (w.2.1 + (a + 919)), zi i, .null, .null, .null] [] (T, M, J, R) := by
  obtain ⟨hk, hte, U, F, hs, hy, hd⟩ := hv
  have hI := hd.1
  have hF := hd.2.1
  have hci := hd.2.2.1
  have hL2 := hS0.2.2.2
  have hk1 := hk.1
  have hk2 := hk.2.1
  refine jq_aload_n C dL_law_735 (n := 736) rfl rfl ?_
  refine jq_aload_n C dL_law_736 (n := 737) rfl rfl ?_
  refine jq_iload C dL_law_737 (n := 739) rfl rfl ?_
  refine jq_iconst C dL_law_739 (n := 740) rfl ?_
  refine jq_iadd C dL_law_740 (n := 741) rfl (v := i + 1) rfl ?_
  refine j_sld C hS0 dL_law_741 (n := 742) rfl ⟨by omega, by omega⟩ ?_
  rcases id hy with h8 | ⟨b, h8, hb, hp⟩
  · by_cases hc : 0 ≤ (zsc xs (i + 1)) ∧ (zsc xs (i + 1)) ≤ 3 ∧ M (a + 2 + 9 + 4 * (zsc xs (i + 1)).toNat) 4 = 1
    · obtain ⟨V, M0, J0, R0, q0, hz, w1, w2, w3, w4, w5, i1, i2, i3, i4, i5, i6⟩ := zGrow J hs hd
      have hlen := hs.len
      obtain ⟨hs1, hs2, hs3, hs4, hs5, hs6, hs7, ⟨Rz, n1, n2⟩, hs9, hs10, hs11⟩ := id hs
      have h0 : zHideSets T F (zGu V) a := zMk11 hs1 (zGk11 w1) n1 n2 hs9
      have k8 := hk.2.2 h8
      have hc0 : 0 ≤ (zsc xs (i + 1)) ∧ (zsc xs (i + 1)) ≤ 3 ∧ M0 (a + 2 + 9 + 4 * (zsc xs (i + 1)).toNat) 4 = 1 := by
        have hcb := hc
        rw [(q0 (a + 2 + 9 + 4 * (zsc xs (i + 1)).toNat) 4 (by omega)).1]
        exact hc
      refine zJ.cg (M2 := M0) (J2 := J0) (R2 := R0) ?_ q0
      refine jr_callV C m_L_104 v_yX11_depends (σ := (T, M0, J0, R0)) h0.1 (by decide) rfl rfl (c_X11_depends_n1 (w := w) (J := J0) i1 i2 h0 rfl ((q0 a 8 (by omega)).2.2.trans h8) hz (zGk8 w5) hs1 (zGk11 w1) n1 n2 hs9 i3 (zsc xs (i + 1)) (zsc_r xs _) hc0) (Nat.le_of_ble_eq_true rfl) rfl (Nat.le_of_ble_eq_true rfl) ⟨by omega, by omega⟩ dL_law_742 (fun v τ hp _ _ => ?_)
      obtain ⟨x1, M1, J1, R1, F1, rfl, rfl, t1, t2, t3, t4, s1, s2, s3, s4, s5, s6, s7, s8, s9, s10, s11⟩ := zMade.step hs w1 w2 w3 w4 w5 i3 i4 i5 i6 hp
      have c1 := s1.trans (q0 a 1 (by omega)).1
      have c2 : ∀ j, M1 (a + 28) j = M (a + 28) j := fun j => (s2 j).trans (q0 _ _ (by omega)).1
      have c3 := s3.trans (q0 _ _ (by omega)).1
      have c4 : ∀ j, M1 (a + 836 + 6) j = M (a + 836 + 6) j := fun j => (s4 j).trans (q0 _ _ (by omega)).1
      have c5 : ∀ j, M1 (a + 1) j = M (a + 1) j := fun j => (s5 j).trans (q0 _ _ (by omega)).1
      have c6 : ∀ j, M1 (a + 836 + 1) j = M (a + 836 + 1) j := fun j => (s6 j).trans (q0 _ _ (by omega)).1
      refine jq_pop C dL_law_745 (n := 746) rfl rfl ?_
      refine jq_aload_n C dL_law_746 (n := 747) rfl rfl ?_
      refine jq_aload_n C dL_law_747 (n := 748) rfl rfl ?_
      refine jq_iload C dL_law_748 (n := 750) rfl rfl ?_
      refine jq_iconst C dL_law_750 (n := 751) rfl ?_
      refine jq_iadd C dL_law_751 (n := 752) rfl (v := i + 1) rfl ?_
      refine j_sld C hS0 dL_law_752 (n := 753) rfl ⟨by omega, by omega⟩ ?_
      refine jq_callVi C dL_law_753 (n := 756) rfl m_L_107 v_yX12_depends (zM0 t1.mo) ⟨by decide, rfl⟩ (c_X12_depends (w := w) (J := J1) t3.1 t3.2.1 t1.mo (zsc xs (i + 1)) t3.2.2.2.1 (zsc_r xs _)) (Nat.le_of_ble_eq_true rfl) rfl rfl (Nat.le_of_ble_eq_true rfl) ⟨by omega, by omega⟩ (fun x2 M2 J2 hI2 e2 => ?_)
      have lo := zTE.lo e2 rfl rfl
      have lo8 : ∀ c k, c < a + 836 → M2 c k = M1 c k := fun c k q => e2.reg (n := 83) rfl rfl (by decide) c k (Or.inl q)
      have mf2 : ∀ j, M2 (a + 836 + 2) j = M1 (a + 836 + 2) j := fun j => e2.getA rfl rfl rfl
      have mf3 : ∀ j, M2 (a + 836 + 3) j = M1 (a + 836 + 3) j := fun j => e2.getA rfl rfl rfl
      have mf4 : ∀ j, M2 (a + 836 + 4) j = M1 (a + 836 + 4) j := fun j => e2.getA rfl rfl rfl
      have mf5 : ∀ j, M2 (a + 836 + 5) j = M1 (a + 836 + 5) j := fun j => e2.getA rfl rfl rfl
      have mg13 : M2 (a + 836) 13 = M1 (a + 836) 13 := e2.getS rfl rfl
      have mg8 : ∀ j, M2 (a + 836 + 8) j = M1 (a + 836 + 8) j := fun j => e2.getA rfl rfl rfl
      have m1 : M2 (a + 836) 2 = M1 (a + 836) 2 := e2.getS rfl rfl
      have m2 : ∀ j, M2 (a + 836 + 6) j = M1 (a + 836 + 6) j := fun j => e2.getA rfl rfl rfl
      have m3 : ∀ j, M2 (a + 836 + 1) j = M1 (a + 836 + 1) j := fun j => e2.getA rfl rfl rfl
      have hE : zVd a V F1 M2 R1 := t3.mod hI2 e2 rfl rfl (t3.2.2.2.1.cg (fun j => e2.getA rfl rfl rfl)) (t3.2.2.2.2.1.cg (fun j => e2.getA rfl rfl rfl)) (t3.2.2.2.2.2.cg (fun j => e2.getA rfl rfl rfl) (fun j => e2.getA rfl rfl rfl))
      refine jq_pop C dL_law_756 (n := 757) rfl rfl ?_
      have t10 : zTF a M2 := hte.2.2.2.1.st ((zRw.lo (fun c k q => (q0 c k (by omega)).1)).tr s7) lo8 mf2 mf3
      have t11 : zTW a M2 := hte.2.2.2.2.1.st ((zRw.lo (fun c k q => (q0 c k (by omega)).1)).tr s7) lo8 mf2 mf3
      have t12 : zTB a M2 := hte.2.2.2.2.2.1.st ((zRw.lo (fun c k q => (q0 c k (by omega)).1)).tr s7).1 (Or.inr rfl) ((zRw.lo (fun c k q => (q0 c k (by omega)).1)).tr s7).2.2.2.1 ((zRw.lo (fun c k q => (q0 c k (by omega)).1)).tr s7).2.2.2.2 lo8 (fun j _ => mf4 j) mf5
      have nm9 : zNM a M2 := hte.2.2.2.2.2.2.2.cg ⟨s8.trans (q0 _ _ (by omega)).1, fun j => (s9 j).trans (q0 _ _ (by omega)).1⟩ ⟨s10.trans (q0 _ _ (by omega)).1, fun j => (s11 j).trans (q0 _ _ (by omega)).1⟩ lo8 ⟨mg13, mg8⟩
      have t13 : zTG a M2 := hte.2.2.2.2.2.2.st ((zRw.lo (fun c k q => (q0 c k (by omega)).1)).tr s7).1 (Or.inr rfl) lo8 nm9
      have te1 := hte.1
      have t9 : zTE a M2 := ⟨by have l1 := lo.1; have y0 := c1; have y1 := c3; omega, fun j j0 j1 => by
        have te2 := hte.2.1 j j0 j1
        have l2 := lo.2.1 j
        have n2 := m2 j
        have z0 := c2 j
        have z1 := c4 j
        omega, fun j j0 j1 => by
        have l1 := lo.1
        have l3 := lo.2.2 j
        have y0 := c1
        have y1 := c3
        have te3 := hte.2.2.1 j j0
        have n3 := m3 j
        have x5 := c5 j
        have x6 := c6 j
        omega, t10, t11, t12, t13⟩
      refine jq_goto C 1021 dL_law_757 rfl ?_
      exact kk (T ++ zL8) M2 J2 R1 (kc + 761) (nc + 164533) ⟨hk.mk h8 t4, t9, V, F1, t1, t2, hE⟩
    · refine jq_callVp C dL_law_742 (n := 745) rfl m_L_104 v_yX11_depends hs.hs.1 ⟨by decide, rfl⟩ (c_X11_depends_n0 (w := w) (J := J) hI hF hs.hs (zsc xs (i + 1)) (zsc_r xs _) hc) (Nat.le_of_ble_eq_true rfl) rfl rfl (Nat.le_of_ble_eq_true rfl) ⟨by omega, by omega⟩ (fun x1 e1 => ?_)
      refine jq_pop C dL_law_745 (n := 746) rfl rfl ?_
      refine jq_aload_n C dL_law_746 (n := 747) rfl rfl ?_
      refine jq_aload_n C dL_law_747 (n := 748) rfl rfl ?_
      refine jq_iload C dL_law_748 (n := 750) rfl rfl ?_
      refine jq_iconst C dL_law_750 (n := 751) rfl ?_
      refine jq_iadd C dL_law_751 (n := 752) rfl (v := i + 1) rfl ?_
      refine j_sld C hS0 dL_law_752 (n := 753) rfl ⟨by omega, by omega⟩ ?_
      refine jq_callVi C dL_law_753 (n := 756) rfl m_L_107 v_yX12_depends (zM0 hs.mo) ⟨by decide, rfl⟩ (c_X12_depends (w := w) (J := J) hd.1 hd.2.1 hs.mo (zsc xs (i + 1)) hd.2.2.2.1 (zsc_r xs _)) (Nat.le_of_ble_eq_true rfl) rfl rfl (Nat.le_of_ble_eq_true rfl) ⟨by omega, by omega⟩ (fun x2 M2 J2 hI2 e2 => ?_)
      have lo := zTE.lo e2 rfl rfl
      have lo8 : ∀ c k, c < a + 836 → M2 c k = M c k := fun c k q => e2.reg (n := 83) rfl rfl (by decide) c k (Or.inl q)
      have mf2 : ∀ j, M2 (a + 836 + 2) j = M (a + 836 + 2) j := fun j => e2.getA rfl rfl rfl
      have mf3 : ∀ j, M2 (a + 836 + 3) j = M (a + 836 + 3) j := fun j => e2.getA rfl rfl rfl
      have mf4 : ∀ j, M2 (a + 836 + 4) j = M (a + 836 + 4) j := fun j => e2.getA rfl rfl rfl
      have mf5 : ∀ j, M2 (a + 836 + 5) j = M (a + 836 + 5) j := fun j => e2.getA rfl rfl rfl
      have mg13 : M2 (a + 836) 13 = M (a + 836) 13 := e2.getS rfl rfl
      have mg8 : ∀ j, M2 (a + 836 + 8) j = M (a + 836 + 8) j := fun j => e2.getA rfl rfl rfl
      have m1 : M2 (a + 836) 2 = M (a + 836) 2 := e2.getS rfl rfl
      have m2 : ∀ j, M2 (a + 836 + 6) j = M (a + 836 + 6) j := fun j => e2.getA rfl rfl rfl
      have m3 : ∀ j, M2 (a + 836 + 1) j = M (a + 836 + 1) j := fun j => e2.getA rfl rfl rfl
      have hE : zVd a U F M2 R := hd.mod hI2 e2 rfl rfl (hd.2.2.2.1.cg (fun j => e2.getA rfl rfl rfl)) (hd.2.2.2.2.1.cg (fun j => e2.getA rfl rfl rfl)) (hd.2.2.2.2.2.cg (fun j => e2.getA rfl rfl rfl) (fun j => e2.getA rfl rfl rfl))
      refine jq_pop C dL_law_756 (n := 757) rfl rfl ?_
      have t10 : zTF a M2 := hte.2.2.2.1.st zRw.rf lo8 mf2 mf3
      have t11 : zTW a M2 := hte.2.2.2.2.1.st zRw.rf lo8 mf2 mf3
      have t12 : zTB a M2 := hte.2.2.2.2.2.1.st zRw.rf.1 (Or.inr rfl) zRw.rf.2.2.2.1 zRw.rf.2.2.2.2 lo8 (fun j _ => mf4 j) mf5
      have nm9 : zNM a M2 := hte.2.2.2.2.2.2.2.cg ⟨rfl, fun _ => rfl⟩ ⟨rfl, fun _ => rfl⟩ lo8 ⟨mg13, mg8⟩
      have t13 : zTG a M2 := hte.2.2.2.2.2.2.st zRw.rf.1 (Or.inr rfl) lo8 nm9
      have te1 := hte.1
      have t9 : zTE a M2 := ⟨by have l1 := lo.1; omega, fun j j0 j1 => by
        have te2 := hte.2.1 j j0 j1
        have l2 := lo.2.1 j
        have n2 := m2 j
        omega, fun j j0 j1 => by
        have l1 := lo.1
        have l3 := lo.2.2 j
        have te3 := hte.2.2.1 j j0
        have n3 := m3 j
        omega, t10, t11, t12, t13⟩
      refine jq_goto C 1021 dL_law_757 rfl ?_
      exact kk T M2 J2 R kc nc ⟨hk.up ⟨by omega, by omega⟩, t9, U, F, hs, hy, hE⟩
  · refine jq_callViE C dL_law_742 (n := 745) rfl m_L_104 v_yX11_depends hs.hs.1 ⟨by decide, rfl⟩ (c_X11_depends_s (w := w) (J := J) hI hF hs.hs (zsc xs (i + 1)) h8 hp.st (zsc_r xs _) hci) (Nat.le_of_ble_eq_true rfl) rfl rfl (Nat.le_of_ble_eq_true rfl) ⟨by omega, by omega⟩ (fun x1 M1 J1 R1 hI1 e1 => ?_)
    have hF1 : zF F R1 := e1.2.F hF (hp.2.2.2 _ _ (by omega)) (hp.2.2.2 _ _ (by omega)) (hp.2.2.2 _ _ (by omega))
    have h9 : R1 a 8 = R a 8 := e1.2 a 8 (by omega) (by omega) (by omega)
    have hD : zVd a U F M1 R1 := hd.cl2 hs hI1 e1.1 (by decide) hF1
    have ec := hs.ec (e1.1.le (by decide))
    have c1 := hs.tp e1.1 (by decide)
    have c2 := hs.kd e1.1 (by decide)
    have c3 := hs.tr e1.1 (by decide)
    refine jq_pop C dL_law_745 (n := 746) rfl rfl ?_
    refine jq_aload_n C dL_law_746 (n := 747) rfl rfl ?_
    refine jq_aload_n C dL_law_747 (n := 748) rfl rfl ?_
    refine jq_iload C dL_law_748 (n := 750) rfl rfl ?_
    refine jq_iconst C dL_law_750 (n := 751) rfl ?_
    refine jq_iadd C dL_law_751 (n := 752) rfl (v := i + 1) rfl ?_
    refine j_sld C hS0 dL_law_752 (n := 753) rfl ⟨by omega, by omega⟩ ?_
    refine jq_callVi C dL_law_753 (n := 756) rfl m_L_107 v_yX12_depends (zM0 hs.mo) ⟨by decide, rfl⟩ (c_X12_depends (w := w) (J := J1) hD.1 hD.2.1 hs.mo (zsc xs (i + 1)) hD.2.2.2.1 (zsc_r xs _)) (Nat.le_of_ble_eq_true rfl) rfl rfl (Nat.le_of_ble_eq_true rfl) ⟨by omega, by omega⟩ (fun x2 M2 J2 hI2 e2 => ?_)
    have lo := zTE.lo e2 rfl rfl
    have lo8 : ∀ c k, c < a + 836 → M2 c k = M1 c k := fun c k q => e2.reg (n := 83) rfl rfl (by decide) c k (Or.inl q)
    have mf2 : ∀ j, M2 (a + 836 + 2) j = M1 (a + 836 + 2) j := fun j => e2.getA rfl rfl rfl
    have mf3 : ∀ j, M2 (a + 836 + 3) j = M1 (a + 836 + 3) j := fun j => e2.getA rfl rfl rfl
    have mf4 : ∀ j, M2 (a + 836 + 4) j = M1 (a + 836 + 4) j := fun j => e2.getA rfl rfl rfl
    have mf5 : ∀ j, M2 (a + 836 + 5) j = M1 (a + 836 + 5) j := fun j => e2.getA rfl rfl rfl
    have mg13 : M2 (a + 836) 13 = M1 (a + 836) 13 := e2.getS rfl rfl
    have mg8 : ∀ j, M2 (a + 836 + 8) j = M1 (a + 836 + 8) j := fun j => e2.getA rfl rfl rfl
    have m1 : M2 (a + 836) 2 = M1 (a + 836) 2 := e2.getS rfl rfl
    have m2 : ∀ j, M2 (a + 836 + 6) j = M1 (a + 836 + 6) j := fun j => e2.getA rfl rfl rfl
    have m3 : ∀ j, M2 (a + 836 + 1) j = M1 (a + 836 + 1) j := fun j => e2.getA rfl rfl rfl
    have hE : zVd a U F M2 R1 := hD.mod hI2 e2 rfl rfl (hD.2.2.2.1.cg (fun j => e2.getA rfl rfl rfl)) (hD.2.2.2.2.1.cg (fun j => e2.getA rfl rfl rfl)) (hD.2.2.2.2.2.cg (fun j => e2.getA rfl rfl rfl) (fun j => e2.getA rfl rfl rfl))
    refine jq_pop C dL_law_756 (n := 757) rfl rfl ?_
    have t10 : zTF a M2 := hte.2.2.2.1.st (hs.rws e1.1 (by decide)) lo8 mf2 mf3
    have t11 : zTW a M2 := hte.2.2.2.2.1.st (hs.rws e1.1 (by decide)) lo8 mf2 mf3
    have t12 : zTB a M2 := hte.2.2.2.2.2.1.st (hs.rws e1.1 (by decide)).1 (Or.inr rfl) (hs.rws e1.1 (by decide)).2.2.2.1 (hs.rws e1.1 (by decide)).2.2.2.2 lo8 (fun j _ => mf4 j) mf5
    have nm9 : zNM a M2 := hte.2.2.2.2.2.2.2.cg (hs.gn e1.1 (by decide)) (hs.eg (e1.1.le (by decide))) lo8 ⟨mg13, mg8⟩
    have t13 : zTG a M2 := hte.2.2.2.2.2.2.st (hs.rws e1.1 (by decide)).1 (Or.inr rfl) lo8 nm9
    have te1 := hte.1
    have t9 : zTE a M2 := ⟨by have l1 := lo.1; have y0 := c1; have y1 := ec.1; omega, fun j j0 j1 => by
      have te2 := hte.2.1 j j0 j1
      have l2 := lo.2.1 j
      have n2 := m2 j
      have z0 := c2 j
      have z1 := ec.2.1 j
      omega, fun j j0 j1 => by
      have l1 := lo.1
      have l3 := lo.2.2 j
      have y0 := c1
      have y1 := ec.1
      have te3 := hte.2.2.1 j j0
      have n3 := m3 j
      have x5 := c3 j
      have x6 := ec.2.2 j
      omega, t10, t11, t12, t13⟩
    refine jq_goto C 1021 dL_law_757 rfl ?_
    exact kk T M2 J2 R1 kc nc ⟨(hk.R h9).up ⟨by omega, by omega⟩, t9, U, F, hs, hy.R h9, hE⟩
theorem lc_19 (C : zCx w p s m args meth c yL_law cL_law 8 (some .boolean)) (hS0 : zScr w s sb L xs) (hi : i = 6 * (it : Int)) (hL : i ≤ (L : Int) - 6) (hv : zLv a it kc nc T M R) (kk : ∀ (T2 : zTl) (M2 : zMm) (J2 : zJm) (R2 : zRm') (kc2 nc2 : Nat), zLv a (it + 1) kc2 nc2 T2 M2 R2 → zJ w p e 1312 601024 7293034 s m args below meth c 8 Q kc2 nc2 1021 [.ref sb, .ref (w.2.1 + a), .ref (w.2.1 + (a + 836)), .ref (w.2.1 + (a + 919)), zi i, .null, .null, .null] [] (T2, M2, J2, R2)) : zJ w p e 1312 601024 7293034 s m args below meth c 8 Q kc nc 760 [.ref sb, .ref (w.2.1 + a), .ref (w.2.1 + (a + 836)), .ref (w.2.1 + (a + 919)), zi i, .null, .null, .null] [] (T, M, J, R) := by
  obtain ⟨hk, hte, U, F, hs, hy, hd⟩ := hv
  have hI := hd.1
  have hF := hd.2.1
  have hci := hd.2.2.1
  have hL2 := hS0.2.2.2
  have hk1 := hk.1
  have hk2 := hk.2.1
  refine jq_aload_n C dL_law_760 (n := 761) rfl rfl ?_
  refine jq_aload_n C dL_law_761 (n := 762) rfl rfl ?_
  refine jq_iload C dL_law_762 (n := 764) rfl rfl ?_
  refine jq_iconst C dL_law_764 (n := 765) rfl ?_
  refine jq_iadd C dL_law_765 (n := 766) rfl (v := i + 1) rfl ?_
  refine j_sld C hS0 dL_law_766 (n := 767) rfl ⟨by omega, by omega⟩ ?_
  refine jq_callVi C dL_law_767 (n := 770) rfl m_L_108 v_yX11_guard hs.hs.1 ⟨by decide, rfl⟩ (c_X11_guard_g (w := w) (J := J) hI hF hs.hs (zsc xs (i + 1)) (zsc_r xs _) hci) (Nat.le_of_ble_eq_true rfl) rfl rfl (Nat.le_of_ble_eq_true rfl) ⟨by omega, by omega⟩ (fun x1 M1 J1 hI1 e1 => ?_)
  have hD : zVd a U F M1 R := hd.cls hs hI1 e1.1 (zOn.ci hci e1.2.1) hF
  have ec := hs.ec (e1.1.le (by decide))
  have c1 := (e1.2.1 a 1 (by omega) (by omega))
  have c2 := (fun j => e1.2.1 (a + 28) j (by omega) (by omega))
  have c3 := (fun j => e1.2.1 (a + 1) j (by omega) (by omega))
  have rw9 : zRw a M M1 := ⟨zOn.ou e1.2.1, hs.ef e1.1⟩
  refine jq_aload_n C dL_law_770 (n := 771) rfl rfl ?_
  refine jq_aload_n C dL_law_771 (n := 772) rfl rfl ?_
  refine jq_iload C dL_law_772 (n := 774) rfl rfl ?_
  refine jq_iconst C dL_law_774 (n := 775) rfl ?_
  refine jq_iadd C dL_law_775 (n := 776) rfl (v := i + 1) rfl ?_
  refine j_sld C hS0 dL_law_776 (n := 777) rfl ⟨by omega, by omega⟩ ?_
  have hp9 : ∀ j, 8 ≤ j → j < 168 → 0 ≤ M (a + 836 + 2) j := fun j j0 j1 => (zI.at hI ((zM9 hs.mo j).trans (zfG_8 (by omega)))).1
  have hE2 : M1 (a + 836 + 2) = M (a + 836 + 2) := funext (hs.ef e1.1).1
  have hE4 : M1 (a + 836 + 4) = M (a + 836 + 4) := funext (hs.ef e1.1).2.2.1
  refine jq_callVi C dL_law_777 (n := 780) rfl m_L_111 v_yX12_guard (zM0 hs.mo) ⟨by decide, rfl⟩ (c_X12_guard_g (w := w) (W := M (a + 2 + 9 + 4 * ((zsc xs (i + 1))).toNat + 3)) (J := J1) hD.1 hD.2.1 hs.mo (zsc xs (i + 1)) hD.2.2.2.1 (zsc_r xs _) (fun z => by rw [hE2, hE4]; exact hte.2.2.2.2.2.1.pw hte.2.2.2.1 hd.2.2.1 hp9 z)) (Nat.le_of_ble_eq_true rfl) rfl rfl (Nat.le_of_ble_eq_true rfl) ⟨by omega, by omega⟩ (fun x2 M2 J2 hI2 e2 => ?_)
  have lo := zTE.lo e2.1 rfl rfl
  have lo8 : ∀ c k, c < a + 836 → M2 c k = M1 c k := fun c k q => e2.1.reg (n := 83) rfl rfl (by decide) c k (Or.inl q)
  have mf2 : ∀ j, M2 (a + 836 + 2) j = M1 (a + 836 + 2) j := fun j => e2.1.getA rfl rfl rfl
  have mf3 : ∀ j, M2 (a + 836 + 3) j = M1 (a + 836 + 3) j := fun j => e2.1.getA rfl rfl rfl
  have mf4 : ∀ j, M2 (a + 836 + 4) j = M1 (a + 836 + 4) j := fun j => e2.1.getA rfl rfl rfl
  have mf5 : ∀ j, M2 (a + 836 + 5) j = M1 (a + 836 + 5) j := fun j => e2.1.getA rfl rfl rfl
  have m1 : M2 (a + 836) 2 = M1 (a + 836) 2 := e2.1.getS rfl rfl
  have m2 : ∀ j, M2 (a + 836 + 6) j = M1 (a + 836 + 6) j := fun j => e2.1.getA rfl rfl rfl
  have m3 : ∀ j, M2 (a + 836 + 1) j = M1 (a + 836 + 1) j := fun j => e2.1.getA rfl rfl rfl
  have hE : zVd a U F M2 R := hD.mod hI2 e2.1 rfl rfl (hD.2.2.2.1.cg (fun j => e2.1.getA rfl rfl rfl)) (hD.2.2.2.2.1.cg (fun j => e2.1.getA rfl rfl rfl)) (hD.2.2.2.2.2.cg (fun j => e2.1.getA rfl rfl rfl) (fun j => e2.1.getA rfl rfl rfl))
  have r1 := e1.2.1
  have r_0 := zsc_r xs (i + 1)
  have t10 : zTF a M2 := hte.2.2.2.1.st rw9 lo8 mf2 mf3
  have t11 : zTW a M2 := hte.2.2.2.2.1.st rw9 lo8 mf2 mf3
  have t12 : zTB a M2 := hte.2.2.2.2.2.1.st rw9.1 (Or.inr rfl) rw9.2.2.2.1 rw9.2.2.2.2 lo8 (fun j _ => mf4 j) mf5
  have hB := e2.2
  rw [hE2, hE4] at hB
  have hxn := zTG.nm (k := (zsc xs (i + 1))) hte.2.2.2.2.2.2 hte.2.2.2.2.2.1 hte.2.2.2.1 hd.2.2.1 hp9 (fun z => zI.at hI (hs.hs.2.2.2.2.2.2.1.2.2.2.1 (zsc xs (i + 1)) z.1 (by omega)).2.2.2.2.2.2.2.2.2.2.2.2.2.2) lo8 (hs.eg e1.1) e1.2.2 hB
  have nm9 := hxn.2
  have t13 : zTG a M2 := hte.2.2.2.2.2.2.st rw9.1 (Or.inr rfl) lo8 nm9
  have te1 := hte.1
  have t9 : zTE a M2 := ⟨by have l1 := lo.1; have y0 := c1; have y1 := ec.1; omega, fun j j0 j1 => by
    have te2 := hte.2.1 j j0 j1
    have l2 := lo.2.1 j
    have n2 := m2 j
    have z0 := c2 j
    have z1 := ec.2.1 j
    omega, fun j j0 j1 => by
    have l1 := lo.1
    have l3 := lo.2.2 j
    have y0 := c1
    have y1 := ec.1
    have te3 := hte.2.2.1 j j0
    have n3 := m3 j
    have x5 := c3 j
    have x6 := ec.2.2 j
    omega, t10, t11, t12, t13⟩
  have te1 := hte.1
  have l1 := lo.1
  have b0 := zI.at hI hs.hs.2.2.2.2.1
  have v1 := ec.1
  refine jq_icmp_eq C 1021 dL_law_780 (n := 783) rfl rfl ⟨by omega, by omega⟩ (fun h => ?_) (fun h => ?_)
  · exact kk T M2 J2 R kc nc ⟨hk.up ⟨by omega, by omega⟩, t9, U, F, hs, hy, hE⟩
  · exfalso; omega
theorem lc_20 (C : zCx w p s m args meth c yL_law cL_law 8 (some .boolean)) (hS0 : zScr w s sb L xs) (hi : i = 6 * (it : Int)) (hL : i ≤ (L : Int) - 6) (hv : zLv a it kc nc T M R) (kk : ∀ (T2 : zTl) (M2 : zMm) (J2 : zJm) (R2 : zRm') (kc2 nc2 : Nat), zLv a (it + 1) kc2 nc2 T2 M2 R2 → zJ w p e 1312 601024 7293034 s m args below meth c 8 Q kc2 nc2 1021 [.ref sb, .ref (w.2.1 + a), .ref (w.2.1 + (a + 836)), .ref (w.2.1 + (a + 919)), zi i, .null, .null, .null] [] (T2, M2, J2, R2)) : zJ w p e 1312 601024 7293034 s m args below meth c 8 Q kc nc 785 [.ref sb, .ref (w.2.1 + a), .ref (w.2.1 + (a + 836)), .ref (w.2.1 + (a + 919)), zi i, .null, .null, .null] [] (T, M, J, R) := by
  obtain ⟨hk, hte, U, F, hs, hy, hd⟩ := hv
  have hI := hd.1
  have hF := hd.2.1
  have hci := hd.2.2.1
  have hL2 := hS0.2.2.2
  have hk1 := hk.1
  have hk2 := hk.2.1
  refine jq_aload_n C dL_law_785 (n := 786) rfl rfl ?_
  refine jq_aload_n C dL_law_786 (n := 787) rfl rfl ?_
  refine jq_iload C dL_law_787 (n := 789) rfl rfl ?_
  refine jq_iconst C dL_law_789 (n := 790) rfl ?_
  refine jq_iadd C dL_law_790 (n := 791) rfl (v := i + 1) rfl ?_
  refine j_sld C hS0 dL_law_791 (n := 792) rfl ⟨by omega, by omega⟩ ?_
  refine jq_callVp C dL_law_792 (n := 795) rfl m_L_112 v_yX11_guardAt hs.hs.1 ⟨by decide, rfl⟩ (c_X11_guardAt_g (w := w) (J := J) hI hF hs.hs (zsc xs (i + 1)) (zsc_r xs _)) (Nat.le_of_ble_eq_true rfl) rfl rfl (Nat.le_of_ble_eq_true rfl) ⟨by omega, by omega⟩ (fun x1 e1 => ?_)
  refine jq_pop C dL_law_795 (n := 796) rfl rfl ?_
  refine jq_aload_n C dL_law_796 (n := 797) rfl rfl ?_
  refine jq_aload_n C dL_law_797 (n := 798) rfl rfl ?_
  refine jq_iload C dL_law_798 (n := 800) rfl rfl ?_
  refine jq_iconst C dL_law_800 (n := 801) rfl ?_
  refine jq_iadd C dL_law_801 (n := 802) rfl (v := i + 1) rfl ?_
  refine j_sld C hS0 dL_law_802 (n := 803) rfl ⟨by omega, by omega⟩ ?_
  refine jq_callVi C dL_law_803 (n := 806) rfl m_L_115 v_yX12_guardAt (zM0 hs.mo) ⟨by decide, rfl⟩ (c_X12_guardAt_g (w := w) (J := J) hd.1 hd.2.1 hs.mo (zsc xs (i + 1)) (zsc_r xs _)) (Nat.le_of_ble_eq_true rfl) rfl rfl (Nat.le_of_ble_eq_true rfl) ⟨by omega, by omega⟩ (fun x2 M2 J2 hI2 e2 => ?_)
  have lo := zTE.lo e2.1 rfl rfl
  have lo8 : ∀ c k, c < a + 836 → M2 c k = M c k := fun c k q => e2.1.reg (n := 83) rfl rfl (by decide) c k (Or.inl q)
  have mf2 : ∀ j, M2 (a + 836 + 2) j = M (a + 836 + 2) j := fun j => e2.1.getA rfl rfl rfl
  have mf3 : ∀ j, M2 (a + 836 + 3) j = M (a + 836 + 3) j := fun j => e2.1.getA rfl rfl rfl
  have mf4 : ∀ j, M2 (a + 836 + 4) j = M (a + 836 + 4) j := fun j => e2.1.getA rfl rfl rfl
  have mf5 : ∀ j, M2 (a + 836 + 5) j = M (a + 836 + 5) j := fun j => e2.1.getA rfl rfl rfl
  have mg13 : M2 (a + 836) 13 = M (a + 836) 13 := e2.1.getS rfl rfl
  have mg8 : ∀ j, M2 (a + 836 + 8) j = M (a + 836 + 8) j := fun j => e2.1.getA rfl rfl rfl
  have m1 : M2 (a + 836) 2 = M (a + 836) 2 := e2.1.getS rfl rfl
  have m2 : ∀ j, M2 (a + 836 + 6) j = M (a + 836 + 6) j := fun j => e2.1.getA rfl rfl rfl
  have m3 : ∀ j, M2 (a + 836 + 1) j = M (a + 836 + 1) j := fun j => e2.1.getA rfl rfl rfl
  have hE : zVd a U F M2 R := hd.mod hI2 e2.1 rfl rfl (hd.2.2.2.1.cg (fun j => e2.1.getA rfl rfl rfl)) (hd.2.2.2.2.1.cg (fun j => e2.1.getA rfl rfl rfl)) (hd.2.2.2.2.2.cg (fun j => e2.1.getA rfl rfl rfl) (fun j => e2.1.getA rfl rfl rfl))
  refine jq_pop C dL_law_806 (n := 807) rfl rfl ?_
  have r_0 := zsc_r xs (i + 1)
  have t10 : zTF a M2 := hte.2.2.2.1.st zRw.rf lo8 mf2 mf3
  have t11 : zTW a M2 := hte.2.2.2.2.1.st zRw.rf lo8 mf2 mf3
  have t12 : zTB a M2 := hte.2.2.2.2.2.1.st zRw.rf.1 (Or.inr rfl) zRw.rf.2.2.2.1 zRw.rf.2.2.2.2 lo8 (fun j _ => mf4 j) mf5
  have nm9 : zNM a M2 := hte.2.2.2.2.2.2.2.cg ⟨rfl, fun _ => rfl⟩ ⟨rfl, fun _ => rfl⟩ lo8 ⟨mg13, mg8⟩
  have t13 : zTG a M2 := hte.2.2.2.2.2.2.st zRw.rf.1 (Or.inr rfl) lo8 nm9
  have te1 := hte.1
  have t9 : zTE a M2 := ⟨by have l1 := lo.1; omega, fun j j0 j1 => by
    have te2 := hte.2.1 j j0 j1
    have l2 := lo.2.1 j
    have n2 := m2 j
    omega, fun j j0 j1 => by
    have l1 := lo.1
    have l3 := lo.2.2 j
    have te3 := hte.2.2.1 j j0
    have n3 := m3 j
    omega, t10, t11, t12, t13⟩
  refine jq_goto C 1021 dL_law_807 rfl ?_
  exact kk T M2 J2 R kc nc ⟨hk.up ⟨by omega, by omega⟩, t9, U, F, hs, hy, hE⟩
theorem lc_21 (C : zCx w p s m args meth c yL_law cL_law 8 (some .boolean)) (hS0 : zScr w s sb L xs) (hi : i = 6 * (it : Int)) (hL : i ≤ (L : Int) - 6) (hv : zLv a it kc nc T M R) (kk : ∀ (T2 : zTl) (M2 : zMm) (J2 : zJm) (R2 : zRm') (kc2 nc2 : Nat), zLv a (it + 1) kc2 nc2 T2 M2 R2 → zJ w p e 1312 601024 7293034 s m args below meth c 8 Q kc2 nc2 1021 [.ref sb, .ref (w.2.1 + a), .ref (w.2.1 + (a + 836)), .ref (w.2.1 + (a + 919)), zi i, .null, .null, .null] [] (T2, M2, J2, R2)) : zJ w p e 1312 601024 7293034 s m args below meth c 8 Q kc nc 810 [.ref sb, .ref (w.2.1 + a), .ref (w.2.1 + (a + 836)), .ref (w.2.1 + (a + 919)), zi i, .null, .null, .null] [] (T, M, J, R) := by
  obtain ⟨hk, hte, U, F, hs, hy, hd⟩ := hv
  have hI := hd.1
  have hF := hd.2.1
  have hci := hd.2.2.1
  have hL2 := hS0.2.2.2
  have hk1 := hk.1
  have hk2 := hk.2.1
  refine jq_aload_n C dL_law_810 (n := 811) rfl rfl ?_
  refine jq_aload_n C dL_law_811 (n := 812) rfl rfl ?_
  refine jq_iload C dL_law_812 (n := 814) rfl rfl ?_
  refine jq_iconst C dL_law_814 (n := 815) rfl ?_
  refine jq_iadd C dL_law_815 (n := 816) rfl (v := i + 1) rfl ?_
  refine j_sld C hS0 dL_law_816 (n := 817) rfl ⟨by omega, by omega⟩ ?_
  refine jq_aload_n C dL_law_817 (n := 818) rfl rfl ?_
  refine jq_iload C dL_law_818 (n := 820) rfl rfl ?_
  refine jq_iconst C dL_law_820 (n := 821) rfl ?_
  refine jq_iadd C dL_law_821 (n := 822) rfl (v := i + 2) rfl ?_
  refine j_sld C hS0 dL_law_822 (n := 823) rfl ⟨by omega, by omega⟩ ?_
  refine jq_callVp C dL_law_823 (n := 826) rfl m_L_116 v_yX11_nextOf hs.hs.1 ⟨by decide, rfl⟩ (c_X11_nextOf_v (w := w) (J := J) hI hF hs.hs (zsc xs (i + 1)) (zsc xs (i + 2)) (zsc_r xs _) (zsc_r xs _)) (Nat.le_of_ble_eq_true rfl) rfl rfl (Nat.le_of_ble_eq_true rfl) ⟨by omega, by omega⟩ (fun x1 e1 => ?_)
  refine jq_pop C dL_law_826 (n := 827) rfl rfl ?_
  refine jq_aload_n C dL_law_827 (n := 828) rfl rfl ?_
  refine jq_aload_n C dL_law_828 (n := 829) rfl rfl ?_
  refine jq_iload C dL_law_829 (n := 831) rfl rfl ?_
  refine jq_iconst C dL_law_831 (n := 832) rfl ?_
  refine jq_iadd C dL_law_832 (n := 833) rfl (v := i + 1) rfl ?_
  refine j_sld C hS0 dL_law_833 (n := 834) rfl ⟨by omega, by omega⟩ ?_
  refine jq_aload_n C dL_law_834 (n := 835) rfl rfl ?_
  refine jq_iload C dL_law_835 (n := 837) rfl rfl ?_
  refine jq_iconst C dL_law_837 (n := 838) rfl ?_
  refine jq_iadd C dL_law_838 (n := 839) rfl (v := i + 2) rfl ?_
  refine j_sld C hS0 dL_law_839 (n := 840) rfl ⟨by omega, by omega⟩ ?_
  have hp9 : ∀ j, 8 ≤ j → j < 168 → 0 ≤ M (a + 836 + 2) j := fun j j0 j1 => (zI.at hI ((zM9 hs.mo j).trans (zfG_8 (by omega)))).1
  refine jq_callVi C dL_law_840 (n := 843) rfl m_L_119 v_yX12_nextOf (zM0 hs.mo) ⟨by decide, rfl⟩ (c_X12_nextOf_v (w := w) (J := J) hd.1 hd.2.1 hs.mo (zsc xs (i + 1)) (zsc xs (i + 2)) hd.2.2.2.1 (zsc_r xs _) (zsc_r xs _) (fun z => hte.2.2.2.2.2.1.pw hte.2.2.2.1 hd.2.2.1 hp9 z)) (Nat.le_of_ble_eq_true rfl) rfl rfl (Nat.le_of_ble_eq_true rfl) ⟨by omega, by omega⟩ (fun x2 M2 J2 hI2 e2 => ?_)
  have lo := zTE.lo e2.1 rfl rfl
  have lo8 : ∀ c k, c < a + 836 → M2 c k = M c k := fun c k q => e2.1.reg (n := 83) rfl rfl (by decide) c k (Or.inl q)
  have mf2 : ∀ j, M2 (a + 836 + 2) j = M (a + 836 + 2) j := fun j => e2.1.getA rfl rfl rfl
  have mf3 : ∀ j, M2 (a + 836 + 3) j = M (a + 836 + 3) j := fun j => e2.1.getA rfl rfl rfl
  have mf4 : ∀ j, M2 (a + 836 + 4) j = M (a + 836 + 4) j := fun j => e2.1.getA rfl rfl rfl
  have mf5 : ∀ j, M2 (a + 836 + 5) j = M (a + 836 + 5) j := fun j => e2.1.getA rfl rfl rfl
  have mg13 : M2 (a + 836) 13 = M (a + 836) 13 := e2.1.getS rfl rfl
  have mg8 : ∀ j, M2 (a + 836 + 8) j = M (a + 836 + 8) j := fun j => e2.1.getA rfl rfl rfl
  have m1 : M2 (a + 836) 2 = M (a + 836) 2 := e2.1.getS rfl rfl
  have m2 : ∀ j, M2 (a + 836 + 6) j = M (a + 836 + 6) j := fun j => e2.1.getA rfl rfl rfl
  have m3 : ∀ j, M2 (a + 836 + 1) j = M (a + 836 + 1) j := fun j => e2.1.getA rfl rfl rfl
  have hE : zVd a U F M2 R := hd.mod hI2 e2.1 rfl rfl (hd.2.2.2.1.cg (fun j => e2.1.getA rfl rfl rfl)) (hd.2.2.2.2.1.cg (fun j => e2.1.getA rfl rfl rfl)) (hd.2.2.2.2.2.cg (fun j => e2.1.getA rfl rfl rfl) (fun j => e2.1.getA rfl rfl rfl))
  refine jq_pop C dL_law_843 (n := 844) rfl rfl ?_
  have r_0 := zsc_r xs (i + 1)
  have r_1 := zsc_r xs (i + 2)
  have t10 : zTF a M2 := hte.2.2.2.1.st zRw.rf lo8 mf2 mf3
  have t11 : zTW a M2 := hte.2.2.2.2.1.st zRw.rf lo8 mf2 mf3
  have t12 : zTB a M2 := hte.2.2.2.2.2.1.st zRw.rf.1 (Or.inr rfl) zRw.rf.2.2.2.1 zRw.rf.2.2.2.2 lo8 (fun j _ => mf4 j) mf5
  have nm9 : zNM a M2 := hte.2.2.2.2.2.2.2.cg ⟨rfl, fun _ => rfl⟩ ⟨rfl, fun _ => rfl⟩ lo8 ⟨mg13, mg8⟩
  have t13 : zTG a M2 := hte.2.2.2.2.2.2.st zRw.rf.1 (Or.inr rfl) lo8 nm9
  have te1 := hte.1
  have t9 : zTE a M2 := ⟨by have l1 := lo.1; omega, fun j j0 j1 => by
    have te2 := hte.2.1 j j0 j1
    have l2 := lo.2.1 j
    have n2 := m2 j
    omega, fun j j0 j1 => by
    have l1 := lo.1
    have l3 := lo.2.2 j
    have te3 := hte.2.2.1 j j0
    have n3 := m3 j
    omega, t10, t11, t12, t13⟩
  refine jq_goto C 1021 dL_law_844 rfl ?_
  exact kk T M2 J2 R kc nc ⟨hk.up ⟨by omega, by omega⟩, t9, U, F, hs, hy, hE⟩
theorem lc_22 (C : zCx w p s m args meth c yL_law cL_law 8 (some .boolean)) (hS0 : zScr w s sb L xs) (hi : i = 6 * (it : Int)) (hL : i ≤ (L : Int) - 6) (hv : zLv a it kc nc T M R) (kk : ∀ (T2 : zTl) (M2 : zMm) (J2 : zJm) (R2 : zRm') (kc2 nc2 : Nat), zLv a (it + 1) kc2 nc2 T2 M2 R2 → zJ w p e 1312 601024 7293034 s m args below meth c 8 Q kc2 nc2 1021 [.ref sb, .ref (w.2.1 + a), .ref (w.2.1 + (a + 836)), .ref (w.2.1 + (a + 919)), zi i, .null, .null, .null] [] (T2, M2, J2, R2)) : zJ w p e 1312 601024 7293034 s m args below meth c 8 Q kc nc 847 [.ref sb, .ref (w.2.1 + a), .ref (w.2.1 + (a + 836)), .ref (w.2.1 + (a + 919)), zi i, .null, .null, .null] [] (T, M, J, R) := by
  obtain ⟨hk, hte, U, F, hs, hy, hd⟩ := hv
  have hI := hd.1
  have hF := hd.2.1
  have hci := hd.2.2.1
  have hL2 := hS0.2.2.2
  have hk1 := hk.1
  have hk2 := hk.2.1
  refine jq_aload_n C dL_law_847 (n := 848) rfl rfl ?_
  refine jq_aload_n C dL_law_848 (n := 849) rfl rfl ?_
  refine jq_iload C dL_law_849 (n := 851) rfl rfl ?_
  refine jq_iconst C dL_law_851 (n := 852) rfl ?_
  refine jq_iadd C dL_law_852 (n := 853) rfl (v := i + 1) rfl ?_
  refine j_sld C hS0 dL_law_853 (n := 854) rfl ⟨by omega, by omega⟩ ?_
  refine jq_aload_n C dL_law_854 (n := 855) rfl rfl ?_
  refine jq_iload C dL_law_855 (n := 857) rfl rfl ?_
  refine jq_iconst C dL_law_857 (n := 858) rfl ?_
  refine jq_iadd C dL_law_858 (n := 859) rfl (v := i + 2) rfl ?_
  refine j_sld C hS0 dL_law_859 (n := 860) rfl ⟨by omega, by omega⟩ ?_
  refine jq_callVi C dL_law_860 (n := 863) rfl m_L_120 v_yX11_edit hs.hs.1 ⟨by decide, rfl⟩ (c_X11_edit_g (w := w) (J := J) hI hF hs.hs (zsc xs (i + 1)) (zsc xs (i + 2)) hy.st hs.g30 (zsc_r xs _) (zsc_r xs _) hci) (Nat.le_of_ble_eq_true rfl) rfl rfl (Nat.le_of_ble_eq_true rfl) ⟨by omega, by omega⟩ (fun x1 M1 J1 hI1 e1 => ?_)
  have hD : zVd a U F M1 R := hd.cls hs hI1 e1.1 e1.2.2.2.1 hF
  have ec := hs.ec (e1.1.le (by decide))
  have c1 := e1.2.1
  have c2 := e1.2.2.1
  refine jq_pop C dL_law_863 (n := 864) rfl rfl ?_
  refine jq_aload_n C dL_law_864 (n := 865) rfl rfl ?_
  refine jq_aload_n C dL_law_865 (n := 866) rfl rfl ?_
  refine jq_iload C dL_law_866 (n := 868) rfl rfl ?_
  refine jq_iconst C dL_law_868 (n := 869) rfl ?_
  refine jq_iadd C dL_law_869 (n := 870) rfl (v := i + 1) rfl ?_
  refine j_sld C hS0 dL_law_870 (n := 871) rfl ⟨by omega, by omega⟩ ?_
  refine jq_aload_n C dL_law_871 (n := 872) rfl rfl ?_
  refine jq_iload C dL_law_872 (n := 874) rfl rfl ?_
  refine jq_iconst C dL_law_874 (n := 875) rfl ?_
  refine jq_iadd C dL_law_875 (n := 876) rfl (v := i + 2) rfl ?_
  refine j_sld C hS0 dL_law_876 (n := 877) rfl ⟨by omega, by omega⟩ ?_
  refine jq_callVi C dL_law_877 (n := 880) rfl m_L_123 v_yX12_edit (zM0 hs.mo) ⟨by decide, rfl⟩ (c_X12_edit_w (w := w) (J := J1) hD.1 hD.2.1 hs.mo (zsc xs (i + 1)) (zsc xs (i + 2)) hD.2.2.2.1 (zsc_r xs _) (zsc_r xs _)) (Nat.le_of_ble_eq_true rfl) rfl rfl (Nat.le_of_ble_eq_true rfl) ⟨by omega, by omega⟩ (fun x2 M2 J2 hI2 e2 => ?_)
  have lo := zTE.lo e2.1 rfl rfl
  have lo8 : ∀ c k, c < a + 836 → M2 c k = M1 c k := fun c k q => e2.1.reg (n := 83) rfl rfl (by decide) c k (Or.inl q)
  have mf3 : ∀ j, M2 (a + 836 + 3) j = M1 (a + 836 + 3) j := fun j => e2.1.getA rfl rfl rfl
  have mf5 : ∀ j, M2 (a + 836 + 5) j = M1 (a + 836 + 5) j := fun j => e2.1.getA rfl rfl rfl
  have mg13 : M2 (a + 836) 13 = M1 (a + 836) 13 := e2.1.getS rfl rfl
  have mg8 : ∀ j, M2 (a + 836 + 8) j = M1 (a + 836 + 8) j := fun j => e2.1.getA rfl rfl rfl
  have m1 := e2.2.2.1
  have m2 : ∀ j, M2 (a + 836 + 6) j = M1 (a + 836 + 6) j := fun j => e2.1.getA rfl rfl rfl
  have m3 : ∀ j, M2 (a + 836 + 1) j = M1 (a + 836 + 1) j := fun j => e2.1.getA rfl rfl rfl
  have hE : zVd a U F M2 R := hD.mod hI2 e2.1 rfl rfl e2.2.1 (hD.2.2.2.2.1.cg (fun j => e2.1.getA rfl rfl rfl)) (hD.2.2.2.2.2.cg (fun j => e2.1.getA rfl rfl rfl) (fun j => e2.1.getA rfl rfl rfl))
  refine jq_pop C dL_law_880 (n := 881) rfl rfl ?_
  have r_0 := zsc_r xs (i + 1)
  have r_1 := zsc_r xs (i + 2)
  have ef := hs.ef (e1.1.le (by decide))
  have hn9 : M1 (a + 836) 2 = M a 1 := by have := hte.1; have := ec.1; omega
  have ht9 : ∀ j, 0 ≤ j → j < M a 1 → M (a + 1) j = M1 (a + 836 + 1) j := fun j j0 j1 => (hte.2.2.1 j j0 j1).trans (ec.2.2 j).symm
  have hx := hte.2.2.2.1.ea hd.2.2.1 ef.1 ht9 hn9 e1.2.2.2.2.1 e2.2.2.2.1
  have t10 : zTF a M2 := (e1.2.2.2.2.2.1).elim (fun q => hte.2.2.2.1.st ⟨q.2, ef⟩ lo8 (e2.2.2.2.2.2.1 (by omega)) mf3) (fun q => by
    have hk9 : 0 ≤ (zsc xs (i + 1)) ∧ (zsc xs (i + 1)) ≤ 3 := ⟨q.2.1.1, q.2.1.2.1⟩
    have hle := zEA.le e1.2.2.2.2.1 (hte.2.2.2.1.at hk9).2.2.1.2
    have hz := zEA.sz e1.2.2.2.2.1 q.1
    have hz2 := q.2.2.1.2.1
    have h := e2.2.2.2.2.1 (by omega)
    rw [hn9, ← hx] at h
    exact hte.2.2.2.1.edit hk9 hz.1 ⟨by omega, hle⟩ q.2.2.1 q.2.2.2 ef.1 ef.2.1 lo8 h mf3)
  have t11 : zTW a M2 := (e1.2.2.2.2.2.1).elim (fun q => hte.2.2.2.2.1.st ⟨q.2, ef⟩ lo8 (e2.2.2.2.2.2.1 (by omega)) mf3) (fun q => hte.2.2.2.2.1.pg q.2.2.2 (by have := q.2.1; omega) ef.1 ef.2.1 lo8 (fun j hj => (e2.2.2.2.2.1 (by omega)).2 j (by have := q.2.1; have := (zEA.sz e1.2.2.2.2.1 q.1); have := (hte.2.2.2.1.at (k := (zsc xs (i + 1))) ⟨q.2.1.1, q.2.1.2.1⟩).2.2.1; have := q.2.2.1.2.1; have hq := zEA.l39 e1.2.2.2.2.1 (hte.2.2.2.1.at (k := (zsc xs (i + 1))) ⟨q.2.1.1, q.2.1.2.1⟩).2.2.1.2 q.1; omega) (by have := q.2.1; omega)) mf3)
  have hp9 : ∀ j, 8 ≤ j → j < 168 → 0 ≤ M (a + 836 + 2) j := fun j j0 j1 => (zI.at hI ((zM9 hs.mo j).trans (zfG_8 (by omega)))).1
  have t12 : zTB a M2 := (e1.2.2.2.2.2.1).elim (fun q => hte.2.2.2.2.2.1.st q.2 (Or.inr rfl) ef.2.2.1 ef.2.2.2 lo8 (fun j _ => e2.2.2.2.2.2.2.2 (by omega) j) mf5) (fun q => by
    have hk9 : 0 ≤ (zsc xs (i + 1)) ∧ (zsc xs (i + 1)) ≤ 3 := ⟨q.2.1.1, q.2.1.2.1⟩
    have hz := zEA.sz e1.2.2.2.2.1 q.1
    obtain ⟨w1, w2, w3⟩ := (e1.2.2.2.2.2.2.1).resolve_left (by omega)
    have b0 := zI.at hI hs.hs.2.2.2.2.1
    have hend : ∀ j, M1 (a + 2 + 9 + 4 * (zsc xs (i + 1)).toNat + 2) j ≤ 401 := fun j => (zI.at hI1 ((hs.hs.2.2.2.2.2.2.1.2.2.2.1 (zsc xs (i + 1)) hk9.1 (by omega)).2.2.2.2.2.2.2.1 j)).2
    have hm := e2.2.2.2.2.2.2.1 (by omega)
    rw [hn9] at hm
    rcases hm with ⟨m1, m2⟩ | ⟨m1, m2⟩
    · exact hte.2.2.2.2.2.1.edit hte.2.2.2.1 hd.2.2.1 hp9 hk9 (by omega) q.2.2.1 w1 w2 w3 q.2.2.2 ef.1 ef.2.2.1 ef.2.2.2 lo8 m2 (Or.inl ⟨m1, rfl⟩) mf5 ht9 hend b0.1 hd.2.2.2.1
    · exact hte.2.2.2.2.2.1.edit hte.2.2.2.1 hd.2.2.1 hp9 hk9 (by omega) q.2.2.1 w1 w2 w3 q.2.2.2 ef.1 ef.2.2.1 ef.2.2.2 lo8 m2 (Or.inr ⟨m1, rfl⟩) mf5 ht9 hend b0.1 hd.2.2.2.1)
  have nm9 : zNM a M2 := hte.2.2.2.2.2.2.2.cg ⟨e1.2.2.2.2.2.2.2.2.1, e1.2.2.2.2.2.2.2.2.2⟩ (hs.eg (e1.1.le (by decide))) lo8 ⟨mg13, mg8⟩
  have t13 : zTG a M2 := (e1.2.2.2.2.2.1).elim (fun q => hte.2.2.2.2.2.2.st q.2 (Or.inr rfl) lo8 nm9) (fun q => hte.2.2.2.2.2.2.cur ⟨q.2.1.1, q.2.1.2.1⟩ ((e1.2.2.2.2.2.2.2.1).resolve_left (by omega)) q.2.2.2 lo8 nm9)
  have te1 := hte.1
  have t9 : zTE a M2 := ⟨by have l1 := lo.1; have y0 := c1; have y1 := ec.1; omega, fun j j0 j1 => by
    have te2 := hte.2.1 j j0 j1
    have l2 := lo.2.1 j
    have n2 := m2 j
    have z0 := c2 j
    have z1 := ec.2.1 j
    omega, fun j j0 j1 => by
    have l1 := lo.1
    have l3 := lo.2.2 j
    have y0 := c1
    have y1 := ec.1
    have te3 := hte.2.2.1 j j0
    have n3 := m3 j
    have x5 := ec.2.2 j
    omega, t10, t11, t12, t13⟩
  refine jq_goto C 1021 dL_law_881 rfl ?_
  exact kk T M2 J2 R kc nc ⟨hk.up ⟨by omega, by omega⟩, t9, U, F, hs, hy, hE⟩
theorem lc_23 (C : zCx w p s m args meth c yL_law cL_law 8 (some .boolean)) (hS0 : zScr w s sb L xs) (hi : i = 6 * (it : Int)) (hL : i ≤ (L : Int) - 6) (hv : zLv a it kc nc T M R) (kk : ∀ (T2 : zTl) (M2 : zMm) (J2 : zJm) (R2 : zRm') (kc2 nc2 : Nat), zLv a (it + 1) kc2 nc2 T2 M2 R2 → zJ w p e 1312 601024 7293034 s m args below meth c 8 Q kc2 nc2 1021 [.ref sb, .ref (w.2.1 + a), .ref (w.2.1 + (a + 836)), .ref (w.2.1 + (a + 919)), zi i, .null, .null, .null] [] (T2, M2, J2, R2)) : zJ w p e 1312 601024 7293034 s m args below meth c 8 Q kc nc 884 [.ref sb, .ref (w.2.1 + a), .ref (w.2.1 + (a + 836)), .ref (w.2.1 + (a + 919)), zi i, .null, .null, .null] [] (T, M, J, R) := by
  obtain ⟨hk, hte, U, F, hs, hy, hd⟩ := hv
  have hI := hd.1
  have hF := hd.2.1
  have hci := hd.2.2.1
  have hL2 := hS0.2.2.2
  have hk1 := hk.1
  have hk2 := hk.2.1
  refine jq_aload_n C dL_law_884 (n := 885) rfl rfl ?_
  refine jq_aload_n C dL_law_885 (n := 886) rfl rfl ?_
  refine jq_iload C dL_law_886 (n := 888) rfl rfl ?_
  refine jq_iconst C dL_law_888 (n := 889) rfl ?_
  refine jq_iadd C dL_law_889 (n := 890) rfl (v := i + 1) rfl ?_
  refine j_sld C hS0 dL_law_890 (n := 891) rfl ⟨by omega, by omega⟩ ?_
  refine jq_aload_n C dL_law_891 (n := 892) rfl rfl ?_
  refine jq_iload C dL_law_892 (n := 894) rfl rfl ?_
  refine jq_iconst C dL_law_894 (n := 895) rfl ?_
  refine jq_iadd C dL_law_895 (n := 896) rfl (v := i + 2) rfl ?_
  refine j_sld C hS0 dL_law_896 (n := 897) rfl ⟨by omega, by omega⟩ ?_
  refine jq_callVi C dL_law_897 (n := 900) rfl m_L_124 v_yX11_drop hs.hs.1 ⟨by decide, rfl⟩ (c_X11_drop_g (w := w) (J := J) hI hF hs.hs (zsc xs (i + 1)) (zsc xs (i + 2)) hy.st hs.g30 (zsc_r xs _) (zsc_r xs _) hci) (Nat.le_of_ble_eq_true rfl) rfl rfl (Nat.le_of_ble_eq_true rfl) ⟨by omega, by omega⟩ (fun x1 M1 J1 hI1 e1 => ?_)
  have hD : zVd a U F M1 R := hd.cls hs hI1 e1.1 e1.2.2.2.2.1 hF
  have ec := hs.ec (e1.1.le (by decide))
  have c1 := e1.2.1
  have c2 := e1.2.2.2.1
  have c3 := e1.2.2.1
  refine jq_pop C dL_law_900 (n := 901) rfl rfl ?_
  refine jq_aload_n C dL_law_901 (n := 902) rfl rfl ?_
  refine jq_aload_n C dL_law_902 (n := 903) rfl rfl ?_
  refine jq_iload C dL_law_903 (n := 905) rfl rfl ?_
  refine jq_iconst C dL_law_905 (n := 906) rfl ?_
  refine jq_iadd C dL_law_906 (n := 907) rfl (v := i + 1) rfl ?_
  refine j_sld C hS0 dL_law_907 (n := 908) rfl ⟨by omega, by omega⟩ ?_
  refine jq_aload_n C dL_law_908 (n := 909) rfl rfl ?_
  refine jq_iload C dL_law_909 (n := 911) rfl rfl ?_
  refine jq_iconst C dL_law_911 (n := 912) rfl ?_
  refine jq_iadd C dL_law_912 (n := 913) rfl (v := i + 2) rfl ?_
  refine j_sld C hS0 dL_law_913 (n := 914) rfl ⟨by omega, by omega⟩ ?_
  refine jq_callVi C dL_law_914 (n := 917) rfl m_L_127 v_yX12_drop (zM0 hs.mo) ⟨by decide, rfl⟩ (c_X12_drop_w (w := w) (J := J1) hD.1 hD.2.1 hs.mo (zsc xs (i + 1)) (zsc xs (i + 2)) hD.2.2.2.1 (zsc_r xs _) (zsc_r xs _)) (Nat.le_of_ble_eq_true rfl) rfl rfl (Nat.le_of_ble_eq_true rfl) ⟨by omega, by omega⟩ (fun x2 M2 J2 hI2 e2 => ?_)
  have lo := zTE.lo e2.1 rfl rfl
  have lo8 : ∀ c k, c < a + 836 → M2 c k = M1 c k := fun c k q => e2.1.reg (n := 83) rfl rfl (by decide) c k (Or.inl q)
  have mf3 : ∀ j, M2 (a + 836 + 3) j = M1 (a + 836 + 3) j := fun j => e2.1.getA rfl rfl rfl
  have mf5 : ∀ j, M2 (a + 836 + 5) j = M1 (a + 836 + 5) j := fun j => e2.1.getA rfl rfl rfl
  have mg13 : M2 (a + 836) 13 = M1 (a + 836) 13 := e2.1.getS rfl rfl
  have mg8 : ∀ j, M2 (a + 836 + 8) j = M1 (a + 836 + 8) j := fun j => e2.1.getA rfl rfl rfl
  have m1 : M2 (a + 836) 2 = M1 (a + 836) 2 := e2.1.getS rfl rfl
  have m2 : ∀ j, M2 (a + 836 + 6) j = M1 (a + 836 + 6) j := fun j => e2.1.getA rfl rfl rfl
  have m3 : ∀ j, M2 (a + 836 + 1) j = M1 (a + 836 + 1) j := fun j => e2.1.getA rfl rfl rfl
  have hE : zVd a U F M2 R := hD.mod hI2 e2.1 rfl rfl e2.2.1 (hD.2.2.2.2.1.cg (fun j => e2.1.getA rfl rfl rfl)) (hD.2.2.2.2.2.cg (fun j => e2.1.getA rfl rfl rfl) (fun j => e2.1.getA rfl rfl rfl))
  refine jq_pop C dL_law_917 (n := 918) rfl rfl ?_
  have r_0 := zsc_r xs (i + 1)
  have r_1 := zsc_r xs (i + 2)
  have ef := hs.ef (e1.1.le (by decide))
  have hx9 : x1 = x2 ∧ zTF a M2 := by
    have hat := fun z => hte.2.2.2.1.at (k := (zsc xs (i + 1))) z
    have ha4 : 0 ≤ (zsc xs (i + 1)) ∧ (zsc xs (i + 1)) ≤ 3 → M (a + 2 + 9 + 4 * (zsc xs (i + 1)).toNat) 4 = M1 (a + 836 + 2) (zsc xs (i + 1)) ∧ M (a + 2 + 9 + 4 * (zsc xs (i + 1)).toNat) 3 = M1 (a + 836 + 2) (4 + (zsc xs (i + 1))) := fun z => ⟨(hat z).1.trans (ef.1 _).symm, (hat z).2.1.trans (ef.1 _).symm⟩
    rcases e1.2.2.2.2.2.1 with ⟨p1, p2, p3⟩ | ⟨p1, p2, p3, p4⟩
    · rcases e2.2.2.1 with ⟨q1, q2, q3⟩ | ⟨q1, q2, q3⟩
      · exact ⟨by omega, hte.2.2.2.1.st ⟨p3, ef⟩ lo8 q3 mf3⟩
      · exfalso; omega
    · rcases e2.2.2.1 with ⟨q1, q2, q3⟩ | ⟨q1, q2, q3⟩
      · exfalso; omega
      · exact ⟨by omega, hte.2.2.2.1.drop ⟨p1.1.1, p1.1.2.1⟩ p1.2 p3 p4 ef.1 ef.2.1 lo8 q3 mf3⟩
  have hx := hx9.1
  have t10 := hx9.2
  have t11 : zTW a M2 := by
    have hat := fun z => hte.2.2.2.1.at (k := (zsc xs (i + 1))) z
    have ha4 : 0 ≤ (zsc xs (i + 1)) ∧ (zsc xs (i + 1)) ≤ 3 → M (a + 2 + 9 + 4 * (zsc xs (i + 1)).toNat) 4 = M1 (a + 836 + 2) (zsc xs (i + 1)) ∧ M (a + 2 + 9 + 4 * (zsc xs (i + 1)).toNat) 3 = M1 (a + 836 + 2) (4 + (zsc xs (i + 1))) ∧ M1 (a + 836 + 2) (4 + (zsc xs (i + 1))) ≤ 40 := fun z => ⟨(hat z).1.trans (ef.1 _).symm, (hat z).2.1.trans (ef.1 _).symm, by rw [ef.1, ← (hat z).2.1]; exact (hat z).2.2.1.2⟩
    rcases e1.2.2.2.2.2.1 with ⟨p1, p2, p3⟩ | ⟨p1, p2, p3, p4⟩
    · rcases e2.2.2.1 with ⟨q1, q2, q3⟩ | ⟨q1, q2, q3⟩
      · exact hte.2.2.2.2.1.st ⟨p3, ef⟩ lo8 q3 mf3
      · exfalso; omega
    · rcases e2.2.2.1 with ⟨q1, q2, q3⟩ | ⟨q1, q2, q3⟩
      · exfalso; omega
      · exact hte.2.2.2.2.1.pg p4 (by omega) ef.1 ef.2.1 lo8 (fun j hj => by have e := q3.2 j (by omega); rw [if_neg (by omega)] at e; exact e) mf3
  have hp9 : ∀ j, 8 ≤ j → j < 168 → 0 ≤ M (a + 836 + 2) j := fun j j0 j1 => (zI.at hI ((zM9 hs.mo j).trans (zfG_8 (by omega)))).1
  have t12 : zTB a M2 := by
    have hat := fun z => hte.2.2.2.1.at (k := (zsc xs (i + 1))) z
    have ha4 : 0 ≤ (zsc xs (i + 1)) ∧ (zsc xs (i + 1)) ≤ 3 → M (a + 2 + 9 + 4 * (zsc xs (i + 1)).toNat) 4 = M1 (a + 836 + 2) (zsc xs (i + 1)) ∧ M (a + 2 + 9 + 4 * (zsc xs (i + 1)).toNat) 3 = M1 (a + 836 + 2) (4 + (zsc xs (i + 1))) := fun z => ⟨(hat z).1.trans (ef.1 _).symm, (hat z).2.1.trans (ef.1 _).symm⟩
    rcases e1.2.2.2.2.2.1 with ⟨p1, p2, p3⟩ | ⟨p1, p2, p3, p4⟩
    · rcases e2.2.2.1 with ⟨q1, q2, q3⟩ | ⟨q1, q2, q3⟩
      · exact hte.2.2.2.2.2.1.st p3 (Or.inr rfl) ef.2.2.1 ef.2.2.2 lo8 (fun j _ => e2.2.2.2.2 q2 j) mf5
      · exfalso; omega
    · rcases e2.2.2.1 with ⟨q1, q2, q3⟩ | ⟨q1, q2, q3⟩
      · exfalso; omega
      · obtain ⟨w1, w2, w3⟩ := (e1.2.2.2.2.2.2.1).resolve_left (by have := hat ⟨p1.1.1, p1.1.2.1⟩; have := this.2.2.1; omega)
        exact hte.2.2.2.2.2.1.drop hte.2.2.2.1 hd.2.2.1 hp9 ⟨p1.1.1, p1.1.2.1⟩ p1.2 p3 w1 w2 w3 p4 ef.1 ef.2.2.1 ef.2.2.2 lo8 (e2.2.2.2.1 q1) mf5 (fun j => (zI.at hI ((hs.hs.2.2.2.2.2.2.1.2.2.2.1 (zsc xs (i + 1)) p1.1.1 (by have := p1.1.2.1; omega)).2.2.2.2.2.2.2.1 j)).2)
  have nm9 : zNM a M2 := hte.2.2.2.2.2.2.2.cg ⟨e1.2.2.2.2.2.2.2.2.1, e1.2.2.2.2.2.2.2.2.2⟩ (hs.eg (e1.1.le (by decide))) lo8 ⟨mg13, mg8⟩
  have t13 : zTG a M2 := (e1.2.2.2.2.2.1).elim (fun q => hte.2.2.2.2.2.2.st q.2.2 (Or.inr rfl) lo8 nm9) (fun q => hte.2.2.2.2.2.2.cur ⟨q.1.1.1, q.1.1.2.1⟩ ((e1.2.2.2.2.2.2.2.1).resolve_left (by have := hte.2.2.2.1.at (k := (zsc xs (i + 1))) ⟨q.1.1.1, q.1.1.2.1⟩; have := this.2.2.1; omega)) q.2.2.2 lo8 nm9)
  have te1 := hte.1
  have t9 : zTE a M2 := ⟨by have l1 := lo.1; have y0 := c1; have y1 := ec.1; omega, fun j j0 j1 => by
    have te2 := hte.2.1 j j0 j1
    have l2 := lo.2.1 j
    have n2 := m2 j
    have z0 := c2 j
    have z1 := ec.2.1 j
    omega, fun j j0 j1 => by
    have l1 := lo.1
    have l3 := lo.2.2 j
    have y0 := c1
    have y1 := ec.1
    have te3 := hte.2.2.1 j j0
    have n3 := m3 j
    have x5 := c3 j
    have x6 := ec.2.2 j
    omega, t10, t11, t12, t13⟩
  refine jq_goto C 1021 dL_law_918 rfl ?_
  exact kk T M2 J2 R kc nc ⟨hk.up ⟨by omega, by omega⟩, t9, U, F, hs, hy, hE⟩
theorem lc_24 (C : zCx w p s m args meth c yL_law cL_law 8 (some .boolean)) (hS0 : zScr w s sb L xs) (hi : i = 6 * (it : Int)) (hL : i ≤ (L : Int) - 6) (hv : zLv a it kc nc T M R) (kk : ∀ (T2 : zTl) (M2 : zMm) (J2 : zJm) (R2 : zRm') (kc2 nc2 : Nat), zLv a (it + 1) kc2 nc2 T2 M2 R2 → zJ w p e 1312 601024 7293034 s m args below meth c 8 Q kc2 nc2 1021 [.ref sb, .ref (w.2.1 + a), .ref (w.2.1 + (a + 836)), .ref (w.2.1 + (a + 919)), zi i, .null, .null, .null] [] (T2, M2, J2, R2)) : zJ w p e 1312 601024 7293034 s m args below meth c 8 Q kc nc 921 [.ref sb, .ref (w.2.1 + a), .ref (w.2.1 + (a + 836)), .ref (w.2.1 + (a + 919)), zi i, .null, .null, .null] [] (T, M, J, R) := by
  obtain ⟨hk, hte, U, F, hs, hy, hd⟩ := hv
  have hI := hd.1
  have hF := hd.2.1
  have hci := hd.2.2.1
  have hL2 := hS0.2.2.2
  have hk1 := hk.1
  have hk2 := hk.2.1
  refine jq_aload_n C dL_law_921 (n := 922) rfl rfl ?_
  refine jq_aload_n C dL_law_922 (n := 923) rfl rfl ?_
  refine jq_iload C dL_law_923 (n := 925) rfl rfl ?_
  refine jq_iconst C dL_law_925 (n := 926) rfl ?_
  refine jq_iadd C dL_law_926 (n := 927) rfl (v := i + 1) rfl ?_
  refine j_sld C hS0 dL_law_927 (n := 928) rfl ⟨by omega, by omega⟩ ?_
  refine jq_callVi C dL_law_928 (n := 931) rfl m_L_128 v_yX11_image hs.hs.1 ⟨by decide, rfl⟩ (c_X11_image_g (w := w) (J := J) hI hF hs.hs (zsc xs (i + 1)) hs.g30 (zsc_r xs _) hci) (Nat.le_of_ble_eq_true rfl) rfl rfl (Nat.le_of_ble_eq_true rfl) ⟨by omega, by omega⟩ (fun x1 M1 J1 hI1 e1 => ?_)
  have hD : zVd a U F M1 R := hd.cls hs hI1 e1.1 e1.2.2.2.2.2.2.2.1 hF
  have ec := hs.ec (e1.1.le (by decide))
  have c1 := e1.2.2.2.1
  have c2 := e1.2.2.2.2.2.1
  have c2x := e1.2.2.2.2.2.2.1
  have c3 := e1.2.2.2.2.1
  refine jq_pop C dL_law_931 (n := 932) rfl rfl ?_
  refine jq_aload_n C dL_law_932 (n := 933) rfl rfl ?_
  refine jq_aload_n C dL_law_933 (n := 934) rfl rfl ?_
  refine jq_iload C dL_law_934 (n := 936) rfl rfl ?_
  refine jq_iconst C dL_law_936 (n := 937) rfl ?_
  refine jq_iadd C dL_law_937 (n := 938) rfl (v := i + 1) rfl ?_
  refine j_sld C hS0 dL_law_938 (n := 939) rfl ⟨by omega, by omega⟩ ?_
  refine jq_callVi C dL_law_939 (n := 942) rfl m_L_131 v_yX12_image (zM0 hs.mo) ⟨by decide, rfl⟩ (c_X12_image_w (w := w) (J := J1) hD.1 hD.2.1 hs.mo (zsc xs (i + 1)) hD.2.2.2.1 hD.2.2.2.2.1 (zsc_r xs _)) (Nat.le_of_ble_eq_true rfl) rfl rfl (Nat.le_of_ble_eq_true rfl) ⟨by omega, by omega⟩ (fun x2 M2 J2 hI2 e2 => ?_)
  have lo := zTE.lo e2.1 rfl rfl
  have lo8 : ∀ c k, c < a + 836 → M2 c k = M1 c k := fun c k q => e2.1.reg (n := 83) rfl rfl (by decide) c k (Or.inl q)
  have mf2 : ∀ j, M2 (a + 836 + 2) j = M1 (a + 836 + 2) j := fun j => e2.1.getA rfl rfl rfl
  have mf4 : ∀ j, M2 (a + 836 + 4) j = M1 (a + 836 + 4) j := fun j => e2.1.getA rfl rfl rfl
  have mg13 : M2 (a + 836) 13 = M1 (a + 836) 13 := e2.1.getS rfl rfl
  have mg8 : ∀ j, M2 (a + 836 + 8) j = M1 (a + 836 + 8) j := fun j => e2.1.getA rfl rfl rfl
  have m1 : M2 (a + 836) 2 = M1 (a + 836) 2 := e2.1.getS rfl rfl
  have m2 := e2.2.2.2.2.2.1
  have m2x := e2.2.2.2.2.2.2.1
  have m3 : ∀ j, M2 (a + 836 + 1) j = M1 (a + 836 + 1) j := fun j => e2.1.getA rfl rfl rfl
  have hE : zVd a U F M2 R := hD.mod hI2 e2.1 rfl rfl (hD.2.2.2.1.cg (fun j => e2.1.getA rfl rfl rfl)) e2.2.2.1 (hD.2.2.2.2.2.cg (fun j => e2.1.getA rfl rfl rfl) (fun j => e2.1.getA rfl rfl rfl))
  have r1 := e1.2.1
  have r2 := e1.2.2.1
  have r3 := e1.2.2.2.1
  have r8 := e1.2.2.2.2.2.2.2.2.1
  have r9 := e1.2.2.2.2.2.2.2.2.2.1
  have r10 := e1.2.2.2.2.2.2.2.2.2.2.1
  have w1 := e2.2.1
  have w3 := e2.2.2.2.1
  have w4 := e2.2.2.2.2.1
  have r_0 := zsc_r xs (i + 1)
  have ef := hs.ef (e1.1.le (by decide))
  have t10 : zTF a M2 := (e1.2.2.2.2.2.2.2.2.1).elim (fun q => (e2.2.2.2.2.2.2.2.1).elim (fun r => hte.2.2.2.1.st ⟨q.2, ef⟩ lo8 mf2 r.2) (fun r => by exfalso; have := q.1; have := r.1; omega)) (fun q => (e2.2.2.2.2.2.2.2.1).elim (fun r => by exfalso; have := q.1; have := r.1; omega) (fun r => hte.2.2.2.1.img q.1 q.2.1 q.2.2 ef.1 ef.2.1 lo8 r.2 mf2))
  have t11 : zTW a M2 := (e1.2.2.2.2.2.2.2.2.1).elim (fun q => (e2.2.2.2.2.2.2.2.1).elim (fun r => hte.2.2.2.2.1.st ⟨q.2, ef⟩ lo8 mf2 r.2) (fun r => by exfalso; have := q.1; have := r.1; omega)) (fun q => (e2.2.2.2.2.2.2.2.1).elim (fun r => by exfalso; have := q.1; have := r.1; omega) (fun r => hte.2.2.2.2.1.img q.1 q.2.1 q.2.2 ef.1 ef.2.1 lo8 r.2 mf2))
  have t12 : zTB a M2 := (e1.2.2.2.2.2.2.2.2.1).elim (fun q => (e2.2.2.2.2.2.2.2.2).elim (fun r => hte.2.2.2.2.2.1.st q.2 (Or.inr rfl) ef.2.2.1 ef.2.2.2 lo8 (fun j _ => mf4 j) r.2) (fun r => by exfalso; have := q.1; have := r.1; omega)) (fun q => (e2.2.2.2.2.2.2.2.2).elim (fun r => by exfalso; have := q.1; have := r.1; omega) (fun r => hte.2.2.2.2.2.1.img hte.2.2.2.1 q.1 q.2.1 ((e1.2.2.2.2.2.2.2.2.2.1).resolve_left (by have := q.1; omega)) q.2.2 (fun k k0 k1 j => zI.at hI ((hs.hs.2.2.2.2.2.2.1.2.2.2.1 k k0 k1).2.2.2.2.2.2.2.1 j)) ef.2.2.1 ef.2.2.2 lo8 r.2 mf4))
  have nm9 : zNM a M2 := hte.2.2.2.2.2.2.2.cg ⟨e1.2.2.2.2.2.2.2.2.2.2.1, e1.2.2.2.2.2.2.2.2.2.2.2⟩ (hs.eg (e1.1.le (by decide))) lo8 ⟨mg13, mg8⟩
  have t13 : zTG a M2 := (e1.2.2.2.2.2.2.2.2.1).elim (fun q => hte.2.2.2.2.2.2.st q.2 (Or.inr rfl) lo8 nm9) (fun q => hte.2.2.2.2.2.2.img hte.2.2.2.1 q.1 q.2.1 ((e1.2.2.2.2.2.2.2.2.2.1).resolve_left (by have := q.1; omega)) q.2.2 (fun k k0 k1 j => zI.at hI ((hs.hs.2.2.2.2.2.2.1.2.2.2.1 k k0 k1).2.2.2.2.2.2.2.1 j)) lo8 nm9)
  have te1 := hte.1
  have t9 : zTE a M2 := ⟨by have l1 := lo.1; have y1 := ec.1; omega, fun j j0 j1 => by
    have te2 := hte.2.1 j j0 j1
    have l2 := lo.2.1 j
    have n2 := m2 j
    have z0 := c2 j
    have z1 := ec.2.1 j
    by_cases hj : j = (zsc xs (i + 1))
    · have u1 := c2x (by omega)
      have u2 := m2x (by omega)
      rw [← hj] at u1 u2
      omega
    · omega, fun j j0 j1 => by
    have l1 := lo.1
    have l3 := lo.2.2 j
    have y0 := c1
    have y1 := ec.1
    have te3 := hte.2.2.1 j j0
    have n3 := m3 j
    have x5 := c3 j
    have x6 := ec.2.2 j
    omega, t10, t11, t12, t13⟩
  refine jq_pop C dL_law_942 (n := 943) rfl rfl ?_
  refine jq_goto C 1021 dL_law_943 rfl ?_
  exact kk T M2 J2 R kc nc ⟨hk.up ⟨by omega, by omega⟩, t9, U, F, hs, hy, hE⟩
theorem lc_25 (C : zCx w p s m args meth c yL_law cL_law 8 (some .boolean)) (hS0 : zScr w s sb L xs) (hi : i = 6 * (it : Int)) (hL : i ≤ (L : Int) - 6) (hv : zLv a it kc nc T M R) (kk : ∀ (T2 : zTl) (M2 : zMm) (J2 : zJm) (R2 : zRm') (kc2 nc2 : Nat), zLv a (it + 1) kc2 nc2 T2 M2 R2 → zJ w p e 1312 601024 7293034 s m args below meth c 8 Q kc2 nc2 1021 [.ref sb, .ref (w.2.1 + a), .ref (w.2.1 + (a + 836)), .ref (w.2.1 + (a + 919)), zi i, .null, .null, .null] [] (T2, M2, J2, R2)) : zJ w p e 1312 601024 7293034 s m args below meth c 8 Q kc nc 946 [.ref sb, .ref (w.2.1 + a), .ref (w.2.1 + (a + 836)), .ref (w.2.1 + (a + 919)), zi i, .null, .null, .null] [] (T, M, J, R) := by
  obtain ⟨hk, hte, U, F, hs, hy, hd⟩ := hv
  have hI := hd.1
  have hF := hd.2.1
  have hci := hd.2.2.1
  have hL2 := hS0.2.2.2
  have hk1 := hk.1
  have hk2 := hk.2.1
  refine jq_aload_n C dL_law_946 (n := 947) rfl rfl ?_
  refine jq_aload_n C dL_law_947 (n := 948) rfl rfl ?_
  refine jq_iload C dL_law_948 (n := 950) rfl rfl ?_
  refine jq_iconst C dL_law_950 (n := 951) rfl ?_
  refine jq_iadd C dL_law_951 (n := 952) rfl (v := i + 1) rfl ?_
  refine j_sld C hS0 dL_law_952 (n := 953) rfl ⟨by omega, by omega⟩ ?_
  refine jq_callVi C dL_law_953 (n := 956) rfl m_L_132 v_yX11_restore hs.hs.1 ⟨by decide, rfl⟩ (c_X11_restore_g (w := w) (J := J) hI hF hs.hs (zsc xs (i + 1)) hy.st hs.g30 (zsc_r xs _) hci) (Nat.le_of_ble_eq_true rfl) rfl rfl (Nat.le_of_ble_eq_true rfl) ⟨by omega, by omega⟩ (fun x1 M1 J1 hI1 e1 => ?_)
  have hD : zVd a U F M1 R := hd.cls hs hI1 e1.1 e1.2.2.2.2.2.2.1 hF
  have ec := hs.ec (e1.1.le (by decide))
  have c1 := e1.2.2.2.1
  have c2 := e1.2.2.2.2.2.1
  have c3 := e1.2.2.2.2.1
  refine jq_pop C dL_law_956 (n := 957) rfl rfl ?_
  refine jq_aload_n C dL_law_957 (n := 958) rfl rfl ?_
  refine jq_aload_n C dL_law_958 (n := 959) rfl rfl ?_
  refine jq_iload C dL_law_959 (n := 961) rfl rfl ?_
  refine jq_iconst C dL_law_961 (n := 962) rfl ?_
  refine jq_iadd C dL_law_962 (n := 963) rfl (v := i + 1) rfl ?_
  refine j_sld C hS0 dL_law_963 (n := 964) rfl ⟨by omega, by omega⟩ ?_
  refine jq_callVi C dL_law_964 (n := 967) rfl m_L_135 v_yX12_restore (zM0 hs.mo) ⟨by decide, rfl⟩ (c_X12_restore_w (w := w) (J := J1) hD.1 hD.2.1 hs.mo (zsc xs (i + 1)) hD.2.2.2.1 hD.2.2.2.2.1 (zsc_r xs _)) (Nat.le_of_ble_eq_true rfl) rfl rfl (Nat.le_of_ble_eq_true rfl) ⟨by omega, by omega⟩ (fun x2 M2 J2 hI2 e2 => ?_)
  have lo := zTE.lo e2.1 rfl rfl
  have lo8 : ∀ c k, c < a + 836 → M2 c k = M1 c k := fun c k q => e2.1.reg (n := 83) rfl rfl (by decide) c k (Or.inl q)
  have mf3 : ∀ j, M2 (a + 836 + 3) j = M1 (a + 836 + 3) j := fun j => e2.1.getA rfl rfl rfl
  have mf5 : ∀ j, M2 (a + 836 + 5) j = M1 (a + 836 + 5) j := fun j => e2.1.getA rfl rfl rfl
  have mg13 : M2 (a + 836) 13 = M1 (a + 836) 13 := e2.1.getS rfl rfl
  have mg8 : ∀ j, M2 (a + 836 + 8) j = M1 (a + 836 + 8) j := fun j => e2.1.getA rfl rfl rfl
  have m1 : M2 (a + 836) 2 = M1 (a + 836) 2 := e2.1.getS rfl rfl
  have m2 : ∀ j, M2 (a + 836 + 6) j = M1 (a + 836 + 6) j := fun j => e2.1.getA rfl rfl rfl
  have m3 : ∀ j, M2 (a + 836 + 1) j = M1 (a + 836 + 1) j := fun j => e2.1.getA rfl rfl rfl
  have hE : zVd a U F M2 R := hD.mod hI2 e2.1 rfl rfl e2.2.2.1 (hD.2.2.2.2.1.cg (fun j => e2.1.getA rfl rfl rfl)) (hD.2.2.2.2.2.cg (fun j => e2.1.getA rfl rfl rfl) (fun j => e2.1.getA rfl rfl rfl))
  refine jq_pop C dL_law_967 (n := 968) rfl rfl ?_
  have r_0 := zsc_r xs (i + 1)
  have ef := hs.ef (e1.1.le (by decide))
  have hq1 := e1.2.2.1
  have hq2 := e2.2.2.2.1
  have hx : x1 = x2 := by have u1 := hte.2.1 (zsc xs (i + 1)); have u2 := ec.2.1 (zsc xs (i + 1)); omega
  have t10 : zTF a M2 := (e1.2.2.2.2.2.2.2.1).elim (fun q => (e2.2.2.2.2.1).elim (fun r => hte.2.2.2.1.st ⟨q.2, ef⟩ lo8 r.2 mf3) (fun r => by exfalso; have := q.1; have := r.1.1; omega)) (fun q => (e2.2.2.2.2.1).elim (fun r => by exfalso; have := q.1.1; have := r.1; omega) (fun r => hte.2.2.2.1.rst q.1.2 q.2.1 q.2.2 ef.1 ef.2.1 lo8 r.2 mf3))
  have t11 : zTW a M2 := (e1.2.2.2.2.2.2.2.1).elim (fun q => (e2.2.2.2.2.1).elim (fun r => hte.2.2.2.2.1.st ⟨q.2, ef⟩ lo8 r.2 mf3) (fun r => by exfalso; have := q.1; have := r.1.1; omega)) (fun q => (e2.2.2.2.2.1).elim (fun r => by exfalso; have := q.1.1; have := r.1; omega) (fun r => hte.2.2.2.2.1.rst q.1.2 q.2.1 q.2.2 ef.2.1 lo8 r.2 mf3))
  have t12 : zTB a M2 := (e1.2.2.2.2.2.2.2.1).elim (fun q => (e2.2.2.2.2.2).elim (fun r => hte.2.2.2.2.2.1.st q.2 (Or.inr rfl) ef.2.2.1 ef.2.2.2 lo8 (fun j _ => r.2 j) mf5) (fun r => by exfalso; have := q.1; have := r.1.1; omega)) (fun q => (e2.2.2.2.2.2).elim (fun r => by exfalso; have := q.1.1; have := r.1; omega) (fun r => hte.2.2.2.2.2.1.rst hte.2.2.2.1 q.1.2 q.2.1 ((e1.2.2.2.2.2.2.2.2.1).resolve_left (by have := q.1.1; omega)) q.2.2 (fun k k0 k1 j => zI.at hI (((hs.hs.2.2.2.2.2.2.2.2.2.1 (zsc xs (i + 1)) q.1.2.1 q.1.2.2).2.2.2.2.1 k k0 k1).2.2.2.2.2.2.2.1 j)) ef.2.2.2 lo8 r.2 mf5))
  have nm9 : zNM a M2 := hte.2.2.2.2.2.2.2.cg ⟨e1.2.2.2.2.2.2.2.2.2.1, e1.2.2.2.2.2.2.2.2.2.2⟩ (hs.eg (e1.1.le (by decide))) lo8 ⟨mg13, mg8⟩
  have t13 : zTG a M2 := (e1.2.2.2.2.2.2.2.1).elim (fun q => hte.2.2.2.2.2.2.st q.2 (Or.inr rfl) lo8 nm9) (fun q => hte.2.2.2.2.2.2.rst hte.2.2.2.1 q.1.2 q.2.1 ((e1.2.2.2.2.2.2.2.2.1).resolve_left (by have := q.1.1; omega)) q.2.2 (fun k k0 k1 j => zI.at hI (((hs.hs.2.2.2.2.2.2.2.2.2.1 (zsc xs (i + 1)) q.1.2.1 q.1.2.2).2.2.2.2.1 k k0 k1).2.2.2.2.2.2.2.1 j)) lo8 nm9)
  have te1 := hte.1
  have t9 : zTE a M2 := ⟨by have l1 := lo.1; have y0 := c1; have y1 := ec.1; omega, fun j j0 j1 => by
    have te2 := hte.2.1 j j0 j1
    have l2 := lo.2.1 j
    have n2 := m2 j
    have z0 := c2 j
    have z1 := ec.2.1 j
    omega, fun j j0 j1 => by
    have l1 := lo.1
    have l3 := lo.2.2 j
    have y0 := c1
    have y1 := ec.1
    have te3 := hte.2.2.1 j j0
    have n3 := m3 j
    have x5 := c3 j
    have x6 := ec.2.2 j
    omega, t10, t11, t12, t13⟩
  refine jq_goto C 1021 dL_law_968 rfl ?_
  exact kk T M2 J2 R kc nc ⟨hk.up ⟨by omega, by omega⟩, t9, U, F, hs, hy, hE⟩
theorem lc_26 (C : zCx w p s m args meth c yL_law cL_law 8 (some .boolean)) (hS0 : zScr w s sb L xs) (hi : i = 6 * (it : Int)) (hL : i ≤ (L : Int) - 6) (hv : zLv a it kc nc T M R) (kk : ∀ (T2 : zTl) (M2 : zMm) (J2 : zJm) (R2 : zRm') (kc2 nc2 : Nat), zLv a (it + 1) kc2 nc2 T2 M2 R2 → zJ w p e 1312 601024 7293034 s m args below meth c 8 Q kc2 nc2 1021 [.ref sb, .ref (w.2.1 + a), .ref (w.2.1 + (a + 836)), .ref (w.2.1 + (a + 919)), zi i, .null, .null, .null] [] (T2, M2, J2, R2)) : zJ w p e 1312 601024 7293034 s m args below meth c 8 Q kc nc 971 [.ref sb, .ref (w.2.1 + a), .ref (w.2.1 + (a + 836)), .ref (w.2.1 + (a + 919)), zi i, .null, .null, .null] [] (T, M, J, R) := by
  obtain ⟨hk, hte, U, F, hs, hy, hd⟩ := hv
  have hI := hd.1
  have hF := hd.2.1
  have hci := hd.2.2.1
  have hL2 := hS0.2.2.2
  have hk1 := hk.1
  have hk2 := hk.2.1
  refine jq_aload_n C dL_law_971 (n := 972) rfl rfl ?_
  refine jq_aload_n C dL_law_972 (n := 973) rfl rfl ?_
  refine jq_iload C dL_law_973 (n := 975) rfl rfl ?_
  refine jq_iconst C dL_law_975 (n := 976) rfl ?_
  refine jq_iadd C dL_law_976 (n := 977) rfl (v := i + 1) rfl ?_
  refine j_sld C hS0 dL_law_977 (n := 978) rfl ⟨by omega, by omega⟩ ?_
  refine jq_callVp C dL_law_978 (n := 981) rfl m_L_136 v_yX11_count hs.hs.1 ⟨by decide, rfl⟩ (c_X11_count_v (w := w) (J := J) hI hF hs.hs (zsc xs (i + 1)) (zsc_r xs _)) (Nat.le_of_ble_eq_true rfl) rfl rfl (Nat.le_of_ble_eq_true rfl) ⟨by omega, by omega⟩ (fun x1 e1 => ?_)
  refine jq_pop C dL_law_981 (n := 982) rfl rfl ?_
  refine jq_aload_n C dL_law_982 (n := 983) rfl rfl ?_
  refine jq_aload_n C dL_law_983 (n := 984) rfl rfl ?_
  refine jq_iload C dL_law_984 (n := 986) rfl rfl ?_
  refine jq_iconst C dL_law_986 (n := 987) rfl ?_
  refine jq_iadd C dL_law_987 (n := 988) rfl (v := i + 1) rfl ?_
  refine j_sld C hS0 dL_law_988 (n := 989) rfl ⟨by omega, by omega⟩ ?_
  refine jq_callVi C dL_law_989 (n := 992) rfl m_L_139 v_yX12_count (zM0 hs.mo) ⟨by decide, rfl⟩ (c_X12_count_v (w := w) (J := J) hd.1 hd.2.1 hs.mo (zsc xs (i + 1)) (zsc_r xs _)) (Nat.le_of_ble_eq_true rfl) rfl rfl (Nat.le_of_ble_eq_true rfl) ⟨by omega, by omega⟩ (fun x2 M2 J2 hI2 e2 => ?_)
  have lo := zTE.lo e2.1 rfl rfl
  have lo8 : ∀ c k, c < a + 836 → M2 c k = M c k := fun c k q => e2.1.reg (n := 83) rfl rfl (by decide) c k (Or.inl q)
  have mf2 : ∀ j, M2 (a + 836 + 2) j = M (a + 836 + 2) j := fun j => e2.1.getA rfl rfl rfl
  have mf3 : ∀ j, M2 (a + 836 + 3) j = M (a + 836 + 3) j := fun j => e2.1.getA rfl rfl rfl
  have mf4 : ∀ j, M2 (a + 836 + 4) j = M (a + 836 + 4) j := fun j => e2.1.getA rfl rfl rfl
  have mf5 : ∀ j, M2 (a + 836 + 5) j = M (a + 836 + 5) j := fun j => e2.1.getA rfl rfl rfl
  have mg13 : M2 (a + 836) 13 = M (a + 836) 13 := e2.1.getS rfl rfl
  have mg8 : ∀ j, M2 (a + 836 + 8) j = M (a + 836 + 8) j := fun j => e2.1.getA rfl rfl rfl
  have m1 : M2 (a + 836) 2 = M (a + 836) 2 := e2.1.getS rfl rfl
  have m2 : ∀ j, M2 (a + 836 + 6) j = M (a + 836 + 6) j := fun j => e2.1.getA rfl rfl rfl
  have m3 : ∀ j, M2 (a + 836 + 1) j = M (a + 836 + 1) j := fun j => e2.1.getA rfl rfl rfl
  have hE : zVd a U F M2 R := hd.mod hI2 e2.1 rfl rfl (hd.2.2.2.1.cg (fun j => e2.1.getA rfl rfl rfl)) (hd.2.2.2.2.1.cg (fun j => e2.1.getA rfl rfl rfl)) (hd.2.2.2.2.2.cg (fun j => e2.1.getA rfl rfl rfl) (fun j => e2.1.getA rfl rfl rfl))
  refine jq_pop C dL_law_992 (n := 993) rfl rfl ?_
  have r_0 := zsc_r xs (i + 1)
  have t10 : zTF a M2 := hte.2.2.2.1.st zRw.rf lo8 mf2 mf3
  have t11 : zTW a M2 := hte.2.2.2.2.1.st zRw.rf lo8 mf2 mf3
  have t12 : zTB a M2 := hte.2.2.2.2.2.1.st zRw.rf.1 (Or.inr rfl) zRw.rf.2.2.2.1 zRw.rf.2.2.2.2 lo8 (fun j _ => mf4 j) mf5
  have nm9 : zNM a M2 := hte.2.2.2.2.2.2.2.cg ⟨rfl, fun _ => rfl⟩ ⟨rfl, fun _ => rfl⟩ lo8 ⟨mg13, mg8⟩
  have t13 : zTG a M2 := hte.2.2.2.2.2.2.st zRw.rf.1 (Or.inr rfl) lo8 nm9
  have te1 := hte.1
  have t9 : zTE a M2 := ⟨by have l1 := lo.1; omega, fun j j0 j1 => by
    have te2 := hte.2.1 j j0 j1
    have l2 := lo.2.1 j
    have n2 := m2 j
    omega, fun j j0 j1 => by
    have l1 := lo.1
    have l3 := lo.2.2 j
    have te3 := hte.2.2.1 j j0
    have n3 := m3 j
    omega, t10, t11, t12, t13⟩
  refine jq_goto C 1021 dL_law_993 rfl ?_
  exact kk T M2 J2 R kc nc ⟨hk.up ⟨by omega, by omega⟩, t9, U, F, hs, hy, hE⟩
theorem lc_27 (C : zCx w p s m args meth c yL_law cL_law 8 (some .boolean)) (hS0 : zScr w s sb L xs) (hi : i = 6 * (it : Int)) (hL : i ≤ (L : Int) - 6) (hv : zLv a it kc nc T M R) (kk : ∀ (T2 : zTl) (M2 : zMm) (J2 : zJm) (R2 : zRm') (kc2 nc2 : Nat), zLv a (it + 1) kc2 nc2 T2 M2 R2 → zJ w p e 1312 601024 7293034 s m args below meth c 8 Q kc2 nc2 1021 [.ref sb, .ref (w.2.1 + a), .ref (w.2.1 + (a + 836)), .ref (w.2.1 + (a + 919)), zi i, .null, .null, .null] [] (T2, M2, J2, R2)) : zJ w p e 1312 601024 7293034 s m args below meth c 8 Q kc nc 996 [.ref sb, .ref (w.2.1 + a), .ref (w.2.1 + (a + 836)), .ref (w.2.1 + (a + 919)), zi i, .null, .null, .null] [] (T, M, J, R) := by
  obtain ⟨hk, hte, U, F, hs, hy, hd⟩ := hv
  have hI := hd.1
  have hF := hd.2.1
  have hci := hd.2.2.1
  have hL2 := hS0.2.2.2
  have hk1 := hk.1
  have hk2 := hk.2.1
  refine jq_aload_n C dL_law_996 (n := 997) rfl rfl ?_
  refine jq_aload_n C dL_law_997 (n := 998) rfl rfl ?_
  refine jq_iload C dL_law_998 (n := 1000) rfl rfl ?_
  refine jq_iconst C dL_law_1000 (n := 1001) rfl ?_
  refine jq_iadd C dL_law_1001 (n := 1002) rfl (v := i + 1) rfl ?_
  refine j_sld C hS0 dL_law_1002 (n := 1003) rfl ⟨by omega, by omega⟩ ?_
  refine jq_callVp C dL_law_1003 (n := 1006) rfl m_L_140 v_yX11_lines hs.hs.1 ⟨by decide, rfl⟩ (c_X11_lines_v (w := w) (J := J) hI hF hs.hs (zsc xs (i + 1)) (zsc_r xs _)) (Nat.le_of_ble_eq_true rfl) rfl rfl (Nat.le_of_ble_eq_true rfl) ⟨by omega, by omega⟩ (fun x1 e1 => ?_)
  refine jq_pop C dL_law_1006 (n := 1007) rfl rfl ?_
  refine jq_aload_n C dL_law_1007 (n := 1008) rfl rfl ?_
  refine jq_aload_n C dL_law_1008 (n := 1009) rfl rfl ?_
  refine jq_iload C dL_law_1009 (n := 1011) rfl rfl ?_
  refine jq_iconst C dL_law_1011 (n := 1012) rfl ?_
  refine jq_iadd C dL_law_1012 (n := 1013) rfl (v := i + 1) rfl ?_
  refine j_sld C hS0 dL_law_1013 (n := 1014) rfl ⟨by omega, by omega⟩ ?_
  refine jq_callVi C dL_law_1014 (n := 1017) rfl m_L_143 v_yX12_lines (zM0 hs.mo) ⟨by decide, rfl⟩ (c_X12_lines_v (w := w) (J := J) hd.1 hd.2.1 hs.mo (zsc xs (i + 1)) (zsc_r xs _)) (Nat.le_of_ble_eq_true rfl) rfl rfl (Nat.le_of_ble_eq_true rfl) ⟨by omega, by omega⟩ (fun x2 M2 J2 hI2 e2 => ?_)
  have lo := zTE.lo e2.1 rfl rfl
  have lo8 : ∀ c k, c < a + 836 → M2 c k = M c k := fun c k q => e2.1.reg (n := 83) rfl rfl (by decide) c k (Or.inl q)
  have mf2 : ∀ j, M2 (a + 836 + 2) j = M (a + 836 + 2) j := fun j => e2.1.getA rfl rfl rfl
  have mf3 : ∀ j, M2 (a + 836 + 3) j = M (a + 836 + 3) j := fun j => e2.1.getA rfl rfl rfl
  have mf4 : ∀ j, M2 (a + 836 + 4) j = M (a + 836 + 4) j := fun j => e2.1.getA rfl rfl rfl
  have mf5 : ∀ j, M2 (a + 836 + 5) j = M (a + 836 + 5) j := fun j => e2.1.getA rfl rfl rfl
  have mg13 : M2 (a + 836) 13 = M (a + 836) 13 := e2.1.getS rfl rfl
  have mg8 : ∀ j, M2 (a + 836 + 8) j = M (a + 836 + 8) j := fun j => e2.1.getA rfl rfl rfl
  have m1 : M2 (a + 836) 2 = M (a + 836) 2 := e2.1.getS rfl rfl
  have m2 : ∀ j, M2 (a + 836 + 6) j = M (a + 836 + 6) j := fun j => e2.1.getA rfl rfl rfl
  have m3 : ∀ j, M2 (a + 836 + 1) j = M (a + 836 + 1) j := fun j => e2.1.getA rfl rfl rfl
  have hE : zVd a U F M2 R := hd.mod hI2 e2.1 rfl rfl (hd.2.2.2.1.cg (fun j => e2.1.getA rfl rfl rfl)) (hd.2.2.2.2.1.cg (fun j => e2.1.getA rfl rfl rfl)) (hd.2.2.2.2.2.cg (fun j => e2.1.getA rfl rfl rfl) (fun j => e2.1.getA rfl rfl rfl))
  refine jq_pop C dL_law_1017 (n := 1018) rfl rfl ?_
  have r_0 := zsc_r xs (i + 1)
  have t10 : zTF a M2 := hte.2.2.2.1.st zRw.rf lo8 mf2 mf3
  have t11 : zTW a M2 := hte.2.2.2.2.1.st zRw.rf lo8 mf2 mf3
  have t12 : zTB a M2 := hte.2.2.2.2.2.1.st zRw.rf.1 (Or.inr rfl) zRw.rf.2.2.2.1 zRw.rf.2.2.2.2 lo8 (fun j _ => mf4 j) mf5
  have nm9 : zNM a M2 := hte.2.2.2.2.2.2.2.cg ⟨rfl, fun _ => rfl⟩ ⟨rfl, fun _ => rfl⟩ lo8 ⟨mg13, mg8⟩
  have t13 : zTG a M2 := hte.2.2.2.2.2.2.st zRw.rf.1 (Or.inr rfl) lo8 nm9
  have te1 := hte.1
  have t9 : zTE a M2 := ⟨by have l1 := lo.1; omega, fun j j0 j1 => by
    have te2 := hte.2.1 j j0 j1
    have l2 := lo.2.1 j
    have n2 := m2 j
    omega, fun j j0 j1 => by
    have l1 := lo.1
    have l3 := lo.2.2 j
    have te3 := hte.2.2.1 j j0
    have n3 := m3 j
    omega, t10, t11, t12, t13⟩
  refine jq_goto C 1021 dL_law_1018 rfl ?_
  exact kk T M2 J2 R kc nc ⟨hk.up ⟨by omega, by omega⟩, t9, U, F, hs, hy, hE⟩
end LAWC
