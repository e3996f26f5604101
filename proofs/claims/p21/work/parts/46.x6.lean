theorem zX.ch {M : zMm} {a : Nat} {mb mp : Int → Int} {n A0 v u z : Int} (h : zX M a mb mp n A0 v u z) {i : Int} (i0 : 0 ≤ i) (i1 : i + 1 < M a 60) : M (a + 37) i + M (a + 38) i ≤ M (a + 37) (i + 1) := h.2.2.2.2.2.2.2.2.2.1.1 i i0 i1
theorem zX.q3 {M : zMm} {a : Nat} {mb mp : Int → Int} {n A0 v u z : Int} (h : zX M a mb mp n A0 v u z) {f : Int} (hn : n - 1 = f) (h0 : 0 ≤ f) : 0 ≤ M (a + 34) f ∧ M (a + 34) f ≤ M a 60 ∧ M a 60 ≤ M (a + 34) f + 20 ∧ 3500 ≤ M (a + 35) f ∧ M (a + 35) f ≤ 3500 + 100 * f ∧ (M (a + 34) f < M a 60 ∨ M a 26 = M (a + 35) f) ∧ (60 < M (a + 36) f ∨ M a 26 ≤ M (a + 35) f + M (a + 36) f) ∧ 0 ≤ M (a + 36) f ∧ M (a + 34) f ≤ 20 * f := by
  subst hn
  obtain ⟨q1, q2, ⟨⟨r1, r2, r3, r4, r5, r6, r7⟩, r8, r9⟩, q4⟩ := h.2.2.2.2.2.1 (by omega)
  have q5 := q1.2.2.1
  have q6 := (h.2.2.2.2.2.2.2.2.2.2.2.1 (M (a + 28) (n - 1))).2
  by_cases q : M (a + 34) (n - 1) < M a 60
  · have := (r9 q).2.2.2.1
    omega
  · have := r8 (by omega)
    omega
theorem zMu_build {M M2 : zMm} {a : Nat} {f x k : Int} (f0 : 0 ≤ f) (hs : 0 ≤ M a 58) (e57 : M2 a 57 = M a 57) (e62 : M2 a 62 = M a 62) (e58 : M2 a 58 = M a 58 + 1) (e24 : ∀ j, j ≠ M a 58 → M2 (a + 24) j = M (a + 24) j) (e25 : ∀ j, j ≠ M a 58 → M2 (a + 25) j = M (a + 25) j) (g24 : M2 (a + 24) (M a 58) = x) (g25 : M2 (a + 25) (M a 58) = x + k) (e31 : ∀ j, M2 (a + 31) j = M (a + 31) j) (hk : k ≤ 30) (hb : M (a + 31) f ≤ 20) : zMu M2 a f < zMu M a (f + 1) := by
  have z1 := zSum_s (g := M (a + 31)) (b := 0) (i := f) f0
  rw [Int.zero_add] at z1
  have r1 := yR_s (at_ := M2 (a + 24)) (en := M2 (a + 25)) hs
  rw [g24, g25, yR_cg (at_ := M (a + 24)) (en := M (a + 25)) (s := M a 58) (fun j j0 j1 => ⟨e24 j (by omega), e25 j (by omega)⟩)] at r1
  unfold zMu
  rw [e57, e58, e62, funext e31, r1, z1]
  omega
theorem c_X12_makes {w : zWp} {T : zTl} {M : zMm} {J : zJm} {R : zRm'} {G : zGt} {F : zRm'} {a : Nat} {mb mp og lg : Int → Int} {n A0 v u z : Int} (hI : zI G M) (hF : zF F R) (h0 : zModel T F G a) (v1 : Int) (v2 : Int) (f : Int) (pp : Int) (p1 : zX M a mb mp n A0 v u z) (p2 : zOg M a og lg) (p3 : zMa M a mb mp) (p4 : M a 57 = f) (p5 : M a 60 = pp) (p6 : n = f + 1 ∧ 1 ≤ z ∧ 1 ≤ u) (p7 : M (a + 38) (pp - 1) = 0) (p8 : M (a + 34) f < pp) (p9 : 0 ≤ v1 ∧ v1 ≤ 3) (p10 : -2147483648 ≤ v2 ∧ v2 ≤ 2147483647) : zCt w 3 0 0 yX12_makes cX12_makes 8 (some .boolean) [.ref (w.2.1 + a), zi v1, zi v2] (T, M, J, R) (zPi T R G (fun x M2 => (zMd a [9, 10, 11, 12, 13, 14, 15, 16, 17, 36, 38] [24, 26] [(18, 8), (18, 11), (18, 12), (18, 13), (18, 14)] M M2) ∧ (x = 0 ∨ x = 1) ∧ (x = 0 ∨ zX M2 a mb mp n A0 v (u - 1) (z - 1)) ∧ (zOg M2 a og lg) ∧ (zMa M2 a mb mp))) := by
  refine zCt.of rfl (Nat.le_of_ble_eq_true rfl) ?_
  intro p e s m args below meth c C
  obtain ⟨Po, hPo⟩ : ∃ Po, Po = zPi T R G (fun x M2 => (zMd a [9, 10, 11, 12, 13, 14, 15, 16, 17, 36, 38] [24, 26] [(18, 8), (18, 11), (18, 12), (18, 13), (18, 14)] M M2) ∧ (x = 0 ∨ x = 1) ∧ (x = 0 ∨ zX M2 a mb mp n A0 v (u - 1) (z - 1)) ∧ (zOg M2 a og lg) ∧ (zMa M2 a mb mp)) := ⟨_, rfl⟩
  rw [← hPo]
  subst p4
  subst p5
  have hK0 : zMd a [9, 10, 11, 12, 13, 14, 15, 16, 17, 36, 38] [24, 26] [(18, 8), (18, 11), (18, 12), (18, 13), (18, 14)] M M := zMd.rf
  have gk_frame := zI.at hI (zM142 h0)
  have gx0 := zX.num p1
  show zK w p e 3 0 0 s m args below meth c 8 T Po 0 [.ref (w.2.1 + a), zi v1, zi v2, .null, .null, .null, .null, .null] [] (T, M, J, R)
  refine q_iconst C dX12_makes_0 (n := 1) rfl ?_
  refine q_istore_n C [.ref (w.2.1 + a), zi v1, zi v2, zi 1, .null, .null, .null, .null] dX12_makes_1 (n := 2) rfl rfl rfl ?_
  refine q_aload_n C dX12_makes_2 (n := 3) rfl rfl ?_
  refine q_getR C dX12_makes_3 (n := 6) rfl f_X12_65 (zM0 h0) (hF _ _ _ (zM55 h0)) ?_
  refine q_aload_n C dX12_makes_6 (n := 7) rfl rfl ?_
  have g1 := zI.at hI (zM59 h0)
  refine q_getI C dX12_makes_7 (n := 10) rfl f_X12_391 (zM0 h0) (v := M a 24) rfl ?_
  refine q_bipush C dX12_makes_10 (n := 12) rfl (x := 34) (by decide) ?_
  refine q_bast C dX12_makes_12 (n := 13) rfl (zM56 h0) (by omega) (by omega) (fun M2 e3 => ?_)
  have hI4 : zI G M2 := hI.put e3 ((zM57 h0) (M a 24)) rfl (by omega)
  have hK5 := hK0.upA e3 rfl
  refine q_aload_n C dX12_makes_13 (n := 14) rfl rfl ?_
  refine q_iload_n C dX12_makes_14 (n := 15) rfl rfl ?_
  refine q_callVp C dX12_makes_15 (n := 18) rfl m_X12_531 v_yX12_argBegin (zM0 h0) ⟨by decide, rfl⟩ (c_X12_argBegin (w := w) (J := J) hI4 hF h0 v1 (M a 57) (by have hz6 : M2 a 57 = M a 57 := (zup_p e3 (by omega) _); omega) (by omega) (by omega)) (Nat.le_of_ble_eq_true rfl) rfl rfl (Nat.le_of_ble_eq_true rfl) ⟨Nat.le_refl _, Nat.le_refl _⟩ (fun x9 h10 => ?_)
  obtain ⟨h7, h8⟩ := h10
  have hz11 : M2 (a + 33) (5 * (M a 57) + v1) = M (a + 33) (5 * (M a 57) + v1) := (zup_p e3 (by omega) _)
  refine q_istore C [.ref (w.2.1 + a), zi v1, zi v2, zi 1, zi x9, .null, .null, .null] dX12_makes_18 (n := 20) rfl rfl rfl ?_
  have L_24 : ∀ n25 : Nat, ∀ (u12 : Int) (u13 : Int) (M15 : zMm) (J16 : zJm), zI G M15 → zMd a [9, 10, 11, 12, 13, 14, 15, 16, 17, 36, 38] [24, 26] [(18, 8), (18, 11), (18, 12), (18, 13), (18, 14)] M M15 → zMd a [17] [] [] M2 M15 → (-2147483648 ≤ u12 ∧ u12 ≤ 2147483647) → (-2147483648 ≤ u13 ∧ u13 ≤ 2147483647) → (0 ≤ u13 ∧ u13 ≤ 194001) → (1 ≤ u12 ∧ u12 ≤ 1 + 31 * u13) → (194001 - u13 + 1 ≤ (n25 : Int)) → zK w p e 3 0 0 s m args below meth c 8 T Po 20 [.ref (w.2.1 + a), zi v1, zi v2, zi u12, zi u13, .null, .null, .null] [] (T, M15, J16, R) := by
    intro n25
    induction n25 with
    | zero =>
      intro u12 u13 M15 J16 hI17 hK18 hK19 h20 h21 h22 h23 hm27
      exfalso
      omega
    | succ n25 ih26 =>
      intro u12 u13 M15 J16 hI17 hK18 hK19 h20 h21 h22 h23 hm27
      refine q_iload C dX12_makes_20 (n := 22) rfl rfl ?_
      refine q_aload_n C dX12_makes_22 (n := 23) rfl rfl ?_
      refine q_iload_n C dX12_makes_23 (n := 24) rfl rfl ?_
      refine q_callVp C dX12_makes_24 (n := 27) rfl m_X12_534 v_yX12_argEnd (zM0 h0) ⟨by decide, rfl⟩ (c_X12_argEnd (w := w) (J := J16) hI17 hF h0 v1 (M a 57) (by have hz28 : M15 a 57 = M a 57 := ((hK19.getS rfl rfl).trans (zup_p e3 (by omega) _)); omega) (by omega) (by omega)) (Nat.le_of_ble_eq_true rfl) rfl rfl (Nat.le_of_ble_eq_true rfl) ⟨Nat.le_refl _, Nat.le_refl _⟩ (fun x31 h32 => ?_)
      obtain ⟨h29, h30⟩ := h32
      have hz33 : M15 (a + 33) (5 * (M a 57) + v1 + 1) = M (a + 33) (5 * (M a 57) + v1 + 1) := ((hK19.getA rfl rfl rfl).trans (zup_p e3 (by omega) _))
      refine q_icmp_ge C 154 dX12_makes_27 (n := 30) rfl rfl (by omega) (fun h34 => ?_) (fun h34 => ?_)
      · refine q_iinc C [.ref (w.2.1 + a), zi v1, zi v2, zi (u12 + 1), zi u13, .null, .null, .null] dX12_makes_154 (n := 157) rfl rfl rfl rfl ?_
        refine q_iload_n C dX12_makes_157 (n := 158) rfl rfl ?_
        refine q_bipush C dX12_makes_158 (n := 160) rfl (x := 30) (by decide) ?_
        refine q_icmp_le C 179 dX12_makes_160 (n := 163) rfl rfl (by omega) (fun h35 => ?_) (fun h35 => ?_)
        · refine q_aload_n C dX12_makes_179 (n := 180) rfl rfl ?_
          refine q_getR C dX12_makes_180 (n := 183) rfl f_X12_65 (zM0 h0) (hF _ _ _ (zM55 h0)) ?_
          refine q_aload_n C dX12_makes_183 (n := 184) rfl rfl ?_
          refine q_getI C dX12_makes_184 (n := 187) rfl f_X12_391 (zM0 h0) (v := M a 24) ((hK19.getS rfl rfl).trans (zup_p e3 (by omega) _)) ?_
          refine q_iload_n C dX12_makes_187 (n := 188) rfl rfl ?_
          refine q_iadd C dX12_makes_188 (n := 189) rfl (v := (M a 24) + (u12 + 1)) rfl ?_
          refine q_iconst C dX12_makes_189 (n := 190) rfl ?_
          refine q_isub C dX12_makes_190 (n := 191) rfl (v := ((M a 24) + (u12 + 1)) - 1) rfl ?_
          refine q_bipush C dX12_makes_191 (n := 193) rfl (x := 34) (by decide) ?_
          refine q_bast C dX12_makes_193 (n := 194) rfl (zM56 h0) (by omega) (by omega) (fun M36 e37 => ?_)
          have hI38 : zI G M36 := hI17.put e37 ((zM57 h0) (((M a 24) + (u12 + 1)) - 1)) rfl (by omega)
          have hK39 := hK18.upA e37 rfl
          have hK40 := hK19.upA e37 rfl
          refine q_aload_n C dX12_makes_194 (n := 195) rfl rfl ?_
          refine q_iconst C dX12_makes_195 (n := 196) rfl ?_
          refine q_aload_n C dX12_makes_196 (n := 197) rfl rfl ?_
          refine q_getI C dX12_makes_197 (n := 200) rfl f_X12_391 (zM0 h0) (v := M a 24) ((zup_p e37 (by omega) _).trans ((hK19.getS rfl rfl).trans (zup_p e3 (by omega) _))) ?_
          refine q_iload_n C dX12_makes_200 (n := 201) rfl rfl ?_
          refine q_iload_n C dX12_makes_201 (n := 202) rfl rfl ?_
          have hp41 : zX M36 a mb mp n A0 v u z := p1.cg ((zup_p e37 (by omega) _).trans ((hK19.getS rfl rfl).trans (zup_p e3 (by omega) _))) ((zup_p e37 (by omega) _).trans ((hK19.getS rfl rfl).trans (zup_p e3 (by omega) _))) ((zup_p e37 (by omega) _).trans ((hK19.getS rfl rfl).trans (zup_p e3 (by omega) _))) ((zup_p e37 (by omega) _).trans ((hK19.getS rfl rfl).trans (zup_p e3 (by omega) _))) ((zup_p e37 (by omega) _).trans ((hK19.getS rfl rfl).trans (zup_p e3 (by omega) _))) ((zup_p e37 (by omega) _).trans ((hK19.getS rfl rfl).trans (zup_p e3 (by omega) _))) ((zup_p e37 (by omega) _).trans ((hK19.getS rfl rfl).trans (zup_p e3 (by omega) _))) ((zup_p e37 (by omega) _).trans ((hK19.getS rfl rfl).trans (zup_p e3 (by omega) _))) ((zup_p e37 (by omega) _).trans ((hK19.getS rfl rfl).trans (zup_p e3 (by omega) _))) (fun j => ((zup_p e37 (by omega) _).trans ((hK19.getA rfl rfl rfl).trans (zup_p e3 (by omega) _)))) (fun j => ((zup_p e37 (by omega) _).trans ((hK19.getA rfl rfl rfl).trans (zup_p e3 (by omega) _)))) (fun j => ((zup_p e37 (by omega) _).trans ((hK19.getA rfl rfl rfl).trans (zup_p e3 (by omega) _)))) (fun j => ((zup_p e37 (by omega) _).trans ((hK19.getA rfl rfl rfl).trans (zup_p e3 (by omega) _)))) (fun j => ((zup_p e37 (by omega) _).trans ((hK19.getA rfl rfl rfl).trans (zup_p e3 (by omega) _)))) (fun j => ((zup_p e37 (by omega) _).trans ((hK19.getA rfl rfl rfl).trans (zup_p e3 (by omega) _)))) (fun j => ((zup_p e37 (by omega) _).trans ((hK19.getA rfl rfl rfl).trans (zup_p e3 (by omega) _)))) (fun j => ((zup_p e37 (by omega) _).trans ((hK19.getA rfl rfl rfl).trans (zup_p e3 (by omega) _)))) (fun j => ((zup_p e37 (by omega) _).trans ((hK19.getA rfl rfl rfl).trans (zup_p e3 (by omega) _)))) (fun j => ((zup_p e37 (by omega) _).trans ((hK19.getA rfl rfl rfl).trans (zup_p e3 (by omega) _)))) (fun j => ((zup_p e37 (by omega) _).trans ((hK19.getA rfl rfl rfl).trans (zup_p e3 (by omega) _)))) (fun j => ((zup_p e37 (by omega) _).trans ((hK19.getA rfl rfl rfl).trans (zup_p e3 (by omega) _)))) (fun j => ((zup_p e37 (by omega) _).trans ((hK19.getA rfl rfl rfl).trans (zup_p e3 (by omega) _))))
          have hp42 : zOg M36 a og lg := p2.cg (fun j => ((zup_p e37 (by omega) _).trans ((hK19.getA rfl rfl rfl).trans (zup_p e3 (by omega) _)))) (fun j => ((zup_p e37 (by omega) _).trans ((hK19.getA rfl rfl rfl).trans (zup_p e3 (by omega) _))))
          refine q_callVv C dX12_makes_202 (n := 205) rfl m_X12_543 v_yX12_laysToken (zM0 h0) ⟨by decide, rfl⟩ (c_X12_laysToken (w := w) (J := J16) hI38 hF h0 2 (M a 24) (u12 + 1) v2 (M a 57) (M a 60) hp41 hp42 (by have hz43 : M36 a 57 = M a 57 := ((zup_p e37 (by omega) _).trans ((hK19.getS rfl rfl).trans (zup_p e3 (by omega) _))); omega) (by have hz44 : M36 a 60 = M a 60 := ((zup_p e37 (by omega) _).trans ((hK19.getS rfl rfl).trans (zup_p e3 (by omega) _))); omega) (by omega) (by have hz45 : M36 (a + 38) ((M a 60) - 1) = M (a + 38) ((M a 60) - 1) := ((zup_p e37 (by omega) _).trans ((hK19.getA rfl rfl rfl).trans (zup_p e3 (by omega) _))); omega) (by have hz46 : M36 (a + 34) (M a 57) = M (a + 34) (M a 57) := ((zup_p e37 (by omega) _).trans ((hK19.getA rfl rfl rfl).trans (zup_p e3 (by omega) _))); omega) (by omega) (by omega) (by omega) (by omega)) (Nat.le_of_ble_eq_true rfl) rfl rfl (Nat.le_of_ble_eq_true rfl) ⟨Nat.le_refl _, Nat.le_refl _⟩ (fun M49 J50  hI51 h52 => ?_)
          obtain ⟨hk53, h47, h48⟩ := h52
          have hK54 := hK39.tr hk53 rfl rfl rfl
          refine q_aload_n C dX12_makes_205 (n := 206) rfl rfl ?_
          refine q_dup C dX12_makes_206 (n := 207) rfl rfl ?_
          refine q_getI C dX12_makes_207 (n := 210) rfl f_X12_391 (zM0 h0) (v := M a 24) ((hk53.getS rfl rfl).trans ((zup_p e37 (by omega) _).trans ((hK19.getS rfl rfl).trans (zup_p e3 (by omega) _)))) ?_
          refine q_iload_n C dX12_makes_210 (n := 211) rfl rfl ?_
          refine q_iadd C dX12_makes_211 (n := 212) rfl (v := (M a 24) + (u12 + 1)) rfl ?_
          refine q_putI C dX12_makes_212 (n := 215) rfl f_X12_391 (zM0 h0) ⟨rfl, rfl⟩ (fun M55 (e56 : M55 = zup M49 a 24 ((M a 24) + (u12 + 1))) => ?_)
          have hI57 : zI G M55 := hI51.put e56 (zM59 h0) rfl (by omega)
          have hK58 := hK54.upS e56 rfl
          have hz59 : M49 a 62 = M a 62 := ((hk53.getS rfl rfl).trans ((zup_p e37 (by omega) _).trans ((hK19.getS rfl rfl).trans (zup_p e3 (by omega) _))))
          have hz60 : M49 a 57 = M a 57 := ((hk53.getS rfl rfl).trans ((zup_p e37 (by omega) _).trans ((hK19.getS rfl rfl).trans (zup_p e3 (by omega) _))))
          have hz61 : M49 a 58 = M a 58 := ((hk53.getS rfl rfl).trans ((zup_p e37 (by omega) _).trans ((hK19.getS rfl rfl).trans (zup_p e3 (by omega) _))))
          have hz62 : M49 a 59 = M a 59 := ((hk53.getS rfl rfl).trans ((zup_p e37 (by omega) _).trans ((hK19.getS rfl rfl).trans (zup_p e3 (by omega) _))))
          have hz63 : M49 a 60 = M a 60 := ((hk53.getS rfl rfl).trans ((zup_p e37 (by omega) _).trans ((hK19.getS rfl rfl).trans (zup_p e3 (by omega) _))))
          have hz64 : M49 a 25 = M a 25 := ((hk53.getS rfl rfl).trans ((zup_p e37 (by omega) _).trans ((hK19.getS rfl rfl).trans (zup_p e3 (by omega) _))))
          have hz65 : M49 a 24 = M a 24 := ((hk53.getS rfl rfl).trans ((zup_p e37 (by omega) _).trans ((hK19.getS rfl rfl).trans (zup_p e3 (by omega) _))))
          have hz66 : M49 a 61 = M a 61 := ((hk53.getS rfl rfl).trans ((zup_p e37 (by omega) _).trans ((hK19.getS rfl rfl).trans (zup_p e3 (by omega) _))))
          have hx67 : zX M55 a mb mp n A0 v (u - 1) (z - 1) := zY.cgr (Y_pool h47 (by omega) (by omega) (x := u12 + 1) (by omega)) (zup_n e56 (by omega)) (zup_n e56 (by omega)) (zup_n e56 (by omega)) (zup_n e56 (by omega)) (zup_n e56 (by omega)) (zup_n e56 (by omega)) (zup_n e56 (by omega)) (by have hw : M55 a 24 = (M a 24) + (u12 + 1) := (zup_s e56); omega) (zup_n e56 (by omega)) (funext fun j => (zup_p e56 (by omega) _)) (funext fun j => (zup_p e56 (by omega) _)) (funext fun j => (zup_p e56 (by omega) _)) (funext fun j => (zup_p e56 (by omega) _)) (funext fun j => (zup_p e56 (by omega) _)) (funext fun j => (zup_p e56 (by omega) _)) (funext fun j => (zup_p e56 (by omega) _)) (funext fun j => (zup_p e56 (by omega) _)) (funext fun j => (zup_p e56 (by omega) _)) (funext fun j => (zup_p e56 (by omega) _)) (funext fun j => (zup_p e56 (by omega) _)) (funext fun j => (zup_p e56 (by omega) _)) (funext fun j => (zup_p e56 (by omega) _))
          refine q_aload_n C dX12_makes_215 (n := 216) rfl rfl ?_
          refine q_getR C dX12_makes_216 (n := 219) rfl f_X12_68 (zM0 h0) (hF _ _ _ (zM65 h0)) ?_
          refine q_bipush C dX12_makes_219 (n := 221) rfl (x := 8) (by decide) ?_
          refine q_dup2 C dX12_makes_221 (n := 222) rfl ⟨rfl, rfl⟩ ?_
          have g68 := zI.at hI (((zM67 h0) 8).trans (zwG_1 (by omega)))
          refine q_iald C dX12_makes_222 (n := 223) rfl (zM66 h0) (by omega) (v := M (a + 18) 8) ((zup_p e56 (by omega) _).trans ((hk53.getA rfl rfl rfl).trans ((zup_p e37 (by omega) _).trans ((hK19.getA rfl rfl rfl).trans (zup_p e3 (by omega) _))))) ?_
          refine q_iconst C dX12_makes_223 (n := 224) rfl ?_
          refine q_iadd C dX12_makes_224 (n := 225) rfl (v := (M (a + 18) 8) + 1) rfl ?_
          refine q_wrap C ?_
          have g69 := zr_wr ((M (a + 18) 8) + 1)
          refine q_iast C dX12_makes_225 (n := 226) rfl (zM66 h0) (by omega)  (fun M70 e71 => ?_)
          have hp72 : zMa M55 a mb mp := p3.cg (fun j j0 j1 => ((zup_p e56 (by omega) _).trans ((hk53.getA rfl rfl rfl).trans ((zup_p e37 (by omega) _).trans ((hK19.getA rfl rfl rfl).trans (zup_p e3 (by omega) _)))))) (fun j => ((zup_p e56 (by omega) _).trans ((hk53.getA rfl rfl rfl).trans ((zup_p e37 (by omega) _).trans ((hK19.getA rfl rfl rfl).trans (zup_p e3 (by omega) _))))))
          have hp73 : zMa M70 a mb mp := hp72.up e71 (by omega)
          have hI74 : zI G M70 := hI57.put e71 (((zM67 h0) 8).trans (zwG_1 (by omega))) rfl (by omega)
          have hK75 := hK58.upP e71 rfl
          refine q_iconst C dX12_makes_226 (n := 227) rfl ?_
          have hp76 : zX M70 a mb mp n A0 v (u - 1) (z - 1) := hx67.cg (zup_p e71 (by omega) _) (zup_p e71 (by omega) _) (zup_p e71 (by omega) _) (zup_p e71 (by omega) _) (zup_p e71 (by omega) _) (zup_p e71 (by omega) _) (zup_p e71 (by omega) _) (zup_p e71 (by omega) _) (zup_p e71 (by omega) _) (fun j => (zup_p e71 (by omega) _)) (fun j => (zup_p e71 (by omega) _)) (fun j => (zup_p e71 (by omega) _)) (fun j => (zup_p e71 (by omega) _)) (fun j => (zup_p e71 (by omega) _)) (fun j => (zup_p e71 (by omega) _)) (fun j => (zup_p e71 (by omega) _)) (fun j => (zup_p e71 (by omega) _)) (fun j => (zup_p e71 (by omega) _)) (fun j => (zup_p e71 (by omega) _)) (fun j => (zup_p e71 (by omega) _)) (fun j => (zup_p e71 (by omega) _)) (fun j => (zup_p e71 (by omega) _))
          have hp77 : zOg M70 a og lg := h48.cg (fun j => ((zup_p e71 (by omega) _).trans (zup_p e56 (by omega) _))) (fun j => ((zup_p e71 (by omega) _).trans (zup_p e56 (by omega) _)))
          exact q_zret C dX12_makes_227 ⟨rfl, rfl⟩ (by omega) (by rw [hPo]; exact ⟨1, M70, J50, rfl, rfl, hI74, hK75, by omega, Or.inr hp76, hp77, hp73⟩)
        · refine q_aload_n C dX12_makes_163 (n := 164) rfl rfl ?_
          refine q_bipush C dX12_makes_164 (n := 166) rfl (x := 6) (by decide) ?_
          refine q_aload_n C dX12_makes_166 (n := 167) rfl rfl ?_
          refine q_getR C dX12_makes_167 (n := 170) rfl f_X12_101 (zM0 h0) (hF _ _ _ (zM100 h0)) ?_
          refine q_aload_n C dX12_makes_170 (n := 171) rfl rfl ?_
          have g78 := zI.at hI (zM142 h0)
          refine q_getI C dX12_makes_171 (n := 174) rfl f_X12_448 (zM0 h0) (v := M a 57) ((hK19.getS rfl rfl).trans (zup_p e3 (by omega) _)) ?_
          have g79 := zI.at hI ((zM102 h0) (M a 57))
          refine q_iald C dX12_makes_174 (n := 175) rfl (zM101 h0) (by omega) (v := M (a + 29) (M a 57)) ((hK19.getA rfl rfl rfl).trans (zup_p e3 (by omega) _)) ?_
          refine q_callVi C dX12_makes_175 (n := 178) rfl m_X12_376 v_yX12_badAt (zM0 h0) ⟨by decide, rfl⟩ (c_X12_badAt (w := w) (J := J16) hI17 hF h0 6 (M (a + 29) (M a 57)) (by omega) (by omega)) (Nat.le_of_ble_eq_true rfl) rfl rfl (Nat.le_of_ble_eq_true rfl) ⟨Nat.le_refl _, Nat.le_refl _⟩ (fun x86 M82 J83  hI84 h85 => ?_)
          obtain ⟨hk87, h80, h81⟩ := h85
          have hK88 := hK18.tr hk87 rfl rfl rfl
          have hp89 : zOg M82 a og lg := p2.cg (fun j => ((hk87.getA rfl rfl rfl).trans ((hK19.getA rfl rfl rfl).trans (zup_p e3 (by omega) _)))) (fun j => ((hk87.getA rfl rfl rfl).trans ((hK19.getA rfl rfl rfl).trans (zup_p e3 (by omega) _))))
          have hp90 : zMa M82 a mb mp := p3.cg (fun j j0 j1 => ((hk87.getW rfl rfl (by omega)).trans ((hK19.getA rfl rfl rfl).trans (zup_p e3 (by omega) _)))) (fun j => ((hk87.getA rfl rfl rfl).trans ((hK19.getA rfl rfl rfl).trans (zup_p e3 (by omega) _))))
          exact q_zret C dX12_makes_178 ⟨rfl, rfl⟩ (by omega) (by rw [hPo]; exact ⟨x86, M82, J83, rfl, rfl, hI84, hK88, by omega, Or.inl (by omega), hp89, hp90⟩)
      · refine q_aload_n C dX12_makes_30 (n := 31) rfl rfl ?_
        refine q_getR C dX12_makes_31 (n := 34) rfl f_X12_135 (zM0 h0) (hF _ _ _ (zM133 h0)) ?_
        refine q_iload C dX12_makes_34 (n := 36) rfl rfl ?_
        have g91 := zI.at hI ((zM135 h0) u13)
        refine q_iald C dX12_makes_36 (n := 37) rfl (zM134 h0) (by omega) (v := M (a + 40) u13) ((hK19.getA rfl rfl rfl).trans (zup_p e3 (by omega) _)) ?_
        refine q_istore C [.ref (w.2.1 + a), zi v1, zi v2, zi u12, zi u13, zi (M (a + 40) u13), .null, .null] dX12_makes_37 (n := 39) rfl rfl rfl ?_
        refine q_iload C dX12_makes_39 (n := 41) rfl rfl ?_
        refine q_aload_n C dX12_makes_41 (n := 42) rfl rfl ?_
        refine q_iload_n C dX12_makes_42 (n := 43) rfl rfl ?_
        refine q_callVp C dX12_makes_43 (n := 46) rfl m_X12_531 v_yX12_argBegin (zM0 h0) ⟨by decide, rfl⟩ (c_X12_argBegin (w := w) (J := J16) hI17 hF h0 v1 (M a 57) (by have hz92 : M15 a 57 = M a 57 := ((hK19.getS rfl rfl).trans (zup_p e3 (by omega) _)); omega) (by omega) (by omega)) (Nat.le_of_ble_eq_true rfl) rfl rfl (Nat.le_of_ble_eq_true rfl) ⟨Nat.le_refl _, Nat.le_refl _⟩ (fun x95 h96 => ?_)
        obtain ⟨h93, h94⟩ := h96
        have hz97 : M15 (a + 33) (5 * (M a 57) + v1) = M (a + 33) (5 * (M a 57) + v1) := ((hK19.getA rfl rfl rfl).trans (zup_p e3 (by omega) _))
        have J_108 : ∀ (u98 : Int) (M100 : zMm) (J101 : zJm), zI G M100 → zMd a [9, 10, 11, 12, 13, 14, 15, 16, 17, 36, 38] [24, 26] [(18, 8), (18, 11), (18, 12), (18, 13), (18, 14)] M M100 → zMd a [17] [] [] M2 M100 → zMd a [17] [] [] M15 M100 → (-2147483648 ≤ u98 ∧ u98 ≤ 2147483647) → (u12 ≤ u98 ∧ u98 ≤ u12 + 1) → zK w p e 3 0 0 s m args below meth c 8 T Po 82 [.ref (w.2.1 + a), zi v1, zi v2, zi u98, zi u13, zi (M (a + 40) u13), .null, .null] [] (T, M100, J101, R) := by
          intro u98 M100 J101 hI102 hK103 hK104 hK105 h106 h107
          refine q_iconst C dX12_makes_82 (n := 83) rfl ?_
          refine q_istore C [.ref (w.2.1 + a), zi v1, zi v2, zi u98, zi u13, zi (M (a + 40) u13), zi 0, .null] dX12_makes_83 (n := 85) rfl rfl rfl ?_
          have L_122 : ∀ n123 : Nat, ∀ (u109 : Int) (u110 : Int) (M112 : zMm) (J113 : zJm), zI G M112 → zMd a [9, 10, 11, 12, 13, 14, 15, 16, 17, 36, 38] [24, 26] [(18, 8), (18, 11), (18, 12), (18, 13), (18, 14)] M M112 → zMd a [17] [] [] M2 M112 → zMd a [17] [] [] M100 M112 → (-2147483648 ≤ u109 ∧ u109 ≤ 2147483647) → (-2147483648 ≤ u110 ∧ u110 ≤ 2147483647) → (0 ≤ u110 ∧ u110 ≤ 30) → (u98 ≤ u109 ∧ u109 ≤ u98 + u110) → (30 - u110 + 1 ≤ (n123 : Int)) → zK w p e 3 0 0 s m args below meth c 8 T Po 85 [.ref (w.2.1 + a), zi v1, zi v2, zi u109, zi u13, zi (M (a + 40) u13), zi u110, .null] [] (T, M112, J113, R) := by
            intro n123
            induction n123 with
            | zero =>
              intro u109 u110 M112 J113 hI114 hK115 hK116 hK117 h118 h119 h120 h121 hm125
              exfalso
              omega
            | succ n123 ih124 =>
              intro u109 u110 M112 J113 hI114 hK115 hK116 hK117 h118 h119 h120 h121 hm125
              refine q_iload C dX12_makes_85 (n := 87) rfl rfl ?_
              refine q_aload_n C dX12_makes_87 (n := 88) rfl rfl ?_
              refine q_getR C dX12_makes_88 (n := 91) rfl f_X12_46 (zM0 h0) (hF _ _ _ (zM37 h0)) ?_
              refine q_iload C dX12_makes_91 (n := 93) rfl rfl ?_
              have g126 := zI.at hI ((zM39 h0) (M (a + 40) u13))
              refine q_iald C dX12_makes_93 (n := 94) rfl (zM38 h0) (by omega) (v := M (a + 11) (M (a + 40) u13)) ((hK117.getA rfl rfl rfl).trans ((hK105.getA rfl rfl rfl).trans ((hK19.getA rfl rfl rfl).trans (zup_p e3 (by omega) _)))) ?_
              refine q_icmp_ge C 148 dX12_makes_94 (n := 97) rfl rfl (by omega) (fun h127 => ?_) (fun h127 => ?_)
              · refine q_iinc C [.ref (w.2.1 + a), zi v1, zi v2, zi u109, zi (u13 + 1), zi (M (a + 40) u13), zi u110, .null] dX12_makes_148 (n := 151) rfl rfl rfl rfl ?_
                refine q_goto C 20 dX12_makes_151 rfl ?_
                exact zK.weak (ih26 u109 (u13 + 1) M112 J113 hI114 hK115 hK116 (by omega) (by omega) (by omega) (by omega) (by omega)) (zwk_c (zwk_c (zwk_c (zwk_c (zwk_c (zwk_n (zwk_n (zwk_n zwk_e))))))))
              · refine q_aload_n C dX12_makes_97 (n := 98) rfl rfl ?_
                refine q_iload C dX12_makes_98 (n := 100) rfl rfl ?_
                refine q_iload C dX12_makes_100 (n := 102) rfl rfl ?_
                refine q_callVp C dX12_makes_102 (n := 105) rfl m_X12_370 v_yX12_byteIn (zM0 h0) ⟨by decide, rfl⟩ (c_X12_byteIn (w := w) (J := J113) hI114 hF h0 (M (a + 40) u13) u110 (by omega) (by omega)) (Nat.le_of_ble_eq_true rfl) rfl rfl (Nat.le_of_ble_eq_true rfl) ⟨Nat.le_refl _, Nat.le_refl _⟩ (fun x130 h131 => ?_)
                obtain ⟨h128, h129⟩ := h131
                refine q_istore C [.ref (w.2.1 + a), zi v1, zi v2, zi u109, zi u13, zi (M (a + 40) u13), zi u110, zi x130] dX12_makes_105 (n := 107) rfl rfl rfl ?_
                refine q_iload_n C dX12_makes_107 (n := 108) rfl rfl ?_
                refine q_bipush C dX12_makes_108 (n := 110) rfl (x := 31) (by decide) ?_
                have J_140 : ∀ (M133 : zMm) (J134 : zJm), zI G M133 → zMd a [9, 10, 11, 12, 13, 14, 15, 16, 17, 36, 38] [24, 26] [(18, 8), (18, 11), (18, 12), (18, 13), (18, 14)] M M133 → zMd a [17] [] [] M2 M133 → zMd a [17] [] [] M100 M133 → zMd a [17] [] [] M112 M133 → zK w p e 3 0 0 s m args below meth c 8 T Po 139 [.ref (w.2.1 + a), zi v1, zi v2, zi u109, zi u13, zi (M (a + 40) u13), zi u110, .null] [] (T, M133, J134, R) := by
                  intro M133 J134 hI135 hK136 hK137 hK138 hK139
                  refine q_iinc C [.ref (w.2.1 + a), zi v1, zi v2, zi (u109 + 1), zi u13, zi (M (a + 40) u13), zi u110, .null] dX12_makes_139 (n := 142) rfl rfl rfl rfl ?_
                  refine q_iinc C [.ref (w.2.1 + a), zi v1, zi v2, zi (u109 + 1), zi u13, zi (M (a + 40) u13), zi (u110 + 1), .null] dX12_makes_142 (n := 145) rfl rfl rfl rfl ?_
                  refine q_goto C 85 dX12_makes_145 rfl ?_
                  exact zK.weak (ih124 (u109 + 1) (u110 + 1) M133 J134 hI135 hK136 hK137 hK138 (by omega) (by omega) (by omega) (by omega) (by omega)) (zwk_c (zwk_c (zwk_c (zwk_c (zwk_c (zwk_c (zwk_c (zwk_n zwk_e))))))))
                refine q_icmp_ge C 139 dX12_makes_110 (n := 113) rfl rfl (by omega) (fun h141 => ?_) (fun h141 => ?_)
                · exact zK.weak (J_140 M112 J113 hI114 hK115 hK116 hK117 (zMd.rf : zMd a [17] [] [] M112 M112)) (zwk_c (zwk_c (zwk_c (zwk_c (zwk_c (zwk_c (zwk_c (zwk_n zwk_e))))))))
                · refine q_aload_n C dX12_makes_113 (n := 114) rfl rfl ?_
                  refine q_getR C dX12_makes_114 (n := 117) rfl f_X12_65 (zM0 h0) (hF _ _ _ (zM55 h0)) ?_
                  refine q_aload_n C dX12_makes_117 (n := 118) rfl rfl ?_
                  refine q_getI C dX12_makes_118 (n := 121) rfl f_X12_391 (zM0 h0) (v := M a 24) ((hK117.getS rfl rfl).trans ((hK105.getS rfl rfl).trans ((hK19.getS rfl rfl).trans (zup_p e3 (by omega) _)))) ?_
                  refine q_iload_n C dX12_makes_121 (n := 122) rfl rfl ?_
                  refine q_iadd C dX12_makes_122 (n := 123) rfl (v := (M a 24) + u109) rfl ?_
                  refine q_iload C dX12_makes_123 (n := 125) rfl rfl ?_
                  refine q_bipush C dX12_makes_125 (n := 127) rfl (x := 34) (by decide) ?_
                  have J_144 : ∀ (u142 : Int), (-2147483648 ≤ u142 ∧ u142 ≤ 2147483647) → zK w p e 3 0 0 s m args below meth c 8 T Po 137 [.ref (w.2.1 + a), zi v1, zi v2, zi u109, zi u13, zi (M (a + 40) u13), zi u110, .null] [zi u142, zi ((M a 24) + u109), .ref (w.2.1 + (a + 17))] (T, M112, J113, R) := by
                    intro u142 h143
                    refine q_i2b C dX12_makes_137 (n := 138) rfl (v := zi2b u142) rfl ?_
                    have g145 := z8_r u142
                    refine q_bast C dX12_makes_138 (n := 139) rfl (zM56 h0) (by omega) (by omega) (fun M146 e147 => ?_)
                    have hI148 : zI G M146 := hI114.put e147 ((zM57 h0) ((M a 24) + u109)) rfl (by omega)
                    have hK149 := hK115.upA e147 rfl
                    have hK150 := hK116.upA e147 rfl
                    have hK151 := hK117.upA e147 rfl
                    have hK152 := (zMd.rf : zMd a [17] [] [] M112 M112).upA e147 rfl
                    exact zK.weak (J_140 M146 J113 hI148 hK149 hK150 hK151 hK152) (zwk_c (zwk_c (zwk_c (zwk_c (zwk_c (zwk_c (zwk_c (zwk_n zwk_e))))))))
                  refine q_icmp_ne C 135 dX12_makes_127 (n := 130) rfl rfl (by omega) (fun h153 => ?_) (fun h153 => ?_)
                  · refine q_iload C dX12_makes_135 (n := 137) rfl rfl ?_
                    exact zK.weak (J_144 x130 (by omega)) (zwk_c (zwk_c (zwk_c (zwk_c (zwk_c (zwk_c (zwk_c (zwk_n zwk_e))))))))
                  · refine q_bipush C dX12_makes_130 (n := 132) rfl (x := 39) (by decide) ?_
                    refine q_goto C 137 dX12_makes_132 rfl ?_
                    exact zK.weak (J_144 39 (by omega)) (zwk_c (zwk_c (zwk_c (zwk_c (zwk_c (zwk_c (zwk_c (zwk_n zwk_e))))))))
          exact zK.weak (L_122 _ u98 0 M100 J101 hI102 hK103 hK104 (zMd.rf : zMd a [17] [] [] M100 M100) (by omega) (by omega) (by omega) (by omega) (Int.self_le_toNat _)) (zwk_c (zwk_c (zwk_c (zwk_c (zwk_c (zwk_c (zwk_c (zwk_n zwk_e))))))))
        refine q_icmp_le C 82 dX12_makes_46 (n := 49) rfl rfl (by omega) (fun h154 => ?_) (fun h154 => ?_)
        · exact zK.weak (J_108 u12 M15 J16 hI17 hK18 hK19 (zMd.rf : zMd a [17] [] [] M15 M15) (by omega) (by omega)) (zwk_c (zwk_c (zwk_c (zwk_c (zwk_c (zwk_c (zwk_n (zwk_n zwk_e))))))))
        · refine q_aload_n C dX12_makes_49 (n := 50) rfl rfl ?_
          refine q_getR C dX12_makes_50 (n := 53) rfl f_X12_61 (zM0 h0) (hF _ _ _ (zM52 h0)) ?_
          refine q_iload C dX12_makes_53 (n := 55) rfl rfl ?_
          have g155 := zI.at hI ((zM54 h0) (M (a + 40) u13))
          refine q_iald C dX12_makes_55 (n := 56) rfl (zM53 h0) (by omega) (v := M (a + 16) (M (a + 40) u13)) ((hK19.getA rfl rfl rfl).trans (zup_p e3 (by omega) _)) ?_
          refine q_iconst C dX12_makes_56 (n := 57) rfl ?_
          refine q_icmp_ne C 82 dX12_makes_57 (n := 60) rfl rfl (by omega) (fun h156 => ?_) (fun h156 => ?_)
          · exact zK.weak (J_108 u12 M15 J16 hI17 hK18 hK19 (zMd.rf : zMd a [17] [] [] M15 M15) (by omega) (by omega)) (zwk_c (zwk_c (zwk_c (zwk_c (zwk_c (zwk_c (zwk_n (zwk_n zwk_e))))))))
          · refine q_iload_n C dX12_makes_60 (n := 61) rfl rfl ?_
            refine q_bipush C dX12_makes_61 (n := 63) rfl (x := 31) (by decide) ?_
            have J_165 : ∀ (M158 : zMm) (J159 : zJm), zI G M158 → zMd a [9, 10, 11, 12, 13, 14, 15, 16, 17, 36, 38] [24, 26] [(18, 8), (18, 11), (18, 12), (18, 13), (18, 14)] M M158 → zMd a [17] [] [] M2 M158 → zMd a [17] [] [] M15 M158 → zMd a [17] [] [] M15 M158 → zK w p e 3 0 0 s m args below meth c 8 T Po 79 [.ref (w.2.1 + a), zi v1, zi v2, zi u12, zi u13, zi (M (a + 40) u13), .null, .null] [] (T, M158, J159, R) := by
              intro M158 J159 hI160 hK161 hK162 hK163 hK164
              refine q_iinc C [.ref (w.2.1 + a), zi v1, zi v2, zi (u12 + 1), zi u13, zi (M (a + 40) u13), .null, .null] dX12_makes_79 (n := 82) rfl rfl rfl rfl ?_
              exact zK.weak (J_108 (u12 + 1) M158 J159 hI160 hK161 hK162 hK163 (by omega) (by omega)) (zwk_c (zwk_c (zwk_c (zwk_c (zwk_c (zwk_c (zwk_n (zwk_n zwk_e))))))))
            refine q_icmp_ge C 79 dX12_makes_63 (n := 66) rfl rfl (by omega) (fun h166 => ?_) (fun h166 => ?_)
            · exact zK.weak (J_165 M15 J16 hI17 hK18 hK19 (zMd.rf : zMd a [17] [] [] M15 M15) (zMd.rf : zMd a [17] [] [] M15 M15)) (zwk_c (zwk_c (zwk_c (zwk_c (zwk_c (zwk_c (zwk_n (zwk_n zwk_e))))))))
            · refine q_aload_n C dX12_makes_66 (n := 67) rfl rfl ?_
              refine q_getR C dX12_makes_67 (n := 70) rfl f_X12_65 (zM0 h0) (hF _ _ _ (zM55 h0)) ?_
              refine q_aload_n C dX12_makes_70 (n := 71) rfl rfl ?_
              refine q_getI C dX12_makes_71 (n := 74) rfl f_X12_391 (zM0 h0) (v := M a 24) ((hK19.getS rfl rfl).trans (zup_p e3 (by omega) _)) ?_
              refine q_iload_n C dX12_makes_74 (n := 75) rfl rfl ?_
              refine q_iadd C dX12_makes_75 (n := 76) rfl (v := (M a 24) + u12) rfl ?_
              refine q_bipush C dX12_makes_76 (n := 78) rfl (x := 32) (by decide) ?_
              refine q_bast C dX12_makes_78 (n := 79) rfl (zM56 h0) (by omega) (by omega) (fun M167 e168 => ?_)
              have hI169 : zI G M167 := hI17.put e168 ((zM57 h0) ((M a 24) + u12)) rfl (by omega)
              have hK170 := hK18.upA e168 rfl
              have hK171 := hK19.upA e168 rfl
              have hK172 := (zMd.rf : zMd a [17] [] [] M15 M15).upA e168 rfl
              have hK173 := (zMd.rf : zMd a [17] [] [] M15 M15).upA e168 rfl
              exact zK.weak (J_165 M167 J16 hI169 hK170 hK171 hK172 hK173) (zwk_c (zwk_c (zwk_c (zwk_c (zwk_c (zwk_c (zwk_n (zwk_n zwk_e))))))))
  exact zK.weak (L_24 _ 1 x9 M2 J hI4 hK5 (zMd.rf : zMd a [17] [] [] M2 M2) (by omega) (by omega) (by omega) (by omega) (Int.self_le_toNat _)) (zwk_c (zwk_c (zwk_c (zwk_c (zwk_c (zwk_n (zwk_n (zwk_n zwk_e))))))))
theorem c_X12_pastes {w : zWp} {T : zTl} {M : zMm} {J : zJm} {R : zRm'} {G : zGt} {F : zRm'} {a : Nat} {mb mp og lg : Int → Int} (hI : zI G M) (hF : zF F R) (h0 : zModel T F G a) (v1 : Int) (v2 : Int) (p1 : zOg M a og lg) (p2 : zMa M a mb mp) (p3 : 0 ≤ v1 ∧ v1 ≤ 14000) (p4 : 0 ≤ v2 ∧ v2 ≤ 14000) (p5 : M a 24 ≤ 61800) (p6 : 440 ≤ M a 26 ∧ M a 26 ≤ 13990) (p7 : 0 ≤ M a 57 ∧ M a 57 ≤ 101) : zCt w 3 0 0 yX12_pastes cX12_pastes 5 (some .boolean) [.ref (w.2.1 + a), zi v1, zi v2] (T, M, J, R) (zPi T R G (fun x M2 => (zMd a [9, 10, 11, 12, 13, 14, 15, 16, 17] [24, 26, 34] [(18, 7), (18, 11), (18, 12), (18, 13), (18, 14)] M M2) ∧ (x = 0 ∨ x = 1) ∧ (x = 0 ∨ M a 24 ≤ M2 a 24 ∧ M2 a 24 ≤ M a 24 + 30 ∧ M2 a 26 = M a 26 + 1) ∧ (zOg M2 a og lg) ∧ (zMa M2 a mb mp))) := by
  refine zCt.of rfl (Nat.le_of_ble_eq_true rfl) ?_
  intro p e s m args below meth c C
  obtain ⟨Po, hPo⟩ : ∃ Po, Po = zPi T R G (fun x M2 => (zMd a [9, 10, 11, 12, 13, 14, 15, 16, 17] [24, 26, 34] [(18, 7), (18, 11), (18, 12), (18, 13), (18, 14)] M M2) ∧ (x = 0 ∨ x = 1) ∧ (x = 0 ∨ M a 24 ≤ M2 a 24 ∧ M2 a 24 ≤ M a 24 + 30 ∧ M2 a 26 = M a 26 + 1) ∧ (zOg M2 a og lg) ∧ (zMa M2 a mb mp)) := ⟨_, rfl⟩
  rw [← hPo]
  have hK0 : zMd a [9, 10, 11, 12, 13, 14, 15, 16, 17] [24, 26, 34] [(18, 7), (18, 11), (18, 12), (18, 13), (18, 14)] M M := zMd.rf
  have gk_pooled := zI.at hI (zM59 h0)
  show zK w p e 3 0 0 s m args below meth c 5 T Po 0 [.ref (w.2.1 + a), zi v1, zi v2, .null, .null] [] (T, M, J, R)
  refine q_iconst C dX12_pastes_0 (n := 1) rfl ?_
  refine q_istore_n C [.ref (w.2.1 + a), zi v1, zi v2, zi 0, .null] dX12_pastes_1 (n := 2) rfl rfl rfl ?_
  refine q_iconst C dX12_pastes_2 (n := 3) rfl ?_
  refine q_istore C [.ref (w.2.1 + a), zi v1, zi v2, zi 0, zi 0] dX12_pastes_3 (n := 5) rfl rfl rfl ?_
  have L_13 : ∀ n14 : Nat, ∀ (u1 : Int) (u2 : Int) (M4 : zMm) (J5 : zJm), zI G M4 → zMd a [9, 10, 11, 12, 13, 14, 15, 16, 17] [24, 26, 34] [(18, 7), (18, 11), (18, 12), (18, 13), (18, 14)] M M4 → zMd a [17] [] [] M M4 → (-2147483648 ≤ u1 ∧ u1 ≤ 2147483647) → (-2147483648 ≤ u2 ∧ u2 ≤ 2147483647) → (0 ≤ u2 ∧ u2 ≤ 30) → (u1 = u2) → (30 - u2 + 1 ≤ (n14 : Int)) → zK w p e 3 0 0 s m args below meth c 5 T Po 5 [.ref (w.2.1 + a), zi v1, zi v2, zi u1, zi u2] [] (T, M4, J5, R) := by
    intro n14
    induction n14 with
    | zero =>
      intro u1 u2 M4 J5 hI6 hK7 hK8 h9 h10 h11 h12 hm16
      exfalso
      omega
    | succ n14 ih15 =>
      intro u1 u2 M4 J5 hI6 hK7 hK8 h9 h10 h11 h12 hm16
      refine q_iload C dX12_pastes_5 (n := 7) rfl rfl ?_
      refine q_aload_n C dX12_pastes_7 (n := 8) rfl rfl ?_
      refine q_getR C dX12_pastes_8 (n := 11) rfl f_X12_46 (zM0 h0) (hF _ _ _ (zM37 h0)) ?_
      refine q_iload_n C dX12_pastes_11 (n := 12) rfl rfl ?_
      have g17 := zI.at hI ((zM39 h0) v1)
      refine q_iald C dX12_pastes_12 (n := 13) rfl (zM38 h0) (by omega) (v := M (a + 11) v1) (hK8.getA rfl rfl rfl) ?_
      refine q_icmp_ge C 44 dX12_pastes_13 (n := 16) rfl rfl (by omega) (fun h18 => ?_) (fun h18 => ?_)
      · refine q_iconst C dX12_pastes_44 (n := 45) rfl ?_
        refine q_istore C [.ref (w.2.1 + a), zi v1, zi v2, zi u1, zi 0] dX12_pastes_45 (n := 47) rfl rfl rfl ?_
        have L_32 : ∀ n33 : Nat, ∀ (u19 : Int) (u20 : Int) (M22 : zMm) (J23 : zJm), zI G M22 → zMd a [9, 10, 11, 12, 13, 14, 15, 16, 17] [24, 26, 34] [(18, 7), (18, 11), (18, 12), (18, 13), (18, 14)] M M22 → zMd a [17] [] [] M M22 → zMd a [17] [] [] M4 M22 → (-2147483648 ≤ u19 ∧ u19 ≤ 2147483647) → (-2147483648 ≤ u20 ∧ u20 ≤ 2147483647) → (0 ≤ u20 ∧ u20 ≤ 30) → (u19 = u1 + u20) → (30 - u20 + 1 ≤ (n33 : Int)) → zK w p e 3 0 0 s m args below meth c 5 T Po 47 [.ref (w.2.1 + a), zi v1, zi v2, zi u19, zi u20] [] (T, M22, J23, R) := by
          intro n33
          induction n33 with
          | zero =>
            intro u19 u20 M22 J23 hI24 hK25 hK26 hK27 h28 h29 h30 h31 hm35
            exfalso
            omega
          | succ n33 ih34 =>
            intro u19 u20 M22 J23 hI24 hK25 hK26 hK27 h28 h29 h30 h31 hm35
            refine q_iload C dX12_pastes_47 (n := 49) rfl rfl ?_
            refine q_aload_n C dX12_pastes_49 (n := 50) rfl rfl ?_
            refine q_getR C dX12_pastes_50 (n := 53) rfl f_X12_46 (zM0 h0) (hF _ _ _ (zM37 h0)) ?_
            refine q_iload_n C dX12_pastes_53 (n := 54) rfl rfl ?_
            have g36 := zI.at hI ((zM39 h0) v2)
            refine q_iald C dX12_pastes_54 (n := 55) rfl (zM38 h0) (by omega) (v := M (a + 11) v2) ((hK27.getA rfl rfl rfl).trans (hK8.getA rfl rfl rfl)) ?_
            refine q_icmp_ge C 86 dX12_pastes_55 (n := 58) rfl rfl (by omega) (fun h37 => ?_) (fun h37 => ?_)
            · refine q_iload_n C dX12_pastes_86 (n := 87) rfl rfl ?_
              refine q_bipush C dX12_pastes_87 (n := 89) rfl (x := 30) (by decide) ?_
              have J_44 : ∀ (M39 : zMm) (J40 : zJm), zI G M39 → zMd a [9, 10, 11, 12, 13, 14, 15, 16, 17] [24, 26, 34] [(18, 7), (18, 11), (18, 12), (18, 13), (18, 14)] M M39 → zMd a [] [34] [] M22 M39 → zK w p e 3 0 0 s m args below meth c 5 T Po 110 [.ref (w.2.1 + a), .null, .null, .null, .null] [] (T, M39, J40, R) := by
                intro M39 J40 hI41 hK42 hK43
                refine q_aload_n C dX12_pastes_110 (n := 111) rfl rfl ?_
                refine q_bipush C dX12_pastes_111 (n := 113) rfl (x := 6) (by decide) ?_
                refine q_aload_n C dX12_pastes_113 (n := 114) rfl rfl ?_
                refine q_getR C dX12_pastes_114 (n := 117) rfl f_X12_101 (zM0 h0) (hF _ _ _ (zM100 h0)) ?_
                refine q_aload_n C dX12_pastes_117 (n := 118) rfl rfl ?_
                have g45 := zI.at hI (zM142 h0)
                refine q_getI C dX12_pastes_118 (n := 121) rfl f_X12_448 (zM0 h0) (v := M a 57) ((hK43.getS rfl rfl).trans ((hK27.getS rfl rfl).trans (hK8.getS rfl rfl))) ?_
                have g46 := zI.at hI ((zM102 h0) (M a 57))
                refine q_iald C dX12_pastes_121 (n := 122) rfl (zM101 h0) (by omega) (v := M (a + 29) (M a 57)) ((hK43.getA rfl rfl rfl).trans ((hK27.getA rfl rfl rfl).trans (hK8.getA rfl rfl rfl))) ?_
                refine q_callVi C dX12_pastes_122 (n := 125) rfl m_X12_376 v_yX12_badAt (zM0 h0) ⟨by decide, rfl⟩ (c_X12_badAt (w := w) (J := J40) hI41 hF h0 6 (M (a + 29) (M a 57)) (by omega) (by omega)) (Nat.le_of_ble_eq_true rfl) rfl rfl (Nat.le_of_ble_eq_true rfl) ⟨Nat.le_refl _, Nat.le_refl _⟩ (fun x53 M49 J50  hI51 h52 => ?_)
                obtain ⟨hk54, h47, h48⟩ := h52
                have hK55 := hK42.tr hk54 rfl rfl rfl
                have hp58 : zOg M49 a og lg := p1.cg (fun j => ((hk54.getA rfl rfl rfl).trans ((hK43.getA rfl rfl rfl).trans ((hK27.getA rfl rfl rfl).trans (hK8.getA rfl rfl rfl))))) (fun j => ((hk54.getA rfl rfl rfl).trans ((hK43.getA rfl rfl rfl).trans ((hK27.getA rfl rfl rfl).trans (hK8.getA rfl rfl rfl)))))
                have hp59 : zMa M49 a mb mp := p2.cg (fun j j0 j1 => ((hk54.getW rfl rfl (by omega)).trans ((hK43.getA rfl rfl rfl).trans ((hK27.getA rfl rfl rfl).trans (hK8.getA rfl rfl rfl))))) (fun j => ((hk54.getA rfl rfl rfl).trans ((hK43.getA rfl rfl rfl).trans ((hK27.getA rfl rfl rfl).trans (hK8.getA rfl rfl rfl)))))
                exact q_zret C dX12_pastes_125 ⟨rfl, rfl⟩ (by omega) (by rw [hPo]; exact ⟨x53, M49, J50, rfl, rfl, hI51, hK55, by omega, by have hz56 : M49 a 24 = M a 24 := ((hk54.getS rfl rfl).trans ((hK43.getS rfl rfl).trans ((hK27.getS rfl rfl).trans (hK8.getS rfl rfl)))); have hz57 : M49 a 26 = M a 26 := ((hk54.getS rfl rfl).trans ((hK43.getS rfl rfl).trans ((hK27.getS rfl rfl).trans (hK8.getS rfl rfl)))); omega, hp58, hp59⟩)
              refine q_icmp_gt C 110 dX12_pastes_89 (n := 92) rfl rfl (by omega) (fun h60 => ?_) (fun h60 => ?_)
              · exact zK.weak (J_44 M22 J23 hI24 hK25 (zMd.rf : zMd a [] [34] [] M22 M22)) (zwk_c (zwk_n (zwk_n (zwk_n (zwk_n zwk_e)))))
              · refine q_aload_n C dX12_pastes_92 (n := 93) rfl rfl ?_
                refine q_aload_n C dX12_pastes_93 (n := 94) rfl rfl ?_
                have g61 := zI.at hI (zM59 h0)
                refine q_getI C dX12_pastes_94 (n := 97) rfl f_X12_391 (zM0 h0) (v := M a 24) ((hK27.getS rfl rfl).trans (hK8.getS rfl rfl)) ?_
                refine q_aload_n C dX12_pastes_97 (n := 98) rfl rfl ?_
                refine q_getI C dX12_pastes_98 (n := 101) rfl f_X12_391 (zM0 h0) (v := M a 24) ((hK27.getS rfl rfl).trans (hK8.getS rfl rfl)) ?_
                refine q_iload_n C dX12_pastes_101 (n := 102) rfl rfl ?_
                refine q_iadd C dX12_pastes_102 (n := 103) rfl (v := (M a 24) + u19) rfl ?_
                refine q_callVi C dX12_pastes_103 (n := 106) rfl m_X12_400 v_yX12_lexAt (zM0 h0) ⟨by decide, rfl⟩ (c_X12_lexAt (w := w) (J := J23) hI24 hF h0 (M a 24) ((M a 24) + u19) (by omega)) (Nat.le_of_ble_eq_true rfl) rfl rfl (Nat.le_of_ble_eq_true rfl) ⟨Nat.le_refl _, Nat.le_refl _⟩ (fun x67 M63 J64  hI65 h66 => ?_)
                obtain ⟨hk68, h62⟩ := h66
                have hK69 := hK25.tr hk68 rfl rfl rfl
                have hK70 := (zMd.rf : zMd a [] [34] [] M22 M22).tr hk68 rfl rfl rfl
                refine q_iload_n C dX12_pastes_106 (n := 107) rfl rfl ?_
                refine q_icmp_eq C 126 dX12_pastes_107 (n := 110) rfl rfl (by omega) (fun h71 => ?_) (fun h71 => ?_)
                · refine q_aload_n C dX12_pastes_126 (n := 127) rfl rfl ?_
                  refine q_iload_n C dX12_pastes_127 (n := 128) rfl rfl ?_
                  refine q_aload_n C dX12_pastes_128 (n := 129) rfl rfl ?_
                  have g72 := zI.at hI (zM61 h0)
                  refine q_getI C dX12_pastes_129 (n := 132) rfl f_X12_397 (zM0 h0) (v := M a 26) ((hk68.getS rfl rfl).trans ((hK27.getS rfl rfl).trans (hK8.getS rfl rfl))) ?_
                  have hp73 : zOg M63 a og lg := p1.cg (fun j => ((hk68.getA rfl rfl rfl).trans ((hK27.getA rfl rfl rfl).trans (hK8.getA rfl rfl rfl)))) (fun j => ((hk68.getA rfl rfl rfl).trans ((hK27.getA rfl rfl rfl).trans (hK8.getA rfl rfl rfl))))
                  refine q_callVv C dX12_pastes_132 (n := 135) rfl m_X12_461 v_yX12_copies (zM0 h0) ⟨by decide, rfl⟩ (c_X12_copies (w := w) (J := J64) hI65 hF h0 v1 (M a 26) hp73 (by omega) (by omega) (by omega)) (Nat.le_of_ble_eq_true rfl) rfl rfl (Nat.le_of_ble_eq_true rfl) ⟨Nat.le_refl _, Nat.le_refl _⟩ (fun M75 J76  hI77 h78 => ?_)
                  obtain ⟨hk79, h74⟩ := h78
                  have hK80 := hK69.tr hk79 rfl rfl rfl
                  refine q_aload_n C dX12_pastes_135 (n := 136) rfl rfl ?_
                  refine q_getR C dX12_pastes_136 (n := 139) rfl f_X12_40 (zM0 h0) (hF _ _ _ (zM31 h0)) ?_
                  refine q_aload_n C dX12_pastes_139 (n := 140) rfl rfl ?_
                  refine q_getI C dX12_pastes_140 (n := 143) rfl f_X12_397 (zM0 h0) (v := M a 26) ((hk79.getS rfl rfl).trans ((hk68.getS rfl rfl).trans ((hK27.getS rfl rfl).trans (hK8.getS rfl rfl)))) ?_
                  refine q_aload_n C dX12_pastes_143 (n := 144) rfl rfl ?_
                  have g81 := zI.at hI65 (zM77 h0)
                  refine q_getI C dX12_pastes_144 (n := 147) rfl f_X12_388 (zM0 h0) (v := M63 a 34) (hk79.getS rfl rfl) ?_
                  refine q_iast C dX12_pastes_147 (n := 148) rfl (zM32 h0) (by omega)  (fun M82 e83 => ?_)
                  have hI84 : zI G M82 := hI77.put e83 ((zM33 h0) (M a 26)) rfl (by omega)
                  have hK85 := hK80.upA e83 rfl
                  refine q_aload_n C dX12_pastes_148 (n := 149) rfl rfl ?_
                  refine q_getR C dX12_pastes_149 (n := 152) rfl f_X12_43 (zM0 h0) (hF _ _ _ (zM34 h0)) ?_
                  refine q_aload_n C dX12_pastes_152 (n := 153) rfl rfl ?_
                  refine q_getI C dX12_pastes_153 (n := 156) rfl f_X12_397 (zM0 h0) (v := M a 26) ((zup_p e83 (by omega) _).trans ((hk79.getS rfl rfl).trans ((hk68.getS rfl rfl).trans ((hK27.getS rfl rfl).trans (hK8.getS rfl rfl))))) ?_
                  refine q_aload_n C dX12_pastes_156 (n := 157) rfl rfl ?_
                  refine q_getI C dX12_pastes_157 (n := 160) rfl f_X12_391 (zM0 h0) (v := M a 24) ((zup_p e83 (by omega) _).trans ((hk79.getS rfl rfl).trans ((hk68.getS rfl rfl).trans ((hK27.getS rfl rfl).trans (hK8.getS rfl rfl))))) ?_
                  refine q_iast C dX12_pastes_160 (n := 161) rfl (zM35 h0) (by omega)  (fun M86 e87 => ?_)
                  have hp88 : zOg M82 a og lg := h74.cg (fun j => (zup_p e83 (by omega) _)) (fun j => (zup_p e83 (by omega) _))
                  have hp89 : zOg M86 a og lg := hp88.up0 e87 (by omega)
                  have hI90 : zI G M86 := hI84.put e87 ((zM36 h0) (M a 26)) rfl (by omega)
                  have hK91 := hK85.upA e87 rfl
                  refine q_aload_n C dX12_pastes_161 (n := 162) rfl rfl ?_
                  refine q_getR C dX12_pastes_162 (n := 165) rfl f_X12_46 (zM0 h0) (hF _ _ _ (zM37 h0)) ?_
                  refine q_aload_n C dX12_pastes_165 (n := 166) rfl rfl ?_
                  refine q_getI C dX12_pastes_166 (n := 169) rfl f_X12_397 (zM0 h0) (v := M a 26) ((zup_p e87 (by omega) _).trans ((zup_p e83 (by omega) _).trans ((hk79.getS rfl rfl).trans ((hk68.getS rfl rfl).trans ((hK27.getS rfl rfl).trans (hK8.getS rfl rfl)))))) ?_
                  refine q_iload_n C dX12_pastes_169 (n := 170) rfl rfl ?_
                  refine q_iast C dX12_pastes_170 (n := 171) rfl (zM38 h0) (by omega)  (fun M92 e93 => ?_)
                  have hp94 : zOg M92 a og lg := hp89.up1 e93 (by omega)
                  have hI95 : zI G M92 := hI90.put e93 ((zM39 h0) (M a 26)) rfl (by omega)
                  have hK96 := hK91.upA e93 rfl
                  refine q_aload_n C dX12_pastes_171 (n := 172) rfl rfl ?_
                  refine q_getR C dX12_pastes_172 (n := 175) rfl f_X12_58 (zM0 h0) (hF _ _ _ (zM49 h0)) ?_
                  refine q_aload_n C dX12_pastes_175 (n := 176) rfl rfl ?_
                  refine q_getI C dX12_pastes_176 (n := 179) rfl f_X12_397 (zM0 h0) (v := M a 26) ((zup_p e93 (by omega) _).trans ((zup_p e87 (by omega) _).trans ((zup_p e83 (by omega) _).trans ((hk79.getS rfl rfl).trans ((hk68.getS rfl rfl).trans ((hK27.getS rfl rfl).trans (hK8.getS rfl rfl))))))) ?_
                  refine q_aload_n C dX12_pastes_179 (n := 180) rfl rfl ?_
                  refine q_getR C dX12_pastes_180 (n := 183) rfl f_X12_58 (zM0 h0) (hF _ _ _ (zM49 h0)) ?_
                  refine q_iload_n C dX12_pastes_183 (n := 184) rfl rfl ?_
                  have g97 := zI.at hI77 ((zM51 h0) v1)
                  refine q_iald C dX12_pastes_184 (n := 185) rfl (zM50 h0) (by omega) (v := M75 (a + 15) v1) ((zup_p e93 (by omega) _).trans ((zup_p e87 (by omega) _).trans (zup_p e83 (by omega) _))) ?_
                  refine q_aload_n C dX12_pastes_185 (n := 186) rfl rfl ?_
                  refine q_getR C dX12_pastes_186 (n := 189) rfl f_X12_58 (zM0 h0) (hF _ _ _ (zM49 h0)) ?_
                  refine q_iload_n C dX12_pastes_189 (n := 190) rfl rfl ?_
                  have g98 := zI.at hI77 ((zM51 h0) v2)
                  refine q_iald C dX12_pastes_190 (n := 191) rfl (zM50 h0) (by omega) (v := M75 (a + 15) v2) ((zup_p e93 (by omega) _).trans ((zup_p e87 (by omega) _).trans (zup_p e83 (by omega) _))) ?_
                  refine q_iand C dX12_pastes_191 (n := 192) rfl (v := zand (M75 (a + 15) v1) (M75 (a + 15) v2)) rfl ?_
                  have g99 := zr_and (M75 (a + 15) v1) (M75 (a + 15) v2)
                  refine q_iast C dX12_pastes_192 (n := 193) rfl (zM50 h0) (by omega)  (fun M100 e101 => ?_)
                  have hI102 : zI G M100 := hI95.put e101 ((zM51 h0) (M a 26)) rfl (by omega)
                  have hK103 := hK96.upA e101 rfl
                  refine q_aload_n C dX12_pastes_193 (n := 194) rfl rfl ?_
                  refine q_dup C dX12_pastes_194 (n := 195) rfl rfl ?_
                  refine q_getI C dX12_pastes_195 (n := 198) rfl f_X12_397 (zM0 h0) (v := M a 26) ((zup_p e101 (by omega) _).trans ((zup_p e93 (by omega) _).trans ((zup_p e87 (by omega) _).trans ((zup_p e83 (by omega) _).trans ((hk79.getS rfl rfl).trans ((hk68.getS rfl rfl).trans ((hK27.getS rfl rfl).trans (hK8.getS rfl rfl)))))))) ?_
                  refine q_iconst C dX12_pastes_198 (n := 199) rfl ?_
                  refine q_iadd C dX12_pastes_199 (n := 200) rfl (v := (M a 26) + 1) rfl ?_
                  refine q_putI C dX12_pastes_200 (n := 203) rfl f_X12_397 (zM0 h0) ⟨rfl, rfl⟩ (fun M104 (e105 : M104 = zup M100 a 26 ((M a 26) + 1)) => ?_)
                  have hI106 : zI G M104 := hI102.put e105 (zM61 h0) rfl (by omega)
                  have hK107 := hK103.upS e105 rfl
                  refine q_aload_n C dX12_pastes_203 (n := 204) rfl rfl ?_
                  refine q_dup C dX12_pastes_204 (n := 205) rfl rfl ?_
                  refine q_getI C dX12_pastes_205 (n := 208) rfl f_X12_391 (zM0 h0) (v := M a 24) ((zup_n e105 (by omega)).trans ((zup_p e101 (by omega) _).trans ((zup_p e93 (by omega) _).trans ((zup_p e87 (by omega) _).trans ((zup_p e83 (by omega) _).trans ((hk79.getS rfl rfl).trans ((hk68.getS rfl rfl).trans ((hK27.getS rfl rfl).trans (hK8.getS rfl rfl))))))))) ?_
                  refine q_iload_n C dX12_pastes_208 (n := 209) rfl rfl ?_
                  refine q_iadd C dX12_pastes_209 (n := 210) rfl (v := (M a 24) + u19) rfl ?_
                  refine q_putI C dX12_pastes_210 (n := 213) rfl f_X12_391 (zM0 h0) ⟨rfl, rfl⟩ (fun M108 (e109 : M108 = zup M104 a 24 ((M a 24) + u19)) => ?_)
                  have hI110 : zI G M108 := hI106.put e109 (zM59 h0) rfl (by omega)
                  have hK111 := hK107.upS e109 rfl
                  refine q_aload_n C dX12_pastes_213 (n := 214) rfl rfl ?_
                  refine q_getR C dX12_pastes_214 (n := 217) rfl f_X12_68 (zM0 h0) (hF _ _ _ (zM65 h0)) ?_
                  refine q_bipush C dX12_pastes_217 (n := 219) rfl (x := 7) (by decide) ?_
                  refine q_dup2 C dX12_pastes_219 (n := 220) rfl ⟨rfl, rfl⟩ ?_
                  have g112 := zI.at hI (((zM67 h0) 7).trans (zwG_1 (by omega)))
                  refine q_iald C dX12_pastes_220 (n := 221) rfl (zM66 h0) (by omega) (v := M (a + 18) 7) ((zup_p e109 (by omega) _).trans ((zup_p e105 (by omega) _).trans ((zup_p e101 (by omega) _).trans ((zup_p e93 (by omega) _).trans ((zup_p e87 (by omega) _).trans ((zup_p e83 (by omega) _).trans ((hk79.getA rfl rfl rfl).trans ((hk68.getA rfl rfl rfl).trans ((hK27.getA rfl rfl rfl).trans (hK8.getA rfl rfl rfl)))))))))) ?_
                  refine q_iconst C dX12_pastes_221 (n := 222) rfl ?_
                  refine q_iadd C dX12_pastes_222 (n := 223) rfl (v := (M (a + 18) 7) + 1) rfl ?_
                  refine q_wrap C ?_
                  have g113 := zr_wr ((M (a + 18) 7) + 1)
                  refine q_iast C dX12_pastes_223 (n := 224) rfl (zM66 h0) (by omega)  (fun M114 e115 => ?_)
                  have hp116 : zMa M108 a mb mp := p2.cg (fun j j0 j1 => ((zup_p e109 (by omega) _).trans ((zup_p e105 (by omega) _).trans ((zup_p e101 (by omega) _).trans ((zup_p e93 (by omega) _).trans ((zup_p e87 (by omega) _).trans ((zup_p e83 (by omega) _).trans ((hk79.getA rfl rfl rfl).trans ((hk68.getA rfl rfl rfl).trans ((hK27.getA rfl rfl rfl).trans (hK8.getA rfl rfl rfl))))))))))) (fun j => ((zup_p e109 (by omega) _).trans ((zup_p e105 (by omega) _).trans ((zup_p e101 (by omega) _).trans ((zup_p e93 (by omega) _).trans ((zup_p e87 (by omega) _).trans ((zup_p e83 (by omega) _).trans ((hk79.getA rfl rfl rfl).trans ((hk68.getA rfl rfl rfl).trans ((hK27.getA rfl rfl rfl).trans (hK8.getA rfl rfl rfl)))))))))))
                  have hp117 : zMa M114 a mb mp := hp116.up e115 (by omega)
                  have hI118 : zI G M114 := hI110.put e115 (((zM67 h0) 7).trans (zwG_1 (by omega))) rfl (by omega)
                  have hK119 := hK111.upP e115 rfl
                  refine q_iconst C dX12_pastes_224 (n := 225) rfl ?_
                  have hp122 : zOg M114 a og lg := hp94.cg (fun j => ((zup_p e115 (by omega) _).trans ((zup_p e109 (by omega) _).trans ((zup_p e105 (by omega) _).trans (zup_p e101 (by omega) _))))) (fun j => ((zup_p e115 (by omega) _).trans ((zup_p e109 (by omega) _).trans ((zup_p e105 (by omega) _).trans (zup_p e101 (by omega) _)))))
                  exact q_zret C dX12_pastes_225 ⟨rfl, rfl⟩ (by omega) (by rw [hPo]; exact ⟨1, M114, J76, rfl, rfl, hI118, hK119, by omega, by have hz120 : M114 a 24 = (M a 24) + u19 := ((zup_p e115 (by omega) _).trans (zup_s e109)); have hz121 : M114 a 26 = (M a 26) + 1 := ((zup_p e115 (by omega) _).trans ((zup_n e109 (by omega)).trans (zup_s e105))); omega, hp122, hp117⟩)
                · exact zK.weak (J_44 M63 J64 hI65 hK69 hK70) (zwk_c (zwk_n (zwk_n (zwk_n (zwk_n zwk_e)))))
            · refine q_aload_n C dX12_pastes_58 (n := 59) rfl rfl ?_
              refine q_getR C dX12_pastes_59 (n := 62) rfl f_X12_65 (zM0 h0) (hF _ _ _ (zM55 h0)) ?_
              refine q_aload_n C dX12_pastes_62 (n := 63) rfl rfl ?_
              have g123 := zI.at hI (zM59 h0)
              refine q_getI C dX12_pastes_63 (n := 66) rfl f_X12_391 (zM0 h0) (v := M a 24) ((hK27.getS rfl rfl).trans (hK8.getS rfl rfl)) ?_
              refine q_iload_n C dX12_pastes_66 (n := 67) rfl rfl ?_
              refine q_iadd C dX12_pastes_67 (n := 68) rfl (v := (M a 24) + u19) rfl ?_
              refine q_aload_n C dX12_pastes_68 (n := 69) rfl rfl ?_
              refine q_iload_n C dX12_pastes_69 (n := 70) rfl rfl ?_
              refine q_iload C dX12_pastes_70 (n := 72) rfl rfl ?_
              refine q_callVp C dX12_pastes_72 (n := 75) rfl m_X12_370 v_yX12_byteIn (zM0 h0) ⟨by decide, rfl⟩ (c_X12_byteIn (w := w) (J := J23) hI24 hF h0 v2 u20 (by omega) (by omega)) (Nat.le_of_ble_eq_true rfl) rfl rfl (Nat.le_of_ble_eq_true rfl) ⟨Nat.le_refl _, Nat.le_refl _⟩ (fun x126 h127 => ?_)
              obtain ⟨h124, h125⟩ := h127
              refine q_i2b C dX12_pastes_75 (n := 76) rfl (v := zi2b x126) rfl ?_
              have g128 := z8_r x126
              refine q_bast C dX12_pastes_76 (n := 77) rfl (zM56 h0) (by omega) (by omega) (fun M129 e130 => ?_)
              have hI131 : zI G M129 := hI24.put e130 ((zM57 h0) ((M a 24) + u19)) rfl (by omega)
              have hK132 := hK25.upA e130 rfl
              have hK133 := hK26.upA e130 rfl
              have hK134 := hK27.upA e130 rfl
              refine q_iinc C [.ref (w.2.1 + a), zi v1, zi v2, zi (u19 + 1), zi u20] dX12_pastes_77 (n := 80) rfl rfl rfl rfl ?_
              refine q_iinc C [.ref (w.2.1 + a), zi v1, zi v2, zi (u19 + 1), zi (u20 + 1)] dX12_pastes_80 (n := 83) rfl rfl rfl rfl ?_
              refine q_goto C 47 dX12_pastes_83 rfl ?_
              exact zK.weak (ih34 (u19 + 1) (u20 + 1) M129 J23 hI131 hK132 hK133 hK134 (by omega) (by omega) (by omega) (by omega) (by omega)) (zwk_c (zwk_c (zwk_c (zwk_c (zwk_c zwk_e)))))
        exact zK.weak (L_32 _ u1 0 M4 J5 hI6 hK7 hK8 (zMd.rf : zMd a [17] [] [] M4 M4) (by omega) (by omega) (by omega) (by omega) (Int.self_le_toNat _)) (zwk_c (zwk_c (zwk_c (zwk_c (zwk_c zwk_e)))))
      · refine q_aload_n C dX12_pastes_16 (n := 17) rfl rfl ?_
        refine q_getR C dX12_pastes_17 (n := 20) rfl f_X12_65 (zM0 h0) (hF _ _ _ (zM55 h0)) ?_
        refine q_aload_n C dX12_pastes_20 (n := 21) rfl rfl ?_
        have g135 := zI.at hI (zM59 h0)
        refine q_getI C dX12_pastes_21 (n := 24) rfl f_X12_391 (zM0 h0) (v := M a 24) (hK8.getS rfl rfl) ?_
        refine q_iload_n C dX12_pastes_24 (n := 25) rfl rfl ?_
        refine q_iadd C dX12_pastes_25 (n := 26) rfl (v := (M a 24) + u1) rfl ?_
        refine q_aload_n C dX12_pastes_26 (n := 27) rfl rfl ?_
        refine q_iload_n C dX12_pastes_27 (n := 28) rfl rfl ?_
        refine q_iload C dX12_pastes_28 (n := 30) rfl rfl ?_
        refine q_callVp C dX12_pastes_30 (n := 33) rfl m_X12_370 v_yX12_byteIn (zM0 h0) ⟨by decide, rfl⟩ (c_X12_byteIn (w := w) (J := J5) hI6 hF h0 v1 u2 (by omega) (by omega)) (Nat.le_of_ble_eq_true rfl) rfl rfl (Nat.le_of_ble_eq_true rfl) ⟨Nat.le_refl _, Nat.le_refl _⟩ (fun x138 h139 => ?_)
        obtain ⟨h136, h137⟩ := h139
        refine q_i2b C dX12_pastes_33 (n := 34) rfl (v := zi2b x138) rfl ?_
        have g140 := z8_r x138
        refine q_bast C dX12_pastes_34 (n := 35) rfl (zM56 h0) (by omega) (by omega) (fun M141 e142 => ?_)
        have hI143 : zI G M141 := hI6.put e142 ((zM57 h0) ((M a 24) + u1)) rfl (by omega)
        have hK144 := hK7.upA e142 rfl
        have hK145 := hK8.upA e142 rfl
        refine q_iinc C [.ref (w.2.1 + a), zi v1, zi v2, zi (u1 + 1), zi u2] dX12_pastes_35 (n := 38) rfl rfl rfl rfl ?_
        refine q_iinc C [.ref (w.2.1 + a), zi v1, zi v2, zi (u1 + 1), zi (u2 + 1)] dX12_pastes_38 (n := 41) rfl rfl rfl rfl ?_
        refine q_goto C 5 dX12_pastes_41 rfl ?_
        exact zK.weak (ih15 (u1 + 1) (u2 + 1) M141 J5 hI143 hK144 hK145 (by omega) (by omega) (by omega) (by omega) (by omega)) (zwk_c (zwk_c (zwk_c (zwk_c (zwk_c zwk_e)))))
  exact zK.weak (L_13 _ 0 0 M J hI hK0 (zMd.rf : zMd a [17] [] [] M M) (by omega) (by omega) (by omega) (by omega) (Int.self_le_toNat _)) (zwk_c (zwk_c (zwk_c (zwk_c (zwk_c zwk_e)))))
theorem c_X12_builds {w : zWp} {T : zTl} {M : zMm} {J : zJm} {R : zRm'} {G : zGt} {F : zRm'} {a : Nat} {mb mp og lg : Int → Int} {n A0 v u z : Int} (hI : zI G M) (hF : zF F R) (h0 : zModel T F G a) (f : Int) (p1 : zX M a mb mp n A0 v u z) (p2 : zOg M a og lg) (p3 : zMa M a mb mp) (p4 : M a 57 = f) (p5 : n = f + 1) : zCt w 4 0 0 yX12_builds cX12_builds 8 (some .boolean) [.ref (w.2.1 + a)] (T, M, J, R) (zPi T R G (fun x M2 => (zMd a [9, 10, 11, 12, 13, 14, 15, 16, 17, 24, 25, 26, 28, 42] [24, 25, 26, 34, 58, 59, 60] [(18, 7), (18, 11), (18, 12), (18, 13), (18, 14)] M M2) ∧ (x = 0 ∨ x = 1) ∧ (x = 0 ∨ zX M2 a mb mp f (M (a + 32) f) 0 0 0) ∧ (x = 0 ∨ zMu M2 a f < zMu M a (f + 1)) ∧ (zOg M2 a og lg) ∧ (zMa M2 a mb mp) ∧ (x = 0 ∨ M2 a 59 = M (a + 32) f))) := by
  refine zCt.of rfl (Nat.le_of_ble_eq_true rfl) ?_
  intro p e s m args below meth c C
  obtain ⟨Po, hPo⟩ : ∃ Po, Po = zPi T R G (fun x M2 => (zMd a [9, 10, 11, 12, 13, 14, 15, 16, 17, 24, 25, 26, 28, 42] [24, 25, 26, 34, 58, 59, 60] [(18, 7), (18, 11), (18, 12), (18, 13), (18, 14)] M M2) ∧ (x = 0 ∨ x = 1) ∧ (x = 0 ∨ zX M2 a mb mp f (M (a + 32) f) 0 0 0) ∧ (x = 0 ∨ zMu M2 a f < zMu M a (f + 1)) ∧ (zOg M2 a og lg) ∧ (zMa M2 a mb mp) ∧ (x = 0 ∨ M2 a 59 = M (a + 32) f)) := ⟨_, rfl⟩
  rw [← hPo]
  subst p4
  have hK0 : zMd a [9, 10, 11, 12, 13, 14, 15, 16, 17, 24, 25, 26, 28, 42] [24, 25, 26, 34, 58, 59, 60] [(18, 7), (18, 11), (18, 12), (18, 13), (18, 14)] M M := zMd.rf
  have gk_frame := zI.at hI (zM142 h0)
  have gk_made := zI.at hI (zM60 h0)
  have gk_stretches := zI.at hI (zM143 h0)
  have gk_pooled := zI.at hI (zM59 h0)
  have gx0 := zX.num p1
  have gc := zX.clz p1 (f := M a 57) rfl (by omega)
  have gq := zX.q3 p1 (f := M a 57) (by omega) (by omega)
  have gfb := zX.fb p1 rfl
  have gp0 : M (a + 34) (M a 57) = M a 60 ∨ M (a + 35) (M a 57) ≤ M (a + 37) (M (a + 34) (M a 57)) := (Decidable.em (M (a + 34) (M a 57) < M a 60)).symm.imp (fun q => by omega) (fun q => ((zX.pcs p1 (g := M a 57) (by omega) (by omega) q).1 _ (Int.le_refl _) q).1)
  show zK w p e 4 0 0 s m args below meth c 8 T Po 0 [.ref (w.2.1 + a), .null, .null, .null, .null, .null, .null, .null] [] (T, M, J, R)
  refine q_iconst C dX12_builds_0 (n := 1) rfl ?_
  refine q_istore_n C [.ref (w.2.1 + a), zi 0, .null, .null, .null, .null, .null, .null] dX12_builds_1 (n := 2) rfl rfl rfl ?_
  refine q_iconst C dX12_builds_2 (n := 3) rfl ?_
  refine q_istore_n C [.ref (w.2.1 + a), zi 0, zi 0, .null, .null, .null, .null, .null] dX12_builds_3 (n := 4) rfl rfl rfl ?_
  refine q_aload_n C dX12_builds_4 (n := 5) rfl rfl ?_
  refine q_getR C dX12_builds_5 (n := 8) rfl f_X12_122 (zM0 h0) (hF _ _ _ (zM121 h0)) ?_
  refine q_aload_n C dX12_builds_8 (n := 9) rfl rfl ?_
  have g1 := zI.at hI (zM142 h0)
  refine q_getI C dX12_builds_9 (n := 12) rfl f_X12_448 (zM0 h0) (v := M a 57) rfl ?_
  have g2 := zI.at hI ((zM123 h0) (M a 57))
  refine q_iald C dX12_builds_12 (n := 13) rfl (zM122 h0) (by omega) (v := M (a + 36) (M a 57)) rfl ?_
  refine q_istore_n C [.ref (w.2.1 + a), zi 0, zi 0, zi (M (a + 36) (M a 57)), .null, .null, .null, .null] dX12_builds_13 (n := 14) rfl rfl rfl ?_
  refine q_aload_n C dX12_builds_14 (n := 15) rfl rfl ?_
  refine q_getR C dX12_builds_15 (n := 18) rfl f_X12_116 (zM0 h0) (hF _ _ _ (zM115 h0)) ?_
  refine q_aload_n C dX12_builds_18 (n := 19) rfl rfl ?_
  refine q_getI C dX12_builds_19 (n := 22) rfl f_X12_448 (zM0 h0) (v := M a 57) rfl ?_
  have g3 := zI.at hI ((zM117 h0) (M a 57))
  refine q_iald C dX12_builds_22 (n := 23) rfl (zM116 h0) (by omega) (v := M (a + 34) (M a 57)) rfl ?_
  refine q_istore C [.ref (w.2.1 + a), zi 0, zi 0, zi (M (a + 36) (M a 57)), zi (M (a + 34) (M a 57)), .null, .null, .null] dX12_builds_23 (n := 25) rfl rfl rfl ?_
  have L_26 : ∀ n27 : Nat, ∀ (u4 : Int) (u5 : Int) (u6 : Int) (u7 : Int) (M9 : zMm) (J10 : zJm), zI G M9 → zMd a [9, 10, 11, 12, 13, 14, 15, 16, 17, 24, 25, 26, 28, 42] [24, 25, 26, 34, 58, 59, 60] [(18, 7), (18, 11), (18, 12), (18, 13), (18, 14)] M M9 → zMd a [9, 10, 11, 12, 13, 14, 15, 16, 17, 42] [24, 26, 34] [(18, 7), (18, 11), (18, 12), (18, 13), (18, 14)] M M9 → (-2147483648 ≤ u4 ∧ u4 ≤ 2147483647) → (-2147483648 ≤ u5 ∧ u5 ≤ 2147483647) → (-2147483648 ≤ u6 ∧ u6 ≤ 2147483647) → (-2147483648 ≤ u7 ∧ u7 ≤ 2147483647) → (M (a + 34) (M a 57) ≤ u7 ∧ u7 ≤ M a 60) → (0 ≤ u5 ∧ u5 ≤ u4) → (u6 ≤ M (a + 36) (M a 57) ∧ M (a + 36) (M a 57) - u6 ≤ u7 - M (a + 34) (M a 57)) → ((u7 < M a 60 ∧ u4 + (M (a + 36) (M a 57) - u6) ≤ M (a + 37) u7 - M (a + 35) (M a 57)) ∨ (u7 = M a 60 ∧ u4 + (M (a + 36) (M a 57) - u6) ≤ M a 26 - M (a + 35) (M a 57))) → (M9 a 26 = M a 26 + (M (a + 36) (M a 57) - u6)) → (M a 24 ≤ M9 a 24 ∧ M9 a 24 ≤ M a 24 + 30 * (u7 - M (a + 34) (M a 57))) → (zOg M9 a og lg) → (zMa M9 a mb mp) → (M a 60 - u7 + 1 ≤ (n27 : Int)) → zK w p e 4 0 0 s m args below meth c 8 T Po 25 [.ref (w.2.1 + a), zi u4, zi u5, zi u6, zi u7, .null, .null, .null] [] (T, M9, J10, R) := by
    intro n27
    induction n27 with
    | zero =>
      intro u4 u5 u6 u7 M9 J10 hI11 hK12 hK13 h14 h15 h16 h17 h18 h19 h20 h21 h22 h23 h24 h25 hm29
      exfalso
      omega
    | succ n27 ih28 =>
      intro u4 u5 u6 u7 M9 J10 hI11 hK12 hK13 h14 h15 h16 h17 h18 h19 h20 h21 h22 h23 h24 h25 hm29
      refine q_iload C dX12_builds_25 (n := 27) rfl rfl ?_
      refine q_aload_n C dX12_builds_27 (n := 28) rfl rfl ?_
      have g30 := zI.at hI (zM145 h0)
      refine q_getI C dX12_builds_28 (n := 31) rfl f_X12_458 (zM0 h0) (v := M a 60) (hK13.getS rfl rfl) ?_
      refine q_icmp_ge C 168 dX12_builds_31 (n := 34) rfl rfl (by omega) (fun h31 => ?_) (fun h31 => ?_)
      · refine q_iload_n C dX12_builds_168 (n := 169) rfl rfl ?_
        refine q_bipush C dX12_builds_169 (n := 171) rfl (x := 30) (by decide) ?_
        refine q_icmp_le C 190 dX12_builds_171 (n := 174) rfl rfl (by omega) (fun h32 => ?_) (fun h32 => ?_)
        · refine q_aload_n C dX12_builds_190 (n := 191) rfl rfl ?_
          have g33 := zI.at hI (zM60 h0)
          refine q_getI C dX12_builds_191 (n := 194) rfl f_X12_394 (zM0 h0) (v := M a 25) (hK13.getS rfl rfl) ?_
          refine q_istore C [.ref (w.2.1 + a), zi u4, zi u5, zi u6, zi (M a 25), .null, .null, .null] dX12_builds_194 (n := 196) rfl rfl rfl ?_
          refine q_iconst C dX12_builds_196 (n := 197) rfl ?_
          refine q_istore C [.ref (w.2.1 + a), zi u4, zi u5, zi u6, zi (M a 25), zi 0, .null, .null] dX12_builds_197 (n := 199) rfl rfl rfl ?_
          have L_45 : ∀ n46 : Nat, ∀ (u34 : Int) (M36 : zMm) (J37 : zJm), zI G M36 → zMd a [9, 10, 11, 12, 13, 14, 15, 16, 17, 24, 25, 26, 28, 42] [24, 25, 26, 34, 58, 59, 60] [(18, 7), (18, 11), (18, 12), (18, 13), (18, 14)] M M36 → zMd a [9, 10, 11, 12, 13, 14, 15, 16] [25] [] M9 M36 → (-2147483648 ≤ u34 ∧ u34 ≤ 2147483647) → (0 ≤ u34 ∧ u34 ≤ u4) → (M36 a 25 = M a 25 + u34) → (zOg M36 a og lg) → (u4 - u34 + 1 ≤ (n46 : Int)) → zK w p e 4 0 0 s m args below meth c 8 T Po 199 [.ref (w.2.1 + a), zi u4, .null, .null, zi (M a 25), zi u34, .null, .null] [] (T, M36, J37, R) := by
            intro n46
            induction n46 with
            | zero =>
              intro u34 M36 J37 hI38 hK39 hK40 h41 h42 h43 h44 hm48
              exfalso
              omega
            | succ n46 ih47 =>
              intro u34 M36 J37 hI38 hK39 hK40 h41 h42 h43 h44 hm48
              refine q_iload C dX12_builds_199 (n := 201) rfl rfl ?_
              refine q_iload_n C dX12_builds_201 (n := 202) rfl rfl ?_
              refine q_icmp_ge C 285 dX12_builds_202 (n := 205) rfl rfl (by omega) (fun h49 => ?_) (fun h49 => ?_)
              · refine q_aload_n C dX12_builds_285 (n := 286) rfl rfl ?_
                refine q_iload C dX12_builds_286 (n := 288) rfl rfl ?_
                refine q_aload_n C dX12_builds_288 (n := 289) rfl rfl ?_
                have g50 := zI.at hI38 (zM60 h0)
                refine q_getI C dX12_builds_289 (n := 292) rfl f_X12_394 (zM0 h0) (v := M36 a 25) rfl ?_
                refine q_iconst C dX12_builds_292 (n := 293) rfl ?_
                refine q_callVv C dX12_builds_293 (n := 296) rfl m_X12_476 v_yX12_stretch (zM0 h0) ⟨by decide, rfl⟩ (c_X12_stretch (w := w) (J := J37) hI38 hF h0 (M a 25) (M36 a 25) 0 (by have hz51 : M36 a 58 = M a 58 := ((hK40.getS rfl rfl).trans (hK13.getS rfl rfl)); omega) (by omega) (by omega) (by omega)) (Nat.le_of_ble_eq_true rfl) rfl rfl (Nat.le_of_ble_eq_true rfl) ⟨Nat.le_refl _, Nat.le_refl _⟩ (fun M53 J54  hI55 h56 => ?_)
                obtain ⟨hk57, h52⟩ := h56
                have hK58 := hK39.tr hk57 rfl rfl rfl
                have hz59 : M36 a 58 = M a 58 := ((hK40.getS rfl rfl).trans (hK13.getS rfl rfl))
                rw [hz59] at h52
                obtain ⟨M61, e60⟩ : ∃ q, q = zup M36 (a + 24) (M a 58) (M a 25) := ⟨_, rfl⟩
                obtain ⟨M63, e62⟩ : ∃ q, q = zup M61 (a + 25) (M a 58) (M36 a 25) := ⟨_, rfl⟩
                obtain ⟨M65, e64⟩ : ∃ q, q = zup M63 (a + 26) (M a 58) 0 := ⟨_, rfl⟩
                have e66 : M53 = zup M65 a 58 ((M a 58) + 1) := by rw [e64]; rw [e62]; rw [e60]; exact h52
                refine q_aload_n C dX12_builds_296 (n := 297) rfl rfl ?_
                refine q_aload_n C dX12_builds_297 (n := 298) rfl rfl ?_
                refine q_getR C dX12_builds_298 (n := 301) rfl f_X12_116 (zM0 h0) (hF _ _ _ (zM115 h0)) ?_
                refine q_aload_n C dX12_builds_301 (n := 302) rfl rfl ?_
                refine q_getI C dX12_builds_302 (n := 305) rfl f_X12_448 (zM0 h0) (v := M a 57) ((zup_n e66 (by omega)).trans ((zup_p e64 (by omega) _).trans ((zup_p e62 (by omega) _).trans ((zup_p e60 (by omega) _).trans ((hK40.getS rfl rfl).trans (hK13.getS rfl rfl)))))) ?_
                refine q_iald C dX12_builds_305 (n := 306) rfl (zM116 h0) (by omega) (v := M (a + 34) (M a 57)) ((zup_p e66 (by omega) _).trans ((zup_p e64 (by omega) _).trans ((zup_p e62 (by omega) _).trans ((zup_p e60 (by omega) _).trans ((hK40.getA rfl rfl rfl).trans (hK13.getA rfl rfl rfl)))))) ?_
                refine q_putI C dX12_builds_306 (n := 309) rfl f_X12_458 (zM0 h0) ⟨rfl, rfl⟩ (fun M67 (e68 : M67 = zup M53 a 60 (M (a + 34) (M a 57))) => ?_)
                have hI69 : zI G M67 := hI55.put e68 (zM145 h0) rfl (by omega)
                have hK70 := hK58.upS e68 rfl
                refine q_aload_n C dX12_builds_309 (n := 310) rfl rfl ?_
                refine q_aload_n C dX12_builds_310 (n := 311) rfl rfl ?_
                refine q_getR C dX12_builds_311 (n := 314) rfl f_X12_119 (zM0 h0) (hF _ _ _ (zM118 h0)) ?_
                refine q_aload_n C dX12_builds_314 (n := 315) rfl rfl ?_
                refine q_getI C dX12_builds_315 (n := 318) rfl f_X12_448 (zM0 h0) (v := M a 57) ((zup_n e68 (by omega)).trans ((zup_n e66 (by omega)).trans ((zup_p e64 (by omega) _).trans ((zup_p e62 (by omega) _).trans ((zup_p e60 (by omega) _).trans ((hK40.getS rfl rfl).trans (hK13.getS rfl rfl))))))) ?_
                have g71 := zI.at hI ((zM120 h0) (M a 57))
                refine q_iald C dX12_builds_318 (n := 319) rfl (zM119 h0) (by omega) (v := M (a + 35) (M a 57)) ((zup_p e68 (by omega) _).trans ((zup_p e66 (by omega) _).trans ((zup_p e64 (by omega) _).trans ((zup_p e62 (by omega) _).trans ((zup_p e60 (by omega) _).trans ((hK40.getA rfl rfl rfl).trans (hK13.getA rfl rfl rfl))))))) ?_
                refine q_putI C dX12_builds_319 (n := 322) rfl f_X12_397 (zM0 h0) ⟨rfl, rfl⟩ (fun M72 (e73 : M72 = zup M67 a 26 (M (a + 35) (M a 57))) => ?_)
                have hI74 : zI G M72 := hI69.put e73 (zM61 h0) rfl (by omega)
                have hK75 := hK70.upS e73 rfl
                refine q_aload_n C dX12_builds_322 (n := 323) rfl rfl ?_
                refine q_aload_n C dX12_builds_323 (n := 324) rfl rfl ?_
                refine q_getR C dX12_builds_324 (n := 327) rfl f_X12_110 (zM0 h0) (hF _ _ _ (zM109 h0)) ?_
                refine q_aload_n C dX12_builds_327 (n := 328) rfl rfl ?_
                refine q_getI C dX12_builds_328 (n := 331) rfl f_X12_448 (zM0 h0) (v := M a 57) ((zup_n e73 (by omega)).trans ((zup_n e68 (by omega)).trans ((zup_n e66 (by omega)).trans ((zup_p e64 (by omega) _).trans ((zup_p e62 (by omega) _).trans ((zup_p e60 (by omega) _).trans ((hK40.getS rfl rfl).trans (hK13.getS rfl rfl)))))))) ?_
                have g76 := zI.at hI ((zM111 h0) (M a 57))
                refine q_iald C dX12_builds_331 (n := 332) rfl (zM110 h0) (by omega) (v := M (a + 32) (M a 57)) ((zup_p e73 (by omega) _).trans ((zup_p e68 (by omega) _).trans ((zup_p e66 (by omega) _).trans ((zup_p e64 (by omega) _).trans ((zup_p e62 (by omega) _).trans ((zup_p e60 (by omega) _).trans ((hK40.getA rfl rfl rfl).trans (hK13.getA rfl rfl rfl)))))))) ?_
                refine q_putI C dX12_builds_332 (n := 335) rfl f_X12_500 (zM0 h0) ⟨rfl, rfl⟩ (fun M77 (e78 : M77 = zup M72 a 59 (M (a + 32) (M a 57))) => ?_)
                have hI79 : zI G M77 := hI74.put e78 (zM144 h0) rfl (by omega)
                have hK80 := hK75.upS e78 rfl
                refine q_aload_n C dX12_builds_335 (n := 336) rfl rfl ?_
                refine q_getR C dX12_builds_336 (n := 339) rfl f_X12_98 (zM0 h0) (hF _ _ _ (zM97 h0)) ?_
                refine q_aload_n C dX12_builds_339 (n := 340) rfl rfl ?_
                refine q_getI C dX12_builds_340 (n := 343) rfl f_X12_448 (zM0 h0) (v := M a 57) ((zup_n e78 (by omega)).trans ((zup_n e73 (by omega)).trans ((zup_n e68 (by omega)).trans ((zup_n e66 (by omega)).trans ((zup_p e64 (by omega) _).trans ((zup_p e62 (by omega) _).trans ((zup_p e60 (by omega) _).trans ((hK40.getS rfl rfl).trans (hK13.getS rfl rfl))))))))) ?_
                refine q_iconst C dX12_builds_343 (n := 344) rfl ?_
                refine q_iast C dX12_builds_344 (n := 345) rfl (zM98 h0) (by omega)  (fun M81 e82 => ?_)
                have hI83 : zI G M81 := hI79.put e82 ((zM99 h0) (M a 57)) rfl (by omega)
                have hK84 := hK80.upA e82 rfl
                have hx85 : zX M81 a mb mp (M a 57) (M (a + 32) (M a 57)) 0 0 0 := zY.cgr (Y_build p1 (by omega) (k := u4) (po2 := M9 a 24) (by omega) (by omega)) ((zup_p e82 (by omega) _).trans ((zup_n e78 (by omega)).trans ((zup_n e73 (by omega)).trans ((zup_n e68 (by omega)).trans ((zup_n e66 (by omega)).trans ((zup_p e64 (by omega) _).trans ((zup_p e62 (by omega) _).trans ((zup_p e60 (by omega) _).trans ((hK40.getS rfl rfl).trans (hK13.getS rfl rfl)))))))))) ((zup_p e82 (by omega) _).trans ((zup_n e78 (by omega)).trans ((zup_n e73 (by omega)).trans ((zup_n e68 (by omega)).trans ((zup_n e66 (by omega)).trans ((zup_p e64 (by omega) _).trans ((zup_p e62 (by omega) _).trans ((zup_p e60 (by omega) _).trans ((hK40.getS rfl rfl).trans (hK13.getS rfl rfl)))))))))) (by have hw : M81 a 58 = (M a 58) + 1 := ((zup_p e82 (by omega) _).trans ((zup_n e78 (by omega)).trans ((zup_n e73 (by omega)).trans ((zup_n e68 (by omega)).trans (zup_s e66))))); omega) (by have hw : M81 a 59 = M (a + 32) (M a 57) := ((zup_p e82 (by omega) _).trans (zup_s e78)); omega) (by have hw : M81 a 60 = M (a + 34) (M a 57) := ((zup_p e82 (by omega) _).trans ((zup_n e78 (by omega)).trans ((zup_n e73 (by omega)).trans (zup_s e68)))); omega) (by have hw : M81 a 26 = M (a + 35) (M a 57) := ((zup_p e82 (by omega) _).trans ((zup_n e78 (by omega)).trans (zup_s e73))); omega) (by have hw : M81 a 25 = M36 a 25 := ((zup_p e82 (by omega) _).trans ((zup_n e78 (by omega)).trans ((zup_n e73 (by omega)).trans ((zup_n e68 (by omega)).trans ((zup_n e66 (by omega)).trans ((zup_p e64 (by omega) _).trans ((zup_p e62 (by omega) _).trans (zup_p e60 (by omega) _)))))))); omega) (by have hw : M81 a 24 = M9 a 24 := ((zup_p e82 (by omega) _).trans ((zup_n e78 (by omega)).trans ((zup_n e73 (by omega)).trans ((zup_n e68 (by omega)).trans ((zup_n e66 (by omega)).trans ((zup_p e64 (by omega) _).trans ((zup_p e62 (by omega) _).trans ((zup_p e60 (by omega) _).trans (hK40.getS rfl rfl))))))))); omega) ((zup_p e82 (by omega) _).trans ((zup_n e78 (by omega)).trans ((zup_n e73 (by omega)).trans ((zup_n e68 (by omega)).trans ((zup_n e66 (by omega)).trans ((zup_p e64 (by omega) _).trans ((zup_p e62 (by omega) _).trans ((zup_p e60 (by omega) _).trans ((hK40.getS rfl rfl).trans (hK13.getS rfl rfl)))))))))) (funext fun j => by by_cases q : j = (M a 58); (rw [q, yup_s]; have hw : M81 (a + 24) (M a 58) = M a 25 := ((zup_p e82 (by omega) _).trans ((zup_p e78 (by omega) _).trans ((zup_p e73 (by omega) _).trans ((zup_p e68 (by omega) _).trans ((zup_p e66 (by omega) _).trans ((zup_p e64 (by omega) _).trans ((zup_p e62 (by omega) _).trans (zup_e e60 (by omega))))))))); omega); (rw [yup_n q]; exact ((zup_p e82 (by omega) _).trans ((zup_p e78 (by omega) _).trans ((zup_p e73 (by omega) _).trans ((zup_p e68 (by omega) _).trans ((zup_p e66 (by omega) _).trans ((zup_p e64 (by omega) _).trans ((zup_p e62 (by omega) _).trans ((zup_n e60 (by omega)).trans ((hK40.getA rfl rfl rfl).trans (hK13.getA rfl rfl rfl)))))))))))) (funext fun j => by by_cases q : j = (M a 58); (rw [q, yup_s]; have hw : M81 (a + 25) (M a 58) = M36 a 25 := ((zup_p e82 (by omega) _).trans ((zup_p e78 (by omega) _).trans ((zup_p e73 (by omega) _).trans ((zup_p e68 (by omega) _).trans ((zup_p e66 (by omega) _).trans ((zup_p e64 (by omega) _).trans (zup_e e62 (by omega)))))))); omega); (rw [yup_n q]; exact ((zup_p e82 (by omega) _).trans ((zup_p e78 (by omega) _).trans ((zup_p e73 (by omega) _).trans ((zup_p e68 (by omega) _).trans ((zup_p e66 (by omega) _).trans ((zup_p e64 (by omega) _).trans ((zup_n e62 (by omega)).trans ((zup_p e60 (by omega) _).trans ((hK40.getA rfl rfl rfl).trans (hK13.getA rfl rfl rfl)))))))))))) (funext fun j => by by_cases q : j = (M a 58); (rw [q, yup_s]; have hw : M81 (a + 26) (M a 58) = 0 := ((zup_p e82 (by omega) _).trans ((zup_p e78 (by omega) _).trans ((zup_p e73 (by omega) _).trans ((zup_p e68 (by omega) _).trans ((zup_p e66 (by omega) _).trans (zup_e e64 (by omega))))))); omega); (rw [yup_n q]; exact ((zup_p e82 (by omega) _).trans ((zup_p e78 (by omega) _).trans ((zup_p e73 (by omega) _).trans ((zup_p e68 (by omega) _).trans ((zup_p e66 (by omega) _).trans ((zup_n e64 (by omega)).trans ((zup_p e62 (by omega) _).trans ((zup_p e60 (by omega) _).trans ((hK40.getA rfl rfl rfl).trans (hK13.getA rfl rfl rfl)))))))))))) (funext fun j => ((zup_p e82 (by omega) _).trans ((zup_p e78 (by omega) _).trans ((zup_p e73 (by omega) _).trans ((zup_p e68 (by omega) _).trans ((zup_p e66 (by omega) _).trans ((zup_p e64 (by omega) _).trans ((zup_p e62 (by omega) _).trans ((zup_p e60 (by omega) _).trans ((hK40.getA rfl rfl rfl).trans (hK13.getA rfl rfl rfl))))))))))) (funext fun j => by by_cases q : j = (M a 57); (rw [q, yup_s]; have hw : M81 (a + 28) (M a 57) = (-1) := (zup_e e82 (by omega)); omega); (rw [yup_n q]; exact ((zup_n e82 (by omega)).trans ((zup_p e78 (by omega) _).trans ((zup_p e73 (by omega) _).trans ((zup_p e68 (by omega) _).trans ((zup_p e66 (by omega) _).trans ((zup_p e64 (by omega) _).trans ((zup_p e62 (by omega) _).trans ((zup_p e60 (by omega) _).trans ((hK40.getA rfl rfl rfl).trans (hK13.getA rfl rfl rfl)))))))))))) (funext fun j => ((zup_p e82 (by omega) _).trans ((zup_p e78 (by omega) _).trans ((zup_p e73 (by omega) _).trans ((zup_p e68 (by omega) _).trans ((zup_p e66 (by omega) _).trans ((zup_p e64 (by omega) _).trans ((zup_p e62 (by omega) _).trans ((zup_p e60 (by omega) _).trans ((hK40.getA rfl rfl rfl).trans (hK13.getA rfl rfl rfl))))))))))) (funext fun j => ((zup_p e82 (by omega) _).trans ((zup_p e78 (by omega) _).trans ((zup_p e73 (by omega) _).trans ((zup_p e68 (by omega) _).trans ((zup_p e66 (by omega) _).trans ((zup_p e64 (by omega) _).trans ((zup_p e62 (by omega) _).trans ((zup_p e60 (by omega) _).trans ((hK40.getA rfl rfl rfl).trans (hK13.getA rfl rfl rfl))))))))))) (funext fun j => ((zup_p e82 (by omega) _).trans ((zup_p e78 (by omega) _).trans ((zup_p e73 (by omega) _).trans ((zup_p e68 (by omega) _).trans ((zup_p e66 (by omega) _).trans ((zup_p e64 (by omega) _).trans ((zup_p e62 (by omega) _).trans ((zup_p e60 (by omega) _).trans ((hK40.getA rfl rfl rfl).trans (hK13.getA rfl rfl rfl))))))))))) (funext fun j => ((zup_p e82 (by omega) _).trans ((zup_p e78 (by omega) _).trans ((zup_p e73 (by omega) _).trans ((zup_p e68 (by omega) _).trans ((zup_p e66 (by omega) _).trans ((zup_p e64 (by omega) _).trans ((zup_p e62 (by omega) _).trans ((zup_p e60 (by omega) _).trans ((hK40.getA rfl rfl rfl).trans (hK13.getA rfl rfl rfl))))))))))) (funext fun j => ((zup_p e82 (by omega) _).trans ((zup_p e78 (by omega) _).trans ((zup_p e73 (by omega) _).trans ((zup_p e68 (by omega) _).trans ((zup_p e66 (by omega) _).trans ((zup_p e64 (by omega) _).trans ((zup_p e62 (by omega) _).trans ((zup_p e60 (by omega) _).trans ((hK40.getA rfl rfl rfl).trans (hK13.getA rfl rfl rfl))))))))))) (funext fun j => ((zup_p e82 (by omega) _).trans ((zup_p e78 (by omega) _).trans ((zup_p e73 (by omega) _).trans ((zup_p e68 (by omega) _).trans ((zup_p e66 (by omega) _).trans ((zup_p e64 (by omega) _).trans ((zup_p e62 (by omega) _).trans ((zup_p e60 (by omega) _).trans ((hK40.getA rfl rfl rfl).trans (hK13.getA rfl rfl rfl))))))))))) (funext fun j => ((zup_p e82 (by omega) _).trans ((zup_p e78 (by omega) _).trans ((zup_p e73 (by omega) _).trans ((zup_p e68 (by omega) _).trans ((zup_p e66 (by omega) _).trans ((zup_p e64 (by omega) _).trans ((zup_p e62 (by omega) _).trans ((zup_p e60 (by omega) _).trans ((hK40.getA rfl rfl rfl).trans (hK13.getA rfl rfl rfl))))))))))) (funext fun j => ((zup_p e82 (by omega) _).trans ((zup_p e78 (by omega) _).trans ((zup_p e73 (by omega) _).trans ((zup_p e68 (by omega) _).trans ((zup_p e66 (by omega) _).trans ((zup_p e64 (by omega) _).trans ((zup_p e62 (by omega) _).trans ((zup_p e60 (by omega) _).trans ((hK40.getA rfl rfl rfl).trans (hK13.getA rfl rfl rfl)))))))))))
                refine q_iconst C dX12_builds_345 (n := 346) rfl ?_
                have hp86 : zOg M81 a og lg := h44.cg (fun j => ((zup_p e82 (by omega) _).trans ((zup_p e78 (by omega) _).trans ((zup_p e73 (by omega) _).trans ((zup_p e68 (by omega) _).trans ((zup_p e66 (by omega) _).trans ((zup_p e64 (by omega) _).trans ((zup_p e62 (by omega) _).trans (zup_p e60 (by omega) _))))))))) (fun j => ((zup_p e82 (by omega) _).trans ((zup_p e78 (by omega) _).trans ((zup_p e73 (by omega) _).trans ((zup_p e68 (by omega) _).trans ((zup_p e66 (by omega) _).trans ((zup_p e64 (by omega) _).trans ((zup_p e62 (by omega) _).trans (zup_p e60 (by omega) _)))))))))
                have hp87 : zMa M81 a mb mp := h25.cg (fun j j0 j1 => ((zup_p e82 (by omega) _).trans ((zup_p e78 (by omega) _).trans ((zup_p e73 (by omega) _).trans ((zup_p e68 (by omega) _).trans ((zup_p e66 (by omega) _).trans ((zup_p e64 (by omega) _).trans ((zup_p e62 (by omega) _).trans ((zup_p e60 (by omega) _).trans (hK40.getA rfl rfl rfl)))))))))) (fun j => ((zup_p e82 (by omega) _).trans ((zup_p e78 (by omega) _).trans ((zup_p e73 (by omega) _).trans ((zup_p e68 (by omega) _).trans ((zup_p e66 (by omega) _).trans ((zup_p e64 (by omega) _).trans ((zup_p e62 (by omega) _).trans ((zup_p e60 (by omega) _).trans (hK40.getA rfl rfl rfl))))))))))
                exact q_zret C dX12_builds_346 ⟨rfl, rfl⟩ (by omega) (by rw [hPo]; exact ⟨1, M81, J54, rfl, rfl, hI83, hK84, by omega, Or.inr hx85, Or.inr (zMu_build (x := M a 25) (k := u4) (by omega) (by omega) ((zup_p e82 (by omega) _).trans ((zup_n e78 (by omega)).trans ((zup_n e73 (by omega)).trans ((zup_n e68 (by omega)).trans ((zup_n e66 (by omega)).trans ((zup_p e64 (by omega) _).trans ((zup_p e62 (by omega) _).trans ((zup_p e60 (by omega) _).trans ((hK40.getS rfl rfl).trans (hK13.getS rfl rfl)))))))))) ((zup_p e82 (by omega) _).trans ((zup_n e78 (by omega)).trans ((zup_n e73 (by omega)).trans ((zup_n e68 (by omega)).trans ((zup_n e66 (by omega)).trans ((zup_p e64 (by omega) _).trans ((zup_p e62 (by omega) _).trans ((zup_p e60 (by omega) _).trans ((hK40.getS rfl rfl).trans (hK13.getS rfl rfl)))))))))) ((zup_p e82 (by omega) _).trans ((zup_n e78 (by omega)).trans ((zup_n e73 (by omega)).trans ((zup_n e68 (by omega)).trans (zup_s e66))))) (fun j hj => ((zup_p e82 (by omega) _).trans ((zup_p e78 (by omega) _).trans ((zup_p e73 (by omega) _).trans ((zup_p e68 (by omega) _).trans ((zup_p e66 (by omega) _).trans ((zup_p e64 (by omega) _).trans ((zup_p e62 (by omega) _).trans ((zup_n e60 (by omega)).trans ((hK40.getA rfl rfl rfl).trans (hK13.getA rfl rfl rfl))))))))))) (fun j hj => ((zup_p e82 (by omega) _).trans ((zup_p e78 (by omega) _).trans ((zup_p e73 (by omega) _).trans ((zup_p e68 (by omega) _).trans ((zup_p e66 (by omega) _).trans ((zup_p e64 (by omega) _).trans ((zup_n e62 (by omega)).trans ((zup_p e60 (by omega) _).trans ((hK40.getA rfl rfl rfl).trans (hK13.getA rfl rfl rfl))))))))))) ((zup_p e82 (by omega) _).trans ((zup_p e78 (by omega) _).trans ((zup_p e73 (by omega) _).trans ((zup_p e68 (by omega) _).trans ((zup_p e66 (by omega) _).trans ((zup_p e64 (by omega) _).trans ((zup_p e62 (by omega) _).trans (zup_s e60)))))))) (by have hw : M81 (a + 25) (M a 58) = M36 a 25 := ((zup_p e82 (by omega) _).trans ((zup_p e78 (by omega) _).trans ((zup_p e73 (by omega) _).trans ((zup_p e68 (by omega) _).trans ((zup_p e66 (by omega) _).trans ((zup_p e64 (by omega) _).trans (zup_s e62))))))); omega) (fun j => ((zup_p e82 (by omega) _).trans ((zup_p e78 (by omega) _).trans ((zup_p e73 (by omega) _).trans ((zup_p e68 (by omega) _).trans ((zup_p e66 (by omega) _).trans ((zup_p e64 (by omega) _).trans ((zup_p e62 (by omega) _).trans ((zup_p e60 (by omega) _).trans ((hK40.getA rfl rfl rfl).trans (hK13.getA rfl rfl rfl))))))))))) (by omega) (by omega)), hp86, hp87, by have hz88 : M81 a 59 = M (a + 32) (M a 57) := ((zup_p e82 (by omega) _).trans (zup_s e78)); omega⟩)
              · refine q_aload_n C dX12_builds_205 (n := 206) rfl rfl ?_
                refine q_aload_n C dX12_builds_206 (n := 207) rfl rfl ?_
                refine q_getR C dX12_builds_207 (n := 210) rfl f_X12_141 (zM0 h0) (hF _ _ _ (zM139 h0)) ?_
                refine q_iload C dX12_builds_210 (n := 212) rfl rfl ?_
                have g89 := zI.at hI11 ((zM141 h0) u34)
                refine q_iald C dX12_builds_212 (n := 213) rfl (zM140 h0) (by omega) (v := M9 (a + 42) u34) (hK40.getA rfl rfl rfl) ?_
                refine q_aload_n C dX12_builds_213 (n := 214) rfl rfl ?_
                have g90 := zI.at hI38 (zM60 h0)
                refine q_getI C dX12_builds_214 (n := 217) rfl f_X12_394 (zM0 h0) (v := M36 a 25) rfl ?_
                refine q_callVv C dX12_builds_217 (n := 220) rfl m_X12_461 v_yX12_copies (zM0 h0) ⟨by decide, rfl⟩ (c_X12_copies (w := w) (J := J37) hI38 hF h0 (M9 (a + 42) u34) (M36 a 25) h44 (by omega) (by omega) (by omega)) (Nat.le_of_ble_eq_true rfl) rfl rfl (Nat.le_of_ble_eq_true rfl) ⟨Nat.le_refl _, Nat.le_refl _⟩ (fun M92 J93  hI94 h95 => ?_)
                obtain ⟨hk96, h91⟩ := h95
                have hK97 := hK39.tr hk96 rfl rfl rfl
                have hK98 := hK40.tr hk96 rfl rfl rfl
                refine q_aload_n C dX12_builds_220 (n := 221) rfl rfl ?_
                refine q_getR C dX12_builds_221 (n := 224) rfl f_X12_58 (zM0 h0) (hF _ _ _ (zM49 h0)) ?_
                refine q_aload_n C dX12_builds_224 (n := 225) rfl rfl ?_
                refine q_getI C dX12_builds_225 (n := 228) rfl f_X12_394 (zM0 h0) (v := M36 a 25) (hk96.getS rfl rfl) ?_
                refine q_dup2 C dX12_builds_228 (n := 229) rfl ⟨rfl, rfl⟩ ?_
                have g99 := zI.at hI94 ((zM51 h0) (M36 a 25))
                refine q_iald C dX12_builds_229 (n := 230) rfl (zM50 h0) (by omega) (v := M92 (a + 15) (M36 a 25)) rfl ?_
                refine q_aload_n C dX12_builds_230 (n := 231) rfl rfl ?_
                refine q_getR C dX12_builds_231 (n := 234) rfl f_X12_104 (zM0 h0) (hF _ _ _ (zM103 h0)) ?_
                refine q_aload_n C dX12_builds_234 (n := 235) rfl rfl ?_
                refine q_getI C dX12_builds_235 (n := 238) rfl f_X12_448 (zM0 h0) (v := M a 57) ((hk96.getS rfl rfl).trans ((hK40.getS rfl rfl).trans (hK13.getS rfl rfl))) ?_
                have g100 := zI.at hI ((zM105 h0) (M a 57))
                refine q_iald C dX12_builds_238 (n := 239) rfl (zM104 h0) (by omega) (v := M (a + 30) (M a 57)) ((hk96.getA rfl rfl rfl).trans ((hK40.getA rfl rfl rfl).trans (hK13.getA rfl rfl rfl))) ?_
                refine q_ior C dX12_builds_239 (n := 240) rfl (v := zor (M92 (a + 15) (M36 a 25)) (M (a + 30) (M a 57))) rfl ?_
                have g101 := zr_or (M92 (a + 15) (M36 a 25)) (M (a + 30) (M a 57))
                have g102 : zand (M92 (a + 15) (M36 a 25)) 31 = 0 → zand (zor (M92 (a + 15) (M36 a 25)) (M (a + 30) (M a 57))) 31 = zand (M (a + 30) (M a 57)) 31 := fun h => zl_or h
                refine q_iast C dX12_builds_240 (n := 241) rfl (zM50 h0) (by omega)  (fun M103 e104 => ?_)
                have hI105 : zI G M103 := hI94.put e104 ((zM51 h0) (M36 a 25)) rfl (by omega)
                have hK106 := hK97.upA e104 rfl
                have hK107 := hK98.upA e104 rfl
                refine q_iload C dX12_builds_241 (n := 243) rfl rfl ?_
                have J_115 : ∀ (M109 : zMm) (J110 : zJm), zI G M109 → zMd a [9, 10, 11, 12, 13, 14, 15, 16, 17, 24, 25, 26, 28, 42] [24, 25, 26, 34, 58, 59, 60] [(18, 7), (18, 11), (18, 12), (18, 13), (18, 14)] M M109 → zMd a [9, 10, 11, 12, 13, 14, 15, 16] [25] [] M9 M109 → zMd a [16] [] [] M103 M109 → zK w p e 4 0 0 s m args below meth c 8 T Po 269 [.ref (w.2.1 + a), zi u4, .null, .null, zi (M a 25), zi u34, .null, .null] [] (T, M109, J110, R) := by
                  intro M109 J110 hI111 hK112 hK113 hK114
                  refine q_aload_n C dX12_builds_269 (n := 270) rfl rfl ?_
                  refine q_dup C dX12_builds_270 (n := 271) rfl rfl ?_
                  refine q_getI C dX12_builds_271 (n := 274) rfl f_X12_394 (zM0 h0) (v := M36 a 25) ((hK114.getS rfl rfl).trans ((zup_p e104 (by omega) _).trans (hk96.getS rfl rfl))) ?_
                  refine q_iconst C dX12_builds_274 (n := 275) rfl ?_
                  refine q_iadd C dX12_builds_275 (n := 276) rfl (v := (M36 a 25) + 1) rfl ?_
                  refine q_putI C dX12_builds_276 (n := 279) rfl f_X12_394 (zM0 h0) ⟨rfl, rfl⟩ (fun M116 (e117 : M116 = zup M109 a 25 ((M36 a 25) + 1)) => ?_)
                  have hI118 : zI G M116 := hI111.put e117 (zM60 h0) rfl (by omega)
                  have hK119 := hK112.upS e117 rfl
                  have hK120 := hK113.upS e117 rfl
                  refine q_iinc C [.ref (w.2.1 + a), zi u4, .null, .null, zi (M a 25), zi (u34 + 1), .null, .null] dX12_builds_279 (n := 282) rfl rfl rfl rfl ?_
                  refine q_goto C 199 dX12_builds_282 rfl ?_
                  have hp122 : zOg M116 a og lg := h91.cg (fun j => ((zup_p e117 (by omega) _).trans ((hK114.getA rfl rfl rfl).trans (zup_p e104 (by omega) _)))) (fun j => ((zup_p e117 (by omega) _).trans ((hK114.getA rfl rfl rfl).trans (zup_p e104 (by omega) _))))
                  exact zK.weak (ih47 (u34 + 1) M116 J110 hI118 hK119 hK120 (by omega) (by omega) (by have hz121 : M116 a 25 = (M36 a 25) + 1 := (zup_s e117); omega) hp122 (by omega)) (zwk_c (zwk_c (zwk_n (zwk_n (zwk_c (zwk_c (zwk_n (zwk_n zwk_e))))))))
                refine q_if_ne C 269 dX12_builds_243 (n := 246) rfl rfl (by omega) (fun h123 => ?_) (fun h123 => ?_)
                · exact zK.weak (J_115 M103 J93 hI105 hK106 hK107 (zMd.rf : zMd a [16] [] [] M103 M103)) (zwk_c (zwk_c (zwk_n (zwk_n (zwk_c (zwk_c (zwk_n (zwk_n zwk_e))))))))
                · refine q_aload_n C dX12_builds_246 (n := 247) rfl rfl ?_
                  refine q_getR C dX12_builds_247 (n := 250) rfl f_X12_61 (zM0 h0) (hF _ _ _ (zM52 h0)) ?_
                  refine q_aload_n C dX12_builds_250 (n := 251) rfl rfl ?_
                  refine q_getI C dX12_builds_251 (n := 254) rfl f_X12_394 (zM0 h0) (v := M36 a 25) ((zup_p e104 (by omega) _).trans (hk96.getS rfl rfl)) ?_
                  refine q_aload_n C dX12_builds_254 (n := 255) rfl rfl ?_
                  refine q_getR C dX12_builds_255 (n := 258) rfl f_X12_61 (zM0 h0) (hF _ _ _ (zM52 h0)) ?_
                  refine q_aload_n C dX12_builds_258 (n := 259) rfl rfl ?_
                  refine q_getR C dX12_builds_259 (n := 262) rfl f_X12_101 (zM0 h0) (hF _ _ _ (zM100 h0)) ?_
                  refine q_aload_n C dX12_builds_262 (n := 263) rfl rfl ?_
                  refine q_getI C dX12_builds_263 (n := 266) rfl f_X12_448 (zM0 h0) (v := M a 57) ((zup_p e104 (by omega) _).trans ((hk96.getS rfl rfl).trans ((hK40.getS rfl rfl).trans (hK13.getS rfl rfl)))) ?_
                  have g124 := zI.at hI ((zM102 h0) (M a 57))
                  refine q_iald C dX12_builds_266 (n := 267) rfl (zM101 h0) (by omega) (v := M (a + 29) (M a 57)) ((zup_p e104 (by omega) _).trans ((hk96.getA rfl rfl rfl).trans ((hK40.getA rfl rfl rfl).trans (hK13.getA rfl rfl rfl)))) ?_
                  have g125 := zI.at hI94 ((zM54 h0) (M (a + 29) (M a 57)))
                  refine q_iald C dX12_builds_267 (n := 268) rfl (zM53 h0) (by omega) (v := M92 (a + 16) (M (a + 29) (M a 57))) (zup_p e104 (by omega) _) ?_
                  refine q_iast C dX12_builds_268 (n := 269) rfl (zM53 h0) (by omega)  (fun M126 e127 => ?_)
                  have hI128 : zI G M126 := hI105.put e127 ((zM54 h0) (M36 a 25)) rfl (by omega)
                  have hK129 := hK106.upA e127 rfl
                  have hK130 := hK107.upA e127 rfl
                  have hK131 := (zMd.rf : zMd a [16] [] [] M103 M103).upA e127 rfl
                  exact zK.weak (J_115 M126 J93 hI128 hK129 hK130 hK131) (zwk_c (zwk_c (zwk_n (zwk_n (zwk_c (zwk_c (zwk_n (zwk_n zwk_e))))))))
          exact zK.weak (L_45 _ 0 M9 J10 hI11 hK12 (zMd.rf : zMd a [9, 10, 11, 12, 13, 14, 15, 16] [25] [] M9 M9) (by omega) (by omega) (by have hz132 : M9 a 25 = M a 25 := (hK13.getS rfl rfl); omega) h24 (Int.self_le_toNat _)) (zwk_c (zwk_c (zwk_n (zwk_n (zwk_c (zwk_c (zwk_n (zwk_n zwk_e))))))))
        · refine q_aload_n C dX12_builds_174 (n := 175) rfl rfl ?_
          refine q_bipush C dX12_builds_175 (n := 177) rfl (x := 7) (by decide) ?_
          refine q_aload_n C dX12_builds_177 (n := 178) rfl rfl ?_
          refine q_getR C dX12_builds_178 (n := 181) rfl f_X12_101 (zM0 h0) (hF _ _ _ (zM100 h0)) ?_
          refine q_aload_n C dX12_builds_181 (n := 182) rfl rfl ?_
          refine q_getI C dX12_builds_182 (n := 185) rfl f_X12_448 (zM0 h0) (v := M a 57) (hK13.getS rfl rfl) ?_
          have g133 := zI.at hI ((zM102 h0) (M a 57))
          refine q_iald C dX12_builds_185 (n := 186) rfl (zM101 h0) (by omega) (v := M (a + 29) (M a 57)) (hK13.getA rfl rfl rfl) ?_
          refine q_callVi C dX12_builds_186 (n := 189) rfl m_X12_376 v_yX12_badAt (zM0 h0) ⟨by decide, rfl⟩ (c_X12_badAt (w := w) (J := J10) hI11 hF h0 7 (M (a + 29) (M a 57)) (by omega) (by omega)) (Nat.le_of_ble_eq_true rfl) rfl rfl (Nat.le_of_ble_eq_true rfl) ⟨Nat.le_refl _, Nat.le_refl _⟩ (fun x140 M136 J137  hI138 h139 => ?_)
          obtain ⟨hk141, h134, h135⟩ := h139
          have hK142 := hK12.tr hk141 rfl rfl rfl
          have hK143 := hK13.tr hk141 rfl rfl rfl
          have hp144 : zOg M136 a og lg := h24.cg (fun j => (hk141.getA rfl rfl rfl)) (fun j => (hk141.getA rfl rfl rfl))
          have hp145 : zMa M136 a mb mp := h25.cg (fun j j0 j1 => (hk141.getW rfl rfl (by omega))) (fun j => (hk141.getA rfl rfl rfl))
          exact q_zret C dX12_builds_189 ⟨rfl, rfl⟩ (by omega) (by rw [hPo]; exact ⟨x140, M136, J137, rfl, rfl, hI138, hK142, by omega, Or.inl (by omega), Or.inl (by omega), hp144, hp145, by have hz146 : M136 a 59 = M a 59 := ((hk141.getS rfl rfl).trans (hK13.getS rfl rfl)); omega⟩)
      · have gp := (zX.pcs p1 (g := M a 57) (by omega) (by omega) (by omega)).1 u7 (by omega) (by omega)
        have gt0 := (zX.pcs p1 (g := M a 57) (by omega) (by omega) (by omega)).2
        have gch : u7 + 1 = M a 60 ∨ M (a + 37) u7 + M (a + 38) u7 ≤ M (a + 37) (u7 + 1) := (Decidable.em (u7 + 1 < M a 60)).symm.imp (fun q => by omega) (fun q => zX.ch p1 (by omega) q)
        refine q_aload_n C dX12_builds_34 (n := 35) rfl rfl ?_
        refine q_getR C dX12_builds_35 (n := 38) rfl f_X12_125 (zM0 h0) (hF _ _ _ (zM124 h0)) ?_
        refine q_iload C dX12_builds_38 (n := 40) rfl rfl ?_
        have g147 := zI.at hI ((zM126 h0) u7)
        refine q_iald C dX12_builds_40 (n := 41) rfl (zM125 h0) (by omega) (v := M (a + 37) u7) (hK13.getA rfl rfl rfl) ?_
        refine q_istore C [.ref (w.2.1 + a), zi u4, zi u5, zi u6, zi u7, zi (M (a + 37) u7), .null, .null] dX12_builds_41 (n := 43) rfl rfl rfl ?_
        refine q_aload_n C dX12_builds_43 (n := 44) rfl rfl ?_
        refine q_getR C dX12_builds_44 (n := 47) rfl f_X12_125 (zM0 h0) (hF _ _ _ (zM124 h0)) ?_
        refine q_iload C dX12_builds_47 (n := 49) rfl rfl ?_
        refine q_iald C dX12_builds_49 (n := 50) rfl (zM125 h0) (by omega) (v := M (a + 37) u7) (hK13.getA rfl rfl rfl) ?_
        refine q_aload_n C dX12_builds_50 (n := 51) rfl rfl ?_
        refine q_getR C dX12_builds_51 (n := 54) rfl f_X12_128 (zM0 h0) (hF _ _ _ (zM127 h0)) ?_
        refine q_iload C dX12_builds_54 (n := 56) rfl rfl ?_
        have g148 := zI.at hI ((zM129 h0) u7)
        refine q_iald C dX12_builds_56 (n := 57) rfl (zM128 h0) (by omega) (v := M (a + 38) u7) (hK13.getA rfl rfl rfl) ?_
        refine q_iadd C dX12_builds_57 (n := 58) rfl (v := (M (a + 37) u7) + (M (a + 38) u7)) rfl ?_
        refine q_istore C [.ref (w.2.1 + a), zi u4, zi u5, zi u6, zi u7, zi (M (a + 37) u7), zi ((M (a + 37) u7) + (M (a + 38) u7)), .null] dX12_builds_58 (n := 60) rfl rfl rfl ?_
        refine q_aload_n C dX12_builds_60 (n := 61) rfl rfl ?_
        refine q_getR C dX12_builds_61 (n := 64) rfl f_X12_131 (zM0 h0) (hF _ _ _ (zM130 h0)) ?_
        refine q_iload C dX12_builds_64 (n := 66) rfl rfl ?_
        have g149 := zI.at hI ((zM132 h0) u7)
        refine q_iald C dX12_builds_66 (n := 67) rfl (zM131 h0) (by omega) (v := M (a + 39) u7) (hK13.getA rfl rfl rfl) ?_
        have J_153 : ∀ (u150 : Int), (-2147483648 ≤ u150 ∧ u150 ≤ 2147483647) → (0 ≤ u150 ∧ u150 ≤ u4) → zK w p e 4 0 0 s m args below meth c 8 T Po 72 [.ref (w.2.1 + a), zi u4, zi u150, zi u6, zi u7, zi (M (a + 37) u7), zi ((M (a + 37) u7) + (M (a + 38) u7)), .null] [] (T, M9, J10, R) := by
          intro u150 h151 h152
          refine q_aload_n C dX12_builds_72 (n := 73) rfl rfl ?_
          refine q_getR C dX12_builds_73 (n := 76) rfl f_X12_131 (zM0 h0) (hF _ _ _ (zM130 h0)) ?_
          refine q_iload C dX12_builds_76 (n := 78) rfl rfl ?_
          refine q_iald C dX12_builds_78 (n := 79) rfl (zM131 h0) (by omega) (v := M (a + 39) u7) (hK13.getA rfl rfl rfl) ?_
          refine q_iconst C dX12_builds_79 (n := 80) rfl ?_
          have J_171 : ∀ (u154 : Int) (u155 : Int) (M157 : zMm) (J158 : zJm), zI G M157 → zMd a [9, 10, 11, 12, 13, 14, 15, 16, 17, 24, 25, 26, 28, 42] [24, 25, 26, 34, 58, 59, 60] [(18, 7), (18, 11), (18, 12), (18, 13), (18, 14)] M M157 → zMd a [9, 10, 11, 12, 13, 14, 15, 16, 17, 42] [24, 26, 34] [(18, 7), (18, 11), (18, 12), (18, 13), (18, 14)] M M157 → zMd a [9, 10, 11, 12, 13, 14, 15, 16, 17, 42] [24, 26, 34] [(18, 7), (18, 11), (18, 12), (18, 13), (18, 14)] M9 M157 → (-2147483648 ≤ u154 ∧ u154 ≤ 2147483647) → (-2147483648 ≤ u155 ∧ u155 ≤ 2147483647) → ((u154 = u6 ∧ u155 = (M (a + 37) u7)) ∨ (u154 = u6 - 1 ∧ u155 = (M (a + 37) u7) + 1)) → (u155 ≤ ((M (a + 37) u7) + (M (a + 38) u7))) → (M157 a 26 = M a 26 + (M (a + 36) (M a 57) - u154)) → (M a 24 ≤ M157 a 24 ∧ M157 a 24 ≤ M a 24 + 30 * (u7 - M (a + 34) (M a 57)) + 30) → (zOg M157 a og lg) → (zMa M157 a mb mp) → zK w p e 4 0 0 s m args below meth c 8 T Po 134 [.ref (w.2.1 + a), zi u4, zi u150, zi u154, zi u7, zi u155, zi ((M (a + 37) u7) + (M (a + 38) u7)), .null] [] (T, M157, J158, R) := by
            intro u154 u155 M157 J158 hI159 hK160 hK161 hK162 h163 h164 h165 h166 h167 h168 h169 h170
            refine q_iload C dX12_builds_134 (n := 136) rfl rfl ?_
            refine q_istore C [.ref (w.2.1 + a), zi u4, zi u150, zi u154, zi u7, zi u155, zi ((M (a + 37) u7) + (M (a + 38) u7)), zi u155] dX12_builds_136 (n := 138) rfl rfl rfl ?_
            have L_186 : ∀ n187 : Nat, ∀ (u172 : Int) (u173 : Int) (M175 : zMm) (J176 : zJm), zI G M175 → zMd a [9, 10, 11, 12, 13, 14, 15, 16, 17, 24, 25, 26, 28, 42] [24, 25, 26, 34, 58, 59, 60] [(18, 7), (18, 11), (18, 12), (18, 13), (18, 14)] M M175 → zMd a [9, 10, 11, 12, 13, 14, 15, 16, 17, 42] [24, 26, 34] [(18, 7), (18, 11), (18, 12), (18, 13), (18, 14)] M M175 → zMd a [42] [] [] M157 M175 → (-2147483648 ≤ u172 ∧ u172 ≤ 2147483647) → (-2147483648 ≤ u173 ∧ u173 ≤ 2147483647) → (u155 ≤ u173 ∧ u173 ≤ ((M (a + 37) u7) + (M (a + 38) u7))) → (u150 ≤ u172) → (u172 + (M (a + 36) (M a 57) - u154) ≤ u173 - M (a + 35) (M a 57)) → (((M (a + 37) u7) + (M (a + 38) u7)) - u173 + 1 ≤ (n187 : Int)) → zK w p e 4 0 0 s m args below meth c 8 T Po 138 [.ref (w.2.1 + a), zi u172, zi u150, zi u154, zi u7, .null, zi ((M (a + 37) u7) + (M (a + 38) u7)), zi u173] [] (T, M175, J176, R) := by
              intro n187
              induction n187 with
              | zero =>
                intro u172 u173 M175 J176 hI177 hK178 hK179 hK180 h181 h182 h183 h184 h185 hm189
                exfalso
                omega
              | succ n187 ih188 =>
                intro u172 u173 M175 J176 hI177 hK178 hK179 hK180 h181 h182 h183 h184 h185 hm189
                refine q_iload C dX12_builds_138 (n := 140) rfl rfl ?_
                refine q_iload C dX12_builds_140 (n := 142) rfl rfl ?_
                refine q_icmp_ge C 162 dX12_builds_142 (n := 145) rfl rfl (by omega) (fun h190 => ?_) (fun h190 => ?_)
                · refine q_iinc C [.ref (w.2.1 + a), zi u172, zi u150, zi u154, zi (u7 + 1), .null, zi ((M (a + 37) u7) + (M (a + 38) u7)), zi u173] dX12_builds_162 (n := 165) rfl rfl rfl rfl ?_
                  refine q_goto C 25 dX12_builds_165 rfl ?_
                  have hp194 : zOg M175 a og lg := h169.cg (fun j => (hK180.getA rfl rfl rfl)) (fun j => (hK180.getA rfl rfl rfl))
                  have hp195 : zMa M175 a mb mp := h170.cg (fun j j0 j1 => (hK180.getA rfl rfl rfl)) (fun j => (hK180.getA rfl rfl rfl))
                  exact zK.weak (ih28 u172 u150 u154 (u7 + 1) M175 J176 hI177 hK178 hK179 (by omega) (by omega) (by omega) (by omega) (by omega) (by omega) (by omega) (by omega) (by have hz191 : M175 a 26 = M157 a 26 := (hK180.getS rfl rfl); omega) (by have hz192 : M175 a 24 = M157 a 24 := (hK180.getS rfl rfl); have hz193 : M175 a 24 = M157 a 24 := (hK180.getS rfl rfl); omega) hp194 hp195 (by omega)) (zwk_c (zwk_c (zwk_c (zwk_c (zwk_c (zwk_n (zwk_n (zwk_n zwk_e))))))))
                · refine q_aload_n C dX12_builds_145 (n := 146) rfl rfl ?_
                  refine q_getR C dX12_builds_146 (n := 149) rfl f_X12_141 (zM0 h0) (hF _ _ _ (zM139 h0)) ?_
                  refine q_iload_n C dX12_builds_149 (n := 150) rfl rfl ?_
                  refine q_iload C dX12_builds_150 (n := 152) rfl rfl ?_
                  refine q_iast C dX12_builds_152 (n := 153) rfl (zM140 h0) (by omega)  (fun M196 e197 => ?_)
                  have hI198 : zI G M196 := hI177.put e197 ((zM141 h0) u172) rfl (by omega)
                  have hK199 := hK178.upA e197 rfl
                  have hK200 := hK179.upA e197 rfl
                  have hK201 := hK180.upA e197 rfl
                  refine q_iinc C [.ref (w.2.1 + a), zi (u172 + 1), zi u150, zi u154, zi u7, .null, zi ((M (a + 37) u7) + (M (a + 38) u7)), zi u173] dX12_builds_153 (n := 156) rfl rfl rfl rfl ?_
                  refine q_iinc C [.ref (w.2.1 + a), zi (u172 + 1), zi u150, zi u154, zi u7, .null, zi ((M (a + 37) u7) + (M (a + 38) u7)), zi (u173 + 1)] dX12_builds_156 (n := 159) rfl rfl rfl rfl ?_
                  refine q_goto C 138 dX12_builds_159 rfl ?_
                  exact zK.weak (ih188 (u172 + 1) (u173 + 1) M196 J176 hI198 hK199 hK200 hK201 (by omega) (by omega) (by omega) (by omega) (by omega) (by omega)) (zwk_c (zwk_c (zwk_c (zwk_c (zwk_c (zwk_n (zwk_c (zwk_c zwk_e))))))))
            exact zK.weak (L_186 _ u4 u155 M157 J158 hI159 hK160 hK161 (zMd.rf : zMd a [42] [] [] M157 M157) (by omega) (by omega) (by omega) (by omega) (by omega) (Int.self_le_toNat _)) (zwk_c (zwk_c (zwk_c (zwk_c (zwk_c (zwk_n (zwk_c (zwk_c zwk_e))))))))
          refine q_icmp_ne C 134 dX12_builds_80 (n := 83) rfl rfl (by omega) (fun h202 => ?_) (fun h202 => ?_)
          · exact zK.weak (J_171 u6 (M (a + 37) u7) M9 J10 hI11 hK12 hK13 (zMd.rf : zMd a [9, 10, 11, 12, 13, 14, 15, 16, 17, 42] [24, 26, 34] [(18, 7), (18, 11), (18, 12), (18, 13), (18, 14)] M9 M9) (by omega) (by omega) (by omega) (by omega) (by omega) (by omega) h24 h25) (zwk_c (zwk_c (zwk_c (zwk_c (zwk_c (zwk_c (zwk_c (zwk_n zwk_e))))))))
          · refine q_iload_n C dX12_builds_83 (n := 84) rfl rfl ?_
            refine q_iload_n C dX12_builds_84 (n := 85) rfl rfl ?_
            refine q_icmp_le C 134 dX12_builds_85 (n := 88) rfl rfl (by omega) (fun h203 => ?_) (fun h203 => ?_)
            · exact zK.weak (J_171 u6 (M (a + 37) u7) M9 J10 hI11 hK12 hK13 (zMd.rf : zMd a [9, 10, 11, 12, 13, 14, 15, 16, 17, 42] [24, 26, 34] [(18, 7), (18, 11), (18, 12), (18, 13), (18, 14)] M9 M9) (by omega) (by omega) (by omega) (by omega) (by omega) (by omega) h24 h25) (zwk_c (zwk_c (zwk_c (zwk_c (zwk_c (zwk_c (zwk_c (zwk_n zwk_e))))))))
            · refine q_iload C dX12_builds_88 (n := 90) rfl rfl ?_
              refine q_iload C dX12_builds_90 (n := 92) rfl rfl ?_
              refine q_icmp_ge C 134 dX12_builds_92 (n := 95) rfl rfl (by omega) (fun h204 => ?_) (fun h204 => ?_)
              · exact zK.weak (J_171 u6 (M (a + 37) u7) M9 J10 hI11 hK12 hK13 (zMd.rf : zMd a [9, 10, 11, 12, 13, 14, 15, 16, 17, 42] [24, 26, 34] [(18, 7), (18, 11), (18, 12), (18, 13), (18, 14)] M9 M9) (by omega) (by omega) (by omega) (by omega) (by omega) (by omega) h24 h25) (zwk_c (zwk_c (zwk_c (zwk_c (zwk_c (zwk_c (zwk_c (zwk_n zwk_e))))))))
              · refine q_aload_n C dX12_builds_95 (n := 96) rfl rfl ?_
                refine q_aload_n C dX12_builds_96 (n := 97) rfl rfl ?_
                refine q_getR C dX12_builds_97 (n := 100) rfl f_X12_141 (zM0 h0) (hF _ _ _ (zM139 h0)) ?_
                refine q_iload_n C dX12_builds_100 (n := 101) rfl rfl ?_
                refine q_iconst C dX12_builds_101 (n := 102) rfl ?_
                refine q_isub C dX12_builds_102 (n := 103) rfl (v := u4 - 1) rfl ?_
                have g205 := zI.at hI11 ((zM141 h0) (u4 - 1))
                refine q_iald C dX12_builds_103 (n := 104) rfl (zM140 h0) (by omega) (v := M9 (a + 42) (u4 - 1)) rfl ?_
                refine q_iload C dX12_builds_104 (n := 106) rfl rfl ?_
                refine q_callVi C dX12_builds_106 (n := 109) rfl m_X12_547 v_yX12_pastes (zM0 h0) ⟨by decide, rfl⟩ (c_X12_pastes (w := w) (J := J10) hI11 hF h0 (M9 (a + 42) (u4 - 1)) (M (a + 37) u7) h24 h25 (by omega) (by omega) (by omega) (by omega) (by have hz206 : M9 a 57 = M a 57 := (hK13.getS rfl rfl); omega)) (Nat.le_of_ble_eq_true rfl) rfl rfl (Nat.le_of_ble_eq_true rfl) ⟨Nat.le_refl _, Nat.le_refl _⟩ (fun x215 M211 J212  hI213 h214 => ?_)
                obtain ⟨hk216, h207, h208, h209, h210⟩ := h214
                have hK217 := hK12.tr hk216 rfl rfl rfl
                have hK218 := hK13.tr hk216 rfl rfl rfl
                have hK219 := (zMd.rf : zMd a [9, 10, 11, 12, 13, 14, 15, 16, 17, 42] [24, 26, 34] [(18, 7), (18, 11), (18, 12), (18, 13), (18, 14)] M9 M9).tr hk216 rfl rfl rfl
                refine q_if_ne C 114 dX12_builds_109 (n := 112) rfl rfl (by omega) (fun h220 => ?_) (fun h220 => ?_)
                · refine q_aload_n C dX12_builds_114 (n := 115) rfl rfl ?_
                  refine q_getR C dX12_builds_115 (n := 118) rfl f_X12_141 (zM0 h0) (hF _ _ _ (zM139 h0)) ?_
                  refine q_iload_n C dX12_builds_118 (n := 119) rfl rfl ?_
                  refine q_iconst C dX12_builds_119 (n := 120) rfl ?_
                  refine q_isub C dX12_builds_120 (n := 121) rfl (v := u4 - 1) rfl ?_
                  refine q_aload_n C dX12_builds_121 (n := 122) rfl rfl ?_
                  have g221 := zI.at hI213 (zM61 h0)
                  refine q_getI C dX12_builds_122 (n := 125) rfl f_X12_397 (zM0 h0) (v := M211 a 26) rfl ?_
                  refine q_iconst C dX12_builds_125 (n := 126) rfl ?_
                  refine q_isub C dX12_builds_126 (n := 127) rfl (v := (M211 a 26) - 1) rfl ?_
                  refine q_iast C dX12_builds_127 (n := 128) rfl (zM140 h0) (by omega)  (fun M222 e223 => ?_)
                  have hI224 : zI G M222 := hI213.put e223 ((zM141 h0) (u4 - 1)) rfl (by omega)
                  have hK225 := hK217.upA e223 rfl
                  have hK226 := hK218.upA e223 rfl
                  have hK227 := hK219.upA e223 rfl
                  refine q_iinc C [.ref (w.2.1 + a), zi u4, zi u150, zi (u6 + (-1)), zi u7, zi (M (a + 37) u7), zi ((M (a + 37) u7) + (M (a + 38) u7)), .null] dX12_builds_128 (n := 131) rfl rfl rfl rfl ?_
                  refine q_iinc C [.ref (w.2.1 + a), zi u4, zi u150, zi (u6 + (-1)), zi u7, zi ((M (a + 37) u7) + 1), zi ((M (a + 37) u7) + (M (a + 38) u7)), .null] dX12_builds_131 (n := 134) rfl rfl rfl rfl ?_
                  have hp231 : zOg M222 a og lg := h209.cg (fun j => (zup_p e223 (by omega) _)) (fun j => (zup_p e223 (by omega) _))
                  have hp232 : zMa M222 a mb mp := h210.cg (fun j j0 j1 => (zup_p e223 (by omega) _)) (fun j => (zup_p e223 (by omega) _))
                  exact zK.weak (J_171 (u6 + (-1)) ((M (a + 37) u7) + 1) M222 J212 hI224 hK225 hK226 hK227 (by omega) (by omega) (by omega) (by omega) (by have hz228 : M222 a 26 = M211 a 26 := (zup_p e223 (by omega) _); omega) (by have hz229 : M222 a 24 = M211 a 24 := (zup_p e223 (by omega) _); have hz230 : M222 a 24 = M211 a 24 := (zup_p e223 (by omega) _); omega) hp231 hp232) (zwk_c (zwk_c (zwk_c (zwk_c (zwk_c (zwk_c (zwk_c (zwk_n zwk_e))))))))
                · refine q_iconst C dX12_builds_112 (n := 113) rfl ?_
                  exact q_zret C dX12_builds_113 ⟨rfl, rfl⟩ (by omega) (by rw [hPo]; exact ⟨0, M211, J212, rfl, rfl, hI213, hK217, by omega, Or.inl (by omega), Or.inl (by omega), h209, h210, by have hz233 : M211 a 59 = M a 59 := ((hk216.getS rfl rfl).trans (hK13.getS rfl rfl)); omega⟩)
        refine q_if_ne C 72 dX12_builds_67 (n := 70) rfl rfl (by omega) (fun h234 => ?_) (fun h234 => ?_)
        · exact zK.weak (J_153 u5 (by omega) (by omega)) (zwk_c (zwk_c (zwk_c (zwk_c (zwk_c (zwk_c (zwk_c (zwk_n zwk_e))))))))
        · refine q_iload_n C dX12_builds_70 (n := 71) rfl rfl ?_
          refine q_istore_n C [.ref (w.2.1 + a), zi u4, zi u4, zi u6, zi u7, zi (M (a + 37) u7), zi ((M (a + 37) u7) + (M (a + 38) u7)), .null] dX12_builds_71 (n := 72) rfl rfl rfl ?_
          exact zK.weak (J_153 u4 (by omega) (by omega)) (zwk_c (zwk_c (zwk_c (zwk_c (zwk_c (zwk_c (zwk_c (zwk_n zwk_e))))))))
  exact zK.weak (L_26 _ 0 0 (M (a + 36) (M a 57)) (M (a + 34) (M a 57)) M J hI hK0 (zMd.rf : zMd a [9, 10, 11, 12, 13, 14, 15, 16, 17, 42] [24, 26, 34] [(18, 7), (18, 11), (18, 12), (18, 13), (18, 14)] M M) (by omega) (by omega) (by omega) (by omega) (by omega) (by omega) (by omega) (by omega) (by omega) (by omega) p2 p3 (Int.self_le_toNat _)) (zwk_c (zwk_c (zwk_c (zwk_c (zwk_c (zwk_n (zwk_n (zwk_n zwk_e))))))))
