theorem c_X12_buildsV {w : zWp} {T : zTl} {M : zMm} {J : zJm} {R : zRm'} {G : zGt} {F : zRm'} {a : Nat} {mb mp og lg : Int → Int} {n A0 v u z : Int} {wt : Int → Int} (hI : zI G M) (hF : zF F R) (h0 : zModel T F G a) (f : Int) (p1 : zX M a mb mp n A0 v u z) (p2 : zOg M a og lg) (p3 : zMa M a mb mp) (p4 : M a 57 = f) (p5 : n = f + 1) (p6 : zV M a wt 0) : zCt w 4 0 0 yX12_builds cX12_builds 8 (some .boolean) [.ref (w.2.1 + a)] (T, M, J, R) (zPi T R G (fun x M2 => (zMd a [9, 10, 11, 12, 13, 14, 15, 16, 17, 24, 25, 26, 28, 42] [24, 25, 26, 34, 58, 59, 60] [(18, 7), (18, 11), (18, 12), (18, 13), (18, 14)] M M2) ∧ (x = 0 ∨ x = 1) ∧ (x = 0 ∨ zX M2 a mb mp f (M (a + 32) f) 0 0 0) ∧ (x = 0 ∨ zMu M2 a f < zMu M a (f + 1)) ∧ (zOg M2 a og lg) ∧ (zMa M2 a mb mp) ∧ (x = 0 ∨ M2 a 59 = M (a + 32) f) ∧ (x = 0 ∨ zV M2 a wt 0))) := by
  refine zCt.of rfl (Nat.le_of_ble_eq_true rfl) ?_
  intro p e s m args below meth c C
  obtain ⟨Po, hPo⟩ : ∃ Po, Po = zPi T R G (fun x M2 => (zMd a [9, 10, 11, 12, 13, 14, 15, 16, 17, 24, 25, 26, 28, 42] [24, 25, 26, 34, 58, 59, 60] [(18, 7), (18, 11), (18, 12), (18, 13), (18, 14)] M M2) ∧ (x = 0 ∨ x = 1) ∧ (x = 0 ∨ zX M2 a mb mp f (M (a + 32) f) 0 0 0) ∧ (x = 0 ∨ zMu M2 a f < zMu M a (f + 1)) ∧ (zOg M2 a og lg) ∧ (zMa M2 a mb mp) ∧ (x = 0 ∨ M2 a 59 = M (a + 32) f) ∧ (x = 0 ∨ zV M2 a wt 0)) := ⟨_, rfl⟩
  rw [← hPo]
  subst p4
  have hK0 : zMd a [9, 10, 11, 12, 13, 14, 15, 16, 17, 24, 25, 26, 28, 42] [24, 25, 26, 34, 58, 59, 60] [(18, 7), (18, 11), (18, 12), (18, 13), (18, 14)] M M := zMd.rf
  have gk_frame := zI.at hI (zM142 h0)
  have gk_made := zI.at hI (zM60 h0)
  have gk_stretches := zI.at hI (zM143 h0)
  have gk_pooled := zI.at hI (zM59 h0)
  have gx0 := zX.num p1
  have gc := zX.clz p1 (f := M a 57) rfl (by omega)
  have gq := zX.q3 p1 (f := M a 57) (by omega) (by omega)
  have gfb := zX.fb p1 rfl
  have gp0 : M (a + 34) (M a 57) = M a 60 ∨ M (a + 35) (M a 57) ≤ M (a + 37) (M (a + 34) (M a 57)) := (Decidable.em (M (a + 34) (M a 57) < M a 60)).symm.imp (fun q => by omega) (fun q => ((zX.pcs p1 (g := M a 57) (by omega) (by omega) q).1 _ (Int.le_refl _) q).1)
  have gf1 := zX.f1 p1
  show zK w p e 4 0 0 s m args below meth c 8 T Po 0 [.ref (w.2.1 + a), .null, .null, .null, .null, .null, .null, .null] [] (T, M, J, R)
  refine q_iconst C dX12_builds_0 (n := 1) rfl ?_
  refine q_istore_n C [.ref (w.2.1 + a), zi 0, .null, .null, .null, .null, .null, .null] dX12_builds_1 (n := 2) rfl rfl rfl ?_
  refine q_iconst C dX12_builds_2 (n := 3) rfl ?_
  refine q_istore_n C [.ref (w.2.1 + a), zi 0, zi 0, .null, .null, .null, .null, .null] dX12_builds_3 (n := 4) rfl rfl rfl ?_
  refine q_aload_n C dX12_builds_4 (n := 5) rfl rfl ?_
  refine q_getR C dX12_builds_5 (n := 8) rfl f_X12_122 (zM0 h0) (hF _ _ _ (zM121 h0)) ?_
  refine q_aload_n C dX12_builds_8 (n := 9) rfl rfl ?_
  have g1 := zI.at hI (zM142 h0)
  refine q_getI C dX12_builds_9 (n := 12) rfl f_X12_448 (zM0 h0) (v := M a 57) rfl ?_
  have g2 := zI.at hI ((zM123 h0) (M a 57))
  refine q_iald C dX12_builds_12 (n := 13) rfl (zM122 h0) (by omega) (v := M (a + 36) (M a 57)) rfl ?_
  refine q_istore_n C [.ref (w.2.1 + a), zi 0, zi 0, zi (M (a + 36) (M a 57)), .null, .null, .null, .null] dX12_builds_13 (n := 14) rfl rfl rfl ?_
  refine q_aload_n C dX12_builds_14 (n := 15) rfl rfl ?_
  refine q_getR C dX12_builds_15 (n := 18) rfl f_X12_116 (zM0 h0) (hF _ _ _ (zM115 h0)) ?_
  refine q_aload_n C dX12_builds_18 (n := 19) rfl rfl ?_
  refine q_getI C dX12_builds_19 (n := 22) rfl f_X12_448 (zM0 h0) (v := M a 57) rfl ?_
  have g3 := zI.at hI ((zM117 h0) (M a 57))
  refine q_iald C dX12_builds_22 (n := 23) rfl (zM116 h0) (by omega) (v := M (a + 34) (M a 57)) rfl ?_
  refine q_istore C [.ref (w.2.1 + a), zi 0, zi 0, zi (M (a + 36) (M a 57)), zi (M (a + 34) (M a 57)), .null, .null, .null] dX12_builds_23 (n := 25) rfl rfl rfl ?_
  have L_26 : ∀ n27 : Nat, ∀ (u4 : Int) (u5 : Int) (u6 : Int) (u7 : Int) (M9 : zMm) (J10 : zJm), zI G M9 → zMd a [9, 10, 11, 12, 13, 14, 15, 16, 17, 24, 25, 26, 28, 42] [24, 25, 26, 34, 58, 59, 60] [(18, 7), (18, 11), (18, 12), (18, 13), (18, 14)] M M9 → zMd a [9, 10, 11, 12, 13, 14, 15, 16, 17, 42] [24, 26, 34] [(18, 7), (18, 11), (18, 12), (18, 13), (18, 14)] M M9 → (-2147483648 ≤ u4 ∧ u4 ≤ 2147483647) → (-2147483648 ≤ u5 ∧ u5 ≤ 2147483647) → (-2147483648 ≤ u6 ∧ u6 ≤ 2147483647) → (-2147483648 ≤ u7 ∧ u7 ≤ 2147483647) → (M (a + 34) (M a 57) ≤ u7 ∧ u7 ≤ M a 60) → (0 ≤ u5 ∧ u5 ≤ u4) → (u6 ≤ M (a + 36) (M a 57) ∧ M (a + 36) (M a 57) - u6 ≤ u7 - M (a + 34) (M a 57)) → ((u7 < M a 60 ∧ u4 + (M (a + 36) (M a 57) - u6) ≤ M (a + 37) u7 - M (a + 35) (M a 57)) ∨ (u7 = M a 60 ∧ u4 + (M (a + 36) (M a 57) - u6) ≤ M a 26 - M (a + 35) (M a 57))) → (M9 a 26 = M a 26 + (M (a + 36) (M a 57) - u6)) → (M a 24 ≤ M9 a 24 ∧ M9 a 24 ≤ M a 24 + 30 * (u7 - M (a + 34) (M a 57))) → (zOg M9 a og lg) → (zMa M9 a mb mp) → (M a 60 - u7 + 1 ≤ (n27 : Int)) → zK w p e 4 0 0 s m args below meth c 8 T Po 25 [.ref (w.2.1 + a), zi u4, zi u5, zi u6, zi u7, .null, .null, .null] [] (T, M9, J10, R) := by
    intro n27
    induction n27 with
    | zero =>
      intro u4 u5 u6 u7 M9 J10 hI11 hK12 hK13 h14 h15 h16 h17 h18 h19 h20 h21 h22 h23 h24 h25 hm29
      exfalso
      omega
    | succ n27 ih28 =>
      intro u4 u5 u6 u7 M9 J10 hI11 hK12 hK13 h14 h15 h16 h17 h18 h19 h20 h21 h22 h23 h24 h25 hm29
      refine q_iload C dX12_builds_25 (n := 27) rfl rfl ?_
      refine q_aload_n C dX12_builds_27 (n := 28) rfl rfl ?_
      have g30 := zI.at hI (zM145 h0)
      refine q_getI C dX12_builds_28 (n := 31) rfl f_X12_458 (zM0 h0) (v := M a 60) (hK13.getS rfl rfl) ?_
      refine q_icmp_ge C 168 dX12_builds_31 (n := 34) rfl rfl (by omega) (fun h31 => ?_) (fun h31 => ?_)
      · refine q_iload_n C dX12_builds_168 (n := 169) rfl rfl ?_
        refine q_bipush C dX12_builds_169 (n := 171) rfl (x := 30) (by decide) ?_
        refine q_icmp_le C 190 dX12_builds_171 (n := 174) rfl rfl (by omega) (fun h32 => ?_) (fun h32 => ?_)
        · refine q_aload_n C dX12_builds_190 (n := 191) rfl rfl ?_
          have g33 := zI.at hI (zM60 h0)
          refine q_getI C dX12_builds_191 (n := 194) rfl f_X12_394 (zM0 h0) (v := M a 25) (hK13.getS rfl rfl) ?_
          refine q_istore C [.ref (w.2.1 + a), zi u4, zi u5, zi u6, zi (M a 25), .null, .null, .null] dX12_builds_194 (n := 196) rfl rfl rfl ?_
          refine q_iconst C dX12_builds_196 (n := 197) rfl ?_
          refine q_istore C [.ref (w.2.1 + a), zi u4, zi u5, zi u6, zi (M a 25), zi 0, .null, .null] dX12_builds_197 (n := 199) rfl rfl rfl ?_
          have L_45 : ∀ n46 : Nat, ∀ (u34 : Int) (M36 : zMm) (J37 : zJm), zI G M36 → zMd a [9, 10, 11, 12, 13, 14, 15, 16, 17, 24, 25, 26, 28, 42] [24, 25, 26, 34, 58, 59, 60] [(18, 7), (18, 11), (18, 12), (18, 13), (18, 14)] M M36 → zMd a [9, 10, 11, 12, 13, 14, 15, 16] [25] [] M9 M36 → (-2147483648 ≤ u34 ∧ u34 ≤ 2147483647) → (0 ≤ u34 ∧ u34 ≤ u4) → (M36 a 25 = M a 25 + u34) → (zOg M36 a og lg) → (u4 - u34 + 1 ≤ (n46 : Int)) → zK w p e 4 0 0 s m args below meth c 8 T Po 199 [.ref (w.2.1 + a), zi u4, .null, .null, zi (M a 25), zi u34, .null, .null] [] (T, M36, J37, R) := by
            intro n46
            induction n46 with
            | zero =>
              intro u34 M36 J37 hI38 hK39 hK40 h41 h42 h43 h44 hm48
              exfalso
              omega
            | succ n46 ih47 =>
              intro u34 M36 J37 hI38 hK39 hK40 h41 h42 h43 h44 hm48
              refine q_iload C dX12_builds_199 (n := 201) rfl rfl ?_
              refine q_iload_n C dX12_builds_201 (n := 202) rfl rfl ?_
              refine q_icmp_ge C 285 dX12_builds_202 (n := 205) rfl rfl (by omega) (fun h49 => ?_) (fun h49 => ?_)
              · refine q_aload_n C dX12_builds_285 (n := 286) rfl rfl ?_
                refine q_iload C dX12_builds_286 (n := 288) rfl rfl ?_
                refine q_aload_n C dX12_builds_288 (n := 289) rfl rfl ?_
                have g50 := zI.at hI38 (zM60 h0)
                refine q_getI C dX12_builds_289 (n := 292) rfl f_X12_394 (zM0 h0) (v := M36 a 25) rfl ?_
                refine q_iconst C dX12_builds_292 (n := 293) rfl ?_
                refine q_callVv C dX12_builds_293 (n := 296) rfl m_X12_476 v_yX12_stretch (zM0 h0) ⟨by decide, rfl⟩ (c_X12_stretch (w := w) (J := J37) hI38 hF h0 (M a 25) (M36 a 25) 0 (by have hz51 : M36 a 58 = M a 58 := ((hK40.getS rfl rfl).trans (hK13.getS rfl rfl)); omega) (by omega) (by omega) (by omega)) (Nat.le_of_ble_eq_true rfl) rfl rfl (Nat.le_of_ble_eq_true rfl) ⟨Nat.le_refl _, Nat.le_refl _⟩ (fun M53 J54  hI55 h56 => ?_)
                obtain ⟨hk57, h52⟩ := h56
                have hK58 := hK39.tr hk57 rfl rfl rfl
                have hz59 : M36 a 58 = M a 58 := ((hK40.getS rfl rfl).trans (hK13.getS rfl rfl))
                rw [hz59] at h52
                obtain ⟨M61, e60⟩ : ∃ q, q = zup M36 (a + 24) (M a 58) (M a 25) := ⟨_, rfl⟩
                obtain ⟨M63, e62⟩ : ∃ q, q = zup M61 (a + 25) (M a 58) (M36 a 25) := ⟨_, rfl⟩
                obtain ⟨M65, e64⟩ : ∃ q, q = zup M63 (a + 26) (M a 58) 0 := ⟨_, rfl⟩
                have e66 : M53 = zup M65 a 58 ((M a 58) + 1) := by rw [e64]; rw [e62]; rw [e60]; exact h52
                refine q_aload_n C dX12_builds_296 (n := 297) rfl rfl ?_
                refine q_aload_n C dX12_builds_297 (n := 298) rfl rfl ?_
                refine q_getR C dX12_builds_298 (n := 301) rfl f_X12_116 (zM0 h0) (hF _ _ _ (zM115 h0)) ?_
                refine q_aload_n C dX12_builds_301 (n := 302) rfl rfl ?_
                refine q_getI C dX12_builds_302 (n := 305) rfl f_X12_448 (zM0 h0) (v := M a 57) ((zup_n e66 (by omega)).trans ((zup_p e64 (by omega) _).trans ((zup_p e62 (by omega) _).trans ((zup_p e60 (by omega) _).trans ((hK40.getS rfl rfl).trans (hK13.getS rfl rfl)))))) ?_
                refine q_iald C dX12_builds_305 (n := 306) rfl (zM116 h0) (by omega) (v := M (a + 34) (M a 57)) ((zup_p e66 (by omega) _).trans ((zup_p e64 (by omega) _).trans ((zup_p e62 (by omega) _).trans ((zup_p e60 (by omega) _).trans ((hK40.getA rfl rfl rfl).trans (hK13.getA rfl rfl rfl)))))) ?_
                refine q_putI C dX12_builds_306 (n := 309) rfl f_X12_458 (zM0 h0) ⟨rfl, rfl⟩ (fun M67 (e68 : M67 = zup M53 a 60 (M (a + 34) (M a 57))) => ?_)
                have hI69 : zI G M67 := hI55.put e68 (zM145 h0) rfl (by omega)
                have hK70 := hK58.upS e68 rfl
                refine q_aload_n C dX12_builds_309 (n := 310) rfl rfl ?_
                refine q_aload_n C dX12_builds_310 (n := 311) rfl rfl ?_
                refine q_getR C dX12_builds_311 (n := 314) rfl f_X12_119 (zM0 h0) (hF _ _ _ (zM118 h0)) ?_
                refine q_aload_n C dX12_builds_314 (n := 315) rfl rfl ?_
                refine q_getI C dX12_builds_315 (n := 318) rfl f_X12_448 (zM0 h0) (v := M a 57) ((zup_n e68 (by omega)).trans ((zup_n e66 (by omega)).trans ((zup_p e64 (by omega) _).trans ((zup_p e62 (by omega) _).trans ((zup_p e60 (by omega) _).trans ((hK40.getS rfl rfl).trans (hK13.getS rfl rfl))))))) ?_
                have g71 := zI.at hI ((zM120 h0) (M a 57))
                refine q_iald C dX12_builds_318 (n := 319) rfl (zM119 h0) (by omega) (v := M (a + 35) (M a 57)) ((zup_p e68 (by omega) _).trans ((zup_p e66 (by omega) _).trans ((zup_p e64 (by omega) _).trans ((zup_p e62 (by omega) _).trans ((zup_p e60 (by omega) _).trans ((hK40.getA rfl rfl rfl).trans (hK13.getA rfl rfl rfl))))))) ?_
                refine q_putI C dX12_builds_319 (n := 322) rfl f_X12_397 (zM0 h0) ⟨rfl, rfl⟩ (fun M72 (e73 : M72 = zup M67 a 26 (M (a + 35) (M a 57))) => ?_)
                have hI74 : zI G M72 := hI69.put e73 (zM61 h0) rfl (by omega)
                have hK75 := hK70.upS e73 rfl
                refine q_aload_n C dX12_builds_322 (n := 323) rfl rfl ?_
                refine q_aload_n C dX12_builds_323 (n := 324) rfl rfl ?_
                refine q_getR C dX12_builds_324 (n := 327) rfl f_X12_110 (zM0 h0) (hF _ _ _ (zM109 h0)) ?_
                refine q_aload_n C dX12_builds_327 (n := 328) rfl rfl ?_
                refine q_getI C dX12_builds_328 (n := 331) rfl f_X12_448 (zM0 h0) (v := M a 57) ((zup_n e73 (by omega)).trans ((zup_n e68 (by omega)).trans ((zup_n e66 (by omega)).trans ((zup_p e64 (by omega) _).trans ((zup_p e62 (by omega) _).trans ((zup_p e60 (by omega) _).trans ((hK40.getS rfl rfl).trans (hK13.getS rfl rfl)))))))) ?_
                have g76 := zI.at hI ((zM111 h0) (M a 57))
                refine q_iald C dX12_builds_331 (n := 332) rfl (zM110 h0) (by omega) (v := M (a + 32) (M a 57)) ((zup_p e73 (by omega) _).trans ((zup_p e68 (by omega) _).trans ((zup_p e66 (by omega) _).trans ((zup_p e64 (by omega) _).trans ((zup_p e62 (by omega) _).trans ((zup_p e60 (by omega) _).trans ((hK40.getA rfl rfl rfl).trans (hK13.getA rfl rfl rfl)))))))) ?_
                refine q_putI C dX12_builds_332 (n := 335) rfl f_X12_500 (zM0 h0) ⟨rfl, rfl⟩ (fun M77 (e78 : M77 = zup M72 a 59 (M (a + 32) (M a 57))) => ?_)
                have hI79 : zI G M77 := hI74.put e78 (zM144 h0) rfl (by omega)
                have hK80 := hK75.upS e78 rfl
                refine q_aload_n C dX12_builds_335 (n := 336) rfl rfl ?_
                refine q_getR C dX12_builds_336 (n := 339) rfl f_X12_98 (zM0 h0) (hF _ _ _ (zM97 h0)) ?_
                refine q_aload_n C dX12_builds_339 (n := 340) rfl rfl ?_
                refine q_getI C dX12_builds_340 (n := 343) rfl f_X12_448 (zM0 h0) (v := M a 57) ((zup_n e78 (by omega)).trans ((zup_n e73 (by omega)).trans ((zup_n e68 (by omega)).trans ((zup_n e66 (by omega)).trans ((zup_p e64 (by omega) _).trans ((zup_p e62 (by omega) _).trans ((zup_p e60 (by omega) _).trans ((hK40.getS rfl rfl).trans (hK13.getS rfl rfl))))))))) ?_
                refine q_iconst C dX12_builds_343 (n := 344) rfl ?_
                refine q_iast C dX12_builds_344 (n := 345) rfl (zM98 h0) (by omega)  (fun M81 e82 => ?_)
                have hI83 : zI G M81 := hI79.put e82 ((zM99 h0) (M a 57)) rfl (by omega)
                have hK84 := hK80.upA e82 rfl
                have hx85 : zX M81 a mb mp (M a 57) (M (a + 32) (M a 57)) 0 0 0 := zY.cgr (Y_build p1 (by omega) (k := u4) (po2 := M9 a 24) (by omega) (by omega)) ((zup_p e82 (by omega) _).trans ((zup_n e78 (by omega)).trans ((zup_n e73 (by omega)).trans ((zup_n e68 (by omega)).trans ((zup_n e66 (by omega)).trans ((zup_p e64 (by omega) _).trans ((zup_p e62 (by omega) _).trans ((zup_p e60 (by omega) _).trans ((hK40.getS rfl rfl).trans (hK13.getS rfl rfl)))))))))) ((zup_p e82 (by omega) _).trans ((zup_n e78 (by omega)).trans ((zup_n e73 (by omega)).trans ((zup_n e68 (by omega)).trans ((zup_n e66 (by omega)).trans ((zup_p e64 (by omega) _).trans ((zup_p e62 (by omega) _).trans ((zup_p e60 (by omega) _).trans ((hK40.getS rfl rfl).trans (hK13.getS rfl rfl)))))))))) (by have hw : M81 a 58 = (M a 58) + 1 := ((zup_p e82 (by omega) _).trans ((zup_n e78 (by omega)).trans ((zup_n e73 (by omega)).trans ((zup_n e68 (by omega)).trans (zup_s e66))))); omega) (by have hw : M81 a 59 = M (a + 32) (M a 57) := ((zup_p e82 (by omega) _).trans (zup_s e78)); omega) (by have hw : M81 a 60 = M (a + 34) (M a 57) := ((zup_p e82 (by omega) _).trans ((zup_n e78 (by omega)).trans ((zup_n e73 (by omega)).trans (zup_s e68)))); omega) (by have hw : M81 a 26 = M (a + 35) (M a 57) := ((zup_p e82 (by omega) _).trans ((zup_n e78 (by omega)).trans (zup_s e73))); omega) (by have hw : M81 a 25 = M36 a 25 := ((zup_p e82 (by omega) _).trans ((zup_n e78 (by omega)).trans ((zup_n e73 (by omega)).trans ((zup_n e68 (by omega)).trans ((zup_n e66 (by omega)).trans ((zup_p e64 (by omega) _).trans ((zup_p e62 (by omega) _).trans (zup_p e60 (by omega) _)))))))); omega) (by have hw : M81 a 24 = M9 a 24 := ((zup_p e82 (by omega) _).trans ((zup_n e78 (by omega)).trans ((zup_n e73 (by omega)).trans ((zup_n e68 (by omega)).trans ((zup_n e66 (by omega)).trans ((zup_p e64 (by omega) _).trans ((zup_p e62 (by omega) _).trans ((zup_p e60 (by omega) _).trans (hK40.getS rfl rfl))))))))); omega) ((zup_p e82 (by omega) _).trans ((zup_n e78 (by omega)).trans ((zup_n e73 (by omega)).trans ((zup_n e68 (by omega)).trans ((zup_n e66 (by omega)).trans ((zup_p e64 (by omega) _).trans ((zup_p e62 (by omega) _).trans ((zup_p e60 (by omega) _).trans ((hK40.getS rfl rfl).trans (hK13.getS rfl rfl)))))))))) (funext fun j => by by_cases q : j = (M a 58); (rw [q, yup_s]; have hw : M81 (a + 24) (M a 58) = M a 25 := ((zup_p e82 (by omega) _).trans ((zup_p e78 (by omega) _).trans ((zup_p e73 (by omega) _).trans ((zup_p e68 (by omega) _).trans ((zup_p e66 (by omega) _).trans ((zup_p e64 (by omega) _).trans ((zup_p e62 (by omega) _).trans (zup_e e60 (by omega))))))))); omega); (rw [yup_n q]; exact ((zup_p e82 (by omega) _).trans ((zup_p e78 (by omega) _).trans ((zup_p e73 (by omega) _).trans ((zup_p e68 (by omega) _).trans ((zup_p e66 (by omega) _).trans ((zup_p e64 (by omega) _).trans ((zup_p e62 (by omega) _).trans ((zup_n e60 (by omega)).trans ((hK40.getA rfl rfl rfl).trans (hK13.getA rfl rfl rfl)))))))))))) (funext fun j => by by_cases q : j = (M a 58); (rw [q, yup_s]; have hw : M81 (a + 25) (M a 58) = M36 a 25 := ((zup_p e82 (by omega) _).trans ((zup_p e78 (by omega) _).trans ((zup_p e73 (by omega) _).trans ((zup_p e68 (by omega) _).trans ((zup_p e66 (by omega) _).trans ((zup_p e64 (by omega) _).trans (zup_e e62 (by omega)))))))); omega); (rw [yup_n q]; exact ((zup_p e82 (by omega) _).trans ((zup_p e78 (by omega) _).trans ((zup_p e73 (by omega) _).trans ((zup_p e68 (by omega) _).trans ((zup_p e66 (by omega) _).trans ((zup_p e64 (by omega) _).trans ((zup_n e62 (by omega)).trans ((zup_p e60 (by omega) _).trans ((hK40.getA rfl rfl rfl).trans (hK13.getA rfl rfl rfl)))))))))))) (funext fun j => by by_cases q : j = (M a 58); (rw [q, yup_s]; have hw : M81 (a + 26) (M a 58) = 0 := ((zup_p e82 (by omega) _).trans ((zup_p e78 (by omega) _).trans ((zup_p e73 (by omega) _).trans ((zup_p e68 (by omega) _).trans ((zup_p e66 (by omega) _).trans (zup_e e64 (by omega))))))); omega); (rw [yup_n q]; exact ((zup_p e82 (by omega) _).trans ((zup_p e78 (by omega) _).trans ((zup_p e73 (by omega) _).trans ((zup_p e68 (by omega) _).trans ((zup_p e66 (by omega) _).trans ((zup_n e64 (by omega)).trans ((zup_p e62 (by omega) _).trans ((zup_p e60 (by omega) _).trans ((hK40.getA rfl rfl rfl).trans (hK13.getA rfl rfl rfl)))))))))))) (funext fun j => ((zup_p e82 (by omega) _).trans ((zup_p e78 (by omega) _).trans ((zup_p e73 (by omega) _).trans ((zup_p e68 (by omega) _).trans ((zup_p e66 (by omega) _).trans ((zup_p e64 (by omega) _).trans ((zup_p e62 (by omega) _).trans ((zup_p e60 (by omega) _).trans ((hK40.getA rfl rfl rfl).trans (hK13.getA rfl rfl rfl))))))))))) (funext fun j => by by_cases q : j = (M a 57); (rw [q, yup_s]; have hw : M81 (a + 28) (M a 57) = (-1) := (zup_e e82 (by omega)); omega); (rw [yup_n q]; exact ((zup_n e82 (by omega)).trans ((zup_p e78 (by omega) _).trans ((zup_p e73 (by omega) _).trans ((zup_p e68 (by omega) _).trans ((zup_p e66 (by omega) _).trans ((zup_p e64 (by omega) _).trans ((zup_p e62 (by omega) _).trans ((zup_p e60 (by omega) _).trans ((hK40.getA rfl rfl rfl).trans (hK13.getA rfl rfl rfl)))))))))))) (funext fun j => ((zup_p e82 (by omega) _).trans ((zup_p e78 (by omega) _).trans ((zup_p e73 (by omega) _).trans ((zup_p e68 (by omega) _).trans ((zup_p e66 (by omega) _).trans ((zup_p e64 (by omega) _).trans ((zup_p e62 (by omega) _).trans ((zup_p e60 (by omega) _).trans ((hK40.getA rfl rfl rfl).trans (hK13.getA rfl rfl rfl))))))))))) (funext fun j => ((zup_p e82 (by omega) _).trans ((zup_p e78 (by omega) _).trans ((zup_p e73 (by omega) _).trans ((zup_p e68 (by omega) _).trans ((zup_p e66 (by omega) _).trans ((zup_p e64 (by omega) _).trans ((zup_p e62 (by omega) _).trans ((zup_p e60 (by omega) _).trans ((hK40.getA rfl rfl rfl).trans (hK13.getA rfl rfl rfl))))))))))) (funext fun j => ((zup_p e82 (by omega) _).trans ((zup_p e78 (by omega) _).trans ((zup_p e73 (by omega) _).trans ((zup_p e68 (by omega) _).trans ((zup_p e66 (by omega) _).trans ((zup_p e64 (by omega) _).trans ((zup_p e62 (by omega) _).trans ((zup_p e60 (by omega) _).trans ((hK40.getA rfl rfl rfl).trans (hK13.getA rfl rfl rfl))))))))))) (funext fun j => ((zup_p e82 (by omega) _).trans ((zup_p e78 (by omega) _).trans ((zup_p e73 (by omega) _).trans ((zup_p e68 (by omega) _).trans ((zup_p e66 (by omega) _).trans ((zup_p e64 (by omega) _).trans ((zup_p e62 (by omega) _).trans ((zup_p e60 (by omega) _).trans ((hK40.getA rfl rfl rfl).trans (hK13.getA rfl rfl rfl))))))))))) (funext fun j => ((zup_p e82 (by omega) _).trans ((zup_p e78 (by omega) _).trans ((zup_p e73 (by omega) _).trans ((zup_p e68 (by omega) _).trans ((zup_p e66 (by omega) _).trans ((zup_p e64 (by omega) _).trans ((zup_p e62 (by omega) _).trans ((zup_p e60 (by omega) _).trans ((hK40.getA rfl rfl rfl).trans (hK13.getA rfl rfl rfl))))))))))) (funext fun j => ((zup_p e82 (by omega) _).trans ((zup_p e78 (by omega) _).trans ((zup_p e73 (by omega) _).trans ((zup_p e68 (by omega) _).trans ((zup_p e66 (by omega) _).trans ((zup_p e64 (by omega) _).trans ((zup_p e62 (by omega) _).trans ((zup_p e60 (by omega) _).trans ((hK40.getA rfl rfl rfl).trans (hK13.getA rfl rfl rfl))))))))))) (funext fun j => ((zup_p e82 (by omega) _).trans ((zup_p e78 (by omega) _).trans ((zup_p e73 (by omega) _).trans ((zup_p e68 (by omega) _).trans ((zup_p e66 (by omega) _).trans ((zup_p e64 (by omega) _).trans ((zup_p e62 (by omega) _).trans ((zup_p e60 (by omega) _).trans ((hK40.getA rfl rfl rfl).trans (hK13.getA rfl rfl rfl))))))))))) (funext fun j => ((zup_p e82 (by omega) _).trans ((zup_p e78 (by omega) _).trans ((zup_p e73 (by omega) _).trans ((zup_p e68 (by omega) _).trans ((zup_p e66 (by omega) _).trans ((zup_p e64 (by omega) _).trans ((zup_p e62 (by omega) _).trans ((zup_p e60 (by omega) _).trans ((hK40.getA rfl rfl rfl).trans (hK13.getA rfl rfl rfl)))))))))))
                have gcv := zX.cm p1 (f := M a 57) rfl
                have hv86 : zV M81 a wt 0 := zU.cgr (U_build p6 (x := M a 25) (z := (M a 25) + (u4)) (by omega) (by omega) (fun z => by omega) (by omega) (by omega)) ((zup_p e82 (by omega) _).trans ((zup_n e78 (by omega)).trans ((zup_n e73 (by omega)).trans ((zup_n e68 (by omega)).trans ((zup_n e66 (by omega)).trans ((zup_p e64 (by omega) _).trans ((zup_p e62 (by omega) _).trans ((zup_p e60 (by omega) _).trans ((hK40.getS rfl rfl).trans (hK13.getS rfl rfl)))))))))) ((zup_p e82 (by omega) _).trans ((zup_n e78 (by omega)).trans ((zup_n e73 (by omega)).trans ((zup_n e68 (by omega)).trans ((zup_n e66 (by omega)).trans ((zup_p e64 (by omega) _).trans ((zup_p e62 (by omega) _).trans ((zup_p e60 (by omega) _).trans ((hK40.getS rfl rfl).trans (hK13.getS rfl rfl)))))))))) (by have hw : M81 a 58 = (M a 58) + 1 := ((zup_p e82 (by omega) _).trans ((zup_n e78 (by omega)).trans ((zup_n e73 (by omega)).trans ((zup_n e68 (by omega)).trans (zup_s e66))))); omega) ((zup_p e82 (by omega) _).trans ((zup_n e78 (by omega)).trans ((zup_n e73 (by omega)).trans ((zup_n e68 (by omega)).trans ((zup_n e66 (by omega)).trans ((zup_p e64 (by omega) _).trans ((zup_p e62 (by omega) _).trans ((zup_p e60 (by omega) _).trans ((hK40.getS rfl rfl).trans (hK13.getS rfl rfl)))))))))) ((zup_p e82 (by omega) _).trans ((zup_n e78 (by omega)).trans ((zup_n e73 (by omega)).trans ((zup_n e68 (by omega)).trans ((zup_n e66 (by omega)).trans ((zup_p e64 (by omega) _).trans ((zup_p e62 (by omega) _).trans ((zup_p e60 (by omega) _).trans ((hK40.getS rfl rfl).trans (hK13.getS rfl rfl)))))))))) (funext fun j => by by_cases q : j = (M a 58); (rw [q, yup_s]; have hw : M81 (a + 24) (M a 58) = M a 25 := ((zup_p e82 (by omega) _).trans ((zup_p e78 (by omega) _).trans ((zup_p e73 (by omega) _).trans ((zup_p e68 (by omega) _).trans ((zup_p e66 (by omega) _).trans ((zup_p e64 (by omega) _).trans ((zup_p e62 (by omega) _).trans (zup_e e60 (by omega))))))))); omega); (rw [yup_n q]; exact ((zup_p e82 (by omega) _).trans ((zup_p e78 (by omega) _).trans ((zup_p e73 (by omega) _).trans ((zup_p e68 (by omega) _).trans ((zup_p e66 (by omega) _).trans ((zup_p e64 (by omega) _).trans ((zup_p e62 (by omega) _).trans ((zup_n e60 (by omega)).trans ((hK40.getA rfl rfl rfl).trans (hK13.getA rfl rfl rfl)))))))))))) (funext fun j => by by_cases q : j = (M a 58); (rw [q, yup_s]; have hw : M81 (a + 25) (M a 58) = M36 a 25 := ((zup_p e82 (by omega) _).trans ((zup_p e78 (by omega) _).trans ((zup_p e73 (by omega) _).trans ((zup_p e68 (by omega) _).trans ((zup_p e66 (by omega) _).trans ((zup_p e64 (by omega) _).trans (zup_e e62 (by omega)))))))); omega); (rw [yup_n q]; exact ((zup_p e82 (by omega) _).trans ((zup_p e78 (by omega) _).trans ((zup_p e73 (by omega) _).trans ((zup_p e68 (by omega) _).trans ((zup_p e66 (by omega) _).trans ((zup_p e64 (by omega) _).trans ((zup_n e62 (by omega)).trans ((zup_p e60 (by omega) _).trans ((hK40.getA rfl rfl rfl).trans (hK13.getA rfl rfl rfl)))))))))))) (funext fun j => by by_cases q : j = (M a 58); (rw [q, yup_s]; have hw : M81 (a + 26) (M a 58) = 0 := ((zup_p e82 (by omega) _).trans ((zup_p e78 (by omega) _).trans ((zup_p e73 (by omega) _).trans ((zup_p e68 (by omega) _).trans ((zup_p e66 (by omega) _).trans (zup_e e64 (by omega))))))); omega); (rw [yup_n q]; exact ((zup_p e82 (by omega) _).trans ((zup_p e78 (by omega) _).trans ((zup_p e73 (by omega) _).trans ((zup_p e68 (by omega) _).trans ((zup_p e66 (by omega) _).trans ((zup_n e64 (by omega)).trans ((zup_p e62 (by omega) _).trans ((zup_p e60 (by omega) _).trans ((hK40.getA rfl rfl rfl).trans (hK13.getA rfl rfl rfl)))))))))))) (funext fun j => ((zup_p e82 (by omega) _).trans ((zup_p e78 (by omega) _).trans ((zup_p e73 (by omega) _).trans ((zup_p e68 (by omega) _).trans ((zup_p e66 (by omega) _).trans ((zup_p e64 (by omega) _).trans ((zup_p e62 (by omega) _).trans ((zup_p e60 (by omega) _).trans ((hK40.getA rfl rfl rfl).trans (hK13.getA rfl rfl rfl))))))))))) (funext fun j => by by_cases q : j = (M a 57); (rw [q, yup_s]; have hw : M81 (a + 28) (M a 57) = (-1) := (zup_e e82 (by omega)); omega); (rw [yup_n q]; exact ((zup_n e82 (by omega)).trans ((zup_p e78 (by omega) _).trans ((zup_p e73 (by omega) _).trans ((zup_p e68 (by omega) _).trans ((zup_p e66 (by omega) _).trans ((zup_p e64 (by omega) _).trans ((zup_p e62 (by omega) _).trans ((zup_p e60 (by omega) _).trans ((hK40.getA rfl rfl rfl).trans (hK13.getA rfl rfl rfl)))))))))))) (funext fun j => ((zup_p e82 (by omega) _).trans ((zup_p e78 (by omega) _).trans ((zup_p e73 (by omega) _).trans ((zup_p e68 (by omega) _).trans ((zup_p e66 (by omega) _).trans ((zup_p e64 (by omega) _).trans ((zup_p e62 (by omega) _).trans ((zup_p e60 (by omega) _).trans ((hK40.getA rfl rfl rfl).trans (hK13.getA rfl rfl rfl)))))))))))
                refine q_iconst C dX12_builds_345 (n := 346) rfl ?_
                have hp87 : zOg M81 a og lg := h44.cg (fun j => ((zup_p e82 (by omega) _).trans ((zup_p e78 (by omega) _).trans ((zup_p e73 (by omega) _).trans ((zup_p e68 (by omega) _).trans ((zup_p e66 (by omega) _).trans ((zup_p e64 (by omega) _).trans ((zup_p e62 (by omega) _).trans (zup_p e60 (by omega) _))))))))) (fun j => ((zup_p e82 (by omega) _).trans ((zup_p e78 (by omega) _).trans ((zup_p e73 (by omega) _).trans ((zup_p e68 (by omega) _).trans ((zup_p e66 (by omega) _).trans ((zup_p e64 (by omega) _).trans ((zup_p e62 (by omega) _).trans (zup_p e60 (by omega) _)))))))))
                have hp88 : zMa M81 a mb mp := h25.cg (fun j j0 j1 => ((zup_p e82 (by omega) _).trans ((zup_p e78 (by omega) _).trans ((zup_p e73 (by omega) _).trans ((zup_p e68 (by omega) _).trans ((zup_p e66 (by omega) _).trans ((zup_p e64 (by omega) _).trans ((zup_p e62 (by omega) _).trans ((zup_p e60 (by omega) _).trans (hK40.getA rfl rfl rfl)))))))))) (fun j => ((zup_p e82 (by omega) _).trans ((zup_p e78 (by omega) _).trans ((zup_p e73 (by omega) _).trans ((zup_p e68 (by omega) _).trans ((zup_p e66 (by omega) _).trans ((zup_p e64 (by omega) _).trans ((zup_p e62 (by omega) _).trans ((zup_p e60 (by omega) _).trans (hK40.getA rfl rfl rfl))))))))))
                exact q_zret C dX12_builds_346 ⟨rfl, rfl⟩ (by omega) (by rw [hPo]; exact ⟨1, M81, J54, rfl, rfl, hI83, hK84, by omega, Or.inr hx85, Or.inr (zMu_build (x := M a 25) (k := u4) (by omega) (by omega) ((zup_p e82 (by omega) _).trans ((zup_n e78 (by omega)).trans ((zup_n e73 (by omega)).trans ((zup_n e68 (by omega)).trans ((zup_n e66 (by omega)).trans ((zup_p e64 (by omega) _).trans ((zup_p e62 (by omega) _).trans ((zup_p e60 (by omega) _).trans ((hK40.getS rfl rfl).trans (hK13.getS rfl rfl)))))))))) ((zup_p e82 (by omega) _).trans ((zup_n e78 (by omega)).trans ((zup_n e73 (by omega)).trans ((zup_n e68 (by omega)).trans ((zup_n e66 (by omega)).trans ((zup_p e64 (by omega) _).trans ((zup_p e62 (by omega) _).trans ((zup_p e60 (by omega) _).trans ((hK40.getS rfl rfl).trans (hK13.getS rfl rfl)))))))))) ((zup_p e82 (by omega) _).trans ((zup_n e78 (by omega)).trans ((zup_n e73 (by omega)).trans ((zup_n e68 (by omega)).trans (zup_s e66))))) (fun j hj => ((zup_p e82 (by omega) _).trans ((zup_p e78 (by omega) _).trans ((zup_p e73 (by omega) _).trans ((zup_p e68 (by omega) _).trans ((zup_p e66 (by omega) _).trans ((zup_p e64 (by omega) _).trans ((zup_p e62 (by omega) _).trans ((zup_n e60 (by omega)).trans ((hK40.getA rfl rfl rfl).trans (hK13.getA rfl rfl rfl))))))))))) (fun j hj => ((zup_p e82 (by omega) _).trans ((zup_p e78 (by omega) _).trans ((zup_p e73 (by omega) _).trans ((zup_p e68 (by omega) _).trans ((zup_p e66 (by omega) _).trans ((zup_p e64 (by omega) _).trans ((zup_n e62 (by omega)).trans ((zup_p e60 (by omega) _).trans ((hK40.getA rfl rfl rfl).trans (hK13.getA rfl rfl rfl))))))))))) ((zup_p e82 (by omega) _).trans ((zup_p e78 (by omega) _).trans ((zup_p e73 (by omega) _).trans ((zup_p e68 (by omega) _).trans ((zup_p e66 (by omega) _).trans ((zup_p e64 (by omega) _).trans ((zup_p e62 (by omega) _).trans (zup_s e60)))))))) (by have hw : M81 (a + 25) (M a 58) = M36 a 25 := ((zup_p e82 (by omega) _).trans ((zup_p e78 (by omega) _).trans ((zup_p e73 (by omega) _).trans ((zup_p e68 (by omega) _).trans ((zup_p e66 (by omega) _).trans ((zup_p e64 (by omega) _).trans (zup_s e62))))))); omega) (fun j => ((zup_p e82 (by omega) _).trans ((zup_p e78 (by omega) _).trans ((zup_p e73 (by omega) _).trans ((zup_p e68 (by omega) _).trans ((zup_p e66 (by omega) _).trans ((zup_p e64 (by omega) _).trans ((zup_p e62 (by omega) _).trans ((zup_p e60 (by omega) _).trans ((hK40.getA rfl rfl rfl).trans (hK13.getA rfl rfl rfl))))))))))) (by omega) (by omega)), hp87, hp88, by have hz89 : M81 a 59 = M (a + 32) (M a 57) := ((zup_p e82 (by omega) _).trans (zup_s e78)); omega, (Or.inr hv86)⟩)
              · refine q_aload_n C dX12_builds_205 (n := 206) rfl rfl ?_
                refine q_aload_n C dX12_builds_206 (n := 207) rfl rfl ?_
                refine q_getR C dX12_builds_207 (n := 210) rfl f_X12_141 (zM0 h0) (hF _ _ _ (zM139 h0)) ?_
                refine q_iload C dX12_builds_210 (n := 212) rfl rfl ?_
                have g90 := zI.at hI11 ((zM141 h0) u34)
                refine q_iald C dX12_builds_212 (n := 213) rfl (zM140 h0) (by omega) (v := M9 (a + 42) u34) (hK40.getA rfl rfl rfl) ?_
                refine q_aload_n C dX12_builds_213 (n := 214) rfl rfl ?_
                have g91 := zI.at hI38 (zM60 h0)
                refine q_getI C dX12_builds_214 (n := 217) rfl f_X12_394 (zM0 h0) (v := M36 a 25) rfl ?_
                refine q_callVv C dX12_builds_217 (n := 220) rfl m_X12_461 v_yX12_copies (zM0 h0) ⟨by decide, rfl⟩ (c_X12_copies (w := w) (J := J37) hI38 hF h0 (M9 (a + 42) u34) (M36 a 25) h44 (by omega) (by omega) (by omega)) (Nat.le_of_ble_eq_true rfl) rfl rfl (Nat.le_of_ble_eq_true rfl) ⟨Nat.le_refl _, Nat.le_refl _⟩ (fun M93 J94  hI95 h96 => ?_)
                obtain ⟨hk97, h92⟩ := h96
                have hK98 := hK39.tr hk97 rfl rfl rfl
                have hK99 := hK40.tr hk97 rfl rfl rfl
                refine q_aload_n C dX12_builds_220 (n := 221) rfl rfl ?_
                refine q_getR C dX12_builds_221 (n := 224) rfl f_X12_58 (zM0 h0) (hF _ _ _ (zM49 h0)) ?_
                refine q_aload_n C dX12_builds_224 (n := 225) rfl rfl ?_
                refine q_getI C dX12_builds_225 (n := 228) rfl f_X12_394 (zM0 h0) (v := M36 a 25) (hk97.getS rfl rfl) ?_
                refine q_dup2 C dX12_builds_228 (n := 229) rfl ⟨rfl, rfl⟩ ?_
                have g100 := zI.at hI95 ((zM51 h0) (M36 a 25))
                refine q_iald C dX12_builds_229 (n := 230) rfl (zM50 h0) (by omega) (v := M93 (a + 15) (M36 a 25)) rfl ?_
                refine q_aload_n C dX12_builds_230 (n := 231) rfl rfl ?_
                refine q_getR C dX12_builds_231 (n := 234) rfl f_X12_104 (zM0 h0) (hF _ _ _ (zM103 h0)) ?_
                refine q_aload_n C dX12_builds_234 (n := 235) rfl rfl ?_
                refine q_getI C dX12_builds_235 (n := 238) rfl f_X12_448 (zM0 h0) (v := M a 57) ((hk97.getS rfl rfl).trans ((hK40.getS rfl rfl).trans (hK13.getS rfl rfl))) ?_
                have g101 := zI.at hI ((zM105 h0) (M a 57))
                refine q_iald C dX12_builds_238 (n := 239) rfl (zM104 h0) (by omega) (v := M (a + 30) (M a 57)) ((hk97.getA rfl rfl rfl).trans ((hK40.getA rfl rfl rfl).trans (hK13.getA rfl rfl rfl))) ?_
                refine q_ior C dX12_builds_239 (n := 240) rfl (v := zor (M93 (a + 15) (M36 a 25)) (M (a + 30) (M a 57))) rfl ?_
                have g102 := zr_or (M93 (a + 15) (M36 a 25)) (M (a + 30) (M a 57))
                have g103 : zand (M93 (a + 15) (M36 a 25)) 31 = 0 → zand (zor (M93 (a + 15) (M36 a 25)) (M (a + 30) (M a 57))) 31 = zand (M (a + 30) (M a 57)) 31 := fun h => zl_or h
                refine q_iast C dX12_builds_240 (n := 241) rfl (zM50 h0) (by omega)  (fun M104 e105 => ?_)
                have hI106 : zI G M104 := hI95.put e105 ((zM51 h0) (M36 a 25)) rfl (by omega)
                have hK107 := hK98.upA e105 rfl
                have hK108 := hK99.upA e105 rfl
                refine q_iload C dX12_builds_241 (n := 243) rfl rfl ?_
                have J_116 : ∀ (M110 : zMm) (J111 : zJm), zI G M110 → zMd a [9, 10, 11, 12, 13, 14, 15, 16, 17, 24, 25, 26, 28, 42] [24, 25, 26, 34, 58, 59, 60] [(18, 7), (18, 11), (18, 12), (18, 13), (18, 14)] M M110 → zMd a [9, 10, 11, 12, 13, 14, 15, 16] [25] [] M9 M110 → zMd a [16] [] [] M104 M110 → zK w p e 4 0 0 s m args below meth c 8 T Po 269 [.ref (w.2.1 + a), zi u4, .null, .null, zi (M a 25), zi u34, .null, .null] [] (T, M110, J111, R) := by
                  intro M110 J111 hI112 hK113 hK114 hK115
                  refine q_aload_n C dX12_builds_269 (n := 270) rfl rfl ?_
                  refine q_dup C dX12_builds_270 (n := 271) rfl rfl ?_
                  refine q_getI C dX12_builds_271 (n := 274) rfl f_X12_394 (zM0 h0) (v := M36 a 25) ((hK115.getS rfl rfl).trans ((zup_p e105 (by omega) _).trans (hk97.getS rfl rfl))) ?_
                  refine q_iconst C dX12_builds_274 (n := 275) rfl ?_
                  refine q_iadd C dX12_builds_275 (n := 276) rfl (v := (M36 a 25) + 1) rfl ?_
                  refine q_putI C dX12_builds_276 (n := 279) rfl f_X12_394 (zM0 h0) ⟨rfl, rfl⟩ (fun M117 (e118 : M117 = zup M110 a 25 ((M36 a 25) + 1)) => ?_)
                  have hI119 : zI G M117 := hI112.put e118 (zM60 h0) rfl (by omega)
                  have hK120 := hK113.upS e118 rfl
                  have hK121 := hK114.upS e118 rfl
                  refine q_iinc C [.ref (w.2.1 + a), zi u4, .null, .null, zi (M a 25), zi (u34 + 1), .null, .null] dX12_builds_279 (n := 282) rfl rfl rfl rfl ?_
                  refine q_goto C 199 dX12_builds_282 rfl ?_
                  have hp123 : zOg M117 a og lg := h92.cg (fun j => ((zup_p e118 (by omega) _).trans ((hK115.getA rfl rfl rfl).trans (zup_p e105 (by omega) _)))) (fun j => ((zup_p e118 (by omega) _).trans ((hK115.getA rfl rfl rfl).trans (zup_p e105 (by omega) _))))
                  exact zK.weak (ih47 (u34 + 1) M117 J111 hI119 hK120 hK121 (by omega) (by omega) (by have hz122 : M117 a 25 = (M36 a 25) + 1 := (zup_s e118); omega) hp123 (by omega)) (zwk_c (zwk_c (zwk_n (zwk_n (zwk_c (zwk_c (zwk_n (zwk_n zwk_e))))))))
                refine q_if_ne C 269 dX12_builds_243 (n := 246) rfl rfl (by omega) (fun h124 => ?_) (fun h124 => ?_)
                · exact zK.weak (J_116 M104 J94 hI106 hK107 hK108 (zMd.rf : zMd a [16] [] [] M104 M104)) (zwk_c (zwk_c (zwk_n (zwk_n (zwk_c (zwk_c (zwk_n (zwk_n zwk_e))))))))
                · refine q_aload_n C dX12_builds_246 (n := 247) rfl rfl ?_
                  refine q_getR C dX12_builds_247 (n := 250) rfl f_X12_61 (zM0 h0) (hF _ _ _ (zM52 h0)) ?_
                  refine q_aload_n C dX12_builds_250 (n := 251) rfl rfl ?_
                  refine q_getI C dX12_builds_251 (n := 254) rfl f_X12_394 (zM0 h0) (v := M36 a 25) ((zup_p e105 (by omega) _).trans (hk97.getS rfl rfl)) ?_
                  refine q_aload_n C dX12_builds_254 (n := 255) rfl rfl ?_
                  refine q_getR C dX12_builds_255 (n := 258) rfl f_X12_61 (zM0 h0) (hF _ _ _ (zM52 h0)) ?_
                  refine q_aload_n C dX12_builds_258 (n := 259) rfl rfl ?_
                  refine q_getR C dX12_builds_259 (n := 262) rfl f_X12_101 (zM0 h0) (hF _ _ _ (zM100 h0)) ?_
                  refine q_aload_n C dX12_builds_262 (n := 263) rfl rfl ?_
                  refine q_getI C dX12_builds_263 (n := 266) rfl f_X12_448 (zM0 h0) (v := M a 57) ((zup_p e105 (by omega) _).trans ((hk97.getS rfl rfl).trans ((hK40.getS rfl rfl).trans (hK13.getS rfl rfl)))) ?_
                  have g125 := zI.at hI ((zM102 h0) (M a 57))
                  refine q_iald C dX12_builds_266 (n := 267) rfl (zM101 h0) (by omega) (v := M (a + 29) (M a 57)) ((zup_p e105 (by omega) _).trans ((hk97.getA rfl rfl rfl).trans ((hK40.getA rfl rfl rfl).trans (hK13.getA rfl rfl rfl)))) ?_
                  have g126 := zI.at hI95 ((zM54 h0) (M (a + 29) (M a 57)))
                  refine q_iald C dX12_builds_267 (n := 268) rfl (zM53 h0) (by omega) (v := M93 (a + 16) (M (a + 29) (M a 57))) (zup_p e105 (by omega) _) ?_
                  refine q_iast C dX12_builds_268 (n := 269) rfl (zM53 h0) (by omega)  (fun M127 e128 => ?_)
                  have hI129 : zI G M127 := hI106.put e128 ((zM54 h0) (M36 a 25)) rfl (by omega)
                  have hK130 := hK107.upA e128 rfl
                  have hK131 := hK108.upA e128 rfl
                  have hK132 := (zMd.rf : zMd a [16] [] [] M104 M104).upA e128 rfl
                  exact zK.weak (J_116 M127 J94 hI129 hK130 hK131 hK132) (zwk_c (zwk_c (zwk_n (zwk_n (zwk_c (zwk_c (zwk_n (zwk_n zwk_e))))))))
          exact zK.weak (L_45 _ 0 M9 J10 hI11 hK12 (zMd.rf : zMd a [9, 10, 11, 12, 13, 14, 15, 16] [25] [] M9 M9) (by omega) (by omega) (by have hz133 : M9 a 25 = M a 25 := (hK13.getS rfl rfl); omega) h24 (Int.self_le_toNat _)) (zwk_c (zwk_c (zwk_n (zwk_n (zwk_c (zwk_c (zwk_n (zwk_n zwk_e))))))))
        · refine q_aload_n C dX12_builds_174 (n := 175) rfl rfl ?_
          refine q_bipush C dX12_builds_175 (n := 177) rfl (x := 7) (by decide) ?_
          refine q_aload_n C dX12_builds_177 (n := 178) rfl rfl ?_
          refine q_getR C dX12_builds_178 (n := 181) rfl f_X12_101 (zM0 h0) (hF _ _ _ (zM100 h0)) ?_
          refine q_aload_n C dX12_builds_181 (n := 182) rfl rfl ?_
          refine q_getI C dX12_builds_182 (n := 185) rfl f_X12_448 (zM0 h0) (v := M a 57) (hK13.getS rfl rfl) ?_
          have g134 := zI.at hI ((zM102 h0) (M a 57))
          refine q_iald C dX12_builds_185 (n := 186) rfl (zM101 h0) (by omega) (v := M (a + 29) (M a 57)) (hK13.getA rfl rfl rfl) ?_
          refine q_callVi C dX12_builds_186 (n := 189) rfl m_X12_376 v_yX12_badAt (zM0 h0) ⟨by decide, rfl⟩ (c_X12_badAt (w := w) (J := J10) hI11 hF h0 7 (M (a + 29) (M a 57)) (by omega) (by omega)) (Nat.le_of_ble_eq_true rfl) rfl rfl (Nat.le_of_ble_eq_true rfl) ⟨Nat.le_refl _, Nat.le_refl _⟩ (fun x141 M137 J138  hI139 h140 => ?_)
          obtain ⟨hk142, h135, h136⟩ := h140
          have hK143 := hK12.tr hk142 rfl rfl rfl
          have hK144 := hK13.tr hk142 rfl rfl rfl
          have hp145 : zOg M137 a og lg := h24.cg (fun j => (hk142.getA rfl rfl rfl)) (fun j => (hk142.getA rfl rfl rfl))
          have hp146 : zMa M137 a mb mp := h25.cg (fun j j0 j1 => (hk142.getW rfl rfl (by omega))) (fun j => (hk142.getA rfl rfl rfl))
          exact q_zret C dX12_builds_189 ⟨rfl, rfl⟩ (by omega) (by rw [hPo]; exact ⟨x141, M137, J138, rfl, rfl, hI139, hK143, by omega, Or.inl (by omega), Or.inl (by omega), hp145, hp146, by have hz147 : M137 a 59 = M a 59 := ((hk142.getS rfl rfl).trans (hK13.getS rfl rfl)); omega, (Or.inl (by omega))⟩)
      · have gp := (zX.pcs p1 (g := M a 57) (by omega) (by omega) (by omega)).1 u7 (by omega) (by omega)
        have gt0 := (zX.pcs p1 (g := M a 57) (by omega) (by omega) (by omega)).2
        have gch : u7 + 1 = M a 60 ∨ M (a + 37) u7 + M (a + 38) u7 ≤ M (a + 37) (u7 + 1) := (Decidable.em (u7 + 1 < M a 60)).symm.imp (fun q => by omega) (fun q => zX.ch p1 (by omega) q)
        refine q_aload_n C dX12_builds_34 (n := 35) rfl rfl ?_
        refine q_getR C dX12_builds_35 (n := 38) rfl f_X12_125 (zM0 h0) (hF _ _ _ (zM124 h0)) ?_
        refine q_iload C dX12_builds_38 (n := 40) rfl rfl ?_
        have g148 := zI.at hI ((zM126 h0) u7)
        refine q_iald C dX12_builds_40 (n := 41) rfl (zM125 h0) (by omega) (v := M (a + 37) u7) (hK13.getA rfl rfl rfl) ?_
        refine q_istore C [.ref (w.2.1 + a), zi u4, zi u5, zi u6, zi u7, zi (M (a + 37) u7), .null, .null] dX12_builds_41 (n := 43) rfl rfl rfl ?_
        refine q_aload_n C dX12_builds_43 (n := 44) rfl rfl ?_
        refine q_getR C dX12_builds_44 (n := 47) rfl f_X12_125 (zM0 h0) (hF _ _ _ (zM124 h0)) ?_
        refine q_iload C dX12_builds_47 (n := 49) rfl rfl ?_
        refine q_iald C dX12_builds_49 (n := 50) rfl (zM125 h0) (by omega) (v := M (a + 37) u7) (hK13.getA rfl rfl rfl) ?_
        refine q_aload_n C dX12_builds_50 (n := 51) rfl rfl ?_
        refine q_getR C dX12_builds_51 (n := 54) rfl f_X12_128 (zM0 h0) (hF _ _ _ (zM127 h0)) ?_
        refine q_iload C dX12_builds_54 (n := 56) rfl rfl ?_
        have g149 := zI.at hI ((zM129 h0) u7)
        refine q_iald C dX12_builds_56 (n := 57) rfl (zM128 h0) (by omega) (v := M (a + 38) u7) (hK13.getA rfl rfl rfl) ?_
        refine q_iadd C dX12_builds_57 (n := 58) rfl (v := (M (a + 37) u7) + (M (a + 38) u7)) rfl ?_
        refine q_istore C [.ref (w.2.1 + a), zi u4, zi u5, zi u6, zi u7, zi (M (a + 37) u7), zi ((M (a + 37) u7) + (M (a + 38) u7)), .null] dX12_builds_58 (n := 60) rfl rfl rfl ?_
        refine q_aload_n C dX12_builds_60 (n := 61) rfl rfl ?_
        refine q_getR C dX12_builds_61 (n := 64) rfl f_X12_131 (zM0 h0) (hF _ _ _ (zM130 h0)) ?_
        refine q_iload C dX12_builds_64 (n := 66) rfl rfl ?_
        have g150 := zI.at hI ((zM132 h0) u7)
        refine q_iald C dX12_builds_66 (n := 67) rfl (zM131 h0) (by omega) (v := M (a + 39) u7) (hK13.getA rfl rfl rfl) ?_
        have J_154 : ∀ (u151 : Int), (-2147483648 ≤ u151 ∧ u151 ≤ 2147483647) → (0 ≤ u151 ∧ u151 ≤ u4) → zK w p e 4 0 0 s m args below meth c 8 T Po 72 [.ref (w.2.1 + a), zi u4, zi u151, zi u6, zi u7, zi (M (a + 37) u7), zi ((M (a + 37) u7) + (M (a + 38) u7)), .null] [] (T, M9, J10, R) := by
          intro u151 h152 h153
          refine q_aload_n C dX12_builds_72 (n := 73) rfl rfl ?_
          refine q_getR C dX12_builds_73 (n := 76) rfl f_X12_131 (zM0 h0) (hF _ _ _ (zM130 h0)) ?_
          refine q_iload C dX12_builds_76 (n := 78) rfl rfl ?_
          refine q_iald C dX12_builds_78 (n := 79) rfl (zM131 h0) (by omega) (v := M (a + 39) u7) (hK13.getA rfl rfl rfl) ?_
          refine q_iconst C dX12_builds_79 (n := 80) rfl ?_
          have J_172 : ∀ (u155 : Int) (u156 : Int) (M158 : zMm) (J159 : zJm), zI G M158 → zMd a [9, 10, 11, 12, 13, 14, 15, 16, 17, 24, 25, 26, 28, 42] [24, 25, 26, 34, 58, 59, 60] [(18, 7), (18, 11), (18, 12), (18, 13), (18, 14)] M M158 → zMd a [9, 10, 11, 12, 13, 14, 15, 16, 17, 42] [24, 26, 34] [(18, 7), (18, 11), (18, 12), (18, 13), (18, 14)] M M158 → zMd a [9, 10, 11, 12, 13, 14, 15, 16, 17, 42] [24, 26, 34] [(18, 7), (18, 11), (18, 12), (18, 13), (18, 14)] M9 M158 → (-2147483648 ≤ u155 ∧ u155 ≤ 2147483647) → (-2147483648 ≤ u156 ∧ u156 ≤ 2147483647) → ((u155 = u6 ∧ u156 = (M (a + 37) u7)) ∨ (u155 = u6 - 1 ∧ u156 = (M (a + 37) u7) + 1)) → (u156 ≤ ((M (a + 37) u7) + (M (a + 38) u7))) → (M158 a 26 = M a 26 + (M (a + 36) (M a 57) - u155)) → (M a 24 ≤ M158 a 24 ∧ M158 a 24 ≤ M a 24 + 30 * (u7 - M (a + 34) (M a 57)) + 30) → (zOg M158 a og lg) → (zMa M158 a mb mp) → zK w p e 4 0 0 s m args below meth c 8 T Po 134 [.ref (w.2.1 + a), zi u4, zi u151, zi u155, zi u7, zi u156, zi ((M (a + 37) u7) + (M (a + 38) u7)), .null] [] (T, M158, J159, R) := by
            intro u155 u156 M158 J159 hI160 hK161 hK162 hK163 h164 h165 h166 h167 h168 h169 h170 h171
            refine q_iload C dX12_builds_134 (n := 136) rfl rfl ?_
            refine q_istore C [.ref (w.2.1 + a), zi u4, zi u151, zi u155, zi u7, zi u156, zi ((M (a + 37) u7) + (M (a + 38) u7)), zi u156] dX12_builds_136 (n := 138) rfl rfl rfl ?_
            have L_187 : ∀ n188 : Nat, ∀ (u173 : Int) (u174 : Int) (M176 : zMm) (J177 : zJm), zI G M176 → zMd a [9, 10, 11, 12, 13, 14, 15, 16, 17, 24, 25, 26, 28, 42] [24, 25, 26, 34, 58, 59, 60] [(18, 7), (18, 11), (18, 12), (18, 13), (18, 14)] M M176 → zMd a [9, 10, 11, 12, 13, 14, 15, 16, 17, 42] [24, 26, 34] [(18, 7), (18, 11), (18, 12), (18, 13), (18, 14)] M M176 → zMd a [42] [] [] M158 M176 → (-2147483648 ≤ u173 ∧ u173 ≤ 2147483647) → (-2147483648 ≤ u174 ∧ u174 ≤ 2147483647) → (u156 ≤ u174 ∧ u174 ≤ ((M (a + 37) u7) + (M (a + 38) u7))) → (u151 ≤ u173) → (u173 + (M (a + 36) (M a 57) - u155) ≤ u174 - M (a + 35) (M a 57)) → (((M (a + 37) u7) + (M (a + 38) u7)) - u174 + 1 ≤ (n188 : Int)) → zK w p e 4 0 0 s m args below meth c 8 T Po 138 [.ref (w.2.1 + a), zi u173, zi u151, zi u155, zi u7, .null, zi ((M (a + 37) u7) + (M (a + 38) u7)), zi u174] [] (T, M176, J177, R) := by
              intro n188
              induction n188 with
              | zero =>
                intro u173 u174 M176 J177 hI178 hK179 hK180 hK181 h182 h183 h184 h185 h186 hm190
                exfalso
                omega
              | succ n188 ih189 =>
                intro u173 u174 M176 J177 hI178 hK179 hK180 hK181 h182 h183 h184 h185 h186 hm190
                refine q_iload C dX12_builds_138 (n := 140) rfl rfl ?_
                refine q_iload C dX12_builds_140 (n := 142) rfl rfl ?_
                refine q_icmp_ge C 162 dX12_builds_142 (n := 145) rfl rfl (by omega) (fun h191 => ?_) (fun h191 => ?_)
                · refine q_iinc C [.ref (w.2.1 + a), zi u173, zi u151, zi u155, zi (u7 + 1), .null, zi ((M (a + 37) u7) + (M (a + 38) u7)), zi u174] dX12_builds_162 (n := 165) rfl rfl rfl rfl ?_
                  refine q_goto C 25 dX12_builds_165 rfl ?_
                  have hp195 : zOg M176 a og lg := h170.cg (fun j => (hK181.getA rfl rfl rfl)) (fun j => (hK181.getA rfl rfl rfl))
                  have hp196 : zMa M176 a mb mp := h171.cg (fun j j0 j1 => (hK181.getA rfl rfl rfl)) (fun j => (hK181.getA rfl rfl rfl))
                  exact zK.weak (ih28 u173 u151 u155 (u7 + 1) M176 J177 hI178 hK179 hK180 (by omega) (by omega) (by omega) (by omega) (by omega) (by omega) (by omega) (by omega) (by have hz192 : M176 a 26 = M158 a 26 := (hK181.getS rfl rfl); omega) (by have hz193 : M176 a 24 = M158 a 24 := (hK181.getS rfl rfl); have hz194 : M176 a 24 = M158 a 24 := (hK181.getS rfl rfl); omega) hp195 hp196 (by omega)) (zwk_c (zwk_c (zwk_c (zwk_c (zwk_c (zwk_n (zwk_n (zwk_n zwk_e))))))))
                · refine q_aload_n C dX12_builds_145 (n := 146) rfl rfl ?_
                  refine q_getR C dX12_builds_146 (n := 149) rfl f_X12_141 (zM0 h0) (hF _ _ _ (zM139 h0)) ?_
                  refine q_iload_n C dX12_builds_149 (n := 150) rfl rfl ?_
                  refine q_iload C dX12_builds_150 (n := 152) rfl rfl ?_
                  refine q_iast C dX12_builds_152 (n := 153) rfl (zM140 h0) (by omega)  (fun M197 e198 => ?_)
                  have hI199 : zI G M197 := hI178.put e198 ((zM141 h0) u173) rfl (by omega)
                  have hK200 := hK179.upA e198 rfl
                  have hK201 := hK180.upA e198 rfl
                  have hK202 := hK181.upA e198 rfl
                  refine q_iinc C [.ref (w.2.1 + a), zi (u173 + 1), zi u151, zi u155, zi u7, .null, zi ((M (a + 37) u7) + (M (a + 38) u7)), zi u174] dX12_builds_153 (n := 156) rfl rfl rfl rfl ?_
                  refine q_iinc C [.ref (w.2.1 + a), zi (u173 + 1), zi u151, zi u155, zi u7, .null, zi ((M (a + 37) u7) + (M (a + 38) u7)), zi (u174 + 1)] dX12_builds_156 (n := 159) rfl rfl rfl rfl ?_
                  refine q_goto C 138 dX12_builds_159 rfl ?_
                  exact zK.weak (ih189 (u173 + 1) (u174 + 1) M197 J177 hI199 hK200 hK201 hK202 (by omega) (by omega) (by omega) (by omega) (by omega) (by omega)) (zwk_c (zwk_c (zwk_c (zwk_c (zwk_c (zwk_n (zwk_c (zwk_c zwk_e))))))))
            exact zK.weak (L_187 _ u4 u156 M158 J159 hI160 hK161 hK162 (zMd.rf : zMd a [42] [] [] M158 M158) (by omega) (by omega) (by omega) (by omega) (by omega) (Int.self_le_toNat _)) (zwk_c (zwk_c (zwk_c (zwk_c (zwk_c (zwk_n (zwk_c (zwk_c zwk_e))))))))
          refine q_icmp_ne C 134 dX12_builds_80 (n := 83) rfl rfl (by omega) (fun h203 => ?_) (fun h203 => ?_)
          · exact zK.weak (J_172 u6 (M (a + 37) u7) M9 J10 hI11 hK12 hK13 (zMd.rf : zMd a [9, 10, 11, 12, 13, 14, 15, 16, 17, 42] [24, 26, 34] [(18, 7), (18, 11), (18, 12), (18, 13), (18, 14)] M9 M9) (by omega) (by omega) (by omega) (by omega) (by omega) (by omega) h24 h25) (zwk_c (zwk_c (zwk_c (zwk_c (zwk_c (zwk_c (zwk_c (zwk_n zwk_e))))))))
          · refine q_iload_n C dX12_builds_83 (n := 84) rfl rfl ?_
            refine q_iload_n C dX12_builds_84 (n := 85) rfl rfl ?_
            refine q_icmp_le C 134 dX12_builds_85 (n := 88) rfl rfl (by omega) (fun h204 => ?_) (fun h204 => ?_)
            · exact zK.weak (J_172 u6 (M (a + 37) u7) M9 J10 hI11 hK12 hK13 (zMd.rf : zMd a [9, 10, 11, 12, 13, 14, 15, 16, 17, 42] [24, 26, 34] [(18, 7), (18, 11), (18, 12), (18, 13), (18, 14)] M9 M9) (by omega) (by omega) (by omega) (by omega) (by omega) (by omega) h24 h25) (zwk_c (zwk_c (zwk_c (zwk_c (zwk_c (zwk_c (zwk_c (zwk_n zwk_e))))))))
            · refine q_iload C dX12_builds_88 (n := 90) rfl rfl ?_
              refine q_iload C dX12_builds_90 (n := 92) rfl rfl ?_
              refine q_icmp_ge C 134 dX12_builds_92 (n := 95) rfl rfl (by omega) (fun h205 => ?_) (fun h205 => ?_)
              · exact zK.weak (J_172 u6 (M (a + 37) u7) M9 J10 hI11 hK12 hK13 (zMd.rf : zMd a [9, 10, 11, 12, 13, 14, 15, 16, 17, 42] [24, 26, 34] [(18, 7), (18, 11), (18, 12), (18, 13), (18, 14)] M9 M9) (by omega) (by omega) (by omega) (by omega) (by omega) (by omega) h24 h25) (zwk_c (zwk_c (zwk_c (zwk_c (zwk_c (zwk_c (zwk_c (zwk_n zwk_e))))))))
              · refine q_aload_n C dX12_builds_95 (n := 96) rfl rfl ?_
                refine q_aload_n C dX12_builds_96 (n := 97) rfl rfl ?_
                refine q_getR C dX12_builds_97 (n := 100) rfl f_X12_141 (zM0 h0) (hF _ _ _ (zM139 h0)) ?_
                refine q_iload_n C dX12_builds_100 (n := 101) rfl rfl ?_
                refine q_iconst C dX12_builds_101 (n := 102) rfl ?_
                refine q_isub C dX12_builds_102 (n := 103) rfl (v := u4 - 1) rfl ?_
                have g206 := zI.at hI11 ((zM141 h0) (u4 - 1))
                refine q_iald C dX12_builds_103 (n := 104) rfl (zM140 h0) (by omega) (v := M9 (a + 42) (u4 - 1)) rfl ?_
                refine q_iload C dX12_builds_104 (n := 106) rfl rfl ?_
                refine q_callVi C dX12_builds_106 (n := 109) rfl m_X12_547 v_yX12_pastes (zM0 h0) ⟨by decide, rfl⟩ (c_X12_pastes (w := w) (J := J10) hI11 hF h0 (M9 (a + 42) (u4 - 1)) (M (a + 37) u7) h24 h25 (by omega) (by omega) (by omega) (by omega) (by have hz207 : M9 a 57 = M a 57 := (hK13.getS rfl rfl); omega)) (Nat.le_of_ble_eq_true rfl) rfl rfl (Nat.le_of_ble_eq_true rfl) ⟨Nat.le_refl _, Nat.le_refl _⟩ (fun x216 M212 J213  hI214 h215 => ?_)
                obtain ⟨hk217, h208, h209, h210, h211⟩ := h215
                have hK218 := hK12.tr hk217 rfl rfl rfl
                have hK219 := hK13.tr hk217 rfl rfl rfl
                have hK220 := (zMd.rf : zMd a [9, 10, 11, 12, 13, 14, 15, 16, 17, 42] [24, 26, 34] [(18, 7), (18, 11), (18, 12), (18, 13), (18, 14)] M9 M9).tr hk217 rfl rfl rfl
                refine q_if_ne C 114 dX12_builds_109 (n := 112) rfl rfl (by omega) (fun h221 => ?_) (fun h221 => ?_)
                · refine q_aload_n C dX12_builds_114 (n := 115) rfl rfl ?_
                  refine q_getR C dX12_builds_115 (n := 118) rfl f_X12_141 (zM0 h0) (hF _ _ _ (zM139 h0)) ?_
                  refine q_iload_n C dX12_builds_118 (n := 119) rfl rfl ?_
                  refine q_iconst C dX12_builds_119 (n := 120) rfl ?_
                  refine q_isub C dX12_builds_120 (n := 121) rfl (v := u4 - 1) rfl ?_
                  refine q_aload_n C dX12_builds_121 (n := 122) rfl rfl ?_
                  have g222 := zI.at hI214 (zM61 h0)
                  refine q_getI C dX12_builds_122 (n := 125) rfl f_X12_397 (zM0 h0) (v := M212 a 26) rfl ?_
                  refine q_iconst C dX12_builds_125 (n := 126) rfl ?_
                  refine q_isub C dX12_builds_126 (n := 127) rfl (v := (M212 a 26) - 1) rfl ?_
                  refine q_iast C dX12_builds_127 (n := 128) rfl (zM140 h0) (by omega)  (fun M223 e224 => ?_)
                  have hI225 : zI G M223 := hI214.put e224 ((zM141 h0) (u4 - 1)) rfl (by omega)
                  have hK226 := hK218.upA e224 rfl
                  have hK227 := hK219.upA e224 rfl
                  have hK228 := hK220.upA e224 rfl
                  refine q_iinc C [.ref (w.2.1 + a), zi u4, zi u151, zi (u6 + (-1)), zi u7, zi (M (a + 37) u7), zi ((M (a + 37) u7) + (M (a + 38) u7)), .null] dX12_builds_128 (n := 131) rfl rfl rfl rfl ?_
                  refine q_iinc C [.ref (w.2.1 + a), zi u4, zi u151, zi (u6 + (-1)), zi u7, zi ((M (a + 37) u7) + 1), zi ((M (a + 37) u7) + (M (a + 38) u7)), .null] dX12_builds_131 (n := 134) rfl rfl rfl rfl ?_
                  have hp232 : zOg M223 a og lg := h210.cg (fun j => (zup_p e224 (by omega) _)) (fun j => (zup_p e224 (by omega) _))
                  have hp233 : zMa M223 a mb mp := h211.cg (fun j j0 j1 => (zup_p e224 (by omega) _)) (fun j => (zup_p e224 (by omega) _))
                  exact zK.weak (J_172 (u6 + (-1)) ((M (a + 37) u7) + 1) M223 J213 hI225 hK226 hK227 hK228 (by omega) (by omega) (by omega) (by omega) (by have hz229 : M223 a 26 = M212 a 26 := (zup_p e224 (by omega) _); omega) (by have hz230 : M223 a 24 = M212 a 24 := (zup_p e224 (by omega) _); have hz231 : M223 a 24 = M212 a 24 := (zup_p e224 (by omega) _); omega) hp232 hp233) (zwk_c (zwk_c (zwk_c (zwk_c (zwk_c (zwk_c (zwk_c (zwk_n zwk_e))))))))
                · refine q_iconst C dX12_builds_112 (n := 113) rfl ?_
                  exact q_zret C dX12_builds_113 ⟨rfl, rfl⟩ (by omega) (by rw [hPo]; exact ⟨0, M212, J213, rfl, rfl, hI214, hK218, by omega, Or.inl (by omega), Or.inl (by omega), h210, h211, by have hz234 : M212 a 59 = M a 59 := ((hk217.getS rfl rfl).trans (hK13.getS rfl rfl)); omega, (Or.inl (by omega))⟩)
        refine q_if_ne C 72 dX12_builds_67 (n := 70) rfl rfl (by omega) (fun h235 => ?_) (fun h235 => ?_)
        · exact zK.weak (J_154 u5 (by omega) (by omega)) (zwk_c (zwk_c (zwk_c (zwk_c (zwk_c (zwk_c (zwk_c (zwk_n zwk_e))))))))
        · refine q_iload_n C dX12_builds_70 (n := 71) rfl rfl ?_
          refine q_istore_n C [.ref (w.2.1 + a), zi u4, zi u4, zi u6, zi u7, zi (M (a + 37) u7), zi ((M (a + 37) u7) + (M (a + 38) u7)), .null] dX12_builds_71 (n := 72) rfl rfl rfl ?_
          exact zK.weak (J_154 u4 (by omega) (by omega)) (zwk_c (zwk_c (zwk_c (zwk_c (zwk_c (zwk_c (zwk_c (zwk_n zwk_e))))))))
  exact zK.weak (L_26 _ 0 0 (M (a + 36) (M a 57)) (M (a + 34) (M a 57)) M J hI hK0 (zMd.rf : zMd a [9, 10, 11, 12, 13, 14, 15, 16, 17, 42] [24, 26, 34] [(18, 7), (18, 11), (18, 12), (18, 13), (18, 14)] M M) (by omega) (by omega) (by omega) (by omega) (by omega) (by omega) (by omega) (by omega) (by omega) (by omega) p2 p3 (Int.self_le_toNat _)) (zwk_c (zwk_c (zwk_c (zwk_c (zwk_c (zwk_n (zwk_n (zwk_n zwk_e))))))))
theorem c_X12_callsV {w : zWp} {T : zTl} {M : zMm} {J : zJm} {R : zRm'} {G : zGt} {F : zRm'} {a : Nat} {mb mp : Int → Int} {n A0 v u z : Int} {wt : Int → Int} (hI : zI G M) (hF : zF F R) (h0 : zModel T F G a) (v1 : Int) (v2 : Int) (f : Int) (p1 : zX M a mb mp n A0 v u z) (p2 : M a 57 = f) (p3 : zMa M a mb mp) (p4 : n = f ∧ A0 = M a 59) (p5 : zNx M a) (p6 : 0 ≤ v1 ∧ v1 ≤ 3499) (p7 : 0 ≤ v2 ∧ v2 ≤ 11) (p8 : zV M a wt 0) (p9 : ¬ M a 57 = 0 ∨ M (a + 28) 0 < 0) : zCt w 4 0 0 yX12_calls cX12_calls 9 (some .boolean) [.ref (w.2.1 + a), zi v1, zi v2] (T, M, J, R) (zPi T R G (fun x M2 => (zMd a [18, 24, 28, 29, 30, 31, 32, 33, 34, 35, 36, 40] [58, 59, 62] [] M M2) ∧ (x = 0 ∨ x = 1) ∧ (x = 0 ∨ zX M2 a mb mp (n + 1) (M2 a 59) 0 0 0) ∧ (x = 0 ∨ zMu M2 a (n + 1) + 20000 ≤ zMu M a n) ∧ (zMa M2 a mb mp) ∧ (M2 (a + 18) 3 = M (a + 18) 3) ∧ (x = 0 ∨ zV M2 a wt 0))) := by
  refine zCt.of rfl (Nat.le_of_ble_eq_true rfl) ?_
  intro p e s m args below meth c C
  obtain ⟨Po, hPo⟩ : ∃ Po, Po = zPi T R G (fun x M2 => (zMd a [18, 24, 28, 29, 30, 31, 32, 33, 34, 35, 36, 40] [58, 59, 62] [] M M2) ∧ (x = 0 ∨ x = 1) ∧ (x = 0 ∨ zX M2 a mb mp (n + 1) (M2 a 59) 0 0 0) ∧ (x = 0 ∨ zMu M2 a (n + 1) + 20000 ≤ zMu M a n) ∧ (zMa M2 a mb mp) ∧ (M2 (a + 18) 3 = M (a + 18) 3) ∧ (x = 0 ∨ zV M2 a wt 0)) := ⟨_, rfl⟩
  rw [← hPo]
  subst p2
  have hK0 : zMd a [18, 24, 28, 29, 30, 31, 32, 33, 34, 35, 36, 40] [58, 59, 62] [] M M := zMd.rf
  have gk_frame := zI.at hI (zM142 h0)
  have gx0 := zX.num p1
  have gmu := zX.mu p1 hI h0
  show zK w p e 4 0 0 s m args below meth c 9 T Po 0 [.ref (w.2.1 + a), zi v1, zi v2, .null, .null, .null, .null, .null, .null] [] (T, M, J, R)
  refine q_aload_n C dX12_calls_0 (n := 1) rfl rfl ?_
  refine q_callVv C dX12_calls_1 (n := 4) rfl m_X12_491 v_yX12_goes (zM0 h0) ⟨by decide, rfl⟩ (c_X12_goesV (w := w) (J := J) hI hF h0 p1 (by omega) p5 p8) (Nat.le_of_ble_eq_true rfl) rfl rfl (Nat.le_of_ble_eq_true rfl) ⟨Nat.le_refl _, Nat.le_refl _⟩ (fun M4 J5  hI6 h7 => ?_)
  obtain ⟨hk8, h1, h2, h3⟩ := h7
  have hK9 := hK0.tr hk8 rfl rfl rfl
  have hv10 : zV M4 a wt 0 := U_drop h3
  refine q_aload_n C dX12_calls_4 (n := 5) rfl rfl ?_
  refine q_getR C dX12_calls_5 (n := 8) rfl f_X12_110 (zM0 h0) (hF _ _ _ (zM109 h0)) ?_
  refine q_aload_n C dX12_calls_8 (n := 9) rfl rfl ?_
  have g11 := zI.at hI (zM142 h0)
  refine q_getI C dX12_calls_9 (n := 12) rfl f_X12_448 (zM0 h0) (v := M a 57) (hk8.getS rfl rfl) ?_
  refine q_aload_n C dX12_calls_12 (n := 13) rfl rfl ?_
  have g12 := zI.at hI (zM144 h0)
  refine q_getI C dX12_calls_13 (n := 16) rfl f_X12_500 (zM0 h0) (v := M a 59) (hk8.getS rfl rfl) ?_
  refine q_iast C dX12_calls_16 (n := 17) rfl (zM110 h0) (by omega)  (fun M13 e14 => ?_)
  have hI15 : zI G M13 := hI6.put e14 ((zM111 h0) (M a 57)) rfl (by omega)
  have hK16 := hK9.upA e14 rfl
  have hz17 : M4 a 62 = M a 62 := (hk8.getS rfl rfl)
  have hz18 : M4 a 57 = M a 57 := (hk8.getS rfl rfl)
  have hz19 : M4 a 58 = M a 58 := (hk8.getS rfl rfl)
  have hz20 : M4 a 59 = M a 59 := (hk8.getS rfl rfl)
  have hz21 : M4 a 60 = M a 60 := (hk8.getS rfl rfl)
  have hz22 : M4 a 26 = M a 26 := (hk8.getS rfl rfl)
  have hz23 : M4 a 25 = M a 25 := (hk8.getS rfl rfl)
  have hz24 : M4 a 24 = M a 24 := (hk8.getS rfl rfl)
  have hz25 : M4 a 61 = M a 61 := (hk8.getS rfl rfl)
  have hx26 : zX M13 a mb mp n A0 (v + 1) u z := zY.cgr (Y_ca h1 (by omega) (x := M a 59)) (zup_p e14 (by omega) _) (zup_p e14 (by omega) _) (zup_p e14 (by omega) _) (zup_p e14 (by omega) _) (zup_p e14 (by omega) _) (zup_p e14 (by omega) _) (zup_p e14 (by omega) _) (zup_p e14 (by omega) _) (zup_p e14 (by omega) _) (funext fun j => (zup_p e14 (by omega) _)) (funext fun j => (zup_p e14 (by omega) _)) (funext fun j => (zup_p e14 (by omega) _)) (funext fun j => (zup_p e14 (by omega) _)) (funext fun j => (zup_p e14 (by omega) _)) (funext fun j => (zup_p e14 (by omega) _)) (funext fun j => by by_cases q : j = (M4 a 57); (rw [q, yup_s]; rw [show (M4 a 57) = M a 57 by omega]; have hw : M13 (a + 32) (M a 57) = M a 59 := (zup_e e14 (by omega)); have hv : M4 (a + 32) (M a 57) = M (a + 32) (M a 57) := (hk8.getA rfl rfl rfl); omega); (rw [yup_n q]; exact (zup_n e14 (by omega)))) (funext fun j => (zup_p e14 (by omega) _)) (funext fun j => (zup_p e14 (by omega) _)) (funext fun j => (zup_p e14 (by omega) _)) (funext fun j => (zup_p e14 (by omega) _)) (funext fun j => (zup_p e14 (by omega) _)) (funext fun j => (zup_p e14 (by omega) _))
  refine q_iconst C dX12_calls_17 (n := 18) rfl ?_
  refine q_istore_n C [.ref (w.2.1 + a), zi v1, zi v2, zi 0, .null, .null, .null, .null, .null] dX12_calls_18 (n := 19) rfl rfl rfl ?_
  refine q_iconst C dX12_calls_19 (n := 20) rfl ?_
  refine q_istore C [.ref (w.2.1 + a), zi v1, zi v2, zi 0, zi 1, .null, .null, .null, .null] dX12_calls_20 (n := 22) rfl rfl rfl ?_
  refine q_aload_n C dX12_calls_22 (n := 23) rfl rfl ?_
  refine q_getI C dX12_calls_23 (n := 26) rfl f_X12_500 (zM0 h0) (v := M a 59) ((zup_p e14 (by omega) _).trans (hk8.getS rfl rfl)) ?_
  refine q_istore C [.ref (w.2.1 + a), zi v1, zi v2, zi 0, zi 1, zi (M a 59), .null, .null, .null] dX12_calls_26 (n := 28) rfl rfl rfl ?_
  refine q_aload_n C dX12_calls_28 (n := 29) rfl rfl ?_
  refine q_getR C dX12_calls_29 (n := 32) rfl f_X12_113 (zM0 h0) (hF _ _ _ (zM112 h0)) ?_
  refine q_iconst C dX12_calls_32 (n := 33) rfl ?_
  refine q_aload_n C dX12_calls_33 (n := 34) rfl rfl ?_
  refine q_getI C dX12_calls_34 (n := 37) rfl f_X12_448 (zM0 h0) (v := M a 57) ((zup_p e14 (by omega) _).trans (hk8.getS rfl rfl)) ?_
  refine q_imul C dX12_calls_37 (n := 38) rfl (v := 5 * (M a 57)) rfl ?_
  refine q_iload C dX12_calls_38 (n := 40) rfl rfl ?_
  refine q_iast C dX12_calls_40 (n := 41) rfl (zM113 h0) (by omega)  (fun M27 e28 => ?_)
  have hI29 : zI G M27 := hI15.put e28 ((zM114 h0) (5 * (M a 57))) rfl (by omega)
  have hK30 := hK16.upA e28 rfl
  have hz31 : M13 a 62 = M a 62 := ((zup_p e14 (by omega) _).trans (hk8.getS rfl rfl))
  have hz32 : M13 a 57 = M a 57 := ((zup_p e14 (by omega) _).trans (hk8.getS rfl rfl))
  have hz33 : M13 a 58 = M a 58 := ((zup_p e14 (by omega) _).trans (hk8.getS rfl rfl))
  have hz34 : M13 a 59 = M a 59 := ((zup_p e14 (by omega) _).trans (hk8.getS rfl rfl))
  have hz35 : M13 a 60 = M a 60 := ((zup_p e14 (by omega) _).trans (hk8.getS rfl rfl))
  have hz36 : M13 a 26 = M a 26 := ((zup_p e14 (by omega) _).trans (hk8.getS rfl rfl))
  have hz37 : M13 a 25 = M a 25 := ((zup_p e14 (by omega) _).trans (hk8.getS rfl rfl))
  have hz38 : M13 a 24 = M a 24 := ((zup_p e14 (by omega) _).trans (hk8.getS rfl rfl))
  have hz39 : M13 a 61 = M a 61 := ((zup_p e14 (by omega) _).trans (hk8.getS rfl rfl))
  have hx40 : zX M27 a mb mp n A0 (v + 1) u z := zY.cgr (Y_cg hx26 (by omega) p3.2.2 (i := 5 * (M a 57)) (x := M a 59) (by omega)) (zup_p e28 (by omega) _) (zup_p e28 (by omega) _) (zup_p e28 (by omega) _) (zup_p e28 (by omega) _) (zup_p e28 (by omega) _) (zup_p e28 (by omega) _) (zup_p e28 (by omega) _) (zup_p e28 (by omega) _) (zup_p e28 (by omega) _) (funext fun j => (zup_p e28 (by omega) _)) (funext fun j => (zup_p e28 (by omega) _)) (funext fun j => (zup_p e28 (by omega) _)) (funext fun j => (zup_p e28 (by omega) _)) (funext fun j => (zup_p e28 (by omega) _)) (funext fun j => (zup_p e28 (by omega) _)) (funext fun j => (zup_p e28 (by omega) _)) (funext fun j => by by_cases q : j = (5 * (M a 57)); (rw [q, yup_s]; have hw : M27 (a + 33) (5 * (M a 57)) = M a 59 := (zup_e e28 (by omega)); have hv : M13 (a + 33) (5 * (M a 57)) = M (a + 33) (5 * (M a 57)) := ((zup_p e14 (by omega) _).trans (hk8.getA rfl rfl rfl)); omega); (rw [yup_n q]; exact (zup_n e28 (by omega)))) (funext fun j => (zup_p e28 (by omega) _)) (funext fun j => (zup_p e28 (by omega) _)) (funext fun j => (zup_p e28 (by omega) _)) (funext fun j => (zup_p e28 (by omega) _)) (funext fun j => (zup_p e28 (by omega) _))
  have hp41 : zAh M27 a (M a 57) A0 0 := zAh.zero e28 (by omega) (by have hw : M13 a 59 = M a 59 := ((zup_p e14 (by omega) _).trans (hk8.getS rfl rfl)); omega)
  refine q_iconst C dX12_calls_41 (n := 42) rfl ?_
  refine q_istore C [.ref (w.2.1 + a), zi v1, zi v2, zi 0, zi 1, zi (M a 59), zi 0, .null, .null] dX12_calls_42 (n := 44) rfl rfl rfl ?_
  have L_59 : ∀ n60 : Nat, ∀ (u42 : Int) (u43 : Int) (u44 : Int) (M46 : zMm) (J47 : zJm), zI G M46 → zMd a [18, 24, 28, 29, 30, 31, 32, 33, 34, 35, 36, 40] [58, 59, 62] [] M M46 → zMd a [24, 33, 40] [58, 59] [] M27 M46 → (-2147483648 ≤ u42 ∧ u42 ≤ 2147483647) → (-2147483648 ≤ u43 ∧ u43 ≤ 2147483647) → (-2147483648 ≤ u44 ∧ u44 ≤ 2147483647) → (0 ≤ u43 ∧ u43 + zMu M46 a n ≤ zMu M a n + 1) → (0 ≤ u42 ∧ u42 + zMu M46 a n ≤ zMu M a n + 1) → (zX M46 a mb mp n A0 0 0 0) → (zAh M46 a (M a 57) A0 u42) → (zV M46 a wt 0) → (zMu M46 a n + 1 ≤ (n60 : Int)) → zK w p e 4 0 0 s m args below meth c 9 T Po 44 [.ref (w.2.1 + a), zi v1, zi v2, zi u42, zi u43, zi (M a 59), zi u44, .null, .null] [] (T, M46, J47, R) := by
    intro n60
    induction n60 with
    | zero =>
      intro u42 u43 u44 M46 J47 hI48 hK49 hK50 h51 h52 h53 h54 h55 h56 h57 h58 hm62
      exfalso
      have := zX.mu h56 hI48 h0
      omega
    | succ n60 ih61 =>
      intro u42 u43 u44 M46 J47 hI48 hK49 hK50 h51 h52 h53 h54 h55 h56 h57 h58 hm62
      have gx63 := zX.num h56
      have hz64 : M46 a 62 = M a 62 := ((hK50.getS rfl rfl).trans ((zup_p e28 (by omega) _).trans ((zup_p e14 (by omega) _).trans (hk8.getS rfl rfl))))
      have hz65 : M46 a 57 = M a 57 := ((hK50.getS rfl rfl).trans ((zup_p e28 (by omega) _).trans ((zup_p e14 (by omega) _).trans (hk8.getS rfl rfl))))
      have hz66 : M46 a 60 = M a 60 := ((hK50.getS rfl rfl).trans ((zup_p e28 (by omega) _).trans ((zup_p e14 (by omega) _).trans (hk8.getS rfl rfl))))
      have hz67 : M46 a 26 = M a 26 := ((hK50.getS rfl rfl).trans ((zup_p e28 (by omega) _).trans ((zup_p e14 (by omega) _).trans (hk8.getS rfl rfl))))
      have hz68 : M46 a 25 = M a 25 := ((hK50.getS rfl rfl).trans ((zup_p e28 (by omega) _).trans ((zup_p e14 (by omega) _).trans (hk8.getS rfl rfl))))
      have hz69 : M46 a 24 = M a 24 := ((hK50.getS rfl rfl).trans ((zup_p e28 (by omega) _).trans ((zup_p e14 (by omega) _).trans (hk8.getS rfl rfl))))
      have hz70 : M46 a 61 = M a 61 := ((hK50.getS rfl rfl).trans ((zup_p e28 (by omega) _).trans ((zup_p e14 (by omega) _).trans (hk8.getS rfl rfl))))
      have gmu71 := zX.mu h56 hI48 h0
      refine q_iload C dX12_calls_44 (n := 46) rfl rfl ?_
      refine q_if_le C 185 dX12_calls_46 (n := 49) rfl rfl (by omega) (fun h72 => ?_) (fun h72 => ?_)
      · have gw := zMa.w p3 (m := v2) (by omega) (by omega)
        refine q_aload_n C dX12_calls_185 (n := 186) rfl rfl ?_
        refine q_getR C dX12_calls_186 (n := 189) rfl f_X12_68 (zM0 h0) (hF _ _ _ (zM65 h0)) ?_
        refine q_sipush C dX12_calls_189 (n := 192) rfl (x := 199) (by decide) ?_
        refine q_iload_n C dX12_calls_192 (n := 193) rfl rfl ?_
        refine q_iadd C dX12_calls_193 (n := 194) rfl (v := 199 + v2) rfl ?_
        have g73 := zI.at hI (((zM67 h0) (199 + v2)).trans (zwG_199 (by omega)))
        refine q_iald C dX12_calls_194 (n := 195) rfl (zM66 h0) (by omega) (v := M (a + 18) (199 + v2)) ((hK50.getA rfl rfl rfl).trans ((zup_p e28 (by omega) _).trans ((zup_p e14 (by omega) _).trans (hk8.getA rfl rfl rfl)))) ?_
        refine q_istore C [.ref (w.2.1 + a), zi v1, zi v2, zi u42, zi u43, zi (M a 59), zi u44, zi (M (a + 18) (199 + v2)), .null] dX12_calls_195 (n := 197) rfl rfl rfl ?_
        refine q_iload C dX12_calls_197 (n := 199) rfl rfl ?_
        have J_78 : ∀ (u74 : Int), (-2147483648 ≤ u74 ∧ u74 ≤ 2147483647) → (u74 = 0 ∨ u74 = 1) → (u74 = 0 ∨ (M (a + 18) (199 + v2)) = 0 ∧ u42 = 0 ∨ u42 + 1 = (M (a + 18) (199 + v2))) → zK w p e 4 0 0 s m args below meth c 9 T Po 236 [.ref (w.2.1 + a), zi v1, zi v2, zi u42, .null, .null, zi u44, .null, .null] [zi u74] (T, M46, J47, R) := by
          intro u74 h75 h76 h77
          refine q_istore C [.ref (w.2.1 + a), zi v1, zi v2, zi u42, .null, .null, zi u44, .null, zi u74] dX12_calls_236 (n := 238) rfl rfl rfl ?_
          refine q_iload C dX12_calls_238 (n := 240) rfl rfl ?_
          refine q_if_ne C 250 dX12_calls_240 (n := 243) rfl rfl (by omega) (fun h79 => ?_) (fun h79 => ?_)
          · refine q_iload_n C dX12_calls_250 (n := 251) rfl rfl ?_
            refine q_iconst C dX12_calls_251 (n := 252) rfl ?_
            refine q_icmp_ge C 274 dX12_calls_252 (n := 255) rfl rfl (by omega) (fun h80 => ?_) (fun h80 => ?_)
            · have hp81 : zAg M46 a mp (M a 57) A0 v2 := by exfalso; omega
              refine q_aload_n C dX12_calls_274 (n := 275) rfl rfl ?_
              refine q_iload_n C dX12_calls_275 (n := 276) rfl rfl ?_
              refine q_iload_n C dX12_calls_276 (n := 277) rfl rfl ?_
              refine q_aload_n C dX12_calls_277 (n := 278) rfl rfl ?_
              refine q_getR C dX12_calls_278 (n := 281) rfl f_X12_58 (zM0 h0) (hF _ _ _ (zM49 h0)) ?_
              refine q_iload_n C dX12_calls_281 (n := 282) rfl rfl ?_
              have g82 := zI.at hI ((zM51 h0) v1)
              refine q_iald C dX12_calls_282 (n := 283) rfl (zM50 h0) (by omega) (v := M (a + 15) v1) ((hK50.getA rfl rfl rfl).trans ((zup_p e28 (by omega) _).trans ((zup_p e14 (by omega) _).trans (hk8.getA rfl rfl rfl)))) ?_
              refine q_iload C dX12_calls_283 (n := 285) rfl rfl ?_
              refine q_iand C dX12_calls_285 (n := 286) rfl (v := zand (M (a + 15) v1) u44) rfl ?_
              have g83 := zr_and (M (a + 15) v1) u44
              have gx84 := zX.num h56
              have hz85 : M46 a 62 = M a 62 := ((hK50.getS rfl rfl).trans ((zup_p e28 (by omega) _).trans ((zup_p e14 (by omega) _).trans (hk8.getS rfl rfl))))
              have hz86 : M46 a 57 = M a 57 := ((hK50.getS rfl rfl).trans ((zup_p e28 (by omega) _).trans ((zup_p e14 (by omega) _).trans (hk8.getS rfl rfl))))
              have hz87 : M46 a 60 = M a 60 := ((hK50.getS rfl rfl).trans ((zup_p e28 (by omega) _).trans ((zup_p e14 (by omega) _).trans (hk8.getS rfl rfl))))
              have hz88 : M46 a 26 = M a 26 := ((hK50.getS rfl rfl).trans ((zup_p e28 (by omega) _).trans ((zup_p e14 (by omega) _).trans (hk8.getS rfl rfl))))
              have hz89 : M46 a 25 = M a 25 := ((hK50.getS rfl rfl).trans ((zup_p e28 (by omega) _).trans ((zup_p e14 (by omega) _).trans (hk8.getS rfl rfl))))
              have hz90 : M46 a 24 = M a 24 := ((hK50.getS rfl rfl).trans ((zup_p e28 (by omega) _).trans ((zup_p e14 (by omega) _).trans (hk8.getS rfl rfl))))
              have hz91 : M46 a 61 = M a 61 := ((hK50.getS rfl rfl).trans ((zup_p e28 (by omega) _).trans ((zup_p e14 (by omega) _).trans (hk8.getS rfl rfl))))
              have hp94 : zMa M46 a mb mp := p3.cg (fun j j0 j1 => ((hK50.getA rfl rfl rfl).trans ((zup_p e28 (by omega) _).trans ((zup_p e14 (by omega) _).trans (hk8.getA rfl rfl rfl))))) (fun j => ((hK50.getA rfl rfl rfl).trans ((zup_p e28 (by omega) _).trans ((zup_p e14 (by omega) _).trans (hk8.getA rfl rfl rfl)))))
              refine q_callVi C dX12_calls_286 (n := 289) rfl m_X12_503 v_yX12_begins (zM0 h0) ⟨by decide, rfl⟩ (c_X12_beginsV (w := w) (J := J47) hI48 hF h0 v1 v2 (zand (M (a + 15) v1) u44) (M a 57) h56 (by have hz92 : M46 a 57 = M a 57 := ((hK50.getS rfl rfl).trans ((zup_p e28 (by omega) _).trans ((zup_p e14 (by omega) _).trans (hk8.getS rfl rfl)))); omega) (by omega) (by have hz93 : M46 (a + 32) (M a 57) = M a 59 := ((hK50.getA rfl rfl rfl).trans ((zup_p e28 (by omega) _).trans ((show _ from by rw [show ((M a 57) : Int) = M a 57 by omega]; exact zup_s e14)))); omega) (by omega) (by omega) (by omega) hp81 hp94 h58 (by have hz95 : M46 a 57 = M a 57 := ((hK50.getS rfl rfl).trans ((zup_p e28 (by omega) _).trans ((zup_p e14 (by omega) _).trans (hk8.getS rfl rfl)))); have hz96 : M46 (a + 28) 0 = M (a + 28) 0 := ((hK50.getA rfl rfl rfl).trans ((zup_p e28 (by omega) _).trans ((zup_p e14 (by omega) _).trans (hk8.getA rfl rfl rfl)))); omega)) (Nat.le_of_ble_eq_true rfl) rfl rfl (Nat.le_of_ble_eq_true rfl) ⟨Nat.le_refl _, Nat.le_refl _⟩ (fun x107 M103 J104  hI105 h106 => ?_)
              obtain ⟨hk108, h97, h98, h99, h100, h101, h102⟩ := h106
              have hK109 := hK49.tr hk108 rfl rfl rfl
              have hz110 : M46 (a + 18) 3 = M (a + 18) 3 := ((hK50.getA rfl rfl rfl).trans ((zup_p e28 (by omega) _).trans ((zup_p e14 (by omega) _).trans (hk8.getA rfl rfl rfl))))
              exact q_zret C dX12_calls_289 ⟨rfl, rfl⟩ (by omega) (by rw [hPo]; exact ⟨x107, M103, J104, rfl, rfl, hI105, hK109, by omega, h98.imp id (fun h => by rw [show M103 a 59 = M46 a 59 from (hk108.getS rfl rfl)]; exact h), h99.imp id (fun h => by omega), h100, by have hz111 : M103 (a + 18) 3 = M (a + 18) 3 := ((h101).trans ((hK50.getA rfl rfl rfl).trans ((zup_p e28 (by omega) _).trans ((zup_p e14 (by omega) _).trans (hk8.getA rfl rfl rfl))))); omega, h102⟩)
            · refine q_aload_n C dX12_calls_255 (n := 256) rfl rfl ?_
              refine q_getR C dX12_calls_256 (n := 259) rfl f_X12_113 (zM0 h0) (hF _ _ _ (zM112 h0)) ?_
              refine q_iconst C dX12_calls_259 (n := 260) rfl ?_
              refine q_aload_n C dX12_calls_260 (n := 261) rfl rfl ?_
              refine q_getI C dX12_calls_261 (n := 264) rfl f_X12_448 (zM0 h0) (v := M a 57) ((hK50.getS rfl rfl).trans ((zup_p e28 (by omega) _).trans ((zup_p e14 (by omega) _).trans (hk8.getS rfl rfl)))) ?_
              refine q_imul C dX12_calls_264 (n := 265) rfl (v := 5 * (M a 57)) rfl ?_
              refine q_iload_n C dX12_calls_265 (n := 266) rfl rfl ?_
              refine q_iadd C dX12_calls_266 (n := 267) rfl (v := (5 * (M a 57)) + u42) rfl ?_
              refine q_iconst C dX12_calls_267 (n := 268) rfl ?_
              refine q_iadd C dX12_calls_268 (n := 269) rfl (v := ((5 * (M a 57)) + u42) + 1) rfl ?_
              refine q_aload_n C dX12_calls_269 (n := 270) rfl rfl ?_
              have g112 := zI.at hI48 (zM144 h0)
              refine q_getI C dX12_calls_270 (n := 273) rfl f_X12_500 (zM0 h0) (v := M46 a 59) rfl ?_
              refine q_iast C dX12_calls_273 (n := 274) rfl (zM113 h0) (by omega)  (fun M113 e114 => ?_)
              have hI115 : zI G M113 := hI48.put e114 ((zM114 h0) (((5 * (M a 57)) + u42) + 1)) rfl (by omega)
              have hK116 := hK49.upA e114 rfl
              have hK117 := hK50.upA e114 rfl
              have hz118 : M46 a 62 = M a 62 := ((hK50.getS rfl rfl).trans ((zup_p e28 (by omega) _).trans ((zup_p e14 (by omega) _).trans (hk8.getS rfl rfl))))
              have hz119 : M46 a 57 = M a 57 := ((hK50.getS rfl rfl).trans ((zup_p e28 (by omega) _).trans ((zup_p e14 (by omega) _).trans (hk8.getS rfl rfl))))
              have hz120 : M46 a 60 = M a 60 := ((hK50.getS rfl rfl).trans ((zup_p e28 (by omega) _).trans ((zup_p e14 (by omega) _).trans (hk8.getS rfl rfl))))
              have hz121 : M46 a 26 = M a 26 := ((hK50.getS rfl rfl).trans ((zup_p e28 (by omega) _).trans ((zup_p e14 (by omega) _).trans (hk8.getS rfl rfl))))
              have hz122 : M46 a 25 = M a 25 := ((hK50.getS rfl rfl).trans ((zup_p e28 (by omega) _).trans ((zup_p e14 (by omega) _).trans (hk8.getS rfl rfl))))
              have hz123 : M46 a 24 = M a 24 := ((hK50.getS rfl rfl).trans ((zup_p e28 (by omega) _).trans ((zup_p e14 (by omega) _).trans (hk8.getS rfl rfl))))
              have hz124 : M46 a 61 = M a 61 := ((hK50.getS rfl rfl).trans ((zup_p e28 (by omega) _).trans ((zup_p e14 (by omega) _).trans (hk8.getS rfl rfl))))
              have hx125 : zX M113 a mb mp n A0 0 0 0 := zY.cgr (Y_cg h56 (by omega) p3.2.2 (i := ((5 * (M a 57)) + u42) + 1) (x := M46 a 59) (by omega)) (zup_p e114 (by omega) _) (zup_p e114 (by omega) _) (zup_p e114 (by omega) _) (zup_p e114 (by omega) _) (zup_p e114 (by omega) _) (zup_p e114 (by omega) _) (zup_p e114 (by omega) _) (zup_p e114 (by omega) _) (zup_p e114 (by omega) _) (funext fun j => (zup_p e114 (by omega) _)) (funext fun j => (zup_p e114 (by omega) _)) (funext fun j => (zup_p e114 (by omega) _)) (funext fun j => (zup_p e114 (by omega) _)) (funext fun j => (zup_p e114 (by omega) _)) (funext fun j => (zup_p e114 (by omega) _)) (funext fun j => (zup_p e114 (by omega) _)) (funext fun j => by by_cases q : j = (((5 * (M a 57)) + u42) + 1); (rw [q, yup_s]; have hw : M113 (a + 33) (((5 * (M a 57)) + u42) + 1) = M46 a 59 := (zup_e e114 (by omega)); omega); (rw [yup_n q]; exact (zup_n e114 (by omega)))) (funext fun j => (zup_p e114 (by omega) _)) (funext fun j => (zup_p e114 (by omega) _)) (funext fun j => (zup_p e114 (by omega) _)) (funext fun j => (zup_p e114 (by omega) _)) (funext fun j => (zup_p e114 (by omega) _))
              have hp126 : zAg M113 a mp (M a 57) A0 v2 := h57.fin e114 (by have hw : M46 a 59 = M46 a 59 := rfl; omega) (by omega) (by omega) (by omega)
              refine q_aload_n C dX12_calls_274 (n := 275) rfl rfl ?_
              refine q_iload_n C dX12_calls_275 (n := 276) rfl rfl ?_
              refine q_iload_n C dX12_calls_276 (n := 277) rfl rfl ?_
              refine q_aload_n C dX12_calls_277 (n := 278) rfl rfl ?_
              refine q_getR C dX12_calls_278 (n := 281) rfl f_X12_58 (zM0 h0) (hF _ _ _ (zM49 h0)) ?_
              refine q_iload_n C dX12_calls_281 (n := 282) rfl rfl ?_
              have g127 := zI.at hI ((zM51 h0) v1)
              refine q_iald C dX12_calls_282 (n := 283) rfl (zM50 h0) (by omega) (v := M (a + 15) v1) ((zup_p e114 (by omega) _).trans ((hK50.getA rfl rfl rfl).trans ((zup_p e28 (by omega) _).trans ((zup_p e14 (by omega) _).trans (hk8.getA rfl rfl rfl))))) ?_
              refine q_iload C dX12_calls_283 (n := 285) rfl rfl ?_
              refine q_iand C dX12_calls_285 (n := 286) rfl (v := zand (M (a + 15) v1) u44) rfl ?_
              have g128 := zr_and (M (a + 15) v1) u44
              have hm129 : zMu M113 a n = zMu M46 a n := zMu_cg (fun j => (zup_p e114 (by omega) _)) (fun j => (zup_p e114 (by omega) _)) (fun j => (zup_p e114 (by omega) _)) (zup_p e114 (by omega) _) (zup_p e114 (by omega) _) (zup_p e114 (by omega) _)
              have gx130 := zX.num hx125
              have hz131 : M113 a 62 = M a 62 := ((zup_p e114 (by omega) _).trans ((hK50.getS rfl rfl).trans ((zup_p e28 (by omega) _).trans ((zup_p e14 (by omega) _).trans (hk8.getS rfl rfl)))))
              have hz132 : M113 a 57 = M a 57 := ((zup_p e114 (by omega) _).trans ((hK50.getS rfl rfl).trans ((zup_p e28 (by omega) _).trans ((zup_p e14 (by omega) _).trans (hk8.getS rfl rfl)))))
              have hz133 : M113 a 58 = M46 a 58 := (zup_p e114 (by omega) _)
              have hz134 : M113 a 59 = M46 a 59 := (zup_p e114 (by omega) _)
              have hz135 : M113 a 60 = M a 60 := ((zup_p e114 (by omega) _).trans ((hK50.getS rfl rfl).trans ((zup_p e28 (by omega) _).trans ((zup_p e14 (by omega) _).trans (hk8.getS rfl rfl)))))
              have hz136 : M113 a 26 = M a 26 := ((zup_p e114 (by omega) _).trans ((hK50.getS rfl rfl).trans ((zup_p e28 (by omega) _).trans ((zup_p e14 (by omega) _).trans (hk8.getS rfl rfl)))))
              have hz137 : M113 a 25 = M a 25 := ((zup_p e114 (by omega) _).trans ((hK50.getS rfl rfl).trans ((zup_p e28 (by omega) _).trans ((zup_p e14 (by omega) _).trans (hk8.getS rfl rfl)))))
              have hz138 : M113 a 24 = M a 24 := ((zup_p e114 (by omega) _).trans ((hK50.getS rfl rfl).trans ((zup_p e28 (by omega) _).trans ((zup_p e14 (by omega) _).trans (hk8.getS rfl rfl)))))
              have hz139 : M113 a 61 = M a 61 := ((zup_p e114 (by omega) _).trans ((hK50.getS rfl rfl).trans ((zup_p e28 (by omega) _).trans ((zup_p e14 (by omega) _).trans (hk8.getS rfl rfl)))))
              have hp142 : zMa M113 a mb mp := p3.cg (fun j j0 j1 => ((zup_p e114 (by omega) _).trans ((hK50.getA rfl rfl rfl).trans ((zup_p e28 (by omega) _).trans ((zup_p e14 (by omega) _).trans (hk8.getA rfl rfl rfl)))))) (fun j => ((zup_p e114 (by omega) _).trans ((hK50.getA rfl rfl rfl).trans ((zup_p e28 (by omega) _).trans ((zup_p e14 (by omega) _).trans (hk8.getA rfl rfl rfl))))))
              have hp143 : zV M113 a wt 0 := h58.cg (zup_p e114 (by omega) _) (zup_p e114 (by omega) _) (zup_p e114 (by omega) _) (zup_p e114 (by omega) _) (zup_p e114 (by omega) _) (fun j => (zup_p e114 (by omega) _)) (fun j => (zup_p e114 (by omega) _)) (fun j => (zup_p e114 (by omega) _)) (fun j => (zup_p e114 (by omega) _)) (fun j => (zup_p e114 (by omega) _)) (fun j => (zup_p e114 (by omega) _))
              refine q_callVi C dX12_calls_286 (n := 289) rfl m_X12_503 v_yX12_begins (zM0 h0) ⟨by decide, rfl⟩ (c_X12_beginsV (w := w) (J := J47) hI115 hF h0 v1 v2 (zand (M (a + 15) v1) u44) (M a 57) hx125 (by have hz140 : M113 a 57 = M a 57 := ((zup_p e114 (by omega) _).trans ((hK50.getS rfl rfl).trans ((zup_p e28 (by omega) _).trans ((zup_p e14 (by omega) _).trans (hk8.getS rfl rfl))))); omega) (by omega) (by have hz141 : M113 (a + 32) (M a 57) = M a 59 := ((zup_p e114 (by omega) _).trans ((hK50.getA rfl rfl rfl).trans ((zup_p e28 (by omega) _).trans ((show _ from by rw [show ((M a 57) : Int) = M a 57 by omega]; exact zup_s e14))))); omega) (by omega) (by omega) (by omega) hp126 hp142 hp143 (by have hz144 : M113 a 57 = M a 57 := ((zup_p e114 (by omega) _).trans ((hK50.getS rfl rfl).trans ((zup_p e28 (by omega) _).trans ((zup_p e14 (by omega) _).trans (hk8.getS rfl rfl))))); have hz145 : M113 (a + 28) 0 = M (a + 28) 0 := ((zup_p e114 (by omega) _).trans ((hK50.getA rfl rfl rfl).trans ((zup_p e28 (by omega) _).trans ((zup_p e14 (by omega) _).trans (hk8.getA rfl rfl rfl))))); omega)) (Nat.le_of_ble_eq_true rfl) rfl rfl (Nat.le_of_ble_eq_true rfl) ⟨Nat.le_refl _, Nat.le_refl _⟩ (fun x156 M152 J153  hI154 h155 => ?_)
              obtain ⟨hk157, h146, h147, h148, h149, h150, h151⟩ := h155
              have hK158 := hK116.tr hk157 rfl rfl rfl
              have hz159 : M113 a 59 = M46 a 59 := (zup_p e114 (by omega) _)
              have hz160 : M113 a n = M46 a n := (zup_p e114 (by omega) _)
              have hz161 : M113 (a + 18) 3 = M (a + 18) 3 := ((zup_p e114 (by omega) _).trans ((hK50.getA rfl rfl rfl).trans ((zup_p e28 (by omega) _).trans ((zup_p e14 (by omega) _).trans (hk8.getA rfl rfl rfl)))))
              exact q_zret C dX12_calls_289 ⟨rfl, rfl⟩ (by omega) (by rw [hPo]; exact ⟨x156, M152, J153, rfl, rfl, hI154, hK158, by omega, h147.imp id (fun h => by rw [show M152 a 59 = M113 a 59 from (hk157.getS rfl rfl)]; exact h), h148.imp id (fun h => by omega), h149, by have hz162 : M152 (a + 18) 3 = M (a + 18) 3 := ((h150).trans ((zup_p e114 (by omega) _).trans ((hK50.getA rfl rfl rfl).trans ((zup_p e28 (by omega) _).trans ((zup_p e14 (by omega) _).trans (hk8.getA rfl rfl rfl)))))); omega, h151⟩)
          · refine q_aload_n C dX12_calls_243 (n := 244) rfl rfl ?_
            refine q_iconst C dX12_calls_244 (n := 245) rfl ?_
            refine q_iload_n C dX12_calls_245 (n := 246) rfl rfl ?_
            refine q_callVi C dX12_calls_246 (n := 249) rfl m_X12_376 v_yX12_badAt (zM0 h0) ⟨by decide, rfl⟩ (c_X12_badAt (w := w) (J := J47) hI48 hF h0 4 v1 (by omega) (by omega)) (Nat.le_of_ble_eq_true rfl) rfl rfl (Nat.le_of_ble_eq_true rfl) ⟨Nat.le_refl _, Nat.le_refl _⟩ (fun x169 M165 J166  hI167 h168 => ?_)
            obtain ⟨hk170, h163, h164⟩ := h168
            have hK171 := hK49.tr hk170 rfl rfl rfl
            have hp172 : zMa M165 a mb mp := p3.cg (fun j j0 j1 => ((hk170.getW rfl rfl (by omega)).trans ((hK50.getA rfl rfl rfl).trans ((zup_p e28 (by omega) _).trans ((zup_p e14 (by omega) _).trans (hk8.getA rfl rfl rfl)))))) (fun j => ((hk170.getA rfl rfl rfl).trans ((hK50.getA rfl rfl rfl).trans ((zup_p e28 (by omega) _).trans ((zup_p e14 (by omega) _).trans (hk8.getA rfl rfl rfl))))))
            exact q_zret C dX12_calls_249 ⟨rfl, rfl⟩ (by omega) (by rw [hPo]; exact ⟨x169, M165, J166, rfl, rfl, hI167, hK171, by omega, Or.inl (by omega), Or.inl (by omega), hp172, by have hz173 : M165 (a + 18) 3 = M (a + 18) 3 := ((hk170.getP rfl rfl rfl).trans ((hK50.getA rfl rfl rfl).trans ((zup_p e28 (by omega) _).trans ((zup_p e14 (by omega) _).trans (hk8.getA rfl rfl rfl))))); omega, (Or.inl (by omega))⟩)
        refine q_if_ne C 223 dX12_calls_199 (n := 202) rfl rfl (by omega) (fun h174 => ?_) (fun h174 => ?_)
        · refine q_iload_n C dX12_calls_223 (n := 224) rfl rfl ?_
          refine q_iconst C dX12_calls_224 (n := 225) rfl ?_
          refine q_iadd C dX12_calls_225 (n := 226) rfl (v := u42 + 1) rfl ?_
          refine q_iload C dX12_calls_226 (n := 228) rfl rfl ?_
          refine q_icmp_ne C 235 dX12_calls_228 (n := 231) rfl rfl (by omega) (fun h175 => ?_) (fun h175 => ?_)
          · refine q_iconst C dX12_calls_235 (n := 236) rfl ?_
            exact zK.weak (J_78 0 (by omega) (by omega) (by omega)) (zwk_c (zwk_c (zwk_c (zwk_c (zwk_n (zwk_n (zwk_c (zwk_n (zwk_n zwk_e)))))))))
          · refine q_iconst C dX12_calls_231 (n := 232) rfl ?_
            refine q_goto C 236 dX12_calls_232 rfl ?_
            exact zK.weak (J_78 1 (by omega) (by omega) (by omega)) (zwk_c (zwk_c (zwk_c (zwk_c (zwk_n (zwk_n (zwk_c (zwk_n (zwk_n zwk_e)))))))))
        · refine q_iload_n C dX12_calls_202 (n := 203) rfl rfl ?_
          have J_176 : zK w p e 4 0 0 s m args below meth c 9 T Po 219 [.ref (w.2.1 + a), zi v1, zi v2, zi u42, .null, .null, zi u44, .null, .null] [] (T, M46, J47, R) := by
            refine q_iconst C dX12_calls_219 (n := 220) rfl ?_
            refine q_goto C 236 dX12_calls_220 rfl ?_
            exact zK.weak (J_78 0 (by omega) (by omega) (by omega)) (zwk_c (zwk_c (zwk_c (zwk_c (zwk_n (zwk_n (zwk_c (zwk_n (zwk_n zwk_e)))))))))
          refine q_if_ne C 219 dX12_calls_203 (n := 206) rfl rfl (by omega) (fun h177 => ?_) (fun h177 => ?_)
          · exact zK.weak (J_176) (zwk_c (zwk_c (zwk_c (zwk_c (zwk_n (zwk_n (zwk_c (zwk_n (zwk_n zwk_e)))))))))
          · refine q_aload_n C dX12_calls_206 (n := 207) rfl rfl ?_
            have g178 := zI.at hI48 (zM144 h0)
            refine q_getI C dX12_calls_207 (n := 210) rfl f_X12_500 (zM0 h0) (v := M46 a 59) rfl ?_
            refine q_iload C dX12_calls_210 (n := 212) rfl rfl ?_
            refine q_icmp_ne C 219 dX12_calls_212 (n := 215) rfl rfl (by omega) (fun h179 => ?_) (fun h179 => ?_)
            · exact zK.weak (J_176) (zwk_c (zwk_c (zwk_c (zwk_c (zwk_n (zwk_n (zwk_c (zwk_n (zwk_n zwk_e)))))))))
            · refine q_iconst C dX12_calls_215 (n := 216) rfl ?_
              refine q_goto C 236 dX12_calls_216 rfl ?_
              exact zK.weak (J_78 1 (by omega) (by omega) (by omega)) (zwk_c (zwk_c (zwk_c (zwk_c (zwk_n (zwk_n (zwk_c (zwk_n (zwk_n zwk_e)))))))))
      · refine q_aload_n C dX12_calls_49 (n := 50) rfl rfl ?_
        refine q_callVi C dX12_calls_50 (n := 53) rfl m_X12_484 v_yX12_peek (zM0 h0) ⟨by decide, rfl⟩ (c_X12_peekV (w := w) (J := J47) hI48 hF h0 h56 (by have hz180 : M46 a 57 = M a 57 := ((hK50.getS rfl rfl).trans ((zup_p e28 (by omega) _).trans ((zup_p e14 (by omega) _).trans (hk8.getS rfl rfl)))); omega) h58) (Nat.le_of_ble_eq_true rfl) rfl rfl (Nat.le_of_ble_eq_true rfl) ⟨Nat.le_refl _, Nat.le_refl _⟩ (fun x192 M188 J189  hI190 h191 => ?_)
        obtain ⟨hk193, h181, h182, h183, h184, h185, h186, h187⟩ := h191
        have hK194 := hK49.tr hk193 rfl rfl rfl
        have hK195 := hK50.tr hk193 rfl rfl rfl
        have hz196 : M46 (a + 27) (M a 57) = M (a + 27) (M a 57) := ((hK50.getA rfl rfl rfl).trans ((zup_p e28 (by omega) _).trans ((zup_p e14 (by omega) _).trans (hk8.getA rfl rfl rfl))))
        refine q_istore C [.ref (w.2.1 + a), zi v1, zi v2, zi u42, zi u43, zi (M a 59), zi u44, zi x192, .null] dX12_calls_53 (n := 55) rfl rfl rfl ?_
        refine q_iload C dX12_calls_55 (n := 57) rfl rfl ?_
        refine q_if_ge C 67 dX12_calls_57 (n := 60) rfl rfl (by omega) (fun h197 => ?_) (fun h197 => ?_)
        · have hp198 : zNx M188 a := h184.resolve_left (by omega)
          refine q_aload_n C dX12_calls_67 (n := 68) rfl rfl ?_
          refine q_callVv C dX12_calls_68 (n := 71) rfl m_X12_491 v_yX12_goes (zM0 h0) ⟨by decide, rfl⟩ (c_X12_goesV (w := w) (J := J189) hI190 hF h0 h182 (by have hz199 : M188 a 57 = M a 57 := ((hk193.getS rfl rfl).trans ((hK50.getS rfl rfl).trans ((zup_p e28 (by omega) _).trans ((zup_p e14 (by omega) _).trans (hk8.getS rfl rfl))))); omega) hp198 h186) (Nat.le_of_ble_eq_true rfl) rfl rfl (Nat.le_of_ble_eq_true rfl) ⟨Nat.le_refl _, Nat.le_refl _⟩ (fun M203 J204  hI205 h206 => ?_)
          obtain ⟨hk207, h200, h201, h202⟩ := h206
          have hK208 := hK194.tr hk207 rfl rfl rfl
          have hK209 := hK195.tr hk207 rfl rfl rfl
          have hv210 : zV M203 a wt 0 := U_drop h202
          refine q_aload_n C dX12_calls_71 (n := 72) rfl rfl ?_
          refine q_iload C dX12_calls_72 (n := 74) rfl rfl ?_
          refine q_bipush C dX12_calls_74 (n := 76) rfl (x := 40) (by decide) ?_
          refine q_callVp C dX12_calls_76 (n := 79) rfl m_X12_406 v_yX12_isSign (zM0 h0) ⟨by decide, rfl⟩ (c_X12_isSign (w := w) (J := J204) hI205 hF h0 x192 40 (by omega) (by omega)) (Nat.le_of_ble_eq_true rfl) rfl rfl (Nat.le_of_ble_eq_true rfl) ⟨Nat.le_refl _, Nat.le_refl _⟩ (fun x214 h215 => ?_)
          obtain ⟨h211, h212, h213⟩ := h215
          have hz216 : M203 (a + 9) x192 = M (a + 9) x192 := ((hk207.getA rfl rfl rfl).trans ((hk193.getA rfl rfl rfl).trans ((hK50.getA rfl rfl rfl).trans ((zup_p e28 (by omega) _).trans ((zup_p e14 (by omega) _).trans (hk8.getA rfl rfl rfl))))))
          have hz217 : M203 (a + 11) x192 = M (a + 11) x192 := ((hk207.getA rfl rfl rfl).trans ((hk193.getA rfl rfl rfl).trans ((hK50.getA rfl rfl rfl).trans ((zup_p e28 (by omega) _).trans ((zup_p e14 (by omega) _).trans (hk8.getA rfl rfl rfl))))))
          have J_221 : ∀ (u218 : Int), (-2147483648 ≤ u218 ∧ u218 ≤ 2147483647) → (u43 ≤ u218 ∧ u218 ≤ u43 + 1) → zK w p e 4 0 0 s m args below meth c 9 T Po 85 [.ref (w.2.1 + a), zi v1, zi v2, zi u42, zi u218, zi (M a 59), zi u44, zi x192, .null] [] (T, M203, J204, R) := by
            intro u218 h219 h220
            refine q_aload_n C dX12_calls_85 (n := 86) rfl rfl ?_
            refine q_iload C dX12_calls_86 (n := 88) rfl rfl ?_
            refine q_bipush C dX12_calls_88 (n := 90) rfl (x := 41) (by decide) ?_
            refine q_callVp C dX12_calls_90 (n := 93) rfl m_X12_406 v_yX12_isSign (zM0 h0) ⟨by decide, rfl⟩ (c_X12_isSign (w := w) (J := J204) hI205 hF h0 x192 41 (by omega) (by omega)) (Nat.le_of_ble_eq_true rfl) rfl rfl (Nat.le_of_ble_eq_true rfl) ⟨Nat.le_refl _, Nat.le_refl _⟩ (fun x225 h226 => ?_)
            obtain ⟨h222, h223, h224⟩ := h226
            have hz227 : M203 (a + 9) x192 = M (a + 9) x192 := ((hk207.getA rfl rfl rfl).trans ((hk193.getA rfl rfl rfl).trans ((hK50.getA rfl rfl rfl).trans ((zup_p e28 (by omega) _).trans ((zup_p e14 (by omega) _).trans (hk8.getA rfl rfl rfl))))))
            have hz228 : M203 (a + 11) x192 = M (a + 11) x192 := ((hk207.getA rfl rfl rfl).trans ((hk193.getA rfl rfl rfl).trans ((hK50.getA rfl rfl rfl).trans ((zup_p e28 (by omega) _).trans ((zup_p e14 (by omega) _).trans (hk8.getA rfl rfl rfl))))))
            have J_232 : ∀ (u229 : Int), (-2147483648 ≤ u229 ∧ u229 ≤ 2147483647) → (u218 - 1 ≤ u229 ∧ u229 ≤ u218) → zK w p e 4 0 0 s m args below meth c 9 T Po 99 [.ref (w.2.1 + a), zi v1, zi v2, zi u42, zi u229, zi (M a 59), zi u44, zi x192, .null] [] (T, M203, J204, R) := by
              intro u229 h230 h231
              refine q_iload C dX12_calls_99 (n := 101) rfl rfl ?_
              have J_248 : ∀ (u233 : Int) (u234 : Int) (M236 : zMm) (J237 : zJm), zI G M236 → zMd a [18, 24, 28, 29, 30, 31, 32, 33, 34, 35, 36, 40] [58, 59, 62] [] M M236 → zMd a [24, 33, 40] [58, 59] [] M27 M236 → zMd a [33, 40] [59] [] M203 M236 → (-2147483648 ≤ u233 ∧ u233 ≤ 2147483647) → (-2147483648 ≤ u234 ∧ u234 ≤ 2147483647) → (u42 ≤ u233 ∧ u233 ≤ u42 + 1) → (zX M236 a mb mp n A0 0 0 0) → (zAh M236 a (M a 57) A0 u233) → (zMu M236 a n = zMu M203 a n) → zK w p e 4 0 0 s m args below meth c 9 T Po 182 [.ref (w.2.1 + a), zi v1, zi v2, zi u233, zi u229, zi (M a 59), zi u234, .null, .null] [] (T, M236, J237, R) := by
                intro u233 u234 M236 J237 hI238 hK239 hK240 hK241 h242 h243 h244 h245 h246 h247
                refine q_goto C 44 dX12_calls_182 rfl ?_
                have hp249 : zV M236 a wt 0 := hv210.cg (hK241.getS rfl rfl) (hK241.getS rfl rfl) (hK241.getS rfl rfl) (hK241.getS rfl rfl) (hK241.getS rfl rfl) (fun j => (hK241.getA rfl rfl rfl)) (fun j => (hK241.getA rfl rfl rfl)) (fun j => (hK241.getA rfl rfl rfl)) (fun j => (hK241.getA rfl rfl rfl)) (fun j => (hK241.getA rfl rfl rfl)) (fun j => (hK241.getA rfl rfl rfl))
                exact zK.weak (ih61 u233 u229 u234 M236 J237 hI238 hK239 hK240 (by omega) (by omega) (by omega) (by omega) (by omega) (zX.drop h245 (by omega) (by omega) (by omega)) h246 hp249 (by omega)) (zwk_c (zwk_c (zwk_c (zwk_c (zwk_c (zwk_c (zwk_c (zwk_n (zwk_n zwk_e)))))))))
              refine q_if_ne C 116 dX12_calls_101 (n := 104) rfl rfl (by omega) (fun h250 => ?_) (fun h250 => ?_)
              · refine q_iload C dX12_calls_116 (n := 118) rfl rfl ?_
                refine q_iconst C dX12_calls_118 (n := 119) rfl ?_
                have J_251 : zK w p e 4 0 0 s m args below meth c 9 T Po 161 [.ref (w.2.1 + a), zi v1, zi v2, zi u42, zi u229, zi (M a 59), zi u44, zi x192, .null] [] (T, M203, J204, R) := by
                  have gx252 := zX.num h200
                  have hz253 : M203 a 62 = M a 62 := ((hk207.getS rfl rfl).trans ((hk193.getS rfl rfl).trans ((hK50.getS rfl rfl).trans ((zup_p e28 (by omega) _).trans ((zup_p e14 (by omega) _).trans (hk8.getS rfl rfl))))))
                  have hz254 : M203 a 57 = M a 57 := ((hk207.getS rfl rfl).trans ((hk193.getS rfl rfl).trans ((hK50.getS rfl rfl).trans ((zup_p e28 (by omega) _).trans ((zup_p e14 (by omega) _).trans (hk8.getS rfl rfl))))))
                  have hz255 : M203 a 58 = M188 a 58 := (hk207.getS rfl rfl)
                  have hz256 : M203 a 59 = M46 a 59 := ((hk207.getS rfl rfl).trans (hk193.getS rfl rfl))
                  have hz257 : M203 a 60 = M a 60 := ((hk207.getS rfl rfl).trans ((hk193.getS rfl rfl).trans ((hK50.getS rfl rfl).trans ((zup_p e28 (by omega) _).trans ((zup_p e14 (by omega) _).trans (hk8.getS rfl rfl))))))
                  have hz258 : M203 a 26 = M a 26 := ((hk207.getS rfl rfl).trans ((hk193.getS rfl rfl).trans ((hK50.getS rfl rfl).trans ((zup_p e28 (by omega) _).trans ((zup_p e14 (by omega) _).trans (hk8.getS rfl rfl))))))
                  have hz259 : M203 a 25 = M a 25 := ((hk207.getS rfl rfl).trans ((hk193.getS rfl rfl).trans ((hK50.getS rfl rfl).trans ((zup_p e28 (by omega) _).trans ((zup_p e14 (by omega) _).trans (hk8.getS rfl rfl))))))
                  have hz260 : M203 a 24 = M a 24 := ((hk207.getS rfl rfl).trans ((hk193.getS rfl rfl).trans ((hK50.getS rfl rfl).trans ((zup_p e28 (by omega) _).trans ((zup_p e14 (by omega) _).trans (hk8.getS rfl rfl))))))
                  have hz261 : M203 a 61 = M a 61 := ((hk207.getS rfl rfl).trans ((hk193.getS rfl rfl).trans ((hK50.getS rfl rfl).trans ((zup_p e28 (by omega) _).trans ((zup_p e14 (by omega) _).trans (hk8.getS rfl rfl))))))
                  have gam262 := zX.amb h200 (by omega)
                  refine q_aload_n C dX12_calls_161 (n := 162) rfl rfl ?_
                  refine q_getR C dX12_calls_162 (n := 165) rfl f_X12_135 (zM0 h0) (hF _ _ _ (zM133 h0)) ?_
                  refine q_aload_n C dX12_calls_165 (n := 166) rfl rfl ?_
                  have g263 := zI.at hI48 (zM144 h0)
                  refine q_getI C dX12_calls_166 (n := 169) rfl f_X12_500 (zM0 h0) (v := M46 a 59) ((hk207.getS rfl rfl).trans (hk193.getS rfl rfl)) ?_
                  refine q_iload C dX12_calls_169 (n := 171) rfl rfl ?_
                  refine q_iast C dX12_calls_171 (n := 172) rfl (zM134 h0) (by omega)  (fun M264 e265 => ?_)
                  have hI266 : zI G M264 := hI205.put e265 ((zM135 h0) (M46 a 59)) rfl (by omega)
                  have hK267 := hK208.upA e265 rfl
                  have hK268 := hK209.upA e265 rfl
                  have hK269 := (zMd.rf : zMd a [33, 40] [59] [] M203 M203).upA e265 rfl
                  refine q_aload_n C dX12_calls_172 (n := 173) rfl rfl ?_
                  refine q_dup C dX12_calls_173 (n := 174) rfl rfl ?_
                  refine q_getI C dX12_calls_174 (n := 177) rfl f_X12_500 (zM0 h0) (v := M46 a 59) ((zup_p e265 (by omega) _).trans ((hk207.getS rfl rfl).trans (hk193.getS rfl rfl))) ?_
                  refine q_iconst C dX12_calls_177 (n := 178) rfl ?_
                  refine q_iadd C dX12_calls_178 (n := 179) rfl (v := (M46 a 59) + 1) rfl ?_
                  refine q_putI C dX12_calls_179 (n := 182) rfl f_X12_500 (zM0 h0) ⟨rfl, rfl⟩ (fun M270 (e271 : M270 = zup M264 a 59 ((M46 a 59) + 1)) => ?_)
                  have hp272 : zAh M264 a (M a 57) A0 u42 := h57.cg (fun j => ((zup_p e265 (by omega) _).trans ((hk207.getA rfl rfl rfl).trans (hk193.getA rfl rfl rfl)))) ((zup_p e265 (by omega) _).trans ((hk207.getS rfl rfl).trans (hk193.getS rfl rfl)))
                  have hp273 : zAh M270 a (M a 57) A0 u42 := hp272.am e271 (by have hw : M264 a 59 = M46 a 59 := ((zup_p e265 (by omega) _).trans ((hk207.getS rfl rfl).trans (hk193.getS rfl rfl))); omega)
                  have hI274 : zI G M270 := hI266.put e271 (zM144 h0) rfl (by omega)
                  have hK275 := hK267.upS e271 rfl
                  have hK276 := hK268.upS e271 rfl
                  have hK277 := hK269.upS e271 rfl
                  have hz278 : M203 a 62 = M a 62 := ((hk207.getS rfl rfl).trans ((hk193.getS rfl rfl).trans ((hK50.getS rfl rfl).trans ((zup_p e28 (by omega) _).trans ((zup_p e14 (by omega) _).trans (hk8.getS rfl rfl))))))
                  have hz279 : M203 a 57 = M a 57 := ((hk207.getS rfl rfl).trans ((hk193.getS rfl rfl).trans ((hK50.getS rfl rfl).trans ((zup_p e28 (by omega) _).trans ((zup_p e14 (by omega) _).trans (hk8.getS rfl rfl))))))
                  have hz280 : M203 a 58 = M188 a 58 := (hk207.getS rfl rfl)
                  have hz281 : M203 a 59 = M46 a 59 := ((hk207.getS rfl rfl).trans (hk193.getS rfl rfl))
                  have hz282 : M203 a 60 = M a 60 := ((hk207.getS rfl rfl).trans ((hk193.getS rfl rfl).trans ((hK50.getS rfl rfl).trans ((zup_p e28 (by omega) _).trans ((zup_p e14 (by omega) _).trans (hk8.getS rfl rfl))))))
                  have hz283 : M203 a 26 = M a 26 := ((hk207.getS rfl rfl).trans ((hk193.getS rfl rfl).trans ((hK50.getS rfl rfl).trans ((zup_p e28 (by omega) _).trans ((zup_p e14 (by omega) _).trans (hk8.getS rfl rfl))))))
                  have hz284 : M203 a 25 = M a 25 := ((hk207.getS rfl rfl).trans ((hk193.getS rfl rfl).trans ((hK50.getS rfl rfl).trans ((zup_p e28 (by omega) _).trans ((zup_p e14 (by omega) _).trans (hk8.getS rfl rfl))))))
                  have hz285 : M203 a 24 = M a 24 := ((hk207.getS rfl rfl).trans ((hk193.getS rfl rfl).trans ((hK50.getS rfl rfl).trans ((zup_p e28 (by omega) _).trans ((zup_p e14 (by omega) _).trans (hk8.getS rfl rfl))))))
                  have hz286 : M203 a 61 = M a 61 := ((hk207.getS rfl rfl).trans ((hk193.getS rfl rfl).trans ((hK50.getS rfl rfl).trans ((zup_p e28 (by omega) _).trans ((zup_p e14 (by omega) _).trans (hk8.getS rfl rfl))))))
                  have hx287 : zX M270 a mb mp n A0 ((0 + 1) - 1) 0 0 := zY.cgr (Y_push h200 (by omega) (by omega)) ((zup_n e271 (by omega)).trans (zup_p e265 (by omega) _)) ((zup_n e271 (by omega)).trans (zup_p e265 (by omega) _)) ((zup_n e271 (by omega)).trans (zup_p e265 (by omega) _)) (by have hw : M270 a 59 = (M46 a 59) + 1 := (zup_s e271); omega) ((zup_n e271 (by omega)).trans (zup_p e265 (by omega) _)) ((zup_n e271 (by omega)).trans (zup_p e265 (by omega) _)) ((zup_n e271 (by omega)).trans (zup_p e265 (by omega) _)) ((zup_n e271 (by omega)).trans (zup_p e265 (by omega) _)) ((zup_n e271 (by omega)).trans (zup_p e265 (by omega) _)) (funext fun j => ((zup_p e271 (by omega) _).trans (zup_p e265 (by omega) _))) (funext fun j => ((zup_p e271 (by omega) _).trans (zup_p e265 (by omega) _))) (funext fun j => ((zup_p e271 (by omega) _).trans (zup_p e265 (by omega) _))) (funext fun j => ((zup_p e271 (by omega) _).trans (zup_p e265 (by omega) _))) (funext fun j => ((zup_p e271 (by omega) _).trans (zup_p e265 (by omega) _))) (funext fun j => ((zup_p e271 (by omega) _).trans (zup_p e265 (by omega) _))) (funext fun j => ((zup_p e271 (by omega) _).trans (zup_p e265 (by omega) _))) (funext fun j => ((zup_p e271 (by omega) _).trans (zup_p e265 (by omega) _))) (funext fun j => ((zup_p e271 (by omega) _).trans (zup_p e265 (by omega) _))) (funext fun j => ((zup_p e271 (by omega) _).trans (zup_p e265 (by omega) _))) (funext fun j => ((zup_p e271 (by omega) _).trans (zup_p e265 (by omega) _))) (funext fun j => ((zup_p e271 (by omega) _).trans (zup_p e265 (by omega) _))) (funext fun j => ((zup_p e271 (by omega) _).trans (zup_p e265 (by omega) _)))
                  exact zK.weak (J_248 u42 u44 M270 J204 hI274 hK275 hK276 hK277 (by omega) (by omega) (by omega) (zX.drop hx287 (by omega) (by omega) (by omega)) hp273 (zMu_cg (fun j => ((zup_p e271 (by omega) _).trans (zup_p e265 (by omega) _))) (fun j => ((zup_p e271 (by omega) _).trans (zup_p e265 (by omega) _))) (fun j => ((zup_p e271 (by omega) _).trans (zup_p e265 (by omega) _))) ((zup_n e271 (by omega)).trans (zup_p e265 (by omega) _)) ((zup_n e271 (by omega)).trans (zup_p e265 (by omega) _)) ((zup_n e271 (by omega)).trans (zup_p e265 (by omega) _)))) (zwk_c (zwk_c (zwk_c (zwk_c (zwk_c (zwk_c (zwk_c (zwk_n (zwk_n zwk_e)))))))))
                refine q_icmp_ne C 161 dX12_calls_119 (n := 122) rfl rfl (by omega) (fun h288 => ?_) (fun h288 => ?_)
                · exact zK.weak (J_251) (zwk_c (zwk_c (zwk_c (zwk_c (zwk_c (zwk_c (zwk_c (zwk_c (zwk_n zwk_e)))))))))
                · refine q_aload_n C dX12_calls_122 (n := 123) rfl rfl ?_
                  refine q_iload C dX12_calls_123 (n := 125) rfl rfl ?_
                  refine q_bipush C dX12_calls_125 (n := 127) rfl (x := 44) (by decide) ?_
                  refine q_callVp C dX12_calls_127 (n := 130) rfl m_X12_406 v_yX12_isSign (zM0 h0) ⟨by decide, rfl⟩ (c_X12_isSign (w := w) (J := J204) hI205 hF h0 x192 44 (by omega) (by omega)) (Nat.le_of_ble_eq_true rfl) rfl rfl (Nat.le_of_ble_eq_true rfl) ⟨Nat.le_refl _, Nat.le_refl _⟩ (fun x292 h293 => ?_)
                  obtain ⟨h289, h290, h291⟩ := h293
                  have hz294 : M203 (a + 9) x192 = M (a + 9) x192 := ((hk207.getA rfl rfl rfl).trans ((hk193.getA rfl rfl rfl).trans ((hK50.getA rfl rfl rfl).trans ((zup_p e28 (by omega) _).trans ((zup_p e14 (by omega) _).trans (hk8.getA rfl rfl rfl))))))
                  have hz295 : M203 (a + 11) x192 = M (a + 11) x192 := ((hk207.getA rfl rfl rfl).trans ((hk193.getA rfl rfl rfl).trans ((hK50.getA rfl rfl rfl).trans ((zup_p e28 (by omega) _).trans ((zup_p e14 (by omega) _).trans (hk8.getA rfl rfl rfl))))))
                  refine q_if_eq C 161 dX12_calls_130 (n := 133) rfl rfl (by omega) (fun h296 => ?_) (fun h296 => ?_)
                  · exact zK.weak (J_251) (zwk_c (zwk_c (zwk_c (zwk_c (zwk_c (zwk_c (zwk_c (zwk_c (zwk_n zwk_e)))))))))
                  · refine q_iinc C [.ref (w.2.1 + a), zi v1, zi v2, zi (u42 + 1), zi u229, zi (M a 59), zi u44, zi x192, .null] dX12_calls_133 (n := 136) rfl rfl rfl rfl ?_
                    refine q_iload_n C dX12_calls_136 (n := 137) rfl rfl ?_
                    refine q_iconst C dX12_calls_137 (n := 138) rfl ?_
                    refine q_icmp_ge C 182 dX12_calls_138 (n := 141) rfl rfl (by omega) (fun h297 => ?_) (fun h297 => ?_)
                    · exact zK.weak (J_248 (u42 + 1) u44 M203 J204 hI205 hK208 hK209 (zMd.rf : zMd a [33, 40] [59] [] M203 M203) (by omega) (by omega) (by omega) (zX.drop h200 (by omega) (by omega) (by omega)) (zAh.over (by omega)) rfl) (zwk_c (zwk_c (zwk_c (zwk_c (zwk_c (zwk_c (zwk_c (zwk_n (zwk_n zwk_e)))))))))
                    · refine q_aload_n C dX12_calls_141 (n := 142) rfl rfl ?_
                      refine q_getR C dX12_calls_142 (n := 145) rfl f_X12_113 (zM0 h0) (hF _ _ _ (zM112 h0)) ?_
                      refine q_iconst C dX12_calls_145 (n := 146) rfl ?_
                      refine q_aload_n C dX12_calls_146 (n := 147) rfl rfl ?_
                      refine q_getI C dX12_calls_147 (n := 150) rfl f_X12_448 (zM0 h0) (v := M a 57) ((hk207.getS rfl rfl).trans ((hk193.getS rfl rfl).trans ((hK50.getS rfl rfl).trans ((zup_p e28 (by omega) _).trans ((zup_p e14 (by omega) _).trans (hk8.getS rfl rfl)))))) ?_
                      refine q_imul C dX12_calls_150 (n := 151) rfl (v := 5 * (M a 57)) rfl ?_
                      refine q_iload_n C dX12_calls_151 (n := 152) rfl rfl ?_
                      refine q_iadd C dX12_calls_152 (n := 153) rfl (v := (5 * (M a 57)) + (u42 + 1)) rfl ?_
                      refine q_aload_n C dX12_calls_153 (n := 154) rfl rfl ?_
                      have g298 := zI.at hI48 (zM144 h0)
                      refine q_getI C dX12_calls_154 (n := 157) rfl f_X12_500 (zM0 h0) (v := M46 a 59) ((hk207.getS rfl rfl).trans (hk193.getS rfl rfl)) ?_
                      refine q_iast C dX12_calls_157 (n := 158) rfl (zM113 h0) (by omega)  (fun M299 e300 => ?_)
                      have hp301 : zAh M203 a (M a 57) A0 u42 := h57.cg (fun j => ((hk207.getA rfl rfl rfl).trans (hk193.getA rfl rfl rfl))) ((hk207.getS rfl rfl).trans (hk193.getS rfl rfl))
                      have hI302 : zI G M299 := hI205.put e300 ((zM114 h0) ((5 * (M a 57)) + (u42 + 1))) rfl (by omega)
                      have hK303 := hK208.upA e300 rfl
                      have hK304 := hK209.upA e300 rfl
                      have hK305 := (zMd.rf : zMd a [33, 40] [59] [] M203 M203).upA e300 rfl
                      have hz306 : M203 a 62 = M a 62 := ((hk207.getS rfl rfl).trans ((hk193.getS rfl rfl).trans ((hK50.getS rfl rfl).trans ((zup_p e28 (by omega) _).trans ((zup_p e14 (by omega) _).trans (hk8.getS rfl rfl))))))
                      have hz307 : M203 a 57 = M a 57 := ((hk207.getS rfl rfl).trans ((hk193.getS rfl rfl).trans ((hK50.getS rfl rfl).trans ((zup_p e28 (by omega) _).trans ((zup_p e14 (by omega) _).trans (hk8.getS rfl rfl))))))
                      have hz308 : M203 a 58 = M188 a 58 := (hk207.getS rfl rfl)
                      have hz309 : M203 a 59 = M46 a 59 := ((hk207.getS rfl rfl).trans (hk193.getS rfl rfl))
                      have hz310 : M203 a 60 = M a 60 := ((hk207.getS rfl rfl).trans ((hk193.getS rfl rfl).trans ((hK50.getS rfl rfl).trans ((zup_p e28 (by omega) _).trans ((zup_p e14 (by omega) _).trans (hk8.getS rfl rfl))))))
                      have hz311 : M203 a 26 = M a 26 := ((hk207.getS rfl rfl).trans ((hk193.getS rfl rfl).trans ((hK50.getS rfl rfl).trans ((zup_p e28 (by omega) _).trans ((zup_p e14 (by omega) _).trans (hk8.getS rfl rfl))))))
                      have hz312 : M203 a 25 = M a 25 := ((hk207.getS rfl rfl).trans ((hk193.getS rfl rfl).trans ((hK50.getS rfl rfl).trans ((zup_p e28 (by omega) _).trans ((zup_p e14 (by omega) _).trans (hk8.getS rfl rfl))))))
                      have hz313 : M203 a 24 = M a 24 := ((hk207.getS rfl rfl).trans ((hk193.getS rfl rfl).trans ((hK50.getS rfl rfl).trans ((zup_p e28 (by omega) _).trans ((zup_p e14 (by omega) _).trans (hk8.getS rfl rfl))))))
                      have hz314 : M203 a 61 = M a 61 := ((hk207.getS rfl rfl).trans ((hk193.getS rfl rfl).trans ((hK50.getS rfl rfl).trans ((zup_p e28 (by omega) _).trans ((zup_p e14 (by omega) _).trans (hk8.getS rfl rfl))))))
                      have hx315 : zX M299 a mb mp n A0 (0 + 1) 0 0 := zY.cgr (Y_cg h200 (by omega) p3.2.2 (i := (5 * (M a 57)) + (u42 + 1)) (x := M46 a 59) (by omega)) (zup_p e300 (by omega) _) (zup_p e300 (by omega) _) (zup_p e300 (by omega) _) (zup_p e300 (by omega) _) (zup_p e300 (by omega) _) (zup_p e300 (by omega) _) (zup_p e300 (by omega) _) (zup_p e300 (by omega) _) (zup_p e300 (by omega) _) (funext fun j => (zup_p e300 (by omega) _)) (funext fun j => (zup_p e300 (by omega) _)) (funext fun j => (zup_p e300 (by omega) _)) (funext fun j => (zup_p e300 (by omega) _)) (funext fun j => (zup_p e300 (by omega) _)) (funext fun j => (zup_p e300 (by omega) _)) (funext fun j => (zup_p e300 (by omega) _)) (funext fun j => by by_cases q : j = ((5 * (M a 57)) + (u42 + 1)); (rw [q, yup_s]; have hw : M299 (a + 33) ((5 * (M a 57)) + (u42 + 1)) = M46 a 59 := (zup_e e300 (by omega)); have hv : M203 (a + 33) ((5 * (M a 57)) + (u42 + 1)) = M46 (a + 33) ((5 * (M a 57)) + (u42 + 1)) := ((hk207.getA rfl rfl rfl).trans (hk193.getA rfl rfl rfl)); omega); (rw [yup_n q]; exact (zup_n e300 (by omega)))) (funext fun j => (zup_p e300 (by omega) _)) (funext fun j => (zup_p e300 (by omega) _)) (funext fun j => (zup_p e300 (by omega) _)) (funext fun j => (zup_p e300 (by omega) _)) (funext fun j => (zup_p e300 (by omega) _))
                      have hp316 : zAh M299 a (M a 57) A0 (u42 + 1) := hp301.comma e300 (by have hw : M203 a 59 = M46 a 59 := ((hk207.getS rfl rfl).trans (hk193.getS rfl rfl)); omega) (by omega) (by omega)
                      refine q_goto C 182 dX12_calls_158 rfl ?_
                      exact zK.weak (J_248 (u42 + 1) u44 M299 J204 hI302 hK303 hK304 hK305 (by omega) (by omega) (by omega) (zX.drop hx315 (by omega) (by omega) (by omega)) hp316 (zMu_cg (fun j => (zup_p e300 (by omega) _)) (fun j => (zup_p e300 (by omega) _)) (fun j => (zup_p e300 (by omega) _)) (zup_p e300 (by omega) _) (zup_p e300 (by omega) _) (zup_p e300 (by omega) _))) (zwk_c (zwk_c (zwk_c (zwk_c (zwk_c (zwk_c (zwk_c (zwk_n (zwk_n zwk_e)))))))))
              · refine q_aload_n C dX12_calls_104 (n := 105) rfl rfl ?_
                refine q_getR C dX12_calls_105 (n := 108) rfl f_X12_58 (zM0 h0) (hF _ _ _ (zM49 h0)) ?_
                refine q_iload C dX12_calls_108 (n := 110) rfl rfl ?_
                have g317 := zI.at hI ((zM51 h0) x192)
                refine q_iald C dX12_calls_110 (n := 111) rfl (zM50 h0) (by omega) (v := M (a + 15) x192) ((hk207.getA rfl rfl rfl).trans ((hk193.getA rfl rfl rfl).trans ((hK50.getA rfl rfl rfl).trans ((zup_p e28 (by omega) _).trans ((zup_p e14 (by omega) _).trans (hk8.getA rfl rfl rfl)))))) ?_
                refine q_istore C [.ref (w.2.1 + a), zi v1, zi v2, zi u42, zi u229, zi (M a 59), zi (M (a + 15) x192), zi x192, .null] dX12_calls_111 (n := 113) rfl rfl rfl ?_
                refine q_goto C 182 dX12_calls_113 rfl ?_
                have hp318 : zAh M203 a (M a 57) A0 u42 := h57.cg (fun j => ((hk207.getA rfl rfl rfl).trans (hk193.getA rfl rfl rfl))) ((hk207.getS rfl rfl).trans (hk193.getS rfl rfl))
                exact zK.weak (J_248 u42 (M (a + 15) x192) M203 J204 hI205 hK208 hK209 (zMd.rf : zMd a [33, 40] [59] [] M203 M203) (by omega) (by omega) (by omega) (zX.drop h200 (by omega) (by omega) (by omega)) hp318 rfl) (zwk_c (zwk_c (zwk_c (zwk_c (zwk_c (zwk_c (zwk_c (zwk_n (zwk_n zwk_e)))))))))
            refine q_if_eq C 99 dX12_calls_93 (n := 96) rfl rfl (by omega) (fun h319 => ?_) (fun h319 => ?_)
            · exact zK.weak (J_232 u218 (by omega) (by omega)) (zwk_c (zwk_c (zwk_c (zwk_c (zwk_c (zwk_c (zwk_c (zwk_c (zwk_n zwk_e)))))))))
            · refine q_iinc C [.ref (w.2.1 + a), zi v1, zi v2, zi u42, zi (u218 + (-1)), zi (M a 59), zi u44, zi x192, .null] dX12_calls_96 (n := 99) rfl rfl rfl rfl ?_
              exact zK.weak (J_232 (u218 + (-1)) (by omega) (by omega)) (zwk_c (zwk_c (zwk_c (zwk_c (zwk_c (zwk_c (zwk_c (zwk_c (zwk_n zwk_e)))))))))
          refine q_if_eq C 85 dX12_calls_79 (n := 82) rfl rfl (by omega) (fun h320 => ?_) (fun h320 => ?_)
          · exact zK.weak (J_221 u43 (by omega) (by omega)) (zwk_c (zwk_c (zwk_c (zwk_c (zwk_c (zwk_c (zwk_c (zwk_c (zwk_n zwk_e)))))))))
          · refine q_iinc C [.ref (w.2.1 + a), zi v1, zi v2, zi u42, zi (u43 + 1), zi (M a 59), zi u44, zi x192, .null] dX12_calls_82 (n := 85) rfl rfl rfl rfl ?_
            exact zK.weak (J_221 (u43 + 1) (by omega) (by omega)) (zwk_c (zwk_c (zwk_c (zwk_c (zwk_c (zwk_c (zwk_c (zwk_c (zwk_n zwk_e)))))))))
        · refine q_aload_n C dX12_calls_60 (n := 61) rfl rfl ?_
          refine q_iconst C dX12_calls_61 (n := 62) rfl ?_
          refine q_iload_n C dX12_calls_62 (n := 63) rfl rfl ?_
          refine q_callVi C dX12_calls_63 (n := 66) rfl m_X12_376 v_yX12_badAt (zM0 h0) ⟨by decide, rfl⟩ (c_X12_badAt (w := w) (J := J189) hI190 hF h0 3 v1 (by omega) (by omega)) (Nat.le_of_ble_eq_true rfl) rfl rfl (Nat.le_of_ble_eq_true rfl) ⟨Nat.le_refl _, Nat.le_refl _⟩ (fun x327 M323 J324  hI325 h326 => ?_)
          obtain ⟨hk328, h321, h322⟩ := h326
          have hK329 := hK194.tr hk328 rfl rfl rfl
          have hp330 : zMa M323 a mb mp := p3.cg (fun j j0 j1 => ((hk328.getW rfl rfl (by omega)).trans ((hk193.getA rfl rfl rfl).trans ((hK50.getA rfl rfl rfl).trans ((zup_p e28 (by omega) _).trans ((zup_p e14 (by omega) _).trans (hk8.getA rfl rfl rfl))))))) (fun j => ((hk328.getA rfl rfl rfl).trans ((hk193.getA rfl rfl rfl).trans ((hK50.getA rfl rfl rfl).trans ((zup_p e28 (by omega) _).trans ((zup_p e14 (by omega) _).trans (hk8.getA rfl rfl rfl)))))))
          exact q_zret C dX12_calls_66 ⟨rfl, rfl⟩ (by omega) (by rw [hPo]; exact ⟨x327, M323, J324, rfl, rfl, hI325, hK329, by omega, Or.inl (by omega), Or.inl (by omega), hp330, by have hz331 : M323 (a + 18) 3 = M (a + 18) 3 := ((hk328.getP rfl rfl rfl).trans ((hk193.getA rfl rfl rfl).trans ((hK50.getA rfl rfl rfl).trans ((zup_p e28 (by omega) _).trans ((zup_p e14 (by omega) _).trans (hk8.getA rfl rfl rfl)))))); omega, (Or.inl (by omega))⟩)
  have hm332 : zMu M27 a n = zMu M4 a n := zMu_cg (fun j => ((zup_p e28 (by omega) _).trans (zup_p e14 (by omega) _))) (fun j => ((zup_p e28 (by omega) _).trans (zup_p e14 (by omega) _))) (fun j => ((zup_p e28 (by omega) _).trans (zup_p e14 (by omega) _))) ((zup_p e28 (by omega) _).trans (zup_p e14 (by omega) _)) ((zup_p e28 (by omega) _).trans (zup_p e14 (by omega) _)) ((zup_p e28 (by omega) _).trans (zup_p e14 (by omega) _))
  have hp335 : zV M27 a wt 0 := hv10.cg ((zup_p e28 (by omega) _).trans (zup_p e14 (by omega) _)) ((zup_p e28 (by omega) _).trans (zup_p e14 (by omega) _)) ((zup_p e28 (by omega) _).trans (zup_p e14 (by omega) _)) ((zup_p e28 (by omega) _).trans (zup_p e14 (by omega) _)) ((zup_p e28 (by omega) _).trans (zup_p e14 (by omega) _)) (fun j => ((zup_p e28 (by omega) _).trans (zup_p e14 (by omega) _))) (fun j => ((zup_p e28 (by omega) _).trans (zup_p e14 (by omega) _))) (fun j => ((zup_p e28 (by omega) _).trans (zup_p e14 (by omega) _))) (fun j => ((zup_p e28 (by omega) _).trans (zup_p e14 (by omega) _))) (fun j => ((zup_p e28 (by omega) _).trans (zup_p e14 (by omega) _))) (fun j => ((zup_p e28 (by omega) _).trans (zup_p e14 (by omega) _)))
  exact zK.weak (L_59 _ 0 1 0 M27 J5 hI29 hK30 (zMd.rf : zMd a [24, 33, 40] [58, 59] [] M27 M27) (by omega) (by omega) (by omega) (by have hz333 : M27 a n = M4 a n := ((zup_p e28 (by omega) _).trans (zup_p e14 (by omega) _)); omega) (by have hz334 : M27 a n = M4 a n := ((zup_p e28 (by omega) _).trans (zup_p e14 (by omega) _)); omega) (zX.drop hx40 (by omega) (by omega) (by omega)) hp41 hp335 (Int.self_le_toNat _)) (zwk_c (zwk_c (zwk_c (zwk_c (zwk_c (zwk_c (zwk_c (zwk_n (zwk_n zwk_e)))))))))
