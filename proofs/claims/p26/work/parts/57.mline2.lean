theorem c_X12_includes {w : zWp} {T : zTl} {M : zMm} {J : zJm} {R : zRm'} {G : zGt} {F : zRm'} {a : Nat} (hI : zI G M) (hF : zF F R) (h0 : zModel T F G a) (p1 : zGr M a 1) (p2 : zMe M a) (p3 : zFi M a) (p4 : 0 ≤ M a 28 ∧ M a 28 ≤ 3 ∧ 0 ≤ M a 29 ∧ M a 29 ≤ 39 ∧ M a 29 < M (a + 2) (4 + M a 28)) (p5 : 0 ≤ M (a + 18) 3 ∧ M (a + 18) 3 ≤ 12) : zCt w 7 0 0 yX12_includes cX12_includes 5 (some .boolean) [.ref (w.2.1 + a)] (T, M, J, R) (zPi T R G (fun x M2 => (zMd a [9, 10, 11, 12, 13, 14, 15, 16, 17, 22, 51, 52, 53] [11, 23, 24, 25, 26, 27, 28, 29, 34, 88, 101] [(18, 3), (18, 4), (18, 5), (18, 11), (18, 12), (18, 13), (18, 14)] M M2) ∧ (x = 0 ∨ x = 1) ∧ (x = 0 ∨ zGr M2 a 0) ∧ (zMe M2 a) ∧ (0 ≤ M2 (a + 18) 3 ∧ M2 (a + 18) 3 ≤ 12) ∧ (x = 0 ∨ zRu M2 a ≤ zRu M a))) := by
  refine zCt.of rfl (Nat.le_of_ble_eq_true rfl) ?_
  intro p e s m args below meth c C
  obtain ⟨Po, hPo⟩ : ∃ Po, Po = zPi T R G (fun x M2 => (zMd a [9, 10, 11, 12, 13, 14, 15, 16, 17, 22, 51, 52, 53] [11, 23, 24, 25, 26, 27, 28, 29, 34, 88, 101] [(18, 3), (18, 4), (18, 5), (18, 11), (18, 12), (18, 13), (18, 14)] M M2) ∧ (x = 0 ∨ x = 1) ∧ (x = 0 ∨ zGr M2 a 0) ∧ (zMe M2 a) ∧ (0 ≤ M2 (a + 18) 3 ∧ M2 (a + 18) 3 ≤ 12) ∧ (x = 0 ∨ zRu M2 a ≤ zRu M a)) := ⟨_, rfl⟩
  rw [← hPo]
  have hK0 : zMd a [9, 10, 11, 12, 13, 14, 15, 16, 17, 22, 51, 52, 53] [11, 23, 24, 25, 26, 27, 28, 29, 34, 88, 101] [(18, 3), (18, 4), (18, 5), (18, 11), (18, 12), (18, 13), (18, 14)] M M := zMd.rf
  have gk_deep := zI.at hI (zM201 h0)
  have gk_groups := zI.at hI (zM202 h0)
  have gg := zGr.num p1 rfl
  show zK w p e 7 0 0 s m args below meth c 5 T Po 0 [.ref (w.2.1 + a), .null, .null, .null, .null] [] (T, M, J, R)
  refine q_aload_n C dX12_includes_0 (n := 1) rfl rfl ?_
  have g1 := zI.at hI (zM58 h0)
  refine q_getI C dX12_includes_1 (n := 4) rfl f_X12_355 (zM0 h0) (v := M a 23) rfl ?_
  refine q_iconst C dX12_includes_4 (n := 5) rfl ?_
  have J_2 : zK w p e 7 0 0 s m args below meth c 5 T Po 28 [.ref (w.2.1 + a), .null, .null, .null, .null] [] (T, M, J, R) := by
    refine q_aload_n C dX12_includes_28 (n := 29) rfl rfl ?_
    refine q_iconst C dX12_includes_29 (n := 30) rfl ?_
    refine q_iconst C dX12_includes_30 (n := 31) rfl ?_
    refine q_callVi C dX12_includes_31 (n := 34) rfl m_X12_430 v_yX12_badToken (zM0 h0) ⟨by decide, rfl⟩ (c_X12_badToken (w := w) (J := J) hI hF h0 2 2 (by omega) (by omega)) (Nat.le_of_ble_eq_true rfl) rfl rfl (Nat.le_of_ble_eq_true rfl) ⟨Nat.le_refl _, Nat.le_refl _⟩ (fun x9 M5 J6  hI7 h8 => ?_)
    obtain ⟨hk10, h3, h4⟩ := h8
    have hK11 := hK0.tr hk10 rfl rfl rfl
    have hp12 : zMe M5 a := p2.cg (fun j j0 j1 => (hk10.getW rfl rfl (by omega))) (fun j => (hk10.getA rfl rfl rfl))
    exact q_zret C dX12_includes_34 ⟨rfl, rfl⟩ (by omega) (by rw [hPo]; exact ⟨x9, M5, J6, rfl, rfl, hI7, hK11, by omega, Or.inl (by omega), hp12, (by have hw : M5 (a + 18) 3 = M (a + 18) 3 := (hk10.getP rfl rfl rfl); omega), Or.inl (by omega)⟩)
  refine q_icmp_eq C 28 dX12_includes_5 (n := 8) rfl rfl (by omega) (fun h13 => ?_) (fun h13 => ?_)
  · exact zK.weak (J_2) (zwk_c (zwk_n (zwk_n (zwk_n (zwk_n zwk_e)))))
  · refine q_aload_n C dX12_includes_8 (n := 9) rfl rfl ?_
    refine q_getR C dX12_includes_9 (n := 12) rfl f_X12_40 (zM0 h0) (hF _ _ _ (zM31 h0)) ?_
    refine q_iconst C dX12_includes_12 (n := 13) rfl ?_
    have g14 := zI.at hI ((zM33 h0) 2)
    refine q_iald C dX12_includes_13 (n := 14) rfl (zM32 h0) (by omega) (v := M (a + 9) 2) rfl ?_
    refine q_iconst C dX12_includes_14 (n := 15) rfl ?_
    refine q_icmp_ne C 28 dX12_includes_15 (n := 18) rfl rfl (by omega) (fun h15 => ?_) (fun h15 => ?_)
    · exact zK.weak (J_2) (zwk_c (zwk_n (zwk_n (zwk_n (zwk_n zwk_e)))))
    · refine q_aload_n C dX12_includes_18 (n := 19) rfl rfl ?_
      refine q_getR C dX12_includes_19 (n := 22) rfl f_X12_46 (zM0 h0) (hF _ _ _ (zM37 h0)) ?_
      refine q_iconst C dX12_includes_22 (n := 23) rfl ?_
      have g16 := zI.at hI ((zM39 h0) 2)
      refine q_iald C dX12_includes_23 (n := 24) rfl (zM38 h0) (by omega) (v := M (a + 11) 2) rfl ?_
      refine q_iconst C dX12_includes_24 (n := 25) rfl ?_
      refine q_icmp_le C 35 dX12_includes_25 (n := 28) rfl rfl (by omega) (fun h17 => ?_) (fun h17 => ?_)
      · refine q_aload_n C dX12_includes_35 (n := 36) rfl rfl ?_
        refine q_iconst C dX12_includes_36 (n := 37) rfl ?_
        refine q_iconst C dX12_includes_37 (n := 38) rfl ?_
        refine q_callVp C dX12_includes_38 (n := 41) rfl m_X12_370 v_yX12_byteIn (zM0 h0) ⟨by decide, rfl⟩ (c_X12_byteIn (w := w) (J := J) hI hF h0 2 0 (by omega) (by omega)) (Nat.le_of_ble_eq_true rfl) rfl rfl (Nat.le_of_ble_eq_true rfl) ⟨Nat.le_refl _, Nat.le_refl _⟩ (fun x19 h20 => ?_)
        refine q_bipush C dX12_includes_41 (n := 43) rfl (x := 48) (by decide) ?_
        refine q_isub C dX12_includes_43 (n := 44) rfl (v := x19 - 48) rfl ?_
        refine q_istore_n C [.ref (w.2.1 + a), zi (x19 - 48), .null, .null, .null] dX12_includes_44 (n := 45) rfl rfl rfl ?_
        refine q_aload_n C dX12_includes_45 (n := 46) rfl rfl ?_
        have g21 := zI.at hI (zM63 h0)
        refine q_getI C dX12_includes_46 (n := 49) rfl f_X12_379 (zM0 h0) (v := M a 28) rfl ?_
        refine q_istore_n C [.ref (w.2.1 + a), zi (x19 - 48), zi (M a 28), .null, .null] dX12_includes_49 (n := 50) rfl rfl rfl ?_
        refine q_aload_n C dX12_includes_50 (n := 51) rfl rfl ?_
        have g22 := zI.at hI (zM64 h0)
        refine q_getI C dX12_includes_51 (n := 54) rfl f_X12_382 (zM0 h0) (v := M a 29) rfl ?_
        refine q_istore_n C [.ref (w.2.1 + a), zi (x19 - 48), zi (M a 28), zi (M a 29), .null] dX12_includes_54 (n := 55) rfl rfl rfl ?_
        refine q_aload_n C dX12_includes_55 (n := 56) rfl rfl ?_
        refine q_iload_n C dX12_includes_56 (n := 57) rfl rfl ?_
        refine q_callVp C dX12_includes_57 (n := 60) rfl m_X12_281 v_yX12_isFile (zM0 h0) ⟨by decide, rfl⟩ (c_X12_isFile (w := w) (J := J) hI hF h0 (x19 - 48) (by omega)) (Nat.le_of_ble_eq_true rfl) rfl rfl (Nat.le_of_ble_eq_true rfl) ⟨Nat.le_refl _, Nat.le_refl _⟩ (fun x25 h26 => ?_)
        obtain ⟨h23, h24⟩ := h26
        refine q_if_ne C 71 dX12_includes_60 (n := 63) rfl rfl (by omega) (fun h27 => ?_) (fun h27 => ?_)
        · refine q_aload_n C dX12_includes_71 (n := 72) rfl rfl ?_
          refine q_iload_n C dX12_includes_72 (n := 73) rfl rfl ?_
          refine q_callVi C dX12_includes_73 (n := 76) rfl m_X12_364 v_yX12_guardOf (zM0 h0) ⟨by decide, rfl⟩ (c_X12_guardOf (w := w) (J := J) hI hF h0 (x19 - 48) p3 (by omega)) (Nat.le_of_ble_eq_true rfl) rfl rfl (Nat.le_of_ble_eq_true rfl) ⟨Nat.le_refl _, Nat.le_refl _⟩ (fun x33 M29 J30  hI31 h32 => ?_)
          obtain ⟨hk34, h28⟩ := h32
          have hK35 := hK0.tr hk34 rfl rfl rfl
          have J_39 : ∀ (u36 : Int), (-2147483648 ≤ u36 ∧ u36 ≤ 2147483647) → (u36 = 0 ∨ u36 = 1) → zK w p e 7 0 0 s m args below meth c 5 T Po 92 [.ref (w.2.1 + a), zi (x19 - 48), zi (M a 28), zi (M a 29), .null] [zi u36] (T, M29, J30, R) := by
            intro u36 h37 h38
            refine q_istore C [.ref (w.2.1 + a), zi (x19 - 48), zi (M a 28), zi (M a 29), zi u36] dX12_includes_92 (n := 94) rfl rfl rfl ?_
            refine q_aload_n C dX12_includes_94 (n := 95) rfl rfl ?_
            refine q_iload_n C dX12_includes_95 (n := 96) rfl rfl ?_
            refine q_iload_n C dX12_includes_96 (n := 97) rfl rfl ?_
            have hp40 : zFi M29 a := p3.cg (fun j => (hk34.getA rfl rfl rfl))
            refine q_callVi C dX12_includes_97 (n := 100) rfl m_X12_352 v_yX12_lexes (zM0 h0) ⟨by decide, rfl⟩ (c_X12_lexes (w := w) (J := J30) hI31 hF h0 (M a 28) (M a 29) hp40 (by omega) (by have hz41 : M29 (a + 2) (4 + (M a 28)) = M (a + 2) (4 + (M a 28)) := (hk34.getA rfl rfl rfl); omega)) (Nat.le_of_ble_eq_true rfl) rfl rfl (Nat.le_of_ble_eq_true rfl) ⟨Nat.le_refl _, Nat.le_refl _⟩ (fun x53 M49 J50  hI51 h52 => ?_)
            obtain ⟨hk54, h42, h43, h44, h45, h46, h47, h48⟩ := h52
            have hK55 := hK35.tr hk54 rfl rfl rfl
            refine q_pop C dX12_includes_100 (n := 101) rfl rfl ?_
            refine q_iload C dX12_includes_101 (n := 103) rfl rfl ?_
            have J_57 : (¬ u36 = 0 ∨ (¬ M a 88 = 6 ∧ ¬ M (a + 18) 3 = 12)) → zK w p e 7 0 0 s m args below meth c 5 T Po 134 [.ref (w.2.1 + a), zi (x19 - 48), .null, .null, zi u36] [] (T, M49, J50, R) := by
              intro h56
              refine q_aload_n C dX12_includes_134 (n := 135) rfl rfl ?_
              refine q_iconst C dX12_includes_135 (n := 136) rfl ?_
              refine q_callVi C dX12_includes_136 (n := 139) rfl m_X12_654 v_yX12_isNothing (zM0 h0) ⟨by decide, rfl⟩ (c_X12_isNothing (w := w) (J := J50) hI51 hF h0 3 (by omega)) (Nat.le_of_ble_eq_true rfl) rfl rfl (Nat.le_of_ble_eq_true rfl) ⟨Nat.le_refl _, Nat.le_refl _⟩ (fun x63 M59 J60  hI61 h62 => ?_)
              obtain ⟨hk64, h58⟩ := h62
              have hK65 := hK55.tr hk64 rfl rfl rfl
              refine q_if_ne C 144 dX12_includes_139 (n := 142) rfl rfl (by omega) (fun h66 => ?_) (fun h66 => ?_)
              · refine q_iload C dX12_includes_144 (n := 146) rfl rfl ?_
                refine q_if_eq C 161 dX12_includes_146 (n := 149) rfl rfl (by omega) (fun h67 => ?_) (fun h67 => ?_)
                · refine q_aload_n C dX12_includes_161 (n := 162) rfl rfl ?_
                  refine q_getR C dX12_includes_162 (n := 165) rfl f_X12_68 (zM0 h0) (hF _ _ _ (zM65 h0)) ?_
                  refine q_iconst C dX12_includes_165 (n := 166) rfl ?_
                  refine q_dup2 C dX12_includes_166 (n := 167) rfl ⟨rfl, rfl⟩ ?_
                  have g68 := zI.at hI (((zM67 h0) 3).trans (zwG_1 (by omega)))
                  refine q_iald C dX12_includes_167 (n := 168) rfl (zM66 h0) (by omega) (v := M (a + 18) 3) ((hk64.getP rfl rfl rfl).trans ((hk54.getP rfl rfl rfl).trans (hk34.getP rfl rfl rfl))) ?_
                  refine q_iconst C dX12_includes_168 (n := 169) rfl ?_
                  refine q_iadd C dX12_includes_169 (n := 170) rfl (v := (M (a + 18) 3) + 1) rfl ?_
                  refine q_wrap C ?_
                  have g69 := zr_wr ((M (a + 18) 3) + 1)
                  refine q_iast C dX12_includes_170 (n := 171) rfl (zM66 h0) (by omega)  (fun M70 e71 => ?_)
                  have hp72 : zMe M59 a := p2.cg (fun j j0 j1 => ((hk64.getW rfl rfl (by omega)).trans ((hk54.getW rfl rfl (by omega)).trans (hk34.getW rfl rfl (by omega))))) (fun j => ((hk64.getA rfl rfl rfl).trans ((hk54.getA rfl rfl rfl).trans (hk34.getA rfl rfl rfl))))
                  have hp73 : zMe M70 a := hp72.up e71 (by omega)
                  have hI74 : zI G M70 := hI61.put e71 (((zM67 h0) 3).trans (zwG_1 (by omega))) rfl (by omega)
                  have hK75 := hK65.upP e71 rfl
                  refine q_aload_n C dX12_includes_171 (n := 172) rfl rfl ?_
                  refine q_dup C dX12_includes_172 (n := 173) rfl rfl ?_
                  have g76 := zI.at hI (zM201 h0)
                  refine q_getI C dX12_includes_173 (n := 176) rfl f_X12_645 (zM0 h0) (v := M a 88) ((zup_p e71 (by omega) _).trans ((hk64.getS rfl rfl).trans ((hk54.getS rfl rfl).trans (hk34.getS rfl rfl)))) ?_
                  refine q_iconst C dX12_includes_176 (n := 177) rfl ?_
                  refine q_iadd C dX12_includes_177 (n := 178) rfl (v := (M a 88) + 1) rfl ?_
                  refine q_putI C dX12_includes_178 (n := 181) rfl f_X12_645 (zM0 h0) ⟨rfl, rfl⟩ (fun M77 (e78 : M77 = zup M70 a 88 ((M a 88) + 1)) => ?_)
                  have hI79 : zI G M77 := hI74.put e78 (zM201 h0) rfl (by omega)
                  have hK80 := hK75.upS e78 rfl
                  refine q_aload_n C dX12_includes_181 (n := 182) rfl rfl ?_
                  refine q_getI C dX12_includes_182 (n := 185) rfl f_X12_645 (zM0 h0) (v := (M a 88) + 1) (zup_s e78) ?_
                  refine q_aload_n C dX12_includes_185 (n := 186) rfl rfl ?_
                  refine q_getR C dX12_includes_186 (n := 189) rfl f_X12_68 (zM0 h0) (hF _ _ _ (zM65 h0)) ?_
                  refine q_iconst C dX12_includes_189 (n := 190) rfl ?_
                  have g81 := zI.at hI (((zM67 h0) 5).trans (zwG_1 (by omega)))
                  refine q_iald C dX12_includes_190 (n := 191) rfl (zM66 h0) (by omega) (v := M (a + 18) 5) ((zup_p e78 (by omega) _).trans ((zup_n e71 (by omega)).trans ((hk64.getP rfl rfl rfl).trans ((hk54.getP rfl rfl rfl).trans (hk34.getP rfl rfl rfl))))) ?_
                  have J_88 : ∀ (M83 : zMm) (J84 : zJm), zI G M83 → zMd a [9, 10, 11, 12, 13, 14, 15, 16, 17, 22, 51, 52, 53] [11, 23, 24, 25, 26, 27, 28, 29, 34, 88, 101] [(18, 3), (18, 4), (18, 5), (18, 11), (18, 12), (18, 13), (18, 14)] M M83 → zMd a [] [] [(18, 5)] M77 M83 → zK w p e 7 0 0 s m args below meth c 5 T Po 204 [.ref (w.2.1 + a), zi (x19 - 48), .null, .null, .null] [] (T, M83, J84, R) := by
                    intro M83 J84 hI85 hK86 hK87
                    refine q_aload_n C dX12_includes_204 (n := 205) rfl rfl ?_
                    refine q_getR C dX12_includes_205 (n := 208) rfl f_X12_169 (zM0 h0) (hF _ _ _ (zM177 h0)) ?_
                    refine q_aload_n C dX12_includes_208 (n := 209) rfl rfl ?_
                    refine q_getI C dX12_includes_209 (n := 212) rfl f_X12_645 (zM0 h0) (v := (M a 88) + 1) ((hK87.getS rfl rfl).trans (zup_s e78)) ?_
                    refine q_iload_n C dX12_includes_212 (n := 213) rfl rfl ?_
                    refine q_iast C dX12_includes_213 (n := 214) rfl (zM178 h0) (by omega)  (fun M89 e90 => ?_)
                    have hI91 : zI G M89 := hI85.put e90 ((zM179 h0) ((M a 88) + 1)) rfl (by omega)
                    have hK92 := hK86.upA e90 rfl
                    refine q_aload_n C dX12_includes_214 (n := 215) rfl rfl ?_
                    refine q_getR C dX12_includes_215 (n := 218) rfl f_X12_172 (zM0 h0) (hF _ _ _ (zM180 h0)) ?_
                    refine q_aload_n C dX12_includes_218 (n := 219) rfl rfl ?_
                    refine q_getI C dX12_includes_219 (n := 222) rfl f_X12_645 (zM0 h0) (v := (M a 88) + 1) ((zup_p e90 (by omega) _).trans ((hK87.getS rfl rfl).trans (zup_s e78))) ?_
                    refine q_iconst C dX12_includes_222 (n := 223) rfl ?_
                    refine q_iast C dX12_includes_223 (n := 224) rfl (zM181 h0) (by omega)  (fun M93 e94 => ?_)
                    have hI95 : zI G M93 := hI91.put e94 ((zM182 h0) ((M a 88) + 1)) rfl (by omega)
                    have hK96 := hK92.upA e94 rfl
                    refine q_aload_n C dX12_includes_224 (n := 225) rfl rfl ?_
                    refine q_getR C dX12_includes_225 (n := 228) rfl f_X12_175 (zM0 h0) (hF _ _ _ (zM183 h0)) ?_
                    refine q_aload_n C dX12_includes_228 (n := 229) rfl rfl ?_
                    refine q_getI C dX12_includes_229 (n := 232) rfl f_X12_645 (zM0 h0) (v := (M a 88) + 1) ((zup_p e94 (by omega) _).trans ((zup_p e90 (by omega) _).trans ((hK87.getS rfl rfl).trans (zup_s e78)))) ?_
                    refine q_aload_n C dX12_includes_232 (n := 233) rfl rfl ?_
                    have g97 := zI.at hI (zM202 h0)
                    refine q_getI C dX12_includes_233 (n := 236) rfl f_X12_642 (zM0 h0) (v := M a 89) ((zup_p e94 (by omega) _).trans ((zup_p e90 (by omega) _).trans ((hK87.getS rfl rfl).trans ((zup_n e78 (by omega)).trans ((zup_p e71 (by omega) _).trans ((hk64.getS rfl rfl).trans ((hk54.getS rfl rfl).trans (hk34.getS rfl rfl)))))))) ?_
                    refine q_iast C dX12_includes_236 (n := 237) rfl (zM184 h0) (by omega)  (fun M98 e99 => ?_)
                    have hI100 : zI G M98 := hI95.put e99 ((zM185 h0) ((M a 88) + 1)) rfl (by omega)
                    have hK101 := hK96.upA e99 rfl
                    refine q_aload_n C dX12_includes_237 (n := 238) rfl rfl ?_
                    refine q_iconst C dX12_includes_238 (n := 239) rfl ?_
                    refine q_putZ C dX12_includes_239 (n := 242) rfl f_X12_661 (zM0 h0) ⟨rfl, rfl⟩ (by omega) (fun M102 (e103 : M102 = zup M98 a 101 1) => ?_)
                    have hI104 : zI G M102 := hI100.put e103 (zM232 h0) rfl (by omega)
                    have hK105 := hK101.upS e103 rfl
                    have gwr : zwr ((M (a + 18) 3) + 1) = (M (a + 18) 3) + 1 := zto ⟨by omega, by omega⟩
                    have gt106 := zI.at hI104 (((zM9 h0) (4 + (x19 - 48))).trans (zfG_4 (by omega)))
                    have hp107 : zGr M102 a 0 := p1.enter (k := 0) (by omega) (fun j => ((zup_p e103 (by omega) _).trans ((zup_p e99 (by omega) _).trans ((zup_p e94 (by omega) _).trans ((zup_p e90 (by omega) _).trans ((hK87.getA rfl rfl rfl).trans ((zup_p e78 (by omega) _).trans ((zup_p e71 (by omega) _).trans ((hk64.getA rfl rfl rfl).trans ((hk54.getA rfl rfl rfl).trans (hk34.getA rfl rfl rfl))))))))))) ((zup_n e103 (by omega)).trans ((zup_p e99 (by omega) _).trans ((zup_p e94 (by omega) _).trans ((zup_p e90 (by omega) _).trans ((hK87.getS rfl rfl).trans (zup_s e78)))))) ((zup_n e103 (by omega)).trans ((zup_p e99 (by omega) _).trans ((zup_p e94 (by omega) _).trans ((zup_p e90 (by omega) _).trans ((hK87.getS rfl rfl).trans ((zup_n e78 (by omega)).trans ((zup_p e71 (by omega) _).trans ((hk64.getS rfl rfl).trans ((hk54.getS rfl rfl).trans (hk34.getS rfl rfl)))))))))) (fun j => ((zup_p e103 (by omega) _).trans ((zup_p e99 (by omega) _).trans ((zup_p e94 (by omega) _).trans ((zup_p e90 (by omega) _).trans ((hK87.getA rfl rfl rfl).trans ((zup_p e78 (by omega) _).trans ((zup_p e71 (by omega) _).trans ((hk64.getA rfl rfl rfl).trans ((hk54.getA rfl rfl rfl).trans (hk34.getA rfl rfl rfl))))))))))) (fun j hj => ((zup_p e103 (by omega) _).trans ((zup_p e99 (by omega) _).trans ((zup_p e94 (by omega) _).trans ((zup_n e90 (by omega)).trans ((hK87.getA rfl rfl rfl).trans ((zup_p e78 (by omega) _).trans ((zup_p e71 (by omega) _).trans ((hk64.getA rfl rfl rfl).trans ((hk54.getA rfl rfl rfl).trans (hk34.getA rfl rfl rfl))))))))))) (fun j hj => ((zup_p e103 (by omega) _).trans ((zup_p e99 (by omega) _).trans ((zup_n e94 (by omega)).trans ((zup_p e90 (by omega) _).trans ((hK87.getA rfl rfl rfl).trans ((zup_p e78 (by omega) _).trans ((zup_p e71 (by omega) _).trans ((hk64.getA rfl rfl rfl).trans ((hk54.getA rfl rfl rfl).trans (hk34.getA rfl rfl rfl))))))))))) (fun j hj => ((zup_p e103 (by omega) _).trans ((zup_n e99 (by omega)).trans ((zup_p e94 (by omega) _).trans ((zup_p e90 (by omega) _).trans ((hK87.getA rfl rfl rfl).trans ((zup_p e78 (by omega) _).trans ((zup_p e71 (by omega) _).trans ((hk64.getA rfl rfl rfl).trans ((hk54.getA rfl rfl rfl).trans (hk34.getA rfl rfl rfl))))))))))) ((zup_p e103 (by omega) _).trans ((zup_p e99 (by omega) _).trans (zup_s e94))) (by have hw : M102 (a + 53) (M a 88 + 1) = M a 89 := ((zup_p e103 (by omega) _).trans (zup_s e99)); omega) (by rw [show M102 (a + 51) (M a 88 + 1) = x19 - 48 from ((zup_p e103 (by omega) _).trans ((zup_p e99 (by omega) _).trans ((zup_p e94 (by omega) _).trans (zup_s e90))))]; omega)
                    refine q_iconst C dX12_includes_242 (n := 243) rfl ?_
                    have hp108 : zMe M102 a := hp73.cg (fun j j0 j1 => ((zup_p e103 (by omega) _).trans ((zup_p e99 (by omega) _).trans ((zup_p e94 (by omega) _).trans ((zup_p e90 (by omega) _).trans ((hK87.getW rfl rfl (by omega)).trans (zup_p e78 (by omega) _))))))) (fun j => ((zup_p e103 (by omega) _).trans ((zup_p e99 (by omega) _).trans ((zup_p e94 (by omega) _).trans ((zup_p e90 (by omega) _).trans ((hK87.getA rfl rfl rfl).trans (zup_p e78 (by omega) _)))))))
                    exact q_zret C dX12_includes_243 ⟨rfl, rfl⟩ (by omega) (by rw [hPo]; exact ⟨1, M102, J84, rfl, rfl, hI104, hK105, by omega, Or.inr hp107, hp108, (by have hw : M102 (a + 18) 3 = zwr ((M (a + 18) 3) + 1) := ((zup_p e103 (by omega) _).trans ((zup_p e99 (by omega) _).trans ((zup_p e94 (by omega) _).trans ((zup_p e90 (by omega) _).trans ((hK87.getP rfl rfl rfl).trans ((zup_p e78 (by omega) _).trans (zup_s e71))))))); omega), Or.inr (zRu_enter (by omega) (by have hw : M102 (a + 18) 3 = zwr ((M (a + 18) 3) + 1) := ((zup_p e103 (by omega) _).trans ((zup_p e99 (by omega) _).trans ((zup_p e94 (by omega) _).trans ((zup_p e90 (by omega) _).trans ((hK87.getP rfl rfl rfl).trans ((zup_p e78 (by omega) _).trans (zup_s e71))))))); omega) ((zup_n e103 (by omega)).trans ((zup_p e99 (by omega) _).trans ((zup_p e94 (by omega) _).trans ((zup_p e90 (by omega) _).trans ((hK87.getS rfl rfl).trans (zup_s e78)))))) (fun j hj => ((zup_p e103 (by omega) _).trans ((zup_p e99 (by omega) _).trans ((zup_n e94 (by omega)).trans ((zup_p e90 (by omega) _).trans ((hK87.getA rfl rfl rfl).trans ((zup_p e78 (by omega) _).trans ((zup_p e71 (by omega) _).trans ((hk64.getA rfl rfl rfl).trans ((hk54.getA rfl rfl rfl).trans (hk34.getA rfl rfl rfl))))))))))) ((zup_p e103 (by omega) _).trans ((zup_p e99 (by omega) _).trans (zup_s e94))))⟩)
                  refine q_icmp_le C 204 dX12_includes_191 (n := 194) rfl rfl (by omega) (fun h109 => ?_) (fun h109 => ?_)
                  · exact zK.weak (J_88 M77 J60 hI79 hK80 (zMd.rf : zMd a [] [] [(18, 5)] M77 M77)) (zwk_c (zwk_c (zwk_n (zwk_n (zwk_n zwk_e)))))
                  · refine q_aload_n C dX12_includes_194 (n := 195) rfl rfl ?_
                    refine q_getR C dX12_includes_195 (n := 198) rfl f_X12_68 (zM0 h0) (hF _ _ _ (zM65 h0)) ?_
                    refine q_iconst C dX12_includes_198 (n := 199) rfl ?_
                    refine q_aload_n C dX12_includes_199 (n := 200) rfl rfl ?_
                    refine q_getI C dX12_includes_200 (n := 203) rfl f_X12_645 (zM0 h0) (v := (M a 88) + 1) (zup_s e78) ?_
                    refine q_wrap C ?_
                    have g110 := zr_wr ((M a 88) + 1)
                    refine q_iast C dX12_includes_203 (n := 204) rfl (zM66 h0) (by omega)  (fun M111 e112 => ?_)
                    have hp113 : zMe M77 a := hp73.cg (fun j j0 j1 => (zup_p e78 (by omega) _)) (fun j => (zup_p e78 (by omega) _))
                    have hp114 : zMe M111 a := hp113.up e112 (by omega)
                    have hI115 : zI G M111 := hI79.put e112 (((zM67 h0) 5).trans (zwG_1 (by omega))) rfl (by omega)
                    have hK116 := hK80.upP e112 rfl
                    have hK117 := (zMd.rf : zMd a [] [] [(18, 5)] M77 M77).upP e112 rfl
                    exact zK.weak (J_88 M111 J60 hI115 hK116 hK117) (zwk_c (zwk_c (zwk_n (zwk_n (zwk_n zwk_e)))))
                · refine q_aload_n C dX12_includes_149 (n := 150) rfl rfl ?_
                  refine q_getR C dX12_includes_150 (n := 153) rfl f_X12_68 (zM0 h0) (hF _ _ _ (zM65 h0)) ?_
                  refine q_iconst C dX12_includes_153 (n := 154) rfl ?_
                  refine q_dup2 C dX12_includes_154 (n := 155) rfl ⟨rfl, rfl⟩ ?_
                  have g118 := zI.at hI (((zM67 h0) 4).trans (zwG_1 (by omega)))
                  refine q_iald C dX12_includes_155 (n := 156) rfl (zM66 h0) (by omega) (v := M (a + 18) 4) ((hk64.getP rfl rfl rfl).trans ((hk54.getP rfl rfl rfl).trans (hk34.getP rfl rfl rfl))) ?_
                  refine q_iconst C dX12_includes_156 (n := 157) rfl ?_
                  refine q_iadd C dX12_includes_157 (n := 158) rfl (v := (M (a + 18) 4) + 1) rfl ?_
                  refine q_wrap C ?_
                  have g119 := zr_wr ((M (a + 18) 4) + 1)
                  refine q_iast C dX12_includes_158 (n := 159) rfl (zM66 h0) (by omega)  (fun M120 e121 => ?_)
                  have hp122 : zMe M59 a := p2.cg (fun j j0 j1 => ((hk64.getW rfl rfl (by omega)).trans ((hk54.getW rfl rfl (by omega)).trans (hk34.getW rfl rfl (by omega))))) (fun j => ((hk64.getA rfl rfl rfl).trans ((hk54.getA rfl rfl rfl).trans (hk34.getA rfl rfl rfl))))
                  have hp123 : zMe M120 a := hp122.up e121 (by omega)
                  have hI124 : zI G M120 := hI61.put e121 (((zM67 h0) 4).trans (zwG_1 (by omega))) rfl (by omega)
                  have hK125 := hK65.upP e121 rfl
                  refine q_iconst C dX12_includes_159 (n := 160) rfl ?_
                  have hp126 : zGr M120 a 1 := p1.cg (fun j => ((zup_p e121 (by omega) _).trans ((hk64.getA rfl rfl rfl).trans ((hk54.getA rfl rfl rfl).trans (hk34.getA rfl rfl rfl))))) (fun j => ((zup_p e121 (by omega) _).trans ((hk64.getA rfl rfl rfl).trans ((hk54.getA rfl rfl rfl).trans (hk34.getA rfl rfl rfl))))) (fun j => ((zup_p e121 (by omega) _).trans ((hk64.getA rfl rfl rfl).trans ((hk54.getA rfl rfl rfl).trans (hk34.getA rfl rfl rfl))))) (fun j => ((zup_p e121 (by omega) _).trans ((hk64.getA rfl rfl rfl).trans ((hk54.getA rfl rfl rfl).trans (hk34.getA rfl rfl rfl))))) (fun j => ((zup_p e121 (by omega) _).trans ((hk64.getA rfl rfl rfl).trans ((hk54.getA rfl rfl rfl).trans (hk34.getA rfl rfl rfl))))) ((zup_p e121 (by omega) _).trans ((hk64.getS rfl rfl).trans ((hk54.getS rfl rfl).trans (hk34.getS rfl rfl)))) ((zup_p e121 (by omega) _).trans ((hk64.getS rfl rfl).trans ((hk54.getS rfl rfl).trans (hk34.getS rfl rfl))))
                  exact q_zret C dX12_includes_160 ⟨rfl, rfl⟩ (by omega) (by rw [hPo]; exact ⟨1, M120, J60, rfl, rfl, hI124, hK125, by omega, Or.inr (hp126.weak (by omega)), hp123, (by have hw : M120 (a + 18) 3 = M (a + 18) 3 := ((zup_n e121 (by omega)).trans ((hk64.getP rfl rfl rfl).trans ((hk54.getP rfl rfl rfl).trans (hk34.getP rfl rfl rfl)))); omega), Or.inr (Int.le_of_eq (zRu_cg ((zup_n e121 (by omega)).trans ((hk64.getP rfl rfl rfl).trans ((hk54.getP rfl rfl rfl).trans (hk34.getP rfl rfl rfl)))) ((zup_p e121 (by omega) _).trans ((hk64.getS rfl rfl).trans ((hk54.getS rfl rfl).trans (hk34.getS rfl rfl)))) (fun j => ((zup_p e121 (by omega) _).trans ((hk64.getA rfl rfl rfl).trans ((hk54.getA rfl rfl rfl).trans (hk34.getA rfl rfl rfl)))))))⟩)
              · refine q_iconst C dX12_includes_142 (n := 143) rfl ?_
                have hp127 : zMe M59 a := p2.cg (fun j j0 j1 => ((hk64.getW rfl rfl (by omega)).trans ((hk54.getW rfl rfl (by omega)).trans (hk34.getW rfl rfl (by omega))))) (fun j => ((hk64.getA rfl rfl rfl).trans ((hk54.getA rfl rfl rfl).trans (hk34.getA rfl rfl rfl))))
                exact q_zret C dX12_includes_143 ⟨rfl, rfl⟩ (by omega) (by rw [hPo]; exact ⟨0, M59, J60, rfl, rfl, hI61, hK65, by omega, Or.inl rfl, hp127, (by have hw : M59 (a + 18) 3 = M (a + 18) 3 := ((hk64.getP rfl rfl rfl).trans ((hk54.getP rfl rfl rfl).trans (hk34.getP rfl rfl rfl))); omega), Or.inl (by omega)⟩)
            refine q_if_ne C 134 dX12_includes_103 (n := 106) rfl rfl (by omega) (fun h128 => ?_) (fun h128 => ?_)
            · exact zK.weak (J_57 (by omega)) (zwk_c (zwk_c (zwk_n (zwk_n (zwk_c zwk_e)))))
            · refine q_aload_n C dX12_includes_106 (n := 107) rfl rfl ?_
              have g129 := zI.at hI (zM201 h0)
              refine q_getI C dX12_includes_107 (n := 110) rfl f_X12_645 (zM0 h0) (v := M a 88) ((hk54.getS rfl rfl).trans (hk34.getS rfl rfl)) ?_
              refine q_bipush C dX12_includes_110 (n := 112) rfl (x := 6) (by decide) ?_
              have J_130 : zK w p e 7 0 0 s m args below meth c 5 T Po 126 [.ref (w.2.1 + a), .null, .null, .null, .null] [] (T, M49, J50, R) := by
                refine q_aload_n C dX12_includes_126 (n := 127) rfl rfl ?_
                refine q_bipush C dX12_includes_127 (n := 129) rfl (x := 11) (by decide) ?_
                refine q_iconst C dX12_includes_129 (n := 130) rfl ?_
                refine q_callVi C dX12_includes_130 (n := 133) rfl m_X12_376 v_yX12_badAt (zM0 h0) ⟨by decide, rfl⟩ (c_X12_badAt (w := w) (J := J50) hI51 hF h0 11 2 (by omega) (by omega)) (Nat.le_of_ble_eq_true rfl) rfl rfl (Nat.le_of_ble_eq_true rfl) ⟨Nat.le_refl _, Nat.le_refl _⟩ (fun x137 M133 J134  hI135 h136 => ?_)
                obtain ⟨hk138, h131, h132⟩ := h136
                have hK139 := hK55.tr hk138 rfl rfl rfl
                have hp140 : zMe M133 a := p2.cg (fun j j0 j1 => ((hk138.getW rfl rfl (by omega)).trans ((hk54.getW rfl rfl (by omega)).trans (hk34.getW rfl rfl (by omega))))) (fun j => ((hk138.getA rfl rfl rfl).trans ((hk54.getA rfl rfl rfl).trans (hk34.getA rfl rfl rfl))))
                exact q_zret C dX12_includes_133 ⟨rfl, rfl⟩ (by omega) (by rw [hPo]; exact ⟨x137, M133, J134, rfl, rfl, hI135, hK139, by omega, Or.inl (by omega), hp140, (by have hw : M133 (a + 18) 3 = M (a + 18) 3 := ((hk138.getP rfl rfl rfl).trans ((hk54.getP rfl rfl rfl).trans (hk34.getP rfl rfl rfl))); omega), Or.inl (by omega)⟩)
              refine q_icmp_eq C 126 dX12_includes_112 (n := 115) rfl rfl (by omega) (fun h141 => ?_) (fun h141 => ?_)
              · exact zK.weak (J_130) (zwk_c (zwk_n (zwk_n (zwk_n (zwk_n zwk_e)))))
              · refine q_aload_n C dX12_includes_115 (n := 116) rfl rfl ?_
                refine q_getR C dX12_includes_116 (n := 119) rfl f_X12_68 (zM0 h0) (hF _ _ _ (zM65 h0)) ?_
                refine q_iconst C dX12_includes_119 (n := 120) rfl ?_
                have g142 := zI.at hI (((zM67 h0) 3).trans (zwG_1 (by omega)))
                refine q_iald C dX12_includes_120 (n := 121) rfl (zM66 h0) (by omega) (v := M (a + 18) 3) ((hk54.getP rfl rfl rfl).trans (hk34.getP rfl rfl rfl)) ?_
                refine q_bipush C dX12_includes_121 (n := 123) rfl (x := 12) (by decide) ?_
                refine q_icmp_ne C 134 dX12_includes_123 (n := 126) rfl rfl (by omega) (fun h143 => ?_) (fun h143 => ?_)
                · exact zK.weak (J_57 (by omega)) (zwk_c (zwk_c (zwk_n (zwk_n (zwk_c zwk_e)))))
                · exact zK.weak (J_130) (zwk_c (zwk_n (zwk_n (zwk_n (zwk_n zwk_e)))))
          have J_144 : zK w p e 7 0 0 s m args below meth c 5 T Po 91 [.ref (w.2.1 + a), zi (x19 - 48), zi (M a 28), zi (M a 29), .null] [] (T, M29, J30, R) := by
            refine q_iconst C dX12_includes_91 (n := 92) rfl ?_
            exact zK.weak (J_39 0 (by omega) (by omega)) (zwk_c (zwk_c (zwk_c (zwk_c (zwk_n zwk_e)))))
          refine q_if_le C 91 dX12_includes_76 (n := 79) rfl rfl (by omega) (fun h145 => ?_) (fun h145 => ?_)
          · exact zK.weak (J_144) (zwk_c (zwk_c (zwk_c (zwk_c (zwk_n zwk_e)))))
          · refine q_aload_n C dX12_includes_79 (n := 80) rfl rfl ?_
            refine q_iconst C dX12_includes_80 (n := 81) rfl ?_
            refine q_callVp C dX12_includes_81 (n := 84) rfl m_X12_436 v_yX12_macroOf (zM0 h0) ⟨by decide, rfl⟩ (c_X12_macroOf (w := w) (J := J30) hI31 hF h0 2 (by omega)) (Nat.le_of_ble_eq_true rfl) rfl rfl (Nat.le_of_ble_eq_true rfl) ⟨Nat.le_refl _, Nat.le_refl _⟩ (fun x147 h148 => ?_)
            have hz149 : M29 (a + 18) 0 = M (a + 18) 0 := (hk34.getP rfl rfl rfl)
            refine q_if_lt C 91 dX12_includes_84 (n := 87) rfl rfl (by omega) (fun h150 => ?_) (fun h150 => ?_)
            · exact zK.weak (J_144) (zwk_c (zwk_c (zwk_c (zwk_c (zwk_n zwk_e)))))
            · refine q_iconst C dX12_includes_87 (n := 88) rfl ?_
              refine q_goto C 92 dX12_includes_88 rfl ?_
              exact zK.weak (J_39 1 (by omega) (by omega)) (zwk_c (zwk_c (zwk_c (zwk_c (zwk_n zwk_e)))))
        · refine q_aload_n C dX12_includes_63 (n := 64) rfl rfl ?_
          refine q_bipush C dX12_includes_64 (n := 66) rfl (x := 11) (by decide) ?_
          refine q_iconst C dX12_includes_66 (n := 67) rfl ?_
          refine q_callVi C dX12_includes_67 (n := 70) rfl m_X12_376 v_yX12_badAt (zM0 h0) ⟨by decide, rfl⟩ (c_X12_badAt (w := w) (J := J) hI hF h0 11 2 (by omega) (by omega)) (Nat.le_of_ble_eq_true rfl) rfl rfl (Nat.le_of_ble_eq_true rfl) ⟨Nat.le_refl _, Nat.le_refl _⟩ (fun x157 M153 J154  hI155 h156 => ?_)
          obtain ⟨hk158, h151, h152⟩ := h156
          have hK159 := hK0.tr hk158 rfl rfl rfl
          have hp160 : zMe M153 a := p2.cg (fun j j0 j1 => (hk158.getW rfl rfl (by omega))) (fun j => (hk158.getA rfl rfl rfl))
          exact q_zret C dX12_includes_70 ⟨rfl, rfl⟩ (by omega) (by rw [hPo]; exact ⟨x157, M153, J154, rfl, rfl, hI155, hK159, by omega, Or.inl (by omega), hp160, (by have hw : M153 (a + 18) 3 = M (a + 18) 3 := (hk158.getP rfl rfl rfl); omega), Or.inl (by omega)⟩)
      · exact zK.weak (J_2) (zwk_c (zwk_n (zwk_n (zwk_n (zwk_n zwk_e)))))
theorem c_X12_doesDirective {w : zWp} {T : zTl} {M : zMm} {J : zJm} {R : zRm'} {G : zGt} {F : zRm'} {a : Nat} (hI : zI G M) (hF : zF F R) (h0 : zModel T F G a) (v1 : Int) (p1 : zGr M a 1) (p2 : zMe M a) (p3 : zFi M a) (p4 : zLy M a 440) (p5 : M a 26 = 3500 ∧ M a 25 = 440 ∧ 0 ≤ M a 24 ∧ M a 24 ≤ 440) (p6 : 0 ≤ M a 28 ∧ M a 28 ≤ 3 ∧ 0 ≤ M a 29 ∧ M a 29 ≤ 39 ∧ M a 29 < M (a + 2) (4 + M a 28)) (p7 : 0 ≤ M (a + 18) 3 ∧ M (a + 18) 3 ≤ 12) (p8 : 0 ≤ v1 ∧ v1 ≤ 39) (p9 : v1 < M (a + 2) (4 + M (a + 51) (M a 88))) : zCt w 10 0 0 yX12_doesDirective cX12_doesDirective 3 (some .boolean) [.ref (w.2.1 + a), zi v1] (T, M, J, R) (zPi T R G (fun x M2 => (zMd a [9, 10, 11, 12, 13, 14, 15, 16, 17, 18, 20, 22, 23, 24, 25, 26, 27, 28, 29, 30, 31, 32, 33, 34, 35, 36, 37, 38, 39, 40, 41, 42, 43, 44, 45, 46, 47, 48, 51, 52, 53, 54, 55, 56, 57, 58] [11, 23, 24, 25, 26, 27, 28, 29, 34, 37, 57, 58, 59, 60, 61, 62, 63, 64, 65, 74, 75, 76, 78, 88, 89, 101] [] M M2) ∧ (x = 0 ∨ x = 1) ∧ (x = 0 ∨ zGr M2 a 0) ∧ (zMe M2 a) ∧ (0 ≤ M2 (a + 18) 3 ∧ M2 (a + 18) 3 ≤ 12) ∧ (x = 0 ∨ zRu M2 a ≤ zRu M a))) := by
  refine zCt.of rfl (Nat.le_of_ble_eq_true rfl) ?_
  intro p e s m args below meth c C
  obtain ⟨Po, hPo⟩ : ∃ Po, Po = zPi T R G (fun x M2 => (zMd a [9, 10, 11, 12, 13, 14, 15, 16, 17, 18, 20, 22, 23, 24, 25, 26, 27, 28, 29, 30, 31, 32, 33, 34, 35, 36, 37, 38, 39, 40, 41, 42, 43, 44, 45, 46, 47, 48, 51, 52, 53, 54, 55, 56, 57, 58] [11, 23, 24, 25, 26, 27, 28, 29, 34, 37, 57, 58, 59, 60, 61, 62, 63, 64, 65, 74, 75, 76, 78, 88, 89, 101] [] M M2) ∧ (x = 0 ∨ x = 1) ∧ (x = 0 ∨ zGr M2 a 0) ∧ (zMe M2 a) ∧ (0 ≤ M2 (a + 18) 3 ∧ M2 (a + 18) 3 ≤ 12) ∧ (x = 0 ∨ zRu M2 a ≤ zRu M a)) := ⟨_, rfl⟩
  rw [← hPo]
  have hK0 : zMd a [9, 10, 11, 12, 13, 14, 15, 16, 17, 18, 20, 22, 23, 24, 25, 26, 27, 28, 29, 30, 31, 32, 33, 34, 35, 36, 37, 38, 39, 40, 41, 42, 43, 44, 45, 46, 47, 48, 51, 52, 53, 54, 55, 56, 57, 58] [11, 23, 24, 25, 26, 27, 28, 29, 34, 37, 57, 58, 59, 60, 61, 62, 63, 64, 65, 74, 75, 76, 78, 88, 89, 101] [] M M := zMd.rf
  have gk_tokens := zI.at hI (zM58 h0)
  have gk_groups := zI.at hI (zM202 h0)
  have gg := zGr.num p1 rfl
  show zK w p e 10 0 0 s m args below meth c 3 T Po 0 [.ref (w.2.1 + a), zi v1, .null] [] (T, M, J, R)
  refine q_aload_n C dX12_doesDirective_0 (n := 1) rfl rfl ?_
  have g1 := zI.at hI (zM58 h0)
  refine q_getI C dX12_doesDirective_1 (n := 4) rfl f_X12_355 (zM0 h0) (v := M a 23) rfl ?_
  refine q_iconst C dX12_doesDirective_4 (n := 5) rfl ?_
  refine q_icmp_ne C 10 dX12_doesDirective_5 (n := 8) rfl rfl (by omega) (fun h2 => ?_) (fun h2 => ?_)
  · refine q_aload_n C dX12_doesDirective_10 (n := 11) rfl rfl ?_
    refine q_iconst C dX12_doesDirective_11 (n := 12) rfl ?_
    refine q_callVi C dX12_doesDirective_12 (n := 15) rfl m_X12_361 v_yX12_wordOf (zM0 h0) ⟨by decide, rfl⟩ (c_X12_wordOf (w := w) (J := J) hI hF h0 1 (by omega)) (Nat.le_of_ble_eq_true rfl) rfl rfl (Nat.le_of_ble_eq_true rfl) ⟨Nat.le_refl _, Nat.le_refl _⟩ (fun x8 M4 J5  hI6 h7 => ?_)
    obtain ⟨hk9, h3⟩ := h7
    have hK10 := hK0.tr hk9 rfl rfl rfl
    refine q_istore_n C [.ref (w.2.1 + a), zi v1, zi x8] dX12_doesDirective_15 (n := 16) rfl rfl rfl ?_
    refine q_iload_n C dX12_doesDirective_16 (n := 17) rfl rfl ?_
    have K_11 : (x8 = 1 ∨ x8 = 4 ∨ x8 = 5) → zK w p e 10 0 0 s m args below meth c 3 T Po 109 [.ref (w.2.1 + a), zi v1, zi x8] [] (T, M4, J5, R) := by
      intro h12
      refine q_aload_n C dX12_doesDirective_109 (n := 110) rfl rfl ?_
      refine q_iload_n C dX12_doesDirective_110 (n := 111) rfl rfl ?_
      refine q_iload_n C dX12_doesDirective_111 (n := 112) rfl rfl ?_
      have hp13 : zMe M4 a := p2.cg (fun j j0 j1 => (hk9.getA rfl rfl rfl)) (fun j => (hk9.getA rfl rfl rfl))
      have hp14 : zGr M4 a 1 := p1.cg (fun j => (hk9.getA rfl rfl rfl)) (fun j => (hk9.getA rfl rfl rfl)) (fun j => (hk9.getA rfl rfl rfl)) (fun j => (hk9.getA rfl rfl rfl)) (fun j => (hk9.getA rfl rfl rfl)) (hk9.getS rfl rfl) (hk9.getS rfl rfl)
      refine q_callVi C dX12_doesDirective_112 (n := 115) rfl m_X12_670 v_yX12_doesNamed (zM0 h0) ⟨by decide, rfl⟩ (c_X12_doesNamed (w := w) (J := J5) hI6 hF h0 x8 v1 hp14 hp13 (by omega) (by omega) (by rw [show M4 a 88 = M a 88 from (hk9.getS rfl rfl), show M4 (a + 51) (M a 88) = M (a + 51) (M a 88) from (hk9.getA rfl rfl rfl), show M4 (a + 2) (4 + M (a + 51) (M a 88)) = M (a + 2) (4 + M (a + 51) (M a 88)) from (hk9.getA rfl rfl rfl)]; omega)) (Nat.le_of_ble_eq_true rfl) rfl rfl (Nat.le_of_ble_eq_true rfl) ⟨Nat.le_refl _, Nat.le_refl _⟩ (fun x23 M19 J20  hI21 h22 => ?_)
      obtain ⟨hk24, h15, h16, h17, h18⟩ := h22
      have hK25 := hK10.tr hk24 rfl rfl rfl
      have hz26 : M4 (a + 18) 3 = M (a + 18) 3 := (hk9.getA rfl rfl rfl)
      exact q_zret C dX12_doesDirective_115 ⟨rfl, rfl⟩ (by omega) (by rw [hPo]; exact ⟨x23, M19, J20, rfl, rfl, hI21, hK25, by omega, h16, h17, (by have hw : M19 (a + 18) 3 = M (a + 18) 3 := ((h18).trans (hk9.getA rfl rfl rfl)); omega), Or.inr (Int.le_of_eq (zRu_cg ((h18).trans (hk9.getA rfl rfl rfl)) ((hk24.getS rfl rfl).trans (hk9.getS rfl rfl)) (fun j => ((hk24.getA rfl rfl rfl).trans (hk9.getA rfl rfl rfl)))))⟩)
    by_cases h27 : x8 = 0
    · refine q_tabIn C 56 dX12_doesDirective_17 h27 (by omega) rfl rfl ?_
      refine q_aload_n C dX12_doesDirective_56 (n := 57) rfl rfl ?_
      have hp28 : zMe M4 a := p2.cg (fun j j0 j1 => (hk9.getA rfl rfl rfl)) (fun j => (hk9.getA rfl rfl rfl))
      refine q_callVi C dX12_doesDirective_57 (n := 60) rfl m_X12_664 v_yX12_defines (zM0 h0) ⟨by decide, rfl⟩ (c_X12_defines (w := w) (J := J5) hI6 hF h0 hp28) (Nat.le_of_ble_eq_true rfl) rfl rfl (Nat.le_of_ble_eq_true rfl) ⟨Nat.le_refl _, Nat.le_refl _⟩ (fun x36 M32 J33  hI34 h35 => ?_)
      obtain ⟨hk37, h29, h30, h31⟩ := h35
      have hK38 := hK10.tr hk37 rfl rfl rfl
      have hz39 : M4 (a + 18) 3 = M (a + 18) 3 := (hk9.getA rfl rfl rfl)
      have hp40 : zGr M32 a 1 := p1.cg (fun j => ((hk37.getA rfl rfl rfl).trans (hk9.getA rfl rfl rfl))) (fun j => ((hk37.getA rfl rfl rfl).trans (hk9.getA rfl rfl rfl))) (fun j => ((hk37.getA rfl rfl rfl).trans (hk9.getA rfl rfl rfl))) (fun j => ((hk37.getA rfl rfl rfl).trans (hk9.getA rfl rfl rfl))) (fun j => ((hk37.getA rfl rfl rfl).trans (hk9.getA rfl rfl rfl))) ((hk37.getS rfl rfl).trans (hk9.getS rfl rfl)) ((hk37.getS rfl rfl).trans (hk9.getS rfl rfl))
      exact q_zret C dX12_doesDirective_60 ⟨rfl, rfl⟩ (by omega) (by rw [hPo]; exact ⟨x36, M32, J33, rfl, rfl, hI34, hK38, by omega, Or.inr (hp40.weak (by omega)), h30, (by have hw : M32 (a + 18) 3 = M (a + 18) 3 := ((h31).trans (hk9.getA rfl rfl rfl)); omega), Or.inr (Int.le_of_eq (zRu_cg ((h31).trans (hk9.getA rfl rfl rfl)) ((hk37.getS rfl rfl).trans (hk9.getS rfl rfl)) (fun j => ((hk37.getA rfl rfl rfl).trans (hk9.getA rfl rfl rfl)))))⟩)
    by_cases h41 : x8 = 1
    · exact q_tabIn C 109 dX12_doesDirective_17 h41 (by omega) rfl rfl (K_11 (by omega))
    by_cases h42 : x8 = 2
    · refine q_tabIn C 61 dX12_doesDirective_17 h42 (by omega) rfl rfl ?_
      refine q_aload_n C dX12_doesDirective_61 (n := 62) rfl rfl ?_
      have hp43 : zMe M4 a := p2.cg (fun j j0 j1 => (hk9.getA rfl rfl rfl)) (fun j => (hk9.getA rfl rfl rfl))
      have hp44 : zGr M4 a 1 := p1.cg (fun j => (hk9.getA rfl rfl rfl)) (fun j => (hk9.getA rfl rfl rfl)) (fun j => (hk9.getA rfl rfl rfl)) (fun j => (hk9.getA rfl rfl rfl)) (fun j => (hk9.getA rfl rfl rfl)) (hk9.getS rfl rfl) (hk9.getS rfl rfl)
      have hp45 : zFi M4 a := p3.cg (fun j => (hk9.getA rfl rfl rfl))
      refine q_callVi C dX12_doesDirective_62 (n := 65) rfl m_X12_667 v_yX12_includes (zM0 h0) ⟨by decide, rfl⟩ (c_X12_includes (w := w) (J := J5) hI6 hF h0 hp44 hp43 hp45 (by have h29 : M4 a 29 = M a 29 := (hk9.getS rfl rfl); rw [show M4 a 28 = M a 28 from (hk9.getS rfl rfl), show M4 (a + 2) (4 + M a 28) = M (a + 2) (4 + M a 28) from (hk9.getA rfl rfl rfl)]; omega) (by have hw : M4 (a + 18) 3 = M (a + 18) 3 := (hk9.getA rfl rfl rfl); omega)) (Nat.le_of_ble_eq_true rfl) rfl rfl (Nat.le_of_ble_eq_true rfl) ⟨Nat.le_refl _, Nat.le_refl _⟩ (fun x55 M51 J52  hI53 h54 => ?_)
      obtain ⟨hk56, h46, h47, h48, h49, h50⟩ := h54
      have hK57 := hK10.tr hk56 rfl rfl rfl
      exact q_zret C dX12_doesDirective_65 ⟨rfl, rfl⟩ (by omega) (by rw [hPo]; exact ⟨x55, M51, J52, rfl, rfl, hI53, hK57, by omega, h47, h48, h49, h50.imp id (fun h => Int.le_trans h (Int.le_of_eq (zRu_cg (hk9.getA rfl rfl rfl) (hk9.getS rfl rfl) (fun j => (hk9.getA rfl rfl rfl)))))⟩)
    by_cases h58 : x8 = 3
    · refine q_tabIn C 66 dX12_doesDirective_17 h58 (by omega) rfl rfl ?_
      refine q_aload_n C dX12_doesDirective_66 (n := 67) rfl rfl ?_
      refine q_iconst C dX12_doesDirective_67 (n := 68) rfl ?_
      have hp59 : zMe M4 a := p2.cg (fun j j0 j1 => (hk9.getA rfl rfl rfl)) (fun j => (hk9.getA rfl rfl rfl))
      obtain ⟨mbq60, mpq60, hmaq60⟩ := hp59
      have hp61 : zOg M4 a (M4 (a + 10)) (M4 (a + 11)) := fun t _ => ⟨rfl, rfl⟩
      have hp62 : zLy M4 a 440 := p4.cg (fun j => (hk9.getA rfl rfl rfl)) (fun j => (hk9.getA rfl rfl rfl)) (hk9.getS rfl rfl)
      refine q_callVi C dX12_doesDirective_68 (n := 71) rfl m_X12_651 v_yX12_conditions (zM0 h0) ⟨by decide, rfl⟩ (c_X12_conditions (w := w) (J := J5) hI6 hF h0 2 hp61 hmaq60 hp62 (by have hz63 : M4 a 26 = M a 26 := (hk9.getS rfl rfl); have hz64 : M4 a 25 = M a 25 := (hk9.getS rfl rfl); have hz65 : M4 a 24 = M a 24 := (hk9.getS rfl rfl); omega) (by omega)) (Nat.le_of_ble_eq_true rfl) rfl rfl (Nat.le_of_ble_eq_true rfl) ⟨Nat.le_refl _, Nat.le_refl _⟩ (fun x74 M70 J71  hI72 h73 => ?_)
      obtain ⟨hk75, h66, h67, h68, h69⟩ := h73
      have hK76 := hK10.tr hk75 rfl rfl rfl
      have hz77 : M4 (a + 18) 3 = M (a + 18) 3 := (hk9.getA rfl rfl rfl)
      refine q_if_ne C 76 dX12_doesDirective_71 (n := 74) rfl rfl (by omega) (fun h78 => ?_) (fun h78 => ?_)
      · refine q_aload_n C dX12_doesDirective_76 (n := 77) rfl rfl ?_
        refine q_getR C dX12_doesDirective_77 (n := 80) rfl f_X12_68 (zM0 h0) (hF _ _ _ (zM65 h0)) ?_
        refine q_bipush C dX12_doesDirective_80 (n := 82) rfl (x := 9) (by decide) ?_
        refine q_dup2 C dX12_doesDirective_82 (n := 83) rfl ⟨rfl, rfl⟩ ?_
        have g79 := zI.at hI72 (((zM67 h0) 9).trans (zwG_1 (by omega)))
        refine q_iald C dX12_doesDirective_83 (n := 84) rfl (zM66 h0) (by omega) (v := M70 (a + 18) 9) rfl ?_
        refine q_iconst C dX12_doesDirective_84 (n := 85) rfl ?_
        refine q_iadd C dX12_doesDirective_85 (n := 86) rfl (v := (M70 (a + 18) 9) + 1) rfl ?_
        refine q_wrap C ?_
        have g80 := zr_wr ((M70 (a + 18) 9) + 1)
        refine q_iast C dX12_doesDirective_86 (n := 87) rfl (zM66 h0) (by omega)  (fun M81 e82 => ?_)
        have hp83 : zMa M81 a mbq60 mpq60 := h68.up e82 (by omega)
        have hI84 : zI G M81 := hI72.put e82 (((zM67 h0) 9).trans (zwG_1 (by omega))) rfl (by omega)
        have hK85 := hK76.upA e82 rfl
        refine q_aload_n C dX12_doesDirective_87 (n := 88) rfl rfl ?_
        refine q_iload_n C dX12_doesDirective_88 (n := 89) rfl rfl ?_
        refine q_aload_n C dX12_doesDirective_89 (n := 90) rfl rfl ?_
        refine q_getL C dX12_doesDirective_90 (n := 93) rfl f_X12_627 (zM0 h0) (fun l86 => ?_)
        refine q_lconst C dX12_doesDirective_93 (n := 94) rfl ?_
        refine q_lcmp C dX12_doesDirective_94 (n := 95) rfl (fun z87 h88 => ?_)
        have J_92 : ∀ (u89 : Int), (-2147483648 ≤ u89 ∧ u89 ≤ 2147483647) → (u89 = 0 ∨ u89 = 1) → zK w p e 10 0 0 s m args below meth c 3 T Po 103 [.null, .null, .null] [zi u89, zi v1, .ref (w.2.1 + a)] (T, M81, J71, R) := by
          intro u89 h90 h91
          refine q_iconst C dX12_doesDirective_103 (n := 104) rfl ?_
          have hp93 : zGr M81 a 1 := p1.cg (fun j => ((zup_p e82 (by omega) _).trans ((hk75.getA rfl rfl rfl).trans (hk9.getA rfl rfl rfl)))) (fun j => ((zup_p e82 (by omega) _).trans ((hk75.getA rfl rfl rfl).trans (hk9.getA rfl rfl rfl)))) (fun j => ((zup_p e82 (by omega) _).trans ((hk75.getA rfl rfl rfl).trans (hk9.getA rfl rfl rfl)))) (fun j => ((zup_p e82 (by omega) _).trans ((hk75.getA rfl rfl rfl).trans (hk9.getA rfl rfl rfl)))) (fun j => ((zup_p e82 (by omega) _).trans ((hk75.getA rfl rfl rfl).trans (hk9.getA rfl rfl rfl)))) ((zup_p e82 (by omega) _).trans ((hk75.getS rfl rfl).trans (hk9.getS rfl rfl))) ((zup_p e82 (by omega) _).trans ((hk75.getS rfl rfl).trans (hk9.getS rfl rfl)))
          refine q_callVv C dX12_doesDirective_104 (n := 107) rfl m_X12_657 v_yX12_group (zM0 h0) ⟨by decide, rfl⟩ (c_X12_group (w := w) (J := J71) hI84 hF h0 v1 u89 0 (by have hz94 : M81 a 89 = M a 89 := ((zup_p e82 (by omega) _).trans ((hk75.getS rfl rfl).trans (hk9.getS rfl rfl))); omega) (by omega) (by omega) (by omega)) (Nat.le_of_ble_eq_true rfl) rfl rfl (Nat.le_of_ble_eq_true rfl) ⟨Nat.le_refl _, Nat.le_refl _⟩ (fun M98 J99  hI100 h101 => ?_)
          obtain ⟨hk102, h95, h96, h97⟩ := h101
          have hK103 := hK85.tr hk102 rfl rfl rfl
          have hz104 : M81 a 89 = M a 89 := ((zup_p e82 (by omega) _).trans ((hk75.getS rfl rfl).trans (hk9.getS rfl rfl)))
          have hp105 : zGr M98 a 0 := hp93.push (fun j => (hk102.getA rfl rfl rfl)) (fun j => (hk102.getA rfl rfl rfl)) (fun j => (hk102.getA rfl rfl rfl)) (fun j => (hk102.getA rfl rfl rfl)) (hk102.getS rfl rfl) h95 h96 h97 (by rw [show M81 a 88 = M a 88 from ((zup_p e82 (by omega) _).trans ((hk75.getS rfl rfl).trans (hk9.getS rfl rfl))), show M81 (a + 51) (M a 88) = M (a + 51) (M a 88) from ((zup_p e82 (by omega) _).trans ((hk75.getA rfl rfl rfl).trans (hk9.getA rfl rfl rfl))), show M81 (a + 2) (4 + M (a + 51) (M a 88)) = M (a + 2) (4 + M (a + 51) (M a 88)) from ((zup_p e82 (by omega) _).trans ((hk75.getA rfl rfl rfl).trans (hk9.getA rfl rfl rfl)))]; omega)
          refine q_iconst C dX12_doesDirective_107 (n := 108) rfl ?_
          have hp106 : zMa M98 a mbq60 mpq60 := hp83.cg (fun j j0 j1 => (hk102.getA rfl rfl rfl)) (fun j => (hk102.getA rfl rfl rfl))
          have hp107 : zMe M98 a := ⟨_, _, hp106⟩
          exact q_zret C dX12_doesDirective_108 ⟨rfl, rfl⟩ (by omega) (by rw [hPo]; exact ⟨1, M98, J99, rfl, rfl, hI100, hK103, by omega, Or.inr hp105, hp107, (by have hw : M98 (a + 18) 3 = M (a + 18) 3 := ((hk102.getA rfl rfl rfl).trans ((zup_n e82 (by omega)).trans ((h69).trans (hk9.getA rfl rfl rfl)))); omega), Or.inr (Int.le_of_eq (zRu_cg ((hk102.getA rfl rfl rfl).trans ((zup_n e82 (by omega)).trans ((h69).trans (hk9.getA rfl rfl rfl)))) ((hk102.getS rfl rfl).trans ((zup_p e82 (by omega) _).trans ((hk75.getS rfl rfl).trans (hk9.getS rfl rfl)))) (fun j => ((hk102.getA rfl rfl rfl).trans ((zup_p e82 (by omega) _).trans ((hk75.getA rfl rfl rfl).trans (hk9.getA rfl rfl rfl)))))))⟩)
        refine q_if_eq C 102 dX12_doesDirective_95 (n := 98) rfl rfl (by omega) (fun h108 => ?_) (fun h108 => ?_)
        · refine q_iconst C dX12_doesDirective_102 (n := 103) rfl ?_
          exact zK.weak (J_92 0 (by omega) (by omega)) (zwk_n (zwk_n (zwk_n zwk_e)))
        · refine q_iconst C dX12_doesDirective_98 (n := 99) rfl ?_
          refine q_goto C 103 dX12_doesDirective_99 rfl ?_
          exact zK.weak (J_92 1 (by omega) (by omega)) (zwk_n (zwk_n (zwk_n zwk_e)))
      · refine q_iconst C dX12_doesDirective_74 (n := 75) rfl ?_
        have hp109 : zMe M70 a := ⟨_, _, h68⟩
        exact q_zret C dX12_doesDirective_75 ⟨rfl, rfl⟩ (by omega) (by rw [hPo]; exact ⟨0, M70, J71, rfl, rfl, hI72, hK76, by omega, Or.inl rfl, hp109, (by have hw : M70 (a + 18) 3 = M (a + 18) 3 := ((h69).trans (hk9.getA rfl rfl rfl)); omega), Or.inl rfl⟩)
    by_cases h110 : x8 = 4
    · exact q_tabIn C 109 dX12_doesDirective_17 h110 (by omega) rfl rfl (K_11 (by omega))
    by_cases h111 : x8 = 5
    · exact q_tabIn C 109 dX12_doesDirective_17 h111 (by omega) rfl rfl (K_11 (by omega))
    refine q_tabOut C 116 dX12_doesDirective_17 (by omega) (by omega) rfl ?_
    refine q_aload_n C dX12_doesDirective_116 (n := 117) rfl rfl ?_
    refine q_iconst C dX12_doesDirective_117 (n := 118) rfl ?_
    refine q_iconst C dX12_doesDirective_118 (n := 119) rfl ?_
    refine q_callVi C dX12_doesDirective_119 (n := 122) rfl m_X12_430 v_yX12_badToken (zM0 h0) ⟨by decide, rfl⟩ (c_X12_badToken (w := w) (J := J5) hI6 hF h0 2 1 (by omega) (by omega)) (Nat.le_of_ble_eq_true rfl) rfl rfl (Nat.le_of_ble_eq_true rfl) ⟨Nat.le_refl _, Nat.le_refl _⟩ (fun x118 M114 J115  hI116 h117 => ?_)
    obtain ⟨hk119, h112, h113⟩ := h117
    have hK120 := hK10.tr hk119 rfl rfl rfl
    have hp121 : zMe M114 a := p2.cg (fun j j0 j1 => ((hk119.getW rfl rfl (by omega)).trans (hk9.getA rfl rfl rfl))) (fun j => ((hk119.getA rfl rfl rfl).trans (hk9.getA rfl rfl rfl)))
    exact q_zret C dX12_doesDirective_122 ⟨rfl, rfl⟩ (by omega) (by rw [hPo]; exact ⟨x118, M114, J115, rfl, rfl, hI116, hK120, by omega, Or.inl (by omega), hp121, (by have hw : M114 (a + 18) 3 = M (a + 18) 3 := ((hk119.getP rfl rfl rfl).trans (hk9.getA rfl rfl rfl)); omega), Or.inr (Int.le_of_eq (zRu_cg ((hk119.getP rfl rfl rfl).trans (hk9.getA rfl rfl rfl)) ((hk119.getS rfl rfl).trans (hk9.getS rfl rfl)) (fun j => ((hk119.getA rfl rfl rfl).trans (hk9.getA rfl rfl rfl)))))⟩)
  · refine q_iconst C dX12_doesDirective_8 (n := 9) rfl ?_
    exact q_zret C dX12_doesDirective_9 ⟨rfl, rfl⟩ (by omega) (by rw [hPo]; exact ⟨1, M, J, rfl, rfl, hI, hK0, by omega, Or.inr (p1.weak (by omega)), p2, (by have hw : M (a + 18) 3 = M (a + 18) 3 := rfl; omega), Or.inr (Int.le_of_eq (zRu_cg rfl rfl (fun j => rfl)))⟩)
