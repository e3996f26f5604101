theorem c_X12_includes {w : zWp} {T : zTl} {M : zMm} {J : zJm} {R : zRm'} {G : zGt} {F : zRm'} {a : Nat} (hI : zI G M) (hF : zF F R) (h0 : zModel T F G a) (p1 : zGr M a 1) (p2 : zMe M a) (p3 : zFi M a) (p4 : 0 ≤ M a 28 ∧ M a 28 ≤ 3 ∧ 0 ≤ M a 29 ∧ M a 29 ≤ 39 ∧ M a 29 < M (a + 2) (4 + M a 28)) (p5 : 0 ≤ M (a + 18) 3 ∧ M (a + 18) 3 ≤ 12) : zCt w 7 0 0 yX12_includes cX12_includes 5 (some .boolean) [.ref (w.2.1 + a)] (T, M, J, R) (zPi T R G (fun x M2 => (zMd a [9, 10, 11, 12, 13, 14, 15, 16, 17, 22, 51, 52, 53] [11, 23, 24, 25, 26, 27, 28, 29, 34, 88, 101] [(18, 3), (18, 4), (18, 5), (18, 11), (18, 12), (18, 13), (18, 14)] M M2) ∧ (x = 0 ∨ x = 1) ∧ (x = 0 ∨ zGr M2 a 0) ∧ (zMe M2 a) ∧ (0 ≤ M2 (a + 18) 3 ∧ M2 (a + 18) 3 ≤ 12) ∧ (x = 0 ∨ zRu M2 a ≤ zRu M a))) := by
  refine zCt.of rfl (Nat.le_of_ble_eq_true rfl) ?_
  intro p e s m args below meth c C
  obtain ⟨Po, hPo⟩ : ∃ Po, Po = zPi T R G (fun x M2 => (zMd a [9, 10, 11, 12, 13, 14, 15, 16, 17, 22, 51, 52, 53] [11, 23, 24, 25, 26, 27, 28, 29, 34, 88, 101] [(18, 3), (18, 4), (18, 5), (18, 11), (18, 12), (18, 13), (18, 14)] M M2) ∧ (x = 0 ∨ x = 1) ∧ (x = 0 ∨ zGr M2 a 0) ∧ (zMe M2 a) ∧ (0 ≤ M2 (a + 18) 3 ∧ M2 (a + 18) 3 ≤ 12) ∧ (x = 0 ∨ zRu M2 a ≤ zRu M a)) := ⟨_, rfl⟩
  rw [← hPo]
  have hK0 : zMd a [9, 10, 11, 12, 13, 14, 15, 16, 17, 22, 51, 52, 53] [11, 23, 24, 25, 26, 27, 28, 29, 34, 88, 101] [(18, 3), (18, 4), (18, 5), (18, 11), (18, 12), (18, 13), (18, 14)] M M := zMd.rf
  have gk_deep := zI.at hI (zM201 h0)
  have gk_groups := zI.at hI (zM202 h0)
  have gg := zGr.num p1 rfl
  show zK w p e 7 0 0 s m args below meth c 5 T Po 0 [.ref (w.2.1 + a), .null, .null, .null, .null] [] (T, M, J, R)
  refine q_aload_n C dX12_includes_0 (n := 1) rfl rfl ?_
  have g1 := zI.at hI (zM58 h0)
  refine q_getI C dX12_includes_1 (n := 4) rfl f_X12_355 (zM0 h0) (v := M a 23) rfl ?_
  refine q_iconst C dX12_includes_4 (n := 5) rfl ?_
  have J_2 : zK w p e 7 0 0 s m args below meth c 5 T Po 28 [.ref (w.2.1 + a), .null, .null, .null, .null] [] (T, M, J, R) := by
    refine q_aload_n C dX12_includes_28 (n := 29) rfl rfl ?_
    refine q_iconst C dX12_includes_29 (n := 30) rfl ?_
    refine q_iconst C dX12_includes_30 (n := 31) rfl ?_
    refine q_callVi C dX12_includes_31 (n := 34) rfl m_X12_430 v_yX12_badToken (zM0 h0) ⟨by decide, rfl⟩ (c_X12_badToken (w := w) (J := J) hI hF h0 2 2 (by omega) (by omega)) (Nat.le_of_ble_eq_true rfl) rfl rfl (Nat.le_of_ble_eq_true rfl) ⟨Nat.le_refl _, Nat.le_refl _⟩ (fun x9 M5 J6  hI7 h8 => ?_)
    obtain ⟨hk10, h3, h4⟩ := h8
    have hK11 := hK0.tr hk10 rfl rfl rfl
    have hp12 : zMe M5 a := p2.cg (fun j j0 j1 => (hk10.getW rfl rfl (by omega))) (fun j => (hk10.getA rfl rfl rfl))
    exact q_zret C dX12_includes_34 ⟨rfl, rfl⟩ (by omega) (by rw [hPo]; exact ⟨x9, M5, J6, rfl, rfl, hI7, hK11, by omega, Or.inl (by omega), hp12, (by have hw : M5 (a + 18) 3 = M (a + 18) 3 := (hk10.getP rfl rfl rfl); omega), Or.inl (by omega)⟩)
  refine q_icmp_eq C 28 dX12_includes_5 (n := 8) rfl rfl (by omega) (fun h13 => ?_) (fun h13 => ?_)
  · exact zK.weak (J_2) (zwk_c (zwk_n (zwk_n (zwk_n (zwk_n zwk_e)))))
  · refine q_aload_n C dX12_includes_8 (n := 9) rfl rfl ?_
    refine q_getR C dX12_includes_9 (n := 12) rfl f_X12_40 (zM0 h0) (hF _ _ _ (zM31 h0)) ?_
    refine q_iconst C dX12_includes_12 (n := 13) rfl ?_
    have g14 := zI.at hI ((zM33 h0) 2)
    refine q_iald C dX12_includes_13 (n := 14) rfl (zM32 h0) (by omega) (v := M (a + 9) 2) rfl ?_
    refine q_iconst C dX12_includes_14 (n := 15) rfl ?_
    refine q_icmp_ne C 28 dX12_includes_15 (n := 18) rfl rfl (by omega) (fun h15 => ?_) (fun h15 => ?_)
    · exact zK.weak (J_2) (zwk_c (zwk_n (zwk_n (zwk_n (zwk_n zwk_e)))))
    · refine q_aload_n C dX12_includes_18 (n := 19) rfl rfl ?_
      refine q_getR C dX12_includes_19 (n := 22) rfl f_X12_46 (zM0 h0) (hF _ _ _ (zM37 h0)) ?_
      refine q_iconst C dX12_includes_22 (n := 23) rfl ?_
      have g16 := zI.at hI ((zM39 h0) 2)
      refine q_iald C dX12_includes_23 (n := 24) rfl (zM38 h0) (by omega) (v := M (a + 11) 2) rfl ?_
      refine q_iconst C dX12_includes_24 (n := 25) rfl ?_
      refine q_icmp_le C 35 dX12_includes_25 (n := 28) rfl rfl (by omega) (fun h17 => ?_) (fun h17 => ?_)
      · refine q_aload_n C dX12_includes_35 (n := 36) rfl rfl ?_
        refine q_iconst C dX12_includes_36 (n := 37) rfl ?_
        refine q_iconst C dX12_includes_37 (n := 38) rfl ?_
        refine q_callVp C dX12_includes_38 (n := 41) rfl m_X12_370 v_yX12_byteIn (zM0 h0) ⟨by decide, rfl⟩ (c_X12_byteIn (w := w) (J := J) hI hF h0 2 0 (by omega) (by omega)) (Nat.le_of_ble_eq_true rfl) rfl rfl (Nat.le_of_ble_eq_true rfl) ⟨Nat.le_refl _, Nat.le_refl _⟩ (fun x20 h21 => ?_)
        obtain ⟨h18, h19⟩ := h21
        refine q_bipush C dX12_includes_41 (n := 43) rfl (x := 48) (by decide) ?_
        refine q_isub C dX12_includes_43 (n := 44) rfl (v := x20 - 48) rfl ?_
        refine q_istore_n C [.ref (w.2.1 + a), zi (x20 - 48), .null, .null, .null] dX12_includes_44 (n := 45) rfl rfl rfl ?_
        refine q_aload_n C dX12_includes_45 (n := 46) rfl rfl ?_
        have g22 := zI.at hI (zM63 h0)
        refine q_getI C dX12_includes_46 (n := 49) rfl f_X12_379 (zM0 h0) (v := M a 28) rfl ?_
        refine q_istore_n C [.ref (w.2.1 + a), zi (x20 - 48), zi (M a 28), .null, .null] dX12_includes_49 (n := 50) rfl rfl rfl ?_
        refine q_aload_n C dX12_includes_50 (n := 51) rfl rfl ?_
        have g23 := zI.at hI (zM64 h0)
        refine q_getI C dX12_includes_51 (n := 54) rfl f_X12_382 (zM0 h0) (v := M a 29) rfl ?_
        refine q_istore_n C [.ref (w.2.1 + a), zi (x20 - 48), zi (M a 28), zi (M a 29), .null] dX12_includes_54 (n := 55) rfl rfl rfl ?_
        refine q_aload_n C dX12_includes_55 (n := 56) rfl rfl ?_
        refine q_iload_n C dX12_includes_56 (n := 57) rfl rfl ?_
        refine q_callVp C dX12_includes_57 (n := 60) rfl m_X12_281 v_yX12_isFile (zM0 h0) ⟨by decide, rfl⟩ (c_X12_isFile (w := w) (J := J) hI hF h0 (x20 - 48) (by omega)) (Nat.le_of_ble_eq_true rfl) rfl rfl (Nat.le_of_ble_eq_true rfl) ⟨Nat.le_refl _, Nat.le_refl _⟩ (fun x26 h27 => ?_)
        obtain ⟨h24, h25⟩ := h27
        refine q_if_ne C 71 dX12_includes_60 (n := 63) rfl rfl (by omega) (fun h28 => ?_) (fun h28 => ?_)
        · refine q_aload_n C dX12_includes_71 (n := 72) rfl rfl ?_
          refine q_iload_n C dX12_includes_72 (n := 73) rfl rfl ?_
          refine q_callVi C dX12_includes_73 (n := 76) rfl m_X12_364 v_yX12_guardOf (zM0 h0) ⟨by decide, rfl⟩ (c_X12_guardOf (w := w) (J := J) hI hF h0 (x20 - 48) p3 (by omega)) (Nat.le_of_ble_eq_true rfl) rfl rfl (Nat.le_of_ble_eq_true rfl) ⟨Nat.le_refl _, Nat.le_refl _⟩ (fun x34 M30 J31  hI32 h33 => ?_)
          obtain ⟨hk35, h29⟩ := h33
          have hK36 := hK0.tr hk35 rfl rfl rfl
          have J_40 : ∀ (u37 : Int), (-2147483648 ≤ u37 ∧ u37 ≤ 2147483647) → (u37 = 0 ∨ u37 = 1) → zK w p e 7 0 0 s m args below meth c 5 T Po 92 [.ref (w.2.1 + a), zi (x20 - 48), zi (M a 28), zi (M a 29), .null] [zi u37] (T, M30, J31, R) := by
            intro u37 h38 h39
            refine q_istore C [.ref (w.2.1 + a), zi (x20 - 48), zi (M a 28), zi (M a 29), zi u37] dX12_includes_92 (n := 94) rfl rfl rfl ?_
            refine q_aload_n C dX12_includes_94 (n := 95) rfl rfl ?_
            refine q_iload_n C dX12_includes_95 (n := 96) rfl rfl ?_
            refine q_iload_n C dX12_includes_96 (n := 97) rfl rfl ?_
            have hp41 : zFi M30 a := p3.cg (fun j => (hk35.getA rfl rfl rfl))
            refine q_callVi C dX12_includes_97 (n := 100) rfl m_X12_352 v_yX12_lexes (zM0 h0) ⟨by decide, rfl⟩ (c_X12_lexes (w := w) (J := J31) hI32 hF h0 (M a 28) (M a 29) hp41 (by omega) (by have hz42 : M30 (a + 2) (4 + (M a 28)) = M (a + 2) (4 + (M a 28)) := (hk35.getA rfl rfl rfl); omega)) (Nat.le_of_ble_eq_true rfl) rfl rfl (Nat.le_of_ble_eq_true rfl) ⟨Nat.le_refl _, Nat.le_refl _⟩ (fun x54 M50 J51  hI52 h53 => ?_)
            obtain ⟨hk55, h43, h44, h45, h46, h47, h48, h49⟩ := h53
            have hK56 := hK36.tr hk55 rfl rfl rfl
            refine q_pop C dX12_includes_100 (n := 101) rfl rfl ?_
            refine q_iload C dX12_includes_101 (n := 103) rfl rfl ?_
            have J_58 : (¬ u37 = 0 ∨ (¬ M a 88 = 6 ∧ ¬ M (a + 18) 3 = 12)) → zK w p e 7 0 0 s m args below meth c 5 T Po 134 [.ref (w.2.1 + a), zi (x20 - 48), .null, .null, zi u37] [] (T, M50, J51, R) := by
              intro h57
              refine q_aload_n C dX12_includes_134 (n := 135) rfl rfl ?_
              refine q_iconst C dX12_includes_135 (n := 136) rfl ?_
              refine q_callVi C dX12_includes_136 (n := 139) rfl m_X12_654 v_yX12_isNothing (zM0 h0) ⟨by decide, rfl⟩ (c_X12_isNothing (w := w) (J := J51) hI52 hF h0 3 (by omega)) (Nat.le_of_ble_eq_true rfl) rfl rfl (Nat.le_of_ble_eq_true rfl) ⟨Nat.le_refl _, Nat.le_refl _⟩ (fun x64 M60 J61  hI62 h63 => ?_)
              obtain ⟨hk65, h59⟩ := h63
              have hK66 := hK56.tr hk65 rfl rfl rfl
              refine q_if_ne C 144 dX12_includes_139 (n := 142) rfl rfl (by omega) (fun h67 => ?_) (fun h67 => ?_)
              · refine q_iload C dX12_includes_144 (n := 146) rfl rfl ?_
                refine q_if_eq C 161 dX12_includes_146 (n := 149) rfl rfl (by omega) (fun h68 => ?_) (fun h68 => ?_)
                · refine q_aload_n C dX12_includes_161 (n := 162) rfl rfl ?_
                  refine q_getR C dX12_includes_162 (n := 165) rfl f_X12_68 (zM0 h0) (hF _ _ _ (zM65 h0)) ?_
                  refine q_iconst C dX12_includes_165 (n := 166) rfl ?_
                  refine q_dup2 C dX12_includes_166 (n := 167) rfl ⟨rfl, rfl⟩ ?_
                  have g69 := zI.at hI (((zM67 h0) 3).trans (zwG_1 (by omega)))
                  refine q_iald C dX12_includes_167 (n := 168) rfl (zM66 h0) (by omega) (v := M (a + 18) 3) ((hk65.getP rfl rfl rfl).trans ((hk55.getP rfl rfl rfl).trans (hk35.getP rfl rfl rfl))) ?_
                  refine q_iconst C dX12_includes_168 (n := 169) rfl ?_
                  refine q_iadd C dX12_includes_169 (n := 170) rfl (v := (M (a + 18) 3) + 1) rfl ?_
                  refine q_wrap C ?_
                  have g70 := zr_wr ((M (a + 18) 3) + 1)
                  refine q_iast C dX12_includes_170 (n := 171) rfl (zM66 h0) (by omega)  (fun M71 e72 => ?_)
                  have hp73 : zMe M60 a := p2.cg (fun j j0 j1 => ((hk65.getW rfl rfl (by omega)).trans ((hk55.getW rfl rfl (by omega)).trans (hk35.getW rfl rfl (by omega))))) (fun j => ((hk65.getA rfl rfl rfl).trans ((hk55.getA rfl rfl rfl).trans (hk35.getA rfl rfl rfl))))
                  have hp74 : zMe M71 a := hp73.up e72 (by omega)
                  have hI75 : zI G M71 := hI62.put e72 (((zM67 h0) 3).trans (zwG_1 (by omega))) rfl (by omega)
                  have hK76 := hK66.upP e72 rfl
                  refine q_aload_n C dX12_includes_171 (n := 172) rfl rfl ?_
                  refine q_dup C dX12_includes_172 (n := 173) rfl rfl ?_
                  have g77 := zI.at hI (zM201 h0)
                  refine q_getI C dX12_includes_173 (n := 176) rfl f_X12_645 (zM0 h0) (v := M a 88) ((zup_p e72 (by omega) _).trans ((hk65.getS rfl rfl).trans ((hk55.getS rfl rfl).trans (hk35.getS rfl rfl)))) ?_
                  refine q_iconst C dX12_includes_176 (n := 177) rfl ?_
                  refine q_iadd C dX12_includes_177 (n := 178) rfl (v := (M a 88) + 1) rfl ?_
                  refine q_putI C dX12_includes_178 (n := 181) rfl f_X12_645 (zM0 h0) ⟨rfl, rfl⟩ (fun M78 (e79 : M78 = zup M71 a 88 ((M a 88) + 1)) => ?_)
                  have hI80 : zI G M78 := hI75.put e79 (zM201 h0) rfl (by omega)
                  have hK81 := hK76.upS e79 rfl
                  refine q_aload_n C dX12_includes_181 (n := 182) rfl rfl ?_
                  refine q_getI C dX12_includes_182 (n := 185) rfl f_X12_645 (zM0 h0) (v := (M a 88) + 1) (zup_s e79) ?_
                  refine q_aload_n C dX12_includes_185 (n := 186) rfl rfl ?_
                  refine q_getR C dX12_includes_186 (n := 189) rfl f_X12_68 (zM0 h0) (hF _ _ _ (zM65 h0)) ?_
                  refine q_iconst C dX12_includes_189 (n := 190) rfl ?_
                  have g82 := zI.at hI (((zM67 h0) 5).trans (zwG_1 (by omega)))
                  refine q_iald C dX12_includes_190 (n := 191) rfl (zM66 h0) (by omega) (v := M (a + 18) 5) ((zup_p e79 (by omega) _).trans ((zup_n e72 (by omega)).trans ((hk65.getP rfl rfl rfl).trans ((hk55.getP rfl rfl rfl).trans (hk35.getP rfl rfl rfl))))) ?_
                  have J_89 : ∀ (M84 : zMm) (J85 : zJm), zI G M84 → zMd a [9, 10, 11, 12, 13, 14, 15, 16, 17, 22, 51, 52, 53] [11, 23, 24, 25, 26, 27, 28, 29, 34, 88, 101] [(18, 3), (18, 4), (18, 5), (18, 11), (18, 12), (18, 13), (18, 14)] M M84 → zMd a [] [] [(18, 5)] M78 M84 → zK w p e 7 0 0 s m args below meth c 5 T Po 204 [.ref (w.2.1 + a), zi (x20 - 48), .null, .null, .null] [] (T, M84, J85, R) := by
                    intro M84 J85 hI86 hK87 hK88
                    refine q_aload_n C dX12_includes_204 (n := 205) rfl rfl ?_
                    refine q_getR C dX12_includes_205 (n := 208) rfl f_X12_169 (zM0 h0) (hF _ _ _ (zM177 h0)) ?_
                    refine q_aload_n C dX12_includes_208 (n := 209) rfl rfl ?_
                    refine q_getI C dX12_includes_209 (n := 212) rfl f_X12_645 (zM0 h0) (v := (M a 88) + 1) ((hK88.getS rfl rfl).trans (zup_s e79)) ?_
                    refine q_iload_n C dX12_includes_212 (n := 213) rfl rfl ?_
                    refine q_iast C dX12_includes_213 (n := 214) rfl (zM178 h0) (by omega)  (fun M90 e91 => ?_)
                    have hI92 : zI G M90 := hI86.put e91 ((zM179 h0) ((M a 88) + 1)) rfl (by omega)
                    have hK93 := hK87.upA e91 rfl
                    refine q_aload_n C dX12_includes_214 (n := 215) rfl rfl ?_
                    refine q_getR C dX12_includes_215 (n := 218) rfl f_X12_172 (zM0 h0) (hF _ _ _ (zM180 h0)) ?_
                    refine q_aload_n C dX12_includes_218 (n := 219) rfl rfl ?_
                    refine q_getI C dX12_includes_219 (n := 222) rfl f_X12_645 (zM0 h0) (v := (M a 88) + 1) ((zup_p e91 (by omega) _).trans ((hK88.getS rfl rfl).trans (zup_s e79))) ?_
                    refine q_iconst C dX12_includes_222 (n := 223) rfl ?_
                    refine q_iast C dX12_includes_223 (n := 224) rfl (zM181 h0) (by omega)  (fun M94 e95 => ?_)
                    have hI96 : zI G M94 := hI92.put e95 ((zM182 h0) ((M a 88) + 1)) rfl (by omega)
                    have hK97 := hK93.upA e95 rfl
                    refine q_aload_n C dX12_includes_224 (n := 225) rfl rfl ?_
                    refine q_getR C dX12_includes_225 (n := 228) rfl f_X12_175 (zM0 h0) (hF _ _ _ (zM183 h0)) ?_
                    refine q_aload_n C dX12_includes_228 (n := 229) rfl rfl ?_
                    refine q_getI C dX12_includes_229 (n := 232) rfl f_X12_645 (zM0 h0) (v := (M a 88) + 1) ((zup_p e95 (by omega) _).trans ((zup_p e91 (by omega) _).trans ((hK88.getS rfl rfl).trans (zup_s e79)))) ?_
                    refine q_aload_n C dX12_includes_232 (n := 233) rfl rfl ?_
                    have g98 := zI.at hI (zM202 h0)
                    refine q_getI C dX12_includes_233 (n := 236) rfl f_X12_642 (zM0 h0) (v := M a 89) ((zup_p e95 (by omega) _).trans ((zup_p e91 (by omega) _).trans ((hK88.getS rfl rfl).trans ((zup_n e79 (by omega)).trans ((zup_p e72 (by omega) _).trans ((hk65.getS rfl rfl).trans ((hk55.getS rfl rfl).trans (hk35.getS rfl rfl)))))))) ?_
                    refine q_iast C dX12_includes_236 (n := 237) rfl (zM184 h0) (by omega)  (fun M99 e100 => ?_)
                    have hI101 : zI G M99 := hI96.put e100 ((zM185 h0) ((M a 88) + 1)) rfl (by omega)
                    have hK102 := hK97.upA e100 rfl
                    refine q_aload_n C dX12_includes_237 (n := 238) rfl rfl ?_
                    refine q_iconst C dX12_includes_238 (n := 239) rfl ?_
                    refine q_putZ C dX12_includes_239 (n := 242) rfl f_X12_661 (zM0 h0) ⟨rfl, rfl⟩ (by omega) (fun M103 (e104 : M103 = zup M99 a 101 1) => ?_)
                    have hI105 : zI G M103 := hI101.put e104 (zM232 h0) rfl (by omega)
                    have hK106 := hK102.upS e104 rfl
                    have gwr : zwr ((M (a + 18) 3) + 1) = (M (a + 18) 3) + 1 := zto ⟨by omega, by omega⟩
                    have gt107 := zI.at hI105 (((zM9 h0) (4 + (x20 - 48))).trans (zfG_4 (by omega)))
                    have hp108 : zGr M103 a 0 := p1.enter (k := 0) (by omega) (fun j => ((zup_p e104 (by omega) _).trans ((zup_p e100 (by omega) _).trans ((zup_p e95 (by omega) _).trans ((zup_p e91 (by omega) _).trans ((hK88.getA rfl rfl rfl).trans ((zup_p e79 (by omega) _).trans ((zup_p e72 (by omega) _).trans ((hk65.getA rfl rfl rfl).trans ((hk55.getA rfl rfl rfl).trans (hk35.getA rfl rfl rfl))))))))))) ((zup_n e104 (by omega)).trans ((zup_p e100 (by omega) _).trans ((zup_p e95 (by omega) _).trans ((zup_p e91 (by omega) _).trans ((hK88.getS rfl rfl).trans (zup_s e79)))))) ((zup_n e104 (by omega)).trans ((zup_p e100 (by omega) _).trans ((zup_p e95 (by omega) _).trans ((zup_p e91 (by omega) _).trans ((hK88.getS rfl rfl).trans ((zup_n e79 (by omega)).trans ((zup_p e72 (by omega) _).trans ((hk65.getS rfl rfl).trans ((hk55.getS rfl rfl).trans (hk35.getS rfl rfl)))))))))) (fun j => ((zup_p e104 (by omega) _).trans ((zup_p e100 (by omega) _).trans ((zup_p e95 (by omega) _).trans ((zup_p e91 (by omega) _).trans ((hK88.getA rfl rfl rfl).trans ((zup_p e79 (by omega) _).trans ((zup_p e72 (by omega) _).trans ((hk65.getA rfl rfl rfl).trans ((hk55.getA rfl rfl rfl).trans (hk35.getA rfl rfl rfl))))))))))) (fun j hj => ((zup_p e104 (by omega) _).trans ((zup_p e100 (by omega) _).trans ((zup_p e95 (by omega) _).trans ((zup_n e91 (by omega)).trans ((hK88.getA rfl rfl rfl).trans ((zup_p e79 (by omega) _).trans ((zup_p e72 (by omega) _).trans ((hk65.getA rfl rfl rfl).trans ((hk55.getA rfl rfl rfl).trans (hk35.getA rfl rfl rfl))))))))))) (fun j hj => ((zup_p e104 (by omega) _).trans ((zup_p e100 (by omega) _).trans ((zup_n e95 (by omega)).trans ((zup_p e91 (by omega) _).trans ((hK88.getA rfl rfl rfl).trans ((zup_p e79 (by omega) _).trans ((zup_p e72 (by omega) _).trans ((hk65.getA rfl rfl rfl).trans ((hk55.getA rfl rfl rfl).trans (hk35.getA rfl rfl rfl))))))))))) (fun j hj => ((zup_p e104 (by omega) _).trans ((zup_n e100 (by omega)).trans ((zup_p e95 (by omega) _).trans ((zup_p e91 (by omega) _).trans ((hK88.getA rfl rfl rfl).trans ((zup_p e79 (by omega) _).trans ((zup_p e72 (by omega) _).trans ((hk65.getA rfl rfl rfl).trans ((hk55.getA rfl rfl rfl).trans (hk35.getA rfl rfl rfl))))))))))) ((zup_p e104 (by omega) _).trans ((zup_p e100 (by omega) _).trans (zup_s e95))) (by have hw : M103 (a + 53) (M a 88 + 1) = M a 89 := ((zup_p e104 (by omega) _).trans (zup_s e100)); omega) (by rw [show M103 (a + 51) (M a 88 + 1) = x20 - 48 from ((zup_p e104 (by omega) _).trans ((zup_p e100 (by omega) _).trans ((zup_p e95 (by omega) _).trans (zup_s e91))))]; omega)
                    refine q_iconst C dX12_includes_242 (n := 243) rfl ?_
                    have hp109 : zMe M103 a := hp74.cg (fun j j0 j1 => ((zup_p e104 (by omega) _).trans ((zup_p e100 (by omega) _).trans ((zup_p e95 (by omega) _).trans ((zup_p e91 (by omega) _).trans ((hK88.getW rfl rfl (by omega)).trans (zup_p e79 (by omega) _))))))) (fun j => ((zup_p e104 (by omega) _).trans ((zup_p e100 (by omega) _).trans ((zup_p e95 (by omega) _).trans ((zup_p e91 (by omega) _).trans ((hK88.getA rfl rfl rfl).trans (zup_p e79 (by omega) _)))))))
                    exact q_zret C dX12_includes_243 ⟨rfl, rfl⟩ (by omega) (by rw [hPo]; exact ⟨1, M103, J85, rfl, rfl, hI105, hK106, by omega, Or.inr hp108, hp109, (by have hw : M103 (a + 18) 3 = zwr ((M (a + 18) 3) + 1) := ((zup_p e104 (by omega) _).trans ((zup_p e100 (by omega) _).trans ((zup_p e95 (by omega) _).trans ((zup_p e91 (by omega) _).trans ((hK88.getP rfl rfl rfl).trans ((zup_p e79 (by omega) _).trans (zup_s e72))))))); omega), Or.inr (zRu_enter (by omega) (by have hw : M103 (a + 18) 3 = zwr ((M (a + 18) 3) + 1) := ((zup_p e104 (by omega) _).trans ((zup_p e100 (by omega) _).trans ((zup_p e95 (by omega) _).trans ((zup_p e91 (by omega) _).trans ((hK88.getP rfl rfl rfl).trans ((zup_p e79 (by omega) _).trans (zup_s e72))))))); omega) ((zup_n e104 (by omega)).trans ((zup_p e100 (by omega) _).trans ((zup_p e95 (by omega) _).trans ((zup_p e91 (by omega) _).trans ((hK88.getS rfl rfl).trans (zup_s e79)))))) (fun j hj => ((zup_p e104 (by omega) _).trans ((zup_p e100 (by omega) _).trans ((zup_n e95 (by omega)).trans ((zup_p e91 (by omega) _).trans ((hK88.getA rfl rfl rfl).trans ((zup_p e79 (by omega) _).trans ((zup_p e72 (by omega) _).trans ((hk65.getA rfl rfl rfl).trans ((hk55.getA rfl rfl rfl).trans (hk35.getA rfl rfl rfl))))))))))) ((zup_p e104 (by omega) _).trans ((zup_p e100 (by omega) _).trans (zup_s e95))))⟩)
                  refine q_icmp_le C 204 dX12_includes_191 (n := 194) rfl rfl (by omega) (fun h110 => ?_) (fun h110 => ?_)
                  · exact zK.weak (J_89 M78 J61 hI80 hK81 (zMd.rf : zMd a [] [] [(18, 5)] M78 M78)) (zwk_c (zwk_c (zwk_n (zwk_n (zwk_n zwk_e)))))
                  · refine q_aload_n C dX12_includes_194 (n := 195) rfl rfl ?_
                    refine q_getR C dX12_includes_195 (n := 198) rfl f_X12_68 (zM0 h0) (hF _ _ _ (zM65 h0)) ?_
                    refine q_iconst C dX12_includes_198 (n := 199) rfl ?_
                    refine q_aload_n C dX12_includes_199 (n := 200) rfl rfl ?_
                    refine q_getI C dX12_includes_200 (n := 203) rfl f_X12_645 (zM0 h0) (v := (M a 88) + 1) (zup_s e79) ?_
                    refine q_wrap C ?_
                    have g111 := zr_wr ((M a 88) + 1)
                    refine q_iast C dX12_includes_203 (n := 204) rfl (zM66 h0) (by omega)  (fun M112 e113 => ?_)
                    have hp114 : zMe M78 a := hp74.cg (fun j j0 j1 => (zup_p e79 (by omega) _)) (fun j => (zup_p e79 (by omega) _))
                    have hp115 : zMe M112 a := hp114.up e113 (by omega)
                    have hI116 : zI G M112 := hI80.put e113 (((zM67 h0) 5).trans (zwG_1 (by omega))) rfl (by omega)
                    have hK117 := hK81.upP e113 rfl
                    have hK118 := (zMd.rf : zMd a [] [] [(18, 5)] M78 M78).upP e113 rfl
                    exact zK.weak (J_89 M112 J61 hI116 hK117 hK118) (zwk_c (zwk_c (zwk_n (zwk_n (zwk_n zwk_e)))))
                · refine q_aload_n C dX12_includes_149 (n := 150) rfl rfl ?_
                  refine q_getR C dX12_includes_150 (n := 153) rfl f_X12_68 (zM0 h0) (hF _ _ _ (zM65 h0)) ?_
                  refine q_iconst C dX12_includes_153 (n := 154) rfl ?_
                  refine q_dup2 C dX12_includes_154 (n := 155) rfl ⟨rfl, rfl⟩ ?_
                  have g119 := zI.at hI (((zM67 h0) 4).trans (zwG_1 (by omega)))
                  refine q_iald C dX12_includes_155 (n := 156) rfl (zM66 h0) (by omega) (v := M (a + 18) 4) ((hk65.getP rfl rfl rfl).trans ((hk55.getP rfl rfl rfl).trans (hk35.getP rfl rfl rfl))) ?_
                  refine q_iconst C dX12_includes_156 (n := 157) rfl ?_
                  refine q_iadd C dX12_includes_157 (n := 158) rfl (v := (M (a + 18) 4) + 1) rfl ?_
                  refine q_wrap C ?_
                  have g120 := zr_wr ((M (a + 18) 4) + 1)
                  refine q_iast C dX12_includes_158 (n := 159) rfl (zM66 h0) (by omega)  (fun M121 e122 => ?_)
                  have hp123 : zMe M60 a := p2.cg (fun j j0 j1 => ((hk65.getW rfl rfl (by omega)).trans ((hk55.getW rfl rfl (by omega)).trans (hk35.getW rfl rfl (by omega))))) (fun j => ((hk65.getA rfl rfl rfl).trans ((hk55.getA rfl rfl rfl).trans (hk35.getA rfl rfl rfl))))
                  have hp124 : zMe M121 a := hp123.up e122 (by omega)
                  have hI125 : zI G M121 := hI62.put e122 (((zM67 h0) 4).trans (zwG_1 (by omega))) rfl (by omega)
                  have hK126 := hK66.upP e122 rfl
                  refine q_iconst C dX12_includes_159 (n := 160) rfl ?_
                  have hp127 : zGr M121 a 1 := p1.cg (fun j => ((zup_p e122 (by omega) _).trans ((hk65.getA rfl rfl rfl).trans ((hk55.getA rfl rfl rfl).trans (hk35.getA rfl rfl rfl))))) (fun j => ((zup_p e122 (by omega) _).trans ((hk65.getA rfl rfl rfl).trans ((hk55.getA rfl rfl rfl).trans (hk35.getA rfl rfl rfl))))) (fun j => ((zup_p e122 (by omega) _).trans ((hk65.getA rfl rfl rfl).trans ((hk55.getA rfl rfl rfl).trans (hk35.getA rfl rfl rfl))))) (fun j => ((zup_p e122 (by omega) _).trans ((hk65.getA rfl rfl rfl).trans ((hk55.getA rfl rfl rfl).trans (hk35.getA rfl rfl rfl))))) (fun j => ((zup_p e122 (by omega) _).trans ((hk65.getA rfl rfl rfl).trans ((hk55.getA rfl rfl rfl).trans (hk35.getA rfl rfl rfl))))) ((zup_p e122 (by omega) _).trans ((hk65.getS rfl rfl).trans ((hk55.getS rfl rfl).trans (hk35.getS rfl rfl)))) ((zup_p e122 (by omega) _).trans ((hk65.getS rfl rfl).trans ((hk55.getS rfl rfl).trans (hk35.getS rfl rfl))))
                  exact q_zret C dX12_includes_160 ⟨rfl, rfl⟩ (by omega) (by rw [hPo]; exact ⟨1, M121, J61, rfl, rfl, hI125, hK126, by omega, Or.inr (hp127.weak (by omega)), hp124, (by have hw : M121 (a + 18) 3 = M (a + 18) 3 := ((zup_n e122 (by omega)).trans ((hk65.getP rfl rfl rfl).trans ((hk55.getP rfl rfl rfl).trans (hk35.getP rfl rfl rfl)))); omega), Or.inr (Int.le_of_eq (zRu_cg ((zup_n e122 (by omega)).trans ((hk65.getP rfl rfl rfl).trans ((hk55.getP rfl rfl rfl).trans (hk35.getP rfl rfl rfl)))) ((zup_p e122 (by omega) _).trans ((hk65.getS rfl rfl).trans ((hk55.getS rfl rfl).trans (hk35.getS rfl rfl)))) (fun j => ((zup_p e122 (by omega) _).trans ((hk65.getA rfl rfl rfl).trans ((hk55.getA rfl rfl rfl).trans (hk35.getA rfl rfl rfl)))))))⟩)
              · refine q_iconst C dX12_includes_142 (n := 143) rfl ?_
                have hp128 : zMe M60 a := p2.cg (fun j j0 j1 => ((hk65.getW rfl rfl (by omega)).trans ((hk55.getW rfl rfl (by omega)).trans (hk35.getW rfl rfl (by omega))))) (fun j => ((hk65.getA rfl rfl rfl).trans ((hk55.getA rfl rfl rfl).trans (hk35.getA rfl rfl rfl))))
                exact q_zret C dX12_includes_143 ⟨rfl, rfl⟩ (by omega) (by rw [hPo]; exact ⟨0, M60, J61, rfl, rfl, hI62, hK66, by omega, Or.inl rfl, hp128, (by have hw : M60 (a + 18) 3 = M (a + 18) 3 := ((hk65.getP rfl rfl rfl).trans ((hk55.getP rfl rfl rfl).trans (hk35.getP rfl rfl rfl))); omega), Or.inl (by omega)⟩)
            refine q_if_ne C 134 dX12_includes_103 (n := 106) rfl rfl (by omega) (fun h129 => ?_) (fun h129 => ?_)
            · exact zK.weak (J_58 (by omega)) (zwk_c (zwk_c (zwk_n (zwk_n (zwk_c zwk_e)))))
            · refine q_aload_n C dX12_includes_106 (n := 107) rfl rfl ?_
              have g130 := zI.at hI (zM201 h0)
              refine q_getI C dX12_includes_107 (n := 110) rfl f_X12_645 (zM0 h0) (v := M a 88) ((hk55.getS rfl rfl).trans (hk35.getS rfl rfl)) ?_
              refine q_bipush C dX12_includes_110 (n := 112) rfl (x := 6) (by decide) ?_
              have J_131 : zK w p e 7 0 0 s m args below meth c 5 T Po 126 [.ref (w.2.1 + a), .null, .null, .null, .null] [] (T, M50, J51, R) := by
                refine q_aload_n C dX12_includes_126 (n := 127) rfl rfl ?_
                refine q_bipush C dX12_includes_127 (n := 129) rfl (x := 11) (by decide) ?_
                refine q_iconst C dX12_includes_129 (n := 130) rfl ?_
                refine q_callVi C dX12_includes_130 (n := 133) rfl m_X12_376 v_yX12_badAt (zM0 h0) ⟨by decide, rfl⟩ (c_X12_badAt (w := w) (J := J51) hI52 hF h0 11 2 (by omega) (by omega)) (Nat.le_of_ble_eq_true rfl) rfl rfl (Nat.le_of_ble_eq_true rfl) ⟨Nat.le_refl _, Nat.le_refl _⟩ (fun x138 M134 J135  hI136 h137 => ?_)
                obtain ⟨hk139, h132, h133⟩ := h137
                have hK140 := hK56.tr hk139 rfl rfl rfl
                have hp141 : zMe M134 a := p2.cg (fun j j0 j1 => ((hk139.getW rfl rfl (by omega)).trans ((hk55.getW rfl rfl (by omega)).trans (hk35.getW rfl rfl (by omega))))) (fun j => ((hk139.getA rfl rfl rfl).trans ((hk55.getA rfl rfl rfl).trans (hk35.getA rfl rfl rfl))))
                exact q_zret C dX12_includes_133 ⟨rfl, rfl⟩ (by omega) (by rw [hPo]; exact ⟨x138, M134, J135, rfl, rfl, hI136, hK140, by omega, Or.inl (by omega), hp141, (by have hw : M134 (a + 18) 3 = M (a + 18) 3 := ((hk139.getP rfl rfl rfl).trans ((hk55.getP rfl rfl rfl).trans (hk35.getP rfl rfl rfl))); omega), Or.inl (by omega)⟩)
              refine q_icmp_eq C 126 dX12_includes_112 (n := 115) rfl rfl (by omega) (fun h142 => ?_) (fun h142 => ?_)
              · exact zK.weak (J_131) (zwk_c (zwk_n (zwk_n (zwk_n (zwk_n zwk_e)))))
              · refine q_aload_n C dX12_includes_115 (n := 116) rfl rfl ?_
                refine q_getR C dX12_includes_116 (n := 119) rfl f_X12_68 (zM0 h0) (hF _ _ _ (zM65 h0)) ?_
                refine q_iconst C dX12_includes_119 (n := 120) rfl ?_
                have g143 := zI.at hI (((zM67 h0) 3).trans (zwG_1 (by omega)))
                refine q_iald C dX12_includes_120 (n := 121) rfl (zM66 h0) (by omega) (v := M (a + 18) 3) ((hk55.getP rfl rfl rfl).trans (hk35.getP rfl rfl rfl)) ?_
                refine q_bipush C dX12_includes_121 (n := 123) rfl (x := 12) (by decide) ?_
                refine q_icmp_ne C 134 dX12_includes_123 (n := 126) rfl rfl (by omega) (fun h144 => ?_) (fun h144 => ?_)
                · exact zK.weak (J_58 (by omega)) (zwk_c (zwk_c (zwk_n (zwk_n (zwk_c zwk_e)))))
                · exact zK.weak (J_131) (zwk_c (zwk_n (zwk_n (zwk_n (zwk_n zwk_e)))))
          have J_145 : zK w p e 7 0 0 s m args below meth c 5 T Po 91 [.ref (w.2.1 + a), zi (x20 - 48), zi (M a 28), zi (M a 29), .null] [] (T, M30, J31, R) := by
            refine q_iconst C dX12_includes_91 (n := 92) rfl ?_
            exact zK.weak (J_40 0 (by omega) (by omega)) (zwk_c (zwk_c (zwk_c (zwk_c (zwk_n zwk_e)))))
          refine q_if_le C 91 dX12_includes_76 (n := 79) rfl rfl (by omega) (fun h146 => ?_) (fun h146 => ?_)
          · exact zK.weak (J_145) (zwk_c (zwk_c (zwk_c (zwk_c (zwk_n zwk_e)))))
          · refine q_aload_n C dX12_includes_79 (n := 80) rfl rfl ?_
            refine q_iconst C dX12_includes_80 (n := 81) rfl ?_
            refine q_callVp C dX12_includes_81 (n := 84) rfl m_X12_436 v_yX12_macroOf (zM0 h0) ⟨by decide, rfl⟩ (c_X12_macroOf (w := w) (J := J31) hI32 hF h0 2 (by omega)) (Nat.le_of_ble_eq_true rfl) rfl rfl (Nat.le_of_ble_eq_true rfl) ⟨Nat.le_refl _, Nat.le_refl _⟩ (fun x148 h149 => ?_)
            have hz150 : M30 (a + 18) 0 = M (a + 18) 0 := (hk35.getP rfl rfl rfl)
            refine q_if_lt C 91 dX12_includes_84 (n := 87) rfl rfl (by omega) (fun h151 => ?_) (fun h151 => ?_)
            · exact zK.weak (J_145) (zwk_c (zwk_c (zwk_c (zwk_c (zwk_n zwk_e)))))
            · refine q_iconst C dX12_includes_87 (n := 88) rfl ?_
              refine q_goto C 92 dX12_includes_88 rfl ?_
              exact zK.weak (J_40 1 (by omega) (by omega)) (zwk_c (zwk_c (zwk_c (zwk_c (zwk_n zwk_e)))))
        · refine q_aload_n C dX12_includes_63 (n := 64) rfl rfl ?_
          refine q_bipush C dX12_includes_64 (n := 66) rfl (x := 11) (by decide) ?_
          refine q_iconst C dX12_includes_66 (n := 67) rfl ?_
          refine q_callVi C dX12_includes_67 (n := 70) rfl m_X12_376 v_yX12_badAt (zM0 h0) ⟨by decide, rfl⟩ (c_X12_badAt (w := w) (J := J) hI hF h0 11 2 (by omega) (by omega)) (Nat.le_of_ble_eq_true rfl) rfl rfl (Nat.le_of_ble_eq_true rfl) ⟨Nat.le_refl _, Nat.le_refl _⟩ (fun x158 M154 J155  hI156 h157 => ?_)
          obtain ⟨hk159, h152, h153⟩ := h157
          have hK160 := hK0.tr hk159 rfl rfl rfl
          have hp161 : zMe M154 a := p2.cg (fun j j0 j1 => (hk159.getW rfl rfl (by omega))) (fun j => (hk159.getA rfl rfl rfl))
          exact q_zret C dX12_includes_70 ⟨rfl, rfl⟩ (by omega) (by rw [hPo]; exact ⟨x158, M154, J155, rfl, rfl, hI156, hK160, by omega, Or.inl (by omega), hp161, (by have hw : M154 (a + 18) 3 = M (a + 18) 3 := (hk159.getP rfl rfl rfl); omega), Or.inl (by omega)⟩)
      · exact zK.weak (J_2) (zwk_c (zwk_n (zwk_n (zwk_n (zwk_n zwk_e)))))
theorem c_X12_doesDirective {w : zWp} {T : zTl} {M : zMm} {J : zJm} {R : zRm'} {G : zGt} {F : zRm'} {a : Nat} (hI : zI G M) (hF : zF F R) (h0 : zModel T F G a) (v1 : Int) (p1 : zGr M a 1) (p2 : zMe M a) (p3 : zFi M a) (p4 : zLy M a 440) (p5 : M a 26 = 3500 ∧ M a 25 = 440 ∧ 0 ≤ M a 24 ∧ M a 24 ≤ 440) (p6 : 0 ≤ M a 28 ∧ M a 28 ≤ 3 ∧ 0 ≤ M a 29 ∧ M a 29 ≤ 39 ∧ M a 29 < M (a + 2) (4 + M a 28)) (p7 : 0 ≤ M (a + 18) 3 ∧ M (a + 18) 3 ≤ 12) (p8 : 0 ≤ v1 ∧ v1 ≤ 39) (p9 : v1 < M (a + 2) (4 + M (a + 51) (M a 88))) : zCt w 8 0 0 yX12_doesDirective cX12_doesDirective 3 (some .boolean) [.ref (w.2.1 + a), zi v1] (T, M, J, R) (zPi T R G (fun x M2 => (zMd a [9, 10, 11, 12, 13, 14, 15, 16, 17, 18, 20, 22, 23, 24, 25, 26, 27, 28, 29, 30, 31, 32, 33, 34, 35, 36, 37, 38, 39, 40, 41, 42, 43, 44, 45, 46, 47, 48, 51, 52, 53, 54, 55, 56, 57, 58] [11, 23, 24, 25, 26, 27, 28, 29, 34, 37, 57, 58, 59, 60, 61, 62, 63, 64, 65, 74, 75, 76, 78, 88, 89, 101] [] M M2) ∧ (x = 0 ∨ x = 1) ∧ (x = 0 ∨ zGr M2 a 0) ∧ (zMe M2 a) ∧ (0 ≤ M2 (a + 18) 3 ∧ M2 (a + 18) 3 ≤ 12) ∧ (x = 0 ∨ zRu M2 a ≤ zRu M a))) := by
  refine zCt.of rfl (Nat.le_of_ble_eq_true rfl) ?_
  intro p e s m args below meth c C
  obtain ⟨Po, hPo⟩ : ∃ Po, Po = zPi T R G (fun x M2 => (zMd a [9, 10, 11, 12, 13, 14, 15, 16, 17, 18, 20, 22, 23, 24, 25, 26, 27, 28, 29, 30, 31, 32, 33, 34, 35, 36, 37, 38, 39, 40, 41, 42, 43, 44, 45, 46, 47, 48, 51, 52, 53, 54, 55, 56, 57, 58] [11, 23, 24, 25, 26, 27, 28, 29, 34, 37, 57, 58, 59, 60, 61, 62, 63, 64, 65, 74, 75, 76, 78, 88, 89, 101] [] M M2) ∧ (x = 0 ∨ x = 1) ∧ (x = 0 ∨ zGr M2 a 0) ∧ (zMe M2 a) ∧ (0 ≤ M2 (a + 18) 3 ∧ M2 (a + 18) 3 ≤ 12) ∧ (x = 0 ∨ zRu M2 a ≤ zRu M a)) := ⟨_, rfl⟩
  rw [← hPo]
  have hK0 : zMd a [9, 10, 11, 12, 13, 14, 15, 16, 17, 18, 20, 22, 23, 24, 25, 26, 27, 28, 29, 30, 31, 32, 33, 34, 35, 36, 37, 38, 39, 40, 41, 42, 43, 44, 45, 46, 47, 48, 51, 52, 53, 54, 55, 56, 57, 58] [11, 23, 24, 25, 26, 27, 28, 29, 34, 37, 57, 58, 59, 60, 61, 62, 63, 64, 65, 74, 75, 76, 78, 88, 89, 101] [] M M := zMd.rf
  have gk_tokens := zI.at hI (zM58 h0)
  have gk_groups := zI.at hI (zM202 h0)
  have gg := zGr.num p1 rfl
  show zK w p e 8 0 0 s m args below meth c 3 T Po 0 [.ref (w.2.1 + a), zi v1, .null] [] (T, M, J, R)
  refine q_aload_n C dX12_doesDirective_0 (n := 1) rfl rfl ?_
  have g1 := zI.at hI (zM58 h0)
  refine q_getI C dX12_doesDirective_1 (n := 4) rfl f_X12_355 (zM0 h0) (v := M a 23) rfl ?_
  refine q_iconst C dX12_doesDirective_4 (n := 5) rfl ?_
  refine q_icmp_ne C 10 dX12_doesDirective_5 (n := 8) rfl rfl (by omega) (fun h2 => ?_) (fun h2 => ?_)
  · refine q_aload_n C dX12_doesDirective_10 (n := 11) rfl rfl ?_
    refine q_iconst C dX12_doesDirective_11 (n := 12) rfl ?_
    refine q_callVi C dX12_doesDirective_12 (n := 15) rfl m_X12_361 v_yX12_wordOf (zM0 h0) ⟨by decide, rfl⟩ (c_X12_wordOf (w := w) (J := J) hI hF h0 1 (by omega)) (Nat.le_of_ble_eq_true rfl) rfl rfl (Nat.le_of_ble_eq_true rfl) ⟨Nat.le_refl _, Nat.le_refl _⟩ (fun x9 M5 J6  hI7 h8 => ?_)
    obtain ⟨hk10, h3, h4⟩ := h8
    have hK11 := hK0.tr hk10 rfl rfl rfl
    refine q_istore_n C [.ref (w.2.1 + a), zi v1, zi x9] dX12_doesDirective_15 (n := 16) rfl rfl rfl ?_
    refine q_iload_n C dX12_doesDirective_16 (n := 17) rfl rfl ?_
    have K_12 : (x9 = 1 ∨ x9 = 4 ∨ x9 = 5) → zK w p e 8 0 0 s m args below meth c 3 T Po 109 [.ref (w.2.1 + a), zi v1, zi x9] [] (T, M5, J6, R) := by
      intro h13
      refine q_aload_n C dX12_doesDirective_109 (n := 110) rfl rfl ?_
      refine q_iload_n C dX12_doesDirective_110 (n := 111) rfl rfl ?_
      refine q_iload_n C dX12_doesDirective_111 (n := 112) rfl rfl ?_
      have hp14 : zMe M5 a := p2.cg (fun j j0 j1 => (hk10.getA rfl rfl rfl)) (fun j => (hk10.getA rfl rfl rfl))
      have hp15 : zGr M5 a 1 := p1.cg (fun j => (hk10.getA rfl rfl rfl)) (fun j => (hk10.getA rfl rfl rfl)) (fun j => (hk10.getA rfl rfl rfl)) (fun j => (hk10.getA rfl rfl rfl)) (fun j => (hk10.getA rfl rfl rfl)) (hk10.getS rfl rfl) (hk10.getS rfl rfl)
      refine q_callVi C dX12_doesDirective_112 (n := 115) rfl m_X12_670 v_yX12_doesNamed (zM0 h0) ⟨by decide, rfl⟩ (c_X12_doesNamed (w := w) (J := J6) hI7 hF h0 x9 v1 hp15 hp14 (by omega) (by omega) (by rw [show M5 a 88 = M a 88 from (hk10.getS rfl rfl), show M5 (a + 51) (M a 88) = M (a + 51) (M a 88) from (hk10.getA rfl rfl rfl), show M5 (a + 2) (4 + M (a + 51) (M a 88)) = M (a + 2) (4 + M (a + 51) (M a 88)) from (hk10.getA rfl rfl rfl)]; omega)) (Nat.le_of_ble_eq_true rfl) rfl rfl (Nat.le_of_ble_eq_true rfl) ⟨Nat.le_refl _, Nat.le_refl _⟩ (fun x24 M20 J21  hI22 h23 => ?_)
      obtain ⟨hk25, h16, h17, h18, h19⟩ := h23
      have hK26 := hK11.tr hk25 rfl rfl rfl
      have hz27 : M5 (a + 18) 3 = M (a + 18) 3 := (hk10.getA rfl rfl rfl)
      exact q_zret C dX12_doesDirective_115 ⟨rfl, rfl⟩ (by omega) (by rw [hPo]; exact ⟨x24, M20, J21, rfl, rfl, hI22, hK26, by omega, h17, h18, (by have hw : M20 (a + 18) 3 = M (a + 18) 3 := ((h19).trans (hk10.getA rfl rfl rfl)); omega), Or.inr (Int.le_of_eq (zRu_cg ((h19).trans (hk10.getA rfl rfl rfl)) ((hk25.getS rfl rfl).trans (hk10.getS rfl rfl)) (fun j => ((hk25.getA rfl rfl rfl).trans (hk10.getA rfl rfl rfl)))))⟩)
    by_cases h28 : x9 = 0
    · refine q_tabIn C 56 dX12_doesDirective_17 h28 (by omega) rfl rfl ?_
      refine q_aload_n C dX12_doesDirective_56 (n := 57) rfl rfl ?_
      have hp29 : zMe M5 a := p2.cg (fun j j0 j1 => (hk10.getA rfl rfl rfl)) (fun j => (hk10.getA rfl rfl rfl))
      have hp30 : zLy M5 a 440 := p4.cg (fun j => (hk10.getA rfl rfl rfl)) (fun j => (hk10.getA rfl rfl rfl)) (hk10.getS rfl rfl)
      refine q_callVi C dX12_doesDirective_57 (n := 60) rfl m_X12_664 v_yX12_defines (zM0 h0) ⟨by decide, rfl⟩ (c_X12_defines (w := w) (J := J6) hI7 hF h0 hp29 hp30 (by have hz31 : M5 a 23 = M a 23 := (hk10.getS rfl rfl); omega)) (Nat.le_of_ble_eq_true rfl) rfl rfl (Nat.le_of_ble_eq_true rfl) ⟨Nat.le_refl _, Nat.le_refl _⟩ (fun x39 M35 J36  hI37 h38 => ?_)
      obtain ⟨hk40, h32, h33, h34⟩ := h38
      have hK41 := hK11.tr hk40 rfl rfl rfl
      have hz42 : M5 (a + 18) 3 = M (a + 18) 3 := (hk10.getA rfl rfl rfl)
      have hp43 : zGr M35 a 1 := p1.cg (fun j => ((hk40.getA rfl rfl rfl).trans (hk10.getA rfl rfl rfl))) (fun j => ((hk40.getA rfl rfl rfl).trans (hk10.getA rfl rfl rfl))) (fun j => ((hk40.getA rfl rfl rfl).trans (hk10.getA rfl rfl rfl))) (fun j => ((hk40.getA rfl rfl rfl).trans (hk10.getA rfl rfl rfl))) (fun j => ((hk40.getA rfl rfl rfl).trans (hk10.getA rfl rfl rfl))) ((hk40.getS rfl rfl).trans (hk10.getS rfl rfl)) ((hk40.getS rfl rfl).trans (hk10.getS rfl rfl))
      exact q_zret C dX12_doesDirective_60 ⟨rfl, rfl⟩ (by omega) (by rw [hPo]; exact ⟨x39, M35, J36, rfl, rfl, hI37, hK41, by omega, Or.inr (hp43.weak (by omega)), h33, (by have hw : M35 (a + 18) 3 = M (a + 18) 3 := ((h34).trans (hk10.getA rfl rfl rfl)); omega), Or.inr (Int.le_of_eq (zRu_cg ((h34).trans (hk10.getA rfl rfl rfl)) ((hk40.getS rfl rfl).trans (hk10.getS rfl rfl)) (fun j => ((hk40.getA rfl rfl rfl).trans (hk10.getA rfl rfl rfl)))))⟩)
    by_cases h44 : x9 = 1
    · exact q_tabIn C 109 dX12_doesDirective_17 h44 (by omega) rfl rfl (K_12 (by omega))
    by_cases h45 : x9 = 2
    · refine q_tabIn C 61 dX12_doesDirective_17 h45 (by omega) rfl rfl ?_
      refine q_aload_n C dX12_doesDirective_61 (n := 62) rfl rfl ?_
      have hp46 : zMe M5 a := p2.cg (fun j j0 j1 => (hk10.getA rfl rfl rfl)) (fun j => (hk10.getA rfl rfl rfl))
      have hp47 : zGr M5 a 1 := p1.cg (fun j => (hk10.getA rfl rfl rfl)) (fun j => (hk10.getA rfl rfl rfl)) (fun j => (hk10.getA rfl rfl rfl)) (fun j => (hk10.getA rfl rfl rfl)) (fun j => (hk10.getA rfl rfl rfl)) (hk10.getS rfl rfl) (hk10.getS rfl rfl)
      have hp48 : zFi M5 a := p3.cg (fun j => (hk10.getA rfl rfl rfl))
      refine q_callVi C dX12_doesDirective_62 (n := 65) rfl m_X12_667 v_yX12_includes (zM0 h0) ⟨by decide, rfl⟩ (c_X12_includes (w := w) (J := J6) hI7 hF h0 hp47 hp46 hp48 (by have h29 : M5 a 29 = M a 29 := (hk10.getS rfl rfl); rw [show M5 a 28 = M a 28 from (hk10.getS rfl rfl), show M5 (a + 2) (4 + M a 28) = M (a + 2) (4 + M a 28) from (hk10.getA rfl rfl rfl)]; omega) (by have hw : M5 (a + 18) 3 = M (a + 18) 3 := (hk10.getA rfl rfl rfl); omega)) (Nat.le_of_ble_eq_true rfl) rfl rfl (Nat.le_of_ble_eq_true rfl) ⟨Nat.le_refl _, Nat.le_refl _⟩ (fun x58 M54 J55  hI56 h57 => ?_)
      obtain ⟨hk59, h49, h50, h51, h52, h53⟩ := h57
      have hK60 := hK11.tr hk59 rfl rfl rfl
      exact q_zret C dX12_doesDirective_65 ⟨rfl, rfl⟩ (by omega) (by rw [hPo]; exact ⟨x58, M54, J55, rfl, rfl, hI56, hK60, by omega, h50, h51, h52, h53.imp id (fun h => Int.le_trans h (Int.le_of_eq (zRu_cg (hk10.getA rfl rfl rfl) (hk10.getS rfl rfl) (fun j => (hk10.getA rfl rfl rfl)))))⟩)
    by_cases h61 : x9 = 3
    · refine q_tabIn C 66 dX12_doesDirective_17 h61 (by omega) rfl rfl ?_
      refine q_aload_n C dX12_doesDirective_66 (n := 67) rfl rfl ?_
      refine q_iconst C dX12_doesDirective_67 (n := 68) rfl ?_
      have hp62 : zMe M5 a := p2.cg (fun j j0 j1 => (hk10.getA rfl rfl rfl)) (fun j => (hk10.getA rfl rfl rfl))
      obtain ⟨mbq63, mpq63, hmaq63⟩ := hp62
      have hp64 : zOg M5 a (M5 (a + 10)) (M5 (a + 11)) := fun t _ => ⟨rfl, rfl⟩
      have hp65 : zLy M5 a 440 := p4.cg (fun j => (hk10.getA rfl rfl rfl)) (fun j => (hk10.getA rfl rfl rfl)) (hk10.getS rfl rfl)
      refine q_callVi C dX12_doesDirective_68 (n := 71) rfl m_X12_651 v_yX12_conditions (zM0 h0) ⟨by decide, rfl⟩ (c_X12_conditions (w := w) (J := J6) hI7 hF h0 2 hp64 hmaq63 hp65 (by have hz66 : M5 a 26 = M a 26 := (hk10.getS rfl rfl); have hz67 : M5 a 25 = M a 25 := (hk10.getS rfl rfl); have hz68 : M5 a 24 = M a 24 := (hk10.getS rfl rfl); omega) (by omega)) (Nat.le_of_ble_eq_true rfl) rfl rfl (Nat.le_of_ble_eq_true rfl) ⟨Nat.le_refl _, Nat.le_refl _⟩ (fun x77 M73 J74  hI75 h76 => ?_)
      obtain ⟨hk78, h69, h70, h71, h72⟩ := h76
      have hK79 := hK11.tr hk78 rfl rfl rfl
      have hz80 : M5 (a + 18) 3 = M (a + 18) 3 := (hk10.getA rfl rfl rfl)
      refine q_if_ne C 76 dX12_doesDirective_71 (n := 74) rfl rfl (by omega) (fun h81 => ?_) (fun h81 => ?_)
      · refine q_aload_n C dX12_doesDirective_76 (n := 77) rfl rfl ?_
        refine q_getR C dX12_doesDirective_77 (n := 80) rfl f_X12_68 (zM0 h0) (hF _ _ _ (zM65 h0)) ?_
        refine q_bipush C dX12_doesDirective_80 (n := 82) rfl (x := 9) (by decide) ?_
        refine q_dup2 C dX12_doesDirective_82 (n := 83) rfl ⟨rfl, rfl⟩ ?_
        have g82 := zI.at hI75 (((zM67 h0) 9).trans (zwG_1 (by omega)))
        refine q_iald C dX12_doesDirective_83 (n := 84) rfl (zM66 h0) (by omega) (v := M73 (a + 18) 9) rfl ?_
        refine q_iconst C dX12_doesDirective_84 (n := 85) rfl ?_
        refine q_iadd C dX12_doesDirective_85 (n := 86) rfl (v := (M73 (a + 18) 9) + 1) rfl ?_
        refine q_wrap C ?_
        have g83 := zr_wr ((M73 (a + 18) 9) + 1)
        refine q_iast C dX12_doesDirective_86 (n := 87) rfl (zM66 h0) (by omega)  (fun M84 e85 => ?_)
        have hp86 : zMa M84 a mbq63 mpq63 := h71.up e85 (by omega)
        have hI87 : zI G M84 := hI75.put e85 (((zM67 h0) 9).trans (zwG_1 (by omega))) rfl (by omega)
        have hK88 := hK79.upA e85 rfl
        refine q_aload_n C dX12_doesDirective_87 (n := 88) rfl rfl ?_
        refine q_iload_n C dX12_doesDirective_88 (n := 89) rfl rfl ?_
        refine q_aload_n C dX12_doesDirective_89 (n := 90) rfl rfl ?_
        refine q_getL C dX12_doesDirective_90 (n := 93) rfl f_X12_627 (zM0 h0) (fun l89 => ?_)
        refine q_lconst C dX12_doesDirective_93 (n := 94) rfl ?_
        refine q_lcmp C dX12_doesDirective_94 (n := 95) rfl (fun z90 h91 => ?_)
        have J_95 : ∀ (u92 : Int), (-2147483648 ≤ u92 ∧ u92 ≤ 2147483647) → (u92 = 0 ∨ u92 = 1) → zK w p e 8 0 0 s m args below meth c 3 T Po 103 [.null, .null, .null] [zi u92, zi v1, .ref (w.2.1 + a)] (T, M84, J74, R) := by
          intro u92 h93 h94
          refine q_iconst C dX12_doesDirective_103 (n := 104) rfl ?_
          have hp96 : zGr M84 a 1 := p1.cg (fun j => ((zup_p e85 (by omega) _).trans ((hk78.getA rfl rfl rfl).trans (hk10.getA rfl rfl rfl)))) (fun j => ((zup_p e85 (by omega) _).trans ((hk78.getA rfl rfl rfl).trans (hk10.getA rfl rfl rfl)))) (fun j => ((zup_p e85 (by omega) _).trans ((hk78.getA rfl rfl rfl).trans (hk10.getA rfl rfl rfl)))) (fun j => ((zup_p e85 (by omega) _).trans ((hk78.getA rfl rfl rfl).trans (hk10.getA rfl rfl rfl)))) (fun j => ((zup_p e85 (by omega) _).trans ((hk78.getA rfl rfl rfl).trans (hk10.getA rfl rfl rfl)))) ((zup_p e85 (by omega) _).trans ((hk78.getS rfl rfl).trans (hk10.getS rfl rfl))) ((zup_p e85 (by omega) _).trans ((hk78.getS rfl rfl).trans (hk10.getS rfl rfl)))
          refine q_callVv C dX12_doesDirective_104 (n := 107) rfl m_X12_657 v_yX12_group (zM0 h0) ⟨by decide, rfl⟩ (c_X12_group (w := w) (J := J74) hI87 hF h0 v1 u92 0 (by have hz97 : M84 a 89 = M a 89 := ((zup_p e85 (by omega) _).trans ((hk78.getS rfl rfl).trans (hk10.getS rfl rfl))); omega) (by omega) (by omega) (by omega)) (Nat.le_of_ble_eq_true rfl) rfl rfl (Nat.le_of_ble_eq_true rfl) ⟨Nat.le_refl _, Nat.le_refl _⟩ (fun M101 J102  hI103 h104 => ?_)
          obtain ⟨hk105, h98, h99, h100⟩ := h104
          have hK106 := hK88.tr hk105 rfl rfl rfl
          have hz107 : M84 a 89 = M a 89 := ((zup_p e85 (by omega) _).trans ((hk78.getS rfl rfl).trans (hk10.getS rfl rfl)))
          have hp108 : zGr M101 a 0 := hp96.push (fun j => (hk105.getA rfl rfl rfl)) (fun j => (hk105.getA rfl rfl rfl)) (fun j => (hk105.getA rfl rfl rfl)) (fun j => (hk105.getA rfl rfl rfl)) (hk105.getS rfl rfl) h98 h99 h100 (by rw [show M84 a 88 = M a 88 from ((zup_p e85 (by omega) _).trans ((hk78.getS rfl rfl).trans (hk10.getS rfl rfl))), show M84 (a + 51) (M a 88) = M (a + 51) (M a 88) from ((zup_p e85 (by omega) _).trans ((hk78.getA rfl rfl rfl).trans (hk10.getA rfl rfl rfl))), show M84 (a + 2) (4 + M (a + 51) (M a 88)) = M (a + 2) (4 + M (a + 51) (M a 88)) from ((zup_p e85 (by omega) _).trans ((hk78.getA rfl rfl rfl).trans (hk10.getA rfl rfl rfl)))]; omega)
          refine q_iconst C dX12_doesDirective_107 (n := 108) rfl ?_
          have hp109 : zMa M101 a mbq63 mpq63 := hp86.cg (fun j j0 j1 => (hk105.getA rfl rfl rfl)) (fun j => (hk105.getA rfl rfl rfl))
          have hp110 : zMe M101 a := ⟨_, _, hp109⟩
          exact q_zret C dX12_doesDirective_108 ⟨rfl, rfl⟩ (by omega) (by rw [hPo]; exact ⟨1, M101, J102, rfl, rfl, hI103, hK106, by omega, Or.inr hp108, hp110, (by have hw : M101 (a + 18) 3 = M (a + 18) 3 := ((hk105.getA rfl rfl rfl).trans ((zup_n e85 (by omega)).trans ((h72).trans (hk10.getA rfl rfl rfl)))); omega), Or.inr (Int.le_of_eq (zRu_cg ((hk105.getA rfl rfl rfl).trans ((zup_n e85 (by omega)).trans ((h72).trans (hk10.getA rfl rfl rfl)))) ((hk105.getS rfl rfl).trans ((zup_p e85 (by omega) _).trans ((hk78.getS rfl rfl).trans (hk10.getS rfl rfl)))) (fun j => ((hk105.getA rfl rfl rfl).trans ((zup_p e85 (by omega) _).trans ((hk78.getA rfl rfl rfl).trans (hk10.getA rfl rfl rfl)))))))⟩)
        refine q_if_eq C 102 dX12_doesDirective_95 (n := 98) rfl rfl (by omega) (fun h111 => ?_) (fun h111 => ?_)
        · refine q_iconst C dX12_doesDirective_102 (n := 103) rfl ?_
          exact zK.weak (J_95 0 (by omega) (by omega)) (zwk_n (zwk_n (zwk_n zwk_e)))
        · refine q_iconst C dX12_doesDirective_98 (n := 99) rfl ?_
          refine q_goto C 103 dX12_doesDirective_99 rfl ?_
          exact zK.weak (J_95 1 (by omega) (by omega)) (zwk_n (zwk_n (zwk_n zwk_e)))
      · refine q_iconst C dX12_doesDirective_74 (n := 75) rfl ?_
        have hp112 : zMe M73 a := ⟨_, _, h71⟩
        exact q_zret C dX12_doesDirective_75 ⟨rfl, rfl⟩ (by omega) (by rw [hPo]; exact ⟨0, M73, J74, rfl, rfl, hI75, hK79, by omega, Or.inl rfl, hp112, (by have hw : M73 (a + 18) 3 = M (a + 18) 3 := ((h72).trans (hk10.getA rfl rfl rfl)); omega), Or.inl rfl⟩)
    by_cases h113 : x9 = 4
    · exact q_tabIn C 109 dX12_doesDirective_17 h113 (by omega) rfl rfl (K_12 (by omega))
    by_cases h114 : x9 = 5
    · exact q_tabIn C 109 dX12_doesDirective_17 h114 (by omega) rfl rfl (K_12 (by omega))
    refine q_tabOut C 116 dX12_doesDirective_17 (by omega) (by omega) rfl ?_
    refine q_aload_n C dX12_doesDirective_116 (n := 117) rfl rfl ?_
    refine q_iconst C dX12_doesDirective_117 (n := 118) rfl ?_
    refine q_iconst C dX12_doesDirective_118 (n := 119) rfl ?_
    refine q_callVi C dX12_doesDirective_119 (n := 122) rfl m_X12_430 v_yX12_badToken (zM0 h0) ⟨by decide, rfl⟩ (c_X12_badToken (w := w) (J := J6) hI7 hF h0 2 1 (by omega) (by omega)) (Nat.le_of_ble_eq_true rfl) rfl rfl (Nat.le_of_ble_eq_true rfl) ⟨Nat.le_refl _, Nat.le_refl _⟩ (fun x121 M117 J118  hI119 h120 => ?_)
    obtain ⟨hk122, h115, h116⟩ := h120
    have hK123 := hK11.tr hk122 rfl rfl rfl
    have hp124 : zMe M117 a := p2.cg (fun j j0 j1 => ((hk122.getW rfl rfl (by omega)).trans (hk10.getA rfl rfl rfl))) (fun j => ((hk122.getA rfl rfl rfl).trans (hk10.getA rfl rfl rfl)))
    exact q_zret C dX12_doesDirective_122 ⟨rfl, rfl⟩ (by omega) (by rw [hPo]; exact ⟨x121, M117, J118, rfl, rfl, hI119, hK123, by omega, Or.inl (by omega), hp124, (by have hw : M117 (a + 18) 3 = M (a + 18) 3 := ((hk122.getP rfl rfl rfl).trans (hk10.getA rfl rfl rfl)); omega), Or.inr (Int.le_of_eq (zRu_cg ((hk122.getP rfl rfl rfl).trans (hk10.getA rfl rfl rfl)) ((hk122.getS rfl rfl).trans (hk10.getS rfl rfl)) (fun j => ((hk122.getA rfl rfl rfl).trans (hk10.getA rfl rfl rfl)))))⟩)
  · refine q_iconst C dX12_doesDirective_8 (n := 9) rfl ?_
    exact q_zret C dX12_doesDirective_9 ⟨rfl, rfl⟩ (by omega) (by rw [hPo]; exact ⟨1, M, J, rfl, rfl, hI, hK0, by omega, Or.inr (p1.weak (by omega)), p2, (by have hw : M (a + 18) 3 = M (a + 18) 3 := rfl; omega), Or.inr (Int.le_of_eq (zRu_cg rfl rfl (fun j => rfl)))⟩)
