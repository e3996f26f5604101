theorem c_X8_keep {w : zWp} {T : zTl} {M : zMm} {J : zJm} {R : zRm'} {G : zGt} {F : zRm'} {a : Nat} (hI : zI G M) (hF : zF F R) (h0 : zStudy T F G a) (v1 : Int) (p1 : 0 ≤ v1 ∧ v1 ≤ 7) : zCt w 2 0 0 yX8_keep cX8_keep 6 none [.ref (w.2.1 + a), zi v1] (T, M, J, R) (zPv T R G (fun M2 => (zKp G 17 M M2))) := by
  refine zCt.of rfl (Nat.le_of_ble_eq_true rfl) ?_
  intro p e s m args below meth c C
  obtain ⟨Po, hPo⟩ : ∃ Po, Po = zPv T R G (fun M2 => (zKp G 17 M M2)) := ⟨_, rfl⟩
  rw [← hPo]
  have hK0 : zKp G 17 M M := zKp.rf
  show zK w p e 2 0 0 s m args below meth c 6 T Po 0 [.ref (w.2.1 + a), zi v1, .null, .null, .null, .null] [] (T, M, J, R)
  refine q_iload_n C dX8_keep_0 (n := 1) rfl rfl ?_
  refine q_sipush C dX8_keep_1 (n := 4) rfl (x := 9305) (by decide) ?_
  refine q_imul C dX8_keep_4 (n := 5) rfl (v := v1 * 9305) rfl ?_
  refine q_istore_n C [.ref (w.2.1 + a), zi v1, zi (v1 * 9305), .null, .null, .null] dX8_keep_5 (n := 6) rfl rfl rfl ?_
  refine q_aload_n C dX8_keep_6 (n := 7) rfl rfl ?_
  refine q_getR C dX8_keep_7 (n := 10) rfl f_X8_14 h0.1 (hF _ _ _ h0.2.1) ?_
  refine q_getR C dX8_keep_10 (n := 13) rfl f_X8_69 h0.2.2.1.1 (hF _ _ _ h0.2.2.1.2.2.2.2.2.2.2.1) ?_
  refine q_astore_n C [.ref (w.2.1 + a), zi v1, zi (v1 * 9305), .ref (w.2.1 + (a + 1 + 2)), .null, .null] dX8_keep_13 (n := 14) rfl rfl rfl ?_
  refine q_iconst C dX8_keep_14 (n := 15) rfl ?_
  refine q_istore C [.ref (w.2.1 + a), zi v1, zi (v1 * 9305), .ref (w.2.1 + (a + 1 + 2)), zi 0, .null] dX8_keep_15 (n := 17) rfl rfl rfl ?_
  have L_13 : ∀ n14 : Nat, ∀ (u1 : Int) (u2 : Int) (M4 : zMm) (J5 : zJm), zI G M4 → zKp G 17 M M4 → zKp G 17 M M4 → (-2147483648 ≤ u1 ∧ u1 ≤ 2147483647) → (-2147483648 ≤ u2 ∧ u2 ≤ 2147483647) → (0 ≤ u2 ∧ u2 ≤ 300) → (9305 * v1 ≤ u1 ∧ u1 ≤ 9305 * v1 + 31 * u2) → (300 - u2 + 1 ≤ (n14 : Int)) → zK w p e 2 0 0 s m args below meth c 6 T Po 17 [.ref (w.2.1 + a), zi v1, zi u1, .ref (w.2.1 + (a + 1 + 2)), zi u2, .null] [] (T, M4, J5, R) := by
    intro n14
    induction n14 with
    | zero =>
      intro u1 u2 M4 J5 hI6 hK7 hK8 h9 h10 h11 h12 hm16
      exfalso
      omega
    | succ n14 ih15 =>
      intro u1 u2 M4 J5 hI6 hK7 hK8 h9 h10 h11 h12 hm16
      refine q_iload C dX8_keep_17 (n := 19) rfl rfl ?_
      refine q_aload_n C dX8_keep_19 (n := 20) rfl rfl ?_
      have g17 := zI.at hI6 h0.2.2.1.2.2.2.2.2.2.2.2.1.2.2.2.2.2.2.2.2.2.2
      refine q_getI C dX8_keep_20 (n := 23) rfl f_X8_73 h0.2.2.1.2.2.2.2.2.2.2.2.1.1 (v := M4 (a + 1 + 2) 3) rfl ?_
      have J_18 : zK w p e 2 0 0 s m args below meth c 6 T Po 97 [.ref (w.2.1 + a), zi v1, zi u1, .null, .null, .null] [] (T, M4, J5, R) := by
        refine q_aload_n C dX8_keep_97 (n := 98) rfl rfl ?_
        refine q_getR C dX8_keep_98 (n := 101) rfl f_X8_14 h0.1 (hF _ _ _ h0.2.1) ?_
        refine q_getR C dX8_keep_101 (n := 104) rfl f_X8_102 h0.2.2.1.1 (hF _ _ _ h0.2.2.1.2.2.2.1) ?_
        have g19 := zI.at hI6 h0.2.2.1.2.2.2.2.1.2.2
        refine q_getI C dX8_keep_104 (n := 107) rfl f_X8_106 h0.2.2.1.2.2.2.2.1.1 (v := M4 (a + 1 + 1) 1) rfl ?_
        refine q_istore C [.ref (w.2.1 + a), zi v1, zi u1, .null, zi (M4 (a + 1 + 1) 1), .null] dX8_keep_107 (n := 109) rfl rfl rfl ?_
        refine q_aload_n C dX8_keep_109 (n := 110) rfl rfl ?_
        refine q_getR C dX8_keep_110 (n := 113) rfl f_X8_21 h0.1 (hF _ _ _ h0.2.2.2.1) ?_
        refine q_iload_n C dX8_keep_113 (n := 114) rfl rfl ?_
        refine q_aload_n C dX8_keep_114 (n := 115) rfl rfl ?_
        refine q_getR C dX8_keep_115 (n := 118) rfl f_X8_14 h0.1 (hF _ _ _ h0.2.1) ?_
        refine q_getR C dX8_keep_118 (n := 121) rfl f_X8_102 h0.2.2.1.1 (hF _ _ _ h0.2.2.1.2.2.2.1) ?_
        have g20 := zI.at hI6 h0.2.2.1.2.2.2.2.1.2.1
        refine q_getI C dX8_keep_121 (n := 124) rfl f_X8_110 h0.2.2.1.2.2.2.2.1.1 (v := M4 (a + 1 + 1) 0) rfl ?_
        refine q_i2b C dX8_keep_124 (n := 125) rfl (v := zi2b (M4 (a + 1 + 1) 0)) rfl ?_
        have g21 := z8_r (M4 (a + 1 + 1) 0)
        refine q_bast C dX8_keep_125 (n := 126) rfl h0.2.2.2.2.1 (by omega) (by omega) (fun M22 e23 => ?_)
        have hI24 : zI G M22 := hI6.put e23 (h0.2.2.2.2.2.1 u1) rfl (by omega)
        have hK25 := hK7.put e23 (h0.2.2.2.2.2.1 u1) (by decide)
        have hK26 := hK8.put e23 (h0.2.2.2.2.2.1 u1) (by decide)
        refine q_aload_n C dX8_keep_126 (n := 127) rfl rfl ?_
        refine q_getR C dX8_keep_127 (n := 130) rfl f_X8_21 h0.1 (hF _ _ _ h0.2.2.2.1) ?_
        refine q_iload_n C dX8_keep_130 (n := 131) rfl rfl ?_
        refine q_iconst C dX8_keep_131 (n := 132) rfl ?_
        refine q_iadd C dX8_keep_132 (n := 133) rfl (v := u1 + 1) rfl ?_
        refine q_iload C dX8_keep_133 (n := 135) rfl rfl ?_
        refine q_callSp C dX8_keep_135 (n := 138) rfl m_X8_113 s_yX5_fileOf (c_X5_fileOf (w := w) (J := J5) hI24 hF (M4 (a + 1 + 1) 1)) (Nat.le_of_ble_eq_true rfl) rfl rfl (Nat.le_of_ble_eq_true rfl) ⟨Nat.le_refl _, Nat.le_refl _⟩ (fun x28 h29 => ?_)
        refine q_i2b C dX8_keep_138 (n := 139) rfl (v := zi2b x28) rfl ?_
        have g30 := z8_r x28
        refine q_bast C dX8_keep_139 (n := 140) rfl h0.2.2.2.2.1 (by omega) (by omega) (fun M31 e32 => ?_)
        have hI33 : zI G M31 := hI24.put e32 (h0.2.2.2.2.2.1 (u1 + 1)) rfl (by omega)
        have hK34 := hK25.put e32 (h0.2.2.2.2.2.1 (u1 + 1)) (by decide)
        have hK35 := hK26.put e32 (h0.2.2.2.2.2.1 (u1 + 1)) (by decide)
        refine q_aload_n C dX8_keep_140 (n := 141) rfl rfl ?_
        refine q_getR C dX8_keep_141 (n := 144) rfl f_X8_21 h0.1 (hF _ _ _ h0.2.2.2.1) ?_
        refine q_iload_n C dX8_keep_144 (n := 145) rfl rfl ?_
        refine q_iconst C dX8_keep_145 (n := 146) rfl ?_
        refine q_iadd C dX8_keep_146 (n := 147) rfl (v := u1 + 2) rfl ?_
        refine q_iload C dX8_keep_147 (n := 149) rfl rfl ?_
        refine q_callSp C dX8_keep_149 (n := 152) rfl m_X8_116 s_yX5_lineOf (c_X5_lineOf (w := w) (J := J5) hI33 hF (M4 (a + 1 + 1) 1)) (Nat.le_of_ble_eq_true rfl) rfl rfl (Nat.le_of_ble_eq_true rfl) ⟨Nat.le_refl _, Nat.le_refl _⟩ (fun x37 h38 => ?_)
        refine q_i2b C dX8_keep_152 (n := 153) rfl (v := zi2b x37) rfl ?_
        have g39 := z8_r x37
        refine q_bast C dX8_keep_153 (n := 154) rfl h0.2.2.2.2.1 (by omega) (by omega) (fun M40 e41 => ?_)
        have hI42 : zI G M40 := hI33.put e41 (h0.2.2.2.2.2.1 (u1 + 2)) rfl (by omega)
        have hK43 := hK34.put e41 (h0.2.2.2.2.2.1 (u1 + 2)) (by decide)
        have hK44 := hK35.put e41 (h0.2.2.2.2.2.1 (u1 + 2)) (by decide)
        refine q_aload_n C dX8_keep_154 (n := 155) rfl rfl ?_
        refine q_getR C dX8_keep_155 (n := 158) rfl f_X8_21 h0.1 (hF _ _ _ h0.2.2.2.1) ?_
        refine q_iload_n C dX8_keep_158 (n := 159) rfl rfl ?_
        refine q_iconst C dX8_keep_159 (n := 160) rfl ?_
        refine q_iadd C dX8_keep_160 (n := 161) rfl (v := u1 + 3) rfl ?_
        refine q_iload C dX8_keep_161 (n := 163) rfl rfl ?_
        refine q_callSp C dX8_keep_163 (n := 166) rfl m_X8_119 s_yX5_placeOf (c_X5_placeOf (w := w) (J := J5) hI42 hF (M4 (a + 1 + 1) 1)) (Nat.le_of_ble_eq_true rfl) rfl rfl (Nat.le_of_ble_eq_true rfl) ⟨Nat.le_refl _, Nat.le_refl _⟩ (fun x46 h47 => ?_)
        refine q_i2b C dX8_keep_166 (n := 167) rfl (v := zi2b x46) rfl ?_
        have g48 := z8_r x46
        refine q_bast C dX8_keep_167 (n := 168) rfl h0.2.2.2.2.1 (by omega) (by omega) (fun M49 e50 => ?_)
        have hI51 : zI G M49 := hI42.put e50 (h0.2.2.2.2.2.1 (u1 + 3)) rfl (by omega)
        have hK52 := hK43.put e50 (h0.2.2.2.2.2.1 (u1 + 3)) (by decide)
        have hK53 := hK44.put e50 (h0.2.2.2.2.2.1 (u1 + 3)) (by decide)
        refine q_aload_n C dX8_keep_168 (n := 169) rfl rfl ?_
        refine q_getR C dX8_keep_169 (n := 172) rfl f_X8_21 h0.1 (hF _ _ _ h0.2.2.2.1) ?_
        refine q_iload_n C dX8_keep_172 (n := 173) rfl rfl ?_
        refine q_iconst C dX8_keep_173 (n := 174) rfl ?_
        refine q_iadd C dX8_keep_174 (n := 175) rfl (v := u1 + 4) rfl ?_
        refine q_iload C dX8_keep_175 (n := 177) rfl rfl ?_
        refine q_callSp C dX8_keep_177 (n := 180) rfl m_X8_119 s_yX5_placeOf (c_X5_placeOf (w := w) (J := J5) hI51 hF (M4 (a + 1 + 1) 1)) (Nat.le_of_ble_eq_true rfl) rfl rfl (Nat.le_of_ble_eq_true rfl) ⟨Nat.le_refl _, Nat.le_refl _⟩ (fun x55 h56 => ?_)
        refine q_bipush C dX8_keep_180 (n := 182) rfl (x := 8) (by decide) ?_
        refine q_ishr C dX8_keep_182 (n := 183) rfl (v := zshr x55 8) rfl ?_
        have g57 := zr_shr x55 8
        refine q_i2b C dX8_keep_183 (n := 184) rfl (v := zi2b (zshr x55 8)) rfl ?_
        have g58 := z8_r (zshr x55 8)
        refine q_bast C dX8_keep_184 (n := 185) rfl h0.2.2.2.2.1 (by omega) (by omega) (fun M59 e60 => ?_)
        have hI61 : zI G M59 := hI51.put e60 (h0.2.2.2.2.2.1 (u1 + 4)) rfl (by omega)
        have hK62 := hK52.put e60 (h0.2.2.2.2.2.1 (u1 + 4)) (by decide)
        have hK63 := hK53.put e60 (h0.2.2.2.2.2.1 (u1 + 4)) (by decide)
        refine q_aload_n C dX8_keep_185 (n := 186) rfl rfl ?_
        refine q_getR C dX8_keep_186 (n := 189) rfl f_X8_25 h0.1 (hF _ _ _ h0.2.2.2.2.2.2.1) ?_
        refine q_iload_n C dX8_keep_189 (n := 190) rfl rfl ?_
        refine q_iload_n C dX8_keep_190 (n := 191) rfl rfl ?_
        refine q_iconst C dX8_keep_191 (n := 192) rfl ?_
        refine q_iadd C dX8_keep_192 (n := 193) rfl (v := u1 + 5) rfl ?_
        refine q_iload_n C dX8_keep_193 (n := 194) rfl rfl ?_
        refine q_sipush C dX8_keep_194 (n := 197) rfl (x := 9305) (by decide) ?_
        refine q_imul C dX8_keep_197 (n := 198) rfl (v := v1 * 9305) rfl ?_
        refine q_isub C dX8_keep_198 (n := 199) rfl (v := (u1 + 5) - (v1 * 9305)) rfl ?_
        refine q_iast C dX8_keep_199 (n := 200) rfl h0.2.2.2.2.2.2.2.1 (by omega)  (fun M64 e65 => ?_)
        have hI66 : zI G M64 := hI61.put e65 (h0.2.2.2.2.2.2.2.2.1 v1) rfl (by omega)
        have hK67 := hK62.put e65 (h0.2.2.2.2.2.2.2.2.1 v1) (by decide)
        have hK68 := hK63.put e65 (h0.2.2.2.2.2.2.2.2.1 v1) (by decide)
        exact q_vret C dX8_keep_200 ⟨rfl, rfl⟩ (by rw [hPo]; exact ⟨M64, J5, rfl, rfl, hI66, hK67⟩)
      refine q_icmp_ge C 97 dX8_keep_23 (n := 26) rfl rfl (by omega) (fun h69 => ?_) (fun h69 => ?_)
      · exact zK.weak (J_18) (zwk_c (zwk_c (zwk_c (zwk_n (zwk_n (zwk_n zwk_e))))))
      · refine q_iload C dX8_keep_26 (n := 28) rfl rfl ?_
        refine q_sipush C dX8_keep_28 (n := 31) rfl (x := 300) (by decide) ?_
        refine q_icmp_ge C 97 dX8_keep_31 (n := 34) rfl rfl (by omega) (fun h70 => ?_) (fun h70 => ?_)
        · exact zK.weak (J_18) (zwk_c (zwk_c (zwk_c (zwk_n (zwk_n (zwk_n zwk_e))))))
        · refine q_aload_n C dX8_keep_34 (n := 35) rfl rfl ?_
          refine q_getR C dX8_keep_35 (n := 38) rfl f_X8_78 h0.2.2.1.2.2.2.2.2.2.2.2.1.1 (hF _ _ _ h0.2.2.1.2.2.2.2.2.2.2.2.1.2.2.2.2.1) ?_
          refine q_iload C dX8_keep_38 (n := 40) rfl rfl ?_
          have g71 := zI.at hI6 (h0.2.2.1.2.2.2.2.2.2.2.2.1.2.2.2.2.2.2.1 u2)
          refine q_iald C dX8_keep_40 (n := 41) rfl h0.2.2.1.2.2.2.2.2.2.2.2.1.2.2.2.2.2.1 (by omega) (v := M4 (a + 1 + 2 + 2) u2) rfl ?_
          refine q_callSp C dX8_keep_41 (n := 44) rfl m_X8_81 s_yX5_lengthOf (c_X5_lengthOf (w := w) (J := J5) hI6 hF (M4 (a + 1 + 2 + 2) u2)) (Nat.le_of_ble_eq_true rfl) rfl rfl (Nat.le_of_ble_eq_true rfl) ⟨Nat.le_refl _, Nat.le_refl _⟩ (fun x74 h75 => ?_)
          obtain ⟨h72, h73⟩ := h75
          refine q_istore C [.ref (w.2.1 + a), zi v1, zi u1, .ref (w.2.1 + (a + 1 + 2)), zi u2, zi x74] dX8_keep_44 (n := 46) rfl rfl rfl ?_
          refine q_aload_n C dX8_keep_46 (n := 47) rfl rfl ?_
          refine q_getR C dX8_keep_47 (n := 50) rfl f_X8_21 h0.1 (hF _ _ _ h0.2.2.2.1) ?_
          refine q_iload_n C dX8_keep_50 (n := 51) rfl rfl ?_
          refine q_iload C dX8_keep_51 (n := 53) rfl rfl ?_
          refine q_i2b C dX8_keep_53 (n := 54) rfl (v := zi2b x74) rfl ?_
          have g76 := z8_r x74
          refine q_bast C dX8_keep_54 (n := 55) rfl h0.2.2.2.2.1 (by omega) (by omega) (fun M77 e78 => ?_)
          have hI79 : zI G M77 := hI6.put e78 (h0.2.2.2.2.2.1 u1) rfl (by omega)
          have hK80 := hK7.put e78 (h0.2.2.2.2.2.1 u1) (by decide)
          have hK81 := hK8.put e78 (h0.2.2.2.2.2.1 u1) (by decide)
          refine q_aload_n C dX8_keep_55 (n := 56) rfl rfl ?_
          refine q_getR C dX8_keep_56 (n := 59) rfl f_X8_14 h0.1 (hF _ _ _ h0.2.1) ?_
          refine q_getR C dX8_keep_59 (n := 62) rfl f_X8_84 h0.2.2.1.1 (hF _ _ _ h0.2.2.1.2.1) ?_
          refine q_getR C dX8_keep_62 (n := 65) rfl f_X8_88 h0.2.2.1.2.2.1.1 (hF _ _ _ h0.2.2.1.2.2.1.2.1) ?_
          refine q_aload_n C dX8_keep_65 (n := 66) rfl rfl ?_
          refine q_getR C dX8_keep_66 (n := 69) rfl f_X8_93 h0.2.2.1.2.2.2.2.2.2.2.2.1.1 (hF _ _ _ h0.2.2.1.2.2.2.2.2.2.2.2.1.2.1) ?_
          refine q_iload C dX8_keep_69 (n := 71) rfl rfl ?_
          have g82 := zI.at hI6 (h0.2.2.1.2.2.2.2.2.2.2.2.1.2.2.2.1 u2)
          have g83 : M4 (a + 1 + 2 + 1) u2 + zand (M4 (a + 1 + 2 + 2) u2) 31 ≤ (32576 : Int) ∧ zand (M4 (a + 1 + 2 + 2) u2) 31 ≤ 30 := zI.row hI6 (h0.2.2.1.2.2.2.2.2.2.2.2.1.2.2.2.1 u2)
          refine q_iald C dX8_keep_71 (n := 72) rfl h0.2.2.1.2.2.2.2.2.2.2.2.1.2.2.1 (by omega) (v := M4 (a + 1 + 2 + 1) u2) (zup_p e78 (by omega) _) ?_
          refine q_aload_n C dX8_keep_72 (n := 73) rfl rfl ?_
          refine q_getR C dX8_keep_73 (n := 76) rfl f_X8_21 h0.1 (hF _ _ _ h0.2.2.2.1) ?_
          refine q_iload_n C dX8_keep_76 (n := 77) rfl rfl ?_
          refine q_iconst C dX8_keep_77 (n := 78) rfl ?_
          refine q_iadd C dX8_keep_78 (n := 79) rfl (v := u1 + 1) rfl ?_
          refine q_iload C dX8_keep_79 (n := 81) rfl rfl ?_
          refine q_copyB C dX8_keep_81 (n := 84) rfl x_X8_96 h0.2.2.1.2.2.1.2.2.1 h0.2.2.2.2.1 (by omega) (fun j => by have := zI.at hI79 (h0.2.2.1.2.2.1.2.2.2.1 j); omega) (Nat.le_of_ble_eq_true rfl) (Nat.le_of_ble_eq_true rfl) (fun M84 e85 => ?_)
          have hI86 : zI G M84 := hI79.cp e85 h0.2.2.1.2.2.1.2.2.2.1 h0.2.2.2.2.2.1 rfl (by omega)
          have hK87 := hK80.cp e85 h0.2.2.2.2.2.1 (by decide)
          have hK88 := hK81.cp e85 h0.2.2.2.2.2.1 (by decide)
          refine q_iload_n C dX8_keep_84 (n := 85) rfl rfl ?_
          refine q_iconst C dX8_keep_85 (n := 86) rfl ?_
          refine q_iload C dX8_keep_86 (n := 88) rfl rfl ?_
          refine q_iadd C dX8_keep_88 (n := 89) rfl (v := 1 + x74) rfl ?_
          refine q_iadd C dX8_keep_89 (n := 90) rfl (v := u1 + (1 + x74)) rfl ?_
          refine q_istore_n C [.ref (w.2.1 + a), zi v1, zi (u1 + (1 + x74)), .ref (w.2.1 + (a + 1 + 2)), zi u2, zi x74] dX8_keep_90 (n := 91) rfl rfl rfl ?_
          refine q_iinc C [.ref (w.2.1 + a), zi v1, zi (u1 + (1 + x74)), .ref (w.2.1 + (a + 1 + 2)), zi (u2 + 1), zi x74] dX8_keep_91 (n := 94) rfl rfl rfl rfl ?_
          refine q_goto C 17 dX8_keep_94 rfl ?_
          exact zK.weak (ih15 (u1 + (1 + x74)) (u2 + 1) M84 J5 hI86 hK87 hK88 (by omega) (by omega) (by omega) (by omega) (by omega)) (zwk_c (zwk_c (zwk_c (zwk_c (zwk_c (zwk_n zwk_e))))))
  exact zK.weak (L_13 _ (v1 * 9305) 0 M J hI hK0 (zKp.rf (G := G) (n := 17) (M := M)) (by omega) (by omega) (by omega) (by omega) (Int.self_le_toNat _)) (zwk_c (zwk_c (zwk_c (zwk_c (zwk_c (zwk_n zwk_e))))))
theorem c_X8_leastLike {w : zWp} {T : zTl} {M : zMm} {J : zJm} {R : zRm'} {G : zGt} {F : zRm'} {a : Nat} (hI : zI G M) (hF : zF F R) (h0 : zStudy T F G a) (v1 : Int) (p1 : 0 ≤ v1 ∧ v1 ≤ 7) : zCt w 2 0 0 yX8_leastLike cX8_leastLike 3 (some .int) [.ref (w.2.1 + a), zi v1] (T, M, J, R) (zPp T M J R (fun x => (0 ≤ x ∧ x ≤ 7))) := by
  refine zCt.of rfl (Nat.le_of_ble_eq_true rfl) ?_
  intro p e s m args below meth c C
  obtain ⟨Po, hPo⟩ : ∃ Po, Po = zPp T M J R (fun x => (0 ≤ x ∧ x ≤ 7)) := ⟨_, rfl⟩
  rw [← hPo]
  show zK w p e 2 0 0 s m args below meth c 3 T Po 0 [.ref (w.2.1 + a), zi v1, .null] [] (T, M, J, R)
  refine q_iconst C dX8_leastLike_0 (n := 1) rfl ?_
  refine q_istore_n C [.ref (w.2.1 + a), zi v1, zi 0] dX8_leastLike_1 (n := 2) rfl rfl rfl ?_
  have L_4 : ∀ n5 : Nat, ∀ (u1 : Int), (-2147483648 ≤ u1 ∧ u1 ≤ 2147483647) → (0 ≤ u1 ∧ u1 ≤ v1) → (v1 - u1 + 1 ≤ (n5 : Int)) → zK w p e 2 0 0 s m args below meth c 3 T Po 2 [.ref (w.2.1 + a), zi v1, zi u1] [] (T, M, J, R) := by
    intro n5
    induction n5 with
    | zero =>
      intro u1 h2 h3 hm7
      exfalso
      omega
    | succ n5 ih6 =>
      intro u1 h2 h3 hm7
      refine q_iload_n C dX8_leastLike_2 (n := 3) rfl rfl ?_
      refine q_iload_n C dX8_leastLike_3 (n := 4) rfl rfl ?_
      refine q_icmp_ge C 56 dX8_leastLike_4 (n := 7) rfl rfl (by omega) (fun h8 => ?_) (fun h8 => ?_)
      · refine q_iload_n C dX8_leastLike_56 (n := 57) rfl rfl ?_
        exact q_iret C dX8_leastLike_57 ⟨rfl, rfl⟩ (by rw [hPo]; exact ⟨v1, rfl, rfl, by omega⟩)
      · refine q_aload_n C dX8_leastLike_7 (n := 8) rfl rfl ?_
        refine q_getR C dX8_leastLike_8 (n := 11) rfl f_X8_25 h0.1 (hF _ _ _ h0.2.2.2.2.2.2.1) ?_
        refine q_iload_n C dX8_leastLike_11 (n := 12) rfl rfl ?_
        have g9 := zI.at hI (h0.2.2.2.2.2.2.2.2.1 u1)
        refine q_iald C dX8_leastLike_12 (n := 13) rfl h0.2.2.2.2.2.2.2.1 (by omega) (v := M (a + 758) u1) rfl ?_
        refine q_aload_n C dX8_leastLike_13 (n := 14) rfl rfl ?_
        refine q_getR C dX8_leastLike_14 (n := 17) rfl f_X8_25 h0.1 (hF _ _ _ h0.2.2.2.2.2.2.1) ?_
        refine q_iload_n C dX8_leastLike_17 (n := 18) rfl rfl ?_
        have g10 := zI.at hI (h0.2.2.2.2.2.2.2.2.1 v1)
        refine q_iald C dX8_leastLike_18 (n := 19) rfl h0.2.2.2.2.2.2.2.1 (by omega) (v := M (a + 758) v1) rfl ?_
        have J_11 : zK w p e 2 0 0 s m args below meth c 3 T Po 50 [.ref (w.2.1 + a), zi v1, zi u1] [] (T, M, J, R) := by
          refine q_iinc C [.ref (w.2.1 + a), zi v1, zi (u1 + 1)] dX8_leastLike_50 (n := 53) rfl rfl rfl rfl ?_
          refine q_goto C 2 dX8_leastLike_53 rfl ?_
          exact zK.weak (ih6 (u1 + 1) (by omega) (by omega) (by omega)) (zwk_c (zwk_c (zwk_c zwk_e)))
        refine q_icmp_ne C 50 dX8_leastLike_19 (n := 22) rfl rfl (by omega) (fun h12 => ?_) (fun h12 => ?_)
        · exact zK.weak (J_11) (zwk_c (zwk_c (zwk_c zwk_e)))
        · refine q_aload_n C dX8_leastLike_22 (n := 23) rfl rfl ?_
          refine q_getR C dX8_leastLike_23 (n := 26) rfl f_X8_21 h0.1 (hF _ _ _ h0.2.2.2.1) ?_
          refine q_iload_n C dX8_leastLike_26 (n := 27) rfl rfl ?_
          refine q_sipush C dX8_leastLike_27 (n := 30) rfl (x := 9305) (by decide) ?_
          refine q_imul C dX8_leastLike_30 (n := 31) rfl (v := u1 * 9305) rfl ?_
          refine q_iload_n C dX8_leastLike_31 (n := 32) rfl rfl ?_
          refine q_sipush C dX8_leastLike_32 (n := 35) rfl (x := 9305) (by decide) ?_
          refine q_imul C dX8_leastLike_35 (n := 36) rfl (v := v1 * 9305) rfl ?_
          refine q_aload_n C dX8_leastLike_36 (n := 37) rfl rfl ?_
          refine q_getR C dX8_leastLike_37 (n := 40) rfl f_X8_25 h0.1 (hF _ _ _ h0.2.2.2.2.2.2.1) ?_
          refine q_iload_n C dX8_leastLike_40 (n := 41) rfl rfl ?_
          refine q_iald C dX8_leastLike_41 (n := 42) rfl h0.2.2.2.2.2.2.2.1 (by omega) (v := M (a + 758) v1) rfl ?_
          refine q_callSp C dX8_leastLike_42 (n := 45) rfl m_X8_122 s_yX10_isAlike (c_X10_isAlike (w := w) (J := J) hI hF h0.2.2.2.2.1 h0.2.2.2.2.2.1 (u1 * 9305) (v1 * 9305) (M (a + 758) v1) (by omega) (by omega) (by omega) (by omega)) (Nat.le_of_ble_eq_true rfl) rfl rfl (Nat.le_of_ble_eq_true rfl) ⟨Nat.le_refl _, Nat.le_refl _⟩ (fun x14 h15 => ?_)
          refine q_if_eq C 50 dX8_leastLike_45 (n := 48) rfl rfl (by omega) (fun h16 => ?_) (fun h16 => ?_)
          · exact zK.weak (J_11) (zwk_c (zwk_c (zwk_c zwk_e)))
          · refine q_iload_n C dX8_leastLike_48 (n := 49) rfl rfl ?_
            exact q_iret C dX8_leastLike_49 ⟨rfl, rfl⟩ (by rw [hPo]; exact ⟨u1, rfl, rfl, by omega⟩)
  exact zK.weak (L_4 _ 0 (by omega) (by omega) (Int.self_le_toNat _)) (zwk_c (zwk_c (zwk_c zwk_e)))
theorem c_X8_unlike {w : zWp} {T : zTl} {M : zMm} {J : zJm} {R : zRm'} {G : zGt} {F : zRm'} {a : Nat} (hI : zI G M) (hF : zF F R) (h0 : zStudy T F G a) (v1 : Int) (p1 : -2147483648 ≤ v1 ∧ v1 ≤ 2147483647) : zCt w 1 0 0 yX8_unlike cX8_unlike 4 (some .int) [.ref (w.2.1 + a), zi v1] (T, M, J, R) (zPp T M J R (fun x => True)) := by
  refine zCt.of rfl (Nat.le_of_ble_eq_true rfl) ?_
  intro p e s m args below meth c C
  obtain ⟨Po, hPo⟩ : ∃ Po, Po = zPp T M J R (fun x => True) := ⟨_, rfl⟩
  rw [← hPo]
  show zK w p e 1 0 0 s m args below meth c 4 T Po 0 [.ref (w.2.1 + a), zi v1, .null, .null] [] (T, M, J, R)
  refine q_iconst C dX8_unlike_0 (n := 1) rfl ?_
  refine q_istore_n C [.ref (w.2.1 + a), zi v1, zi 0, .null] dX8_unlike_1 (n := 2) rfl rfl rfl ?_
  refine q_iconst C dX8_unlike_2 (n := 3) rfl ?_
  refine q_istore_n C [.ref (w.2.1 + a), zi v1, zi 0, zi 0] dX8_unlike_3 (n := 4) rfl rfl rfl ?_
  have L_7 : ∀ n8 : Nat, ∀ (u1 : Int) (u2 : Int), (-2147483648 ≤ u1 ∧ u1 ≤ 2147483647) → (-2147483648 ≤ u2 ∧ u2 ≤ 2147483647) → (0 ≤ u2 ∧ u2 ≤ 8) → (0 ≤ u1 ∧ u1 ≤ u2) → (8 - u2 + 1 ≤ (n8 : Int)) → zK w p e 1 0 0 s m args below meth c 4 T Po 4 [.ref (w.2.1 + a), zi v1, zi u1, zi u2] [] (T, M, J, R) := by
    intro n8
    induction n8 with
    | zero =>
      intro u1 u2 h3 h4 h5 h6 hm10
      exfalso
      omega
    | succ n8 ih9 =>
      intro u1 u2 h3 h4 h5 h6 hm10
      refine q_iload_n C dX8_unlike_4 (n := 5) rfl rfl ?_
      refine q_iload_n C dX8_unlike_5 (n := 6) rfl rfl ?_
      refine q_icmp_ge C 39 dX8_unlike_6 (n := 9) rfl rfl (by omega) (fun h11 => ?_) (fun h11 => ?_)
      · refine q_iload_n C dX8_unlike_39 (n := 40) rfl rfl ?_
        exact q_iret C dX8_unlike_40 ⟨rfl, rfl⟩ (by rw [hPo]; exact ⟨u1, rfl, rfl, trivial⟩)
      · refine q_iload_n C dX8_unlike_9 (n := 10) rfl rfl ?_
        refine q_bipush C dX8_unlike_10 (n := 12) rfl (x := 8) (by decide) ?_
        refine q_icmp_ge C 39 dX8_unlike_12 (n := 15) rfl rfl (by omega) (fun h12 => ?_) (fun h12 => ?_)
        · refine q_iload_n C dX8_unlike_39 (n := 40) rfl rfl ?_
          exact q_iret C dX8_unlike_40 ⟨rfl, rfl⟩ (by rw [hPo]; exact ⟨u1, rfl, rfl, trivial⟩)
        · refine q_iload_n C dX8_unlike_15 (n := 16) rfl rfl ?_
          refine q_aload_n C dX8_unlike_16 (n := 17) rfl rfl ?_
          refine q_getR C dX8_unlike_17 (n := 20) rfl f_X8_29 h0.1 (hF _ _ _ h0.2.2.2.2.2.2.2.2.2.1) ?_
          refine q_iload_n C dX8_unlike_20 (n := 21) rfl rfl ?_
          have g13 := zI.at hI (h0.2.2.2.2.2.2.2.2.2.2.2.1 u2)
          refine q_iald C dX8_unlike_21 (n := 22) rfl h0.2.2.2.2.2.2.2.2.2.2.1 (by omega) (v := M (a + 759) u2) rfl ?_
          refine q_iload_n C dX8_unlike_22 (n := 23) rfl rfl ?_
          have J_18 : ∀ (u14 : Int), (-2147483648 ≤ u14 ∧ u14 ≤ 2147483647) → (u14 = 0 ∨ u14 = 1) → (0 ≤ u14 ∧ u14 ≤ 1) → zK w p e 1 0 0 s m args below meth c 4 T Po 31 [.ref (w.2.1 + a), zi v1, .null, zi u2] [zi u14, zi u1] (T, M, J, R) := by
            intro u14 h15 h16 h17
            refine q_iadd C dX8_unlike_31 (n := 32) rfl (v := u1 + u14) rfl ?_
            refine q_istore_n C [.ref (w.2.1 + a), zi v1, zi (u1 + u14), zi u2] dX8_unlike_32 (n := 33) rfl rfl rfl ?_
            refine q_iinc C [.ref (w.2.1 + a), zi v1, zi (u1 + u14), zi (u2 + 1)] dX8_unlike_33 (n := 36) rfl rfl rfl rfl ?_
            refine q_goto C 4 dX8_unlike_36 rfl ?_
            exact zK.weak (ih9 (u1 + u14) (u2 + 1) (by omega) (by omega) (by omega) (by omega) (by omega)) (zwk_c (zwk_c (zwk_c (zwk_c zwk_e))))
          refine q_icmp_ne C 30 dX8_unlike_23 (n := 26) rfl rfl (by omega) (fun h19 => ?_) (fun h19 => ?_)
          · refine q_iconst C dX8_unlike_30 (n := 31) rfl ?_
            exact zK.weak (J_18 0 (by omega) (by omega) (by omega)) (zwk_c (zwk_c (zwk_n (zwk_c zwk_e))))
          · refine q_iconst C dX8_unlike_26 (n := 27) rfl ?_
            refine q_goto C 31 dX8_unlike_27 rfl ?_
            exact zK.weak (J_18 1 (by omega) (by omega) (by omega)) (zwk_c (zwk_c (zwk_n (zwk_c zwk_e))))
  exact zK.weak (L_7 _ 0 0 (by omega) (by omega) (by omega) (by omega) (Int.self_le_toNat _)) (zwk_c (zwk_c (zwk_c (zwk_c zwk_e))))
theorem c_X11_guard {w : zWp} {T : zTl} {M : zMm} {J : zJm} {R : zRm'} {G : zGt} {F : zRm'} {a : Nat} (hI : zI G M) (hF : zF F R) (h0 : zHideSets T F G a) (v1 : Int) (p1 : -2147483648 ≤ v1 ∧ v1 ≤ 2147483647) (p2 : ∀ j : Int, 0 ≤ j → j < 4 → zPr M (a + 2 + 9 + 4 * j.toNat)) : zCt w 2 0 0 yX11_guard cX11_guard 3 (some .int) [.ref (w.2.1 + a), zi v1] (T, M, J, R) (zPi T R G (fun x M2 => (zKp G 30 M M2))) := by
  refine zCt.of rfl (Nat.le_of_ble_eq_true rfl) ?_
  intro p e s m args below meth c C
  obtain ⟨Po, hPo⟩ : ∃ Po, Po = zPi T R G (fun x M2 => (zKp G 30 M M2)) := ⟨_, rfl⟩
  rw [← hPo]
  have hK0 : zKp G 30 M M := zKp.rf
  show zK w p e 2 0 0 s m args below meth c 3 T Po 0 [.ref (w.2.1 + a), zi v1, .null] [] (T, M, J, R)
  refine q_aload_n C dX11_guard_0 (n := 1) rfl rfl ?_
  refine q_getR C dX11_guard_1 (n := 4) rfl f_X11_20 h0.1 (hF _ _ _ h0.2.2.2.2.2.1) ?_
  refine q_iload_n C dX11_guard_4 (n := 5) rfl rfl ?_
  refine q_callVp C dX11_guard_5 (n := 8) rfl m_X11_99 v_yX7_hasFile h0.2.2.2.2.2.2.1.1 ⟨by decide, rfl⟩ (c_X7_hasFile (w := w) (J := J) hI hF h0.2.2.2.2.2.2.1 v1 (by omega)) (Nat.le_of_ble_eq_true rfl) rfl rfl (Nat.le_of_ble_eq_true rfl) ⟨Nat.le_refl _, Nat.le_refl _⟩ (fun x3 h4 => ?_)
  obtain ⟨h1, h2⟩ := h4
  refine q_if_ne C 13 dX11_guard_8 (n := 11) rfl rfl (by omega) (fun h5 => ?_) (fun h5 => ?_)
  · refine q_aload_n C dX11_guard_13 (n := 14) rfl rfl ?_
    refine q_getR C dX11_guard_14 (n := 17) rfl f_X11_20 h0.1 (hF _ _ _ h0.2.2.2.2.2.1) ?_
    refine q_getR C dX11_guard_17 (n := 20) rfl f_X11_66 h0.2.2.2.2.2.2.1.1 (hF _ _ _ h0.2.2.2.2.2.2.1.2.1) ?_
    refine q_iload_n C dX11_guard_20 (n := 21) rfl rfl ?_
    refine q_aald C dX11_guard_21 (n := 22) rfl ⟨by decide, by decide⟩ h0.2.2.2.2.2.2.1.2.2.1 (by omega) (hF _ _ _ (h0.2.2.2.2.2.2.1.2.2.2.1 v1 (by omega) (by omega)).1) ?_
    refine q_astore_n C [.ref (w.2.1 + a), zi v1, .ref (w.2.1 + (a + 2 + 9 + 4 * (v1 : Int).toNat))] dX11_guard_22 (n := 23) rfl rfl rfl ?_
    refine q_aload_n C dX11_guard_23 (n := 24) rfl rfl ?_
    have g6 := zI.at hI (h0.2.2.2.2.2.2.1.2.2.2.1 v1 (by omega) (by omega)).2.2.2.2.2.2.2.2.2.2.2.2.2.2
    refine q_getI C dX11_guard_24 (n := 27) rfl f_X11_238 (h0.2.2.2.2.2.2.1.2.2.2.1 v1 (by omega) (by omega)).2.1 (v := M (a + 2 + 9 + 4 * (v1 : Int).toNat) 6) rfl ?_
    have gr := (p2 v1 (by omega) (by omega)).2
    refine q_if_le C 67 dX11_guard_27 (n := 30) rfl rfl (by omega) (fun h7 => ?_) (fun h7 => ?_)
    · refine q_aload_n C dX11_guard_67 (n := 68) rfl rfl ?_
      refine q_getI C dX11_guard_68 (n := 71) rfl f_X11_238 (h0.2.2.2.2.2.2.1.2.2.2.1 v1 (by omega) (by omega)).2.1 (v := M (a + 2 + 9 + 4 * (v1 : Int).toNat) 6) rfl ?_
      exact q_iret C dX11_guard_71 ⟨rfl, rfl⟩ (by rw [hPo]; exact ⟨M (a + 2 + 9 + 4 * (v1 : Int).toNat) 6, M, J, rfl, rfl, hI, hK0⟩)
    · refine q_aload_n C dX11_guard_30 (n := 31) rfl rfl ?_
      refine q_getI C dX11_guard_31 (n := 34) rfl f_X11_238 (h0.2.2.2.2.2.2.1.2.2.2.1 v1 (by omega) (by omega)).2.1 (v := M (a + 2 + 9 + 4 * (v1 : Int).toNat) 6) rfl ?_
      refine q_bipush C dX11_guard_34 (n := 36) rfl (x := 30) (by decide) ?_
      refine q_icmp_gt C 67 dX11_guard_36 (n := 39) rfl rfl (by omega) (fun h8 => ?_) (fun h8 => ?_)
      · refine q_aload_n C dX11_guard_67 (n := 68) rfl rfl ?_
        refine q_getI C dX11_guard_68 (n := 71) rfl f_X11_238 (h0.2.2.2.2.2.2.1.2.2.2.1 v1 (by omega) (by omega)).2.1 (v := M (a + 2 + 9 + 4 * (v1 : Int).toNat) 6) rfl ?_
        exact q_iret C dX11_guard_71 ⟨rfl, rfl⟩ (by rw [hPo]; exact ⟨M (a + 2 + 9 + 4 * (v1 : Int).toNat) 6, M, J, rfl, rfl, hI, hK0⟩)
      · refine q_aload_n C dX11_guard_39 (n := 40) rfl rfl ?_
        refine q_aload_n C dX11_guard_40 (n := 41) rfl rfl ?_
        refine q_getI C dX11_guard_41 (n := 44) rfl f_X11_238 (h0.2.2.2.2.2.2.1.2.2.2.1 v1 (by omega) (by omega)).2.1 (v := M (a + 2 + 9 + 4 * (v1 : Int).toNat) 6) rfl ?_
        refine q_putI C dX11_guard_44 (n := 47) rfl f_X11_35 h0.1 ⟨rfl, rfl⟩ (fun M9 (e10 : M9 = zup M a 6 (M (a + 2 + 9 + 4 * (v1 : Int).toNat) 6)) => ?_)
        have hI11 : zI G M9 := hI.put e10 h0.2.2.2.2.2.2.2.2.2.2.2.2.2.2.2.2.1 rfl (by omega)
        have hK12 := hK0.put e10 h0.2.2.2.2.2.2.2.2.2.2.2.2.2.2.2.2.1 (by decide)
        refine q_aload_n C dX11_guard_47 (n := 48) rfl rfl ?_
        refine q_getR C dX11_guard_48 (n := 51) rfl f_X11_241 (h0.2.2.2.2.2.2.1.2.2.2.1 v1 (by omega) (by omega)).2.1 (hF _ _ _ (h0.2.2.2.2.2.2.1.2.2.2.1 v1 (by omega) (by omega)).2.2.1) ?_
        refine q_aload_n C dX11_guard_51 (n := 52) rfl rfl ?_
        have g13 := zI.at hI (h0.2.2.2.2.2.2.1.2.2.2.1 v1 (by omega) (by omega)).2.2.2.2.2.2.2.2.2.2.2.2.2.1
        refine q_getI C dX11_guard_52 (n := 55) rfl f_X11_243 (h0.2.2.2.2.2.2.1.2.2.2.1 v1 (by omega) (by omega)).2.1 (v := M (a + 2 + 9 + 4 * (v1 : Int).toNat) 5) (zup_n e10 (zne_t (h0.2.2.2.2.2.2.1.2.2.2.1 v1 (by omega) (by omega)).2.2.2.2.2.2.2.2.2.2.2.2.2.1 h0.2.2.2.2.2.2.2.2.2.2.2.2.2.2.2.2.1 (by decide))) ?_
        refine q_aload_n C dX11_guard_55 (n := 56) rfl rfl ?_
        refine q_getR C dX11_guard_56 (n := 59) rfl f_X11_32 h0.1 (hF _ _ _ h0.2.2.2.2.2.2.2.2.2.2.2.2.2.1) ?_
        refine q_iconst C dX11_guard_59 (n := 60) rfl ?_
        refine q_aload_n C dX11_guard_60 (n := 61) rfl rfl ?_
        refine q_getI C dX11_guard_61 (n := 64) rfl f_X11_35 h0.1 (v := M (a + 2 + 9 + 4 * (v1 : Int).toNat) 6) (zup_s e10) ?_
        refine q_copyB C dX11_guard_64 (n := 67) rfl x_X11_246 (h0.2.2.2.2.2.2.1.2.2.2.1 v1 (by omega) (by omega)).2.2.2.1 h0.2.2.2.2.2.2.2.2.2.2.2.2.2.2.1 (by omega) (fun j => by have := zI.at hI11 ((h0.2.2.2.2.2.2.1.2.2.2.1 v1 (by omega) (by omega)).2.2.2.2.1 j); omega) (Nat.le_of_ble_eq_true rfl) (Nat.le_of_ble_eq_true rfl) (fun M14 e15 => ?_)
        have hI16 : zI G M14 := hI11.cp e15 (h0.2.2.2.2.2.2.1.2.2.2.1 v1 (by omega) (by omega)).2.2.2.2.1 h0.2.2.2.2.2.2.2.2.2.2.2.2.2.2.2.1 rfl (by omega)
        have hK17 := hK12.cp e15 h0.2.2.2.2.2.2.2.2.2.2.2.2.2.2.2.1 (by decide)
        refine q_aload_n C dX11_guard_67 (n := 68) rfl rfl ?_
        refine q_getI C dX11_guard_68 (n := 71) rfl f_X11_238 (h0.2.2.2.2.2.2.1.2.2.2.1 v1 (by omega) (by omega)).2.1 (v := M (a + 2 + 9 + 4 * (v1 : Int).toNat) 6) ((zcp_t e15 (h0.2.2.2.2.2.2.1.2.2.2.1 v1 (by omega) (by omega)).2.2.2.2.2.2.2.2.2.2.2.2.2.2 h0.2.2.2.2.2.2.2.2.2.2.2.2.2.2.2.1 (by decide)).trans (zup_n e10 (zne_t (h0.2.2.2.2.2.2.1.2.2.2.1 v1 (by omega) (by omega)).2.2.2.2.2.2.2.2.2.2.2.2.2.2 h0.2.2.2.2.2.2.2.2.2.2.2.2.2.2.2.2.1 (by decide)))) ?_
        exact q_iret C dX11_guard_71 ⟨rfl, rfl⟩ (by rw [hPo]; exact ⟨M (a + 2 + 9 + 4 * (v1 : Int).toNat) 6, M14, J, rfl, rfl, hI16, hK17⟩)
  · refine q_iconst C dX11_guard_11 (n := 12) rfl ?_
    exact q_iret C dX11_guard_12 ⟨rfl, rfl⟩ (by rw [hPo]; exact ⟨(-1), M, J, rfl, rfl, hI, hK0⟩)
