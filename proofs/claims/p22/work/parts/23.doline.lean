theorem c_X6_doLine {w : zWp} {T : zTl} {M : zMm} {J : zJm} {R : zRm'} {G : zGt} {F : zRm'} {a L pg pf tl : Nat} (hI : zI G M) (hF : zF F R) (h0 : zRunner T F G a L) (hpg : R a 11 = some pg) (t_pg : T[pg]? = some (54, 4)) (e_pg : ∀ j : Int, 0 ≤ j → j < 4 → F pg j = some (pf + 4 * j.toNat) ∧ zPage T F G (pf + 4 * j.toNat)) (htal : R (a + 39) 7 = some tl) (t_tl : T[tl]? = some (50, 10)) (g_tl : ∀ k, G tl k = (0, (-2147483648), 2147483647)) (p1 : L ≤ 1000000) (p2 : 2000 ≤ L) (p3 : zLn M a) (p4 : ∀ j : Int, 0 ≤ j → j < 4 → zMo M (pf + 4 * j.toNat)) : zCt w 123 0 0 yX6_doLine cX6_doLine 6 (some .boolean) [.ref (w.2.1 + a)] (T, M, J, R) (zPiE T G (fun x M2 R2 => (zKp G 15 M M2) ∧ (x = 0 ∨ x = 1) ∧ (zLn M2 a) ∧ (R2 = R ∨ R2 = zup R (a + 753) 2 (some (a + 13))))) := by
  refine zCt.of rfl (Nat.le_of_ble_eq_true rfl) ?_
  intro p e s m args below meth c C
  obtain ⟨Po, hPo⟩ : ∃ Po, Po = zPiE T G (fun x M2 R2 => (zKp G 15 M M2) ∧ (x = 0 ∨ x = 1) ∧ (zLn M2 a) ∧ (R2 = R ∨ R2 = zup R (a + 753) 2 (some (a + 13)))) := ⟨_, rfl⟩
  rw [← hPo]
  have hK0 : zKp G 15 M M := zKp.rf
  show zK w p e 123 0 0 s m args below meth c 6 T Po 0 [.ref (w.2.1 + a), .null, .null, .null, .null, .null] [] (T, M, J, R)
  refine q_aload_n C dX6_doLine_0 (n := 1) rfl rfl ?_
  refine q_getR C dX6_doLine_1 (n := 4) rfl f_X6_121 h0.1 hpg ?_
  refine q_ifnullR C dX6_doLine_4 (n := 7) rfl ?_
  refine q_aload_n C dX6_doLine_7 (n := 8) rfl rfl ?_
  have g1 := zI.at hI h0.2.2.2.2.2.2.2.2.2.2.2.2.2.2.2.2.2.2.2.2.2.2.2.2.2.2.2.2.2.2.2.2.2.2.2.2.1
  refine q_getI C dX6_doLine_8 (n := 11) rfl f_X6_52 h0.1 (v := M a 15) rfl ?_
  refine q_if_lt C 33 dX6_doLine_11 (n := 14) rfl rfl (by omega) (fun h2 => ?_) (fun h2 => ?_)
  · refine q_iconst C dX6_doLine_33 (n := 34) rfl ?_
    exact q_zret C dX6_doLine_34 ⟨rfl, rfl⟩ (by omega) (by rw [hPo]; exact ⟨0, M, J, R, rfl, rfl, hI, hK0, by omega, p3, (Or.inl rfl)⟩)
  · refine q_aload_n C dX6_doLine_14 (n := 15) rfl rfl ?_
    refine q_getI C dX6_doLine_15 (n := 18) rfl f_X6_52 h0.1 (v := M a 15) rfl ?_
    refine q_bipush C dX6_doLine_18 (n := 20) rfl (x := 7) (by decide) ?_
    refine q_icmp_ge C 33 dX6_doLine_20 (n := 23) rfl rfl (by omega) (fun h3 => ?_) (fun h3 => ?_)
    · refine q_iconst C dX6_doLine_33 (n := 34) rfl ?_
      exact q_zret C dX6_doLine_34 ⟨rfl, rfl⟩ (by omega) (by rw [hPo]; exact ⟨0, M, J, R, rfl, rfl, hI, hK0, by omega, p3, (Or.inl rfl)⟩)
    · refine q_aload_n C dX6_doLine_23 (n := 24) rfl rfl ?_
      refine q_getR C dX6_doLine_24 (n := 27) rfl f_X6_12 h0.1 (hF _ _ _ h0.2.2.2.1) ?_
      have g4 := zI.at hI h0.2.2.2.2.1.2.1
      refine q_getI C dX6_doLine_27 (n := 30) rfl f_X6_155 h0.2.2.2.2.1.1 (v := M (a + 1) 0) rfl ?_
      refine q_if_eq C 35 dX6_doLine_30 (n := 33) rfl rfl (by omega) (fun h5 => ?_) (fun h5 => ?_)
      · refine q_aload_n C dX6_doLine_35 (n := 36) rfl rfl ?_
        refine q_getR C dX6_doLine_36 (n := 39) rfl f_X6_43 h0.1 (hF _ _ _ h0.2.2.2.2.2.2.2.2.2.2.2.2.2.2.2.2.2.2.2.2.2.2.2.2.2.2.2.1) ?_
        refine q_aload_n C dX6_doLine_39 (n := 40) rfl rfl ?_
        refine q_getI C dX6_doLine_40 (n := 43) rfl f_X6_52 h0.1 (v := M a 15) rfl ?_
        have g6 := zI.at hI (h0.2.2.2.2.2.2.2.2.2.2.2.2.2.2.2.2.2.2.2.2.2.2.2.2.2.2.2.2.2.1 (M a 15))
        refine q_iald C dX6_doLine_43 (n := 44) rfl h0.2.2.2.2.2.2.2.2.2.2.2.2.2.2.2.2.2.2.2.2.2.2.2.2.2.2.2.2.1 (by omega) (v := M (a + 17) (M a 15)) rfl ?_
        refine q_istore_n C [.ref (w.2.1 + a), zi (M (a + 17) (M a 15)), .null, .null, .null, .null] dX6_doLine_44 (n := 45) rfl rfl rfl ?_
        refine q_aload_n C dX6_doLine_45 (n := 46) rfl rfl ?_
        refine q_getR C dX6_doLine_46 (n := 49) rfl f_X6_46 h0.1 (hF _ _ _ h0.2.2.2.2.2.2.2.2.2.2.2.2.2.2.2.2.2.2.2.2.2.2.2.2.2.2.2.2.2.2.1) ?_
        refine q_aload_n C dX6_doLine_49 (n := 50) rfl rfl ?_
        refine q_getI C dX6_doLine_50 (n := 53) rfl f_X6_52 h0.1 (v := M a 15) rfl ?_
        have g7 := zI.at hI (h0.2.2.2.2.2.2.2.2.2.2.2.2.2.2.2.2.2.2.2.2.2.2.2.2.2.2.2.2.2.2.2.2.1 (M a 15))
        refine q_iald C dX6_doLine_53 (n := 54) rfl h0.2.2.2.2.2.2.2.2.2.2.2.2.2.2.2.2.2.2.2.2.2.2.2.2.2.2.2.2.2.2.2.1 (by omega) (v := M (a + 18) (M a 15)) rfl ?_
        refine q_istore_n C [.ref (w.2.1 + a), zi (M (a + 17) (M a 15)), zi (M (a + 18) (M a 15)), .null, .null, .null] dX6_doLine_54 (n := 55) rfl rfl rfl ?_
        refine q_iload_n C dX6_doLine_55 (n := 56) rfl rfl ?_
        refine q_aload_n C dX6_doLine_56 (n := 57) rfl rfl ?_
        refine q_getR C dX6_doLine_57 (n := 60) rfl f_X6_121 h0.1 hpg ?_
        refine q_iload_n C dX6_doLine_60 (n := 61) rfl rfl ?_
        refine q_aald C dX6_doLine_61 (n := 62) rfl ⟨by decide, by decide⟩ t_pg (by omega) (hF _ _ _ (e_pg (M (a + 17) (M a 15)) (by omega) (by omega)).1) ?_
        have g8 := zI.at hI (e_pg (M (a + 17) (M a 15)) (by omega) (by omega)).2.2.2.2.2.2.2.2.2.2.2.1
        refine q_getI C dX6_doLine_62 (n := 65) rfl f_X6_158 (e_pg (M (a + 17) (M a 15)) (by omega) (by omega)).2.1 (v := M (pf + 4 * (M (a + 17) (M a 15) : Int).toNat) 3) rfl ?_
        refine q_icmp_lt C 95 dX6_doLine_65 (n := 68) rfl rfl (by omega) (fun h9 => ?_) (fun h9 => ?_)
        · have ln : M (a + 18) (M a 15) ≤ 39 := by omega
          have mo1 := (p4 (M (a + 17) (M a 15)) (by omega) (by omega)).1 (M (a + 18) (M a 15)) (by omega) (by omega)
          refine q_aload_n C dX6_doLine_95 (n := 96) rfl rfl ?_
          refine q_getR C dX6_doLine_96 (n := 99) rfl f_X6_121 h0.1 hpg ?_
          refine q_iload_n C dX6_doLine_99 (n := 100) rfl rfl ?_
          refine q_aald C dX6_doLine_100 (n := 101) rfl ⟨by decide, by decide⟩ t_pg (by omega) (hF _ _ _ (e_pg (M (a + 17) (M a 15)) (by omega) (by omega)).1) ?_
          refine q_getR C dX6_doLine_101 (n := 104) rfl f_X6_162 (e_pg (M (a + 17) (M a 15)) (by omega) (by omega)).2.1 (hF _ _ _ (e_pg (M (a + 17) (M a 15)) (by omega) (by omega)).2.2.2.2.2.1) ?_
          refine q_iload_n C dX6_doLine_104 (n := 105) rfl rfl ?_
          refine q_iconst C dX6_doLine_105 (n := 106) rfl ?_
          refine q_iadd C dX6_doLine_106 (n := 107) rfl (v := (M (a + 18) (M a 15)) + 1) rfl ?_
          have g10 := zI.at hI ((e_pg (M (a + 17) (M a 15)) (by omega) (by omega)).2.2.2.2.2.2.2.1 ((M (a + 18) (M a 15)) + 1))
          refine q_iald C dX6_doLine_107 (n := 108) rfl (e_pg (M (a + 17) (M a 15)) (by omega) (by omega)).2.2.2.2.2.2.1 (by omega) (v := M (pf + 4 * (M (a + 17) (M a 15) : Int).toNat + 2) ((M (a + 18) (M a 15)) + 1)) rfl ?_
          refine q_iconst C dX6_doLine_108 (n := 109) rfl ?_
          refine q_isub C dX6_doLine_109 (n := 110) rfl (v := (M (pf + 4 * (M (a + 17) (M a 15) : Int).toNat + 2) ((M (a + 18) (M a 15)) + 1)) - 1) rfl ?_
          refine q_aload_n C dX6_doLine_110 (n := 111) rfl rfl ?_
          refine q_getR C dX6_doLine_111 (n := 114) rfl f_X6_121 h0.1 hpg ?_
          refine q_iload_n C dX6_doLine_114 (n := 115) rfl rfl ?_
          refine q_aald C dX6_doLine_115 (n := 116) rfl ⟨by decide, by decide⟩ t_pg (by omega) (hF _ _ _ (e_pg (M (a + 17) (M a 15)) (by omega) (by omega)).1) ?_
          refine q_getR C dX6_doLine_116 (n := 119) rfl f_X6_162 (e_pg (M (a + 17) (M a 15)) (by omega) (by omega)).2.1 (hF _ _ _ (e_pg (M (a + 17) (M a 15)) (by omega) (by omega)).2.2.2.2.2.1) ?_
          refine q_iload_n C dX6_doLine_119 (n := 120) rfl rfl ?_
          have g11 := zI.at hI ((e_pg (M (a + 17) (M a 15)) (by omega) (by omega)).2.2.2.2.2.2.2.1 (M (a + 18) (M a 15)))
          refine q_iald C dX6_doLine_120 (n := 121) rfl (e_pg (M (a + 17) (M a 15)) (by omega) (by omega)).2.2.2.2.2.2.1 (by omega) (v := M (pf + 4 * (M (a + 17) (M a 15) : Int).toNat + 2) (M (a + 18) (M a 15))) rfl ?_
          refine q_isub C dX6_doLine_121 (n := 122) rfl (v := ((M (pf + 4 * (M (a + 17) (M a 15) : Int).toNat + 2) ((M (a + 18) (M a 15)) + 1)) - 1) - (M (pf + 4 * (M (a + 17) (M a 15) : Int).toNat + 2) (M (a + 18) (M a 15)))) rfl ?_
          refine q_istore_n C [.ref (w.2.1 + a), zi (M (a + 17) (M a 15)), zi (M (a + 18) (M a 15)), zi (((M (pf + 4 * (M (a + 17) (M a 15) : Int).toNat + 2) ((M (a + 18) (M a 15)) + 1)) - 1) - (M (pf + 4 * (M (a + 17) (M a 15) : Int).toNat + 2) (M (a + 18) (M a 15)))), .null, .null] dX6_doLine_122 (n := 123) rfl rfl rfl ?_
          refine q_aload_n C dX6_doLine_123 (n := 124) rfl rfl ?_
          refine q_iload_n C dX6_doLine_124 (n := 125) rfl rfl ?_
          refine q_iload_n C dX6_doLine_125 (n := 126) rfl rfl ?_
          refine q_iload_n C dX6_doLine_126 (n := 127) rfl rfl ?_
          refine q_callSp C dX6_doLine_127 (n := 130) rfl m_X6_165 s_yX5_origin (c_X5_origin (w := w) (J := J) hI hF (M (a + 17) (M a 15)) (M (a + 18) (M a 15)) (((M (pf + 4 * (M (a + 17) (M a 15) : Int).toNat + 2) ((M (a + 18) (M a 15)) + 1)) - 1) - (M (pf + 4 * (M (a + 17) (M a 15) : Int).toNat + 2) (M (a + 18) (M a 15))))) (Nat.le_of_ble_eq_true rfl) rfl rfl (Nat.le_of_ble_eq_true rfl) ⟨Nat.le_refl _, Nat.le_refl _⟩ (fun x14 h15 => ?_)
          obtain ⟨h12, h13⟩ := h15
          refine q_putI C dX6_doLine_130 (n := 133) rfl f_X6_65 h0.1 ⟨rfl, rfl⟩ (fun M16 (e17 : M16 = zup M a 19 x14) => ?_)
          have hI18 : zI G M16 := hI.put e17 h0.2.2.2.2.2.2.2.2.2.2.2.2.2.2.2.2.2.2.2.2.2.2.2.2.2.2.2.2.2.2.2.2.2.2.2.2.2.2.2.2.2.2.2.2 rfl (by omega)
          have hK19 := hK0.put e17 h0.2.2.2.2.2.2.2.2.2.2.2.2.2.2.2.2.2.2.2.2.2.2.2.2.2.2.2.2.2.2.2.2.2.2.2.2.2.2.2.2.2.2.2.2 (by decide)
          refine q_aload_n C dX6_doLine_133 (n := 134) rfl rfl ?_
          refine q_getR C dX6_doLine_134 (n := 137) rfl f_X6_121 h0.1 hpg ?_
          refine q_iload_n C dX6_doLine_137 (n := 138) rfl rfl ?_
          refine q_aald C dX6_doLine_138 (n := 139) rfl ⟨by decide, by decide⟩ t_pg (by omega) (hF _ _ _ (e_pg (M (a + 17) (M a 15)) (by omega) (by omega)).1) ?_
          refine q_getR C dX6_doLine_139 (n := 142) rfl f_X6_169 (e_pg (M (a + 17) (M a 15)) (by omega) (by omega)).2.1 (hF _ _ _ (e_pg (M (a + 17) (M a 15)) (by omega) (by omega)).2.2.2.2.2.2.2.2.1) ?_
          refine q_iload_n C dX6_doLine_142 (n := 143) rfl rfl ?_
          have g20 := zI.at hI ((e_pg (M (a + 17) (M a 15)) (by omega) (by omega)).2.2.2.2.2.2.2.2.2.2.1 (M (a + 18) (M a 15)))
          refine q_iald C dX6_doLine_143 (n := 144) rfl (e_pg (M (a + 17) (M a 15)) (by omega) (by omega)).2.2.2.2.2.2.2.2.2.1 (by omega) (v := M (pf + 4 * (M (a + 17) (M a 15) : Int).toNat + 3) (M (a + 18) (M a 15))) (zup_n e17 (zne_t ((e_pg (M (a + 17) (M a 15)) (by omega) (by omega)).2.2.2.2.2.2.2.2.2.2.1 (M (a + 18) (M a 15))) h0.2.2.2.2.2.2.2.2.2.2.2.2.2.2.2.2.2.2.2.2.2.2.2.2.2.2.2.2.2.2.2.2.2.2.2.2.2.2.2.2.2.2.2.2 (by decide))) ?_
          refine q_istore C [.ref (w.2.1 + a), zi (M (a + 17) (M a 15)), zi (M (a + 18) (M a 15)), zi (((M (pf + 4 * (M (a + 17) (M a 15) : Int).toNat + 2) ((M (a + 18) (M a 15)) + 1)) - 1) - (M (pf + 4 * (M (a + 17) (M a 15) : Int).toNat + 2) (M (a + 18) (M a 15)))), zi (M (pf + 4 * (M (a + 17) (M a 15) : Int).toNat + 3) (M (a + 18) (M a 15))), .null] dX6_doLine_144 (n := 146) rfl rfl rfl ?_
          refine q_aload_n C dX6_doLine_146 (n := 147) rfl rfl ?_
          refine q_iload C dX6_doLine_147 (n := 149) rfl rfl ?_
          refine q_callVp C dX6_doLine_149 (n := 152) rfl m_X6_172 v_yX6_isAstray h0.1 ⟨by decide, rfl⟩ (c_X6_isAstray (w := w) (J := J) hI18 hF h0 (M (pf + 4 * (M (a + 17) (M a 15) : Int).toNat + 3) (M (a + 18) (M a 15))) (by have hz : M16 a 15 = M a 15 := (zup_n e17 (by omega)); omega) (by omega)) (Nat.le_of_ble_eq_true rfl) rfl rfl (Nat.le_of_ble_eq_true rfl) ⟨Nat.le_refl _, Nat.le_refl _⟩ (fun x22 h23 => ?_)
          refine q_if_eq C 172 dX6_doLine_152 (n := 155) rfl rfl (by omega) (fun h24 => ?_) (fun h24 => ?_)
          · refine q_aload_n C dX6_doLine_172 (n := 173) rfl rfl ?_
            refine q_callVp C dX6_doLine_173 (n := 176) rfl m_X6_184 v_yX6_isSkipping h0.1 ⟨by decide, rfl⟩ (c_X6_isSkipping (w := w) (J := J) hI18 hF h0 (by have hz : M16 a 15 = M a 15 := (zup_n e17 (by omega)); omega)) (Nat.le_of_ble_eq_true rfl) rfl rfl (Nat.le_of_ble_eq_true rfl) ⟨Nat.le_refl _, Nat.le_refl _⟩ (fun x26 h27 => ?_)
            have J_28 : zK w p e 123 0 0 s m args below meth c 6 T Po 221 [.ref (w.2.1 + a), zi (M (a + 17) (M a 15)), zi (M (a + 18) (M a 15)), zi (((M (pf + 4 * (M (a + 17) (M a 15) : Int).toNat + 2) ((M (a + 18) (M a 15)) + 1)) - 1) - (M (pf + 4 * (M (a + 17) (M a 15) : Int).toNat + 2) (M (a + 18) (M a 15)))), zi (M (pf + 4 * (M (a + 17) (M a 15) : Int).toNat + 3) (M (a + 18) (M a 15))), .null] [] (T, M16, J, R) := by
              refine q_aload_n C dX6_doLine_221 (n := 222) rfl rfl ?_
              refine q_iload C dX6_doLine_222 (n := 224) rfl rfl ?_
              refine q_iload_n C dX6_doLine_224 (n := 225) rfl rfl ?_
              refine q_sipush C dX6_doLine_225 (n := 228) rfl (x := 401) (by decide) ?_
              refine q_imul C dX6_doLine_228 (n := 229) rfl (v := (M (a + 17) (M a 15)) * 401) rfl ?_
              refine q_aload_n C dX6_doLine_229 (n := 230) rfl rfl ?_
              refine q_getR C dX6_doLine_230 (n := 233) rfl f_X6_121 h0.1 hpg ?_
              refine q_iload_n C dX6_doLine_233 (n := 234) rfl rfl ?_
              refine q_aald C dX6_doLine_234 (n := 235) rfl ⟨by decide, by decide⟩ t_pg (by omega) (hF _ _ _ (e_pg (M (a + 17) (M a 15)) (by omega) (by omega)).1) ?_
              refine q_getR C dX6_doLine_235 (n := 238) rfl f_X6_162 (e_pg (M (a + 17) (M a 15)) (by omega) (by omega)).2.1 (hF _ _ _ (e_pg (M (a + 17) (M a 15)) (by omega) (by omega)).2.2.2.2.2.1) ?_
              refine q_iload_n C dX6_doLine_238 (n := 239) rfl rfl ?_
              refine q_iald C dX6_doLine_239 (n := 240) rfl (e_pg (M (a + 17) (M a 15)) (by omega) (by omega)).2.2.2.2.2.2.1 (by omega) (v := M (pf + 4 * (M (a + 17) (M a 15) : Int).toNat + 2) (M (a + 18) (M a 15))) (zup_n e17 (zne_t ((e_pg (M (a + 17) (M a 15)) (by omega) (by omega)).2.2.2.2.2.2.2.1 (M (a + 18) (M a 15))) h0.2.2.2.2.2.2.2.2.2.2.2.2.2.2.2.2.2.2.2.2.2.2.2.2.2.2.2.2.2.2.2.2.2.2.2.2.2.2.2.2.2.2.2.2 (by decide))) ?_
              refine q_iadd C dX6_doLine_240 (n := 241) rfl (v := ((M (a + 17) (M a 15)) * 401) + (M (pf + 4 * (M (a + 17) (M a 15) : Int).toNat + 2) (M (a + 18) (M a 15)))) rfl ?_
              refine q_iload_n C dX6_doLine_241 (n := 242) rfl rfl ?_
              refine q_callVi C dX6_doLine_242 (n := 245) rfl m_X6_194 v_yX6_prepare h0.1 ⟨by decide, rfl⟩ (c_X6_prepare (w := w) (J := J) hI18 hF h0 (M (pf + 4 * (M (a + 17) (M a 15) : Int).toNat + 3) (M (a + 18) (M a 15))) (((M (a + 17) (M a 15)) * 401) + (M (pf + 4 * (M (a + 17) (M a 15) : Int).toNat + 2) (M (a + 18) (M a 15)))) (((M (pf + 4 * (M (a + 17) (M a 15) : Int).toNat + 2) ((M (a + 18) (M a 15)) + 1)) - 1) - (M (pf + 4 * (M (a + 17) (M a 15) : Int).toNat + 2) (M (a + 18) (M a 15)))) (by omega) (by have hz : M16 a 15 = M a 15 := (zup_n e17 (by omega)); omega) (by omega) (by omega) (by omega)) (Nat.le_of_ble_eq_true rfl) rfl rfl (Nat.le_of_ble_eq_true rfl) ⟨Nat.le_refl _, Nat.le_refl _⟩ (fun x34 M30 J31  hI32 h33 => ?_)
              obtain ⟨hk35, h29⟩ := h33
              have hK36 := hK19.tr hk35 (by decide)
              refine q_istore C [.ref (w.2.1 + a), zi (M (a + 17) (M a 15)), zi (M (a + 18) (M a 15)), zi (((M (pf + 4 * (M (a + 17) (M a 15) : Int).toNat + 2) ((M (a + 18) (M a 15)) + 1)) - 1) - (M (pf + 4 * (M (a + 17) (M a 15) : Int).toNat + 2) (M (a + 18) (M a 15)))), zi (M (pf + 4 * (M (a + 17) (M a 15) : Int).toNat + 3) (M (a + 18) (M a 15))), zi x34] dX6_doLine_245 (n := 247) rfl rfl rfl ?_
              refine q_iload C dX6_doLine_247 (n := 249) rfl rfl ?_
              refine q_iconst C dX6_doLine_249 (n := 250) rfl ?_
              have zp15 : M30 a 15 = M a 15 := ((hk35 _ _ (zle_t h0.2.2.2.2.2.2.2.2.2.2.2.2.2.2.2.2.2.2.2.2.2.2.2.2.2.2.2.2.2.2.2.2.2.2.2.2.1 (by decide))).trans (zup_n e17 (by omega)))
              have zp18 : ∀ j, M30 (a + 18) j = M (a + 18) j := fun j => ((hk35 _ _ (zle_t (h0.2.2.2.2.2.2.2.2.2.2.2.2.2.2.2.2.2.2.2.2.2.2.2.2.2.2.2.2.2.2.2.2.1 j) (by decide))).trans (zup_p e17 (by omega) _))
              have zp := p3.cg zp15 zp18
              have J_45 : ∀ (u37 : Int) (M38 : zMm) (J39 : zJm), zI G M38 → zKp G 15 M M38 → (-2147483648 ≤ u37 ∧ u37 ≤ 2147483647) → (0 ≤ u37 ∧ u37 ≤ 4) → (u37 = 4 ∧ zLn M38 a ∨ ¬ u37 = 4 ∧ zSm M30 M38 a) → zK w p e 123 0 0 s m args below meth c 6 T Po 275 [.ref (w.2.1 + a), zi (M (a + 17) (M a 15)), zi (M (a + 18) (M a 15)), .null, zi (M (pf + 4 * (M (a + 17) (M a 15) : Int).toNat + 3) (M (a + 18) (M a 15))), zi u37] [] (T, M38, J39, R) := by
                intro u37 M38 J39 hI40 hK41 h42 h43 h44
                have z275 : zLn M38 a := h44.elim (fun q => q.2) (fun q => zp.cg q.2.1 q.2.2.1)
                refine q_iload C dX6_doLine_275 (n := 277) rfl rfl ?_
                refine q_iconst C dX6_doLine_277 (n := 278) rfl ?_
                have J_52 : ∀ (M47 : zMm) (J48 : zJm), zI G M47 → zKp G 15 M M47 → zKp G 14 M38 M47 → zK w p e 123 0 0 s m args below meth c 6 T Po 316 [.ref (w.2.1 + a), zi (M (a + 17) (M a 15)), zi (M (a + 18) (M a 15)), .null, zi (M (pf + 4 * (M (a + 17) (M a 15) : Int).toNat + 3) (M (a + 18) (M a 15))), zi u37] [] (T, M47, J48, R) := by
                  intro M47 J48 hI49 hK50 hK51
                  refine q_iload C dX6_doLine_316 (n := 318) rfl rfl ?_
                  refine q_iconst C dX6_doLine_318 (n := 319) rfl ?_
                  have J_60 : ∀ (M54 : zMm) (J55 : zJm), zI G M54 → zKp G 15 M M54 → zKp G 14 M38 M54 → zKp G 14 M47 M54 → zK w p e 123 0 0 s m args below meth c 6 T Po 336 [.ref (w.2.1 + a), zi (M (a + 17) (M a 15)), zi (M (a + 18) (M a 15)), .null, zi (M (pf + 4 * (M (a + 17) (M a 15) : Int).toNat + 3) (M (a + 18) (M a 15))), zi u37] [] (T, M54, J55, R) := by
                    intro M54 J55 hI56 hK57 hK58 hK59
                    refine q_iload C dX6_doLine_336 (n := 338) rfl rfl ?_
                    refine q_iconst C dX6_doLine_338 (n := 339) rfl ?_
                    have J_71 : ∀ (R62 : zRm') (M64 : zMm) (J65 : zJm), zF F R62 → (R62 a 11 = some pg) → (R62 (a + 39) 7 = some tl) → (R62 = R ∨ R62 = zup R (a + 753) 2 (some (a + 13))) → zI G M64 → zKp G 15 M M64 → zKp G 14 M38 M64 → zKp G 14 M47 M64 → zKp G 14 M54 M64 → zK w p e 123 0 0 s m args below meth c 6 T Po 389 [.ref (w.2.1 + a), .null, .null, .null, .null, zi u37] [] (T, M64, J65, R62) := by
                      intro R62 M64 J65 hF hpg htal hr63 hI66 hK67 hK68 hK69 hK70
                      refine q_iload C dX6_doLine_389 (n := 391) rfl rfl ?_
                      refine q_iconst C dX6_doLine_391 (n := 392) rfl ?_
                      have J_77 : ∀ (M72 : zMm) (J73 : zJm), zI G M72 → zKp G 15 M M72 → (zLn M72 a) → zK w p e 123 0 0 s m args below meth c 6 T Po 409 [.ref (w.2.1 + a), .null, .null, .null, .null, .null] [] (T, M72, J73, R62) := by
                        intro M72 J73 hI74 hK75 h76
                        refine q_aload_n C dX6_doLine_409 (n := 410) rfl rfl ?_
                        refine q_getR C dX6_doLine_410 (n := 413) rfl f_X6_12 h0.1 (hF _ _ _ h0.2.2.2.1) ?_
                        have g78 := zI.at hI74 h0.2.2.2.2.1.2.1
                        refine q_getI C dX6_doLine_413 (n := 416) rfl f_X6_155 h0.2.2.2.2.1.1 (v := M72 (a + 1) 0) rfl ?_
                        refine q_if_ne C 423 dX6_doLine_416 (n := 419) rfl rfl (by omega) (fun h79 => ?_) (fun h79 => ?_)
                        · refine q_iconst C dX6_doLine_423 (n := 424) rfl ?_
                          exact q_zret C dX6_doLine_424 ⟨rfl, rfl⟩ (by omega) (by rw [hPo]; exact ⟨0, M72, J73, R62, rfl, rfl, hI74, hK75, by omega, h76, hr63⟩)
                        · refine q_iconst C dX6_doLine_419 (n := 420) rfl ?_
                          refine q_goto C 424 dX6_doLine_420 rfl ?_
                          exact q_zret C dX6_doLine_424 ⟨rfl, rfl⟩ (by omega) (by rw [hPo]; exact ⟨1, M72, J73, R62, rfl, rfl, hI74, hK75, by omega, h76, hr63⟩)
                      refine q_icmp_eq C 409 dX6_doLine_392 (n := 395) rfl rfl (by omega) (fun h80 => ?_) (fun h80 => ?_)
                      · exact zK.weak (J_77 M64 J65 hI66 hK67 (z275.pop (by have hz : M64 a 15 = M38 a 15 := ((hK70 _ _ (zle_t h0.2.2.2.2.2.2.2.2.2.2.2.2.2.2.2.2.2.2.2.2.2.2.2.2.2.2.2.2.2.2.2.2.2.2.2.2.1 (by decide))).trans ((hK59 _ _ (zle_t h0.2.2.2.2.2.2.2.2.2.2.2.2.2.2.2.2.2.2.2.2.2.2.2.2.2.2.2.2.2.2.2.2.2.2.2.2.1 (by decide))).trans (hK51 _ _ (zle_t h0.2.2.2.2.2.2.2.2.2.2.2.2.2.2.2.2.2.2.2.2.2.2.2.2.2.2.2.2.2.2.2.2.2.2.2.2.1 (by decide))))); omega) (fun j q => by have hz : M64 a 15 = M38 a 15 := ((hK70 _ _ (zle_t h0.2.2.2.2.2.2.2.2.2.2.2.2.2.2.2.2.2.2.2.2.2.2.2.2.2.2.2.2.2.2.2.2.2.2.2.2.1 (by decide))).trans ((hK59 _ _ (zle_t h0.2.2.2.2.2.2.2.2.2.2.2.2.2.2.2.2.2.2.2.2.2.2.2.2.2.2.2.2.2.2.2.2.2.2.2.2.1 (by decide))).trans (hK51 _ _ (zle_t h0.2.2.2.2.2.2.2.2.2.2.2.2.2.2.2.2.2.2.2.2.2.2.2.2.2.2.2.2.2.2.2.2.2.2.2.2.1 (by decide))))); exact ((hK70 _ _ (zle_t (h0.2.2.2.2.2.2.2.2.2.2.2.2.2.2.2.2.2.2.2.2.2.2.2.2.2.2.2.2.2.2.2.2.1 j) (by decide))).trans ((hK59 _ _ (zle_t (h0.2.2.2.2.2.2.2.2.2.2.2.2.2.2.2.2.2.2.2.2.2.2.2.2.2.2.2.2.2.2.2.2.1 j) (by decide))).trans (hK51 _ _ (zle_t (h0.2.2.2.2.2.2.2.2.2.2.2.2.2.2.2.2.2.2.2.2.2.2.2.2.2.2.2.2.2.2.2.2.1 j) (by decide)))))))) (zwk_c (zwk_n (zwk_n (zwk_n (zwk_n (zwk_n zwk_e))))))
                      · refine q_aload_n C dX6_doLine_395 (n := 396) rfl rfl ?_
                        refine q_getR C dX6_doLine_396 (n := 399) rfl f_X6_12 h0.1 (hF _ _ _ h0.2.2.2.1) ?_
                        have g81 := zI.at hI66 h0.2.2.2.2.1.2.1
                        refine q_getI C dX6_doLine_399 (n := 402) rfl f_X6_155 h0.2.2.2.2.1.1 (v := M64 (a + 1) 0) rfl ?_
                        refine q_if_ne C 409 dX6_doLine_402 (n := 405) rfl rfl (by omega) (fun h82 => ?_) (fun h82 => ?_)
                        · exact zK.weak (J_77 M64 J65 hI66 hK67 (z275.pop (by have hz : M64 a 15 = M38 a 15 := ((hK70 _ _ (zle_t h0.2.2.2.2.2.2.2.2.2.2.2.2.2.2.2.2.2.2.2.2.2.2.2.2.2.2.2.2.2.2.2.2.2.2.2.2.1 (by decide))).trans ((hK59 _ _ (zle_t h0.2.2.2.2.2.2.2.2.2.2.2.2.2.2.2.2.2.2.2.2.2.2.2.2.2.2.2.2.2.2.2.2.2.2.2.2.1 (by decide))).trans (hK51 _ _ (zle_t h0.2.2.2.2.2.2.2.2.2.2.2.2.2.2.2.2.2.2.2.2.2.2.2.2.2.2.2.2.2.2.2.2.2.2.2.2.1 (by decide))))); omega) (fun j q => by have hz : M64 a 15 = M38 a 15 := ((hK70 _ _ (zle_t h0.2.2.2.2.2.2.2.2.2.2.2.2.2.2.2.2.2.2.2.2.2.2.2.2.2.2.2.2.2.2.2.2.2.2.2.2.1 (by decide))).trans ((hK59 _ _ (zle_t h0.2.2.2.2.2.2.2.2.2.2.2.2.2.2.2.2.2.2.2.2.2.2.2.2.2.2.2.2.2.2.2.2.2.2.2.2.1 (by decide))).trans (hK51 _ _ (zle_t h0.2.2.2.2.2.2.2.2.2.2.2.2.2.2.2.2.2.2.2.2.2.2.2.2.2.2.2.2.2.2.2.2.2.2.2.2.1 (by decide))))); exact ((hK70 _ _ (zle_t (h0.2.2.2.2.2.2.2.2.2.2.2.2.2.2.2.2.2.2.2.2.2.2.2.2.2.2.2.2.2.2.2.2.1 j) (by decide))).trans ((hK59 _ _ (zle_t (h0.2.2.2.2.2.2.2.2.2.2.2.2.2.2.2.2.2.2.2.2.2.2.2.2.2.2.2.2.2.2.2.2.1 j) (by decide))).trans (hK51 _ _ (zle_t (h0.2.2.2.2.2.2.2.2.2.2.2.2.2.2.2.2.2.2.2.2.2.2.2.2.2.2.2.2.2.2.2.2.1 j) (by decide)))))))) (zwk_c (zwk_n (zwk_n (zwk_n (zwk_n (zwk_n zwk_e))))))
                        · have sm5 := (h44.resolve_left (fun q => absurd q.1 (by omega))).2
                          have e15 : M64 a 15 = M a 15 := (((hK70 _ _ (zle_t h0.2.2.2.2.2.2.2.2.2.2.2.2.2.2.2.2.2.2.2.2.2.2.2.2.2.2.2.2.2.2.2.2.2.2.2.2.1 (by decide))).trans ((hK59 _ _ (zle_t h0.2.2.2.2.2.2.2.2.2.2.2.2.2.2.2.2.2.2.2.2.2.2.2.2.2.2.2.2.2.2.2.2.2.2.2.2.1 (by decide))).trans (hK51 _ _ (zle_t h0.2.2.2.2.2.2.2.2.2.2.2.2.2.2.2.2.2.2.2.2.2.2.2.2.2.2.2.2.2.2.2.2.2.2.2.2.1 (by decide)))))).trans (sm5.1.trans zp15)
                          have e18 : ∀ j, M64 (a + 18) j = M (a + 18) j := fun j => (((hK70 _ _ (zle_t (h0.2.2.2.2.2.2.2.2.2.2.2.2.2.2.2.2.2.2.2.2.2.2.2.2.2.2.2.2.2.2.2.2.1 j) (by decide))).trans ((hK59 _ _ (zle_t (h0.2.2.2.2.2.2.2.2.2.2.2.2.2.2.2.2.2.2.2.2.2.2.2.2.2.2.2.2.2.2.2.2.1 j) (by decide))).trans (hK51 _ _ (zle_t (h0.2.2.2.2.2.2.2.2.2.2.2.2.2.2.2.2.2.2.2.2.2.2.2.2.2.2.2.2.2.2.2.2.1 j) (by decide)))))).trans ((sm5.2.1 j).trans (zp18 j))
                          refine q_aload_n C dX6_doLine_405 (n := 406) rfl rfl ?_
                          refine q_callVv C dX6_doLine_406 (n := 409) rfl m_X6_216 v_yX6_finishLine h0.1 ⟨by decide, rfl⟩ (c_X6_finishLine (w := w) (J := J65) hI66 hF h0 (by omega) (by rw [e15, e18]; exact ln) (p3.cg e15 e18)) (Nat.le_of_ble_eq_true rfl) rfl rfl (Nat.le_of_ble_eq_true rfl) ⟨Nat.le_refl _, Nat.le_refl _⟩ (fun M85 J86  hI87 h88 => ?_)
                          obtain ⟨hk89, h83, h84⟩ := h88
                          have hK90 := hK67.tr hk89 (by decide)
                          exact zK.weak (J_77 M85 J86 hI87 hK90 h83) (zwk_c (zwk_n (zwk_n (zwk_n (zwk_n (zwk_n zwk_e))))))
                    refine q_icmp_ne C 389 dX6_doLine_339 (n := 342) rfl rfl (by omega) (fun h91 => ?_) (fun h91 => ?_)
                    · exact zK.weak (J_71 R M54 J55 hF hpg htal (Or.inl rfl) hI56 hK57 hK58 hK59 (zKp.rf (G := G) (n := 14) (M := M54))) (zwk_c (zwk_n (zwk_n (zwk_n (zwk_n (zwk_c zwk_e))))))
                    · refine q_aload_n C dX6_doLine_342 (n := 343) rfl rfl ?_
                      refine q_getR C dX6_doLine_343 (n := 346) rfl f_X6_12 h0.1 (hF _ _ _ h0.2.2.2.1) ?_
                      have g92 := zI.at hI56 h0.2.2.2.2.1.2.1
                      refine q_getI C dX6_doLine_346 (n := 349) rfl f_X6_155 h0.2.2.2.2.1.1 (v := M54 (a + 1) 0) rfl ?_
                      refine q_if_ne C 389 dX6_doLine_349 (n := 352) rfl rfl (by omega) (fun h93 => ?_) (fun h93 => ?_)
                      · exact zK.weak (J_71 R M54 J55 hF hpg htal (Or.inl rfl) hI56 hK57 hK58 hK59 (zKp.rf (G := G) (n := 14) (M := M54))) (zwk_c (zwk_n (zwk_n (zwk_n (zwk_n (zwk_c zwk_e))))))
                      · refine q_aload_n C dX6_doLine_352 (n := 353) rfl rfl ?_
                        refine q_iload C dX6_doLine_353 (n := 355) rfl rfl ?_
                        refine q_aload_n C dX6_doLine_355 (n := 356) rfl rfl ?_
                        refine q_getR C dX6_doLine_356 (n := 359) rfl f_X6_96 h0.1 (hF _ _ _ h0.2.2.2.2.2.2.2.2.2.2.2.2.2.2.2.2.2.2.2.2.1) ?_
                        refine q_aload_n C dX6_doLine_359 (n := 360) rfl rfl ?_
                        refine q_getR C dX6_doLine_360 (n := 363) rfl f_X6_40 h0.1 (hF _ _ _ h0.2.2.2.2.2.2.2.2.2.2.2.2.2.2.2.2.2.2.2.2.2.2.2.2.1) ?_
                        refine q_aload_n C dX6_doLine_363 (n := 364) rfl rfl ?_
                        have g94 := zI.at hI56 h0.2.2.2.2.2.2.2.2.2.2.2.2.2.2.2.2.2.2.2.2.2.2.2.2.2.2.2.2.2.2.2.2.2.2.2.2.2.2.2.2.2.2.2.2
                        refine q_getI C dX6_doLine_364 (n := 367) rfl f_X6_65 h0.1 (v := M54 a 19) rfl ?_
                        refine q_callVlR C dX6_doLine_367 (n := 370) rfl m_X6_208 v_yX9_whole h0.2.2.2.2.2.2.2.2.2.2.2.2.2.2.2.2.2.2.2.2.2.1.1 ⟨by decide, rfl⟩ (c_X9_whole (w := w) (J := J55) hI56 hF h0.2.2.2.2.2.2.2.2.2.2.2.2.2.2.2.2.2.2.2.2.2.1 h0.2.2.2.2.2.2.2.2.2.2.2.2.2.2.2.2.2.2.2.2.2.2.2.2.2.1 (M54 a 19) (by omega) (by omega)) (Nat.le_of_ble_eq_true rfl) rfl rfl (Nat.le_of_ble_eq_true rfl) ⟨Nat.le_refl _, Nat.le_refl _⟩ (fun l99 M95 J96  hI97 h98 => ?_)
                        have hK101 := hK57.tr h98 (by decide)
                        have hK102 := hK58.tr h98 (by decide)
                        have hK103 := hK59.tr h98 (by decide)
                        have hK104 := (zKp.rf (G := G) (n := 14) (M := M54)).tr h98 (by decide)
                        obtain ⟨R105, e106⟩ : ∃ q, q = zup R (a + 753) 2 (some (a + 13)) := ⟨_, rfl⟩
                        rw [← e106]
                        have hF := hF.put e106 h0.2.2.2.2.2.2.2.2.2.2.2.2.2.2.2.2.2.2.2.2.2.1.2.2.2.2.2.1
                        have hpg : R105 a 11 = some pg := (zup_n e106 (by omega)).trans hpg
                        have htal : R105 (a + 39) 7 = some tl := (zup_n e106 (by omega)).trans htal
                        refine q_lconst C dX6_doLine_370 (n := 371) rfl ?_
                        refine q_lcmp C dX6_doLine_371 (n := 372) rfl (fun z107 h108 => ?_)
                        have J_112 : ∀ (u109 : Int), (-2147483648 ≤ u109 ∧ u109 ≤ 2147483647) → (u109 = 0 ∨ u109 = 1) → zK w p e 123 0 0 s m args below meth c 6 T Po 380 [.ref (w.2.1 + a), zi (M (a + 17) (M a 15)), zi (M (a + 18) (M a 15)), .null, .null, zi u37] [zi u109, zi (M (pf + 4 * (M (a + 17) (M a 15) : Int).toNat + 3) (M (a + 18) (M a 15))), .ref (w.2.1 + a)] (T, M95, J96, R105) := by
                          intro u109 h110 h111
                          refine q_aload_n C dX6_doLine_380 (n := 381) rfl rfl ?_
                          refine q_iload_n C dX6_doLine_381 (n := 382) rfl rfl ?_
                          refine q_iload_n C dX6_doLine_382 (n := 383) rfl rfl ?_
                          refine q_callVp C dX6_doLine_383 (n := 386) rfl m_X6_176 v_yX6_hashLook h0.1 ⟨by decide, rfl⟩ (c_X6_hashLook (w := w) (J := J96) hI97 hF h0 (M (a + 17) (M a 15)) (M (a + 18) (M a 15)) (by assumption) (by assumption) (by assumption) (by omega) (by omega)) (Nat.le_of_ble_eq_true rfl) rfl rfl (Nat.le_of_ble_eq_true rfl) ⟨Nat.le_refl _, Nat.le_refl _⟩ (fun x114 h115 => ?_)
                          refine q_callVv C dX6_doLine_386 (n := 389) rfl m_X6_212 v_yX6_decide h0.1 ⟨by decide, rfl⟩ (c_X6_decide (w := w) (J := J96) hI97 hF h0 (M (pf + 4 * (M (a + 17) (M a 15) : Int).toNat + 3) (M (a + 18) (M a 15))) u109 x114 (by omega) (by omega) (by omega)) (Nat.le_of_ble_eq_true rfl) rfl rfl (Nat.le_of_ble_eq_true rfl) ⟨Nat.le_refl _, Nat.le_refl _⟩ (fun M116 J117  hI118 h119 => ?_)
                          have hK121 := hK101.tr h119 (by decide)
                          have hK122 := hK102.tr h119 (by decide)
                          have hK123 := hK103.tr h119 (by decide)
                          have hK124 := hK104.tr h119 (by decide)
                          exact zK.weak (J_71 R105 M116 J117 hF hpg htal (Or.inr e106) hI118 hK121 hK122 hK123 hK124) (zwk_c (zwk_n (zwk_n (zwk_n (zwk_n (zwk_c zwk_e))))))
                        refine q_if_eq C 379 dX6_doLine_372 (n := 375) rfl rfl (by omega) (fun h125 => ?_) (fun h125 => ?_)
                        · refine q_iconst C dX6_doLine_379 (n := 380) rfl ?_
                          exact zK.weak (J_112 0 (by omega) (by omega)) (zwk_c (zwk_c (zwk_c (zwk_n (zwk_n (zwk_c zwk_e))))))
                        · refine q_iconst C dX6_doLine_375 (n := 376) rfl ?_
                          refine q_goto C 380 dX6_doLine_376 rfl ?_
                          exact zK.weak (J_112 1 (by omega) (by omega)) (zwk_c (zwk_c (zwk_c (zwk_n (zwk_n (zwk_c zwk_e))))))
                  refine q_icmp_ne C 336 dX6_doLine_319 (n := 322) rfl rfl (by omega) (fun h126 => ?_) (fun h126 => ?_)
                  · exact zK.weak (J_60 M47 J48 hI49 hK50 hK51 (zKp.rf (G := G) (n := 14) (M := M47))) (zwk_c (zwk_c (zwk_c (zwk_n (zwk_c (zwk_c zwk_e))))))
                  · refine q_aload_n C dX6_doLine_322 (n := 323) rfl rfl ?_
                    refine q_getR C dX6_doLine_323 (n := 326) rfl f_X6_12 h0.1 (hF _ _ _ h0.2.2.2.1) ?_
                    have g127 := zI.at hI49 h0.2.2.2.2.1.2.1
                    refine q_getI C dX6_doLine_326 (n := 329) rfl f_X6_155 h0.2.2.2.2.1.1 (v := M47 (a + 1) 0) rfl ?_
                    refine q_if_ne C 336 dX6_doLine_329 (n := 332) rfl rfl (by omega) (fun h128 => ?_) (fun h128 => ?_)
                    · exact zK.weak (J_60 M47 J48 hI49 hK50 hK51 (zKp.rf (G := G) (n := 14) (M := M47))) (zwk_c (zwk_c (zwk_c (zwk_n (zwk_c (zwk_c zwk_e))))))
                    · refine q_aload_n C dX6_doLine_332 (n := 333) rfl rfl ?_
                      refine q_callVv C dX6_doLine_333 (n := 336) rfl m_X6_205 v_yX6_handOut h0.1 ⟨by decide, rfl⟩ (c_X6_handOut (w := w) (J := J48) hI49 hF h0) (Nat.le_of_ble_eq_true rfl) rfl rfl (Nat.le_of_ble_eq_true rfl) ⟨Nat.le_refl _, Nat.le_refl _⟩ (fun M129 J130  hI131 h132 => ?_)
                      have hK134 := hK50.tr h132 (by decide)
                      have hK135 := hK51.tr h132 (by decide)
                      have hK136 := (zKp.rf (G := G) (n := 14) (M := M47)).tr h132 (by decide)
                      exact zK.weak (J_60 M129 J130 hI131 hK134 hK135 hK136) (zwk_c (zwk_c (zwk_c (zwk_n (zwk_c (zwk_c zwk_e))))))
                have J_137 : zK w p e 123 0 0 s m args below meth c 6 T Po 287 [.ref (w.2.1 + a), zi (M (a + 17) (M a 15)), zi (M (a + 18) (M a 15)), .null, zi (M (pf + 4 * (M (a + 17) (M a 15) : Int).toNat + 3) (M (a + 18) (M a 15))), zi u37] [] (T, M38, J39, R) := by
                  refine q_aload_n C dX6_doLine_287 (n := 288) rfl rfl ?_
                  refine q_getR C dX6_doLine_288 (n := 291) rfl f_X6_12 h0.1 (hF _ _ _ h0.2.2.2.1) ?_
                  have g138 := zI.at hI40 h0.2.2.2.2.1.2.1
                  refine q_getI C dX6_doLine_291 (n := 294) rfl f_X6_155 h0.2.2.2.2.1.1 (v := M38 (a + 1) 0) rfl ?_
                  refine q_if_ne C 316 dX6_doLine_294 (n := 297) rfl rfl (by omega) (fun h139 => ?_) (fun h139 => ?_)
                  · exact zK.weak (J_52 M38 J39 hI40 hK41 (zKp.rf (G := G) (n := 14) (M := M38))) (zwk_c (zwk_c (zwk_c (zwk_n (zwk_c (zwk_c zwk_e))))))
                  · refine q_aload_n C dX6_doLine_297 (n := 298) rfl rfl ?_
                    refine q_getR C dX6_doLine_298 (n := 301) rfl f_X6_40 h0.1 (hF _ _ _ h0.2.2.2.2.2.2.2.2.2.2.2.2.2.2.2.2.2.2.2.2.2.2.2.2.1) ?_
                    refine q_iconst C dX6_doLine_301 (n := 302) rfl ?_
                    refine q_putI C dX6_doLine_302 (n := 305) rfl f_X6_103 h0.2.2.2.2.2.2.2.2.2.2.2.2.2.2.2.2.2.2.2.2.2.2.2.2.2.1.1 ⟨rfl, rfl⟩ (fun M140 (e141 : M140 = zup M38 (a + 13) 3 0) => ?_)
                    have hI142 : zI G M140 := hI40.put e141 h0.2.2.2.2.2.2.2.2.2.2.2.2.2.2.2.2.2.2.2.2.2.2.2.2.2.1.2.2.2.2.2.2.2.2.2.2 rfl (by omega)
                    have hK143 := hK41.put e141 h0.2.2.2.2.2.2.2.2.2.2.2.2.2.2.2.2.2.2.2.2.2.2.2.2.2.1.2.2.2.2.2.2.2.2.2.2 (by decide)
                    have hK144 := (zKp.rf (G := G) (n := 14) (M := M38)).put e141 h0.2.2.2.2.2.2.2.2.2.2.2.2.2.2.2.2.2.2.2.2.2.2.2.2.2.1.2.2.2.2.2.2.2.2.2.2 (by decide)
                    refine q_aload_n C dX6_doLine_305 (n := 306) rfl rfl ?_
                    refine q_getR C dX6_doLine_306 (n := 309) rfl f_X6_89 h0.1 (hF _ _ _ h0.2.2.2.2.2.2.2.2.2.2.2.2.2.2.2.2.2.2.1) ?_
                    refine q_aload_n C dX6_doLine_309 (n := 310) rfl rfl ?_
                    refine q_getR C dX6_doLine_310 (n := 313) rfl f_X6_40 h0.1 (hF _ _ _ h0.2.2.2.2.2.2.2.2.2.2.2.2.2.2.2.2.2.2.2.2.2.2.2.2.1) ?_
                    refine q_callVv C dX6_doLine_313 (n := 316) rfl m_X6_201 v_yX0_go h0.2.2.2.2.2.2.2.2.2.2.2.2.2.2.2.2.2.2.2.1.1 ⟨by decide, rfl⟩ (c_X0_go (w := w) (J := J39) hI142 hF h0.2.2.2.2.2.2.2.2.2.2.2.2.2.2.2.2.2.2.2.1 h0.2.2.2.2.2.2.2.2.2.2.2.2.2.2.2.2.2.2.2.2.2.2.2.2.2.1 (by assumption) (by assumption) (by assumption) (by omega) (by omega)) (Nat.le_of_ble_eq_true rfl) rfl rfl (Nat.le_of_ble_eq_true rfl) ⟨Nat.le_refl _, Nat.le_refl _⟩ (fun M145 J146  hI147 h148 => ?_)
                    have hK150 := hK143.tr h148 (by decide)
                    have hK151 := hK144.tr h148 (by decide)
                    exact zK.weak (J_52 M145 J146 hI147 hK150 hK151) (zwk_c (zwk_c (zwk_c (zwk_n (zwk_c (zwk_c zwk_e))))))
                refine q_icmp_eq C 287 dX6_doLine_278 (n := 281) rfl rfl (by omega) (fun h152 => ?_) (fun h152 => ?_)
                · exact zK.weak (J_137) (zwk_c (zwk_c (zwk_c (zwk_n (zwk_c (zwk_c zwk_e))))))
                · refine q_iload C dX6_doLine_281 (n := 283) rfl rfl ?_
                  refine q_iconst C dX6_doLine_283 (n := 284) rfl ?_
                  refine q_icmp_ne C 316 dX6_doLine_284 (n := 287) rfl rfl (by omega) (fun h153 => ?_) (fun h153 => ?_)
                  · exact zK.weak (J_52 M38 J39 hI40 hK41 (zKp.rf (G := G) (n := 14) (M := M38))) (zwk_c (zwk_c (zwk_c (zwk_n (zwk_c (zwk_c zwk_e))))))
                  · exact zK.weak (J_137) (zwk_c (zwk_c (zwk_c (zwk_n (zwk_c (zwk_c zwk_e))))))
              refine q_icmp_ne C 275 dX6_doLine_250 (n := 253) rfl rfl (by omega) (fun h154 => ?_) (fun h154 => ?_)
              · exact zK.weak (J_45 x34 M30 J31 hI32 hK36 (by omega) (by omega) (Or.inr ⟨by omega, ⟨rfl, fun _ => rfl, fun _ => rfl⟩⟩)) (zwk_c (zwk_c (zwk_c (zwk_n (zwk_c (zwk_c zwk_e))))))
              · refine q_aload_n C dX6_doLine_253 (n := 254) rfl rfl ?_
                refine q_getR C dX6_doLine_254 (n := 257) rfl f_X6_12 h0.1 (hF _ _ _ h0.2.2.2.1) ?_
                have g155 := zI.at hI32 h0.2.2.2.2.1.2.1
                refine q_getI C dX6_doLine_257 (n := 260) rfl f_X6_155 h0.2.2.2.2.1.1 (v := M30 (a + 1) 0) rfl ?_
                refine q_if_ne C 275 dX6_doLine_260 (n := 263) rfl rfl (by omega) (fun h156 => ?_) (fun h156 => ?_)
                · exact zK.weak (J_45 x34 M30 J31 hI32 hK36 (by omega) (by omega) (Or.inr ⟨by omega, ⟨rfl, fun _ => rfl, fun _ => rfl⟩⟩)) (zwk_c (zwk_c (zwk_c (zwk_n (zwk_c (zwk_c zwk_e))))))
                · refine q_aload_n C dX6_doLine_263 (n := 264) rfl rfl ?_
                  refine q_aload_n C dX6_doLine_264 (n := 265) rfl rfl ?_
                  refine q_iload_n C dX6_doLine_265 (n := 266) rfl rfl ?_
                  refine q_iload_n C dX6_doLine_266 (n := 267) rfl rfl ?_
                  refine q_callVp C dX6_doLine_267 (n := 270) rfl m_X6_176 v_yX6_hashLook h0.1 ⟨by decide, rfl⟩ (c_X6_hashLook (w := w) (J := J31) hI32 hF h0 (M (a + 17) (M a 15)) (M (a + 18) (M a 15)) (by assumption) (by assumption) (by assumption) (by omega) (by omega)) (Nat.le_of_ble_eq_true rfl) rfl rfl (Nat.le_of_ble_eq_true rfl) ⟨Nat.le_refl _, Nat.le_refl _⟩ (fun x158 h159 => ?_)
                  refine q_callVi C dX6_doLine_270 (n := 273) rfl m_X6_197 v_yX6_direct h0.1 ⟨by decide, rfl⟩ (c_X6_direct (w := w) (J := J31) hI32 hF h0 x158 (by assumption) (by assumption) (by assumption) (by omega) (by omega) (by have hz : M30 a 15 = M a 15 := ((hk35 _ _ (zle_t h0.2.2.2.2.2.2.2.2.2.2.2.2.2.2.2.2.2.2.2.2.2.2.2.2.2.2.2.2.2.2.2.2.2.2.2.2.1 (by decide))).trans (zup_n e17 (by omega))); omega) (p3.cg ((hk35 _ _ (zle_t h0.2.2.2.2.2.2.2.2.2.2.2.2.2.2.2.2.2.2.2.2.2.2.2.2.2.2.2.2.2.2.2.2.2.2.2.2.1 (by decide))).trans (zup_n e17 (by omega))) (fun j => ((hk35 _ _ (zle_t (h0.2.2.2.2.2.2.2.2.2.2.2.2.2.2.2.2.2.2.2.2.2.2.2.2.2.2.2.2.2.2.2.2.1 j) (by decide))).trans (zup_p e17 (by omega) _)))) (by have hz : M30 a 15 = M a 15 := ((hk35 _ _ (zle_t h0.2.2.2.2.2.2.2.2.2.2.2.2.2.2.2.2.2.2.2.2.2.2.2.2.2.2.2.2.2.2.2.2.2.2.2.2.1 (by decide))).trans (zup_n e17 (by omega))); rw [hz]; have h2 : ∀ j, M30 (a + 18) j = M (a + 18) j := (fun j => ((hk35 _ _ (zle_t (h0.2.2.2.2.2.2.2.2.2.2.2.2.2.2.2.2.2.2.2.2.2.2.2.2.2.2.2.2.2.2.2.2.1 j) (by decide))).trans (zup_p e17 (by omega) _))); rw [h2]; exact ln) (by omega)) (Nat.le_of_ble_eq_true rfl) rfl rfl (Nat.le_of_ble_eq_true rfl) ⟨Nat.le_refl _, Nat.le_refl _⟩ (fun x165 M161 J162  hI163 h164 => ?_)
                  obtain ⟨hk166, h160⟩ := h164
                  have hK167 := hK36.tr hk166 (by decide)
                  refine q_istore C [.ref (w.2.1 + a), zi (M (a + 17) (M a 15)), zi (M (a + 18) (M a 15)), zi (((M (pf + 4 * (M (a + 17) (M a 15) : Int).toNat + 2) ((M (a + 18) (M a 15)) + 1)) - 1) - (M (pf + 4 * (M (a + 17) (M a 15) : Int).toNat + 2) (M (a + 18) (M a 15)))), zi (M (pf + 4 * (M (a + 17) (M a 15) : Int).toNat + 3) (M (a + 18) (M a 15))), zi x165] dX6_doLine_273 (n := 275) rfl rfl rfl ?_
                  exact zK.weak (J_45 x165 M161 J162 hI163 hK167 (by omega) (by omega) (h160.elim Or.inl (fun q => Or.inr ⟨by omega, q.2⟩))) (zwk_c (zwk_c (zwk_c (zwk_n (zwk_c (zwk_c zwk_e))))))
            refine q_if_eq C 221 dX6_doLine_176 (n := 179) rfl rfl (by omega) (fun h168 => ?_) (fun h168 => ?_)
            · exact zK.weak (J_28) (zwk_c (zwk_c (zwk_c (zwk_c (zwk_c (zwk_n zwk_e))))))
            · refine q_iload C dX6_doLine_179 (n := 181) rfl rfl ?_
              refine q_iconst C dX6_doLine_181 (n := 182) rfl ?_
              have J_169 : zK w p e 123 0 0 s m args below meth c 6 T Po 194 [.ref (w.2.1 + a), zi (M (a + 17) (M a 15)), zi (M (a + 18) (M a 15)), .null, zi (M (pf + 4 * (M (a + 17) (M a 15) : Int).toNat + 3) (M (a + 18) (M a 15))), .null] [] (T, M16, J, R) := by
                refine q_aload_n C dX6_doLine_194 (n := 195) rfl rfl ?_
                refine q_iload C dX6_doLine_195 (n := 197) rfl rfl ?_
                refine q_aload_n C dX6_doLine_197 (n := 198) rfl rfl ?_
                refine q_iload_n C dX6_doLine_198 (n := 199) rfl rfl ?_
                refine q_iload_n C dX6_doLine_199 (n := 200) rfl rfl ?_
                refine q_callVp C dX6_doLine_200 (n := 203) rfl m_X6_176 v_yX6_hashLook h0.1 ⟨by decide, rfl⟩ (c_X6_hashLook (w := w) (J := J) hI18 hF h0 (M (a + 17) (M a 15)) (M (a + 18) (M a 15)) (by assumption) (by assumption) (by assumption) (by omega) (by omega)) (Nat.le_of_ble_eq_true rfl) rfl rfl (Nat.le_of_ble_eq_true rfl) ⟨Nat.le_refl _, Nat.le_refl _⟩ (fun x171 h172 => ?_)
                refine q_callVv C dX6_doLine_203 (n := 206) rfl m_X6_191 v_yX6_skipLine h0.1 ⟨by decide, rfl⟩ (c_X6_skipLine (w := w) (J := J) hI18 hF h0 (M (pf + 4 * (M (a + 17) (M a 15) : Int).toNat + 3) (M (a + 18) (M a 15))) x171 (by omega) (by omega)) (Nat.le_of_ble_eq_true rfl) rfl rfl (Nat.le_of_ble_eq_true rfl) ⟨Nat.le_refl _, Nat.le_refl _⟩ (fun M173 J174  hI175 h176 => ?_)
                have hK178 := hK19.tr h176 (by decide)
                refine q_aload_n C dX6_doLine_206 (n := 207) rfl rfl ?_
                refine q_getR C dX6_doLine_207 (n := 210) rfl f_X6_46 h0.1 (hF _ _ _ h0.2.2.2.2.2.2.2.2.2.2.2.2.2.2.2.2.2.2.2.2.2.2.2.2.2.2.2.2.2.2.1) ?_
                refine q_aload_n C dX6_doLine_210 (n := 211) rfl rfl ?_
                refine q_getI C dX6_doLine_211 (n := 214) rfl f_X6_52 h0.1 (v := M a 15) ((h176 _ _ (zle_t h0.2.2.2.2.2.2.2.2.2.2.2.2.2.2.2.2.2.2.2.2.2.2.2.2.2.2.2.2.2.2.2.2.2.2.2.2.1 (by decide))).trans (zup_n e17 (by omega))) ?_
                refine q_dup2 C dX6_doLine_214 (n := 215) rfl ⟨rfl, rfl⟩ ?_
                refine q_iald C dX6_doLine_215 (n := 216) rfl h0.2.2.2.2.2.2.2.2.2.2.2.2.2.2.2.2.2.2.2.2.2.2.2.2.2.2.2.2.2.2.2.1 (by omega) (v := M (a + 18) (M a 15)) ((h176 _ _ (zle_t (h0.2.2.2.2.2.2.2.2.2.2.2.2.2.2.2.2.2.2.2.2.2.2.2.2.2.2.2.2.2.2.2.2.1 (M a 15)) (by decide))).trans (zup_p e17 (by omega) _)) ?_
                refine q_iconst C dX6_doLine_216 (n := 217) rfl ?_
                refine q_iadd C dX6_doLine_217 (n := 218) rfl (v := (M (a + 18) (M a 15)) + 1) rfl ?_
                refine q_iast C dX6_doLine_218 (n := 219) rfl h0.2.2.2.2.2.2.2.2.2.2.2.2.2.2.2.2.2.2.2.2.2.2.2.2.2.2.2.2.2.2.2.1 (by omega)  (fun M179 e180 => ?_)
                have hI181 : zI G M179 := hI175.put e180 (h0.2.2.2.2.2.2.2.2.2.2.2.2.2.2.2.2.2.2.2.2.2.2.2.2.2.2.2.2.2.2.2.2.1 (M a 15)) rfl (by omega)
                have hK182 := hK178.put e180 (h0.2.2.2.2.2.2.2.2.2.2.2.2.2.2.2.2.2.2.2.2.2.2.2.2.2.2.2.2.2.2.2.2.1 (M a 15)) (by decide)
                refine q_iconst C dX6_doLine_219 (n := 220) rfl ?_
                exact q_zret C dX6_doLine_220 ⟨rfl, rfl⟩ (by omega) (by rw [hPo]; exact ⟨1, M179, J174, R, rfl, rfl, hI181, hK182, by omega, (p3.pop (by have hz : M179 a 15 = M a 15 := ((zup_p e180 (by omega) _).trans ((h176 _ _ (zle_t h0.2.2.2.2.2.2.2.2.2.2.2.2.2.2.2.2.2.2.2.2.2.2.2.2.2.2.2.2.2.2.2.2.2.2.2.2.1 (by decide))).trans (zup_n e17 (by omega)))); omega) (fun j q => by have hz : M179 a 15 = M a 15 := ((zup_p e180 (by omega) _).trans ((h176 _ _ (zle_t h0.2.2.2.2.2.2.2.2.2.2.2.2.2.2.2.2.2.2.2.2.2.2.2.2.2.2.2.2.2.2.2.2.2.2.2.2.1 (by decide))).trans (zup_n e17 (by omega)))); exact ((zup_n e180 (by omega)).trans ((h176 _ _ (zle_t (h0.2.2.2.2.2.2.2.2.2.2.2.2.2.2.2.2.2.2.2.2.2.2.2.2.2.2.2.2.2.2.2.2.1 j) (by decide))).trans (zup_p e17 (by omega) _))))), (Or.inl rfl)⟩)
              refine q_icmp_lt C 194 dX6_doLine_182 (n := 185) rfl rfl (by omega) (fun h183 => ?_) (fun h183 => ?_)
              · exact zK.weak (J_169) (zwk_c (zwk_c (zwk_c (zwk_n (zwk_c (zwk_n zwk_e))))))
              · refine q_aload_n C dX6_doLine_185 (n := 186) rfl rfl ?_
                refine q_bipush C dX6_doLine_186 (n := 188) rfl (x := 8) (by decide) ?_
                refine q_callVp C dX6_doLine_188 (n := 191) rfl m_X6_188 v_yX6_topHas h0.1 ⟨by decide, rfl⟩ (c_X6_topHas (w := w) (J := J) hI18 hF h0 8 (by have hz : M16 a 15 = M a 15 := (zup_n e17 (by omega)); omega) (by omega)) (Nat.le_of_ble_eq_true rfl) rfl rfl (Nat.le_of_ble_eq_true rfl) ⟨Nat.le_refl _, Nat.le_refl _⟩ (fun x186 h187 => ?_)
                obtain ⟨h184, h185⟩ := h187
                have hz188 : M16 a 18 = M a 18 := (zup_n e17 (by omega))
                refine q_if_ne C 221 dX6_doLine_191 (n := 194) rfl rfl (by omega) (fun h189 => ?_) (fun h189 => ?_)
                · exact zK.weak (J_28) (zwk_c (zwk_c (zwk_c (zwk_c (zwk_c (zwk_n zwk_e))))))
                · exact zK.weak (J_169) (zwk_c (zwk_c (zwk_c (zwk_n (zwk_c (zwk_n zwk_e))))))
          · refine q_aload_n C dX6_doLine_155 (n := 156) rfl rfl ?_
            refine q_getR C dX6_doLine_156 (n := 159) rfl f_X6_12 h0.1 (hF _ _ _ h0.2.2.2.1) ?_
            refine q_bipush C dX6_doLine_159 (n := 161) rfl (x := 10) (by decide) ?_
            refine q_aload_n C dX6_doLine_161 (n := 162) rfl rfl ?_
            refine q_iload_n C dX6_doLine_162 (n := 163) rfl rfl ?_
            refine q_iload_n C dX6_doLine_163 (n := 164) rfl rfl ?_
            refine q_callVp C dX6_doLine_164 (n := 167) rfl m_X6_176 v_yX6_hashLook h0.1 ⟨by decide, rfl⟩ (c_X6_hashLook (w := w) (J := J) hI18 hF h0 (M (a + 17) (M a 15)) (M (a + 18) (M a 15)) (by assumption) (by assumption) (by assumption) (by omega) (by omega)) (Nat.le_of_ble_eq_true rfl) rfl rfl (Nat.le_of_ble_eq_true rfl) ⟨Nat.le_refl _, Nat.le_refl _⟩ (fun x191 h192 => ?_)
            refine q_callVv C dX6_doLine_167 (n := 170) rfl m_X6_180 v_yX1_meet h0.2.2.2.2.1.1 ⟨by decide, rfl⟩ (c_X1_meet (w := w) (J := J) hI18 hF h0.2.2.2.2.1 10 x191 (by omega) (by omega)) (Nat.le_of_ble_eq_true rfl) rfl rfl (Nat.le_of_ble_eq_true rfl) ⟨Nat.le_refl _, Nat.le_refl _⟩ (fun M193 J194  hI195 h196 => ?_)
            have hK198 := hK19.tr h196 (by decide)
            refine q_iconst C dX6_doLine_170 (n := 171) rfl ?_
            exact q_zret C dX6_doLine_171 ⟨rfl, rfl⟩ (by omega) (by rw [hPo]; exact ⟨0, M193, J194, R, rfl, rfl, hI195, hK198, by omega, (p3.pop (by have hz : M193 a 15 = M a 15 := ((h196 _ _ (zle_t h0.2.2.2.2.2.2.2.2.2.2.2.2.2.2.2.2.2.2.2.2.2.2.2.2.2.2.2.2.2.2.2.2.2.2.2.2.1 (by decide))).trans (zup_n e17 (by omega))); omega) (fun j q => by have hz : M193 a 15 = M a 15 := ((h196 _ _ (zle_t h0.2.2.2.2.2.2.2.2.2.2.2.2.2.2.2.2.2.2.2.2.2.2.2.2.2.2.2.2.2.2.2.2.2.2.2.2.1 (by decide))).trans (zup_n e17 (by omega))); exact ((h196 _ _ (zle_t (h0.2.2.2.2.2.2.2.2.2.2.2.2.2.2.2.2.2.2.2.2.2.2.2.2.2.2.2.2.2.2.2.2.1 j) (by decide))).trans (zup_p e17 (by omega) _)))), (Or.inl rfl)⟩)
        · refine q_aload_n C dX6_doLine_68 (n := 69) rfl rfl ?_
          refine q_callVv C dX6_doLine_69 (n := 72) rfl m_X6_159 v_yX6_leaveFile h0.1 ⟨by decide, rfl⟩ (c_X6_leaveFile (w := w) (J := J) hI hF h0 (by omega) (by omega)) (Nat.le_of_ble_eq_true rfl) rfl rfl (Nat.le_of_ble_eq_true rfl) ⟨Nat.le_refl _, Nat.le_refl _⟩ (fun M200 J201  hI202 h203 => ?_)
          obtain ⟨hk204, h199⟩ := h203
          have hK205 := hK0.tr hk204 (by decide)
          refine q_aload_n C dX6_doLine_72 (n := 73) rfl rfl ?_
          have g206 := zI.at hI202 h0.2.2.2.2.2.2.2.2.2.2.2.2.2.2.2.2.2.2.2.2.2.2.2.2.2.2.2.2.2.2.2.2.2.2.2.2.1
          refine q_getI C dX6_doLine_73 (n := 76) rfl f_X6_52 h0.1 (v := M200 a 15) rfl ?_
          refine q_if_lt C 93 dX6_doLine_76 (n := 79) rfl rfl (by omega) (fun h207 => ?_) (fun h207 => ?_)
          · refine q_iconst C dX6_doLine_93 (n := 94) rfl ?_
            exact q_zret C dX6_doLine_94 ⟨rfl, rfl⟩ (by omega) (by rw [hPo]; exact ⟨0, M200, J201, R, rfl, rfl, hI202, hK205, by omega, h199, (Or.inl rfl)⟩)
          · refine q_aload_n C dX6_doLine_79 (n := 80) rfl rfl ?_
            refine q_getR C dX6_doLine_80 (n := 83) rfl f_X6_12 h0.1 (hF _ _ _ h0.2.2.2.1) ?_
            have g208 := zI.at hI202 h0.2.2.2.2.1.2.1
            refine q_getI C dX6_doLine_83 (n := 86) rfl f_X6_155 h0.2.2.2.2.1.1 (v := M200 (a + 1) 0) rfl ?_
            refine q_if_ne C 93 dX6_doLine_86 (n := 89) rfl rfl (by omega) (fun h209 => ?_) (fun h209 => ?_)
            · refine q_iconst C dX6_doLine_93 (n := 94) rfl ?_
              exact q_zret C dX6_doLine_94 ⟨rfl, rfl⟩ (by omega) (by rw [hPo]; exact ⟨0, M200, J201, R, rfl, rfl, hI202, hK205, by omega, h199, (Or.inl rfl)⟩)
            · refine q_iconst C dX6_doLine_89 (n := 90) rfl ?_
              refine q_goto C 94 dX6_doLine_90 rfl ?_
              exact q_zret C dX6_doLine_94 ⟨rfl, rfl⟩ (by omega) (by rw [hPo]; exact ⟨1, M200, J201, R, rfl, rfl, hI202, hK205, by omega, h199, (Or.inl rfl)⟩)
      · refine q_iconst C dX6_doLine_33 (n := 34) rfl ?_
        exact q_zret C dX6_doLine_34 ⟨rfl, rfl⟩ (by omega) (by rw [hPo]; exact ⟨0, M, J, R, rfl, rfl, hI, hK0, by omega, p3, (Or.inl rfl)⟩)
