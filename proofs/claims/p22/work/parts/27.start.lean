theorem c_X6_start {w : zWp} {T : zTl} {M : zMm} {J : zJm} {R : zRm'} {G : zGt} {F : zRm'} {a L so : Nat} (hI : zI G M) (hF : zF F R) (h0 : zRunner T F G a L) (h_src : zSource T F G so) (v2 : Int) (v3 : Int) (p1 : L ≤ 1000000) (p2 : 10000 ≤ L) (p3 : 0 ≤ v2 ∧ v2 ≤ 3) (p4 : -2147483648 ≤ v3 ∧ v3 ≤ 2147483647) : zCt w 3 0 0 yX6_start cX6_start 6 none [.ref (w.2.1 + a), .ref (w.2.1 + so), zi v2, zi v3] (T, M, J, R) (zPv T (zup (zup R a 11 (some (so + 1))) (a + 39) 7 (some (a + 6))) G (fun M2 => (zKp G 15 M M2) ∧ (zLn M2 a))) := by
  refine zCt.of rfl (Nat.le_of_ble_eq_true rfl) ?_
  intro p e s m args below meth c C
  obtain ⟨Po, hPo⟩ : ∃ Po, Po = zPv T (zup (zup R a 11 (some (so + 1))) (a + 39) 7 (some (a + 6))) G (fun M2 => (zKp G 15 M M2) ∧ (zLn M2 a)) := ⟨_, rfl⟩
  rw [← hPo]
  have hK0 : zKp G 15 M M := zKp.rf
  show zK w p e 3 0 0 s m args below meth c 6 T Po 0 [.ref (w.2.1 + a), .ref (w.2.1 + so), zi v2, zi v3, .null, .null] [] (T, M, J, R)
  refine q_aload_n C dX6_start_0 (n := 1) rfl rfl ?_
  refine q_getR C dX6_start_1 (n := 4) rfl f_X6_12 h0.1 (hF _ _ _ h0.2.2.2.1) ?_
  refine q_callVv C dX6_start_4 (n := 7) rfl m_X6_100 v_yX1_clear h0.2.2.2.2.1.1 ⟨by decide, rfl⟩ (c_X1_clear (w := w) (J := J) hI hF h0.2.2.2.2.1) (Nat.le_of_ble_eq_true rfl) rfl rfl (Nat.le_of_ble_eq_true rfl) ⟨Nat.le_refl _, Nat.le_refl _⟩ (fun M1 J2  hI3 h4 => ?_)
  have hK6 := hK0.tr h4 (by decide)
  refine q_aload_n C dX6_start_7 (n := 8) rfl rfl ?_
  refine q_getR C dX6_start_8 (n := 11) rfl f_X6_23 h0.1 (hF _ _ _ h0.2.2.2.2.2.2.2.1) ?_
  refine q_iconst C dX6_start_11 (n := 12) rfl ?_
  refine q_putI C dX6_start_12 (n := 15) rfl f_X6_103 h0.2.2.2.2.2.2.2.2.1.1 ⟨rfl, rfl⟩ (fun M7 (e8 : M7 = zup M1 (a + 2) 3 0) => ?_)
  have hI9 : zI G M7 := hI3.put e8 h0.2.2.2.2.2.2.2.2.1.2.2.2.2.2.2.2.2.2.2 rfl (by omega)
  have hK10 := hK6.put e8 h0.2.2.2.2.2.2.2.2.1.2.2.2.2.2.2.2.2.2.2 (by decide)
  refine q_aload_n C dX6_start_15 (n := 16) rfl rfl ?_
  refine q_getR C dX6_start_16 (n := 19) rfl f_X6_71 h0.1 (hF _ _ _ h0.2.1) ?_
  refine q_sipush C dX6_start_19 (n := 22) rfl (x := 2576) (by decide) ?_
  refine q_putI C dX6_start_22 (n := 25) rfl f_X6_106 h0.2.2.1.1 ⟨rfl, rfl⟩ (fun M11 (e12 : M11 = zup M7 (a + 22) 1 2576) => ?_)
  have hI13 : zI G M11 := hI9.put e12 h0.2.2.1.2.2.2.2 rfl (by omega)
  have hK14 := hK10.put e12 h0.2.2.1.2.2.2.2 (by decide)
  refine q_aload_n C dX6_start_25 (n := 26) rfl rfl ?_
  refine q_getR C dX6_start_26 (n := 29) rfl f_X6_27 h0.1 (hF _ _ _ h0.2.2.2.2.2.2.2.2.2.1) ?_
  refine q_iconst C dX6_start_29 (n := 30) rfl ?_
  refine q_callSv C dX6_start_30 (n := 33) rfl m_X6_109 s_yJ7_fill_53178 (c_J7_fill (w := w) (J := J2) hI13 hF h0.2.2.2.2.2.2.2.2.2.2.1 h0.2.2.2.2.2.2.2.2.2.2.2.1 0 (by omega) (by omega)) (Nat.le_of_ble_eq_true rfl) rfl rfl (Nat.le_of_ble_eq_true rfl) ⟨Nat.le_refl _, Nat.le_refl _⟩ (fun M15 J16  hI17 h18 => ?_)
  have hK20 := hK14.tr h18 (by decide)
  refine q_aload_n C dX6_start_33 (n := 34) rfl rfl ?_
  refine q_getR C dX6_start_34 (n := 37) rfl f_X6_31 h0.1 (hF _ _ _ h0.2.2.2.2.2.2.2.2.2.2.2.2.1) ?_
  refine q_iconst C dX6_start_37 (n := 38) rfl ?_
  refine q_callSv C dX6_start_38 (n := 41) rfl m_X6_109 s_yJ7_fill_53178 (c_J7_fill (w := w) (J := J16) hI17 hF h0.2.2.2.2.2.2.2.2.2.2.2.2.2.1 h0.2.2.2.2.2.2.2.2.2.2.2.2.2.2.1 0 (by omega) (by omega)) (Nat.le_of_ble_eq_true rfl) rfl rfl (Nat.le_of_ble_eq_true rfl) ⟨Nat.le_refl _, Nat.le_refl _⟩ (fun M21 J22  hI23 h24 => ?_)
  have hK26 := hK20.tr h24 (by decide)
  refine q_aload_n C dX6_start_41 (n := 42) rfl rfl ?_
  refine q_aload_n C dX6_start_42 (n := 43) rfl rfl ?_
  refine q_getR C dX6_start_43 (n := 46) rfl f_X6_115 h_src.1 (hF _ _ _ h_src.2.1) ?_
  refine q_putR C dX6_start_46 (n := 49) rfl f_X6_121 h0.1 rfl ⟨rfl, rfl⟩ (fun R27 (e28 : R27 = zup R a 11 (some (so + 1))) => ?_)
  have hF := hF.put e28 h0.2.2.2.2.2.2.2.2.2.2.2.2.2.2.2.2.2.2.2.2.2.2.2.2.2.2.1
  have hpg : R27 a 11 = some (so + 1) := zup_s e28
  refine q_iconst C dX6_start_49 (n := 50) rfl ?_
  refine q_istore C [.ref (w.2.1 + a), .ref (w.2.1 + so), zi v2, zi v3, zi 0, .null] dX6_start_50 (n := 52) rfl rfl rfl ?_
  have L_36 : ∀ n37 : Nat, ∀ (u29 : Int) (M30 : zMm) (J31 : zJm), zI G M30 → zKp G 15 M M30 → (-2147483648 ≤ u29 ∧ u29 ≤ 2147483647) → (0 ≤ u29 ∧ u29 ≤ 4) → (4 - u29 + 1 ≤ (n37 : Int)) → zK w p e 3 0 0 s m args below meth c 6 T Po 52 [.ref (w.2.1 + a), .ref (w.2.1 + so), zi v2, zi v3, zi u29, .null] [] (T, M30, J31, R27) := by
    intro n37
    induction n37 with
    | zero =>
      intro u29 M30 J31 hI32 hK33 h34 h35 hm39
      exfalso
      omega
    | succ n37 ih38 =>
      intro u29 M30 J31 hI32 hK33 h34 h35 hm39
      refine q_iload C dX6_start_52 (n := 54) rfl rfl ?_
      refine q_iconst C dX6_start_54 (n := 55) rfl ?_
      refine q_icmp_ge C 94 dX6_start_55 (n := 58) rfl rfl (by omega) (fun h40 => ?_) (fun h40 => ?_)
      · refine q_aload_n C dX6_start_94 (n := 95) rfl rfl ?_
        refine q_getR C dX6_start_95 (n := 98) rfl f_X6_80 h0.1 (hF _ _ _ h0.2.2.2.2.2.1) ?_
        refine q_iconst C dX6_start_98 (n := 99) rfl ?_
        refine q_putI C dX6_start_99 (n := 102) rfl f_X6_136 h0.2.2.2.2.2.2.1.1 ⟨rfl, rfl⟩ (fun M41 (e42 : M41 = zup M30 (a + 24) 0 0) => ?_)
        have hI43 : zI G M41 := hI32.put e42 h0.2.2.2.2.2.2.1.2.1 rfl (by omega)
        have hK44 := hK33.put e42 h0.2.2.2.2.2.2.1.2.1 (by decide)
        refine q_iconst C dX6_start_102 (n := 103) rfl ?_
        refine q_istore C [.ref (w.2.1 + a), .ref (w.2.1 + so), zi v2, zi v3, zi 0, .null] dX6_start_103 (n := 105) rfl rfl rfl ?_
        have L_52 : ∀ n53 : Nat, ∀ (u45 : Int) (M46 : zMm) (J47 : zJm), zI G M46 → zKp G 15 M M46 → (-2147483648 ≤ u45 ∧ u45 ≤ 2147483647) → (0 ≤ u45 ∧ u45 ≤ 3) → (3 - u45 + 1 ≤ (n53 : Int)) → zK w p e 3 0 0 s m args below meth c 6 T Po 105 [.ref (w.2.1 + a), .ref (w.2.1 + so), zi v2, zi v3, zi u45, .null] [] (T, M46, J47, R27) := by
          intro n53
          induction n53 with
          | zero =>
            intro u45 M46 J47 hI48 hK49 h50 h51 hm55
            exfalso
            omega
          | succ n53 ih54 =>
            intro u45 M46 J47 hI48 hK49 h50 h51 hm55
            refine q_iload C dX6_start_105 (n := 107) rfl rfl ?_
            refine q_aload_n C dX6_start_107 (n := 108) rfl rfl ?_
            have g56 := zI.at hI h_src.2.2.2.2.2.2.2.2.2.2.1
            refine q_getI C dX6_start_108 (n := 111) rfl f_X6_137 h_src.1 (v := M so 3) (hK49 _ _ (zle_t h_src.2.2.2.2.2.2.2.2.2.2.1 (by decide))) ?_
            have J_57 : zK w p e 3 0 0 s m args below meth c 6 T Po 189 [.ref (w.2.1 + a), .null, zi v2, .null, .null, .null] [] (T, M46, J47, R27) := by
              refine q_aload_n C dX6_start_189 (n := 190) rfl rfl ?_
              refine q_getR C dX6_start_190 (n := 193) rfl f_X6_89 h0.1 (hF _ _ _ h0.2.2.2.2.2.2.2.2.2.2.2.2.2.2.2.2.2.2.1) ?_
              refine q_aload_n C dX6_start_193 (n := 194) rfl rfl ?_
              refine q_getR C dX6_start_194 (n := 197) rfl f_X6_27 h0.1 (hF _ _ _ h0.2.2.2.2.2.2.2.2.2.1) ?_
              refine q_iconst C dX6_start_197 (n := 198) rfl ?_
              refine q_callVvR C dX6_start_198 (n := 201) rfl m_X6_151 v_yX0_tallyInto h0.2.2.2.2.2.2.2.2.2.2.2.2.2.2.2.2.2.2.2.1.1 ⟨by decide, rfl⟩ (c_X0_tallyInto (w := w) (J := J47) hI48 hF h0.2.2.2.2.2.2.2.2.2.2.2.2.2.2.2.2.2.2.2.1 h0.2.2.2.2.2.2.2.2.2.2.1 h0.2.2.2.2.2.2.2.2.2.2.2.1 1 (by omega)) (Nat.le_of_ble_eq_true rfl) rfl rfl (Nat.le_of_ble_eq_true rfl) ⟨Nat.le_refl _, Nat.le_refl _⟩ (fun M58 J59  hI60 h61 => ?_)
              have hK63 := hK49.tr h61 (by decide)
              obtain ⟨R64, e65⟩ : ∃ q, q = zup R27 (a + 39) 7 (some (a + 6)) := ⟨_, rfl⟩
              rw [← e65]
              have hF := hF.put e65 h0.2.2.2.2.2.2.2.2.2.2.2.2.2.2.2.2.2.2.2.1.2.2.2.2.2.2.2.2.2.2.2.2.2.2.2.2.1
              refine q_aload_n C dX6_start_201 (n := 202) rfl rfl ?_
              refine q_iconst C dX6_start_202 (n := 203) rfl ?_
              refine q_putI C dX6_start_203 (n := 206) rfl f_X6_62 h0.1 ⟨rfl, rfl⟩ (fun M66 (e67 : M66 = zup M58 a 18 0) => ?_)
              have hI68 : zI G M66 := hI60.put e67 h0.2.2.2.2.2.2.2.2.2.2.2.2.2.2.2.2.2.2.2.2.2.2.2.2.2.2.2.2.2.2.2.2.2.2.2.2.2.2.2.2.2.2.2.1 rfl (by omega)
              have hK69 := hK63.put e67 h0.2.2.2.2.2.2.2.2.2.2.2.2.2.2.2.2.2.2.2.2.2.2.2.2.2.2.2.2.2.2.2.2.2.2.2.2.2.2.2.2.2.2.2.1 (by decide)
              refine q_aload_n C dX6_start_206 (n := 207) rfl rfl ?_
              refine q_iconst C dX6_start_207 (n := 208) rfl ?_
              refine q_putI C dX6_start_208 (n := 211) rfl f_X6_52 h0.1 ⟨rfl, rfl⟩ (fun M70 (e71 : M70 = zup M66 a 15 0) => ?_)
              have hI72 : zI G M70 := hI68.put e71 h0.2.2.2.2.2.2.2.2.2.2.2.2.2.2.2.2.2.2.2.2.2.2.2.2.2.2.2.2.2.2.2.2.2.2.2.2.1 rfl (by omega)
              have hK73 := hK69.put e71 h0.2.2.2.2.2.2.2.2.2.2.2.2.2.2.2.2.2.2.2.2.2.2.2.2.2.2.2.2.2.2.2.2.2.2.2.2.1 (by decide)
              refine q_aload_n C dX6_start_211 (n := 212) rfl rfl ?_
              refine q_getR C dX6_start_212 (n := 215) rfl f_X6_43 h0.1 (hF _ _ _ h0.2.2.2.2.2.2.2.2.2.2.2.2.2.2.2.2.2.2.2.2.2.2.2.2.2.2.2.1) ?_
              refine q_iconst C dX6_start_215 (n := 216) rfl ?_
              refine q_iload_n C dX6_start_216 (n := 217) rfl rfl ?_
              refine q_iast C dX6_start_217 (n := 218) rfl h0.2.2.2.2.2.2.2.2.2.2.2.2.2.2.2.2.2.2.2.2.2.2.2.2.2.2.2.2.1 (by omega)  (fun M74 e75 => ?_)
              have hI76 : zI G M74 := hI72.put e75 (h0.2.2.2.2.2.2.2.2.2.2.2.2.2.2.2.2.2.2.2.2.2.2.2.2.2.2.2.2.2.1 0) rfl (by omega)
              have hK77 := hK73.put e75 (h0.2.2.2.2.2.2.2.2.2.2.2.2.2.2.2.2.2.2.2.2.2.2.2.2.2.2.2.2.2.1 0) (by decide)
              refine q_aload_n C dX6_start_218 (n := 219) rfl rfl ?_
              refine q_getR C dX6_start_219 (n := 222) rfl f_X6_46 h0.1 (hF _ _ _ h0.2.2.2.2.2.2.2.2.2.2.2.2.2.2.2.2.2.2.2.2.2.2.2.2.2.2.2.2.2.2.1) ?_
              refine q_iconst C dX6_start_222 (n := 223) rfl ?_
              refine q_iconst C dX6_start_223 (n := 224) rfl ?_
              refine q_iast C dX6_start_224 (n := 225) rfl h0.2.2.2.2.2.2.2.2.2.2.2.2.2.2.2.2.2.2.2.2.2.2.2.2.2.2.2.2.2.2.2.1 (by omega)  (fun M78 e79 => ?_)
              have hI80 : zI G M78 := hI76.put e79 (h0.2.2.2.2.2.2.2.2.2.2.2.2.2.2.2.2.2.2.2.2.2.2.2.2.2.2.2.2.2.2.2.2.1 0) rfl (by omega)
              have hK81 := hK77.put e79 (h0.2.2.2.2.2.2.2.2.2.2.2.2.2.2.2.2.2.2.2.2.2.2.2.2.2.2.2.2.2.2.2.2.1 0) (by decide)
              refine q_aload_n C dX6_start_225 (n := 226) rfl rfl ?_
              refine q_getR C dX6_start_226 (n := 229) rfl f_X6_49 h0.1 (hF _ _ _ h0.2.2.2.2.2.2.2.2.2.2.2.2.2.2.2.2.2.2.2.2.2.2.2.2.2.2.2.2.2.2.2.2.2.1) ?_
              refine q_iconst C dX6_start_229 (n := 230) rfl ?_
              refine q_iconst C dX6_start_230 (n := 231) rfl ?_
              refine q_iast C dX6_start_231 (n := 232) rfl h0.2.2.2.2.2.2.2.2.2.2.2.2.2.2.2.2.2.2.2.2.2.2.2.2.2.2.2.2.2.2.2.2.2.2.1 (by omega)  (fun M82 e83 => ?_)
              have hI84 : zI G M82 := hI80.put e83 (h0.2.2.2.2.2.2.2.2.2.2.2.2.2.2.2.2.2.2.2.2.2.2.2.2.2.2.2.2.2.2.2.2.2.2.2.1 0) rfl (by omega)
              have hK85 := hK81.put e83 (h0.2.2.2.2.2.2.2.2.2.2.2.2.2.2.2.2.2.2.2.2.2.2.2.2.2.2.2.2.2.2.2.2.2.2.2.1 0) (by decide)
              subst e65 e28
              exact q_vret C dX6_start_232 ⟨rfl, rfl⟩ (by rw [hPo]; exact ⟨M82, J59, rfl, rfl, hI84, hK85, (fun j j0 j1 => by have hz : M82 a 15 = 0 := ((zup_p e83 (by omega) _).trans ((zup_p e79 (by omega) _).trans ((zup_p e75 (by omega) _).trans (zup_s e71)))); omega)⟩)
            refine q_icmp_ge C 189 dX6_start_111 (n := 114) rfl rfl (by omega) (fun h86 => ?_) (fun h86 => ?_)
            · exact zK.weak (J_57) (zwk_c (zwk_n (zwk_c (zwk_n (zwk_n (zwk_n zwk_e))))))
            · refine q_iload C dX6_start_114 (n := 116) rfl rfl ?_
              refine q_iconst C dX6_start_116 (n := 117) rfl ?_
              refine q_icmp_ge C 189 dX6_start_117 (n := 120) rfl rfl (by omega) (fun h87 => ?_) (fun h87 => ?_)
              · exact zK.weak (J_57) (zwk_c (zwk_n (zwk_c (zwk_n (zwk_n (zwk_n zwk_e))))))
              · refine q_sipush C dX6_start_120 (n := 123) rfl (x := 1604) (by decide) ?_
                refine q_iload C dX6_start_123 (n := 125) rfl rfl ?_
                refine q_bipush C dX6_start_125 (n := 127) rfl (x := 30) (by decide) ?_
                refine q_imul C dX6_start_127 (n := 128) rfl (v := u45 * 30) rfl ?_
                refine q_iadd C dX6_start_128 (n := 129) rfl (v := 1604 + (u45 * 30)) rfl ?_
                refine q_istore C [.ref (w.2.1 + a), .ref (w.2.1 + so), zi v2, zi v3, zi u45, zi (1604 + (u45 * 30))] dX6_start_129 (n := 131) rfl rfl rfl ?_
                refine q_aload_n C dX6_start_131 (n := 132) rfl rfl ?_
                refine q_getR C dX6_start_132 (n := 135) rfl f_X6_140 h_src.1 (hF _ _ _ h_src.2.2.2.2.1) ?_
                refine q_iload C dX6_start_135 (n := 137) rfl rfl ?_
                refine q_aald7 C dX6_start_137 (n := 138) rfl h_src.2.2.2.2.2.1 (by omega) (hF _ _ _ (h_src.2.2.2.2.2.2.1 u45 (by omega) (by omega)).1) ?_
                refine q_iconst C dX6_start_138 (n := 139) rfl ?_
                refine q_aload_n C dX6_start_139 (n := 140) rfl rfl ?_
                refine q_getR C dX6_start_140 (n := 143) rfl f_X6_71 h0.1 (hF _ _ _ h0.2.1) ?_
                refine q_getR C dX6_start_143 (n := 146) rfl f_X6_127 h0.2.2.1.1 (hF _ _ _ h0.2.2.1.2.1) ?_
                refine q_iload C dX6_start_146 (n := 148) rfl rfl ?_
                refine q_bipush C dX6_start_148 (n := 150) rfl (x := 30) (by decide) ?_
                refine q_copyB C dX6_start_150 (n := 153) rfl x_X6_130 (h_src.2.2.2.2.2.2.1 u45 (by omega) (by omega)).2.1 h0.2.2.1.2.2.1 (by omega) (fun j => by have := zI.at hI48 ((h_src.2.2.2.2.2.2.1 u45 (by omega) (by omega)).2.2 j); omega) (Nat.le_of_ble_eq_true rfl) (Nat.le_of_ble_eq_true rfl) (fun M88 e89 => ?_)
                have hI90 : zI G M88 := hI48.cp e89 (h_src.2.2.2.2.2.2.1 u45 (by omega) (by omega)).2.2 h0.2.2.1.2.2.2.1 rfl (by omega)
                have hK91 := hK49.cp e89 h0.2.2.1.2.2.2.1 (by decide)
                refine q_aload_n C dX6_start_153 (n := 154) rfl rfl ?_
                refine q_getR C dX6_start_154 (n := 157) rfl f_X6_80 h0.1 (hF _ _ _ h0.2.2.2.2.2.1) ?_
                refine q_iload C dX6_start_157 (n := 159) rfl rfl ?_
                refine q_aload_n C dX6_start_159 (n := 160) rfl rfl ?_
                refine q_getR C dX6_start_160 (n := 163) rfl f_X6_144 h_src.1 (hF _ _ _ h_src.2.2.2.2.2.2.2.1) ?_
                refine q_iload C dX6_start_163 (n := 165) rfl rfl ?_
                have g92 := zI.at hI (h_src.2.2.2.2.2.2.2.2.2.1 u45)
                refine q_iald C dX6_start_165 (n := 166) rfl h_src.2.2.2.2.2.2.2.2.1 (by omega) (v := M (so + 6) u45) ((zcp_t e89 (h_src.2.2.2.2.2.2.2.2.2.1 u45) h0.2.2.1.2.2.2.1 (by decide)).trans (hK49 _ _ (zle_t (h_src.2.2.2.2.2.2.2.2.2.1 u45) (by decide)))) ?_
                refine q_iload_n C dX6_start_166 (n := 167) rfl rfl ?_
                refine q_iload C dX6_start_167 (n := 169) rfl rfl ?_
                refine q_ishr C dX6_start_169 (n := 170) rfl (v := zshr v3 u45) rfl ?_
                have g93 := zr_shr v3 u45
                refine q_iconst C dX6_start_170 (n := 171) rfl ?_
                refine q_iand C dX6_start_171 (n := 172) rfl (v := zand (zshr v3 u45) 1) rfl ?_
                have g94 := zand_r (x := zshr v3 u45) (k := 1) (by omega)
                have J_98 : ∀ (u95 : Int), (-2147483648 ≤ u95 ∧ u95 ≤ 2147483647) → (u95 = 0 ∨ u95 = 1) → zK w p e 3 0 0 s m args below meth c 6 T Po 180 [.ref (w.2.1 + a), .ref (w.2.1 + so), zi v2, zi v3, zi u45, .null] [zi u95, zi (M (so + 6) u45), zi (1604 + (u45 * 30)), .ref (w.2.1 + (a + 24))] (T, M88, J47, R27) := by
                  intro u95 h96 h97
                  refine q_callVv C dX6_start_180 (n := 183) rfl m_X6_147 v_yX3_addSwitch h0.2.2.2.2.2.2.1.1 ⟨by decide, rfl⟩ (c_X3_addSwitch (w := w) (J := J47) hI90 hF h0.2.2.2.2.2.2.1 (1604 + (u45 * 30)) (M (so + 6) u45) u95 (by omega) (by omega) (by omega) (by omega) (by omega)) (Nat.le_of_ble_eq_true rfl) rfl rfl (Nat.le_of_ble_eq_true rfl) ⟨Nat.le_refl _, Nat.le_refl _⟩ (fun M99 J100  hI101 h102 => ?_)
                  have hK104 := hK91.tr h102 (by decide)
                  refine q_iinc C [.ref (w.2.1 + a), .ref (w.2.1 + so), zi v2, zi v3, zi (u45 + 1), .null] dX6_start_183 (n := 186) rfl rfl rfl rfl ?_
                  refine q_goto C 105 dX6_start_186 rfl ?_
                  exact zK.weak (ih54 (u45 + 1) M99 J100 hI101 hK104 (by omega) (by omega) (by omega)) (zwk_c (zwk_c (zwk_c (zwk_c (zwk_c (zwk_n zwk_e))))))
                refine q_if_eq C 179 dX6_start_172 (n := 175) rfl rfl (by omega) (fun h105 => ?_) (fun h105 => ?_)
                · refine q_iconst C dX6_start_179 (n := 180) rfl ?_
                  exact zK.weak (J_98 0 (by omega) (by omega)) (zwk_c (zwk_c (zwk_c (zwk_c (zwk_c (zwk_n zwk_e))))))
                · refine q_iconst C dX6_start_175 (n := 176) rfl ?_
                  refine q_goto C 180 dX6_start_176 rfl ?_
                  exact zK.weak (J_98 1 (by omega) (by omega)) (zwk_c (zwk_c (zwk_c (zwk_c (zwk_c (zwk_n zwk_e))))))
        exact zK.weak (L_52 _ 0 M41 J31 hI43 hK44 (by omega) (by omega) (Int.self_le_toNat _)) (zwk_c (zwk_c (zwk_c (zwk_c (zwk_c (zwk_n zwk_e))))))
      · refine q_aload_n C dX6_start_58 (n := 59) rfl rfl ?_
        refine q_getR C dX6_start_59 (n := 62) rfl f_X6_121 h0.1 hpg ?_
        refine q_iload C dX6_start_62 (n := 64) rfl rfl ?_
        refine q_aald C dX6_start_64 (n := 65) rfl ⟨by decide, by decide⟩ h_src.2.2.1 (by omega) (hF _ _ _ (h_src.2.2.2.1 u29 (by omega) (by omega)).1) ?_
        refine q_getR C dX6_start_65 (n := 68) rfl f_X6_122 (h_src.2.2.2.1 u29 (by omega) (by omega)).2.1 (hF _ _ _ (h_src.2.2.2.1 u29 (by omega) (by omega)).2.2.1) ?_
        refine q_iconst C dX6_start_68 (n := 69) rfl ?_
        refine q_aload_n C dX6_start_69 (n := 70) rfl rfl ?_
        refine q_getR C dX6_start_70 (n := 73) rfl f_X6_71 h0.1 (hF _ _ _ h0.2.1) ?_
        refine q_getR C dX6_start_73 (n := 76) rfl f_X6_127 h0.2.2.1.1 (hF _ _ _ h0.2.2.1.2.1) ?_
        refine q_iload C dX6_start_76 (n := 78) rfl rfl ?_
        refine q_sipush C dX6_start_78 (n := 81) rfl (x := 401) (by decide) ?_
        refine q_imul C dX6_start_81 (n := 82) rfl (v := u29 * 401) rfl ?_
        refine q_sipush C dX6_start_82 (n := 85) rfl (x := 401) (by decide) ?_
        refine q_copyB C dX6_start_85 (n := 88) rfl x_X6_130 (h_src.2.2.2.1 u29 (by omega) (by omega)).2.2.2.1 h0.2.2.1.2.2.1 (by omega) (fun j => by have := zI.at hI32 ((h_src.2.2.2.1 u29 (by omega) (by omega)).2.2.2.2.1 j); omega) (Nat.le_of_ble_eq_true rfl) (Nat.le_of_ble_eq_true rfl) (fun M106 e107 => ?_)
        have hI108 : zI G M106 := hI32.cp e107 (h_src.2.2.2.1 u29 (by omega) (by omega)).2.2.2.2.1 h0.2.2.1.2.2.2.1 rfl (by omega)
        have hK109 := hK33.cp e107 h0.2.2.1.2.2.2.1 (by decide)
        refine q_iinc C [.ref (w.2.1 + a), .ref (w.2.1 + so), zi v2, zi v3, zi (u29 + 1), .null] dX6_start_88 (n := 91) rfl rfl rfl rfl ?_
        refine q_goto C 52 dX6_start_91 rfl ?_
        exact zK.weak (ih38 (u29 + 1) M106 J31 hI108 hK109 (by omega) (by omega) (by omega)) (zwk_c (zwk_c (zwk_c (zwk_c (zwk_c (zwk_n zwk_e))))))
  exact zK.weak (L_36 _ 0 M21 J22 hI23 hK26 (by omega) (by omega) (Int.self_le_toNat _)) (zwk_c (zwk_c (zwk_c (zwk_c (zwk_c (zwk_n zwk_e))))))
