theorem c_X0_doItem {w : zWp} {T : zTl} {M : zMm} {J : zJm} {R : zRm'} {G : zGt} {F : zRm'} {a t mc q L fp tl : Nat} (hI : zI G M) (hF : zF F R) (h0 : zExpander T F G a t mc q L) (h_frame : zFrame T F G fp L) (htal : R a 7 = some tl) (t_tl : T[tl]? = some (50, 10)) (g_tl : ∀ k, G tl k = (0, (-2147483648), 2147483647)) (p1 : L ≤ 1000000) : zCt w 4 0 0 yX0_doItem cX0_doItem 8 none [.ref (w.2.1 + a), .ref (w.2.1 + fp)] (T, M, J, R) (zPv T R G (fun M2 => (zKp G 11 M M2))) := by
  refine zCt.of rfl (Nat.le_of_ble_eq_true rfl) ?_
  intro p e s m args below meth c C
  obtain ⟨Po, hPo⟩ : ∃ Po, Po = zPv T R G (fun M2 => (zKp G 11 M M2)) := ⟨_, rfl⟩
  rw [← hPo]
  have hK0 : zKp G 11 M M := zKp.rf
  show zK w p e 4 0 0 s m args below meth c 8 T Po 0 [.ref (w.2.1 + a), .ref (w.2.1 + fp), .null, .null, .null, .null, .null, .null] [] (T, M, J, R)
  refine q_aload_n C dX0_doItem_0 (n := 1) rfl rfl ?_
  have g1 := zI.at hI h_frame.2.2.2.2.1
  refine q_getI C dX0_doItem_1 (n := 4) rfl f_X0_80 h_frame.1 (v := M fp 3) rfl ?_
  refine q_istore_n C [.ref (w.2.1 + a), .ref (w.2.1 + fp), zi (M fp 3), .null, .null, .null, .null, .null] dX0_doItem_4 (n := 5) rfl rfl rfl ?_
  refine q_iload_n C dX0_doItem_5 (n := 6) rfl rfl ?_
  have J_2 : zK w p e 4 0 0 s m args below meth c 8 T Po 31 [.ref (w.2.1 + a), .ref (w.2.1 + fp), .null, .null, .null, .null, .null, .null] [] (T, M, J, R) := by
    refine q_aload_n C dX0_doItem_31 (n := 32) rfl rfl ?_
    refine q_aload_n C dX0_doItem_32 (n := 33) rfl rfl ?_
    refine q_callVv C dX0_doItem_33 (n := 36) rfl m_X0_171 v_yX0_putInPlace h0.1 ⟨by decide, rfl⟩ (c_X0_putInPlace (w := w) (J := J) hI hF h0 h_frame (by assumption) (by assumption) (by assumption) (by omega)) (Nat.le_of_ble_eq_true rfl) rfl rfl (Nat.le_of_ble_eq_true rfl) ⟨Nat.le_refl _, Nat.le_refl _⟩ (fun M3 J4  hI5 h6 => ?_)
    have hK8 := hK0.tr h6 (by decide)
    exact q_vret C dX0_doItem_36 ⟨rfl, rfl⟩ (by rw [hPo]; exact ⟨M3, J4, rfl, rfl, hI5, hK8⟩)
  refine q_if_lt C 31 dX0_doItem_6 (n := 9) rfl rfl (by omega) (fun h9 => ?_) (fun h9 => ?_)
  · exact zK.weak (J_2) (zwk_c (zwk_c (zwk_n (zwk_n (zwk_n (zwk_n (zwk_n (zwk_n zwk_e))))))))
  · refine q_iload_n C dX0_doItem_9 (n := 10) rfl rfl ?_
    refine q_bipush C dX0_doItem_10 (n := 12) rfl (x := 12) (by decide) ?_
    refine q_icmp_ge C 31 dX0_doItem_12 (n := 15) rfl rfl (by omega) (fun h10 => ?_) (fun h10 => ?_)
    · exact zK.weak (J_2) (zwk_c (zwk_c (zwk_n (zwk_n (zwk_n (zwk_n (zwk_n (zwk_n zwk_e))))))))
    · refine q_aload_n C dX0_doItem_15 (n := 16) rfl rfl ?_
      have g11 := zI.at hI h_frame.2.2.2.2.2.1
      refine q_getI C dX0_doItem_16 (n := 19) rfl f_X0_165 h_frame.1 (v := M fp 4) rfl ?_
      refine q_aload_n C dX0_doItem_19 (n := 20) rfl rfl ?_
      refine q_getR C dX0_doItem_20 (n := 23) rfl f_X0_42 h0.1 (hF _ _ _ h0.2.2.2.1) ?_
      refine q_getR C dX0_doItem_23 (n := 26) rfl f_X0_168 h0.2.2.2.2.1.1 (hF _ _ _ h0.2.2.2.2.1.2.2.2.2.2.2.2.2.2.2.2.2.2.2.2.2.2.2.2.2.2.2.2.2.2.2.1) ?_
      refine q_iload_n C dX0_doItem_26 (n := 27) rfl rfl ?_
      have g12 := zI.at hI (h0.2.2.2.2.1.2.2.2.2.2.2.2.2.2.2.2.2.2.2.2.2.2.2.2.2.2.2.2.2.2.2.2.2.1 (M fp 3))
      refine q_iald C dX0_doItem_27 (n := 28) rfl h0.2.2.2.2.1.2.2.2.2.2.2.2.2.2.2.2.2.2.2.2.2.2.2.2.2.2.2.2.2.2.2.2.1 (by omega) (v := M (mc + 9) (M fp 3)) rfl ?_
      refine q_icmp_lt C 37 dX0_doItem_28 (n := 31) rfl rfl (by omega) (fun h13 => ?_) (fun h13 => ?_)
      · refine q_iload_n C dX0_doItem_37 (n := 38) rfl rfl ?_
        refine q_bipush C dX0_doItem_38 (n := 40) rfl (x := 20) (by decide) ?_
        refine q_imul C dX0_doItem_40 (n := 41) rfl (v := (M fp 3) * 20) rfl ?_
        refine q_aload_n C dX0_doItem_41 (n := 42) rfl rfl ?_
        refine q_getI C dX0_doItem_42 (n := 45) rfl f_X0_165 h_frame.1 (v := M fp 4) rfl ?_
        refine q_iadd C dX0_doItem_45 (n := 46) rfl (v := ((M fp 3) * 20) + (M fp 4)) rfl ?_
        refine q_istore_n C [.ref (w.2.1 + a), .ref (w.2.1 + fp), zi (M fp 3), zi (((M fp 3) * 20) + (M fp 4)), .null, .null, .null, .null] dX0_doItem_46 (n := 47) rfl rfl rfl ?_
        refine q_aload_n C dX0_doItem_47 (n := 48) rfl rfl ?_
        refine q_getR C dX0_doItem_48 (n := 51) rfl f_X0_42 h0.1 (hF _ _ _ h0.2.2.2.1) ?_
        refine q_getR C dX0_doItem_51 (n := 54) rfl f_X0_174 h0.2.2.2.2.1.1 (hF _ _ _ h0.2.2.2.2.1.2.2.2.2.2.2.2.2.2.2.2.2.2.2.2.2.2.2.2.2.2.2.2.2.2.2.2.2.2.1) ?_
        refine q_iload_n C dX0_doItem_54 (n := 55) rfl rfl ?_
        have g14 := zI.at hI (h0.2.2.2.2.1.2.2.2.2.2.2.2.2.2.2.2.2.2.2.2.2.2.2.2.2.2.2.2.2.2.2.2.2.2.2.2.1 (((M fp 3) * 20) + (M fp 4)))
        refine q_iald C dX0_doItem_55 (n := 56) rfl h0.2.2.2.2.1.2.2.2.2.2.2.2.2.2.2.2.2.2.2.2.2.2.2.2.2.2.2.2.2.2.2.2.2.2.2.1 (by omega) (v := M (mc + 10) (((M fp 3) * 20) + (M fp 4))) rfl ?_
        refine q_istore C [.ref (w.2.1 + a), .ref (w.2.1 + fp), zi (M fp 3), zi (((M fp 3) * 20) + (M fp 4)), zi (M (mc + 10) (((M fp 3) * 20) + (M fp 4))), .null, .null, .null] dX0_doItem_56 (n := 58) rfl rfl rfl ?_
        refine q_aload_n C dX0_doItem_58 (n := 59) rfl rfl ?_
        refine q_getR C dX0_doItem_59 (n := 62) rfl f_X0_42 h0.1 (hF _ _ _ h0.2.2.2.1) ?_
        refine q_getR C dX0_doItem_62 (n := 65) rfl f_X0_177 h0.2.2.2.2.1.1 (hF _ _ _ h0.2.2.2.2.1.2.2.2.2.2.2.2.2.2.2.2.2.2.2.2.2.2.2.2.2.2.2.2.2.2.2.2.2.2.2.2.2.2.2.2.2.2.2.1) ?_
        refine q_iload_n C dX0_doItem_65 (n := 66) rfl rfl ?_
        have g15 := zI.at hI (h0.2.2.2.2.1.2.2.2.2.2.2.2.2.2.2.2.2.2.2.2.2.2.2.2.2.2.2.2.2.2.2.2.2.2.2.2.2.2.2.2.2.2.2.2.2.1 (((M fp 3) * 20) + (M fp 4)))
        refine q_iald C dX0_doItem_66 (n := 67) rfl h0.2.2.2.2.1.2.2.2.2.2.2.2.2.2.2.2.2.2.2.2.2.2.2.2.2.2.2.2.2.2.2.2.2.2.2.2.2.2.2.2.2.2.2.2.1 (by omega) (v := M (mc + 13) (((M fp 3) * 20) + (M fp 4))) rfl ?_
        refine q_istore C [.ref (w.2.1 + a), .ref (w.2.1 + fp), zi (M fp 3), zi (((M fp 3) * 20) + (M fp 4)), zi (M (mc + 10) (((M fp 3) * 20) + (M fp 4))), zi (M (mc + 13) (((M fp 3) * 20) + (M fp 4))), .null, .null] dX0_doItem_67 (n := 69) rfl rfl rfl ?_
        refine q_aload_n C dX0_doItem_69 (n := 70) rfl rfl ?_
        refine q_iload C dX0_doItem_70 (n := 72) rfl rfl ?_
        refine q_iload C dX0_doItem_72 (n := 74) rfl rfl ?_
        refine q_callVv C dX0_doItem_74 (n := 77) rfl m_X0_180 v_yX2_beginItem h_frame.1 ⟨by decide, rfl⟩ (c_X2_beginItem (w := w) (J := J) hI hF h_frame (M (mc + 10) (((M fp 3) * 20) + (M fp 4))) (M (mc + 13) (((M fp 3) * 20) + (M fp 4))) (by omega) (by omega) (by omega)) (Nat.le_of_ble_eq_true rfl) rfl rfl (Nat.le_of_ble_eq_true rfl) ⟨Nat.le_refl _, Nat.le_refl _⟩ (fun M16 J17  hI18 h19 => ?_)
        have hK21 := hK0.tr h19 (by decide)
        refine q_iload C dX0_doItem_77 (n := 79) rfl rfl ?_
        refine q_iconst C dX0_doItem_79 (n := 80) rfl ?_
        refine q_iand C dX0_doItem_80 (n := 81) rfl (v := zand (M (mc + 10) (((M fp 3) * 20) + (M fp 4))) 1) rfl ?_
        have g22 := zand_r (x := M (mc + 10) (((M fp 3) * 20) + (M fp 4))) (k := 1) (by omega)
        refine q_if_eq C 111 dX0_doItem_81 (n := 84) rfl rfl (by omega) (fun h23 => ?_) (fun h23 => ?_)
        · refine q_aload_n C dX0_doItem_111 (n := 112) rfl rfl ?_
          refine q_getR C dX0_doItem_112 (n := 115) rfl f_X0_42 h0.1 (hF _ _ _ h0.2.2.2.1) ?_
          refine q_getR C dX0_doItem_115 (n := 118) rfl f_X0_190 h0.2.2.2.2.1.1 (hF _ _ _ h0.2.2.2.2.1.2.2.2.2.2.2.2.2.2.2.2.2.2.2.2.2.2.2.2.2.2.2.2.2.2.2.2.2.2.2.2.2.2.2.2.1) ?_
          refine q_iload_n C dX0_doItem_118 (n := 119) rfl rfl ?_
          have g24 := zI.at hI (h0.2.2.2.2.1.2.2.2.2.2.2.2.2.2.2.2.2.2.2.2.2.2.2.2.2.2.2.2.2.2.2.2.2.2.2.2.2.2.2.2.2.2.1 (((M fp 3) * 20) + (M fp 4)))
          have g25 : M (mc + 12) (((M fp 3) * 20) + (M fp 4)) + zand (M (mc + 13) (((M fp 3) * 20) + (M fp 4))) 31 ≤ (L : Int) ∧ zand (M (mc + 13) (((M fp 3) * 20) + (M fp 4))) 31 ≤ 30 := zI.row hI (h0.2.2.2.2.1.2.2.2.2.2.2.2.2.2.2.2.2.2.2.2.2.2.2.2.2.2.2.2.2.2.2.2.2.2.2.2.2.2.2.2.2.2.1 (((M fp 3) * 20) + (M fp 4)))
          refine q_iald C dX0_doItem_119 (n := 120) rfl h0.2.2.2.2.1.2.2.2.2.2.2.2.2.2.2.2.2.2.2.2.2.2.2.2.2.2.2.2.2.2.2.2.2.2.2.2.2.2.2.2.2.1 (by omega) (v := M (mc + 12) (((M fp 3) * 20) + (M fp 4))) (h19 _ _ (zle_t (h0.2.2.2.2.1.2.2.2.2.2.2.2.2.2.2.2.2.2.2.2.2.2.2.2.2.2.2.2.2.2.2.2.2.2.2.2.2.2.2.2.2.2.1 (((M fp 3) * 20) + (M fp 4))) (by decide))) ?_
          refine q_istore C [.ref (w.2.1 + a), .ref (w.2.1 + fp), zi (M fp 3), zi (((M fp 3) * 20) + (M fp 4)), zi (M (mc + 10) (((M fp 3) * 20) + (M fp 4))), zi (M (mc + 13) (((M fp 3) * 20) + (M fp 4))), zi (M (mc + 12) (((M fp 3) * 20) + (M fp 4))), .null] dX0_doItem_120 (n := 122) rfl rfl rfl ?_
          refine q_iload C dX0_doItem_122 (n := 124) rfl rfl ?_
          refine q_iconst C dX0_doItem_124 (n := 125) rfl ?_
          refine q_iand C dX0_doItem_125 (n := 126) rfl (v := zand (M (mc + 10) (((M fp 3) * 20) + (M fp 4))) 4) rfl ?_
          have g26 := zand_r (x := M (mc + 10) (((M fp 3) * 20) + (M fp 4))) (k := 4) (by omega)
          have J_36 : ∀ (u27 : Int) (u28 : Int) (M29 : zMm) (J30 : zJm), zI G M29 → zKp G 11 M M29 → (-2147483648 ≤ u27 ∧ u27 ≤ 2147483647) → (-2147483648 ≤ u28 ∧ u28 ≤ 2147483647) → (0 ≤ u28 ∧ u28 + zand u27 31 ≤ L ∧ zand u27 31 ≤ 30) → zK w p e 4 0 0 s m args below meth c 8 T Po 187 [.ref (w.2.1 + a), .ref (w.2.1 + fp), .null, .null, .null, zi u27, zi u28, .null] [] (T, M29, J30, R) := by
            intro u27 u28 M29 J30 hI31 hK32 h33 h34 h35
            refine q_iload C dX0_doItem_187 (n := 189) rfl rfl ?_
            refine q_aload_n C dX0_doItem_189 (n := 190) rfl rfl ?_
            have g37 := zI.at hI31 h_frame.2.2.2.2.2.2.2.1
            refine q_getI C dX0_doItem_190 (n := 193) rfl f_X0_199 h_frame.1 (v := M29 fp 6) rfl ?_
            refine q_callSp C dX0_doItem_193 (n := 196) rfl m_X0_208 s_yX5_from (c_X5_from (w := w) (J := J30) hI31 hF u27 (M29 fp 6)) (Nat.le_of_ble_eq_true rfl) rfl rfl (Nat.le_of_ble_eq_true rfl) ⟨Nat.le_refl _, Nat.le_refl _⟩ (fun x40 h41 => ?_)
            obtain ⟨h38, h39⟩ := h41
            refine q_istore C [.ref (w.2.1 + a), .ref (w.2.1 + fp), .null, .null, .null, zi x40, zi u28, .null] dX0_doItem_196 (n := 198) rfl rfl rfl ?_
            refine q_aload_n C dX0_doItem_198 (n := 199) rfl rfl ?_
            have g42 := zI.at hI31 h_frame.2.2.2.2.2.2.2.2.2.2.2.2.2.2.2.2.2.2.2.1
            refine q_getI C dX0_doItem_199 (n := 202) rfl f_X0_106 h_frame.1 (v := M29 fp 13) rfl ?_
            refine q_if_eq C 218 dX0_doItem_202 (n := 205) rfl rfl (by omega) (fun h43 => ?_) (fun h43 => ?_)
            · refine q_aload_n C dX0_doItem_218 (n := 219) rfl rfl ?_
              refine q_iload C dX0_doItem_219 (n := 221) rfl rfl ?_
              refine q_iload C dX0_doItem_221 (n := 223) rfl rfl ?_
              refine q_iconst C dX0_doItem_223 (n := 224) rfl ?_
              refine q_callVv C dX0_doItem_224 (n := 227) rfl m_X0_113 v_yX2_put h_frame.1 ⟨by decide, rfl⟩ (c_X2_put (w := w) (J := J30) hI31 hF h_frame u28 x40 0 (by omega) (by omega) (by omega)) (Nat.le_of_ble_eq_true rfl) rfl rfl (Nat.le_of_ble_eq_true rfl) ⟨Nat.le_refl _, Nat.le_refl _⟩ (fun M44 J45  hI46 h47 => ?_)
              have hK49 := hK32.tr h47 (by decide)
              exact q_vret C dX0_doItem_227 ⟨rfl, rfl⟩ (by rw [hPo]; exact ⟨M44, J45, rfl, rfl, hI46, hK49⟩)
            · refine q_aload_n C dX0_doItem_205 (n := 206) rfl rfl ?_
              refine q_aload_n C dX0_doItem_206 (n := 207) rfl rfl ?_
              refine q_iload C dX0_doItem_207 (n := 209) rfl rfl ?_
              refine q_iload C dX0_doItem_209 (n := 211) rfl rfl ?_
              refine q_iconst C dX0_doItem_211 (n := 212) rfl ?_
              refine q_callVv C dX0_doItem_212 (n := 215) rfl m_X0_109 v_yX0_paste h0.1 ⟨by decide, rfl⟩ (c_X0_paste (w := w) (J := J30) hI31 hF h0 h_frame u28 x40 0 (by omega) (by omega) (by omega) (by omega)) (Nat.le_of_ble_eq_true rfl) rfl rfl (Nat.le_of_ble_eq_true rfl) ⟨Nat.le_refl _, Nat.le_refl _⟩ (fun M50 J51  hI52 h53 => ?_)
              have hK55 := hK32.tr h53 (by decide)
              refine q_goto C 227 dX0_doItem_215 rfl ?_
              exact q_vret C dX0_doItem_227 ⟨rfl, rfl⟩ (by rw [hPo]; exact ⟨M50, J51, rfl, rfl, hI52, hK55⟩)
          refine q_if_eq C 187 dX0_doItem_126 (n := 129) rfl rfl (by omega) (fun h56 => ?_) (fun h56 => ?_)
          · exact zK.weak (J_36 (M (mc + 13) (((M fp 3) * 20) + (M fp 4))) (M (mc + 12) (((M fp 3) * 20) + (M fp 4))) M16 J17 hI18 hK21 (by omega) (by omega) (by omega)) (zwk_c (zwk_c (zwk_n (zwk_n (zwk_n (zwk_c (zwk_c (zwk_n zwk_e))))))))
          · refine q_aload_n C dX0_doItem_129 (n := 130) rfl rfl ?_
            refine q_getR C dX0_doItem_130 (n := 133) rfl f_X0_38 h0.1 (hF _ _ _ h0.2.1) ?_
            have g57 := zI.at hI18 h0.2.2.1.2.2.2.2
            refine q_getI C dX0_doItem_133 (n := 136) rfl f_X0_193 h0.2.2.1.1 (v := M16 t 1) rfl ?_
            refine q_istore C [.ref (w.2.1 + a), .ref (w.2.1 + fp), zi (M fp 3), zi (((M fp 3) * 20) + (M fp 4)), zi (M (mc + 10) (((M fp 3) * 20) + (M fp 4))), zi (M (mc + 13) (((M fp 3) * 20) + (M fp 4))), zi (M16 t 1), .null] dX0_doItem_136 (n := 138) rfl rfl rfl ?_
            refine q_aload_n C dX0_doItem_138 (n := 139) rfl rfl ?_
            refine q_aload_n C dX0_doItem_139 (n := 140) rfl rfl ?_
            refine q_aload_n C dX0_doItem_140 (n := 141) rfl rfl ?_
            refine q_getR C dX0_doItem_141 (n := 144) rfl f_X0_42 h0.1 (hF _ _ _ h0.2.2.2.1) ?_
            refine q_getR C dX0_doItem_144 (n := 147) rfl f_X0_183 h0.2.2.2.2.1.1 (hF _ _ _ h0.2.2.2.2.1.2.2.2.2.2.2.2.2.2.2.2.2.2.2.2.2.2.2.2.2.2.2.2.2.2.2.2.2.2.2.2.2.1) ?_
            refine q_iload_n C dX0_doItem_147 (n := 148) rfl rfl ?_
            have g58 := zI.at hI18 (h0.2.2.2.2.1.2.2.2.2.2.2.2.2.2.2.2.2.2.2.2.2.2.2.2.2.2.2.2.2.2.2.2.2.2.2.2.2.2.2.1 (((M fp 3) * 20) + (M fp 4)))
            refine q_iald C dX0_doItem_148 (n := 149) rfl h0.2.2.2.2.1.2.2.2.2.2.2.2.2.2.2.2.2.2.2.2.2.2.2.2.2.2.2.2.2.2.2.2.2.2.2.2.2.2.1 (by omega) (v := M16 (mc + 11) (((M fp 3) * 20) + (M fp 4))) rfl ?_
            refine q_callVi C dX0_doItem_149 (n := 152) rfl m_X0_196 v_yX0_makeString h0.1 ⟨by decide, rfl⟩ (c_X0_makeString (w := w) (J := J17) hI18 hF h0 h_frame (M16 (mc + 11) (((M fp 3) * 20) + (M fp 4))) (by assumption) (by assumption) (by assumption) (by omega) (by omega)) (Nat.le_of_ble_eq_true rfl) rfl rfl (Nat.le_of_ble_eq_true rfl) ⟨Nat.le_refl _, Nat.le_refl _⟩ (fun x64 M60 J61  hI62 h63 => ?_)
            obtain ⟨hk65, h59⟩ := h63
            have hK66 := hK21.tr hk65 (by decide)
            refine q_istore C [.ref (w.2.1 + a), .ref (w.2.1 + fp), zi (M fp 3), zi (((M fp 3) * 20) + (M fp 4)), zi (M (mc + 10) (((M fp 3) * 20) + (M fp 4))), zi (M (mc + 13) (((M fp 3) * 20) + (M fp 4))), zi (M16 t 1), zi x64] dX0_doItem_152 (n := 154) rfl rfl rfl ?_
            refine q_iload C dX0_doItem_154 (n := 156) rfl rfl ?_
            refine q_iconst C dX0_doItem_156 (n := 157) rfl ?_
            refine q_icmp_ne C 174 dX0_doItem_157 (n := 160) rfl rfl (by omega) (fun h67 => ?_) (fun h67 => ?_)
            · refine q_iconst C dX0_doItem_174 (n := 175) rfl ?_
              refine q_iload C dX0_doItem_175 (n := 177) rfl rfl ?_
              refine q_callSp C dX0_doItem_177 (n := 180) rfl m_X0_202 s_yX5_shape (c_X5_shape (w := w) (J := J61) hI62 hF 2 x64) (Nat.le_of_ble_eq_true rfl) rfl rfl (Nat.le_of_ble_eq_true rfl) ⟨Nat.le_refl _, Nat.le_refl _⟩ (fun x70 h71 => ?_)
              obtain ⟨h68, h69⟩ := h71
              refine q_iload C dX0_doItem_180 (n := 182) rfl rfl ?_
              refine q_callSp C dX0_doItem_182 (n := 185) rfl m_X0_205 s_yX5_blankAs (c_X5_blankAs (w := w) (J := J61) hI62 hF x70 (M (mc + 13) (((M fp 3) * 20) + (M fp 4)))) (Nat.le_of_ble_eq_true rfl) rfl rfl (Nat.le_of_ble_eq_true rfl) ⟨Nat.le_refl _, Nat.le_refl _⟩ (fun x74 h75 => ?_)
              obtain ⟨h72, h73⟩ := h75
              refine q_istore C [.ref (w.2.1 + a), .ref (w.2.1 + fp), zi (M fp 3), zi (((M fp 3) * 20) + (M fp 4)), zi (M (mc + 10) (((M fp 3) * 20) + (M fp 4))), zi x74, zi (M16 t 1), zi x64] dX0_doItem_185 (n := 187) rfl rfl rfl ?_
              exact zK.weak (J_36 x74 (M16 t 1) M60 J61 hI62 hK66 (by omega) (by omega) (by omega)) (zwk_c (zwk_c (zwk_n (zwk_n (zwk_n (zwk_c (zwk_c (zwk_n zwk_e))))))))
            · refine q_aload_n C dX0_doItem_160 (n := 161) rfl rfl ?_
              refine q_getR C dX0_doItem_161 (n := 164) rfl f_X0_46 h0.1 (hF _ _ _ h0.2.2.2.2.2.1) ?_
              refine q_bipush C dX0_doItem_164 (n := 166) rfl (x := 6) (by decide) ?_
              refine q_aload_n C dX0_doItem_166 (n := 167) rfl rfl ?_
              have g76 := zI.at hI62 h_frame.2.2.2.2.2.2.2.1
              refine q_getI C dX0_doItem_167 (n := 170) rfl f_X0_199 h_frame.1 (v := M60 fp 6) rfl ?_
              refine q_callVv C dX0_doItem_170 (n := 173) rfl m_X0_146 v_yX1_meet h0.2.2.2.2.2.2.1.1 ⟨by decide, rfl⟩ (c_X1_meet (w := w) (J := J61) hI62 hF h0.2.2.2.2.2.2.1 6 (M60 fp 6) (by omega) (by omega)) (Nat.le_of_ble_eq_true rfl) rfl rfl (Nat.le_of_ble_eq_true rfl) ⟨Nat.le_refl _, Nat.le_refl _⟩ (fun M77 J78  hI79 h80 => ?_)
              have hK82 := hK66.tr h80 (by decide)
              exact q_vret C dX0_doItem_173 ⟨rfl, rfl⟩ (by rw [hPo]; exact ⟨M77, J78, rfl, rfl, hI79, hK82⟩)
        · refine q_aload_n C dX0_doItem_84 (n := 85) rfl rfl ?_
          refine q_aload_n C dX0_doItem_85 (n := 86) rfl rfl ?_
          refine q_aload_n C dX0_doItem_86 (n := 87) rfl rfl ?_
          refine q_getR C dX0_doItem_87 (n := 90) rfl f_X0_42 h0.1 (hF _ _ _ h0.2.2.2.1) ?_
          refine q_getR C dX0_doItem_90 (n := 93) rfl f_X0_183 h0.2.2.2.2.1.1 (hF _ _ _ h0.2.2.2.2.1.2.2.2.2.2.2.2.2.2.2.2.2.2.2.2.2.2.2.2.2.2.2.2.2.2.2.2.2.2.2.2.2.1) ?_
          refine q_iload_n C dX0_doItem_93 (n := 94) rfl rfl ?_
          have g83 := zI.at hI18 (h0.2.2.2.2.1.2.2.2.2.2.2.2.2.2.2.2.2.2.2.2.2.2.2.2.2.2.2.2.2.2.2.2.2.2.2.2.2.2.2.1 (((M fp 3) * 20) + (M fp 4)))
          refine q_iald C dX0_doItem_94 (n := 95) rfl h0.2.2.2.2.1.2.2.2.2.2.2.2.2.2.2.2.2.2.2.2.2.2.2.2.2.2.2.2.2.2.2.2.2.2.2.2.2.2.1 (by omega) (v := M16 (mc + 11) (((M fp 3) * 20) + (M fp 4))) rfl ?_
          refine q_iload C dX0_doItem_95 (n := 97) rfl rfl ?_
          refine q_iconst C dX0_doItem_97 (n := 98) rfl ?_
          refine q_iand C dX0_doItem_98 (n := 99) rfl (v := zand (M (mc + 10) (((M fp 3) * 20) + (M fp 4))) 2) rfl ?_
          have g84 := zand_r (x := M (mc + 10) (((M fp 3) * 20) + (M fp 4))) (k := 2) (by omega)
          have J_88 : ∀ (u85 : Int), (-2147483648 ≤ u85 ∧ u85 ≤ 2147483647) → (u85 = 0 ∨ u85 = 1) → zK w p e 4 0 0 s m args below meth c 8 T Po 107 [.null, .null, .null, .null, .null, .null, .null, .null] [zi u85, zi (M16 (mc + 11) (((M fp 3) * 20) + (M fp 4))), .ref (w.2.1 + fp), .ref (w.2.1 + a)] (T, M16, J17, R) := by
            intro u85 h86 h87
            refine q_callVv C dX0_doItem_107 (n := 110) rfl m_X0_186 v_yX0_openArgument h0.1 ⟨by decide, rfl⟩ (c_X0_openArgument (w := w) (J := J17) hI18 hF h0 h_frame (M16 (mc + 11) (((M fp 3) * 20) + (M fp 4))) u85 (by omega) (by omega)) (Nat.le_of_ble_eq_true rfl) rfl rfl (Nat.le_of_ble_eq_true rfl) ⟨Nat.le_refl _, Nat.le_refl _⟩ (fun M89 J90  hI91 h92 => ?_)
            have hK94 := hK21.tr h92 (by decide)
            exact q_vret C dX0_doItem_110 ⟨rfl, rfl⟩ (by rw [hPo]; exact ⟨M89, J90, rfl, rfl, hI91, hK94⟩)
          refine q_if_eq C 106 dX0_doItem_99 (n := 102) rfl rfl (by omega) (fun h95 => ?_) (fun h95 => ?_)
          · refine q_iconst C dX0_doItem_106 (n := 107) rfl ?_
            exact zK.weak (J_88 0 (by omega) (by omega)) (zwk_n (zwk_n (zwk_n (zwk_n (zwk_n (zwk_n (zwk_n (zwk_n zwk_e))))))))
          · refine q_iconst C dX0_doItem_102 (n := 103) rfl ?_
            refine q_goto C 107 dX0_doItem_103 rfl ?_
            exact zK.weak (J_88 1 (by omega) (by omega)) (zwk_n (zwk_n (zwk_n (zwk_n (zwk_n (zwk_n (zwk_n (zwk_n zwk_e))))))))
      · exact zK.weak (J_2) (zwk_c (zwk_c (zwk_n (zwk_n (zwk_n (zwk_n (zwk_n (zwk_n zwk_e))))))))
theorem c_X0_go {w : zWp} {T : zTl} {M : zMm} {J : zJm} {R : zRm'} {G : zGt} {F : zRm'} {a t mc q L tl rr nr : Nat} (hI : zI G M) (hF : zF F R) (h0 : zExpander T F G a t mc q L) (h_into : zRow T F G rr nr (L : Int)) (htal : R a 7 = some tl) (t_tl : T[tl]? = some (50, 10)) (g_tl : ∀ k, G tl k = (0, (-2147483648), 2147483647)) (p1 : L ≤ 1000000) (p2 : nr ≤ 1000000) : zCt w 5 0 0 yX0_go cX0_go 5 none [.ref (w.2.1 + a), .ref (w.2.1 + rr)] (T, M, J, R) (zPv T R G (fun M2 => (zKp G 11 M M2))) := by
  refine zCt.of rfl (Nat.le_of_ble_eq_true rfl) ?_
  intro p e s m args below meth c C
  obtain ⟨Po, hPo⟩ : ∃ Po, Po = zPv T R G (fun M2 => (zKp G 11 M M2)) := ⟨_, rfl⟩
  rw [← hPo]
  have hK0 : zKp G 11 M M := zKp.rf
  show zK w p e 5 0 0 s m args below meth c 5 T Po 0 [.ref (w.2.1 + a), .ref (w.2.1 + rr), .null, .null, .null] [] (T, M, J, R)
  refine q_aload_n C dX0_go_0 (n := 1) rfl rfl ?_
  refine q_iconst C dX0_go_1 (n := 2) rfl ?_
  refine q_putI C dX0_go_2 (n := 5) rfl f_X0_30 h0.1 ⟨rfl, rfl⟩ (fun M1 (e2 : M1 = zup M a 6 0) => ?_)
  have hI3 : zI G M1 := hI.put e2 h0.2.2.2.2.2.2.2.2.2.2.2.2.2.2.2.1 rfl (by omega)
  have hK4 := hK0.put e2 h0.2.2.2.2.2.2.2.2.2.2.2.2.2.2.2.1 (by decide)
  refine q_aload_n C dX0_go_5 (n := 6) rfl rfl ?_
  refine q_getR C dX0_go_6 (n := 9) rfl f_X0_26 h0.1 (hF _ _ _ h0.2.2.2.2.2.2.2.2.2.2.2.2.1) ?_
  refine q_iconst C dX0_go_9 (n := 10) rfl ?_
  refine q_aald C dX0_go_10 (n := 11) rfl ⟨by decide, by decide⟩ h0.2.2.2.2.2.2.2.2.2.2.2.2.2.1 (by omega) (hF _ _ _ (h0.2.2.2.2.2.2.2.2.2.2.2.2.2.2.1 0 (by omega) (by omega)).1) ?_
  refine q_aload_n C dX0_go_11 (n := 12) rfl rfl ?_
  refine q_getR C dX0_go_12 (n := 15) rfl f_X0_14 h0.1 (hF _ _ _ h0.2.2.2.2.2.2.2.1) ?_
  have g5 := zI.at hI h0.2.2.2.2.2.2.2.2.1.2.2.2.2.2.2.2.2.2.2
  refine q_getI C dX0_go_15 (n := 18) rfl f_X0_60 h0.2.2.2.2.2.2.2.2.1.1 (v := M (a + 1) 3) (zup_p e2 (by omega) _) ?_
  have J_9 : ∀ (u6 : Int), (-2147483648 ≤ u6 ∧ u6 ≤ 2147483647) → (-1 ≤ u6 ∧ u6 ≤ 0) → zK w p e 5 0 0 s m args below meth c 5 T Po 26 [.ref (w.2.1 + a), .ref (w.2.1 + rr), .null, .null, .null] [zi u6, .ref (w.2.1 + (a + 7 + 7 * (0 : Int).toNat))] (T, M1, J, R) := by
    intro u6 h7 h8
    refine q_iconst C dX0_go_26 (n := 27) rfl ?_
    refine q_callVv C dX0_go_27 (n := 30) rfl m_X0_67 v_yX2_enterRow (h0.2.2.2.2.2.2.2.2.2.2.2.2.2.2.1 0 (by omega) (by omega)).2.1 ⟨by decide, rfl⟩ (c_X2_enterRow (w := w) (J := J) hI3 hF (h0.2.2.2.2.2.2.2.2.2.2.2.2.2.2.1 0 (by omega) (by omega)).2 u6 (-1) (by omega) (by omega)) (Nat.le_of_ble_eq_true rfl) rfl rfl (Nat.le_of_ble_eq_true rfl) ⟨Nat.le_refl _, Nat.le_refl _⟩ (fun M10 J11  hI12 h13 => ?_)
    have hK15 := hK4.tr h13 (by decide)
    refine q_iconst C dX0_go_30 (n := 31) rfl ?_
    refine q_istore_n C [.ref (w.2.1 + a), .ref (w.2.1 + rr), zi 0, .null, .null] dX0_go_31 (n := 32) rfl rfl rfl ?_
    have L_23 : ∀ n24 : Nat, ∀ (u16 : Int) (M17 : zMm) (J18 : zJm), zI G M17 → zKp G 11 M M17 → (-2147483648 ≤ u16 ∧ u16 ≤ 2147483647) → (0 ≤ u16 ∧ u16 ≤ 10000000) → (10000000 - u16 + 1 ≤ (n24 : Int)) → zK w p e 5 0 0 s m args below meth c 5 T Po 32 [.ref (w.2.1 + a), .ref (w.2.1 + rr), zi u16, .null, .null] [] (T, M17, J18, R) := by
      intro n24
      induction n24 with
      | zero =>
        intro u16 M17 J18 hI19 hK20 h21 h22 hm26
        exfalso
        omega
      | succ n24 ih25 =>
        intro u16 M17 J18 hI19 hK20 h21 h22 hm26
        refine q_iload_n C dX0_go_32 (n := 33) rfl rfl ?_
        refine q_ldc C dX0_go_33 (n := 35) rfl (x := 10000000) k_X0_71 ?_
        refine q_icmp_ge C 314 dX0_go_35 (n := 38) rfl rfl (by omega) (fun h27 => ?_) (fun h27 => ?_)
        · exact q_vret C dX0_go_314 ⟨rfl, rfl⟩ (by rw [hPo]; exact ⟨M17, J18, rfl, rfl, hI19, hK20⟩)
        · refine q_aload_n C dX0_go_38 (n := 39) rfl rfl ?_
          have g28 := zI.at hI19 h0.2.2.2.2.2.2.2.2.2.2.2.2.2.2.2.1
          refine q_getI C dX0_go_39 (n := 42) rfl f_X0_30 h0.1 (v := M17 a 6) rfl ?_
          refine q_if_lt C 314 dX0_go_42 (n := 45) rfl rfl (by omega) (fun h29 => ?_) (fun h29 => ?_)
          · exact q_vret C dX0_go_314 ⟨rfl, rfl⟩ (by rw [hPo]; exact ⟨M17, J18, rfl, rfl, hI19, hK20⟩)
          · refine q_aload_n C dX0_go_45 (n := 46) rfl rfl ?_
            refine q_getR C dX0_go_46 (n := 49) rfl f_X0_46 h0.1 (hF _ _ _ h0.2.2.2.2.2.1) ?_
            have g30 := zI.at hI19 h0.2.2.2.2.2.2.1.2.1
            refine q_getI C dX0_go_49 (n := 52) rfl f_X0_72 h0.2.2.2.2.2.2.1.1 (v := M17 q 0) rfl ?_
            refine q_if_ne C 314 dX0_go_52 (n := 55) rfl rfl (by omega) (fun h31 => ?_) (fun h31 => ?_)
            · exact q_vret C dX0_go_314 ⟨rfl, rfl⟩ (by rw [hPo]; exact ⟨M17, J18, rfl, rfl, hI19, hK20⟩)
            · refine q_aload_n C dX0_go_55 (n := 56) rfl rfl ?_
              refine q_getR C dX0_go_56 (n := 59) rfl f_X0_26 h0.1 (hF _ _ _ h0.2.2.2.2.2.2.2.2.2.2.2.2.1) ?_
              refine q_aload_n C dX0_go_59 (n := 60) rfl rfl ?_
              refine q_getI C dX0_go_60 (n := 63) rfl f_X0_30 h0.1 (v := M17 a 6) rfl ?_
              refine q_aald C dX0_go_63 (n := 64) rfl ⟨by decide, by decide⟩ h0.2.2.2.2.2.2.2.2.2.2.2.2.2.1 (by omega) (hF _ _ _ (h0.2.2.2.2.2.2.2.2.2.2.2.2.2.2.1 (M17 a 6) (by omega) (by omega)).1) ?_
              refine q_astore_n C [.ref (w.2.1 + a), .ref (w.2.1 + rr), zi u16, .ref (w.2.1 + (a + 7 + 7 * (M17 a 6 : Int).toNat)), .null] dX0_go_64 (n := 65) rfl rfl rfl ?_
              refine q_aload_n C dX0_go_65 (n := 66) rfl rfl ?_
              have g32 := zI.at hI19 (h0.2.2.2.2.2.2.2.2.2.2.2.2.2.2.1 (M17 a 6) (by omega) (by omega)).2.2.1
              refine q_getI C dX0_go_66 (n := 69) rfl f_X0_77 (h0.2.2.2.2.2.2.2.2.2.2.2.2.2.2.1 (M17 a 6) (by omega) (by omega)).2.1 (v := M17 (a + 7 + 7 * (M17 a 6 : Int).toNat) 0) rfl ?_
              refine q_istore C [.ref (w.2.1 + a), .ref (w.2.1 + rr), zi u16, .ref (w.2.1 + (a + 7 + 7 * (M17 a 6 : Int).toNat)), zi (M17 (a + 7 + 7 * (M17 a 6 : Int).toNat) 0)] dX0_go_69 (n := 71) rfl rfl rfl ?_
              refine q_aload_n C dX0_go_71 (n := 72) rfl rfl ?_
              have g33 := zI.at hI19 (h0.2.2.2.2.2.2.2.2.2.2.2.2.2.2.1 (M17 a 6) (by omega) (by omega)).2.2.2.2.2.1
              refine q_getI C dX0_go_72 (n := 75) rfl f_X0_80 (h0.2.2.2.2.2.2.2.2.2.2.2.2.2.2.1 (M17 a 6) (by omega) (by omega)).2.1 (v := M17 (a + 7 + 7 * (M17 a 6 : Int).toNat) 3) rfl ?_
              refine q_iconst C dX0_go_75 (n := 76) rfl ?_
              have J_38 : ∀ (M34 : zMm) (J35 : zJm), zI G M34 → zKp G 11 M M34 → zK w p e 5 0 0 s m args below meth c 5 T Po 308 [.ref (w.2.1 + a), .ref (w.2.1 + rr), zi u16, .null, .null] [] (T, M34, J35, R) := by
                intro M34 J35 hI36 hK37
                refine q_iinc C [.ref (w.2.1 + a), .ref (w.2.1 + rr), zi (u16 + 1), .null, .null] dX0_go_308 (n := 311) rfl rfl rfl rfl ?_
                refine q_goto C 32 dX0_go_311 rfl ?_
                exact zK.weak (ih25 (u16 + 1) M34 J35 hI36 hK37 (by omega) (by omega) (by omega)) (zwk_c (zwk_c (zwk_c (zwk_n (zwk_n zwk_e)))))
              refine q_icmp_eq C 87 dX0_go_76 (n := 79) rfl rfl (by omega) (fun h39 => ?_) (fun h39 => ?_)
              · refine q_iload C dX0_go_87 (n := 89) rfl rfl ?_
                refine q_aload_n C dX0_go_89 (n := 90) rfl rfl ?_
                have g40 := zI.at hI19 (h0.2.2.2.2.2.2.2.2.2.2.2.2.2.2.1 (M17 a 6) (by omega) (by omega)).2.2.2.1
                refine q_getI C dX0_go_90 (n := 93) rfl f_X0_87 (h0.2.2.2.2.2.2.2.2.2.2.2.2.2.2.1 (M17 a 6) (by omega) (by omega)).2.1 (v := M17 (a + 7 + 7 * (M17 a 6 : Int).toNat) 1) rfl ?_
                have J_41 : zK w p e 5 0 0 s m args below meth c 5 T Po 113 [.ref (w.2.1 + a), .ref (w.2.1 + rr), zi u16, .null, .null] [] (T, M17, J18, R) := by
                  refine q_aload_n C dX0_go_113 (n := 114) rfl rfl ?_
                  refine q_dup C dX0_go_114 (n := 115) rfl rfl ?_
                  refine q_getI C dX0_go_115 (n := 118) rfl f_X0_30 h0.1 (v := M17 a 6) rfl ?_
                  refine q_iconst C dX0_go_118 (n := 119) rfl ?_
                  refine q_isub C dX0_go_119 (n := 120) rfl (v := (M17 a 6) - 1) rfl ?_
                  refine q_putI C dX0_go_120 (n := 123) rfl f_X0_30 h0.1 ⟨rfl, rfl⟩ (fun M42 (e43 : M42 = zup M17 a 6 ((M17 a 6) - 1)) => ?_)
                  have hI44 : zI G M42 := hI19.put e43 h0.2.2.2.2.2.2.2.2.2.2.2.2.2.2.2.1 rfl (by omega)
                  have hK45 := hK20.put e43 h0.2.2.2.2.2.2.2.2.2.2.2.2.2.2.2.1 (by decide)
                  refine q_goto C 308 dX0_go_123 rfl ?_
                  exact zK.weak (J_38 M42 J18 hI44 hK45) (zwk_c (zwk_c (zwk_c (zwk_n (zwk_n zwk_e)))))
                refine q_icmp_eq C 113 dX0_go_93 (n := 96) rfl rfl (by omega) (fun h46 => ?_) (fun h46 => ?_)
                · exact zK.weak (J_41) (zwk_c (zwk_c (zwk_c (zwk_n (zwk_n zwk_e)))))
                · refine q_iload C dX0_go_96 (n := 98) rfl rfl ?_
                  refine q_if_lt C 113 dX0_go_98 (n := 101) rfl rfl (by omega) (fun h47 => ?_) (fun h47 => ?_)
                  · exact zK.weak (J_41) (zwk_c (zwk_c (zwk_c (zwk_n (zwk_n zwk_e)))))
                  · refine q_iload C dX0_go_101 (n := 103) rfl rfl ?_
                    refine q_aload_n C dX0_go_103 (n := 104) rfl rfl ?_
                    refine q_getR C dX0_go_104 (n := 107) rfl f_X0_14 h0.1 (hF _ _ _ h0.2.2.2.2.2.2.2.1) ?_
                    have g48 := zI.at hI19 h0.2.2.2.2.2.2.2.2.1.2.2.2.2.2.2.2.2.2.2
                    refine q_getI C dX0_go_107 (n := 110) rfl f_X0_60 h0.2.2.2.2.2.2.2.2.1.1 (v := M17 (a + 1) 3) rfl ?_
                    refine q_icmp_lt C 126 dX0_go_110 (n := 113) rfl rfl (by omega) (fun h49 => ?_) (fun h49 => ?_)
                    · refine q_aload_n C dX0_go_126 (n := 127) rfl rfl ?_
                      have g50 := zI.at hI19 (h0.2.2.2.2.2.2.2.2.2.2.2.2.2.2.1 (M17 a 6) (by omega) (by omega)).2.2.2.2.1
                      refine q_getI C dX0_go_127 (n := 130) rfl f_X0_90 (h0.2.2.2.2.2.2.2.2.2.2.2.2.2.2.1 (M17 a 6) (by omega) (by omega)).2.1 (v := M17 (a + 7 + 7 * (M17 a 6 : Int).toNat) 2) rfl ?_
                      have J_57 : ∀ (M52 : zMm) (J53 : zJm), zI G M52 → zKp G 11 M M52 → zKp G 10 M17 M52 → zK w p e 5 0 0 s m args below meth c 5 T Po 143 [.ref (w.2.1 + a), .ref (w.2.1 + rr), zi u16, .ref (w.2.1 + (a + 7 + 7 * (M17 a 6 : Int).toNat)), zi (M17 (a + 7 + 7 * (M17 a 6 : Int).toNat) 0)] [] (T, M52, J53, R) := by
                        intro M52 J53 hI54 hK55 hK56
                        refine q_aload_n C dX0_go_143 (n := 144) rfl rfl ?_
                        refine q_aload_n C dX0_go_144 (n := 145) rfl rfl ?_
                        refine q_getR C dX0_go_145 (n := 148) rfl f_X0_20 h0.1 (hF _ _ _ h0.2.2.2.2.2.2.2.2.2.1) ?_
                        refine q_iload C dX0_go_148 (n := 150) rfl rfl ?_
                        have g58 := zI.at hI54 (h0.2.2.2.2.2.2.2.2.2.2.2.1 (M17 (a + 7 + 7 * (M17 a 6 : Int).toNat) 0))
                        refine q_iald C dX0_go_150 (n := 151) rfl h0.2.2.2.2.2.2.2.2.2.2.1 (by omega) (v := M52 (a + 5) (M17 (a + 7 + 7 * (M17 a 6 : Int).toNat) 0)) rfl ?_
                        refine q_putI C dX0_go_151 (n := 154) rfl f_X0_77 (h0.2.2.2.2.2.2.2.2.2.2.2.2.2.2.1 (M17 a 6) (by omega) (by omega)).2.1 ⟨rfl, rfl⟩ (fun M59 (e60 : M59 = zup M52 (a + 7 + 7 * (M17 a 6 : Int).toNat) 0 (M52 (a + 5) (M17 (a + 7 + 7 * (M17 a 6 : Int).toNat) 0))) => ?_)
                        have hI61 : zI G M59 := hI54.put e60 (h0.2.2.2.2.2.2.2.2.2.2.2.2.2.2.1 (M17 a 6) (by omega) (by omega)).2.2.1 rfl (by omega)
                        have hK62 := hK55.put e60 (h0.2.2.2.2.2.2.2.2.2.2.2.2.2.2.1 (M17 a 6) (by omega) (by omega)).2.2.1 (by decide)
                        have hK63 := hK56.put e60 (h0.2.2.2.2.2.2.2.2.2.2.2.2.2.2.1 (M17 a 6) (by omega) (by omega)).2.2.1 (by decide)
                        refine q_aload_n C dX0_go_154 (n := 155) rfl rfl ?_
                        refine q_getI C dX0_go_155 (n := 158) rfl f_X0_30 h0.1 (v := M17 a 6) ((zup_n e60 (zne_t h0.2.2.2.2.2.2.2.2.2.2.2.2.2.2.2.1 (h0.2.2.2.2.2.2.2.2.2.2.2.2.2.2.1 (M17 a 6) (by omega) (by omega)).2.2.1 (by decide))).trans (hK56 _ _ (zle_t h0.2.2.2.2.2.2.2.2.2.2.2.2.2.2.2.1 (by decide)))) ?_
                        refine q_if_ne C 199 dX0_go_158 (n := 161) rfl rfl (by omega) (fun h64 => ?_) (fun h64 => ?_)
                        · refine q_aload_n C dX0_go_199 (n := 200) rfl rfl ?_
                          refine q_getR C dX0_go_200 (n := 203) rfl f_X0_26 h0.1 (hF _ _ _ h0.2.2.2.2.2.2.2.2.2.2.2.2.1) ?_
                          refine q_aload_n C dX0_go_203 (n := 204) rfl rfl ?_
                          refine q_getI C dX0_go_204 (n := 207) rfl f_X0_30 h0.1 (v := M17 a 6) ((zup_n e60 (zne_t h0.2.2.2.2.2.2.2.2.2.2.2.2.2.2.2.1 (h0.2.2.2.2.2.2.2.2.2.2.2.2.2.2.1 (M17 a 6) (by omega) (by omega)).2.2.1 (by decide))).trans (hK56 _ _ (zle_t h0.2.2.2.2.2.2.2.2.2.2.2.2.2.2.2.1 (by decide)))) ?_
                          refine q_iconst C dX0_go_207 (n := 208) rfl ?_
                          refine q_isub C dX0_go_208 (n := 209) rfl (v := (M17 a 6) - 1) rfl ?_
                          refine q_aald C dX0_go_209 (n := 210) rfl ⟨by decide, by decide⟩ h0.2.2.2.2.2.2.2.2.2.2.2.2.2.1 (by omega) (hF _ _ _ (h0.2.2.2.2.2.2.2.2.2.2.2.2.2.2.1 ((M17 a 6) - 1) (by omega) (by omega)).1) ?_
                          have g65 := zI.at hI61 (h0.2.2.2.2.2.2.2.2.2.2.2.2.2.2.1 ((M17 a 6) - 1) (by omega) (by omega)).2.2.2.2.2.2.2.2.2.2.2.2.2.2.2.2.2.2.2.2.1
                          refine q_getI C dX0_go_210 (n := 213) rfl f_X0_106 (h0.2.2.2.2.2.2.2.2.2.2.2.2.2.2.1 ((M17 a 6) - 1) (by omega) (by omega)).2.1 (v := M59 (a + 7 + 7 * ((M17 a 6) - 1 : Int).toNat) 13) rfl ?_
                          refine q_if_eq C 264 dX0_go_213 (n := 216) rfl rfl (by omega) (fun h66 => ?_) (fun h66 => ?_)
                          · refine q_aload_n C dX0_go_264 (n := 265) rfl rfl ?_
                            refine q_getR C dX0_go_265 (n := 268) rfl f_X0_26 h0.1 (hF _ _ _ h0.2.2.2.2.2.2.2.2.2.2.2.2.1) ?_
                            refine q_aload_n C dX0_go_268 (n := 269) rfl rfl ?_
                            refine q_getI C dX0_go_269 (n := 272) rfl f_X0_30 h0.1 (v := M17 a 6) ((zup_n e60 (zne_t h0.2.2.2.2.2.2.2.2.2.2.2.2.2.2.2.1 (h0.2.2.2.2.2.2.2.2.2.2.2.2.2.2.1 (M17 a 6) (by omega) (by omega)).2.2.1 (by decide))).trans (hK56 _ _ (zle_t h0.2.2.2.2.2.2.2.2.2.2.2.2.2.2.2.1 (by decide)))) ?_
                            refine q_iconst C dX0_go_272 (n := 273) rfl ?_
                            refine q_isub C dX0_go_273 (n := 274) rfl (v := (M17 a 6) - 1) rfl ?_
                            refine q_aald C dX0_go_274 (n := 275) rfl ⟨by decide, by decide⟩ h0.2.2.2.2.2.2.2.2.2.2.2.2.2.1 (by omega) (hF _ _ _ (h0.2.2.2.2.2.2.2.2.2.2.2.2.2.2.1 ((M17 a 6) - 1) (by omega) (by omega)).1) ?_
                            refine q_aload_n C dX0_go_275 (n := 276) rfl rfl ?_
                            refine q_getR C dX0_go_276 (n := 279) rfl f_X0_14 h0.1 (hF _ _ _ h0.2.2.2.2.2.2.2.1) ?_
                            refine q_getR C dX0_go_279 (n := 282) rfl f_X0_97 h0.2.2.2.2.2.2.2.2.1.1 (hF _ _ _ h0.2.2.2.2.2.2.2.2.1.2.1) ?_
                            refine q_iload C dX0_go_282 (n := 284) rfl rfl ?_
                            have g67 := zI.at hI54 (h0.2.2.2.2.2.2.2.2.1.2.2.2.1 (M17 (a + 7 + 7 * (M17 a 6 : Int).toNat) 0))
                            have g68 : M52 (a + 1 + 1) (M17 (a + 7 + 7 * (M17 a 6 : Int).toNat) 0) + zand (M52 (a + 1 + 2) (M17 (a + 7 + 7 * (M17 a 6 : Int).toNat) 0)) 31 ≤ (L : Int) ∧ zand (M52 (a + 1 + 2) (M17 (a + 7 + 7 * (M17 a 6 : Int).toNat) 0)) 31 ≤ 30 := zI.row hI54 (h0.2.2.2.2.2.2.2.2.1.2.2.2.1 (M17 (a + 7 + 7 * (M17 a 6 : Int).toNat) 0))
                            refine q_iald C dX0_go_284 (n := 285) rfl h0.2.2.2.2.2.2.2.2.1.2.2.1 (by omega) (v := M52 (a + 1 + 1) (M17 (a + 7 + 7 * (M17 a 6 : Int).toNat) 0)) (zup_n e60 (zne_t (h0.2.2.2.2.2.2.2.2.1.2.2.2.1 (M17 (a + 7 + 7 * (M17 a 6 : Int).toNat) 0)) (h0.2.2.2.2.2.2.2.2.2.2.2.2.2.2.1 (M17 a 6) (by omega) (by omega)).2.2.1 (by decide))) ?_
                            refine q_aload_n C dX0_go_285 (n := 286) rfl rfl ?_
                            refine q_getR C dX0_go_286 (n := 289) rfl f_X0_14 h0.1 (hF _ _ _ h0.2.2.2.2.2.2.2.1) ?_
                            refine q_getR C dX0_go_289 (n := 292) rfl f_X0_100 h0.2.2.2.2.2.2.2.2.1.1 (hF _ _ _ h0.2.2.2.2.2.2.2.2.1.2.2.2.2.1) ?_
                            refine q_iload C dX0_go_292 (n := 294) rfl rfl ?_
                            have g69 := zI.at hI54 (h0.2.2.2.2.2.2.2.2.1.2.2.2.2.2.2.1 (M17 (a + 7 + 7 * (M17 a 6 : Int).toNat) 0))
                            refine q_iald C dX0_go_294 (n := 295) rfl h0.2.2.2.2.2.2.2.2.1.2.2.2.2.2.1 (by omega) (v := M52 (a + 1 + 2) (M17 (a + 7 + 7 * (M17 a 6 : Int).toNat) 0)) (zup_n e60 (zne_t (h0.2.2.2.2.2.2.2.2.1.2.2.2.2.2.2.1 (M17 (a + 7 + 7 * (M17 a 6 : Int).toNat) 0)) (h0.2.2.2.2.2.2.2.2.2.2.2.2.2.2.1 (M17 a 6) (by omega) (by omega)).2.2.1 (by decide))) ?_
                            refine q_aload_n C dX0_go_295 (n := 296) rfl rfl ?_
                            refine q_getR C dX0_go_296 (n := 299) rfl f_X0_14 h0.1 (hF _ _ _ h0.2.2.2.2.2.2.2.1) ?_
                            refine q_getR C dX0_go_299 (n := 302) rfl f_X0_103 h0.2.2.2.2.2.2.2.2.1.1 (hF _ _ _ h0.2.2.2.2.2.2.2.2.1.2.2.2.2.2.2.2.1) ?_
                            refine q_iload C dX0_go_302 (n := 304) rfl rfl ?_
                            have g70 := zI.at hI61 (h0.2.2.2.2.2.2.2.2.1.2.2.2.2.2.2.2.2.2.1 (M17 (a + 7 + 7 * (M17 a 6 : Int).toNat) 0))
                            refine q_iald C dX0_go_304 (n := 305) rfl h0.2.2.2.2.2.2.2.2.1.2.2.2.2.2.2.2.2.1 (by omega) (v := M59 (a + 1 + 3) (M17 (a + 7 + 7 * (M17 a 6 : Int).toNat) 0)) rfl ?_
                            refine q_callVv C dX0_go_305 (n := 308) rfl m_X0_113 v_yX2_put (h0.2.2.2.2.2.2.2.2.2.2.2.2.2.2.1 ((M17 a 6) - 1) (by omega) (by omega)).2.1 ⟨by decide, rfl⟩ (c_X2_put (w := w) (J := J53) hI61 hF (h0.2.2.2.2.2.2.2.2.2.2.2.2.2.2.1 ((M17 a 6) - 1) (by omega) (by omega)).2 (M52 (a + 1 + 1) (M17 (a + 7 + 7 * (M17 a 6 : Int).toNat) 0)) (M52 (a + 1 + 2) (M17 (a + 7 + 7 * (M17 a 6 : Int).toNat) 0)) (M59 (a + 1 + 3) (M17 (a + 7 + 7 * (M17 a 6 : Int).toNat) 0)) (by omega) (by omega) (by omega)) (Nat.le_of_ble_eq_true rfl) rfl rfl (Nat.le_of_ble_eq_true rfl) ⟨Nat.le_refl _, Nat.le_refl _⟩ (fun M71 J72  hI73 h74 => ?_)
                            have hK76 := hK62.tr h74 (by decide)
                            have hK77 := hK63.tr h74 (by decide)
                            exact zK.weak (J_38 M71 J72 hI73 hK76) (zwk_c (zwk_c (zwk_c (zwk_n (zwk_n zwk_e)))))
                          · refine q_aload_n C dX0_go_216 (n := 217) rfl rfl ?_
                            refine q_aload_n C dX0_go_217 (n := 218) rfl rfl ?_
                            refine q_getR C dX0_go_218 (n := 221) rfl f_X0_26 h0.1 (hF _ _ _ h0.2.2.2.2.2.2.2.2.2.2.2.2.1) ?_
                            refine q_aload_n C dX0_go_221 (n := 222) rfl rfl ?_
                            refine q_getI C dX0_go_222 (n := 225) rfl f_X0_30 h0.1 (v := M17 a 6) ((zup_n e60 (zne_t h0.2.2.2.2.2.2.2.2.2.2.2.2.2.2.2.1 (h0.2.2.2.2.2.2.2.2.2.2.2.2.2.2.1 (M17 a 6) (by omega) (by omega)).2.2.1 (by decide))).trans (hK56 _ _ (zle_t h0.2.2.2.2.2.2.2.2.2.2.2.2.2.2.2.1 (by decide)))) ?_
                            refine q_iconst C dX0_go_225 (n := 226) rfl ?_
                            refine q_isub C dX0_go_226 (n := 227) rfl (v := (M17 a 6) - 1) rfl ?_
                            refine q_aald C dX0_go_227 (n := 228) rfl ⟨by decide, by decide⟩ h0.2.2.2.2.2.2.2.2.2.2.2.2.2.1 (by omega) (hF _ _ _ (h0.2.2.2.2.2.2.2.2.2.2.2.2.2.2.1 ((M17 a 6) - 1) (by omega) (by omega)).1) ?_
                            refine q_aload_n C dX0_go_228 (n := 229) rfl rfl ?_
                            refine q_getR C dX0_go_229 (n := 232) rfl f_X0_14 h0.1 (hF _ _ _ h0.2.2.2.2.2.2.2.1) ?_
                            refine q_getR C dX0_go_232 (n := 235) rfl f_X0_97 h0.2.2.2.2.2.2.2.2.1.1 (hF _ _ _ h0.2.2.2.2.2.2.2.2.1.2.1) ?_
                            refine q_iload C dX0_go_235 (n := 237) rfl rfl ?_
                            have g78 := zI.at hI54 (h0.2.2.2.2.2.2.2.2.1.2.2.2.1 (M17 (a + 7 + 7 * (M17 a 6 : Int).toNat) 0))
                            have g79 : M52 (a + 1 + 1) (M17 (a + 7 + 7 * (M17 a 6 : Int).toNat) 0) + zand (M52 (a + 1 + 2) (M17 (a + 7 + 7 * (M17 a 6 : Int).toNat) 0)) 31 ≤ (L : Int) ∧ zand (M52 (a + 1 + 2) (M17 (a + 7 + 7 * (M17 a 6 : Int).toNat) 0)) 31 ≤ 30 := zI.row hI54 (h0.2.2.2.2.2.2.2.2.1.2.2.2.1 (M17 (a + 7 + 7 * (M17 a 6 : Int).toNat) 0))
                            refine q_iald C dX0_go_237 (n := 238) rfl h0.2.2.2.2.2.2.2.2.1.2.2.1 (by omega) (v := M52 (a + 1 + 1) (M17 (a + 7 + 7 * (M17 a 6 : Int).toNat) 0)) (zup_n e60 (zne_t (h0.2.2.2.2.2.2.2.2.1.2.2.2.1 (M17 (a + 7 + 7 * (M17 a 6 : Int).toNat) 0)) (h0.2.2.2.2.2.2.2.2.2.2.2.2.2.2.1 (M17 a 6) (by omega) (by omega)).2.2.1 (by decide))) ?_
                            refine q_aload_n C dX0_go_238 (n := 239) rfl rfl ?_
                            refine q_getR C dX0_go_239 (n := 242) rfl f_X0_14 h0.1 (hF _ _ _ h0.2.2.2.2.2.2.2.1) ?_
                            refine q_getR C dX0_go_242 (n := 245) rfl f_X0_100 h0.2.2.2.2.2.2.2.2.1.1 (hF _ _ _ h0.2.2.2.2.2.2.2.2.1.2.2.2.2.1) ?_
                            refine q_iload C dX0_go_245 (n := 247) rfl rfl ?_
                            have g80 := zI.at hI54 (h0.2.2.2.2.2.2.2.2.1.2.2.2.2.2.2.1 (M17 (a + 7 + 7 * (M17 a 6 : Int).toNat) 0))
                            refine q_iald C dX0_go_247 (n := 248) rfl h0.2.2.2.2.2.2.2.2.1.2.2.2.2.2.1 (by omega) (v := M52 (a + 1 + 2) (M17 (a + 7 + 7 * (M17 a 6 : Int).toNat) 0)) (zup_n e60 (zne_t (h0.2.2.2.2.2.2.2.2.1.2.2.2.2.2.2.1 (M17 (a + 7 + 7 * (M17 a 6 : Int).toNat) 0)) (h0.2.2.2.2.2.2.2.2.2.2.2.2.2.2.1 (M17 a 6) (by omega) (by omega)).2.2.1 (by decide))) ?_
                            refine q_aload_n C dX0_go_248 (n := 249) rfl rfl ?_
                            refine q_getR C dX0_go_249 (n := 252) rfl f_X0_14 h0.1 (hF _ _ _ h0.2.2.2.2.2.2.2.1) ?_
                            refine q_getR C dX0_go_252 (n := 255) rfl f_X0_103 h0.2.2.2.2.2.2.2.2.1.1 (hF _ _ _ h0.2.2.2.2.2.2.2.2.1.2.2.2.2.2.2.2.1) ?_
                            refine q_iload C dX0_go_255 (n := 257) rfl rfl ?_
                            have g81 := zI.at hI61 (h0.2.2.2.2.2.2.2.2.1.2.2.2.2.2.2.2.2.2.1 (M17 (a + 7 + 7 * (M17 a 6 : Int).toNat) 0))
                            refine q_iald C dX0_go_257 (n := 258) rfl h0.2.2.2.2.2.2.2.2.1.2.2.2.2.2.2.2.2.1 (by omega) (v := M59 (a + 1 + 3) (M17 (a + 7 + 7 * (M17 a 6 : Int).toNat) 0)) rfl ?_
                            refine q_callVv C dX0_go_258 (n := 261) rfl m_X0_109 v_yX0_paste h0.1 ⟨by decide, rfl⟩ (c_X0_paste (w := w) (J := J53) hI61 hF h0 (h0.2.2.2.2.2.2.2.2.2.2.2.2.2.2.1 ((M17 a 6) - 1) (by omega) (by omega)).2 (M52 (a + 1 + 1) (M17 (a + 7 + 7 * (M17 a 6 : Int).toNat) 0)) (M52 (a + 1 + 2) (M17 (a + 7 + 7 * (M17 a 6 : Int).toNat) 0)) (M59 (a + 1 + 3) (M17 (a + 7 + 7 * (M17 a 6 : Int).toNat) 0)) (by omega) (by omega) (by omega) (by omega)) (Nat.le_of_ble_eq_true rfl) rfl rfl (Nat.le_of_ble_eq_true rfl) ⟨Nat.le_refl _, Nat.le_refl _⟩ (fun M82 J83  hI84 h85 => ?_)
                            have hK87 := hK62.tr h85 (by decide)
                            have hK88 := hK63.tr h85 (by decide)
                            refine q_goto C 308 dX0_go_261 rfl ?_
                            exact zK.weak (J_38 M82 J83 hI84 hK87) (zwk_c (zwk_c (zwk_c (zwk_n (zwk_n zwk_e)))))
                        · refine q_aload_n C dX0_go_161 (n := 162) rfl rfl ?_
                          refine q_aload_n C dX0_go_162 (n := 163) rfl rfl ?_
                          refine q_getR C dX0_go_163 (n := 166) rfl f_X0_14 h0.1 (hF _ _ _ h0.2.2.2.2.2.2.2.1) ?_
                          refine q_getR C dX0_go_166 (n := 169) rfl f_X0_97 h0.2.2.2.2.2.2.2.2.1.1 (hF _ _ _ h0.2.2.2.2.2.2.2.2.1.2.1) ?_
                          refine q_iload C dX0_go_169 (n := 171) rfl rfl ?_
                          have g89 := zI.at hI54 (h0.2.2.2.2.2.2.2.2.1.2.2.2.1 (M17 (a + 7 + 7 * (M17 a 6 : Int).toNat) 0))
                          have g90 : M52 (a + 1 + 1) (M17 (a + 7 + 7 * (M17 a 6 : Int).toNat) 0) + zand (M52 (a + 1 + 2) (M17 (a + 7 + 7 * (M17 a 6 : Int).toNat) 0)) 31 ≤ (L : Int) ∧ zand (M52 (a + 1 + 2) (M17 (a + 7 + 7 * (M17 a 6 : Int).toNat) 0)) 31 ≤ 30 := zI.row hI54 (h0.2.2.2.2.2.2.2.2.1.2.2.2.1 (M17 (a + 7 + 7 * (M17 a 6 : Int).toNat) 0))
                          refine q_iald C dX0_go_171 (n := 172) rfl h0.2.2.2.2.2.2.2.2.1.2.2.1 (by omega) (v := M52 (a + 1 + 1) (M17 (a + 7 + 7 * (M17 a 6 : Int).toNat) 0)) (zup_n e60 (zne_t (h0.2.2.2.2.2.2.2.2.1.2.2.2.1 (M17 (a + 7 + 7 * (M17 a 6 : Int).toNat) 0)) (h0.2.2.2.2.2.2.2.2.2.2.2.2.2.2.1 (M17 a 6) (by omega) (by omega)).2.2.1 (by decide))) ?_
                          refine q_aload_n C dX0_go_172 (n := 173) rfl rfl ?_
                          refine q_getR C dX0_go_173 (n := 176) rfl f_X0_14 h0.1 (hF _ _ _ h0.2.2.2.2.2.2.2.1) ?_
                          refine q_getR C dX0_go_176 (n := 179) rfl f_X0_100 h0.2.2.2.2.2.2.2.2.1.1 (hF _ _ _ h0.2.2.2.2.2.2.2.2.1.2.2.2.2.1) ?_
                          refine q_iload C dX0_go_179 (n := 181) rfl rfl ?_
                          have g91 := zI.at hI54 (h0.2.2.2.2.2.2.2.2.1.2.2.2.2.2.2.1 (M17 (a + 7 + 7 * (M17 a 6 : Int).toNat) 0))
                          refine q_iald C dX0_go_181 (n := 182) rfl h0.2.2.2.2.2.2.2.2.1.2.2.2.2.2.1 (by omega) (v := M52 (a + 1 + 2) (M17 (a + 7 + 7 * (M17 a 6 : Int).toNat) 0)) (zup_n e60 (zne_t (h0.2.2.2.2.2.2.2.2.1.2.2.2.2.2.2.1 (M17 (a + 7 + 7 * (M17 a 6 : Int).toNat) 0)) (h0.2.2.2.2.2.2.2.2.2.2.2.2.2.2.1 (M17 a 6) (by omega) (by omega)).2.2.1 (by decide))) ?_
                          refine q_aload_n C dX0_go_182 (n := 183) rfl rfl ?_
                          refine q_getR C dX0_go_183 (n := 186) rfl f_X0_14 h0.1 (hF _ _ _ h0.2.2.2.2.2.2.2.1) ?_
                          refine q_getR C dX0_go_186 (n := 189) rfl f_X0_103 h0.2.2.2.2.2.2.2.2.1.1 (hF _ _ _ h0.2.2.2.2.2.2.2.2.1.2.2.2.2.2.2.2.1) ?_
                          refine q_iload C dX0_go_189 (n := 191) rfl rfl ?_
                          have g92 := zI.at hI61 (h0.2.2.2.2.2.2.2.2.1.2.2.2.2.2.2.2.2.2.1 (M17 (a + 7 + 7 * (M17 a 6 : Int).toNat) 0))
                          refine q_iald C dX0_go_191 (n := 192) rfl h0.2.2.2.2.2.2.2.2.1.2.2.2.2.2.2.2.2.1 (by omega) (v := M59 (a + 1 + 3) (M17 (a + 7 + 7 * (M17 a 6 : Int).toNat) 0)) rfl ?_
                          refine q_callVi C dX0_go_192 (n := 195) rfl m_X0_63 v_yX5_add h_into.1 ⟨by decide, rfl⟩ (c_X5_add (w := w) (J := J53) hI61 hF h_into (M52 (a + 1 + 1) (M17 (a + 7 + 7 * (M17 a 6 : Int).toNat) 0)) (M52 (a + 1 + 2) (M17 (a + 7 + 7 * (M17 a 6 : Int).toNat) 0)) (M59 (a + 1 + 3) (M17 (a + 7 + 7 * (M17 a 6 : Int).toNat) 0)) (by omega) (by omega) (by omega) (by omega)) (Nat.le_of_ble_eq_true rfl) rfl rfl (Nat.le_of_ble_eq_true rfl) ⟨Nat.le_refl _, Nat.le_refl _⟩ (fun x100 M96 J97  hI98 h99 => ?_)
                          obtain ⟨hk101, h93, h94, h95⟩ := h99
                          have hK102 := hK62.tr hk101 (by decide)
                          have hK103 := hK63.tr hk101 (by decide)
                          refine q_pop C dX0_go_195 (n := 196) rfl rfl ?_
                          refine q_goto C 308 dX0_go_196 rfl ?_
                          exact zK.weak (J_38 M96 J97 hI98 hK102) (zwk_c (zwk_c (zwk_c (zwk_n (zwk_n zwk_e)))))
                      refine q_if_ne C 143 dX0_go_130 (n := 133) rfl rfl (by omega) (fun h104 => ?_) (fun h104 => ?_)
                      · exact zK.weak (J_57 M17 J18 hI19 hK20 (zKp.rf (G := G) (n := 10) (M := M17))) (zwk_c (zwk_c (zwk_c (zwk_c (zwk_c zwk_e)))))
                      · refine q_aload_n C dX0_go_133 (n := 134) rfl rfl ?_
                        refine q_aload_n C dX0_go_134 (n := 135) rfl rfl ?_
                        refine q_iload C dX0_go_135 (n := 137) rfl rfl ?_
                        refine q_callVi C dX0_go_137 (n := 140) rfl m_X0_93 v_yX0_isReplaced h0.1 ⟨by decide, rfl⟩ (c_X0_isReplaced (w := w) (J := J18) hI19 hF h0 (h0.2.2.2.2.2.2.2.2.2.2.2.2.2.2.1 (M17 a 6) (by omega) (by omega)).2 (M17 (a + 7 + 7 * (M17 a 6 : Int).toNat) 0) (by assumption) (by assumption) (by assumption) (by omega) (by omega)) (Nat.le_of_ble_eq_true rfl) rfl rfl (Nat.le_of_ble_eq_true rfl) ⟨Nat.le_refl _, Nat.le_refl _⟩ (fun x110 M106 J107  hI108 h109 => ?_)
                        obtain ⟨hk111, h105⟩ := h109
                        have hK112 := hK20.tr hk111 (by decide)
                        have hK113 := (zKp.rf (G := G) (n := 10) (M := M17)).tr hk111 (by decide)
                        refine q_if_ne C 308 dX0_go_140 (n := 143) rfl rfl (by omega) (fun h114 => ?_) (fun h114 => ?_)
                        · exact zK.weak (J_38 M106 J107 hI108 hK112) (zwk_c (zwk_c (zwk_c (zwk_n (zwk_n zwk_e)))))
                        · exact zK.weak (J_57 M106 J107 hI108 hK112 hK113) (zwk_c (zwk_c (zwk_c (zwk_c (zwk_c zwk_e)))))
                    · exact zK.weak (J_41) (zwk_c (zwk_c (zwk_c (zwk_n (zwk_n zwk_e)))))
              · refine q_aload_n C dX0_go_79 (n := 80) rfl rfl ?_
                refine q_aload_n C dX0_go_80 (n := 81) rfl rfl ?_
                refine q_callVv C dX0_go_81 (n := 84) rfl m_X0_83 v_yX0_doItem h0.1 ⟨by decide, rfl⟩ (c_X0_doItem (w := w) (J := J18) hI19 hF h0 (h0.2.2.2.2.2.2.2.2.2.2.2.2.2.2.1 (M17 a 6) (by omega) (by omega)).2 (by assumption) (by assumption) (by assumption) (by omega)) (Nat.le_of_ble_eq_true rfl) rfl rfl (Nat.le_of_ble_eq_true rfl) ⟨Nat.le_refl _, Nat.le_refl _⟩ (fun M115 J116  hI117 h118 => ?_)
                have hK120 := hK20.tr h118 (by decide)
                refine q_goto C 308 dX0_go_84 rfl ?_
                exact zK.weak (J_38 M115 J116 hI117 hK120) (zwk_c (zwk_c (zwk_c (zwk_n (zwk_n zwk_e)))))
    exact zK.weak (L_23 _ 0 M10 J11 hI12 hK15 (by omega) (by omega) (Int.self_le_toNat _)) (zwk_c (zwk_c (zwk_c (zwk_n (zwk_n zwk_e)))))
  refine q_if_le C 25 dX0_go_18 (n := 21) rfl rfl (by omega) (fun h121 => ?_) (fun h121 => ?_)
  · refine q_iconst C dX0_go_25 (n := 26) rfl ?_
    exact zK.weak (J_9 (-1) (by omega) (by omega)) (zwk_c (zwk_c (zwk_n (zwk_n (zwk_n zwk_e)))))
  · refine q_iconst C dX0_go_21 (n := 22) rfl ?_
    refine q_goto C 26 dX0_go_22 rfl ?_
    exact zK.weak (J_9 0 (by omega) (by omega)) (zwk_c (zwk_c (zwk_n (zwk_n (zwk_n zwk_e)))))
theorem c_X0_tallyInto {w : zWp} {T : zTl} {M : zMm} {J : zJm} {R : zRm'} {G : zGt} {F : zRm'} {a t mc q L ti : Nat} (hI : zI G M) (hF : zF F R) (h0 : zExpander T F G a t mc q L) (t_into : T[ti]? = some (50, 10)) (g_into : ∀ k, G ti k = (0, (-2147483648), 2147483647)) (v2 : Int) (p1 : v2 = 0 ∨ v2 = 1) : zCt w 2 0 0 yX0_tallyInto cX0_tallyInto 3 none [.ref (w.2.1 + a), .ref (w.2.1 + ti), zi v2] (T, M, J, R) (zPv T (zup R a 7 (some ti)) G (fun M2 => (zKp G 1 M M2))) := by
  refine zCt.of rfl (Nat.le_of_ble_eq_true rfl) ?_
  intro p e s m args below meth c C
  obtain ⟨Po, hPo⟩ : ∃ Po, Po = zPv T (zup R a 7 (some ti)) G (fun M2 => (zKp G 1 M M2)) := ⟨_, rfl⟩
  rw [← hPo]
  have hK0 : zKp G 1 M M := zKp.rf
  show zK w p e 2 0 0 s m args below meth c 3 T Po 0 [.ref (w.2.1 + a), .ref (w.2.1 + ti), zi v2] [] (T, M, J, R)
  refine q_aload_n C dX0_tallyInto_0 (n := 1) rfl rfl ?_
  refine q_aload_n C dX0_tallyInto_1 (n := 2) rfl rfl ?_
  refine q_putR C dX0_tallyInto_2 (n := 5) rfl f_X0_50 h0.1 rfl ⟨rfl, rfl⟩ (fun R1 (e2 : R1 = zup R a 7 (some ti)) => ?_)
  have hF := hF.put e2 h0.2.2.2.2.2.2.2.2.2.2.2.2.2.2.2.2.1
  refine q_aload_n C dX0_tallyInto_5 (n := 6) rfl rfl ?_
  refine q_iload_n C dX0_tallyInto_6 (n := 7) rfl rfl ?_
  refine q_putZ C dX0_tallyInto_7 (n := 10) rfl f_X0_34 h0.1 ⟨rfl, rfl⟩ (by omega) (fun M3 (e4 : M3 = zup M a 8 v2) => ?_)
  have hI5 : zI G M3 := hI.put e4 h0.2.2.2.2.2.2.2.2.2.2.2.2.2.2.2.2.2 rfl (by omega)
  have hK6 := hK0.put e4 h0.2.2.2.2.2.2.2.2.2.2.2.2.2.2.2.2.2 (by decide)
  refine q_iload_n C dX0_tallyInto_10 (n := 11) rfl rfl ?_
  refine q_if_ne C 19 dX0_tallyInto_11 (n := 14) rfl rfl (by omega) (fun h7 => ?_) (fun h7 => ?_)
  · subst e2
    exact q_vret C dX0_tallyInto_19 ⟨rfl, rfl⟩ (by rw [hPo]; exact ⟨M3, J, rfl, rfl, hI5, hK6⟩)
  · refine q_aload_n C dX0_tallyInto_14 (n := 15) rfl rfl ?_
    refine q_iconst C dX0_tallyInto_15 (n := 16) rfl ?_
    refine q_callSv C dX0_tallyInto_16 (n := 19) rfl m_X0_54 s_yJ7_fill_53178 (c_J7_fill (w := w) (J := J) hI5 hF t_into g_into 0 (by omega) (by omega)) (Nat.le_of_ble_eq_true rfl) rfl rfl (Nat.le_of_ble_eq_true rfl) ⟨Nat.le_refl _, Nat.le_refl _⟩ (fun M8 J9  hI10 h11 => ?_)
    have hK13 := hK6.tr h11 (by decide)
    subst e2
    exact q_vret C dX0_tallyInto_19 ⟨rfl, rfl⟩ (by rw [hPo]; exact ⟨M8, J9, rfl, rfl, hI10, hK13⟩)
