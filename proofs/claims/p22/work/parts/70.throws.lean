theorem c_X11_token {w : zWp} {T : zTl} {M : zMm} {J : zJm} {R : zRm'} {G : zGt} {F : zRm'} {a : Nat} (hI : zI G M) (hF : zF F R) (h0 : zHideSets T F G a) (v1 : Int) (v2 : Int) (p1 : -2147483648 ≤ v1 ∧ v1 ≤ 2147483647) (p2 : -2147483648 ≤ v2 ∧ v2 ≤ 2147483647) : zXt w 8 yX11_token cX11_token 4 (some .int) [.ref (w.2.1 + a), zi v1, zi v2] (T, M, J, R) (zPp T M J R (fun x => (-2147483648 ≤ x ∧ x ≤ 2147483647))) ((fun τ => τ = (T ++ [(99, 6)], M, J, R))) := by
  refine zXt.of rfl (Nat.le_of_ble_eq_true rfl) ?_
  intro p e s m args below meth c C htab
  obtain ⟨Po, hPo⟩ : ∃ Po, Po = zPp T M J R (fun x => (-2147483648 ≤ x ∧ x ≤ 2147483647)) := ⟨_, rfl⟩
  rw [← hPo]
  obtain ⟨Xo, hXo⟩ : ∃ Xo, Xo = (fun τ => τ = (T ++ [(99, 6)], M, J, R)) := ⟨_, rfl⟩
  rw [← hXo]
  obtain ⟨Q, hQ⟩ : ∃ Q, Q = vx_MQ below (zQc w Po) (zXc w Xo) args s 1 6 (zA w) := ⟨_, rfl⟩
  rw [← hQ]
  show zJ w p e 8 1 6 s m args below meth c 4 Q 0 0 0 [.ref (w.2.1 + a), zi v1, zi v2, .null] [] (T, M, J, R)
  refine jq_iload_n C dX11_token_0 (n := 1) rfl rfl ?_
  have J_1 : zJ w p e 8 1 6 s m args below meth c 4 Q 0 0 18 [.null, .null, .null, .null] [] (T, M, J, R) := by
    rw [hQ]
    exact j_throw C htab rfl (Nat.le_of_ble_eq_true rfl) (Nat.le_of_ble_eq_true rfl) dX11_token_18 dX11_token_21 dX11_token_22 dX11_token_25 (by subst hXo; exact rfl)
  refine jq_if_lt C 18 dX11_token_1 (n := 4) rfl rfl (by omega) (fun h2 => ?_) (fun h2 => ?_)
  · exact zJ.weak (J_1) (zwk_n (zwk_n (zwk_n (zwk_n zwk_e))))
  · refine jq_iload_n C dX11_token_4 (n := 5) rfl rfl ?_
    refine jq_aload_n C dX11_token_5 (n := 6) rfl rfl ?_
    refine jq_getR C dX11_token_6 (n := 9) rfl f_X11_43 h0.1 (hF _ _ _ h0.2.2.2.2.2.2.2.2.2.2.2.2.2.2.2.2.2.1) ?_
    refine jq_getR C dX11_token_9 (n := 12) rfl f_X11_120 h0.2.2.2.2.2.2.2.2.2.2.2.2.2.2.2.2.2.2.1.1 (hF _ _ _ h0.2.2.2.2.2.2.2.2.2.2.2.2.2.2.2.2.2.2.1.2.2.2.2.2.2.2.1) ?_
    have g3 := zI.at hI h0.2.2.2.2.2.2.2.2.2.2.2.2.2.2.2.2.2.2.1.2.2.2.2.2.2.2.2.1.2.2.2.2.2.2.2.2.2.2
    refine jq_getI C dX11_token_12 (n := 15) rfl f_X11_124 h0.2.2.2.2.2.2.2.2.2.2.2.2.2.2.2.2.2.2.1.2.2.2.2.2.2.2.2.1.1 (v := M (a + 30 + 2) 3) rfl ?_
    refine jq_icmp_lt C 26 dX11_token_15 (n := 18) rfl rfl (by omega) (fun h4 => ?_) (fun h4 => ?_)
    · refine jq_aload_n C dX11_token_26 (n := 27) rfl rfl ?_
      refine jq_getR C dX11_token_27 (n := 30) rfl f_X11_43 h0.1 (hF _ _ _ h0.2.2.2.2.2.2.2.2.2.2.2.2.2.2.2.2.2.1) ?_
      refine jq_getR C dX11_token_30 (n := 33) rfl f_X11_120 h0.2.2.2.2.2.2.2.2.2.2.2.2.2.2.2.2.2.2.1.1 (hF _ _ _ h0.2.2.2.2.2.2.2.2.2.2.2.2.2.2.2.2.2.2.1.2.2.2.2.2.2.2.1) ?_
      refine jq_getR C dX11_token_33 (n := 36) rfl f_X11_150 h0.2.2.2.2.2.2.2.2.2.2.2.2.2.2.2.2.2.2.1.2.2.2.2.2.2.2.2.1.1 (hF _ _ _ h0.2.2.2.2.2.2.2.2.2.2.2.2.2.2.2.2.2.2.1.2.2.2.2.2.2.2.2.1.2.2.2.2.1) ?_
      refine jq_iload_n C dX11_token_36 (n := 37) rfl rfl ?_
      have g5 := zI.at hI (h0.2.2.2.2.2.2.2.2.2.2.2.2.2.2.2.2.2.2.1.2.2.2.2.2.2.2.2.1.2.2.2.2.2.2.1 v1)
      refine jq_iald C dX11_token_37 (n := 38) rfl h0.2.2.2.2.2.2.2.2.2.2.2.2.2.2.2.2.2.2.1.2.2.2.2.2.2.2.2.1.2.2.2.2.2.1 (by omega) (v := M (a + 30 + 2 + 2) v1) rfl ?_
      refine jq_istore_n C [.ref (w.2.1 + a), zi v1, zi v2, zi (M (a + 30 + 2 + 2) v1)] dX11_token_38 (n := 39) rfl rfl rfl ?_
      refine jq_iload_n C dX11_token_39 (n := 40) rfl rfl ?_
      by_cases h6 : v2 = 0
      · refine jq_tabIn C 84 dX11_token_40 h6 (by omega) rfl rfl ?_
        refine jq_iload_n C dX11_token_84 (n := 85) rfl rfl ?_
        refine jq_callSp C dX11_token_85 (n := 88) rfl m_X11_153 s_yX5_kindOf (c_X5_kindOf (w := w) (J := J) hI hF (M (a + 30 + 2 + 2) v1)) (Nat.le_of_ble_eq_true rfl) rfl rfl (Nat.le_of_ble_eq_true rfl) ⟨Nat.zero_le _, Nat.zero_le _⟩ (fun x8 h9 => ?_)
        (rw [hQ]; exact j_iret C dX11_token_88 (by rw [hPo]; exact ⟨x8, rfl, rfl, by omega⟩))
      by_cases h10 : v2 = 1
      · refine jq_tabIn C 89 dX11_token_40 h10 (by omega) rfl rfl ?_
        refine jq_iload_n C dX11_token_89 (n := 90) rfl rfl ?_
        refine jq_callSp C dX11_token_90 (n := 93) rfl m_X11_156 s_yX5_lengthOf (c_X5_lengthOf (w := w) (J := J) hI hF (M (a + 30 + 2 + 2) v1)) (Nat.le_of_ble_eq_true rfl) rfl rfl (Nat.le_of_ble_eq_true rfl) ⟨Nat.zero_le _, Nat.zero_le _⟩ (fun x13 h14 => ?_)
        obtain ⟨h11, h12⟩ := h14
        (rw [hQ]; exact j_iret C dX11_token_93 (by rw [hPo]; exact ⟨x13, rfl, rfl, by omega⟩))
      by_cases h15 : v2 = 2
      · refine jq_tabIn C 94 dX11_token_40 h15 (by omega) rfl rfl ?_
        refine jq_iload_n C dX11_token_94 (n := 95) rfl rfl ?_
        refine jq_callSp C dX11_token_95 (n := 98) rfl m_X11_130 s_yX5_fileOf (c_X5_fileOf (w := w) (J := J) hI hF (M (a + 30 + 2 + 2) v1)) (Nat.le_of_ble_eq_true rfl) rfl rfl (Nat.le_of_ble_eq_true rfl) ⟨Nat.zero_le _, Nat.zero_le _⟩ (fun x17 h18 => ?_)
        (rw [hQ]; exact j_iret C dX11_token_98 (by rw [hPo]; exact ⟨x17, rfl, rfl, by omega⟩))
      by_cases h19 : v2 = 3
      · refine jq_tabIn C 99 dX11_token_40 h19 (by omega) rfl rfl ?_
        refine jq_iload_n C dX11_token_99 (n := 100) rfl rfl ?_
        refine jq_callSp C dX11_token_100 (n := 103) rfl m_X11_133 s_yX5_lineOf (c_X5_lineOf (w := w) (J := J) hI hF (M (a + 30 + 2 + 2) v1)) (Nat.le_of_ble_eq_true rfl) rfl rfl (Nat.le_of_ble_eq_true rfl) ⟨Nat.zero_le _, Nat.zero_le _⟩ (fun x21 h22 => ?_)
        (rw [hQ]; exact j_iret C dX11_token_103 (by rw [hPo]; exact ⟨x21, rfl, rfl, by omega⟩))
      by_cases h23 : v2 = 4
      · refine jq_tabIn C 104 dX11_token_40 h23 (by omega) rfl rfl ?_
        refine jq_iload_n C dX11_token_104 (n := 105) rfl rfl ?_
        refine jq_callSp C dX11_token_105 (n := 108) rfl m_X11_136 s_yX5_placeOf (c_X5_placeOf (w := w) (J := J) hI hF (M (a + 30 + 2 + 2) v1)) (Nat.le_of_ble_eq_true rfl) rfl rfl (Nat.le_of_ble_eq_true rfl) ⟨Nat.zero_le _, Nat.zero_le _⟩ (fun x25 h26 => ?_)
        (rw [hQ]; exact j_iret C dX11_token_108 (by rw [hPo]; exact ⟨x25, rfl, rfl, by omega⟩))
      by_cases h27 : v2 = 5
      · refine jq_tabIn C 109 dX11_token_40 h27 (by omega) rfl rfl ?_
        refine jq_aload_n C dX11_token_109 (n := 110) rfl rfl ?_
        refine jq_getR C dX11_token_110 (n := 113) rfl f_X11_43 h0.1 (hF _ _ _ h0.2.2.2.2.2.2.2.2.2.2.2.2.2.2.2.2.2.1) ?_
        refine jq_getR C dX11_token_113 (n := 116) rfl f_X11_120 h0.2.2.2.2.2.2.2.2.2.2.2.2.2.2.2.2.2.2.1.1 (hF _ _ _ h0.2.2.2.2.2.2.2.2.2.2.2.2.2.2.2.2.2.2.1.2.2.2.2.2.2.2.1) ?_
        refine jq_getR C dX11_token_116 (n := 119) rfl f_X11_159 h0.2.2.2.2.2.2.2.2.2.2.2.2.2.2.2.2.2.2.1.2.2.2.2.2.2.2.2.1.1 (hF _ _ _ h0.2.2.2.2.2.2.2.2.2.2.2.2.2.2.2.2.2.2.1.2.2.2.2.2.2.2.2.1.2.2.2.2.2.2.2.1) ?_
        refine jq_iload_n C dX11_token_119 (n := 120) rfl rfl ?_
        have g28 := zI.at hI (h0.2.2.2.2.2.2.2.2.2.2.2.2.2.2.2.2.2.2.1.2.2.2.2.2.2.2.2.1.2.2.2.2.2.2.2.2.2.1 v1)
        refine jq_iald C dX11_token_120 (n := 121) rfl h0.2.2.2.2.2.2.2.2.2.2.2.2.2.2.2.2.2.2.1.2.2.2.2.2.2.2.2.1.2.2.2.2.2.2.2.2.1 (by omega) (v := M (a + 30 + 2 + 3) v1) rfl ?_
        (rw [hQ]; exact j_iret C dX11_token_121 (by rw [hPo]; exact ⟨M (a + 30 + 2 + 3) v1, rfl, rfl, by omega⟩))
      by_cases h29 : v2 = 6
      · refine jq_tabIn C 122 dX11_token_40 h29 (by omega) rfl rfl ?_
        refine jq_iload_n C dX11_token_122 (n := 123) rfl rfl ?_
        refine jq_callSp C dX11_token_123 (n := 126) rfl m_X11_162 s_yX5_blankOf (c_X5_blankOf (w := w) (J := J) hI hF (M (a + 30 + 2 + 2) v1)) (Nat.le_of_ble_eq_true rfl) rfl rfl (Nat.le_of_ble_eq_true rfl) ⟨Nat.zero_le _, Nat.zero_le _⟩ (fun x31 h32 => ?_)
        (rw [hQ]; exact j_iret C dX11_token_126 (by rw [hPo]; exact ⟨x31, rfl, rfl, by omega⟩))
      refine jq_tabOut C 127 dX11_token_40 (by omega) (by omega) rfl ?_
      rw [hQ]
      exact j_throw C htab rfl (Nat.le_of_ble_eq_true rfl) (Nat.le_of_ble_eq_true rfl) dX11_token_127 dX11_token_130 dX11_token_131 dX11_token_134 (by subst hXo; exact rfl)
    · exact zJ.weak (J_1) (zwk_n (zwk_n (zwk_n (zwk_n zwk_e))))
theorem c_X11_macro {w : zWp} {T : zTl} {M : zMm} {J : zJm} {R : zRm'} {G : zGt} {F : zRm'} {a : Nat} (hI : zI G M) (hF : zF F R) (h0 : zHideSets T F G a) (v1 : Int) (v2 : Int) (p1 : -2147483648 ≤ v1 ∧ v1 ≤ 2147483647) (p2 : -2147483648 ≤ v2 ∧ v2 ≤ 2147483647) : zXt w 8 yX11_macro cX11_macro 5 (some .int) [.ref (w.2.1 + a), zi v1, zi v2] (T, M, J, R) (zPp T M J R (fun x => (-2147483648 ≤ x ∧ x ≤ 2147483647))) ((fun τ => τ = (T ++ [(99, 6)], M, J, R))) := by
  refine zXt.of rfl (Nat.le_of_ble_eq_true rfl) ?_
  intro p e s m args below meth c C htab
  obtain ⟨Po, hPo⟩ : ∃ Po, Po = zPp T M J R (fun x => (-2147483648 ≤ x ∧ x ≤ 2147483647)) := ⟨_, rfl⟩
  rw [← hPo]
  obtain ⟨Xo, hXo⟩ : ∃ Xo, Xo = (fun τ => τ = (T ++ [(99, 6)], M, J, R)) := ⟨_, rfl⟩
  rw [← hXo]
  obtain ⟨Q, hQ⟩ : ∃ Q, Q = vx_MQ below (zQc w Po) (zXc w Xo) args s 1 6 (zA w) := ⟨_, rfl⟩
  rw [← hQ]
  show zJ w p e 8 1 6 s m args below meth c 5 Q 0 0 0 [.ref (w.2.1 + a), zi v1, zi v2, .null, .null] [] (T, M, J, R)
  refine jq_aload_n C dX11_macro_0 (n := 1) rfl rfl ?_
  refine jq_getR C dX11_macro_1 (n := 4) rfl f_X11_43 h0.1 (hF _ _ _ h0.2.2.2.2.2.2.2.2.2.2.2.2.2.2.2.2.2.1) ?_
  refine jq_getR C dX11_macro_4 (n := 7) rfl f_X11_177 h0.2.2.2.2.2.2.2.2.2.2.2.2.2.2.2.2.2.2.1.1 (hF _ _ _ h0.2.2.2.2.2.2.2.2.2.2.2.2.2.2.2.2.2.2.1.2.2.2.2.2.1) ?_
  refine jq_astore_n C [.ref (w.2.1 + a), zi v1, zi v2, .ref (w.2.1 + (a + 30 + 24)), .null] dX11_macro_7 (n := 8) rfl rfl rfl ?_
  refine jq_iload_n C dX11_macro_8 (n := 9) rfl rfl ?_
  have J_1 : zJ w p e 8 1 6 s m args below meth c 5 Q 0 0 20 [.null, .null, .null, .null, .null] [] (T, M, J, R) := by
    rw [hQ]
    exact j_throw C htab rfl (Nat.le_of_ble_eq_true rfl) (Nat.le_of_ble_eq_true rfl) dX11_macro_20 dX11_macro_23 dX11_macro_24 dX11_macro_27 (by subst hXo; exact rfl)
  refine jq_if_lt C 20 dX11_macro_9 (n := 12) rfl rfl (by omega) (fun h2 => ?_) (fun h2 => ?_)
  · exact zJ.weak (J_1) (zwk_n (zwk_n (zwk_n (zwk_n (zwk_n zwk_e)))))
  · refine jq_iload_n C dX11_macro_12 (n := 13) rfl rfl ?_
    refine jq_aload_n C dX11_macro_13 (n := 14) rfl rfl ?_
    have g3 := zI.at hI h0.2.2.2.2.2.2.2.2.2.2.2.2.2.2.2.2.2.2.1.2.2.2.2.2.2.1.2.1
    refine jq_getI C dX11_macro_14 (n := 17) rfl f_X11_181 h0.2.2.2.2.2.2.2.2.2.2.2.2.2.2.2.2.2.2.1.2.2.2.2.2.2.1.1 (v := M (a + 30 + 24) 0) rfl ?_
    refine jq_icmp_lt C 28 dX11_macro_17 (n := 20) rfl rfl (by omega) (fun h4 => ?_) (fun h4 => ?_)
    · refine jq_aload_n C dX11_macro_28 (n := 29) rfl rfl ?_
      refine jq_getR C dX11_macro_29 (n := 32) rfl f_X11_184 h0.2.2.2.2.2.2.2.2.2.2.2.2.2.2.2.2.2.2.1.2.2.2.2.2.2.1.1 (hF _ _ _ h0.2.2.2.2.2.2.2.2.2.2.2.2.2.2.2.2.2.2.1.2.2.2.2.2.2.1.2.2.2.2.2.2.2.2.1) ?_
      refine jq_iload_n C dX11_macro_32 (n := 33) rfl rfl ?_
      have g5 := zI.at hI (h0.2.2.2.2.2.2.2.2.2.2.2.2.2.2.2.2.2.2.1.2.2.2.2.2.2.1.2.2.2.2.2.2.2.2.2.2.1 v1)
      refine jq_zald C dX11_macro_33 (n := 34) rfl h0.2.2.2.2.2.2.2.2.2.2.2.2.2.2.2.2.2.2.1.2.2.2.2.2.2.1.2.2.2.2.2.2.2.2.2.1 (by omega) (v := M (a + 30 + 24 + 3) v1) rfl ?_
      refine jq_istore C [.ref (w.2.1 + a), zi v1, zi v2, .ref (w.2.1 + (a + 30 + 24)), zi (M (a + 30 + 24 + 3) v1)] dX11_macro_34 (n := 36) rfl rfl rfl ?_
      refine jq_iload_n C dX11_macro_36 (n := 37) rfl rfl ?_
      by_cases h6 : v2 = 0
      · refine jq_tabIn C 76 dX11_macro_37 h6 (by omega) rfl rfl ?_
        refine jq_iload C dX11_macro_76 (n := 78) rfl rfl ?_
        refine jq_if_eq C 85 dX11_macro_78 (n := 81) rfl rfl (by omega) (fun h7 => ?_) (fun h7 => ?_)
        · refine jq_iconst C dX11_macro_85 (n := 86) rfl ?_
          (rw [hQ]; exact j_iret C dX11_macro_86 (by rw [hPo]; exact ⟨0, rfl, rfl, by omega⟩))
        · refine jq_iconst C dX11_macro_81 (n := 82) rfl ?_
          refine jq_goto C 86 dX11_macro_82 rfl ?_
          (rw [hQ]; exact j_iret C dX11_macro_86 (by rw [hPo]; exact ⟨1, rfl, rfl, by omega⟩))
      by_cases h8 : v2 = 1
      · refine jq_tabIn C 87 dX11_macro_37 h8 (by omega) rfl rfl ?_
        refine jq_iload C dX11_macro_87 (n := 89) rfl rfl ?_
        refine jq_if_eq C 101 dX11_macro_89 (n := 92) rfl rfl (by omega) (fun h9 => ?_) (fun h9 => ?_)
        · refine jq_iconst C dX11_macro_101 (n := 102) rfl ?_
          (rw [hQ]; exact j_iret C dX11_macro_102 (by rw [hPo]; exact ⟨(-1), rfl, rfl, by omega⟩))
        · refine jq_aload_n C dX11_macro_92 (n := 93) rfl rfl ?_
          refine jq_getR C dX11_macro_93 (n := 96) rfl f_X11_187 h0.2.2.2.2.2.2.2.2.2.2.2.2.2.2.2.2.2.2.1.2.2.2.2.2.2.1.1 (hF _ _ _ h0.2.2.2.2.2.2.2.2.2.2.2.2.2.2.2.2.2.2.1.2.2.2.2.2.2.1.2.2.2.2.2.2.2.2.2.2.2.1) ?_
          refine jq_iload_n C dX11_macro_96 (n := 97) rfl rfl ?_
          have g10 := zI.at hI (h0.2.2.2.2.2.2.2.2.2.2.2.2.2.2.2.2.2.2.1.2.2.2.2.2.2.1.2.2.2.2.2.2.2.2.2.2.2.2.2.1 v1)
          refine jq_iald C dX11_macro_97 (n := 98) rfl h0.2.2.2.2.2.2.2.2.2.2.2.2.2.2.2.2.2.2.1.2.2.2.2.2.2.1.2.2.2.2.2.2.2.2.2.2.2.2.1 (by omega) (v := M (a + 30 + 24 + 4) v1) rfl ?_
          refine jq_goto C 102 dX11_macro_98 rfl ?_
          (rw [hQ]; exact j_iret C dX11_macro_102 (by rw [hPo]; exact ⟨M (a + 30 + 24 + 4) v1, rfl, rfl, by omega⟩))
      by_cases h11 : v2 = 2
      · refine jq_tabIn C 103 dX11_macro_37 h11 (by omega) rfl rfl ?_
        refine jq_iload C dX11_macro_103 (n := 105) rfl rfl ?_
        refine jq_if_eq C 117 dX11_macro_105 (n := 108) rfl rfl (by omega) (fun h12 => ?_) (fun h12 => ?_)
        · refine jq_iconst C dX11_macro_117 (n := 118) rfl ?_
          (rw [hQ]; exact j_iret C dX11_macro_118 (by rw [hPo]; exact ⟨(-1), rfl, rfl, by omega⟩))
        · refine jq_aload_n C dX11_macro_108 (n := 109) rfl rfl ?_
          refine jq_getR C dX11_macro_109 (n := 112) rfl f_X11_190 h0.2.2.2.2.2.2.2.2.2.2.2.2.2.2.2.2.2.2.1.2.2.2.2.2.2.1.1 (hF _ _ _ h0.2.2.2.2.2.2.2.2.2.2.2.2.2.2.2.2.2.2.1.2.2.2.2.2.2.1.2.2.2.2.2.2.2.2.2.2.2.2.2.2.1) ?_
          refine jq_iload_n C dX11_macro_112 (n := 113) rfl rfl ?_
          have g13 := zI.at hI (h0.2.2.2.2.2.2.2.2.2.2.2.2.2.2.2.2.2.2.1.2.2.2.2.2.2.1.2.2.2.2.2.2.2.2.2.2.2.2.2.2.2.2.1 v1)
          refine jq_iald C dX11_macro_113 (n := 114) rfl h0.2.2.2.2.2.2.2.2.2.2.2.2.2.2.2.2.2.2.1.2.2.2.2.2.2.1.2.2.2.2.2.2.2.2.2.2.2.2.2.2.2.1 (by omega) (v := M (a + 30 + 24 + 5) v1) rfl ?_
          refine jq_goto C 118 dX11_macro_114 rfl ?_
          (rw [hQ]; exact j_iret C dX11_macro_118 (by rw [hPo]; exact ⟨M (a + 30 + 24 + 5) v1, rfl, rfl, by omega⟩))
      by_cases h14 : v2 = 3
      · refine jq_tabIn C 119 dX11_macro_37 h14 (by omega) rfl rfl ?_
        refine jq_iload C dX11_macro_119 (n := 121) rfl rfl ?_
        refine jq_if_eq C 133 dX11_macro_121 (n := 124) rfl rfl (by omega) (fun h15 => ?_) (fun h15 => ?_)
        · refine jq_iconst C dX11_macro_133 (n := 134) rfl ?_
          (rw [hQ]; exact j_iret C dX11_macro_134 (by rw [hPo]; exact ⟨(-1), rfl, rfl, by omega⟩))
        · refine jq_aload_n C dX11_macro_124 (n := 125) rfl rfl ?_
          refine jq_getR C dX11_macro_125 (n := 128) rfl f_X11_193 h0.2.2.2.2.2.2.2.2.2.2.2.2.2.2.2.2.2.2.1.2.2.2.2.2.2.1.1 (hF _ _ _ h0.2.2.2.2.2.2.2.2.2.2.2.2.2.2.2.2.2.2.1.2.2.2.2.2.2.1.2.2.2.2.2.2.2.2.2.2.2.2.2.2.2.2.2.1) ?_
          refine jq_iload_n C dX11_macro_128 (n := 129) rfl rfl ?_
          have g16 := zI.at hI (h0.2.2.2.2.2.2.2.2.2.2.2.2.2.2.2.2.2.2.1.2.2.2.2.2.2.1.2.2.2.2.2.2.2.2.2.2.2.2.2.2.2.2.2.2.2.1 v1)
          refine jq_iald C dX11_macro_129 (n := 130) rfl h0.2.2.2.2.2.2.2.2.2.2.2.2.2.2.2.2.2.2.1.2.2.2.2.2.2.1.2.2.2.2.2.2.2.2.2.2.2.2.2.2.2.2.2.2.1 (by omega) (v := M (a + 30 + 24 + 6) v1) rfl ?_
          refine jq_goto C 134 dX11_macro_130 rfl ?_
          (rw [hQ]; exact j_iret C dX11_macro_134 (by rw [hPo]; exact ⟨M (a + 30 + 24 + 6) v1, rfl, rfl, by omega⟩))
      by_cases h17 : v2 = 4
      · refine jq_tabIn C 135 dX11_macro_37 h17 (by omega) rfl rfl ?_
        refine jq_iload C dX11_macro_135 (n := 137) rfl rfl ?_
        refine jq_if_eq C 149 dX11_macro_137 (n := 140) rfl rfl (by omega) (fun h18 => ?_) (fun h18 => ?_)
        · refine jq_iconst C dX11_macro_149 (n := 150) rfl ?_
          (rw [hQ]; exact j_iret C dX11_macro_150 (by rw [hPo]; exact ⟨(-1), rfl, rfl, by omega⟩))
        · refine jq_aload_n C dX11_macro_140 (n := 141) rfl rfl ?_
          refine jq_getR C dX11_macro_141 (n := 144) rfl f_X11_195 h0.2.2.2.2.2.2.2.2.2.2.2.2.2.2.2.2.2.2.1.2.2.2.2.2.2.1.1 (hF _ _ _ h0.2.2.2.2.2.2.2.2.2.2.2.2.2.2.2.2.2.2.1.2.2.2.2.2.2.1.2.2.2.2.2.2.2.2.2.2.2.2.2.2.2.2.2.2.2.2.1) ?_
          refine jq_iload_n C dX11_macro_144 (n := 145) rfl rfl ?_
          have g19 := zI.at hI (h0.2.2.2.2.2.2.2.2.2.2.2.2.2.2.2.2.2.2.1.2.2.2.2.2.2.1.2.2.2.2.2.2.2.2.2.2.2.2.2.2.2.2.2.2.2.2.2.2.1 v1)
          refine jq_iald C dX11_macro_145 (n := 146) rfl h0.2.2.2.2.2.2.2.2.2.2.2.2.2.2.2.2.2.2.1.2.2.2.2.2.2.1.2.2.2.2.2.2.2.2.2.2.2.2.2.2.2.2.2.2.2.2.2.1 (by omega) (v := M (a + 30 + 24 + 7) v1) rfl ?_
          refine jq_goto C 150 dX11_macro_146 rfl ?_
          (rw [hQ]; exact j_iret C dX11_macro_150 (by rw [hPo]; exact ⟨M (a + 30 + 24 + 7) v1, rfl, rfl, by omega⟩))
      by_cases h20 : v2 = 5
      · refine jq_tabIn C 151 dX11_macro_37 h20 (by omega) rfl rfl ?_
        refine jq_aload_n C dX11_macro_151 (n := 152) rfl rfl ?_
        refine jq_getR C dX11_macro_152 (n := 155) rfl f_X11_197 h0.2.2.2.2.2.2.2.2.2.2.2.2.2.2.2.2.2.2.1.2.2.2.2.2.2.1.1 (hF _ _ _ h0.2.2.2.2.2.2.2.2.2.2.2.2.2.2.2.2.2.2.1.2.2.2.2.2.2.1.2.2.2.2.2.2.2.2.2.2.2.2.2.2.2.2.2.2.2.2.2.2.2.1) ?_
        refine jq_iload_n C dX11_macro_155 (n := 156) rfl rfl ?_
        have g21 := zI.at hI (h0.2.2.2.2.2.2.2.2.2.2.2.2.2.2.2.2.2.2.1.2.2.2.2.2.2.1.2.2.2.2.2.2.2.2.2.2.2.2.2.2.2.2.2.2.2.2.2.2.2.2.2.1 v1)
        refine jq_iald C dX11_macro_156 (n := 157) rfl h0.2.2.2.2.2.2.2.2.2.2.2.2.2.2.2.2.2.2.1.2.2.2.2.2.2.1.2.2.2.2.2.2.2.2.2.2.2.2.2.2.2.2.2.2.2.2.2.2.2.2.1 (by omega) (v := M (a + 30 + 24 + 8) v1) rfl ?_
        (rw [hQ]; exact j_iret C dX11_macro_157 (by rw [hPo]; exact ⟨M (a + 30 + 24 + 8) v1, rfl, rfl, by omega⟩))
      refine jq_tabOut C 158 dX11_macro_37 (by omega) (by omega) rfl ?_
      rw [hQ]
      exact j_throw C htab rfl (Nat.le_of_ble_eq_true rfl) (Nat.le_of_ble_eq_true rfl) dX11_macro_158 dX11_macro_161 dX11_macro_162 dX11_macro_165 (by subst hXo; exact rfl)
    · exact zJ.weak (J_1) (zwk_n (zwk_n (zwk_n (zwk_n (zwk_n zwk_e)))))
theorem c_X11_value {w : zWp} {T : zTl} {M : zMm} {J : zJm} {R : zRm'} {G : zGt} {F : zRm'} {a : Nat} (hI : zI G M) (hF : zF F R) (h0 : zHideSets T F G a) : zXt w 124 yX11_value cX11_value 4 (some .long) [.ref (w.2.1 + a)] (T, M, J, R) (zPlE T G (fun M2 R2 => (zKp G 19 M M2) ∧ (M2 a 1 = 0) ∧ (zRo R R2 (a + 30)))) ((fun τ => ∃ (M2 : zMm) (J2 : zJm) (R2 : zRm'), τ = (T ++ [(99, 6)], M2, J2, R2) ∧ zI G M2 ∧ zKp G 19 M M2 ∧ M2 a 1 = 0 ∧ zRo R R2 (a + 30))) := by
  refine zXt.of rfl (Nat.le_of_ble_eq_true rfl) ?_
  intro p e s m args below meth c C htab
  obtain ⟨Po, hPo⟩ : ∃ Po, Po = zPlE T G (fun M2 R2 => (zKp G 19 M M2) ∧ (M2 a 1 = 0) ∧ (zRo R R2 (a + 30))) := ⟨_, rfl⟩
  rw [← hPo]
  obtain ⟨Xo, hXo⟩ : ∃ Xo, Xo = (fun τ => ∃ (M2 : zMm) (J2 : zJm) (R2 : zRm'), τ = (T ++ [(99, 6)], M2, J2, R2) ∧ zI G M2 ∧ zKp G 19 M M2 ∧ M2 a 1 = 0 ∧ zRo R R2 (a + 30)) := ⟨_, rfl⟩
  rw [← hXo]
  obtain ⟨Q, hQ⟩ : ∃ Q, Q = vx_MQ below (zQc w Po) (zXc w Xo) args s 1 6 (zA w) := ⟨_, rfl⟩
  rw [← hQ]
  have hK0 : zKp G 19 M M := zKp.rf
  show zJ w p e 124 1 6 s m args below meth c 4 Q 0 0 0 [.ref (w.2.1 + a), .null, .null, .null] [] (T, M, J, R)
  refine jq_aload_n C dX11_value_0 (n := 1) rfl rfl ?_
  refine jq_callVi C dX11_value_1 (n := 4) rfl m_X11_54 v_yX11_takeTape h0.1 ⟨by decide, rfl⟩ (c_X11_takeTape (w := w) (J := J) hI hF h0) (Nat.le_of_ble_eq_true rfl) rfl rfl (Nat.le_of_ble_eq_true rfl) ⟨Nat.zero_le _, Nat.zero_le _⟩ (fun x9 M5 J6  hI7 h8 => ?_)
  obtain ⟨hk10, h1, h2, h3, h4⟩ := h8
  have hK11 := hK0.tr hk10 (by decide)
  refine jq_istore_n C [.ref (w.2.1 + a), zi x9, .null, .null] dX11_value_4 (n := 5) rfl rfl rfl ?_
  refine jq_aload_n C dX11_value_5 (n := 6) rfl rfl ?_
  refine jq_getR C dX11_value_6 (n := 9) rfl f_X11_43 h0.1 (hF _ _ _ h0.2.2.2.2.2.2.2.2.2.2.2.2.2.2.2.2.2.1) ?_
  refine jq_aload_n C dX11_value_9 (n := 10) rfl rfl ?_
  refine jq_getR C dX11_value_10 (n := 13) rfl f_X11_9 h0.1 (hF _ _ _ h0.2.1) ?_
  refine jq_iload_n C dX11_value_13 (n := 14) rfl rfl ?_
  refine jq_callVlE C dX11_value_14 (n := 17) rfl m_X11_143 v_yX6_worth h0.2.2.2.2.2.2.2.2.2.2.2.2.2.2.2.2.2.2.1.1 ⟨by decide, rfl⟩ (c_X6_worth (w := w) (J := J6) hI7 hF h0.2.2.2.2.2.2.2.2.2.2.2.2.2.2.2.2.2.2.1 h0.2.2.1 h0.2.2.2.1 x9 (by omega) (by omega) (by omega)) (Nat.le_of_ble_eq_true rfl) rfl rfl (Nat.le_of_ble_eq_true rfl) ⟨Nat.zero_le _, Nat.zero_le _⟩ (fun l18 M13 J14 R17 hI15 h16 => ?_)
  obtain ⟨hk19, h12⟩ := h16
  have hK20 := hK11.tr hk19 (by decide)
  have hF : zF F R17 := h12.F hF h0.2.2.2.2.2.2.2.2.2.2.2.2.2.2.2.2.2.2.1.2.2.2.2.2.2.2.2.2.2.2.2.2.2.2.2.2.2.2.1.2.2.2.2.2.2.2.2.2.2.2.2.2.2.2.2.1 h0.2.2.2.2.2.2.2.2.2.2.2.2.2.2.2.2.2.2.1.2.2.2.2.2.2.2.2.2.2.2.2.2.2.2.2.2.2.2.2.2.1.2.2.2.2.2.1
  refine jq_lstore_n C [.ref (w.2.1 + a), zi x9, .long l18, .null] dX11_value_17 (n := 18) rfl rfl rfl ?_
  refine jq_aload_n C dX11_value_18 (n := 19) rfl rfl ?_
  refine jq_getR C dX11_value_19 (n := 22) rfl f_X11_43 h0.1 (hF _ _ _ h0.2.2.2.2.2.2.2.2.2.2.2.2.2.2.2.2.2.1) ?_
  refine jq_getR C dX11_value_22 (n := 25) rfl f_X11_111 h0.2.2.2.2.2.2.2.2.2.2.2.2.2.2.2.2.2.2.1.1 (hF _ _ _ h0.2.2.2.2.2.2.2.2.2.2.2.2.2.2.2.2.2.2.1.2.2.2.1) ?_
  have g21 := zI.at hI15 h0.2.2.2.2.2.2.2.2.2.2.2.2.2.2.2.2.2.2.1.2.2.2.2.1.2.1
  refine jq_getI C dX11_value_25 (n := 28) rfl f_X11_115 h0.2.2.2.2.2.2.2.2.2.2.2.2.2.2.2.2.2.2.1.2.2.2.2.1.1 (v := M13 (a + 30 + 1) 0) rfl ?_
  refine jq_if_eq C 39 dX11_value_28 (n := 31) rfl rfl (by omega) (fun h22 => ?_) (fun h22 => ?_)
  · refine jq_lload_n C dX11_value_39 (n := 40) rfl rfl ?_
    (rw [hQ]; exact j_lret C dX11_value_40 (by rw [hPo]; exact ⟨l18, M13, J14, R17, rfl, rfl, hI15, hK20, (by have hz : M13 a 1 = M5 a 1 := (hk19 _ _ (zle_t h0.2.2.2.2.1 (by decide))); omega), h12⟩))
  · rw [hQ]
    exact j_throw C htab rfl (Nat.le_of_ble_eq_true rfl) (Nat.le_of_ble_eq_true rfl) dX11_value_31 dX11_value_34 dX11_value_35 dX11_value_38 (by subst hXo; exact ⟨M13, J14, R17, rfl, hI15, hK20, (by have hz : M13 a 1 = M5 a 1 := (hk19 _ _ (zle_t h0.2.2.2.2.1 (by decide))); omega), h12⟩)
