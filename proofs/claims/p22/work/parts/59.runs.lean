theorem zMe.sw {M M2 : zMm} {a : Nat} {m : Int} (h : zMe M a) (hm : 0 ≤ m ∧ m ≤ 11) (e211 : M2 (a + 18) (211 + m) = 1) (e199 : M2 (a + 18) (199 + m) = -1) (e979 : M2 (a + 18) (979 + (20 * m + 0)) = -1) (ew : ∀ j, 199 ≤ j → j ≠ 199 + m → j ≠ 211 + m → (j < 223 ∨ (259 ≤ j ∧ j < 739 ∧ (j < 259 + 20 * m ∨ 279 + 20 * m ≤ j) ∧ (j < 499 + 20 * m ∨ 519 + 20 * m ≤ j)) ∨ (979 ≤ j ∧ (j < 979 + 20 * m ∨ 999 + 20 * m ≤ j))) → M2 (a + 18) j = M (a + 18) j) (eb : ∀ j, 360 ≤ j → (j < 360 + 600 * m ∨ 960 + 600 * m ≤ j) → M2 (a + 20) j = M (a + 20) j) : zMe M2 a := by
  obtain ⟨mb, mp, q⟩ := h
  refine ⟨fun x => if x = m then 1 else mb x, fun x => if x = m then -1 else mp x, fun x x0 x1 => ?_, fun x => ?_, fun x => ?_⟩
  · show M2 (a + 18) (211 + x) = (if x = m then 1 else mb x) ∧ M2 (a + 18) (199 + x) = (if x = m then -1 else mp x) ∧ ∀ b, 0 ≤ b → b < (if x = m then 1 else mb x) → _
    by_cases e : x = m
    · subst e
      rw [if_pos rfl, if_pos rfl]
      refine ⟨e211, e199, fun b b0 b1 => ?_⟩
      have hb : b = 0 := by omega
      subst hb
      unfold zMb
      show (_ < (if x = x then -1 else mp x) ∨ _) ∧ (0 ≤ (if x = x then -1 else mp x) → _)
      rw [if_pos rfl]
      exact ⟨Or.inr e979, fun z => by omega⟩
    · rw [if_neg e, if_neg e]
      obtain ⟨h1, h2, h3⟩ := q.1 x x0 x1
      have hb2 := (q.2.1 x).2
      rw [ew (211 + x) (by omega) (by omega) (by omega) (by omega), ew (199 + x) (by omega) (by omega) (by omega) (by omega)]
      refine ⟨h1, h2, fun b b0 b1 => ?_⟩
      have t := h3 b b0 b1
      unfold zMb at t ⊢
      show (_ < (if x = m then -1 else mp x) ∨ _) ∧ (0 ≤ (if x = m then -1 else mp x) → _ → _ → _ → b + 1 < (if x = m then 1 else mb x) ∧ _)
      rw [if_neg e, if_neg e, ew (979 + (20 * x + b)) (by omega) (by omega) (by omega) (by omega), ew (259 + (20 * x + b)) (by omega) (by omega) (by omega) (by omega), ew (499 + (20 * x + b)) (by omega) (by omega) (by omega) (by omega), eb (360 + 30 * (20 * x + b)) (by omega) (by omega)]
      refine ⟨t.1, fun z1 z2 z3 z4 => ?_⟩
      obtain ⟨r1, r2⟩ := t.2 z1 z2 z3 z4
      refine ⟨r1, ?_⟩
      rw [ew (979 + (20 * x + (b + 1))) (by omega) (by omega) (by omega) (by omega)]
      exact r2
  · show 0 ≤ (if x = m then 1 else mb x) ∧ (if x = m then 1 else mb x) ≤ 20
    have := q.2.1 x
    split <;> omega
  · show (if x = m then -1 else mp x) ≤ 4
    have := q.2.2 x
    split <;> omega
theorem c_X12_laysSwitches {w : zWp} {T : zTl} {M : zMm} {J : zJm} {R : zRm'} {G : zGt} {F : zRm'} {a : Nat} (hI : zI G M) (hF : zF F R) (h0 : zModel T F G a) (v1 : Int) (p1 : zMe M a) (p2 : -2147483648 ≤ v1 ∧ v1 ≤ 2147483647) : zCt w 3 0 0 yX12_laysSwitches cX12_laysSwitches 4 none [.ref (w.2.1 + a), zi v1] (T, M, J, R) (zPv T R G (fun M2 => (zMd a [18, 20] [] [] M M2) ∧ (zMe M2 a) ∧ (M2 (a + 18) 3 = M (a + 18) 3))) := by
  refine zCt.of rfl (Nat.le_of_ble_eq_true rfl) ?_
  intro p e s m args below meth c C
  obtain ⟨Po, hPo⟩ : ∃ Po, Po = zPv T R G (fun M2 => (zMd a [18, 20] [] [] M M2) ∧ (zMe M2 a) ∧ (M2 (a + 18) 3 = M (a + 18) 3)) := ⟨_, rfl⟩
  rw [← hPo]
  have hK0 : zMd a [18, 20] [] [] M M := zMd.rf
  show zK w p e 3 0 0 s m args below meth c 4 T Po 0 [.ref (w.2.1 + a), zi v1, .null, .null] [] (T, M, J, R)
  refine q_aload_n C dX12_laysSwitches_0 (n := 1) rfl rfl ?_
  refine q_getR C dX12_laysSwitches_1 (n := 4) rfl f_X12_68 (zM0 h0) (hF _ _ _ (zM65 h0)) ?_
  refine q_iconst C dX12_laysSwitches_4 (n := 5) rfl ?_
  refine q_aload_n C dX12_laysSwitches_5 (n := 6) rfl rfl ?_
  refine q_getR C dX12_laysSwitches_6 (n := 9) rfl f_X12_17 (zM0 h0) (hF _ _ _ (zM7 h0)) ?_
  refine q_sipush C dX12_laysSwitches_9 (n := 12) rfl (x := 168) (by decide) ?_
  have g1 := zI.at hI (((zM9 h0) 168).trans (zfG_168 (by omega)))
  refine q_iald C dX12_laysSwitches_12 (n := 13) rfl (zM8 h0) (by omega) (v := M (a + 2) 168) rfl ?_
  refine q_iast C dX12_laysSwitches_13 (n := 14) rfl (zM66 h0) (by omega)  (fun M2 e3 => ?_)
  have hp4 : zMe M2 a := p1.up e3 (by omega)
  have hI5 : zI G M2 := hI.put e3 (((zM67 h0) 0).trans (zwG_0 (by omega))) rfl (by omega)
  have hK6 := hK0.upA e3 rfl
  refine q_iconst C dX12_laysSwitches_14 (n := 15) rfl ?_
  refine q_istore_n C [.ref (w.2.1 + a), zi v1, zi 0, .null] dX12_laysSwitches_15 (n := 16) rfl rfl rfl ?_
  have L_19 : ∀ n20 : Nat, ∀ (u7 : Int) (M9 : zMm) (J10 : zJm), zI G M9 → zMd a [18, 20] [] [] M M9 → zMd a [18, 20] [] [] M2 M9 → (-2147483648 ≤ u7 ∧ u7 ≤ 2147483647) → (0 ≤ u7 ∧ u7 ≤ 3) → (zMe M9 a) → (M9 (a + 18) 0 ≤ 3) → (M9 (a + 18) 3 = M (a + 18) 3) → (3 - u7 + 1 ≤ (n20 : Int)) → zK w p e 3 0 0 s m args below meth c 4 T Po 16 [.ref (w.2.1 + a), zi v1, zi u7, .null] [] (T, M9, J10, R) := by
    intro n20
    induction n20 with
    | zero =>
      intro u7 M9 J10 hI11 hK12 hK13 h14 h15 h16 h17 h18 hm22
      exfalso
      omega
    | succ n20 ih21 =>
      intro u7 M9 J10 hI11 hK12 hK13 h14 h15 h16 h17 h18 hm22
      have hz23 : M9 (a + 18) 3 = M (a + 18) 3 := (h18)
      refine q_iload_n C dX12_laysSwitches_16 (n := 17) rfl rfl ?_
      refine q_aload_n C dX12_laysSwitches_17 (n := 18) rfl rfl ?_
      refine q_getR C dX12_laysSwitches_18 (n := 21) rfl f_X12_68 (zM0 h0) (hF _ _ _ (zM65 h0)) ?_
      refine q_iconst C dX12_laysSwitches_21 (n := 22) rfl ?_
      have g24 := zI.at hI11 (((zM67 h0) 0).trans (zwG_0 (by omega)))
      refine q_iald C dX12_laysSwitches_22 (n := 23) rfl (zM66 h0) (by omega) (v := M9 (a + 18) 0) rfl ?_
      refine q_icmp_ge C 231 dX12_laysSwitches_23 (n := 26) rfl rfl (by omega) (fun h25 => ?_) (fun h25 => ?_)
      · exact q_vret C dX12_laysSwitches_231 ⟨rfl, rfl⟩ (by rw [hPo]; exact ⟨M9, J10, rfl, rfl, hI11, hK12, h16, by have hz26 : M9 (a + 18) 3 = M (a + 18) 3 := (h18); omega⟩)
      · refine q_aload_n C dX12_laysSwitches_26 (n := 27) rfl rfl ?_
        refine q_getR C dX12_laysSwitches_27 (n := 30) rfl f_X12_68 (zM0 h0) (hF _ _ _ (zM65 h0)) ?_
        refine q_sipush C dX12_laysSwitches_30 (n := 33) rfl (x := 175) (by decide) ?_
        refine q_iload_n C dX12_laysSwitches_33 (n := 34) rfl rfl ?_
        refine q_iadd C dX12_laysSwitches_34 (n := 35) rfl (v := 175 + u7) rfl ?_
        refine q_aload_n C dX12_laysSwitches_35 (n := 36) rfl rfl ?_
        refine q_getR C dX12_laysSwitches_36 (n := 39) rfl f_X12_17 (zM0 h0) (hF _ _ _ (zM7 h0)) ?_
        refine q_sipush C dX12_laysSwitches_39 (n := 42) rfl (x := 169) (by decide) ?_
        refine q_iload_n C dX12_laysSwitches_42 (n := 43) rfl rfl ?_
        refine q_iadd C dX12_laysSwitches_43 (n := 44) rfl (v := 169 + u7) rfl ?_
        have g27 := zI.at hI (((zM9 h0) (169 + u7)).trans (zfG_169 (by omega)))
        refine q_iald C dX12_laysSwitches_44 (n := 45) rfl (zM8 h0) (by omega) (v := M (a + 2) (169 + u7)) ((hK13.getA rfl rfl rfl).trans (zup_p e3 (by omega) _)) ?_
        refine q_iast C dX12_laysSwitches_45 (n := 46) rfl (zM66 h0) (by omega)  (fun M28 e29 => ?_)
        have hp30 : zMe M28 a := h16.up e29 (by omega)
        have hI31 : zI G M28 := hI11.put e29 (((zM67 h0) (175 + u7)).trans (zwG_175 (by omega))) rfl (by omega)
        have hK32 := hK12.upA e29 rfl
        have hK33 := hK13.upA e29 rfl
        refine q_iconst C dX12_laysSwitches_46 (n := 47) rfl ?_
        refine q_istore_n C [.ref (w.2.1 + a), zi v1, zi u7, zi 0] dX12_laysSwitches_47 (n := 48) rfl rfl rfl ?_
        have L_45 : ∀ n46 : Nat, ∀ (u34 : Int) (M36 : zMm) (J37 : zJm), zI G M36 → zMd a [18, 20] [] [] M M36 → zMd a [18, 20] [] [] M2 M36 → zMd a [20] [] [] M28 M36 → (-2147483648 ≤ u34 ∧ u34 ≤ 2147483647) → (0 ≤ u34 ∧ u34 ≤ 30) → (∀ j, 360 ≤ j → M36 (a + 20) j = M28 (a + 20) j) → (30 - u34 + 1 ≤ (n46 : Int)) → zK w p e 3 0 0 s m args below meth c 4 T Po 48 [.ref (w.2.1 + a), zi v1, zi u7, zi u34] [] (T, M36, J37, R) := by
          intro n46
          induction n46 with
          | zero =>
            intro u34 M36 J37 hI38 hK39 hK40 hK41 h42 h43 h44 hm48
            exfalso
            omega
          | succ n46 ih47 =>
            intro u34 M36 J37 hI38 hK39 hK40 hK41 h42 h43 h44 hm48
            refine q_iload_n C dX12_laysSwitches_48 (n := 49) rfl rfl ?_
            refine q_bipush C dX12_laysSwitches_49 (n := 51) rfl (x := 30) (by decide) ?_
            refine q_icmp_ge C 86 dX12_laysSwitches_51 (n := 54) rfl rfl (by omega) (fun h49 => ?_) (fun h49 => ?_)
            · refine q_aload_n C dX12_laysSwitches_86 (n := 87) rfl rfl ?_
              refine q_getR C dX12_laysSwitches_87 (n := 90) rfl f_X12_68 (zM0 h0) (hF _ _ _ (zM65 h0)) ?_
              refine q_sipush C dX12_laysSwitches_90 (n := 93) rfl (x := 187) (by decide) ?_
              refine q_iload_n C dX12_laysSwitches_93 (n := 94) rfl rfl ?_
              refine q_iadd C dX12_laysSwitches_94 (n := 95) rfl (v := 187 + u7) rfl ?_
              refine q_iload_n C dX12_laysSwitches_95 (n := 96) rfl rfl ?_
              refine q_iload_n C dX12_laysSwitches_96 (n := 97) rfl rfl ?_
              refine q_callSp C dX12_laysSwitches_97 (n := 100) rfl m_X12_494 s_yX12_bitOf (c_X12_bitOf (w := w) (J := J37) hI38 hF v1 u7 (by omega) (by omega)) (Nat.le_of_ble_eq_true rfl) rfl rfl (Nat.le_of_ble_eq_true rfl) ⟨Nat.le_refl _, Nat.le_refl _⟩ (fun x51 h52 => ?_)
              have J_56 : ∀ (u53 : Int), (-2147483648 ≤ u53 ∧ u53 ≤ 2147483647) → (u53 = 0 ∨ u53 = 1) → zK w p e 3 0 0 s m args below meth c 4 T Po 108 [.ref (w.2.1 + a), zi v1, zi u7, .null] [zi u53, zi (187 + u7), .ref (w.2.1 + (a + 18))] (T, M36, J37, R) := by
                intro u53 h54 h55
                refine q_iast C dX12_laysSwitches_108 (n := 109) rfl (zM66 h0) (by omega)  (fun M57 e58 => ?_)
                have hI59 : zI G M57 := hI38.put e58 (((zM67 h0) (187 + u7)).trans (zwG_187 (by omega))) rfl (by omega)
                have hK60 := hK39.upA e58 rfl
                have hK61 := hK40.upA e58 rfl
                refine q_aload_n C dX12_laysSwitches_109 (n := 110) rfl rfl ?_
                refine q_getR C dX12_laysSwitches_110 (n := 113) rfl f_X12_68 (zM0 h0) (hF _ _ _ (zM65 h0)) ?_
                refine q_sipush C dX12_laysSwitches_113 (n := 116) rfl (x := 199) (by decide) ?_
                refine q_iload_n C dX12_laysSwitches_116 (n := 117) rfl rfl ?_
                refine q_iadd C dX12_laysSwitches_117 (n := 118) rfl (v := 199 + u7) rfl ?_
                refine q_iconst C dX12_laysSwitches_118 (n := 119) rfl ?_
                refine q_iast C dX12_laysSwitches_119 (n := 120) rfl (zM66 h0) (by omega)  (fun M63 e64 => ?_)
                have hI65 : zI G M63 := hI59.put e64 (((zM67 h0) (199 + u7)).trans (zwG_199 (by omega))) rfl (by omega)
                have hK66 := hK60.upA e64 rfl
                have hK67 := hK61.upA e64 rfl
                refine q_aload_n C dX12_laysSwitches_120 (n := 121) rfl rfl ?_
                refine q_getR C dX12_laysSwitches_121 (n := 124) rfl f_X12_68 (zM0 h0) (hF _ _ _ (zM65 h0)) ?_
                refine q_sipush C dX12_laysSwitches_124 (n := 127) rfl (x := 211) (by decide) ?_
                refine q_iload_n C dX12_laysSwitches_127 (n := 128) rfl rfl ?_
                refine q_iadd C dX12_laysSwitches_128 (n := 129) rfl (v := 211 + u7) rfl ?_
                refine q_iconst C dX12_laysSwitches_129 (n := 130) rfl ?_
                refine q_iast C dX12_laysSwitches_130 (n := 131) rfl (zM66 h0) (by omega)  (fun M68 e69 => ?_)
                have hI70 : zI G M68 := hI65.put e69 (((zM67 h0) (211 + u7)).trans (zwG_211 (by omega))) rfl (by omega)
                have hK71 := hK66.upA e69 rfl
                have hK72 := hK67.upA e69 rfl
                refine q_aload_n C dX12_laysSwitches_131 (n := 132) rfl rfl ?_
                refine q_getR C dX12_laysSwitches_132 (n := 135) rfl f_X12_68 (zM0 h0) (hF _ _ _ (zM65 h0)) ?_
                refine q_sipush C dX12_laysSwitches_135 (n := 138) rfl (x := 223) (by decide) ?_
                refine q_iload_n C dX12_laysSwitches_138 (n := 139) rfl rfl ?_
                refine q_iadd C dX12_laysSwitches_139 (n := 140) rfl (v := 223 + u7) rfl ?_
                refine q_iconst C dX12_laysSwitches_140 (n := 141) rfl ?_
                refine q_iast C dX12_laysSwitches_141 (n := 142) rfl (zM66 h0) (by omega)  (fun M73 e74 => ?_)
                have hI75 : zI G M73 := hI70.put e74 (((zM67 h0) (223 + u7)).trans (zwG_223 (by omega))) rfl (by omega)
                have hK76 := hK71.upA e74 rfl
                have hK77 := hK72.upA e74 rfl
                refine q_aload_n C dX12_laysSwitches_142 (n := 143) rfl rfl ?_
                refine q_getR C dX12_laysSwitches_143 (n := 146) rfl f_X12_68 (zM0 h0) (hF _ _ _ (zM65 h0)) ?_
                refine q_sipush C dX12_laysSwitches_146 (n := 149) rfl (x := 235) (by decide) ?_
                refine q_iload_n C dX12_laysSwitches_149 (n := 150) rfl rfl ?_
                refine q_iadd C dX12_laysSwitches_150 (n := 151) rfl (v := 235 + u7) rfl ?_
                refine q_iconst C dX12_laysSwitches_151 (n := 152) rfl ?_
                refine q_iast C dX12_laysSwitches_152 (n := 153) rfl (zM66 h0) (by omega)  (fun M78 e79 => ?_)
                have hI80 : zI G M78 := hI75.put e79 (((zM67 h0) (235 + u7)).trans (zwG_223 (by omega))) rfl (by omega)
                have hK81 := hK76.upA e79 rfl
                have hK82 := hK77.upA e79 rfl
                refine q_aload_n C dX12_laysSwitches_153 (n := 154) rfl rfl ?_
                refine q_getR C dX12_laysSwitches_154 (n := 157) rfl f_X12_68 (zM0 h0) (hF _ _ _ (zM65 h0)) ?_
                refine q_sipush C dX12_laysSwitches_157 (n := 160) rfl (x := 259) (by decide) ?_
                refine q_iload_n C dX12_laysSwitches_160 (n := 161) rfl rfl ?_
                refine q_iconst C dX12_laysSwitches_161 (n := 162) rfl ?_
                refine q_callSp C dX12_laysSwitches_162 (n := 165) rfl m_X12_412 s_yX12_bodyAt (c_X12_bodyAt (w := w) (J := J37) hI80 hF u7 0) (Nat.le_of_ble_eq_true rfl) rfl rfl (Nat.le_of_ble_eq_true rfl) ⟨Nat.le_refl _, Nat.le_refl _⟩ (fun x84 h85 => ?_)
                obtain rfl : x84 = 20 * u7 + 0 := h85
                refine q_iadd C dX12_laysSwitches_165 (n := 166) rfl (v := 259 + (20 * u7 + 0)) rfl ?_
                refine q_iconst C dX12_laysSwitches_166 (n := 167) rfl ?_
                refine q_iast C dX12_laysSwitches_167 (n := 168) rfl (zM66 h0) (by omega)  (fun M86 e87 => ?_)
                have hI88 : zI G M86 := hI80.put e87 (((zM67 h0) (259 + (20 * u7 + 0))).trans (zwG_259 (by omega))) rfl (by omega)
                have hK89 := hK81.upA e87 rfl
                have hK90 := hK82.upA e87 rfl
                refine q_aload_n C dX12_laysSwitches_168 (n := 169) rfl rfl ?_
                refine q_getR C dX12_laysSwitches_169 (n := 172) rfl f_X12_68 (zM0 h0) (hF _ _ _ (zM65 h0)) ?_
                refine q_sipush C dX12_laysSwitches_172 (n := 175) rfl (x := 499) (by decide) ?_
                refine q_iload_n C dX12_laysSwitches_175 (n := 176) rfl rfl ?_
                refine q_iconst C dX12_laysSwitches_176 (n := 177) rfl ?_
                refine q_callSp C dX12_laysSwitches_177 (n := 180) rfl m_X12_412 s_yX12_bodyAt (c_X12_bodyAt (w := w) (J := J37) hI88 hF u7 0) (Nat.le_of_ble_eq_true rfl) rfl rfl (Nat.le_of_ble_eq_true rfl) ⟨Nat.le_refl _, Nat.le_refl _⟩ (fun x92 h93 => ?_)
                obtain rfl : x92 = 20 * u7 + 0 := h93
                refine q_iadd C dX12_laysSwitches_180 (n := 181) rfl (v := 499 + (20 * u7 + 0)) rfl ?_
                refine q_iconst C dX12_laysSwitches_181 (n := 182) rfl ?_
                refine q_iast C dX12_laysSwitches_182 (n := 183) rfl (zM66 h0) (by omega)  (fun M94 e95 => ?_)
                have hI96 : zI G M94 := hI88.put e95 (((zM67 h0) (499 + (20 * u7 + 0))).trans (zwG_499 (by omega))) rfl (by omega)
                have hK97 := hK89.upA e95 rfl
                have hK98 := hK90.upA e95 rfl
                refine q_aload_n C dX12_laysSwitches_183 (n := 184) rfl rfl ?_
                refine q_getR C dX12_laysSwitches_184 (n := 187) rfl f_X12_68 (zM0 h0) (hF _ _ _ (zM65 h0)) ?_
                refine q_sipush C dX12_laysSwitches_187 (n := 190) rfl (x := 739) (by decide) ?_
                refine q_iload_n C dX12_laysSwitches_190 (n := 191) rfl rfl ?_
                refine q_iconst C dX12_laysSwitches_191 (n := 192) rfl ?_
                refine q_callSp C dX12_laysSwitches_192 (n := 195) rfl m_X12_412 s_yX12_bodyAt (c_X12_bodyAt (w := w) (J := J37) hI96 hF u7 0) (Nat.le_of_ble_eq_true rfl) rfl rfl (Nat.le_of_ble_eq_true rfl) ⟨Nat.le_refl _, Nat.le_refl _⟩ (fun x100 h101 => ?_)
                obtain rfl : x100 = 20 * u7 + 0 := h101
                refine q_iadd C dX12_laysSwitches_195 (n := 196) rfl (v := 739 + (20 * u7 + 0)) rfl ?_
                refine q_iconst C dX12_laysSwitches_196 (n := 197) rfl ?_
                refine q_iast C dX12_laysSwitches_197 (n := 198) rfl (zM66 h0) (by omega)  (fun M102 e103 => ?_)
                have hI104 : zI G M102 := hI96.put e103 (((zM67 h0) (739 + (20 * u7 + 0))).trans (zwG_739 (by omega))) rfl (by omega)
                have hK105 := hK97.upA e103 rfl
                have hK106 := hK98.upA e103 rfl
                refine q_aload_n C dX12_laysSwitches_198 (n := 199) rfl rfl ?_
                refine q_getR C dX12_laysSwitches_199 (n := 202) rfl f_X12_68 (zM0 h0) (hF _ _ _ (zM65 h0)) ?_
                refine q_sipush C dX12_laysSwitches_202 (n := 205) rfl (x := 979) (by decide) ?_
                refine q_iload_n C dX12_laysSwitches_205 (n := 206) rfl rfl ?_
                refine q_iconst C dX12_laysSwitches_206 (n := 207) rfl ?_
                refine q_callSp C dX12_laysSwitches_207 (n := 210) rfl m_X12_412 s_yX12_bodyAt (c_X12_bodyAt (w := w) (J := J37) hI104 hF u7 0) (Nat.le_of_ble_eq_true rfl) rfl rfl (Nat.le_of_ble_eq_true rfl) ⟨Nat.le_refl _, Nat.le_refl _⟩ (fun x108 h109 => ?_)
                obtain rfl : x108 = 20 * u7 + 0 := h109
                refine q_iadd C dX12_laysSwitches_210 (n := 211) rfl (v := 979 + (20 * u7 + 0)) rfl ?_
                refine q_iconst C dX12_laysSwitches_211 (n := 212) rfl ?_
                refine q_iast C dX12_laysSwitches_212 (n := 213) rfl (zM66 h0) (by omega)  (fun M110 e111 => ?_)
                have hI112 : zI G M110 := hI104.put e111 (((zM67 h0) (979 + (20 * u7 + 0))).trans (zwG_979 (by omega))) rfl (by omega)
                have hK113 := hK105.upA e111 rfl
                have hK114 := hK106.upA e111 rfl
                refine q_aload_n C dX12_laysSwitches_213 (n := 214) rfl rfl ?_
                refine q_getR C dX12_laysSwitches_214 (n := 217) rfl f_X12_74 (zM0 h0) (hF _ _ _ (zM71 h0)) ?_
                refine q_iload_n C dX12_laysSwitches_217 (n := 218) rfl rfl ?_
                refine q_iconst C dX12_laysSwitches_218 (n := 219) rfl ?_
                refine q_callSp C dX12_laysSwitches_219 (n := 222) rfl m_X12_415 s_yX12_bodyByte (c_X12_bodyByte (w := w) (J := J37) hI112 hF u7 0) (Nat.le_of_ble_eq_true rfl) rfl rfl (Nat.le_of_ble_eq_true rfl) ⟨Nat.le_refl _, Nat.le_refl _⟩ (fun x116 h117 => ?_)
                obtain rfl : x116 = 360 + 30 * (20 * u7 + 0) := h117
                refine q_bipush C dX12_laysSwitches_222 (n := 224) rfl (x := 49) (by decide) ?_
                refine q_bast C dX12_laysSwitches_224 (n := 225) rfl (zM72 h0) (by omega) (by omega) (fun M118 e119 => ?_)
                have hI120 : zI G M118 := hI112.put e119 ((zM73 h0) (360 + 30 * (20 * u7 + 0))) rfl (by omega)
                have hK121 := hK113.upA e119 rfl
                have hK122 := hK114.upA e119 rfl
                refine q_iinc C [.ref (w.2.1 + a), zi v1, zi (u7 + 1), .null] dX12_laysSwitches_225 (n := 228) rfl rfl rfl rfl ?_
                refine q_goto C 16 dX12_laysSwitches_228 rfl ?_
                exact zK.weak (ih21 (u7 + 1) M118 J37 hI120 hK121 hK122 (by omega) (by omega) (zMe.sw (m := u7) h16 (by omega) ((zup_p e119 (by omega) _).trans ((zup_n e111 (by omega)).trans ((zup_n e103 (by omega)).trans ((zup_n e95 (by omega)).trans ((zup_n e87 (by omega)).trans ((zup_n e79 (by omega)).trans ((zup_n e74 (by omega)).trans (zup_s e69)))))))) ((zup_p e119 (by omega) _).trans ((zup_n e111 (by omega)).trans ((zup_n e103 (by omega)).trans ((zup_n e95 (by omega)).trans ((zup_n e87 (by omega)).trans ((zup_n e79 (by omega)).trans ((zup_n e74 (by omega)).trans ((zup_n e69 (by omega)).trans (zup_s e64))))))))) ((zup_p e119 (by omega) _).trans (zup_s e111)) (fun j j0 j1 j2 j3 => ((zup_p e119 (by omega) _).trans ((zup_n e111 (by omega)).trans ((zup_n e103 (by omega)).trans ((zup_n e95 (by omega)).trans ((zup_n e87 (by omega)).trans ((zup_n e79 (by omega)).trans ((zup_n e74 (by omega)).trans ((zup_n e69 (by omega)).trans ((zup_n e64 (by omega)).trans ((zup_n e58 (by omega)).trans ((hK41.getA rfl rfl rfl).trans (zup_n e29 (by omega)))))))))))))) (fun j j0 j1 => (((zup_n e119 (by omega)).trans ((zup_p e111 (by omega) _).trans ((zup_p e103 (by omega) _).trans ((zup_p e95 (by omega) _).trans ((zup_p e87 (by omega) _).trans ((zup_p e79 (by omega) _).trans ((zup_p e74 (by omega) _).trans ((zup_p e69 (by omega) _).trans ((zup_p e64 (by omega) _).trans (zup_p e58 (by omega) _))))))))))).trans ((h44 j j0).trans ((zup_p e29 (by omega) _))))) (by have hw : M118 (a + 18) 0 = M9 (a + 18) 0 := ((zup_p e119 (by omega) _).trans ((zup_n e111 (by omega)).trans ((zup_n e103 (by omega)).trans ((zup_n e95 (by omega)).trans ((zup_n e87 (by omega)).trans ((zup_n e79 (by omega)).trans ((zup_n e74 (by omega)).trans ((zup_n e69 (by omega)).trans ((zup_n e64 (by omega)).trans ((zup_n e58 (by omega)).trans ((hK41.getA rfl rfl rfl).trans (zup_n e29 (by omega))))))))))))); omega) (by have hw : M118 (a + 18) 3 = M (a + 18) 3 := ((zup_p e119 (by omega) _).trans ((zup_n e111 (by omega)).trans ((zup_n e103 (by omega)).trans ((zup_n e95 (by omega)).trans ((zup_n e87 (by omega)).trans ((zup_n e79 (by omega)).trans ((zup_n e74 (by omega)).trans ((zup_n e69 (by omega)).trans ((zup_n e64 (by omega)).trans ((zup_n e58 (by omega)).trans ((hK41.getA rfl rfl rfl).trans ((zup_n e29 (by omega)).trans (h18))))))))))))); omega) (by omega)) (zwk_c (zwk_c (zwk_c (zwk_n zwk_e))))
              refine q_if_eq C 107 dX12_laysSwitches_100 (n := 103) rfl rfl (by omega) (fun h123 => ?_) (fun h123 => ?_)
              · refine q_iconst C dX12_laysSwitches_107 (n := 108) rfl ?_
                exact zK.weak (J_56 0 (by omega) (by omega)) (zwk_c (zwk_c (zwk_c (zwk_n zwk_e))))
              · refine q_iconst C dX12_laysSwitches_103 (n := 104) rfl ?_
                refine q_goto C 108 dX12_laysSwitches_104 rfl ?_
                exact zK.weak (J_56 1 (by omega) (by omega)) (zwk_c (zwk_c (zwk_c (zwk_n zwk_e))))
            · refine q_aload_n C dX12_laysSwitches_54 (n := 55) rfl rfl ?_
              refine q_getR C dX12_laysSwitches_55 (n := 58) rfl f_X12_74 (zM0 h0) (hF _ _ _ (zM71 h0)) ?_
              refine q_bipush C dX12_laysSwitches_58 (n := 60) rfl (x := 30) (by decide) ?_
              refine q_iload_n C dX12_laysSwitches_60 (n := 61) rfl rfl ?_
              refine q_imul C dX12_laysSwitches_61 (n := 62) rfl (v := 30 * u7) rfl ?_
              refine q_iload_n C dX12_laysSwitches_62 (n := 63) rfl rfl ?_
              refine q_iadd C dX12_laysSwitches_63 (n := 64) rfl (v := (30 * u7) + u34) rfl ?_
              refine q_aload_n C dX12_laysSwitches_64 (n := 65) rfl rfl ?_
              refine q_getR C dX12_laysSwitches_65 (n := 68) rfl f_X12_24 (zM0 h0) (hF _ _ _ (zM13 h0)) ?_
              refine q_sipush C dX12_laysSwitches_68 (n := 71) rfl (x := 1600) (by decide) ?_
              refine q_bipush C dX12_laysSwitches_71 (n := 73) rfl (x := 30) (by decide) ?_
              refine q_iload_n C dX12_laysSwitches_73 (n := 74) rfl rfl ?_
              refine q_imul C dX12_laysSwitches_74 (n := 75) rfl (v := 30 * u7) rfl ?_
              refine q_iadd C dX12_laysSwitches_75 (n := 76) rfl (v := 1600 + (30 * u7)) rfl ?_
              refine q_iload_n C dX12_laysSwitches_76 (n := 77) rfl rfl ?_
              refine q_iadd C dX12_laysSwitches_77 (n := 78) rfl (v := (1600 + (30 * u7)) + u34) rfl ?_
              have g124 := zI.at hI ((zM15 h0) ((1600 + (30 * u7)) + u34))
              refine q_bald C dX12_laysSwitches_78 (n := 79) rfl (zM14 h0) (by omega) (v := M (a + 4) ((1600 + (30 * u7)) + u34)) ((hK41.getA rfl rfl rfl).trans ((zup_p e29 (by omega) _).trans ((hK13.getA rfl rfl rfl).trans (zup_p e3 (by omega) _)))) ?_
              refine q_bast C dX12_laysSwitches_79 (n := 80) rfl (zM72 h0) (by omega) (by omega) (fun M125 e126 => ?_)
              have hI127 : zI G M125 := hI38.put e126 ((zM73 h0) ((30 * u7) + u34)) rfl (by omega)
              have hK128 := hK39.upA e126 rfl
              have hK129 := hK40.upA e126 rfl
              have hK130 := hK41.upA e126 rfl
              refine q_iinc C [.ref (w.2.1 + a), zi v1, zi u7, zi (u34 + 1)] dX12_laysSwitches_80 (n := 83) rfl rfl rfl rfl ?_
              refine q_goto C 48 dX12_laysSwitches_83 rfl ?_
              exact zK.weak (ih47 (u34 + 1) M125 J37 hI127 hK128 hK129 hK130 (by omega) (by omega) (fun j j0 => (zup_n e126 (by omega)).trans (h44 j j0)) (by omega)) (zwk_c (zwk_c (zwk_c (zwk_c zwk_e))))
        exact zK.weak (L_45 _ 0 M28 J10 hI31 hK32 hK33 (zMd.rf : zMd a [20] [] [] M28 M28) (by omega) (by omega) (fun j j0 => rfl) (Int.self_le_toNat _)) (zwk_c (zwk_c (zwk_c (zwk_c zwk_e))))
  exact zK.weak (L_19 _ 0 M2 J hI5 hK6 (zMd.rf : zMd a [18, 20] [] [] M2 M2) (by omega) (by omega) hp4 (by have hw : M2 (a + 18) 0 = M (a + 2) 168 := (zup_s e3); omega) (by have hw : M2 (a + 18) 3 = M (a + 18) 3 := (zup_n e3 (by omega)); omega) (Int.self_le_toNat _)) (zwk_c (zwk_c (zwk_c (zwk_n zwk_e))))
theorem zRu_nn {M : zMm} {a : Nat} (h : M a 88 < 0 ∨ zGr M a 0) (h1 : -1 ≤ M a 88) (h3 : M (a + 18) 3 ≤ 12) : 0 ≤ zRu M a := zRu_ge h1 h3 (fun g g0 g1 => by
  rcases h with q | q
  · omega
  · exact (q.2.1 g g0 g1).2.2.2)
theorem zGr.gl {M : zMm} {a : Nat} {s : Int} (h : zGr M a s) (hi : M (a + 53) (M a 88) < M a 89) : M (a + 54) (M a 89 - 1) < M (a + 2) (4 + M (a + 51) (M a 88)) := h.2.2.2 _ (by omega) (by omega)
theorem c_X12_runs {w : zWp} {T : zTl} {M : zMm} {J : zJm} {R : zRm'} {G : zGt} {F : zRm'} {a : Nat} (hI : zI G M) (hF : zF F R) (h0 : zModel T F G a) (v1 : Int) (v2 : Int) (p1 : zFi M a) (p2 : 0 ≤ v1 ∧ v1 ≤ 3) (p3 : -2147483648 ≤ v2 ∧ v2 ≤ 2147483647) : zCt w 10 0 0 yX12_runs cX12_runs 5 (some .boolean) [.ref (w.2.1 + a), zi v1, zi v2] (T, M, J, R) (zPi T R G (fun x M2 => (zMd a [9, 10, 11, 12, 13, 14, 15, 16, 17, 18, 20, 22, 23, 24, 25, 26, 27, 28, 29, 30, 31, 32, 33, 34, 35, 36, 37, 38, 39, 40, 41, 42, 43, 44, 45, 46, 47, 48, 51, 52, 53, 54, 55, 56, 57, 58, 59, 60, 61, 62, 63, 64, 65, 66, 67] [11, 23, 24, 25, 26, 27, 28, 29, 34, 37, 57, 58, 59, 60, 61, 62, 63, 64, 65, 74, 75, 76, 78, 88, 89, 99, 100, 101] [] M M2) ∧ (x = 0 ∨ x = 1) ∧ (zMe M2 a) ∧ (0 ≤ M2 a 99 ∧ M2 a 99 ≤ 300 ∧ M2 a 100 ≤ 30 * M2 a 99))) := by
  refine zCt.of rfl (Nat.le_of_ble_eq_true rfl) ?_
  intro p e s m args below meth c C
  obtain ⟨Po, hPo⟩ : ∃ Po, Po = zPi T R G (fun x M2 => (zMd a [9, 10, 11, 12, 13, 14, 15, 16, 17, 18, 20, 22, 23, 24, 25, 26, 27, 28, 29, 30, 31, 32, 33, 34, 35, 36, 37, 38, 39, 40, 41, 42, 43, 44, 45, 46, 47, 48, 51, 52, 53, 54, 55, 56, 57, 58, 59, 60, 61, 62, 63, 64, 65, 66, 67] [11, 23, 24, 25, 26, 27, 28, 29, 34, 37, 57, 58, 59, 60, 61, 62, 63, 64, 65, 74, 75, 76, 78, 88, 89, 99, 100, 101] [] M M2) ∧ (x = 0 ∨ x = 1) ∧ (zMe M2 a) ∧ (0 ≤ M2 a 99 ∧ M2 a 99 ≤ 300 ∧ M2 a 100 ≤ 30 * M2 a 99)) := ⟨_, rfl⟩
  rw [← hPo]
  have hK0 : zMd a [9, 10, 11, 12, 13, 14, 15, 16, 17, 18, 20, 22, 23, 24, 25, 26, 27, 28, 29, 30, 31, 32, 33, 34, 35, 36, 37, 38, 39, 40, 41, 42, 43, 44, 45, 46, 47, 48, 51, 52, 53, 54, 55, 56, 57, 58, 59, 60, 61, 62, 63, 64, 65, 66, 67] [11, 23, 24, 25, 26, 27, 28, 29, 34, 37, 57, 58, 59, 60, 61, 62, 63, 64, 65, 74, 75, 76, 78, 88, 89, 99, 100, 101] [] M M := zMd.rf
  show zK w p e 10 0 0 s m args below meth c 5 T Po 0 [.ref (w.2.1 + a), zi v1, zi v2, .null, .null] [] (T, M, J, R)
  refine q_aload_n C dX12_runs_0 (n := 1) rfl rfl ?_
  refine q_callVv C dX12_runs_1 (n := 4) rfl m_X12_691 v_yX12_clears (zM0 h0) ⟨by decide, rfl⟩ (c_X12_clears (w := w) (J := J) hI hF h0) (Nat.le_of_ble_eq_true rfl) rfl rfl (Nat.le_of_ble_eq_true rfl) ⟨Nat.le_refl _, Nat.le_refl _⟩ (fun M6 J7  hI8 h9 => ?_)
  obtain ⟨hk10, h1, h2, h3, h4, h5⟩ := h9
  have hK11 := hK0.tr hk10 rfl rfl rfl
  refine q_aload_n C dX12_runs_4 (n := 5) rfl rfl ?_
  refine q_iload_n C dX12_runs_5 (n := 6) rfl rfl ?_
  refine q_callVv C dX12_runs_6 (n := 9) rfl m_X12_694 v_yX12_laysSwitches (zM0 h0) ⟨by decide, rfl⟩ (c_X12_laysSwitches (w := w) (J := J7) hI8 hF h0 v2 h1 (by omega)) (Nat.le_of_ble_eq_true rfl) rfl rfl (Nat.le_of_ble_eq_true rfl) ⟨Nat.le_refl _, Nat.le_refl _⟩ (fun M14 J15  hI16 h17 => ?_)
  obtain ⟨hk18, h12, h13⟩ := h17
  have hK19 := hK11.tr hk18 rfl rfl rfl
  refine q_aload_n C dX12_runs_9 (n := 10) rfl rfl ?_
  refine q_iconst C dX12_runs_10 (n := 11) rfl ?_
  refine q_putI C dX12_runs_11 (n := 14) rfl f_X12_645 (zM0 h0) ⟨rfl, rfl⟩ (fun M20 (e21 : M20 = zup M14 a 88 0) => ?_)
  have hI22 : zI G M20 := hI16.put e21 (zM201 h0) rfl (by omega)
  have hK23 := hK19.upS e21 rfl
  refine q_aload_n C dX12_runs_14 (n := 15) rfl rfl ?_
  refine q_iconst C dX12_runs_15 (n := 16) rfl ?_
  refine q_putI C dX12_runs_16 (n := 19) rfl f_X12_642 (zM0 h0) ⟨rfl, rfl⟩ (fun M24 (e25 : M24 = zup M20 a 89 0) => ?_)
  have hI26 : zI G M24 := hI22.put e25 (zM202 h0) rfl (by omega)
  have hK27 := hK23.upS e25 rfl
  refine q_aload_n C dX12_runs_19 (n := 20) rfl rfl ?_
  refine q_getR C dX12_runs_20 (n := 23) rfl f_X12_169 (zM0 h0) (hF _ _ _ (zM177 h0)) ?_
  refine q_iconst C dX12_runs_23 (n := 24) rfl ?_
  refine q_iload_n C dX12_runs_24 (n := 25) rfl rfl ?_
  refine q_iast C dX12_runs_25 (n := 26) rfl (zM178 h0) (by omega)  (fun M28 e29 => ?_)
  have hI30 : zI G M28 := hI26.put e29 ((zM179 h0) 0) rfl (by omega)
  have hK31 := hK27.upA e29 rfl
  refine q_aload_n C dX12_runs_26 (n := 27) rfl rfl ?_
  refine q_getR C dX12_runs_27 (n := 30) rfl f_X12_172 (zM0 h0) (hF _ _ _ (zM180 h0)) ?_
  refine q_iconst C dX12_runs_30 (n := 31) rfl ?_
  refine q_iconst C dX12_runs_31 (n := 32) rfl ?_
  refine q_iast C dX12_runs_32 (n := 33) rfl (zM181 h0) (by omega)  (fun M32 e33 => ?_)
  have hI34 : zI G M32 := hI30.put e33 ((zM182 h0) 0) rfl (by omega)
  have hK35 := hK31.upA e33 rfl
  refine q_aload_n C dX12_runs_33 (n := 34) rfl rfl ?_
  refine q_getR C dX12_runs_34 (n := 37) rfl f_X12_175 (zM0 h0) (hF _ _ _ (zM183 h0)) ?_
  refine q_iconst C dX12_runs_37 (n := 38) rfl ?_
  refine q_iconst C dX12_runs_38 (n := 39) rfl ?_
  refine q_iast C dX12_runs_39 (n := 40) rfl (zM184 h0) (by omega)  (fun M36 e37 => ?_)
  have hI38 : zI G M36 := hI34.put e37 ((zM185 h0) 0) rfl (by omega)
  have hK39 := hK35.upA e37 rfl
  have L_51 : ∀ n52 : Nat, ∀ (M41 : zMm) (J42 : zJm), zI G M41 → zMd a [9, 10, 11, 12, 13, 14, 15, 16, 17, 18, 20, 22, 23, 24, 25, 26, 27, 28, 29, 30, 31, 32, 33, 34, 35, 36, 37, 38, 39, 40, 41, 42, 43, 44, 45, 46, 47, 48, 51, 52, 53, 54, 55, 56, 57, 58, 59, 60, 61, 62, 63, 64, 65, 66, 67] [11, 23, 24, 25, 26, 27, 28, 29, 34, 37, 57, 58, 59, 60, 61, 62, 63, 64, 65, 74, 75, 76, 78, 88, 89, 99, 100, 101] [] M M41 → zMd a [9, 10, 11, 12, 13, 14, 15, 16, 17, 18, 20, 22, 23, 24, 25, 26, 27, 28, 29, 30, 31, 32, 33, 34, 35, 36, 37, 38, 39, 40, 41, 42, 43, 44, 45, 46, 47, 48, 51, 52, 53, 54, 55, 56, 57, 58, 59, 60, 61, 62, 63, 64, 65, 66, 67] [11, 23, 24, 25, 26, 27, 28, 29, 34, 37, 57, 58, 59, 60, 61, 62, 63, 64, 65, 74, 75, 76, 78, 88, 89, 99, 100, 101] [] M36 M41 → (M41 a 88 < 0 ∨ zGr M41 a 0) → (zMe M41 a) → (0 ≤ M41 (a + 18) 3 ∧ M41 (a + 18) 3 ≤ 12) → (0 ≤ M41 a 99 ∧ M41 a 99 ≤ 300 ∧ M41 a 100 ≤ 30 * M41 a 99) → (-1 ≤ M41 a 88) → (zRu M41 a + 1 ≤ (n52 : Int)) → zK w p e 10 0 0 s m args below meth c 5 T Po 40 [.ref (w.2.1 + a), .null, .null, .null, .null] [] (T, M41, J42, R) := by
    intro n52
    induction n52 with
    | zero =>
      intro M41 J42 hI43 hK44 hK45 h46 h47 h48 h49 h50 hm54
      exfalso
      have := zRu_nn h46 h50 h48.2
      omega
    | succ n52 ih53 =>
      intro M41 J42 hI43 hK44 hK45 h46 h47 h48 h49 h50 hm54
      have hz55 : M41 a 0 = M a 0 := ((hK45.getS rfl rfl).trans ((zup_p e37 (by omega) _).trans ((zup_p e33 (by omega) _).trans ((zup_p e29 (by omega) _).trans ((zup_n e25 (by omega)).trans ((zup_n e21 (by omega)).trans ((hk18.getS rfl rfl).trans (hk10.getS rfl rfl))))))))
      refine q_aload_n C dX12_runs_40 (n := 41) rfl rfl ?_
      have g56 := zI.at hI43 (zM201 h0)
      refine q_getI C dX12_runs_41 (n := 44) rfl f_X12_645 (zM0 h0) (v := M41 a 88) rfl ?_
      refine q_if_lt C 189 dX12_runs_44 (n := 47) rfl rfl (by omega) (fun h57 => ?_) (fun h57 => ?_)
      · refine q_iconst C dX12_runs_189 (n := 190) rfl ?_
        exact q_zret C dX12_runs_190 ⟨rfl, rfl⟩ (by omega) (by rw [hPo]; exact ⟨1, M41, J42, rfl, rfl, hI43, hK44, by omega, h47, by omega⟩)
      · have hG := h46.resolve_left (by omega)
        have gg := zGr.num hG (d := M41 a 88) rfl
        refine q_aload_n C dX12_runs_47 (n := 48) rfl rfl ?_
        refine q_getR C dX12_runs_48 (n := 51) rfl f_X12_169 (zM0 h0) (hF _ _ _ (zM177 h0)) ?_
        refine q_aload_n C dX12_runs_51 (n := 52) rfl rfl ?_
        refine q_getI C dX12_runs_52 (n := 55) rfl f_X12_645 (zM0 h0) (v := M41 a 88) rfl ?_
        have g58 := zI.at hI43 ((zM179 h0) (M41 a 88))
        refine q_iald C dX12_runs_55 (n := 56) rfl (zM178 h0) (by omega) (v := M41 (a + 51) (M41 a 88)) rfl ?_
        refine q_istore_n C [.ref (w.2.1 + a), .null, .null, zi (M41 (a + 51) (M41 a 88)), .null] dX12_runs_56 (n := 57) rfl rfl rfl ?_
        refine q_aload_n C dX12_runs_57 (n := 58) rfl rfl ?_
        refine q_getR C dX12_runs_58 (n := 61) rfl f_X12_172 (zM0 h0) (hF _ _ _ (zM180 h0)) ?_
        refine q_aload_n C dX12_runs_61 (n := 62) rfl rfl ?_
        refine q_getI C dX12_runs_62 (n := 65) rfl f_X12_645 (zM0 h0) (v := M41 a 88) rfl ?_
        have g59 := zI.at hI43 ((zM182 h0) (M41 a 88))
        refine q_iald C dX12_runs_65 (n := 66) rfl (zM181 h0) (by omega) (v := M41 (a + 52) (M41 a 88)) rfl ?_
        refine q_istore C [.ref (w.2.1 + a), .null, .null, zi (M41 (a + 51) (M41 a 88)), zi (M41 (a + 52) (M41 a 88))] dX12_runs_66 (n := 68) rfl rfl rfl ?_
        refine q_iload C dX12_runs_68 (n := 70) rfl rfl ?_
        refine q_aload_n C dX12_runs_70 (n := 71) rfl rfl ?_
        refine q_iload_n C dX12_runs_71 (n := 72) rfl rfl ?_
        refine q_callVp C dX12_runs_72 (n := 75) rfl m_X12_285 v_yX12_linesOf (zM0 h0) ⟨by decide, rfl⟩ (c_X12_linesOf (w := w) (J := J42) hI43 hF h0 (M41 (a + 51) (M41 a 88)) (by omega)) (Nat.le_of_ble_eq_true rfl) rfl rfl (Nat.le_of_ble_eq_true rfl) ⟨Nat.le_refl _, Nat.le_refl _⟩ (fun x62 h63 => ?_)
        obtain ⟨h60, h61⟩ := h63
        have hz64 : M41 (a + 2) (4 + (M41 (a + 51) (M41 a 88))) = M (a + 2) (4 + (M41 (a + 51) (M41 a 88))) := ((hK45.getA rfl rfl rfl).trans ((zup_p e37 (by omega) _).trans ((zup_p e33 (by omega) _).trans ((zup_p e29 (by omega) _).trans ((zup_p e25 (by omega) _).trans ((zup_p e21 (by omega) _).trans ((hk18.getA rfl rfl rfl).trans (hk10.getA rfl rfl rfl))))))))
        refine q_icmp_ge C 103 dX12_runs_75 (n := 78) rfl rfl (by omega) (fun h65 => ?_) (fun h65 => ?_)
        · refine q_aload_n C dX12_runs_103 (n := 104) rfl rfl ?_
          refine q_callVp C dX12_runs_104 (n := 107) rfl m_X12_679 v_yX12_isInside (zM0 h0) ⟨by decide, rfl⟩ (c_X12_isInside (w := w) (J := J42) hI43 hF h0 (M41 a 88) (by omega) (by omega)) (Nat.le_of_ble_eq_true rfl) rfl rfl (Nat.le_of_ble_eq_true rfl) ⟨Nat.le_refl _, Nat.le_refl _⟩ (fun x69 h70 => ?_)
          obtain ⟨h66, h67, h68⟩ := h70
          refine q_if_eq C 145 dX12_runs_107 (n := 110) rfl rfl (by omega) (fun h71 => ?_) (fun h71 => ?_)
          · refine q_aload_n C dX12_runs_145 (n := 146) rfl rfl ?_
            refine q_dup C dX12_runs_146 (n := 147) rfl rfl ?_
            refine q_getI C dX12_runs_147 (n := 150) rfl f_X12_645 (zM0 h0) (v := M41 a 88) rfl ?_
            refine q_iconst C dX12_runs_150 (n := 151) rfl ?_
            refine q_isub C dX12_runs_151 (n := 152) rfl (v := (M41 a 88) - 1) rfl ?_
            refine q_putI C dX12_runs_152 (n := 155) rfl f_X12_645 (zM0 h0) ⟨rfl, rfl⟩ (fun M72 (e73 : M72 = zup M41 a 88 ((M41 a 88) - 1)) => ?_)
            have hI74 : zI G M72 := hI43.put e73 (zM201 h0) rfl (by omega)
            have hK75 := hK44.upS e73 rfl
            have hK76 := hK45.upS e73 rfl
            have hrl : zRu M72 a < zRu M41 a := zRu_leave (by omega) (by omega) (zup_p e73 (by omega) _) (zup_s e73) (fun j => (zup_p e73 (by omega) _))
            refine q_aload_n C dX12_runs_155 (n := 156) rfl rfl ?_
            refine q_getI C dX12_runs_156 (n := 159) rfl f_X12_645 (zM0 h0) (v := (M41 a 88) - 1) (zup_s e73) ?_
            refine q_if_lt C 186 dX12_runs_159 (n := 162) rfl rfl (by omega) (fun h77 => ?_) (fun h77 => ?_)
            · refine q_goto C 40 dX12_runs_186 rfl ?_
              have hp78 : zMe M72 a := h47.cg (fun j j0 j1 => (zup_p e73 (by omega) _)) (fun j => (zup_p e73 (by omega) _))
              exact zK.weak (ih53 M72 J42 hI74 hK75 hK76 (Or.inl (by have hw : M72 a 88 = (M41 a 88) - 1 := (zup_s e73); omega)) hp78 (by have hw : M72 (a + 18) 3 = M41 (a + 18) 3 := (zup_p e73 (by omega) _); omega) (by have hz79 : M72 a 99 = M41 a 99 := (zup_n e73 (by omega)); have hz80 : M72 a 100 = M41 a 100 := (zup_n e73 (by omega)); omega) (by have hw : M72 a 88 = (M41 a 88) - 1 := (zup_s e73); omega) (by omega)) (zwk_c (zwk_n (zwk_n (zwk_n (zwk_n zwk_e)))))
            · have hp81 := zGr.leave (M2 := M72) hG (by omega) (by omega) (fun j => (zup_p e73 (by omega) _)) (fun j => (zup_p e73 (by omega) _)) (fun j => (zup_p e73 (by omega) _)) (fun j => (zup_p e73 (by omega) _)) (fun j => (zup_p e73 (by omega) _)) (zup_s e73) (zup_n e73 (by omega))
              have hl1 : 1 ≤ M41 (a + 52) ((M41 a 88) - 1) := by have z1 := hp81.2; rw [show M72 a 88 = (M41 a 88) - 1 from (zup_s e73), show M72 (a + 52) ((M41 a 88) - 1) = M41 (a + 52) ((M41 a 88) - 1) from (zup_p e73 (by omega) _)] at z1; exact z1
              refine q_aload_n C dX12_runs_162 (n := 163) rfl rfl ?_
              refine q_aload_n C dX12_runs_163 (n := 164) rfl rfl ?_
              refine q_getR C dX12_runs_164 (n := 167) rfl f_X12_169 (zM0 h0) (hF _ _ _ (zM177 h0)) ?_
              refine q_aload_n C dX12_runs_167 (n := 168) rfl rfl ?_
              refine q_getI C dX12_runs_168 (n := 171) rfl f_X12_645 (zM0 h0) (v := (M41 a 88) - 1) (zup_s e73) ?_
              have g82 := zI.at hI43 ((zM179 h0) ((M41 a 88) - 1))
              refine q_iald C dX12_runs_171 (n := 172) rfl (zM178 h0) (by omega) (v := M41 (a + 51) ((M41 a 88) - 1)) (zup_p e73 (by omega) _) ?_
              refine q_aload_n C dX12_runs_172 (n := 173) rfl rfl ?_
              refine q_getR C dX12_runs_173 (n := 176) rfl f_X12_172 (zM0 h0) (hF _ _ _ (zM180 h0)) ?_
              refine q_aload_n C dX12_runs_176 (n := 177) rfl rfl ?_
              refine q_getI C dX12_runs_177 (n := 180) rfl f_X12_645 (zM0 h0) (v := (M41 a 88) - 1) (zup_s e73) ?_
              have g83 := zI.at hI43 ((zM182 h0) ((M41 a 88) - 1))
              refine q_iald C dX12_runs_180 (n := 181) rfl (zM181 h0) (by omega) (v := M41 (a + 52) ((M41 a 88) - 1)) (zup_p e73 (by omega) _) ?_
              refine q_iconst C dX12_runs_181 (n := 182) rfl ?_
              refine q_isub C dX12_runs_182 (n := 183) rfl (v := (M41 (a + 52) ((M41 a 88) - 1)) - 1) rfl ?_
              have hp84 : zMe M72 a := h47.cg (fun j j0 j1 => (zup_p e73 (by omega) _)) (fun j => (zup_p e73 (by omega) _))
              refine q_callVv C dX12_runs_183 (n := 186) rfl m_X12_648 v_yX12_counts (zM0 h0) ⟨by decide, rfl⟩ (c_X12_counts (w := w) (J := J42) hI74 hF h0 (M41 (a + 51) ((M41 a 88) - 1)) ((M41 (a + 52) ((M41 a 88) - 1)) - 1) (by omega) (by omega) hp84) (Nat.le_of_ble_eq_true rfl) rfl rfl (Nat.le_of_ble_eq_true rfl) ⟨Nat.le_refl _, Nat.le_refl _⟩ (fun M87 J88  hI89 h90 => ?_)
              obtain ⟨hk91, h85, h86⟩ := h90
              have hK92 := hK75.tr hk91 rfl rfl rfl
              have hK93 := hK76.tr hk91 rfl rfl rfl
              have hz94 : M72 (a + 18) 3 = M41 (a + 18) 3 := (zup_p e73 (by omega) _)
              refine q_goto C 40 dX12_runs_186 rfl ?_
              have hrc : zRu M87 a = zRu M72 a := zRu_cg (h86) (hk91.getS rfl rfl) (fun j => (hk91.getA rfl rfl rfl))
              have hp95 : zGr M87 a 0 := hp81.1.cg (fun j => (hk91.getA rfl rfl rfl)) (fun j => (hk91.getA rfl rfl rfl)) (fun j => (hk91.getA rfl rfl rfl)) (fun j => (hk91.getA rfl rfl rfl)) (fun j => (hk91.getA rfl rfl rfl)) (hk91.getS rfl rfl) (hk91.getS rfl rfl)
              exact zK.weak (ih53 M87 J88 hI89 hK92 hK93 (Or.inr hp95) h85 (by have hw : M87 (a + 18) 3 = M41 (a + 18) 3 := ((h86).trans (zup_p e73 (by omega) _)); omega) (by have hz96 : M87 a 99 = M41 a 99 := ((hk91.getS rfl rfl).trans (zup_n e73 (by omega))); have hz97 : M87 a 100 = M41 a 100 := ((hk91.getS rfl rfl).trans (zup_n e73 (by omega))); omega) (by have hw : M87 a 88 = (M41 a 88) - 1 := ((hk91.getS rfl rfl).trans (zup_s e73)); omega) (by omega)) (zwk_c (zwk_n (zwk_n (zwk_n (zwk_n zwk_e)))))
          · have hgl := zGr.gl hG (by omega)
            have hz98 : M41 (a + 2) (4 + M41 (a + 51) (M41 a 88)) = M (a + 2) (4 + M41 (a + 51) (M41 a 88)) := ((hK45.getA rfl rfl rfl).trans ((zup_p e37 (by omega) _).trans ((zup_p e33 (by omega) _).trans ((zup_p e29 (by omega) _).trans ((zup_p e25 (by omega) _).trans ((zup_p e21 (by omega) _).trans ((hk18.getA rfl rfl rfl).trans (hk10.getA rfl rfl rfl))))))))
            refine q_aload_n C dX12_runs_110 (n := 111) rfl rfl ?_
            refine q_bipush C dX12_runs_111 (n := 113) rfl (x := 10) (by decide) ?_
            refine q_iload_n C dX12_runs_113 (n := 114) rfl rfl ?_
            refine q_aload_n C dX12_runs_114 (n := 115) rfl rfl ?_
            refine q_getR C dX12_runs_115 (n := 118) rfl f_X12_178 (zM0 h0) (hF _ _ _ (zM186 h0)) ?_
            refine q_aload_n C dX12_runs_118 (n := 119) rfl rfl ?_
            have g99 := zI.at hI43 (zM202 h0)
            refine q_getI C dX12_runs_119 (n := 122) rfl f_X12_642 (zM0 h0) (v := M41 a 89) rfl ?_
            refine q_iconst C dX12_runs_122 (n := 123) rfl ?_
            refine q_isub C dX12_runs_123 (n := 124) rfl (v := (M41 a 89) - 1) rfl ?_
            have g100 := zI.at hI43 ((zM188 h0) ((M41 a 89) - 1))
            refine q_iald C dX12_runs_124 (n := 125) rfl (zM187 h0) (by omega) (v := M41 (a + 54) ((M41 a 89) - 1)) rfl ?_
            refine q_aload_n C dX12_runs_125 (n := 126) rfl rfl ?_
            refine q_iload_n C dX12_runs_126 (n := 127) rfl rfl ?_
            refine q_aload_n C dX12_runs_127 (n := 128) rfl rfl ?_
            refine q_getR C dX12_runs_128 (n := 131) rfl f_X12_178 (zM0 h0) (hF _ _ _ (zM186 h0)) ?_
            refine q_aload_n C dX12_runs_131 (n := 132) rfl rfl ?_
            refine q_getI C dX12_runs_132 (n := 135) rfl f_X12_642 (zM0 h0) (v := M41 a 89) rfl ?_
            refine q_iconst C dX12_runs_135 (n := 136) rfl ?_
            refine q_isub C dX12_runs_136 (n := 137) rfl (v := (M41 a 89) - 1) rfl ?_
            refine q_iald C dX12_runs_137 (n := 138) rfl (zM187 h0) (by omega) (v := M41 (a + 54) ((M41 a 89) - 1)) rfl ?_
            have hp101 : zFi M41 a := p1.cg (fun j => ((hK45.getA rfl rfl rfl).trans ((zup_p e37 (by omega) _).trans ((zup_p e33 (by omega) _).trans ((zup_p e29 (by omega) _).trans ((zup_p e25 (by omega) _).trans ((zup_p e21 (by omega) _).trans ((hk18.getA rfl rfl rfl).trans (hk10.getA rfl rfl rfl)))))))))
            refine q_callVp C dX12_runs_138 (n := 141) rfl m_X12_330 v_yX12_hashOf (zM0 h0) ⟨by decide, rfl⟩ (c_X12_hashOf (w := w) (J := J42) hI43 hF h0 (M41 (a + 51) (M41 a 88)) (M41 (a + 54) ((M41 a 89) - 1)) hp101 (by omega) (by have hz102 : M41 (a + 2) (4 + (M41 (a + 51) (M41 a 88))) = M (a + 2) (4 + (M41 (a + 51) (M41 a 88))) := ((hK45.getA rfl rfl rfl).trans ((zup_p e37 (by omega) _).trans ((zup_p e33 (by omega) _).trans ((zup_p e29 (by omega) _).trans ((zup_p e25 (by omega) _).trans ((zup_p e21 (by omega) _).trans ((hk18.getA rfl rfl rfl).trans (hk10.getA rfl rfl rfl)))))))); omega)) (Nat.le_of_ble_eq_true rfl) rfl rfl (Nat.le_of_ble_eq_true rfl) ⟨Nat.le_refl _, Nat.le_refl _⟩ (fun x105 h106 => ?_)
            obtain ⟨h103, h104⟩ := h106
            have hz107 : M41 (a + 2) (8 + 40 * (M41 (a + 51) (M41 a 88)) + (M41 (a + 54) ((M41 a 89) - 1))) = M (a + 2) (8 + 40 * (M41 (a + 51) (M41 a 88)) + (M41 (a + 54) ((M41 a 89) - 1))) := ((hK45.getA rfl rfl rfl).trans ((zup_p e37 (by omega) _).trans ((zup_p e33 (by omega) _).trans ((zup_p e29 (by omega) _).trans ((zup_p e25 (by omega) _).trans ((zup_p e21 (by omega) _).trans ((hk18.getA rfl rfl rfl).trans (hk10.getA rfl rfl rfl))))))))
            refine q_callVi C dX12_runs_141 (n := 144) rfl m_X12_373 v_yX12_bad (zM0 h0) ⟨by decide, rfl⟩ (c_X12_bad (w := w) (J := J42) hI43 hF h0 10 (M41 (a + 51) (M41 a 88)) (M41 (a + 54) ((M41 a 89) - 1)) x105 (by omega) (by omega) (by omega) (by omega)) (Nat.le_of_ble_eq_true rfl) rfl rfl (Nat.le_of_ble_eq_true rfl) ⟨Nat.le_refl _, Nat.le_refl _⟩ (fun x114 M110 J111  hI112 h113 => ?_)
            obtain ⟨hk115, h108, h109⟩ := h113
            have hK116 := hK44.tr hk115 rfl rfl rfl
            have hK117 := hK45.tr hk115 rfl rfl rfl
            have hp118 : zMe M110 a := h47.cg (fun j j0 j1 => (hk115.getW rfl rfl (by omega))) (fun j => (hk115.getA rfl rfl rfl))
            exact q_zret C dX12_runs_144 ⟨rfl, rfl⟩ (by omega) (by rw [hPo]; exact ⟨x114, M110, J111, rfl, rfl, hI112, hK116, by omega, hp118, by have hz119 : M110 a 99 = M41 a 99 := (hk115.getS rfl rfl); have hz120 : M110 a 100 = M41 a 100 := (hk115.getS rfl rfl); omega⟩)
        · refine q_aload_n C dX12_runs_78 (n := 79) rfl rfl ?_
          refine q_getR C dX12_runs_79 (n := 82) rfl f_X12_172 (zM0 h0) (hF _ _ _ (zM180 h0)) ?_
          refine q_aload_n C dX12_runs_82 (n := 83) rfl rfl ?_
          refine q_getI C dX12_runs_83 (n := 86) rfl f_X12_645 (zM0 h0) (v := M41 a 88) rfl ?_
          refine q_dup2 C dX12_runs_86 (n := 87) rfl ⟨rfl, rfl⟩ ?_
          refine q_iald C dX12_runs_87 (n := 88) rfl (zM181 h0) (by omega) (v := M41 (a + 52) (M41 a 88)) rfl ?_
          refine q_iconst C dX12_runs_88 (n := 89) rfl ?_
          refine q_iadd C dX12_runs_89 (n := 90) rfl (v := (M41 (a + 52) (M41 a 88)) + 1) rfl ?_
          refine q_iast C dX12_runs_90 (n := 91) rfl (zM181 h0) (by omega)  (fun M121 e122 => ?_)
          have hI123 : zI G M121 := hI43.put e122 ((zM182 h0) (M41 a 88)) rfl (by omega)
          have hK124 := hK44.upA e122 rfl
          have hK125 := hK45.upA e122 rfl
          have hz127 : M41 (a + 2) (4 + M41 (a + 51) (M41 a 88)) = M (a + 2) (4 + M41 (a + 51) (M41 a 88)) := ((hK45.getA rfl rfl rfl).trans ((zup_p e37 (by omega) _).trans ((zup_p e33 (by omega) _).trans ((zup_p e29 (by omega) _).trans ((zup_p e25 (by omega) _).trans ((zup_p e21 (by omega) _).trans ((hk18.getA rfl rfl rfl).trans (hk10.getA rfl rfl rfl))))))))
          have hp126 : zGr M121 a 1 := zGr.line hG e122 (by omega)
          have hru := zRu_line e122 (by omega)
          refine q_aload_n C dX12_runs_91 (n := 92) rfl rfl ?_
          refine q_iload_n C dX12_runs_92 (n := 93) rfl rfl ?_
          refine q_iload C dX12_runs_93 (n := 95) rfl rfl ?_
          have hp130 : zMe M121 a := h47.cg (fun j j0 j1 => (zup_p e122 (by omega) _)) (fun j => (zup_p e122 (by omega) _))
          have hp131 : zFi M121 a := p1.cg (fun j => ((zup_p e122 (by omega) _).trans ((hK45.getA rfl rfl rfl).trans ((zup_p e37 (by omega) _).trans ((zup_p e33 (by omega) _).trans ((zup_p e29 (by omega) _).trans ((zup_p e25 (by omega) _).trans ((zup_p e21 (by omega) _).trans ((hk18.getA rfl rfl rfl).trans (hk10.getA rfl rfl rfl))))))))))
          refine q_callVi C dX12_runs_95 (n := 98) rfl m_X12_697 v_yX12_doesLine (zM0 h0) ⟨by decide, rfl⟩ (c_X12_doesLine (w := w) (J := J42) hI123 hF h0 (M41 (a + 51) (M41 a 88)) (M41 (a + 52) (M41 a 88)) hp126 hp130 hp131 (by omega) (by have hz9 : M121 (a + 2) (4 + (M41 (a + 51) (M41 a 88))) = M (a + 2) (4 + (M41 (a + 51) (M41 a 88))) := ((zup_p e122 (by omega) _).trans ((hK45.getA rfl rfl rfl).trans ((zup_p e37 (by omega) _).trans ((zup_p e33 (by omega) _).trans ((zup_p e29 (by omega) _).trans ((zup_p e25 (by omega) _).trans ((zup_p e21 (by omega) _).trans ((hk18.getA rfl rfl rfl).trans (hk10.getA rfl rfl rfl))))))))); omega) (by rw [show M121 a 88 = M41 a 88 from (zup_p e122 (by omega) _)]; exact (zup_p e122 (by omega) _)) (by have hw : M121 (a + 18) 3 = M41 (a + 18) 3 := (zup_p e122 (by omega) _); omega) (by have hz128 : M121 a 99 = M41 a 99 := (zup_p e122 (by omega) _); have hz129 : M121 a 100 = M41 a 100 := (zup_p e122 (by omega) _); omega)) (Nat.le_of_ble_eq_true rfl) rfl rfl (Nat.le_of_ble_eq_true rfl) ⟨Nat.le_refl _, Nat.le_refl _⟩ (fun x142 M138 J139  hI140 h141 => ?_)
          obtain ⟨hk143, h132, h133, h134, h135, h136, h137⟩ := h141
          have hK144 := hK124.tr hk143 rfl rfl rfl
          have hK145 := hK125.tr hk143 rfl rfl rfl
          refine q_if_ne C 40 dX12_runs_98 (n := 101) rfl rfl (by omega) (fun h146 => ?_) (fun h146 => ?_)
          · exact zK.weak (ih53 M138 J139 hI140 hK144 hK145 (Or.inr (h133.resolve_left (by omega))) h134 h135 h136 (by have hw := zGr.num (h133.resolve_left (by omega)) rfl; omega) (by omega)) (zwk_c (zwk_n (zwk_n (zwk_n (zwk_n zwk_e)))))
          · refine q_iconst C dX12_runs_101 (n := 102) rfl ?_
            exact q_zret C dX12_runs_102 ⟨rfl, rfl⟩ (by omega) (by rw [hPo]; exact ⟨0, M138, J139, rfl, rfl, hI140, hK144, by omega, h134, by omega⟩)
  have gt147 := zI.at hI (((zM9 h0) (4 + v1)).trans (zfG_4 (by omega)))
  have hp148 : zMe M36 a := h12.cg (fun j j0 j1 => ((zup_p e37 (by omega) _).trans ((zup_p e33 (by omega) _).trans ((zup_p e29 (by omega) _).trans ((zup_p e25 (by omega) _).trans (zup_p e21 (by omega) _)))))) (fun j => ((zup_p e37 (by omega) _).trans ((zup_p e33 (by omega) _).trans ((zup_p e29 (by omega) _).trans ((zup_p e25 (by omega) _).trans (zup_p e21 (by omega) _))))))
  exact zK.weak (L_51 _ M36 J15 hI38 hK39 (zMd.rf : zMd a [9, 10, 11, 12, 13, 14, 15, 16, 17, 18, 20, 22, 23, 24, 25, 26, 27, 28, 29, 30, 31, 32, 33, 34, 35, 36, 37, 38, 39, 40, 41, 42, 43, 44, 45, 46, 47, 48, 51, 52, 53, 54, 55, 56, 57, 58, 59, 60, 61, 62, 63, 64, 65, 66, 67] [11, 23, 24, 25, 26, 27, 28, 29, 34, 37, 57, 58, 59, 60, 61, 62, 63, 64, 65, 74, 75, 76, 78, 88, 89, 99, 100, 101] [] M36 M36) (Or.inr (zGr.init ((zup_p e37 (by omega) _).trans ((zup_p e33 (by omega) _).trans ((zup_p e29 (by omega) _).trans ((zup_n e25 (by omega)).trans (zup_s e21))))) ((zup_p e37 (by omega) _).trans ((zup_p e33 (by omega) _).trans ((zup_p e29 (by omega) _).trans (zup_s e25)))) ((zup_p e37 (by omega) _).trans (zup_s e33)) (zup_s e37) (by rw [show M36 (a + 51) 0 = v1 from ((zup_p e37 (by omega) _).trans ((zup_p e33 (by omega) _).trans (zup_s e29))), show M36 (a + 2) (4 + v1) = M (a + 2) (4 + v1) from ((zup_p e37 (by omega) _).trans ((zup_p e33 (by omega) _).trans ((zup_p e29 (by omega) _).trans ((zup_p e25 (by omega) _).trans ((zup_p e21 (by omega) _).trans ((hk18.getA rfl rfl rfl).trans (hk10.getA rfl rfl rfl)))))))]; omega))) hp148 (by have hw : M36 (a + 18) 3 = M6 (a + 18) 3 := ((zup_p e37 (by omega) _).trans ((zup_p e33 (by omega) _).trans ((zup_p e29 (by omega) _).trans ((zup_p e25 (by omega) _).trans ((zup_p e21 (by omega) _).trans (h13)))))); omega) (by have hz149 : M36 a 99 = M6 a 99 := ((zup_p e37 (by omega) _).trans ((zup_p e33 (by omega) _).trans ((zup_p e29 (by omega) _).trans ((zup_n e25 (by omega)).trans ((zup_n e21 (by omega)).trans (hk18.getS rfl rfl)))))); have hz150 : M36 a 100 = M6 a 100 := ((zup_p e37 (by omega) _).trans ((zup_p e33 (by omega) _).trans ((zup_p e29 (by omega) _).trans ((zup_n e25 (by omega)).trans ((zup_n e21 (by omega)).trans (hk18.getS rfl rfl)))))); omega) (by have hw : M36 a 88 = 0 := ((zup_p e37 (by omega) _).trans ((zup_p e33 (by omega) _).trans ((zup_p e29 (by omega) _).trans ((zup_n e25 (by omega)).trans (zup_s e21))))); omega) (Int.self_le_toNat _)) (zwk_c (zwk_n (zwk_n (zwk_n (zwk_n zwk_e)))))
