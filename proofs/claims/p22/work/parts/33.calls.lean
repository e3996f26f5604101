theorem c_X11_switches {w : zWp} {T : zTl} {M : zMm} {J : zJm} {R : zRm'} {G : zGt} {F : zRm'} {a : Nat} (hI : zI G M) (hF : zF F R) (h0 : zHideSets T F G a) (hst : R a 8 = none ∨ ∃ sy, R a 8 = some sy ∧ zStudy T F G sy) : zCt w 13 0 0 yX11_switches cX11_switches 3 (some .int) [.ref (w.2.1 + a)] (T, M, J, R) (zPi T R G (fun x M2 => (zKp G 20 M M2) ∧ (M2 a 1 = 0))) := by
  refine zCt.of rfl (Nat.le_of_ble_eq_true rfl) ?_
  intro p e s m args below meth c C
  obtain ⟨Po, hPo⟩ : ∃ Po, Po = zPi T R G (fun x M2 => (zKp G 20 M M2) ∧ (M2 a 1 = 0)) := ⟨_, rfl⟩
  rw [← hPo]
  have hK0 : zKp G 20 M M := zKp.rf
  show zK w p e 13 0 0 s m args below meth c 3 T Po 0 [.ref (w.2.1 + a), .null, .null] [] (T, M, J, R)
  refine q_aload_n C dX11_switches_0 (n := 1) rfl rfl ?_
  refine q_callVi C dX11_switches_1 (n := 4) rfl m_X11_54 v_yX11_takeTape h0.1 ⟨by decide, rfl⟩ (c_X11_takeTape (w := w) (J := J) hI hF h0) (Nat.le_of_ble_eq_true rfl) rfl rfl (Nat.le_of_ble_eq_true rfl) ⟨Nat.le_refl _, Nat.le_refl _⟩ (fun x9 M5 J6  hI7 h8 => ?_)
  obtain ⟨hk10, h1, h2, h3, h4⟩ := h8
  have hK11 := hK0.tr hk10 (by decide)
  refine q_istore_n C [.ref (w.2.1 + a), zi x9, .null] dX11_switches_4 (n := 5) rfl rfl rfl ?_
  refine q_aload_n C dX11_switches_5 (n := 6) rfl rfl ?_
  refine q_getR C dX11_switches_6 (n := 9) rfl f_X11_20 h0.1 (hF _ _ _ h0.2.2.2.2.2.1) ?_
  refine q_aload_n C dX11_switches_9 (n := 10) rfl rfl ?_
  refine q_getR C dX11_switches_10 (n := 13) rfl f_X11_9 h0.1 (hF _ _ _ h0.2.1) ?_
  refine q_iload_n C dX11_switches_13 (n := 14) rfl rfl ?_
  refine q_callVi C dX11_switches_14 (n := 17) rfl m_X11_88 v_yX7_readSwitches h0.2.2.2.2.2.2.1.1 ⟨by decide, rfl⟩ (c_X7_readSwitches (w := w) (J := J6) hI7 hF h0.2.2.2.2.2.2.1 h0.2.2.1 h0.2.2.2.1 x9 (by omega)) (Nat.le_of_ble_eq_true rfl) rfl rfl (Nat.le_of_ble_eq_true rfl) ⟨Nat.le_refl _, Nat.le_refl _⟩ (fun x18 M14 J15  hI16 h17 => ?_)
  obtain ⟨hk19, h12, h13⟩ := h17
  have hK20 := hK11.tr hk19 (by decide)
  refine q_istore_n C [.ref (w.2.1 + a), zi x9, zi x18] dX11_switches_17 (n := 18) rfl rfl rfl ?_
  refine q_iload_n C dX11_switches_18 (n := 19) rfl rfl ?_
  refine q_iconst C dX11_switches_19 (n := 20) rfl ?_
  have J_26 : ∀ (M21 : zMm) (J22 : zJm), zI G M21 → zKp G 20 M M21 → (M21 a 1 = 0) → zK w p e 13 0 0 s m args below meth c 3 T Po 27 [.null, .null, zi x18] [] (T, M21, J22, R) := by
    intro M21 J22 hI23 hK24 h25
    refine q_iload_n C dX11_switches_27 (n := 28) rfl rfl ?_
    exact q_iret C dX11_switches_28 ⟨rfl, rfl⟩ (by rw [hPo]; exact ⟨x18, M21, J22, rfl, rfl, hI23, hK24, (by have hz : M21 a 1 = M21 a 1 := rfl; omega)⟩)
  refine q_icmp_eq C 27 dX11_switches_20 (n := 23) rfl rfl (by omega) (fun h27 => ?_) (fun h27 => ?_)
  · exact zK.weak (J_26 M14 J15 hI16 hK20 (by have hz : M14 a 1 = M5 a 1 := (h13 _ _ (by omega)); omega)) (zwk_n (zwk_n (zwk_c zwk_e)))
  · refine q_aload_n C dX11_switches_23 (n := 24) rfl rfl ?_
    refine q_callVv C dX11_switches_24 (n := 27) rfl m_X11_76 v_yX11_forgetStudy h0.1 ⟨by decide, rfl⟩ (c_X11_forgetStudy (w := w) (J := J15) hI16 hF h0 (by assumption)) (Nat.le_of_ble_eq_true rfl) rfl rfl (Nat.le_of_ble_eq_true rfl) ⟨Nat.le_refl _, Nat.le_refl _⟩ (fun M28 J29  hI30 h31 => ?_)
    have hK33 := hK20.tr h31 (by decide)
    exact zK.weak (J_26 M28 J29 hI30 hK33 (by have hz : M28 a 1 = M5 a 1 := ((h31 _ _ (zle_t h0.2.2.2.2.1 (by decide))).trans (h13 _ _ (by omega))); omega)) (zwk_n (zwk_n (zwk_c zwk_e)))
theorem c_X11_expand {w : zWp} {T : zTl} {M : zMm} {J : zJm} {R : zRm'} {G : zGt} {F : zRm'} {a : Nat} (hI : zI G M) (hF : zF F R) (h0 : zHideSets T F G a) : zCt w 7 0 0 yX11_expand cX11_expand 2 (some .int) [.ref (w.2.1 + a)] (T, M, J, R) (zPiE T G (fun x M2 R2 => (zKp G 19 M M2) ∧ (M2 a 1 = 0) ∧ (zRo R R2 (a + 30)))) := by
  refine zCt.of rfl (Nat.le_of_ble_eq_true rfl) ?_
  intro p e s m args below meth c C
  obtain ⟨Po, hPo⟩ : ∃ Po, Po = zPiE T G (fun x M2 R2 => (zKp G 19 M M2) ∧ (M2 a 1 = 0) ∧ (zRo R R2 (a + 30))) := ⟨_, rfl⟩
  rw [← hPo]
  have hK0 : zKp G 19 M M := zKp.rf
  show zK w p e 7 0 0 s m args below meth c 2 T Po 0 [.ref (w.2.1 + a), .null] [] (T, M, J, R)
  refine q_aload_n C dX11_expand_0 (n := 1) rfl rfl ?_
  refine q_callVi C dX11_expand_1 (n := 4) rfl m_X11_54 v_yX11_takeTape h0.1 ⟨by decide, rfl⟩ (c_X11_takeTape (w := w) (J := J) hI hF h0) (Nat.le_of_ble_eq_true rfl) rfl rfl (Nat.le_of_ble_eq_true rfl) ⟨Nat.le_refl _, Nat.le_refl _⟩ (fun x9 M5 J6  hI7 h8 => ?_)
  obtain ⟨hk10, h1, h2, h3, h4⟩ := h8
  have hK11 := hK0.tr hk10 (by decide)
  refine q_istore_n C [.ref (w.2.1 + a), zi x9] dX11_expand_4 (n := 5) rfl rfl rfl ?_
  refine q_aload_n C dX11_expand_5 (n := 6) rfl rfl ?_
  refine q_getR C dX11_expand_6 (n := 9) rfl f_X11_43 h0.1 (hF _ _ _ h0.2.2.2.2.2.2.2.2.2.2.2.2.2.2.2.2.2.1) ?_
  refine q_aload_n C dX11_expand_9 (n := 10) rfl rfl ?_
  refine q_getR C dX11_expand_10 (n := 13) rfl f_X11_9 h0.1 (hF _ _ _ h0.2.1) ?_
  refine q_iload_n C dX11_expand_13 (n := 14) rfl rfl ?_
  refine q_callViE C dX11_expand_14 (n := 17) rfl m_X11_139 v_yX6_spread h0.2.2.2.2.2.2.2.2.2.2.2.2.2.2.2.2.2.2.1.1 ⟨by decide, rfl⟩ (c_X6_spread (w := w) (J := J6) hI7 hF h0.2.2.2.2.2.2.2.2.2.2.2.2.2.2.2.2.2.2.1 h0.2.2.1 h0.2.2.2.1 x9 (by omega) (by omega) (by omega)) (Nat.le_of_ble_eq_true rfl) rfl rfl (Nat.le_of_ble_eq_true rfl) ⟨Nat.le_refl _, Nat.le_refl _⟩ (fun x19 M14 J15 R18 hI16 h17 => ?_)
  obtain ⟨hk20, h12, h13⟩ := h17
  have hK21 := hK11.tr hk20 (by decide)
  have hF : zF F R18 := h13.F hF h0.2.2.2.2.2.2.2.2.2.2.2.2.2.2.2.2.2.2.1.2.2.2.2.2.2.2.2.2.2.2.2.2.2.2.2.2.2.2.1.2.2.2.2.2.2.2.2.2.2.2.2.2.2.2.2.1 h0.2.2.2.2.2.2.2.2.2.2.2.2.2.2.2.2.2.2.1.2.2.2.2.2.2.2.2.2.2.2.2.2.2.2.2.2.2.2.2.2.1.2.2.2.2.2.1
  refine q_if_eq C 33 dX11_expand_17 (n := 20) rfl rfl (by omega) (fun h22 => ?_) (fun h22 => ?_)
  · refine q_bipush C dX11_expand_33 (n := 35) rfl (x := (-2)) (by decide) ?_
    exact q_iret C dX11_expand_35 ⟨rfl, rfl⟩ (by rw [hPo]; exact ⟨(-2), M14, J15, R18, rfl, rfl, hI16, hK21, (by have hz : M14 a 1 = M5 a 1 := (hk20 _ _ (zle_t h0.2.2.2.2.1 (by decide))); omega), h13⟩)
  · refine q_aload_n C dX11_expand_20 (n := 21) rfl rfl ?_
    refine q_getR C dX11_expand_21 (n := 24) rfl f_X11_43 h0.1 (hF _ _ _ h0.2.2.2.2.2.2.2.2.2.2.2.2.2.2.2.2.2.1) ?_
    refine q_getR C dX11_expand_24 (n := 27) rfl f_X11_120 h0.2.2.2.2.2.2.2.2.2.2.2.2.2.2.2.2.2.2.1.1 (hF _ _ _ h0.2.2.2.2.2.2.2.2.2.2.2.2.2.2.2.2.2.2.1.2.2.2.2.2.2.2.1) ?_
    have g23 := zI.at hI16 h0.2.2.2.2.2.2.2.2.2.2.2.2.2.2.2.2.2.2.1.2.2.2.2.2.2.2.2.1.2.2.2.2.2.2.2.2.2.2
    refine q_getI C dX11_expand_27 (n := 30) rfl f_X11_124 h0.2.2.2.2.2.2.2.2.2.2.2.2.2.2.2.2.2.2.1.2.2.2.2.2.2.2.2.1.1 (v := M14 (a + 30 + 2) 3) rfl ?_
    refine q_goto C 35 dX11_expand_30 rfl ?_
    exact q_iret C dX11_expand_35 ⟨rfl, rfl⟩ (by rw [hPo]; exact ⟨M14 (a + 30 + 2) 3, M14, J15, R18, rfl, rfl, hI16, hK21, (by have hz : M14 a 1 = M5 a 1 := (hk20 _ _ (zle_t h0.2.2.2.2.1 (by decide))); omega), h13⟩)
