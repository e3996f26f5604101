theorem c_X11_switches {w : zWp} {T : zTl} {M : zMm} {J : zJm} {R : zRm'} {G : zGt} {F : zRm'} {a : Nat} (hI : zI G M) (hF : zF F R) (h0 : zHideSets T F G a) (hst : R a 8 = none ∨ ∃ sy, R a 8 = some sy ∧ zStudy T F G sy) : zCt w 13 0 0 yX11_switches cX11_switches 3 (some .int) [.ref (w.2.1 + a)] (T, M, J, R) (zPi T R G (fun x M2 => (zKp G 20 M M2) ∧ (M2 a 1 = 0))) := by
  refine zCt.of rfl (Nat.le_of_ble_eq_true rfl) ?_
  intro p e s m args below meth c C
  obtain ⟨Po, hPo⟩ : ∃ Po, Po = zPi T R G (fun x M2 => (zKp G 20 M M2) ∧ (M2 a 1 = 0)) := ⟨_, rfl⟩
  rw [← hPo]
  have hK0 : zKp G 20 M M := zKp.rf
  show zK w p e 13 0 0 s m args below meth c 3 T Po 0 [.ref (w.2.1 + a), .null, .null] [] (T, M, J, R)
  refine q_aload_n C dX11_switches_0 (n := 1) rfl rfl ?_
  refine q_callVi C dX11_switches_1 (n := 4) rfl m_X11_54 v_yX11_takeTape h0.1 ⟨by decide, rfl⟩ (c_X11_takeTape (w := w) (J := J) hI hF h0) (Nat.le_of_ble_eq_true rfl) rfl rfl (Nat.le_of_ble_eq_true rfl) ⟨Nat.le_refl _, Nat.le_refl _⟩ (fun x7 M3 J4  hI5 h6 => ?_)
  obtain ⟨hk8, h1, h2⟩ := h6
  have hK9 := hK0.tr hk8 (by decide)
  refine q_istore_n C [.ref (w.2.1 + a), zi x7, .null] dX11_switches_4 (n := 5) rfl rfl rfl ?_
  refine q_aload_n C dX11_switches_5 (n := 6) rfl rfl ?_
  refine q_getR C dX11_switches_6 (n := 9) rfl f_X11_20 h0.1 (hF _ _ _ h0.2.2.2.2.2.1) ?_
  refine q_aload_n C dX11_switches_9 (n := 10) rfl rfl ?_
  refine q_getR C dX11_switches_10 (n := 13) rfl f_X11_9 h0.1 (hF _ _ _ h0.2.1) ?_
  refine q_iload_n C dX11_switches_13 (n := 14) rfl rfl ?_
  refine q_callVi C dX11_switches_14 (n := 17) rfl m_X11_88 v_yX7_readSwitches h0.2.2.2.2.2.2.1.1 ⟨by decide, rfl⟩ (c_X7_readSwitches (w := w) (J := J4) hI5 hF h0.2.2.2.2.2.2.1 h0.2.2.1 h0.2.2.2.1 x7 (by omega)) (Nat.le_of_ble_eq_true rfl) rfl rfl (Nat.le_of_ble_eq_true rfl) ⟨Nat.le_refl _, Nat.le_refl _⟩ (fun x15 M11 J12  hI13 h14 => ?_)
  obtain ⟨hk16, h10⟩ := h14
  have hK17 := hK9.tr hk16 (by decide)
  refine q_istore_n C [.ref (w.2.1 + a), zi x7, zi x15] dX11_switches_17 (n := 18) rfl rfl rfl ?_
  refine q_iload_n C dX11_switches_18 (n := 19) rfl rfl ?_
  refine q_iconst C dX11_switches_19 (n := 20) rfl ?_
  have J_23 : ∀ (M18 : zMm) (J19 : zJm), zI G M18 → zKp G 20 M M18 → (M18 a 1 = 0) → zK w p e 13 0 0 s m args below meth c 3 T Po 27 [.null, .null, zi x15] [] (T, M18, J19, R) := by
    intro M18 J19 hI20 hK21 h22
    refine q_iload_n C dX11_switches_27 (n := 28) rfl rfl ?_
    exact q_iret C dX11_switches_28 ⟨rfl, rfl⟩ (by rw [hPo]; exact ⟨x15, M18, J19, rfl, rfl, hI20, hK21, (by have hz : M18 a 1 = M18 a 1 := rfl; omega)⟩)
  refine q_icmp_eq C 27 dX11_switches_20 (n := 23) rfl rfl (by omega) (fun h24 => ?_) (fun h24 => ?_)
  · exact zK.weak (J_23 M11 J12 hI13 hK17 (by have hz : M11 a 1 = M3 a 1 := (hk16 _ _ (zle_t h0.2.2.2.2.1 (by decide))); omega)) (zwk_n (zwk_n (zwk_c zwk_e)))
  · refine q_aload_n C dX11_switches_23 (n := 24) rfl rfl ?_
    refine q_callVv C dX11_switches_24 (n := 27) rfl m_X11_76 v_yX11_forgetStudy h0.1 ⟨by decide, rfl⟩ (c_X11_forgetStudy (w := w) (J := J12) hI13 hF h0 (by assumption)) (Nat.le_of_ble_eq_true rfl) rfl rfl (Nat.le_of_ble_eq_true rfl) ⟨Nat.le_refl _, Nat.le_refl _⟩ (fun M25 J26  hI27 h28 => ?_)
    have hK30 := hK17.tr h28 (by decide)
    exact zK.weak (J_23 M25 J26 hI27 hK30 (by have hz : M25 a 1 = M3 a 1 := ((h28 _ _ (zle_t h0.2.2.2.2.1 (by decide))).trans (hk16 _ _ (zle_t h0.2.2.2.2.1 (by decide)))); omega)) (zwk_n (zwk_n (zwk_c zwk_e)))
theorem c_X11_expand {w : zWp} {T : zTl} {M : zMm} {J : zJm} {R : zRm'} {G : zGt} {F : zRm'} {a : Nat} (hI : zI G M) (hF : zF F R) (h0 : zHideSets T F G a) : zCt w 7 0 0 yX11_expand cX11_expand 2 (some .int) [.ref (w.2.1 + a)] (T, M, J, R) (zPiE T G (fun x M2 R2 => (zKp G 20 M M2) ∧ (M2 a 1 = 0) ∧ (zRo R R2 (a + 30)))) := by
  refine zCt.of rfl (Nat.le_of_ble_eq_true rfl) ?_
  intro p e s m args below meth c C
  obtain ⟨Po, hPo⟩ : ∃ Po, Po = zPiE T G (fun x M2 R2 => (zKp G 20 M M2) ∧ (M2 a 1 = 0) ∧ (zRo R R2 (a + 30))) := ⟨_, rfl⟩
  rw [← hPo]
  have hK0 : zKp G 20 M M := zKp.rf
  show zK w p e 7 0 0 s m args below meth c 2 T Po 0 [.ref (w.2.1 + a), .null] [] (T, M, J, R)
  refine q_aload_n C dX11_expand_0 (n := 1) rfl rfl ?_
  refine q_callVi C dX11_expand_1 (n := 4) rfl m_X11_54 v_yX11_takeTape h0.1 ⟨by decide, rfl⟩ (c_X11_takeTape (w := w) (J := J) hI hF h0) (Nat.le_of_ble_eq_true rfl) rfl rfl (Nat.le_of_ble_eq_true rfl) ⟨Nat.le_refl _, Nat.le_refl _⟩ (fun x7 M3 J4  hI5 h6 => ?_)
  obtain ⟨hk8, h1, h2⟩ := h6
  have hK9 := hK0.tr hk8 (by decide)
  refine q_istore_n C [.ref (w.2.1 + a), zi x7] dX11_expand_4 (n := 5) rfl rfl rfl ?_
  refine q_aload_n C dX11_expand_5 (n := 6) rfl rfl ?_
  refine q_getR C dX11_expand_6 (n := 9) rfl f_X11_43 h0.1 (hF _ _ _ h0.2.2.2.2.2.2.2.2.2.2.2.2.2.2.2.2.2.1) ?_
  refine q_aload_n C dX11_expand_9 (n := 10) rfl rfl ?_
  refine q_getR C dX11_expand_10 (n := 13) rfl f_X11_9 h0.1 (hF _ _ _ h0.2.1) ?_
  refine q_iload_n C dX11_expand_13 (n := 14) rfl rfl ?_
  refine q_callViE C dX11_expand_14 (n := 17) rfl m_X11_139 v_yX6_spread h0.2.2.2.2.2.2.2.2.2.2.2.2.2.2.2.2.2.2.1.1 ⟨by decide, rfl⟩ (c_X6_spread (w := w) (J := J4) hI5 hF h0.2.2.2.2.2.2.2.2.2.2.2.2.2.2.2.2.2.2.1 h0.2.2.1 h0.2.2.2.1 x7 (by omega) (by omega) (by omega)) (Nat.le_of_ble_eq_true rfl) rfl rfl (Nat.le_of_ble_eq_true rfl) ⟨Nat.le_refl _, Nat.le_refl _⟩ (fun x17 M12 J13 R16 hI14 h15 => ?_)
  obtain ⟨hk18, h10, h11⟩ := h15
  have hK19 := hK9.tr hk18 (by decide)
  have hF : zF F R16 := h11.F hF h0.2.2.2.2.2.2.2.2.2.2.2.2.2.2.2.2.2.2.1.2.2.2.2.2.2.2.2.2.2.2.2.2.2.2.2.2.2.2.1.2.2.2.2.2.2.2.2.2.2.2.2.2.2.2.2.1 h0.2.2.2.2.2.2.2.2.2.2.2.2.2.2.2.2.2.2.1.2.2.2.2.2.2.2.2.2.2.2.2.2.2.2.2.2.2.2.2.2.1.2.2.2.2.2.1
  refine q_if_eq C 33 dX11_expand_17 (n := 20) rfl rfl (by omega) (fun h20 => ?_) (fun h20 => ?_)
  · refine q_bipush C dX11_expand_33 (n := 35) rfl (x := (-2)) (by decide) ?_
    exact q_iret C dX11_expand_35 ⟨rfl, rfl⟩ (by rw [hPo]; exact ⟨(-2), M12, J13, R16, rfl, rfl, hI14, hK19, (by have hz : M12 a 1 = M3 a 1 := (hk18 _ _ (zle_t h0.2.2.2.2.1 (by decide))); omega), h11⟩)
  · refine q_aload_n C dX11_expand_20 (n := 21) rfl rfl ?_
    refine q_getR C dX11_expand_21 (n := 24) rfl f_X11_43 h0.1 (hF _ _ _ h0.2.2.2.2.2.2.2.2.2.2.2.2.2.2.2.2.2.1) ?_
    refine q_getR C dX11_expand_24 (n := 27) rfl f_X11_120 h0.2.2.2.2.2.2.2.2.2.2.2.2.2.2.2.2.2.2.1.1 (hF _ _ _ h0.2.2.2.2.2.2.2.2.2.2.2.2.2.2.2.2.2.2.1.2.2.2.2.2.2.2.1) ?_
    have g21 := zI.at hI14 h0.2.2.2.2.2.2.2.2.2.2.2.2.2.2.2.2.2.2.1.2.2.2.2.2.2.2.2.1.2.2.2.2.2.2.2.2.2.2
    refine q_getI C dX11_expand_27 (n := 30) rfl f_X11_124 h0.2.2.2.2.2.2.2.2.2.2.2.2.2.2.2.2.2.2.1.2.2.2.2.2.2.2.2.1.1 (v := M12 (a + 30 + 2) 3) rfl ?_
    refine q_goto C 35 dX11_expand_30 rfl ?_
    exact q_iret C dX11_expand_35 ⟨rfl, rfl⟩ (by rw [hPo]; exact ⟨M12 (a + 30 + 2) 3, M12, J13, R16, rfl, rfl, hI14, hK19, (by have hz : M12 a 1 = M3 a 1 := (hk18 _ _ (zle_t h0.2.2.2.2.1 (by decide))); omega), h11⟩)
