theorem zX.ls3 {M : zMm} {a : Nat} {mb mp : Int → Int} {n A0 v u z : Int} (h : zX M a mb mp n A0 v u z) : M a 61 ≤ 3440 := by
  have hN := yN h
  have hfb := fun g (g0 : 0 ≤ g) (g1 : g ≤ M a 57) => yfl h g0 g1 (Int.le_refl _)
  have h1 := h.1
  have hT := h.2.2.2.1
  have hst := h.2.1.2.2.2.1
  have h7 := h.2.1.2.2.2.2.2.2.1
  have mo : ∀ s r, 0 ≤ s → s ≤ r → r ≤ M a 58 → yR (M (a + 24)) (M (a + 25)) s ≤ yR (M (a + 24)) (M (a + 25)) r := fun s r s0 s1 s2 => yR_mo (fun j j0 j1 => (hT j j0 (by omega)).1) ⟨s0, s1⟩
  by_cases q : n = 0
  · have hc := (h.2.2.2.2.2.2.1 (by omega)).2
    rw [show M a 57 = 0 by omega, yP_0] at hc
    have m1 := mo (M (a + 27) 0) (M a 58) (hfb 0 (by omega) (by omega)).1 (by have := hfb 0 (by omega) (by omega); omega) (Int.le_refl _)
    omega
  · by_cases q1 : n = 1
    · obtain ⟨p1, _, _, _⟩ := h.2.2.2.2.2.1 (by omega)
      rw [show n - 1 = 0 by omega] at p1
      unfold yQ1 at p1
      rw [yP_0] at p1
      by_cases q2 : n = M a 57
      · rw [if_pos q2] at p1
        have m1 := mo (M (a + 27) 0) (M (a + 27) (M a 57)) (hfb 0 (by omega) (by omega)).1 (hfb 0 (by omega) (by omega)).2 hst
        omega
      · rw [if_neg q2] at p1
        have m1 := mo (M (a + 27) 0) (M a 58) (hfb 0 (by omega) (by omega)).1 (by have := hfb 0 (by omega) (by omega); omega) (Int.le_refl _)
        omega
    · obtain ⟨p1, _, _⟩ := h.2.2.2.2.1 0 (by omega) (by omega)
      unfold yQ1 at p1
      rw [yP_0] at p1
      have f1 := (yfl h (g := 0) (r := 0 + 1) (by omega) (by omega) (by omega)).2
      have m1 := mo (M (a + 27) 0) (M (a + 27) (0 + 1)) (hfb 0 (by omega) (by omega)).1 f1 (by have := hfb (0 + 1) (by omega) (by omega); omega)
      omega
theorem zXs.ls {M : zMm} {a : Nat} {mb mp : Int → Int} (h : zXs M a mb mp) : M a 61 ≤ 3440 := by
  obtain ⟨n, q⟩ := h
  exact q.ls3
theorem zMu_close {M M2 : zMm} {a : Nat} {n : Int} (e24 : ∀ j, M2 (a + 24) j = M (a + 24) j) (e25 : ∀ j, M2 (a + 25) j = M (a + 25) j) (e31 : ∀ j, M2 (a + 31) j = M (a + 31) j) (e57 : M2 a 57 = M a 57 - 1) (e58 : M2 a 58 = M a 58) (e62 : M2 a 62 = M a 62) : zMu M2 a n = zMu M a n - 1 := by
  unfold zMu
  rw [funext e24, funext e25, funext e31, e57, e58, e62]
  omega
theorem c_X12_endsArgument {w : zWp} {T : zTl} {M : zMm} {J : zJm} {R : zRm'} {G : zGt} {F : zRm'} {a : Nat} (hI : zI G M) (hF : zF F R) (h0 : zModel T F G a) (f : Int) (p1 : M a 57 = f) (p2 : 0 ≤ f ∧ f ≤ 100) (p3 : 0 ≤ M (a + 28) f) (p4 : 1 ≤ M (a + 31) f ∧ M (a + 31) f ≤ 20) (p5 : 1 ≤ M a 60) : zCt w 2 0 0 yX12_endsArgument cX12_endsArgument 1 none [.ref (w.2.1 + a)] (T, M, J, R) (zPv T R G (fun M2 => (zMd a [16] [] [] M M2))) := by
  refine zCt.of rfl (Nat.le_of_ble_eq_true rfl) ?_
  intro p e s m args below meth c C
  obtain ⟨Po, hPo⟩ : ∃ Po, Po = zPv T R G (fun M2 => (zMd a [16] [] [] M M2)) := ⟨_, rfl⟩
  rw [← hPo]
  subst p1
  have hK0 : zMd a [16] [] [] M M := zMd.rf
  show zK w p e 2 0 0 s m args below meth c 1 T Po 0 [.ref (w.2.1 + a)] [] (T, M, J, R)
  refine q_aload_n C dX12_endsArgument_0 (n := 1) rfl rfl ?_
  refine q_aload_n C dX12_endsArgument_1 (n := 2) rfl rfl ?_
  refine q_getR C dX12_endsArgument_2 (n := 5) rfl f_X12_68 (zM0 h0) (hF _ _ _ (zM65 h0)) ?_
  refine q_sipush C dX12_endsArgument_5 (n := 8) rfl (x := 739) (by decide) ?_
  refine q_aload_n C dX12_endsArgument_8 (n := 9) rfl rfl ?_
  refine q_getR C dX12_endsArgument_9 (n := 12) rfl f_X12_98 (zM0 h0) (hF _ _ _ (zM97 h0)) ?_
  refine q_aload_n C dX12_endsArgument_12 (n := 13) rfl rfl ?_
  have g1 := zI.at hI (zM142 h0)
  refine q_getI C dX12_endsArgument_13 (n := 16) rfl f_X12_448 (zM0 h0) (v := M a 57) rfl ?_
  have g2 := zI.at hI ((zM99 h0) (M a 57))
  refine q_iald C dX12_endsArgument_16 (n := 17) rfl (zM98 h0) (by omega) (v := M (a + 28) (M a 57)) rfl ?_
  refine q_aload_n C dX12_endsArgument_17 (n := 18) rfl rfl ?_
  refine q_getR C dX12_endsArgument_18 (n := 21) rfl f_X12_107 (zM0 h0) (hF _ _ _ (zM106 h0)) ?_
  refine q_aload_n C dX12_endsArgument_21 (n := 22) rfl rfl ?_
  refine q_getI C dX12_endsArgument_22 (n := 25) rfl f_X12_448 (zM0 h0) (v := M a 57) rfl ?_
  have g3 := zI.at hI ((zM108 h0) (M a 57))
  refine q_iald C dX12_endsArgument_25 (n := 26) rfl (zM107 h0) (by omega) (v := M (a + 31) (M a 57)) rfl ?_
  refine q_iconst C dX12_endsArgument_26 (n := 27) rfl ?_
  refine q_isub C dX12_endsArgument_27 (n := 28) rfl (v := (M (a + 31) (M a 57)) - 1) rfl ?_
  refine q_callSp C dX12_endsArgument_28 (n := 31) rfl m_X12_412 s_yX12_bodyAt (c_X12_bodyAt (w := w) (J := J) hI hF (M (a + 28) (M a 57)) ((M (a + 31) (M a 57)) - 1)) (Nat.le_of_ble_eq_true rfl) rfl rfl (Nat.le_of_ble_eq_true rfl) ⟨Nat.le_refl _, Nat.le_refl _⟩ (fun x5 h6 => ?_)
  obtain rfl : x5 = 20 * (M (a + 28) (M a 57)) + ((M (a + 31) (M a 57)) - 1) := h6
  refine q_iadd C dX12_endsArgument_31 (n := 32) rfl (v := 739 + (20 * (M (a + 28) (M a 57)) + ((M (a + 31) (M a 57)) - 1))) rfl ?_
  have g7 := zI.at hI (((zM67 h0) (739 + (20 * (M (a + 28) (M a 57)) + ((M (a + 31) (M a 57)) - 1)))).trans (zwG_739 (by omega)))
  refine q_iald C dX12_endsArgument_32 (n := 33) rfl (zM66 h0) (by omega) (v := M (a + 18) (739 + (20 * (M (a + 28) (M a 57)) + ((M (a + 31) (M a 57)) - 1)))) rfl ?_
  refine q_callVv C dX12_endsArgument_33 (n := 36) rfl m_X12_537 v_yX12_blanks (zM0 h0) ⟨by decide, rfl⟩ (c_X12_blanks (w := w) (J := J) hI hF h0 (M (a + 18) (739 + (20 * (M (a + 28) (M a 57)) + ((M (a + 31) (M a 57)) - 1)))) (by omega) (by omega)) (Nat.le_of_ble_eq_true rfl) rfl rfl (Nat.le_of_ble_eq_true rfl) ⟨Nat.le_refl _, Nat.le_refl _⟩ (fun M8 J9  hI10 h11 => ?_)
  have hK13 := hK0.tr h11 rfl rfl rfl
  exact q_vret C dX12_endsArgument_36 ⟨rfl, rfl⟩ (by rw [hPo]; exact ⟨M8, J9, rfl, rfl, hI10, hK13⟩)
theorem c_X12_opensLine {w : zWp} {T : zTl} {M : zMm} {J : zJm} {R : zRm'} {G : zGt} {F : zRm'} {a : Nat} (hI : zI G M) (hF : zF F R) (h0 : zModel T F G a) (v1 : Int) (v2 : Int) (v3 : Int) (p1 : 0 ≤ v1 ∧ v1 ≤ 440) (p2 : 0 ≤ v2 ∧ v2 ≤ 440) (p3 : v3 = 0 ∨ v3 = 1) : zCt w 1 0 0 yX12_opensLine cX12_opensLine 4 none [.ref (w.2.1 + a), zi v1, zi v2, zi v3] (T, M, J, R) (zPv T R G (fun M2 => (zMd a [] [63, 64, 65] [] M M2) ∧ (M2 = (zup (zup (zup M a 63 v1) a 64 v2) a 65 v3)))) := by
  refine zCt.of rfl (Nat.le_of_ble_eq_true rfl) ?_
  intro p e s m args below meth c C
  obtain ⟨Po, hPo⟩ : ∃ Po, Po = zPv T R G (fun M2 => (zMd a [] [63, 64, 65] [] M M2) ∧ (M2 = (zup (zup (zup M a 63 v1) a 64 v2) a 65 v3))) := ⟨_, rfl⟩
  rw [← hPo]
  have hK0 : zMd a [] [63, 64, 65] [] M M := zMd.rf
  show zK w p e 1 0 0 s m args below meth c 4 T Po 0 [.ref (w.2.1 + a), zi v1, zi v2, zi v3] [] (T, M, J, R)
  refine q_aload_n C dX12_opensLine_0 (n := 1) rfl rfl ?_
  refine q_iload_n C dX12_opensLine_1 (n := 2) rfl rfl ?_
  refine q_putI C dX12_opensLine_2 (n := 5) rfl f_X12_467 (zM0 h0) ⟨rfl, rfl⟩ (fun M1 (e2 : M1 = zup M a 63 v1) => ?_)
  have hI3 : zI G M1 := hI.put e2 (zM148 h0) rfl (by omega)
  have hK4 := hK0.upS e2 rfl
  refine q_aload_n C dX12_opensLine_5 (n := 6) rfl rfl ?_
  refine q_iload_n C dX12_opensLine_6 (n := 7) rfl rfl ?_
  refine q_putI C dX12_opensLine_7 (n := 10) rfl f_X12_470 (zM0 h0) ⟨rfl, rfl⟩ (fun M5 (e6 : M5 = zup M1 a 64 v2) => ?_)
  have hI7 : zI G M5 := hI3.put e6 (zM149 h0) rfl (by omega)
  have hK8 := hK4.upS e6 rfl
  refine q_aload_n C dX12_opensLine_10 (n := 11) rfl rfl ?_
  refine q_iload_n C dX12_opensLine_11 (n := 12) rfl rfl ?_
  refine q_putI C dX12_opensLine_12 (n := 15) rfl f_X12_473 (zM0 h0) ⟨rfl, rfl⟩ (fun M9 (e10 : M9 = zup M5 a 65 v3) => ?_)
  have hI11 : zI G M9 := hI7.put e10 (zM150 h0) rfl (by omega)
  have hK12 := hK8.upS e10 rfl
  exact q_vret C dX12_opensLine_15 ⟨rfl, rfl⟩ (by rw [hPo]; exact ⟨M9, J, rfl, rfl, hI11, hK12, by subst e10; subst e6; subst e2; rfl⟩)
theorem c_X12_expands {w : zWp} {T : zTl} {M : zMm} {J : zJm} {R : zRm'} {G : zGt} {F : zRm'} {a : Nat} {mb mp og lg : Int → Int} (hI : zI G M) (hF : zF F R) (h0 : zModel T F G a) (p1 : zOg M a og lg) (p2 : zMa M a mb mp) (p3 : M a 57 = 0 ∧ M a 58 = 0 ∧ M a 60 = 0 ∧ M a 26 = 3500) (p4 : 440 ≤ M a 25 ∧ M a 25 ≤ 495 ∧ M a 24 ≤ 495 ∧ M a 59 ≤ 440) (p5 : M a 63 ≤ M a 64 ∧ (M a 65 = 1 ∨ M a 64 ≤ 440)) : zCt w 6 0 0 yX12_expands cX12_expands 4 (some .boolean) [.ref (w.2.1 + a)] (T, M, J, R) (zPi T R G (fun x M2 => (zMd a [9, 10, 11, 12, 13, 14, 15, 16, 17, 18, 24, 25, 26, 27, 28, 29, 30, 31, 32, 33, 34, 35, 36, 37, 38, 39, 40, 41, 42] [24, 25, 26, 34, 57, 58, 59, 60, 61, 62] [] M M2) ∧ (x = 0 ∨ x = 1) ∧ (zOg M2 a og lg) ∧ (zMa M2 a mb mp) ∧ (x = 0 ∨ M2 a 61 ≤ 3440) ∧ (M2 (a + 18) 3 = M (a + 18) 3))) := by
  refine zCt.of rfl (Nat.le_of_ble_eq_true rfl) ?_
  intro p e s m args below meth c C
  obtain ⟨Po, hPo⟩ : ∃ Po, Po = zPi T R G (fun x M2 => (zMd a [9, 10, 11, 12, 13, 14, 15, 16, 17, 18, 24, 25, 26, 27, 28, 29, 30, 31, 32, 33, 34, 35, 36, 37, 38, 39, 40, 41, 42] [24, 25, 26, 34, 57, 58, 59, 60, 61, 62] [] M M2) ∧ (x = 0 ∨ x = 1) ∧ (zOg M2 a og lg) ∧ (zMa M2 a mb mp) ∧ (x = 0 ∨ M2 a 61 ≤ 3440) ∧ (M2 (a + 18) 3 = M (a + 18) 3)) := ⟨_, rfl⟩
  rw [← hPo]
  have hK0 : zMd a [9, 10, 11, 12, 13, 14, 15, 16, 17, 18, 24, 25, 26, 27, 28, 29, 30, 31, 32, 33, 34, 35, 36, 37, 38, 39, 40, 41, 42] [24, 25, 26, 34, 57, 58, 59, 60, 61, 62] [] M M := zMd.rf
  have gk_expansions := zI.at hI (zM147 h0)
  have gk_pooled := zI.at hI (zM59 h0)
  have gk_argMany := zI.at hI (zM144 h0)
  have gk_lineFrom := zI.at hI (zM148 h0)
  have gk_lineTo := zI.at hI (zM149 h0)
  have gk_lineArgs := zI.at hI (zM150 h0)
  show zK w p e 6 0 0 s m args below meth c 4 T Po 0 [.ref (w.2.1 + a), .null, .null, .null] [] (T, M, J, R)
  refine q_aload_n C dX12_expands_0 (n := 1) rfl rfl ?_
  refine q_iconst C dX12_expands_1 (n := 2) rfl ?_
  refine q_putI C dX12_expands_2 (n := 5) rfl f_X12_451 (zM0 h0) ⟨rfl, rfl⟩ (fun M1 (e2 : M1 = zup M a 61 0) => ?_)
  have hI3 : zI G M1 := hI.put e2 (zM146 h0) rfl (by omega)
  have hK4 := hK0.upS e2 rfl
  refine q_aload_n C dX12_expands_5 (n := 6) rfl rfl ?_
  refine q_callVv C dX12_expands_6 (n := 9) rfl m_X12_464 v_yX12_opens (zM0 h0) ⟨by decide, rfl⟩ (c_X12_opens (w := w) (J := J) hI3 hF h0 (by have hz5 : M1 a 57 = M a 57 := (zup_n e2 (by omega)); omega)) (Nat.le_of_ble_eq_true rfl) rfl rfl (Nat.le_of_ble_eq_true rfl) ⟨Nat.le_refl _, Nat.le_refl _⟩ (fun M7 J8  hI9 h10 => ?_)
  obtain ⟨hk11, h6⟩ := h10
  have hK12 := hK4.tr hk11 rfl rfl rfl
  have hz13 : M1 a 57 = M a 57 := (zup_n e2 (by omega))
  rw [hz13] at h6
  have hz14 : M1 a 58 = M a 58 := (zup_n e2 (by omega))
  rw [hz14] at h6
  obtain ⟨M16, e15⟩ : ∃ q, q = zup M1 (a + 27) (M a 57) (M a 58) := ⟨_, rfl⟩
  have e17 : M7 = zup M16 (a + 28) (M a 57) (-1) := by rw [e15]; exact h6
  refine q_aload_n C dX12_expands_9 (n := 10) rfl rfl ?_
  refine q_aload_n C dX12_expands_10 (n := 11) rfl rfl ?_
  have g18 := zI.at hI (zM148 h0)
  refine q_getI C dX12_expands_11 (n := 14) rfl f_X12_467 (zM0 h0) (v := M a 63) ((zup_p e17 (by omega) _).trans ((zup_p e15 (by omega) _).trans (zup_n e2 (by omega)))) ?_
  refine q_aload_n C dX12_expands_14 (n := 15) rfl rfl ?_
  have g19 := zI.at hI (zM149 h0)
  refine q_getI C dX12_expands_15 (n := 18) rfl f_X12_470 (zM0 h0) (v := M a 64) ((zup_p e17 (by omega) _).trans ((zup_p e15 (by omega) _).trans (zup_n e2 (by omega)))) ?_
  refine q_aload_n C dX12_expands_18 (n := 19) rfl rfl ?_
  have g20 := zI.at hI (zM150 h0)
  refine q_getI C dX12_expands_19 (n := 22) rfl f_X12_473 (zM0 h0) (v := M a 65) ((zup_p e17 (by omega) _).trans ((zup_p e15 (by omega) _).trans (zup_n e2 (by omega)))) ?_
  refine q_callVv C dX12_expands_22 (n := 25) rfl m_X12_476 v_yX12_stretch (zM0 h0) ⟨by decide, rfl⟩ (c_X12_stretch (w := w) (J := J8) hI9 hF h0 (M a 63) (M a 64) (M a 65) (by have hz21 : M7 a 58 = M a 58 := ((zup_p e17 (by omega) _).trans ((zup_p e15 (by omega) _).trans (zup_n e2 (by omega)))); omega) (by omega) (by omega) (by omega)) (Nat.le_of_ble_eq_true rfl) rfl rfl (Nat.le_of_ble_eq_true rfl) ⟨Nat.le_refl _, Nat.le_refl _⟩ (fun M23 J24  hI25 h26 => ?_)
  obtain ⟨hk27, h22⟩ := h26
  have hK28 := hK12.tr hk27 rfl rfl rfl
  have hz29 : M7 a 58 = M a 58 := ((zup_p e17 (by omega) _).trans ((zup_p e15 (by omega) _).trans (zup_n e2 (by omega))))
  rw [hz29] at h22
  obtain ⟨M31, e30⟩ : ∃ q, q = zup M7 (a + 24) (M a 58) (M a 63) := ⟨_, rfl⟩
  obtain ⟨M33, e32⟩ : ∃ q, q = zup M31 (a + 25) (M a 58) (M a 64) := ⟨_, rfl⟩
  obtain ⟨M35, e34⟩ : ∃ q, q = zup M33 (a + 26) (M a 58) (M a 65) := ⟨_, rfl⟩
  have e36 : M23 = zup M35 a 58 ((M a 58) + 1) := by rw [e34]; rw [e32]; rw [e30]; exact h22
  have L_47 : ∀ n48 : Nat, ∀ (M38 : zMm) (J39 : zJm), zI G M38 → zMd a [9, 10, 11, 12, 13, 14, 15, 16, 17, 18, 24, 25, 26, 27, 28, 29, 30, 31, 32, 33, 34, 35, 36, 37, 38, 39, 40, 41, 42] [24, 25, 26, 34, 57, 58, 59, 60, 61, 62] [] M M38 → zMd a [9, 10, 11, 12, 13, 14, 15, 16, 17, 18, 24, 25, 26, 27, 28, 29, 30, 31, 32, 33, 34, 35, 36, 37, 38, 39, 40, 41, 42] [24, 25, 26, 34, 57, 58, 59, 60, 61, 62] [] M23 M38 → ((M38 a 57 < 0 ∧ M38 a 61 ≤ 3440) ∨ zXs M38 a mb mp) → (zOg M38 a og lg) → (zMa M38 a mb mp) → (M38 (a + 18) 3 = M (a + 18) 3) → (zMz M38 a + 1 ≤ (n48 : Int)) → zK w p e 6 0 0 s m args below meth c 4 T Po 25 [.ref (w.2.1 + a), .null, .null, .null] [] (T, M38, J39, R) := by
    intro n48
    induction n48 with
    | zero =>
      intro M38 J39 hI40 hK41 hK42 h43 h44 h45 h46 hm50
      exfalso
      have := zXs.mz (h43.imp (fun q => q.1) id) hI40 h0
      omega
    | succ n48 ih49 =>
      intro M38 J39 hI40 hK41 hK42 h43 h44 h45 h46 hm50
      have hz51 : M38 (a + 18) 3 = M (a + 18) 3 := (h46)
      refine q_aload_n C dX12_expands_25 (n := 26) rfl rfl ?_
      have g52 := zI.at hI40 (zM142 h0)
      refine q_getI C dX12_expands_26 (n := 29) rfl f_X12_448 (zM0 h0) (v := M38 a 57) rfl ?_
      refine q_if_lt C 205 dX12_expands_29 (n := 32) rfl rfl (by omega) (fun h53 => ?_) (fun h53 => ?_)
      · have gls2 : M38 a 61 ≤ 3440 := h43.elim (fun q => q.2) (fun q => q.ls)
        refine q_iconst C dX12_expands_205 (n := 206) rfl ?_
        exact q_zret C dX12_expands_206 ⟨rfl, rfl⟩ (by omega) (by rw [hPo]; exact ⟨1, M38, J39, rfl, rfl, hI40, hK41, by omega, h44, h45, by omega, by have hz54 : M38 (a + 18) 3 = M (a + 18) 3 := (h46); omega⟩)
      · obtain ⟨n, hX⟩ := h43.resolve_left (fun q => absurd q.1 (by omega))
        have gx55 := zX.num hX
        have hmz := zMz_of hX
        have gcm := zX.cm hX (f := M38 a 57) rfl
        have gmu := zX.mu hX hI40 h0
        have gls := zX.ls3 hX
        refine q_aload_n C dX12_expands_32 (n := 33) rfl rfl ?_
        refine q_getR C dX12_expands_33 (n := 36) rfl f_X12_98 (zM0 h0) (hF _ _ _ (zM97 h0)) ?_
        refine q_aload_n C dX12_expands_36 (n := 37) rfl rfl ?_
        refine q_getI C dX12_expands_37 (n := 40) rfl f_X12_448 (zM0 h0) (v := M38 a 57) rfl ?_
        have g56 := zI.at hI40 ((zM99 h0) (M38 a 57))
        refine q_iald C dX12_expands_40 (n := 41) rfl (zM98 h0) (by omega) (v := M38 (a + 28) (M38 a 57)) rfl ?_
        refine q_if_lt C 53 dX12_expands_41 (n := 44) rfl rfl (by omega) (fun h57 => ?_) (fun h57 => ?_)
        · refine q_aload_n C dX12_expands_53 (n := 54) rfl rfl ?_
          refine q_callVi C dX12_expands_54 (n := 57) rfl m_X12_484 v_yX12_peek (zM0 h0) ⟨by decide, rfl⟩ (c_X12_peek (w := w) (J := J39) hI40 hF h0 hX (by omega)) (Nat.le_of_ble_eq_true rfl) rfl rfl (Nat.le_of_ble_eq_true rfl) ⟨Nat.le_refl _, Nat.le_refl _⟩ (fun x67 M63 J64  hI65 h66 => ?_)
          obtain ⟨hk68, h58, h59, h60, h61, h62⟩ := h66
          have hK69 := hK41.tr hk68 rfl rfl rfl
          have hK70 := hK42.tr hk68 rfl rfl rfl
          refine q_istore_n C [.ref (w.2.1 + a), zi x67, .null, .null] dX12_expands_57 (n := 58) rfl rfl rfl ?_
          refine q_iload_n C dX12_expands_58 (n := 59) rfl rfl ?_
          refine q_if_ge C 86 dX12_expands_59 (n := 62) rfl rfl (by omega) (fun h71 => ?_) (fun h71 => ?_)
          · have hp72 : zNx M63 a := h61.resolve_left (by omega)
            refine q_aload_n C dX12_expands_86 (n := 87) rfl rfl ?_
            refine q_callVv C dX12_expands_87 (n := 90) rfl m_X12_491 v_yX12_goes (zM0 h0) ⟨by decide, rfl⟩ (c_X12_goes (w := w) (J := J64) hI65 hF h0 h59 (by have hz73 : M63 a 57 = M38 a 57 := (hk68.getS rfl rfl); omega) hp72) (Nat.le_of_ble_eq_true rfl) rfl rfl (Nat.le_of_ble_eq_true rfl) ⟨Nat.le_refl _, Nat.le_refl _⟩ (fun M76 J77  hI78 h79 => ?_)
            obtain ⟨hk80, h74, h75⟩ := h79
            have hK81 := hK69.tr hk80 rfl rfl rfl
            have hK82 := hK70.tr hk80 rfl rfl rfl
            refine q_aload_n C dX12_expands_90 (n := 91) rfl rfl ?_
            refine q_iload_n C dX12_expands_91 (n := 92) rfl rfl ?_
            refine q_callVp C dX12_expands_92 (n := 95) rfl m_X12_436 v_yX12_macroOf (zM0 h0) ⟨by decide, rfl⟩ (c_X12_macroOf (w := w) (J := J77) hI78 hF h0 x67 (by omega)) (Nat.le_of_ble_eq_true rfl) rfl rfl (Nat.le_of_ble_eq_true rfl) ⟨Nat.le_refl _, Nat.le_refl _⟩ (fun x84 h85 => ?_)
            have hz86 : M76 (a + 18) 0 = M38 (a + 18) 0 := ((hk80.getA rfl rfl rfl).trans (hk68.getA rfl rfl rfl))
            refine q_istore_n C [.ref (w.2.1 + a), zi x67, zi x84, .null] dX12_expands_95 (n := 96) rfl rfl rfl ?_
            refine q_iload_n C dX12_expands_96 (n := 97) rfl rfl ?_
            refine q_if_lt C 113 dX12_expands_97 (n := 100) rfl rfl (by omega) (fun h87 => ?_) (fun h87 => ?_)
            · refine q_aload_n C dX12_expands_113 (n := 114) rfl rfl ?_
              refine q_iload_n C dX12_expands_114 (n := 115) rfl rfl ?_
              have hp88 : zOg M76 a og lg := h44.cg (fun j => ((hk80.getA rfl rfl rfl).trans (hk68.getA rfl rfl rfl))) (fun j => ((hk80.getA rfl rfl rfl).trans (hk68.getA rfl rfl rfl)))
              refine q_callVv C dX12_expands_115 (n := 118) rfl m_X12_497 v_yX12_passes (zM0 h0) ⟨by decide, rfl⟩ (c_X12_passes (w := w) (J := J77) hI78 hF h0 x67 h74 hp88 (by have hz89 : M76 a 57 = M38 a 57 := ((hk80.getS rfl rfl).trans (hk68.getS rfl rfl)); omega) (by omega)) (Nat.le_of_ble_eq_true rfl) rfl rfl (Nat.le_of_ble_eq_true rfl) ⟨Nat.le_refl _, Nat.le_refl _⟩ (fun M92 J93  hI94 h95 => ?_)
              obtain ⟨hk96, h90, h91⟩ := h95
              have hK97 := hK81.tr hk96 rfl rfl rfl
              have hK98 := hK82.tr hk96 rfl rfl rfl
              refine q_goto C 202 dX12_expands_118 rfl ?_
              refine q_goto C 25 dX12_expands_202 rfl ?_
              have hm99 := zMz_of h90
              have hm100 : zMu M92 a n = zMu M76 a n := zMu_cg (fun j => (hk96.getA rfl rfl rfl)) (fun j => (hk96.getA rfl rfl rfl)) (fun j => (hk96.getA rfl rfl rfl)) (hk96.getS rfl rfl) (hk96.getS rfl rfl) (hk96.getS rfl rfl)
              have gx101 := zX.num h90
              have hz102 : M92 a 62 = M38 a 62 := ((hk96.getS rfl rfl).trans ((hk80.getS rfl rfl).trans (hk68.getS rfl rfl)))
              have hz103 : M92 a 57 = M38 a 57 := ((hk96.getS rfl rfl).trans ((hk80.getS rfl rfl).trans (hk68.getS rfl rfl)))
              have hz104 : M92 a 58 = M63 a 58 := ((hk96.getS rfl rfl).trans (hk80.getS rfl rfl))
              have hz105 : M92 a 59 = M38 a 59 := ((hk96.getS rfl rfl).trans ((hk80.getS rfl rfl).trans (hk68.getS rfl rfl)))
              have hz106 : M92 a 60 = M38 a 60 := ((hk96.getS rfl rfl).trans ((hk80.getS rfl rfl).trans (hk68.getS rfl rfl)))
              have hz107 : M92 a 25 = M38 a 25 := ((hk96.getS rfl rfl).trans ((hk80.getS rfl rfl).trans (hk68.getS rfl rfl)))
              have hz108 : M92 a 24 = M38 a 24 := ((hk96.getS rfl rfl).trans ((hk80.getS rfl rfl).trans (hk68.getS rfl rfl)))
              have hp109 : zMa M92 a mb mp := h45.cg (fun j j0 j1 => ((hk96.getA rfl rfl rfl).trans ((hk80.getA rfl rfl rfl).trans (hk68.getA rfl rfl rfl)))) (fun j => ((hk96.getA rfl rfl rfl).trans ((hk80.getA rfl rfl rfl).trans (hk68.getA rfl rfl rfl))))
              exact zK.weak (ih49 M92 J93 hI94 hK97 hK98 (Or.inr (zXs.mk h90 (by have hw : M92 a 59 = M38 a 59 := ((hk96.getS rfl rfl).trans ((hk80.getS rfl rfl).trans (hk68.getS rfl rfl))); omega))) h91 hp109 (by have hz110 : M92 (a + 18) 3 = M (a + 18) 3 := ((hk96.getA rfl rfl rfl).trans ((hk80.getA rfl rfl rfl).trans ((hk68.getA rfl rfl rfl).trans (h46)))); omega) (by omega)) (zwk_c (zwk_n (zwk_n (zwk_n zwk_e))))
            · refine q_aload_n C dX12_expands_100 (n := 101) rfl rfl ?_
              refine q_getR C dX12_expands_101 (n := 104) rfl f_X12_58 (zM0 h0) (hF _ _ _ (zM49 h0)) ?_
              refine q_iload_n C dX12_expands_104 (n := 105) rfl rfl ?_
              have g111 := zI.at hI40 ((zM51 h0) x67)
              refine q_iald C dX12_expands_105 (n := 106) rfl (zM50 h0) (by omega) (v := M38 (a + 15) x67) ((hk80.getA rfl rfl rfl).trans (hk68.getA rfl rfl rfl)) ?_
              refine q_iload_n C dX12_expands_106 (n := 107) rfl rfl ?_
              refine q_callSp C dX12_expands_107 (n := 110) rfl m_X12_494 s_yX12_bitOf (c_X12_bitOf (w := w) (J := J77) hI78 hF (M38 (a + 15) x67) x84 (by omega) (by omega)) (Nat.le_of_ble_eq_true rfl) rfl rfl (Nat.le_of_ble_eq_true rfl) ⟨Nat.le_refl _, Nat.le_refl _⟩ (fun x113 h114 => ?_)
              refine q_if_eq C 121 dX12_expands_110 (n := 113) rfl rfl (by omega) (fun h115 => ?_) (fun h115 => ?_)
              · refine q_aload_n C dX12_expands_121 (n := 122) rfl rfl ?_
                refine q_getR C dX12_expands_122 (n := 125) rfl f_X12_68 (zM0 h0) (hF _ _ _ (zM65 h0)) ?_
                refine q_sipush C dX12_expands_125 (n := 128) rfl (x := 199) (by decide) ?_
                refine q_iload_n C dX12_expands_128 (n := 129) rfl rfl ?_
                refine q_iadd C dX12_expands_129 (n := 130) rfl (v := 199 + x84) rfl ?_
                have g116 := zI.at hI40 (((zM67 h0) (199 + x84)).trans (zwG_199 (by omega)))
                refine q_iald C dX12_expands_130 (n := 131) rfl (zM66 h0) (by omega) (v := M38 (a + 18) (199 + x84)) ((hk80.getA rfl rfl rfl).trans (hk68.getA rfl rfl rfl)) ?_
                refine q_if_ge C 164 dX12_expands_131 (n := 134) rfl rfl (by omega) (fun h117 => ?_) (fun h117 => ?_)
                · refine q_aload_n C dX12_expands_164 (n := 165) rfl rfl ?_
                  refine q_callVi C dX12_expands_165 (n := 168) rfl m_X12_484 v_yX12_peek (zM0 h0) ⟨by decide, rfl⟩ (c_X12_peek (w := w) (J := J77) hI78 hF h0 h74 (by have hz118 : M76 a 57 = M38 a 57 := ((hk80.getS rfl rfl).trans (hk68.getS rfl rfl)); omega)) (Nat.le_of_ble_eq_true rfl) rfl rfl (Nat.le_of_ble_eq_true rfl) ⟨Nat.le_refl _, Nat.le_refl _⟩ (fun x128 M124 J125  hI126 h127 => ?_)
                  obtain ⟨hk129, h119, h120, h121, h122, h123⟩ := h127
                  have hK130 := hK81.tr hk129 rfl rfl rfl
                  have hK131 := hK82.tr hk129 rfl rfl rfl
                  have hz132 : M76 (a + 27) (M a 57) = M38 (a + 27) (M a 57) := ((hk80.getA rfl rfl rfl).trans (hk68.getA rfl rfl rfl))
                  refine q_istore_n C [.ref (w.2.1 + a), zi x67, zi x84, zi x128] dX12_expands_168 (n := 169) rfl rfl rfl ?_
                  refine q_iload_n C dX12_expands_169 (n := 170) rfl rfl ?_
                  refine q_if_lt C 183 dX12_expands_170 (n := 173) rfl rfl (by omega) (fun h133 => ?_) (fun h133 => ?_)
                  · refine q_aload_n C dX12_expands_183 (n := 184) rfl rfl ?_
                    refine q_iload_n C dX12_expands_184 (n := 185) rfl rfl ?_
                    have hp134 : zOg M124 a og lg := h44.cg (fun j => ((hk129.getA rfl rfl rfl).trans ((hk80.getA rfl rfl rfl).trans (hk68.getA rfl rfl rfl)))) (fun j => ((hk129.getA rfl rfl rfl).trans ((hk80.getA rfl rfl rfl).trans (hk68.getA rfl rfl rfl))))
                    refine q_callVv C dX12_expands_185 (n := 188) rfl m_X12_497 v_yX12_passes (zM0 h0) ⟨by decide, rfl⟩ (c_X12_passes (w := w) (J := J125) hI126 hF h0 x67 h120 hp134 (by have hz135 : M124 a 57 = M38 a 57 := ((hk129.getS rfl rfl).trans ((hk80.getS rfl rfl).trans (hk68.getS rfl rfl))); omega) (by omega)) (Nat.le_of_ble_eq_true rfl) rfl rfl (Nat.le_of_ble_eq_true rfl) ⟨Nat.le_refl _, Nat.le_refl _⟩ (fun M138 J139  hI140 h141 => ?_)
                    obtain ⟨hk142, h136, h137⟩ := h141
                    have hK143 := hK130.tr hk142 rfl rfl rfl
                    have hK144 := hK131.tr hk142 rfl rfl rfl
                    refine q_goto C 202 dX12_expands_188 rfl ?_
                    refine q_goto C 25 dX12_expands_202 rfl ?_
                    have hm145 := zMz_of h136
                    have hm146 : zMu M138 a n = zMu M124 a n := zMu_cg (fun j => (hk142.getA rfl rfl rfl)) (fun j => (hk142.getA rfl rfl rfl)) (fun j => (hk142.getA rfl rfl rfl)) (hk142.getS rfl rfl) (hk142.getS rfl rfl) (hk142.getS rfl rfl)
                    have gx147 := zX.num h136
                    have hz148 : M138 a 62 = M38 a 62 := ((hk142.getS rfl rfl).trans ((hk129.getS rfl rfl).trans ((hk80.getS rfl rfl).trans (hk68.getS rfl rfl))))
                    have hz149 : M138 a 57 = M38 a 57 := ((hk142.getS rfl rfl).trans ((hk129.getS rfl rfl).trans ((hk80.getS rfl rfl).trans (hk68.getS rfl rfl))))
                    have hz150 : M138 a 58 = M124 a 58 := (hk142.getS rfl rfl)
                    have hz151 : M138 a 59 = M38 a 59 := ((hk142.getS rfl rfl).trans ((hk129.getS rfl rfl).trans ((hk80.getS rfl rfl).trans (hk68.getS rfl rfl))))
                    have hz152 : M138 a 60 = M38 a 60 := ((hk142.getS rfl rfl).trans ((hk129.getS rfl rfl).trans ((hk80.getS rfl rfl).trans (hk68.getS rfl rfl))))
                    have hz153 : M138 a 25 = M38 a 25 := ((hk142.getS rfl rfl).trans ((hk129.getS rfl rfl).trans ((hk80.getS rfl rfl).trans (hk68.getS rfl rfl))))
                    have hz154 : M138 a 24 = M38 a 24 := ((hk142.getS rfl rfl).trans ((hk129.getS rfl rfl).trans ((hk80.getS rfl rfl).trans (hk68.getS rfl rfl))))
                    have hp155 : zMa M138 a mb mp := h45.cg (fun j j0 j1 => ((hk142.getA rfl rfl rfl).trans ((hk129.getA rfl rfl rfl).trans ((hk80.getA rfl rfl rfl).trans (hk68.getA rfl rfl rfl))))) (fun j => ((hk142.getA rfl rfl rfl).trans ((hk129.getA rfl rfl rfl).trans ((hk80.getA rfl rfl rfl).trans (hk68.getA rfl rfl rfl)))))
                    exact zK.weak (ih49 M138 J139 hI140 hK143 hK144 (Or.inr (zXs.mk h136 (by have hw : M138 a 59 = M38 a 59 := ((hk142.getS rfl rfl).trans ((hk129.getS rfl rfl).trans ((hk80.getS rfl rfl).trans (hk68.getS rfl rfl)))); omega))) h137 hp155 (by have hz156 : M138 (a + 18) 3 = M (a + 18) 3 := ((hk142.getA rfl rfl rfl).trans ((hk129.getA rfl rfl rfl).trans ((hk80.getA rfl rfl rfl).trans ((hk68.getA rfl rfl rfl).trans (h46))))); omega) (by omega)) (zwk_c (zwk_n (zwk_n (zwk_n zwk_e))))
                  · refine q_aload_n C dX12_expands_173 (n := 174) rfl rfl ?_
                    refine q_iload_n C dX12_expands_174 (n := 175) rfl rfl ?_
                    refine q_bipush C dX12_expands_175 (n := 177) rfl (x := 40) (by decide) ?_
                    refine q_callVp C dX12_expands_177 (n := 180) rfl m_X12_406 v_yX12_isSign (zM0 h0) ⟨by decide, rfl⟩ (c_X12_isSign (w := w) (J := J125) hI126 hF h0 x128 40 (by omega) (by omega)) (Nat.le_of_ble_eq_true rfl) rfl rfl (Nat.le_of_ble_eq_true rfl) ⟨Nat.le_refl _, Nat.le_refl _⟩ (fun x160 h161 => ?_)
                    obtain ⟨h157, h158, h159⟩ := h161
                    have hz162 : M124 (a + 9) x128 = M38 (a + 9) x128 := ((hk129.getA rfl rfl rfl).trans ((hk80.getA rfl rfl rfl).trans (hk68.getA rfl rfl rfl)))
                    have hz163 : M124 (a + 11) x128 = M38 (a + 11) x128 := ((hk129.getA rfl rfl rfl).trans ((hk80.getA rfl rfl rfl).trans (hk68.getA rfl rfl rfl)))
                    refine q_if_ne C 191 dX12_expands_180 (n := 183) rfl rfl (by omega) (fun h164 => ?_) (fun h164 => ?_)
                    · have hp165 : zNx M124 a := h122.resolve_left (by omega)
                      refine q_aload_n C dX12_expands_191 (n := 192) rfl rfl ?_
                      refine q_iload_n C dX12_expands_192 (n := 193) rfl rfl ?_
                      refine q_iload_n C dX12_expands_193 (n := 194) rfl rfl ?_
                      have gx166 := zX.num h120
                      have hz167 : M124 a 62 = M38 a 62 := ((hk129.getS rfl rfl).trans ((hk80.getS rfl rfl).trans (hk68.getS rfl rfl)))
                      have hz168 : M124 a 57 = M38 a 57 := ((hk129.getS rfl rfl).trans ((hk80.getS rfl rfl).trans (hk68.getS rfl rfl)))
                      have hz169 : M124 a 59 = M38 a 59 := ((hk129.getS rfl rfl).trans ((hk80.getS rfl rfl).trans (hk68.getS rfl rfl)))
                      have hz170 : M124 a 60 = M38 a 60 := ((hk129.getS rfl rfl).trans ((hk80.getS rfl rfl).trans (hk68.getS rfl rfl)))
                      have hz171 : M124 a 26 = M38 a 26 := ((hk129.getS rfl rfl).trans ((hk80.getS rfl rfl).trans (hk68.getS rfl rfl)))
                      have hz172 : M124 a 25 = M38 a 25 := ((hk129.getS rfl rfl).trans ((hk80.getS rfl rfl).trans (hk68.getS rfl rfl)))
                      have hz173 : M124 a 24 = M38 a 24 := ((hk129.getS rfl rfl).trans ((hk80.getS rfl rfl).trans (hk68.getS rfl rfl)))
                      have hz174 : M124 a 61 = M38 a 61 := ((hk129.getS rfl rfl).trans ((hk80.getS rfl rfl).trans (hk68.getS rfl rfl)))
                      have hp176 : zMa M124 a mb mp := h45.cg (fun j j0 j1 => ((hk129.getA rfl rfl rfl).trans ((hk80.getA rfl rfl rfl).trans (hk68.getA rfl rfl rfl)))) (fun j => ((hk129.getA rfl rfl rfl).trans ((hk80.getA rfl rfl rfl).trans (hk68.getA rfl rfl rfl))))
                      refine q_callVi C dX12_expands_194 (n := 197) rfl m_X12_506 v_yX12_calls (zM0 h0) ⟨by decide, rfl⟩ (c_X12_calls (w := w) (J := J125) hI126 hF h0 x67 x84 (M38 a 57) h120 (by have hz175 : M124 a 57 = M38 a 57 := ((hk129.getS rfl rfl).trans ((hk80.getS rfl rfl).trans (hk68.getS rfl rfl))); omega) hp176 (by have hz177 : M124 a 59 = M38 a 59 := ((hk129.getS rfl rfl).trans ((hk80.getS rfl rfl).trans (hk68.getS rfl rfl))); omega) hp165 (by omega) (by omega)) (Nat.le_of_ble_eq_true rfl) rfl rfl (Nat.le_of_ble_eq_true rfl) ⟨Nat.le_refl _, Nat.le_refl _⟩ (fun x187 M183 J184  hI185 h186 => ?_)
                      obtain ⟨hk188, h178, h179, h180, h181, h182⟩ := h186
                      have hK189 := hK130.tr hk188 rfl rfl rfl
                      have hK190 := hK131.tr hk188 rfl rfl rfl
                      have hz191 : M124 (a + 18) 3 = M (a + 18) 3 := ((hk129.getA rfl rfl rfl).trans ((hk80.getA rfl rfl rfl).trans ((hk68.getA rfl rfl rfl).trans (h46))))
                      refine q_if_ne C 202 dX12_expands_197 (n := 200) rfl rfl (by omega) (fun h192 => ?_) (fun h192 => ?_)
                      · refine q_goto C 25 dX12_expands_202 rfl ?_
                        have hm193 := zMz_of (h179.resolve_left (by omega))
                        have hm194 := h180.resolve_left (by omega)
                        have hp195 : zOg M183 a og lg := h44.cg (fun j => ((hk188.getA rfl rfl rfl).trans ((hk129.getA rfl rfl rfl).trans ((hk80.getA rfl rfl rfl).trans (hk68.getA rfl rfl rfl))))) (fun j => ((hk188.getA rfl rfl rfl).trans ((hk129.getA rfl rfl rfl).trans ((hk80.getA rfl rfl rfl).trans (hk68.getA rfl rfl rfl)))))
                        exact zK.weak (ih49 M183 J184 hI185 hK189 hK190 (Or.inr (zXs.mk (h179.resolve_left (by omega)) rfl)) hp195 h181 (by have hz196 : M183 (a + 18) 3 = M (a + 18) 3 := ((h182).trans ((hk129.getA rfl rfl rfl).trans ((hk80.getA rfl rfl rfl).trans ((hk68.getA rfl rfl rfl).trans (h46))))); omega) (by omega)) (zwk_c (zwk_n (zwk_n (zwk_n zwk_e))))
                      · refine q_iconst C dX12_expands_200 (n := 201) rfl ?_
                        have hp197 : zOg M183 a og lg := h44.cg (fun j => ((hk188.getA rfl rfl rfl).trans ((hk129.getA rfl rfl rfl).trans ((hk80.getA rfl rfl rfl).trans (hk68.getA rfl rfl rfl))))) (fun j => ((hk188.getA rfl rfl rfl).trans ((hk129.getA rfl rfl rfl).trans ((hk80.getA rfl rfl rfl).trans (hk68.getA rfl rfl rfl)))))
                        exact q_zret C dX12_expands_201 ⟨rfl, rfl⟩ (by omega) (by rw [hPo]; exact ⟨0, M183, J184, rfl, rfl, hI185, hK189, by omega, hp197, h181, by have hz198 : M183 a 61 = M38 a 61 := ((hk188.getS rfl rfl).trans ((hk129.getS rfl rfl).trans ((hk80.getS rfl rfl).trans (hk68.getS rfl rfl)))); omega, by have hz199 : M183 (a + 18) 3 = M (a + 18) 3 := ((h182).trans ((hk129.getA rfl rfl rfl).trans ((hk80.getA rfl rfl rfl).trans ((hk68.getA rfl rfl rfl).trans (h46))))); omega⟩)
                    · refine q_aload_n C dX12_expands_183 (n := 184) rfl rfl ?_
                      refine q_iload_n C dX12_expands_184 (n := 185) rfl rfl ?_
                      have hp200 : zOg M124 a og lg := h44.cg (fun j => ((hk129.getA rfl rfl rfl).trans ((hk80.getA rfl rfl rfl).trans (hk68.getA rfl rfl rfl)))) (fun j => ((hk129.getA rfl rfl rfl).trans ((hk80.getA rfl rfl rfl).trans (hk68.getA rfl rfl rfl))))
                      refine q_callVv C dX12_expands_185 (n := 188) rfl m_X12_497 v_yX12_passes (zM0 h0) ⟨by decide, rfl⟩ (c_X12_passes (w := w) (J := J125) hI126 hF h0 x67 h120 hp200 (by have hz201 : M124 a 57 = M38 a 57 := ((hk129.getS rfl rfl).trans ((hk80.getS rfl rfl).trans (hk68.getS rfl rfl))); omega) (by omega)) (Nat.le_of_ble_eq_true rfl) rfl rfl (Nat.le_of_ble_eq_true rfl) ⟨Nat.le_refl _, Nat.le_refl _⟩ (fun M204 J205  hI206 h207 => ?_)
                      obtain ⟨hk208, h202, h203⟩ := h207
                      have hK209 := hK130.tr hk208 rfl rfl rfl
                      have hK210 := hK131.tr hk208 rfl rfl rfl
                      refine q_goto C 202 dX12_expands_188 rfl ?_
                      refine q_goto C 25 dX12_expands_202 rfl ?_
                      have hm211 := zMz_of h202
                      have hm212 : zMu M204 a n = zMu M124 a n := zMu_cg (fun j => (hk208.getA rfl rfl rfl)) (fun j => (hk208.getA rfl rfl rfl)) (fun j => (hk208.getA rfl rfl rfl)) (hk208.getS rfl rfl) (hk208.getS rfl rfl) (hk208.getS rfl rfl)
                      have gx213 := zX.num h202
                      have hz214 : M204 a 62 = M38 a 62 := ((hk208.getS rfl rfl).trans ((hk129.getS rfl rfl).trans ((hk80.getS rfl rfl).trans (hk68.getS rfl rfl))))
                      have hz215 : M204 a 57 = M38 a 57 := ((hk208.getS rfl rfl).trans ((hk129.getS rfl rfl).trans ((hk80.getS rfl rfl).trans (hk68.getS rfl rfl))))
                      have hz216 : M204 a 58 = M124 a 58 := (hk208.getS rfl rfl)
                      have hz217 : M204 a 59 = M38 a 59 := ((hk208.getS rfl rfl).trans ((hk129.getS rfl rfl).trans ((hk80.getS rfl rfl).trans (hk68.getS rfl rfl))))
                      have hz218 : M204 a 60 = M38 a 60 := ((hk208.getS rfl rfl).trans ((hk129.getS rfl rfl).trans ((hk80.getS rfl rfl).trans (hk68.getS rfl rfl))))
                      have hz219 : M204 a 25 = M38 a 25 := ((hk208.getS rfl rfl).trans ((hk129.getS rfl rfl).trans ((hk80.getS rfl rfl).trans (hk68.getS rfl rfl))))
                      have hz220 : M204 a 24 = M38 a 24 := ((hk208.getS rfl rfl).trans ((hk129.getS rfl rfl).trans ((hk80.getS rfl rfl).trans (hk68.getS rfl rfl))))
                      have hp221 : zMa M204 a mb mp := h45.cg (fun j j0 j1 => ((hk208.getA rfl rfl rfl).trans ((hk129.getA rfl rfl rfl).trans ((hk80.getA rfl rfl rfl).trans (hk68.getA rfl rfl rfl))))) (fun j => ((hk208.getA rfl rfl rfl).trans ((hk129.getA rfl rfl rfl).trans ((hk80.getA rfl rfl rfl).trans (hk68.getA rfl rfl rfl)))))
                      exact zK.weak (ih49 M204 J205 hI206 hK209 hK210 (Or.inr (zXs.mk h202 (by have hw : M204 a 59 = M38 a 59 := ((hk208.getS rfl rfl).trans ((hk129.getS rfl rfl).trans ((hk80.getS rfl rfl).trans (hk68.getS rfl rfl)))); omega))) h203 hp221 (by have hz222 : M204 (a + 18) 3 = M (a + 18) 3 := ((hk208.getA rfl rfl rfl).trans ((hk129.getA rfl rfl rfl).trans ((hk80.getA rfl rfl rfl).trans ((hk68.getA rfl rfl rfl).trans (h46))))); omega) (by omega)) (zwk_c (zwk_n (zwk_n (zwk_n zwk_e))))
                · refine q_aload_n C dX12_expands_134 (n := 135) rfl rfl ?_
                  refine q_getR C dX12_expands_135 (n := 138) rfl f_X12_110 (zM0 h0) (hF _ _ _ (zM109 h0)) ?_
                  refine q_aload_n C dX12_expands_138 (n := 139) rfl rfl ?_
                  refine q_getI C dX12_expands_139 (n := 142) rfl f_X12_448 (zM0 h0) (v := M38 a 57) ((hk80.getS rfl rfl).trans (hk68.getS rfl rfl)) ?_
                  refine q_aload_n C dX12_expands_142 (n := 143) rfl rfl ?_
                  have g223 := zI.at hI40 (zM144 h0)
                  refine q_getI C dX12_expands_143 (n := 146) rfl f_X12_500 (zM0 h0) (v := M38 a 59) ((hk80.getS rfl rfl).trans (hk68.getS rfl rfl)) ?_
                  refine q_iast C dX12_expands_146 (n := 147) rfl (zM110 h0) (by omega)  (fun M224 e225 => ?_)
                  have hI226 : zI G M224 := hI78.put e225 ((zM111 h0) (M38 a 57)) rfl (by omega)
                  have hK227 := hK81.upA e225 rfl
                  have hK228 := hK82.upA e225 rfl
                  have hz229 : M76 a 62 = M38 a 62 := ((hk80.getS rfl rfl).trans (hk68.getS rfl rfl))
                  have hz230 : M76 a 57 = M38 a 57 := ((hk80.getS rfl rfl).trans (hk68.getS rfl rfl))
                  have hz231 : M76 a 58 = M63 a 58 := (hk80.getS rfl rfl)
                  have hz232 : M76 a 59 = M38 a 59 := ((hk80.getS rfl rfl).trans (hk68.getS rfl rfl))
                  have hz233 : M76 a 60 = M38 a 60 := ((hk80.getS rfl rfl).trans (hk68.getS rfl rfl))
                  have hz234 : M76 a 26 = M38 a 26 := ((hk80.getS rfl rfl).trans (hk68.getS rfl rfl))
                  have hz235 : M76 a 25 = M38 a 25 := ((hk80.getS rfl rfl).trans (hk68.getS rfl rfl))
                  have hz236 : M76 a 24 = M38 a 24 := ((hk80.getS rfl rfl).trans (hk68.getS rfl rfl))
                  have hz237 : M76 a 61 = M38 a 61 := ((hk80.getS rfl rfl).trans (hk68.getS rfl rfl))
                  have hx238 : zX M224 a mb mp n (M38 a 59) (0 + 1) 0 0 := zY.cgr (Y_ca h74 (by omega) (x := M38 a 59)) (zup_p e225 (by omega) _) (zup_p e225 (by omega) _) (zup_p e225 (by omega) _) (zup_p e225 (by omega) _) (zup_p e225 (by omega) _) (zup_p e225 (by omega) _) (zup_p e225 (by omega) _) (zup_p e225 (by omega) _) (zup_p e225 (by omega) _) (funext fun j => (zup_p e225 (by omega) _)) (funext fun j => (zup_p e225 (by omega) _)) (funext fun j => (zup_p e225 (by omega) _)) (funext fun j => (zup_p e225 (by omega) _)) (funext fun j => (zup_p e225 (by omega) _)) (funext fun j => (zup_p e225 (by omega) _)) (funext fun j => by by_cases q : j = (M76 a 57); (rw [q, yup_s]; rw [show (M76 a 57) = M38 a 57 by omega]; have hw : M224 (a + 32) (M38 a 57) = M38 a 59 := (zup_e e225 (by omega)); have hv : M76 (a + 32) (M38 a 57) = M38 (a + 32) (M38 a 57) := ((hk80.getA rfl rfl rfl).trans (hk68.getA rfl rfl rfl)); omega); (rw [yup_n q]; exact (zup_n e225 (by omega)))) (funext fun j => (zup_p e225 (by omega) _)) (funext fun j => (zup_p e225 (by omega) _)) (funext fun j => (zup_p e225 (by omega) _)) (funext fun j => (zup_p e225 (by omega) _)) (funext fun j => (zup_p e225 (by omega) _)) (funext fun j => (zup_p e225 (by omega) _))
                  have hp239 : zMa M224 a mb mp := h45.cg (fun j j0 j1 => ((zup_p e225 (by omega) _).trans ((hk80.getA rfl rfl rfl).trans (hk68.getA rfl rfl rfl)))) (fun j => ((zup_p e225 (by omega) _).trans ((hk80.getA rfl rfl rfl).trans (hk68.getA rfl rfl rfl))))
                  have gw2 := zMa.w hp239 (m := x84) (by omega) (by omega)
                  have hz241 : M224 (a + 18) (199 + x84) = M38 (a + 18) (199 + x84) := ((zup_p e225 (by omega) _).trans ((hk80.getA rfl rfl rfl).trans (hk68.getA rfl rfl rfl)))
                  have hp240 : zAg M224 a mp (M38 a 57) (M38 a 59) x84 := fun p p0 p1 => by exfalso; omega
                  refine q_aload_n C dX12_expands_147 (n := 148) rfl rfl ?_
                  refine q_iload_n C dX12_expands_148 (n := 149) rfl rfl ?_
                  refine q_iload_n C dX12_expands_149 (n := 150) rfl rfl ?_
                  refine q_aload_n C dX12_expands_150 (n := 151) rfl rfl ?_
                  refine q_getR C dX12_expands_151 (n := 154) rfl f_X12_58 (zM0 h0) (hF _ _ _ (zM49 h0)) ?_
                  refine q_iload_n C dX12_expands_154 (n := 155) rfl rfl ?_
                  refine q_iald C dX12_expands_155 (n := 156) rfl (zM50 h0) (by omega) (v := M38 (a + 15) x67) ((zup_p e225 (by omega) _).trans ((hk80.getA rfl rfl rfl).trans (hk68.getA rfl rfl rfl))) ?_
                  have hm242 : zMu M224 a n = zMu M76 a n := zMu_cg (fun j => (zup_p e225 (by omega) _)) (fun j => (zup_p e225 (by omega) _)) (fun j => (zup_p e225 (by omega) _)) (zup_p e225 (by omega) _) (zup_p e225 (by omega) _) (zup_p e225 (by omega) _)
                  have gx243 := zX.num hx238
                  have hz244 : M224 a 62 = M38 a 62 := ((zup_p e225 (by omega) _).trans ((hk80.getS rfl rfl).trans (hk68.getS rfl rfl)))
                  have hz245 : M224 a 57 = M38 a 57 := ((zup_p e225 (by omega) _).trans ((hk80.getS rfl rfl).trans (hk68.getS rfl rfl)))
                  have hz246 : M224 a 58 = M63 a 58 := ((zup_p e225 (by omega) _).trans (hk80.getS rfl rfl))
                  have hz247 : M224 a 59 = M38 a 59 := ((zup_p e225 (by omega) _).trans ((hk80.getS rfl rfl).trans (hk68.getS rfl rfl)))
                  have hz248 : M224 a 60 = M38 a 60 := ((zup_p e225 (by omega) _).trans ((hk80.getS rfl rfl).trans (hk68.getS rfl rfl)))
                  have hz249 : M224 a 26 = M38 a 26 := ((zup_p e225 (by omega) _).trans ((hk80.getS rfl rfl).trans (hk68.getS rfl rfl)))
                  have hz250 : M224 a 25 = M38 a 25 := ((zup_p e225 (by omega) _).trans ((hk80.getS rfl rfl).trans (hk68.getS rfl rfl)))
                  have hz251 : M224 a 24 = M38 a 24 := ((zup_p e225 (by omega) _).trans ((hk80.getS rfl rfl).trans (hk68.getS rfl rfl)))
                  have hz252 : M224 a 61 = M38 a 61 := ((zup_p e225 (by omega) _).trans ((hk80.getS rfl rfl).trans (hk68.getS rfl rfl)))
                  refine q_callVi C dX12_expands_156 (n := 159) rfl m_X12_503 v_yX12_begins (zM0 h0) ⟨by decide, rfl⟩ (c_X12_begins (w := w) (J := J77) hI226 hF h0 x67 x84 (M38 (a + 15) x67) (M38 a 57) hx238 (by have hz253 : M224 a 57 = M38 a 57 := ((zup_p e225 (by omega) _).trans ((hk80.getS rfl rfl).trans (hk68.getS rfl rfl))); omega) (by omega) (by have hz254 : M224 (a + 32) (M38 a 57) = M38 a 59 := ((show _ from by rw [show ((M38 a 57) : Int) = M38 a 57 by omega]; exact zup_s e225)); omega) (by omega) (by omega) (by omega) hp240 hp239) (Nat.le_of_ble_eq_true rfl) rfl rfl (Nat.le_of_ble_eq_true rfl) ⟨Nat.le_refl _, Nat.le_refl _⟩ (fun x264 M260 J261  hI262 h263 => ?_)
                  obtain ⟨hk265, h255, h256, h257, h258, h259⟩ := h263
                  have hK266 := hK227.tr hk265 rfl rfl rfl
                  have hK267 := hK228.tr hk265 rfl rfl rfl
                  have hz268 : M224 a 59 = M38 a 59 := ((zup_p e225 (by omega) _).trans ((hk80.getS rfl rfl).trans (hk68.getS rfl rfl)))
                  have hz269 : M224 a n = M76 a n := (zup_p e225 (by omega) _)
                  have hz270 : M224 (a + 18) 3 = M (a + 18) 3 := ((zup_p e225 (by omega) _).trans ((hk80.getA rfl rfl rfl).trans ((hk68.getA rfl rfl rfl).trans (h46))))
                  refine q_if_ne C 202 dX12_expands_159 (n := 162) rfl rfl (by omega) (fun h271 => ?_) (fun h271 => ?_)
                  · refine q_goto C 25 dX12_expands_202 rfl ?_
                    have hm272 := zMz_of (h256.resolve_left (by omega))
                    have hm273 := h257.resolve_left (by omega)
                    have hp274 : zOg M260 a og lg := h44.cg (fun j => ((hk265.getA rfl rfl rfl).trans ((zup_p e225 (by omega) _).trans ((hk80.getA rfl rfl rfl).trans (hk68.getA rfl rfl rfl))))) (fun j => ((hk265.getA rfl rfl rfl).trans ((zup_p e225 (by omega) _).trans ((hk80.getA rfl rfl rfl).trans (hk68.getA rfl rfl rfl)))))
                    exact zK.weak (ih49 M260 J261 hI262 hK266 hK267 (Or.inr (zXs.mk (h256.resolve_left (by omega)) (show M224 a 59 = M260 a 59 from ((hk265.getS rfl rfl)).symm))) hp274 h258 (by have hz275 : M260 (a + 18) 3 = M (a + 18) 3 := ((h259).trans ((zup_p e225 (by omega) _).trans ((hk80.getA rfl rfl rfl).trans ((hk68.getA rfl rfl rfl).trans (h46))))); omega) (by omega)) (zwk_c (zwk_n (zwk_n (zwk_n zwk_e))))
                  · refine q_iconst C dX12_expands_162 (n := 163) rfl ?_
                    have hp276 : zOg M260 a og lg := h44.cg (fun j => ((hk265.getA rfl rfl rfl).trans ((zup_p e225 (by omega) _).trans ((hk80.getA rfl rfl rfl).trans (hk68.getA rfl rfl rfl))))) (fun j => ((hk265.getA rfl rfl rfl).trans ((zup_p e225 (by omega) _).trans ((hk80.getA rfl rfl rfl).trans (hk68.getA rfl rfl rfl)))))
                    exact q_zret C dX12_expands_163 ⟨rfl, rfl⟩ (by omega) (by rw [hPo]; exact ⟨0, M260, J261, rfl, rfl, hI262, hK266, by omega, hp276, h258, by have hz277 : M260 a 61 = M38 a 61 := ((hk265.getS rfl rfl).trans ((zup_p e225 (by omega) _).trans ((hk80.getS rfl rfl).trans (hk68.getS rfl rfl)))); omega, by have hz278 : M260 (a + 18) 3 = M (a + 18) 3 := ((h259).trans ((zup_p e225 (by omega) _).trans ((hk80.getA rfl rfl rfl).trans ((hk68.getA rfl rfl rfl).trans (h46))))); omega⟩)
              · refine q_aload_n C dX12_expands_113 (n := 114) rfl rfl ?_
                refine q_iload_n C dX12_expands_114 (n := 115) rfl rfl ?_
                have hp279 : zOg M76 a og lg := h44.cg (fun j => ((hk80.getA rfl rfl rfl).trans (hk68.getA rfl rfl rfl))) (fun j => ((hk80.getA rfl rfl rfl).trans (hk68.getA rfl rfl rfl)))
                refine q_callVv C dX12_expands_115 (n := 118) rfl m_X12_497 v_yX12_passes (zM0 h0) ⟨by decide, rfl⟩ (c_X12_passes (w := w) (J := J77) hI78 hF h0 x67 h74 hp279 (by have hz280 : M76 a 57 = M38 a 57 := ((hk80.getS rfl rfl).trans (hk68.getS rfl rfl)); omega) (by omega)) (Nat.le_of_ble_eq_true rfl) rfl rfl (Nat.le_of_ble_eq_true rfl) ⟨Nat.le_refl _, Nat.le_refl _⟩ (fun M283 J284  hI285 h286 => ?_)
                obtain ⟨hk287, h281, h282⟩ := h286
                have hK288 := hK81.tr hk287 rfl rfl rfl
                have hK289 := hK82.tr hk287 rfl rfl rfl
                refine q_goto C 202 dX12_expands_118 rfl ?_
                refine q_goto C 25 dX12_expands_202 rfl ?_
                have hm290 := zMz_of h281
                have hm291 : zMu M283 a n = zMu M76 a n := zMu_cg (fun j => (hk287.getA rfl rfl rfl)) (fun j => (hk287.getA rfl rfl rfl)) (fun j => (hk287.getA rfl rfl rfl)) (hk287.getS rfl rfl) (hk287.getS rfl rfl) (hk287.getS rfl rfl)
                have gx292 := zX.num h281
                have hz293 : M283 a 62 = M38 a 62 := ((hk287.getS rfl rfl).trans ((hk80.getS rfl rfl).trans (hk68.getS rfl rfl)))
                have hz294 : M283 a 57 = M38 a 57 := ((hk287.getS rfl rfl).trans ((hk80.getS rfl rfl).trans (hk68.getS rfl rfl)))
                have hz295 : M283 a 58 = M63 a 58 := ((hk287.getS rfl rfl).trans (hk80.getS rfl rfl))
                have hz296 : M283 a 59 = M38 a 59 := ((hk287.getS rfl rfl).trans ((hk80.getS rfl rfl).trans (hk68.getS rfl rfl)))
                have hz297 : M283 a 60 = M38 a 60 := ((hk287.getS rfl rfl).trans ((hk80.getS rfl rfl).trans (hk68.getS rfl rfl)))
                have hz298 : M283 a 25 = M38 a 25 := ((hk287.getS rfl rfl).trans ((hk80.getS rfl rfl).trans (hk68.getS rfl rfl)))
                have hz299 : M283 a 24 = M38 a 24 := ((hk287.getS rfl rfl).trans ((hk80.getS rfl rfl).trans (hk68.getS rfl rfl)))
                have hp300 : zMa M283 a mb mp := h45.cg (fun j j0 j1 => ((hk287.getA rfl rfl rfl).trans ((hk80.getA rfl rfl rfl).trans (hk68.getA rfl rfl rfl)))) (fun j => ((hk287.getA rfl rfl rfl).trans ((hk80.getA rfl rfl rfl).trans (hk68.getA rfl rfl rfl))))
                exact zK.weak (ih49 M283 J284 hI285 hK288 hK289 (Or.inr (zXs.mk h281 (by have hw : M283 a 59 = M38 a 59 := ((hk287.getS rfl rfl).trans ((hk80.getS rfl rfl).trans (hk68.getS rfl rfl))); omega))) h282 hp300 (by have hz301 : M283 (a + 18) 3 = M (a + 18) 3 := ((hk287.getA rfl rfl rfl).trans ((hk80.getA rfl rfl rfl).trans ((hk68.getA rfl rfl rfl).trans (h46)))); omega) (by omega)) (zwk_c (zwk_n (zwk_n (zwk_n zwk_e))))
          · refine q_aload_n C dX12_expands_62 (n := 63) rfl rfl ?_
            refine q_dup C dX12_expands_63 (n := 64) rfl rfl ?_
            refine q_getI C dX12_expands_64 (n := 67) rfl f_X12_448 (zM0 h0) (v := M38 a 57) (hk68.getS rfl rfl) ?_
            refine q_iconst C dX12_expands_67 (n := 68) rfl ?_
            refine q_isub C dX12_expands_68 (n := 69) rfl (v := (M38 a 57) - 1) rfl ?_
            refine q_putI C dX12_expands_69 (n := 72) rfl f_X12_448 (zM0 h0) ⟨rfl, rfl⟩ (fun M302 (e303 : M302 = zup M63 a 57 ((M38 a 57) - 1)) => ?_)
            have hI304 : zI G M302 := hI65.put e303 (zM142 h0) rfl (by omega)
            have hK305 := hK69.upS e303 rfl
            have hK306 := hK70.upS e303 rfl
            refine q_aload_n C dX12_expands_72 (n := 73) rfl rfl ?_
            refine q_getI C dX12_expands_73 (n := 76) rfl f_X12_448 (zM0 h0) (v := (M38 a 57) - 1) (zup_s e303) ?_
            refine q_if_lt C 25 dX12_expands_76 (n := 79) rfl rfl (by omega) (fun h307 => ?_) (fun h307 => ?_)
            · have hm308 := zMz_neg (M := M302) (a := a) (by have hw : M302 a 57 = (M38 a 57) - 1 := (zup_s e303); omega)
              have hp309 : zOg M302 a og lg := h44.cg (fun j => ((zup_p e303 (by omega) _).trans (hk68.getA rfl rfl rfl))) (fun j => ((zup_p e303 (by omega) _).trans (hk68.getA rfl rfl rfl)))
              have hp310 : zMa M302 a mb mp := h45.cg (fun j j0 j1 => ((zup_p e303 (by omega) _).trans (hk68.getA rfl rfl rfl))) (fun j => ((zup_p e303 (by omega) _).trans (hk68.getA rfl rfl rfl)))
              exact zK.weak (ih49 M302 J64 hI304 hK305 hK306 (Or.inl (by have hw : M302 a 57 = (M38 a 57) - 1 := (zup_s e303); have hv : M302 a 61 = M38 a 61 := ((zup_n e303 (by omega)).trans (hk68.getS rfl rfl)); omega)) hp309 hp310 (by have hz311 : M302 (a + 18) 3 = M (a + 18) 3 := ((zup_p e303 (by omega) _).trans ((hk68.getA rfl rfl rfl).trans (h46))); omega) (by omega)) (zwk_c (zwk_n (zwk_n (zwk_n zwk_e))))
            · have hz312 : M63 (a + 27) (M38 a 57) = M38 (a + 27) (M38 a 57) := (hk68.getA rfl rfl rfl)
              have hp58 := h62.resolve_left (fun q => by omega)
              have hq1 : M63 (a + 27) (M63 a 57) = M38 (a + 27) (M38 a 57) := by rw [show M63 a 57 = M38 a 57 from (hk68.getS rfl rfl)]; exact (hk68.getA rfl rfl rfl)
              have hst : M63 a 58 = M63 (a + 27) (M63 a 57) := by rw [hq1]; exact hp58
              have hz313 : M63 a 57 = M38 a 57 := (hk68.getS rfl rfl)
              have gv := zX.clv h59 (f := (M38 a 57) - 1) (by omega) (by omega) (by omega)
              have gpl := zX.pcl h59 (f := (M38 a 57) - 1) (by omega) (by omega) (by omega)
              have gq0 := zX.q3 h59 (f := (M38 a 57) - 1) (by omega) (by omega)
              have hz314 : M63 (a + 28) ((M38 a 57) - 1) = M38 (a + 28) ((M38 a 57) - 1) := (hk68.getA rfl rfl rfl)
              have hz315 : M63 (a + 31) ((M38 a 57) - 1) = M38 (a + 31) ((M38 a 57) - 1) := (hk68.getA rfl rfl rfl)
              have hz316 : M63 (a + 34) ((M38 a 57) - 1) = M38 (a + 34) ((M38 a 57) - 1) := (hk68.getA rfl rfl rfl)
              have hz317 : M63 a 60 = M38 a 60 := (hk68.getS rfl rfl)
              have hz318 : M63 a 62 = M38 a 62 := (hk68.getS rfl rfl)
              have hz319 : M63 a 57 = M38 a 57 := (hk68.getS rfl rfl)
              have hz320 : M63 a 59 = M38 a 59 := (hk68.getS rfl rfl)
              have hz321 : M63 a 60 = M38 a 60 := (hk68.getS rfl rfl)
              have hz322 : M63 a 26 = M38 a 26 := (hk68.getS rfl rfl)
              have hz323 : M63 a 25 = M38 a 25 := (hk68.getS rfl rfl)
              have hz324 : M63 a 24 = M38 a 24 := (hk68.getS rfl rfl)
              have hz325 : M63 a 61 = M38 a 61 := (hk68.getS rfl rfl)
              have hx326 : zX M302 a mb mp n (M38 a 59) 0 0 0 := zY.cgr (Y_close h59 (by omega) (by omega) hst (by omega)) (zup_n e303 (by omega)) (by have hw : M302 a 57 = (M38 a 57) - 1 := (zup_s e303); omega) (zup_n e303 (by omega)) (zup_n e303 (by omega)) (zup_n e303 (by omega)) (zup_n e303 (by omega)) (zup_n e303 (by omega)) (zup_n e303 (by omega)) (zup_n e303 (by omega)) (funext fun j => (zup_p e303 (by omega) _)) (funext fun j => (zup_p e303 (by omega) _)) (funext fun j => (zup_p e303 (by omega) _)) (funext fun j => (zup_p e303 (by omega) _)) (funext fun j => (zup_p e303 (by omega) _)) (funext fun j => (zup_p e303 (by omega) _)) (funext fun j => (zup_p e303 (by omega) _)) (funext fun j => (zup_p e303 (by omega) _)) (funext fun j => (zup_p e303 (by omega) _)) (funext fun j => (zup_p e303 (by omega) _)) (funext fun j => (zup_p e303 (by omega) _)) (funext fun j => (zup_p e303 (by omega) _)) (funext fun j => (zup_p e303 (by omega) _))
              have hm327 : zMu M302 a n = zMu M63 a n - 1 := zMu_close (fun j => (zup_p e303 (by omega) _)) (fun j => (zup_p e303 (by omega) _)) (fun j => (zup_p e303 (by omega) _)) (by have hw : M302 a 57 = (M38 a 57) - 1 := (zup_s e303); have hv : M63 a 57 = M38 a 57 := (hk68.getS rfl rfl); omega) (zup_n e303 (by omega)) (zup_n e303 (by omega))
              have gcl := zX.clz hx326 (f := (M38 a 57) - 1) (zup_s e303) (by omega)
              have gq3 := zX.q3 hx326 (f := (M38 a 57) - 1) (by omega) (by omega)
              have hz328 : M302 (a + 28) ((M38 a 57) - 1) = M38 (a + 28) ((M38 a 57) - 1) := ((zup_p e303 (by omega) _).trans (hk68.getA rfl rfl rfl))
              have hz329 : M302 (a + 31) ((M38 a 57) - 1) = M38 (a + 31) ((M38 a 57) - 1) := ((zup_p e303 (by omega) _).trans (hk68.getA rfl rfl rfl))
              have hz330 : M302 a 60 = M38 a 60 := ((zup_n e303 (by omega)).trans (hk68.getS rfl rfl))
              refine q_aload_n C dX12_expands_79 (n := 80) rfl rfl ?_
              refine q_callVv C dX12_expands_80 (n := 83) rfl m_X12_488 v_yX12_endsArgument (zM0 h0) ⟨by decide, rfl⟩ (c_X12_endsArgument (w := w) (J := J64) hI304 hF h0 ((M38 a 57) - 1) (by have hz331 : M302 a 57 = (M38 a 57) - 1 := (zup_s e303); omega) (by omega) (by have hz332 : M302 (a + 28) ((M38 a 57) - 1) = M38 (a + 28) ((M38 a 57) - 1) := ((zup_p e303 (by omega) _).trans (hk68.getA rfl rfl rfl)); omega) (by have hz333 : M302 (a + 31) ((M38 a 57) - 1) = M38 (a + 31) ((M38 a 57) - 1) := ((zup_p e303 (by omega) _).trans (hk68.getA rfl rfl rfl)); omega) (by have hz334 : M302 a 60 = M38 a 60 := ((zup_n e303 (by omega)).trans (hk68.getS rfl rfl)); omega)) (Nat.le_of_ble_eq_true rfl) rfl rfl (Nat.le_of_ble_eq_true rfl) ⟨Nat.le_refl _, Nat.le_refl _⟩ (fun M335 J336  hI337 h338 => ?_)
              have hK340 := hK305.tr h338 rfl rfl rfl
              have hK341 := hK306.tr h338 rfl rfl rfl
              refine q_goto C 25 dX12_expands_83 rfl ?_
              have hp342 : zX M335 a mb mp n (M38 a 59) 0 0 0 := hx326.cg (h338.getS rfl rfl) (h338.getS rfl rfl) (h338.getS rfl rfl) (h338.getS rfl rfl) (h338.getS rfl rfl) (h338.getS rfl rfl) (h338.getS rfl rfl) (h338.getS rfl rfl) (h338.getS rfl rfl) (fun j => (h338.getA rfl rfl rfl)) (fun j => (h338.getA rfl rfl rfl)) (fun j => (h338.getA rfl rfl rfl)) (fun j => (h338.getA rfl rfl rfl)) (fun j => (h338.getA rfl rfl rfl)) (fun j => (h338.getA rfl rfl rfl)) (fun j => (h338.getA rfl rfl rfl)) (fun j => (h338.getA rfl rfl rfl)) (fun j => (h338.getA rfl rfl rfl)) (fun j => (h338.getA rfl rfl rfl)) (fun j => (h338.getA rfl rfl rfl)) (fun j => (h338.getA rfl rfl rfl)) (fun j => (h338.getA rfl rfl rfl))
              have hm343 := zMz_of hp342
              have hm344 : zMu M335 a n = zMu M302 a n := zMu_cg (fun j => (h338.getA rfl rfl rfl)) (fun j => (h338.getA rfl rfl rfl)) (fun j => (h338.getA rfl rfl rfl)) (h338.getS rfl rfl) (h338.getS rfl rfl) (h338.getS rfl rfl)
              have gx345 := zX.num hp342
              have hz346 : M335 a 62 = M38 a 62 := ((h338.getS rfl rfl).trans ((zup_n e303 (by omega)).trans (hk68.getS rfl rfl)))
              have hz347 : M335 a 57 = (M38 a 57) - 1 := ((h338.getS rfl rfl).trans (zup_s e303))
              have hz348 : M335 a 58 = M63 a 58 := ((h338.getS rfl rfl).trans (zup_n e303 (by omega)))
              have hz349 : M335 a 59 = M38 a 59 := ((h338.getS rfl rfl).trans ((zup_n e303 (by omega)).trans (hk68.getS rfl rfl)))
              have hz350 : M335 a 60 = M38 a 60 := ((h338.getS rfl rfl).trans ((zup_n e303 (by omega)).trans (hk68.getS rfl rfl)))
              have hz351 : M335 a 26 = M38 a 26 := ((h338.getS rfl rfl).trans ((zup_n e303 (by omega)).trans (hk68.getS rfl rfl)))
              have hz352 : M335 a 25 = M38 a 25 := ((h338.getS rfl rfl).trans ((zup_n e303 (by omega)).trans (hk68.getS rfl rfl)))
              have hz353 : M335 a 24 = M38 a 24 := ((h338.getS rfl rfl).trans ((zup_n e303 (by omega)).trans (hk68.getS rfl rfl)))
              have hz354 : M335 a 61 = M38 a 61 := ((h338.getS rfl rfl).trans ((zup_n e303 (by omega)).trans (hk68.getS rfl rfl)))
              have hp355 : zOg M335 a og lg := h44.cg (fun j => ((h338.getA rfl rfl rfl).trans ((zup_p e303 (by omega) _).trans (hk68.getA rfl rfl rfl)))) (fun j => ((h338.getA rfl rfl rfl).trans ((zup_p e303 (by omega) _).trans (hk68.getA rfl rfl rfl))))
              have hp356 : zMa M335 a mb mp := h45.cg (fun j j0 j1 => ((h338.getA rfl rfl rfl).trans ((zup_p e303 (by omega) _).trans (hk68.getA rfl rfl rfl)))) (fun j => ((h338.getA rfl rfl rfl).trans ((zup_p e303 (by omega) _).trans (hk68.getA rfl rfl rfl))))
              exact zK.weak (ih49 M335 J336 hI337 hK340 hK341 (Or.inr (zXs.mk hp342 (by have hw : M335 a 59 = M38 a 59 := ((h338.getS rfl rfl).trans ((zup_n e303 (by omega)).trans (hk68.getS rfl rfl))); omega))) hp355 hp356 (by have hz357 : M335 (a + 18) 3 = M (a + 18) 3 := ((h338.getA rfl rfl rfl).trans ((zup_p e303 (by omega) _).trans ((hk68.getA rfl rfl rfl).trans (h46)))); omega) (by omega)) (zwk_c (zwk_n (zwk_n (zwk_n zwk_e))))
        · refine q_aload_n C dX12_expands_44 (n := 45) rfl rfl ?_
          refine q_callVi C dX12_expands_45 (n := 48) rfl m_X12_480 v_yX12_replaces (zM0 h0) ⟨by decide, rfl⟩ (c_X12_replaces (w := w) (J := J39) hI40 hF h0 (M38 a 57) hX h44 h45 (by omega) (by omega)) (Nat.le_of_ble_eq_true rfl) rfl rfl (Nat.le_of_ble_eq_true rfl) ⟨Nat.le_refl _, Nat.le_refl _⟩ (fun x367 M363 J364  hI365 h366 => ?_)
          obtain ⟨hk368, h358, h359, h360, h361, h362⟩ := h366
          have hK369 := hK41.tr hk368 rfl rfl rfl
          have hK370 := hK42.tr hk368 rfl rfl rfl
          refine q_if_ne C 25 dX12_expands_48 (n := 51) rfl rfl (by omega) (fun h371 => ?_) (fun h371 => ?_)
          · exact zK.weak (ih49 M363 J364 hI365 hK369 hK370 (Or.inr (h359.resolve_left (by omega))) h361 h362 (by have hz372 : M363 (a + 18) 3 = M (a + 18) 3 := ((hk368.getP rfl rfl rfl).trans (h46)); omega) (by omega)) (zwk_c (zwk_n (zwk_n (zwk_n zwk_e))))
          · refine q_iconst C dX12_expands_51 (n := 52) rfl ?_
            exact q_zret C dX12_expands_52 ⟨rfl, rfl⟩ (by omega) (by rw [hPo]; exact ⟨0, M363, J364, rfl, rfl, hI365, hK369, by omega, h361, h362, by have hz373 : M363 a 61 = M38 a 61 := (hk368.getS rfl rfl); omega, by have hz374 : M363 (a + 18) 3 = M (a + 18) 3 := ((hk368.getP rfl rfl rfl).trans (h46)); omega⟩)
  have hx375 : zX M23 a mb mp 0 (M a 59) 0 0 0 := zY.cgr (Y_init (mb := mb) (mp := mp) (E := M a 62) (am := M a 59) (md := M a 25) (po := M a 24) (at_ := M (a + 24)) (en := M (a + 25)) (sa := M (a + 26)) (fb := M (a + 27)) (cm := M (a + 28)) (cb := M (a + 31)) (ca := M (a + 32)) (cg := M (a + 33)) (cp := M (a + 34)) (ct := M (a + 35)) (cl := M (a + 36)) (pa := M (a + 37)) (ps := M (a + 38)) (x := M a 63) (y := M a 64) (b := M a 65) (by omega) (by omega) (by omega) (by omega) (by omega) (by omega) p2.2.1) (by have hw : M23 a 62 = M a 62 := ((zup_n e36 (by omega)).trans ((zup_p e34 (by omega) _).trans ((zup_p e32 (by omega) _).trans ((zup_p e30 (by omega) _).trans ((zup_p e17 (by omega) _).trans ((zup_p e15 (by omega) _).trans (zup_n e2 (by omega)))))))); omega) (by have hw : M23 a 57 = M a 57 := ((zup_n e36 (by omega)).trans ((zup_p e34 (by omega) _).trans ((zup_p e32 (by omega) _).trans ((zup_p e30 (by omega) _).trans ((zup_p e17 (by omega) _).trans ((zup_p e15 (by omega) _).trans (zup_n e2 (by omega)))))))); omega) (by have hw : M23 a 58 = (M a 58) + 1 := (zup_s e36); omega) (by have hw : M23 a 59 = M a 59 := ((zup_n e36 (by omega)).trans ((zup_p e34 (by omega) _).trans ((zup_p e32 (by omega) _).trans ((zup_p e30 (by omega) _).trans ((zup_p e17 (by omega) _).trans ((zup_p e15 (by omega) _).trans (zup_n e2 (by omega)))))))); omega) (by have hw : M23 a 60 = M a 60 := ((zup_n e36 (by omega)).trans ((zup_p e34 (by omega) _).trans ((zup_p e32 (by omega) _).trans ((zup_p e30 (by omega) _).trans ((zup_p e17 (by omega) _).trans ((zup_p e15 (by omega) _).trans (zup_n e2 (by omega)))))))); omega) (by have hw : M23 a 26 = M a 26 := ((zup_n e36 (by omega)).trans ((zup_p e34 (by omega) _).trans ((zup_p e32 (by omega) _).trans ((zup_p e30 (by omega) _).trans ((zup_p e17 (by omega) _).trans ((zup_p e15 (by omega) _).trans (zup_n e2 (by omega)))))))); omega) (by have hw : M23 a 25 = M a 25 := ((zup_n e36 (by omega)).trans ((zup_p e34 (by omega) _).trans ((zup_p e32 (by omega) _).trans ((zup_p e30 (by omega) _).trans ((zup_p e17 (by omega) _).trans ((zup_p e15 (by omega) _).trans (zup_n e2 (by omega)))))))); omega) (by have hw : M23 a 24 = M a 24 := ((zup_n e36 (by omega)).trans ((zup_p e34 (by omega) _).trans ((zup_p e32 (by omega) _).trans ((zup_p e30 (by omega) _).trans ((zup_p e17 (by omega) _).trans ((zup_p e15 (by omega) _).trans (zup_n e2 (by omega)))))))); omega) (by have hw : M23 a 61 = 0 := ((zup_n e36 (by omega)).trans ((zup_p e34 (by omega) _).trans ((zup_p e32 (by omega) _).trans ((zup_p e30 (by omega) _).trans ((zup_p e17 (by omega) _).trans ((zup_p e15 (by omega) _).trans (zup_s e2))))))); omega) (funext fun j => by by_cases q : j = 0; (rw [q, yup_s]; have hw : M23 (a + 24) 0 = M a 63 := ((zup_p e36 (by omega) _).trans ((zup_p e34 (by omega) _).trans ((zup_p e32 (by omega) _).trans (zup_e e30 (by omega))))); omega); (rw [yup_n q]; exact ((zup_p e36 (by omega) _).trans ((zup_p e34 (by omega) _).trans ((zup_p e32 (by omega) _).trans ((zup_n e30 (by omega)).trans ((zup_p e17 (by omega) _).trans ((zup_p e15 (by omega) _).trans (zup_p e2 (by omega) _))))))))) (funext fun j => by by_cases q : j = 0; (rw [q, yup_s]; have hw : M23 (a + 25) 0 = M a 64 := ((zup_p e36 (by omega) _).trans ((zup_p e34 (by omega) _).trans (zup_e e32 (by omega)))); omega); (rw [yup_n q]; exact ((zup_p e36 (by omega) _).trans ((zup_p e34 (by omega) _).trans ((zup_n e32 (by omega)).trans ((zup_p e30 (by omega) _).trans ((zup_p e17 (by omega) _).trans ((zup_p e15 (by omega) _).trans (zup_p e2 (by omega) _))))))))) (funext fun j => by by_cases q : j = 0; (rw [q, yup_s]; have hw : M23 (a + 26) 0 = M a 65 := ((zup_p e36 (by omega) _).trans (zup_e e34 (by omega))); omega); (rw [yup_n q]; exact ((zup_p e36 (by omega) _).trans ((zup_n e34 (by omega)).trans ((zup_p e32 (by omega) _).trans ((zup_p e30 (by omega) _).trans ((zup_p e17 (by omega) _).trans ((zup_p e15 (by omega) _).trans (zup_p e2 (by omega) _))))))))) (funext fun j => by by_cases q : j = 0; (rw [q, yup_s]; have hw : M23 (a + 27) 0 = M a 58 := ((zup_p e36 (by omega) _).trans ((zup_p e34 (by omega) _).trans ((zup_p e32 (by omega) _).trans ((zup_p e30 (by omega) _).trans ((zup_p e17 (by omega) _).trans (zup_e e15 (by omega))))))); omega); (rw [yup_n q]; exact ((zup_p e36 (by omega) _).trans ((zup_p e34 (by omega) _).trans ((zup_p e32 (by omega) _).trans ((zup_p e30 (by omega) _).trans ((zup_p e17 (by omega) _).trans ((zup_n e15 (by omega)).trans (zup_p e2 (by omega) _))))))))) (funext fun j => by by_cases q : j = 0; (rw [q, yup_s]; have hw : M23 (a + 28) 0 = -1 := ((zup_p e36 (by omega) _).trans ((zup_p e34 (by omega) _).trans ((zup_p e32 (by omega) _).trans ((zup_p e30 (by omega) _).trans (zup_e e17 (by omega)))))); omega); (rw [yup_n q]; exact ((zup_p e36 (by omega) _).trans ((zup_p e34 (by omega) _).trans ((zup_p e32 (by omega) _).trans ((zup_p e30 (by omega) _).trans ((zup_n e17 (by omega)).trans ((zup_p e15 (by omega) _).trans (zup_p e2 (by omega) _))))))))) (funext fun j => ((zup_p e36 (by omega) _).trans ((zup_p e34 (by omega) _).trans ((zup_p e32 (by omega) _).trans ((zup_p e30 (by omega) _).trans ((zup_p e17 (by omega) _).trans ((zup_p e15 (by omega) _).trans (zup_p e2 (by omega) _)))))))) (funext fun j => ((zup_p e36 (by omega) _).trans ((zup_p e34 (by omega) _).trans ((zup_p e32 (by omega) _).trans ((zup_p e30 (by omega) _).trans ((zup_p e17 (by omega) _).trans ((zup_p e15 (by omega) _).trans (zup_p e2 (by omega) _)))))))) (funext fun j => ((zup_p e36 (by omega) _).trans ((zup_p e34 (by omega) _).trans ((zup_p e32 (by omega) _).trans ((zup_p e30 (by omega) _).trans ((zup_p e17 (by omega) _).trans ((zup_p e15 (by omega) _).trans (zup_p e2 (by omega) _)))))))) (funext fun j => ((zup_p e36 (by omega) _).trans ((zup_p e34 (by omega) _).trans ((zup_p e32 (by omega) _).trans ((zup_p e30 (by omega) _).trans ((zup_p e17 (by omega) _).trans ((zup_p e15 (by omega) _).trans (zup_p e2 (by omega) _)))))))) (funext fun j => ((zup_p e36 (by omega) _).trans ((zup_p e34 (by omega) _).trans ((zup_p e32 (by omega) _).trans ((zup_p e30 (by omega) _).trans ((zup_p e17 (by omega) _).trans ((zup_p e15 (by omega) _).trans (zup_p e2 (by omega) _)))))))) (funext fun j => ((zup_p e36 (by omega) _).trans ((zup_p e34 (by omega) _).trans ((zup_p e32 (by omega) _).trans ((zup_p e30 (by omega) _).trans ((zup_p e17 (by omega) _).trans ((zup_p e15 (by omega) _).trans (zup_p e2 (by omega) _)))))))) (funext fun j => ((zup_p e36 (by omega) _).trans ((zup_p e34 (by omega) _).trans ((zup_p e32 (by omega) _).trans ((zup_p e30 (by omega) _).trans ((zup_p e17 (by omega) _).trans ((zup_p e15 (by omega) _).trans (zup_p e2 (by omega) _)))))))) (funext fun j => ((zup_p e36 (by omega) _).trans ((zup_p e34 (by omega) _).trans ((zup_p e32 (by omega) _).trans ((zup_p e30 (by omega) _).trans ((zup_p e17 (by omega) _).trans ((zup_p e15 (by omega) _).trans (zup_p e2 (by omega) _))))))))
  have hp376 : zOg M23 a og lg := p1.cg (fun j => ((zup_p e36 (by omega) _).trans ((zup_p e34 (by omega) _).trans ((zup_p e32 (by omega) _).trans ((zup_p e30 (by omega) _).trans ((zup_p e17 (by omega) _).trans ((zup_p e15 (by omega) _).trans (zup_p e2 (by omega) _)))))))) (fun j => ((zup_p e36 (by omega) _).trans ((zup_p e34 (by omega) _).trans ((zup_p e32 (by omega) _).trans ((zup_p e30 (by omega) _).trans ((zup_p e17 (by omega) _).trans ((zup_p e15 (by omega) _).trans (zup_p e2 (by omega) _))))))))
  have hp377 : zMa M23 a mb mp := p2.cg (fun j j0 j1 => ((zup_p e36 (by omega) _).trans ((zup_p e34 (by omega) _).trans ((zup_p e32 (by omega) _).trans ((zup_p e30 (by omega) _).trans ((zup_p e17 (by omega) _).trans ((zup_p e15 (by omega) _).trans (zup_p e2 (by omega) _)))))))) (fun j => ((zup_p e36 (by omega) _).trans ((zup_p e34 (by omega) _).trans ((zup_p e32 (by omega) _).trans ((zup_p e30 (by omega) _).trans ((zup_p e17 (by omega) _).trans ((zup_p e15 (by omega) _).trans (zup_p e2 (by omega) _))))))))
  exact zK.weak (L_47 _ M23 J24 hI25 hK28 (zMd.rf : zMd a [9, 10, 11, 12, 13, 14, 15, 16, 17, 18, 24, 25, 26, 27, 28, 29, 30, 31, 32, 33, 34, 35, 36, 37, 38, 39, 40, 41, 42] [24, 25, 26, 34, 57, 58, 59, 60, 61, 62] [] M23 M23) (Or.inr (zXs.mk hx375 (by have hw : M23 a 59 = M a 59 := ((zup_n e36 (by omega)).trans ((zup_p e34 (by omega) _).trans ((zup_p e32 (by omega) _).trans ((zup_p e30 (by omega) _).trans ((zup_p e17 (by omega) _).trans ((zup_p e15 (by omega) _).trans (zup_n e2 (by omega)))))))); omega))) hp376 hp377 (by have hz378 : M23 (a + 18) 3 = M (a + 18) 3 := ((zup_p e36 (by omega) _).trans ((zup_p e34 (by omega) _).trans ((zup_p e32 (by omega) _).trans ((zup_p e30 (by omega) _).trans ((zup_p e17 (by omega) _).trans ((zup_p e15 (by omega) _).trans (zup_p e2 (by omega) _))))))); omega) (Int.self_le_toNat _)) (zwk_c (zwk_n (zwk_n (zwk_n zwk_e))))
theorem c_X12_expandsLine {w : zWp} {T : zTl} {M : zMm} {J : zJm} {R : zRm'} {G : zGt} {F : zRm'} {a : Nat} {mb mp og lg : Int → Int} (hI : zI G M) (hF : zF F R) (h0 : zModel T F G a) (p1 : zOg M a og lg) (p2 : zMa M a mb mp) (p3 : M a 26 = 3500 ∧ 440 ≤ M a 25 ∧ M a 25 ≤ 495 ∧ M a 24 ≤ 495) : zCt w 7 0 0 yX12_expandsLine cX12_expandsLine 1 (some .boolean) [.ref (w.2.1 + a)] (T, M, J, R) (zPi T R G (fun x M2 => (zMd a [9, 10, 11, 12, 13, 14, 15, 16, 17, 18, 24, 25, 26, 27, 28, 29, 30, 31, 32, 33, 34, 35, 36, 37, 38, 39, 40, 41, 42] [24, 25, 26, 34, 57, 58, 59, 60, 61, 62, 63, 64, 65] [] M M2) ∧ (x = 0 ∨ x = 1) ∧ (zOg M2 a og lg) ∧ (zMa M2 a mb mp) ∧ (x = 0 ∨ M2 a 61 ≤ 3440) ∧ (M2 (a + 18) 3 = M (a + 18) 3))) := by
  refine zCt.of rfl (Nat.le_of_ble_eq_true rfl) ?_
  intro p e s m args below meth c C
  obtain ⟨Po, hPo⟩ : ∃ Po, Po = zPi T R G (fun x M2 => (zMd a [9, 10, 11, 12, 13, 14, 15, 16, 17, 18, 24, 25, 26, 27, 28, 29, 30, 31, 32, 33, 34, 35, 36, 37, 38, 39, 40, 41, 42] [24, 25, 26, 34, 57, 58, 59, 60, 61, 62, 63, 64, 65] [] M M2) ∧ (x = 0 ∨ x = 1) ∧ (zOg M2 a og lg) ∧ (zMa M2 a mb mp) ∧ (x = 0 ∨ M2 a 61 ≤ 3440) ∧ (M2 (a + 18) 3 = M (a + 18) 3)) := ⟨_, rfl⟩
  rw [← hPo]
  have hK0 : zMd a [9, 10, 11, 12, 13, 14, 15, 16, 17, 18, 24, 25, 26, 27, 28, 29, 30, 31, 32, 33, 34, 35, 36, 37, 38, 39, 40, 41, 42] [24, 25, 26, 34, 57, 58, 59, 60, 61, 62, 63, 64, 65] [] M M := zMd.rf
  have gk_tokens := zI.at hI (zM58 h0)
  have gk_pooled := zI.at hI (zM59 h0)
  show zK w p e 7 0 0 s m args below meth c 1 T Po 0 [.ref (w.2.1 + a)] [] (T, M, J, R)
  refine q_aload_n C dX12_expandsLine_0 (n := 1) rfl rfl ?_
  refine q_iconst C dX12_expandsLine_1 (n := 2) rfl ?_
  refine q_putI C dX12_expandsLine_2 (n := 5) rfl f_X12_448 (zM0 h0) ⟨rfl, rfl⟩ (fun M1 (e2 : M1 = zup M a 57 0) => ?_)
  have hI3 : zI G M1 := hI.put e2 (zM142 h0) rfl (by omega)
  have hK4 := hK0.upS e2 rfl
  refine q_aload_n C dX12_expandsLine_5 (n := 6) rfl rfl ?_
  refine q_iconst C dX12_expandsLine_6 (n := 7) rfl ?_
  refine q_putI C dX12_expandsLine_7 (n := 10) rfl f_X12_445 (zM0 h0) ⟨rfl, rfl⟩ (fun M5 (e6 : M5 = zup M1 a 58 0) => ?_)
  have hI7 : zI G M5 := hI3.put e6 (zM143 h0) rfl (by omega)
  have hK8 := hK4.upS e6 rfl
  refine q_aload_n C dX12_expandsLine_10 (n := 11) rfl rfl ?_
  refine q_iconst C dX12_expandsLine_11 (n := 12) rfl ?_
  refine q_putI C dX12_expandsLine_12 (n := 15) rfl f_X12_500 (zM0 h0) ⟨rfl, rfl⟩ (fun M9 (e10 : M9 = zup M5 a 59 0) => ?_)
  have hI11 : zI G M9 := hI7.put e10 (zM144 h0) rfl (by omega)
  have hK12 := hK8.upS e10 rfl
  refine q_aload_n C dX12_expandsLine_15 (n := 16) rfl rfl ?_
  refine q_iconst C dX12_expandsLine_16 (n := 17) rfl ?_
  refine q_putI C dX12_expandsLine_17 (n := 20) rfl f_X12_458 (zM0 h0) ⟨rfl, rfl⟩ (fun M13 (e14 : M13 = zup M9 a 60 0) => ?_)
  have hI15 : zI G M13 := hI11.put e14 (zM145 h0) rfl (by omega)
  have hK16 := hK12.upS e14 rfl
  refine q_aload_n C dX12_expandsLine_20 (n := 21) rfl rfl ?_
  refine q_getR C dX12_expandsLine_21 (n := 24) rfl f_X12_95 (zM0 h0) (hF _ _ _ (zM94 h0)) ?_
  refine q_iconst C dX12_expandsLine_24 (n := 25) rfl ?_
  refine q_iconst C dX12_expandsLine_25 (n := 26) rfl ?_
  refine q_iast C dX12_expandsLine_26 (n := 27) rfl (zM95 h0) (by omega)  (fun M17 e18 => ?_)
  have hI19 : zI G M17 := hI15.put e18 ((zM96 h0) 0) rfl (by omega)
  have hK20 := hK16.upA e18 rfl
  refine q_aload_n C dX12_expandsLine_27 (n := 28) rfl rfl ?_
  refine q_iconst C dX12_expandsLine_28 (n := 29) rfl ?_
  refine q_aload_n C dX12_expandsLine_29 (n := 30) rfl rfl ?_
  have g21 := zI.at hI (zM58 h0)
  refine q_getI C dX12_expandsLine_30 (n := 33) rfl f_X12_355 (zM0 h0) (v := M a 23) ((zup_p e18 (by omega) _).trans ((zup_n e14 (by omega)).trans ((zup_n e10 (by omega)).trans ((zup_n e6 (by omega)).trans (zup_n e2 (by omega)))))) ?_
  refine q_iconst C dX12_expandsLine_33 (n := 34) rfl ?_
  refine q_callVv C dX12_expandsLine_34 (n := 37) rfl m_X12_550 v_yX12_opensLine (zM0 h0) ⟨by decide, rfl⟩ (c_X12_opensLine (w := w) (J := J) hI19 hF h0 0 (M a 23) 0 (by omega) (by omega) (by omega)) (Nat.le_of_ble_eq_true rfl) rfl rfl (Nat.le_of_ble_eq_true rfl) ⟨Nat.le_refl _, Nat.le_refl _⟩ (fun M23 J24  hI25 h26 => ?_)
  obtain ⟨hk27, h22⟩ := h26
  have hK28 := hK20.tr hk27 rfl rfl rfl
  obtain ⟨M30, e29⟩ : ∃ q, q = zup M17 a 63 0 := ⟨_, rfl⟩
  obtain ⟨M32, e31⟩ : ∃ q, q = zup M30 a 64 (M a 23) := ⟨_, rfl⟩
  have e33 : M23 = zup M32 a 65 0 := by rw [e31]; rw [e29]; exact h22
  refine q_aload_n C dX12_expandsLine_37 (n := 38) rfl rfl ?_
  have hp34 : zOg M23 a og lg := p1.cg (fun j => ((zup_p e33 (by omega) _).trans ((zup_p e31 (by omega) _).trans ((zup_p e29 (by omega) _).trans ((zup_p e18 (by omega) _).trans ((zup_p e14 (by omega) _).trans ((zup_p e10 (by omega) _).trans ((zup_p e6 (by omega) _).trans (zup_p e2 (by omega) _))))))))) (fun j => ((zup_p e33 (by omega) _).trans ((zup_p e31 (by omega) _).trans ((zup_p e29 (by omega) _).trans ((zup_p e18 (by omega) _).trans ((zup_p e14 (by omega) _).trans ((zup_p e10 (by omega) _).trans ((zup_p e6 (by omega) _).trans (zup_p e2 (by omega) _)))))))))
  have hp35 : zMa M23 a mb mp := p2.cg (fun j j0 j1 => ((zup_p e33 (by omega) _).trans ((zup_p e31 (by omega) _).trans ((zup_p e29 (by omega) _).trans ((zup_p e18 (by omega) _).trans ((zup_p e14 (by omega) _).trans ((zup_p e10 (by omega) _).trans ((zup_p e6 (by omega) _).trans (zup_p e2 (by omega) _))))))))) (fun j => ((zup_p e33 (by omega) _).trans ((zup_p e31 (by omega) _).trans ((zup_p e29 (by omega) _).trans ((zup_p e18 (by omega) _).trans ((zup_p e14 (by omega) _).trans ((zup_p e10 (by omega) _).trans ((zup_p e6 (by omega) _).trans (zup_p e2 (by omega) _)))))))))
  refine q_callVi C dX12_expandsLine_38 (n := 41) rfl m_X12_553 v_yX12_expands (zM0 h0) ⟨by decide, rfl⟩ (c_X12_expands (w := w) (J := J24) hI25 hF h0 hp34 hp35 (by have hz36 : M23 a 57 = 0 := ((zup_n e33 (by omega)).trans ((zup_n e31 (by omega)).trans ((zup_n e29 (by omega)).trans ((zup_p e18 (by omega) _).trans ((zup_n e14 (by omega)).trans ((zup_n e10 (by omega)).trans ((zup_n e6 (by omega)).trans (zup_s e2)))))))); have hz37 : M23 a 58 = 0 := ((zup_n e33 (by omega)).trans ((zup_n e31 (by omega)).trans ((zup_n e29 (by omega)).trans ((zup_p e18 (by omega) _).trans ((zup_n e14 (by omega)).trans ((zup_n e10 (by omega)).trans (zup_s e6))))))); have hz38 : M23 a 60 = 0 := ((zup_n e33 (by omega)).trans ((zup_n e31 (by omega)).trans ((zup_n e29 (by omega)).trans ((zup_p e18 (by omega) _).trans (zup_s e14))))); have hz39 : M23 a 26 = M a 26 := ((zup_n e33 (by omega)).trans ((zup_n e31 (by omega)).trans ((zup_n e29 (by omega)).trans ((zup_p e18 (by omega) _).trans ((zup_n e14 (by omega)).trans ((zup_n e10 (by omega)).trans ((zup_n e6 (by omega)).trans (zup_n e2 (by omega))))))))); omega) (by have hz40 : M23 a 25 = M a 25 := ((zup_n e33 (by omega)).trans ((zup_n e31 (by omega)).trans ((zup_n e29 (by omega)).trans ((zup_p e18 (by omega) _).trans ((zup_n e14 (by omega)).trans ((zup_n e10 (by omega)).trans ((zup_n e6 (by omega)).trans (zup_n e2 (by omega))))))))); have hz41 : M23 a 24 = M a 24 := ((zup_n e33 (by omega)).trans ((zup_n e31 (by omega)).trans ((zup_n e29 (by omega)).trans ((zup_p e18 (by omega) _).trans ((zup_n e14 (by omega)).trans ((zup_n e10 (by omega)).trans ((zup_n e6 (by omega)).trans (zup_n e2 (by omega))))))))); have hz42 : M23 a 59 = 0 := ((zup_n e33 (by omega)).trans ((zup_n e31 (by omega)).trans ((zup_n e29 (by omega)).trans ((zup_p e18 (by omega) _).trans ((zup_n e14 (by omega)).trans (zup_s e10)))))); omega) (by have hz43 : M23 a 63 = 0 := ((zup_n e33 (by omega)).trans ((zup_n e31 (by omega)).trans (zup_s e29))); have hz44 : M23 a 64 = M a 23 := ((zup_n e33 (by omega)).trans (zup_s e31)); have hz45 : M23 a 65 = 0 := (zup_s e33); omega)) (Nat.le_of_ble_eq_true rfl) rfl rfl (Nat.le_of_ble_eq_true rfl) ⟨Nat.le_refl _, Nat.le_refl _⟩ (fun x55 M51 J52  hI53 h54 => ?_)
  obtain ⟨hk56, h46, h47, h48, h49, h50⟩ := h54
  have hK57 := hK28.tr hk56 rfl rfl rfl
  have hz58 : M23 (a + 18) 3 = M (a + 18) 3 := ((zup_p e33 (by omega) _).trans ((zup_p e31 (by omega) _).trans ((zup_p e29 (by omega) _).trans ((zup_p e18 (by omega) _).trans ((zup_p e14 (by omega) _).trans ((zup_p e10 (by omega) _).trans ((zup_p e6 (by omega) _).trans (zup_p e2 (by omega) _))))))))
  exact q_zret C dX12_expandsLine_41 ⟨rfl, rfl⟩ (by omega) (by rw [hPo]; exact ⟨x55, M51, J52, rfl, rfl, hI53, hK57, by omega, h47, h48, by omega, by have hz59 : M51 (a + 18) 3 = M (a + 18) 3 := ((h50).trans ((zup_p e33 (by omega) _).trans ((zup_p e31 (by omega) _).trans ((zup_p e29 (by omega) _).trans ((zup_p e18 (by omega) _).trans ((zup_p e14 (by omega) _).trans ((zup_p e10 (by omega) _).trans ((zup_p e6 (by omega) _).trans (zup_p e2 (by omega) _))))))))); omega⟩)
