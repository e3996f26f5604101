theorem zX.ls3 {M : zMm} {a : Nat} {mb mp : Int → Int} {n A0 v u z : Int} (h : zX M a mb mp n A0 v u z) : M a 61 ≤ 3440 := by
  have hN := yN h
  have hfb := fun g (g0 : 0 ≤ g) (g1 : g ≤ M a 57) => yfl h g0 g1 (Int.le_refl _)
  have h1 := h.1
  have hT := h.2.2.2.1
  have hst := h.2.1.2.2.2.1
  have h7 := h.2.1.2.2.2.2.2.2.1
  have mo : ∀ s r, 0 ≤ s → s ≤ r → r ≤ M a 58 → yR (M (a + 24)) (M (a + 25)) s ≤ yR (M (a + 24)) (M (a + 25)) r := fun s r s0 s1 s2 => yR_mo (fun j j0 j1 => (hT j j0 (by omega)).1) ⟨s0, s1⟩
  by_cases q : n = 0
  · have hc := (h.2.2.2.2.2.2.1 (by omega)).2
    rw [show M a 57 = 0 by omega, yP_0] at hc
    have m1 := mo (M (a + 27) 0) (M a 58) (hfb 0 (by omega) (by omega)).1 (by have := hfb 0 (by omega) (by omega); omega) (Int.le_refl _)
    omega
  · by_cases q1 : n = 1
    · obtain ⟨p1, _, _, _⟩ := h.2.2.2.2.2.1 (by omega)
      rw [show n - 1 = 0 by omega] at p1
      unfold yQ1 at p1
      rw [yP_0] at p1
      by_cases q2 : n = M a 57
      · rw [if_pos q2] at p1
        have m1 := mo (M (a + 27) 0) (M (a + 27) (M a 57)) (hfb 0 (by omega) (by omega)).1 (hfb 0 (by omega) (by omega)).2 hst
        omega
      · rw [if_neg q2] at p1
        have m1 := mo (M (a + 27) 0) (M a 58) (hfb 0 (by omega) (by omega)).1 (by have := hfb 0 (by omega) (by omega); omega) (Int.le_refl _)
        omega
    · obtain ⟨p1, _, _⟩ := h.2.2.2.2.1 0 (by omega) (by omega)
      unfold yQ1 at p1
      rw [yP_0] at p1
      have f1 := (yfl h (g := 0) (r := 0 + 1) (by omega) (by omega) (by omega)).2
      have m1 := mo (M (a + 27) 0) (M (a + 27) (0 + 1)) (hfb 0 (by omega) (by omega)).1 f1 (by have := hfb (0 + 1) (by omega) (by omega); omega)
      omega
theorem zXs.ls {M : zMm} {a : Nat} {mb mp : Int → Int} (h : zXs M a mb mp) : M a 61 ≤ 3440 := by
  obtain ⟨n, q⟩ := h
  exact q.ls3
theorem zMu_close {M M2 : zMm} {a : Nat} {n : Int} (e24 : ∀ j, M2 (a + 24) j = M (a + 24) j) (e25 : ∀ j, M2 (a + 25) j = M (a + 25) j) (e31 : ∀ j, M2 (a + 31) j = M (a + 31) j) (e57 : M2 a 57 = M a 57 - 1) (e58 : M2 a 58 = M a 58) (e62 : M2 a 62 = M a 62) : zMu M2 a n = zMu M a n - 1 := by
  unfold zMu
  rw [funext e24, funext e25, funext e31, e57, e58, e62]
  omega
theorem c_X12_endsArgument {w : zWp} {T : zTl} {M : zMm} {J : zJm} {R : zRm'} {G : zGt} {F : zRm'} {a : Nat} (hI : zI G M) (hF : zF F R) (h0 : zModel T F G a) (f : Int) (p1 : M a 57 = f) (p2 : 0 ≤ f ∧ f ≤ 100) (p3 : 0 ≤ M (a + 28) f) (p4 : 1 ≤ M (a + 31) f ∧ M (a + 31) f ≤ 20) (p5 : 1 ≤ M a 60) : zCt w 2 0 0 yX12_endsArgument cX12_endsArgument 1 none [.ref (w.2.1 + a)] (T, M, J, R) (zPv T R G (fun M2 => (zMd a [16] [] [] M M2))) := by
  refine zCt.of rfl (Nat.le_of_ble_eq_true rfl) ?_
  intro p e s m args below meth c C
  obtain ⟨Po, hPo⟩ : ∃ Po, Po = zPv T R G (fun M2 => (zMd a [16] [] [] M M2)) := ⟨_, rfl⟩
  rw [← hPo]
  subst p1
  have hK0 : zMd a [16] [] [] M M := zMd.rf
  show zK w p e 2 0 0 s m args below meth c 1 T Po 0 [.ref (w.2.1 + a)] [] (T, M, J, R)
  refine q_aload_n C dX12_endsArgument_0 (n := 1) rfl rfl ?_
  refine q_aload_n C dX12_endsArgument_1 (n := 2) rfl rfl ?_
  refine q_getR C dX12_endsArgument_2 (n := 5) rfl f_X12_68 (zM0 h0) (hF _ _ _ (zM65 h0)) ?_
  refine q_sipush C dX12_endsArgument_5 (n := 8) rfl (x := 739) (by decide) ?_
  refine q_aload_n C dX12_endsArgument_8 (n := 9) rfl rfl ?_
  refine q_getR C dX12_endsArgument_9 (n := 12) rfl f_X12_98 (zM0 h0) (hF _ _ _ (zM97 h0)) ?_
  refine q_aload_n C dX12_endsArgument_12 (n := 13) rfl rfl ?_
  have g1 := zI.at hI (zM142 h0)
  refine q_getI C dX12_endsArgument_13 (n := 16) rfl f_X12_448 (zM0 h0) (v := M a 57) rfl ?_
  have g2 := zI.at hI ((zM99 h0) (M a 57))
  refine q_iald C dX12_endsArgument_16 (n := 17) rfl (zM98 h0) (by omega) (v := M (a + 28) (M a 57)) rfl ?_
  refine q_aload_n C dX12_endsArgument_17 (n := 18) rfl rfl ?_
  refine q_getR C dX12_endsArgument_18 (n := 21) rfl f_X12_107 (zM0 h0) (hF _ _ _ (zM106 h0)) ?_
  refine q_aload_n C dX12_endsArgument_21 (n := 22) rfl rfl ?_
  refine q_getI C dX12_endsArgument_22 (n := 25) rfl f_X12_448 (zM0 h0) (v := M a 57) rfl ?_
  have g3 := zI.at hI ((zM108 h0) (M a 57))
  refine q_iald C dX12_endsArgument_25 (n := 26) rfl (zM107 h0) (by omega) (v := M (a + 31) (M a 57)) rfl ?_
  refine q_iconst C dX12_endsArgument_26 (n := 27) rfl ?_
  refine q_isub C dX12_endsArgument_27 (n := 28) rfl (v := (M (a + 31) (M a 57)) - 1) rfl ?_
  refine q_callSp C dX12_endsArgument_28 (n := 31) rfl m_X12_412 s_yX12_bodyAt (c_X12_bodyAt (w := w) (J := J) hI hF (M (a + 28) (M a 57)) ((M (a + 31) (M a 57)) - 1)) (Nat.le_of_ble_eq_true rfl) rfl rfl (Nat.le_of_ble_eq_true rfl) ⟨Nat.le_refl _, Nat.le_refl _⟩ (fun x5 h6 => ?_)
  obtain rfl : x5 = 20 * (M (a + 28) (M a 57)) + ((M (a + 31) (M a 57)) - 1) := h6
  refine q_iadd C dX12_endsArgument_31 (n := 32) rfl (v := 739 + (20 * (M (a + 28) (M a 57)) + ((M (a + 31) (M a 57)) - 1))) rfl ?_
  have g7 := zI.at hI (((zM67 h0) (739 + (20 * (M (a + 28) (M a 57)) + ((M (a + 31) (M a 57)) - 1)))).trans (zwG_739 (by omega)))
  refine q_iald C dX12_endsArgument_32 (n := 33) rfl (zM66 h0) (by omega) (v := M (a + 18) (739 + (20 * (M (a + 28) (M a 57)) + ((M (a + 31) (M a 57)) - 1)))) rfl ?_
  refine q_callVv C dX12_endsArgument_33 (n := 36) rfl m_X12_537 v_yX12_blanks (zM0 h0) ⟨by decide, rfl⟩ (c_X12_blanks (w := w) (J := J) hI hF h0 (M (a + 18) (739 + (20 * (M (a + 28) (M a 57)) + ((M (a + 31) (M a 57)) - 1)))) (by omega) (by omega)) (Nat.le_of_ble_eq_true rfl) rfl rfl (Nat.le_of_ble_eq_true rfl) ⟨Nat.le_refl _, Nat.le_refl _⟩ (fun M8 J9  hI10 h11 => ?_)
  have hK13 := hK0.tr h11 rfl rfl rfl
  exact q_vret C dX12_endsArgument_36 ⟨rfl, rfl⟩ (by rw [hPo]; exact ⟨M8, J9, rfl, rfl, hI10, hK13⟩)
theorem c_X12_opensLine {w : zWp} {T : zTl} {M : zMm} {J : zJm} {R : zRm'} {G : zGt} {F : zRm'} {a : Nat} (hI : zI G M) (hF : zF F R) (h0 : zModel T F G a) (v1 : Int) (v2 : Int) (v3 : Int) (p1 : 0 ≤ v1 ∧ v1 ≤ 440) (p2 : 0 ≤ v2 ∧ v2 ≤ 440) (p3 : v3 = 0 ∨ v3 = 1) : zCt w 1 0 0 yX12_opensLine cX12_opensLine 4 none [.ref (w.2.1 + a), zi v1, zi v2, zi v3] (T, M, J, R) (zPv T R G (fun M2 => (zMd a [] [63, 64, 65] [] M M2) ∧ (M2 = (zup (zup (zup M a 63 v1) a 64 v2) a 65 v3)))) := by
  refine zCt.of rfl (Nat.le_of_ble_eq_true rfl) ?_
  intro p e s m args below meth c C
  obtain ⟨Po, hPo⟩ : ∃ Po, Po = zPv T R G (fun M2 => (zMd a [] [63, 64, 65] [] M M2) ∧ (M2 = (zup (zup (zup M a 63 v1) a 64 v2) a 65 v3))) := ⟨_, rfl⟩
  rw [← hPo]
  have hK0 : zMd a [] [63, 64, 65] [] M M := zMd.rf
  show zK w p e 1 0 0 s m args below meth c 4 T Po 0 [.ref (w.2.1 + a), zi v1, zi v2, zi v3] [] (T, M, J, R)
  refine q_aload_n C dX12_opensLine_0 (n := 1) rfl rfl ?_
  refine q_iload_n C dX12_opensLine_1 (n := 2) rfl rfl ?_
  refine q_putI C dX12_opensLine_2 (n := 5) rfl f_X12_467 (zM0 h0) ⟨rfl, rfl⟩ (fun M1 (e2 : M1 = zup M a 63 v1) => ?_)
  have hI3 : zI G M1 := hI.put e2 (zM148 h0) rfl (by omega)
  have hK4 := hK0.upS e2 rfl
  refine q_aload_n C dX12_opensLine_5 (n := 6) rfl rfl ?_
  refine q_iload_n C dX12_opensLine_6 (n := 7) rfl rfl ?_
  refine q_putI C dX12_opensLine_7 (n := 10) rfl f_X12_470 (zM0 h0) ⟨rfl, rfl⟩ (fun M5 (e6 : M5 = zup M1 a 64 v2) => ?_)
  have hI7 : zI G M5 := hI3.put e6 (zM149 h0) rfl (by omega)
  have hK8 := hK4.upS e6 rfl
  refine q_aload_n C dX12_opensLine_10 (n := 11) rfl rfl ?_
  refine q_iload_n C dX12_opensLine_11 (n := 12) rfl rfl ?_
  refine q_putI C dX12_opensLine_12 (n := 15) rfl f_X12_473 (zM0 h0) ⟨rfl, rfl⟩ (fun M9 (e10 : M9 = zup M5 a 65 v3) => ?_)
  have hI11 : zI G M9 := hI7.put e10 (zM150 h0) rfl (by omega)
  have hK12 := hK8.upS e10 rfl
  exact q_vret C dX12_opensLine_15 ⟨rfl, rfl⟩ (by rw [hPo]; exact ⟨M9, J, rfl, rfl, hI11, hK12, by subst e10; subst e6; subst e2; rfl⟩)
theorem c_X12_expands {w : zWp} {T : zTl} {M : zMm} {J : zJm} {R : zRm'} {G : zGt} {F : zRm'} {a : Nat} {mb mp og lg : Int → Int} (hI : zI G M) (hF : zF F R) (h0 : zModel T F G a) (p1 : zOg M a og lg) (p2 : zMa M a mb mp) (p3 : M a 57 = 0 ∧ M a 58 = 0 ∧ M a 60 = 0 ∧ M a 26 = 3500) (p4 : 440 ≤ M a 25 ∧ M a 25 ≤ 495 ∧ M a 24 ≤ 495 ∧ M a 59 ≤ 440) (p5 : M a 63 ≤ M a 64 ∧ (M a 65 = 1 ∨ M a 64 ≤ 440)) : zCt w 6 0 0 yX12_expands cX12_expands 4 (some .boolean) [.ref (w.2.1 + a)] (T, M, J, R) (zPi T R G (fun x M2 => (zMd a [9, 10, 11, 12, 13, 14, 15, 16, 17, 18, 24, 25, 26, 27, 28, 29, 30, 31, 32, 33, 34, 35, 36, 37, 38, 39, 40, 41, 42] [24, 25, 26, 34, 57, 58, 59, 60, 61, 62] [] M M2) ∧ (x = 0 ∨ x = 1) ∧ (zOg M2 a og lg) ∧ (zMa M2 a mb mp) ∧ (x = 0 ∨ M2 a 61 ≤ 3440))) := by
  refine zCt.of rfl (Nat.le_of_ble_eq_true rfl) ?_
  intro p e s m args below meth c C
  obtain ⟨Po, hPo⟩ : ∃ Po, Po = zPi T R G (fun x M2 => (zMd a [9, 10, 11, 12, 13, 14, 15, 16, 17, 18, 24, 25, 26, 27, 28, 29, 30, 31, 32, 33, 34, 35, 36, 37, 38, 39, 40, 41, 42] [24, 25, 26, 34, 57, 58, 59, 60, 61, 62] [] M M2) ∧ (x = 0 ∨ x = 1) ∧ (zOg M2 a og lg) ∧ (zMa M2 a mb mp) ∧ (x = 0 ∨ M2 a 61 ≤ 3440)) := ⟨_, rfl⟩
  rw [← hPo]
  have hK0 : zMd a [9, 10, 11, 12, 13, 14, 15, 16, 17, 18, 24, 25, 26, 27, 28, 29, 30, 31, 32, 33, 34, 35, 36, 37, 38, 39, 40, 41, 42] [24, 25, 26, 34, 57, 58, 59, 60, 61, 62] [] M M := zMd.rf
  have gk_expansions := zI.at hI (zM147 h0)
  have gk_pooled := zI.at hI (zM59 h0)
  have gk_argMany := zI.at hI (zM144 h0)
  have gk_lineFrom := zI.at hI (zM148 h0)
  have gk_lineTo := zI.at hI (zM149 h0)
  have gk_lineArgs := zI.at hI (zM150 h0)
  show zK w p e 6 0 0 s m args below meth c 4 T Po 0 [.ref (w.2.1 + a), .null, .null, .null] [] (T, M, J, R)
  refine q_aload_n C dX12_expands_0 (n := 1) rfl rfl ?_
  refine q_iconst C dX12_expands_1 (n := 2) rfl ?_
  refine q_putI C dX12_expands_2 (n := 5) rfl f_X12_451 (zM0 h0) ⟨rfl, rfl⟩ (fun M1 (e2 : M1 = zup M a 61 0) => ?_)
  have hI3 : zI G M1 := hI.put e2 (zM146 h0) rfl (by omega)
  have hK4 := hK0.upS e2 rfl
  refine q_aload_n C dX12_expands_5 (n := 6) rfl rfl ?_
  refine q_callVv C dX12_expands_6 (n := 9) rfl m_X12_464 v_yX12_opens (zM0 h0) ⟨by decide, rfl⟩ (c_X12_opens (w := w) (J := J) hI3 hF h0 (by have hz5 : M1 a 57 = M a 57 := (zup_n e2 (by omega)); omega)) (Nat.le_of_ble_eq_true rfl) rfl rfl (Nat.le_of_ble_eq_true rfl) ⟨Nat.le_refl _, Nat.le_refl _⟩ (fun M7 J8  hI9 h10 => ?_)
  obtain ⟨hk11, h6⟩ := h10
  have hK12 := hK4.tr hk11 rfl rfl rfl
  have hz13 : M1 a 57 = M a 57 := (zup_n e2 (by omega))
  rw [hz13] at h6
  have hz14 : M1 a 58 = M a 58 := (zup_n e2 (by omega))
  rw [hz14] at h6
  obtain ⟨M16, e15⟩ : ∃ q, q = zup M1 (a + 27) (M a 57) (M a 58) := ⟨_, rfl⟩
  have e17 : M7 = zup M16 (a + 28) (M a 57) (-1) := by rw [e15]; exact h6
  refine q_aload_n C dX12_expands_9 (n := 10) rfl rfl ?_
  refine q_aload_n C dX12_expands_10 (n := 11) rfl rfl ?_
  have g18 := zI.at hI (zM148 h0)
  refine q_getI C dX12_expands_11 (n := 14) rfl f_X12_467 (zM0 h0) (v := M a 63) ((zup_p e17 (by omega) _).trans ((zup_p e15 (by omega) _).trans (zup_n e2 (by omega)))) ?_
  refine q_aload_n C dX12_expands_14 (n := 15) rfl rfl ?_
  have g19 := zI.at hI (zM149 h0)
  refine q_getI C dX12_expands_15 (n := 18) rfl f_X12_470 (zM0 h0) (v := M a 64) ((zup_p e17 (by omega) _).trans ((zup_p e15 (by omega) _).trans (zup_n e2 (by omega)))) ?_
  refine q_aload_n C dX12_expands_18 (n := 19) rfl rfl ?_
  have g20 := zI.at hI (zM150 h0)
  refine q_getI C dX12_expands_19 (n := 22) rfl f_X12_473 (zM0 h0) (v := M a 65) ((zup_p e17 (by omega) _).trans ((zup_p e15 (by omega) _).trans (zup_n e2 (by omega)))) ?_
  refine q_callVv C dX12_expands_22 (n := 25) rfl m_X12_476 v_yX12_stretch (zM0 h0) ⟨by decide, rfl⟩ (c_X12_stretch (w := w) (J := J8) hI9 hF h0 (M a 63) (M a 64) (M a 65) (by have hz21 : M7 a 58 = M a 58 := ((zup_p e17 (by omega) _).trans ((zup_p e15 (by omega) _).trans (zup_n e2 (by omega)))); omega) (by omega) (by omega) (by omega)) (Nat.le_of_ble_eq_true rfl) rfl rfl (Nat.le_of_ble_eq_true rfl) ⟨Nat.le_refl _, Nat.le_refl _⟩ (fun M23 J24  hI25 h26 => ?_)
  obtain ⟨hk27, h22⟩ := h26
  have hK28 := hK12.tr hk27 rfl rfl rfl
  have hz29 : M7 a 58 = M a 58 := ((zup_p e17 (by omega) _).trans ((zup_p e15 (by omega) _).trans (zup_n e2 (by omega))))
  rw [hz29] at h22
  obtain ⟨M31, e30⟩ : ∃ q, q = zup M7 (a + 24) (M a 58) (M a 63) := ⟨_, rfl⟩
  obtain ⟨M33, e32⟩ : ∃ q, q = zup M31 (a + 25) (M a 58) (M a 64) := ⟨_, rfl⟩
  obtain ⟨M35, e34⟩ : ∃ q, q = zup M33 (a + 26) (M a 58) (M a 65) := ⟨_, rfl⟩
  have e36 : M23 = zup M35 a 58 ((M a 58) + 1) := by rw [e34]; rw [e32]; rw [e30]; exact h22
  have L_46 : ∀ n47 : Nat, ∀ (M38 : zMm) (J39 : zJm), zI G M38 → zMd a [9, 10, 11, 12, 13, 14, 15, 16, 17, 18, 24, 25, 26, 27, 28, 29, 30, 31, 32, 33, 34, 35, 36, 37, 38, 39, 40, 41, 42] [24, 25, 26, 34, 57, 58, 59, 60, 61, 62] [] M M38 → zMd a [9, 10, 11, 12, 13, 14, 15, 16, 17, 18, 24, 25, 26, 27, 28, 29, 30, 31, 32, 33, 34, 35, 36, 37, 38, 39, 40, 41, 42] [24, 25, 26, 34, 57, 58, 59, 60, 61, 62] [] M23 M38 → ((M38 a 57 < 0 ∧ M38 a 61 ≤ 3440) ∨ zXs M38 a mb mp) → (zOg M38 a og lg) → (zMa M38 a mb mp) → (zMz M38 a + 1 ≤ (n47 : Int)) → zK w p e 6 0 0 s m args below meth c 4 T Po 25 [.ref (w.2.1 + a), .null, .null, .null] [] (T, M38, J39, R) := by
    intro n47
    induction n47 with
    | zero =>
      intro M38 J39 hI40 hK41 hK42 h43 h44 h45 hm49
      exfalso
      have := zXs.mz (h43.imp (fun q => q.1) id) hI40 h0
      omega
    | succ n47 ih48 =>
      intro M38 J39 hI40 hK41 hK42 h43 h44 h45 hm49
      refine q_aload_n C dX12_expands_25 (n := 26) rfl rfl ?_
      have g50 := zI.at hI40 (zM142 h0)
      refine q_getI C dX12_expands_26 (n := 29) rfl f_X12_448 (zM0 h0) (v := M38 a 57) rfl ?_
      refine q_if_lt C 205 dX12_expands_29 (n := 32) rfl rfl (by omega) (fun h51 => ?_) (fun h51 => ?_)
      · have gls2 : M38 a 61 ≤ 3440 := h43.elim (fun q => q.2) (fun q => q.ls)
        refine q_iconst C dX12_expands_205 (n := 206) rfl ?_
        exact q_zret C dX12_expands_206 ⟨rfl, rfl⟩ (by omega) (by rw [hPo]; exact ⟨1, M38, J39, rfl, rfl, hI40, hK41, by omega, h44, h45, by omega⟩)
      · obtain ⟨n, hX⟩ := h43.resolve_left (fun q => absurd q.1 (by omega))
        have gx52 := zX.num hX
        have hmz := zMz_of hX
        have gcm := zX.cm hX (f := M38 a 57) rfl
        have gmu := zX.mu hX hI40 h0
        have gls := zX.ls3 hX
        refine q_aload_n C dX12_expands_32 (n := 33) rfl rfl ?_
        refine q_getR C dX12_expands_33 (n := 36) rfl f_X12_98 (zM0 h0) (hF _ _ _ (zM97 h0)) ?_
        refine q_aload_n C dX12_expands_36 (n := 37) rfl rfl ?_
        refine q_getI C dX12_expands_37 (n := 40) rfl f_X12_448 (zM0 h0) (v := M38 a 57) rfl ?_
        have g53 := zI.at hI40 ((zM99 h0) (M38 a 57))
        refine q_iald C dX12_expands_40 (n := 41) rfl (zM98 h0) (by omega) (v := M38 (a + 28) (M38 a 57)) rfl ?_
        refine q_if_lt C 53 dX12_expands_41 (n := 44) rfl rfl (by omega) (fun h54 => ?_) (fun h54 => ?_)
        · refine q_aload_n C dX12_expands_53 (n := 54) rfl rfl ?_
          refine q_callVi C dX12_expands_54 (n := 57) rfl m_X12_484 v_yX12_peek (zM0 h0) ⟨by decide, rfl⟩ (c_X12_peek (w := w) (J := J39) hI40 hF h0 hX (by omega)) (Nat.le_of_ble_eq_true rfl) rfl rfl (Nat.le_of_ble_eq_true rfl) ⟨Nat.le_refl _, Nat.le_refl _⟩ (fun x64 M60 J61  hI62 h63 => ?_)
          obtain ⟨hk65, h55, h56, h57, h58, h59⟩ := h63
          have hK66 := hK41.tr hk65 rfl rfl rfl
          have hK67 := hK42.tr hk65 rfl rfl rfl
          refine q_istore_n C [.ref (w.2.1 + a), zi x64, .null, .null] dX12_expands_57 (n := 58) rfl rfl rfl ?_
          refine q_iload_n C dX12_expands_58 (n := 59) rfl rfl ?_
          refine q_if_ge C 86 dX12_expands_59 (n := 62) rfl rfl (by omega) (fun h68 => ?_) (fun h68 => ?_)
          · have hp69 : zNx M60 a := h58.resolve_left (by omega)
            refine q_aload_n C dX12_expands_86 (n := 87) rfl rfl ?_
            refine q_callVv C dX12_expands_87 (n := 90) rfl m_X12_491 v_yX12_goes (zM0 h0) ⟨by decide, rfl⟩ (c_X12_goes (w := w) (J := J61) hI62 hF h0 h56 (by have hz70 : M60 a 57 = M38 a 57 := (hk65.getS rfl rfl); omega) hp69) (Nat.le_of_ble_eq_true rfl) rfl rfl (Nat.le_of_ble_eq_true rfl) ⟨Nat.le_refl _, Nat.le_refl _⟩ (fun M73 J74  hI75 h76 => ?_)
            obtain ⟨hk77, h71, h72⟩ := h76
            have hK78 := hK66.tr hk77 rfl rfl rfl
            have hK79 := hK67.tr hk77 rfl rfl rfl
            refine q_aload_n C dX12_expands_90 (n := 91) rfl rfl ?_
            refine q_iload_n C dX12_expands_91 (n := 92) rfl rfl ?_
            refine q_callVp C dX12_expands_92 (n := 95) rfl m_X12_436 v_yX12_macroOf (zM0 h0) ⟨by decide, rfl⟩ (c_X12_macroOf (w := w) (J := J74) hI75 hF h0 x64 (by omega)) (Nat.le_of_ble_eq_true rfl) rfl rfl (Nat.le_of_ble_eq_true rfl) ⟨Nat.le_refl _, Nat.le_refl _⟩ (fun x81 h82 => ?_)
            have hz83 : M73 (a + 18) 0 = M38 (a + 18) 0 := ((hk77.getA rfl rfl rfl).trans (hk65.getA rfl rfl rfl))
            refine q_istore_n C [.ref (w.2.1 + a), zi x64, zi x81, .null] dX12_expands_95 (n := 96) rfl rfl rfl ?_
            refine q_iload_n C dX12_expands_96 (n := 97) rfl rfl ?_
            refine q_if_lt C 113 dX12_expands_97 (n := 100) rfl rfl (by omega) (fun h84 => ?_) (fun h84 => ?_)
            · refine q_aload_n C dX12_expands_113 (n := 114) rfl rfl ?_
              refine q_iload_n C dX12_expands_114 (n := 115) rfl rfl ?_
              have hp85 : zOg M73 a og lg := h44.cg (fun j => ((hk77.getA rfl rfl rfl).trans (hk65.getA rfl rfl rfl))) (fun j => ((hk77.getA rfl rfl rfl).trans (hk65.getA rfl rfl rfl)))
              refine q_callVv C dX12_expands_115 (n := 118) rfl m_X12_497 v_yX12_passes (zM0 h0) ⟨by decide, rfl⟩ (c_X12_passes (w := w) (J := J74) hI75 hF h0 x64 h71 hp85 (by have hz86 : M73 a 57 = M38 a 57 := ((hk77.getS rfl rfl).trans (hk65.getS rfl rfl)); omega) (by omega)) (Nat.le_of_ble_eq_true rfl) rfl rfl (Nat.le_of_ble_eq_true rfl) ⟨Nat.le_refl _, Nat.le_refl _⟩ (fun M89 J90  hI91 h92 => ?_)
              obtain ⟨hk93, h87, h88⟩ := h92
              have hK94 := hK78.tr hk93 rfl rfl rfl
              have hK95 := hK79.tr hk93 rfl rfl rfl
              refine q_goto C 202 dX12_expands_118 rfl ?_
              refine q_goto C 25 dX12_expands_202 rfl ?_
              have hm96 := zMz_of h87
              have hm97 : zMu M89 a n = zMu M73 a n := zMu_cg (fun j => (hk93.getA rfl rfl rfl)) (fun j => (hk93.getA rfl rfl rfl)) (fun j => (hk93.getA rfl rfl rfl)) (hk93.getS rfl rfl) (hk93.getS rfl rfl) (hk93.getS rfl rfl)
              have gx98 := zX.num h87
              have hz99 : M89 a 62 = M38 a 62 := ((hk93.getS rfl rfl).trans ((hk77.getS rfl rfl).trans (hk65.getS rfl rfl)))
              have hz100 : M89 a 57 = M38 a 57 := ((hk93.getS rfl rfl).trans ((hk77.getS rfl rfl).trans (hk65.getS rfl rfl)))
              have hz101 : M89 a 58 = M60 a 58 := ((hk93.getS rfl rfl).trans (hk77.getS rfl rfl))
              have hz102 : M89 a 59 = M38 a 59 := ((hk93.getS rfl rfl).trans ((hk77.getS rfl rfl).trans (hk65.getS rfl rfl)))
              have hz103 : M89 a 60 = M38 a 60 := ((hk93.getS rfl rfl).trans ((hk77.getS rfl rfl).trans (hk65.getS rfl rfl)))
              have hz104 : M89 a 25 = M38 a 25 := ((hk93.getS rfl rfl).trans ((hk77.getS rfl rfl).trans (hk65.getS rfl rfl)))
              have hz105 : M89 a 24 = M38 a 24 := ((hk93.getS rfl rfl).trans ((hk77.getS rfl rfl).trans (hk65.getS rfl rfl)))
              have hp106 : zMa M89 a mb mp := h45.cg (fun j j0 j1 => ((hk93.getA rfl rfl rfl).trans ((hk77.getA rfl rfl rfl).trans (hk65.getA rfl rfl rfl)))) (fun j => ((hk93.getA rfl rfl rfl).trans ((hk77.getA rfl rfl rfl).trans (hk65.getA rfl rfl rfl))))
              exact zK.weak (ih48 M89 J90 hI91 hK94 hK95 (Or.inr (zXs.mk h87 (by have hw : M89 a 59 = M38 a 59 := ((hk93.getS rfl rfl).trans ((hk77.getS rfl rfl).trans (hk65.getS rfl rfl))); omega))) h88 hp106 (by omega)) (zwk_c (zwk_n (zwk_n (zwk_n zwk_e))))
            · refine q_aload_n C dX12_expands_100 (n := 101) rfl rfl ?_
              refine q_getR C dX12_expands_101 (n := 104) rfl f_X12_58 (zM0 h0) (hF _ _ _ (zM49 h0)) ?_
              refine q_iload_n C dX12_expands_104 (n := 105) rfl rfl ?_
              have g107 := zI.at hI40 ((zM51 h0) x64)
              refine q_iald C dX12_expands_105 (n := 106) rfl (zM50 h0) (by omega) (v := M38 (a + 15) x64) ((hk77.getA rfl rfl rfl).trans (hk65.getA rfl rfl rfl)) ?_
              refine q_iload_n C dX12_expands_106 (n := 107) rfl rfl ?_
              refine q_callSp C dX12_expands_107 (n := 110) rfl m_X12_494 s_yX12_bitOf (c_X12_bitOf (w := w) (J := J74) hI75 hF (M38 (a + 15) x64) x81 (by omega) (by omega)) (Nat.le_of_ble_eq_true rfl) rfl rfl (Nat.le_of_ble_eq_true rfl) ⟨Nat.le_refl _, Nat.le_refl _⟩ (fun x109 h110 => ?_)
              refine q_if_eq C 121 dX12_expands_110 (n := 113) rfl rfl (by omega) (fun h111 => ?_) (fun h111 => ?_)
              · refine q_aload_n C dX12_expands_121 (n := 122) rfl rfl ?_
                refine q_getR C dX12_expands_122 (n := 125) rfl f_X12_68 (zM0 h0) (hF _ _ _ (zM65 h0)) ?_
                refine q_sipush C dX12_expands_125 (n := 128) rfl (x := 199) (by decide) ?_
                refine q_iload_n C dX12_expands_128 (n := 129) rfl rfl ?_
                refine q_iadd C dX12_expands_129 (n := 130) rfl (v := 199 + x81) rfl ?_
                have g112 := zI.at hI40 (((zM67 h0) (199 + x81)).trans (zwG_199 (by omega)))
                refine q_iald C dX12_expands_130 (n := 131) rfl (zM66 h0) (by omega) (v := M38 (a + 18) (199 + x81)) ((hk77.getA rfl rfl rfl).trans (hk65.getA rfl rfl rfl)) ?_
                refine q_if_ge C 164 dX12_expands_131 (n := 134) rfl rfl (by omega) (fun h113 => ?_) (fun h113 => ?_)
                · refine q_aload_n C dX12_expands_164 (n := 165) rfl rfl ?_
                  refine q_callVi C dX12_expands_165 (n := 168) rfl m_X12_484 v_yX12_peek (zM0 h0) ⟨by decide, rfl⟩ (c_X12_peek (w := w) (J := J74) hI75 hF h0 h71 (by have hz114 : M73 a 57 = M38 a 57 := ((hk77.getS rfl rfl).trans (hk65.getS rfl rfl)); omega)) (Nat.le_of_ble_eq_true rfl) rfl rfl (Nat.le_of_ble_eq_true rfl) ⟨Nat.le_refl _, Nat.le_refl _⟩ (fun x124 M120 J121  hI122 h123 => ?_)
                  obtain ⟨hk125, h115, h116, h117, h118, h119⟩ := h123
                  have hK126 := hK78.tr hk125 rfl rfl rfl
                  have hK127 := hK79.tr hk125 rfl rfl rfl
                  have hz128 : M73 (a + 27) (M a 57) = M38 (a + 27) (M a 57) := ((hk77.getA rfl rfl rfl).trans (hk65.getA rfl rfl rfl))
                  refine q_istore_n C [.ref (w.2.1 + a), zi x64, zi x81, zi x124] dX12_expands_168 (n := 169) rfl rfl rfl ?_
                  refine q_iload_n C dX12_expands_169 (n := 170) rfl rfl ?_
                  refine q_if_lt C 183 dX12_expands_170 (n := 173) rfl rfl (by omega) (fun h129 => ?_) (fun h129 => ?_)
                  · refine q_aload_n C dX12_expands_183 (n := 184) rfl rfl ?_
                    refine q_iload_n C dX12_expands_184 (n := 185) rfl rfl ?_
                    have hp130 : zOg M120 a og lg := h44.cg (fun j => ((hk125.getA rfl rfl rfl).trans ((hk77.getA rfl rfl rfl).trans (hk65.getA rfl rfl rfl)))) (fun j => ((hk125.getA rfl rfl rfl).trans ((hk77.getA rfl rfl rfl).trans (hk65.getA rfl rfl rfl))))
                    refine q_callVv C dX12_expands_185 (n := 188) rfl m_X12_497 v_yX12_passes (zM0 h0) ⟨by decide, rfl⟩ (c_X12_passes (w := w) (J := J121) hI122 hF h0 x64 h116 hp130 (by have hz131 : M120 a 57 = M38 a 57 := ((hk125.getS rfl rfl).trans ((hk77.getS rfl rfl).trans (hk65.getS rfl rfl))); omega) (by omega)) (Nat.le_of_ble_eq_true rfl) rfl rfl (Nat.le_of_ble_eq_true rfl) ⟨Nat.le_refl _, Nat.le_refl _⟩ (fun M134 J135  hI136 h137 => ?_)
                    obtain ⟨hk138, h132, h133⟩ := h137
                    have hK139 := hK126.tr hk138 rfl rfl rfl
                    have hK140 := hK127.tr hk138 rfl rfl rfl
                    refine q_goto C 202 dX12_expands_188 rfl ?_
                    refine q_goto C 25 dX12_expands_202 rfl ?_
                    have hm141 := zMz_of h132
                    have hm142 : zMu M134 a n = zMu M120 a n := zMu_cg (fun j => (hk138.getA rfl rfl rfl)) (fun j => (hk138.getA rfl rfl rfl)) (fun j => (hk138.getA rfl rfl rfl)) (hk138.getS rfl rfl) (hk138.getS rfl rfl) (hk138.getS rfl rfl)
                    have gx143 := zX.num h132
                    have hz144 : M134 a 62 = M38 a 62 := ((hk138.getS rfl rfl).trans ((hk125.getS rfl rfl).trans ((hk77.getS rfl rfl).trans (hk65.getS rfl rfl))))
                    have hz145 : M134 a 57 = M38 a 57 := ((hk138.getS rfl rfl).trans ((hk125.getS rfl rfl).trans ((hk77.getS rfl rfl).trans (hk65.getS rfl rfl))))
                    have hz146 : M134 a 58 = M120 a 58 := (hk138.getS rfl rfl)
                    have hz147 : M134 a 59 = M38 a 59 := ((hk138.getS rfl rfl).trans ((hk125.getS rfl rfl).trans ((hk77.getS rfl rfl).trans (hk65.getS rfl rfl))))
                    have hz148 : M134 a 60 = M38 a 60 := ((hk138.getS rfl rfl).trans ((hk125.getS rfl rfl).trans ((hk77.getS rfl rfl).trans (hk65.getS rfl rfl))))
                    have hz149 : M134 a 25 = M38 a 25 := ((hk138.getS rfl rfl).trans ((hk125.getS rfl rfl).trans ((hk77.getS rfl rfl).trans (hk65.getS rfl rfl))))
                    have hz150 : M134 a 24 = M38 a 24 := ((hk138.getS rfl rfl).trans ((hk125.getS rfl rfl).trans ((hk77.getS rfl rfl).trans (hk65.getS rfl rfl))))
                    have hp151 : zMa M134 a mb mp := h45.cg (fun j j0 j1 => ((hk138.getA rfl rfl rfl).trans ((hk125.getA rfl rfl rfl).trans ((hk77.getA rfl rfl rfl).trans (hk65.getA rfl rfl rfl))))) (fun j => ((hk138.getA rfl rfl rfl).trans ((hk125.getA rfl rfl rfl).trans ((hk77.getA rfl rfl rfl).trans (hk65.getA rfl rfl rfl)))))
                    exact zK.weak (ih48 M134 J135 hI136 hK139 hK140 (Or.inr (zXs.mk h132 (by have hw : M134 a 59 = M38 a 59 := ((hk138.getS rfl rfl).trans ((hk125.getS rfl rfl).trans ((hk77.getS rfl rfl).trans (hk65.getS rfl rfl)))); omega))) h133 hp151 (by omega)) (zwk_c (zwk_n (zwk_n (zwk_n zwk_e))))
                  · refine q_aload_n C dX12_expands_173 (n := 174) rfl rfl ?_
                    refine q_iload_n C dX12_expands_174 (n := 175) rfl rfl ?_
                    refine q_bipush C dX12_expands_175 (n := 177) rfl (x := 40) (by decide) ?_
                    refine q_callVp C dX12_expands_177 (n := 180) rfl m_X12_406 v_yX12_isSign (zM0 h0) ⟨by decide, rfl⟩ (c_X12_isSign (w := w) (J := J121) hI122 hF h0 x124 40 (by omega) (by omega)) (Nat.le_of_ble_eq_true rfl) rfl rfl (Nat.le_of_ble_eq_true rfl) ⟨Nat.le_refl _, Nat.le_refl _⟩ (fun x154 h155 => ?_)
                    obtain ⟨h152, h153⟩ := h155
                    have hz156 : M120 (a + 9) x124 = M38 (a + 9) x124 := ((hk125.getA rfl rfl rfl).trans ((hk77.getA rfl rfl rfl).trans (hk65.getA rfl rfl rfl)))
                    have hz157 : M120 (a + 11) x124 = M38 (a + 11) x124 := ((hk125.getA rfl rfl rfl).trans ((hk77.getA rfl rfl rfl).trans (hk65.getA rfl rfl rfl)))
                    refine q_if_ne C 191 dX12_expands_180 (n := 183) rfl rfl (by omega) (fun h158 => ?_) (fun h158 => ?_)
                    · have hp159 : zNx M120 a := h118.resolve_left (by omega)
                      refine q_aload_n C dX12_expands_191 (n := 192) rfl rfl ?_
                      refine q_iload_n C dX12_expands_192 (n := 193) rfl rfl ?_
                      refine q_iload_n C dX12_expands_193 (n := 194) rfl rfl ?_
                      have gx160 := zX.num h116
                      have hz161 : M120 a 62 = M38 a 62 := ((hk125.getS rfl rfl).trans ((hk77.getS rfl rfl).trans (hk65.getS rfl rfl)))
                      have hz162 : M120 a 57 = M38 a 57 := ((hk125.getS rfl rfl).trans ((hk77.getS rfl rfl).trans (hk65.getS rfl rfl)))
                      have hz163 : M120 a 59 = M38 a 59 := ((hk125.getS rfl rfl).trans ((hk77.getS rfl rfl).trans (hk65.getS rfl rfl)))
                      have hz164 : M120 a 60 = M38 a 60 := ((hk125.getS rfl rfl).trans ((hk77.getS rfl rfl).trans (hk65.getS rfl rfl)))
                      have hz165 : M120 a 26 = M38 a 26 := ((hk125.getS rfl rfl).trans ((hk77.getS rfl rfl).trans (hk65.getS rfl rfl)))
                      have hz166 : M120 a 25 = M38 a 25 := ((hk125.getS rfl rfl).trans ((hk77.getS rfl rfl).trans (hk65.getS rfl rfl)))
                      have hz167 : M120 a 24 = M38 a 24 := ((hk125.getS rfl rfl).trans ((hk77.getS rfl rfl).trans (hk65.getS rfl rfl)))
                      have hz168 : M120 a 61 = M38 a 61 := ((hk125.getS rfl rfl).trans ((hk77.getS rfl rfl).trans (hk65.getS rfl rfl)))
                      have hp170 : zMa M120 a mb mp := h45.cg (fun j j0 j1 => ((hk125.getA rfl rfl rfl).trans ((hk77.getA rfl rfl rfl).trans (hk65.getA rfl rfl rfl)))) (fun j => ((hk125.getA rfl rfl rfl).trans ((hk77.getA rfl rfl rfl).trans (hk65.getA rfl rfl rfl))))
                      refine q_callVi C dX12_expands_194 (n := 197) rfl m_X12_506 v_yX12_calls (zM0 h0) ⟨by decide, rfl⟩ (c_X12_calls (w := w) (J := J121) hI122 hF h0 x64 x81 (M38 a 57) h116 (by have hz169 : M120 a 57 = M38 a 57 := ((hk125.getS rfl rfl).trans ((hk77.getS rfl rfl).trans (hk65.getS rfl rfl))); omega) hp170 (by have hz171 : M120 a 59 = M38 a 59 := ((hk125.getS rfl rfl).trans ((hk77.getS rfl rfl).trans (hk65.getS rfl rfl))); omega) hp159 (by omega) (by omega)) (Nat.le_of_ble_eq_true rfl) rfl rfl (Nat.le_of_ble_eq_true rfl) ⟨Nat.le_refl _, Nat.le_refl _⟩ (fun x180 M176 J177  hI178 h179 => ?_)
                      obtain ⟨hk181, h172, h173, h174, h175⟩ := h179
                      have hK182 := hK126.tr hk181 rfl rfl rfl
                      have hK183 := hK127.tr hk181 rfl rfl rfl
                      refine q_if_ne C 202 dX12_expands_197 (n := 200) rfl rfl (by omega) (fun h184 => ?_) (fun h184 => ?_)
                      · refine q_goto C 25 dX12_expands_202 rfl ?_
                        have hm185 := zMz_of (h173.resolve_left (by omega))
                        have hm186 := h174.resolve_left (by omega)
                        have hp187 : zOg M176 a og lg := h44.cg (fun j => ((hk181.getA rfl rfl rfl).trans ((hk125.getA rfl rfl rfl).trans ((hk77.getA rfl rfl rfl).trans (hk65.getA rfl rfl rfl))))) (fun j => ((hk181.getA rfl rfl rfl).trans ((hk125.getA rfl rfl rfl).trans ((hk77.getA rfl rfl rfl).trans (hk65.getA rfl rfl rfl)))))
                        exact zK.weak (ih48 M176 J177 hI178 hK182 hK183 (Or.inr (zXs.mk (h173.resolve_left (by omega)) rfl)) hp187 h175 (by omega)) (zwk_c (zwk_n (zwk_n (zwk_n zwk_e))))
                      · refine q_iconst C dX12_expands_200 (n := 201) rfl ?_
                        have hp188 : zOg M176 a og lg := h44.cg (fun j => ((hk181.getA rfl rfl rfl).trans ((hk125.getA rfl rfl rfl).trans ((hk77.getA rfl rfl rfl).trans (hk65.getA rfl rfl rfl))))) (fun j => ((hk181.getA rfl rfl rfl).trans ((hk125.getA rfl rfl rfl).trans ((hk77.getA rfl rfl rfl).trans (hk65.getA rfl rfl rfl)))))
                        exact q_zret C dX12_expands_201 ⟨rfl, rfl⟩ (by omega) (by rw [hPo]; exact ⟨0, M176, J177, rfl, rfl, hI178, hK182, by omega, hp188, h175, by have hz189 : M176 a 61 = M38 a 61 := ((hk181.getS rfl rfl).trans ((hk125.getS rfl rfl).trans ((hk77.getS rfl rfl).trans (hk65.getS rfl rfl)))); omega⟩)
                    · refine q_aload_n C dX12_expands_183 (n := 184) rfl rfl ?_
                      refine q_iload_n C dX12_expands_184 (n := 185) rfl rfl ?_
                      have hp190 : zOg M120 a og lg := h44.cg (fun j => ((hk125.getA rfl rfl rfl).trans ((hk77.getA rfl rfl rfl).trans (hk65.getA rfl rfl rfl)))) (fun j => ((hk125.getA rfl rfl rfl).trans ((hk77.getA rfl rfl rfl).trans (hk65.getA rfl rfl rfl))))
                      refine q_callVv C dX12_expands_185 (n := 188) rfl m_X12_497 v_yX12_passes (zM0 h0) ⟨by decide, rfl⟩ (c_X12_passes (w := w) (J := J121) hI122 hF h0 x64 h116 hp190 (by have hz191 : M120 a 57 = M38 a 57 := ((hk125.getS rfl rfl).trans ((hk77.getS rfl rfl).trans (hk65.getS rfl rfl))); omega) (by omega)) (Nat.le_of_ble_eq_true rfl) rfl rfl (Nat.le_of_ble_eq_true rfl) ⟨Nat.le_refl _, Nat.le_refl _⟩ (fun M194 J195  hI196 h197 => ?_)
                      obtain ⟨hk198, h192, h193⟩ := h197
                      have hK199 := hK126.tr hk198 rfl rfl rfl
                      have hK200 := hK127.tr hk198 rfl rfl rfl
                      refine q_goto C 202 dX12_expands_188 rfl ?_
                      refine q_goto C 25 dX12_expands_202 rfl ?_
                      have hm201 := zMz_of h192
                      have hm202 : zMu M194 a n = zMu M120 a n := zMu_cg (fun j => (hk198.getA rfl rfl rfl)) (fun j => (hk198.getA rfl rfl rfl)) (fun j => (hk198.getA rfl rfl rfl)) (hk198.getS rfl rfl) (hk198.getS rfl rfl) (hk198.getS rfl rfl)
                      have gx203 := zX.num h192
                      have hz204 : M194 a 62 = M38 a 62 := ((hk198.getS rfl rfl).trans ((hk125.getS rfl rfl).trans ((hk77.getS rfl rfl).trans (hk65.getS rfl rfl))))
                      have hz205 : M194 a 57 = M38 a 57 := ((hk198.getS rfl rfl).trans ((hk125.getS rfl rfl).trans ((hk77.getS rfl rfl).trans (hk65.getS rfl rfl))))
                      have hz206 : M194 a 58 = M120 a 58 := (hk198.getS rfl rfl)
                      have hz207 : M194 a 59 = M38 a 59 := ((hk198.getS rfl rfl).trans ((hk125.getS rfl rfl).trans ((hk77.getS rfl rfl).trans (hk65.getS rfl rfl))))
                      have hz208 : M194 a 60 = M38 a 60 := ((hk198.getS rfl rfl).trans ((hk125.getS rfl rfl).trans ((hk77.getS rfl rfl).trans (hk65.getS rfl rfl))))
                      have hz209 : M194 a 25 = M38 a 25 := ((hk198.getS rfl rfl).trans ((hk125.getS rfl rfl).trans ((hk77.getS rfl rfl).trans (hk65.getS rfl rfl))))
                      have hz210 : M194 a 24 = M38 a 24 := ((hk198.getS rfl rfl).trans ((hk125.getS rfl rfl).trans ((hk77.getS rfl rfl).trans (hk65.getS rfl rfl))))
                      have hp211 : zMa M194 a mb mp := h45.cg (fun j j0 j1 => ((hk198.getA rfl rfl rfl).trans ((hk125.getA rfl rfl rfl).trans ((hk77.getA rfl rfl rfl).trans (hk65.getA rfl rfl rfl))))) (fun j => ((hk198.getA rfl rfl rfl).trans ((hk125.getA rfl rfl rfl).trans ((hk77.getA rfl rfl rfl).trans (hk65.getA rfl rfl rfl)))))
                      exact zK.weak (ih48 M194 J195 hI196 hK199 hK200 (Or.inr (zXs.mk h192 (by have hw : M194 a 59 = M38 a 59 := ((hk198.getS rfl rfl).trans ((hk125.getS rfl rfl).trans ((hk77.getS rfl rfl).trans (hk65.getS rfl rfl)))); omega))) h193 hp211 (by omega)) (zwk_c (zwk_n (zwk_n (zwk_n zwk_e))))
                · refine q_aload_n C dX12_expands_134 (n := 135) rfl rfl ?_
                  refine q_getR C dX12_expands_135 (n := 138) rfl f_X12_110 (zM0 h0) (hF _ _ _ (zM109 h0)) ?_
                  refine q_aload_n C dX12_expands_138 (n := 139) rfl rfl ?_
                  refine q_getI C dX12_expands_139 (n := 142) rfl f_X12_448 (zM0 h0) (v := M38 a 57) ((hk77.getS rfl rfl).trans (hk65.getS rfl rfl)) ?_
                  refine q_aload_n C dX12_expands_142 (n := 143) rfl rfl ?_
                  have g212 := zI.at hI40 (zM144 h0)
                  refine q_getI C dX12_expands_143 (n := 146) rfl f_X12_500 (zM0 h0) (v := M38 a 59) ((hk77.getS rfl rfl).trans (hk65.getS rfl rfl)) ?_
                  refine q_iast C dX12_expands_146 (n := 147) rfl (zM110 h0) (by omega)  (fun M213 e214 => ?_)
                  have hI215 : zI G M213 := hI75.put e214 ((zM111 h0) (M38 a 57)) rfl (by omega)
                  have hK216 := hK78.upA e214 rfl
                  have hK217 := hK79.upA e214 rfl
                  have hz218 : M73 a 62 = M38 a 62 := ((hk77.getS rfl rfl).trans (hk65.getS rfl rfl))
                  have hz219 : M73 a 57 = M38 a 57 := ((hk77.getS rfl rfl).trans (hk65.getS rfl rfl))
                  have hz220 : M73 a 58 = M60 a 58 := (hk77.getS rfl rfl)
                  have hz221 : M73 a 59 = M38 a 59 := ((hk77.getS rfl rfl).trans (hk65.getS rfl rfl))
                  have hz222 : M73 a 60 = M38 a 60 := ((hk77.getS rfl rfl).trans (hk65.getS rfl rfl))
                  have hz223 : M73 a 26 = M38 a 26 := ((hk77.getS rfl rfl).trans (hk65.getS rfl rfl))
                  have hz224 : M73 a 25 = M38 a 25 := ((hk77.getS rfl rfl).trans (hk65.getS rfl rfl))
                  have hz225 : M73 a 24 = M38 a 24 := ((hk77.getS rfl rfl).trans (hk65.getS rfl rfl))
                  have hz226 : M73 a 61 = M38 a 61 := ((hk77.getS rfl rfl).trans (hk65.getS rfl rfl))
                  have hx227 : zX M213 a mb mp n (M38 a 59) (0 + 1) 0 0 := zY.cgr (Y_ca h71 (by omega) (x := M38 a 59)) (zup_p e214 (by omega) _) (zup_p e214 (by omega) _) (zup_p e214 (by omega) _) (zup_p e214 (by omega) _) (zup_p e214 (by omega) _) (zup_p e214 (by omega) _) (zup_p e214 (by omega) _) (zup_p e214 (by omega) _) (zup_p e214 (by omega) _) (funext fun j => (zup_p e214 (by omega) _)) (funext fun j => (zup_p e214 (by omega) _)) (funext fun j => (zup_p e214 (by omega) _)) (funext fun j => (zup_p e214 (by omega) _)) (funext fun j => (zup_p e214 (by omega) _)) (funext fun j => (zup_p e214 (by omega) _)) (funext fun j => by by_cases q : j = (M73 a 57); (rw [q, yup_s]; rw [show (M73 a 57) = M38 a 57 by omega]; have hw : M213 (a + 32) (M38 a 57) = M38 a 59 := (zup_e e214 (by omega)); have hv : M73 (a + 32) (M38 a 57) = M38 (a + 32) (M38 a 57) := ((hk77.getA rfl rfl rfl).trans (hk65.getA rfl rfl rfl)); omega); (rw [yup_n q]; exact (zup_n e214 (by omega)))) (funext fun j => (zup_p e214 (by omega) _)) (funext fun j => (zup_p e214 (by omega) _)) (funext fun j => (zup_p e214 (by omega) _)) (funext fun j => (zup_p e214 (by omega) _)) (funext fun j => (zup_p e214 (by omega) _)) (funext fun j => (zup_p e214 (by omega) _))
                  have hp228 : zMa M213 a mb mp := h45.cg (fun j j0 j1 => ((zup_p e214 (by omega) _).trans ((hk77.getA rfl rfl rfl).trans (hk65.getA rfl rfl rfl)))) (fun j => ((zup_p e214 (by omega) _).trans ((hk77.getA rfl rfl rfl).trans (hk65.getA rfl rfl rfl))))
                  have gw2 := zMa.w hp228 (m := x81) (by omega) (by omega)
                  have hz230 : M213 (a + 18) (199 + x81) = M38 (a + 18) (199 + x81) := ((zup_p e214 (by omega) _).trans ((hk77.getA rfl rfl rfl).trans (hk65.getA rfl rfl rfl)))
                  have hp229 : zAg M213 a mp (M38 a 57) (M38 a 59) x81 := fun p p0 p1 => by exfalso; omega
                  refine q_aload_n C dX12_expands_147 (n := 148) rfl rfl ?_
                  refine q_iload_n C dX12_expands_148 (n := 149) rfl rfl ?_
                  refine q_iload_n C dX12_expands_149 (n := 150) rfl rfl ?_
                  refine q_aload_n C dX12_expands_150 (n := 151) rfl rfl ?_
                  refine q_getR C dX12_expands_151 (n := 154) rfl f_X12_58 (zM0 h0) (hF _ _ _ (zM49 h0)) ?_
                  refine q_iload_n C dX12_expands_154 (n := 155) rfl rfl ?_
                  refine q_iald C dX12_expands_155 (n := 156) rfl (zM50 h0) (by omega) (v := M38 (a + 15) x64) ((zup_p e214 (by omega) _).trans ((hk77.getA rfl rfl rfl).trans (hk65.getA rfl rfl rfl))) ?_
                  have hm231 : zMu M213 a n = zMu M73 a n := zMu_cg (fun j => (zup_p e214 (by omega) _)) (fun j => (zup_p e214 (by omega) _)) (fun j => (zup_p e214 (by omega) _)) (zup_p e214 (by omega) _) (zup_p e214 (by omega) _) (zup_p e214 (by omega) _)
                  have gx232 := zX.num hx227
                  have hz233 : M213 a 62 = M38 a 62 := ((zup_p e214 (by omega) _).trans ((hk77.getS rfl rfl).trans (hk65.getS rfl rfl)))
                  have hz234 : M213 a 57 = M38 a 57 := ((zup_p e214 (by omega) _).trans ((hk77.getS rfl rfl).trans (hk65.getS rfl rfl)))
                  have hz235 : M213 a 58 = M60 a 58 := ((zup_p e214 (by omega) _).trans (hk77.getS rfl rfl))
                  have hz236 : M213 a 59 = M38 a 59 := ((zup_p e214 (by omega) _).trans ((hk77.getS rfl rfl).trans (hk65.getS rfl rfl)))
                  have hz237 : M213 a 60 = M38 a 60 := ((zup_p e214 (by omega) _).trans ((hk77.getS rfl rfl).trans (hk65.getS rfl rfl)))
                  have hz238 : M213 a 26 = M38 a 26 := ((zup_p e214 (by omega) _).trans ((hk77.getS rfl rfl).trans (hk65.getS rfl rfl)))
                  have hz239 : M213 a 25 = M38 a 25 := ((zup_p e214 (by omega) _).trans ((hk77.getS rfl rfl).trans (hk65.getS rfl rfl)))
                  have hz240 : M213 a 24 = M38 a 24 := ((zup_p e214 (by omega) _).trans ((hk77.getS rfl rfl).trans (hk65.getS rfl rfl)))
                  have hz241 : M213 a 61 = M38 a 61 := ((zup_p e214 (by omega) _).trans ((hk77.getS rfl rfl).trans (hk65.getS rfl rfl)))
                  refine q_callVi C dX12_expands_156 (n := 159) rfl m_X12_503 v_yX12_begins (zM0 h0) ⟨by decide, rfl⟩ (c_X12_begins (w := w) (J := J74) hI215 hF h0 x64 x81 (M38 (a + 15) x64) (M38 a 57) hx227 (by have hz242 : M213 a 57 = M38 a 57 := ((zup_p e214 (by omega) _).trans ((hk77.getS rfl rfl).trans (hk65.getS rfl rfl))); omega) (by omega) (by have hz243 : M213 (a + 32) (M38 a 57) = M38 a 59 := ((show _ from by rw [show ((M38 a 57) : Int) = M38 a 57 by omega]; exact zup_s e214)); omega) (by omega) (by omega) (by omega) hp229 hp228) (Nat.le_of_ble_eq_true rfl) rfl rfl (Nat.le_of_ble_eq_true rfl) ⟨Nat.le_refl _, Nat.le_refl _⟩ (fun x252 M248 J249  hI250 h251 => ?_)
                  obtain ⟨hk253, h244, h245, h246, h247⟩ := h251
                  have hK254 := hK216.tr hk253 rfl rfl rfl
                  have hK255 := hK217.tr hk253 rfl rfl rfl
                  have hz256 : M213 a 59 = M38 a 59 := ((zup_p e214 (by omega) _).trans ((hk77.getS rfl rfl).trans (hk65.getS rfl rfl)))
                  have hz257 : M213 a n = M73 a n := (zup_p e214 (by omega) _)
                  refine q_if_ne C 202 dX12_expands_159 (n := 162) rfl rfl (by omega) (fun h258 => ?_) (fun h258 => ?_)
                  · refine q_goto C 25 dX12_expands_202 rfl ?_
                    have hm259 := zMz_of (h245.resolve_left (by omega))
                    have hm260 := h246.resolve_left (by omega)
                    have hp261 : zOg M248 a og lg := h44.cg (fun j => ((hk253.getA rfl rfl rfl).trans ((zup_p e214 (by omega) _).trans ((hk77.getA rfl rfl rfl).trans (hk65.getA rfl rfl rfl))))) (fun j => ((hk253.getA rfl rfl rfl).trans ((zup_p e214 (by omega) _).trans ((hk77.getA rfl rfl rfl).trans (hk65.getA rfl rfl rfl)))))
                    exact zK.weak (ih48 M248 J249 hI250 hK254 hK255 (Or.inr (zXs.mk (h245.resolve_left (by omega)) (show M213 a 59 = M248 a 59 from ((hk253.getS rfl rfl)).symm))) hp261 h247 (by omega)) (zwk_c (zwk_n (zwk_n (zwk_n zwk_e))))
                  · refine q_iconst C dX12_expands_162 (n := 163) rfl ?_
                    have hp262 : zOg M248 a og lg := h44.cg (fun j => ((hk253.getA rfl rfl rfl).trans ((zup_p e214 (by omega) _).trans ((hk77.getA rfl rfl rfl).trans (hk65.getA rfl rfl rfl))))) (fun j => ((hk253.getA rfl rfl rfl).trans ((zup_p e214 (by omega) _).trans ((hk77.getA rfl rfl rfl).trans (hk65.getA rfl rfl rfl)))))
                    exact q_zret C dX12_expands_163 ⟨rfl, rfl⟩ (by omega) (by rw [hPo]; exact ⟨0, M248, J249, rfl, rfl, hI250, hK254, by omega, hp262, h247, by have hz263 : M248 a 61 = M38 a 61 := ((hk253.getS rfl rfl).trans ((zup_p e214 (by omega) _).trans ((hk77.getS rfl rfl).trans (hk65.getS rfl rfl)))); omega⟩)
              · refine q_aload_n C dX12_expands_113 (n := 114) rfl rfl ?_
                refine q_iload_n C dX12_expands_114 (n := 115) rfl rfl ?_
                have hp264 : zOg M73 a og lg := h44.cg (fun j => ((hk77.getA rfl rfl rfl).trans (hk65.getA rfl rfl rfl))) (fun j => ((hk77.getA rfl rfl rfl).trans (hk65.getA rfl rfl rfl)))
                refine q_callVv C dX12_expands_115 (n := 118) rfl m_X12_497 v_yX12_passes (zM0 h0) ⟨by decide, rfl⟩ (c_X12_passes (w := w) (J := J74) hI75 hF h0 x64 h71 hp264 (by have hz265 : M73 a 57 = M38 a 57 := ((hk77.getS rfl rfl).trans (hk65.getS rfl rfl)); omega) (by omega)) (Nat.le_of_ble_eq_true rfl) rfl rfl (Nat.le_of_ble_eq_true rfl) ⟨Nat.le_refl _, Nat.le_refl _⟩ (fun M268 J269  hI270 h271 => ?_)
                obtain ⟨hk272, h266, h267⟩ := h271
                have hK273 := hK78.tr hk272 rfl rfl rfl
                have hK274 := hK79.tr hk272 rfl rfl rfl
                refine q_goto C 202 dX12_expands_118 rfl ?_
                refine q_goto C 25 dX12_expands_202 rfl ?_
                have hm275 := zMz_of h266
                have hm276 : zMu M268 a n = zMu M73 a n := zMu_cg (fun j => (hk272.getA rfl rfl rfl)) (fun j => (hk272.getA rfl rfl rfl)) (fun j => (hk272.getA rfl rfl rfl)) (hk272.getS rfl rfl) (hk272.getS rfl rfl) (hk272.getS rfl rfl)
                have gx277 := zX.num h266
                have hz278 : M268 a 62 = M38 a 62 := ((hk272.getS rfl rfl).trans ((hk77.getS rfl rfl).trans (hk65.getS rfl rfl)))
                have hz279 : M268 a 57 = M38 a 57 := ((hk272.getS rfl rfl).trans ((hk77.getS rfl rfl).trans (hk65.getS rfl rfl)))
                have hz280 : M268 a 58 = M60 a 58 := ((hk272.getS rfl rfl).trans (hk77.getS rfl rfl))
                have hz281 : M268 a 59 = M38 a 59 := ((hk272.getS rfl rfl).trans ((hk77.getS rfl rfl).trans (hk65.getS rfl rfl)))
                have hz282 : M268 a 60 = M38 a 60 := ((hk272.getS rfl rfl).trans ((hk77.getS rfl rfl).trans (hk65.getS rfl rfl)))
                have hz283 : M268 a 25 = M38 a 25 := ((hk272.getS rfl rfl).trans ((hk77.getS rfl rfl).trans (hk65.getS rfl rfl)))
                have hz284 : M268 a 24 = M38 a 24 := ((hk272.getS rfl rfl).trans ((hk77.getS rfl rfl).trans (hk65.getS rfl rfl)))
                have hp285 : zMa M268 a mb mp := h45.cg (fun j j0 j1 => ((hk272.getA rfl rfl rfl).trans ((hk77.getA rfl rfl rfl).trans (hk65.getA rfl rfl rfl)))) (fun j => ((hk272.getA rfl rfl rfl).trans ((hk77.getA rfl rfl rfl).trans (hk65.getA rfl rfl rfl))))
                exact zK.weak (ih48 M268 J269 hI270 hK273 hK274 (Or.inr (zXs.mk h266 (by have hw : M268 a 59 = M38 a 59 := ((hk272.getS rfl rfl).trans ((hk77.getS rfl rfl).trans (hk65.getS rfl rfl))); omega))) h267 hp285 (by omega)) (zwk_c (zwk_n (zwk_n (zwk_n zwk_e))))
          · refine q_aload_n C dX12_expands_62 (n := 63) rfl rfl ?_
            refine q_dup C dX12_expands_63 (n := 64) rfl rfl ?_
            refine q_getI C dX12_expands_64 (n := 67) rfl f_X12_448 (zM0 h0) (v := M38 a 57) (hk65.getS rfl rfl) ?_
            refine q_iconst C dX12_expands_67 (n := 68) rfl ?_
            refine q_isub C dX12_expands_68 (n := 69) rfl (v := (M38 a 57) - 1) rfl ?_
            refine q_putI C dX12_expands_69 (n := 72) rfl f_X12_448 (zM0 h0) ⟨rfl, rfl⟩ (fun M286 (e287 : M286 = zup M60 a 57 ((M38 a 57) - 1)) => ?_)
            have hI288 : zI G M286 := hI62.put e287 (zM142 h0) rfl (by omega)
            have hK289 := hK66.upS e287 rfl
            have hK290 := hK67.upS e287 rfl
            refine q_aload_n C dX12_expands_72 (n := 73) rfl rfl ?_
            refine q_getI C dX12_expands_73 (n := 76) rfl f_X12_448 (zM0 h0) (v := (M38 a 57) - 1) (zup_s e287) ?_
            refine q_if_lt C 25 dX12_expands_76 (n := 79) rfl rfl (by omega) (fun h291 => ?_) (fun h291 => ?_)
            · have hm292 := zMz_neg (M := M286) (a := a) (by have hw : M286 a 57 = (M38 a 57) - 1 := (zup_s e287); omega)
              have hp293 : zOg M286 a og lg := h44.cg (fun j => ((zup_p e287 (by omega) _).trans (hk65.getA rfl rfl rfl))) (fun j => ((zup_p e287 (by omega) _).trans (hk65.getA rfl rfl rfl)))
              have hp294 : zMa M286 a mb mp := h45.cg (fun j j0 j1 => ((zup_p e287 (by omega) _).trans (hk65.getA rfl rfl rfl))) (fun j => ((zup_p e287 (by omega) _).trans (hk65.getA rfl rfl rfl)))
              exact zK.weak (ih48 M286 J61 hI288 hK289 hK290 (Or.inl (by have hw : M286 a 57 = (M38 a 57) - 1 := (zup_s e287); have hv : M286 a 61 = M38 a 61 := ((zup_n e287 (by omega)).trans (hk65.getS rfl rfl)); omega)) hp293 hp294 (by omega)) (zwk_c (zwk_n (zwk_n (zwk_n zwk_e))))
            · have hz295 : M60 (a + 27) (M38 a 57) = M38 (a + 27) (M38 a 57) := (hk65.getA rfl rfl rfl)
              have hp58 := h59.resolve_left (fun q => by omega)
              have hq1 : M60 (a + 27) (M60 a 57) = M38 (a + 27) (M38 a 57) := by rw [show M60 a 57 = M38 a 57 from (hk65.getS rfl rfl)]; exact (hk65.getA rfl rfl rfl)
              have hst : M60 a 58 = M60 (a + 27) (M60 a 57) := by rw [hq1]; exact hp58
              have hz296 : M60 a 57 = M38 a 57 := (hk65.getS rfl rfl)
              have gv := zX.clv h56 (f := (M38 a 57) - 1) (by omega) (by omega) (by omega)
              have gpl := zX.pcl h56 (f := (M38 a 57) - 1) (by omega) (by omega) (by omega)
              have gq0 := zX.q3 h56 (f := (M38 a 57) - 1) (by omega) (by omega)
              have hz297 : M60 (a + 28) ((M38 a 57) - 1) = M38 (a + 28) ((M38 a 57) - 1) := (hk65.getA rfl rfl rfl)
              have hz298 : M60 (a + 31) ((M38 a 57) - 1) = M38 (a + 31) ((M38 a 57) - 1) := (hk65.getA rfl rfl rfl)
              have hz299 : M60 (a + 34) ((M38 a 57) - 1) = M38 (a + 34) ((M38 a 57) - 1) := (hk65.getA rfl rfl rfl)
              have hz300 : M60 a 60 = M38 a 60 := (hk65.getS rfl rfl)
              have hz301 : M60 a 62 = M38 a 62 := (hk65.getS rfl rfl)
              have hz302 : M60 a 57 = M38 a 57 := (hk65.getS rfl rfl)
              have hz303 : M60 a 59 = M38 a 59 := (hk65.getS rfl rfl)
              have hz304 : M60 a 60 = M38 a 60 := (hk65.getS rfl rfl)
              have hz305 : M60 a 26 = M38 a 26 := (hk65.getS rfl rfl)
              have hz306 : M60 a 25 = M38 a 25 := (hk65.getS rfl rfl)
              have hz307 : M60 a 24 = M38 a 24 := (hk65.getS rfl rfl)
              have hz308 : M60 a 61 = M38 a 61 := (hk65.getS rfl rfl)
              have hx309 : zX M286 a mb mp n (M38 a 59) 0 0 0 := zY.cgr (Y_close h56 (by omega) (by omega) hst (by omega)) (zup_n e287 (by omega)) (by have hw : M286 a 57 = (M38 a 57) - 1 := (zup_s e287); omega) (zup_n e287 (by omega)) (zup_n e287 (by omega)) (zup_n e287 (by omega)) (zup_n e287 (by omega)) (zup_n e287 (by omega)) (zup_n e287 (by omega)) (zup_n e287 (by omega)) (funext fun j => (zup_p e287 (by omega) _)) (funext fun j => (zup_p e287 (by omega) _)) (funext fun j => (zup_p e287 (by omega) _)) (funext fun j => (zup_p e287 (by omega) _)) (funext fun j => (zup_p e287 (by omega) _)) (funext fun j => (zup_p e287 (by omega) _)) (funext fun j => (zup_p e287 (by omega) _)) (funext fun j => (zup_p e287 (by omega) _)) (funext fun j => (zup_p e287 (by omega) _)) (funext fun j => (zup_p e287 (by omega) _)) (funext fun j => (zup_p e287 (by omega) _)) (funext fun j => (zup_p e287 (by omega) _)) (funext fun j => (zup_p e287 (by omega) _))
              have hm310 : zMu M286 a n = zMu M60 a n - 1 := zMu_close (fun j => (zup_p e287 (by omega) _)) (fun j => (zup_p e287 (by omega) _)) (fun j => (zup_p e287 (by omega) _)) (by have hw : M286 a 57 = (M38 a 57) - 1 := (zup_s e287); have hv : M60 a 57 = M38 a 57 := (hk65.getS rfl rfl); omega) (zup_n e287 (by omega)) (zup_n e287 (by omega))
              have gcl := zX.clz hx309 (f := (M38 a 57) - 1) (zup_s e287) (by omega)
              have gq3 := zX.q3 hx309 (f := (M38 a 57) - 1) (by omega) (by omega)
              have hz311 : M286 (a + 28) ((M38 a 57) - 1) = M38 (a + 28) ((M38 a 57) - 1) := ((zup_p e287 (by omega) _).trans (hk65.getA rfl rfl rfl))
              have hz312 : M286 (a + 31) ((M38 a 57) - 1) = M38 (a + 31) ((M38 a 57) - 1) := ((zup_p e287 (by omega) _).trans (hk65.getA rfl rfl rfl))
              have hz313 : M286 a 60 = M38 a 60 := ((zup_n e287 (by omega)).trans (hk65.getS rfl rfl))
              refine q_aload_n C dX12_expands_79 (n := 80) rfl rfl ?_
              refine q_callVv C dX12_expands_80 (n := 83) rfl m_X12_488 v_yX12_endsArgument (zM0 h0) ⟨by decide, rfl⟩ (c_X12_endsArgument (w := w) (J := J61) hI288 hF h0 ((M38 a 57) - 1) (by have hz314 : M286 a 57 = (M38 a 57) - 1 := (zup_s e287); omega) (by omega) (by have hz315 : M286 (a + 28) ((M38 a 57) - 1) = M38 (a + 28) ((M38 a 57) - 1) := ((zup_p e287 (by omega) _).trans (hk65.getA rfl rfl rfl)); omega) (by have hz316 : M286 (a + 31) ((M38 a 57) - 1) = M38 (a + 31) ((M38 a 57) - 1) := ((zup_p e287 (by omega) _).trans (hk65.getA rfl rfl rfl)); omega) (by have hz317 : M286 a 60 = M38 a 60 := ((zup_n e287 (by omega)).trans (hk65.getS rfl rfl)); omega)) (Nat.le_of_ble_eq_true rfl) rfl rfl (Nat.le_of_ble_eq_true rfl) ⟨Nat.le_refl _, Nat.le_refl _⟩ (fun M318 J319  hI320 h321 => ?_)
              have hK323 := hK289.tr h321 rfl rfl rfl
              have hK324 := hK290.tr h321 rfl rfl rfl
              refine q_goto C 25 dX12_expands_83 rfl ?_
              have hp325 : zX M318 a mb mp n (M38 a 59) 0 0 0 := hx309.cg (h321.getS rfl rfl) (h321.getS rfl rfl) (h321.getS rfl rfl) (h321.getS rfl rfl) (h321.getS rfl rfl) (h321.getS rfl rfl) (h321.getS rfl rfl) (h321.getS rfl rfl) (h321.getS rfl rfl) (fun j => (h321.getA rfl rfl rfl)) (fun j => (h321.getA rfl rfl rfl)) (fun j => (h321.getA rfl rfl rfl)) (fun j => (h321.getA rfl rfl rfl)) (fun j => (h321.getA rfl rfl rfl)) (fun j => (h321.getA rfl rfl rfl)) (fun j => (h321.getA rfl rfl rfl)) (fun j => (h321.getA rfl rfl rfl)) (fun j => (h321.getA rfl rfl rfl)) (fun j => (h321.getA rfl rfl rfl)) (fun j => (h321.getA rfl rfl rfl)) (fun j => (h321.getA rfl rfl rfl)) (fun j => (h321.getA rfl rfl rfl))
              have hm326 := zMz_of hp325
              have hm327 : zMu M318 a n = zMu M286 a n := zMu_cg (fun j => (h321.getA rfl rfl rfl)) (fun j => (h321.getA rfl rfl rfl)) (fun j => (h321.getA rfl rfl rfl)) (h321.getS rfl rfl) (h321.getS rfl rfl) (h321.getS rfl rfl)
              have gx328 := zX.num hp325
              have hz329 : M318 a 62 = M38 a 62 := ((h321.getS rfl rfl).trans ((zup_n e287 (by omega)).trans (hk65.getS rfl rfl)))
              have hz330 : M318 a 57 = (M38 a 57) - 1 := ((h321.getS rfl rfl).trans (zup_s e287))
              have hz331 : M318 a 58 = M60 a 58 := ((h321.getS rfl rfl).trans (zup_n e287 (by omega)))
              have hz332 : M318 a 59 = M38 a 59 := ((h321.getS rfl rfl).trans ((zup_n e287 (by omega)).trans (hk65.getS rfl rfl)))
              have hz333 : M318 a 60 = M38 a 60 := ((h321.getS rfl rfl).trans ((zup_n e287 (by omega)).trans (hk65.getS rfl rfl)))
              have hz334 : M318 a 26 = M38 a 26 := ((h321.getS rfl rfl).trans ((zup_n e287 (by omega)).trans (hk65.getS rfl rfl)))
              have hz335 : M318 a 25 = M38 a 25 := ((h321.getS rfl rfl).trans ((zup_n e287 (by omega)).trans (hk65.getS rfl rfl)))
              have hz336 : M318 a 24 = M38 a 24 := ((h321.getS rfl rfl).trans ((zup_n e287 (by omega)).trans (hk65.getS rfl rfl)))
              have hz337 : M318 a 61 = M38 a 61 := ((h321.getS rfl rfl).trans ((zup_n e287 (by omega)).trans (hk65.getS rfl rfl)))
              have hp338 : zOg M318 a og lg := h44.cg (fun j => ((h321.getA rfl rfl rfl).trans ((zup_p e287 (by omega) _).trans (hk65.getA rfl rfl rfl)))) (fun j => ((h321.getA rfl rfl rfl).trans ((zup_p e287 (by omega) _).trans (hk65.getA rfl rfl rfl))))
              have hp339 : zMa M318 a mb mp := h45.cg (fun j j0 j1 => ((h321.getA rfl rfl rfl).trans ((zup_p e287 (by omega) _).trans (hk65.getA rfl rfl rfl)))) (fun j => ((h321.getA rfl rfl rfl).trans ((zup_p e287 (by omega) _).trans (hk65.getA rfl rfl rfl))))
              exact zK.weak (ih48 M318 J319 hI320 hK323 hK324 (Or.inr (zXs.mk hp325 (by have hw : M318 a 59 = M38 a 59 := ((h321.getS rfl rfl).trans ((zup_n e287 (by omega)).trans (hk65.getS rfl rfl))); omega))) hp338 hp339 (by omega)) (zwk_c (zwk_n (zwk_n (zwk_n zwk_e))))
        · refine q_aload_n C dX12_expands_44 (n := 45) rfl rfl ?_
          refine q_callVi C dX12_expands_45 (n := 48) rfl m_X12_480 v_yX12_replaces (zM0 h0) ⟨by decide, rfl⟩ (c_X12_replaces (w := w) (J := J39) hI40 hF h0 (M38 a 57) hX h44 h45 (by omega) (by omega)) (Nat.le_of_ble_eq_true rfl) rfl rfl (Nat.le_of_ble_eq_true rfl) ⟨Nat.le_refl _, Nat.le_refl _⟩ (fun x349 M345 J346  hI347 h348 => ?_)
          obtain ⟨hk350, h340, h341, h342, h343, h344⟩ := h348
          have hK351 := hK41.tr hk350 rfl rfl rfl
          have hK352 := hK42.tr hk350 rfl rfl rfl
          refine q_if_ne C 25 dX12_expands_48 (n := 51) rfl rfl (by omega) (fun h353 => ?_) (fun h353 => ?_)
          · exact zK.weak (ih48 M345 J346 hI347 hK351 hK352 (Or.inr (h341.resolve_left (by omega))) h343 h344 (by omega)) (zwk_c (zwk_n (zwk_n (zwk_n zwk_e))))
          · refine q_iconst C dX12_expands_51 (n := 52) rfl ?_
            exact q_zret C dX12_expands_52 ⟨rfl, rfl⟩ (by omega) (by rw [hPo]; exact ⟨0, M345, J346, rfl, rfl, hI347, hK351, by omega, h343, h344, by have hz354 : M345 a 61 = M38 a 61 := (hk350.getS rfl rfl); omega⟩)
  have hx355 : zX M23 a mb mp 0 (M a 59) 0 0 0 := zY.cgr (Y_init (mb := mb) (mp := mp) (E := M a 62) (am := M a 59) (md := M a 25) (po := M a 24) (at_ := M (a + 24)) (en := M (a + 25)) (sa := M (a + 26)) (fb := M (a + 27)) (cm := M (a + 28)) (cb := M (a + 31)) (ca := M (a + 32)) (cg := M (a + 33)) (cp := M (a + 34)) (ct := M (a + 35)) (cl := M (a + 36)) (pa := M (a + 37)) (ps := M (a + 38)) (x := M a 63) (y := M a 64) (b := M a 65) (by omega) (by omega) (by omega) (by omega) (by omega) (by omega) p2.2.1) (by have hw : M23 a 62 = M a 62 := ((zup_n e36 (by omega)).trans ((zup_p e34 (by omega) _).trans ((zup_p e32 (by omega) _).trans ((zup_p e30 (by omega) _).trans ((zup_p e17 (by omega) _).trans ((zup_p e15 (by omega) _).trans (zup_n e2 (by omega)))))))); omega) (by have hw : M23 a 57 = M a 57 := ((zup_n e36 (by omega)).trans ((zup_p e34 (by omega) _).trans ((zup_p e32 (by omega) _).trans ((zup_p e30 (by omega) _).trans ((zup_p e17 (by omega) _).trans ((zup_p e15 (by omega) _).trans (zup_n e2 (by omega)))))))); omega) (by have hw : M23 a 58 = (M a 58) + 1 := (zup_s e36); omega) (by have hw : M23 a 59 = M a 59 := ((zup_n e36 (by omega)).trans ((zup_p e34 (by omega) _).trans ((zup_p e32 (by omega) _).trans ((zup_p e30 (by omega) _).trans ((zup_p e17 (by omega) _).trans ((zup_p e15 (by omega) _).trans (zup_n e2 (by omega)))))))); omega) (by have hw : M23 a 60 = M a 60 := ((zup_n e36 (by omega)).trans ((zup_p e34 (by omega) _).trans ((zup_p e32 (by omega) _).trans ((zup_p e30 (by omega) _).trans ((zup_p e17 (by omega) _).trans ((zup_p e15 (by omega) _).trans (zup_n e2 (by omega)))))))); omega) (by have hw : M23 a 26 = M a 26 := ((zup_n e36 (by omega)).trans ((zup_p e34 (by omega) _).trans ((zup_p e32 (by omega) _).trans ((zup_p e30 (by omega) _).trans ((zup_p e17 (by omega) _).trans ((zup_p e15 (by omega) _).trans (zup_n e2 (by omega)))))))); omega) (by have hw : M23 a 25 = M a 25 := ((zup_n e36 (by omega)).trans ((zup_p e34 (by omega) _).trans ((zup_p e32 (by omega) _).trans ((zup_p e30 (by omega) _).trans ((zup_p e17 (by omega) _).trans ((zup_p e15 (by omega) _).trans (zup_n e2 (by omega)))))))); omega) (by have hw : M23 a 24 = M a 24 := ((zup_n e36 (by omega)).trans ((zup_p e34 (by omega) _).trans ((zup_p e32 (by omega) _).trans ((zup_p e30 (by omega) _).trans ((zup_p e17 (by omega) _).trans ((zup_p e15 (by omega) _).trans (zup_n e2 (by omega)))))))); omega) (by have hw : M23 a 61 = 0 := ((zup_n e36 (by omega)).trans ((zup_p e34 (by omega) _).trans ((zup_p e32 (by omega) _).trans ((zup_p e30 (by omega) _).trans ((zup_p e17 (by omega) _).trans ((zup_p e15 (by omega) _).trans (zup_s e2))))))); omega) (funext fun j => by by_cases q : j = 0; (rw [q, yup_s]; have hw : M23 (a + 24) 0 = M a 63 := ((zup_p e36 (by omega) _).trans ((zup_p e34 (by omega) _).trans ((zup_p e32 (by omega) _).trans (zup_e e30 (by omega))))); omega); (rw [yup_n q]; exact ((zup_p e36 (by omega) _).trans ((zup_p e34 (by omega) _).trans ((zup_p e32 (by omega) _).trans ((zup_n e30 (by omega)).trans ((zup_p e17 (by omega) _).trans ((zup_p e15 (by omega) _).trans (zup_p e2 (by omega) _))))))))) (funext fun j => by by_cases q : j = 0; (rw [q, yup_s]; have hw : M23 (a + 25) 0 = M a 64 := ((zup_p e36 (by omega) _).trans ((zup_p e34 (by omega) _).trans (zup_e e32 (by omega)))); omega); (rw [yup_n q]; exact ((zup_p e36 (by omega) _).trans ((zup_p e34 (by omega) _).trans ((zup_n e32 (by omega)).trans ((zup_p e30 (by omega) _).trans ((zup_p e17 (by omega) _).trans ((zup_p e15 (by omega) _).trans (zup_p e2 (by omega) _))))))))) (funext fun j => by by_cases q : j = 0; (rw [q, yup_s]; have hw : M23 (a + 26) 0 = M a 65 := ((zup_p e36 (by omega) _).trans (zup_e e34 (by omega))); omega); (rw [yup_n q]; exact ((zup_p e36 (by omega) _).trans ((zup_n e34 (by omega)).trans ((zup_p e32 (by omega) _).trans ((zup_p e30 (by omega) _).trans ((zup_p e17 (by omega) _).trans ((zup_p e15 (by omega) _).trans (zup_p e2 (by omega) _))))))))) (funext fun j => by by_cases q : j = 0; (rw [q, yup_s]; have hw : M23 (a + 27) 0 = M a 58 := ((zup_p e36 (by omega) _).trans ((zup_p e34 (by omega) _).trans ((zup_p e32 (by omega) _).trans ((zup_p e30 (by omega) _).trans ((zup_p e17 (by omega) _).trans (zup_e e15 (by omega))))))); omega); (rw [yup_n q]; exact ((zup_p e36 (by omega) _).trans ((zup_p e34 (by omega) _).trans ((zup_p e32 (by omega) _).trans ((zup_p e30 (by omega) _).trans ((zup_p e17 (by omega) _).trans ((zup_n e15 (by omega)).trans (zup_p e2 (by omega) _))))))))) (funext fun j => by by_cases q : j = 0; (rw [q, yup_s]; have hw : M23 (a + 28) 0 = -1 := ((zup_p e36 (by omega) _).trans ((zup_p e34 (by omega) _).trans ((zup_p e32 (by omega) _).trans ((zup_p e30 (by omega) _).trans (zup_e e17 (by omega)))))); omega); (rw [yup_n q]; exact ((zup_p e36 (by omega) _).trans ((zup_p e34 (by omega) _).trans ((zup_p e32 (by omega) _).trans ((zup_p e30 (by omega) _).trans ((zup_n e17 (by omega)).trans ((zup_p e15 (by omega) _).trans (zup_p e2 (by omega) _))))))))) (funext fun j => ((zup_p e36 (by omega) _).trans ((zup_p e34 (by omega) _).trans ((zup_p e32 (by omega) _).trans ((zup_p e30 (by omega) _).trans ((zup_p e17 (by omega) _).trans ((zup_p e15 (by omega) _).trans (zup_p e2 (by omega) _)))))))) (funext fun j => ((zup_p e36 (by omega) _).trans ((zup_p e34 (by omega) _).trans ((zup_p e32 (by omega) _).trans ((zup_p e30 (by omega) _).trans ((zup_p e17 (by omega) _).trans ((zup_p e15 (by omega) _).trans (zup_p e2 (by omega) _)))))))) (funext fun j => ((zup_p e36 (by omega) _).trans ((zup_p e34 (by omega) _).trans ((zup_p e32 (by omega) _).trans ((zup_p e30 (by omega) _).trans ((zup_p e17 (by omega) _).trans ((zup_p e15 (by omega) _).trans (zup_p e2 (by omega) _)))))))) (funext fun j => ((zup_p e36 (by omega) _).trans ((zup_p e34 (by omega) _).trans ((zup_p e32 (by omega) _).trans ((zup_p e30 (by omega) _).trans ((zup_p e17 (by omega) _).trans ((zup_p e15 (by omega) _).trans (zup_p e2 (by omega) _)))))))) (funext fun j => ((zup_p e36 (by omega) _).trans ((zup_p e34 (by omega) _).trans ((zup_p e32 (by omega) _).trans ((zup_p e30 (by omega) _).trans ((zup_p e17 (by omega) _).trans ((zup_p e15 (by omega) _).trans (zup_p e2 (by omega) _)))))))) (funext fun j => ((zup_p e36 (by omega) _).trans ((zup_p e34 (by omega) _).trans ((zup_p e32 (by omega) _).trans ((zup_p e30 (by omega) _).trans ((zup_p e17 (by omega) _).trans ((zup_p e15 (by omega) _).trans (zup_p e2 (by omega) _)))))))) (funext fun j => ((zup_p e36 (by omega) _).trans ((zup_p e34 (by omega) _).trans ((zup_p e32 (by omega) _).trans ((zup_p e30 (by omega) _).trans ((zup_p e17 (by omega) _).trans ((zup_p e15 (by omega) _).trans (zup_p e2 (by omega) _)))))))) (funext fun j => ((zup_p e36 (by omega) _).trans ((zup_p e34 (by omega) _).trans ((zup_p e32 (by omega) _).trans ((zup_p e30 (by omega) _).trans ((zup_p e17 (by omega) _).trans ((zup_p e15 (by omega) _).trans (zup_p e2 (by omega) _))))))))
  have hp356 : zOg M23 a og lg := p1.cg (fun j => ((zup_p e36 (by omega) _).trans ((zup_p e34 (by omega) _).trans ((zup_p e32 (by omega) _).trans ((zup_p e30 (by omega) _).trans ((zup_p e17 (by omega) _).trans ((zup_p e15 (by omega) _).trans (zup_p e2 (by omega) _)))))))) (fun j => ((zup_p e36 (by omega) _).trans ((zup_p e34 (by omega) _).trans ((zup_p e32 (by omega) _).trans ((zup_p e30 (by omega) _).trans ((zup_p e17 (by omega) _).trans ((zup_p e15 (by omega) _).trans (zup_p e2 (by omega) _))))))))
  have hp357 : zMa M23 a mb mp := p2.cg (fun j j0 j1 => ((zup_p e36 (by omega) _).trans ((zup_p e34 (by omega) _).trans ((zup_p e32 (by omega) _).trans ((zup_p e30 (by omega) _).trans ((zup_p e17 (by omega) _).trans ((zup_p e15 (by omega) _).trans (zup_p e2 (by omega) _)))))))) (fun j => ((zup_p e36 (by omega) _).trans ((zup_p e34 (by omega) _).trans ((zup_p e32 (by omega) _).trans ((zup_p e30 (by omega) _).trans ((zup_p e17 (by omega) _).trans ((zup_p e15 (by omega) _).trans (zup_p e2 (by omega) _))))))))
  exact zK.weak (L_46 _ M23 J24 hI25 hK28 (zMd.rf : zMd a [9, 10, 11, 12, 13, 14, 15, 16, 17, 18, 24, 25, 26, 27, 28, 29, 30, 31, 32, 33, 34, 35, 36, 37, 38, 39, 40, 41, 42] [24, 25, 26, 34, 57, 58, 59, 60, 61, 62] [] M23 M23) (Or.inr (zXs.mk hx355 (by have hw : M23 a 59 = M a 59 := ((zup_n e36 (by omega)).trans ((zup_p e34 (by omega) _).trans ((zup_p e32 (by omega) _).trans ((zup_p e30 (by omega) _).trans ((zup_p e17 (by omega) _).trans ((zup_p e15 (by omega) _).trans (zup_n e2 (by omega)))))))); omega))) hp356 hp357 (Int.self_le_toNat _)) (zwk_c (zwk_n (zwk_n (zwk_n zwk_e))))
theorem c_X12_expandsLine {w : zWp} {T : zTl} {M : zMm} {J : zJm} {R : zRm'} {G : zGt} {F : zRm'} {a : Nat} {mb mp og lg : Int → Int} (hI : zI G M) (hF : zF F R) (h0 : zModel T F G a) (p1 : zOg M a og lg) (p2 : zMa M a mb mp) (p3 : M a 26 = 3500 ∧ 440 ≤ M a 25 ∧ M a 25 ≤ 495 ∧ M a 24 ≤ 495) : zCt w 7 0 0 yX12_expandsLine cX12_expandsLine 1 (some .boolean) [.ref (w.2.1 + a)] (T, M, J, R) (zPi T R G (fun x M2 => (zMd a [9, 10, 11, 12, 13, 14, 15, 16, 17, 18, 24, 25, 26, 27, 28, 29, 30, 31, 32, 33, 34, 35, 36, 37, 38, 39, 40, 41, 42] [24, 25, 26, 34, 57, 58, 59, 60, 61, 62, 63, 64, 65] [] M M2) ∧ (x = 0 ∨ x = 1) ∧ (zOg M2 a og lg) ∧ (zMa M2 a mb mp) ∧ (x = 0 ∨ M2 a 61 ≤ 3440))) := by
  refine zCt.of rfl (Nat.le_of_ble_eq_true rfl) ?_
  intro p e s m args below meth c C
  obtain ⟨Po, hPo⟩ : ∃ Po, Po = zPi T R G (fun x M2 => (zMd a [9, 10, 11, 12, 13, 14, 15, 16, 17, 18, 24, 25, 26, 27, 28, 29, 30, 31, 32, 33, 34, 35, 36, 37, 38, 39, 40, 41, 42] [24, 25, 26, 34, 57, 58, 59, 60, 61, 62, 63, 64, 65] [] M M2) ∧ (x = 0 ∨ x = 1) ∧ (zOg M2 a og lg) ∧ (zMa M2 a mb mp) ∧ (x = 0 ∨ M2 a 61 ≤ 3440)) := ⟨_, rfl⟩
  rw [← hPo]
  have hK0 : zMd a [9, 10, 11, 12, 13, 14, 15, 16, 17, 18, 24, 25, 26, 27, 28, 29, 30, 31, 32, 33, 34, 35, 36, 37, 38, 39, 40, 41, 42] [24, 25, 26, 34, 57, 58, 59, 60, 61, 62, 63, 64, 65] [] M M := zMd.rf
  have gk_tokens := zI.at hI (zM58 h0)
  have gk_pooled := zI.at hI (zM59 h0)
  show zK w p e 7 0 0 s m args below meth c 1 T Po 0 [.ref (w.2.1 + a)] [] (T, M, J, R)
  refine q_aload_n C dX12_expandsLine_0 (n := 1) rfl rfl ?_
  refine q_iconst C dX12_expandsLine_1 (n := 2) rfl ?_
  refine q_putI C dX12_expandsLine_2 (n := 5) rfl f_X12_448 (zM0 h0) ⟨rfl, rfl⟩ (fun M1 (e2 : M1 = zup M a 57 0) => ?_)
  have hI3 : zI G M1 := hI.put e2 (zM142 h0) rfl (by omega)
  have hK4 := hK0.upS e2 rfl
  refine q_aload_n C dX12_expandsLine_5 (n := 6) rfl rfl ?_
  refine q_iconst C dX12_expandsLine_6 (n := 7) rfl ?_
  refine q_putI C dX12_expandsLine_7 (n := 10) rfl f_X12_445 (zM0 h0) ⟨rfl, rfl⟩ (fun M5 (e6 : M5 = zup M1 a 58 0) => ?_)
  have hI7 : zI G M5 := hI3.put e6 (zM143 h0) rfl (by omega)
  have hK8 := hK4.upS e6 rfl
  refine q_aload_n C dX12_expandsLine_10 (n := 11) rfl rfl ?_
  refine q_iconst C dX12_expandsLine_11 (n := 12) rfl ?_
  refine q_putI C dX12_expandsLine_12 (n := 15) rfl f_X12_500 (zM0 h0) ⟨rfl, rfl⟩ (fun M9 (e10 : M9 = zup M5 a 59 0) => ?_)
  have hI11 : zI G M9 := hI7.put e10 (zM144 h0) rfl (by omega)
  have hK12 := hK8.upS e10 rfl
  refine q_aload_n C dX12_expandsLine_15 (n := 16) rfl rfl ?_
  refine q_iconst C dX12_expandsLine_16 (n := 17) rfl ?_
  refine q_putI C dX12_expandsLine_17 (n := 20) rfl f_X12_458 (zM0 h0) ⟨rfl, rfl⟩ (fun M13 (e14 : M13 = zup M9 a 60 0) => ?_)
  have hI15 : zI G M13 := hI11.put e14 (zM145 h0) rfl (by omega)
  have hK16 := hK12.upS e14 rfl
  refine q_aload_n C dX12_expandsLine_20 (n := 21) rfl rfl ?_
  refine q_getR C dX12_expandsLine_21 (n := 24) rfl f_X12_95 (zM0 h0) (hF _ _ _ (zM94 h0)) ?_
  refine q_iconst C dX12_expandsLine_24 (n := 25) rfl ?_
  refine q_iconst C dX12_expandsLine_25 (n := 26) rfl ?_
  refine q_iast C dX12_expandsLine_26 (n := 27) rfl (zM95 h0) (by omega)  (fun M17 e18 => ?_)
  have hI19 : zI G M17 := hI15.put e18 ((zM96 h0) 0) rfl (by omega)
  have hK20 := hK16.upA e18 rfl
  refine q_aload_n C dX12_expandsLine_27 (n := 28) rfl rfl ?_
  refine q_iconst C dX12_expandsLine_28 (n := 29) rfl ?_
  refine q_aload_n C dX12_expandsLine_29 (n := 30) rfl rfl ?_
  have g21 := zI.at hI (zM58 h0)
  refine q_getI C dX12_expandsLine_30 (n := 33) rfl f_X12_355 (zM0 h0) (v := M a 23) ((zup_p e18 (by omega) _).trans ((zup_n e14 (by omega)).trans ((zup_n e10 (by omega)).trans ((zup_n e6 (by omega)).trans (zup_n e2 (by omega)))))) ?_
  refine q_iconst C dX12_expandsLine_33 (n := 34) rfl ?_
  refine q_callVv C dX12_expandsLine_34 (n := 37) rfl m_X12_550 v_yX12_opensLine (zM0 h0) ⟨by decide, rfl⟩ (c_X12_opensLine (w := w) (J := J) hI19 hF h0 0 (M a 23) 0 (by omega) (by omega) (by omega)) (Nat.le_of_ble_eq_true rfl) rfl rfl (Nat.le_of_ble_eq_true rfl) ⟨Nat.le_refl _, Nat.le_refl _⟩ (fun M23 J24  hI25 h26 => ?_)
  obtain ⟨hk27, h22⟩ := h26
  have hK28 := hK20.tr hk27 rfl rfl rfl
  obtain ⟨M30, e29⟩ : ∃ q, q = zup M17 a 63 0 := ⟨_, rfl⟩
  obtain ⟨M32, e31⟩ : ∃ q, q = zup M30 a 64 (M a 23) := ⟨_, rfl⟩
  have e33 : M23 = zup M32 a 65 0 := by rw [e31]; rw [e29]; exact h22
  refine q_aload_n C dX12_expandsLine_37 (n := 38) rfl rfl ?_
  have hp34 : zOg M23 a og lg := p1.cg (fun j => ((zup_p e33 (by omega) _).trans ((zup_p e31 (by omega) _).trans ((zup_p e29 (by omega) _).trans ((zup_p e18 (by omega) _).trans ((zup_p e14 (by omega) _).trans ((zup_p e10 (by omega) _).trans ((zup_p e6 (by omega) _).trans (zup_p e2 (by omega) _))))))))) (fun j => ((zup_p e33 (by omega) _).trans ((zup_p e31 (by omega) _).trans ((zup_p e29 (by omega) _).trans ((zup_p e18 (by omega) _).trans ((zup_p e14 (by omega) _).trans ((zup_p e10 (by omega) _).trans ((zup_p e6 (by omega) _).trans (zup_p e2 (by omega) _)))))))))
  have hp35 : zMa M23 a mb mp := p2.cg (fun j j0 j1 => ((zup_p e33 (by omega) _).trans ((zup_p e31 (by omega) _).trans ((zup_p e29 (by omega) _).trans ((zup_p e18 (by omega) _).trans ((zup_p e14 (by omega) _).trans ((zup_p e10 (by omega) _).trans ((zup_p e6 (by omega) _).trans (zup_p e2 (by omega) _))))))))) (fun j => ((zup_p e33 (by omega) _).trans ((zup_p e31 (by omega) _).trans ((zup_p e29 (by omega) _).trans ((zup_p e18 (by omega) _).trans ((zup_p e14 (by omega) _).trans ((zup_p e10 (by omega) _).trans ((zup_p e6 (by omega) _).trans (zup_p e2 (by omega) _)))))))))
  refine q_callVi C dX12_expandsLine_38 (n := 41) rfl m_X12_553 v_yX12_expands (zM0 h0) ⟨by decide, rfl⟩ (c_X12_expands (w := w) (J := J24) hI25 hF h0 hp34 hp35 (by have hz36 : M23 a 57 = 0 := ((zup_n e33 (by omega)).trans ((zup_n e31 (by omega)).trans ((zup_n e29 (by omega)).trans ((zup_p e18 (by omega) _).trans ((zup_n e14 (by omega)).trans ((zup_n e10 (by omega)).trans ((zup_n e6 (by omega)).trans (zup_s e2)))))))); have hz37 : M23 a 58 = 0 := ((zup_n e33 (by omega)).trans ((zup_n e31 (by omega)).trans ((zup_n e29 (by omega)).trans ((zup_p e18 (by omega) _).trans ((zup_n e14 (by omega)).trans ((zup_n e10 (by omega)).trans (zup_s e6))))))); have hz38 : M23 a 60 = 0 := ((zup_n e33 (by omega)).trans ((zup_n e31 (by omega)).trans ((zup_n e29 (by omega)).trans ((zup_p e18 (by omega) _).trans (zup_s e14))))); have hz39 : M23 a 26 = M a 26 := ((zup_n e33 (by omega)).trans ((zup_n e31 (by omega)).trans ((zup_n e29 (by omega)).trans ((zup_p e18 (by omega) _).trans ((zup_n e14 (by omega)).trans ((zup_n e10 (by omega)).trans ((zup_n e6 (by omega)).trans (zup_n e2 (by omega))))))))); omega) (by have hz40 : M23 a 25 = M a 25 := ((zup_n e33 (by omega)).trans ((zup_n e31 (by omega)).trans ((zup_n e29 (by omega)).trans ((zup_p e18 (by omega) _).trans ((zup_n e14 (by omega)).trans ((zup_n e10 (by omega)).trans ((zup_n e6 (by omega)).trans (zup_n e2 (by omega))))))))); have hz41 : M23 a 24 = M a 24 := ((zup_n e33 (by omega)).trans ((zup_n e31 (by omega)).trans ((zup_n e29 (by omega)).trans ((zup_p e18 (by omega) _).trans ((zup_n e14 (by omega)).trans ((zup_n e10 (by omega)).trans ((zup_n e6 (by omega)).trans (zup_n e2 (by omega))))))))); have hz42 : M23 a 59 = 0 := ((zup_n e33 (by omega)).trans ((zup_n e31 (by omega)).trans ((zup_n e29 (by omega)).trans ((zup_p e18 (by omega) _).trans ((zup_n e14 (by omega)).trans (zup_s e10)))))); omega) (by have hz43 : M23 a 63 = 0 := ((zup_n e33 (by omega)).trans ((zup_n e31 (by omega)).trans (zup_s e29))); have hz44 : M23 a 64 = M a 23 := ((zup_n e33 (by omega)).trans (zup_s e31)); have hz45 : M23 a 65 = 0 := (zup_s e33); omega)) (Nat.le_of_ble_eq_true rfl) rfl rfl (Nat.le_of_ble_eq_true rfl) ⟨Nat.le_refl _, Nat.le_refl _⟩ (fun x54 M50 J51  hI52 h53 => ?_)
  obtain ⟨hk55, h46, h47, h48, h49⟩ := h53
  have hK56 := hK28.tr hk55 rfl rfl rfl
  exact q_zret C dX12_expandsLine_41 ⟨rfl, rfl⟩ (by omega) (by rw [hPo]; exact ⟨x54, M50, J51, rfl, rfl, hI52, hK56, by omega, h47, h48, by omega⟩)
