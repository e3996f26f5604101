def zWr (wt : Int → Int) : Prop := ∀ t, 0 ≤ wt t ∧ wt t ≤ 30
theorem zVt_ok {M M2 : zMm} {a : Nat} {wt : Int → Int} {x : Int} (h : x = -1 ∨ ¬ M a 65 = 0 ∨ ¬ M a 57 = 0 ∨ x = M (a + 24) (M a 58 - 1)) (hx : ¬ x = -1) (e1 : M2 a 65 = M a 65) (e2 : M2 a 57 = M a 57) : ¬ M2 a 65 = 0 ∨ ¬ M2 a 57 = 0 ∨ wt x ≤ zVt M a wt := by
  rw [e1, e2]
  rcases h with h | h | h | h
  · exact absurd h hx
  · exact Or.inl h
  · exact Or.inr (Or.inl h)
  · by_cases q : M a 57 = 0
    · unfold zVt
      rw [if_pos q, h]
      exact Or.inr (Or.inr (Int.le_refl _))
    · exact Or.inr (Or.inl q)
theorem c_X12_expandsV {w : zWp} {T : zTl} {M : zMm} {J : zJm} {R : zRm'} {G : zGt} {F : zRm'} {a : Nat} {mb mp og lg : Int → Int} {wt : Int → Int} (hI : zI G M) (hF : zF F R) (h0 : zModel T F G a) (p1 : zOg M a og lg) (p2 : zMa M a mb mp) (p3 : M a 57 = 0 ∧ M a 58 = 0 ∧ M a 60 = 0 ∧ M a 26 = 3500) (p4 : 440 ≤ M a 25 ∧ M a 25 ≤ 495 ∧ M a 24 ≤ 495 ∧ M a 59 ≤ 440) (p5 : M a 63 ≤ M a 64 ∧ (M a 65 = 1 ∨ M a 64 ≤ 440)) (p6 : zWr wt) (p7 : ¬ M a 65 = 0 ∨ zwS wt (M a 63) (M a 64) ≤ 440) : zCt w 6 0 0 yX12_expands cX12_expands 4 (some .boolean) [.ref (w.2.1 + a)] (T, M, J, R) (zPi T R G (fun x M2 => (zMd a [9, 10, 11, 12, 13, 14, 15, 16, 17, 18, 24, 25, 26, 27, 28, 29, 30, 31, 32, 33, 34, 35, 36, 37, 38, 39, 40, 41, 42] [24, 25, 26, 34, 57, 58, 59, 60, 61, 62] [] M M2) ∧ (x = 0 ∨ x = 1) ∧ (zOg M2 a og lg) ∧ (zMa M2 a mb mp) ∧ (x = 0 ∨ M2 a 61 ≤ 3440) ∧ (M2 (a + 18) 3 = M (a + 18) 3) ∧ (x = 0 ∨ ¬ M2 a 65 = 0 ∨ zwL wt (M2 (a + 41)) (M2 a 61) ≤ 90440))) := by
  refine zCt.of rfl (Nat.le_of_ble_eq_true rfl) ?_
  intro p e s m args below meth c C
  obtain ⟨Po, hPo⟩ : ∃ Po, Po = zPi T R G (fun x M2 => (zMd a [9, 10, 11, 12, 13, 14, 15, 16, 17, 18, 24, 25, 26, 27, 28, 29, 30, 31, 32, 33, 34, 35, 36, 37, 38, 39, 40, 41, 42] [24, 25, 26, 34, 57, 58, 59, 60, 61, 62] [] M M2) ∧ (x = 0 ∨ x = 1) ∧ (zOg M2 a og lg) ∧ (zMa M2 a mb mp) ∧ (x = 0 ∨ M2 a 61 ≤ 3440) ∧ (M2 (a + 18) 3 = M (a + 18) 3) ∧ (x = 0 ∨ ¬ M2 a 65 = 0 ∨ zwL wt (M2 (a + 41)) (M2 a 61) ≤ 90440)) := ⟨_, rfl⟩
  rw [← hPo]
  have hK0 : zMd a [9, 10, 11, 12, 13, 14, 15, 16, 17, 18, 24, 25, 26, 27, 28, 29, 30, 31, 32, 33, 34, 35, 36, 37, 38, 39, 40, 41, 42] [24, 25, 26, 34, 57, 58, 59, 60, 61, 62] [] M M := zMd.rf
  have gk_expansions := zI.at hI (zM147 h0)
  have gk_pooled := zI.at hI (zM59 h0)
  have gk_argMany := zI.at hI (zM144 h0)
  have gk_lineFrom := zI.at hI (zM148 h0)
  have gk_lineTo := zI.at hI (zM149 h0)
  have gk_lineArgs := zI.at hI (zM150 h0)
  show zK w p e 6 0 0 s m args below meth c 4 T Po 0 [.ref (w.2.1 + a), .null, .null, .null] [] (T, M, J, R)
  refine q_aload_n C dX12_expands_0 (n := 1) rfl rfl ?_
  refine q_iconst C dX12_expands_1 (n := 2) rfl ?_
  refine q_putI C dX12_expands_2 (n := 5) rfl f_X12_451 (zM0 h0) ⟨rfl, rfl⟩ (fun M1 (e2 : M1 = zup M a 61 0) => ?_)
  have hI3 : zI G M1 := hI.put e2 (zM146 h0) rfl (by omega)
  have hK4 := hK0.upS e2 rfl
  refine q_aload_n C dX12_expands_5 (n := 6) rfl rfl ?_
  refine q_callVv C dX12_expands_6 (n := 9) rfl m_X12_464 v_yX12_opens (zM0 h0) ⟨by decide, rfl⟩ (c_X12_opens (w := w) (J := J) hI3 hF h0 (by have hz5 : M1 a 57 = M a 57 := (zup_n e2 (by omega)); omega)) (Nat.le_of_ble_eq_true rfl) rfl rfl (Nat.le_of_ble_eq_true rfl) ⟨Nat.le_refl _, Nat.le_refl _⟩ (fun M7 J8  hI9 h10 => ?_)
  obtain ⟨hk11, h6⟩ := h10
  have hK12 := hK4.tr hk11 rfl rfl rfl
  have hz13 : M1 a 57 = M a 57 := (zup_n e2 (by omega))
  rw [hz13] at h6
  have hz14 : M1 a 58 = M a 58 := (zup_n e2 (by omega))
  rw [hz14] at h6
  obtain ⟨M16, e15⟩ : ∃ q, q = zup M1 (a + 27) (M a 57) (M a 58) := ⟨_, rfl⟩
  have e17 : M7 = zup M16 (a + 28) (M a 57) (-1) := by rw [e15]; exact h6
  refine q_aload_n C dX12_expands_9 (n := 10) rfl rfl ?_
  refine q_aload_n C dX12_expands_10 (n := 11) rfl rfl ?_
  have g18 := zI.at hI (zM148 h0)
  refine q_getI C dX12_expands_11 (n := 14) rfl f_X12_467 (zM0 h0) (v := M a 63) ((zup_p e17 (by omega) _).trans ((zup_p e15 (by omega) _).trans (zup_n e2 (by omega)))) ?_
  refine q_aload_n C dX12_expands_14 (n := 15) rfl rfl ?_
  have g19 := zI.at hI (zM149 h0)
  refine q_getI C dX12_expands_15 (n := 18) rfl f_X12_470 (zM0 h0) (v := M a 64) ((zup_p e17 (by omega) _).trans ((zup_p e15 (by omega) _).trans (zup_n e2 (by omega)))) ?_
  refine q_aload_n C dX12_expands_18 (n := 19) rfl rfl ?_
  have g20 := zI.at hI (zM150 h0)
  refine q_getI C dX12_expands_19 (n := 22) rfl f_X12_473 (zM0 h0) (v := M a 65) ((zup_p e17 (by omega) _).trans ((zup_p e15 (by omega) _).trans (zup_n e2 (by omega)))) ?_
  refine q_callVv C dX12_expands_22 (n := 25) rfl m_X12_476 v_yX12_stretch (zM0 h0) ⟨by decide, rfl⟩ (c_X12_stretch (w := w) (J := J8) hI9 hF h0 (M a 63) (M a 64) (M a 65) (by have hz21 : M7 a 58 = M a 58 := ((zup_p e17 (by omega) _).trans ((zup_p e15 (by omega) _).trans (zup_n e2 (by omega)))); omega) (by omega) (by omega) (by omega)) (Nat.le_of_ble_eq_true rfl) rfl rfl (Nat.le_of_ble_eq_true rfl) ⟨Nat.le_refl _, Nat.le_refl _⟩ (fun M23 J24  hI25 h26 => ?_)
  obtain ⟨hk27, h22⟩ := h26
  have hK28 := hK12.tr hk27 rfl rfl rfl
  have hz29 : M7 a 58 = M a 58 := ((zup_p e17 (by omega) _).trans ((zup_p e15 (by omega) _).trans (zup_n e2 (by omega))))
  rw [hz29] at h22
  obtain ⟨M31, e30⟩ : ∃ q, q = zup M7 (a + 24) (M a 58) (M a 63) := ⟨_, rfl⟩
  obtain ⟨M33, e32⟩ : ∃ q, q = zup M31 (a + 25) (M a 58) (M a 64) := ⟨_, rfl⟩
  obtain ⟨M35, e34⟩ : ∃ q, q = zup M33 (a + 26) (M a 58) (M a 65) := ⟨_, rfl⟩
  have e36 : M23 = zup M35 a 58 ((M a 58) + 1) := by rw [e34]; rw [e32]; rw [e30]; exact h22
  have L_48 : ∀ n49 : Nat, ∀ (M38 : zMm) (J39 : zJm), zI G M38 → zMd a [9, 10, 11, 12, 13, 14, 15, 16, 17, 18, 24, 25, 26, 27, 28, 29, 30, 31, 32, 33, 34, 35, 36, 37, 38, 39, 40, 41, 42] [24, 25, 26, 34, 57, 58, 59, 60, 61, 62] [] M M38 → zMd a [9, 10, 11, 12, 13, 14, 15, 16, 17, 18, 24, 25, 26, 27, 28, 29, 30, 31, 32, 33, 34, 35, 36, 37, 38, 39, 40, 41, 42] [24, 25, 26, 34, 57, 58, 59, 60, 61, 62] [] M23 M38 → ((M38 a 57 < 0 ∧ M38 a 61 ≤ 3440) ∨ zXs M38 a mb mp) → (zOg M38 a og lg) → (zMa M38 a mb mp) → (M38 (a + 18) 3 = M (a + 18) 3) → (zV M38 a wt 0) → (zMz M38 a + 1 ≤ (n49 : Int)) → zK w p e 6 0 0 s m args below meth c 4 T Po 25 [.ref (w.2.1 + a), .null, .null, .null] [] (T, M38, J39, R) := by
    intro n49
    induction n49 with
    | zero =>
      intro M38 J39 hI40 hK41 hK42 h43 h44 h45 h46 h47 hm51
      exfalso
      have := zXs.mz (h43.imp (fun q => q.1) id) hI40 h0
      omega
    | succ n49 ih50 =>
      intro M38 J39 hI40 hK41 hK42 h43 h44 h45 h46 h47 hm51
      have hz52 : M38 (a + 18) 3 = M (a + 18) 3 := (h46)
      refine q_aload_n C dX12_expands_25 (n := 26) rfl rfl ?_
      have g53 := zI.at hI40 (zM142 h0)
      refine q_getI C dX12_expands_26 (n := 29) rfl f_X12_448 (zM0 h0) (v := M38 a 57) rfl ?_
      refine q_if_lt C 205 dX12_expands_29 (n := 32) rfl rfl (by omega) (fun h54 => ?_) (fun h54 => ?_)
      · have gls2 : M38 a 61 ≤ 3440 := h43.elim (fun q => q.2) (fun q => q.ls)
        refine q_iconst C dX12_expands_205 (n := 206) rfl ?_
        have gte := zI.at hI40 (zM147 h0)
        exact q_zret C dX12_expands_206 ⟨rfl, rfl⟩ (by omega) (by rw [hPo]; exact ⟨1, M38, J39, rfl, rfl, hI40, hK41, by omega, h44, h45, by omega, by have hz55 : M38 (a + 18) 3 = M (a + 18) 3 := (h46); omega, (Or.inr (U_end h47 (by omega)))⟩)
      · obtain ⟨n, hX⟩ := h43.resolve_left (fun q => absurd q.1 (by omega))
        have gx56 := zX.num hX
        have hmz := zMz_of hX
        have gcm := zX.cm hX (f := M38 a 57) rfl
        have gmu := zX.mu hX hI40 h0
        have gls := zX.ls3 hX
        refine q_aload_n C dX12_expands_32 (n := 33) rfl rfl ?_
        refine q_getR C dX12_expands_33 (n := 36) rfl f_X12_98 (zM0 h0) (hF _ _ _ (zM97 h0)) ?_
        refine q_aload_n C dX12_expands_36 (n := 37) rfl rfl ?_
        refine q_getI C dX12_expands_37 (n := 40) rfl f_X12_448 (zM0 h0) (v := M38 a 57) rfl ?_
        have g57 := zI.at hI40 ((zM99 h0) (M38 a 57))
        refine q_iald C dX12_expands_40 (n := 41) rfl (zM98 h0) (by omega) (v := M38 (a + 28) (M38 a 57)) rfl ?_
        refine q_if_lt C 53 dX12_expands_41 (n := 44) rfl rfl (by omega) (fun h58 => ?_) (fun h58 => ?_)
        · have gc0 : ¬ M38 a 57 = 0 ∨ M38 (a + 28) 0 < 0 := (Decidable.em (M38 a 57 = 0)).symm.imp id (fun q => by have hh : M38 (a + 28) (M38 a 57) < 0 := (by omega); rw [q] at hh; exact hh)
          refine q_aload_n C dX12_expands_53 (n := 54) rfl rfl ?_
          refine q_callVi C dX12_expands_54 (n := 57) rfl m_X12_484 v_yX12_peek (zM0 h0) ⟨by decide, rfl⟩ (c_X12_peekV (w := w) (J := J39) hI40 hF h0 hX (by omega) h47) (Nat.le_of_ble_eq_true rfl) rfl rfl (Nat.le_of_ble_eq_true rfl) ⟨Nat.le_refl _, Nat.le_refl _⟩ (fun x70 M66 J67  hI68 h69 => ?_)
          obtain ⟨hk71, h59, h60, h61, h62, h63, h64, h65⟩ := h69
          have hK72 := hK41.tr hk71 rfl rfl rfl
          have hK73 := hK42.tr hk71 rfl rfl rfl
          refine q_istore_n C [.ref (w.2.1 + a), zi x70, .null, .null] dX12_expands_57 (n := 58) rfl rfl rfl ?_
          refine q_iload_n C dX12_expands_58 (n := 59) rfl rfl ?_
          refine q_if_ge C 86 dX12_expands_59 (n := 62) rfl rfl (by omega) (fun h74 => ?_) (fun h74 => ?_)
          · have hp75 : zNx M66 a := h62.resolve_left (by omega)
            refine q_aload_n C dX12_expands_86 (n := 87) rfl rfl ?_
            refine q_callVv C dX12_expands_87 (n := 90) rfl m_X12_491 v_yX12_goes (zM0 h0) ⟨by decide, rfl⟩ (c_X12_goesV (w := w) (J := J67) hI68 hF h0 h60 (by have hz76 : M66 a 57 = M38 a 57 := (hk71.getS rfl rfl); omega) hp75 h64) (Nat.le_of_ble_eq_true rfl) rfl rfl (Nat.le_of_ble_eq_true rfl) ⟨Nat.le_refl _, Nat.le_refl _⟩ (fun M80 J81  hI82 h83 => ?_)
            obtain ⟨hk84, h77, h78, h79⟩ := h83
            have hK85 := hK72.tr hk84 rfl rfl rfl
            have hK86 := hK73.tr hk84 rfl rfl rfl
            refine q_aload_n C dX12_expands_90 (n := 91) rfl rfl ?_
            refine q_iload_n C dX12_expands_91 (n := 92) rfl rfl ?_
            refine q_callVp C dX12_expands_92 (n := 95) rfl m_X12_436 v_yX12_macroOf (zM0 h0) ⟨by decide, rfl⟩ (c_X12_macroOf (w := w) (J := J81) hI82 hF h0 x70 (by omega)) (Nat.le_of_ble_eq_true rfl) rfl rfl (Nat.le_of_ble_eq_true rfl) ⟨Nat.le_refl _, Nat.le_refl _⟩ (fun x88 h89 => ?_)
            have hz90 : M80 (a + 18) 0 = M38 (a + 18) 0 := ((hk84.getA rfl rfl rfl).trans (hk71.getA rfl rfl rfl))
            refine q_istore_n C [.ref (w.2.1 + a), zi x70, zi x88, .null] dX12_expands_95 (n := 96) rfl rfl rfl ?_
            refine q_iload_n C dX12_expands_96 (n := 97) rfl rfl ?_
            refine q_if_lt C 113 dX12_expands_97 (n := 100) rfl rfl (by omega) (fun h91 => ?_) (fun h91 => ?_)
            · refine q_aload_n C dX12_expands_113 (n := 114) rfl rfl ?_
              refine q_iload_n C dX12_expands_114 (n := 115) rfl rfl ?_
              have hp92 : zOg M80 a og lg := h44.cg (fun j => ((hk84.getA rfl rfl rfl).trans (hk71.getA rfl rfl rfl))) (fun j => ((hk84.getA rfl rfl rfl).trans (hk71.getA rfl rfl rfl)))
              refine q_callVv C dX12_expands_115 (n := 118) rfl m_X12_497 v_yX12_passes (zM0 h0) ⟨by decide, rfl⟩ (c_X12_passesV (w := w) (J := J81) hI82 hF h0 x70 h77 hp92 (by have hz : M80 a 57 = M38 a 57 := ((hk84.getS rfl rfl).trans (hk71.getS rfl rfl)); omega) (by omega) h79 (zVt_ok h65 (by omega) (hk84.getS rfl rfl) (hk84.getS rfl rfl))) (Nat.le_of_ble_eq_true rfl) rfl rfl (Nat.le_of_ble_eq_true rfl) ⟨Nat.le_refl _, Nat.le_refl _⟩ (fun M96 J97  hI98 h99 => ?_)
              obtain ⟨hk100, h93, h94, h95⟩ := h99
              have hK101 := hK85.tr hk100 rfl rfl rfl
              have hK102 := hK86.tr hk100 rfl rfl rfl
              refine q_goto C 202 dX12_expands_118 rfl ?_
              refine q_goto C 25 dX12_expands_202 rfl ?_
              have hm103 := zMz_of h93
              have hm104 : zMu M96 a n = zMu M80 a n := zMu_cg (fun j => (hk100.getA rfl rfl rfl)) (fun j => (hk100.getA rfl rfl rfl)) (fun j => (hk100.getA rfl rfl rfl)) (hk100.getS rfl rfl) (hk100.getS rfl rfl) (hk100.getS rfl rfl)
              have gx105 := zX.num h93
              have hz106 : M96 a 62 = M38 a 62 := ((hk100.getS rfl rfl).trans ((hk84.getS rfl rfl).trans (hk71.getS rfl rfl)))
              have hz107 : M96 a 57 = M38 a 57 := ((hk100.getS rfl rfl).trans ((hk84.getS rfl rfl).trans (hk71.getS rfl rfl)))
              have hz108 : M96 a 58 = M66 a 58 := ((hk100.getS rfl rfl).trans (hk84.getS rfl rfl))
              have hz109 : M96 a 59 = M38 a 59 := ((hk100.getS rfl rfl).trans ((hk84.getS rfl rfl).trans (hk71.getS rfl rfl)))
              have hz110 : M96 a 60 = M38 a 60 := ((hk100.getS rfl rfl).trans ((hk84.getS rfl rfl).trans (hk71.getS rfl rfl)))
              have hz111 : M96 a 25 = M38 a 25 := ((hk100.getS rfl rfl).trans ((hk84.getS rfl rfl).trans (hk71.getS rfl rfl)))
              have hz112 : M96 a 24 = M38 a 24 := ((hk100.getS rfl rfl).trans ((hk84.getS rfl rfl).trans (hk71.getS rfl rfl)))
              have hp113 : zMa M96 a mb mp := h45.cg (fun j j0 j1 => ((hk100.getA rfl rfl rfl).trans ((hk84.getA rfl rfl rfl).trans (hk71.getA rfl rfl rfl)))) (fun j => ((hk100.getA rfl rfl rfl).trans ((hk84.getA rfl rfl rfl).trans (hk71.getA rfl rfl rfl))))
              exact zK.weak (ih50 M96 J97 hI98 hK101 hK102 (Or.inr (zXs.mk h93 (by have hw : M96 a 59 = M38 a 59 := ((hk100.getS rfl rfl).trans ((hk84.getS rfl rfl).trans (hk71.getS rfl rfl))); omega))) h94 hp113 (by have hz114 : M96 (a + 18) 3 = M (a + 18) 3 := ((hk100.getA rfl rfl rfl).trans ((hk84.getA rfl rfl rfl).trans ((hk71.getA rfl rfl rfl).trans (h46)))); omega) h95 (by omega)) (zwk_c (zwk_n (zwk_n (zwk_n zwk_e))))
            · refine q_aload_n C dX12_expands_100 (n := 101) rfl rfl ?_
              refine q_getR C dX12_expands_101 (n := 104) rfl f_X12_58 (zM0 h0) (hF _ _ _ (zM49 h0)) ?_
              refine q_iload_n C dX12_expands_104 (n := 105) rfl rfl ?_
              have g115 := zI.at hI40 ((zM51 h0) x70)
              refine q_iald C dX12_expands_105 (n := 106) rfl (zM50 h0) (by omega) (v := M38 (a + 15) x70) ((hk84.getA rfl rfl rfl).trans (hk71.getA rfl rfl rfl)) ?_
              refine q_iload_n C dX12_expands_106 (n := 107) rfl rfl ?_
              refine q_callSp C dX12_expands_107 (n := 110) rfl m_X12_494 s_yX12_bitOf (c_X12_bitOf (w := w) (J := J81) hI82 hF (M38 (a + 15) x70) x88 (by omega) (by omega)) (Nat.le_of_ble_eq_true rfl) rfl rfl (Nat.le_of_ble_eq_true rfl) ⟨Nat.le_refl _, Nat.le_refl _⟩ (fun x117 h118 => ?_)
              refine q_if_eq C 121 dX12_expands_110 (n := 113) rfl rfl (by omega) (fun h119 => ?_) (fun h119 => ?_)
              · refine q_aload_n C dX12_expands_121 (n := 122) rfl rfl ?_
                refine q_getR C dX12_expands_122 (n := 125) rfl f_X12_68 (zM0 h0) (hF _ _ _ (zM65 h0)) ?_
                refine q_sipush C dX12_expands_125 (n := 128) rfl (x := 199) (by decide) ?_
                refine q_iload_n C dX12_expands_128 (n := 129) rfl rfl ?_
                refine q_iadd C dX12_expands_129 (n := 130) rfl (v := 199 + x88) rfl ?_
                have g120 := zI.at hI40 (((zM67 h0) (199 + x88)).trans (zwG_199 (by omega)))
                refine q_iald C dX12_expands_130 (n := 131) rfl (zM66 h0) (by omega) (v := M38 (a + 18) (199 + x88)) ((hk84.getA rfl rfl rfl).trans (hk71.getA rfl rfl rfl)) ?_
                refine q_if_ge C 164 dX12_expands_131 (n := 134) rfl rfl (by omega) (fun h121 => ?_) (fun h121 => ?_)
                · refine q_aload_n C dX12_expands_164 (n := 165) rfl rfl ?_
                  refine q_callVi C dX12_expands_165 (n := 168) rfl m_X12_484 v_yX12_peek (zM0 h0) ⟨by decide, rfl⟩ (c_X12_peekV (w := w) (J := J81) hI82 hF h0 h77 (by have hz122 : M80 a 57 = M38 a 57 := ((hk84.getS rfl rfl).trans (hk71.getS rfl rfl)); omega) h79) (Nat.le_of_ble_eq_true rfl) rfl rfl (Nat.le_of_ble_eq_true rfl) ⟨Nat.le_refl _, Nat.le_refl _⟩ (fun x134 M130 J131  hI132 h133 => ?_)
                  obtain ⟨hk135, h123, h124, h125, h126, h127, h128, h129⟩ := h133
                  have hK136 := hK85.tr hk135 rfl rfl rfl
                  have hK137 := hK86.tr hk135 rfl rfl rfl
                  have hz138 : M80 (a + 27) (M a 57) = M38 (a + 27) (M a 57) := ((hk84.getA rfl rfl rfl).trans (hk71.getA rfl rfl rfl))
                  refine q_istore_n C [.ref (w.2.1 + a), zi x70, zi x88, zi x134] dX12_expands_168 (n := 169) rfl rfl rfl ?_
                  refine q_iload_n C dX12_expands_169 (n := 170) rfl rfl ?_
                  refine q_if_lt C 183 dX12_expands_170 (n := 173) rfl rfl (by omega) (fun h139 => ?_) (fun h139 => ?_)
                  · refine q_aload_n C dX12_expands_183 (n := 184) rfl rfl ?_
                    refine q_iload_n C dX12_expands_184 (n := 185) rfl rfl ?_
                    have hp140 : zOg M130 a og lg := h44.cg (fun j => ((hk135.getA rfl rfl rfl).trans ((hk84.getA rfl rfl rfl).trans (hk71.getA rfl rfl rfl)))) (fun j => ((hk135.getA rfl rfl rfl).trans ((hk84.getA rfl rfl rfl).trans (hk71.getA rfl rfl rfl))))
                    refine q_callVv C dX12_expands_185 (n := 188) rfl m_X12_497 v_yX12_passes (zM0 h0) ⟨by decide, rfl⟩ (c_X12_passesV (w := w) (J := J131) hI132 hF h0 x70 h124 hp140 (by have hz : M130 a 57 = M38 a 57 := ((hk135.getS rfl rfl).trans ((hk84.getS rfl rfl).trans (hk71.getS rfl rfl))); omega) (by omega) h128 (zVt_ok h65 (by omega) ((hk135.getS rfl rfl).trans (hk84.getS rfl rfl)) ((hk135.getS rfl rfl).trans (hk84.getS rfl rfl)))) (Nat.le_of_ble_eq_true rfl) rfl rfl (Nat.le_of_ble_eq_true rfl) ⟨Nat.le_refl _, Nat.le_refl _⟩ (fun M144 J145  hI146 h147 => ?_)
                    obtain ⟨hk148, h141, h142, h143⟩ := h147
                    have hK149 := hK136.tr hk148 rfl rfl rfl
                    have hK150 := hK137.tr hk148 rfl rfl rfl
                    refine q_goto C 202 dX12_expands_188 rfl ?_
                    refine q_goto C 25 dX12_expands_202 rfl ?_
                    have hm151 := zMz_of h141
                    have hm152 : zMu M144 a n = zMu M130 a n := zMu_cg (fun j => (hk148.getA rfl rfl rfl)) (fun j => (hk148.getA rfl rfl rfl)) (fun j => (hk148.getA rfl rfl rfl)) (hk148.getS rfl rfl) (hk148.getS rfl rfl) (hk148.getS rfl rfl)
                    have gx153 := zX.num h141
                    have hz154 : M144 a 62 = M38 a 62 := ((hk148.getS rfl rfl).trans ((hk135.getS rfl rfl).trans ((hk84.getS rfl rfl).trans (hk71.getS rfl rfl))))
                    have hz155 : M144 a 57 = M38 a 57 := ((hk148.getS rfl rfl).trans ((hk135.getS rfl rfl).trans ((hk84.getS rfl rfl).trans (hk71.getS rfl rfl))))
                    have hz156 : M144 a 58 = M130 a 58 := (hk148.getS rfl rfl)
                    have hz157 : M144 a 59 = M38 a 59 := ((hk148.getS rfl rfl).trans ((hk135.getS rfl rfl).trans ((hk84.getS rfl rfl).trans (hk71.getS rfl rfl))))
                    have hz158 : M144 a 60 = M38 a 60 := ((hk148.getS rfl rfl).trans ((hk135.getS rfl rfl).trans ((hk84.getS rfl rfl).trans (hk71.getS rfl rfl))))
                    have hz159 : M144 a 25 = M38 a 25 := ((hk148.getS rfl rfl).trans ((hk135.getS rfl rfl).trans ((hk84.getS rfl rfl).trans (hk71.getS rfl rfl))))
                    have hz160 : M144 a 24 = M38 a 24 := ((hk148.getS rfl rfl).trans ((hk135.getS rfl rfl).trans ((hk84.getS rfl rfl).trans (hk71.getS rfl rfl))))
                    have hp161 : zMa M144 a mb mp := h45.cg (fun j j0 j1 => ((hk148.getA rfl rfl rfl).trans ((hk135.getA rfl rfl rfl).trans ((hk84.getA rfl rfl rfl).trans (hk71.getA rfl rfl rfl))))) (fun j => ((hk148.getA rfl rfl rfl).trans ((hk135.getA rfl rfl rfl).trans ((hk84.getA rfl rfl rfl).trans (hk71.getA rfl rfl rfl)))))
                    exact zK.weak (ih50 M144 J145 hI146 hK149 hK150 (Or.inr (zXs.mk h141 (by have hw : M144 a 59 = M38 a 59 := ((hk148.getS rfl rfl).trans ((hk135.getS rfl rfl).trans ((hk84.getS rfl rfl).trans (hk71.getS rfl rfl)))); omega))) h142 hp161 (by have hz162 : M144 (a + 18) 3 = M (a + 18) 3 := ((hk148.getA rfl rfl rfl).trans ((hk135.getA rfl rfl rfl).trans ((hk84.getA rfl rfl rfl).trans ((hk71.getA rfl rfl rfl).trans (h46))))); omega) h143 (by omega)) (zwk_c (zwk_n (zwk_n (zwk_n zwk_e))))
                  · refine q_aload_n C dX12_expands_173 (n := 174) rfl rfl ?_
                    refine q_iload_n C dX12_expands_174 (n := 175) rfl rfl ?_
                    refine q_bipush C dX12_expands_175 (n := 177) rfl (x := 40) (by decide) ?_
                    refine q_callVp C dX12_expands_177 (n := 180) rfl m_X12_406 v_yX12_isSign (zM0 h0) ⟨by decide, rfl⟩ (c_X12_isSign (w := w) (J := J131) hI132 hF h0 x134 40 (by omega) (by omega)) (Nat.le_of_ble_eq_true rfl) rfl rfl (Nat.le_of_ble_eq_true rfl) ⟨Nat.le_refl _, Nat.le_refl _⟩ (fun x166 h167 => ?_)
                    obtain ⟨h163, h164, h165⟩ := h167
                    have hz168 : M130 (a + 9) x134 = M38 (a + 9) x134 := ((hk135.getA rfl rfl rfl).trans ((hk84.getA rfl rfl rfl).trans (hk71.getA rfl rfl rfl)))
                    have hz169 : M130 (a + 11) x134 = M38 (a + 11) x134 := ((hk135.getA rfl rfl rfl).trans ((hk84.getA rfl rfl rfl).trans (hk71.getA rfl rfl rfl)))
                    refine q_if_ne C 191 dX12_expands_180 (n := 183) rfl rfl (by omega) (fun h170 => ?_) (fun h170 => ?_)
                    · have hp171 : zNx M130 a := h126.resolve_left (by omega)
                      refine q_aload_n C dX12_expands_191 (n := 192) rfl rfl ?_
                      refine q_iload_n C dX12_expands_192 (n := 193) rfl rfl ?_
                      refine q_iload_n C dX12_expands_193 (n := 194) rfl rfl ?_
                      have gx172 := zX.num h124
                      have hz173 : M130 a 62 = M38 a 62 := ((hk135.getS rfl rfl).trans ((hk84.getS rfl rfl).trans (hk71.getS rfl rfl)))
                      have hz174 : M130 a 57 = M38 a 57 := ((hk135.getS rfl rfl).trans ((hk84.getS rfl rfl).trans (hk71.getS rfl rfl)))
                      have hz175 : M130 a 59 = M38 a 59 := ((hk135.getS rfl rfl).trans ((hk84.getS rfl rfl).trans (hk71.getS rfl rfl)))
                      have hz176 : M130 a 60 = M38 a 60 := ((hk135.getS rfl rfl).trans ((hk84.getS rfl rfl).trans (hk71.getS rfl rfl)))
                      have hz177 : M130 a 26 = M38 a 26 := ((hk135.getS rfl rfl).trans ((hk84.getS rfl rfl).trans (hk71.getS rfl rfl)))
                      have hz178 : M130 a 25 = M38 a 25 := ((hk135.getS rfl rfl).trans ((hk84.getS rfl rfl).trans (hk71.getS rfl rfl)))
                      have hz179 : M130 a 24 = M38 a 24 := ((hk135.getS rfl rfl).trans ((hk84.getS rfl rfl).trans (hk71.getS rfl rfl)))
                      have hz180 : M130 a 61 = M38 a 61 := ((hk135.getS rfl rfl).trans ((hk84.getS rfl rfl).trans (hk71.getS rfl rfl)))
                      have hv181 : zV M130 a wt 0 := U_drop h128
                      have hp183 : zMa M130 a mb mp := h45.cg (fun j j0 j1 => ((hk135.getA rfl rfl rfl).trans ((hk84.getA rfl rfl rfl).trans (hk71.getA rfl rfl rfl)))) (fun j => ((hk135.getA rfl rfl rfl).trans ((hk84.getA rfl rfl rfl).trans (hk71.getA rfl rfl rfl))))
                      refine q_callVi C dX12_expands_194 (n := 197) rfl m_X12_506 v_yX12_calls (zM0 h0) ⟨by decide, rfl⟩ (c_X12_callsV (w := w) (J := J131) hI132 hF h0 x70 x88 (M38 a 57) h124 (by have hz182 : M130 a 57 = M38 a 57 := ((hk135.getS rfl rfl).trans ((hk84.getS rfl rfl).trans (hk71.getS rfl rfl))); omega) hp183 (by have hz184 : M130 a 59 = M38 a 59 := ((hk135.getS rfl rfl).trans ((hk84.getS rfl rfl).trans (hk71.getS rfl rfl))); omega) hp171 (by omega) (by omega) hv181 (by have hz185 : M130 a 57 = M38 a 57 := ((hk135.getS rfl rfl).trans ((hk84.getS rfl rfl).trans (hk71.getS rfl rfl))); have hz186 : M130 (a + 28) 0 = M38 (a + 28) 0 := ((hk135.getA rfl rfl rfl).trans ((hk84.getA rfl rfl rfl).trans (hk71.getA rfl rfl rfl))); omega)) (Nat.le_of_ble_eq_true rfl) rfl rfl (Nat.le_of_ble_eq_true rfl) ⟨Nat.le_refl _, Nat.le_refl _⟩ (fun x197 M193 J194  hI195 h196 => ?_)
                      obtain ⟨hk198, h187, h188, h189, h190, h191, h192⟩ := h196
                      have hK199 := hK136.tr hk198 rfl rfl rfl
                      have hK200 := hK137.tr hk198 rfl rfl rfl
                      have hz201 : M130 (a + 18) 3 = M (a + 18) 3 := ((hk135.getA rfl rfl rfl).trans ((hk84.getA rfl rfl rfl).trans ((hk71.getA rfl rfl rfl).trans (h46))))
                      refine q_if_ne C 202 dX12_expands_197 (n := 200) rfl rfl (by omega) (fun h202 => ?_) (fun h202 => ?_)
                      · refine q_goto C 25 dX12_expands_202 rfl ?_
                        have hm203 := zMz_of (h188.resolve_left (by omega))
                        have hm204 := h189.resolve_left (by omega)
                        have hp205 : zOg M193 a og lg := h44.cg (fun j => ((hk198.getA rfl rfl rfl).trans ((hk135.getA rfl rfl rfl).trans ((hk84.getA rfl rfl rfl).trans (hk71.getA rfl rfl rfl))))) (fun j => ((hk198.getA rfl rfl rfl).trans ((hk135.getA rfl rfl rfl).trans ((hk84.getA rfl rfl rfl).trans (hk71.getA rfl rfl rfl)))))
                        exact zK.weak (ih50 M193 J194 hI195 hK199 hK200 (Or.inr (zXs.mk (h188.resolve_left (by omega)) rfl)) hp205 h190 (by have hz206 : M193 (a + 18) 3 = M (a + 18) 3 := ((h191).trans ((hk135.getA rfl rfl rfl).trans ((hk84.getA rfl rfl rfl).trans ((hk71.getA rfl rfl rfl).trans (h46))))); omega) (h192.resolve_left (by omega)) (by omega)) (zwk_c (zwk_n (zwk_n (zwk_n zwk_e))))
                      · refine q_iconst C dX12_expands_200 (n := 201) rfl ?_
                        have hp207 : zOg M193 a og lg := h44.cg (fun j => ((hk198.getA rfl rfl rfl).trans ((hk135.getA rfl rfl rfl).trans ((hk84.getA rfl rfl rfl).trans (hk71.getA rfl rfl rfl))))) (fun j => ((hk198.getA rfl rfl rfl).trans ((hk135.getA rfl rfl rfl).trans ((hk84.getA rfl rfl rfl).trans (hk71.getA rfl rfl rfl)))))
                        exact q_zret C dX12_expands_201 ⟨rfl, rfl⟩ (by omega) (by rw [hPo]; exact ⟨0, M193, J194, rfl, rfl, hI195, hK199, by omega, hp207, h190, by have hz208 : M193 a 61 = M38 a 61 := ((hk198.getS rfl rfl).trans ((hk135.getS rfl rfl).trans ((hk84.getS rfl rfl).trans (hk71.getS rfl rfl)))); omega, by have hz209 : M193 (a + 18) 3 = M (a + 18) 3 := ((h191).trans ((hk135.getA rfl rfl rfl).trans ((hk84.getA rfl rfl rfl).trans ((hk71.getA rfl rfl rfl).trans (h46))))); omega, (Or.inl (by omega))⟩)
                    · refine q_aload_n C dX12_expands_183 (n := 184) rfl rfl ?_
                      refine q_iload_n C dX12_expands_184 (n := 185) rfl rfl ?_
                      have hp210 : zOg M130 a og lg := h44.cg (fun j => ((hk135.getA rfl rfl rfl).trans ((hk84.getA rfl rfl rfl).trans (hk71.getA rfl rfl rfl)))) (fun j => ((hk135.getA rfl rfl rfl).trans ((hk84.getA rfl rfl rfl).trans (hk71.getA rfl rfl rfl))))
                      refine q_callVv C dX12_expands_185 (n := 188) rfl m_X12_497 v_yX12_passes (zM0 h0) ⟨by decide, rfl⟩ (c_X12_passesV (w := w) (J := J131) hI132 hF h0 x70 h124 hp210 (by have hz : M130 a 57 = M38 a 57 := ((hk135.getS rfl rfl).trans ((hk84.getS rfl rfl).trans (hk71.getS rfl rfl))); omega) (by omega) h128 (zVt_ok h65 (by omega) ((hk135.getS rfl rfl).trans (hk84.getS rfl rfl)) ((hk135.getS rfl rfl).trans (hk84.getS rfl rfl)))) (Nat.le_of_ble_eq_true rfl) rfl rfl (Nat.le_of_ble_eq_true rfl) ⟨Nat.le_refl _, Nat.le_refl _⟩ (fun M214 J215  hI216 h217 => ?_)
                      obtain ⟨hk218, h211, h212, h213⟩ := h217
                      have hK219 := hK136.tr hk218 rfl rfl rfl
                      have hK220 := hK137.tr hk218 rfl rfl rfl
                      refine q_goto C 202 dX12_expands_188 rfl ?_
                      refine q_goto C 25 dX12_expands_202 rfl ?_
                      have hm221 := zMz_of h211
                      have hm222 : zMu M214 a n = zMu M130 a n := zMu_cg (fun j => (hk218.getA rfl rfl rfl)) (fun j => (hk218.getA rfl rfl rfl)) (fun j => (hk218.getA rfl rfl rfl)) (hk218.getS rfl rfl) (hk218.getS rfl rfl) (hk218.getS rfl rfl)
                      have gx223 := zX.num h211
                      have hz224 : M214 a 62 = M38 a 62 := ((hk218.getS rfl rfl).trans ((hk135.getS rfl rfl).trans ((hk84.getS rfl rfl).trans (hk71.getS rfl rfl))))
                      have hz225 : M214 a 57 = M38 a 57 := ((hk218.getS rfl rfl).trans ((hk135.getS rfl rfl).trans ((hk84.getS rfl rfl).trans (hk71.getS rfl rfl))))
                      have hz226 : M214 a 58 = M130 a 58 := (hk218.getS rfl rfl)
                      have hz227 : M214 a 59 = M38 a 59 := ((hk218.getS rfl rfl).trans ((hk135.getS rfl rfl).trans ((hk84.getS rfl rfl).trans (hk71.getS rfl rfl))))
                      have hz228 : M214 a 60 = M38 a 60 := ((hk218.getS rfl rfl).trans ((hk135.getS rfl rfl).trans ((hk84.getS rfl rfl).trans (hk71.getS rfl rfl))))
                      have hz229 : M214 a 25 = M38 a 25 := ((hk218.getS rfl rfl).trans ((hk135.getS rfl rfl).trans ((hk84.getS rfl rfl).trans (hk71.getS rfl rfl))))
                      have hz230 : M214 a 24 = M38 a 24 := ((hk218.getS rfl rfl).trans ((hk135.getS rfl rfl).trans ((hk84.getS rfl rfl).trans (hk71.getS rfl rfl))))
                      have hp231 : zMa M214 a mb mp := h45.cg (fun j j0 j1 => ((hk218.getA rfl rfl rfl).trans ((hk135.getA rfl rfl rfl).trans ((hk84.getA rfl rfl rfl).trans (hk71.getA rfl rfl rfl))))) (fun j => ((hk218.getA rfl rfl rfl).trans ((hk135.getA rfl rfl rfl).trans ((hk84.getA rfl rfl rfl).trans (hk71.getA rfl rfl rfl)))))
                      exact zK.weak (ih50 M214 J215 hI216 hK219 hK220 (Or.inr (zXs.mk h211 (by have hw : M214 a 59 = M38 a 59 := ((hk218.getS rfl rfl).trans ((hk135.getS rfl rfl).trans ((hk84.getS rfl rfl).trans (hk71.getS rfl rfl)))); omega))) h212 hp231 (by have hz232 : M214 (a + 18) 3 = M (a + 18) 3 := ((hk218.getA rfl rfl rfl).trans ((hk135.getA rfl rfl rfl).trans ((hk84.getA rfl rfl rfl).trans ((hk71.getA rfl rfl rfl).trans (h46))))); omega) h213 (by omega)) (zwk_c (zwk_n (zwk_n (zwk_n zwk_e))))
                · refine q_aload_n C dX12_expands_134 (n := 135) rfl rfl ?_
                  refine q_getR C dX12_expands_135 (n := 138) rfl f_X12_110 (zM0 h0) (hF _ _ _ (zM109 h0)) ?_
                  refine q_aload_n C dX12_expands_138 (n := 139) rfl rfl ?_
                  refine q_getI C dX12_expands_139 (n := 142) rfl f_X12_448 (zM0 h0) (v := M38 a 57) ((hk84.getS rfl rfl).trans (hk71.getS rfl rfl)) ?_
                  refine q_aload_n C dX12_expands_142 (n := 143) rfl rfl ?_
                  have g233 := zI.at hI40 (zM144 h0)
                  refine q_getI C dX12_expands_143 (n := 146) rfl f_X12_500 (zM0 h0) (v := M38 a 59) ((hk84.getS rfl rfl).trans (hk71.getS rfl rfl)) ?_
                  refine q_iast C dX12_expands_146 (n := 147) rfl (zM110 h0) (by omega)  (fun M234 e235 => ?_)
                  have hI236 : zI G M234 := hI82.put e235 ((zM111 h0) (M38 a 57)) rfl (by omega)
                  have hK237 := hK85.upA e235 rfl
                  have hK238 := hK86.upA e235 rfl
                  have hz239 : M80 a 62 = M38 a 62 := ((hk84.getS rfl rfl).trans (hk71.getS rfl rfl))
                  have hz240 : M80 a 57 = M38 a 57 := ((hk84.getS rfl rfl).trans (hk71.getS rfl rfl))
                  have hz241 : M80 a 58 = M66 a 58 := (hk84.getS rfl rfl)
                  have hz242 : M80 a 59 = M38 a 59 := ((hk84.getS rfl rfl).trans (hk71.getS rfl rfl))
                  have hz243 : M80 a 60 = M38 a 60 := ((hk84.getS rfl rfl).trans (hk71.getS rfl rfl))
                  have hz244 : M80 a 26 = M38 a 26 := ((hk84.getS rfl rfl).trans (hk71.getS rfl rfl))
                  have hz245 : M80 a 25 = M38 a 25 := ((hk84.getS rfl rfl).trans (hk71.getS rfl rfl))
                  have hz246 : M80 a 24 = M38 a 24 := ((hk84.getS rfl rfl).trans (hk71.getS rfl rfl))
                  have hz247 : M80 a 61 = M38 a 61 := ((hk84.getS rfl rfl).trans (hk71.getS rfl rfl))
                  have hx248 : zX M234 a mb mp n (M38 a 59) (0 + 1) 0 0 := zY.cgr (Y_ca h77 (by omega) (x := M38 a 59)) (zup_p e235 (by omega) _) (zup_p e235 (by omega) _) (zup_p e235 (by omega) _) (zup_p e235 (by omega) _) (zup_p e235 (by omega) _) (zup_p e235 (by omega) _) (zup_p e235 (by omega) _) (zup_p e235 (by omega) _) (zup_p e235 (by omega) _) (funext fun j => (zup_p e235 (by omega) _)) (funext fun j => (zup_p e235 (by omega) _)) (funext fun j => (zup_p e235 (by omega) _)) (funext fun j => (zup_p e235 (by omega) _)) (funext fun j => (zup_p e235 (by omega) _)) (funext fun j => (zup_p e235 (by omega) _)) (funext fun j => by by_cases q : j = (M80 a 57); (rw [q, yup_s]; rw [show (M80 a 57) = M38 a 57 by omega]; have hw : M234 (a + 32) (M38 a 57) = M38 a 59 := (zup_e e235 (by omega)); have hv : M80 (a + 32) (M38 a 57) = M38 (a + 32) (M38 a 57) := ((hk84.getA rfl rfl rfl).trans (hk71.getA rfl rfl rfl)); omega); (rw [yup_n q]; exact (zup_n e235 (by omega)))) (funext fun j => (zup_p e235 (by omega) _)) (funext fun j => (zup_p e235 (by omega) _)) (funext fun j => (zup_p e235 (by omega) _)) (funext fun j => (zup_p e235 (by omega) _)) (funext fun j => (zup_p e235 (by omega) _)) (funext fun j => (zup_p e235 (by omega) _))
                  have hp249 : zMa M234 a mb mp := h45.cg (fun j j0 j1 => ((zup_p e235 (by omega) _).trans ((hk84.getA rfl rfl rfl).trans (hk71.getA rfl rfl rfl)))) (fun j => ((zup_p e235 (by omega) _).trans ((hk84.getA rfl rfl rfl).trans (hk71.getA rfl rfl rfl))))
                  have gw2 := zMa.w hp249 (m := x88) (by omega) (by omega)
                  have hz251 : M234 (a + 18) (199 + x88) = M38 (a + 18) (199 + x88) := ((zup_p e235 (by omega) _).trans ((hk84.getA rfl rfl rfl).trans (hk71.getA rfl rfl rfl)))
                  have hp250 : zAg M234 a mp (M38 a 57) (M38 a 59) x88 := fun p p0 p1 => by exfalso; omega
                  refine q_aload_n C dX12_expands_147 (n := 148) rfl rfl ?_
                  refine q_iload_n C dX12_expands_148 (n := 149) rfl rfl ?_
                  refine q_iload_n C dX12_expands_149 (n := 150) rfl rfl ?_
                  refine q_aload_n C dX12_expands_150 (n := 151) rfl rfl ?_
                  refine q_getR C dX12_expands_151 (n := 154) rfl f_X12_58 (zM0 h0) (hF _ _ _ (zM49 h0)) ?_
                  refine q_iload_n C dX12_expands_154 (n := 155) rfl rfl ?_
                  refine q_iald C dX12_expands_155 (n := 156) rfl (zM50 h0) (by omega) (v := M38 (a + 15) x70) ((zup_p e235 (by omega) _).trans ((hk84.getA rfl rfl rfl).trans (hk71.getA rfl rfl rfl))) ?_
                  have hm252 : zMu M234 a n = zMu M80 a n := zMu_cg (fun j => (zup_p e235 (by omega) _)) (fun j => (zup_p e235 (by omega) _)) (fun j => (zup_p e235 (by omega) _)) (zup_p e235 (by omega) _) (zup_p e235 (by omega) _) (zup_p e235 (by omega) _)
                  have gx253 := zX.num hx248
                  have hz254 : M234 a 62 = M38 a 62 := ((zup_p e235 (by omega) _).trans ((hk84.getS rfl rfl).trans (hk71.getS rfl rfl)))
                  have hz255 : M234 a 57 = M38 a 57 := ((zup_p e235 (by omega) _).trans ((hk84.getS rfl rfl).trans (hk71.getS rfl rfl)))
                  have hz256 : M234 a 58 = M66 a 58 := ((zup_p e235 (by omega) _).trans (hk84.getS rfl rfl))
                  have hz257 : M234 a 59 = M38 a 59 := ((zup_p e235 (by omega) _).trans ((hk84.getS rfl rfl).trans (hk71.getS rfl rfl)))
                  have hz258 : M234 a 60 = M38 a 60 := ((zup_p e235 (by omega) _).trans ((hk84.getS rfl rfl).trans (hk71.getS rfl rfl)))
                  have hz259 : M234 a 26 = M38 a 26 := ((zup_p e235 (by omega) _).trans ((hk84.getS rfl rfl).trans (hk71.getS rfl rfl)))
                  have hz260 : M234 a 25 = M38 a 25 := ((zup_p e235 (by omega) _).trans ((hk84.getS rfl rfl).trans (hk71.getS rfl rfl)))
                  have hz261 : M234 a 24 = M38 a 24 := ((zup_p e235 (by omega) _).trans ((hk84.getS rfl rfl).trans (hk71.getS rfl rfl)))
                  have hz262 : M234 a 61 = M38 a 61 := ((zup_p e235 (by omega) _).trans ((hk84.getS rfl rfl).trans (hk71.getS rfl rfl)))
                  have hp263 : zV M234 a wt (zVt M66 a wt) := h79.cg (zup_p e235 (by omega) _) (zup_p e235 (by omega) _) (zup_p e235 (by omega) _) (zup_p e235 (by omega) _) (zup_p e235 (by omega) _) (fun j => (zup_p e235 (by omega) _)) (fun j => (zup_p e235 (by omega) _)) (fun j => (zup_p e235 (by omega) _)) (fun j => (zup_p e235 (by omega) _)) (fun j => (zup_p e235 (by omega) _)) (fun j => (zup_p e235 (by omega) _))
                  have hv264 : zV M234 a wt 0 := U_drop hp263
                  refine q_callVi C dX12_expands_156 (n := 159) rfl m_X12_503 v_yX12_begins (zM0 h0) ⟨by decide, rfl⟩ (c_X12_beginsV (w := w) (J := J81) hI236 hF h0 x70 x88 (M38 (a + 15) x70) (M38 a 57) hx248 (by have hz265 : M234 a 57 = M38 a 57 := ((zup_p e235 (by omega) _).trans ((hk84.getS rfl rfl).trans (hk71.getS rfl rfl))); omega) (by omega) (by have hz266 : M234 (a + 32) (M38 a 57) = M38 a 59 := ((show _ from by rw [show ((M38 a 57) : Int) = M38 a 57 by omega]; exact zup_s e235)); omega) (by omega) (by omega) (by omega) hp250 hp249 hv264 (by have hz267 : M234 a 57 = M38 a 57 := ((zup_p e235 (by omega) _).trans ((hk84.getS rfl rfl).trans (hk71.getS rfl rfl))); have hz268 : M234 (a + 28) 0 = M38 (a + 28) 0 := ((zup_p e235 (by omega) _).trans ((hk84.getA rfl rfl rfl).trans (hk71.getA rfl rfl rfl))); omega)) (Nat.le_of_ble_eq_true rfl) rfl rfl (Nat.le_of_ble_eq_true rfl) ⟨Nat.le_refl _, Nat.le_refl _⟩ (fun x279 M275 J276  hI277 h278 => ?_)
                  obtain ⟨hk280, h269, h270, h271, h272, h273, h274⟩ := h278
                  have hK281 := hK237.tr hk280 rfl rfl rfl
                  have hK282 := hK238.tr hk280 rfl rfl rfl
                  have hz283 : M234 a 59 = M38 a 59 := ((zup_p e235 (by omega) _).trans ((hk84.getS rfl rfl).trans (hk71.getS rfl rfl)))
                  have hz284 : M234 a n = M80 a n := (zup_p e235 (by omega) _)
                  have hz285 : M234 (a + 18) 3 = M (a + 18) 3 := ((zup_p e235 (by omega) _).trans ((hk84.getA rfl rfl rfl).trans ((hk71.getA rfl rfl rfl).trans (h46))))
                  refine q_if_ne C 202 dX12_expands_159 (n := 162) rfl rfl (by omega) (fun h286 => ?_) (fun h286 => ?_)
                  · refine q_goto C 25 dX12_expands_202 rfl ?_
                    have hm287 := zMz_of (h270.resolve_left (by omega))
                    have hm288 := h271.resolve_left (by omega)
                    have hp289 : zOg M275 a og lg := h44.cg (fun j => ((hk280.getA rfl rfl rfl).trans ((zup_p e235 (by omega) _).trans ((hk84.getA rfl rfl rfl).trans (hk71.getA rfl rfl rfl))))) (fun j => ((hk280.getA rfl rfl rfl).trans ((zup_p e235 (by omega) _).trans ((hk84.getA rfl rfl rfl).trans (hk71.getA rfl rfl rfl)))))
                    exact zK.weak (ih50 M275 J276 hI277 hK281 hK282 (Or.inr (zXs.mk (h270.resolve_left (by omega)) (show M234 a 59 = M275 a 59 from ((hk280.getS rfl rfl)).symm))) hp289 h272 (by have hz290 : M275 (a + 18) 3 = M (a + 18) 3 := ((h273).trans ((zup_p e235 (by omega) _).trans ((hk84.getA rfl rfl rfl).trans ((hk71.getA rfl rfl rfl).trans (h46))))); omega) (h274.resolve_left (by omega)) (by omega)) (zwk_c (zwk_n (zwk_n (zwk_n zwk_e))))
                  · refine q_iconst C dX12_expands_162 (n := 163) rfl ?_
                    have hp291 : zOg M275 a og lg := h44.cg (fun j => ((hk280.getA rfl rfl rfl).trans ((zup_p e235 (by omega) _).trans ((hk84.getA rfl rfl rfl).trans (hk71.getA rfl rfl rfl))))) (fun j => ((hk280.getA rfl rfl rfl).trans ((zup_p e235 (by omega) _).trans ((hk84.getA rfl rfl rfl).trans (hk71.getA rfl rfl rfl)))))
                    exact q_zret C dX12_expands_163 ⟨rfl, rfl⟩ (by omega) (by rw [hPo]; exact ⟨0, M275, J276, rfl, rfl, hI277, hK281, by omega, hp291, h272, by have hz292 : M275 a 61 = M38 a 61 := ((hk280.getS rfl rfl).trans ((zup_p e235 (by omega) _).trans ((hk84.getS rfl rfl).trans (hk71.getS rfl rfl)))); omega, by have hz293 : M275 (a + 18) 3 = M (a + 18) 3 := ((h273).trans ((zup_p e235 (by omega) _).trans ((hk84.getA rfl rfl rfl).trans ((hk71.getA rfl rfl rfl).trans (h46))))); omega, (Or.inl (by omega))⟩)
              · refine q_aload_n C dX12_expands_113 (n := 114) rfl rfl ?_
                refine q_iload_n C dX12_expands_114 (n := 115) rfl rfl ?_
                have hp294 : zOg M80 a og lg := h44.cg (fun j => ((hk84.getA rfl rfl rfl).trans (hk71.getA rfl rfl rfl))) (fun j => ((hk84.getA rfl rfl rfl).trans (hk71.getA rfl rfl rfl)))
                refine q_callVv C dX12_expands_115 (n := 118) rfl m_X12_497 v_yX12_passes (zM0 h0) ⟨by decide, rfl⟩ (c_X12_passesV (w := w) (J := J81) hI82 hF h0 x70 h77 hp294 (by have hz : M80 a 57 = M38 a 57 := ((hk84.getS rfl rfl).trans (hk71.getS rfl rfl)); omega) (by omega) h79 (zVt_ok h65 (by omega) (hk84.getS rfl rfl) (hk84.getS rfl rfl))) (Nat.le_of_ble_eq_true rfl) rfl rfl (Nat.le_of_ble_eq_true rfl) ⟨Nat.le_refl _, Nat.le_refl _⟩ (fun M298 J299  hI300 h301 => ?_)
                obtain ⟨hk302, h295, h296, h297⟩ := h301
                have hK303 := hK85.tr hk302 rfl rfl rfl
                have hK304 := hK86.tr hk302 rfl rfl rfl
                refine q_goto C 202 dX12_expands_118 rfl ?_
                refine q_goto C 25 dX12_expands_202 rfl ?_
                have hm305 := zMz_of h295
                have hm306 : zMu M298 a n = zMu M80 a n := zMu_cg (fun j => (hk302.getA rfl rfl rfl)) (fun j => (hk302.getA rfl rfl rfl)) (fun j => (hk302.getA rfl rfl rfl)) (hk302.getS rfl rfl) (hk302.getS rfl rfl) (hk302.getS rfl rfl)
                have gx307 := zX.num h295
                have hz308 : M298 a 62 = M38 a 62 := ((hk302.getS rfl rfl).trans ((hk84.getS rfl rfl).trans (hk71.getS rfl rfl)))
                have hz309 : M298 a 57 = M38 a 57 := ((hk302.getS rfl rfl).trans ((hk84.getS rfl rfl).trans (hk71.getS rfl rfl)))
                have hz310 : M298 a 58 = M66 a 58 := ((hk302.getS rfl rfl).trans (hk84.getS rfl rfl))
                have hz311 : M298 a 59 = M38 a 59 := ((hk302.getS rfl rfl).trans ((hk84.getS rfl rfl).trans (hk71.getS rfl rfl)))
                have hz312 : M298 a 60 = M38 a 60 := ((hk302.getS rfl rfl).trans ((hk84.getS rfl rfl).trans (hk71.getS rfl rfl)))
                have hz313 : M298 a 25 = M38 a 25 := ((hk302.getS rfl rfl).trans ((hk84.getS rfl rfl).trans (hk71.getS rfl rfl)))
                have hz314 : M298 a 24 = M38 a 24 := ((hk302.getS rfl rfl).trans ((hk84.getS rfl rfl).trans (hk71.getS rfl rfl)))
                have hp315 : zMa M298 a mb mp := h45.cg (fun j j0 j1 => ((hk302.getA rfl rfl rfl).trans ((hk84.getA rfl rfl rfl).trans (hk71.getA rfl rfl rfl)))) (fun j => ((hk302.getA rfl rfl rfl).trans ((hk84.getA rfl rfl rfl).trans (hk71.getA rfl rfl rfl))))
                exact zK.weak (ih50 M298 J299 hI300 hK303 hK304 (Or.inr (zXs.mk h295 (by have hw : M298 a 59 = M38 a 59 := ((hk302.getS rfl rfl).trans ((hk84.getS rfl rfl).trans (hk71.getS rfl rfl))); omega))) h296 hp315 (by have hz316 : M298 (a + 18) 3 = M (a + 18) 3 := ((hk302.getA rfl rfl rfl).trans ((hk84.getA rfl rfl rfl).trans ((hk71.getA rfl rfl rfl).trans (h46)))); omega) h297 (by omega)) (zwk_c (zwk_n (zwk_n (zwk_n zwk_e))))
          · refine q_aload_n C dX12_expands_62 (n := 63) rfl rfl ?_
            refine q_dup C dX12_expands_63 (n := 64) rfl rfl ?_
            refine q_getI C dX12_expands_64 (n := 67) rfl f_X12_448 (zM0 h0) (v := M38 a 57) (hk71.getS rfl rfl) ?_
            refine q_iconst C dX12_expands_67 (n := 68) rfl ?_
            refine q_isub C dX12_expands_68 (n := 69) rfl (v := (M38 a 57) - 1) rfl ?_
            refine q_putI C dX12_expands_69 (n := 72) rfl f_X12_448 (zM0 h0) ⟨rfl, rfl⟩ (fun M317 (e318 : M317 = zup M66 a 57 ((M38 a 57) - 1)) => ?_)
            have hI319 : zI G M317 := hI68.put e318 (zM142 h0) rfl (by omega)
            have hK320 := hK72.upS e318 rfl
            have hK321 := hK73.upS e318 rfl
            have hv58 := h63.resolve_left (fun q => by omega)
            have hvq1 : M66 (a + 27) (M66 a 57) = M38 (a + 27) (M38 a 57) := by rw [show M66 a 57 = M38 a 57 from (hk71.getS rfl rfl)]; exact (hk71.getA rfl rfl rfl)
            have hvst : M66 a 58 = M66 (a + 27) (M66 a 57) := by rw [hvq1]; exact hv58
            have hz322 : M66 a 57 = M38 a 57 := (hk71.getS rfl rfl)
            have hz323 : M66 a 65 = M a 65 := ((hk71.getS rfl rfl).trans ((hK42.getS rfl rfl).trans ((zup_n e36 (by omega)).trans ((zup_p e34 (by omega) _).trans ((zup_p e32 (by omega) _).trans ((zup_p e30 (by omega) _).trans ((zup_p e17 (by omega) _).trans ((zup_p e15 (by omega) _).trans (zup_n e2 (by omega))))))))))
            have hz324 : M66 a 57 = M38 a 57 := (hk71.getS rfl rfl)
            have hz325 : M66 a 61 = M38 a 61 := (hk71.getS rfl rfl)
            have hz326 : M66 a 62 = M38 a 62 := (hk71.getS rfl rfl)
            have hv327 : zV M317 a wt 0 := zU.cgr (U_close h64 (by omega) hvst) (zup_n e318 (by omega)) (by have hw : M317 a 57 = (M38 a 57) - 1 := (zup_s e318); omega) (zup_n e318 (by omega)) (zup_n e318 (by omega)) (zup_n e318 (by omega)) (funext fun j => (zup_p e318 (by omega) _)) (funext fun j => (zup_p e318 (by omega) _)) (funext fun j => (zup_p e318 (by omega) _)) (funext fun j => (zup_p e318 (by omega) _)) (funext fun j => (zup_p e318 (by omega) _)) (funext fun j => (zup_p e318 (by omega) _))
            refine q_aload_n C dX12_expands_72 (n := 73) rfl rfl ?_
            refine q_getI C dX12_expands_73 (n := 76) rfl f_X12_448 (zM0 h0) (v := (M38 a 57) - 1) (zup_s e318) ?_
            refine q_if_lt C 25 dX12_expands_76 (n := 79) rfl rfl (by omega) (fun h328 => ?_) (fun h328 => ?_)
            · have hm329 := zMz_neg (M := M317) (a := a) (by have hw : M317 a 57 = (M38 a 57) - 1 := (zup_s e318); omega)
              have hp330 : zOg M317 a og lg := h44.cg (fun j => ((zup_p e318 (by omega) _).trans (hk71.getA rfl rfl rfl))) (fun j => ((zup_p e318 (by omega) _).trans (hk71.getA rfl rfl rfl)))
              have hp331 : zMa M317 a mb mp := h45.cg (fun j j0 j1 => ((zup_p e318 (by omega) _).trans (hk71.getA rfl rfl rfl))) (fun j => ((zup_p e318 (by omega) _).trans (hk71.getA rfl rfl rfl)))
              exact zK.weak (ih50 M317 J67 hI319 hK320 hK321 (Or.inl (by have hw : M317 a 57 = (M38 a 57) - 1 := (zup_s e318); have hv : M317 a 61 = M38 a 61 := ((zup_n e318 (by omega)).trans (hk71.getS rfl rfl)); omega)) hp330 hp331 (by have hz332 : M317 (a + 18) 3 = M (a + 18) 3 := ((zup_p e318 (by omega) _).trans ((hk71.getA rfl rfl rfl).trans (h46))); omega) hv327 (by omega)) (zwk_c (zwk_n (zwk_n (zwk_n zwk_e))))
            · have hz333 : M66 (a + 27) (M38 a 57) = M38 (a + 27) (M38 a 57) := (hk71.getA rfl rfl rfl)
              have hp58 := h63.resolve_left (fun q => by omega)
              have hq1 : M66 (a + 27) (M66 a 57) = M38 (a + 27) (M38 a 57) := by rw [show M66 a 57 = M38 a 57 from (hk71.getS rfl rfl)]; exact (hk71.getA rfl rfl rfl)
              have hst : M66 a 58 = M66 (a + 27) (M66 a 57) := by rw [hq1]; exact hp58
              have hz334 : M66 a 57 = M38 a 57 := (hk71.getS rfl rfl)
              have gv := zX.clv h60 (f := (M38 a 57) - 1) (by omega) (by omega) (by omega)
              have gpl := zX.pcl h60 (f := (M38 a 57) - 1) (by omega) (by omega) (by omega)
              have gq0 := zX.q3 h60 (f := (M38 a 57) - 1) (by omega) (by omega)
              have hz335 : M66 (a + 28) ((M38 a 57) - 1) = M38 (a + 28) ((M38 a 57) - 1) := (hk71.getA rfl rfl rfl)
              have hz336 : M66 (a + 31) ((M38 a 57) - 1) = M38 (a + 31) ((M38 a 57) - 1) := (hk71.getA rfl rfl rfl)
              have hz337 : M66 (a + 34) ((M38 a 57) - 1) = M38 (a + 34) ((M38 a 57) - 1) := (hk71.getA rfl rfl rfl)
              have hz338 : M66 a 60 = M38 a 60 := (hk71.getS rfl rfl)
              have hz339 : M66 a 62 = M38 a 62 := (hk71.getS rfl rfl)
              have hz340 : M66 a 57 = M38 a 57 := (hk71.getS rfl rfl)
              have hz341 : M66 a 59 = M38 a 59 := (hk71.getS rfl rfl)
              have hz342 : M66 a 60 = M38 a 60 := (hk71.getS rfl rfl)
              have hz343 : M66 a 26 = M38 a 26 := (hk71.getS rfl rfl)
              have hz344 : M66 a 25 = M38 a 25 := (hk71.getS rfl rfl)
              have hz345 : M66 a 24 = M38 a 24 := (hk71.getS rfl rfl)
              have hz346 : M66 a 61 = M38 a 61 := (hk71.getS rfl rfl)
              have hx347 : zX M317 a mb mp n (M38 a 59) 0 0 0 := zY.cgr (Y_close h60 (by omega) (by omega) hst (by omega)) (zup_n e318 (by omega)) (by have hw : M317 a 57 = (M38 a 57) - 1 := (zup_s e318); omega) (zup_n e318 (by omega)) (zup_n e318 (by omega)) (zup_n e318 (by omega)) (zup_n e318 (by omega)) (zup_n e318 (by omega)) (zup_n e318 (by omega)) (zup_n e318 (by omega)) (funext fun j => (zup_p e318 (by omega) _)) (funext fun j => (zup_p e318 (by omega) _)) (funext fun j => (zup_p e318 (by omega) _)) (funext fun j => (zup_p e318 (by omega) _)) (funext fun j => (zup_p e318 (by omega) _)) (funext fun j => (zup_p e318 (by omega) _)) (funext fun j => (zup_p e318 (by omega) _)) (funext fun j => (zup_p e318 (by omega) _)) (funext fun j => (zup_p e318 (by omega) _)) (funext fun j => (zup_p e318 (by omega) _)) (funext fun j => (zup_p e318 (by omega) _)) (funext fun j => (zup_p e318 (by omega) _)) (funext fun j => (zup_p e318 (by omega) _))
              have hm348 : zMu M317 a n = zMu M66 a n - 1 := zMu_close (fun j => (zup_p e318 (by omega) _)) (fun j => (zup_p e318 (by omega) _)) (fun j => (zup_p e318 (by omega) _)) (by have hw : M317 a 57 = (M38 a 57) - 1 := (zup_s e318); have hv : M66 a 57 = M38 a 57 := (hk71.getS rfl rfl); omega) (zup_n e318 (by omega)) (zup_n e318 (by omega))
              have gcl := zX.clz hx347 (f := (M38 a 57) - 1) (zup_s e318) (by omega)
              have gq3 := zX.q3 hx347 (f := (M38 a 57) - 1) (by omega) (by omega)
              have hz349 : M317 (a + 28) ((M38 a 57) - 1) = M38 (a + 28) ((M38 a 57) - 1) := ((zup_p e318 (by omega) _).trans (hk71.getA rfl rfl rfl))
              have hz350 : M317 (a + 31) ((M38 a 57) - 1) = M38 (a + 31) ((M38 a 57) - 1) := ((zup_p e318 (by omega) _).trans (hk71.getA rfl rfl rfl))
              have hz351 : M317 a 60 = M38 a 60 := ((zup_n e318 (by omega)).trans (hk71.getS rfl rfl))
              refine q_aload_n C dX12_expands_79 (n := 80) rfl rfl ?_
              refine q_callVv C dX12_expands_80 (n := 83) rfl m_X12_488 v_yX12_endsArgument (zM0 h0) ⟨by decide, rfl⟩ (c_X12_endsArgument (w := w) (J := J67) hI319 hF h0 ((M38 a 57) - 1) (by have hz352 : M317 a 57 = (M38 a 57) - 1 := (zup_s e318); omega) (by omega) (by have hz353 : M317 (a + 28) ((M38 a 57) - 1) = M38 (a + 28) ((M38 a 57) - 1) := ((zup_p e318 (by omega) _).trans (hk71.getA rfl rfl rfl)); omega) (by have hz354 : M317 (a + 31) ((M38 a 57) - 1) = M38 (a + 31) ((M38 a 57) - 1) := ((zup_p e318 (by omega) _).trans (hk71.getA rfl rfl rfl)); omega) (by have hz355 : M317 a 60 = M38 a 60 := ((zup_n e318 (by omega)).trans (hk71.getS rfl rfl)); omega)) (Nat.le_of_ble_eq_true rfl) rfl rfl (Nat.le_of_ble_eq_true rfl) ⟨Nat.le_refl _, Nat.le_refl _⟩ (fun M356 J357  hI358 h359 => ?_)
              have hK361 := hK320.tr h359 rfl rfl rfl
              have hK362 := hK321.tr h359 rfl rfl rfl
              refine q_goto C 25 dX12_expands_83 rfl ?_
              have hp363 : zX M356 a mb mp n (M38 a 59) 0 0 0 := hx347.cg (h359.getS rfl rfl) (h359.getS rfl rfl) (h359.getS rfl rfl) (h359.getS rfl rfl) (h359.getS rfl rfl) (h359.getS rfl rfl) (h359.getS rfl rfl) (h359.getS rfl rfl) (h359.getS rfl rfl) (fun j => (h359.getA rfl rfl rfl)) (fun j => (h359.getA rfl rfl rfl)) (fun j => (h359.getA rfl rfl rfl)) (fun j => (h359.getA rfl rfl rfl)) (fun j => (h359.getA rfl rfl rfl)) (fun j => (h359.getA rfl rfl rfl)) (fun j => (h359.getA rfl rfl rfl)) (fun j => (h359.getA rfl rfl rfl)) (fun j => (h359.getA rfl rfl rfl)) (fun j => (h359.getA rfl rfl rfl)) (fun j => (h359.getA rfl rfl rfl)) (fun j => (h359.getA rfl rfl rfl)) (fun j => (h359.getA rfl rfl rfl))
              have hm364 := zMz_of hp363
              have hm365 : zMu M356 a n = zMu M317 a n := zMu_cg (fun j => (h359.getA rfl rfl rfl)) (fun j => (h359.getA rfl rfl rfl)) (fun j => (h359.getA rfl rfl rfl)) (h359.getS rfl rfl) (h359.getS rfl rfl) (h359.getS rfl rfl)
              have gx366 := zX.num hp363
              have hz367 : M356 a 62 = M38 a 62 := ((h359.getS rfl rfl).trans ((zup_n e318 (by omega)).trans (hk71.getS rfl rfl)))
              have hz368 : M356 a 57 = (M38 a 57) - 1 := ((h359.getS rfl rfl).trans (zup_s e318))
              have hz369 : M356 a 58 = M66 a 58 := ((h359.getS rfl rfl).trans (zup_n e318 (by omega)))
              have hz370 : M356 a 59 = M38 a 59 := ((h359.getS rfl rfl).trans ((zup_n e318 (by omega)).trans (hk71.getS rfl rfl)))
              have hz371 : M356 a 60 = M38 a 60 := ((h359.getS rfl rfl).trans ((zup_n e318 (by omega)).trans (hk71.getS rfl rfl)))
              have hz372 : M356 a 26 = M38 a 26 := ((h359.getS rfl rfl).trans ((zup_n e318 (by omega)).trans (hk71.getS rfl rfl)))
              have hz373 : M356 a 25 = M38 a 25 := ((h359.getS rfl rfl).trans ((zup_n e318 (by omega)).trans (hk71.getS rfl rfl)))
              have hz374 : M356 a 24 = M38 a 24 := ((h359.getS rfl rfl).trans ((zup_n e318 (by omega)).trans (hk71.getS rfl rfl)))
              have hz375 : M356 a 61 = M38 a 61 := ((h359.getS rfl rfl).trans ((zup_n e318 (by omega)).trans (hk71.getS rfl rfl)))
              have hp376 : zOg M356 a og lg := h44.cg (fun j => ((h359.getA rfl rfl rfl).trans ((zup_p e318 (by omega) _).trans (hk71.getA rfl rfl rfl)))) (fun j => ((h359.getA rfl rfl rfl).trans ((zup_p e318 (by omega) _).trans (hk71.getA rfl rfl rfl))))
              have hp377 : zMa M356 a mb mp := h45.cg (fun j j0 j1 => ((h359.getA rfl rfl rfl).trans ((zup_p e318 (by omega) _).trans (hk71.getA rfl rfl rfl)))) (fun j => ((h359.getA rfl rfl rfl).trans ((zup_p e318 (by omega) _).trans (hk71.getA rfl rfl rfl))))
              have hp379 : zV M356 a wt 0 := hv327.cg (h359.getS rfl rfl) (h359.getS rfl rfl) (h359.getS rfl rfl) (h359.getS rfl rfl) (h359.getS rfl rfl) (fun j => (h359.getA rfl rfl rfl)) (fun j => (h359.getA rfl rfl rfl)) (fun j => (h359.getA rfl rfl rfl)) (fun j => (h359.getA rfl rfl rfl)) (fun j => (h359.getA rfl rfl rfl)) (fun j => (h359.getA rfl rfl rfl))
              exact zK.weak (ih50 M356 J357 hI358 hK361 hK362 (Or.inr (zXs.mk hp363 (by have hw : M356 a 59 = M38 a 59 := ((h359.getS rfl rfl).trans ((zup_n e318 (by omega)).trans (hk71.getS rfl rfl))); omega))) hp376 hp377 (by have hz378 : M356 (a + 18) 3 = M (a + 18) 3 := ((h359.getA rfl rfl rfl).trans ((zup_p e318 (by omega) _).trans ((hk71.getA rfl rfl rfl).trans (h46)))); omega) hp379 (by omega)) (zwk_c (zwk_n (zwk_n (zwk_n zwk_e))))
        · refine q_aload_n C dX12_expands_44 (n := 45) rfl rfl ?_
          refine q_callVi C dX12_expands_45 (n := 48) rfl m_X12_480 v_yX12_replaces (zM0 h0) ⟨by decide, rfl⟩ (c_X12_replacesV (w := w) (J := J39) hI40 hF h0 (M38 a 57) hX h44 h45 (by omega) (by omega) h47) (Nat.le_of_ble_eq_true rfl) rfl rfl (Nat.le_of_ble_eq_true rfl) ⟨Nat.le_refl _, Nat.le_refl _⟩ (fun x390 M386 J387  hI388 h389 => ?_)
          obtain ⟨hk391, h380, h381, h382, h383, h384, h385⟩ := h389
          have hK392 := hK41.tr hk391 rfl rfl rfl
          have hK393 := hK42.tr hk391 rfl rfl rfl
          refine q_if_ne C 25 dX12_expands_48 (n := 51) rfl rfl (by omega) (fun h394 => ?_) (fun h394 => ?_)
          · exact zK.weak (ih50 M386 J387 hI388 hK392 hK393 (Or.inr (h381.resolve_left (by omega))) h383 h384 (by have hz395 : M386 (a + 18) 3 = M (a + 18) 3 := ((hk391.getP rfl rfl rfl).trans (h46)); omega) (h385.resolve_left (by omega)) (by omega)) (zwk_c (zwk_n (zwk_n (zwk_n zwk_e))))
          · refine q_iconst C dX12_expands_51 (n := 52) rfl ?_
            exact q_zret C dX12_expands_52 ⟨rfl, rfl⟩ (by omega) (by rw [hPo]; exact ⟨0, M386, J387, rfl, rfl, hI388, hK392, by omega, h383, h384, by have hz396 : M386 a 61 = M38 a 61 := (hk391.getS rfl rfl); omega, by have hz397 : M386 (a + 18) 3 = M (a + 18) 3 := ((hk391.getP rfl rfl rfl).trans (h46)); omega, (Or.inl (by omega))⟩)
  have hx398 : zX M23 a mb mp 0 (M a 59) 0 0 0 := zY.cgr (Y_init (mb := mb) (mp := mp) (E := M a 62) (am := M a 59) (md := M a 25) (po := M a 24) (at_ := M (a + 24)) (en := M (a + 25)) (sa := M (a + 26)) (fb := M (a + 27)) (cm := M (a + 28)) (cb := M (a + 31)) (ca := M (a + 32)) (cg := M (a + 33)) (cp := M (a + 34)) (ct := M (a + 35)) (cl := M (a + 36)) (pa := M (a + 37)) (ps := M (a + 38)) (x := M a 63) (y := M a 64) (b := M a 65) (by omega) (by omega) (by omega) (by omega) (by omega) (by omega) p2.2.1) (by have hw : M23 a 62 = M a 62 := ((zup_n e36 (by omega)).trans ((zup_p e34 (by omega) _).trans ((zup_p e32 (by omega) _).trans ((zup_p e30 (by omega) _).trans ((zup_p e17 (by omega) _).trans ((zup_p e15 (by omega) _).trans (zup_n e2 (by omega)))))))); omega) (by have hw : M23 a 57 = M a 57 := ((zup_n e36 (by omega)).trans ((zup_p e34 (by omega) _).trans ((zup_p e32 (by omega) _).trans ((zup_p e30 (by omega) _).trans ((zup_p e17 (by omega) _).trans ((zup_p e15 (by omega) _).trans (zup_n e2 (by omega)))))))); omega) (by have hw : M23 a 58 = (M a 58) + 1 := (zup_s e36); omega) (by have hw : M23 a 59 = M a 59 := ((zup_n e36 (by omega)).trans ((zup_p e34 (by omega) _).trans ((zup_p e32 (by omega) _).trans ((zup_p e30 (by omega) _).trans ((zup_p e17 (by omega) _).trans ((zup_p e15 (by omega) _).trans (zup_n e2 (by omega)))))))); omega) (by have hw : M23 a 60 = M a 60 := ((zup_n e36 (by omega)).trans ((zup_p e34 (by omega) _).trans ((zup_p e32 (by omega) _).trans ((zup_p e30 (by omega) _).trans ((zup_p e17 (by omega) _).trans ((zup_p e15 (by omega) _).trans (zup_n e2 (by omega)))))))); omega) (by have hw : M23 a 26 = M a 26 := ((zup_n e36 (by omega)).trans ((zup_p e34 (by omega) _).trans ((zup_p e32 (by omega) _).trans ((zup_p e30 (by omega) _).trans ((zup_p e17 (by omega) _).trans ((zup_p e15 (by omega) _).trans (zup_n e2 (by omega)))))))); omega) (by have hw : M23 a 25 = M a 25 := ((zup_n e36 (by omega)).trans ((zup_p e34 (by omega) _).trans ((zup_p e32 (by omega) _).trans ((zup_p e30 (by omega) _).trans ((zup_p e17 (by omega) _).trans ((zup_p e15 (by omega) _).trans (zup_n e2 (by omega)))))))); omega) (by have hw : M23 a 24 = M a 24 := ((zup_n e36 (by omega)).trans ((zup_p e34 (by omega) _).trans ((zup_p e32 (by omega) _).trans ((zup_p e30 (by omega) _).trans ((zup_p e17 (by omega) _).trans ((zup_p e15 (by omega) _).trans (zup_n e2 (by omega)))))))); omega) (by have hw : M23 a 61 = 0 := ((zup_n e36 (by omega)).trans ((zup_p e34 (by omega) _).trans ((zup_p e32 (by omega) _).trans ((zup_p e30 (by omega) _).trans ((zup_p e17 (by omega) _).trans ((zup_p e15 (by omega) _).trans (zup_s e2))))))); omega) (funext fun j => by by_cases q : j = 0; (rw [q, yup_s]; have hw : M23 (a + 24) 0 = M a 63 := ((zup_p e36 (by omega) _).trans ((zup_p e34 (by omega) _).trans ((zup_p e32 (by omega) _).trans (zup_e e30 (by omega))))); omega); (rw [yup_n q]; exact ((zup_p e36 (by omega) _).trans ((zup_p e34 (by omega) _).trans ((zup_p e32 (by omega) _).trans ((zup_n e30 (by omega)).trans ((zup_p e17 (by omega) _).trans ((zup_p e15 (by omega) _).trans (zup_p e2 (by omega) _))))))))) (funext fun j => by by_cases q : j = 0; (rw [q, yup_s]; have hw : M23 (a + 25) 0 = M a 64 := ((zup_p e36 (by omega) _).trans ((zup_p e34 (by omega) _).trans (zup_e e32 (by omega)))); omega); (rw [yup_n q]; exact ((zup_p e36 (by omega) _).trans ((zup_p e34 (by omega) _).trans ((zup_n e32 (by omega)).trans ((zup_p e30 (by omega) _).trans ((zup_p e17 (by omega) _).trans ((zup_p e15 (by omega) _).trans (zup_p e2 (by omega) _))))))))) (funext fun j => by by_cases q : j = 0; (rw [q, yup_s]; have hw : M23 (a + 26) 0 = M a 65 := ((zup_p e36 (by omega) _).trans (zup_e e34 (by omega))); omega); (rw [yup_n q]; exact ((zup_p e36 (by omega) _).trans ((zup_n e34 (by omega)).trans ((zup_p e32 (by omega) _).trans ((zup_p e30 (by omega) _).trans ((zup_p e17 (by omega) _).trans ((zup_p e15 (by omega) _).trans (zup_p e2 (by omega) _))))))))) (funext fun j => by by_cases q : j = 0; (rw [q, yup_s]; have hw : M23 (a + 27) 0 = M a 58 := ((zup_p e36 (by omega) _).trans ((zup_p e34 (by omega) _).trans ((zup_p e32 (by omega) _).trans ((zup_p e30 (by omega) _).trans ((zup_p e17 (by omega) _).trans (zup_e e15 (by omega))))))); omega); (rw [yup_n q]; exact ((zup_p e36 (by omega) _).trans ((zup_p e34 (by omega) _).trans ((zup_p e32 (by omega) _).trans ((zup_p e30 (by omega) _).trans ((zup_p e17 (by omega) _).trans ((zup_n e15 (by omega)).trans (zup_p e2 (by omega) _))))))))) (funext fun j => by by_cases q : j = 0; (rw [q, yup_s]; have hw : M23 (a + 28) 0 = -1 := ((zup_p e36 (by omega) _).trans ((zup_p e34 (by omega) _).trans ((zup_p e32 (by omega) _).trans ((zup_p e30 (by omega) _).trans (zup_e e17 (by omega)))))); omega); (rw [yup_n q]; exact ((zup_p e36 (by omega) _).trans ((zup_p e34 (by omega) _).trans ((zup_p e32 (by omega) _).trans ((zup_p e30 (by omega) _).trans ((zup_n e17 (by omega)).trans ((zup_p e15 (by omega) _).trans (zup_p e2 (by omega) _))))))))) (funext fun j => ((zup_p e36 (by omega) _).trans ((zup_p e34 (by omega) _).trans ((zup_p e32 (by omega) _).trans ((zup_p e30 (by omega) _).trans ((zup_p e17 (by omega) _).trans ((zup_p e15 (by omega) _).trans (zup_p e2 (by omega) _)))))))) (funext fun j => ((zup_p e36 (by omega) _).trans ((zup_p e34 (by omega) _).trans ((zup_p e32 (by omega) _).trans ((zup_p e30 (by omega) _).trans ((zup_p e17 (by omega) _).trans ((zup_p e15 (by omega) _).trans (zup_p e2 (by omega) _)))))))) (funext fun j => ((zup_p e36 (by omega) _).trans ((zup_p e34 (by omega) _).trans ((zup_p e32 (by omega) _).trans ((zup_p e30 (by omega) _).trans ((zup_p e17 (by omega) _).trans ((zup_p e15 (by omega) _).trans (zup_p e2 (by omega) _)))))))) (funext fun j => ((zup_p e36 (by omega) _).trans ((zup_p e34 (by omega) _).trans ((zup_p e32 (by omega) _).trans ((zup_p e30 (by omega) _).trans ((zup_p e17 (by omega) _).trans ((zup_p e15 (by omega) _).trans (zup_p e2 (by omega) _)))))))) (funext fun j => ((zup_p e36 (by omega) _).trans ((zup_p e34 (by omega) _).trans ((zup_p e32 (by omega) _).trans ((zup_p e30 (by omega) _).trans ((zup_p e17 (by omega) _).trans ((zup_p e15 (by omega) _).trans (zup_p e2 (by omega) _)))))))) (funext fun j => ((zup_p e36 (by omega) _).trans ((zup_p e34 (by omega) _).trans ((zup_p e32 (by omega) _).trans ((zup_p e30 (by omega) _).trans ((zup_p e17 (by omega) _).trans ((zup_p e15 (by omega) _).trans (zup_p e2 (by omega) _)))))))) (funext fun j => ((zup_p e36 (by omega) _).trans ((zup_p e34 (by omega) _).trans ((zup_p e32 (by omega) _).trans ((zup_p e30 (by omega) _).trans ((zup_p e17 (by omega) _).trans ((zup_p e15 (by omega) _).trans (zup_p e2 (by omega) _)))))))) (funext fun j => ((zup_p e36 (by omega) _).trans ((zup_p e34 (by omega) _).trans ((zup_p e32 (by omega) _).trans ((zup_p e30 (by omega) _).trans ((zup_p e17 (by omega) _).trans ((zup_p e15 (by omega) _).trans (zup_p e2 (by omega) _))))))))
  have hp399 : zOg M23 a og lg := p1.cg (fun j => ((zup_p e36 (by omega) _).trans ((zup_p e34 (by omega) _).trans ((zup_p e32 (by omega) _).trans ((zup_p e30 (by omega) _).trans ((zup_p e17 (by omega) _).trans ((zup_p e15 (by omega) _).trans (zup_p e2 (by omega) _)))))))) (fun j => ((zup_p e36 (by omega) _).trans ((zup_p e34 (by omega) _).trans ((zup_p e32 (by omega) _).trans ((zup_p e30 (by omega) _).trans ((zup_p e17 (by omega) _).trans ((zup_p e15 (by omega) _).trans (zup_p e2 (by omega) _))))))))
  have hp400 : zMa M23 a mb mp := p2.cg (fun j j0 j1 => ((zup_p e36 (by omega) _).trans ((zup_p e34 (by omega) _).trans ((zup_p e32 (by omega) _).trans ((zup_p e30 (by omega) _).trans ((zup_p e17 (by omega) _).trans ((zup_p e15 (by omega) _).trans (zup_p e2 (by omega) _)))))))) (fun j => ((zup_p e36 (by omega) _).trans ((zup_p e34 (by omega) _).trans ((zup_p e32 (by omega) _).trans ((zup_p e30 (by omega) _).trans ((zup_p e17 (by omega) _).trans ((zup_p e15 (by omega) _).trans (zup_p e2 (by omega) _))))))))
  have hv402 : zV M23 a wt 0 := by unfold zV; rw [(show M23 a 57 = 0 from by have hw : M23 a 57 = M a 57 := ((zup_n e36 (by omega)).trans ((zup_p e34 (by omega) _).trans ((zup_p e32 (by omega) _).trans ((zup_p e30 (by omega) _).trans ((zup_p e17 (by omega) _).trans ((zup_p e15 (by omega) _).trans (zup_n e2 (by omega)))))))); omega), (show M23 a 58 = 1 from by have hw : M23 a 58 = (M a 58) + 1 := (zup_s e36); omega), (show M23 a 61 = 0 from by have hw : M23 a 61 = 0 := ((zup_n e36 (by omega)).trans ((zup_p e34 (by omega) _).trans ((zup_p e32 (by omega) _).trans ((zup_p e30 (by omega) _).trans ((zup_p e17 (by omega) _).trans ((zup_p e15 (by omega) _).trans (zup_s e2))))))); omega)]; exact U_start p6 (by rw [show M23 a 65 = M a 65 from ((zup_n e36 (by omega)).trans ((zup_p e34 (by omega) _).trans ((zup_p e32 (by omega) _).trans ((zup_p e30 (by omega) _).trans ((zup_p e17 (by omega) _).trans ((zup_p e15 (by omega) _).trans (zup_n e2 (by omega))))))))]; exact p7.imp id (fun q => ⟨by omega, q⟩)) (by have hw : M23 a 62 = M a 62 := ((zup_n e36 (by omega)).trans ((zup_p e34 (by omega) _).trans ((zup_p e32 (by omega) _).trans ((zup_p e30 (by omega) _).trans ((zup_p e17 (by omega) _).trans ((zup_p e15 (by omega) _).trans (zup_n e2 (by omega)))))))); omega) (by have hw : M23 (a + 24) 0 = M a 63 := ((zup_p e36 (by omega) _).trans ((zup_p e34 (by omega) _).trans ((zup_p e32 (by omega) _).trans (zup_e e30 (by omega))))); omega) (by have hw : M23 (a + 25) 0 = M a 64 := ((zup_p e36 (by omega) _).trans ((zup_p e34 (by omega) _).trans (zup_e e32 (by omega)))); omega) (by have hw : M23 (a + 26) 0 = M a 65 := ((zup_p e36 (by omega) _).trans (zup_e e34 (by omega))); have hw2 : M23 a 65 = M a 65 := ((zup_n e36 (by omega)).trans ((zup_p e34 (by omega) _).trans ((zup_p e32 (by omega) _).trans ((zup_p e30 (by omega) _).trans ((zup_p e17 (by omega) _).trans ((zup_p e15 (by omega) _).trans (zup_n e2 (by omega)))))))); omega) (by have hw : M23 (a + 28) 0 = -1 := ((zup_p e36 (by omega) _).trans ((zup_p e34 (by omega) _).trans ((zup_p e32 (by omega) _).trans ((zup_p e30 (by omega) _).trans (zup_e e17 (by omega)))))); omega)
  exact zK.weak (L_48 _ M23 J24 hI25 hK28 (zMd.rf : zMd a [9, 10, 11, 12, 13, 14, 15, 16, 17, 18, 24, 25, 26, 27, 28, 29, 30, 31, 32, 33, 34, 35, 36, 37, 38, 39, 40, 41, 42] [24, 25, 26, 34, 57, 58, 59, 60, 61, 62] [] M23 M23) (Or.inr (zXs.mk hx398 (by have hw : M23 a 59 = M a 59 := ((zup_n e36 (by omega)).trans ((zup_p e34 (by omega) _).trans ((zup_p e32 (by omega) _).trans ((zup_p e30 (by omega) _).trans ((zup_p e17 (by omega) _).trans ((zup_p e15 (by omega) _).trans (zup_n e2 (by omega)))))))); omega))) hp399 hp400 (by have hz401 : M23 (a + 18) 3 = M (a + 18) 3 := ((zup_p e36 (by omega) _).trans ((zup_p e34 (by omega) _).trans ((zup_p e32 (by omega) _).trans ((zup_p e30 (by omega) _).trans ((zup_p e17 (by omega) _).trans ((zup_p e15 (by omega) _).trans (zup_p e2 (by omega) _))))))); omega) hv402 (Int.self_le_toNat _)) (zwk_c (zwk_n (zwk_n (zwk_n zwk_e))))
