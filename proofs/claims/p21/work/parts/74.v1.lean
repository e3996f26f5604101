theorem c_X12_peekV {w : zWp} {T : zTl} {M : zMm} {J : zJm} {R : zRm'} {G : zGt} {F : zRm'} {a : Nat} {mb mp : Int → Int} {n A0 v u z : Int} {wt : Int → Int} {vv : Int} (hI : zI G M) (hF : zF F R) (h0 : zModel T F G a) (p1 : zX M a mb mp n A0 v u z) (p2 : M a 57 = n) (p3 : zV M a wt vv) : zCt w 1 0 0 yX12_peek cX12_peek 2 (some .int) [.ref (w.2.1 + a)] (T, M, J, R) (zPi T R G (fun x M2 => (zMd a [] [58] [] M M2) ∧ (-1 ≤ x ∧ x ≤ 3499) ∧ (zX M2 a mb mp n A0 v u z) ∧ (zMu M2 a n = zMu M a n) ∧ (x = -1 ∨ zNx M2 a) ∧ (¬ x = -1 ∨ M2 a 58 = M (a + 27) (M a 57)) ∧ (zV M2 a wt vv) ∧ (x = -1 ∨ ¬ M2 a 65 = 0 ∨ ¬ M2 a 57 = 0 ∨ x = M2 (a + 24) (M2 a 58 - 1)))) := by
  refine zCt.of rfl (Nat.le_of_ble_eq_true rfl) ?_
  intro p e s m args below meth c C
  obtain ⟨Po, hPo⟩ : ∃ Po, Po = zPi T R G (fun x M2 => (zMd a [] [58] [] M M2) ∧ (-1 ≤ x ∧ x ≤ 3499) ∧ (zX M2 a mb mp n A0 v u z) ∧ (zMu M2 a n = zMu M a n) ∧ (x = -1 ∨ zNx M2 a) ∧ (¬ x = -1 ∨ M2 a 58 = M (a + 27) (M a 57)) ∧ (zV M2 a wt vv) ∧ (x = -1 ∨ ¬ M2 a 65 = 0 ∨ ¬ M2 a 57 = 0 ∨ x = M2 (a + 24) (M2 a 58 - 1))) := ⟨_, rfl⟩
  rw [← hPo]
  have hK0 : zMd a [] [58] [] M M := zMd.rf
  have gk_frame := zI.at hI (zM142 h0)
  have gfb := zX.fb p1 rfl
  have gx0 := zX.num p1
  show zK w p e 1 0 0 s m args below meth c 2 T Po 0 [.ref (w.2.1 + a), .null] [] (T, M, J, R)
  have L_10 : ∀ n11 : Nat, ∀ (M2 : zMm) (J3 : zJm), zI G M2 → zMd a [] [58] [] M M2 → zMd a [] [58] [] M M2 → (M2 a 58 ≤ M a 58) → (M (a + 27) (M a 57) ≤ M2 a 58) → (∀ j, M2 a 58 ≤ j → j < M a 58 → M (a + 24) j = M (a + 25) j) → (M2 a 58 + 1 ≤ (n11 : Int)) → zK w p e 1 0 0 s m args below meth c 2 T Po 0 [.ref (w.2.1 + a), .null] [] (T, M2, J3, R) := by
    intro n11
    induction n11 with
    | zero =>
      intro M2 J3 hI4 hK5 hK6 h7 h8 h9 hm13
      exfalso
      have gfb := zX.fb p1 rfl
      omega
    | succ n11 ih12 =>
      intro M2 J3 hI4 hK5 hK6 h7 h8 h9 hm13
      refine q_aload_n C dX12_peek_0 (n := 1) rfl rfl ?_
      have g14 := zI.at hI4 (zM143 h0)
      refine q_getI C dX12_peek_1 (n := 4) rfl f_X12_445 (zM0 h0) (v := M2 a 58) rfl ?_
      refine q_aload_n C dX12_peek_4 (n := 5) rfl rfl ?_
      refine q_getR C dX12_peek_5 (n := 8) rfl f_X12_95 (zM0 h0) (hF _ _ _ (zM94 h0)) ?_
      refine q_aload_n C dX12_peek_8 (n := 9) rfl rfl ?_
      have g15 := zI.at hI (zM142 h0)
      refine q_getI C dX12_peek_9 (n := 12) rfl f_X12_448 (zM0 h0) (v := M a 57) (hK6.getS rfl rfl) ?_
      have g16 := zI.at hI ((zM96 h0) (M a 57))
      refine q_iald C dX12_peek_12 (n := 13) rfl (zM95 h0) (by omega) (v := M (a + 27) (M a 57)) (hK6.getA rfl rfl rfl) ?_
      have J_18 : (M2 a 58 ≤ M (a + 27) (M a 57) ∨ ¬ M (a + 24) ((M2 a 58) - 1) = M (a + 25) ((M2 a 58) - 1)) → zK w p e 1 0 0 s m args below meth c 2 T Po 54 [.ref (w.2.1 + a), .null] [] (T, M2, J3, R) := by
        intro h17
        have gfb := zX.fb p1 rfl
        have hx19 : zX M2 a mb mp n A0 v u z := zY.cgr (Y_peek p1 (by omega) (st2 := M2 a 58) (by omega) (by omega) h9) (hK6.getS rfl rfl) (hK6.getS rfl rfl) (by have hw : M2 a 58 = M2 a 58 := rfl; omega) (hK6.getS rfl rfl) (hK6.getS rfl rfl) (hK6.getS rfl rfl) (hK6.getS rfl rfl) (hK6.getS rfl rfl) (hK6.getS rfl rfl) (funext fun j => (hK6.getA rfl rfl rfl)) (funext fun j => (hK6.getA rfl rfl rfl)) (funext fun j => (hK6.getA rfl rfl rfl)) (funext fun j => (hK6.getA rfl rfl rfl)) (funext fun j => (hK6.getA rfl rfl rfl)) (funext fun j => (hK6.getA rfl rfl rfl)) (funext fun j => (hK6.getA rfl rfl rfl)) (funext fun j => (hK6.getA rfl rfl rfl)) (funext fun j => (hK6.getA rfl rfl rfl)) (funext fun j => (hK6.getA rfl rfl rfl)) (funext fun j => (hK6.getA rfl rfl rfl)) (funext fun j => (hK6.getA rfl rfl rfl)) (funext fun j => (hK6.getA rfl rfl rfl))
        have gx20 := zX.num hx19
        have hz21 : M2 a 62 = M a 62 := (hK6.getS rfl rfl)
        have hz22 : M2 a 57 = M a 57 := (hK6.getS rfl rfl)
        have hz23 : M2 a 59 = M a 59 := (hK6.getS rfl rfl)
        have hz24 : M2 a 60 = M a 60 := (hK6.getS rfl rfl)
        have hz25 : M2 a 26 = M a 26 := (hK6.getS rfl rfl)
        have hz26 : M2 a 25 = M a 25 := (hK6.getS rfl rfl)
        have hz27 : M2 a 24 = M a 24 := (hK6.getS rfl rfl)
        have hz28 : M2 a 61 = M a 61 := (hK6.getS rfl rfl)
        have gvf := h9
        have hv29 : zV M2 a wt vv := zU.cgr (U_peek p3 (st2 := M2 a 58) (by omega) (by omega) (by omega) gvf) (hK6.getS rfl rfl) (hK6.getS rfl rfl) (by have hw : M2 a 58 = M2 a 58 := rfl; omega) (hK6.getS rfl rfl) (hK6.getS rfl rfl) (funext fun j => (hK6.getA rfl rfl rfl)) (funext fun j => (hK6.getA rfl rfl rfl)) (funext fun j => (hK6.getA rfl rfl rfl)) (funext fun j => (hK6.getA rfl rfl rfl)) (funext fun j => (hK6.getA rfl rfl rfl)) (funext fun j => (hK6.getA rfl rfl rfl))
        refine q_aload_n C dX12_peek_54 (n := 55) rfl rfl ?_
        refine q_getI C dX12_peek_55 (n := 58) rfl f_X12_445 (zM0 h0) (v := M2 a 58) rfl ?_
        refine q_aload_n C dX12_peek_58 (n := 59) rfl rfl ?_
        refine q_getR C dX12_peek_59 (n := 62) rfl f_X12_95 (zM0 h0) (hF _ _ _ (zM94 h0)) ?_
        refine q_aload_n C dX12_peek_62 (n := 63) rfl rfl ?_
        refine q_getI C dX12_peek_63 (n := 66) rfl f_X12_448 (zM0 h0) (v := M a 57) (hK6.getS rfl rfl) ?_
        refine q_iald C dX12_peek_66 (n := 67) rfl (zM95 h0) (by omega) (v := M (a + 27) (M a 57)) (hK6.getA rfl rfl rfl) ?_
        refine q_icmp_ne C 72 dX12_peek_67 (n := 70) rfl rfl (by omega) (fun h30 => ?_) (fun h30 => ?_)
        · have gs := zX.st2 hx19 (s := M2 a 58 - 1) (by omega) (by omega)
          have gt31 := zI.at hI ((zM90 h0) ((M2 a 58) - 1))
          have hz32 : M2 (a + 24) (M2 a 58 - 1) = M (a + 24) (M2 a 58 - 1) := (hK6.getA rfl rfl rfl)
          have hz33 : M2 (a + 25) (M2 a 58 - 1) = M (a + 25) (M2 a 58 - 1) := (hK6.getA rfl rfl rfl)
          have hz34 : M2 (a + 26) (M2 a 58 - 1) = M (a + 26) (M2 a 58 - 1) := (hK6.getA rfl rfl rfl)
          refine q_aload_n C dX12_peek_72 (n := 73) rfl rfl ?_
          refine q_getR C dX12_peek_73 (n := 76) rfl f_X12_86 (zM0 h0) (hF _ _ _ (zM85 h0)) ?_
          refine q_aload_n C dX12_peek_76 (n := 77) rfl rfl ?_
          refine q_getI C dX12_peek_77 (n := 80) rfl f_X12_445 (zM0 h0) (v := M2 a 58) rfl ?_
          refine q_iconst C dX12_peek_80 (n := 81) rfl ?_
          refine q_isub C dX12_peek_81 (n := 82) rfl (v := (M2 a 58) - 1) rfl ?_
          have g35 := zI.at hI ((zM87 h0) ((M2 a 58) - 1))
          refine q_iald C dX12_peek_82 (n := 83) rfl (zM86 h0) (by omega) (v := M (a + 24) ((M2 a 58) - 1)) (hK6.getA rfl rfl rfl) ?_
          refine q_istore_n C [.ref (w.2.1 + a), zi (M (a + 24) ((M2 a 58) - 1))] dX12_peek_83 (n := 84) rfl rfl rfl ?_
          refine q_aload_n C dX12_peek_84 (n := 85) rfl rfl ?_
          refine q_getR C dX12_peek_85 (n := 88) rfl f_X12_92 (zM0 h0) (hF _ _ _ (zM91 h0)) ?_
          refine q_aload_n C dX12_peek_88 (n := 89) rfl rfl ?_
          refine q_getI C dX12_peek_89 (n := 92) rfl f_X12_445 (zM0 h0) (v := M2 a 58) rfl ?_
          refine q_iconst C dX12_peek_92 (n := 93) rfl ?_
          refine q_isub C dX12_peek_93 (n := 94) rfl (v := (M2 a 58) - 1) rfl ?_
          have g36 := zI.at hI ((zM93 h0) ((M2 a 58) - 1))
          refine q_iald C dX12_peek_94 (n := 95) rfl (zM92 h0) (by omega) (v := M (a + 26) ((M2 a 58) - 1)) (hK6.getA rfl rfl rfl) ?_
          refine q_iconst C dX12_peek_95 (n := 96) rfl ?_
          refine q_icmp_ne C 108 dX12_peek_96 (n := 99) rfl rfl (by omega) (fun h37 => ?_) (fun h37 => ?_)
          · refine q_iload_n C dX12_peek_108 (n := 109) rfl rfl ?_
            exact q_iret C dX12_peek_109 ⟨rfl, rfl⟩ (by rw [hPo]; exact ⟨M (a + 24) ((M2 a 58) - 1), M2, J3, rfl, rfl, hI4, hK5, by omega, hx19, (zMu_st (fun j => (hK6.getA rfl rfl rfl)) (fun j => (hK6.getA rfl rfl rfl)) (fun j => (hK6.getA rfl rfl rfl)) (hK6.getS rfl rfl) (hK6.getS rfl rfl) (by omega) (by omega) h9), Or.inr (show M2 (a + 27) (M2 a 57) < M2 a 58 ∧ M2 (a + 24) (M2 a 58 - 1) < M2 (a + 25) (M2 a 58 - 1) from by rw [show M2 (a + 24) = M (a + 24) from funext (fun j => (hK6.getA rfl rfl rfl)), show M2 (a + 25) = M (a + 25) from funext (fun j => (hK6.getA rfl rfl rfl)), show M2 (a + 27) = M (a + 27) from funext (fun j => (hK6.getA rfl rfl rfl)), show M2 a 57 = M a 57 from (hK6.getS rfl rfl)]; omega), by omega, hv29, (by have hsa := zV.sa hv29; have hz38 : M2 (a + 24) (M2 a 58 - 1) = M (a + 24) (M2 a 58 - 1) := (hK6.getA rfl rfl rfl); have hz39 : M2 (a + 26) (M2 a 58 - 1) = M (a + 26) (M2 a 58 - 1) := (hK6.getA rfl rfl rfl); omega)⟩)
          · refine q_aload_n C dX12_peek_99 (n := 100) rfl rfl ?_
            refine q_getR C dX12_peek_100 (n := 103) rfl f_X12_135 (zM0 h0) (hF _ _ _ (zM133 h0)) ?_
            refine q_iload_n C dX12_peek_103 (n := 104) rfl rfl ?_
            have g40 := zI.at hI ((zM135 h0) (M (a + 24) ((M2 a 58) - 1)))
            refine q_iald C dX12_peek_104 (n := 105) rfl (zM134 h0) (by omega) (v := M (a + 40) (M (a + 24) ((M2 a 58) - 1))) (hK6.getA rfl rfl rfl) ?_
            refine q_goto C 109 dX12_peek_105 rfl ?_
            exact q_iret C dX12_peek_109 ⟨rfl, rfl⟩ (by rw [hPo]; exact ⟨M (a + 40) (M (a + 24) ((M2 a 58) - 1)), M2, J3, rfl, rfl, hI4, hK5, by omega, hx19, (zMu_st (fun j => (hK6.getA rfl rfl rfl)) (fun j => (hK6.getA rfl rfl rfl)) (fun j => (hK6.getA rfl rfl rfl)) (hK6.getS rfl rfl) (hK6.getS rfl rfl) (by omega) (by omega) h9), Or.inr (show M2 (a + 27) (M2 a 57) < M2 a 58 ∧ M2 (a + 24) (M2 a 58 - 1) < M2 (a + 25) (M2 a 58 - 1) from by rw [show M2 (a + 24) = M (a + 24) from funext (fun j => (hK6.getA rfl rfl rfl)), show M2 (a + 25) = M (a + 25) from funext (fun j => (hK6.getA rfl rfl rfl)), show M2 (a + 27) = M (a + 27) from funext (fun j => (hK6.getA rfl rfl rfl)), show M2 a 57 = M a 57 from (hK6.getS rfl rfl)]; omega), by omega, hv29, (by have hsa := zV.sa hv29; have hz41 : M2 (a + 24) (M2 a 58 - 1) = M (a + 24) (M2 a 58 - 1) := (hK6.getA rfl rfl rfl); have hz42 : M2 (a + 26) (M2 a 58 - 1) = M (a + 26) (M2 a 58 - 1) := (hK6.getA rfl rfl rfl); omega)⟩)
        · refine q_iconst C dX12_peek_70 (n := 71) rfl ?_
          exact q_iret C dX12_peek_71 ⟨rfl, rfl⟩ (by rw [hPo]; exact ⟨(-1), M2, J3, rfl, rfl, hI4, hK5, by omega, hx19, (zMu_st (fun j => (hK6.getA rfl rfl rfl)) (fun j => (hK6.getA rfl rfl rfl)) (fun j => (hK6.getA rfl rfl rfl)) (hK6.getS rfl rfl) (hK6.getS rfl rfl) (by omega) (by omega) h9), Or.inl rfl, by omega, hv29, (Or.inl rfl)⟩)
      refine q_icmp_le C 54 dX12_peek_13 (n := 16) rfl rfl (by omega) (fun h43 => ?_) (fun h43 => ?_)
      · exact zK.weak (J_18 (by omega)) (zwk_c (zwk_n zwk_e))
      · refine q_aload_n C dX12_peek_16 (n := 17) rfl rfl ?_
        refine q_getR C dX12_peek_17 (n := 20) rfl f_X12_86 (zM0 h0) (hF _ _ _ (zM85 h0)) ?_
        refine q_aload_n C dX12_peek_20 (n := 21) rfl rfl ?_
        refine q_getI C dX12_peek_21 (n := 24) rfl f_X12_445 (zM0 h0) (v := M2 a 58) rfl ?_
        refine q_iconst C dX12_peek_24 (n := 25) rfl ?_
        refine q_isub C dX12_peek_25 (n := 26) rfl (v := (M2 a 58) - 1) rfl ?_
        have g44 := zI.at hI ((zM87 h0) ((M2 a 58) - 1))
        refine q_iald C dX12_peek_26 (n := 27) rfl (zM86 h0) (by omega) (v := M (a + 24) ((M2 a 58) - 1)) (hK6.getA rfl rfl rfl) ?_
        refine q_aload_n C dX12_peek_27 (n := 28) rfl rfl ?_
        refine q_getR C dX12_peek_28 (n := 31) rfl f_X12_89 (zM0 h0) (hF _ _ _ (zM88 h0)) ?_
        refine q_aload_n C dX12_peek_31 (n := 32) rfl rfl ?_
        refine q_getI C dX12_peek_32 (n := 35) rfl f_X12_445 (zM0 h0) (v := M2 a 58) rfl ?_
        refine q_iconst C dX12_peek_35 (n := 36) rfl ?_
        refine q_isub C dX12_peek_36 (n := 37) rfl (v := (M2 a 58) - 1) rfl ?_
        have g45 := zI.at hI ((zM90 h0) ((M2 a 58) - 1))
        refine q_iald C dX12_peek_37 (n := 38) rfl (zM89 h0) (by omega) (v := M (a + 25) ((M2 a 58) - 1)) (hK6.getA rfl rfl rfl) ?_
        refine q_icmp_ne C 54 dX12_peek_38 (n := 41) rfl rfl (by omega) (fun h46 => ?_) (fun h46 => ?_)
        · exact zK.weak (J_18 (by omega)) (zwk_c (zwk_n zwk_e))
        · refine q_aload_n C dX12_peek_41 (n := 42) rfl rfl ?_
          refine q_dup C dX12_peek_42 (n := 43) rfl rfl ?_
          refine q_getI C dX12_peek_43 (n := 46) rfl f_X12_445 (zM0 h0) (v := M2 a 58) rfl ?_
          refine q_iconst C dX12_peek_46 (n := 47) rfl ?_
          refine q_isub C dX12_peek_47 (n := 48) rfl (v := (M2 a 58) - 1) rfl ?_
          refine q_putI C dX12_peek_48 (n := 51) rfl f_X12_445 (zM0 h0) ⟨rfl, rfl⟩ (fun M47 (e48 : M47 = zup M2 a 58 ((M2 a 58) - 1)) => ?_)
          have hI49 : zI G M47 := hI4.put e48 (zM143 h0) rfl (by omega)
          have hK50 := hK5.upS e48 rfl
          have hK51 := hK6.upS e48 rfl
          refine q_goto C 0 dX12_peek_51 rfl ?_
          exact zK.weak (ih12 M47 J3 hI49 hK50 hK51 (by have hz52 : M47 a 58 = (M2 a 58) - 1 := (zup_s e48); omega) (by have hz53 : M47 a 58 = (M2 a 58) - 1 := (zup_s e48); omega) (fun j j0 j1 => by have hw : M47 a 58 = (M2 a 58) - 1 := zup_s e48; by_cases q : j = (M2 a 58) - 1; (rw [q]; omega); (exact h9 j (by omega) j1)) (by have hz54 : M47 a 58 = (M2 a 58) - 1 := (zup_s e48); omega)) (zwk_c (zwk_n zwk_e))
  exact zK.weak (L_10 _ M J hI hK0 (zMd.rf : zMd a [] [58] [] M M) (by omega) (by omega) (fun j j0 j1 => by omega) (Int.self_le_toNat _)) (zwk_c (zwk_n zwk_e))
theorem c_X12_goesV {w : zWp} {T : zTl} {M : zMm} {J : zJm} {R : zRm'} {G : zGt} {F : zRm'} {a : Nat} {mb mp : Int → Int} {n A0 v u z : Int} {wt : Int → Int} {vv : Int} (hI : zI G M) (hF : zF F R) (h0 : zModel T F G a) (p1 : zX M a mb mp n A0 v u z) (p2 : M a 57 = n) (p3 : zNx M a) (p4 : zV M a wt vv) : zCt w 1 0 0 yX12_goes cX12_goes 1 none [.ref (w.2.1 + a)] (T, M, J, R) (zPv T R G (fun M2 => (zMd a [24] [] [] M M2) ∧ (zX M2 a mb mp n A0 (v + 1) u z) ∧ (zMu M2 a n = zMu M a n - 1) ∧ (zV M2 a wt (zVt M a wt)))) := by
  refine zCt.of rfl (Nat.le_of_ble_eq_true rfl) ?_
  intro p e s m args below meth c C
  obtain ⟨Po, hPo⟩ : ∃ Po, Po = zPv T R G (fun M2 => (zMd a [24] [] [] M M2) ∧ (zX M2 a mb mp n A0 (v + 1) u z) ∧ (zMu M2 a n = zMu M a n - 1) ∧ (zV M2 a wt (zVt M a wt))) := ⟨_, rfl⟩
  rw [← hPo]
  have hK0 : zMd a [24] [] [] M M := zMd.rf
  have gn : M (a + 27) (M a 57) < M a 58 ∧ M (a + 24) (M a 58 - 1) < M (a + 25) (M a 58 - 1) := p3
  have gfb := zX.fb p1 rfl
  have gx0 := zX.num p1
  have gt1 := zI.at hI ((zM90 h0) ((M a 58) - 1))
  have gf1 := zX.f1 p1
  show zK w p e 1 0 0 s m args below meth c 1 T Po 0 [.ref (w.2.1 + a)] [] (T, M, J, R)
  refine q_aload_n C dX12_goes_0 (n := 1) rfl rfl ?_
  refine q_getR C dX12_goes_1 (n := 4) rfl f_X12_86 (zM0 h0) (hF _ _ _ (zM85 h0)) ?_
  refine q_aload_n C dX12_goes_4 (n := 5) rfl rfl ?_
  have g2 := zI.at hI (zM143 h0)
  refine q_getI C dX12_goes_5 (n := 8) rfl f_X12_445 (zM0 h0) (v := M a 58) rfl ?_
  refine q_iconst C dX12_goes_8 (n := 9) rfl ?_
  refine q_isub C dX12_goes_9 (n := 10) rfl (v := (M a 58) - 1) rfl ?_
  refine q_dup2 C dX12_goes_10 (n := 11) rfl ⟨rfl, rfl⟩ ?_
  have g3 := zI.at hI ((zM87 h0) ((M a 58) - 1))
  refine q_iald C dX12_goes_11 (n := 12) rfl (zM86 h0) (by omega) (v := M (a + 24) ((M a 58) - 1)) rfl ?_
  refine q_iconst C dX12_goes_12 (n := 13) rfl ?_
  refine q_iadd C dX12_goes_13 (n := 14) rfl (v := (M (a + 24) ((M a 58) - 1)) + 1) rfl ?_
  refine q_iast C dX12_goes_14 (n := 15) rfl (zM86 h0) (by omega)  (fun M4 e5 => ?_)
  have hI6 : zI G M4 := hI.put e5 ((zM87 h0) ((M a 58) - 1)) rfl (by omega)
  have hK7 := hK0.upA e5 rfl
  have hx8 : zX M4 a mb mp n A0 (v + 1) u z := zY.cgr (Y_goes p1 (by omega) gn.1 gn.2) (zup_p e5 (by omega) _) (zup_p e5 (by omega) _) (zup_p e5 (by omega) _) (zup_p e5 (by omega) _) (zup_p e5 (by omega) _) (zup_p e5 (by omega) _) (zup_p e5 (by omega) _) (zup_p e5 (by omega) _) (zup_p e5 (by omega) _) (funext fun j => by by_cases q : j = ((M a 58) - 1); (rw [q, yup_s]; have hw : M4 (a + 24) ((M a 58) - 1) = (M (a + 24) ((M a 58) - 1)) + 1 := (zup_e e5 (by omega)); omega); (rw [yup_n q]; exact (zup_n e5 (by omega)))) (funext fun j => (zup_p e5 (by omega) _)) (funext fun j => (zup_p e5 (by omega) _)) (funext fun j => (zup_p e5 (by omega) _)) (funext fun j => (zup_p e5 (by omega) _)) (funext fun j => (zup_p e5 (by omega) _)) (funext fun j => (zup_p e5 (by omega) _)) (funext fun j => (zup_p e5 (by omega) _)) (funext fun j => (zup_p e5 (by omega) _)) (funext fun j => (zup_p e5 (by omega) _)) (funext fun j => (zup_p e5 (by omega) _)) (funext fun j => (zup_p e5 (by omega) _)) (funext fun j => (zup_p e5 (by omega) _))
  have hv9 : zV M4 a wt (if M a 57 = 0 then wt (M (a + 24) (M a 58 - 1)) else 0) := zU.cgr (U_go p4 (by omega) (by omega) gn.2 (fun z => by omega)) (zup_p e5 (by omega) _) (zup_p e5 (by omega) _) (zup_p e5 (by omega) _) (zup_p e5 (by omega) _) (zup_p e5 (by omega) _) (funext fun j => by by_cases q : j = ((M a 58) - 1); (rw [q, yup_s]; have hw : M4 (a + 24) ((M a 58) - 1) = (M (a + 24) ((M a 58) - 1)) + 1 := (zup_e e5 (by omega)); omega); (rw [yup_n q]; exact (zup_n e5 (by omega)))) (funext fun j => (zup_p e5 (by omega) _)) (funext fun j => (zup_p e5 (by omega) _)) (funext fun j => (zup_p e5 (by omega) _)) (funext fun j => (zup_p e5 (by omega) _)) (funext fun j => (zup_p e5 (by omega) _))
  exact q_vret C dX12_goes_15 ⟨rfl, rfl⟩ (by rw [hPo]; exact ⟨M4, J, rfl, rfl, hI6, hK7, hx8, (zMu_go e5 (by omega)), hv9⟩)
theorem c_X12_passesV {w : zWp} {T : zTl} {M : zMm} {J : zJm} {R : zRm'} {G : zGt} {F : zRm'} {a : Nat} {mb mp og lg : Int → Int} {n A0 v u z : Int} {wt : Int → Int} {vv : Int} (hI : zI G M) (hF : zF F R) (h0 : zModel T F G a) (v1 : Int) (p1 : zX M a mb mp n A0 v u z) (p2 : zOg M a og lg) (p3 : M a 57 = n ∧ 1 ≤ v) (p4 : 0 ≤ v1 ∧ v1 ≤ 3499) (p5 : zV M a wt vv) (p6 : ¬ M a 65 = 0 ∨ ¬ M a 57 = 0 ∨ wt v1 ≤ vv) : zCt w 3 0 0 yX12_passes cX12_passes 2 none [.ref (w.2.1 + a), zi v1] (T, M, J, R) (zPv T R G (fun M2 => (zMd a [9, 10, 11, 12, 13, 14, 15, 16, 36, 38, 41] [26, 61] [] M M2) ∧ (zX M2 a mb mp n A0 (v - 1) u z) ∧ (zOg M2 a og lg) ∧ (zV M2 a wt 0))) := by
  refine zCt.of rfl (Nat.le_of_ble_eq_true rfl) ?_
  intro p e s m args below meth c C
  obtain ⟨Po, hPo⟩ : ∃ Po, Po = zPv T R G (fun M2 => (zMd a [9, 10, 11, 12, 13, 14, 15, 16, 36, 38, 41] [26, 61] [] M M2) ∧ (zX M2 a mb mp n A0 (v - 1) u z) ∧ (zOg M2 a og lg) ∧ (zV M2 a wt 0)) := ⟨_, rfl⟩
  rw [← hPo]
  have hK0 : zMd a [9, 10, 11, 12, 13, 14, 15, 16, 36, 38, 41] [26, 61] [] M M := zMd.rf
  have gx0 := zX.num p1
  show zK w p e 3 0 0 s m args below meth c 2 T Po 0 [.ref (w.2.1 + a), zi v1] [] (T, M, J, R)
  refine q_aload_n C dX12_passes_0 (n := 1) rfl rfl ?_
  have g1 := zI.at hI (zM142 h0)
  refine q_getI C dX12_passes_1 (n := 4) rfl f_X12_448 (zM0 h0) (v := M a 57) rfl ?_
  refine q_if_ne C 30 dX12_passes_4 (n := 7) rfl rfl (by omega) (fun h2 => ?_) (fun h2 => ?_)
  · have gpl : M (a + 34) ((M a 57) - 1) < M a 60 := zX.pcl p1 (f := (M a 57) - 1) (by omega) (by omega) (by omega)
    refine q_aload_n C dX12_passes_30 (n := 31) rfl rfl ?_
    refine q_aload_n C dX12_passes_31 (n := 32) rfl rfl ?_
    refine q_getI C dX12_passes_32 (n := 35) rfl f_X12_448 (zM0 h0) (v := M a 57) rfl ?_
    refine q_iconst C dX12_passes_35 (n := 36) rfl ?_
    refine q_isub C dX12_passes_36 (n := 37) rfl (v := (M a 57) - 1) rfl ?_
    refine q_iload_n C dX12_passes_37 (n := 38) rfl rfl ?_
    refine q_callVv C dX12_passes_38 (n := 41) rfl m_X12_454 v_yX12_adds (zM0 h0) ⟨by decide, rfl⟩ (c_X12_addsv (w := w) (J := J) hI hF h0 ((M a 57) - 1) v1 p1 p2 (by omega) (by omega) (by omega)) (Nat.le_of_ble_eq_true rfl) rfl rfl (Nat.le_of_ble_eq_true rfl) ⟨Nat.le_refl _, Nat.le_refl _⟩ (fun M5 J6  hI7 h8 => ?_)
    obtain ⟨hk9, h3, h4⟩ := h8
    have hK10 := hK0.tr hk9 rfl rfl rfl
    have hp11 : zV M5 a wt vv := p5.cg (hk9.getS rfl rfl) (hk9.getS rfl rfl) (hk9.getS rfl rfl) (hk9.getS rfl rfl) (hk9.getS rfl rfl) (fun j => (hk9.getA rfl rfl rfl)) (fun j => (hk9.getA rfl rfl rfl)) (fun j => (hk9.getA rfl rfl rfl)) (fun j => (hk9.getA rfl rfl rfl)) (fun j => (hk9.getA rfl rfl rfl)) (fun j => (hk9.getA rfl rfl rfl))
    have hv12 : zV M5 a wt 0 := U_drop hp11
    exact q_vret C dX12_passes_41 ⟨rfl, rfl⟩ (by rw [hPo]; exact ⟨M5, J6, rfl, rfl, hI7, hK10, h3, h4, hv12⟩)
  · have gl := zX.lst p1 (by omega) (by omega)
    refine q_aload_n C dX12_passes_7 (n := 8) rfl rfl ?_
    refine q_getR C dX12_passes_8 (n := 11) rfl f_X12_138 (zM0 h0) (hF _ _ _ (zM136 h0)) ?_
    refine q_aload_n C dX12_passes_11 (n := 12) rfl rfl ?_
    have g13 := zI.at hI (zM146 h0)
    refine q_getI C dX12_passes_12 (n := 15) rfl f_X12_451 (zM0 h0) (v := M a 61) rfl ?_
    refine q_iload_n C dX12_passes_15 (n := 16) rfl rfl ?_
    refine q_iast C dX12_passes_16 (n := 17) rfl (zM137 h0) (by omega)  (fun M14 e15 => ?_)
    have hI16 : zI G M14 := hI.put e15 ((zM138 h0) (M a 61)) rfl (by omega)
    have hK17 := hK0.upA e15 rfl
    refine q_aload_n C dX12_passes_17 (n := 18) rfl rfl ?_
    refine q_dup C dX12_passes_18 (n := 19) rfl rfl ?_
    refine q_getI C dX12_passes_19 (n := 22) rfl f_X12_451 (zM0 h0) (v := M a 61) (zup_p e15 (by omega) _) ?_
    refine q_iconst C dX12_passes_22 (n := 23) rfl ?_
    refine q_iadd C dX12_passes_23 (n := 24) rfl (v := (M a 61) + 1) rfl ?_
    refine q_putI C dX12_passes_24 (n := 27) rfl f_X12_451 (zM0 h0) ⟨rfl, rfl⟩ (fun M18 (e19 : M18 = zup M14 a 61 ((M a 61) + 1)) => ?_)
    have hI20 : zI G M18 := hI16.put e19 (zM146 h0) rfl (by omega)
    have hK21 := hK17.upS e19 rfl
    have hx22 : zX M18 a mb mp n A0 (v - 1) u z := zY.cgr (Y_list p1 (by omega) (by omega) (by omega)) ((zup_n e19 (by omega)).trans (zup_p e15 (by omega) _)) ((zup_n e19 (by omega)).trans (zup_p e15 (by omega) _)) ((zup_n e19 (by omega)).trans (zup_p e15 (by omega) _)) ((zup_n e19 (by omega)).trans (zup_p e15 (by omega) _)) ((zup_n e19 (by omega)).trans (zup_p e15 (by omega) _)) ((zup_n e19 (by omega)).trans (zup_p e15 (by omega) _)) ((zup_n e19 (by omega)).trans (zup_p e15 (by omega) _)) ((zup_n e19 (by omega)).trans (zup_p e15 (by omega) _)) (by have hw : M18 a 61 = (M a 61) + 1 := (zup_s e19); omega) (funext fun j => ((zup_p e19 (by omega) _).trans (zup_p e15 (by omega) _))) (funext fun j => ((zup_p e19 (by omega) _).trans (zup_p e15 (by omega) _))) (funext fun j => ((zup_p e19 (by omega) _).trans (zup_p e15 (by omega) _))) (funext fun j => ((zup_p e19 (by omega) _).trans (zup_p e15 (by omega) _))) (funext fun j => ((zup_p e19 (by omega) _).trans (zup_p e15 (by omega) _))) (funext fun j => ((zup_p e19 (by omega) _).trans (zup_p e15 (by omega) _))) (funext fun j => ((zup_p e19 (by omega) _).trans (zup_p e15 (by omega) _))) (funext fun j => ((zup_p e19 (by omega) _).trans (zup_p e15 (by omega) _))) (funext fun j => ((zup_p e19 (by omega) _).trans (zup_p e15 (by omega) _))) (funext fun j => ((zup_p e19 (by omega) _).trans (zup_p e15 (by omega) _))) (funext fun j => ((zup_p e19 (by omega) _).trans (zup_p e15 (by omega) _))) (funext fun j => ((zup_p e19 (by omega) _).trans (zup_p e15 (by omega) _))) (funext fun j => ((zup_p e19 (by omega) _).trans (zup_p e15 (by omega) _)))
    have hv23 : zV M18 a wt 0 := zU.cgr (U_list p5 (t := v1) (by omega)) ((zup_n e19 (by omega)).trans (zup_p e15 (by omega) _)) ((zup_n e19 (by omega)).trans (zup_p e15 (by omega) _)) ((zup_n e19 (by omega)).trans (zup_p e15 (by omega) _)) (by have hw : M18 a 61 = (M a 61) + 1 := (zup_s e19); omega) ((zup_n e19 (by omega)).trans (zup_p e15 (by omega) _)) (funext fun j => ((zup_p e19 (by omega) _).trans (zup_p e15 (by omega) _))) (funext fun j => ((zup_p e19 (by omega) _).trans (zup_p e15 (by omega) _))) (funext fun j => ((zup_p e19 (by omega) _).trans (zup_p e15 (by omega) _))) (funext fun j => ((zup_p e19 (by omega) _).trans (zup_p e15 (by omega) _))) (funext fun j => ((zup_p e19 (by omega) _).trans (zup_p e15 (by omega) _))) (funext fun j => by by_cases q : j = (M a 61); (rw [q, yup_s]; have hw : M18 (a + 41) (M a 61) = v1 := ((zup_p e19 (by omega) _).trans (zup_e e15 (by omega))); omega); (rw [yup_n q]; exact ((zup_p e19 (by omega) _).trans (zup_n e15 (by omega)))))
    refine q_goto C 41 dX12_passes_27 rfl ?_
    have hp24 : zOg M18 a og lg := p2.cg (fun j => ((zup_p e19 (by omega) _).trans (zup_p e15 (by omega) _))) (fun j => ((zup_p e19 (by omega) _).trans (zup_p e15 (by omega) _)))
    exact q_vret C dX12_passes_41 ⟨rfl, rfl⟩ (by rw [hPo]; exact ⟨M18, J, rfl, rfl, hI20, hK21, hx22, hp24, hv23⟩)
theorem c_X12_beginsV {w : zWp} {T : zTl} {M : zMm} {J : zJm} {R : zRm'} {G : zGt} {F : zRm'} {a : Nat} {mb mp : Int → Int} {n A0 v u z : Int} {wt : Int → Int} (hI : zI G M) (hF : zF F R) (h0 : zModel T F G a) (v1 : Int) (v2 : Int) (v3 : Int) (f : Int) (p1 : zX M a mb mp n A0 v u z) (p2 : M a 57 = f) (p3 : n = f) (p4 : M (a + 32) f = A0) (p5 : 0 ≤ v1 ∧ v1 ≤ 3499) (p6 : 0 ≤ v2 ∧ v2 ≤ 11) (p7 : -2147483648 ≤ v3 ∧ v3 ≤ 2147483647) (p8 : zAg M a mp f A0 v2) (p9 : zMa M a mb mp) (p10 : zV M a wt 0) (p11 : ¬ M a 57 = 0 ∨ M (a + 28) 0 < 0) : zCt w 3 0 0 yX12_begins cX12_begins 4 (some .boolean) [.ref (w.2.1 + a), zi v1, zi v2, zi v3] (T, M, J, R) (zPi T R G (fun x M2 => (zMd a [18, 28, 29, 30, 31, 34, 35, 36] [62] [] M M2) ∧ (x = 0 ∨ x = 1) ∧ (x = 0 ∨ zX M2 a mb mp (n + 1) (M a 59) 0 0 0) ∧ (x = 0 ∨ zMu M2 a (n + 1) + 27000 ≤ zMu M a n) ∧ (zMa M2 a mb mp) ∧ (M2 (a + 18) 3 = M (a + 18) 3) ∧ (x = 0 ∨ zV M2 a wt 0))) := by
  refine zCt.of rfl (Nat.le_of_ble_eq_true rfl) ?_
  intro p e s m args below meth c C
  obtain ⟨Po, hPo⟩ : ∃ Po, Po = zPi T R G (fun x M2 => (zMd a [18, 28, 29, 30, 31, 34, 35, 36] [62] [] M M2) ∧ (x = 0 ∨ x = 1) ∧ (x = 0 ∨ zX M2 a mb mp (n + 1) (M a 59) 0 0 0) ∧ (x = 0 ∨ zMu M2 a (n + 1) + 27000 ≤ zMu M a n) ∧ (zMa M2 a mb mp) ∧ (M2 (a + 18) 3 = M (a + 18) 3) ∧ (x = 0 ∨ zV M2 a wt 0)) := ⟨_, rfl⟩
  rw [← hPo]
  subst p2
  have hK0 : zMd a [18, 28, 29, 30, 31, 34, 35, 36] [62] [] M M := zMd.rf
  have gk_frame := zI.at hI (zM142 h0)
  have gk_expansions := zI.at hI (zM147 h0)
  have gx0 := zX.num p1
  show zK w p e 3 0 0 s m args below meth c 4 T Po 0 [.ref (w.2.1 + a), zi v1, zi v2, zi v3] [] (T, M, J, R)
  refine q_aload_n C dX12_begins_0 (n := 1) rfl rfl ?_
  have g1 := zI.at hI (zM147 h0)
  refine q_getI C dX12_begins_1 (n := 4) rfl f_X12_509 (zM0 h0) (v := M a 62) rfl ?_
  refine q_bipush C dX12_begins_4 (n := 6) rfl (x := 100) (by decide) ?_
  refine q_icmp_ne C 17 dX12_begins_6 (n := 9) rfl rfl (by omega) (fun h2 => ?_) (fun h2 => ?_)
  · refine q_aload_n C dX12_begins_17 (n := 18) rfl rfl ?_
    refine q_dup C dX12_begins_18 (n := 19) rfl rfl ?_
    refine q_getI C dX12_begins_19 (n := 22) rfl f_X12_509 (zM0 h0) (v := M a 62) rfl ?_
    refine q_iconst C dX12_begins_22 (n := 23) rfl ?_
    refine q_iadd C dX12_begins_23 (n := 24) rfl (v := (M a 62) + 1) rfl ?_
    refine q_putI C dX12_begins_24 (n := 27) rfl f_X12_509 (zM0 h0) ⟨rfl, rfl⟩ (fun M3 (e4 : M3 = zup M a 62 ((M a 62) + 1)) => ?_)
    have hI5 : zI G M3 := hI.put e4 (zM147 h0) rfl (by omega)
    have hK6 := hK0.upS e4 rfl
    refine q_aload_n C dX12_begins_27 (n := 28) rfl rfl ?_
    refine q_getR C dX12_begins_28 (n := 31) rfl f_X12_68 (zM0 h0) (hF _ _ _ (zM65 h0)) ?_
    refine q_bipush C dX12_begins_31 (n := 33) rfl (x := 6) (by decide) ?_
    refine q_dup2 C dX12_begins_33 (n := 34) rfl ⟨rfl, rfl⟩ ?_
    have g7 := zI.at hI (((zM67 h0) 6).trans (zwG_1 (by omega)))
    refine q_iald C dX12_begins_34 (n := 35) rfl (zM66 h0) (by omega) (v := M (a + 18) 6) (zup_p e4 (by omega) _) ?_
    refine q_iconst C dX12_begins_35 (n := 36) rfl ?_
    refine q_iadd C dX12_begins_36 (n := 37) rfl (v := (M (a + 18) 6) + 1) rfl ?_
    refine q_wrap C ?_
    have g8 := zr_wr ((M (a + 18) 6) + 1)
    refine q_iast C dX12_begins_37 (n := 38) rfl (zM66 h0) (by omega)  (fun M9 e10 => ?_)
    have hp11 : zMa M3 a mb mp := p9.cg (fun j j0 j1 => (zup_p e4 (by omega) _)) (fun j => (zup_p e4 (by omega) _))
    have hp12 : zMa M9 a mb mp := hp11.up e10 (by omega)
    have hI13 : zI G M9 := hI5.put e10 (((zM67 h0) 6).trans (zwG_1 (by omega))) rfl (by omega)
    have hK14 := hK6.upA e10 rfl
    refine q_aload_n C dX12_begins_38 (n := 39) rfl rfl ?_
    refine q_getR C dX12_begins_39 (n := 42) rfl f_X12_68 (zM0 h0) (hF _ _ _ (zM65 h0)) ?_
    refine q_sipush C dX12_begins_42 (n := 45) rfl (x := 247) (by decide) ?_
    refine q_iload_n C dX12_begins_45 (n := 46) rfl rfl ?_
    refine q_iadd C dX12_begins_46 (n := 47) rfl (v := 247 + v2) rfl ?_
    refine q_dup2 C dX12_begins_47 (n := 48) rfl ⟨rfl, rfl⟩ ?_
    have g15 := zI.at hI13 (((zM67 h0) (247 + v2)).trans (zwG_223 (by omega)))
    refine q_iald C dX12_begins_48 (n := 49) rfl (zM66 h0) (by omega) (v := M9 (a + 18) (247 + v2)) rfl ?_
    refine q_iconst C dX12_begins_49 (n := 50) rfl ?_
    refine q_iadd C dX12_begins_50 (n := 51) rfl (v := (M9 (a + 18) (247 + v2)) + 1) rfl ?_
    refine q_wrap C ?_
    have g16 := zr_wr ((M9 (a + 18) (247 + v2)) + 1)
    refine q_iast C dX12_begins_51 (n := 52) rfl (zM66 h0) (by omega)  (fun M17 e18 => ?_)
    have hp19 : zMa M17 a mb mp := hp12.up e18 (by omega)
    have hI20 : zI G M17 := hI13.put e18 (((zM67 h0) (247 + v2)).trans (zwG_223 (by omega))) rfl (by omega)
    have hK21 := hK14.upA e18 rfl
    refine q_aload_n C dX12_begins_52 (n := 53) rfl rfl ?_
    refine q_getR C dX12_begins_53 (n := 56) rfl f_X12_98 (zM0 h0) (hF _ _ _ (zM97 h0)) ?_
    refine q_aload_n C dX12_begins_56 (n := 57) rfl rfl ?_
    have g22 := zI.at hI (zM142 h0)
    refine q_getI C dX12_begins_57 (n := 60) rfl f_X12_448 (zM0 h0) (v := M a 57) ((zup_p e18 (by omega) _).trans ((zup_p e10 (by omega) _).trans (zup_n e4 (by omega)))) ?_
    refine q_iload_n C dX12_begins_60 (n := 61) rfl rfl ?_
    refine q_iast C dX12_begins_61 (n := 62) rfl (zM98 h0) (by omega)  (fun M23 e24 => ?_)
    have hI25 : zI G M23 := hI20.put e24 ((zM99 h0) (M a 57)) rfl (by omega)
    have hK26 := hK21.upA e24 rfl
    refine q_aload_n C dX12_begins_62 (n := 63) rfl rfl ?_
    refine q_getR C dX12_begins_63 (n := 66) rfl f_X12_101 (zM0 h0) (hF _ _ _ (zM100 h0)) ?_
    refine q_aload_n C dX12_begins_66 (n := 67) rfl rfl ?_
    refine q_getI C dX12_begins_67 (n := 70) rfl f_X12_448 (zM0 h0) (v := M a 57) ((zup_p e24 (by omega) _).trans ((zup_p e18 (by omega) _).trans ((zup_p e10 (by omega) _).trans (zup_n e4 (by omega))))) ?_
    refine q_iload_n C dX12_begins_70 (n := 71) rfl rfl ?_
    refine q_iast C dX12_begins_71 (n := 72) rfl (zM101 h0) (by omega)  (fun M27 e28 => ?_)
    have hI29 : zI G M27 := hI25.put e28 ((zM102 h0) (M a 57)) rfl (by omega)
    have hK30 := hK26.upA e28 rfl
    refine q_aload_n C dX12_begins_72 (n := 73) rfl rfl ?_
    refine q_getR C dX12_begins_73 (n := 76) rfl f_X12_104 (zM0 h0) (hF _ _ _ (zM103 h0)) ?_
    refine q_aload_n C dX12_begins_76 (n := 77) rfl rfl ?_
    refine q_getI C dX12_begins_77 (n := 80) rfl f_X12_448 (zM0 h0) (v := M a 57) ((zup_p e28 (by omega) _).trans ((zup_p e24 (by omega) _).trans ((zup_p e18 (by omega) _).trans ((zup_p e10 (by omega) _).trans (zup_n e4 (by omega)))))) ?_
    refine q_iload_n C dX12_begins_80 (n := 81) rfl rfl ?_
    refine q_iconst C dX12_begins_81 (n := 82) rfl ?_
    refine q_iload_n C dX12_begins_82 (n := 83) rfl rfl ?_
    refine q_ishl C dX12_begins_83 (n := 84) rfl (v := zshl 1 v2) rfl ?_
    have g31 := zr_shl 1 v2
    have g32 : 0 ≤ v2 ∧ v2 ≤ 3 → 1 ≤ zshl 1 v2 ∧ zshl 1 v2 ≤ 8 := fun h => zshl1 h
    refine q_ior C dX12_begins_84 (n := 85) rfl (v := zor v3 (zshl 1 v2)) rfl ?_
    have g33 := zr_or v3 (zshl 1 v2)
    have g34 : zand v3 31 = 0 → zand (zor v3 (zshl 1 v2)) 31 = zand (zshl 1 v2) 31 := fun h => zl_or h
    refine q_iast C dX12_begins_85 (n := 86) rfl (zM104 h0) (by omega)  (fun M35 e36 => ?_)
    have hI37 : zI G M35 := hI29.put e36 ((zM105 h0) (M a 57)) rfl (by omega)
    have hK38 := hK30.upA e36 rfl
    refine q_aload_n C dX12_begins_86 (n := 87) rfl rfl ?_
    refine q_getR C dX12_begins_87 (n := 90) rfl f_X12_107 (zM0 h0) (hF _ _ _ (zM106 h0)) ?_
    refine q_aload_n C dX12_begins_90 (n := 91) rfl rfl ?_
    refine q_getI C dX12_begins_91 (n := 94) rfl f_X12_448 (zM0 h0) (v := M a 57) ((zup_p e36 (by omega) _).trans ((zup_p e28 (by omega) _).trans ((zup_p e24 (by omega) _).trans ((zup_p e18 (by omega) _).trans ((zup_p e10 (by omega) _).trans (zup_n e4 (by omega))))))) ?_
    refine q_iconst C dX12_begins_94 (n := 95) rfl ?_
    refine q_iast C dX12_begins_95 (n := 96) rfl (zM107 h0) (by omega)  (fun M39 e40 => ?_)
    have hI41 : zI G M39 := hI37.put e40 ((zM108 h0) (M a 57)) rfl (by omega)
    have hK42 := hK38.upA e40 rfl
    refine q_aload_n C dX12_begins_96 (n := 97) rfl rfl ?_
    refine q_getR C dX12_begins_97 (n := 100) rfl f_X12_116 (zM0 h0) (hF _ _ _ (zM115 h0)) ?_
    refine q_aload_n C dX12_begins_100 (n := 101) rfl rfl ?_
    refine q_getI C dX12_begins_101 (n := 104) rfl f_X12_448 (zM0 h0) (v := M a 57) ((zup_p e40 (by omega) _).trans ((zup_p e36 (by omega) _).trans ((zup_p e28 (by omega) _).trans ((zup_p e24 (by omega) _).trans ((zup_p e18 (by omega) _).trans ((zup_p e10 (by omega) _).trans (zup_n e4 (by omega)))))))) ?_
    refine q_aload_n C dX12_begins_104 (n := 105) rfl rfl ?_
    have g43 := zI.at hI (zM145 h0)
    refine q_getI C dX12_begins_105 (n := 108) rfl f_X12_458 (zM0 h0) (v := M a 60) ((zup_p e40 (by omega) _).trans ((zup_p e36 (by omega) _).trans ((zup_p e28 (by omega) _).trans ((zup_p e24 (by omega) _).trans ((zup_p e18 (by omega) _).trans ((zup_p e10 (by omega) _).trans (zup_n e4 (by omega)))))))) ?_
    refine q_iast C dX12_begins_108 (n := 109) rfl (zM116 h0) (by omega)  (fun M44 e45 => ?_)
    have hI46 : zI G M44 := hI41.put e45 ((zM117 h0) (M a 57)) rfl (by omega)
    have hK47 := hK42.upA e45 rfl
    refine q_aload_n C dX12_begins_109 (n := 110) rfl rfl ?_
    refine q_getR C dX12_begins_110 (n := 113) rfl f_X12_119 (zM0 h0) (hF _ _ _ (zM118 h0)) ?_
    refine q_aload_n C dX12_begins_113 (n := 114) rfl rfl ?_
    refine q_getI C dX12_begins_114 (n := 117) rfl f_X12_448 (zM0 h0) (v := M a 57) ((zup_p e45 (by omega) _).trans ((zup_p e40 (by omega) _).trans ((zup_p e36 (by omega) _).trans ((zup_p e28 (by omega) _).trans ((zup_p e24 (by omega) _).trans ((zup_p e18 (by omega) _).trans ((zup_p e10 (by omega) _).trans (zup_n e4 (by omega))))))))) ?_
    refine q_aload_n C dX12_begins_117 (n := 118) rfl rfl ?_
    have g48 := zI.at hI (zM61 h0)
    refine q_getI C dX12_begins_118 (n := 121) rfl f_X12_397 (zM0 h0) (v := M a 26) ((zup_p e45 (by omega) _).trans ((zup_p e40 (by omega) _).trans ((zup_p e36 (by omega) _).trans ((zup_p e28 (by omega) _).trans ((zup_p e24 (by omega) _).trans ((zup_p e18 (by omega) _).trans ((zup_p e10 (by omega) _).trans (zup_n e4 (by omega))))))))) ?_
    refine q_iast C dX12_begins_121 (n := 122) rfl (zM119 h0) (by omega)  (fun M49 e50 => ?_)
    have hI51 : zI G M49 := hI46.put e50 ((zM120 h0) (M a 57)) rfl (by omega)
    have hK52 := hK47.upA e50 rfl
    refine q_aload_n C dX12_begins_122 (n := 123) rfl rfl ?_
    refine q_getR C dX12_begins_123 (n := 126) rfl f_X12_122 (zM0 h0) (hF _ _ _ (zM121 h0)) ?_
    refine q_aload_n C dX12_begins_126 (n := 127) rfl rfl ?_
    refine q_getI C dX12_begins_127 (n := 130) rfl f_X12_448 (zM0 h0) (v := M a 57) ((zup_p e50 (by omega) _).trans ((zup_p e45 (by omega) _).trans ((zup_p e40 (by omega) _).trans ((zup_p e36 (by omega) _).trans ((zup_p e28 (by omega) _).trans ((zup_p e24 (by omega) _).trans ((zup_p e18 (by omega) _).trans ((zup_p e10 (by omega) _).trans (zup_n e4 (by omega)))))))))) ?_
    refine q_iconst C dX12_begins_130 (n := 131) rfl ?_
    refine q_iast C dX12_begins_131 (n := 132) rfl (zM122 h0) (by omega)  (fun M53 e54 => ?_)
    have hI55 : zI G M53 := hI51.put e54 ((zM123 h0) (M a 57)) rfl (by omega)
    have hK56 := hK52.upA e54 rfl
    have hx57 : zX M53 a mb mp (n + 1) (M a 59) 0 0 0 := zY.cgr (Y_begin p1 (by omega) (by omega) (show M (a + 32) (M a 57) = A0 from p4) (m := v2) (by omega) p8) (by have hw : M53 a 62 = (M a 62) + 1 := ((zup_p e54 (by omega) _).trans ((zup_p e50 (by omega) _).trans ((zup_p e45 (by omega) _).trans ((zup_p e40 (by omega) _).trans ((zup_p e36 (by omega) _).trans ((zup_p e28 (by omega) _).trans ((zup_p e24 (by omega) _).trans ((zup_p e18 (by omega) _).trans ((zup_p e10 (by omega) _).trans (zup_s e4)))))))))); omega) ((zup_p e54 (by omega) _).trans ((zup_p e50 (by omega) _).trans ((zup_p e45 (by omega) _).trans ((zup_p e40 (by omega) _).trans ((zup_p e36 (by omega) _).trans ((zup_p e28 (by omega) _).trans ((zup_p e24 (by omega) _).trans ((zup_p e18 (by omega) _).trans ((zup_p e10 (by omega) _).trans (zup_n e4 (by omega))))))))))) ((zup_p e54 (by omega) _).trans ((zup_p e50 (by omega) _).trans ((zup_p e45 (by omega) _).trans ((zup_p e40 (by omega) _).trans ((zup_p e36 (by omega) _).trans ((zup_p e28 (by omega) _).trans ((zup_p e24 (by omega) _).trans ((zup_p e18 (by omega) _).trans ((zup_p e10 (by omega) _).trans (zup_n e4 (by omega))))))))))) ((zup_p e54 (by omega) _).trans ((zup_p e50 (by omega) _).trans ((zup_p e45 (by omega) _).trans ((zup_p e40 (by omega) _).trans ((zup_p e36 (by omega) _).trans ((zup_p e28 (by omega) _).trans ((zup_p e24 (by omega) _).trans ((zup_p e18 (by omega) _).trans ((zup_p e10 (by omega) _).trans (zup_n e4 (by omega))))))))))) ((zup_p e54 (by omega) _).trans ((zup_p e50 (by omega) _).trans ((zup_p e45 (by omega) _).trans ((zup_p e40 (by omega) _).trans ((zup_p e36 (by omega) _).trans ((zup_p e28 (by omega) _).trans ((zup_p e24 (by omega) _).trans ((zup_p e18 (by omega) _).trans ((zup_p e10 (by omega) _).trans (zup_n e4 (by omega))))))))))) ((zup_p e54 (by omega) _).trans ((zup_p e50 (by omega) _).trans ((zup_p e45 (by omega) _).trans ((zup_p e40 (by omega) _).trans ((zup_p e36 (by omega) _).trans ((zup_p e28 (by omega) _).trans ((zup_p e24 (by omega) _).trans ((zup_p e18 (by omega) _).trans ((zup_p e10 (by omega) _).trans (zup_n e4 (by omega))))))))))) ((zup_p e54 (by omega) _).trans ((zup_p e50 (by omega) _).trans ((zup_p e45 (by omega) _).trans ((zup_p e40 (by omega) _).trans ((zup_p e36 (by omega) _).trans ((zup_p e28 (by omega) _).trans ((zup_p e24 (by omega) _).trans ((zup_p e18 (by omega) _).trans ((zup_p e10 (by omega) _).trans (zup_n e4 (by omega))))))))))) ((zup_p e54 (by omega) _).trans ((zup_p e50 (by omega) _).trans ((zup_p e45 (by omega) _).trans ((zup_p e40 (by omega) _).trans ((zup_p e36 (by omega) _).trans ((zup_p e28 (by omega) _).trans ((zup_p e24 (by omega) _).trans ((zup_p e18 (by omega) _).trans ((zup_p e10 (by omega) _).trans (zup_n e4 (by omega))))))))))) ((zup_p e54 (by omega) _).trans ((zup_p e50 (by omega) _).trans ((zup_p e45 (by omega) _).trans ((zup_p e40 (by omega) _).trans ((zup_p e36 (by omega) _).trans ((zup_p e28 (by omega) _).trans ((zup_p e24 (by omega) _).trans ((zup_p e18 (by omega) _).trans ((zup_p e10 (by omega) _).trans (zup_n e4 (by omega))))))))))) (funext fun j => ((zup_p e54 (by omega) _).trans ((zup_p e50 (by omega) _).trans ((zup_p e45 (by omega) _).trans ((zup_p e40 (by omega) _).trans ((zup_p e36 (by omega) _).trans ((zup_p e28 (by omega) _).trans ((zup_p e24 (by omega) _).trans ((zup_p e18 (by omega) _).trans ((zup_p e10 (by omega) _).trans (zup_p e4 (by omega) _))))))))))) (funext fun j => ((zup_p e54 (by omega) _).trans ((zup_p e50 (by omega) _).trans ((zup_p e45 (by omega) _).trans ((zup_p e40 (by omega) _).trans ((zup_p e36 (by omega) _).trans ((zup_p e28 (by omega) _).trans ((zup_p e24 (by omega) _).trans ((zup_p e18 (by omega) _).trans ((zup_p e10 (by omega) _).trans (zup_p e4 (by omega) _))))))))))) (funext fun j => ((zup_p e54 (by omega) _).trans ((zup_p e50 (by omega) _).trans ((zup_p e45 (by omega) _).trans ((zup_p e40 (by omega) _).trans ((zup_p e36 (by omega) _).trans ((zup_p e28 (by omega) _).trans ((zup_p e24 (by omega) _).trans ((zup_p e18 (by omega) _).trans ((zup_p e10 (by omega) _).trans (zup_p e4 (by omega) _))))))))))) (funext fun j => ((zup_p e54 (by omega) _).trans ((zup_p e50 (by omega) _).trans ((zup_p e45 (by omega) _).trans ((zup_p e40 (by omega) _).trans ((zup_p e36 (by omega) _).trans ((zup_p e28 (by omega) _).trans ((zup_p e24 (by omega) _).trans ((zup_p e18 (by omega) _).trans ((zup_p e10 (by omega) _).trans (zup_p e4 (by omega) _))))))))))) (funext fun j => by by_cases q : j = (M a 57); (rw [q, yup_s]; have hw : M53 (a + 28) (M a 57) = v2 := ((zup_p e54 (by omega) _).trans ((zup_p e50 (by omega) _).trans ((zup_p e45 (by omega) _).trans ((zup_p e40 (by omega) _).trans ((zup_p e36 (by omega) _).trans ((zup_p e28 (by omega) _).trans (zup_e e24 (by omega)))))))); omega); (rw [yup_n q]; exact ((zup_p e54 (by omega) _).trans ((zup_p e50 (by omega) _).trans ((zup_p e45 (by omega) _).trans ((zup_p e40 (by omega) _).trans ((zup_p e36 (by omega) _).trans ((zup_p e28 (by omega) _).trans ((zup_n e24 (by omega)).trans ((zup_p e18 (by omega) _).trans ((zup_p e10 (by omega) _).trans (zup_p e4 (by omega) _)))))))))))) (funext fun j => by by_cases q : j = (M a 57); (rw [q, yup_s]; have hw : M53 (a + 31) (M a 57) = 0 := ((zup_p e54 (by omega) _).trans ((zup_p e50 (by omega) _).trans ((zup_p e45 (by omega) _).trans (zup_e e40 (by omega))))); omega); (rw [yup_n q]; exact ((zup_p e54 (by omega) _).trans ((zup_p e50 (by omega) _).trans ((zup_p e45 (by omega) _).trans ((zup_n e40 (by omega)).trans ((zup_p e36 (by omega) _).trans ((zup_p e28 (by omega) _).trans ((zup_p e24 (by omega) _).trans ((zup_p e18 (by omega) _).trans ((zup_p e10 (by omega) _).trans (zup_p e4 (by omega) _)))))))))))) (funext fun j => ((zup_p e54 (by omega) _).trans ((zup_p e50 (by omega) _).trans ((zup_p e45 (by omega) _).trans ((zup_p e40 (by omega) _).trans ((zup_p e36 (by omega) _).trans ((zup_p e28 (by omega) _).trans ((zup_p e24 (by omega) _).trans ((zup_p e18 (by omega) _).trans ((zup_p e10 (by omega) _).trans (zup_p e4 (by omega) _))))))))))) (funext fun j => ((zup_p e54 (by omega) _).trans ((zup_p e50 (by omega) _).trans ((zup_p e45 (by omega) _).trans ((zup_p e40 (by omega) _).trans ((zup_p e36 (by omega) _).trans ((zup_p e28 (by omega) _).trans ((zup_p e24 (by omega) _).trans ((zup_p e18 (by omega) _).trans ((zup_p e10 (by omega) _).trans (zup_p e4 (by omega) _))))))))))) (funext fun j => by by_cases q : j = (M a 57); (rw [q, yup_s]; have hw : M53 (a + 34) (M a 57) = M a 60 := ((zup_p e54 (by omega) _).trans ((zup_p e50 (by omega) _).trans (zup_e e45 (by omega)))); omega); (rw [yup_n q]; exact ((zup_p e54 (by omega) _).trans ((zup_p e50 (by omega) _).trans ((zup_n e45 (by omega)).trans ((zup_p e40 (by omega) _).trans ((zup_p e36 (by omega) _).trans ((zup_p e28 (by omega) _).trans ((zup_p e24 (by omega) _).trans ((zup_p e18 (by omega) _).trans ((zup_p e10 (by omega) _).trans (zup_p e4 (by omega) _)))))))))))) (funext fun j => by by_cases q : j = (M a 57); (rw [q, yup_s]; have hw : M53 (a + 35) (M a 57) = M a 26 := ((zup_p e54 (by omega) _).trans (zup_e e50 (by omega))); omega); (rw [yup_n q]; exact ((zup_p e54 (by omega) _).trans ((zup_n e50 (by omega)).trans ((zup_p e45 (by omega) _).trans ((zup_p e40 (by omega) _).trans ((zup_p e36 (by omega) _).trans ((zup_p e28 (by omega) _).trans ((zup_p e24 (by omega) _).trans ((zup_p e18 (by omega) _).trans ((zup_p e10 (by omega) _).trans (zup_p e4 (by omega) _)))))))))))) (funext fun j => by by_cases q : j = (M a 57); (rw [q, yup_s]; have hw : M53 (a + 36) (M a 57) = 0 := (zup_e e54 (by omega)); omega); (rw [yup_n q]; exact ((zup_n e54 (by omega)).trans ((zup_p e50 (by omega) _).trans ((zup_p e45 (by omega) _).trans ((zup_p e40 (by omega) _).trans ((zup_p e36 (by omega) _).trans ((zup_p e28 (by omega) _).trans ((zup_p e24 (by omega) _).trans ((zup_p e18 (by omega) _).trans ((zup_p e10 (by omega) _).trans (zup_p e4 (by omega) _)))))))))))) (funext fun j => ((zup_p e54 (by omega) _).trans ((zup_p e50 (by omega) _).trans ((zup_p e45 (by omega) _).trans ((zup_p e40 (by omega) _).trans ((zup_p e36 (by omega) _).trans ((zup_p e28 (by omega) _).trans ((zup_p e24 (by omega) _).trans ((zup_p e18 (by omega) _).trans ((zup_p e10 (by omega) _).trans (zup_p e4 (by omega) _))))))))))) (funext fun j => ((zup_p e54 (by omega) _).trans ((zup_p e50 (by omega) _).trans ((zup_p e45 (by omega) _).trans ((zup_p e40 (by omega) _).trans ((zup_p e36 (by omega) _).trans ((zup_p e28 (by omega) _).trans ((zup_p e24 (by omega) _).trans ((zup_p e18 (by omega) _).trans ((zup_p e10 (by omega) _).trans (zup_p e4 (by omega) _)))))))))))
    have hv58 : zV M53 a wt 0 := zU.cgr (U_begin p10 (m := v2) (by omega) (by omega)) ((zup_p e54 (by omega) _).trans ((zup_p e50 (by omega) _).trans ((zup_p e45 (by omega) _).trans ((zup_p e40 (by omega) _).trans ((zup_p e36 (by omega) _).trans ((zup_p e28 (by omega) _).trans ((zup_p e24 (by omega) _).trans ((zup_p e18 (by omega) _).trans ((zup_p e10 (by omega) _).trans (zup_n e4 (by omega))))))))))) ((zup_p e54 (by omega) _).trans ((zup_p e50 (by omega) _).trans ((zup_p e45 (by omega) _).trans ((zup_p e40 (by omega) _).trans ((zup_p e36 (by omega) _).trans ((zup_p e28 (by omega) _).trans ((zup_p e24 (by omega) _).trans ((zup_p e18 (by omega) _).trans ((zup_p e10 (by omega) _).trans (zup_n e4 (by omega))))))))))) ((zup_p e54 (by omega) _).trans ((zup_p e50 (by omega) _).trans ((zup_p e45 (by omega) _).trans ((zup_p e40 (by omega) _).trans ((zup_p e36 (by omega) _).trans ((zup_p e28 (by omega) _).trans ((zup_p e24 (by omega) _).trans ((zup_p e18 (by omega) _).trans ((zup_p e10 (by omega) _).trans (zup_n e4 (by omega))))))))))) ((zup_p e54 (by omega) _).trans ((zup_p e50 (by omega) _).trans ((zup_p e45 (by omega) _).trans ((zup_p e40 (by omega) _).trans ((zup_p e36 (by omega) _).trans ((zup_p e28 (by omega) _).trans ((zup_p e24 (by omega) _).trans ((zup_p e18 (by omega) _).trans ((zup_p e10 (by omega) _).trans (zup_n e4 (by omega))))))))))) (by have hw : M53 a 62 = (M a 62) + 1 := ((zup_p e54 (by omega) _).trans ((zup_p e50 (by omega) _).trans ((zup_p e45 (by omega) _).trans ((zup_p e40 (by omega) _).trans ((zup_p e36 (by omega) _).trans ((zup_p e28 (by omega) _).trans ((zup_p e24 (by omega) _).trans ((zup_p e18 (by omega) _).trans ((zup_p e10 (by omega) _).trans (zup_s e4)))))))))); omega) (funext fun j => ((zup_p e54 (by omega) _).trans ((zup_p e50 (by omega) _).trans ((zup_p e45 (by omega) _).trans ((zup_p e40 (by omega) _).trans ((zup_p e36 (by omega) _).trans ((zup_p e28 (by omega) _).trans ((zup_p e24 (by omega) _).trans ((zup_p e18 (by omega) _).trans ((zup_p e10 (by omega) _).trans (zup_p e4 (by omega) _))))))))))) (funext fun j => ((zup_p e54 (by omega) _).trans ((zup_p e50 (by omega) _).trans ((zup_p e45 (by omega) _).trans ((zup_p e40 (by omega) _).trans ((zup_p e36 (by omega) _).trans ((zup_p e28 (by omega) _).trans ((zup_p e24 (by omega) _).trans ((zup_p e18 (by omega) _).trans ((zup_p e10 (by omega) _).trans (zup_p e4 (by omega) _))))))))))) (funext fun j => ((zup_p e54 (by omega) _).trans ((zup_p e50 (by omega) _).trans ((zup_p e45 (by omega) _).trans ((zup_p e40 (by omega) _).trans ((zup_p e36 (by omega) _).trans ((zup_p e28 (by omega) _).trans ((zup_p e24 (by omega) _).trans ((zup_p e18 (by omega) _).trans ((zup_p e10 (by omega) _).trans (zup_p e4 (by omega) _))))))))))) (funext fun j => ((zup_p e54 (by omega) _).trans ((zup_p e50 (by omega) _).trans ((zup_p e45 (by omega) _).trans ((zup_p e40 (by omega) _).trans ((zup_p e36 (by omega) _).trans ((zup_p e28 (by omega) _).trans ((zup_p e24 (by omega) _).trans ((zup_p e18 (by omega) _).trans ((zup_p e10 (by omega) _).trans (zup_p e4 (by omega) _))))))))))) (funext fun j => by by_cases q : j = (M a 57); (rw [q, yup_s]; have hw : M53 (a + 28) (M a 57) = v2 := ((zup_p e54 (by omega) _).trans ((zup_p e50 (by omega) _).trans ((zup_p e45 (by omega) _).trans ((zup_p e40 (by omega) _).trans ((zup_p e36 (by omega) _).trans ((zup_p e28 (by omega) _).trans (zup_e e24 (by omega)))))))); omega); (rw [yup_n q]; exact ((zup_p e54 (by omega) _).trans ((zup_p e50 (by omega) _).trans ((zup_p e45 (by omega) _).trans ((zup_p e40 (by omega) _).trans ((zup_p e36 (by omega) _).trans ((zup_p e28 (by omega) _).trans ((zup_n e24 (by omega)).trans ((zup_p e18 (by omega) _).trans ((zup_p e10 (by omega) _).trans (zup_p e4 (by omega) _)))))))))))) (funext fun j => ((zup_p e54 (by omega) _).trans ((zup_p e50 (by omega) _).trans ((zup_p e45 (by omega) _).trans ((zup_p e40 (by omega) _).trans ((zup_p e36 (by omega) _).trans ((zup_p e28 (by omega) _).trans ((zup_p e24 (by omega) _).trans ((zup_p e18 (by omega) _).trans ((zup_p e10 (by omega) _).trans (zup_p e4 (by omega) _)))))))))))
    refine q_iconst C dX12_begins_132 (n := 133) rfl ?_
    have hp59 : zMa M53 a mb mp := hp19.cg (fun j j0 j1 => ((zup_p e54 (by omega) _).trans ((zup_p e50 (by omega) _).trans ((zup_p e45 (by omega) _).trans ((zup_p e40 (by omega) _).trans ((zup_p e36 (by omega) _).trans ((zup_p e28 (by omega) _).trans (zup_p e24 (by omega) _)))))))) (fun j => ((zup_p e54 (by omega) _).trans ((zup_p e50 (by omega) _).trans ((zup_p e45 (by omega) _).trans ((zup_p e40 (by omega) _).trans ((zup_p e36 (by omega) _).trans ((zup_p e28 (by omega) _).trans (zup_p e24 (by omega) _))))))))
    exact q_zret C dX12_begins_133 ⟨rfl, rfl⟩ (by omega) (by rw [hPo]; exact ⟨1, M53, J, rfl, rfl, hI55, hK56, by omega, Or.inr hx57, Or.inr (by have hm := zMu_begin (M := M) (M2 := M53) (a := a) (n := n) (by omega) (fun j => ((zup_p e54 (by omega) _).trans ((zup_p e50 (by omega) _).trans ((zup_p e45 (by omega) _).trans ((zup_p e40 (by omega) _).trans ((zup_p e36 (by omega) _).trans ((zup_p e28 (by omega) _).trans ((zup_p e24 (by omega) _).trans ((zup_p e18 (by omega) _).trans ((zup_p e10 (by omega) _).trans (zup_p e4 (by omega) _))))))))))) (fun j => ((zup_p e54 (by omega) _).trans ((zup_p e50 (by omega) _).trans ((zup_p e45 (by omega) _).trans ((zup_p e40 (by omega) _).trans ((zup_p e36 (by omega) _).trans ((zup_p e28 (by omega) _).trans ((zup_p e24 (by omega) _).trans ((zup_p e18 (by omega) _).trans ((zup_p e10 (by omega) _).trans (zup_p e4 (by omega) _))))))))))) ((zup_p e54 (by omega) _).trans ((zup_p e50 (by omega) _).trans ((zup_p e45 (by omega) _).trans ((zup_p e40 (by omega) _).trans ((zup_p e36 (by omega) _).trans ((zup_p e28 (by omega) _).trans ((zup_p e24 (by omega) _).trans ((zup_p e18 (by omega) _).trans ((zup_p e10 (by omega) _).trans (zup_n e4 (by omega))))))))))) ((zup_p e54 (by omega) _).trans ((zup_p e50 (by omega) _).trans ((zup_p e45 (by omega) _).trans ((zup_p e40 (by omega) _).trans ((zup_p e36 (by omega) _).trans ((zup_p e28 (by omega) _).trans ((zup_p e24 (by omega) _).trans ((zup_p e18 (by omega) _).trans ((zup_p e10 (by omega) _).trans (zup_n e4 (by omega))))))))))) ((zup_p e54 (by omega) _).trans ((zup_p e50 (by omega) _).trans ((zup_p e45 (by omega) _).trans ((zup_p e40 (by omega) _).trans ((zup_p e36 (by omega) _).trans ((zup_p e28 (by omega) _).trans ((zup_p e24 (by omega) _).trans ((zup_p e18 (by omega) _).trans ((zup_p e10 (by omega) _).trans (zup_s e4)))))))))) (fun j hj => ((zup_p e54 (by omega) _).trans ((zup_p e50 (by omega) _).trans ((zup_p e45 (by omega) _).trans ((zup_n e40 (by omega)).trans ((zup_p e36 (by omega) _).trans ((zup_p e28 (by omega) _).trans ((zup_p e24 (by omega) _).trans ((zup_p e18 (by omega) _).trans ((zup_p e10 (by omega) _).trans (zup_p e4 (by omega) _))))))))))) ((zup_p e54 (by omega) _).trans ((zup_p e50 (by omega) _).trans ((zup_p e45 (by omega) _).trans (zup_e e40 (by omega))))); omega), hp59, (((zup_p e54 (by omega) _).trans ((zup_p e50 (by omega) _).trans ((zup_p e45 (by omega) _).trans ((zup_p e40 (by omega) _).trans ((zup_p e36 (by omega) _).trans ((zup_p e28 (by omega) _).trans ((zup_p e24 (by omega) _).trans ((zup_n e18 (by omega)).trans ((zup_n e10 (by omega)).trans (zup_p e4 (by omega) _))))))))))), (Or.inr hv58)⟩)
  · refine q_aload_n C dX12_begins_9 (n := 10) rfl rfl ?_
    refine q_bipush C dX12_begins_10 (n := 12) rfl (x := 7) (by decide) ?_
    refine q_iload_n C dX12_begins_12 (n := 13) rfl rfl ?_
    refine q_callVi C dX12_begins_13 (n := 16) rfl m_X12_376 v_yX12_badAt (zM0 h0) ⟨by decide, rfl⟩ (c_X12_badAt (w := w) (J := J) hI hF h0 7 v1 (by omega) (by omega)) (Nat.le_of_ble_eq_true rfl) rfl rfl (Nat.le_of_ble_eq_true rfl) ⟨Nat.le_refl _, Nat.le_refl _⟩ (fun x66 M62 J63  hI64 h65 => ?_)
    obtain ⟨hk67, h60, h61⟩ := h65
    have hK68 := hK0.tr hk67 rfl rfl rfl
    have hp69 : zMa M62 a mb mp := p9.cg (fun j j0 j1 => (hk67.getW rfl rfl (by omega))) (fun j => (hk67.getA rfl rfl rfl))
    exact q_zret C dX12_begins_16 ⟨rfl, rfl⟩ (by omega) (by rw [hPo]; exact ⟨x66, M62, J63, rfl, rfl, hI64, hK68, by omega, Or.inl (by omega), Or.inl (by omega), hp69, ((hk67.getP rfl rfl rfl)), (Or.inl (by omega))⟩)
