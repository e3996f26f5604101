theorem c_X12_does {w : zWp} {T : zTl} {M : zMm} {J : zJm} {R : zRm'} {G : zGt} {F : zRm'} {a : Nat} {k : Int} (hI : zI G M) (hF : zF F R) (h0 : zModel T F G a) (tt : Int) (p1 : zSc M a k) (p2 : M a 75 = tt) (p3 : M a 78 = 1) (p4 : 1 ≤ tt) (p5 : ¬ M (a + 46) (tt - 1) = 41) (p6 : k ≤ 3440) : zCt w 2 0 0 yX12_does cX12_does 2 none [.ref (w.2.1 + a)] (T, M, J, R) (zPv T R G (fun M2 => (zMd a [43, 44, 45] [74, 75, 76] [] M M2) ∧ (zSc M2 a k) ∧ (M2 a 75 = M a 75 - 1))) := by
  refine zCt.of rfl (Nat.le_of_ble_eq_true rfl) ?_
  intro p e s m args below meth c C
  obtain ⟨Po, hPo⟩ : ∃ Po, Po = zPv T R G (fun M2 => (zMd a [43, 44, 45] [74, 75, 76] [] M M2) ∧ (zSc M2 a k) ∧ (M2 a 75 = M a 75 - 1)) := ⟨_, rfl⟩
  rw [← hPo]
  subst p2
  have hK0 : zMd a [43, 44, 45] [74, 75, 76] [] M M := zMd.rf
  have gx0 := zSc.num p1
  have gwa := zSc.wa p1 (j := (M a 75) - 1) (by omega) (by omega)
  show zK w p e 2 0 0 s m args below meth c 2 T Po 0 [.ref (w.2.1 + a), .null] [] (T, M, J, R)
  refine q_aload_n C dX12_does_0 (n := 1) rfl rfl ?_
  refine q_dup C dX12_does_1 (n := 2) rfl rfl ?_
  have g1 := zI.at hI (zM174 h0)
  refine q_getI C dX12_does_2 (n := 5) rfl f_X12_569 (zM0 h0) (v := M a 75) rfl ?_
  refine q_iconst C dX12_does_5 (n := 6) rfl ?_
  refine q_isub C dX12_does_6 (n := 7) rfl (v := (M a 75) - 1) rfl ?_
  refine q_putI C dX12_does_7 (n := 10) rfl f_X12_569 (zM0 h0) ⟨rfl, rfl⟩ (fun M2 (e3 : M2 = zup M a 75 ((M a 75) - 1)) => ?_)
  have hI4 : zI G M2 := hI.put e3 (zM174 h0) rfl (by omega)
  have hK5 := hK0.upS e3 rfl
  refine q_aload_n C dX12_does_10 (n := 11) rfl rfl ?_
  refine q_getR C dX12_does_11 (n := 14) rfl f_X12_153 (zM0 h0) (hF _ _ _ (zM160 h0)) ?_
  refine q_aload_n C dX12_does_14 (n := 15) rfl rfl ?_
  refine q_getI C dX12_does_15 (n := 18) rfl f_X12_569 (zM0 h0) (v := (M a 75) - 1) (zup_s e3) ?_
  have g6 := zI.at hI ((zM162 h0) ((M a 75) - 1))
  refine q_iald C dX12_does_18 (n := 19) rfl (zM161 h0) (by omega) (v := M (a + 46) ((M a 75) - 1)) (zup_p e3 (by omega) _) ?_
  refine q_istore_n C [.ref (w.2.1 + a), zi (M (a + 46) ((M a 75) - 1))] dX12_does_19 (n := 20) rfl rfl rfl ?_
  refine q_iload_n C dX12_does_20 (n := 21) rfl rfl ?_
  refine q_callSp C dX12_does_21 (n := 24) rfl m_X12_572 s_yX12_isAhead (c_X12_isAhead (w := w) (J := J) hI4 hF (M (a + 46) ((M a 75) - 1)) (by omega)) (Nat.le_of_ble_eq_true rfl) rfl rfl (Nat.le_of_ble_eq_true rfl) ⟨Nat.le_refl _, Nat.le_refl _⟩ (fun x10 h11 => ?_)
  obtain ⟨h7, h8, h9⟩ := h11
  have J_18 : ∀ (M13 : zMm) (J14 : zJm), zI G M13 → zMd a [43, 44, 45] [74, 75, 76] [] M M13 → zMd a [] [76] [] M2 M13 → zK w p e 2 0 0 s m args below meth c 2 T Po 43 [.ref (w.2.1 + a), zi (M (a + 46) ((M a 75) - 1))] [] (T, M13, J14, R) := by
    intro M13 J14 hI15 hK16 hK17
    refine q_iload_n C dX12_does_43 (n := 44) rfl rfl ?_
    refine q_bipush C dX12_does_44 (n := 46) rfl (x := 30) (by decide) ?_
    have J_20 : ((M (a + 46) ((M a 75) - 1)) = 30 ∨ (M (a + 46) ((M a 75) - 1)) = 31) → zK w p e 2 0 0 s m args below meth c 2 T Po 55 [.ref (w.2.1 + a), .null] [] (T, M13, J14, R) := by
      intro h19
      have gwt := zSc.wt p1 (j := (M a 75) - 1) (by omega) (by omega) (by omega)
      refine q_aload_n C dX12_does_55 (n := 56) rfl rfl ?_
      refine q_bipush C dX12_does_56 (n := 58) rfl (x := 32) (by decide) ?_
      refine q_lconst C dX12_does_58 (n := 59) rfl ?_
      refine q_iconst C dX12_does_59 (n := 60) rfl ?_
      refine q_callVv C dX12_does_60 (n := 63) rfl m_X12_578 v_yX12_code (zM0 h0) ⟨by decide, rfl⟩ (c_X12_code (w := w) (J := J14) hI15 hF h0 32 (Int64.ofNat ((0 : Fin 2) : Nat)) 0 (by omega) (by have hz21 : M13 a 74 = M a 74 := ((hK17.getS rfl rfl).trans (zup_n e3 (by omega))); omega) (by omega)) (Nat.le_of_ble_eq_true rfl) rfl rfl (Nat.le_of_ble_eq_true rfl) ⟨Nat.le_refl _, Nat.le_refl _⟩ (fun M23 J24  hI25 h26 => ?_)
      obtain ⟨hk27, h22⟩ := h26
      have hK28 := hK16.tr hk27 rfl rfl rfl
      have hz29 : M13 a 74 = M a 74 := ((hK17.getS rfl rfl).trans (zup_n e3 (by omega)))
      rw [hz29] at h22
      obtain ⟨M31, e30⟩ : ∃ q, q = zup M13 (a + 43) (M a 74) 32 := ⟨_, rfl⟩
      obtain ⟨M33, e32⟩ : ∃ q, q = zup M31 (a + 45) (M a 74) 0 := ⟨_, rfl⟩
      have e34 : M23 = zup M33 a 74 ((M a 74) + 1) := by rw [e32]; rw [e30]; exact h22
      refine q_aload_n C dX12_does_63 (n := 64) rfl rfl ?_
      refine q_getR C dX12_does_64 (n := 67) rfl f_X12_147 (zM0 h0) (hF _ _ _ (zM154 h0)) ?_
      refine q_aload_n C dX12_does_67 (n := 68) rfl rfl ?_
      refine q_getR C dX12_does_68 (n := 71) rfl f_X12_156 (zM0 h0) (hF _ _ _ (zM163 h0)) ?_
      refine q_aload_n C dX12_does_71 (n := 72) rfl rfl ?_
      refine q_getI C dX12_does_72 (n := 75) rfl f_X12_569 (zM0 h0) (v := (M a 75) - 1) ((zup_n e34 (by omega)).trans ((zup_p e32 (by omega) _).trans ((zup_p e30 (by omega) _).trans ((hK17.getS rfl rfl).trans (zup_s e3))))) ?_
      have g35 := zI.at hI ((zM165 h0) ((M a 75) - 1))
      refine q_iald C dX12_does_75 (n := 76) rfl (zM164 h0) (by omega) (v := M (a + 47) ((M a 75) - 1)) ((zup_p e34 (by omega) _).trans ((zup_p e32 (by omega) _).trans ((zup_p e30 (by omega) _).trans ((hK17.getA rfl rfl rfl).trans (zup_p e3 (by omega) _))))) ?_
      refine q_aload_n C dX12_does_76 (n := 77) rfl rfl ?_
      refine q_getI C dX12_does_77 (n := 80) rfl f_X12_556 (zM0 h0) (v := (M a 74) + 1) (zup_s e34) ?_
      refine q_iast C dX12_does_80 (n := 81) rfl (zM155 h0) (by omega)  (fun M36 e37 => ?_)
      have hI38 : zI G M36 := hI25.put e37 ((zM156 h0) (M (a + 47) ((M a 75) - 1))) rfl (by omega)
      have hK39 := hK28.upA e37 rfl
      refine q_goto C 132 dX12_does_81 rfl ?_
      have hx40 : zSc M36 a k := zCd.cgr (S_doAnd p1 (by omega) (by omega) (by omega) (by omega)) (by have hw : M36 a 74 = (M a 74) + 1 := ((zup_p e37 (by omega) _).trans (zup_s e34)); omega) (by have hw : M36 a 75 = (M a 75) - 1 := ((zup_p e37 (by omega) _).trans ((zup_n e34 (by omega)).trans ((zup_p e32 (by omega) _).trans ((zup_p e30 (by omega) _).trans ((hK17.getS rfl rfl).trans (zup_s e3)))))); omega) ((zup_p e37 (by omega) _).trans ((zup_n e34 (by omega)).trans ((zup_p e32 (by omega) _).trans ((zup_p e30 (by omega) _).trans ((hK17.getS rfl rfl).trans (zup_n e3 (by omega))))))) (funext fun j => by by_cases q : j = (M a 74); (rw [q, yup_s]; have hw : M36 (a + 43) (M a 74) = 32 := ((zup_p e37 (by omega) _).trans ((zup_p e34 (by omega) _).trans ((zup_p e32 (by omega) _).trans (zup_e e30 (by omega))))); omega); (rw [yup_n q]; exact ((zup_p e37 (by omega) _).trans ((zup_p e34 (by omega) _).trans ((zup_p e32 (by omega) _).trans ((zup_n e30 (by omega)).trans ((hK17.getA rfl rfl rfl).trans (zup_p e3 (by omega) _)))))))) (funext fun j => by by_cases q : j = ((M (a + 47)) ((M a 75) - 1)); (rw [q, yup_s]; have hw : M36 (a + 44) (M (a + 47) ((M a 75) - 1)) = (M a 74) + 1 := (zup_e e37 (by omega)); omega); (rw [yup_n q]; exact ((zup_n e37 (by omega)).trans ((zup_p e34 (by omega) _).trans ((zup_p e32 (by omega) _).trans ((zup_p e30 (by omega) _).trans ((hK17.getA rfl rfl rfl).trans (zup_p e3 (by omega) _)))))))) (funext fun j => ((zup_p e37 (by omega) _).trans ((zup_p e34 (by omega) _).trans ((zup_p e32 (by omega) _).trans ((zup_p e30 (by omega) _).trans ((hK17.getA rfl rfl rfl).trans (zup_p e3 (by omega) _))))))) (funext fun j => ((zup_p e37 (by omega) _).trans ((zup_p e34 (by omega) _).trans ((zup_p e32 (by omega) _).trans ((zup_p e30 (by omega) _).trans ((hK17.getA rfl rfl rfl).trans (zup_p e3 (by omega) _)))))))
      exact q_vret C dX12_does_132 ⟨rfl, rfl⟩ (by rw [hPo]; exact ⟨M36, J24, rfl, rfl, hI38, hK39, hx40, by have hz41 : M36 a 75 = (M a 75) - 1 := ((zup_p e37 (by omega) _).trans ((zup_n e34 (by omega)).trans ((zup_p e32 (by omega) _).trans ((zup_p e30 (by omega) _).trans ((hK17.getS rfl rfl).trans (zup_s e3)))))); omega⟩)
    refine q_icmp_eq C 55 dX12_does_46 (n := 49) rfl rfl (by omega) (fun h42 => ?_) (fun h42 => ?_)
    · exact zK.weak (J_20 (by omega)) (zwk_c (zwk_n zwk_e))
    · refine q_iload_n C dX12_does_49 (n := 50) rfl rfl ?_
      refine q_bipush C dX12_does_50 (n := 52) rfl (x := 31) (by decide) ?_
      refine q_icmp_ne C 84 dX12_does_52 (n := 55) rfl rfl (by omega) (fun h43 => ?_) (fun h43 => ?_)
      · refine q_iload_n C dX12_does_84 (n := 85) rfl rfl ?_
        refine q_bipush C dX12_does_85 (n := 87) rfl (x := 42) (by decide) ?_
        refine q_icmp_ne C 111 dX12_does_87 (n := 90) rfl rfl (by omega) (fun h44 => ?_) (fun h44 => ?_)
        · refine q_iload_n C dX12_does_111 (n := 112) rfl rfl ?_
          refine q_bipush C dX12_does_112 (n := 114) rfl (x := 40) (by decide) ?_
          refine q_icmp_ge C 132 dX12_does_114 (n := 117) rfl rfl (by omega) (fun h45 => ?_) (fun h45 => ?_)
          · have hx46 : zSc M13 a k := zCd.cgr (S_pop p1 (by omega) (by omega)) ((hK17.getS rfl rfl).trans (zup_n e3 (by omega))) (by have hw : M13 a 75 = (M a 75) - 1 := ((hK17.getS rfl rfl).trans (zup_s e3)); omega) ((hK17.getS rfl rfl).trans (zup_n e3 (by omega))) (funext fun j => ((hK17.getA rfl rfl rfl).trans (zup_p e3 (by omega) _))) (funext fun j => ((hK17.getA rfl rfl rfl).trans (zup_p e3 (by omega) _))) (funext fun j => ((hK17.getA rfl rfl rfl).trans (zup_p e3 (by omega) _))) (funext fun j => ((hK17.getA rfl rfl rfl).trans (zup_p e3 (by omega) _)))
            exact q_vret C dX12_does_132 ⟨rfl, rfl⟩ (by rw [hPo]; exact ⟨M13, J14, rfl, rfl, hI15, hK16, hx46, by have hz47 : M13 a 75 = (M a 75) - 1 := ((hK17.getS rfl rfl).trans (zup_s e3)); omega⟩)
          · refine q_aload_n C dX12_does_117 (n := 118) rfl rfl ?_
            refine q_iload_n C dX12_does_118 (n := 119) rfl rfl ?_
            refine q_lconst C dX12_does_119 (n := 120) rfl ?_
            refine q_aload_n C dX12_does_120 (n := 121) rfl rfl ?_
            refine q_getR C dX12_does_121 (n := 124) rfl f_X12_159 (zM0 h0) (hF _ _ _ (zM166 h0)) ?_
            refine q_aload_n C dX12_does_124 (n := 125) rfl rfl ?_
            refine q_getI C dX12_does_125 (n := 128) rfl f_X12_569 (zM0 h0) (v := (M a 75) - 1) ((hK17.getS rfl rfl).trans (zup_s e3)) ?_
            have g48 := zI.at hI ((zM168 h0) ((M a 75) - 1))
            refine q_iald C dX12_does_128 (n := 129) rfl (zM167 h0) (by omega) (v := M (a + 48) ((M a 75) - 1)) ((hK17.getA rfl rfl rfl).trans (zup_p e3 (by omega) _)) ?_
            refine q_callVv C dX12_does_129 (n := 132) rfl m_X12_578 v_yX12_code (zM0 h0) ⟨by decide, rfl⟩ (c_X12_code (w := w) (J := J14) hI15 hF h0 (M (a + 46) ((M a 75) - 1)) (Int64.ofNat ((0 : Fin 2) : Nat)) (M (a + 48) ((M a 75) - 1)) (by omega) (by have hz49 : M13 a 74 = M a 74 := ((hK17.getS rfl rfl).trans (zup_n e3 (by omega))); omega) (by omega)) (Nat.le_of_ble_eq_true rfl) rfl rfl (Nat.le_of_ble_eq_true rfl) ⟨Nat.le_refl _, Nat.le_refl _⟩ (fun M51 J52  hI53 h54 => ?_)
            obtain ⟨hk55, h50⟩ := h54
            have hK56 := hK16.tr hk55 rfl rfl rfl
            have hz57 : M13 a 74 = M a 74 := ((hK17.getS rfl rfl).trans (zup_n e3 (by omega)))
            rw [hz57] at h50
            obtain ⟨M59, e58⟩ : ∃ q, q = zup M13 (a + 43) (M a 74) (M (a + 46) ((M a 75) - 1)) := ⟨_, rfl⟩
            obtain ⟨M61, e60⟩ : ∃ q, q = zup M59 (a + 45) (M a 74) (M (a + 48) ((M a 75) - 1)) := ⟨_, rfl⟩
            have e62 : M51 = zup M61 a 74 ((M a 74) + 1) := by rw [e60]; rw [e58]; exact h50
            have hx63 : zSc M51 a k := zCd.cgr (S_doOp p1 (by omega) (x := M (a + 46) ((M a 75) - 1)) rfl (by omega) (by omega)) (by have hw : M51 a 74 = (M a 74) + 1 := (zup_s e62); omega) (by have hw : M51 a 75 = (M a 75) - 1 := ((zup_n e62 (by omega)).trans ((zup_p e60 (by omega) _).trans ((zup_p e58 (by omega) _).trans ((hK17.getS rfl rfl).trans (zup_s e3))))); omega) ((zup_n e62 (by omega)).trans ((zup_p e60 (by omega) _).trans ((zup_p e58 (by omega) _).trans ((hK17.getS rfl rfl).trans (zup_n e3 (by omega)))))) (funext fun j => by by_cases q : j = (M a 74); (rw [q, yup_s]; have hw : M51 (a + 43) (M a 74) = M (a + 46) ((M a 75) - 1) := ((zup_p e62 (by omega) _).trans ((zup_p e60 (by omega) _).trans (zup_e e58 (by omega)))); omega); (rw [yup_n q]; exact ((zup_p e62 (by omega) _).trans ((zup_p e60 (by omega) _).trans ((zup_n e58 (by omega)).trans ((hK17.getA rfl rfl rfl).trans (zup_p e3 (by omega) _))))))) (funext fun j => ((zup_p e62 (by omega) _).trans ((zup_p e60 (by omega) _).trans ((zup_p e58 (by omega) _).trans ((hK17.getA rfl rfl rfl).trans (zup_p e3 (by omega) _)))))) (funext fun j => ((zup_p e62 (by omega) _).trans ((zup_p e60 (by omega) _).trans ((zup_p e58 (by omega) _).trans ((hK17.getA rfl rfl rfl).trans (zup_p e3 (by omega) _)))))) (funext fun j => ((zup_p e62 (by omega) _).trans ((zup_p e60 (by omega) _).trans ((zup_p e58 (by omega) _).trans ((hK17.getA rfl rfl rfl).trans (zup_p e3 (by omega) _))))))
            exact q_vret C dX12_does_132 ⟨rfl, rfl⟩ (by rw [hPo]; exact ⟨M51, J52, rfl, rfl, hI53, hK56, hx63, by have hz64 : M51 a 75 = (M a 75) - 1 := ((zup_n e62 (by omega)).trans ((zup_p e60 (by omega) _).trans ((zup_p e58 (by omega) _).trans ((hK17.getS rfl rfl).trans (zup_s e3))))); omega⟩)
        · have gwt := zSc.wt p1 (j := (M a 75) - 1) (by omega) (by omega) (by omega)
          refine q_aload_n C dX12_does_90 (n := 91) rfl rfl ?_
          refine q_getR C dX12_does_91 (n := 94) rfl f_X12_147 (zM0 h0) (hF _ _ _ (zM154 h0)) ?_
          refine q_aload_n C dX12_does_94 (n := 95) rfl rfl ?_
          refine q_getR C dX12_does_95 (n := 98) rfl f_X12_156 (zM0 h0) (hF _ _ _ (zM163 h0)) ?_
          refine q_aload_n C dX12_does_98 (n := 99) rfl rfl ?_
          refine q_getI C dX12_does_99 (n := 102) rfl f_X12_569 (zM0 h0) (v := (M a 75) - 1) ((hK17.getS rfl rfl).trans (zup_s e3)) ?_
          have g65 := zI.at hI ((zM165 h0) ((M a 75) - 1))
          refine q_iald C dX12_does_102 (n := 103) rfl (zM164 h0) (by omega) (v := M (a + 47) ((M a 75) - 1)) ((hK17.getA rfl rfl rfl).trans (zup_p e3 (by omega) _)) ?_
          refine q_aload_n C dX12_does_103 (n := 104) rfl rfl ?_
          have g66 := zI.at hI (zM173 h0)
          refine q_getI C dX12_does_104 (n := 107) rfl f_X12_556 (zM0 h0) (v := M a 74) ((hK17.getS rfl rfl).trans (zup_n e3 (by omega))) ?_
          refine q_iast C dX12_does_107 (n := 108) rfl (zM155 h0) (by omega)  (fun M67 e68 => ?_)
          have hI69 : zI G M67 := hI15.put e68 ((zM156 h0) (M (a + 47) ((M a 75) - 1))) rfl (by omega)
          have hK70 := hK16.upA e68 rfl
          refine q_goto C 132 dX12_does_108 rfl ?_
          have hx71 : zSc M67 a k := zCd.cgr (S_doElse p1 (by omega) (by omega) (by omega)) ((zup_p e68 (by omega) _).trans ((hK17.getS rfl rfl).trans (zup_n e3 (by omega)))) (by have hw : M67 a 75 = (M a 75) - 1 := ((zup_p e68 (by omega) _).trans ((hK17.getS rfl rfl).trans (zup_s e3))); omega) ((zup_p e68 (by omega) _).trans ((hK17.getS rfl rfl).trans (zup_n e3 (by omega)))) (funext fun j => ((zup_p e68 (by omega) _).trans ((hK17.getA rfl rfl rfl).trans (zup_p e3 (by omega) _)))) (funext fun j => by by_cases q : j = ((M (a + 47)) ((M a 75) - 1)); (rw [q, yup_s]; have hw : M67 (a + 44) (M (a + 47) ((M a 75) - 1)) = M a 74 := (zup_e e68 (by omega)); omega); (rw [yup_n q]; exact ((zup_n e68 (by omega)).trans ((hK17.getA rfl rfl rfl).trans (zup_p e3 (by omega) _))))) (funext fun j => ((zup_p e68 (by omega) _).trans ((hK17.getA rfl rfl rfl).trans (zup_p e3 (by omega) _)))) (funext fun j => ((zup_p e68 (by omega) _).trans ((hK17.getA rfl rfl rfl).trans (zup_p e3 (by omega) _))))
          exact q_vret C dX12_does_132 ⟨rfl, rfl⟩ (by rw [hPo]; exact ⟨M67, J14, rfl, rfl, hI69, hK70, hx71, by have hz72 : M67 a 75 = (M a 75) - 1 := ((zup_p e68 (by omega) _).trans ((hK17.getS rfl rfl).trans (zup_s e3))); omega⟩)
      · exact zK.weak (J_20 (by omega)) (zwk_c (zwk_n zwk_e))
  have J_73 : zK w p e 2 0 0 s m args below meth c 2 T Po 33 [.ref (w.2.1 + a), zi (M (a + 46) ((M a 75) - 1))] [] (T, M2, J, R) := by
    refine q_aload_n C dX12_does_33 (n := 34) rfl rfl ?_
    refine q_dup C dX12_does_34 (n := 35) rfl rfl ?_
    have g74 := zI.at hI (zM175 h0)
    refine q_getI C dX12_does_35 (n := 38) rfl f_X12_575 (zM0 h0) (v := M a 76) (zup_n e3 (by omega)) ?_
    refine q_iconst C dX12_does_38 (n := 39) rfl ?_
    refine q_isub C dX12_does_39 (n := 40) rfl (v := (M a 76) - 1) rfl ?_
    refine q_wrap C ?_
    have g75 := zr_wr ((M a 76) - 1)
    refine q_putI C dX12_does_40 (n := 43) rfl f_X12_575 (zM0 h0) ⟨rfl, rfl⟩ (fun M76 (e77 : M76 = zup M2 a 76 (zwr ((M a 76) - 1))) => ?_)
    have hI78 : zI G M76 := hI4.put e77 (zM175 h0) rfl (by omega)
    have hK79 := hK5.upS e77 rfl
    have hK80 := (zMd.rf : zMd a [] [76] [] M2 M2).upS e77 rfl
    exact zK.weak (J_18 M76 J hI78 hK79 hK80) (zwk_c (zwk_c zwk_e))
  refine q_if_ne C 33 dX12_does_24 (n := 27) rfl rfl (by omega) (fun h81 => ?_) (fun h81 => ?_)
  · exact zK.weak (J_73) (zwk_c (zwk_c zwk_e))
  · refine q_iload_n C dX12_does_27 (n := 28) rfl rfl ?_
    refine q_bipush C dX12_does_28 (n := 30) rfl (x := 40) (by decide) ?_
    refine q_icmp_lt C 43 dX12_does_30 (n := 33) rfl rfl (by omega) (fun h82 => ?_) (fun h82 => ?_)
    · exact zK.weak (J_18 M2 J hI4 hK5 (zMd.rf : zMd a [] [76] [] M2 M2)) (zwk_c (zwk_c zwk_e))
    · exact zK.weak (J_73) (zwk_c (zwk_c zwk_e))
theorem c_X12_doesAbove {w : zWp} {T : zTl} {M : zMm} {J : zJm} {R : zRm'} {G : zGt} {F : zRm'} {a : Nat} {k : Int} (hI : zI G M) (hF : zF F R) (h0 : zModel T F G a) (v1 : Int) (p1 : zSc M a k) (p2 : M a 78 = 1) (p3 : 1 ≤ v1 ∧ v1 ≤ 11) (p4 : k ≤ 3440) : zCt w 3 0 0 yX12_doesAbove cX12_doesAbove 2 none [.ref (w.2.1 + a), zi v1] (T, M, J, R) (zPv T R G (fun M2 => (zMd a [43, 44, 45] [74, 75, 76] [] M M2) ∧ (zSc M2 a k))) := by
  refine zCt.of rfl (Nat.le_of_ble_eq_true rfl) ?_
  intro p e s m args below meth c C
  obtain ⟨Po, hPo⟩ : ∃ Po, Po = zPv T R G (fun M2 => (zMd a [43, 44, 45] [74, 75, 76] [] M M2) ∧ (zSc M2 a k)) := ⟨_, rfl⟩
  rw [← hPo]
  have hK0 : zMd a [43, 44, 45] [74, 75, 76] [] M M := zMd.rf
  have gk_top := zI.at hI (zM174 h0)
  show zK w p e 3 0 0 s m args below meth c 2 T Po 0 [.ref (w.2.1 + a), zi v1] [] (T, M, J, R)
  have L_8 : ∀ n9 : Nat, ∀ (M2 : zMm) (J3 : zJm), zI G M2 → zMd a [43, 44, 45] [74, 75, 76] [] M M2 → zMd a [43, 44, 45] [74, 75, 76] [] M M2 → (zSc M2 a k) → (M2 a 75 + 1 ≤ (n9 : Int)) → zK w p e 3 0 0 s m args below meth c 2 T Po 0 [.ref (w.2.1 + a), zi v1] [] (T, M2, J3, R) := by
    intro n9
    induction n9 with
    | zero =>
      intro M2 J3 hI4 hK5 hK6 h7 hm11
      exfalso
      have := zSc.num h7
      omega
    | succ n9 ih10 =>
      intro M2 J3 hI4 hK5 hK6 h7 hm11
      refine q_aload_n C dX12_doesAbove_0 (n := 1) rfl rfl ?_
      have g12 := zI.at hI4 (zM174 h0)
      refine q_getI C dX12_doesAbove_1 (n := 4) rfl f_X12_569 (zM0 h0) (v := M2 a 75) rfl ?_
      refine q_if_le C 32 dX12_doesAbove_4 (n := 7) rfl rfl (by omega) (fun h13 => ?_) (fun h13 => ?_)
      · exact q_vret C dX12_doesAbove_32 ⟨rfl, rfl⟩ (by rw [hPo]; exact ⟨M2, J3, rfl, rfl, hI4, hK5, h7⟩)
      · have gx14 := zSc.num h7
        have hz15 : M2 a 78 = M a 78 := (hK6.getS rfl rfl)
        have gwa16 := zSc.wa h7 (j := (M2 a 75) - 1) (by omega) (by omega)
        refine q_aload_n C dX12_doesAbove_7 (n := 8) rfl rfl ?_
        refine q_getR C dX12_doesAbove_8 (n := 11) rfl f_X12_153 (zM0 h0) (hF _ _ _ (zM160 h0)) ?_
        refine q_aload_n C dX12_doesAbove_11 (n := 12) rfl rfl ?_
        refine q_getI C dX12_doesAbove_12 (n := 15) rfl f_X12_569 (zM0 h0) (v := M2 a 75) rfl ?_
        refine q_iconst C dX12_doesAbove_15 (n := 16) rfl ?_
        refine q_isub C dX12_doesAbove_16 (n := 17) rfl (v := (M2 a 75) - 1) rfl ?_
        have g17 := zI.at hI ((zM162 h0) ((M2 a 75) - 1))
        refine q_iald C dX12_doesAbove_17 (n := 18) rfl (zM161 h0) (by omega) (v := M (a + 46) ((M2 a 75) - 1)) (hK6.getA rfl rfl rfl) ?_
        refine q_callSp C dX12_doesAbove_18 (n := 21) rfl m_X12_582 s_yX12_strength (c_X12_strength (w := w) (J := J3) hI4 hF (M (a + 46) ((M2 a 75) - 1)) (by omega)) (Nat.le_of_ble_eq_true rfl) rfl rfl (Nat.le_of_ble_eq_true rfl) ⟨Nat.le_refl _, Nat.le_refl _⟩ (fun x21 h22 => ?_)
        obtain ⟨h18, h19, h20⟩ := h22
        refine q_iload_n C dX12_doesAbove_21 (n := 22) rfl rfl ?_
        refine q_icmp_lt C 32 dX12_doesAbove_22 (n := 25) rfl rfl (by omega) (fun h23 => ?_) (fun h23 => ?_)
        · exact q_vret C dX12_doesAbove_32 ⟨rfl, rfl⟩ (by rw [hPo]; exact ⟨M2, J3, rfl, rfl, hI4, hK5, h7⟩)
        · refine q_aload_n C dX12_doesAbove_25 (n := 26) rfl rfl ?_
          refine q_callVv C dX12_doesAbove_26 (n := 29) rfl m_X12_585 v_yX12_does (zM0 h0) ⟨by decide, rfl⟩ (c_X12_does (w := w) (J := J3) hI4 hF h0 (M2 a 75) h7 (by omega) (by have hz24 : M2 a 78 = M a 78 := (hK6.getS rfl rfl); omega) (by omega) (by have hz25 : M2 (a + 46) ((M2 a 75) - 1) = M (a + 46) ((M2 a 75) - 1) := (hK6.getA rfl rfl rfl); omega) (by omega)) (Nat.le_of_ble_eq_true rfl) rfl rfl (Nat.le_of_ble_eq_true rfl) ⟨Nat.le_refl _, Nat.le_refl _⟩ (fun M28 J29  hI30 h31 => ?_)
          obtain ⟨hk32, h26, h27⟩ := h31
          have hK33 := hK5.tr hk32 rfl rfl rfl
          have hK34 := hK6.tr hk32 rfl rfl rfl
          refine q_goto C 0 dX12_doesAbove_29 rfl ?_
          exact zK.weak (ih10 M28 J29 hI30 hK33 hK34 h26 (by omega)) (zwk_c (zwk_c zwk_e))
  exact zK.weak (L_8 _ M J hI hK0 (zMd.rf : zMd a [43, 44, 45] [74, 75, 76] [] M M) p1 (Int.self_le_toNat _)) (zwk_c (zwk_c zwk_e))
theorem c_X12_doesDown {w : zWp} {T : zTl} {M : zMm} {J : zJm} {R : zRm'} {G : zGt} {F : zRm'} {a : Nat} {k : Int} (hI : zI G M) (hF : zF F R) (h0 : zModel T F G a) (p1 : zSc M a k) (p2 : M a 78 = 1) (p3 : k ≤ 3440) : zCt w 3 0 0 yX12_doesDown cX12_doesDown 1 none [.ref (w.2.1 + a)] (T, M, J, R) (zPv T R G (fun M2 => (zMd a [43, 44, 45] [74, 75, 76] [] M M2) ∧ (zSc M2 a k))) := by
  refine zCt.of rfl (Nat.le_of_ble_eq_true rfl) ?_
  intro p e s m args below meth c C
  obtain ⟨Po, hPo⟩ : ∃ Po, Po = zPv T R G (fun M2 => (zMd a [43, 44, 45] [74, 75, 76] [] M M2) ∧ (zSc M2 a k)) := ⟨_, rfl⟩
  rw [← hPo]
  have hK0 : zMd a [43, 44, 45] [74, 75, 76] [] M M := zMd.rf
  have gk_top := zI.at hI (zM174 h0)
  show zK w p e 3 0 0 s m args below meth c 1 T Po 0 [.ref (w.2.1 + a)] [] (T, M, J, R)
  have L_8 : ∀ n9 : Nat, ∀ (M2 : zMm) (J3 : zJm), zI G M2 → zMd a [43, 44, 45] [74, 75, 76] [] M M2 → zMd a [43, 44, 45] [74, 75, 76] [] M M2 → (zSc M2 a k) → (M2 a 75 + 1 ≤ (n9 : Int)) → zK w p e 3 0 0 s m args below meth c 1 T Po 0 [.ref (w.2.1 + a)] [] (T, M2, J3, R) := by
    intro n9
    induction n9 with
    | zero =>
      intro M2 J3 hI4 hK5 hK6 h7 hm11
      exfalso
      have := zSc.num h7
      omega
    | succ n9 ih10 =>
      intro M2 J3 hI4 hK5 hK6 h7 hm11
      refine q_aload_n C dX12_doesDown_0 (n := 1) rfl rfl ?_
      have g12 := zI.at hI4 (zM174 h0)
      refine q_getI C dX12_doesDown_1 (n := 4) rfl f_X12_569 (zM0 h0) (v := M2 a 75) rfl ?_
      refine q_if_le C 46 dX12_doesDown_4 (n := 7) rfl rfl (by omega) (fun h13 => ?_) (fun h13 => ?_)
      · exact q_vret C dX12_doesDown_46 ⟨rfl, rfl⟩ (by rw [hPo]; exact ⟨M2, J3, rfl, rfl, hI4, hK5, h7⟩)
      · have gx14 := zSc.num h7
        have hz15 : M2 a 78 = M a 78 := (hK6.getS rfl rfl)
        have gwa16 := zSc.wa h7 (j := (M2 a 75) - 1) (by omega) (by omega)
        refine q_aload_n C dX12_doesDown_7 (n := 8) rfl rfl ?_
        refine q_getR C dX12_doesDown_8 (n := 11) rfl f_X12_153 (zM0 h0) (hF _ _ _ (zM160 h0)) ?_
        refine q_aload_n C dX12_doesDown_11 (n := 12) rfl rfl ?_
        refine q_getI C dX12_doesDown_12 (n := 15) rfl f_X12_569 (zM0 h0) (v := M2 a 75) rfl ?_
        refine q_iconst C dX12_doesDown_15 (n := 16) rfl ?_
        refine q_isub C dX12_doesDown_16 (n := 17) rfl (v := (M2 a 75) - 1) rfl ?_
        have g17 := zI.at hI ((zM162 h0) ((M2 a 75) - 1))
        refine q_iald C dX12_doesDown_17 (n := 18) rfl (zM161 h0) (by omega) (v := M (a + 46) ((M2 a 75) - 1)) (hK6.getA rfl rfl rfl) ?_
        refine q_bipush C dX12_doesDown_18 (n := 20) rfl (x := 40) (by decide) ?_
        refine q_icmp_eq C 46 dX12_doesDown_20 (n := 23) rfl rfl (by omega) (fun h18 => ?_) (fun h18 => ?_)
        · exact q_vret C dX12_doesDown_46 ⟨rfl, rfl⟩ (by rw [hPo]; exact ⟨M2, J3, rfl, rfl, hI4, hK5, h7⟩)
        · refine q_aload_n C dX12_doesDown_23 (n := 24) rfl rfl ?_
          refine q_getR C dX12_doesDown_24 (n := 27) rfl f_X12_153 (zM0 h0) (hF _ _ _ (zM160 h0)) ?_
          refine q_aload_n C dX12_doesDown_27 (n := 28) rfl rfl ?_
          refine q_getI C dX12_doesDown_28 (n := 31) rfl f_X12_569 (zM0 h0) (v := M2 a 75) rfl ?_
          refine q_iconst C dX12_doesDown_31 (n := 32) rfl ?_
          refine q_isub C dX12_doesDown_32 (n := 33) rfl (v := (M2 a 75) - 1) rfl ?_
          refine q_iald C dX12_doesDown_33 (n := 34) rfl (zM161 h0) (by omega) (v := M (a + 46) ((M2 a 75) - 1)) (hK6.getA rfl rfl rfl) ?_
          refine q_bipush C dX12_doesDown_34 (n := 36) rfl (x := 41) (by decide) ?_
          refine q_icmp_eq C 46 dX12_doesDown_36 (n := 39) rfl rfl (by omega) (fun h19 => ?_) (fun h19 => ?_)
          · exact q_vret C dX12_doesDown_46 ⟨rfl, rfl⟩ (by rw [hPo]; exact ⟨M2, J3, rfl, rfl, hI4, hK5, h7⟩)
          · refine q_aload_n C dX12_doesDown_39 (n := 40) rfl rfl ?_
            refine q_callVv C dX12_doesDown_40 (n := 43) rfl m_X12_585 v_yX12_does (zM0 h0) ⟨by decide, rfl⟩ (c_X12_does (w := w) (J := J3) hI4 hF h0 (M2 a 75) h7 (by omega) (by have hz20 : M2 a 78 = M a 78 := (hK6.getS rfl rfl); omega) (by omega) (by have hz21 : M2 (a + 46) ((M2 a 75) - 1) = M (a + 46) ((M2 a 75) - 1) := (hK6.getA rfl rfl rfl); omega) (by omega)) (Nat.le_of_ble_eq_true rfl) rfl rfl (Nat.le_of_ble_eq_true rfl) ⟨Nat.le_refl _, Nat.le_refl _⟩ (fun M24 J25  hI26 h27 => ?_)
            obtain ⟨hk28, h22, h23⟩ := h27
            have hK29 := hK5.tr hk28 rfl rfl rfl
            have hK30 := hK6.tr hk28 rfl rfl rfl
            refine q_goto C 0 dX12_doesDown_43 rfl ?_
            exact zK.weak (ih10 M24 J25 hI26 hK29 hK30 h22 (by omega)) (zwk_c zwk_e)
  exact zK.weak (L_8 _ M J hI hK0 (zMd.rf : zMd a [43, 44, 45] [74, 75, 76] [] M M) p1 (Int.self_le_toNat _)) (zwk_c zwk_e)
theorem c_X12_operand {w : zWp} {T : zTl} {M : zMm} {J : zJm} {R : zRm'} {G : zGt} {F : zRm'} {a : Nat} {k : Int} (hI : zI G M) (hF : zF F R) (h0 : zModel T F G a) (v1 : Int) (p1 : zSc M a k) (p2 : M a 78 = 0) (p3 : k ≤ 3439) (p4 : 0 ≤ v1 ∧ v1 ≤ 3499) : zCt w 4 0 0 yX12_operand cX12_operand 4 (some .boolean) [.ref (w.2.1 + a), zi v1] (T, M, J, R) (zPi T R G (fun x M2 => (zMd a [43, 45, 46, 47, 48] [74, 75, 76, 78] [(18, 11), (18, 12), (18, 13), (18, 14)] M M2) ∧ (x = 0 ∨ x = 1) ∧ (x = 0 ∨ zSc M2 a (k + 1)))) := by
  refine zCt.of rfl (Nat.le_of_ble_eq_true rfl) ?_
  intro p e s m args below meth c C
  obtain ⟨Po, hPo⟩ : ∃ Po, Po = zPi T R G (fun x M2 => (zMd a [43, 45, 46, 47, 48] [74, 75, 76, 78] [(18, 11), (18, 12), (18, 13), (18, 14)] M M2) ∧ (x = 0 ∨ x = 1) ∧ (x = 0 ∨ zSc M2 a (k + 1))) := ⟨_, rfl⟩
  rw [← hPo]
  have hK0 : zMd a [43, 45, 46, 47, 48] [74, 75, 76, 78] [(18, 11), (18, 12), (18, 13), (18, 14)] M M := zMd.rf
  have gx0 := zSc.num p1
  show zK w p e 4 0 0 s m args below meth c 4 T Po 0 [.ref (w.2.1 + a), zi v1, .null, .null] [] (T, M, J, R)
  refine q_aload_n C dX12_operand_0 (n := 1) rfl rfl ?_
  refine q_iload_n C dX12_operand_1 (n := 2) rfl rfl ?_
  refine q_callVp C dX12_operand_2 (n := 5) rfl m_X12_588 v_yX12_aheadOf (zM0 h0) ⟨by decide, rfl⟩ (c_X12_aheadOf (w := w) (J := J) hI hF h0 v1 (by omega)) (Nat.le_of_ble_eq_true rfl) rfl rfl (Nat.le_of_ble_eq_true rfl) ⟨Nat.le_refl _, Nat.le_refl _⟩ (fun x2 h3 => ?_)
  refine q_istore_n C [.ref (w.2.1 + a), zi v1, zi x2, .null] dX12_operand_5 (n := 6) rfl rfl rfl ?_
  refine q_aload_n C dX12_operand_6 (n := 7) rfl rfl ?_
  refine q_iload_n C dX12_operand_7 (n := 8) rfl rfl ?_
  refine q_bipush C dX12_operand_8 (n := 10) rfl (x := 40) (by decide) ?_
  refine q_callVp C dX12_operand_10 (n := 13) rfl m_X12_406 v_yX12_isSign (zM0 h0) ⟨by decide, rfl⟩ (c_X12_isSign (w := w) (J := J) hI hF h0 v1 40 (by omega) (by omega)) (Nat.le_of_ble_eq_true rfl) rfl rfl (Nat.le_of_ble_eq_true rfl) ⟨Nat.le_refl _, Nat.le_refl _⟩ (fun x7 h8 => ?_)
  obtain ⟨h4, h5, h6⟩ := h8
  refine q_istore_n C [.ref (w.2.1 + a), zi v1, zi x2, zi x7] dX12_operand_13 (n := 14) rfl rfl rfl ?_
  refine q_iload_n C dX12_operand_14 (n := 15) rfl rfl ?_
  have J_10 : (0 ≤ x2 ∨ ¬ x7 = 0) → zK w p e 4 0 0 s m args below meth c 4 T Po 22 [.ref (w.2.1 + a), zi v1, zi x2, zi x7] [] (T, M, J, R) := by
    intro h9
    refine q_aload_n C dX12_operand_22 (n := 23) rfl rfl ?_
    have g11 := zI.at hI (zM175 h0)
    refine q_getI C dX12_operand_23 (n := 26) rfl f_X12_575 (zM0 h0) (v := M a 76) rfl ?_
    refine q_bipush C dX12_operand_26 (n := 28) rfl (x := 8) (by decide) ?_
    refine q_icmp_ne C 39 dX12_operand_28 (n := 31) rfl rfl (by omega) (fun h12 => ?_) (fun h12 => ?_)
    · refine q_aload_n C dX12_operand_39 (n := 40) rfl rfl ?_
      refine q_dup C dX12_operand_40 (n := 41) rfl rfl ?_
      refine q_getI C dX12_operand_41 (n := 44) rfl f_X12_575 (zM0 h0) (v := M a 76) rfl ?_
      refine q_iconst C dX12_operand_44 (n := 45) rfl ?_
      refine q_iadd C dX12_operand_45 (n := 46) rfl (v := (M a 76) + 1) rfl ?_
      refine q_wrap C ?_
      have g13 := zr_wr ((M a 76) + 1)
      refine q_putI C dX12_operand_46 (n := 49) rfl f_X12_575 (zM0 h0) ⟨rfl, rfl⟩ (fun M14 (e15 : M14 = zup M a 76 (zwr ((M a 76) + 1))) => ?_)
      have hI16 : zI G M14 := hI.put e15 (zM175 h0) rfl (by omega)
      have hK17 := hK0.upS e15 rfl
      refine q_aload_n C dX12_operand_49 (n := 50) rfl rfl ?_
      refine q_iload_n C dX12_operand_50 (n := 51) rfl rfl ?_
      have J_21 : ∀ (u18 : Int), (-2147483648 ≤ u18 ∧ u18 ≤ 2147483647) → (u18 = 40 ∨ 20 ≤ u18 ∧ u18 < 24) → zK w p e 4 0 0 s m args below meth c 4 T Po 60 [.null, zi v1, .null, .null] [zi u18, .ref (w.2.1 + a)] (T, M14, J, R) := by
        intro u18 h19 h20
        refine q_iconst C dX12_operand_60 (n := 61) rfl ?_
        refine q_iload_n C dX12_operand_61 (n := 62) rfl rfl ?_
        refine q_callVv C dX12_operand_62 (n := 65) rfl m_X12_591 v_yX12_waitsFor (zM0 h0) ⟨by decide, rfl⟩ (c_X12_waitsFor (w := w) (J := J) hI16 hF h0 u18 0 v1 (by omega) (by omega) (by omega) (by have hz22 : M14 a 75 = M a 75 := (zup_n e15 (by omega)); omega)) (Nat.le_of_ble_eq_true rfl) rfl rfl (Nat.le_of_ble_eq_true rfl) ⟨Nat.le_refl _, Nat.le_refl _⟩ (fun M24 J25  hI26 h27 => ?_)
        obtain ⟨hk28, h23⟩ := h27
        have hK29 := hK17.tr hk28 rfl rfl rfl
        have hz30 : M14 a 75 = M a 75 := (zup_n e15 (by omega))
        rw [hz30] at h23
        obtain ⟨M32, e31⟩ : ∃ q, q = zup M14 (a + 46) (M a 75) u18 := ⟨_, rfl⟩
        obtain ⟨M34, e33⟩ : ∃ q, q = zup M32 (a + 47) (M a 75) 0 := ⟨_, rfl⟩
        obtain ⟨M36, e35⟩ : ∃ q, q = zup M34 (a + 48) (M a 75) v1 := ⟨_, rfl⟩
        have e37 : M24 = zup M36 a 75 ((M a 75) + 1) := by rw [e35]; rw [e33]; rw [e31]; exact h23
        have gsb : sbn u18 = 0 := by rcases (show u18 = 40 ∨ 20 ≤ u18 ∧ u18 < 24 by omega) with q | q; (rw [q]; decide); (exact (s_ah q).2.2)
        have hx38 : zSc M24 a (k + 1) := zCd.cgr (S_wait p1 (x := u18) (y := 0) (w2 := 0) (k2 := k + 1) (by omega) (by omega) (by omega) (by omega)) ((zup_n e37 (by omega)).trans ((zup_p e35 (by omega) _).trans ((zup_p e33 (by omega) _).trans ((zup_p e31 (by omega) _).trans (zup_n e15 (by omega)))))) (by have hw : M24 a 75 = (M a 75) + 1 := (zup_s e37); omega) (by have hw : M24 a 78 = M a 78 := ((zup_n e37 (by omega)).trans ((zup_p e35 (by omega) _).trans ((zup_p e33 (by omega) _).trans ((zup_p e31 (by omega) _).trans (zup_n e15 (by omega)))))); omega) (funext fun j => ((zup_p e37 (by omega) _).trans ((zup_p e35 (by omega) _).trans ((zup_p e33 (by omega) _).trans ((zup_p e31 (by omega) _).trans (zup_p e15 (by omega) _)))))) (funext fun j => ((zup_p e37 (by omega) _).trans ((zup_p e35 (by omega) _).trans ((zup_p e33 (by omega) _).trans ((zup_p e31 (by omega) _).trans (zup_p e15 (by omega) _)))))) (funext fun j => by by_cases q : j = (M a 75); (rw [q, yup_s]; have hw : M24 (a + 46) (M a 75) = u18 := ((zup_p e37 (by omega) _).trans ((zup_p e35 (by omega) _).trans ((zup_p e33 (by omega) _).trans (zup_e e31 (by omega))))); omega); (rw [yup_n q]; exact ((zup_p e37 (by omega) _).trans ((zup_p e35 (by omega) _).trans ((zup_p e33 (by omega) _).trans ((zup_n e31 (by omega)).trans (zup_p e15 (by omega) _))))))) (funext fun j => by by_cases q : j = (M a 75); (rw [q, yup_s]; have hw : M24 (a + 47) (M a 75) = 0 := ((zup_p e37 (by omega) _).trans ((zup_p e35 (by omega) _).trans (zup_e e33 (by omega)))); omega); (rw [yup_n q]; exact ((zup_p e37 (by omega) _).trans ((zup_p e35 (by omega) _).trans ((zup_n e33 (by omega)).trans ((zup_p e31 (by omega) _).trans (zup_p e15 (by omega) _)))))))
        refine q_iconst C dX12_operand_65 (n := 66) rfl ?_
        exact q_zret C dX12_operand_66 ⟨rfl, rfl⟩ (by omega) (by rw [hPo]; exact ⟨1, M24, J25, rfl, rfl, hI26, hK29, by omega, Or.inr hx38⟩)
      refine q_if_eq C 59 dX12_operand_51 (n := 54) rfl rfl (by omega) (fun h39 => ?_) (fun h39 => ?_)
      · refine q_iload_n C dX12_operand_59 (n := 60) rfl rfl ?_
        exact zK.weak (J_21 x2 (by omega) (by omega)) (zwk_n (zwk_c (zwk_n (zwk_n zwk_e))))
      · refine q_bipush C dX12_operand_54 (n := 56) rfl (x := 40) (by decide) ?_
        refine q_goto C 60 dX12_operand_56 rfl ?_
        exact zK.weak (J_21 40 (by omega) (by omega)) (zwk_n (zwk_c (zwk_n (zwk_n zwk_e))))
    · refine q_aload_n C dX12_operand_31 (n := 32) rfl rfl ?_
      refine q_bipush C dX12_operand_32 (n := 34) rfl (x := 8) (by decide) ?_
      refine q_iload_n C dX12_operand_34 (n := 35) rfl rfl ?_
      refine q_callVi C dX12_operand_35 (n := 38) rfl m_X12_376 v_yX12_badAt (zM0 h0) ⟨by decide, rfl⟩ (c_X12_badAt (w := w) (J := J) hI hF h0 8 v1 (by omega) (by omega)) (Nat.le_of_ble_eq_true rfl) rfl rfl (Nat.le_of_ble_eq_true rfl) ⟨Nat.le_refl _, Nat.le_refl _⟩ (fun x46 M42 J43  hI44 h45 => ?_)
      obtain ⟨hk47, h40, h41⟩ := h45
      have hK48 := hK0.tr hk47 rfl rfl rfl
      exact q_zret C dX12_operand_38 ⟨rfl, rfl⟩ (by omega) (by rw [hPo]; exact ⟨x46, M42, J43, rfl, rfl, hI44, hK48, by omega, Or.inl (by omega)⟩)
  refine q_if_ge C 22 dX12_operand_15 (n := 18) rfl rfl (by omega) (fun h49 => ?_) (fun h49 => ?_)
  · exact zK.weak (J_10 (by omega)) (zwk_c (zwk_c (zwk_c (zwk_c zwk_e))))
  · refine q_iload_n C dX12_operand_18 (n := 19) rfl rfl ?_
    refine q_if_eq C 67 dX12_operand_19 (n := 22) rfl rfl (by omega) (fun h50 => ?_) (fun h50 => ?_)
    · refine q_aload_n C dX12_operand_67 (n := 68) rfl rfl ?_
      refine q_getR C dX12_operand_68 (n := 71) rfl f_X12_40 (zM0 h0) (hF _ _ _ (zM31 h0)) ?_
      refine q_iload_n C dX12_operand_71 (n := 72) rfl rfl ?_
      have g51 := zI.at hI ((zM33 h0) v1)
      refine q_iald C dX12_operand_72 (n := 73) rfl (zM32 h0) (by omega) (v := M (a + 9) v1) rfl ?_
      have J_58 : ∀ (M53 : zMm) (J54 : zJm), zI G M53 → zMd a [43, 45, 46, 47, 48] [74, 75, 76, 78] [(18, 11), (18, 12), (18, 13), (18, 14)] M M53 → zMd a [] [] [] M M53 → zK w p e 4 0 0 s m args below meth c 4 T Po 110 [.ref (w.2.1 + a), zi v1, .null, .null] [] (T, M53, J54, R) := by
        intro M53 J54 hI55 hK56 hK57
        refine q_aload_n C dX12_operand_110 (n := 111) rfl rfl ?_
        refine q_iconst C dX12_operand_111 (n := 112) rfl ?_
        refine q_aload_n C dX12_operand_112 (n := 113) rfl rfl ?_
        refine q_getL C dX12_operand_113 (n := 116) rfl f_X12_559 (zM0 h0) (fun l59 => ?_)
        refine q_iload_n C dX12_operand_116 (n := 117) rfl rfl ?_
        refine q_callVv C dX12_operand_117 (n := 120) rfl m_X12_578 v_yX12_code (zM0 h0) ⟨by decide, rfl⟩ (c_X12_code (w := w) (J := J54) hI55 hF h0 0 l59 v1 (by omega) (by have hz60 : M53 a 74 = M a 74 := (hK57.getS rfl rfl); omega) (by omega)) (Nat.le_of_ble_eq_true rfl) rfl rfl (Nat.le_of_ble_eq_true rfl) ⟨Nat.le_refl _, Nat.le_refl _⟩ (fun M62 J63  hI64 h65 => ?_)
        obtain ⟨hk66, h61⟩ := h65
        have hK67 := hK56.tr hk66 rfl rfl rfl
        have hz68 : M53 a 74 = M a 74 := (hK57.getS rfl rfl)
        rw [hz68] at h61
        obtain ⟨M70, e69⟩ : ∃ q, q = zup M53 (a + 43) (M a 74) 0 := ⟨_, rfl⟩
        obtain ⟨M72, e71⟩ : ∃ q, q = zup M70 (a + 45) (M a 74) v1 := ⟨_, rfl⟩
        have e73 : M62 = zup M72 a 74 ((M a 74) + 1) := by rw [e71]; rw [e69]; exact h61
        refine q_aload_n C dX12_operand_120 (n := 121) rfl rfl ?_
        refine q_iconst C dX12_operand_121 (n := 122) rfl ?_
        refine q_putZ C dX12_operand_122 (n := 125) rfl f_X12_597 (zM0 h0) ⟨rfl, rfl⟩ (by omega) (fun M74 (e75 : M74 = zup M62 a 78 1) => ?_)
        have hI76 : zI G M74 := hI64.put e75 (zM176 h0) rfl (by omega)
        have hK77 := hK67.upS e75 rfl
        have hx78 : zSc M74 a (k + 1) := zCd.cgr (S_push p1 (by omega) (by omega)) (by have hw : M74 a 74 = (M a 74) + 1 := ((zup_n e75 (by omega)).trans (zup_s e73)); omega) ((zup_n e75 (by omega)).trans ((zup_n e73 (by omega)).trans ((zup_p e71 (by omega) _).trans ((zup_p e69 (by omega) _).trans (hK57.getS rfl rfl))))) (by have hw : M74 a 78 = 1 := (zup_s e75); omega) (funext fun j => by by_cases q : j = (M a 74); (rw [q, yup_s]; have hw : M74 (a + 43) (M a 74) = 0 := ((zup_p e75 (by omega) _).trans ((zup_p e73 (by omega) _).trans ((zup_p e71 (by omega) _).trans (zup_e e69 (by omega))))); omega); (rw [yup_n q]; exact ((zup_p e75 (by omega) _).trans ((zup_p e73 (by omega) _).trans ((zup_p e71 (by omega) _).trans ((zup_n e69 (by omega)).trans (hK57.getA rfl rfl rfl))))))) (funext fun j => ((zup_p e75 (by omega) _).trans ((zup_p e73 (by omega) _).trans ((zup_p e71 (by omega) _).trans ((zup_p e69 (by omega) _).trans (hK57.getA rfl rfl rfl)))))) (funext fun j => ((zup_p e75 (by omega) _).trans ((zup_p e73 (by omega) _).trans ((zup_p e71 (by omega) _).trans ((zup_p e69 (by omega) _).trans (hK57.getA rfl rfl rfl)))))) (funext fun j => ((zup_p e75 (by omega) _).trans ((zup_p e73 (by omega) _).trans ((zup_p e71 (by omega) _).trans ((zup_p e69 (by omega) _).trans (hK57.getA rfl rfl rfl))))))
        refine q_iconst C dX12_operand_125 (n := 126) rfl ?_
        exact q_zret C dX12_operand_126 ⟨rfl, rfl⟩ (by omega) (by rw [hPo]; exact ⟨1, M74, J63, rfl, rfl, hI76, hK77, by omega, Or.inr hx78⟩)
      refine q_if_ne C 84 dX12_operand_73 (n := 76) rfl rfl (by omega) (fun h79 => ?_) (fun h79 => ?_)
      · refine q_aload_n C dX12_operand_84 (n := 85) rfl rfl ?_
        refine q_getR C dX12_operand_85 (n := 88) rfl f_X12_40 (zM0 h0) (hF _ _ _ (zM31 h0)) ?_
        refine q_iload_n C dX12_operand_88 (n := 89) rfl rfl ?_
        refine q_iald C dX12_operand_89 (n := 90) rfl (zM32 h0) (by omega) (v := M (a + 9) v1) rfl ?_
        refine q_iconst C dX12_operand_90 (n := 91) rfl ?_
        have J_87 : ∀ (M81 : zMm) (J82 : zJm), zI G M81 → zMd a [43, 45, 46, 47, 48] [74, 75, 76, 78] [(18, 11), (18, 12), (18, 13), (18, 14)] M M81 → zMd a [] [] [] M M81 → zMd a [] [] [] M M81 → zK w p e 4 0 0 s m args below meth c 4 T Po 102 [.ref (w.2.1 + a), zi v1, .null, .null] [] (T, M81, J82, R) := by
          intro M81 J82 hI83 hK84 hK85 hK86
          refine q_aload_n C dX12_operand_102 (n := 103) rfl rfl ?_
          refine q_bipush C dX12_operand_103 (n := 105) rfl (x := 8) (by decide) ?_
          refine q_iload_n C dX12_operand_105 (n := 106) rfl rfl ?_
          refine q_callVi C dX12_operand_106 (n := 109) rfl m_X12_376 v_yX12_badAt (zM0 h0) ⟨by decide, rfl⟩ (c_X12_badAt (w := w) (J := J82) hI83 hF h0 8 v1 (by omega) (by omega)) (Nat.le_of_ble_eq_true rfl) rfl rfl (Nat.le_of_ble_eq_true rfl) ⟨Nat.le_refl _, Nat.le_refl _⟩ (fun x94 M90 J91  hI92 h93 => ?_)
          obtain ⟨hk95, h88, h89⟩ := h93
          have hK96 := hK84.tr hk95 rfl rfl rfl
          exact q_zret C dX12_operand_109 ⟨rfl, rfl⟩ (by omega) (by rw [hPo]; exact ⟨x94, M90, J91, rfl, rfl, hI92, hK96, by omega, Or.inl (by omega)⟩)
        refine q_icmp_ne C 102 dX12_operand_91 (n := 94) rfl rfl (by omega) (fun h97 => ?_) (fun h97 => ?_)
        · exact zK.weak (J_87 M J hI hK0 (zMd.rf : zMd a [] [] [] M M) (zMd.rf : zMd a [] [] [] M M)) (zwk_c (zwk_c (zwk_n (zwk_n zwk_e))))
        · refine q_aload_n C dX12_operand_94 (n := 95) rfl rfl ?_
          refine q_iload_n C dX12_operand_95 (n := 96) rfl rfl ?_
          refine q_callVi C dX12_operand_96 (n := 99) rfl m_X12_594 v_yX12_reads (zM0 h0) ⟨by decide, rfl⟩ (c_X12_reads (w := w) (J := J) hI hF h0 v1 (by omega)) (Nat.le_of_ble_eq_true rfl) rfl rfl (Nat.le_of_ble_eq_true rfl) ⟨Nat.le_refl _, Nat.le_refl _⟩ (fun x103 M99 J100  hI101 h102 => ?_)
          obtain ⟨hk104, h98⟩ := h102
          have hK105 := hK0.tr hk104 rfl rfl rfl
          have hK106 := (zMd.rf : zMd a [] [] [] M M).tr hk104 rfl rfl rfl
          have hK107 := (zMd.rf : zMd a [] [] [] M M).tr hk104 rfl rfl rfl
          refine q_if_ne C 110 dX12_operand_99 (n := 102) rfl rfl (by omega) (fun h108 => ?_) (fun h108 => ?_)
          · exact zK.weak (J_58 M99 J100 hI101 hK105 hK106) (zwk_c (zwk_c (zwk_n (zwk_n zwk_e))))
          · exact zK.weak (J_87 M99 J100 hI101 hK105 hK106 hK107) (zwk_c (zwk_c (zwk_n (zwk_n zwk_e))))
      · refine q_aload_n C dX12_operand_76 (n := 77) rfl rfl ?_
        refine q_lconst C dX12_operand_77 (n := 78) rfl ?_
        refine q_putL C dX12_operand_78 (n := 81) rfl f_X12_559 (zM0 h0) ⟨rfl, rfl⟩ (fun J109 => ?_)
        refine q_goto C 110 dX12_operand_81 rfl ?_
        exact zK.weak (J_58 M J109 hI hK0 (zMd.rf : zMd a [] [] [] M M)) (zwk_c (zwk_c (zwk_n (zwk_n zwk_e))))
    · exact zK.weak (J_10 (by omega)) (zwk_c (zwk_c (zwk_c (zwk_c zwk_e))))
theorem c_X12_behind {w : zWp} {T : zTl} {M : zMm} {J : zJm} {R : zRm'} {G : zGt} {F : zRm'} {a : Nat} {k : Int} (hI : zI G M) (hF : zF F R) (h0 : zModel T F G a) (v1 : Int) (p1 : zSc M a k) (p2 : M a 78 = 1) (p3 : k ≤ 3439) (p4 : 0 ≤ v1 ∧ v1 ≤ 3499) : zCt w 4 0 0 yX12_behind cX12_behind 3 (some .boolean) [.ref (w.2.1 + a), zi v1] (T, M, J, R) (zPi T R G (fun x M2 => (zMd a [43, 44, 45, 46, 47, 48] [74, 75, 76, 78] [(18, 11), (18, 12), (18, 13), (18, 14)] M M2) ∧ (x = 0 ∨ x = 1) ∧ (x = 0 ∨ zSc M2 a (k + 1)))) := by
  refine zCt.of rfl (Nat.le_of_ble_eq_true rfl) ?_
  intro p e s m args below meth c C
  obtain ⟨Po, hPo⟩ : ∃ Po, Po = zPi T R G (fun x M2 => (zMd a [43, 44, 45, 46, 47, 48] [74, 75, 76, 78] [(18, 11), (18, 12), (18, 13), (18, 14)] M M2) ∧ (x = 0 ∨ x = 1) ∧ (x = 0 ∨ zSc M2 a (k + 1))) := ⟨_, rfl⟩
  rw [← hPo]
  have hK0 : zMd a [43, 44, 45, 46, 47, 48] [74, 75, 76, 78] [(18, 11), (18, 12), (18, 13), (18, 14)] M M := zMd.rf
  have gx0 := zSc.num p1
  show zK w p e 4 0 0 s m args below meth c 3 T Po 0 [.ref (w.2.1 + a), zi v1, .null] [] (T, M, J, R)
  refine q_aload_n C dX12_behind_0 (n := 1) rfl rfl ?_
  refine q_iload_n C dX12_behind_1 (n := 2) rfl rfl ?_
  refine q_bipush C dX12_behind_2 (n := 4) rfl (x := 41) (by decide) ?_
  refine q_callVp C dX12_behind_4 (n := 7) rfl m_X12_406 v_yX12_isSign (zM0 h0) ⟨by decide, rfl⟩ (c_X12_isSign (w := w) (J := J) hI hF h0 v1 41 (by omega) (by omega)) (Nat.le_of_ble_eq_true rfl) rfl rfl (Nat.le_of_ble_eq_true rfl) ⟨Nat.le_refl _, Nat.le_refl _⟩ (fun x4 h5 => ?_)
  obtain ⟨h1, h2, h3⟩ := h5
  refine q_if_eq C 51 dX12_behind_7 (n := 10) rfl rfl (by omega) (fun h6 => ?_) (fun h6 => ?_)
  · refine q_aload_n C dX12_behind_51 (n := 52) rfl rfl ?_
    refine q_iload_n C dX12_behind_52 (n := 53) rfl rfl ?_
    refine q_bipush C dX12_behind_53 (n := 55) rfl (x := 58) (by decide) ?_
    refine q_callVp C dX12_behind_55 (n := 58) rfl m_X12_406 v_yX12_isSign (zM0 h0) ⟨by decide, rfl⟩ (c_X12_isSign (w := w) (J := J) hI hF h0 v1 58 (by omega) (by omega)) (Nat.le_of_ble_eq_true rfl) rfl rfl (Nat.le_of_ble_eq_true rfl) ⟨Nat.le_refl _, Nat.le_refl _⟩ (fun x10 h11 => ?_)
    obtain ⟨h7, h8, h9⟩ := h11
    refine q_if_eq C 161 dX12_behind_58 (n := 61) rfl rfl (by omega) (fun h12 => ?_) (fun h12 => ?_)
    · refine q_aload_n C dX12_behind_161 (n := 162) rfl rfl ?_
      refine q_iload_n C dX12_behind_162 (n := 163) rfl rfl ?_
      refine q_bipush C dX12_behind_163 (n := 165) rfl (x := 63) (by decide) ?_
      refine q_callVp C dX12_behind_165 (n := 168) rfl m_X12_406 v_yX12_isSign (zM0 h0) ⟨by decide, rfl⟩ (c_X12_isSign (w := w) (J := J) hI hF h0 v1 63 (by omega) (by omega)) (Nat.le_of_ble_eq_true rfl) rfl rfl (Nat.le_of_ble_eq_true rfl) ⟨Nat.le_refl _, Nat.le_refl _⟩ (fun x16 h17 => ?_)
      obtain ⟨h13, h14, h15⟩ := h17
      refine q_if_eq C 214 dX12_behind_168 (n := 171) rfl rfl (by omega) (fun h18 => ?_) (fun h18 => ?_)
      · refine q_aload_n C dX12_behind_214 (n := 215) rfl rfl ?_
        refine q_iload_n C dX12_behind_215 (n := 216) rfl rfl ?_
        refine q_callVp C dX12_behind_216 (n := 219) rfl m_X12_606 v_yX12_operator (zM0 h0) ⟨by decide, rfl⟩ (c_X12_operator (w := w) (J := J) hI hF h0 v1 (by omega)) (Nat.le_of_ble_eq_true rfl) rfl rfl (Nat.le_of_ble_eq_true rfl) ⟨Nat.le_refl _, Nat.le_refl _⟩ (fun x20 h21 => ?_)
        refine q_istore_n C [.ref (w.2.1 + a), zi v1, zi x20] dX12_behind_219 (n := 220) rfl rfl rfl ?_
        refine q_iload_n C dX12_behind_220 (n := 221) rfl rfl ?_
        refine q_if_ge C 232 dX12_behind_221 (n := 224) rfl rfl (by omega) (fun h22 => ?_) (fun h22 => ?_)
        · refine q_aload_n C dX12_behind_232 (n := 233) rfl rfl ?_
          refine q_iload_n C dX12_behind_233 (n := 234) rfl rfl ?_
          refine q_callSp C dX12_behind_234 (n := 237) rfl m_X12_582 s_yX12_strength (c_X12_strength (w := w) (J := J) hI hF x20 (by omega)) (Nat.le_of_ble_eq_true rfl) rfl rfl (Nat.le_of_ble_eq_true rfl) ⟨Nat.le_refl _, Nat.le_refl _⟩ (fun x26 h27 => ?_)
          obtain ⟨h23, h24, h25⟩ := h27
          refine q_callVv C dX12_behind_237 (n := 240) rfl m_X12_603 v_yX12_doesAbove (zM0 h0) ⟨by decide, rfl⟩ (c_X12_doesAbove (w := w) (J := J) hI hF h0 x26 p1 (by omega) (by omega) (by omega)) (Nat.le_of_ble_eq_true rfl) rfl rfl (Nat.le_of_ble_eq_true rfl) ⟨Nat.le_refl _, Nat.le_refl _⟩ (fun M29 J30  hI31 h32 => ?_)
          obtain ⟨hk33, h28⟩ := h32
          have hK34 := hK0.tr hk33 rfl rfl rfl
          have gx35 := zSc.num h28
          have hz36 : M29 a 78 = M a 78 := (hk33.getS rfl rfl)
          refine q_iload_n C dX12_behind_240 (n := 241) rfl rfl ?_
          refine q_bipush C dX12_behind_241 (n := 243) rfl (x := 30) (by decide) ?_
          refine q_icmp_eq C 252 dX12_behind_243 (n := 246) rfl rfl (by omega) (fun h37 => ?_) (fun h37 => ?_)
          · refine q_aload_n C dX12_behind_252 (n := 253) rfl rfl ?_
            refine q_iload_n C dX12_behind_253 (n := 254) rfl rfl ?_
            refine q_lconst C dX12_behind_254 (n := 255) rfl ?_
            refine q_iload_n C dX12_behind_255 (n := 256) rfl rfl ?_
            refine q_callVv C dX12_behind_256 (n := 259) rfl m_X12_578 v_yX12_code (zM0 h0) ⟨by decide, rfl⟩ (c_X12_code (w := w) (J := J30) hI31 hF h0 x20 (Int64.ofNat ((0 : Fin 2) : Nat)) v1 (by omega) (by omega) (by omega)) (Nat.le_of_ble_eq_true rfl) rfl rfl (Nat.le_of_ble_eq_true rfl) ⟨Nat.le_refl _, Nat.le_refl _⟩ (fun M39 J40  hI41 h42 => ?_)
            obtain ⟨hk43, h38⟩ := h42
            have hK44 := hK34.tr hk43 rfl rfl rfl
            obtain ⟨M46, e45⟩ : ∃ q, q = zup M29 (a + 43) (M29 a 74) x20 := ⟨_, rfl⟩
            obtain ⟨M48, e47⟩ : ∃ q, q = zup M46 (a + 45) (M29 a 74) v1 := ⟨_, rfl⟩
            have e49 : M39 = zup M48 a 74 (M29 a 74 + 1) := by rw [e47]; rw [e45]; exact h38
            refine q_aload_n C dX12_behind_259 (n := 260) rfl rfl ?_
            refine q_iload_n C dX12_behind_260 (n := 261) rfl rfl ?_
            refine q_aload_n C dX12_behind_261 (n := 262) rfl rfl ?_
            refine q_getI C dX12_behind_262 (n := 265) rfl f_X12_556 (zM0 h0) (v := M29 a 74 + 1) (zup_s e49) ?_
            refine q_iconst C dX12_behind_265 (n := 266) rfl ?_
            refine q_isub C dX12_behind_266 (n := 267) rfl (v := (M29 a 74 + 1) - 1) rfl ?_
            refine q_iload_n C dX12_behind_267 (n := 268) rfl rfl ?_
            refine q_callVv C dX12_behind_268 (n := 271) rfl m_X12_591 v_yX12_waitsFor (zM0 h0) ⟨by decide, rfl⟩ (c_X12_waitsFor (w := w) (J := J40) hI41 hF h0 x20 ((M29 a 74 + 1) - 1) v1 (by omega) (by omega) (by omega) (by have hz50 : M39 a 75 = M29 a 75 := ((zup_n e49 (by omega)).trans ((zup_p e47 (by omega) _).trans (zup_p e45 (by omega) _))); omega)) (Nat.le_of_ble_eq_true rfl) rfl rfl (Nat.le_of_ble_eq_true rfl) ⟨Nat.le_refl _, Nat.le_refl _⟩ (fun M52 J53  hI54 h55 => ?_)
            obtain ⟨hk56, h51⟩ := h55
            have hK57 := hK44.tr hk56 rfl rfl rfl
            have hz58 : M39 a 75 = M29 a 75 := ((zup_n e49 (by omega)).trans ((zup_p e47 (by omega) _).trans (zup_p e45 (by omega) _)))
            rw [hz58] at h51
            obtain ⟨M60, e59⟩ : ∃ q, q = zup M39 (a + 46) (M29 a 75) x20 := ⟨_, rfl⟩
            obtain ⟨M62, e61⟩ : ∃ q, q = zup M60 (a + 47) (M29 a 75) ((M29 a 74 + 1) - 1) := ⟨_, rfl⟩
            obtain ⟨M64, e63⟩ : ∃ q, q = zup M62 (a + 48) (M29 a 75) v1 := ⟨_, rfl⟩
            have e65 : M52 = zup M64 a 75 ((M29 a 75) + 1) := by rw [e63]; rw [e61]; rw [e59]; exact h51
            refine q_aload_n C dX12_behind_271 (n := 272) rfl rfl ?_
            refine q_iconst C dX12_behind_272 (n := 273) rfl ?_
            refine q_putZ C dX12_behind_273 (n := 276) rfl f_X12_597 (zM0 h0) ⟨rfl, rfl⟩ (by omega) (fun M66 (e67 : M66 = zup M52 a 78 0) => ?_)
            have hI68 : zI G M66 := hI54.put e67 (zM176 h0) rfl (by omega)
            have hK69 := hK57.upS e67 rfl
            have hz70 : M29 a 78 = M a 78 := (hk33.getS rfl rfl)
            have hx71 : zSc M66 a (k + 1) := zCd.cgr (S_jump h28 (x := x20) (y := x20) (k2 := k + 1) (by omega) (by omega) (by omega)) (by have hw : M66 a 74 = M29 a 74 + 1 := ((zup_n e67 (by omega)).trans ((zup_n e65 (by omega)).trans ((zup_p e63 (by omega) _).trans ((zup_p e61 (by omega) _).trans ((zup_p e59 (by omega) _).trans (zup_s e49)))))); omega) (by have hw : M66 a 75 = (M29 a 75) + 1 := ((zup_n e67 (by omega)).trans (zup_s e65)); omega) (by have hw : M66 a 78 = 0 := (zup_s e67); omega) (funext fun j => by by_cases q : j = (M29 a 74); (rw [q, yup_s]; have hw : M66 (a + 43) (M29 a 74) = x20 := ((zup_p e67 (by omega) _).trans ((zup_p e65 (by omega) _).trans ((zup_p e63 (by omega) _).trans ((zup_p e61 (by omega) _).trans ((zup_p e59 (by omega) _).trans ((zup_p e49 (by omega) _).trans ((zup_p e47 (by omega) _).trans (zup_e e45 (by omega))))))))); omega); (rw [yup_n q]; exact ((zup_p e67 (by omega) _).trans ((zup_p e65 (by omega) _).trans ((zup_p e63 (by omega) _).trans ((zup_p e61 (by omega) _).trans ((zup_p e59 (by omega) _).trans ((zup_p e49 (by omega) _).trans ((zup_p e47 (by omega) _).trans (zup_n e45 (by omega))))))))))) (funext fun j => ((zup_p e67 (by omega) _).trans ((zup_p e65 (by omega) _).trans ((zup_p e63 (by omega) _).trans ((zup_p e61 (by omega) _).trans ((zup_p e59 (by omega) _).trans ((zup_p e49 (by omega) _).trans ((zup_p e47 (by omega) _).trans (zup_p e45 (by omega) _))))))))) (funext fun j => by by_cases q : j = (M29 a 75); (rw [q, yup_s]; have hw : M66 (a + 46) (M29 a 75) = x20 := ((zup_p e67 (by omega) _).trans ((zup_p e65 (by omega) _).trans ((zup_p e63 (by omega) _).trans ((zup_p e61 (by omega) _).trans (zup_e e59 (by omega)))))); have hv : M29 (a + 46) (M29 a 75) = M (a + 46) (M29 a 75) := (hk33.getA rfl rfl rfl); omega); (rw [yup_n q]; exact ((zup_p e67 (by omega) _).trans ((zup_p e65 (by omega) _).trans ((zup_p e63 (by omega) _).trans ((zup_p e61 (by omega) _).trans ((zup_n e59 (by omega)).trans ((zup_p e49 (by omega) _).trans ((zup_p e47 (by omega) _).trans (zup_p e45 (by omega) _)))))))))) (funext fun j => by by_cases q : j = (M29 a 75); (rw [q, yup_s]; have hw : M66 (a + 47) (M29 a 75) = (M29 a 74 + 1) - 1 := ((zup_p e67 (by omega) _).trans ((zup_p e65 (by omega) _).trans ((zup_p e63 (by omega) _).trans (zup_e e61 (by omega))))); have hv : M29 (a + 47) (M29 a 75) = M (a + 47) (M29 a 75) := (hk33.getA rfl rfl rfl); omega); (rw [yup_n q]; exact ((zup_p e67 (by omega) _).trans ((zup_p e65 (by omega) _).trans ((zup_p e63 (by omega) _).trans ((zup_n e61 (by omega)).trans ((zup_p e59 (by omega) _).trans ((zup_p e49 (by omega) _).trans ((zup_p e47 (by omega) _).trans (zup_p e45 (by omega) _))))))))))
            refine q_iconst C dX12_behind_276 (n := 277) rfl ?_
            exact q_zret C dX12_behind_277 ⟨rfl, rfl⟩ (by omega) (by rw [hPo]; exact ⟨1, M66, J53, rfl, rfl, hI68, hK69, by omega, Or.inr hx71⟩)
          · refine q_iload_n C dX12_behind_246 (n := 247) rfl rfl ?_
            refine q_bipush C dX12_behind_247 (n := 249) rfl (x := 31) (by decide) ?_
            refine q_icmp_ne C 259 dX12_behind_249 (n := 252) rfl rfl (by omega) (fun h72 => ?_) (fun h72 => ?_)
            · refine q_aload_n C dX12_behind_259 (n := 260) rfl rfl ?_
              refine q_iload_n C dX12_behind_260 (n := 261) rfl rfl ?_
              refine q_aload_n C dX12_behind_261 (n := 262) rfl rfl ?_
              have g73 := zI.at hI31 (zM173 h0)
              refine q_getI C dX12_behind_262 (n := 265) rfl f_X12_556 (zM0 h0) (v := M29 a 74) rfl ?_
              refine q_iconst C dX12_behind_265 (n := 266) rfl ?_
              refine q_isub C dX12_behind_266 (n := 267) rfl (v := (M29 a 74) - 1) rfl ?_
              refine q_iload_n C dX12_behind_267 (n := 268) rfl rfl ?_
              refine q_callVv C dX12_behind_268 (n := 271) rfl m_X12_591 v_yX12_waitsFor (zM0 h0) ⟨by decide, rfl⟩ (c_X12_waitsFor (w := w) (J := J30) hI31 hF h0 x20 ((M29 a 74) - 1) v1 (by omega) (by omega) (by omega) (by omega)) (Nat.le_of_ble_eq_true rfl) rfl rfl (Nat.le_of_ble_eq_true rfl) ⟨Nat.le_refl _, Nat.le_refl _⟩ (fun M75 J76  hI77 h78 => ?_)
              obtain ⟨hk79, h74⟩ := h78
              have hK80 := hK34.tr hk79 rfl rfl rfl
              obtain ⟨M82, e81⟩ : ∃ q, q = zup M29 (a + 46) (M29 a 75) x20 := ⟨_, rfl⟩
              obtain ⟨M84, e83⟩ : ∃ q, q = zup M82 (a + 47) (M29 a 75) ((M29 a 74) - 1) := ⟨_, rfl⟩
              obtain ⟨M86, e85⟩ : ∃ q, q = zup M84 (a + 48) (M29 a 75) v1 := ⟨_, rfl⟩
              have e87 : M75 = zup M86 a 75 (M29 a 75 + 1) := by rw [e85]; rw [e83]; rw [e81]; exact h74
              refine q_aload_n C dX12_behind_271 (n := 272) rfl rfl ?_
              refine q_iconst C dX12_behind_272 (n := 273) rfl ?_
              refine q_putZ C dX12_behind_273 (n := 276) rfl f_X12_597 (zM0 h0) ⟨rfl, rfl⟩ (by omega) (fun M88 (e89 : M88 = zup M75 a 78 0) => ?_)
              have hI90 : zI G M88 := hI77.put e89 (zM176 h0) rfl (by omega)
              have hK91 := hK80.upS e89 rfl
              have gsb := s_bi (c := x20) (by omega)
              have hz92 : M29 a 78 = M a 78 := (hk33.getS rfl rfl)
              have hx93 : zSc M88 a (k + 1) := zCd.cgr (S_wait h28 (x := x20) (y := (M29 a 74) - 1) (w2 := 0) (k2 := k + 1) (by omega) (by omega) (by omega) (by omega)) ((zup_n e89 (by omega)).trans ((zup_n e87 (by omega)).trans ((zup_p e85 (by omega) _).trans ((zup_p e83 (by omega) _).trans (zup_p e81 (by omega) _))))) (by have hw : M88 a 75 = M29 a 75 + 1 := ((zup_n e89 (by omega)).trans (zup_s e87)); omega) (by have hw : M88 a 78 = 0 := (zup_s e89); omega) (funext fun j => ((zup_p e89 (by omega) _).trans ((zup_p e87 (by omega) _).trans ((zup_p e85 (by omega) _).trans ((zup_p e83 (by omega) _).trans (zup_p e81 (by omega) _)))))) (funext fun j => ((zup_p e89 (by omega) _).trans ((zup_p e87 (by omega) _).trans ((zup_p e85 (by omega) _).trans ((zup_p e83 (by omega) _).trans (zup_p e81 (by omega) _)))))) (funext fun j => by by_cases q : j = (M29 a 75); (rw [q, yup_s]; have hw : M88 (a + 46) (M29 a 75) = x20 := ((zup_p e89 (by omega) _).trans ((zup_p e87 (by omega) _).trans ((zup_p e85 (by omega) _).trans ((zup_p e83 (by omega) _).trans (zup_e e81 (by omega)))))); have hv : M29 (a + 46) (M29 a 75) = M (a + 46) (M29 a 75) := (hk33.getA rfl rfl rfl); omega); (rw [yup_n q]; exact ((zup_p e89 (by omega) _).trans ((zup_p e87 (by omega) _).trans ((zup_p e85 (by omega) _).trans ((zup_p e83 (by omega) _).trans (zup_n e81 (by omega)))))))) (funext fun j => by by_cases q : j = (M29 a 75); (rw [q, yup_s]; have hw : M88 (a + 47) (M29 a 75) = (M29 a 74) - 1 := ((zup_p e89 (by omega) _).trans ((zup_p e87 (by omega) _).trans ((zup_p e85 (by omega) _).trans (zup_e e83 (by omega))))); have hv : M29 (a + 47) (M29 a 75) = M (a + 47) (M29 a 75) := (hk33.getA rfl rfl rfl); omega); (rw [yup_n q]; exact ((zup_p e89 (by omega) _).trans ((zup_p e87 (by omega) _).trans ((zup_p e85 (by omega) _).trans ((zup_n e83 (by omega)).trans (zup_p e81 (by omega) _)))))))
              refine q_iconst C dX12_behind_276 (n := 277) rfl ?_
              exact q_zret C dX12_behind_277 ⟨rfl, rfl⟩ (by omega) (by rw [hPo]; exact ⟨1, M88, J76, rfl, rfl, hI90, hK91, by omega, Or.inr hx93⟩)
            · refine q_aload_n C dX12_behind_252 (n := 253) rfl rfl ?_
              refine q_iload_n C dX12_behind_253 (n := 254) rfl rfl ?_
              refine q_lconst C dX12_behind_254 (n := 255) rfl ?_
              refine q_iload_n C dX12_behind_255 (n := 256) rfl rfl ?_
              refine q_callVv C dX12_behind_256 (n := 259) rfl m_X12_578 v_yX12_code (zM0 h0) ⟨by decide, rfl⟩ (c_X12_code (w := w) (J := J30) hI31 hF h0 x20 (Int64.ofNat ((0 : Fin 2) : Nat)) v1 (by omega) (by omega) (by omega)) (Nat.le_of_ble_eq_true rfl) rfl rfl (Nat.le_of_ble_eq_true rfl) ⟨Nat.le_refl _, Nat.le_refl _⟩ (fun M95 J96  hI97 h98 => ?_)
              obtain ⟨hk99, h94⟩ := h98
              have hK100 := hK34.tr hk99 rfl rfl rfl
              obtain ⟨M102, e101⟩ : ∃ q, q = zup M29 (a + 43) (M29 a 74) x20 := ⟨_, rfl⟩
              obtain ⟨M104, e103⟩ : ∃ q, q = zup M102 (a + 45) (M29 a 74) v1 := ⟨_, rfl⟩
              have e105 : M95 = zup M104 a 74 (M29 a 74 + 1) := by rw [e103]; rw [e101]; exact h94
              refine q_aload_n C dX12_behind_259 (n := 260) rfl rfl ?_
              refine q_iload_n C dX12_behind_260 (n := 261) rfl rfl ?_
              refine q_aload_n C dX12_behind_261 (n := 262) rfl rfl ?_
              refine q_getI C dX12_behind_262 (n := 265) rfl f_X12_556 (zM0 h0) (v := M29 a 74 + 1) (zup_s e105) ?_
              refine q_iconst C dX12_behind_265 (n := 266) rfl ?_
              refine q_isub C dX12_behind_266 (n := 267) rfl (v := (M29 a 74 + 1) - 1) rfl ?_
              refine q_iload_n C dX12_behind_267 (n := 268) rfl rfl ?_
              refine q_callVv C dX12_behind_268 (n := 271) rfl m_X12_591 v_yX12_waitsFor (zM0 h0) ⟨by decide, rfl⟩ (c_X12_waitsFor (w := w) (J := J96) hI97 hF h0 x20 ((M29 a 74 + 1) - 1) v1 (by omega) (by omega) (by omega) (by have hz106 : M95 a 75 = M29 a 75 := ((zup_n e105 (by omega)).trans ((zup_p e103 (by omega) _).trans (zup_p e101 (by omega) _))); omega)) (Nat.le_of_ble_eq_true rfl) rfl rfl (Nat.le_of_ble_eq_true rfl) ⟨Nat.le_refl _, Nat.le_refl _⟩ (fun M108 J109  hI110 h111 => ?_)
              obtain ⟨hk112, h107⟩ := h111
              have hK113 := hK100.tr hk112 rfl rfl rfl
              have hz114 : M95 a 75 = M29 a 75 := ((zup_n e105 (by omega)).trans ((zup_p e103 (by omega) _).trans (zup_p e101 (by omega) _)))
              rw [hz114] at h107
              obtain ⟨M116, e115⟩ : ∃ q, q = zup M95 (a + 46) (M29 a 75) x20 := ⟨_, rfl⟩
              obtain ⟨M118, e117⟩ : ∃ q, q = zup M116 (a + 47) (M29 a 75) ((M29 a 74 + 1) - 1) := ⟨_, rfl⟩
              obtain ⟨M120, e119⟩ : ∃ q, q = zup M118 (a + 48) (M29 a 75) v1 := ⟨_, rfl⟩
              have e121 : M108 = zup M120 a 75 ((M29 a 75) + 1) := by rw [e119]; rw [e117]; rw [e115]; exact h107
              refine q_aload_n C dX12_behind_271 (n := 272) rfl rfl ?_
              refine q_iconst C dX12_behind_272 (n := 273) rfl ?_
              refine q_putZ C dX12_behind_273 (n := 276) rfl f_X12_597 (zM0 h0) ⟨rfl, rfl⟩ (by omega) (fun M122 (e123 : M122 = zup M108 a 78 0) => ?_)
              have hI124 : zI G M122 := hI110.put e123 (zM176 h0) rfl (by omega)
              have hK125 := hK113.upS e123 rfl
              have hz126 : M29 a 78 = M a 78 := (hk33.getS rfl rfl)
              have hx127 : zSc M122 a (k + 1) := zCd.cgr (S_jump h28 (x := x20) (y := x20) (k2 := k + 1) (by omega) (by omega) (by omega)) (by have hw : M122 a 74 = M29 a 74 + 1 := ((zup_n e123 (by omega)).trans ((zup_n e121 (by omega)).trans ((zup_p e119 (by omega) _).trans ((zup_p e117 (by omega) _).trans ((zup_p e115 (by omega) _).trans (zup_s e105)))))); omega) (by have hw : M122 a 75 = (M29 a 75) + 1 := ((zup_n e123 (by omega)).trans (zup_s e121)); omega) (by have hw : M122 a 78 = 0 := (zup_s e123); omega) (funext fun j => by by_cases q : j = (M29 a 74); (rw [q, yup_s]; have hw : M122 (a + 43) (M29 a 74) = x20 := ((zup_p e123 (by omega) _).trans ((zup_p e121 (by omega) _).trans ((zup_p e119 (by omega) _).trans ((zup_p e117 (by omega) _).trans ((zup_p e115 (by omega) _).trans ((zup_p e105 (by omega) _).trans ((zup_p e103 (by omega) _).trans (zup_e e101 (by omega))))))))); omega); (rw [yup_n q]; exact ((zup_p e123 (by omega) _).trans ((zup_p e121 (by omega) _).trans ((zup_p e119 (by omega) _).trans ((zup_p e117 (by omega) _).trans ((zup_p e115 (by omega) _).trans ((zup_p e105 (by omega) _).trans ((zup_p e103 (by omega) _).trans (zup_n e101 (by omega))))))))))) (funext fun j => ((zup_p e123 (by omega) _).trans ((zup_p e121 (by omega) _).trans ((zup_p e119 (by omega) _).trans ((zup_p e117 (by omega) _).trans ((zup_p e115 (by omega) _).trans ((zup_p e105 (by omega) _).trans ((zup_p e103 (by omega) _).trans (zup_p e101 (by omega) _))))))))) (funext fun j => by by_cases q : j = (M29 a 75); (rw [q, yup_s]; have hw : M122 (a + 46) (M29 a 75) = x20 := ((zup_p e123 (by omega) _).trans ((zup_p e121 (by omega) _).trans ((zup_p e119 (by omega) _).trans ((zup_p e117 (by omega) _).trans (zup_e e115 (by omega)))))); have hv : M29 (a + 46) (M29 a 75) = M (a + 46) (M29 a 75) := (hk33.getA rfl rfl rfl); omega); (rw [yup_n q]; exact ((zup_p e123 (by omega) _).trans ((zup_p e121 (by omega) _).trans ((zup_p e119 (by omega) _).trans ((zup_p e117 (by omega) _).trans ((zup_n e115 (by omega)).trans ((zup_p e105 (by omega) _).trans ((zup_p e103 (by omega) _).trans (zup_p e101 (by omega) _)))))))))) (funext fun j => by by_cases q : j = (M29 a 75); (rw [q, yup_s]; have hw : M122 (a + 47) (M29 a 75) = (M29 a 74 + 1) - 1 := ((zup_p e123 (by omega) _).trans ((zup_p e121 (by omega) _).trans ((zup_p e119 (by omega) _).trans (zup_e e117 (by omega))))); have hv : M29 (a + 47) (M29 a 75) = M (a + 47) (M29 a 75) := (hk33.getA rfl rfl rfl); omega); (rw [yup_n q]; exact ((zup_p e123 (by omega) _).trans ((zup_p e121 (by omega) _).trans ((zup_p e119 (by omega) _).trans ((zup_n e117 (by omega)).trans ((zup_p e115 (by omega) _).trans ((zup_p e105 (by omega) _).trans ((zup_p e103 (by omega) _).trans (zup_p e101 (by omega) _))))))))))
              refine q_iconst C dX12_behind_276 (n := 277) rfl ?_
              exact q_zret C dX12_behind_277 ⟨rfl, rfl⟩ (by omega) (by rw [hPo]; exact ⟨1, M122, J109, rfl, rfl, hI124, hK125, by omega, Or.inr hx127⟩)
        · refine q_aload_n C dX12_behind_224 (n := 225) rfl rfl ?_
          refine q_bipush C dX12_behind_225 (n := 227) rfl (x := 8) (by decide) ?_
          refine q_iload_n C dX12_behind_227 (n := 228) rfl rfl ?_
          refine q_callVi C dX12_behind_228 (n := 231) rfl m_X12_376 v_yX12_badAt (zM0 h0) ⟨by decide, rfl⟩ (c_X12_badAt (w := w) (J := J) hI hF h0 8 v1 (by omega) (by omega)) (Nat.le_of_ble_eq_true rfl) rfl rfl (Nat.le_of_ble_eq_true rfl) ⟨Nat.le_refl _, Nat.le_refl _⟩ (fun x134 M130 J131  hI132 h133 => ?_)
          obtain ⟨hk135, h128, h129⟩ := h133
          have hK136 := hK0.tr hk135 rfl rfl rfl
          exact q_zret C dX12_behind_231 ⟨rfl, rfl⟩ (by omega) (by rw [hPo]; exact ⟨x134, M130, J131, rfl, rfl, hI132, hK136, by omega, Or.inl (by omega)⟩)
      · refine q_aload_n C dX12_behind_171 (n := 172) rfl rfl ?_
        refine q_iconst C dX12_behind_172 (n := 173) rfl ?_
        refine q_callVv C dX12_behind_173 (n := 176) rfl m_X12_603 v_yX12_doesAbove (zM0 h0) ⟨by decide, rfl⟩ (c_X12_doesAbove (w := w) (J := J) hI hF h0 1 p1 (by omega) (by omega) (by omega)) (Nat.le_of_ble_eq_true rfl) rfl rfl (Nat.le_of_ble_eq_true rfl) ⟨Nat.le_refl _, Nat.le_refl _⟩ (fun M138 J139  hI140 h141 => ?_)
        obtain ⟨hk142, h137⟩ := h141
        have hK143 := hK0.tr hk142 rfl rfl rfl
        have gx144 := zSc.num h137
        have hz145 : M138 a 78 = M a 78 := (hk142.getS rfl rfl)
        refine q_aload_n C dX12_behind_176 (n := 177) rfl rfl ?_
        refine q_bipush C dX12_behind_177 (n := 179) rfl (x := 33) (by decide) ?_
        refine q_lconst C dX12_behind_179 (n := 180) rfl ?_
        refine q_iload_n C dX12_behind_180 (n := 181) rfl rfl ?_
        refine q_callVv C dX12_behind_181 (n := 184) rfl m_X12_578 v_yX12_code (zM0 h0) ⟨by decide, rfl⟩ (c_X12_code (w := w) (J := J139) hI140 hF h0 33 (Int64.ofNat ((0 : Fin 2) : Nat)) v1 (by omega) (by omega) (by omega)) (Nat.le_of_ble_eq_true rfl) rfl rfl (Nat.le_of_ble_eq_true rfl) ⟨Nat.le_refl _, Nat.le_refl _⟩ (fun M147 J148  hI149 h150 => ?_)
        obtain ⟨hk151, h146⟩ := h150
        have hK152 := hK143.tr hk151 rfl rfl rfl
        obtain ⟨M154, e153⟩ : ∃ q, q = zup M138 (a + 43) (M138 a 74) 33 := ⟨_, rfl⟩
        obtain ⟨M156, e155⟩ : ∃ q, q = zup M154 (a + 45) (M138 a 74) v1 := ⟨_, rfl⟩
        have e157 : M147 = zup M156 a 74 (M138 a 74 + 1) := by rw [e155]; rw [e153]; exact h146
        refine q_aload_n C dX12_behind_184 (n := 185) rfl rfl ?_
        refine q_bipush C dX12_behind_185 (n := 187) rfl (x := 41) (by decide) ?_
        refine q_aload_n C dX12_behind_187 (n := 188) rfl rfl ?_
        refine q_getI C dX12_behind_188 (n := 191) rfl f_X12_556 (zM0 h0) (v := M138 a 74 + 1) (zup_s e157) ?_
        refine q_iconst C dX12_behind_191 (n := 192) rfl ?_
        refine q_isub C dX12_behind_192 (n := 193) rfl (v := (M138 a 74 + 1) - 1) rfl ?_
        refine q_iload_n C dX12_behind_193 (n := 194) rfl rfl ?_
        refine q_callVv C dX12_behind_194 (n := 197) rfl m_X12_591 v_yX12_waitsFor (zM0 h0) ⟨by decide, rfl⟩ (c_X12_waitsFor (w := w) (J := J148) hI149 hF h0 41 ((M138 a 74 + 1) - 1) v1 (by omega) (by omega) (by omega) (by have hz158 : M147 a 75 = M138 a 75 := ((zup_n e157 (by omega)).trans ((zup_p e155 (by omega) _).trans (zup_p e153 (by omega) _))); omega)) (Nat.le_of_ble_eq_true rfl) rfl rfl (Nat.le_of_ble_eq_true rfl) ⟨Nat.le_refl _, Nat.le_refl _⟩ (fun M160 J161  hI162 h163 => ?_)
        obtain ⟨hk164, h159⟩ := h163
        have hK165 := hK152.tr hk164 rfl rfl rfl
        have hz166 : M147 a 75 = M138 a 75 := ((zup_n e157 (by omega)).trans ((zup_p e155 (by omega) _).trans (zup_p e153 (by omega) _)))
        rw [hz166] at h159
        obtain ⟨M168, e167⟩ : ∃ q, q = zup M147 (a + 46) (M138 a 75) 41 := ⟨_, rfl⟩
        obtain ⟨M170, e169⟩ : ∃ q, q = zup M168 (a + 47) (M138 a 75) ((M138 a 74 + 1) - 1) := ⟨_, rfl⟩
        obtain ⟨M172, e171⟩ : ∃ q, q = zup M170 (a + 48) (M138 a 75) v1 := ⟨_, rfl⟩
        have e173 : M160 = zup M172 a 75 ((M138 a 75) + 1) := by rw [e171]; rw [e169]; rw [e167]; exact h159
        refine q_aload_n C dX12_behind_197 (n := 198) rfl rfl ?_
        refine q_dup C dX12_behind_198 (n := 199) rfl rfl ?_
        have g174 := zI.at hI140 (zM175 h0)
        refine q_getI C dX12_behind_199 (n := 202) rfl f_X12_575 (zM0 h0) (v := M138 a 76) ((zup_n e173 (by omega)).trans ((zup_p e171 (by omega) _).trans ((zup_p e169 (by omega) _).trans ((zup_p e167 (by omega) _).trans ((zup_n e157 (by omega)).trans ((zup_p e155 (by omega) _).trans (zup_p e153 (by omega) _))))))) ?_
        refine q_iconst C dX12_behind_202 (n := 203) rfl ?_
        refine q_iadd C dX12_behind_203 (n := 204) rfl (v := (M138 a 76) + 1) rfl ?_
        refine q_wrap C ?_
        have g175 := zr_wr ((M138 a 76) + 1)
        refine q_putI C dX12_behind_204 (n := 207) rfl f_X12_575 (zM0 h0) ⟨rfl, rfl⟩ (fun M176 (e177 : M176 = zup M160 a 76 (zwr ((M138 a 76) + 1))) => ?_)
        have hI178 : zI G M176 := hI162.put e177 (zM175 h0) rfl (by omega)
        have hK179 := hK165.upS e177 rfl
        refine q_aload_n C dX12_behind_207 (n := 208) rfl rfl ?_
        refine q_iconst C dX12_behind_208 (n := 209) rfl ?_
        refine q_putZ C dX12_behind_209 (n := 212) rfl f_X12_597 (zM0 h0) ⟨rfl, rfl⟩ (by omega) (fun M180 (e181 : M180 = zup M176 a 78 0) => ?_)
        have hI182 : zI G M180 := hI178.put e181 (zM176 h0) rfl (by omega)
        have hK183 := hK179.upS e181 rfl
        have hz184 : M138 a 78 = M a 78 := (hk142.getS rfl rfl)
        have hx185 : zSc M180 a (k + 1) := zCd.cgr (S_jump h137 (x := 33) (y := 41) (k2 := k + 1) (by omega) (by omega) (by omega)) (by have hw : M180 a 74 = M138 a 74 + 1 := ((zup_n e181 (by omega)).trans ((zup_n e177 (by omega)).trans ((zup_n e173 (by omega)).trans ((zup_p e171 (by omega) _).trans ((zup_p e169 (by omega) _).trans ((zup_p e167 (by omega) _).trans (zup_s e157))))))); omega) (by have hw : M180 a 75 = (M138 a 75) + 1 := ((zup_n e181 (by omega)).trans ((zup_n e177 (by omega)).trans (zup_s e173))); omega) (by have hw : M180 a 78 = 0 := (zup_s e181); omega) (funext fun j => by by_cases q : j = (M138 a 74); (rw [q, yup_s]; have hw : M180 (a + 43) (M138 a 74) = 33 := ((zup_p e181 (by omega) _).trans ((zup_p e177 (by omega) _).trans ((zup_p e173 (by omega) _).trans ((zup_p e171 (by omega) _).trans ((zup_p e169 (by omega) _).trans ((zup_p e167 (by omega) _).trans ((zup_p e157 (by omega) _).trans ((zup_p e155 (by omega) _).trans (zup_e e153 (by omega)))))))))); omega); (rw [yup_n q]; exact ((zup_p e181 (by omega) _).trans ((zup_p e177 (by omega) _).trans ((zup_p e173 (by omega) _).trans ((zup_p e171 (by omega) _).trans ((zup_p e169 (by omega) _).trans ((zup_p e167 (by omega) _).trans ((zup_p e157 (by omega) _).trans ((zup_p e155 (by omega) _).trans (zup_n e153 (by omega)))))))))))) (funext fun j => ((zup_p e181 (by omega) _).trans ((zup_p e177 (by omega) _).trans ((zup_p e173 (by omega) _).trans ((zup_p e171 (by omega) _).trans ((zup_p e169 (by omega) _).trans ((zup_p e167 (by omega) _).trans ((zup_p e157 (by omega) _).trans ((zup_p e155 (by omega) _).trans (zup_p e153 (by omega) _)))))))))) (funext fun j => by by_cases q : j = (M138 a 75); (rw [q, yup_s]; have hw : M180 (a + 46) (M138 a 75) = 41 := ((zup_p e181 (by omega) _).trans ((zup_p e177 (by omega) _).trans ((zup_p e173 (by omega) _).trans ((zup_p e171 (by omega) _).trans ((zup_p e169 (by omega) _).trans (zup_e e167 (by omega))))))); have hv : M138 (a + 46) (M138 a 75) = M (a + 46) (M138 a 75) := (hk142.getA rfl rfl rfl); omega); (rw [yup_n q]; exact ((zup_p e181 (by omega) _).trans ((zup_p e177 (by omega) _).trans ((zup_p e173 (by omega) _).trans ((zup_p e171 (by omega) _).trans ((zup_p e169 (by omega) _).trans ((zup_n e167 (by omega)).trans ((zup_p e157 (by omega) _).trans ((zup_p e155 (by omega) _).trans (zup_p e153 (by omega) _))))))))))) (funext fun j => by by_cases q : j = (M138 a 75); (rw [q, yup_s]; have hw : M180 (a + 47) (M138 a 75) = (M138 a 74 + 1) - 1 := ((zup_p e181 (by omega) _).trans ((zup_p e177 (by omega) _).trans ((zup_p e173 (by omega) _).trans ((zup_p e171 (by omega) _).trans (zup_e e169 (by omega)))))); have hv : M138 (a + 47) (M138 a 75) = M (a + 47) (M138 a 75) := (hk142.getA rfl rfl rfl); omega); (rw [yup_n q]; exact ((zup_p e181 (by omega) _).trans ((zup_p e177 (by omega) _).trans ((zup_p e173 (by omega) _).trans ((zup_p e171 (by omega) _).trans ((zup_n e169 (by omega)).trans ((zup_p e167 (by omega) _).trans ((zup_p e157 (by omega) _).trans ((zup_p e155 (by omega) _).trans (zup_p e153 (by omega) _)))))))))))
        refine q_iconst C dX12_behind_212 (n := 213) rfl ?_
        exact q_zret C dX12_behind_213 ⟨rfl, rfl⟩ (by omega) (by rw [hPo]; exact ⟨1, M180, J161, rfl, rfl, hI182, hK183, by omega, Or.inr hx185⟩)
    · refine q_aload_n C dX12_behind_61 (n := 62) rfl rfl ?_
      refine q_callVv C dX12_behind_62 (n := 65) rfl m_X12_600 v_yX12_doesDown (zM0 h0) ⟨by decide, rfl⟩ (c_X12_doesDown (w := w) (J := J) hI hF h0 p1 (by omega) (by omega)) (Nat.le_of_ble_eq_true rfl) rfl rfl (Nat.le_of_ble_eq_true rfl) ⟨Nat.le_refl _, Nat.le_refl _⟩ (fun M187 J188  hI189 h190 => ?_)
      obtain ⟨hk191, h186⟩ := h190
      have hK192 := hK0.tr hk191 rfl rfl rfl
      have gx193 := zSc.num h186
      have hz194 : M187 a 78 = M a 78 := (hk191.getS rfl rfl)
      refine q_aload_n C dX12_behind_65 (n := 66) rfl rfl ?_
      have g195 := zI.at hI189 (zM174 h0)
      refine q_getI C dX12_behind_66 (n := 69) rfl f_X12_569 (zM0 h0) (v := M187 a 75) rfl ?_
      have J_196 : zK w p e 4 0 0 s m args below meth c 3 T Po 88 [.ref (w.2.1 + a), zi v1, .null] [] (T, M187, J188, R) := by
        refine q_aload_n C dX12_behind_88 (n := 89) rfl rfl ?_
        refine q_bipush C dX12_behind_89 (n := 91) rfl (x := 8) (by decide) ?_
        refine q_iload_n C dX12_behind_91 (n := 92) rfl rfl ?_
        refine q_callVi C dX12_behind_92 (n := 95) rfl m_X12_376 v_yX12_badAt (zM0 h0) ⟨by decide, rfl⟩ (c_X12_badAt (w := w) (J := J188) hI189 hF h0 8 v1 (by omega) (by omega)) (Nat.le_of_ble_eq_true rfl) rfl rfl (Nat.le_of_ble_eq_true rfl) ⟨Nat.le_refl _, Nat.le_refl _⟩ (fun x203 M199 J200  hI201 h202 => ?_)
        obtain ⟨hk204, h197, h198⟩ := h202
        have hK205 := hK192.tr hk204 rfl rfl rfl
        exact q_zret C dX12_behind_95 ⟨rfl, rfl⟩ (by omega) (by rw [hPo]; exact ⟨x203, M199, J200, rfl, rfl, hI201, hK205, by omega, Or.inl (by omega)⟩)
      refine q_if_eq C 88 dX12_behind_69 (n := 72) rfl rfl (by omega) (fun h206 => ?_) (fun h206 => ?_)
      · exact zK.weak (J_196) (zwk_c (zwk_c (zwk_n zwk_e)))
      · refine q_aload_n C dX12_behind_72 (n := 73) rfl rfl ?_
        refine q_getR C dX12_behind_73 (n := 76) rfl f_X12_153 (zM0 h0) (hF _ _ _ (zM160 h0)) ?_
        refine q_aload_n C dX12_behind_76 (n := 77) rfl rfl ?_
        refine q_getI C dX12_behind_77 (n := 80) rfl f_X12_569 (zM0 h0) (v := M187 a 75) rfl ?_
        refine q_iconst C dX12_behind_80 (n := 81) rfl ?_
        refine q_isub C dX12_behind_81 (n := 82) rfl (v := (M187 a 75) - 1) rfl ?_
        have g207 := zI.at hI ((zM162 h0) ((M187 a 75) - 1))
        refine q_iald C dX12_behind_82 (n := 83) rfl (zM161 h0) (by omega) (v := M (a + 46) ((M187 a 75) - 1)) (hk191.getA rfl rfl rfl) ?_
        refine q_bipush C dX12_behind_83 (n := 85) rfl (x := 41) (by decide) ?_
        refine q_icmp_eq C 96 dX12_behind_85 (n := 88) rfl rfl (by omega) (fun h208 => ?_) (fun h208 => ?_)
        · have hz209 : M187 (a + 46) ((M187 a 75) - 1) = M (a + 46) ((M187 a 75) - 1) := (hk191.getA rfl rfl rfl)
          have hz210 : M187 (a + 47) ((M187 a 75) - 1) = M (a + 47) ((M187 a 75) - 1) := (hk191.getA rfl rfl rfl)
          have gwt := zSc.wt h186 (j := (M187 a 75) - 1) (by omega) (by omega) (by omega)
          refine q_aload_n C dX12_behind_96 (n := 97) rfl rfl ?_
          refine q_bipush C dX12_behind_97 (n := 99) rfl (x := 34) (by decide) ?_
          refine q_lconst C dX12_behind_99 (n := 100) rfl ?_
          refine q_iload_n C dX12_behind_100 (n := 101) rfl rfl ?_
          refine q_callVv C dX12_behind_101 (n := 104) rfl m_X12_578 v_yX12_code (zM0 h0) ⟨by decide, rfl⟩ (c_X12_code (w := w) (J := J188) hI189 hF h0 34 (Int64.ofNat ((0 : Fin 2) : Nat)) v1 (by omega) (by omega) (by omega)) (Nat.le_of_ble_eq_true rfl) rfl rfl (Nat.le_of_ble_eq_true rfl) ⟨Nat.le_refl _, Nat.le_refl _⟩ (fun M212 J213  hI214 h215 => ?_)
          obtain ⟨hk216, h211⟩ := h215
          have hK217 := hK192.tr hk216 rfl rfl rfl
          obtain ⟨M219, e218⟩ : ∃ q, q = zup M187 (a + 43) (M187 a 74) 34 := ⟨_, rfl⟩
          obtain ⟨M221, e220⟩ : ∃ q, q = zup M219 (a + 45) (M187 a 74) v1 := ⟨_, rfl⟩
          have e222 : M212 = zup M221 a 74 (M187 a 74 + 1) := by rw [e220]; rw [e218]; exact h211
          refine q_aload_n C dX12_behind_104 (n := 105) rfl rfl ?_
          refine q_getR C dX12_behind_105 (n := 108) rfl f_X12_147 (zM0 h0) (hF _ _ _ (zM154 h0)) ?_
          refine q_aload_n C dX12_behind_108 (n := 109) rfl rfl ?_
          refine q_getR C dX12_behind_109 (n := 112) rfl f_X12_156 (zM0 h0) (hF _ _ _ (zM163 h0)) ?_
          refine q_aload_n C dX12_behind_112 (n := 113) rfl rfl ?_
          refine q_getI C dX12_behind_113 (n := 116) rfl f_X12_569 (zM0 h0) (v := M187 a 75) ((zup_n e222 (by omega)).trans ((zup_p e220 (by omega) _).trans (zup_p e218 (by omega) _))) ?_
          refine q_iconst C dX12_behind_116 (n := 117) rfl ?_
          refine q_isub C dX12_behind_117 (n := 118) rfl (v := (M187 a 75) - 1) rfl ?_
          have g223 := zI.at hI ((zM165 h0) ((M187 a 75) - 1))
          refine q_iald C dX12_behind_118 (n := 119) rfl (zM164 h0) (by omega) (v := M (a + 47) ((M187 a 75) - 1)) ((zup_p e222 (by omega) _).trans ((zup_p e220 (by omega) _).trans ((zup_p e218 (by omega) _).trans (hk191.getA rfl rfl rfl)))) ?_
          refine q_aload_n C dX12_behind_119 (n := 120) rfl rfl ?_
          refine q_getI C dX12_behind_120 (n := 123) rfl f_X12_556 (zM0 h0) (v := M187 a 74 + 1) (zup_s e222) ?_
          refine q_iast C dX12_behind_123 (n := 124) rfl (zM155 h0) (by omega)  (fun M224 e225 => ?_)
          have hI226 : zI G M224 := hI214.put e225 ((zM156 h0) (M (a + 47) ((M187 a 75) - 1))) rfl (by omega)
          have hK227 := hK217.upA e225 rfl
          refine q_aload_n C dX12_behind_124 (n := 125) rfl rfl ?_
          refine q_getR C dX12_behind_125 (n := 128) rfl f_X12_153 (zM0 h0) (hF _ _ _ (zM160 h0)) ?_
          refine q_aload_n C dX12_behind_128 (n := 129) rfl rfl ?_
          refine q_getI C dX12_behind_129 (n := 132) rfl f_X12_569 (zM0 h0) (v := M187 a 75) ((zup_p e225 (by omega) _).trans ((zup_n e222 (by omega)).trans ((zup_p e220 (by omega) _).trans (zup_p e218 (by omega) _)))) ?_
          refine q_iconst C dX12_behind_132 (n := 133) rfl ?_
          refine q_isub C dX12_behind_133 (n := 134) rfl (v := (M187 a 75) - 1) rfl ?_
          refine q_bipush C dX12_behind_134 (n := 136) rfl (x := 42) (by decide) ?_
          refine q_iast C dX12_behind_136 (n := 137) rfl (zM161 h0) (by omega)  (fun M228 e229 => ?_)
          have hI230 : zI G M228 := hI226.put e229 ((zM162 h0) ((M187 a 75) - 1)) rfl (by omega)
          have hK231 := hK227.upA e229 rfl
          refine q_aload_n C dX12_behind_137 (n := 138) rfl rfl ?_
          refine q_getR C dX12_behind_138 (n := 141) rfl f_X12_156 (zM0 h0) (hF _ _ _ (zM163 h0)) ?_
          refine q_aload_n C dX12_behind_141 (n := 142) rfl rfl ?_
          refine q_getI C dX12_behind_142 (n := 145) rfl f_X12_569 (zM0 h0) (v := M187 a 75) ((zup_p e229 (by omega) _).trans ((zup_p e225 (by omega) _).trans ((zup_n e222 (by omega)).trans ((zup_p e220 (by omega) _).trans (zup_p e218 (by omega) _))))) ?_
          refine q_iconst C dX12_behind_145 (n := 146) rfl ?_
          refine q_isub C dX12_behind_146 (n := 147) rfl (v := (M187 a 75) - 1) rfl ?_
          refine q_aload_n C dX12_behind_147 (n := 148) rfl rfl ?_
          refine q_getI C dX12_behind_148 (n := 151) rfl f_X12_556 (zM0 h0) (v := M187 a 74 + 1) ((zup_p e229 (by omega) _).trans ((zup_p e225 (by omega) _).trans (zup_s e222))) ?_
          refine q_iconst C dX12_behind_151 (n := 152) rfl ?_
          refine q_isub C dX12_behind_152 (n := 153) rfl (v := (M187 a 74 + 1) - 1) rfl ?_
          refine q_iast C dX12_behind_153 (n := 154) rfl (zM164 h0) (by omega)  (fun M232 e233 => ?_)
          have hI234 : zI G M232 := hI230.put e233 ((zM165 h0) ((M187 a 75) - 1)) rfl (by omega)
          have hK235 := hK231.upA e233 rfl
          refine q_aload_n C dX12_behind_154 (n := 155) rfl rfl ?_
          refine q_iconst C dX12_behind_155 (n := 156) rfl ?_
          refine q_putZ C dX12_behind_156 (n := 159) rfl f_X12_597 (zM0 h0) ⟨rfl, rfl⟩ (by omega) (fun M236 (e237 : M236 = zup M232 a 78 0) => ?_)
          have hI238 : zI G M236 := hI234.put e237 (zM176 h0) rfl (by omega)
          have hK239 := hK235.upS e237 rfl
          have hz240 : M187 a 78 = M a 78 := (hk191.getS rfl rfl)
          have hx241 : zSc M236 a (k + 1) := zCd.cgr (S_colon h186 (by omega) (by omega) (by omega) (k2 := k + 1) (by omega)) (by have hw : M236 a 74 = M187 a 74 + 1 := ((zup_n e237 (by omega)).trans ((zup_p e233 (by omega) _).trans ((zup_p e229 (by omega) _).trans ((zup_p e225 (by omega) _).trans (zup_s e222))))); omega) ((zup_n e237 (by omega)).trans ((zup_p e233 (by omega) _).trans ((zup_p e229 (by omega) _).trans ((zup_p e225 (by omega) _).trans ((zup_n e222 (by omega)).trans ((zup_p e220 (by omega) _).trans (zup_p e218 (by omega) _))))))) (by have hw : M236 a 78 = 0 := (zup_s e237); omega) (funext fun j => by by_cases q : j = (M187 a 74); (rw [q, yup_s]; have hw : M236 (a + 43) (M187 a 74) = 34 := ((zup_p e237 (by omega) _).trans ((zup_p e233 (by omega) _).trans ((zup_p e229 (by omega) _).trans ((zup_p e225 (by omega) _).trans ((zup_p e222 (by omega) _).trans ((zup_p e220 (by omega) _).trans (zup_e e218 (by omega)))))))); omega); (rw [yup_n q]; exact ((zup_p e237 (by omega) _).trans ((zup_p e233 (by omega) _).trans ((zup_p e229 (by omega) _).trans ((zup_p e225 (by omega) _).trans ((zup_p e222 (by omega) _).trans ((zup_p e220 (by omega) _).trans (zup_n e218 (by omega)))))))))) (funext fun j => by by_cases q : j = ((M187 (a + 47)) ((M187 a 75) - 1)); (rw [q, yup_s]; rw [show ((M187 (a + 47)) ((M187 a 75) - 1)) = M (a + 47) ((M187 a 75) - 1) by omega]; have hw : M236 (a + 44) (M (a + 47) ((M187 a 75) - 1)) = M187 a 74 + 1 := ((zup_p e237 (by omega) _).trans ((zup_p e233 (by omega) _).trans ((zup_p e229 (by omega) _).trans (zup_e e225 (by omega))))); omega); (rw [yup_n q]; exact ((zup_p e237 (by omega) _).trans ((zup_p e233 (by omega) _).trans ((zup_p e229 (by omega) _).trans ((zup_n e225 (by omega)).trans ((zup_p e222 (by omega) _).trans ((zup_p e220 (by omega) _).trans (zup_p e218 (by omega) _))))))))) (funext fun j => by by_cases q : j = ((M187 a 75) - 1); (rw [q, yup_s]; have hw : M236 (a + 46) ((M187 a 75) - 1) = 42 := ((zup_p e237 (by omega) _).trans ((zup_p e233 (by omega) _).trans (zup_e e229 (by omega)))); have hv : M187 (a + 46) ((M187 a 75) - 1) = M (a + 46) ((M187 a 75) - 1) := (hk191.getA rfl rfl rfl); omega); (rw [yup_n q]; exact ((zup_p e237 (by omega) _).trans ((zup_p e233 (by omega) _).trans ((zup_n e229 (by omega)).trans ((zup_p e225 (by omega) _).trans ((zup_p e222 (by omega) _).trans ((zup_p e220 (by omega) _).trans (zup_p e218 (by omega) _))))))))) (funext fun j => by by_cases q : j = ((M187 a 75) - 1); (rw [q, yup_s]; have hw : M236 (a + 47) ((M187 a 75) - 1) = (M187 a 74 + 1) - 1 := ((zup_p e237 (by omega) _).trans (zup_e e233 (by omega))); have hv : M187 (a + 47) ((M187 a 75) - 1) = M (a + 47) ((M187 a 75) - 1) := (hk191.getA rfl rfl rfl); omega); (rw [yup_n q]; exact ((zup_p e237 (by omega) _).trans ((zup_n e233 (by omega)).trans ((zup_p e229 (by omega) _).trans ((zup_p e225 (by omega) _).trans ((zup_p e222 (by omega) _).trans ((zup_p e220 (by omega) _).trans (zup_p e218 (by omega) _)))))))))
          refine q_iconst C dX12_behind_159 (n := 160) rfl ?_
          exact q_zret C dX12_behind_160 ⟨rfl, rfl⟩ (by omega) (by rw [hPo]; exact ⟨1, M236, J213, rfl, rfl, hI238, hK239, by omega, Or.inr hx241⟩)
        · exact zK.weak (J_196) (zwk_c (zwk_c (zwk_n zwk_e)))
  · refine q_aload_n C dX12_behind_10 (n := 11) rfl rfl ?_
    refine q_callVv C dX12_behind_11 (n := 14) rfl m_X12_600 v_yX12_doesDown (zM0 h0) ⟨by decide, rfl⟩ (c_X12_doesDown (w := w) (J := J) hI hF h0 p1 (by omega) (by omega)) (Nat.le_of_ble_eq_true rfl) rfl rfl (Nat.le_of_ble_eq_true rfl) ⟨Nat.le_refl _, Nat.le_refl _⟩ (fun M243 J244  hI245 h246 => ?_)
    obtain ⟨hk247, h242⟩ := h246
    have hK248 := hK0.tr hk247 rfl rfl rfl
    have gx249 := zSc.num h242
    have hz250 : M243 a 78 = M a 78 := (hk247.getS rfl rfl)
    refine q_aload_n C dX12_behind_14 (n := 15) rfl rfl ?_
    have g251 := zI.at hI245 (zM174 h0)
    refine q_getI C dX12_behind_15 (n := 18) rfl f_X12_569 (zM0 h0) (v := M243 a 75) rfl ?_
    have J_252 : zK w p e 4 0 0 s m args below meth c 3 T Po 37 [.ref (w.2.1 + a), zi v1, .null] [] (T, M243, J244, R) := by
      refine q_aload_n C dX12_behind_37 (n := 38) rfl rfl ?_
      refine q_bipush C dX12_behind_38 (n := 40) rfl (x := 8) (by decide) ?_
      refine q_iload_n C dX12_behind_40 (n := 41) rfl rfl ?_
      refine q_callVi C dX12_behind_41 (n := 44) rfl m_X12_376 v_yX12_badAt (zM0 h0) ⟨by decide, rfl⟩ (c_X12_badAt (w := w) (J := J244) hI245 hF h0 8 v1 (by omega) (by omega)) (Nat.le_of_ble_eq_true rfl) rfl rfl (Nat.le_of_ble_eq_true rfl) ⟨Nat.le_refl _, Nat.le_refl _⟩ (fun x259 M255 J256  hI257 h258 => ?_)
      obtain ⟨hk260, h253, h254⟩ := h258
      have hK261 := hK248.tr hk260 rfl rfl rfl
      exact q_zret C dX12_behind_44 ⟨rfl, rfl⟩ (by omega) (by rw [hPo]; exact ⟨x259, M255, J256, rfl, rfl, hI257, hK261, by omega, Or.inl (by omega)⟩)
    refine q_if_eq C 37 dX12_behind_18 (n := 21) rfl rfl (by omega) (fun h262 => ?_) (fun h262 => ?_)
    · exact zK.weak (J_252) (zwk_c (zwk_c (zwk_n zwk_e)))
    · refine q_aload_n C dX12_behind_21 (n := 22) rfl rfl ?_
      refine q_getR C dX12_behind_22 (n := 25) rfl f_X12_153 (zM0 h0) (hF _ _ _ (zM160 h0)) ?_
      refine q_aload_n C dX12_behind_25 (n := 26) rfl rfl ?_
      refine q_getI C dX12_behind_26 (n := 29) rfl f_X12_569 (zM0 h0) (v := M243 a 75) rfl ?_
      refine q_iconst C dX12_behind_29 (n := 30) rfl ?_
      refine q_isub C dX12_behind_30 (n := 31) rfl (v := (M243 a 75) - 1) rfl ?_
      have g263 := zI.at hI ((zM162 h0) ((M243 a 75) - 1))
      refine q_iald C dX12_behind_31 (n := 32) rfl (zM161 h0) (by omega) (v := M (a + 46) ((M243 a 75) - 1)) (hk247.getA rfl rfl rfl) ?_
      refine q_bipush C dX12_behind_32 (n := 34) rfl (x := 40) (by decide) ?_
      refine q_icmp_eq C 45 dX12_behind_34 (n := 37) rfl rfl (by omega) (fun h264 => ?_) (fun h264 => ?_)
      · refine q_aload_n C dX12_behind_45 (n := 46) rfl rfl ?_
        refine q_callVv C dX12_behind_46 (n := 49) rfl m_X12_585 v_yX12_does (zM0 h0) ⟨by decide, rfl⟩ (c_X12_does (w := w) (J := J244) hI245 hF h0 (M243 a 75) h242 (by omega) (by have hz265 : M243 a 78 = M a 78 := (hk247.getS rfl rfl); omega) (by omega) (by have hz266 : M243 (a + 46) ((M243 a 75) - 1) = M (a + 46) ((M243 a 75) - 1) := (hk247.getA rfl rfl rfl); omega) (by omega)) (Nat.le_of_ble_eq_true rfl) rfl rfl (Nat.le_of_ble_eq_true rfl) ⟨Nat.le_refl _, Nat.le_refl _⟩ (fun M269 J270  hI271 h272 => ?_)
        obtain ⟨hk273, h267, h268⟩ := h272
        have hK274 := hK248.tr hk273 rfl rfl rfl
        refine q_iconst C dX12_behind_49 (n := 50) rfl ?_
        exact q_zret C dX12_behind_50 ⟨rfl, rfl⟩ (by omega) (by rw [hPo]; exact ⟨1, M269, J270, rfl, rfl, hI271, hK274, by omega, Or.inr (h267.kk (by omega))⟩)
      · exact zK.weak (J_252) (zwk_c (zwk_c (zwk_n zwk_e)))
theorem c_X12_readsList {w : zWp} {T : zTl} {M : zMm} {J : zJm} {R : zRm'} {G : zGt} {F : zRm'} {a : Nat} (hI : zI G M) (hF : zF F R) (h0 : zModel T F G a) (p1 : M a 61 ≤ 3440) : zCt w 5 0 0 yX12_readsList cX12_readsList 3 (some .boolean) [.ref (w.2.1 + a)] (T, M, J, R) (zPi T R G (fun x M2 => (zMd a [43, 44, 45, 46, 47, 48] [74, 75, 76, 78] [(18, 11), (18, 12), (18, 13), (18, 14)] M M2) ∧ (x = 0 ∨ x = 1) ∧ (x = 0 ∨ zSf M2 a))) := by
  refine zCt.of rfl (Nat.le_of_ble_eq_true rfl) ?_
  intro p e s m args below meth c C
  obtain ⟨Po, hPo⟩ : ∃ Po, Po = zPi T R G (fun x M2 => (zMd a [43, 44, 45, 46, 47, 48] [74, 75, 76, 78] [(18, 11), (18, 12), (18, 13), (18, 14)] M M2) ∧ (x = 0 ∨ x = 1) ∧ (x = 0 ∨ zSf M2 a)) := ⟨_, rfl⟩
  rw [← hPo]
  have hK0 : zMd a [43, 44, 45, 46, 47, 48] [74, 75, 76, 78] [(18, 11), (18, 12), (18, 13), (18, 14)] M M := zMd.rf
  have gk_tokens := zI.at hI (zM58 h0)
  have gk_listed := zI.at hI (zM146 h0)
  show zK w p e 5 0 0 s m args below meth c 3 T Po 0 [.ref (w.2.1 + a), .null, .null] [] (T, M, J, R)
  refine q_aload_n C dX12_readsList_0 (n := 1) rfl rfl ?_
  refine q_iconst C dX12_readsList_1 (n := 2) rfl ?_
  refine q_putI C dX12_readsList_2 (n := 5) rfl f_X12_556 (zM0 h0) ⟨rfl, rfl⟩ (fun M1 (e2 : M1 = zup M a 74 0) => ?_)
  have hI3 : zI G M1 := hI.put e2 (zM173 h0) rfl (by omega)
  have hK4 := hK0.upS e2 rfl
  refine q_aload_n C dX12_readsList_5 (n := 6) rfl rfl ?_
  refine q_iconst C dX12_readsList_6 (n := 7) rfl ?_
  refine q_putI C dX12_readsList_7 (n := 10) rfl f_X12_569 (zM0 h0) ⟨rfl, rfl⟩ (fun M5 (e6 : M5 = zup M1 a 75 0) => ?_)
  have hI7 : zI G M5 := hI3.put e6 (zM174 h0) rfl (by omega)
  have hK8 := hK4.upS e6 rfl
  refine q_aload_n C dX12_readsList_10 (n := 11) rfl rfl ?_
  refine q_iconst C dX12_readsList_11 (n := 12) rfl ?_
  refine q_putI C dX12_readsList_12 (n := 15) rfl f_X12_575 (zM0 h0) ⟨rfl, rfl⟩ (fun M9 (e10 : M9 = zup M5 a 76 0) => ?_)
  have hI11 : zI G M9 := hI7.put e10 (zM175 h0) rfl (by omega)
  have hK12 := hK8.upS e10 rfl
  refine q_aload_n C dX12_readsList_15 (n := 16) rfl rfl ?_
  refine q_iconst C dX12_readsList_16 (n := 17) rfl ?_
  refine q_putZ C dX12_readsList_17 (n := 20) rfl f_X12_597 (zM0 h0) ⟨rfl, rfl⟩ (by omega) (fun M13 (e14 : M13 = zup M9 a 78 0) => ?_)
  have hI15 : zI G M13 := hI11.put e14 (zM176 h0) rfl (by omega)
  have hK16 := hK12.upS e14 rfl
  have hx17 : zSc M13 a 0 := zCd.cgr (S_zero (wh := M13 (a + 43)) (we := M13 (a + 44)) (wa := M13 (a + 46)) (wt := M13 (a + 47))) (by have hw : M13 a 74 = 0 := ((zup_n e14 (by omega)).trans ((zup_n e10 (by omega)).trans ((zup_n e6 (by omega)).trans (zup_s e2)))); omega) (by have hw : M13 a 75 = 0 := ((zup_n e14 (by omega)).trans ((zup_n e10 (by omega)).trans (zup_s e6))); omega) (by have hw : M13 a 78 = 0 := (zup_s e14); omega) rfl rfl rfl rfl
  refine q_iconst C dX12_readsList_20 (n := 21) rfl ?_
  refine q_istore_n C [.ref (w.2.1 + a), zi 0, .null] dX12_readsList_21 (n := 22) rfl rfl rfl ?_
  have L_28 : ∀ n29 : Nat, ∀ (u18 : Int) (M20 : zMm) (J21 : zJm), zI G M20 → zMd a [43, 44, 45, 46, 47, 48] [74, 75, 76, 78] [(18, 11), (18, 12), (18, 13), (18, 14)] M M20 → zMd a [43, 44, 45, 46, 47, 48] [74, 75, 76, 78] [(18, 11), (18, 12), (18, 13), (18, 14)] M13 M20 → (-2147483648 ≤ u18 ∧ u18 ≤ 2147483647) → (0 ≤ u18 ∧ u18 ≤ 3440 ∧ u18 ≤ M a 61) → (zSc M20 a u18) → (3440 - u18 + 1 ≤ (n29 : Int)) → zK w p e 5 0 0 s m args below meth c 3 T Po 22 [.ref (w.2.1 + a), zi u18, .null] [] (T, M20, J21, R) := by
    intro n29
    induction n29 with
    | zero =>
      intro u18 M20 J21 hI22 hK23 hK24 h25 h26 h27 hm31
      exfalso
      omega
    | succ n29 ih30 =>
      intro u18 M20 J21 hI22 hK23 hK24 h25 h26 h27 hm31
      have gx32 := zSc.num h27
      refine q_iload_n C dX12_readsList_22 (n := 23) rfl rfl ?_
      refine q_aload_n C dX12_readsList_23 (n := 24) rfl rfl ?_
      have g33 := zI.at hI (zM146 h0)
      refine q_getI C dX12_readsList_24 (n := 27) rfl f_X12_451 (zM0 h0) (v := M a 61) ((hK24.getS rfl rfl).trans ((zup_n e14 (by omega)).trans ((zup_n e10 (by omega)).trans ((zup_n e6 (by omega)).trans (zup_n e2 (by omega)))))) ?_
      refine q_icmp_ge C 88 dX12_readsList_27 (n := 30) rfl rfl (by omega) (fun h34 => ?_) (fun h34 => ?_)
      · refine q_aload_n C dX12_readsList_88 (n := 89) rfl rfl ?_
        have g35 := zI.at hI22 (zM176 h0)
        refine q_getI C dX12_readsList_89 (n := 92) rfl f_X12_597 (zM0 h0) (v := M20 a 78) rfl ?_
        refine q_if_ne C 106 dX12_readsList_92 (n := 95) rfl rfl (by omega) (fun h36 => ?_) (fun h36 => ?_)
        · refine q_aload_n C dX12_readsList_106 (n := 107) rfl rfl ?_
          refine q_callVv C dX12_readsList_107 (n := 110) rfl m_X12_600 v_yX12_doesDown (zM0 h0) ⟨by decide, rfl⟩ (c_X12_doesDown (w := w) (J := J21) hI22 hF h0 h27 (by omega) (by omega)) (Nat.le_of_ble_eq_true rfl) rfl rfl (Nat.le_of_ble_eq_true rfl) ⟨Nat.le_refl _, Nat.le_refl _⟩ (fun M38 J39  hI40 h41 => ?_)
          obtain ⟨hk42, h37⟩ := h41
          have hK43 := hK23.tr hk42 rfl rfl rfl
          have hK44 := hK24.tr hk42 rfl rfl rfl
          have gx45 := zSc.num h37
          have hz46 : M38 a 78 = M20 a 78 := (hk42.getS rfl rfl)
          refine q_aload_n C dX12_readsList_110 (n := 111) rfl rfl ?_
          have g47 := zI.at hI40 (zM174 h0)
          refine q_getI C dX12_readsList_111 (n := 114) rfl f_X12_569 (zM0 h0) (v := M38 a 75) rfl ?_
          refine q_if_eq C 130 dX12_readsList_114 (n := 117) rfl rfl (by omega) (fun h48 => ?_) (fun h48 => ?_)
          · refine q_iconst C dX12_readsList_130 (n := 131) rfl ?_
            refine q_goto C 135 dX12_readsList_131 rfl ?_
            exact q_zret C dX12_readsList_135 ⟨rfl, rfl⟩ (by omega) (by rw [hPo]; exact ⟨1, M38, J39, rfl, rfl, hI40, hK43, by omega, Or.inr ⟨_, h37, (by have hw : M38 a 75 = M38 a 75 := rfl; omega), (by have hw : M38 a 78 = M20 a 78 := (hk42.getS rfl rfl); omega)⟩⟩)
          · refine q_aload_n C dX12_readsList_117 (n := 118) rfl rfl ?_
            refine q_bipush C dX12_readsList_118 (n := 120) rfl (x := 8) (by decide) ?_
            refine q_aload_n C dX12_readsList_120 (n := 121) rfl rfl ?_
            have g49 := zI.at hI (zM58 h0)
            refine q_getI C dX12_readsList_121 (n := 124) rfl f_X12_355 (zM0 h0) (v := M a 23) ((hk42.getS rfl rfl).trans ((hK24.getS rfl rfl).trans ((zup_n e14 (by omega)).trans ((zup_n e10 (by omega)).trans ((zup_n e6 (by omega)).trans (zup_n e2 (by omega))))))) ?_
            refine q_callVi C dX12_readsList_124 (n := 127) rfl m_X12_430 v_yX12_badToken (zM0 h0) ⟨by decide, rfl⟩ (c_X12_badToken (w := w) (J := J39) hI40 hF h0 8 (M a 23) (by omega) (by omega)) (Nat.le_of_ble_eq_true rfl) rfl rfl (Nat.le_of_ble_eq_true rfl) ⟨Nat.le_refl _, Nat.le_refl _⟩ (fun x56 M52 J53  hI54 h55 => ?_)
            obtain ⟨hk57, h50, h51⟩ := h55
            have hK58 := hK43.tr hk57 rfl rfl rfl
            have hK59 := hK44.tr hk57 rfl rfl rfl
            refine q_if_eq C 134 dX12_readsList_127 (n := 130) rfl rfl (by omega) (fun h60 => ?_) (fun h60 => ?_)
            · refine q_iconst C dX12_readsList_134 (n := 135) rfl ?_
              exact q_zret C dX12_readsList_135 ⟨rfl, rfl⟩ (by omega) (by rw [hPo]; exact ⟨0, M52, J53, rfl, rfl, hI54, hK58, by omega, Or.inl (by omega)⟩)
            · refine q_iconst C dX12_readsList_130 (n := 131) rfl ?_
              refine q_goto C 135 dX12_readsList_131 rfl ?_
              have hp61 : zSc M52 a u18 := h37.cg (fun j => (hk57.getA rfl rfl rfl)) (fun j => (hk57.getA rfl rfl rfl)) (fun j => (hk57.getA rfl rfl rfl)) (fun j => (hk57.getA rfl rfl rfl)) (hk57.getS rfl rfl) (hk57.getS rfl rfl) (hk57.getS rfl rfl)
              exact q_zret C dX12_readsList_135 ⟨rfl, rfl⟩ (by omega) (by rw [hPo]; exact ⟨1, M52, J53, rfl, rfl, hI54, hK58, by omega, Or.inr ⟨_, hp61, (by have hw : M52 a 75 = M38 a 75 := (hk57.getS rfl rfl); omega), (by have hw : M52 a 78 = M20 a 78 := ((hk57.getS rfl rfl).trans (hk42.getS rfl rfl)); omega)⟩⟩)
        · refine q_aload_n C dX12_readsList_95 (n := 96) rfl rfl ?_
          refine q_bipush C dX12_readsList_96 (n := 98) rfl (x := 8) (by decide) ?_
          refine q_aload_n C dX12_readsList_98 (n := 99) rfl rfl ?_
          have g62 := zI.at hI (zM58 h0)
          refine q_getI C dX12_readsList_99 (n := 102) rfl f_X12_355 (zM0 h0) (v := M a 23) ((hK24.getS rfl rfl).trans ((zup_n e14 (by omega)).trans ((zup_n e10 (by omega)).trans ((zup_n e6 (by omega)).trans (zup_n e2 (by omega)))))) ?_
          refine q_callVi C dX12_readsList_102 (n := 105) rfl m_X12_430 v_yX12_badToken (zM0 h0) ⟨by decide, rfl⟩ (c_X12_badToken (w := w) (J := J21) hI22 hF h0 8 (M a 23) (by omega) (by omega)) (Nat.le_of_ble_eq_true rfl) rfl rfl (Nat.le_of_ble_eq_true rfl) ⟨Nat.le_refl _, Nat.le_refl _⟩ (fun x69 M65 J66  hI67 h68 => ?_)
          obtain ⟨hk70, h63, h64⟩ := h68
          have hK71 := hK23.tr hk70 rfl rfl rfl
          have hK72 := hK24.tr hk70 rfl rfl rfl
          exact q_zret C dX12_readsList_105 ⟨rfl, rfl⟩ (by omega) (by rw [hPo]; exact ⟨x69, M65, J66, rfl, rfl, hI67, hK71, by omega, Or.inl (by omega)⟩)
      · refine q_aload_n C dX12_readsList_30 (n := 31) rfl rfl ?_
        refine q_getR C dX12_readsList_31 (n := 34) rfl f_X12_138 (zM0 h0) (hF _ _ _ (zM136 h0)) ?_
        refine q_iload_n C dX12_readsList_34 (n := 35) rfl rfl ?_
        have g73 := zI.at hI ((zM138 h0) u18)
        refine q_iald C dX12_readsList_35 (n := 36) rfl (zM137 h0) (by omega) (v := M (a + 41) u18) ((hK24.getA rfl rfl rfl).trans ((zup_p e14 (by omega) _).trans ((zup_p e10 (by omega) _).trans ((zup_p e6 (by omega) _).trans (zup_p e2 (by omega) _))))) ?_
        refine q_istore_n C [.ref (w.2.1 + a), zi u18, zi (M (a + 41) u18)] dX12_readsList_36 (n := 37) rfl rfl rfl ?_
        refine q_aload_n C dX12_readsList_37 (n := 38) rfl rfl ?_
        have g74 := zI.at hI22 (zM175 h0)
        refine q_getI C dX12_readsList_38 (n := 41) rfl f_X12_575 (zM0 h0) (v := M20 a 76) rfl ?_
        refine q_bipush C dX12_readsList_41 (n := 43) rfl (x := 8) (by decide) ?_
        refine q_icmp_le C 54 dX12_readsList_43 (n := 46) rfl rfl (by omega) (fun h75 => ?_) (fun h75 => ?_)
        · refine q_aload_n C dX12_readsList_54 (n := 55) rfl rfl ?_
          have g76 := zI.at hI22 (zM176 h0)
          refine q_getI C dX12_readsList_55 (n := 58) rfl f_X12_597 (zM0 h0) (v := M20 a 78) rfl ?_
          refine q_if_eq C 72 dX12_readsList_58 (n := 61) rfl rfl (by omega) (fun h77 => ?_) (fun h77 => ?_)
          · refine q_aload_n C dX12_readsList_72 (n := 73) rfl rfl ?_
            refine q_iload_n C dX12_readsList_73 (n := 74) rfl rfl ?_
            refine q_callVi C dX12_readsList_74 (n := 77) rfl m_X12_612 v_yX12_operand (zM0 h0) ⟨by decide, rfl⟩ (c_X12_operand (w := w) (J := J21) hI22 hF h0 (M (a + 41) u18) h27 (by omega) (by omega) (by omega)) (Nat.le_of_ble_eq_true rfl) rfl rfl (Nat.le_of_ble_eq_true rfl) ⟨Nat.le_refl _, Nat.le_refl _⟩ (fun x84 M80 J81  hI82 h83 => ?_)
            obtain ⟨hk85, h78, h79⟩ := h83
            have hK86 := hK23.tr hk85 rfl rfl rfl
            have hK87 := hK24.tr hk85 rfl rfl rfl
            refine q_if_ne C 82 dX12_readsList_77 (n := 80) rfl rfl (by omega) (fun h88 => ?_) (fun h88 => ?_)
            · refine q_iinc C [.ref (w.2.1 + a), zi (u18 + 1), zi (M (a + 41) u18)] dX12_readsList_82 (n := 85) rfl rfl rfl rfl ?_
              refine q_goto C 22 dX12_readsList_85 rfl ?_
              exact zK.weak (ih30 (u18 + 1) M80 J81 hI82 hK86 hK87 (by omega) (by omega) (h79.resolve_left (by omega)) (by omega)) (zwk_c (zwk_c (zwk_n zwk_e)))
            · refine q_iconst C dX12_readsList_80 (n := 81) rfl ?_
              exact q_zret C dX12_readsList_81 ⟨rfl, rfl⟩ (by omega) (by rw [hPo]; exact ⟨0, M80, J81, rfl, rfl, hI82, hK86, by omega, Or.inl (by omega)⟩)
          · refine q_aload_n C dX12_readsList_61 (n := 62) rfl rfl ?_
            refine q_iload_n C dX12_readsList_62 (n := 63) rfl rfl ?_
            refine q_callVi C dX12_readsList_63 (n := 66) rfl m_X12_609 v_yX12_behind (zM0 h0) ⟨by decide, rfl⟩ (c_X12_behind (w := w) (J := J21) hI22 hF h0 (M (a + 41) u18) h27 (by omega) (by omega) (by omega)) (Nat.le_of_ble_eq_true rfl) rfl rfl (Nat.le_of_ble_eq_true rfl) ⟨Nat.le_refl _, Nat.le_refl _⟩ (fun x95 M91 J92  hI93 h94 => ?_)
            obtain ⟨hk96, h89, h90⟩ := h94
            have hK97 := hK23.tr hk96 rfl rfl rfl
            have hK98 := hK24.tr hk96 rfl rfl rfl
            refine q_if_ne C 82 dX12_readsList_66 (n := 69) rfl rfl (by omega) (fun h99 => ?_) (fun h99 => ?_)
            · refine q_iinc C [.ref (w.2.1 + a), zi (u18 + 1), zi (M (a + 41) u18)] dX12_readsList_82 (n := 85) rfl rfl rfl rfl ?_
              refine q_goto C 22 dX12_readsList_85 rfl ?_
              exact zK.weak (ih30 (u18 + 1) M91 J92 hI93 hK97 hK98 (by omega) (by omega) (h90.resolve_left (by omega)) (by omega)) (zwk_c (zwk_c (zwk_n zwk_e)))
            · refine q_goto C 80 dX12_readsList_69 rfl ?_
              refine q_iconst C dX12_readsList_80 (n := 81) rfl ?_
              exact q_zret C dX12_readsList_81 ⟨rfl, rfl⟩ (by omega) (by rw [hPo]; exact ⟨0, M91, J92, rfl, rfl, hI93, hK97, by omega, Or.inl (by omega)⟩)
        · refine q_aload_n C dX12_readsList_46 (n := 47) rfl rfl ?_
          refine q_bipush C dX12_readsList_47 (n := 49) rfl (x := 8) (by decide) ?_
          refine q_iload_n C dX12_readsList_49 (n := 50) rfl rfl ?_
          refine q_callVi C dX12_readsList_50 (n := 53) rfl m_X12_376 v_yX12_badAt (zM0 h0) ⟨by decide, rfl⟩ (c_X12_badAt (w := w) (J := J21) hI22 hF h0 8 (M (a + 41) u18) (by omega) (by omega)) (Nat.le_of_ble_eq_true rfl) rfl rfl (Nat.le_of_ble_eq_true rfl) ⟨Nat.le_refl _, Nat.le_refl _⟩ (fun x106 M102 J103  hI104 h105 => ?_)
          obtain ⟨hk107, h100, h101⟩ := h105
          have hK108 := hK23.tr hk107 rfl rfl rfl
          have hK109 := hK24.tr hk107 rfl rfl rfl
          exact q_zret C dX12_readsList_53 ⟨rfl, rfl⟩ (by omega) (by rw [hPo]; exact ⟨x106, M102, J103, rfl, rfl, hI104, hK108, by omega, Or.inl (by omega)⟩)
  exact zK.weak (L_28 _ 0 M13 J hI15 hK16 (zMd.rf : zMd a [43, 44, 45, 46, 47, 48] [74, 75, 76, 78] [(18, 11), (18, 12), (18, 13), (18, 14)] M13 M13) (by omega) (by omega) hx17 (Int.self_le_toNat _)) (zwk_c (zwk_c (zwk_n zwk_e)))
theorem c_X12_works {w : zWp} {T : zTl} {M : zMm} {J : zJm} {R : zRm'} {G : zGt} {F : zRm'} {a : Nat} (hI : zI G M) (hF : zF F R) (h0 : zModel T F G a) (p1 : zSf M a) : zCt w 3 0 0 yX12_works cX12_works 7 (some .boolean) [.ref (w.2.1 + a)] (T, M, J, R) (zPi T R G (fun x M2 => (zMd a [] [] [(18, 11), (18, 12), (18, 13), (18, 14)] M M2) ∧ (x = 0 ∨ x = 1))) := by
  refine zCt.of rfl (Nat.le_of_ble_eq_true rfl) ?_
  intro p e s m args below meth c C
  obtain ⟨Po, hPo⟩ : ∃ Po, Po = zPi T R G (fun x M2 => (zMd a [] [] [(18, 11), (18, 12), (18, 13), (18, 14)] M M2) ∧ (x = 0 ∨ x = 1)) := ⟨_, rfl⟩
  rw [← hPo]
  have hK0 : zMd a [] [] [(18, 11), (18, 12), (18, 13), (18, 14)] M M := zMd.rf
  have gk_codes := zI.at hI (zM173 h0)
  have gc0 := zSf.c p1
  show zK w p e 3 0 0 s m args below meth c 7 T Po 0 [.ref (w.2.1 + a), .null, .null, .null, .null, .null, .null] [] (T, M, J, R)
  refine q_iconst C dX12_works_0 (n := 1) rfl ?_
  refine q_istore_n C [.ref (w.2.1 + a), zi 0, .null, .null, .null, .null, .null] dX12_works_1 (n := 2) rfl rfl rfl ?_
  refine q_iconst C dX12_works_2 (n := 3) rfl ?_
  refine q_istore_n C [.ref (w.2.1 + a), zi 0, zi 0, .null, .null, .null, .null] dX12_works_3 (n := 4) rfl rfl rfl ?_
  have L_13 : ∀ n14 : Nat, ∀ (u1 : Int) (u2 : Int) (M4 : zMm) (J5 : zJm), zI G M4 → zMd a [] [] [(18, 11), (18, 12), (18, 13), (18, 14)] M M4 → zMd a [] [] [] M M4 → (-2147483648 ≤ u1 ∧ u1 ≤ 2147483647) → (-2147483648 ≤ u2 ∧ u2 ≤ 2147483647) → (0 ≤ u2 ∧ u2 ≤ M a 74) → (u1 = sD (M (a + 43)) (u2 : Int)) → (M a 74 - u2 + 1 ≤ (n14 : Int)) → zK w p e 3 0 0 s m args below meth c 7 T Po 4 [.ref (w.2.1 + a), zi u1, zi u2, .null, .null, .null, .null] [] (T, M4, J5, R) := by
    intro n14
    induction n14 with
    | zero =>
      intro u1 u2 M4 J5 hI6 hK7 hK8 h9 h10 h11 h12 hm16
      exfalso
      omega
    | succ n14 ih15 =>
      intro u1 u2 M4 J5 hI6 hK7 hK8 h9 h10 h11 h12 hm16
      refine q_iload_n C dX12_works_4 (n := 5) rfl rfl ?_
      refine q_aload_n C dX12_works_5 (n := 6) rfl rfl ?_
      have g17 := zI.at hI (zM173 h0)
      refine q_getI C dX12_works_6 (n := 9) rfl f_X12_556 (zM0 h0) (v := M a 74) (hK8.getS rfl rfl) ?_
      refine q_icmp_ge C 367 dX12_works_9 (n := 12) rfl rfl (by omega) (fun h18 => ?_) (fun h18 => ?_)
      · refine q_aload_n C dX12_works_367 (n := 368) rfl rfl ?_
        refine q_aload_n C dX12_works_368 (n := 369) rfl rfl ?_
        refine q_getR C dX12_works_369 (n := 372) rfl f_X12_166 (zM0 h0) (hF _ _ _ (zM171 h0)) ?_
        refine q_iconst C dX12_works_372 (n := 373) rfl ?_
        refine q_laldE C dX12_works_373 (n := 374) rfl (zM172 h0) (by omega) ?_
        refine q_putL C dX12_works_374 (n := 377) rfl f_X12_627 (zM0 h0) ⟨rfl, rfl⟩ (fun J19 => ?_)
        refine q_iconst C dX12_works_377 (n := 378) rfl ?_
        exact q_zret C dX12_works_378 ⟨rfl, rfl⟩ (by omega) (by rw [hPo]; exact ⟨1, M4, J19, rfl, rfl, hI6, hK7, by omega⟩)
      · have gat := zSf.at p1 (i := u2) (by omega) (by omega)
        have gal := s_all (M (a + 43) u2)
        refine q_aload_n C dX12_works_12 (n := 13) rfl rfl ?_
        refine q_getR C dX12_works_13 (n := 16) rfl f_X12_144 (zM0 h0) (hF _ _ _ (zM151 h0)) ?_
        refine q_iload_n C dX12_works_16 (n := 17) rfl rfl ?_
        have g20 := zI.at hI ((zM153 h0) u2)
        refine q_iald C dX12_works_17 (n := 18) rfl (zM152 h0) (by omega) (v := M (a + 43) u2) (hK8.getA rfl rfl rfl) ?_
        refine q_istore_n C [.ref (w.2.1 + a), zi u1, zi u2, zi (M (a + 43) u2), .null, .null, .null] dX12_works_18 (n := 19) rfl rfl rfl ?_
        refine q_iload_n C dX12_works_19 (n := 20) rfl rfl ?_
        refine q_iconst C dX12_works_20 (n := 21) rfl ?_
        refine q_iadd C dX12_works_21 (n := 22) rfl (v := u2 + 1) rfl ?_
        refine q_istore C [.ref (w.2.1 + a), zi u1, zi u2, zi (M (a + 43) u2), zi (u2 + 1), .null, .null] dX12_works_22 (n := 24) rfl rfl rfl ?_
        refine q_iload_n C dX12_works_24 (n := 25) rfl rfl ?_
        have J_34 : ∀ (u21 : Int) (u22 : Int) (M24 : zMm) (J25 : zJm), zI G M24 → zMd a [] [] [(18, 11), (18, 12), (18, 13), (18, 14)] M M24 → zMd a [] [] [] M M24 → zMd a [] [] [] M4 M24 → (-2147483648 ≤ u21 ∧ u21 ≤ 2147483647) → (-2147483648 ≤ u22 ∧ u22 ≤ 2147483647) → (u21 = sD (M (a + 43)) (u22 : Int)) → (u2 < u22 ∧ u22 ≤ M a 74) → zK w p e 3 0 0 s m args below meth c 7 T Po 361 [.ref (w.2.1 + a), zi u21, .null, .null, zi u22, .null, .null] [] (T, M24, J25, R) := by
          intro u21 u22 M24 J25 hI26 hK27 hK28 hK29 h30 h31 h32 h33
          refine q_iload C dX12_works_361 (n := 363) rfl rfl ?_
          refine q_istore_n C [.ref (w.2.1 + a), zi u21, zi u22, .null, zi u22, .null, .null] dX12_works_363 (n := 364) rfl rfl rfl ?_
          refine q_goto C 4 dX12_works_364 rfl ?_
          exact zK.weak (ih15 u21 u22 M24 J25 hI26 hK27 hK28 (by omega) (by omega) (by omega) (by omega) (by omega)) (zwk_c (zwk_c (zwk_c (zwk_n (zwk_n (zwk_n (zwk_n zwk_e)))))))
        refine q_if_ne C 46 dX12_works_25 (n := 28) rfl rfl (by omega) (fun h35 => ?_) (fun h35 => ?_)
        · refine q_iload_n C dX12_works_46 (n := 47) rfl rfl ?_
          refine q_bipush C dX12_works_47 (n := 49) rfl (x := 32) (by decide) ?_
          refine q_icmp_ne C 84 dX12_works_49 (n := 52) rfl rfl (by omega) (fun h36 => ?_) (fun h36 => ?_)
          · refine q_iload_n C dX12_works_84 (n := 85) rfl rfl ?_
            refine q_bipush C dX12_works_85 (n := 87) rfl (x := 30) (by decide) ?_
            refine q_icmp_eq C 96 dX12_works_87 (n := 90) rfl rfl (by omega) (fun h37 => ?_) (fun h37 => ?_)
            · refine q_aload_n C dX12_works_96 (n := 97) rfl rfl ?_
              refine q_getR C dX12_works_97 (n := 100) rfl f_X12_166 (zM0 h0) (hF _ _ _ (zM171 h0)) ?_
              refine q_iload_n C dX12_works_100 (n := 101) rfl rfl ?_
              refine q_iconst C dX12_works_101 (n := 102) rfl ?_
              refine q_isub C dX12_works_102 (n := 103) rfl (v := u1 - 1) rfl ?_
              refine q_laldE C dX12_works_103 (n := 104) rfl (zM172 h0) (by omega) ?_
              refine q_lconst C dX12_works_104 (n := 105) rfl ?_
              refine q_lcmp C dX12_works_105 (n := 106) rfl (fun z38 h39 => ?_)
              have J_43 : ∀ (u40 : Int), (-2147483648 ≤ u40 ∧ u40 ≤ 2147483647) → (u40 = 0 ∨ u40 = 1) → zK w p e 3 0 0 s m args below meth c 7 T Po 114 [.ref (w.2.1 + a), zi u1, zi u2, zi (M (a + 43) u2), zi (u2 + 1), .null, .null] [zi u40] (T, M4, J5, R) := by
                intro u40 h41 h42
                refine q_iload_n C dX12_works_114 (n := 115) rfl rfl ?_
                refine q_bipush C dX12_works_115 (n := 117) rfl (x := 31) (by decide) ?_
                have J_47 : ∀ (u44 : Int), (-2147483648 ≤ u44 ∧ u44 ≤ 2147483647) → (u44 = 0 ∨ u44 = 1) → zK w p e 3 0 0 s m args below meth c 7 T Po 125 [.ref (w.2.1 + a), zi u1, zi u2, zi (M (a + 43) u2), zi (u2 + 1), .null, .null] [zi u44, zi u40] (T, M4, J5, R) := by
                  intro u44 h45 h46
                  refine q_icmp_ne C 161 dX12_works_125 (n := 128) rfl rfl (by omega) (fun h48 => ?_) (fun h48 => ?_)
                  · refine q_iinc C [.ref (w.2.1 + a), zi (u1 + (-1)), zi u2, zi (M (a + 43) u2), zi (u2 + 1), .null, .null] dX12_works_161 (n := 164) rfl rfl rfl rfl ?_
                    refine q_goto C 361 dX12_works_164 rfl ?_
                    exact zK.weak (J_34 (u1 + (-1)) (u2 + 1) M4 J5 hI6 hK7 hK8 (zMd.rf : zMd a [] [] [] M4 M4) (by omega) (by omega) (by omega) (by omega)) (zwk_c (zwk_c (zwk_n (zwk_n (zwk_c (zwk_n (zwk_n zwk_e)))))))
                  · refine q_aload_n C dX12_works_128 (n := 129) rfl rfl ?_
                    refine q_getR C dX12_works_129 (n := 132) rfl f_X12_166 (zM0 h0) (hF _ _ _ (zM171 h0)) ?_
                    refine q_iload_n C dX12_works_132 (n := 133) rfl rfl ?_
                    refine q_iconst C dX12_works_133 (n := 134) rfl ?_
                    refine q_isub C dX12_works_134 (n := 135) rfl (v := u1 - 1) rfl ?_
                    refine q_iload_n C dX12_works_135 (n := 136) rfl rfl ?_
                    refine q_bipush C dX12_works_136 (n := 138) rfl (x := 31) (by decide) ?_
                    have J_52 : ∀ (u49 : Int), (-2147483648 ≤ u49 ∧ u49 ≤ 2147483647) → (u49 = 0 ∨ u49 = 1) → zK w p e 3 0 0 s m args below meth c 7 T Po 146 [.ref (w.2.1 + a), zi u1, zi u2, .null, .null, .null, .null] [zi u49, zi (u1 - 1), .ref (w.2.1 + (a + 50))] (T, M4, J5, R) := by
                      intro u49 h50 h51
                      refine q_callSq C dX12_works_146 (n := 149) rfl m_X12_615 s_yX12_truth (c_X12_truth (w := w) (J := J5) hI6 hF u49 (by omega)) (Nat.le_of_ble_eq_true rfl) rfl rfl (Nat.le_of_ble_eq_true rfl) ⟨Nat.le_refl _, Nat.le_refl _⟩ (fun l53 => ?_)
                      refine q_last C dX12_works_149 (n := 150) rfl (zM172 h0) (by omega) (fun J54 => ?_)
                      refine q_aload_n C dX12_works_150 (n := 151) rfl rfl ?_
                      refine q_getR C dX12_works_151 (n := 154) rfl f_X12_147 (zM0 h0) (hF _ _ _ (zM154 h0)) ?_
                      refine q_iload_n C dX12_works_154 (n := 155) rfl rfl ?_
                      have g55 := zI.at hI ((zM156 h0) u2)
                      refine q_iald C dX12_works_155 (n := 156) rfl (zM155 h0) (by omega) (v := M (a + 44) u2) (hK8.getA rfl rfl rfl) ?_
                      refine q_istore C [.ref (w.2.1 + a), zi u1, zi u2, .null, zi (M (a + 44) u2), .null, .null] dX12_works_156 (n := 158) rfl rfl rfl ?_
                      refine q_goto C 361 dX12_works_158 rfl ?_
                      exact zK.weak (J_34 u1 (M (a + 44) u2) M4 J54 hI6 hK7 hK8 (zMd.rf : zMd a [] [] [] M4 M4) (by omega) (by omega) (by omega) (by omega)) (zwk_c (zwk_c (zwk_n (zwk_n (zwk_c (zwk_n (zwk_n zwk_e)))))))
                    refine q_icmp_ne C 145 dX12_works_138 (n := 141) rfl rfl (by omega) (fun h56 => ?_) (fun h56 => ?_)
                    · refine q_iconst C dX12_works_145 (n := 146) rfl ?_
                      exact zK.weak (J_52 0 (by omega) (by omega)) (zwk_c (zwk_c (zwk_c (zwk_n (zwk_n (zwk_n (zwk_n zwk_e)))))))
                    · refine q_iconst C dX12_works_141 (n := 142) rfl ?_
                      refine q_goto C 146 dX12_works_142 rfl ?_
                      exact zK.weak (J_52 1 (by omega) (by omega)) (zwk_c (zwk_c (zwk_c (zwk_n (zwk_n (zwk_n (zwk_n zwk_e)))))))
                refine q_icmp_ne C 124 dX12_works_117 (n := 120) rfl rfl (by omega) (fun h57 => ?_) (fun h57 => ?_)
                · refine q_iconst C dX12_works_124 (n := 125) rfl ?_
                  exact zK.weak (J_47 0 (by omega) (by omega)) (zwk_c (zwk_c (zwk_c (zwk_c (zwk_c (zwk_n (zwk_n zwk_e)))))))
                · refine q_iconst C dX12_works_120 (n := 121) rfl ?_
                  refine q_goto C 125 dX12_works_121 rfl ?_
                  exact zK.weak (J_47 1 (by omega) (by omega)) (zwk_c (zwk_c (zwk_c (zwk_c (zwk_c (zwk_n (zwk_n zwk_e)))))))
              refine q_if_eq C 113 dX12_works_106 (n := 109) rfl rfl (by omega) (fun h58 => ?_) (fun h58 => ?_)
              · refine q_iconst C dX12_works_113 (n := 114) rfl ?_
                exact zK.weak (J_43 0 (by omega) (by omega)) (zwk_c (zwk_c (zwk_c (zwk_c (zwk_c (zwk_n (zwk_n zwk_e)))))))
              · refine q_iconst C dX12_works_109 (n := 110) rfl ?_
                refine q_goto C 114 dX12_works_110 rfl ?_
                exact zK.weak (J_43 1 (by omega) (by omega)) (zwk_c (zwk_c (zwk_c (zwk_c (zwk_c (zwk_n (zwk_n zwk_e)))))))
            · refine q_iload_n C dX12_works_90 (n := 91) rfl rfl ?_
              refine q_bipush C dX12_works_91 (n := 93) rfl (x := 31) (by decide) ?_
              refine q_icmp_ne C 167 dX12_works_93 (n := 96) rfl rfl (by omega) (fun h59 => ?_) (fun h59 => ?_)
              · refine q_iload_n C dX12_works_167 (n := 168) rfl rfl ?_
                refine q_bipush C dX12_works_168 (n := 170) rfl (x := 33) (by decide) ?_
                refine q_icmp_ne C 198 dX12_works_170 (n := 173) rfl rfl (by omega) (fun h60 => ?_) (fun h60 => ?_)
                · refine q_iload_n C dX12_works_198 (n := 199) rfl rfl ?_
                  refine q_bipush C dX12_works_199 (n := 201) rfl (x := 34) (by decide) ?_
                  refine q_icmp_ne C 215 dX12_works_201 (n := 204) rfl rfl (by omega) (fun h61 => ?_) (fun h61 => ?_)
                  · refine q_iload_n C dX12_works_215 (n := 216) rfl rfl ?_
                    refine q_callSp C dX12_works_216 (n := 219) rfl m_X12_572 s_yX12_isAhead (c_X12_isAhead (w := w) (J := J5) hI6 hF (M (a + 43) u2) (by omega)) (Nat.le_of_ble_eq_true rfl) rfl rfl (Nat.le_of_ble_eq_true rfl) ⟨Nat.le_refl _, Nat.le_refl _⟩ (fun x65 h66 => ?_)
                    obtain ⟨h62, h63, h64⟩ := h66
                    refine q_if_eq C 296 dX12_works_219 (n := 222) rfl rfl (by omega) (fun h67 => ?_) (fun h67 => ?_)
                    · refine q_iinc C [.ref (w.2.1 + a), zi (u1 + (-1)), zi u2, zi (M (a + 43) u2), zi (u2 + 1), .null, .null] dX12_works_296 (n := 299) rfl rfl rfl rfl ?_
                      refine q_iload_n C dX12_works_299 (n := 300) rfl rfl ?_
                      refine q_bipush C dX12_works_300 (n := 302) rfl (x := 16) (by decide) ?_
                      refine q_icmp_eq C 311 dX12_works_302 (n := 305) rfl rfl (by omega) (fun h68 => ?_) (fun h68 => ?_)
                      · refine q_aload_n C dX12_works_311 (n := 312) rfl rfl ?_
                        refine q_getR C dX12_works_312 (n := 315) rfl f_X12_166 (zM0 h0) (hF _ _ _ (zM171 h0)) ?_
                        refine q_iload_n C dX12_works_315 (n := 316) rfl rfl ?_
                        refine q_laldE C dX12_works_316 (n := 317) rfl (zM172 h0) (by omega) ?_
                        refine q_lconst C dX12_works_317 (n := 318) rfl ?_
                        refine q_lcmp C dX12_works_318 (n := 319) rfl (fun z69 h70 => ?_)
                        refine q_if_ne C 335 dX12_works_319 (n := 322) rfl rfl (by omega) (fun h71 => ?_) (fun h71 => ?_)
                        · refine q_aload_n C dX12_works_335 (n := 336) rfl rfl ?_
                          refine q_getR C dX12_works_336 (n := 339) rfl f_X12_166 (zM0 h0) (hF _ _ _ (zM171 h0)) ?_
                          refine q_iload_n C dX12_works_339 (n := 340) rfl rfl ?_
                          refine q_iconst C dX12_works_340 (n := 341) rfl ?_
                          refine q_isub C dX12_works_341 (n := 342) rfl (v := (u1 + (-1)) - 1) rfl ?_
                          refine q_iload_n C dX12_works_342 (n := 343) rfl rfl ?_
                          refine q_aload_n C dX12_works_343 (n := 344) rfl rfl ?_
                          refine q_getR C dX12_works_344 (n := 347) rfl f_X12_166 (zM0 h0) (hF _ _ _ (zM171 h0)) ?_
                          refine q_iload_n C dX12_works_347 (n := 348) rfl rfl ?_
                          refine q_iconst C dX12_works_348 (n := 349) rfl ?_
                          refine q_isub C dX12_works_349 (n := 350) rfl (v := (u1 + (-1)) - 1) rfl ?_
                          refine q_laldE C dX12_works_350 (n := 351) rfl (zM172 h0) (by omega) ?_
                          refine q_aload_n C dX12_works_351 (n := 352) rfl rfl ?_
                          refine q_getR C dX12_works_352 (n := 355) rfl f_X12_166 (zM0 h0) (hF _ _ _ (zM171 h0)) ?_
                          refine q_iload_n C dX12_works_355 (n := 356) rfl rfl ?_
                          refine q_laldE C dX12_works_356 (n := 357) rfl (zM172 h0) (by omega) ?_
                          refine q_callSq C dX12_works_357 (n := 360) rfl m_X12_623 s_yX12_two (c_X12_two (w := w) (J := J5) hI6 hF (M (a + 43) u2) (J5 (a + 50) ((u1 + (-1)) - 1)) (J5 (a + 50) (u1 + (-1))) (by omega) (by first | (right; constructor <;> omega) | (left; exact ⟨by omega, by rcases h70 with ⟨q1, q2⟩ | ⟨q1, q2⟩ <;> first | exact absurd q1 (by omega) | exact q2⟩))) (Nat.le_of_ble_eq_true rfl) rfl rfl (Nat.le_of_ble_eq_true rfl) ⟨Nat.le_refl _, Nat.le_refl _⟩ (fun l72 => ?_)
                          refine q_last C dX12_works_360 (n := 361) rfl (zM172 h0) (by omega) (fun J73 => ?_)
                          exact zK.weak (J_34 (u1 + (-1)) (u2 + 1) M4 J73 hI6 hK7 hK8 (zMd.rf : zMd a [] [] [] M4 M4) (by omega) (by omega) (by omega) (by omega)) (zwk_c (zwk_c (zwk_n (zwk_n (zwk_c (zwk_n (zwk_n zwk_e)))))))
                        · refine q_aload_n C dX12_works_322 (n := 323) rfl rfl ?_
                          refine q_bipush C dX12_works_323 (n := 325) rfl (x := 9) (by decide) ?_
                          refine q_aload_n C dX12_works_325 (n := 326) rfl rfl ?_
                          refine q_getR C dX12_works_326 (n := 329) rfl f_X12_150 (zM0 h0) (hF _ _ _ (zM157 h0)) ?_
                          refine q_iload_n C dX12_works_329 (n := 330) rfl rfl ?_
                          have g74 := zI.at hI ((zM159 h0) u2)
                          refine q_iald C dX12_works_330 (n := 331) rfl (zM158 h0) (by omega) (v := M (a + 45) u2) (hK8.getA rfl rfl rfl) ?_
                          refine q_callVi C dX12_works_331 (n := 334) rfl m_X12_376 v_yX12_badAt (zM0 h0) ⟨by decide, rfl⟩ (c_X12_badAt (w := w) (J := J5) hI6 hF h0 9 (M (a + 45) u2) (by omega) (by omega)) (Nat.le_of_ble_eq_true rfl) rfl rfl (Nat.le_of_ble_eq_true rfl) ⟨Nat.le_refl _, Nat.le_refl _⟩ (fun x81 M77 J78  hI79 h80 => ?_)
                          obtain ⟨hk82, h75, h76⟩ := h80
                          have hK83 := hK7.tr hk82 rfl rfl rfl
                          exact q_zret C dX12_works_334 ⟨rfl, rfl⟩ (by omega) (by rw [hPo]; exact ⟨x81, M77, J78, rfl, rfl, hI79, hK83, by omega⟩)
                      · refine q_iload_n C dX12_works_305 (n := 306) rfl rfl ?_
                        refine q_bipush C dX12_works_306 (n := 308) rfl (x := 17) (by decide) ?_
                        refine q_icmp_ne C 335 dX12_works_308 (n := 311) rfl rfl (by omega) (fun h84 => ?_) (fun h84 => ?_)
                        · refine q_aload_n C dX12_works_335 (n := 336) rfl rfl ?_
                          refine q_getR C dX12_works_336 (n := 339) rfl f_X12_166 (zM0 h0) (hF _ _ _ (zM171 h0)) ?_
                          refine q_iload_n C dX12_works_339 (n := 340) rfl rfl ?_
                          refine q_iconst C dX12_works_340 (n := 341) rfl ?_
                          refine q_isub C dX12_works_341 (n := 342) rfl (v := (u1 + (-1)) - 1) rfl ?_
                          refine q_iload_n C dX12_works_342 (n := 343) rfl rfl ?_
                          refine q_aload_n C dX12_works_343 (n := 344) rfl rfl ?_
                          refine q_getR C dX12_works_344 (n := 347) rfl f_X12_166 (zM0 h0) (hF _ _ _ (zM171 h0)) ?_
                          refine q_iload_n C dX12_works_347 (n := 348) rfl rfl ?_
                          refine q_iconst C dX12_works_348 (n := 349) rfl ?_
                          refine q_isub C dX12_works_349 (n := 350) rfl (v := (u1 + (-1)) - 1) rfl ?_
                          refine q_laldE C dX12_works_350 (n := 351) rfl (zM172 h0) (by omega) ?_
                          refine q_aload_n C dX12_works_351 (n := 352) rfl rfl ?_
                          refine q_getR C dX12_works_352 (n := 355) rfl f_X12_166 (zM0 h0) (hF _ _ _ (zM171 h0)) ?_
                          refine q_iload_n C dX12_works_355 (n := 356) rfl rfl ?_
                          refine q_laldE C dX12_works_356 (n := 357) rfl (zM172 h0) (by omega) ?_
                          refine q_callSq C dX12_works_357 (n := 360) rfl m_X12_623 s_yX12_two (c_X12_two (w := w) (J := J5) hI6 hF (M (a + 43) u2) (J5 (a + 50) ((u1 + (-1)) - 1)) (J5 (a + 50) (u1 + (-1))) (by omega) (by first | (right; constructor <;> omega) | (left; exact ⟨by omega, by rcases None with ⟨q1, q2⟩ | ⟨q1, q2⟩ <;> first | exact absurd q1 (by omega) | exact q2⟩))) (Nat.le_of_ble_eq_true rfl) rfl rfl (Nat.le_of_ble_eq_true rfl) ⟨Nat.le_refl _, Nat.le_refl _⟩ (fun l85 => ?_)
                          refine q_last C dX12_works_360 (n := 361) rfl (zM172 h0) (by omega) (fun J86 => ?_)
                          exact zK.weak (J_34 (u1 + (-1)) (u2 + 1) M4 J86 hI6 hK7 hK8 (zMd.rf : zMd a [] [] [] M4 M4) (by omega) (by omega) (by omega) (by omega)) (zwk_c (zwk_c (zwk_n (zwk_n (zwk_c (zwk_n (zwk_n zwk_e)))))))
                        · refine q_aload_n C dX12_works_311 (n := 312) rfl rfl ?_
                          refine q_getR C dX12_works_312 (n := 315) rfl f_X12_166 (zM0 h0) (hF _ _ _ (zM171 h0)) ?_
                          refine q_iload_n C dX12_works_315 (n := 316) rfl rfl ?_
                          refine q_laldE C dX12_works_316 (n := 317) rfl (zM172 h0) (by omega) ?_
                          refine q_lconst C dX12_works_317 (n := 318) rfl ?_
                          refine q_lcmp C dX12_works_318 (n := 319) rfl (fun z87 h88 => ?_)
                          refine q_if_ne C 335 dX12_works_319 (n := 322) rfl rfl (by omega) (fun h89 => ?_) (fun h89 => ?_)
                          · refine q_aload_n C dX12_works_335 (n := 336) rfl rfl ?_
                            refine q_getR C dX12_works_336 (n := 339) rfl f_X12_166 (zM0 h0) (hF _ _ _ (zM171 h0)) ?_
                            refine q_iload_n C dX12_works_339 (n := 340) rfl rfl ?_
                            refine q_iconst C dX12_works_340 (n := 341) rfl ?_
                            refine q_isub C dX12_works_341 (n := 342) rfl (v := (u1 + (-1)) - 1) rfl ?_
                            refine q_iload_n C dX12_works_342 (n := 343) rfl rfl ?_
                            refine q_aload_n C dX12_works_343 (n := 344) rfl rfl ?_
                            refine q_getR C dX12_works_344 (n := 347) rfl f_X12_166 (zM0 h0) (hF _ _ _ (zM171 h0)) ?_
                            refine q_iload_n C dX12_works_347 (n := 348) rfl rfl ?_
                            refine q_iconst C dX12_works_348 (n := 349) rfl ?_
                            refine q_isub C dX12_works_349 (n := 350) rfl (v := (u1 + (-1)) - 1) rfl ?_
                            refine q_laldE C dX12_works_350 (n := 351) rfl (zM172 h0) (by omega) ?_
                            refine q_aload_n C dX12_works_351 (n := 352) rfl rfl ?_
                            refine q_getR C dX12_works_352 (n := 355) rfl f_X12_166 (zM0 h0) (hF _ _ _ (zM171 h0)) ?_
                            refine q_iload_n C dX12_works_355 (n := 356) rfl rfl ?_
                            refine q_laldE C dX12_works_356 (n := 357) rfl (zM172 h0) (by omega) ?_
                            refine q_callSq C dX12_works_357 (n := 360) rfl m_X12_623 s_yX12_two (c_X12_two (w := w) (J := J5) hI6 hF (M (a + 43) u2) (J5 (a + 50) ((u1 + (-1)) - 1)) (J5 (a + 50) (u1 + (-1))) (by omega) (by first | (right; constructor <;> omega) | (left; exact ⟨by omega, by rcases h88 with ⟨q1, q2⟩ | ⟨q1, q2⟩ <;> first | exact absurd q1 (by omega) | exact q2⟩))) (Nat.le_of_ble_eq_true rfl) rfl rfl (Nat.le_of_ble_eq_true rfl) ⟨Nat.le_refl _, Nat.le_refl _⟩ (fun l90 => ?_)
                            refine q_last C dX12_works_360 (n := 361) rfl (zM172 h0) (by omega) (fun J91 => ?_)
                            exact zK.weak (J_34 (u1 + (-1)) (u2 + 1) M4 J91 hI6 hK7 hK8 (zMd.rf : zMd a [] [] [] M4 M4) (by omega) (by omega) (by omega) (by omega)) (zwk_c (zwk_c (zwk_n (zwk_n (zwk_c (zwk_n (zwk_n zwk_e)))))))
                          · refine q_aload_n C dX12_works_322 (n := 323) rfl rfl ?_
                            refine q_bipush C dX12_works_323 (n := 325) rfl (x := 9) (by decide) ?_
                            refine q_aload_n C dX12_works_325 (n := 326) rfl rfl ?_
                            refine q_getR C dX12_works_326 (n := 329) rfl f_X12_150 (zM0 h0) (hF _ _ _ (zM157 h0)) ?_
                            refine q_iload_n C dX12_works_329 (n := 330) rfl rfl ?_
                            have g92 := zI.at hI ((zM159 h0) u2)
                            refine q_iald C dX12_works_330 (n := 331) rfl (zM158 h0) (by omega) (v := M (a + 45) u2) (hK8.getA rfl rfl rfl) ?_
                            refine q_callVi C dX12_works_331 (n := 334) rfl m_X12_376 v_yX12_badAt (zM0 h0) ⟨by decide, rfl⟩ (c_X12_badAt (w := w) (J := J5) hI6 hF h0 9 (M (a + 45) u2) (by omega) (by omega)) (Nat.le_of_ble_eq_true rfl) rfl rfl (Nat.le_of_ble_eq_true rfl) ⟨Nat.le_refl _, Nat.le_refl _⟩ (fun x99 M95 J96  hI97 h98 => ?_)
                            obtain ⟨hk100, h93, h94⟩ := h98
                            have hK101 := hK7.tr hk100 rfl rfl rfl
                            exact q_zret C dX12_works_334 ⟨rfl, rfl⟩ (by omega) (by rw [hPo]; exact ⟨x99, M95, J96, rfl, rfl, hI97, hK101, by omega⟩)
                    · refine q_aload_n C dX12_works_222 (n := 223) rfl rfl ?_
                      refine q_getR C dX12_works_223 (n := 226) rfl f_X12_166 (zM0 h0) (hF _ _ _ (zM171 h0)) ?_
                      refine q_iload_n C dX12_works_226 (n := 227) rfl rfl ?_
                      refine q_iconst C dX12_works_227 (n := 228) rfl ?_
                      refine q_isub C dX12_works_228 (n := 229) rfl (v := u1 - 1) rfl ?_
                      refine q_laldE C dX12_works_229 (n := 230) rfl (zM172 h0) (by omega) ?_
                      refine q_lstore C [.ref (w.2.1 + a), zi u1, zi u2, zi (M (a + 43) u2), zi (u2 + 1), .long (J5 (a + 50) (u1 - 1)), .null] dX12_works_230 (n := 232) rfl rfl rfl ?_
                      refine q_aload_n C dX12_works_232 (n := 233) rfl rfl ?_
                      refine q_getR C dX12_works_233 (n := 236) rfl f_X12_166 (zM0 h0) (hF _ _ _ (zM171 h0)) ?_
                      refine q_iload_n C dX12_works_236 (n := 237) rfl rfl ?_
                      refine q_iconst C dX12_works_237 (n := 238) rfl ?_
                      refine q_isub C dX12_works_238 (n := 239) rfl (v := u1 - 1) rfl ?_
                      refine q_iload_n C dX12_works_239 (n := 240) rfl rfl ?_
                      refine q_bipush C dX12_works_240 (n := 242) rfl (x := 20) (by decide) ?_
                      have J_103 : ∀ (u102 : Int64), zK w p e 3 0 0 s m args below meth c 7 T Po 292 [.ref (w.2.1 + a), zi u1, .null, .null, zi (u2 + 1), .null, .null] [.long u102, zi (u1 - 1), .ref (w.2.1 + (a + 50))] (T, M4, J5, R) := by
                        intro u102
                        refine q_last C dX12_works_292 (n := 293) rfl (zM172 h0) (by omega) (fun J104 => ?_)
                        refine q_goto C 361 dX12_works_293 rfl ?_
                        exact zK.weak (J_34 u1 (u2 + 1) M4 J104 hI6 hK7 hK8 (zMd.rf : zMd a [] [] [] M4 M4) (by omega) (by omega) (by omega) (by omega)) (zwk_c (zwk_c (zwk_n (zwk_n (zwk_c (zwk_n (zwk_n zwk_e)))))))
                      refine q_icmp_ne C 263 dX12_works_242 (n := 245) rfl rfl (by omega) (fun h105 => ?_) (fun h105 => ?_)
                      · refine q_iload_n C dX12_works_263 (n := 264) rfl rfl ?_
                        refine q_bipush C dX12_works_264 (n := 266) rfl (x := 21) (by decide) ?_
                        refine q_icmp_ne C 278 dX12_works_266 (n := 269) rfl rfl (by omega) (fun h106 => ?_) (fun h106 => ?_)
                        · refine q_iload_n C dX12_works_278 (n := 279) rfl rfl ?_
                          refine q_bipush C dX12_works_279 (n := 281) rfl (x := 22) (by decide) ?_
                          refine q_icmp_ne C 290 dX12_works_281 (n := 284) rfl rfl (by omega) (fun h107 => ?_) (fun h107 => ?_)
                          · refine q_lload C dX12_works_290 (n := 292) rfl rfl ?_
                            exact zK.weak (J_103 (J5 (a + 50) (u1 - 1))) (zwk_c (zwk_c (zwk_n (zwk_n (zwk_c (zwk_n (zwk_n zwk_e)))))))
                          · refine q_lload C dX12_works_284 (n := 286) rfl rfl ?_
                            refine q_lneg C dX12_works_286 (n := 287) rfl (fun l108 => ?_)
                            refine q_goto C 292 dX12_works_287 rfl ?_
                            exact zK.weak (J_103 l108) (zwk_c (zwk_c (zwk_n (zwk_n (zwk_c (zwk_n (zwk_n zwk_e)))))))
                        · refine q_lload C dX12_works_269 (n := 271) rfl rfl ?_
                          refine q_ldc2 C dX12_works_271 (n := 274) rfl k_X12_621 ?_
                          refine q_lxor C dX12_works_274 (n := 275) rfl (fun l110 => ?_)
                          refine q_goto C 292 dX12_works_275 rfl ?_
                          exact zK.weak (J_103 l110) (zwk_c (zwk_c (zwk_n (zwk_n (zwk_c (zwk_n (zwk_n zwk_e)))))))
                      · refine q_lload C dX12_works_245 (n := 247) rfl rfl ?_
                        refine q_lconst C dX12_works_247 (n := 248) rfl ?_
                        refine q_lcmp C dX12_works_248 (n := 249) rfl (fun z111 h112 => ?_)
                        have J_116 : ∀ (u113 : Int), (-2147483648 ≤ u113 ∧ u113 ≤ 2147483647) → (u113 = 0 ∨ u113 = 1) → zK w p e 3 0 0 s m args below meth c 7 T Po 257 [.ref (w.2.1 + a), zi u1, .null, .null, zi (u2 + 1), .null, .null] [zi u113, zi (u1 - 1), .ref (w.2.1 + (a + 50))] (T, M4, J5, R) := by
                          intro u113 h114 h115
                          refine q_callSq C dX12_works_257 (n := 260) rfl m_X12_615 s_yX12_truth (c_X12_truth (w := w) (J := J5) hI6 hF u113 (by omega)) (Nat.le_of_ble_eq_true rfl) rfl rfl (Nat.le_of_ble_eq_true rfl) ⟨Nat.le_refl _, Nat.le_refl _⟩ (fun l117 => ?_)
                          refine q_goto C 292 dX12_works_260 rfl ?_
                          exact zK.weak (J_103 l117) (zwk_c (zwk_c (zwk_n (zwk_n (zwk_c (zwk_n (zwk_n zwk_e)))))))
                        refine q_if_ne C 256 dX12_works_249 (n := 252) rfl rfl (by omega) (fun h118 => ?_) (fun h118 => ?_)
                        · refine q_iconst C dX12_works_256 (n := 257) rfl ?_
                          exact zK.weak (J_116 0 (by omega) (by omega)) (zwk_c (zwk_c (zwk_n (zwk_n (zwk_c (zwk_n (zwk_n zwk_e)))))))
                        · refine q_iconst C dX12_works_252 (n := 253) rfl ?_
                          refine q_goto C 257 dX12_works_253 rfl ?_
                          exact zK.weak (J_116 1 (by omega) (by omega)) (zwk_c (zwk_c (zwk_n (zwk_n (zwk_c (zwk_n (zwk_n zwk_e)))))))
                  · refine q_aload_n C dX12_works_204 (n := 205) rfl rfl ?_
                    refine q_getR C dX12_works_205 (n := 208) rfl f_X12_147 (zM0 h0) (hF _ _ _ (zM154 h0)) ?_
                    refine q_iload_n C dX12_works_208 (n := 209) rfl rfl ?_
                    have g119 := zI.at hI ((zM156 h0) u2)
                    refine q_iald C dX12_works_209 (n := 210) rfl (zM155 h0) (by omega) (v := M (a + 44) u2) (hK8.getA rfl rfl rfl) ?_
                    refine q_istore C [.ref (w.2.1 + a), zi u1, zi u2, zi (M (a + 43) u2), zi (M (a + 44) u2), .null, .null] dX12_works_210 (n := 212) rfl rfl rfl ?_
                    refine q_goto C 361 dX12_works_212 rfl ?_
                    exact zK.weak (J_34 u1 (M (a + 44) u2) M4 J5 hI6 hK7 hK8 (zMd.rf : zMd a [] [] [] M4 M4) (by omega) (by omega) (by omega) (by omega)) (zwk_c (zwk_c (zwk_n (zwk_n (zwk_c (zwk_n (zwk_n zwk_e)))))))
                · refine q_iinc C [.ref (w.2.1 + a), zi (u1 + (-1)), zi u2, zi (M (a + 43) u2), zi (u2 + 1), .null, .null] dX12_works_173 (n := 176) rfl rfl rfl rfl ?_
                  refine q_aload_n C dX12_works_176 (n := 177) rfl rfl ?_
                  refine q_getR C dX12_works_177 (n := 180) rfl f_X12_166 (zM0 h0) (hF _ _ _ (zM171 h0)) ?_
                  refine q_iload_n C dX12_works_180 (n := 181) rfl rfl ?_
                  refine q_laldE C dX12_works_181 (n := 182) rfl (zM172 h0) (by omega) ?_
                  refine q_lconst C dX12_works_182 (n := 183) rfl ?_
                  refine q_lcmp C dX12_works_183 (n := 184) rfl (fun z120 h121 => ?_)
                  refine q_if_ne C 361 dX12_works_184 (n := 187) rfl rfl (by omega) (fun h122 => ?_) (fun h122 => ?_)
                  · exact zK.weak (J_34 (u1 + (-1)) (u2 + 1) M4 J5 hI6 hK7 hK8 (zMd.rf : zMd a [] [] [] M4 M4) (by omega) (by omega) (by omega) (by omega)) (zwk_c (zwk_c (zwk_n (zwk_n (zwk_c (zwk_n (zwk_n zwk_e)))))))
                  · refine q_aload_n C dX12_works_187 (n := 188) rfl rfl ?_
                    refine q_getR C dX12_works_188 (n := 191) rfl f_X12_147 (zM0 h0) (hF _ _ _ (zM154 h0)) ?_
                    refine q_iload_n C dX12_works_191 (n := 192) rfl rfl ?_
                    have g123 := zI.at hI ((zM156 h0) u2)
                    refine q_iald C dX12_works_192 (n := 193) rfl (zM155 h0) (by omega) (v := M (a + 44) u2) (hK8.getA rfl rfl rfl) ?_
                    refine q_istore C [.ref (w.2.1 + a), zi (u1 + (-1)), zi u2, zi (M (a + 43) u2), zi (M (a + 44) u2), .null, .null] dX12_works_193 (n := 195) rfl rfl rfl ?_
                    refine q_goto C 361 dX12_works_195 rfl ?_
                    exact zK.weak (J_34 (u1 + (-1)) (M (a + 44) u2) M4 J5 hI6 hK7 hK8 (zMd.rf : zMd a [] [] [] M4 M4) (by omega) (by omega) (by omega) (by omega)) (zwk_c (zwk_c (zwk_n (zwk_n (zwk_c (zwk_n (zwk_n zwk_e)))))))
              · refine q_aload_n C dX12_works_96 (n := 97) rfl rfl ?_
                refine q_getR C dX12_works_97 (n := 100) rfl f_X12_166 (zM0 h0) (hF _ _ _ (zM171 h0)) ?_
                refine q_iload_n C dX12_works_100 (n := 101) rfl rfl ?_
                refine q_iconst C dX12_works_101 (n := 102) rfl ?_
                refine q_isub C dX12_works_102 (n := 103) rfl (v := u1 - 1) rfl ?_
                refine q_laldE C dX12_works_103 (n := 104) rfl (zM172 h0) (by omega) ?_
                refine q_lconst C dX12_works_104 (n := 105) rfl ?_
                refine q_lcmp C dX12_works_105 (n := 106) rfl (fun z124 h125 => ?_)
                have J_129 : ∀ (u126 : Int), (-2147483648 ≤ u126 ∧ u126 ≤ 2147483647) → (u126 = 0 ∨ u126 = 1) → zK w p e 3 0 0 s m args below meth c 7 T Po 114 [.ref (w.2.1 + a), zi u1, zi u2, zi (M (a + 43) u2), zi (u2 + 1), .null, .null] [zi u126] (T, M4, J5, R) := by
                  intro u126 h127 h128
                  refine q_iload_n C dX12_works_114 (n := 115) rfl rfl ?_
                  refine q_bipush C dX12_works_115 (n := 117) rfl (x := 31) (by decide) ?_
                  have J_133 : ∀ (u130 : Int), (-2147483648 ≤ u130 ∧ u130 ≤ 2147483647) → (u130 = 0 ∨ u130 = 1) → zK w p e 3 0 0 s m args below meth c 7 T Po 125 [.ref (w.2.1 + a), zi u1, zi u2, zi (M (a + 43) u2), zi (u2 + 1), .null, .null] [zi u130, zi u126] (T, M4, J5, R) := by
                    intro u130 h131 h132
                    refine q_icmp_ne C 161 dX12_works_125 (n := 128) rfl rfl (by omega) (fun h134 => ?_) (fun h134 => ?_)
                    · refine q_iinc C [.ref (w.2.1 + a), zi (u1 + (-1)), zi u2, zi (M (a + 43) u2), zi (u2 + 1), .null, .null] dX12_works_161 (n := 164) rfl rfl rfl rfl ?_
                      refine q_goto C 361 dX12_works_164 rfl ?_
                      exact zK.weak (J_34 (u1 + (-1)) (u2 + 1) M4 J5 hI6 hK7 hK8 (zMd.rf : zMd a [] [] [] M4 M4) (by omega) (by omega) (by omega) (by omega)) (zwk_c (zwk_c (zwk_n (zwk_n (zwk_c (zwk_n (zwk_n zwk_e)))))))
                    · refine q_aload_n C dX12_works_128 (n := 129) rfl rfl ?_
                      refine q_getR C dX12_works_129 (n := 132) rfl f_X12_166 (zM0 h0) (hF _ _ _ (zM171 h0)) ?_
                      refine q_iload_n C dX12_works_132 (n := 133) rfl rfl ?_
                      refine q_iconst C dX12_works_133 (n := 134) rfl ?_
                      refine q_isub C dX12_works_134 (n := 135) rfl (v := u1 - 1) rfl ?_
                      refine q_iload_n C dX12_works_135 (n := 136) rfl rfl ?_
                      refine q_bipush C dX12_works_136 (n := 138) rfl (x := 31) (by decide) ?_
                      have J_138 : ∀ (u135 : Int), (-2147483648 ≤ u135 ∧ u135 ≤ 2147483647) → (u135 = 0 ∨ u135 = 1) → zK w p e 3 0 0 s m args below meth c 7 T Po 146 [.ref (w.2.1 + a), zi u1, zi u2, .null, .null, .null, .null] [zi u135, zi (u1 - 1), .ref (w.2.1 + (a + 50))] (T, M4, J5, R) := by
                        intro u135 h136 h137
                        refine q_callSq C dX12_works_146 (n := 149) rfl m_X12_615 s_yX12_truth (c_X12_truth (w := w) (J := J5) hI6 hF u135 (by omega)) (Nat.le_of_ble_eq_true rfl) rfl rfl (Nat.le_of_ble_eq_true rfl) ⟨Nat.le_refl _, Nat.le_refl _⟩ (fun l139 => ?_)
                        refine q_last C dX12_works_149 (n := 150) rfl (zM172 h0) (by omega) (fun J140 => ?_)
                        refine q_aload_n C dX12_works_150 (n := 151) rfl rfl ?_
                        refine q_getR C dX12_works_151 (n := 154) rfl f_X12_147 (zM0 h0) (hF _ _ _ (zM154 h0)) ?_
                        refine q_iload_n C dX12_works_154 (n := 155) rfl rfl ?_
                        have g141 := zI.at hI ((zM156 h0) u2)
                        refine q_iald C dX12_works_155 (n := 156) rfl (zM155 h0) (by omega) (v := M (a + 44) u2) (hK8.getA rfl rfl rfl) ?_
                        refine q_istore C [.ref (w.2.1 + a), zi u1, zi u2, .null, zi (M (a + 44) u2), .null, .null] dX12_works_156 (n := 158) rfl rfl rfl ?_
                        refine q_goto C 361 dX12_works_158 rfl ?_
                        exact zK.weak (J_34 u1 (M (a + 44) u2) M4 J140 hI6 hK7 hK8 (zMd.rf : zMd a [] [] [] M4 M4) (by omega) (by omega) (by omega) (by omega)) (zwk_c (zwk_c (zwk_n (zwk_n (zwk_c (zwk_n (zwk_n zwk_e)))))))
                      refine q_icmp_ne C 145 dX12_works_138 (n := 141) rfl rfl (by omega) (fun h142 => ?_) (fun h142 => ?_)
                      · refine q_iconst C dX12_works_145 (n := 146) rfl ?_
                        exact zK.weak (J_138 0 (by omega) (by omega)) (zwk_c (zwk_c (zwk_c (zwk_n (zwk_n (zwk_n (zwk_n zwk_e)))))))
                      · refine q_iconst C dX12_works_141 (n := 142) rfl ?_
                        refine q_goto C 146 dX12_works_142 rfl ?_
                        exact zK.weak (J_138 1 (by omega) (by omega)) (zwk_c (zwk_c (zwk_c (zwk_n (zwk_n (zwk_n (zwk_n zwk_e)))))))
                  refine q_icmp_ne C 124 dX12_works_117 (n := 120) rfl rfl (by omega) (fun h143 => ?_) (fun h143 => ?_)
                  · refine q_iconst C dX12_works_124 (n := 125) rfl ?_
                    exact zK.weak (J_133 0 (by omega) (by omega)) (zwk_c (zwk_c (zwk_c (zwk_c (zwk_c (zwk_n (zwk_n zwk_e)))))))
                  · refine q_iconst C dX12_works_120 (n := 121) rfl ?_
                    refine q_goto C 125 dX12_works_121 rfl ?_
                    exact zK.weak (J_133 1 (by omega) (by omega)) (zwk_c (zwk_c (zwk_c (zwk_c (zwk_c (zwk_n (zwk_n zwk_e)))))))
                refine q_if_eq C 113 dX12_works_106 (n := 109) rfl rfl (by omega) (fun h144 => ?_) (fun h144 => ?_)
                · refine q_iconst C dX12_works_113 (n := 114) rfl ?_
                  exact zK.weak (J_129 0 (by omega) (by omega)) (zwk_c (zwk_c (zwk_c (zwk_c (zwk_c (zwk_n (zwk_n zwk_e)))))))
                · refine q_iconst C dX12_works_109 (n := 110) rfl ?_
                  refine q_goto C 114 dX12_works_110 rfl ?_
                  exact zK.weak (J_129 1 (by omega) (by omega)) (zwk_c (zwk_c (zwk_c (zwk_c (zwk_c (zwk_n (zwk_n zwk_e)))))))
          · refine q_aload_n C dX12_works_52 (n := 53) rfl rfl ?_
            refine q_getR C dX12_works_53 (n := 56) rfl f_X12_166 (zM0 h0) (hF _ _ _ (zM171 h0)) ?_
            refine q_iload_n C dX12_works_56 (n := 57) rfl rfl ?_
            refine q_iconst C dX12_works_57 (n := 58) rfl ?_
            refine q_isub C dX12_works_58 (n := 59) rfl (v := u1 - 1) rfl ?_
            refine q_aload_n C dX12_works_59 (n := 60) rfl rfl ?_
            refine q_getR C dX12_works_60 (n := 63) rfl f_X12_166 (zM0 h0) (hF _ _ _ (zM171 h0)) ?_
            refine q_iload_n C dX12_works_63 (n := 64) rfl rfl ?_
            refine q_iconst C dX12_works_64 (n := 65) rfl ?_
            refine q_isub C dX12_works_65 (n := 66) rfl (v := u1 - 1) rfl ?_
            refine q_laldE C dX12_works_66 (n := 67) rfl (zM172 h0) (by omega) ?_
            refine q_lconst C dX12_works_67 (n := 68) rfl ?_
            refine q_lcmp C dX12_works_68 (n := 69) rfl (fun z145 h146 => ?_)
            have J_150 : ∀ (u147 : Int), (-2147483648 ≤ u147 ∧ u147 ≤ 2147483647) → (u147 = 0 ∨ u147 = 1) → zK w p e 3 0 0 s m args below meth c 7 T Po 77 [.ref (w.2.1 + a), zi u1, .null, .null, zi (u2 + 1), .null, .null] [zi u147, zi (u1 - 1), .ref (w.2.1 + (a + 50))] (T, M4, J5, R) := by
              intro u147 h148 h149
              refine q_callSq C dX12_works_77 (n := 80) rfl m_X12_615 s_yX12_truth (c_X12_truth (w := w) (J := J5) hI6 hF u147 (by omega)) (Nat.le_of_ble_eq_true rfl) rfl rfl (Nat.le_of_ble_eq_true rfl) ⟨Nat.le_refl _, Nat.le_refl _⟩ (fun l151 => ?_)
              refine q_last C dX12_works_80 (n := 81) rfl (zM172 h0) (by omega) (fun J152 => ?_)
              refine q_goto C 361 dX12_works_81 rfl ?_
              exact zK.weak (J_34 u1 (u2 + 1) M4 J152 hI6 hK7 hK8 (zMd.rf : zMd a [] [] [] M4 M4) (by omega) (by omega) (by omega) (by omega)) (zwk_c (zwk_c (zwk_n (zwk_n (zwk_c (zwk_n (zwk_n zwk_e)))))))
            refine q_if_eq C 76 dX12_works_69 (n := 72) rfl rfl (by omega) (fun h153 => ?_) (fun h153 => ?_)
            · refine q_iconst C dX12_works_76 (n := 77) rfl ?_
              exact zK.weak (J_150 0 (by omega) (by omega)) (zwk_c (zwk_c (zwk_n (zwk_n (zwk_c (zwk_n (zwk_n zwk_e)))))))
            · refine q_iconst C dX12_works_72 (n := 73) rfl ?_
              refine q_goto C 77 dX12_works_73 rfl ?_
              exact zK.weak (J_150 1 (by omega) (by omega)) (zwk_c (zwk_c (zwk_n (zwk_n (zwk_c (zwk_n (zwk_n zwk_e)))))))
        · refine q_aload_n C dX12_works_28 (n := 29) rfl rfl ?_
          refine q_getR C dX12_works_29 (n := 32) rfl f_X12_166 (zM0 h0) (hF _ _ _ (zM171 h0)) ?_
          refine q_iload_n C dX12_works_32 (n := 33) rfl rfl ?_
          refine q_aload_n C dX12_works_33 (n := 34) rfl rfl ?_
          refine q_getR C dX12_works_34 (n := 37) rfl f_X12_162 (zM0 h0) (hF _ _ _ (zM169 h0)) ?_
          refine q_iload_n C dX12_works_37 (n := 38) rfl rfl ?_
          refine q_laldE C dX12_works_38 (n := 39) rfl (zM170 h0) (by omega) ?_
          refine q_last C dX12_works_39 (n := 40) rfl (zM172 h0) (by omega) (fun J154 => ?_)
          refine q_iinc C [.ref (w.2.1 + a), zi (u1 + 1), zi u2, zi (M (a + 43) u2), zi (u2 + 1), .null, .null] dX12_works_40 (n := 43) rfl rfl rfl rfl ?_
          refine q_goto C 361 dX12_works_43 rfl ?_
          exact zK.weak (J_34 (u1 + 1) (u2 + 1) M4 J154 hI6 hK7 hK8 (zMd.rf : zMd a [] [] [] M4 M4) (by omega) (by omega) (by omega) (by omega)) (zwk_c (zwk_c (zwk_n (zwk_n (zwk_c (zwk_n (zwk_n zwk_e)))))))
  exact zK.weak (L_13 _ 0 0 M J hI hK0 (zMd.rf : zMd a [] [] [] M M) (by omega) (by omega) (by omega) (by omega) (Int.self_le_toNat _)) (zwk_c (zwk_c (zwk_c (zwk_n (zwk_n (zwk_n (zwk_n zwk_e)))))))
