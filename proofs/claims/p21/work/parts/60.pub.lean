def zMt (M : zMm) (a : Nat) : Prop := zMe M (a + 1)
theorem zMt.cg {M M2 : zMm} {a : Nat} (h : zMt M a) (e19 : ∀ j, M2 (a + 19) j = M (a + 19) j) (e21 : ∀ j, M2 (a + 21) j = M (a + 21) j) : zMt M2 a := zMe.cg (a := a + 1) h (fun j _ _ => e19 j) e21
theorem zMa.cp {M : zMm} {a b : Nat} {mb mp : Int → Int} (h : zMa M a mb mp) (e1 : ∀ j, 0 ≤ j → j < 1219 → M (b + 18) j = M (a + 18) j) (e2 : ∀ j, 0 ≤ j → j < 7560 → M (b + 20) j = M (a + 20) j) : zMa M b mb mp := by
  refine ⟨fun m m0 m1 => ?_, h.2.1, h.2.2⟩
  obtain ⟨h1, h2, h3⟩ := h.1 m m0 m1
  rw [e1 _ (by omega) (by omega), e1 _ (by omega) (by omega)]
  refine ⟨h1, h2, fun b b0 b1 => ?_⟩
  have hb := (h.2.1 m).2
  have := h3 b b0 b1
  unfold zMb at this ⊢
  rw [e1 _ (by omega) (by omega), e1 _ (by omega) (by omega), e1 _ (by omega) (by omega), e2 _ (by omega) (by omega)]
  refine ⟨this.1, fun q1 q2 q3 q4 => ?_⟩
  have t := this.2 q1 q2 q3 q4
  rw [e1 (979 + (20 * m + (b + 1))) (by omega) (by omega)]
  exact t
theorem zMt.of {M : zMm} {a : Nat} (h : zMe M a) (e1 : ∀ j, 0 ≤ j → j < 1219 → M (a + 19) j = M (a + 18) j) (e2 : ∀ j, 0 ≤ j → j < 7560 → M (a + 21) j = M (a + 20) j) : zMt M a := by
  obtain ⟨mb, mp, q⟩ := h
  exact ⟨mb, mp, zMa.cp (b := a + 1) q e1 e2⟩
theorem zMt.to {M : zMm} {a : Nat} (h : zMt M a) (e1 : ∀ j, 0 ≤ j → j < 1219 → M (a + 18) j = M (a + 19) j) (e2 : ∀ j, 0 ≤ j → j < 7560 → M (a + 20) j = M (a + 21) j) : zMe M a := by
  obtain ⟨mb, mp, q⟩ := h
  exact ⟨mb, mp, zMa.cp (a := a + 1) (b := a) q e1 e2⟩
theorem c_X12_run {w : zWp} {T : zTl} {M : zMm} {J : zJm} {R : zRm'} {G : zGt} {F : zRm'} {a : Nat} (hI : zI G M) (hF : zF F R) (h0 : zModel T F G a) (v1 : Int) (p1 : zFi M a) (p2 : zMt M a) (p3 : -2147483648 ≤ v1 ∧ v1 ≤ 2147483647) : zCt w 11 0 0 yX12_run cX12_run 4 (some .int) [.ref (w.2.1 + a), zi v1] (T, M, J, R) (zPi T R G (fun x M2 => (zMd a [9, 10, 11, 12, 13, 14, 15, 16, 17, 18, 19, 20, 21, 22, 23, 24, 25, 26, 27, 28, 29, 30, 31, 32, 33, 34, 35, 36, 37, 38, 39, 40, 41, 42, 43, 44, 45, 46, 47, 48, 51, 52, 53, 54, 55, 56, 57, 58, 59, 60, 61, 62, 63, 64, 65, 66, 67, 68, 69, 70, 71, 72, 73, 74, 75, 76, 77] [0, 11, 23, 24, 25, 26, 27, 28, 29, 34, 37, 57, 58, 59, 60, 61, 62, 63, 64, 65, 74, 75, 76, 78, 88, 89, 99, 100, 101, 112] [] M M2) ∧ (zMt M2 a))) := by
  refine zCt.of rfl (Nat.le_of_ble_eq_true rfl) ?_
  intro p e s m args below meth c C
  obtain ⟨Po, hPo⟩ : ∃ Po, Po = zPi T R G (fun x M2 => (zMd a [9, 10, 11, 12, 13, 14, 15, 16, 17, 18, 19, 20, 21, 22, 23, 24, 25, 26, 27, 28, 29, 30, 31, 32, 33, 34, 35, 36, 37, 38, 39, 40, 41, 42, 43, 44, 45, 46, 47, 48, 51, 52, 53, 54, 55, 56, 57, 58, 59, 60, 61, 62, 63, 64, 65, 66, 67, 68, 69, 70, 71, 72, 73, 74, 75, 76, 77] [0, 11, 23, 24, 25, 26, 27, 28, 29, 34, 37, 57, 58, 59, 60, 61, 62, 63, 64, 65, 74, 75, 76, 78, 88, 89, 99, 100, 101, 112] [] M M2) ∧ (zMt M2 a)) := ⟨_, rfl⟩
  rw [← hPo]
  have hK0 : zMd a [9, 10, 11, 12, 13, 14, 15, 16, 17, 18, 19, 20, 21, 22, 23, 24, 25, 26, 27, 28, 29, 30, 31, 32, 33, 34, 35, 36, 37, 38, 39, 40, 41, 42, 43, 44, 45, 46, 47, 48, 51, 52, 53, 54, 55, 56, 57, 58, 59, 60, 61, 62, 63, 64, 65, 66, 67, 68, 69, 70, 71, 72, 73, 74, 75, 76, 77] [0, 11, 23, 24, 25, 26, 27, 28, 29, 34, 37, 57, 58, 59, 60, 61, 62, 63, 64, 65, 74, 75, 76, 78, 88, 89, 99, 100, 101, 112] [] M M := zMd.rf
  show zK w p e 11 0 0 s m args below meth c 4 T Po 0 [.ref (w.2.1 + a), zi v1, .null, .null] [] (T, M, J, R)
  refine q_aload_n C dX12_run_0 (n := 1) rfl rfl ?_
  refine q_iconst C dX12_run_1 (n := 2) rfl ?_
  refine q_putI C dX12_run_2 (n := 5) rfl f_X12_1 (zM0 h0) ⟨rfl, rfl⟩ (fun M1 (e2 : M1 = zup M a 0 0) => ?_)
  have hI3 : zI G M1 := hI.put e2 (zM1 h0) rfl (by omega)
  have hK4 := hK0.upS e2 rfl
  refine q_aload_n C dX12_run_5 (n := 6) rfl rfl ?_
  refine q_iload_n C dX12_run_6 (n := 7) rfl rfl ?_
  refine q_callVp C dX12_run_7 (n := 10) rfl m_X12_281 v_yX12_isFile (zM0 h0) ⟨by decide, rfl⟩ (c_X12_isFile (w := w) (J := J) hI3 hF h0 v1 (by omega)) (Nat.le_of_ble_eq_true rfl) rfl rfl (Nat.le_of_ble_eq_true rfl) ⟨Nat.le_refl _, Nat.le_refl _⟩ (fun x7 h8 => ?_)
  obtain ⟨h5, h6⟩ := h8
  refine q_if_ne C 15 dX12_run_10 (n := 13) rfl rfl (by omega) (fun h9 => ?_) (fun h9 => ?_)
  · refine q_aload_n C dX12_run_15 (n := 16) rfl rfl ?_
    refine q_iload_n C dX12_run_16 (n := 17) rfl rfl ?_
    refine q_aload_n C dX12_run_17 (n := 18) rfl rfl ?_
    refine q_getR C dX12_run_18 (n := 21) rfl f_X12_17 (zM0 h0) (hF _ _ _ (zM7 h0)) ?_
    refine q_sipush C dX12_run_21 (n := 24) rfl (x := 172) (by decide) ?_
    have g10 := zI.at hI (((zM9 h0) 172).trans (zfG_172 (by omega)))
    refine q_iald C dX12_run_24 (n := 25) rfl (zM8 h0) (by omega) (v := M (a + 2) 172) (zup_p e2 (by omega) _) ?_
    have hp11 : zFi M1 a := p1.cg (fun j => (zup_p e2 (by omega) _))
    refine q_callVi C dX12_run_25 (n := 28) rfl m_X12_703 v_yX12_runs (zM0 h0) ⟨by decide, rfl⟩ (c_X12_runs (w := w) (J := J) hI3 hF h0 v1 (M (a + 2) 172) hp11 (by omega) (by omega)) (Nat.le_of_ble_eq_true rfl) rfl rfl (Nat.le_of_ble_eq_true rfl) ⟨Nat.le_refl _, Nat.le_refl _⟩ (fun x19 M15 J16  hI17 h18 => ?_)
    obtain ⟨hk20, h12, h13, h14⟩ := h18
    have hK21 := hK4.tr hk20 rfl rfl rfl
    refine q_istore_n C [.ref (w.2.1 + a), zi v1, zi x19, .null] dX12_run_28 (n := 29) rfl rfl rfl ?_
    refine q_aload_n C dX12_run_29 (n := 30) rfl rfl ?_
    refine q_callVv C dX12_run_30 (n := 33) rfl m_X12_706 v_yX12_tellsFault (zM0 h0) ⟨by decide, rfl⟩ (c_X12_tellsFault (w := w) (J := J16) hI17 hF h0) (Nat.le_of_ble_eq_true rfl) rfl rfl (Nat.le_of_ble_eq_true rfl) ⟨Nat.le_refl _, Nat.le_refl _⟩ (fun M22 J23  hI24 h25 => ?_)
    have hK27 := hK21.tr h25 rfl rfl rfl
    refine q_aload_n C dX12_run_33 (n := 34) rfl rfl ?_
    refine q_aload_n C dX12_run_34 (n := 35) rfl rfl ?_
    have g28 := zI.at hI17 (zM230 h0)
    refine q_getI C dX12_run_35 (n := 38) rfl f_X12_636 (zM0 h0) (v := M15 a 99) (h25.getS rfl rfl) ?_
    refine q_callVv C dX12_run_38 (n := 41) rfl m_X12_709 v_yX12_tellsTokens (zM0 h0) ⟨by decide, rfl⟩ (c_X12_tellsTokens (w := w) (J := J23) hI24 hF h0 (M15 a 99) (by omega)) (Nat.le_of_ble_eq_true rfl) rfl rfl (Nat.le_of_ble_eq_true rfl) ⟨Nat.le_refl _, Nat.le_refl _⟩ (fun M29 J30  hI31 h32 => ?_)
    have hK34 := hK27.tr h32 rfl rfl rfl
    refine q_iconst C dX12_run_41 (n := 42) rfl ?_
    refine q_istore_n C [.ref (w.2.1 + a), zi v1, zi x19, zi 0] dX12_run_42 (n := 43) rfl rfl rfl ?_
    have L_45 : ∀ n46 : Nat, ∀ (u35 : Int) (M37 : zMm) (J38 : zJm), zI G M37 → zMd a [9, 10, 11, 12, 13, 14, 15, 16, 17, 18, 19, 20, 21, 22, 23, 24, 25, 26, 27, 28, 29, 30, 31, 32, 33, 34, 35, 36, 37, 38, 39, 40, 41, 42, 43, 44, 45, 46, 47, 48, 51, 52, 53, 54, 55, 56, 57, 58, 59, 60, 61, 62, 63, 64, 65, 66, 67, 68, 69, 70, 71, 72, 73, 74, 75, 76, 77] [0, 11, 23, 24, 25, 26, 27, 28, 29, 34, 37, 57, 58, 59, 60, 61, 62, 63, 64, 65, 74, 75, 76, 78, 88, 89, 99, 100, 101, 112] [] M M37 → zMd a [19] [] [] M29 M37 → (-2147483648 ≤ u35 ∧ u35 ≤ 2147483647) → (0 ≤ u35 ∧ u35 ≤ 1219) → (∀ j, 0 ≤ j → j < u35 → M37 (a + 19) j = M37 (a + 18) j) → (1219 - u35 + 1 ≤ (n46 : Int)) → zK w p e 11 0 0 s m args below meth c 4 T Po 43 [.ref (w.2.1 + a), .null, zi x19, zi u35] [] (T, M37, J38, R) := by
      intro n46
      induction n46 with
      | zero =>
        intro u35 M37 J38 hI39 hK40 hK41 h42 h43 h44 hm48
        exfalso
        omega
      | succ n46 ih47 =>
        intro u35 M37 J38 hI39 hK40 hK41 h42 h43 h44 hm48
        refine q_iload_n C dX12_run_43 (n := 44) rfl rfl ?_
        refine q_sipush C dX12_run_44 (n := 47) rfl (x := 1219) (by decide) ?_
        refine q_icmp_ge C 68 dX12_run_47 (n := 50) rfl rfl (by omega) (fun h49 => ?_) (fun h49 => ?_)
        · refine q_iconst C dX12_run_68 (n := 69) rfl ?_
          refine q_istore_n C [.ref (w.2.1 + a), .null, zi x19, zi 0] dX12_run_69 (n := 70) rfl rfl rfl ?_
          have L_60 : ∀ n61 : Nat, ∀ (u50 : Int) (M52 : zMm) (J53 : zJm), zI G M52 → zMd a [9, 10, 11, 12, 13, 14, 15, 16, 17, 18, 19, 20, 21, 22, 23, 24, 25, 26, 27, 28, 29, 30, 31, 32, 33, 34, 35, 36, 37, 38, 39, 40, 41, 42, 43, 44, 45, 46, 47, 48, 51, 52, 53, 54, 55, 56, 57, 58, 59, 60, 61, 62, 63, 64, 65, 66, 67, 68, 69, 70, 71, 72, 73, 74, 75, 76, 77] [0, 11, 23, 24, 25, 26, 27, 28, 29, 34, 37, 57, 58, 59, 60, 61, 62, 63, 64, 65, 74, 75, 76, 78, 88, 89, 99, 100, 101, 112] [] M M52 → zMd a [21] [] [] M37 M52 → (-2147483648 ≤ u50 ∧ u50 ≤ 2147483647) → (0 ≤ u50 ∧ u50 ≤ 7560) → (∀ j, 0 ≤ j → j < u50 → M52 (a + 21) j = M52 (a + 20) j) → (7560 - u50 + 1 ≤ (n61 : Int)) → zK w p e 11 0 0 s m args below meth c 4 T Po 70 [.ref (w.2.1 + a), .null, zi x19, zi u50] [] (T, M52, J53, R) := by
            intro n61
            induction n61 with
            | zero =>
              intro u50 M52 J53 hI54 hK55 hK56 h57 h58 h59 hm63
              exfalso
              omega
            | succ n61 ih62 =>
              intro u50 M52 J53 hI54 hK55 hK56 h57 h58 h59 hm63
              refine q_iload_n C dX12_run_70 (n := 71) rfl rfl ?_
              refine q_sipush C dX12_run_71 (n := 74) rfl (x := 7560) (by decide) ?_
              refine q_icmp_ge C 95 dX12_run_74 (n := 77) rfl rfl (by omega) (fun h64 => ?_) (fun h64 => ?_)
              · refine q_iload_n C dX12_run_95 (n := 96) rfl rfl ?_
                refine q_if_eq C 106 dX12_run_96 (n := 99) rfl rfl (by omega) (fun h65 => ?_) (fun h65 => ?_)
                · refine q_bipush C dX12_run_106 (n := 108) rfl (x := (-2)) (by decide) ?_
                  have hp66 : zMe M52 a := h13.cg (fun j j0 j1 => ((hK56.getA rfl rfl rfl).trans ((hK41.getA rfl rfl rfl).trans ((h32.getA rfl rfl rfl).trans (h25.getA rfl rfl rfl))))) (fun j => ((hK56.getA rfl rfl rfl).trans ((hK41.getA rfl rfl rfl).trans ((h32.getA rfl rfl rfl).trans (h25.getA rfl rfl rfl)))))
                  exact q_iret C dX12_run_108 ⟨rfl, rfl⟩ (by rw [hPo]; exact ⟨(-2), M52, J53, rfl, rfl, hI54, hK55, (zMt.of hp66 (fun j j0 j1 => ((hK56.getA rfl rfl rfl)).trans ((h44 j j0 (by omega)).trans ((hK56.getA rfl rfl rfl)).symm)) (fun j j0 j1 => (rfl).trans ((h59 j j0 (by omega)).trans (rfl).symm)))⟩)
                · refine q_aload_n C dX12_run_99 (n := 100) rfl rfl ?_
                  refine q_getI C dX12_run_100 (n := 103) rfl f_X12_636 (zM0 h0) (v := M15 a 99) ((hK56.getS rfl rfl).trans ((hK41.getS rfl rfl).trans ((h32.getS rfl rfl).trans (h25.getS rfl rfl)))) ?_
                  refine q_goto C 108 dX12_run_103 rfl ?_
                  have hp67 : zMe M52 a := h13.cg (fun j j0 j1 => ((hK56.getA rfl rfl rfl).trans ((hK41.getA rfl rfl rfl).trans ((h32.getA rfl rfl rfl).trans (h25.getA rfl rfl rfl))))) (fun j => ((hK56.getA rfl rfl rfl).trans ((hK41.getA rfl rfl rfl).trans ((h32.getA rfl rfl rfl).trans (h25.getA rfl rfl rfl)))))
                  exact q_iret C dX12_run_108 ⟨rfl, rfl⟩ (by rw [hPo]; exact ⟨M15 a 99, M52, J53, rfl, rfl, hI54, hK55, (zMt.of hp67 (fun j j0 j1 => ((hK56.getA rfl rfl rfl)).trans ((h44 j j0 (by omega)).trans ((hK56.getA rfl rfl rfl)).symm)) (fun j j0 j1 => (rfl).trans ((h59 j j0 (by omega)).trans (rfl).symm)))⟩)
              · refine q_aload_n C dX12_run_77 (n := 78) rfl rfl ?_
                refine q_getR C dX12_run_78 (n := 81) rfl f_X12_77 (zM0 h0) (hF _ _ _ (zM74 h0)) ?_
                refine q_iload_n C dX12_run_81 (n := 82) rfl rfl ?_
                refine q_aload_n C dX12_run_82 (n := 83) rfl rfl ?_
                refine q_getR C dX12_run_83 (n := 86) rfl f_X12_74 (zM0 h0) (hF _ _ _ (zM71 h0)) ?_
                refine q_iload_n C dX12_run_86 (n := 87) rfl rfl ?_
                have g68 := zI.at hI17 ((zM73 h0) u50)
                refine q_bald C dX12_run_87 (n := 88) rfl (zM72 h0) (by omega) (v := M15 (a + 20) u50) ((hK56.getA rfl rfl rfl).trans ((hK41.getA rfl rfl rfl).trans ((h32.getA rfl rfl rfl).trans (h25.getA rfl rfl rfl)))) ?_
                refine q_bast C dX12_run_88 (n := 89) rfl (zM75 h0) (by omega) (by omega) (fun M69 e70 => ?_)
                have hI71 : zI G M69 := hI54.put e70 ((zM76 h0) u50) rfl (by omega)
                have hK72 := hK55.upA e70 rfl
                have hK73 := hK56.upA e70 rfl
                refine q_iinc C [.ref (w.2.1 + a), .null, zi x19, zi (u50 + 1)] dX12_run_89 (n := 92) rfl rfl rfl rfl ?_
                refine q_goto C 70 dX12_run_92 rfl ?_
                exact zK.weak (ih62 (u50 + 1) M69 J53 hI71 hK72 hK73 (by omega) (by omega) (fun j j0 j1 => by by_cases q : j = u50; (rw [q]; exact (zup_s e70).trans (((zup_p e70 (by omega) _).trans ((hK56.getA rfl rfl rfl).trans ((hK41.getA rfl rfl rfl).trans ((h32.getA rfl rfl rfl).trans (h25.getA rfl rfl rfl)))))).symm); (exact (zup_n e70 (by omega)).trans ((h59 j j0 (by omega)).trans (zup_p e70 (by omega) j).symm))) (by omega)) (zwk_c (zwk_n (zwk_c (zwk_c zwk_e))))
          exact zK.weak (L_60 _ 0 M37 J38 hI39 hK40 (zMd.rf : zMd a [21] [] [] M37 M37) (by omega) (by omega) (fun j j0 j1 => by omega) (Int.self_le_toNat _)) (zwk_c (zwk_n (zwk_c (zwk_c zwk_e))))
        · refine q_aload_n C dX12_run_50 (n := 51) rfl rfl ?_
          refine q_getR C dX12_run_51 (n := 54) rfl f_X12_71 (zM0 h0) (hF _ _ _ (zM68 h0)) ?_
          refine q_iload_n C dX12_run_54 (n := 55) rfl rfl ?_
          refine q_aload_n C dX12_run_55 (n := 56) rfl rfl ?_
          refine q_getR C dX12_run_56 (n := 59) rfl f_X12_68 (zM0 h0) (hF _ _ _ (zM65 h0)) ?_
          refine q_iload_n C dX12_run_59 (n := 60) rfl rfl ?_
          have g74 := zI.at hI17 (((zM67 h0) u35).trans (zwG_e u35))
          refine q_iald C dX12_run_60 (n := 61) rfl (zM66 h0) (by omega) (v := M15 (a + 18) u35) ((hK41.getA rfl rfl rfl).trans ((h32.getA rfl rfl rfl).trans (h25.getA rfl rfl rfl))) ?_
          refine q_iast C dX12_run_61 (n := 62) rfl (zM69 h0) (by omega)  (fun M75 e76 => ?_)
          have hI77 : zI G M75 := hI39.put e76 (((zM70 h0) u35).trans (zwG_e u35)) rfl (by omega)
          have hK78 := hK40.upA e76 rfl
          have hK79 := hK41.upA e76 rfl
          refine q_iinc C [.ref (w.2.1 + a), .null, zi x19, zi (u35 + 1)] dX12_run_62 (n := 65) rfl rfl rfl rfl ?_
          refine q_goto C 43 dX12_run_65 rfl ?_
          exact zK.weak (ih47 (u35 + 1) M75 J38 hI77 hK78 hK79 (by omega) (by omega) (fun j j0 j1 => by by_cases q : j = u35; (rw [q]; exact (zup_s e76).trans (((zup_p e76 (by omega) _).trans ((hK41.getA rfl rfl rfl).trans ((h32.getA rfl rfl rfl).trans (h25.getA rfl rfl rfl))))).symm); (exact (zup_n e76 (by omega)).trans ((h44 j j0 (by omega)).trans (zup_p e76 (by omega) j).symm))) (by omega)) (zwk_c (zwk_n (zwk_c (zwk_c zwk_e))))
    exact zK.weak (L_45 _ 0 M29 J30 hI31 hK34 (zMd.rf : zMd a [19] [] [] M29 M29) (by omega) (by omega) (fun j j0 j1 => by omega) (Int.self_le_toNat _)) (zwk_c (zwk_n (zwk_c (zwk_c zwk_e))))
  · refine q_iconst C dX12_run_13 (n := 14) rfl ?_
    have hp80 : zMt M1 a := p2.cg (fun j => (zup_p e2 (by omega) _)) (fun j => (zup_p e2 (by omega) _))
    exact q_iret C dX12_run_14 ⟨rfl, rfl⟩ (by rw [hPo]; exact ⟨(-1), M1, J, rfl, rfl, hI3, hK4, hp80⟩)
theorem c_X12_asTold {w : zWp} {T : zTl} {M : zMm} {J : zJm} {R : zRm'} {G : zGt} {F : zRm'} {a : Nat} (hI : zI G M) (hF : zF F R) (h0 : zModel T F G a) (p1 : zMt M a) : zCt w 3 0 0 yX12_asTold cX12_asTold 2 none [.ref (w.2.1 + a)] (T, M, J, R) (zPv T R G (fun M2 => (zMd a [18, 20] [62, 99, 100] [] M M2) ∧ (zMe M2 a) ∧ (M2 a 99 = 0) ∧ (M2 a 100 = 0) ∧ (M2 a 62 = 0))) := by
  refine zCt.of rfl (Nat.le_of_ble_eq_true rfl) ?_
  intro p e s m args below meth c C
  obtain ⟨Po, hPo⟩ : ∃ Po, Po = zPv T R G (fun M2 => (zMd a [18, 20] [62, 99, 100] [] M M2) ∧ (zMe M2 a) ∧ (M2 a 99 = 0) ∧ (M2 a 100 = 0) ∧ (M2 a 62 = 0)) := ⟨_, rfl⟩
  rw [← hPo]
  have hK0 : zMd a [18, 20] [62, 99, 100] [] M M := zMd.rf
  show zK w p e 3 0 0 s m args below meth c 2 T Po 0 [.ref (w.2.1 + a), .null] [] (T, M, J, R)
  refine q_aload_n C dX12_asTold_0 (n := 1) rfl rfl ?_
  refine q_callVv C dX12_asTold_1 (n := 4) rfl m_X12_691 v_yX12_clears (zM0 h0) ⟨by decide, rfl⟩ (c_X12_clears (w := w) (J := J) hI hF h0) (Nat.le_of_ble_eq_true rfl) rfl rfl (Nat.le_of_ble_eq_true rfl) ⟨Nat.le_refl _, Nat.le_refl _⟩ (fun M6 J7  hI8 h9 => ?_)
  obtain ⟨hk10, h1, h2, h3, h4, h5⟩ := h9
  have hK11 := hK0.tr hk10 rfl rfl rfl
  refine q_iconst C dX12_asTold_4 (n := 5) rfl ?_
  refine q_istore_n C [.ref (w.2.1 + a), zi 0] dX12_asTold_5 (n := 6) rfl rfl rfl ?_
  have L_22 : ∀ n23 : Nat, ∀ (u12 : Int) (M14 : zMm) (J15 : zJm), zI G M14 → zMd a [18, 20] [62, 99, 100] [] M M14 → zMd a [18] [] [] M6 M14 → (-2147483648 ≤ u12 ∧ u12 ≤ 2147483647) → (0 ≤ u12 ∧ u12 ≤ 1219) → (∀ j, 0 ≤ j → j < u12 → M14 (a + 18) j = M14 (a + 19) j) → (1219 - u12 + 1 ≤ (n23 : Int)) → zK w p e 3 0 0 s m args below meth c 2 T Po 6 [.ref (w.2.1 + a), zi u12] [] (T, M14, J15, R) := by
    intro n23
    induction n23 with
    | zero =>
      intro u12 M14 J15 hI16 hK17 hK18 h19 h20 h21 hm25
      exfalso
      omega
    | succ n23 ih24 =>
      intro u12 M14 J15 hI16 hK17 hK18 h19 h20 h21 hm25
      refine q_iload_n C dX12_asTold_6 (n := 7) rfl rfl ?_
      refine q_sipush C dX12_asTold_7 (n := 10) rfl (x := 1219) (by decide) ?_
      refine q_icmp_ge C 31 dX12_asTold_10 (n := 13) rfl rfl (by omega) (fun h26 => ?_) (fun h26 => ?_)
      · refine q_iconst C dX12_asTold_31 (n := 32) rfl ?_
        refine q_istore_n C [.ref (w.2.1 + a), zi 0] dX12_asTold_32 (n := 33) rfl rfl rfl ?_
        have L_37 : ∀ n38 : Nat, ∀ (u27 : Int) (M29 : zMm) (J30 : zJm), zI G M29 → zMd a [18, 20] [62, 99, 100] [] M M29 → zMd a [20] [] [] M14 M29 → (-2147483648 ≤ u27 ∧ u27 ≤ 2147483647) → (0 ≤ u27 ∧ u27 ≤ 7560) → (∀ j, 0 ≤ j → j < u27 → M29 (a + 20) j = M29 (a + 21) j) → (7560 - u27 + 1 ≤ (n38 : Int)) → zK w p e 3 0 0 s m args below meth c 2 T Po 33 [.ref (w.2.1 + a), zi u27] [] (T, M29, J30, R) := by
          intro n38
          induction n38 with
          | zero =>
            intro u27 M29 J30 hI31 hK32 hK33 h34 h35 h36 hm40
            exfalso
            omega
          | succ n38 ih39 =>
            intro u27 M29 J30 hI31 hK32 hK33 h34 h35 h36 hm40
            refine q_iload_n C dX12_asTold_33 (n := 34) rfl rfl ?_
            refine q_sipush C dX12_asTold_34 (n := 37) rfl (x := 7560) (by decide) ?_
            refine q_icmp_ge C 58 dX12_asTold_37 (n := 40) rfl rfl (by omega) (fun h41 => ?_) (fun h41 => ?_)
            · refine q_aload_n C dX12_asTold_58 (n := 59) rfl rfl ?_
              refine q_iconst C dX12_asTold_59 (n := 60) rfl ?_
              refine q_iconst C dX12_asTold_60 (n := 61) rfl ?_
              refine q_iconst C dX12_asTold_61 (n := 62) rfl ?_
              refine q_iconst C dX12_asTold_62 (n := 63) rfl ?_
              refine q_callVi C dX12_asTold_63 (n := 66) rfl m_X12_373 v_yX12_bad (zM0 h0) ⟨by decide, rfl⟩ (c_X12_bad (w := w) (J := J30) hI31 hF h0 0 (-1) (-1) (-1) (by omega) (by omega) (by omega) (by omega)) (Nat.le_of_ble_eq_true rfl) rfl rfl (Nat.le_of_ble_eq_true rfl) ⟨Nat.le_refl _, Nat.le_refl _⟩ (fun x48 M44 J45  hI46 h47 => ?_)
              obtain ⟨hk49, h42, h43⟩ := h47
              have hK50 := hK32.tr hk49 rfl rfl rfl
              refine q_pop C dX12_asTold_66 (n := 67) rfl rfl ?_
              have hp51 : zMt M29 a := p1.cg (fun j => ((hK33.getA rfl rfl rfl).trans ((hK18.getA rfl rfl rfl).trans (hk10.getA rfl rfl rfl)))) (fun j => ((hK33.getA rfl rfl rfl).trans ((hK18.getA rfl rfl rfl).trans (hk10.getA rfl rfl rfl))))
              have hp52 : zMe M29 a := zMt.to hp51 (fun j j0 j1 => ((hK33.getA rfl rfl rfl)).trans ((h21 j j0 (by omega)).trans ((hK33.getA rfl rfl rfl)).symm)) (fun j j0 j1 => (rfl).trans ((h36 j j0 (by omega)).trans (rfl).symm))
              have hp53 : zMe M44 a := hp52.cg (fun j j0 j1 => (hk49.getW rfl rfl (by omega))) (fun j => (hk49.getA rfl rfl rfl))
              exact q_vret C dX12_asTold_67 ⟨rfl, rfl⟩ (by rw [hPo]; exact ⟨M44, J45, rfl, rfl, hI46, hK50, hp53, by have hz54 : M44 a 99 = M6 a 99 := ((hk49.getS rfl rfl).trans ((hK33.getS rfl rfl).trans (hK18.getS rfl rfl))); omega, by have hz55 : M44 a 100 = M6 a 100 := ((hk49.getS rfl rfl).trans ((hK33.getS rfl rfl).trans (hK18.getS rfl rfl))); omega, by have hz56 : M44 a 62 = M6 a 62 := ((hk49.getS rfl rfl).trans ((hK33.getS rfl rfl).trans (hK18.getS rfl rfl))); omega⟩)
            · refine q_aload_n C dX12_asTold_40 (n := 41) rfl rfl ?_
              refine q_getR C dX12_asTold_41 (n := 44) rfl f_X12_74 (zM0 h0) (hF _ _ _ (zM71 h0)) ?_
              refine q_iload_n C dX12_asTold_44 (n := 45) rfl rfl ?_
              refine q_aload_n C dX12_asTold_45 (n := 46) rfl rfl ?_
              refine q_getR C dX12_asTold_46 (n := 49) rfl f_X12_77 (zM0 h0) (hF _ _ _ (zM74 h0)) ?_
              refine q_iload_n C dX12_asTold_49 (n := 50) rfl rfl ?_
              have g57 := zI.at hI ((zM76 h0) u27)
              refine q_bald C dX12_asTold_50 (n := 51) rfl (zM75 h0) (by omega) (v := M (a + 21) u27) ((hK33.getA rfl rfl rfl).trans ((hK18.getA rfl rfl rfl).trans (hk10.getA rfl rfl rfl))) ?_
              refine q_bast C dX12_asTold_51 (n := 52) rfl (zM72 h0) (by omega) (by omega) (fun M58 e59 => ?_)
              have hI60 : zI G M58 := hI31.put e59 ((zM73 h0) u27) rfl (by omega)
              have hK61 := hK32.upA e59 rfl
              have hK62 := hK33.upA e59 rfl
              refine q_iinc C [.ref (w.2.1 + a), zi (u27 + 1)] dX12_asTold_52 (n := 55) rfl rfl rfl rfl ?_
              refine q_goto C 33 dX12_asTold_55 rfl ?_
              exact zK.weak (ih39 (u27 + 1) M58 J30 hI60 hK61 hK62 (by omega) (by omega) (fun j j0 j1 => by by_cases q : j = u27; (rw [q]; exact (zup_s e59).trans (((zup_p e59 (by omega) _).trans ((hK33.getA rfl rfl rfl).trans ((hK18.getA rfl rfl rfl).trans (hk10.getA rfl rfl rfl))))).symm); (exact (zup_n e59 (by omega)).trans ((h36 j j0 (by omega)).trans (zup_p e59 (by omega) j).symm))) (by omega)) (zwk_c (zwk_c zwk_e))
        exact zK.weak (L_37 _ 0 M14 J15 hI16 hK17 (zMd.rf : zMd a [20] [] [] M14 M14) (by omega) (by omega) (fun j j0 j1 => by omega) (Int.self_le_toNat _)) (zwk_c (zwk_c zwk_e))
      · refine q_aload_n C dX12_asTold_13 (n := 14) rfl rfl ?_
        refine q_getR C dX12_asTold_14 (n := 17) rfl f_X12_68 (zM0 h0) (hF _ _ _ (zM65 h0)) ?_
        refine q_iload_n C dX12_asTold_17 (n := 18) rfl rfl ?_
        refine q_aload_n C dX12_asTold_18 (n := 19) rfl rfl ?_
        refine q_getR C dX12_asTold_19 (n := 22) rfl f_X12_71 (zM0 h0) (hF _ _ _ (zM68 h0)) ?_
        refine q_iload_n C dX12_asTold_22 (n := 23) rfl rfl ?_
        have g63 := zI.at hI (((zM70 h0) u12).trans (zwG_e u12))
        refine q_iald C dX12_asTold_23 (n := 24) rfl (zM69 h0) (by omega) (v := M (a + 19) u12) ((hK18.getA rfl rfl rfl).trans (hk10.getA rfl rfl rfl)) ?_
        refine q_iast C dX12_asTold_24 (n := 25) rfl (zM66 h0) (by omega)  (fun M64 e65 => ?_)
        have hI66 : zI G M64 := hI16.put e65 (((zM67 h0) u12).trans (zwG_e u12)) rfl (by omega)
        have hK67 := hK17.upA e65 rfl
        have hK68 := hK18.upA e65 rfl
        refine q_iinc C [.ref (w.2.1 + a), zi (u12 + 1)] dX12_asTold_25 (n := 28) rfl rfl rfl rfl ?_
        refine q_goto C 6 dX12_asTold_28 rfl ?_
        exact zK.weak (ih24 (u12 + 1) M64 J15 hI66 hK67 hK68 (by omega) (by omega) (fun j j0 j1 => by by_cases q : j = u12; (rw [q]; exact (zup_s e65).trans (((zup_p e65 (by omega) _).trans ((hK18.getA rfl rfl rfl).trans (hk10.getA rfl rfl rfl)))).symm); (exact (zup_n e65 (by omega)).trans ((h21 j j0 (by omega)).trans (zup_p e65 (by omega) j).symm))) (by omega)) (zwk_c (zwk_c zwk_e))
  exact zK.weak (L_22 _ 0 M6 J7 hI8 hK11 (zMd.rf : zMd a [18] [] [] M6 M6) (by omega) (by omega) (fun j j0 j1 => by omega) (Int.self_le_toNat _)) (zwk_c (zwk_c zwk_e))
theorem c_X12_value {w : zWp} {T : zTl} {M : zMm} {J : zJm} {R : zRm'} {G : zGt} {F : zRm'} {a : Nat} (hI : zI G M) (hF : zF F R) (h0 : zModel T F G a) (p1 : zMt M a) : zCt w 8 0 0 yX12_value cX12_value 2 (some .long) [.ref (w.2.1 + a)] (T, M, J, R) (zPl T R G (fun M2 => (zMd a [9, 10, 11, 12, 13, 14, 15, 16, 17, 18, 20, 24, 25, 26, 27, 28, 29, 30, 31, 32, 33, 34, 35, 36, 37, 38, 39, 40, 41, 42, 43, 44, 45, 46, 47, 48, 68] [0, 2, 3, 23, 24, 25, 26, 27, 28, 29, 34, 57, 58, 59, 60, 61, 62, 63, 64, 65, 74, 75, 76, 78, 99, 100] [] M M2) ∧ (M2 a 2 = 0))) := by
  refine zCt.of rfl (Nat.le_of_ble_eq_true rfl) ?_
  intro p e s m args below meth c C
  obtain ⟨Po, hPo⟩ : ∃ Po, Po = zPl T R G (fun M2 => (zMd a [9, 10, 11, 12, 13, 14, 15, 16, 17, 18, 20, 24, 25, 26, 27, 28, 29, 30, 31, 32, 33, 34, 35, 36, 37, 38, 39, 40, 41, 42, 43, 44, 45, 46, 47, 48, 68] [0, 2, 3, 23, 24, 25, 26, 27, 28, 29, 34, 57, 58, 59, 60, 61, 62, 63, 64, 65, 74, 75, 76, 78, 99, 100] [] M M2) ∧ (M2 a 2 = 0)) := ⟨_, rfl⟩
  rw [← hPo]
  have hK0 : zMd a [9, 10, 11, 12, 13, 14, 15, 16, 17, 18, 20, 24, 25, 26, 27, 28, 29, 30, 31, 32, 33, 34, 35, 36, 37, 38, 39, 40, 41, 42, 43, 44, 45, 46, 47, 48, 68] [0, 2, 3, 23, 24, 25, 26, 27, 28, 29, 34, 57, 58, 59, 60, 61, 62, 63, 64, 65, 74, 75, 76, 78, 99, 100] [] M M := zMd.rf
  show zK w p e 8 0 0 s m args below meth c 2 T Po 0 [.ref (w.2.1 + a), .null] [] (T, M, J, R)
  refine q_aload_n C dX12_value_0 (n := 1) rfl rfl ?_
  refine q_callVv C dX12_value_1 (n := 4) rfl m_X12_293 v_yX12_taken (zM0 h0) ⟨by decide, rfl⟩ (c_X12_taken (w := w) (J := J) hI hF h0) (Nat.le_of_ble_eq_true rfl) rfl rfl (Nat.le_of_ble_eq_true rfl) ⟨Nat.le_refl _, Nat.le_refl _⟩ (fun M3 J4  hI5 h6 => ?_)
  obtain ⟨hk7, h1, h2⟩ := h6
  have hK8 := hK0.tr hk7 rfl rfl rfl
  refine q_aload_n C dX12_value_4 (n := 5) rfl rfl ?_
  have hp9 : zMt M3 a := p1.cg (fun j => (hk7.getA rfl rfl rfl)) (fun j => (hk7.getA rfl rfl rfl))
  refine q_callVv C dX12_value_5 (n := 8) rfl m_X12_712 v_yX12_asTold (zM0 h0) ⟨by decide, rfl⟩ (c_X12_asTold (w := w) (J := J4) hI5 hF h0 hp9) (Nat.le_of_ble_eq_true rfl) rfl rfl (Nat.le_of_ble_eq_true rfl) ⟨Nat.le_refl _, Nat.le_refl _⟩ (fun M14 J15  hI16 h17 => ?_)
  obtain ⟨hk18, h10, h11, h12, h13⟩ := h17
  have hK19 := hK8.tr hk18 rfl rfl rfl
  refine q_aload_n C dX12_value_8 (n := 9) rfl rfl ?_
  refine q_callVi C dX12_value_9 (n := 12) rfl m_X12_715 v_yX12_lexesTape (zM0 h0) ⟨by decide, rfl⟩ (c_X12_lexesTape (w := w) (J := J15) hI16 hF h0) (Nat.le_of_ble_eq_true rfl) rfl rfl (Nat.le_of_ble_eq_true rfl) ⟨Nat.le_refl _, Nat.le_refl _⟩ (fun x27 M23 J24  hI25 h26 => ?_)
  obtain ⟨hk28, h20, h21, h22⟩ := h26
  have hK29 := hK19.tr hk28 rfl rfl rfl
  have J_39 : ∀ (u30 : Int) (M32 : zMm) (J33 : zJm), zI G M32 → zMd a [9, 10, 11, 12, 13, 14, 15, 16, 17, 18, 20, 24, 25, 26, 27, 28, 29, 30, 31, 32, 33, 34, 35, 36, 37, 38, 39, 40, 41, 42, 43, 44, 45, 46, 47, 48, 68] [0, 2, 3, 23, 24, 25, 26, 27, 28, 29, 34, 57, 58, 59, 60, 61, 62, 63, 64, 65, 74, 75, 76, 78, 99, 100] [] M M32 → zMd a [9, 10, 11, 12, 13, 14, 15, 16, 17, 18, 24, 25, 26, 27, 28, 29, 30, 31, 32, 33, 34, 35, 36, 37, 38, 39, 40, 41, 42, 43, 44, 45, 46, 47, 48] [24, 25, 26, 34, 57, 58, 59, 60, 61, 62, 63, 64, 65, 74, 75, 76, 78] [] M23 M32 → (-2147483648 ≤ u30 ∧ u30 ≤ 2147483647) → (u30 = 0 ∨ u30 = 1) → zK w p e 8 0 0 s m args below meth c 2 T Po 28 [.ref (w.2.1 + a), .null] [zi u30] (T, M32, J33, R) := by
    intro u30 M32 J33 hI34 hK35 hK36 h37 h38
    refine q_istore_n C [.ref (w.2.1 + a), zi u30] dX12_value_28 (n := 29) rfl rfl rfl ?_
    refine q_aload_n C dX12_value_29 (n := 30) rfl rfl ?_
    refine q_callVv C dX12_value_30 (n := 33) rfl m_X12_706 v_yX12_tellsFault (zM0 h0) ⟨by decide, rfl⟩ (c_X12_tellsFault (w := w) (J := J33) hI34 hF h0) (Nat.le_of_ble_eq_true rfl) rfl rfl (Nat.le_of_ble_eq_true rfl) ⟨Nat.le_refl _, Nat.le_refl _⟩ (fun M40 J41  hI42 h43 => ?_)
    have hK45 := hK35.tr h43 rfl rfl rfl
    refine q_aload_n C dX12_value_33 (n := 34) rfl rfl ?_
    refine q_iload_n C dX12_value_34 (n := 35) rfl rfl ?_
    have J_49 : ∀ (u46 : Int), (-2147483648 ≤ u46 ∧ u46 ≤ 2147483647) → (u46 = 0 ∨ u46 = 1) → zK w p e 8 0 0 s m args below meth c 2 T Po 43 [.ref (w.2.1 + a), .null] [zi u46, .ref (w.2.1 + a)] (T, M40, J41, R) := by
      intro u46 h47 h48
      refine q_callVi C dX12_value_43 (n := 46) rfl m_X12_718 v_yX12_throwsIf (zM0 h0) ⟨by decide, rfl⟩ (c_X12_throwsIf (w := w) (J := J41) hI42 hF h0 u46 (by omega)) (Nat.le_of_ble_eq_true rfl) rfl rfl (Nat.le_of_ble_eq_true rfl) ⟨Nat.le_refl _, Nat.le_refl _⟩ (fun x56 M52 J53  hI54 h55 => ?_)
      obtain ⟨hk57, h50, h51⟩ := h55
      have hK58 := hK45.tr hk57 rfl rfl rfl
      refine q_if_eq C 51 dX12_value_46 (n := 49) rfl rfl (by omega) (fun h59 => ?_) (fun h59 => ?_)
      · refine q_aload_n C dX12_value_51 (n := 52) rfl rfl ?_
        refine q_getL C dX12_value_52 (n := 55) rfl f_X12_627 (zM0 h0) (fun l60 => ?_)
        exact q_lret C dX12_value_55 ⟨rfl, rfl⟩ (by rw [hPo]; exact ⟨l60, M52, J53, rfl, rfl, hI54, hK58, by have hz61 : M52 a 2 = M3 a 2 := ((hk57.getS rfl rfl).trans ((h43.getS rfl rfl).trans ((hK36.getS rfl rfl).trans ((hk28.getS rfl rfl).trans (hk18.getS rfl rfl))))); omega⟩)
      · refine q_lconst C dX12_value_49 (n := 50) rfl ?_
        exact q_lret C dX12_value_50 ⟨rfl, rfl⟩ (by rw [hPo]; exact ⟨Int64.ofNat ((0 : Fin 2) : Nat), M52, J53, rfl, rfl, hI54, hK58, by have hz62 : M52 a 2 = M3 a 2 := ((hk57.getS rfl rfl).trans ((h43.getS rfl rfl).trans ((hK36.getS rfl rfl).trans ((hk28.getS rfl rfl).trans (hk18.getS rfl rfl))))); omega⟩)
    refine q_if_ne C 42 dX12_value_35 (n := 38) rfl rfl (by omega) (fun h63 => ?_) (fun h63 => ?_)
    · refine q_iconst C dX12_value_42 (n := 43) rfl ?_
      exact zK.weak (J_49 0 (by omega) (by omega)) (zwk_c (zwk_n zwk_e))
    · refine q_iconst C dX12_value_38 (n := 39) rfl ?_
      refine q_goto C 43 dX12_value_39 rfl ?_
      exact zK.weak (J_49 1 (by omega) (by omega)) (zwk_c (zwk_n zwk_e))
  have J_71 : ∀ (M65 : zMm) (J66 : zJm), zI G M65 → zMd a [9, 10, 11, 12, 13, 14, 15, 16, 17, 18, 20, 24, 25, 26, 27, 28, 29, 30, 31, 32, 33, 34, 35, 36, 37, 38, 39, 40, 41, 42, 43, 44, 45, 46, 47, 48, 68] [0, 2, 3, 23, 24, 25, 26, 27, 28, 29, 34, 57, 58, 59, 60, 61, 62, 63, 64, 65, 74, 75, 76, 78, 99, 100] [] M M65 → zMd a [9, 10, 11, 12, 13, 14, 15, 16, 17, 18, 24, 25, 26, 27, 28, 29, 30, 31, 32, 33, 34, 35, 36, 37, 38, 39, 40, 41, 42, 43, 44, 45, 46, 47, 48] [24, 25, 26, 34, 57, 58, 59, 60, 61, 62, 63, 64, 65, 74, 75, 76, 78] [] M23 M65 → zMd a [9, 10, 11, 12, 13, 14, 15, 16, 17, 18, 24, 25, 26, 27, 28, 29, 30, 31, 32, 33, 34, 35, 36, 37, 38, 39, 40, 41, 42, 43, 44, 45, 46, 47, 48] [24, 25, 26, 34, 57, 58, 59, 60, 61, 62, 63, 64, 65, 74, 75, 76, 78] [] M23 M65 → zK w p e 8 0 0 s m args below meth c 2 T Po 27 [.ref (w.2.1 + a), .null] [] (T, M65, J66, R) := by
    intro M65 J66 hI67 hK68 hK69 hK70
    refine q_iconst C dX12_value_27 (n := 28) rfl ?_
    exact zK.weak (J_39 0 M65 J66 hI67 hK68 hK69 (by omega) (by omega)) (zwk_c (zwk_n zwk_e))
  refine q_if_eq C 27 dX12_value_12 (n := 15) rfl rfl (by omega) (fun h72 => ?_) (fun h72 => ?_)
  · exact zK.weak (J_71 M23 J24 hI25 hK29 (zMd.rf : zMd a [9, 10, 11, 12, 13, 14, 15, 16, 17, 18, 24, 25, 26, 27, 28, 29, 30, 31, 32, 33, 34, 35, 36, 37, 38, 39, 40, 41, 42, 43, 44, 45, 46, 47, 48] [24, 25, 26, 34, 57, 58, 59, 60, 61, 62, 63, 64, 65, 74, 75, 76, 78] [] M23 M23) (zMd.rf : zMd a [9, 10, 11, 12, 13, 14, 15, 16, 17, 18, 24, 25, 26, 27, 28, 29, 30, 31, 32, 33, 34, 35, 36, 37, 38, 39, 40, 41, 42, 43, 44, 45, 46, 47, 48] [24, 25, 26, 34, 57, 58, 59, 60, 61, 62, 63, 64, 65, 74, 75, 76, 78] [] M23 M23)) (zwk_c (zwk_n zwk_e))
  · have hly := h22.resolve_left (by omega)
    refine q_aload_n C dX12_value_15 (n := 16) rfl rfl ?_
    refine q_iconst C dX12_value_16 (n := 17) rfl ?_
    have hp73 : zMe M23 a := h10.cg (fun j j0 j1 => (hk28.getW rfl rfl (by omega))) (fun j => (hk28.getA rfl rfl rfl))
    obtain ⟨mbq74, mpq74, hmaq74⟩ := hp73
    have hp75 : zOg M23 a (M23 (a + 10)) (M23 (a + 11)) := fun t _ => ⟨rfl, rfl⟩
    refine q_callVi C dX12_value_17 (n := 20) rfl m_X12_651 v_yX12_conditions (zM0 h0) ⟨by decide, rfl⟩ (c_X12_conditions (w := w) (J := J24) hI25 hF h0 0 hp75 hmaq74 hly (by omega) (by omega)) (Nat.le_of_ble_eq_true rfl) rfl rfl (Nat.le_of_ble_eq_true rfl) ⟨Nat.le_refl _, Nat.le_refl _⟩ (fun x84 M80 J81  hI82 h83 => ?_)
    obtain ⟨hk85, h76, h77, h78, h79⟩ := h83
    have hK86 := hK29.tr hk85 rfl rfl rfl
    have hK87 := (zMd.rf : zMd a [9, 10, 11, 12, 13, 14, 15, 16, 17, 18, 24, 25, 26, 27, 28, 29, 30, 31, 32, 33, 34, 35, 36, 37, 38, 39, 40, 41, 42, 43, 44, 45, 46, 47, 48] [24, 25, 26, 34, 57, 58, 59, 60, 61, 62, 63, 64, 65, 74, 75, 76, 78] [] M23 M23).tr hk85 rfl rfl rfl
    have hK88 := (zMd.rf : zMd a [9, 10, 11, 12, 13, 14, 15, 16, 17, 18, 24, 25, 26, 27, 28, 29, 30, 31, 32, 33, 34, 35, 36, 37, 38, 39, 40, 41, 42, 43, 44, 45, 46, 47, 48] [24, 25, 26, 34, 57, 58, 59, 60, 61, 62, 63, 64, 65, 74, 75, 76, 78] [] M23 M23).tr hk85 rfl rfl rfl
    have hz89 : M23 (a + 18) 3 = M14 (a + 18) 3 := (hk28.getP rfl rfl rfl)
    refine q_if_eq C 27 dX12_value_20 (n := 23) rfl rfl (by omega) (fun h90 => ?_) (fun h90 => ?_)
    · exact zK.weak (J_71 M80 J81 hI82 hK86 hK87 hK88) (zwk_c (zwk_n zwk_e))
    · refine q_iconst C dX12_value_23 (n := 24) rfl ?_
      refine q_goto C 28 dX12_value_24 rfl ?_
      exact zK.weak (J_39 1 M80 J81 hI82 hK86 hK87 (by omega) (by omega)) (zwk_c (zwk_n zwk_e))
theorem c_X12_studies {w : zWp} {T : zTl} {M : zMm} {J : zJm} {R : zRm'} {G : zGt} {F : zRm'} {a : Nat} (hI : zI G M) (hF : zF F R) (h0 : zModel T F G a) (v1 : Int) (p1 : zFi M a) (p2 : 0 ≤ v1 ∧ v1 ≤ 3) : zCt w 11 0 0 yX12_studies cX12_studies 6 none [.ref (w.2.1 + a), zi v1] (T, M, J, R) (zPv T R G (fun M2 => (zMd a [9, 10, 11, 12, 13, 14, 15, 16, 17, 18, 20, 22, 23, 24, 25, 26, 27, 28, 29, 30, 31, 32, 33, 34, 35, 36, 37, 38, 39, 40, 41, 42, 43, 44, 45, 46, 47, 48, 51, 52, 53, 54, 55, 56, 57, 58, 59, 60, 61, 62, 63, 64, 65, 66, 67, 78, 79, 80, 81, 82] [9, 11, 23, 24, 25, 26, 27, 28, 29, 34, 37, 57, 58, 59, 60, 61, 62, 63, 64, 65, 74, 75, 76, 78, 88, 89, 99, 100, 101, 118] [] M M2))) := by
  refine zCt.of rfl (Nat.le_of_ble_eq_true rfl) ?_
  intro p e s m args below meth c C
  obtain ⟨Po, hPo⟩ : ∃ Po, Po = zPv T R G (fun M2 => (zMd a [9, 10, 11, 12, 13, 14, 15, 16, 17, 18, 20, 22, 23, 24, 25, 26, 27, 28, 29, 30, 31, 32, 33, 34, 35, 36, 37, 38, 39, 40, 41, 42, 43, 44, 45, 46, 47, 48, 51, 52, 53, 54, 55, 56, 57, 58, 59, 60, 61, 62, 63, 64, 65, 66, 67, 78, 79, 80, 81, 82] [9, 11, 23, 24, 25, 26, 27, 28, 29, 34, 37, 57, 58, 59, 60, 61, 62, 63, 64, 65, 74, 75, 76, 78, 88, 89, 99, 100, 101, 118] [] M M2)) := ⟨_, rfl⟩
  rw [← hPo]
  have hK0 : zMd a [9, 10, 11, 12, 13, 14, 15, 16, 17, 18, 20, 22, 23, 24, 25, 26, 27, 28, 29, 30, 31, 32, 33, 34, 35, 36, 37, 38, 39, 40, 41, 42, 43, 44, 45, 46, 47, 48, 51, 52, 53, 54, 55, 56, 57, 58, 59, 60, 61, 62, 63, 64, 65, 66, 67, 78, 79, 80, 81, 82] [9, 11, 23, 24, 25, 26, 27, 28, 29, 34, 37, 57, 58, 59, 60, 61, 62, 63, 64, 65, 74, 75, 76, 78, 88, 89, 99, 100, 101, 118] [] M M := zMd.rf
  show zK w p e 11 0 0 s m args below meth c 6 T Po 0 [.ref (w.2.1 + a), zi v1, .null, .null, .null, .null] [] (T, M, J, R)
  refine q_aload_n C dX12_studies_0 (n := 1) rfl rfl ?_
  have g1 := zI.at hI (zM22 h0)
  refine q_getI C dX12_studies_1 (n := 4) rfl f_X12_300 (zM0 h0) (v := M a 9) rfl ?_
  have J_2 : zK w p e 11 0 0 s m args below meth c 6 T Po 16 [.ref (w.2.1 + a), zi v1, .null, .null, .null, .null] [] (T, M, J, R) := by
    refine q_aload_n C dX12_studies_16 (n := 17) rfl rfl ?_
    refine q_iconst C dX12_studies_17 (n := 18) rfl ?_
    refine q_putZ C dX12_studies_18 (n := 21) rfl f_X12_300 (zM0 h0) ⟨rfl, rfl⟩ (by omega) (fun M3 (e4 : M3 = zup M a 9 1) => ?_)
    have hI5 : zI G M3 := hI.put e4 (zM22 h0) rfl (by omega)
    have hK6 := hK0.upS e4 rfl
    refine q_aload_n C dX12_studies_21 (n := 22) rfl rfl ?_
    refine q_iload_n C dX12_studies_22 (n := 23) rfl rfl ?_
    refine q_putI C dX12_studies_23 (n := 26) rfl f_X12_722 (zM0 h0) ⟨rfl, rfl⟩ (fun M7 (e8 : M7 = zup M3 a 118 v1) => ?_)
    have hI9 : zI G M7 := hI5.put e8 (zM279 h0) rfl (by omega)
    have hK10 := hK6.upS e8 rfl
    refine q_iconst C dX12_studies_26 (n := 27) rfl ?_
    refine q_istore_n C [.ref (w.2.1 + a), zi v1, zi 0, .null, .null, .null] dX12_studies_27 (n := 28) rfl rfl rfl ?_
    have L_20 : ∀ n21 : Nat, ∀ (u11 : Int) (M13 : zMm) (J14 : zJm), zI G M13 → zMd a [9, 10, 11, 12, 13, 14, 15, 16, 17, 18, 20, 22, 23, 24, 25, 26, 27, 28, 29, 30, 31, 32, 33, 34, 35, 36, 37, 38, 39, 40, 41, 42, 43, 44, 45, 46, 47, 48, 51, 52, 53, 54, 55, 56, 57, 58, 59, 60, 61, 62, 63, 64, 65, 66, 67, 78, 79, 80, 81, 82] [9, 11, 23, 24, 25, 26, 27, 28, 29, 34, 37, 57, 58, 59, 60, 61, 62, 63, 64, 65, 74, 75, 76, 78, 88, 89, 99, 100, 101, 118] [] M M13 → zMd a [78] [] [] M7 M13 → (-2147483648 ≤ u11 ∧ u11 ≤ 2147483647) → (0 ≤ u11 ∧ u11 ≤ 160) → (160 - u11 + 1 ≤ (n21 : Int)) → zK w p e 11 0 0 s m args below meth c 6 T Po 28 [.ref (w.2.1 + a), zi v1, zi u11, .null, .null, .null] [] (T, M13, J14, R) := by
      intro n21
      induction n21 with
      | zero =>
        intro u11 M13 J14 hI15 hK16 hK17 h18 h19 hm23
        exfalso
        omega
      | succ n21 ih22 =>
        intro u11 M13 J14 hI15 hK16 hK17 h18 h19 hm23
        refine q_iload_n C dX12_studies_28 (n := 29) rfl rfl ?_
        refine q_sipush C dX12_studies_29 (n := 32) rfl (x := 160) (by decide) ?_
        refine q_icmp_ge C 48 dX12_studies_32 (n := 35) rfl rfl (by omega) (fun h24 => ?_) (fun h24 => ?_)
        · refine q_iconst C dX12_studies_48 (n := 49) rfl ?_
          refine q_istore_n C [.ref (w.2.1 + a), zi v1, zi 0, .null, .null, .null] dX12_studies_49 (n := 50) rfl rfl rfl ?_
          have L_34 : ∀ n35 : Nat, ∀ (u25 : Int) (M27 : zMm) (J28 : zJm), zI G M27 → zMd a [9, 10, 11, 12, 13, 14, 15, 16, 17, 18, 20, 22, 23, 24, 25, 26, 27, 28, 29, 30, 31, 32, 33, 34, 35, 36, 37, 38, 39, 40, 41, 42, 43, 44, 45, 46, 47, 48, 51, 52, 53, 54, 55, 56, 57, 58, 59, 60, 61, 62, 63, 64, 65, 66, 67, 78, 79, 80, 81, 82] [9, 11, 23, 24, 25, 26, 27, 28, 29, 34, 37, 57, 58, 59, 60, 61, 62, 63, 64, 65, 74, 75, 76, 78, 88, 89, 99, 100, 101, 118] [] M M27 → zMd a [9, 10, 11, 12, 13, 14, 15, 16, 17, 18, 20, 22, 23, 24, 25, 26, 27, 28, 29, 30, 31, 32, 33, 34, 35, 36, 37, 38, 39, 40, 41, 42, 43, 44, 45, 46, 47, 48, 51, 52, 53, 54, 55, 56, 57, 58, 59, 60, 61, 62, 63, 64, 65, 66, 67, 78, 79, 80, 81, 82] [11, 23, 24, 25, 26, 27, 28, 29, 34, 37, 57, 58, 59, 60, 61, 62, 63, 64, 65, 74, 75, 76, 78, 88, 89, 99, 100, 101] [] M13 M27 → (-2147483648 ≤ u25 ∧ u25 ≤ 2147483647) → (0 ≤ u25 ∧ u25 ≤ 8) → (8 - u25 + 1 ≤ (n35 : Int)) → zK w p e 11 0 0 s m args below meth c 6 T Po 50 [.ref (w.2.1 + a), zi v1, zi u25, .null, .null, .null] [] (T, M27, J28, R) := by
            intro n35
            induction n35 with
            | zero =>
              intro u25 M27 J28 hI29 hK30 hK31 h32 h33 hm37
              exfalso
              omega
            | succ n35 ih36 =>
              intro u25 M27 J28 hI29 hK30 hK31 h32 h33 hm37
              refine q_iload_n C dX12_studies_50 (n := 51) rfl rfl ?_
              refine q_iconst C dX12_studies_51 (n := 52) rfl ?_
              refine q_aload_n C dX12_studies_52 (n := 53) rfl rfl ?_
              refine q_getR C dX12_studies_53 (n := 56) rfl f_X12_17 (zM0 h0) (hF _ _ _ (zM7 h0)) ?_
              refine q_sipush C dX12_studies_56 (n := 59) rfl (x := 168) (by decide) ?_
              have g38 := zI.at hI (((zM9 h0) 168).trans (zfG_168 (by omega)))
              refine q_iald C dX12_studies_59 (n := 60) rfl (zM8 h0) (by omega) (v := M (a + 2) 168) ((hK31.getA rfl rfl rfl).trans ((hK17.getA rfl rfl rfl).trans ((zup_p e8 (by omega) _).trans (zup_p e4 (by omega) _)))) ?_
              refine q_ishl C dX12_studies_60 (n := 61) rfl (v := zshl 1 (M (a + 2) 168)) rfl ?_
              have g39 := zr_shl 1 (M (a + 2) 168)
              have g40 : 0 ≤ M (a + 2) 168 ∧ M (a + 2) 168 ≤ 3 → 1 ≤ zshl 1 (M (a + 2) 168) ∧ zshl 1 (M (a + 2) 168) ≤ 8 := fun h => zshl1 h
              refine q_icmp_ge C 259 dX12_studies_61 (n := 64) rfl rfl (by omega) (fun h41 => ?_) (fun h41 => ?_)
              · exact q_vret C dX12_studies_259 ⟨rfl, rfl⟩ (by rw [hPo]; exact ⟨M27, J28, rfl, rfl, hI29, hK30⟩)
              · refine q_aload_n C dX12_studies_64 (n := 65) rfl rfl ?_
                refine q_iload_n C dX12_studies_65 (n := 66) rfl rfl ?_
                refine q_iload_n C dX12_studies_66 (n := 67) rfl rfl ?_
                have hp42 : zFi M27 a := p1.cg (fun j => ((hK31.getA rfl rfl rfl).trans ((hK17.getA rfl rfl rfl).trans ((zup_p e8 (by omega) _).trans (zup_p e4 (by omega) _)))))
                refine q_callVi C dX12_studies_67 (n := 70) rfl m_X12_703 v_yX12_runs (zM0 h0) ⟨by decide, rfl⟩ (c_X12_runs (w := w) (J := J28) hI29 hF h0 v1 u25 hp42 (by omega) (by omega)) (Nat.le_of_ble_eq_true rfl) rfl rfl (Nat.le_of_ble_eq_true rfl) ⟨Nat.le_refl _, Nat.le_refl _⟩ (fun x50 M46 J47  hI48 h49 => ?_)
                obtain ⟨hk51, h43, h44, h45⟩ := h49
                have hK52 := hK30.tr hk51 rfl rfl rfl
                have hK53 := hK31.tr hk51 rfl rfl rfl
                refine q_pop C dX12_studies_70 (n := 71) rfl rfl ?_
                refine q_iconst C dX12_studies_71 (n := 72) rfl ?_
                refine q_istore_n C [.ref (w.2.1 + a), zi v1, zi u25, zi 0, .null, .null] dX12_studies_72 (n := 73) rfl rfl rfl ?_
                have L_64 : ∀ n65 : Nat, ∀ (u54 : Int) (M56 : zMm) (J57 : zJm), zI G M56 → zMd a [9, 10, 11, 12, 13, 14, 15, 16, 17, 18, 20, 22, 23, 24, 25, 26, 27, 28, 29, 30, 31, 32, 33, 34, 35, 36, 37, 38, 39, 40, 41, 42, 43, 44, 45, 46, 47, 48, 51, 52, 53, 54, 55, 56, 57, 58, 59, 60, 61, 62, 63, 64, 65, 66, 67, 78, 79, 80, 81, 82] [9, 11, 23, 24, 25, 26, 27, 28, 29, 34, 37, 57, 58, 59, 60, 61, 62, 63, 64, 65, 74, 75, 76, 78, 88, 89, 99, 100, 101, 118] [] M M56 → zMd a [9, 10, 11, 12, 13, 14, 15, 16, 17, 18, 20, 22, 23, 24, 25, 26, 27, 28, 29, 30, 31, 32, 33, 34, 35, 36, 37, 38, 39, 40, 41, 42, 43, 44, 45, 46, 47, 48, 51, 52, 53, 54, 55, 56, 57, 58, 59, 60, 61, 62, 63, 64, 65, 66, 67, 78, 79, 80, 81, 82] [11, 23, 24, 25, 26, 27, 28, 29, 34, 37, 57, 58, 59, 60, 61, 62, 63, 64, 65, 74, 75, 76, 78, 88, 89, 99, 100, 101] [] M13 M56 → zMd a [78] [] [] M46 M56 → (-2147483648 ≤ u54 ∧ u54 ≤ 2147483647) → (0 ≤ u54 ∧ u54 ≤ 160) → (160 - u54 + 1 ≤ (n65 : Int)) → zK w p e 11 0 0 s m args below meth c 6 T Po 73 [.ref (w.2.1 + a), zi v1, zi u25, zi u54, .null, .null] [] (T, M56, J57, R) := by
                  intro n65
                  induction n65 with
                  | zero =>
                    intro u54 M56 J57 hI58 hK59 hK60 hK61 h62 h63 hm67
                    exfalso
                    omega
                  | succ n65 ih66 =>
                    intro u54 M56 J57 hI58 hK59 hK60 hK61 h62 h63 hm67
                    refine q_iload_n C dX12_studies_73 (n := 74) rfl rfl ?_
                    refine q_sipush C dX12_studies_74 (n := 77) rfl (x := 160) (by decide) ?_
                    refine q_icmp_ge C 110 dX12_studies_77 (n := 80) rfl rfl (by omega) (fun h68 => ?_) (fun h68 => ?_)
                    · refine q_iconst C dX12_studies_110 (n := 111) rfl ?_
                      refine q_istore_n C [.ref (w.2.1 + a), zi v1, zi u25, zi 0, .null, .null] dX12_studies_111 (n := 112) rfl rfl rfl ?_
                      have L_79 : ∀ n80 : Nat, ∀ (u69 : Int) (M71 : zMm) (J72 : zJm), zI G M71 → zMd a [9, 10, 11, 12, 13, 14, 15, 16, 17, 18, 20, 22, 23, 24, 25, 26, 27, 28, 29, 30, 31, 32, 33, 34, 35, 36, 37, 38, 39, 40, 41, 42, 43, 44, 45, 46, 47, 48, 51, 52, 53, 54, 55, 56, 57, 58, 59, 60, 61, 62, 63, 64, 65, 66, 67, 78, 79, 80, 81, 82] [9, 11, 23, 24, 25, 26, 27, 28, 29, 34, 37, 57, 58, 59, 60, 61, 62, 63, 64, 65, 74, 75, 76, 78, 88, 89, 99, 100, 101, 118] [] M M71 → zMd a [9, 10, 11, 12, 13, 14, 15, 16, 17, 18, 20, 22, 23, 24, 25, 26, 27, 28, 29, 30, 31, 32, 33, 34, 35, 36, 37, 38, 39, 40, 41, 42, 43, 44, 45, 46, 47, 48, 51, 52, 53, 54, 55, 56, 57, 58, 59, 60, 61, 62, 63, 64, 65, 66, 67, 78, 79, 80, 81, 82] [11, 23, 24, 25, 26, 27, 28, 29, 34, 37, 57, 58, 59, 60, 61, 62, 63, 64, 65, 74, 75, 76, 78, 88, 89, 99, 100, 101] [] M13 M71 → zMd a [81] [] [] M56 M71 → (-2147483648 ≤ u69 ∧ u69 ≤ 2147483647) → (0 ≤ u69 ∧ u69 ≤ 4) → (4 - u69 + 1 ≤ (n80 : Int)) → zK w p e 11 0 0 s m args below meth c 6 T Po 112 [.ref (w.2.1 + a), zi v1, zi u25, zi u69, .null, .null] [] (T, M71, J72, R) := by
                        intro n80
                        induction n80 with
                        | zero =>
                          intro u69 M71 J72 hI73 hK74 hK75 hK76 h77 h78 hm82
                          exfalso
                          omega
                        | succ n80 ih81 =>
                          intro u69 M71 J72 hI73 hK74 hK75 hK76 h77 h78 hm82
                          refine q_iload_n C dX12_studies_112 (n := 113) rfl rfl ?_
                          refine q_iconst C dX12_studies_113 (n := 114) rfl ?_
                          refine q_icmp_ge C 142 dX12_studies_114 (n := 117) rfl rfl (by omega) (fun h83 => ?_) (fun h83 => ?_)
                          · refine q_iconst C dX12_studies_142 (n := 143) rfl ?_
                            refine q_istore_n C [.ref (w.2.1 + a), zi v1, zi u25, zi 0, .null, .null] dX12_studies_143 (n := 144) rfl rfl rfl ?_
                            refine q_iconst C dX12_studies_144 (n := 145) rfl ?_
                            refine q_istore C [.ref (w.2.1 + a), zi v1, zi u25, zi 0, zi 0, .null] dX12_studies_145 (n := 147) rfl rfl rfl ?_
                            have L_97 : ∀ n98 : Nat, ∀ (u84 : Int) (u85 : Int) (M87 : zMm) (J88 : zJm), zI G M87 → zMd a [9, 10, 11, 12, 13, 14, 15, 16, 17, 18, 20, 22, 23, 24, 25, 26, 27, 28, 29, 30, 31, 32, 33, 34, 35, 36, 37, 38, 39, 40, 41, 42, 43, 44, 45, 46, 47, 48, 51, 52, 53, 54, 55, 56, 57, 58, 59, 60, 61, 62, 63, 64, 65, 66, 67, 78, 79, 80, 81, 82] [9, 11, 23, 24, 25, 26, 27, 28, 29, 34, 37, 57, 58, 59, 60, 61, 62, 63, 64, 65, 74, 75, 76, 78, 88, 89, 99, 100, 101, 118] [] M M87 → zMd a [9, 10, 11, 12, 13, 14, 15, 16, 17, 18, 20, 22, 23, 24, 25, 26, 27, 28, 29, 30, 31, 32, 33, 34, 35, 36, 37, 38, 39, 40, 41, 42, 43, 44, 45, 46, 47, 48, 51, 52, 53, 54, 55, 56, 57, 58, 59, 60, 61, 62, 63, 64, 65, 66, 67, 78, 79, 80, 81, 82] [11, 23, 24, 25, 26, 27, 28, 29, 34, 37, 57, 58, 59, 60, 61, 62, 63, 64, 65, 74, 75, 76, 78, 88, 89, 99, 100, 101] [] M13 M87 → zMd a [82] [] [] M71 M87 → (-2147483648 ≤ u84 ∧ u84 ≤ 2147483647) → (-2147483648 ≤ u85 ∧ u85 ≤ 2147483647) → (0 ≤ u85 ∧ u85 ≤ 300) → (0 ≤ u84 ∧ u84 ≤ 31 * u85) → (300 - u85 + 1 ≤ (n98 : Int)) → zK w p e 11 0 0 s m args below meth c 6 T Po 147 [.ref (w.2.1 + a), zi v1, zi u25, zi u84, zi u85, .null] [] (T, M87, J88, R) := by
                              intro n98
                              induction n98 with
                              | zero =>
                                intro u84 u85 M87 J88 hI89 hK90 hK91 hK92 h93 h94 h95 h96 hm100
                                exfalso
                                omega
                              | succ n98 ih99 =>
                                intro u84 u85 M87 J88 hI89 hK90 hK91 hK92 h93 h94 h95 h96 hm100
                                refine q_iload C dX12_studies_147 (n := 149) rfl rfl ?_
                                refine q_aload_n C dX12_studies_149 (n := 150) rfl rfl ?_
                                have g101 := zI.at hI48 (zM230 h0)
                                refine q_getI C dX12_studies_150 (n := 153) rfl f_X12_636 (zM0 h0) (v := M46 a 99) ((hK92.getS rfl rfl).trans ((hK76.getS rfl rfl).trans (hK61.getS rfl rfl))) ?_
                                refine q_icmp_ge C 236 dX12_studies_153 (n := 156) rfl rfl (by omega) (fun h102 => ?_) (fun h102 => ?_)
                                · refine q_aload_n C dX12_studies_236 (n := 237) rfl rfl ?_
                                  refine q_getR C dX12_studies_237 (n := 240) rfl f_X12_254 (zM0 h0) (hF _ _ _ (zM267 h0)) ?_
                                  refine q_iload_n C dX12_studies_240 (n := 241) rfl rfl ?_
                                  refine q_iload_n C dX12_studies_241 (n := 242) rfl rfl ?_
                                  refine q_iast C dX12_studies_242 (n := 243) rfl (zM268 h0) (by omega)  (fun M103 e104 => ?_)
                                  have hI105 : zI G M103 := hI89.put e104 ((zM269 h0) u25) rfl (by omega)
                                  have hK106 := hK90.upA e104 rfl
                                  have hK107 := hK91.upA e104 rfl
                                  refine q_aload_n C dX12_studies_243 (n := 244) rfl rfl ?_
                                  refine q_getR C dX12_studies_244 (n := 247) rfl f_X12_257 (zM0 h0) (hF _ _ _ (zM270 h0)) ?_
                                  refine q_iload_n C dX12_studies_247 (n := 248) rfl rfl ?_
                                  refine q_aload_n C dX12_studies_248 (n := 249) rfl rfl ?_
                                  refine q_getI C dX12_studies_249 (n := 252) rfl f_X12_636 (zM0 h0) (v := M46 a 99) ((zup_p e104 (by omega) _).trans ((hK92.getS rfl rfl).trans ((hK76.getS rfl rfl).trans (hK61.getS rfl rfl)))) ?_
                                  refine q_iast C dX12_studies_252 (n := 253) rfl (zM271 h0) (by omega)  (fun M109 e110 => ?_)
                                  have hI111 : zI G M109 := hI105.put e110 ((zM272 h0) u25) rfl (by omega)
                                  have hK112 := hK106.upA e110 rfl
                                  have hK113 := hK107.upA e110 rfl
                                  refine q_iinc C [.ref (w.2.1 + a), zi v1, zi (u25 + 1), zi u84, zi u85, .null] dX12_studies_253 (n := 256) rfl rfl rfl rfl ?_
                                  refine q_goto C 50 dX12_studies_256 rfl ?_
                                  exact zK.weak (ih36 (u25 + 1) M109 J88 hI111 hK112 hK113 (by omega) (by omega) (by omega)) (zwk_c (zwk_c (zwk_c (zwk_n (zwk_n (zwk_n zwk_e))))))
                                · refine q_aload_n C dX12_studies_156 (n := 157) rfl rfl ?_
                                  refine q_getR C dX12_studies_157 (n := 160) rfl f_X12_264 (zM0 h0) (hF _ _ _ (zM276 h0)) ?_
                                  refine q_sipush C dX12_studies_160 (n := 163) rfl (x := 9300) (by decide) ?_
                                  refine q_iload_n C dX12_studies_163 (n := 164) rfl rfl ?_
                                  refine q_imul C dX12_studies_164 (n := 165) rfl (v := 9300 * u25) rfl ?_
                                  refine q_iload_n C dX12_studies_165 (n := 166) rfl rfl ?_
                                  refine q_iadd C dX12_studies_166 (n := 167) rfl (v := (9300 * u25) + u84) rfl ?_
                                  refine q_aload_n C dX12_studies_167 (n := 168) rfl rfl ?_
                                  refine q_getR C dX12_studies_168 (n := 171) rfl f_X12_199 (zM0 h0) (hF _ _ _ (zM209 h0)) ?_
                                  refine q_iload C dX12_studies_171 (n := 173) rfl rfl ?_
                                  have g114 := zI.at hI48 ((zM211 h0) u85)
                                  refine q_iald C dX12_studies_173 (n := 174) rfl (zM210 h0) (by omega) (v := M46 (a + 61) u85) ((hK92.getA rfl rfl rfl).trans ((hK76.getA rfl rfl rfl).trans (hK61.getA rfl rfl rfl))) ?_
                                  refine q_i2b C dX12_studies_174 (n := 175) rfl (v := zi2b (M46 (a + 61) u85)) rfl ?_
                                  have g115 := z8_r (M46 (a + 61) u85)
                                  refine q_bast C dX12_studies_175 (n := 176) rfl (zM277 h0) (by omega) (by omega) (fun M116 e117 => ?_)
                                  have hI118 : zI G M116 := hI89.put e117 ((zM278 h0) ((9300 * u25) + u84)) rfl (by omega)
                                  have hK119 := hK90.upA e117 rfl
                                  have hK120 := hK91.upA e117 rfl
                                  have hK121 := hK92.upA e117 rfl
                                  refine q_iinc C [.ref (w.2.1 + a), zi v1, zi u25, zi (u84 + 1), zi u85, .null] dX12_studies_176 (n := 179) rfl rfl rfl rfl ?_
                                  refine q_iconst C dX12_studies_179 (n := 180) rfl ?_
                                  refine q_istore C [.ref (w.2.1 + a), zi v1, zi u25, zi (u84 + 1), zi u85, zi 0] dX12_studies_180 (n := 182) rfl rfl rfl ?_
                                  have L_136 : ∀ n137 : Nat, ∀ (u122 : Int) (u123 : Int) (M125 : zMm) (J126 : zJm), zI G M125 → zMd a [9, 10, 11, 12, 13, 14, 15, 16, 17, 18, 20, 22, 23, 24, 25, 26, 27, 28, 29, 30, 31, 32, 33, 34, 35, 36, 37, 38, 39, 40, 41, 42, 43, 44, 45, 46, 47, 48, 51, 52, 53, 54, 55, 56, 57, 58, 59, 60, 61, 62, 63, 64, 65, 66, 67, 78, 79, 80, 81, 82] [9, 11, 23, 24, 25, 26, 27, 28, 29, 34, 37, 57, 58, 59, 60, 61, 62, 63, 64, 65, 74, 75, 76, 78, 88, 89, 99, 100, 101, 118] [] M M125 → zMd a [9, 10, 11, 12, 13, 14, 15, 16, 17, 18, 20, 22, 23, 24, 25, 26, 27, 28, 29, 30, 31, 32, 33, 34, 35, 36, 37, 38, 39, 40, 41, 42, 43, 44, 45, 46, 47, 48, 51, 52, 53, 54, 55, 56, 57, 58, 59, 60, 61, 62, 63, 64, 65, 66, 67, 78, 79, 80, 81, 82] [11, 23, 24, 25, 26, 27, 28, 29, 34, 37, 57, 58, 59, 60, 61, 62, 63, 64, 65, 74, 75, 76, 78, 88, 89, 99, 100, 101] [] M13 M125 → zMd a [82] [] [] M71 M125 → zMd a [82] [] [] M116 M125 → (-2147483648 ≤ u122 ∧ u122 ≤ 2147483647) → (-2147483648 ≤ u123 ∧ u123 ≤ 2147483647) → (0 ≤ u123 ∧ u123 ≤ 30) → ((u84 + 1) ≤ u122 ∧ u122 ≤ (u84 + 1) + u123) → (30 - u123 + 1 ≤ (n137 : Int)) → zK w p e 11 0 0 s m args below meth c 6 T Po 182 [.ref (w.2.1 + a), zi v1, zi u25, zi u122, zi u85, zi u123] [] (T, M125, J126, R) := by
                                    intro n137
                                    induction n137 with
                                    | zero =>
                                      intro u122 u123 M125 J126 hI127 hK128 hK129 hK130 hK131 h132 h133 h134 h135 hm139
                                      exfalso
                                      omega
                                    | succ n137 ih138 =>
                                      intro u122 u123 M125 J126 hI127 hK128 hK129 hK130 hK131 h132 h133 h134 h135 hm139
                                      refine q_iload C dX12_studies_182 (n := 184) rfl rfl ?_
                                      refine q_aload_n C dX12_studies_184 (n := 185) rfl rfl ?_
                                      refine q_getR C dX12_studies_185 (n := 188) rfl f_X12_199 (zM0 h0) (hF _ _ _ (zM209 h0)) ?_
                                      refine q_iload C dX12_studies_188 (n := 190) rfl rfl ?_
                                      refine q_iald C dX12_studies_190 (n := 191) rfl (zM210 h0) (by omega) (v := M46 (a + 61) u85) ((hK131.getA rfl rfl rfl).trans ((zup_p e117 (by omega) _).trans ((hK92.getA rfl rfl rfl).trans ((hK76.getA rfl rfl rfl).trans (hK61.getA rfl rfl rfl))))) ?_
                                      refine q_icmp_ge C 230 dX12_studies_191 (n := 194) rfl rfl (by omega) (fun h140 => ?_) (fun h140 => ?_)
                                      · refine q_iinc C [.ref (w.2.1 + a), zi v1, zi u25, zi u122, zi (u85 + 1), zi u123] dX12_studies_230 (n := 233) rfl rfl rfl rfl ?_
                                        refine q_goto C 147 dX12_studies_233 rfl ?_
                                        exact zK.weak (ih99 u122 (u85 + 1) M125 J126 hI127 hK128 hK129 hK130 (by omega) (by omega) (by omega) (by omega) (by omega)) (zwk_c (zwk_c (zwk_c (zwk_c (zwk_c (zwk_n zwk_e))))))
                                      · refine q_aload_n C dX12_studies_194 (n := 195) rfl rfl ?_
                                        refine q_getR C dX12_studies_195 (n := 198) rfl f_X12_264 (zM0 h0) (hF _ _ _ (zM276 h0)) ?_
                                        refine q_sipush C dX12_studies_198 (n := 201) rfl (x := 9300) (by decide) ?_
                                        refine q_iload_n C dX12_studies_201 (n := 202) rfl rfl ?_
                                        refine q_imul C dX12_studies_202 (n := 203) rfl (v := 9300 * u25) rfl ?_
                                        refine q_iload_n C dX12_studies_203 (n := 204) rfl rfl ?_
                                        refine q_iadd C dX12_studies_204 (n := 205) rfl (v := (9300 * u25) + u122) rfl ?_
                                        refine q_aload_n C dX12_studies_205 (n := 206) rfl rfl ?_
                                        refine q_getR C dX12_studies_206 (n := 209) rfl f_X12_218 (zM0 h0) (hF _ _ _ (zM227 h0)) ?_
                                        refine q_aload_n C dX12_studies_209 (n := 210) rfl rfl ?_
                                        refine q_getR C dX12_studies_210 (n := 213) rfl f_X12_196 (zM0 h0) (hF _ _ _ (zM206 h0)) ?_
                                        refine q_iload C dX12_studies_213 (n := 215) rfl rfl ?_
                                        have g141 := zI.at hI48 ((zM208 h0) u85)
                                        refine q_iald C dX12_studies_215 (n := 216) rfl (zM207 h0) (by omega) (v := M46 (a + 60) u85) ((hK131.getA rfl rfl rfl).trans ((zup_p e117 (by omega) _).trans ((hK92.getA rfl rfl rfl).trans ((hK76.getA rfl rfl rfl).trans (hK61.getA rfl rfl rfl))))) ?_
                                        refine q_iload C dX12_studies_216 (n := 218) rfl rfl ?_
                                        refine q_iadd C dX12_studies_218 (n := 219) rfl (v := (M46 (a + 60) u85) + u123) rfl ?_
                                        have g142 := zI.at hI48 ((zM229 h0) ((M46 (a + 60) u85) + u123))
                                        refine q_bald C dX12_studies_219 (n := 220) rfl (zM228 h0) (by omega) (v := M46 (a + 67) ((M46 (a + 60) u85) + u123)) ((hK131.getA rfl rfl rfl).trans ((zup_p e117 (by omega) _).trans ((hK92.getA rfl rfl rfl).trans ((hK76.getA rfl rfl rfl).trans (hK61.getA rfl rfl rfl))))) ?_
                                        refine q_bast C dX12_studies_220 (n := 221) rfl (zM277 h0) (by omega) (by omega) (fun M143 e144 => ?_)
                                        have hI145 : zI G M143 := hI127.put e144 ((zM278 h0) ((9300 * u25) + u122)) rfl (by omega)
                                        have hK146 := hK128.upA e144 rfl
                                        have hK147 := hK129.upA e144 rfl
                                        have hK148 := hK130.upA e144 rfl
                                        have hK149 := hK131.upA e144 rfl
                                        refine q_iinc C [.ref (w.2.1 + a), zi v1, zi u25, zi (u122 + 1), zi u85, zi u123] dX12_studies_221 (n := 224) rfl rfl rfl rfl ?_
                                        refine q_iinc C [.ref (w.2.1 + a), zi v1, zi u25, zi (u122 + 1), zi u85, zi (u123 + 1)] dX12_studies_224 (n := 227) rfl rfl rfl rfl ?_
                                        refine q_goto C 182 dX12_studies_227 rfl ?_
                                        exact zK.weak (ih138 (u122 + 1) (u123 + 1) M143 J126 hI145 hK146 hK147 hK148 hK149 (by omega) (by omega) (by omega) (by omega) (by omega)) (zwk_c (zwk_c (zwk_c (zwk_c (zwk_c (zwk_c zwk_e))))))
                                  exact zK.weak (L_136 _ (u84 + 1) 0 M116 J88 hI118 hK119 hK120 hK121 (zMd.rf : zMd a [82] [] [] M116 M116) (by omega) (by omega) (by omega) (by omega) (Int.self_le_toNat _)) (zwk_c (zwk_c (zwk_c (zwk_c (zwk_c (zwk_c zwk_e))))))
                            exact zK.weak (L_97 _ 0 0 M71 J72 hI73 hK74 hK75 (zMd.rf : zMd a [82] [] [] M71 M71) (by omega) (by omega) (by omega) (by omega) (Int.self_le_toNat _)) (zwk_c (zwk_c (zwk_c (zwk_c (zwk_c (zwk_n zwk_e))))))
                          · refine q_aload_n C dX12_studies_117 (n := 118) rfl rfl ?_
                            refine q_getR C dX12_studies_118 (n := 121) rfl f_X12_260 (zM0 h0) (hF _ _ _ (zM273 h0)) ?_
                            refine q_iconst C dX12_studies_121 (n := 122) rfl ?_
                            refine q_iload_n C dX12_studies_122 (n := 123) rfl rfl ?_
                            refine q_imul C dX12_studies_123 (n := 124) rfl (v := 4 * u25) rfl ?_
                            refine q_iload_n C dX12_studies_124 (n := 125) rfl rfl ?_
                            refine q_iadd C dX12_studies_125 (n := 126) rfl (v := (4 * u25) + u69) rfl ?_
                            refine q_aload_n C dX12_studies_126 (n := 127) rfl rfl ?_
                            refine q_getR C dX12_studies_127 (n := 130) rfl f_X12_68 (zM0 h0) (hF _ _ _ (zM65 h0)) ?_
                            refine q_bipush C dX12_studies_130 (n := 132) rfl (x := 11) (by decide) ?_
                            refine q_iload_n C dX12_studies_132 (n := 133) rfl rfl ?_
                            refine q_iadd C dX12_studies_133 (n := 134) rfl (v := 11 + u69) rfl ?_
                            have g150 := zI.at hI48 (((zM67 h0) (11 + u69)).trans (zwG_1 (by omega)))
                            refine q_iald C dX12_studies_134 (n := 135) rfl (zM66 h0) (by omega) (v := M46 (a + 18) (11 + u69)) ((hK76.getA rfl rfl rfl).trans (hK61.getA rfl rfl rfl)) ?_
                            refine q_iast C dX12_studies_135 (n := 136) rfl (zM274 h0) (by omega)  (fun M151 e152 => ?_)
                            have hI153 : zI G M151 := hI73.put e152 ((zM275 h0) ((4 * u25) + u69)) rfl (by omega)
                            have hK154 := hK74.upA e152 rfl
                            have hK155 := hK75.upA e152 rfl
                            have hK156 := hK76.upA e152 rfl
                            refine q_iinc C [.ref (w.2.1 + a), zi v1, zi u25, zi (u69 + 1), .null, .null] dX12_studies_136 (n := 139) rfl rfl rfl rfl ?_
                            refine q_goto C 112 dX12_studies_139 rfl ?_
                            exact zK.weak (ih81 (u69 + 1) M151 J72 hI153 hK154 hK155 hK156 (by omega) (by omega) (by omega)) (zwk_c (zwk_c (zwk_c (zwk_c (zwk_n (zwk_n zwk_e))))))
                      exact zK.weak (L_79 _ 0 M56 J57 hI58 hK59 hK60 (zMd.rf : zMd a [81] [] [] M56 M56) (by omega) (by omega) (Int.self_le_toNat _)) (zwk_c (zwk_c (zwk_c (zwk_c (zwk_n (zwk_n zwk_e))))))
                    · refine q_aload_n C dX12_studies_80 (n := 81) rfl rfl ?_
                      refine q_getR C dX12_studies_81 (n := 84) rfl f_X12_68 (zM0 h0) (hF _ _ _ (zM65 h0)) ?_
                      refine q_bipush C dX12_studies_84 (n := 86) rfl (x := 15) (by decide) ?_
                      refine q_iload_n C dX12_studies_86 (n := 87) rfl rfl ?_
                      refine q_iadd C dX12_studies_87 (n := 88) rfl (v := 15 + u54) rfl ?_
                      have g157 := zI.at hI48 (((zM67 h0) (15 + u54)).trans (zwG_1 (by omega)))
                      refine q_iald C dX12_studies_88 (n := 89) rfl (zM66 h0) (by omega) (v := M46 (a + 18) (15 + u54)) (hK61.getA rfl rfl rfl) ?_
                      have J_166 : ∀ (M159 : zMm) (J160 : zJm), zI G M159 → zMd a [9, 10, 11, 12, 13, 14, 15, 16, 17, 18, 20, 22, 23, 24, 25, 26, 27, 28, 29, 30, 31, 32, 33, 34, 35, 36, 37, 38, 39, 40, 41, 42, 43, 44, 45, 46, 47, 48, 51, 52, 53, 54, 55, 56, 57, 58, 59, 60, 61, 62, 63, 64, 65, 66, 67, 78, 79, 80, 81, 82] [9, 11, 23, 24, 25, 26, 27, 28, 29, 34, 37, 57, 58, 59, 60, 61, 62, 63, 64, 65, 74, 75, 76, 78, 88, 89, 99, 100, 101, 118] [] M M159 → zMd a [9, 10, 11, 12, 13, 14, 15, 16, 17, 18, 20, 22, 23, 24, 25, 26, 27, 28, 29, 30, 31, 32, 33, 34, 35, 36, 37, 38, 39, 40, 41, 42, 43, 44, 45, 46, 47, 48, 51, 52, 53, 54, 55, 56, 57, 58, 59, 60, 61, 62, 63, 64, 65, 66, 67, 78, 79, 80, 81, 82] [11, 23, 24, 25, 26, 27, 28, 29, 34, 37, 57, 58, 59, 60, 61, 62, 63, 64, 65, 74, 75, 76, 78, 88, 89, 99, 100, 101] [] M13 M159 → zMd a [78] [] [] M46 M159 → zMd a [78] [] [] M56 M159 → zK w p e 11 0 0 s m args below meth c 6 T Po 104 [.ref (w.2.1 + a), zi v1, zi u25, zi u54, .null, .null] [] (T, M159, J160, R) := by
                        intro M159 J160 hI161 hK162 hK163 hK164 hK165
                        refine q_iinc C [.ref (w.2.1 + a), zi v1, zi u25, zi (u54 + 1), .null, .null] dX12_studies_104 (n := 107) rfl rfl rfl rfl ?_
                        refine q_goto C 73 dX12_studies_107 rfl ?_
                        exact zK.weak (ih66 (u54 + 1) M159 J160 hI161 hK162 hK163 hK164 (by omega) (by omega) (by omega)) (zwk_c (zwk_c (zwk_c (zwk_c (zwk_n (zwk_n zwk_e))))))
                      refine q_if_le C 104 dX12_studies_89 (n := 92) rfl rfl (by omega) (fun h167 => ?_) (fun h167 => ?_)
                      · exact zK.weak (J_166 M56 J57 hI58 hK59 hK60 hK61 (zMd.rf : zMd a [78] [] [] M56 M56)) (zwk_c (zwk_c (zwk_c (zwk_c (zwk_n (zwk_n zwk_e))))))
                      · refine q_aload_n C dX12_studies_92 (n := 93) rfl rfl ?_
                        refine q_getR C dX12_studies_93 (n := 96) rfl f_X12_251 (zM0 h0) (hF _ _ _ (zM264 h0)) ?_
                        refine q_iload_n C dX12_studies_96 (n := 97) rfl rfl ?_
                        refine q_dup2 C dX12_studies_97 (n := 98) rfl ⟨rfl, rfl⟩ ?_
                        have g168 := zI.at hI58 ((zM266 h0) u54)
                        refine q_iald C dX12_studies_98 (n := 99) rfl (zM265 h0) (by omega) (v := M56 (a + 78) u54) rfl ?_
                        refine q_iconst C dX12_studies_99 (n := 100) rfl ?_
                        refine q_iload_n C dX12_studies_100 (n := 101) rfl rfl ?_
                        refine q_ishl C dX12_studies_101 (n := 102) rfl (v := zshl 1 u25) rfl ?_
                        have g169 := zr_shl 1 u25
                        have g170 : 0 ≤ u25 ∧ u25 ≤ 3 → 1 ≤ zshl 1 u25 ∧ zshl 1 u25 ≤ 8 := fun h => zshl1 h
                        refine q_ior C dX12_studies_102 (n := 103) rfl (v := zor (M56 (a + 78) u54) (zshl 1 u25)) rfl ?_
                        have g171 := zr_or (M56 (a + 78) u54) (zshl 1 u25)
                        have g172 : zand (M56 (a + 78) u54) 31 = 0 → zand (zor (M56 (a + 78) u54) (zshl 1 u25)) 31 = zand (zshl 1 u25) 31 := fun h => zl_or h
                        refine q_iast C dX12_studies_103 (n := 104) rfl (zM265 h0) (by omega)  (fun M173 e174 => ?_)
                        have hI175 : zI G M173 := hI58.put e174 ((zM266 h0) u54) rfl (by omega)
                        have hK176 := hK59.upA e174 rfl
                        have hK177 := hK60.upA e174 rfl
                        have hK178 := hK61.upA e174 rfl
                        have hK179 := (zMd.rf : zMd a [78] [] [] M56 M56).upA e174 rfl
                        exact zK.weak (J_166 M173 J57 hI175 hK176 hK177 hK178 hK179) (zwk_c (zwk_c (zwk_c (zwk_c (zwk_n (zwk_n zwk_e))))))
                exact zK.weak (L_64 _ 0 M46 J47 hI48 hK52 hK53 (zMd.rf : zMd a [78] [] [] M46 M46) (by omega) (by omega) (Int.self_le_toNat _)) (zwk_c (zwk_c (zwk_c (zwk_c (zwk_n (zwk_n zwk_e))))))
          exact zK.weak (L_34 _ 0 M13 J14 hI15 hK16 (zMd.rf : zMd a [9, 10, 11, 12, 13, 14, 15, 16, 17, 18, 20, 22, 23, 24, 25, 26, 27, 28, 29, 30, 31, 32, 33, 34, 35, 36, 37, 38, 39, 40, 41, 42, 43, 44, 45, 46, 47, 48, 51, 52, 53, 54, 55, 56, 57, 58, 59, 60, 61, 62, 63, 64, 65, 66, 67, 78, 79, 80, 81, 82] [11, 23, 24, 25, 26, 27, 28, 29, 34, 37, 57, 58, 59, 60, 61, 62, 63, 64, 65, 74, 75, 76, 78, 88, 89, 99, 100, 101] [] M13 M13) (by omega) (by omega) (Int.self_le_toNat _)) (zwk_c (zwk_c (zwk_c (zwk_n (zwk_n (zwk_n zwk_e))))))
        · refine q_aload_n C dX12_studies_35 (n := 36) rfl rfl ?_
          refine q_getR C dX12_studies_36 (n := 39) rfl f_X12_251 (zM0 h0) (hF _ _ _ (zM264 h0)) ?_
          refine q_iload_n C dX12_studies_39 (n := 40) rfl rfl ?_
          refine q_iconst C dX12_studies_40 (n := 41) rfl ?_
          refine q_iast C dX12_studies_41 (n := 42) rfl (zM265 h0) (by omega)  (fun M180 e181 => ?_)
          have hI182 : zI G M180 := hI15.put e181 ((zM266 h0) u11) rfl (by omega)
          have hK183 := hK16.upA e181 rfl
          have hK184 := hK17.upA e181 rfl
          refine q_iinc C [.ref (w.2.1 + a), zi v1, zi (u11 + 1), .null, .null, .null] dX12_studies_42 (n := 45) rfl rfl rfl rfl ?_
          refine q_goto C 28 dX12_studies_45 rfl ?_
          exact zK.weak (ih22 (u11 + 1) M180 J14 hI182 hK183 hK184 (by omega) (by omega) (by omega)) (zwk_c (zwk_c (zwk_c (zwk_n (zwk_n (zwk_n zwk_e))))))
    exact zK.weak (L_20 _ 0 M7 J hI9 hK10 (zMd.rf : zMd a [78] [] [] M7 M7) (by omega) (by omega) (Int.self_le_toNat _)) (zwk_c (zwk_c (zwk_c (zwk_n (zwk_n (zwk_n zwk_e))))))
  refine q_if_eq C 16 dX12_studies_4 (n := 7) rfl rfl (by omega) (fun h185 => ?_) (fun h185 => ?_)
  · exact zK.weak (J_2) (zwk_c (zwk_c (zwk_n (zwk_n (zwk_n (zwk_n zwk_e))))))
  · refine q_aload_n C dX12_studies_7 (n := 8) rfl rfl ?_
    have g186 := zI.at hI (zM279 h0)
    refine q_getI C dX12_studies_8 (n := 11) rfl f_X12_722 (zM0 h0) (v := M a 118) rfl ?_
    refine q_iload_n C dX12_studies_11 (n := 12) rfl rfl ?_
    refine q_icmp_ne C 16 dX12_studies_12 (n := 15) rfl rfl (by omega) (fun h187 => ?_) (fun h187 => ?_)
    · exact zK.weak (J_2) (zwk_c (zwk_c (zwk_n (zwk_n (zwk_n (zwk_n zwk_e))))))
    · exact q_vret C dX12_studies_15 ⟨rfl, rfl⟩ (by rw [hPo]; exact ⟨M, J, rfl, rfl, hI, hK0⟩)
theorem c_X12_presence {w : zWp} {T : zTl} {M : zMm} {J : zJm} {R : zRm'} {G : zGt} {F : zRm'} {a : Nat} (hI : zI G M) (hF : zF F R) (h0 : zModel T F G a) (v1 : Int) (v2 : Int) (v3 : Int) (p1 : zFi M a) (p2 : -2147483648 ≤ v1 ∧ v1 ≤ 2147483647) (p3 : -2147483648 ≤ v2 ∧ v2 ≤ 2147483647) (p4 : -2147483648 ≤ v3 ∧ v3 ≤ 2147483647) : zCt w 12 0 0 yX12_presence cX12_presence 4 (some .int) [.ref (w.2.1 + a), zi v1, zi v2, zi v3] (T, M, J, R) (zPi T R G (fun x M2 => (zMd a [9, 10, 11, 12, 13, 14, 15, 16, 17, 18, 20, 22, 23, 24, 25, 26, 27, 28, 29, 30, 31, 32, 33, 34, 35, 36, 37, 38, 39, 40, 41, 42, 43, 44, 45, 46, 47, 48, 51, 52, 53, 54, 55, 56, 57, 58, 59, 60, 61, 62, 63, 64, 65, 66, 67, 78, 79, 80, 81, 82] [0, 9, 11, 23, 24, 25, 26, 27, 28, 29, 34, 37, 57, 58, 59, 60, 61, 62, 63, 64, 65, 74, 75, 76, 78, 88, 89, 99, 100, 101, 118] [] M M2))) := by
  refine zCt.of rfl (Nat.le_of_ble_eq_true rfl) ?_
  intro p e s m args below meth c C
  obtain ⟨Po, hPo⟩ : ∃ Po, Po = zPi T R G (fun x M2 => (zMd a [9, 10, 11, 12, 13, 14, 15, 16, 17, 18, 20, 22, 23, 24, 25, 26, 27, 28, 29, 30, 31, 32, 33, 34, 35, 36, 37, 38, 39, 40, 41, 42, 43, 44, 45, 46, 47, 48, 51, 52, 53, 54, 55, 56, 57, 58, 59, 60, 61, 62, 63, 64, 65, 66, 67, 78, 79, 80, 81, 82] [0, 9, 11, 23, 24, 25, 26, 27, 28, 29, 34, 37, 57, 58, 59, 60, 61, 62, 63, 64, 65, 74, 75, 76, 78, 88, 89, 99, 100, 101, 118] [] M M2)) := ⟨_, rfl⟩
  rw [← hPo]
  have hK0 : zMd a [9, 10, 11, 12, 13, 14, 15, 16, 17, 18, 20, 22, 23, 24, 25, 26, 27, 28, 29, 30, 31, 32, 33, 34, 35, 36, 37, 38, 39, 40, 41, 42, 43, 44, 45, 46, 47, 48, 51, 52, 53, 54, 55, 56, 57, 58, 59, 60, 61, 62, 63, 64, 65, 66, 67, 78, 79, 80, 81, 82] [0, 9, 11, 23, 24, 25, 26, 27, 28, 29, 34, 37, 57, 58, 59, 60, 61, 62, 63, 64, 65, 74, 75, 76, 78, 88, 89, 99, 100, 101, 118] [] M M := zMd.rf
  show zK w p e 12 0 0 s m args below meth c 4 T Po 0 [.ref (w.2.1 + a), zi v1, zi v2, zi v3] [] (T, M, J, R)
  refine q_aload_n C dX12_presence_0 (n := 1) rfl rfl ?_
  refine q_iconst C dX12_presence_1 (n := 2) rfl ?_
  refine q_putI C dX12_presence_2 (n := 5) rfl f_X12_1 (zM0 h0) ⟨rfl, rfl⟩ (fun M1 (e2 : M1 = zup M a 0 0) => ?_)
  have hI3 : zI G M1 := hI.put e2 (zM1 h0) rfl (by omega)
  have hK4 := hK0.upS e2 rfl
  refine q_aload_n C dX12_presence_5 (n := 6) rfl rfl ?_
  refine q_iload_n C dX12_presence_6 (n := 7) rfl rfl ?_
  refine q_callVp C dX12_presence_7 (n := 10) rfl m_X12_281 v_yX12_isFile (zM0 h0) ⟨by decide, rfl⟩ (c_X12_isFile (w := w) (J := J) hI3 hF h0 v1 (by omega)) (Nat.le_of_ble_eq_true rfl) rfl rfl (Nat.le_of_ble_eq_true rfl) ⟨Nat.le_refl _, Nat.le_refl _⟩ (fun x7 h8 => ?_)
  obtain ⟨h5, h6⟩ := h8
  refine q_if_eq C 22 dX12_presence_10 (n := 13) rfl rfl (by omega) (fun h9 => ?_) (fun h9 => ?_)
  · refine q_iconst C dX12_presence_22 (n := 23) rfl ?_
    exact q_iret C dX12_presence_23 ⟨rfl, rfl⟩ (by rw [hPo]; exact ⟨(-1), M1, J, rfl, rfl, hI3, hK4⟩)
  · refine q_aload_n C dX12_presence_13 (n := 14) rfl rfl ?_
    refine q_iload_n C dX12_presence_14 (n := 15) rfl rfl ?_
    refine q_iload_n C dX12_presence_15 (n := 16) rfl rfl ?_
    refine q_callVp C dX12_presence_16 (n := 19) rfl m_X12_324 v_yX12_isLine (zM0 h0) ⟨by decide, rfl⟩ (c_X12_isLine (w := w) (J := J) hI3 hF h0 v2 v3 (by omega) (by omega)) (Nat.le_of_ble_eq_true rfl) rfl rfl (Nat.le_of_ble_eq_true rfl) ⟨Nat.le_refl _, Nat.le_refl _⟩ (fun x12 h13 => ?_)
    obtain ⟨h10, h11⟩ := h13
    have hz14 : M1 (a + 2) (4 + v2) = M (a + 2) (4 + v2) := (zup_p e2 (by omega) _)
    refine q_if_ne C 24 dX12_presence_19 (n := 22) rfl rfl (by omega) (fun h15 => ?_) (fun h15 => ?_)
    · refine q_aload_n C dX12_presence_24 (n := 25) rfl rfl ?_
      refine q_iload_n C dX12_presence_25 (n := 26) rfl rfl ?_
      have hp16 : zFi M1 a := p1.cg (fun j => (zup_p e2 (by omega) _))
      refine q_callVv C dX12_presence_26 (n := 29) rfl m_X12_728 v_yX12_studies (zM0 h0) ⟨by decide, rfl⟩ (c_X12_studies (w := w) (J := J) hI3 hF h0 v1 hp16 (by omega)) (Nat.le_of_ble_eq_true rfl) rfl rfl (Nat.le_of_ble_eq_true rfl) ⟨Nat.le_refl _, Nat.le_refl _⟩ (fun M17 J18  hI19 h20 => ?_)
      have hK22 := hK4.tr h20 rfl rfl rfl
      refine q_aload_n C dX12_presence_29 (n := 30) rfl rfl ?_
      refine q_getR C dX12_presence_30 (n := 33) rfl f_X12_251 (zM0 h0) (hF _ _ _ (zM264 h0)) ?_
      refine q_bipush C dX12_presence_33 (n := 35) rfl (x := 40) (by decide) ?_
      refine q_iload_n C dX12_presence_35 (n := 36) rfl rfl ?_
      refine q_imul C dX12_presence_36 (n := 37) rfl (v := 40 * v2) rfl ?_
      refine q_iload_n C dX12_presence_37 (n := 38) rfl rfl ?_
      refine q_iadd C dX12_presence_38 (n := 39) rfl (v := (40 * v2) + v3) rfl ?_
      have g23 := zI.at hI19 ((zM266 h0) ((40 * v2) + v3))
      refine q_iald C dX12_presence_39 (n := 40) rfl (zM265 h0) (by omega) (v := M17 (a + 78) ((40 * v2) + v3)) rfl ?_
      exact q_iret C dX12_presence_40 ⟨rfl, rfl⟩ (by rw [hPo]; exact ⟨M17 (a + 78) ((40 * v2) + v3), M17, J18, rfl, rfl, hI19, hK22⟩)
    · refine q_iconst C dX12_presence_22 (n := 23) rfl ?_
      exact q_iret C dX12_presence_23 ⟨rfl, rfl⟩ (by rw [hPo]; exact ⟨(-1), M1, J, rfl, rfl, hI3, hK4⟩)
theorem c_X12_outcomes {w : zWp} {T : zTl} {M : zMm} {J : zJm} {R : zRm'} {G : zGt} {F : zRm'} {a : Nat} (hI : zI G M) (hF : zF F R) (h0 : zModel T F G a) (v1 : Int) (p1 : zFi M a) (p2 : -2147483648 ≤ v1 ∧ v1 ≤ 2147483647) : zCt w 12 0 0 yX12_outcomes cX12_outcomes 4 (some .int) [.ref (w.2.1 + a), zi v1] (T, M, J, R) (zPi T R G (fun x M2 => (zMd a [9, 10, 11, 12, 13, 14, 15, 16, 17, 18, 20, 22, 23, 24, 25, 26, 27, 28, 29, 30, 31, 32, 33, 34, 35, 36, 37, 38, 39, 40, 41, 42, 43, 44, 45, 46, 47, 48, 51, 52, 53, 54, 55, 56, 57, 58, 59, 60, 61, 62, 63, 64, 65, 66, 67, 78, 79, 80, 81, 82] [0, 9, 11, 23, 24, 25, 26, 27, 28, 29, 34, 37, 57, 58, 59, 60, 61, 62, 63, 64, 65, 74, 75, 76, 78, 88, 89, 99, 100, 101, 118] [] M M2))) := by
  refine zCt.of rfl (Nat.le_of_ble_eq_true rfl) ?_
  intro p e s m args below meth c C
  obtain ⟨Po, hPo⟩ : ∃ Po, Po = zPi T R G (fun x M2 => (zMd a [9, 10, 11, 12, 13, 14, 15, 16, 17, 18, 20, 22, 23, 24, 25, 26, 27, 28, 29, 30, 31, 32, 33, 34, 35, 36, 37, 38, 39, 40, 41, 42, 43, 44, 45, 46, 47, 48, 51, 52, 53, 54, 55, 56, 57, 58, 59, 60, 61, 62, 63, 64, 65, 66, 67, 78, 79, 80, 81, 82] [0, 9, 11, 23, 24, 25, 26, 27, 28, 29, 34, 37, 57, 58, 59, 60, 61, 62, 63, 64, 65, 74, 75, 76, 78, 88, 89, 99, 100, 101, 118] [] M M2)) := ⟨_, rfl⟩
  rw [← hPo]
  have hK0 : zMd a [9, 10, 11, 12, 13, 14, 15, 16, 17, 18, 20, 22, 23, 24, 25, 26, 27, 28, 29, 30, 31, 32, 33, 34, 35, 36, 37, 38, 39, 40, 41, 42, 43, 44, 45, 46, 47, 48, 51, 52, 53, 54, 55, 56, 57, 58, 59, 60, 61, 62, 63, 64, 65, 66, 67, 78, 79, 80, 81, 82] [0, 9, 11, 23, 24, 25, 26, 27, 28, 29, 34, 37, 57, 58, 59, 60, 61, 62, 63, 64, 65, 74, 75, 76, 78, 88, 89, 99, 100, 101, 118] [] M M := zMd.rf
  show zK w p e 12 0 0 s m args below meth c 4 T Po 0 [.ref (w.2.1 + a), zi v1, .null, .null] [] (T, M, J, R)
  refine q_aload_n C dX12_outcomes_0 (n := 1) rfl rfl ?_
  refine q_iconst C dX12_outcomes_1 (n := 2) rfl ?_
  refine q_putI C dX12_outcomes_2 (n := 5) rfl f_X12_1 (zM0 h0) ⟨rfl, rfl⟩ (fun M1 (e2 : M1 = zup M a 0 0) => ?_)
  have hI3 : zI G M1 := hI.put e2 (zM1 h0) rfl (by omega)
  have hK4 := hK0.upS e2 rfl
  refine q_aload_n C dX12_outcomes_5 (n := 6) rfl rfl ?_
  refine q_iload_n C dX12_outcomes_6 (n := 7) rfl rfl ?_
  refine q_callVp C dX12_outcomes_7 (n := 10) rfl m_X12_281 v_yX12_isFile (zM0 h0) ⟨by decide, rfl⟩ (c_X12_isFile (w := w) (J := J) hI3 hF h0 v1 (by omega)) (Nat.le_of_ble_eq_true rfl) rfl rfl (Nat.le_of_ble_eq_true rfl) ⟨Nat.le_refl _, Nat.le_refl _⟩ (fun x7 h8 => ?_)
  obtain ⟨h5, h6⟩ := h8
  refine q_if_ne C 15 dX12_outcomes_10 (n := 13) rfl rfl (by omega) (fun h9 => ?_) (fun h9 => ?_)
  · refine q_aload_n C dX12_outcomes_15 (n := 16) rfl rfl ?_
    refine q_iload_n C dX12_outcomes_16 (n := 17) rfl rfl ?_
    have hp10 : zFi M1 a := p1.cg (fun j => (zup_p e2 (by omega) _))
    refine q_callVv C dX12_outcomes_17 (n := 20) rfl m_X12_728 v_yX12_studies (zM0 h0) ⟨by decide, rfl⟩ (c_X12_studies (w := w) (J := J) hI3 hF h0 v1 hp10 (by omega)) (Nat.le_of_ble_eq_true rfl) rfl rfl (Nat.le_of_ble_eq_true rfl) ⟨Nat.le_refl _, Nat.le_refl _⟩ (fun M11 J12  hI13 h14 => ?_)
    have hK16 := hK4.tr h14 rfl rfl rfl
    refine q_iconst C dX12_outcomes_20 (n := 21) rfl ?_
    refine q_istore_n C [.ref (w.2.1 + a), zi v1, zi 0, .null] dX12_outcomes_21 (n := 22) rfl rfl rfl ?_
    refine q_iconst C dX12_outcomes_22 (n := 23) rfl ?_
    refine q_istore_n C [.ref (w.2.1 + a), zi v1, zi 0, zi 0] dX12_outcomes_23 (n := 24) rfl rfl rfl ?_
    have L_23 : ∀ n24 : Nat, ∀ (u17 : Int) (u18 : Int), (-2147483648 ≤ u17 ∧ u17 ≤ 2147483647) → (-2147483648 ≤ u18 ∧ u18 ≤ 2147483647) → (0 ≤ u18 ∧ u18 ≤ 8) → (0 ≤ u17 ∧ u17 ≤ u18) → (8 - u18 + 1 ≤ (n24 : Int)) → zK w p e 12 0 0 s m args below meth c 4 T Po 24 [.ref (w.2.1 + a), .null, zi u17, zi u18] [] (T, M11, J12, R) := by
      intro n24
      induction n24 with
      | zero =>
        intro u17 u18 h19 h20 h21 h22 hm26
        exfalso
        omega
      | succ n24 ih25 =>
        intro u17 u18 h19 h20 h21 h22 hm26
        refine q_iload_n C dX12_outcomes_24 (n := 25) rfl rfl ?_
        refine q_iconst C dX12_outcomes_25 (n := 26) rfl ?_
        refine q_aload_n C dX12_outcomes_26 (n := 27) rfl rfl ?_
        refine q_getR C dX12_outcomes_27 (n := 30) rfl f_X12_17 (zM0 h0) (hF _ _ _ (zM7 h0)) ?_
        refine q_sipush C dX12_outcomes_30 (n := 33) rfl (x := 168) (by decide) ?_
        have g27 := zI.at hI (((zM9 h0) 168).trans (zfG_168 (by omega)))
        refine q_iald C dX12_outcomes_33 (n := 34) rfl (zM8 h0) (by omega) (v := M (a + 2) 168) ((h14.getA rfl rfl rfl).trans (zup_p e2 (by omega) _)) ?_
        refine q_ishl C dX12_outcomes_34 (n := 35) rfl (v := zshl 1 (M (a + 2) 168)) rfl ?_
        have g28 := zr_shl 1 (M (a + 2) 168)
        have g29 : 0 ≤ M (a + 2) 168 ∧ M (a + 2) 168 ≤ 3 → 1 ≤ zshl 1 (M (a + 2) 168) ∧ zshl 1 (M (a + 2) 168) ≤ 8 := fun h => zshl1 h
        refine q_icmp_ge C 61 dX12_outcomes_35 (n := 38) rfl rfl (by omega) (fun h30 => ?_) (fun h30 => ?_)
        · refine q_iload_n C dX12_outcomes_61 (n := 62) rfl rfl ?_
          exact q_iret C dX12_outcomes_62 ⟨rfl, rfl⟩ (by rw [hPo]; exact ⟨u17, M11, J12, rfl, rfl, hI13, hK16⟩)
        · refine q_iload_n C dX12_outcomes_38 (n := 39) rfl rfl ?_
          refine q_aload_n C dX12_outcomes_39 (n := 40) rfl rfl ?_
          refine q_iload_n C dX12_outcomes_40 (n := 41) rfl rfl ?_
          refine q_callVp C dX12_outcomes_41 (n := 44) rfl m_X12_731 v_yX12_leastLike (zM0 h0) ⟨by decide, rfl⟩ (c_X12_leastLike (w := w) (J := J12) hI13 hF h0 u18 (by omega)) (Nat.le_of_ble_eq_true rfl) rfl rfl (Nat.le_of_ble_eq_true rfl) ⟨Nat.le_refl _, Nat.le_refl _⟩ (fun x32 h33 => ?_)
          refine q_iload_n C dX12_outcomes_44 (n := 45) rfl rfl ?_
          have J_38 : ∀ (u34 : Int), (-2147483648 ≤ u34 ∧ u34 ≤ 2147483647) → (u34 = 0 ∨ u34 = 1) → (0 ≤ u34 ∧ u34 ≤ 1) → zK w p e 12 0 0 s m args below meth c 4 T Po 53 [.ref (w.2.1 + a), .null, .null, zi u18] [zi u34, zi u17] (T, M11, J12, R) := by
            intro u34 h35 h36 h37
            refine q_iadd C dX12_outcomes_53 (n := 54) rfl (v := u17 + u34) rfl ?_
            refine q_istore_n C [.ref (w.2.1 + a), .null, zi (u17 + u34), zi u18] dX12_outcomes_54 (n := 55) rfl rfl rfl ?_
            refine q_iinc C [.ref (w.2.1 + a), .null, zi (u17 + u34), zi (u18 + 1)] dX12_outcomes_55 (n := 58) rfl rfl rfl rfl ?_
            refine q_goto C 24 dX12_outcomes_58 rfl ?_
            exact zK.weak (ih25 (u17 + u34) (u18 + 1) (by omega) (by omega) (by omega) (by omega) (by omega)) (zwk_c (zwk_n (zwk_c (zwk_c zwk_e))))
          refine q_icmp_ne C 52 dX12_outcomes_45 (n := 48) rfl rfl (by omega) (fun h39 => ?_) (fun h39 => ?_)
          · refine q_iconst C dX12_outcomes_52 (n := 53) rfl ?_
            exact zK.weak (J_38 0 (by omega) (by omega) (by omega)) (zwk_c (zwk_n (zwk_n (zwk_c zwk_e))))
          · refine q_iconst C dX12_outcomes_48 (n := 49) rfl ?_
            refine q_goto C 53 dX12_outcomes_49 rfl ?_
            exact zK.weak (J_38 1 (by omega) (by omega) (by omega)) (zwk_c (zwk_n (zwk_n (zwk_c zwk_e))))
    exact zK.weak (L_23 _ 0 0 (by omega) (by omega) (by omega) (by omega) (Int.self_le_toNat _)) (zwk_c (zwk_n (zwk_c (zwk_c zwk_e))))
  · refine q_iconst C dX12_outcomes_13 (n := 14) rfl ?_
    exact q_iret C dX12_outcomes_14 ⟨rfl, rfl⟩ (by rw [hPo]; exact ⟨(-1), M1, J, rfl, rfl, hI3, hK4⟩)
theorem c_X12_like {w : zWp} {T : zTl} {M : zMm} {J : zJm} {R : zRm'} {G : zGt} {F : zRm'} {a : Nat} (hI : zI G M) (hF : zF F R) (h0 : zModel T F G a) (v1 : Int) (v2 : Int) (p1 : zFi M a) (p2 : -2147483648 ≤ v1 ∧ v1 ≤ 2147483647) (p3 : -2147483648 ≤ v2 ∧ v2 ≤ 2147483647) : zCt w 12 0 0 yX12_like cX12_like 3 (some .int) [.ref (w.2.1 + a), zi v1, zi v2] (T, M, J, R) (zPi T R G (fun x M2 => (zMd a [9, 10, 11, 12, 13, 14, 15, 16, 17, 18, 20, 22, 23, 24, 25, 26, 27, 28, 29, 30, 31, 32, 33, 34, 35, 36, 37, 38, 39, 40, 41, 42, 43, 44, 45, 46, 47, 48, 51, 52, 53, 54, 55, 56, 57, 58, 59, 60, 61, 62, 63, 64, 65, 66, 67, 78, 79, 80, 81, 82] [0, 9, 11, 23, 24, 25, 26, 27, 28, 29, 34, 37, 57, 58, 59, 60, 61, 62, 63, 64, 65, 74, 75, 76, 78, 88, 89, 99, 100, 101, 118] [] M M2))) := by
  refine zCt.of rfl (Nat.le_of_ble_eq_true rfl) ?_
  intro p e s m args below meth c C
  obtain ⟨Po, hPo⟩ : ∃ Po, Po = zPi T R G (fun x M2 => (zMd a [9, 10, 11, 12, 13, 14, 15, 16, 17, 18, 20, 22, 23, 24, 25, 26, 27, 28, 29, 30, 31, 32, 33, 34, 35, 36, 37, 38, 39, 40, 41, 42, 43, 44, 45, 46, 47, 48, 51, 52, 53, 54, 55, 56, 57, 58, 59, 60, 61, 62, 63, 64, 65, 66, 67, 78, 79, 80, 81, 82] [0, 9, 11, 23, 24, 25, 26, 27, 28, 29, 34, 37, 57, 58, 59, 60, 61, 62, 63, 64, 65, 74, 75, 76, 78, 88, 89, 99, 100, 101, 118] [] M M2)) := ⟨_, rfl⟩
  rw [← hPo]
  have hK0 : zMd a [9, 10, 11, 12, 13, 14, 15, 16, 17, 18, 20, 22, 23, 24, 25, 26, 27, 28, 29, 30, 31, 32, 33, 34, 35, 36, 37, 38, 39, 40, 41, 42, 43, 44, 45, 46, 47, 48, 51, 52, 53, 54, 55, 56, 57, 58, 59, 60, 61, 62, 63, 64, 65, 66, 67, 78, 79, 80, 81, 82] [0, 9, 11, 23, 24, 25, 26, 27, 28, 29, 34, 37, 57, 58, 59, 60, 61, 62, 63, 64, 65, 74, 75, 76, 78, 88, 89, 99, 100, 101, 118] [] M M := zMd.rf
  show zK w p e 12 0 0 s m args below meth c 3 T Po 0 [.ref (w.2.1 + a), zi v1, zi v2] [] (T, M, J, R)
  refine q_aload_n C dX12_like_0 (n := 1) rfl rfl ?_
  refine q_iconst C dX12_like_1 (n := 2) rfl ?_
  refine q_putI C dX12_like_2 (n := 5) rfl f_X12_1 (zM0 h0) ⟨rfl, rfl⟩ (fun M1 (e2 : M1 = zup M a 0 0) => ?_)
  have hI3 : zI G M1 := hI.put e2 (zM1 h0) rfl (by omega)
  have hK4 := hK0.upS e2 rfl
  refine q_aload_n C dX12_like_5 (n := 6) rfl rfl ?_
  refine q_iload_n C dX12_like_6 (n := 7) rfl rfl ?_
  refine q_callVp C dX12_like_7 (n := 10) rfl m_X12_281 v_yX12_isFile (zM0 h0) ⟨by decide, rfl⟩ (c_X12_isFile (w := w) (J := J) hI3 hF h0 v1 (by omega)) (Nat.le_of_ble_eq_true rfl) rfl rfl (Nat.le_of_ble_eq_true rfl) ⟨Nat.le_refl _, Nat.le_refl _⟩ (fun x7 h8 => ?_)
  obtain ⟨h5, h6⟩ := h8
  refine q_if_eq C 33 dX12_like_10 (n := 13) rfl rfl (by omega) (fun h9 => ?_) (fun h9 => ?_)
  · refine q_iconst C dX12_like_33 (n := 34) rfl ?_
    exact q_iret C dX12_like_34 ⟨rfl, rfl⟩ (by rw [hPo]; exact ⟨(-1), M1, J, rfl, rfl, hI3, hK4⟩)
  · refine q_iload_n C dX12_like_13 (n := 14) rfl rfl ?_
    refine q_iconst C dX12_like_14 (n := 15) rfl ?_
    refine q_iconst C dX12_like_15 (n := 16) rfl ?_
    refine q_aload_n C dX12_like_16 (n := 17) rfl rfl ?_
    refine q_getR C dX12_like_17 (n := 20) rfl f_X12_17 (zM0 h0) (hF _ _ _ (zM7 h0)) ?_
    refine q_sipush C dX12_like_20 (n := 23) rfl (x := 168) (by decide) ?_
    have g10 := zI.at hI (((zM9 h0) 168).trans (zfG_168 (by omega)))
    refine q_iald C dX12_like_23 (n := 24) rfl (zM8 h0) (by omega) (v := M (a + 2) 168) (zup_p e2 (by omega) _) ?_
    refine q_ishl C dX12_like_24 (n := 25) rfl (v := zshl 1 (M (a + 2) 168)) rfl ?_
    have g11 := zr_shl 1 (M (a + 2) 168)
    have g12 : 0 ≤ M (a + 2) 168 ∧ M (a + 2) 168 ≤ 3 → 1 ≤ zshl 1 (M (a + 2) 168) ∧ zshl 1 (M (a + 2) 168) ≤ 8 := fun h => zshl1 h
    refine q_iconst C dX12_like_25 (n := 26) rfl ?_
    refine q_isub C dX12_like_26 (n := 27) rfl (v := (zshl 1 (M (a + 2) 168)) - 1) rfl ?_
    refine q_callSp C dX12_like_27 (n := 30) rfl m_X12_277 s_yX12_isIn (c_X12_isIn (w := w) (J := J) hI3 hF v2 0 ((zshl 1 (M (a + 2) 168)) - 1) (by omega) (by omega) (by omega)) (Nat.le_of_ble_eq_true rfl) rfl rfl (Nat.le_of_ble_eq_true rfl) ⟨Nat.le_refl _, Nat.le_refl _⟩ (fun x16 h17 => ?_)
    obtain ⟨h13, h14, h15⟩ := h17
    refine q_if_ne C 35 dX12_like_30 (n := 33) rfl rfl (by omega) (fun h18 => ?_) (fun h18 => ?_)
    · refine q_aload_n C dX12_like_35 (n := 36) rfl rfl ?_
      refine q_iload_n C dX12_like_36 (n := 37) rfl rfl ?_
      have hp19 : zFi M1 a := p1.cg (fun j => (zup_p e2 (by omega) _))
      refine q_callVv C dX12_like_37 (n := 40) rfl m_X12_728 v_yX12_studies (zM0 h0) ⟨by decide, rfl⟩ (c_X12_studies (w := w) (J := J) hI3 hF h0 v1 hp19 (by omega)) (Nat.le_of_ble_eq_true rfl) rfl rfl (Nat.le_of_ble_eq_true rfl) ⟨Nat.le_refl _, Nat.le_refl _⟩ (fun M20 J21  hI22 h23 => ?_)
      have hK25 := hK4.tr h23 rfl rfl rfl
      refine q_aload_n C dX12_like_40 (n := 41) rfl rfl ?_
      refine q_iload_n C dX12_like_41 (n := 42) rfl rfl ?_
      refine q_callVp C dX12_like_42 (n := 45) rfl m_X12_731 v_yX12_leastLike (zM0 h0) ⟨by decide, rfl⟩ (c_X12_leastLike (w := w) (J := J21) hI22 hF h0 v2 (by omega)) (Nat.le_of_ble_eq_true rfl) rfl rfl (Nat.le_of_ble_eq_true rfl) ⟨Nat.le_refl _, Nat.le_refl _⟩ (fun x27 h28 => ?_)
      exact q_iret C dX12_like_45 ⟨rfl, rfl⟩ (by rw [hPo]; exact ⟨x27, M20, J21, rfl, rfl, hI22, hK25⟩)
    · refine q_iconst C dX12_like_33 (n := 34) rfl ?_
      exact q_iret C dX12_like_34 ⟨rfl, rfl⟩ (by rw [hPo]; exact ⟨(-1), M1, J, rfl, rfl, hI3, hK4⟩)
theorem c_X12_depends {w : zWp} {T : zTl} {M : zMm} {J : zJm} {R : zRm'} {G : zGt} {F : zRm'} {a : Nat} (hI : zI G M) (hF : zF F R) (h0 : zModel T F G a) (v1 : Int) (p1 : zFi M a) (p2 : -2147483648 ≤ v1 ∧ v1 ≤ 2147483647) : zCt w 12 0 0 yX12_depends cX12_depends 5 (some .int) [.ref (w.2.1 + a), zi v1] (T, M, J, R) (zPi T R G (fun x M2 => (zMd a [9, 10, 11, 12, 13, 14, 15, 16, 17, 18, 20, 22, 23, 24, 25, 26, 27, 28, 29, 30, 31, 32, 33, 34, 35, 36, 37, 38, 39, 40, 41, 42, 43, 44, 45, 46, 47, 48, 51, 52, 53, 54, 55, 56, 57, 58, 59, 60, 61, 62, 63, 64, 65, 66, 67, 78, 79, 80, 81, 82] [0, 9, 11, 23, 24, 25, 26, 27, 28, 29, 34, 37, 57, 58, 59, 60, 61, 62, 63, 64, 65, 74, 75, 76, 78, 88, 89, 99, 100, 101, 118] [] M M2))) := by
  refine zCt.of rfl (Nat.le_of_ble_eq_true rfl) ?_
  intro p e s m args below meth c C
  obtain ⟨Po, hPo⟩ : ∃ Po, Po = zPi T R G (fun x M2 => (zMd a [9, 10, 11, 12, 13, 14, 15, 16, 17, 18, 20, 22, 23, 24, 25, 26, 27, 28, 29, 30, 31, 32, 33, 34, 35, 36, 37, 38, 39, 40, 41, 42, 43, 44, 45, 46, 47, 48, 51, 52, 53, 54, 55, 56, 57, 58, 59, 60, 61, 62, 63, 64, 65, 66, 67, 78, 79, 80, 81, 82] [0, 9, 11, 23, 24, 25, 26, 27, 28, 29, 34, 37, 57, 58, 59, 60, 61, 62, 63, 64, 65, 74, 75, 76, 78, 88, 89, 99, 100, 101, 118] [] M M2)) := ⟨_, rfl⟩
  rw [← hPo]
  have hK0 : zMd a [9, 10, 11, 12, 13, 14, 15, 16, 17, 18, 20, 22, 23, 24, 25, 26, 27, 28, 29, 30, 31, 32, 33, 34, 35, 36, 37, 38, 39, 40, 41, 42, 43, 44, 45, 46, 47, 48, 51, 52, 53, 54, 55, 56, 57, 58, 59, 60, 61, 62, 63, 64, 65, 66, 67, 78, 79, 80, 81, 82] [0, 9, 11, 23, 24, 25, 26, 27, 28, 29, 34, 37, 57, 58, 59, 60, 61, 62, 63, 64, 65, 74, 75, 76, 78, 88, 89, 99, 100, 101, 118] [] M M := zMd.rf
  show zK w p e 12 0 0 s m args below meth c 5 T Po 0 [.ref (w.2.1 + a), zi v1, .null, .null, .null] [] (T, M, J, R)
  refine q_aload_n C dX12_depends_0 (n := 1) rfl rfl ?_
  refine q_iconst C dX12_depends_1 (n := 2) rfl ?_
  refine q_putI C dX12_depends_2 (n := 5) rfl f_X12_1 (zM0 h0) ⟨rfl, rfl⟩ (fun M1 (e2 : M1 = zup M a 0 0) => ?_)
  have hI3 : zI G M1 := hI.put e2 (zM1 h0) rfl (by omega)
  have hK4 := hK0.upS e2 rfl
  refine q_aload_n C dX12_depends_5 (n := 6) rfl rfl ?_
  refine q_iload_n C dX12_depends_6 (n := 7) rfl rfl ?_
  refine q_callVp C dX12_depends_7 (n := 10) rfl m_X12_281 v_yX12_isFile (zM0 h0) ⟨by decide, rfl⟩ (c_X12_isFile (w := w) (J := J) hI3 hF h0 v1 (by omega)) (Nat.le_of_ble_eq_true rfl) rfl rfl (Nat.le_of_ble_eq_true rfl) ⟨Nat.le_refl _, Nat.le_refl _⟩ (fun x7 h8 => ?_)
  obtain ⟨h5, h6⟩ := h8
  refine q_if_ne C 15 dX12_depends_10 (n := 13) rfl rfl (by omega) (fun h9 => ?_) (fun h9 => ?_)
  · refine q_aload_n C dX12_depends_15 (n := 16) rfl rfl ?_
    refine q_iload_n C dX12_depends_16 (n := 17) rfl rfl ?_
    have hp10 : zFi M1 a := p1.cg (fun j => (zup_p e2 (by omega) _))
    refine q_callVv C dX12_depends_17 (n := 20) rfl m_X12_728 v_yX12_studies (zM0 h0) ⟨by decide, rfl⟩ (c_X12_studies (w := w) (J := J) hI3 hF h0 v1 hp10 (by omega)) (Nat.le_of_ble_eq_true rfl) rfl rfl (Nat.le_of_ble_eq_true rfl) ⟨Nat.le_refl _, Nat.le_refl _⟩ (fun M11 J12  hI13 h14 => ?_)
    have hK16 := hK4.tr h14 rfl rfl rfl
    refine q_iconst C dX12_depends_20 (n := 21) rfl ?_
    refine q_istore_n C [.ref (w.2.1 + a), zi v1, zi 0, .null, .null] dX12_depends_21 (n := 22) rfl rfl rfl ?_
    refine q_iconst C dX12_depends_22 (n := 23) rfl ?_
    refine q_istore_n C [.ref (w.2.1 + a), zi v1, zi 0, zi 0, .null] dX12_depends_23 (n := 24) rfl rfl rfl ?_
    have L_22 : ∀ n23 : Nat, ∀ (u17 : Int) (u18 : Int), (-2147483648 ≤ u17 ∧ u17 ≤ 2147483647) → (-2147483648 ≤ u18 ∧ u18 ≤ 2147483647) → (0 ≤ u18 ∧ u18 ≤ 3) → (3 - u18 + 1 ≤ (n23 : Int)) → zK w p e 12 0 0 s m args below meth c 5 T Po 24 [.ref (w.2.1 + a), .null, zi u17, zi u18, .null] [] (T, M11, J12, R) := by
      intro n23
      induction n23 with
      | zero =>
        intro u17 u18 h19 h20 h21 hm25
        exfalso
        omega
      | succ n23 ih24 =>
        intro u17 u18 h19 h20 h21 hm25
        refine q_iload_n C dX12_depends_24 (n := 25) rfl rfl ?_
        refine q_aload_n C dX12_depends_25 (n := 26) rfl rfl ?_
        refine q_getR C dX12_depends_26 (n := 29) rfl f_X12_17 (zM0 h0) (hF _ _ _ (zM7 h0)) ?_
        refine q_sipush C dX12_depends_29 (n := 32) rfl (x := 168) (by decide) ?_
        have g26 := zI.at hI (((zM9 h0) 168).trans (zfG_168 (by omega)))
        refine q_iald C dX12_depends_32 (n := 33) rfl (zM8 h0) (by omega) (v := M (a + 2) 168) ((h14.getA rfl rfl rfl).trans (zup_p e2 (by omega) _)) ?_
        refine q_icmp_ge C 87 dX12_depends_33 (n := 36) rfl rfl (by omega) (fun h27 => ?_) (fun h27 => ?_)
        · refine q_iload_n C dX12_depends_87 (n := 88) rfl rfl ?_
          exact q_iret C dX12_depends_88 ⟨rfl, rfl⟩ (by rw [hPo]; exact ⟨u17, M11, J12, rfl, rfl, hI13, hK16⟩)
        · refine q_iconst C dX12_depends_36 (n := 37) rfl ?_
          refine q_istore C [.ref (w.2.1 + a), .null, zi u17, zi u18, zi 0] dX12_depends_37 (n := 39) rfl rfl rfl ?_
          have L_33 : ∀ n34 : Nat, ∀ (u28 : Int) (u29 : Int), (-2147483648 ≤ u28 ∧ u28 ≤ 2147483647) → (-2147483648 ≤ u29 ∧ u29 ≤ 2147483647) → (0 ≤ u29 ∧ u29 ≤ 8) → (8 - u29 + 1 ≤ (n34 : Int)) → zK w p e 12 0 0 s m args below meth c 5 T Po 39 [.ref (w.2.1 + a), .null, zi u28, zi u18, zi u29] [] (T, M11, J12, R) := by
            intro n34
            induction n34 with
            | zero =>
              intro u28 u29 h30 h31 h32 hm36
              exfalso
              omega
            | succ n34 ih35 =>
              intro u28 u29 h30 h31 h32 hm36
              refine q_iload C dX12_depends_39 (n := 41) rfl rfl ?_
              refine q_iconst C dX12_depends_41 (n := 42) rfl ?_
              refine q_aload_n C dX12_depends_42 (n := 43) rfl rfl ?_
              refine q_getR C dX12_depends_43 (n := 46) rfl f_X12_17 (zM0 h0) (hF _ _ _ (zM7 h0)) ?_
              refine q_sipush C dX12_depends_46 (n := 49) rfl (x := 168) (by decide) ?_
              refine q_iald C dX12_depends_49 (n := 50) rfl (zM8 h0) (by omega) (v := M (a + 2) 168) ((h14.getA rfl rfl rfl).trans (zup_p e2 (by omega) _)) ?_
              refine q_ishl C dX12_depends_50 (n := 51) rfl (v := zshl 1 (M (a + 2) 168)) rfl ?_
              have g37 := zr_shl 1 (M (a + 2) 168)
              have g38 : 0 ≤ M (a + 2) 168 ∧ M (a + 2) 168 ≤ 3 → 1 ≤ zshl 1 (M (a + 2) 168) ∧ zshl 1 (M (a + 2) 168) ≤ 8 := fun h => zshl1 h
              refine q_icmp_ge C 81 dX12_depends_51 (n := 54) rfl rfl (by omega) (fun h39 => ?_) (fun h39 => ?_)
              · refine q_iinc C [.ref (w.2.1 + a), .null, zi u28, zi (u18 + 1), zi u29] dX12_depends_81 (n := 84) rfl rfl rfl rfl ?_
                refine q_goto C 24 dX12_depends_84 rfl ?_
                exact zK.weak (ih24 u28 (u18 + 1) (by omega) (by omega) (by omega) (by omega)) (zwk_c (zwk_n (zwk_c (zwk_c (zwk_n zwk_e)))))
              · refine q_aload_n C dX12_depends_54 (n := 55) rfl rfl ?_
                refine q_iload C dX12_depends_55 (n := 57) rfl rfl ?_
                refine q_iload C dX12_depends_57 (n := 59) rfl rfl ?_
                refine q_iconst C dX12_depends_59 (n := 60) rfl ?_
                refine q_iload_n C dX12_depends_60 (n := 61) rfl rfl ?_
                refine q_ishl C dX12_depends_61 (n := 62) rfl (v := zshl 1 u18) rfl ?_
                have g40 := zr_shl 1 u18
                have g41 : 0 ≤ u18 ∧ u18 ≤ 3 → 1 ≤ zshl 1 u18 ∧ zshl 1 u18 ≤ 8 := fun h => zshl1 h
                refine q_ixor C dX12_depends_62 (n := 63) rfl (v := zxor u29 (zshl 1 u18)) rfl ?_
                have g42 := zr_xor u29 (zshl 1 u18)
                have gx8 := zxor8 (s := u29) (b := u18) (by omega) (by omega)
                refine q_callVp C dX12_depends_63 (n := 66) rfl m_X12_725 v_yX12_areAlike (zM0 h0) ⟨by decide, rfl⟩ (c_X12_areAlike (w := w) (J := J12) hI13 hF h0 u29 (zxor u29 (zshl 1 u18)) (by omega) (by omega)) (Nat.le_of_ble_eq_true rfl) rfl rfl (Nat.le_of_ble_eq_true rfl) ⟨Nat.le_refl _, Nat.le_refl _⟩ (fun x45 h46 => ?_)
                obtain ⟨h43, h44⟩ := h46
                have J_49 : ∀ (u47 : Int), (-2147483648 ≤ u47 ∧ u47 ≤ 2147483647) → zK w p e 12 0 0 s m args below meth c 5 T Po 75 [.ref (w.2.1 + a), .null, zi u47, zi u18, zi u29] [] (T, M11, J12, R) := by
                  intro u47 h48
                  refine q_iinc C [.ref (w.2.1 + a), .null, zi u47, zi u18, zi (u29 + 1)] dX12_depends_75 (n := 78) rfl rfl rfl rfl ?_
                  refine q_goto C 39 dX12_depends_78 rfl ?_
                  exact zK.weak (ih35 u47 (u29 + 1) (by omega) (by omega) (by omega) (by omega)) (zwk_c (zwk_n (zwk_c (zwk_c (zwk_c zwk_e)))))
                refine q_if_ne C 75 dX12_depends_66 (n := 69) rfl rfl (by omega) (fun h50 => ?_) (fun h50 => ?_)
                · exact zK.weak (J_49 u28 (by omega)) (zwk_c (zwk_n (zwk_c (zwk_c (zwk_c zwk_e)))))
                · refine q_iload_n C dX12_depends_69 (n := 70) rfl rfl ?_
                  refine q_iconst C dX12_depends_70 (n := 71) rfl ?_
                  refine q_iload_n C dX12_depends_71 (n := 72) rfl rfl ?_
                  refine q_ishl C dX12_depends_72 (n := 73) rfl (v := zshl 1 u18) rfl ?_
                  have g51 := zr_shl 1 u18
                  have g52 : 0 ≤ u18 ∧ u18 ≤ 3 → 1 ≤ zshl 1 u18 ∧ zshl 1 u18 ≤ 8 := fun h => zshl1 h
                  refine q_ior C dX12_depends_73 (n := 74) rfl (v := zor u28 (zshl 1 u18)) rfl ?_
                  have g53 := zr_or u28 (zshl 1 u18)
                  have g54 : zand u28 31 = 0 → zand (zor u28 (zshl 1 u18)) 31 = zand (zshl 1 u18) 31 := fun h => zl_or h
                  refine q_istore_n C [.ref (w.2.1 + a), .null, zi (zor u28 (zshl 1 u18)), zi u18, zi u29] dX12_depends_74 (n := 75) rfl rfl rfl ?_
                  exact zK.weak (J_49 (zor u28 (zshl 1 u18)) (by omega)) (zwk_c (zwk_n (zwk_c (zwk_c (zwk_c zwk_e)))))
          exact zK.weak (L_33 _ u17 0 (by omega) (by omega) (by omega) (Int.self_le_toNat _)) (zwk_c (zwk_n (zwk_c (zwk_c (zwk_c zwk_e)))))
    exact zK.weak (L_22 _ 0 0 (by omega) (by omega) (by omega) (Int.self_le_toNat _)) (zwk_c (zwk_n (zwk_c (zwk_c (zwk_n zwk_e)))))
  · refine q_iconst C dX12_depends_13 (n := 14) rfl ?_
    exact q_iret C dX12_depends_14 ⟨rfl, rfl⟩ (by rw [hPo]; exact ⟨(-1), M1, J, rfl, rfl, hI3, hK4⟩)
