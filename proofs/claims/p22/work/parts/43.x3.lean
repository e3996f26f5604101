theorem zX.st2 {M : zMm} {a : Nat} {mb mp : Int → Int} {n A0 v u z : Int} (h : zX M a mb mp n A0 v u z) {s : Int} (s0 : 0 ≤ s) (s1 : s < M a 58) : M (a + 24) s ≤ M (a + 25) s ∧ (¬ M (a + 26) s = 0 ∨ M (a + 25) s ≤ M a 25) := ⟨(h.st s0 s1).1, (Decidable.em (M (a + 26) s = 0)).symm.imp id (h.st s0 s1).2⟩
theorem zMu_st {M M2 : zMm} {a : Nat} {n : Int} (e24 : ∀ j, M2 (a + 24) j = M (a + 24) j) (e25 : ∀ j, M2 (a + 25) j = M (a + 25) j) (e31 : ∀ j, M2 (a + 31) j = M (a + 31) j) (e57 : M2 a 57 = M a 57) (e62 : M2 a 62 = M a 62) (h1 : 0 ≤ M2 a 58) (h2 : M2 a 58 ≤ M a 58) (h3 : ∀ j, M2 a 58 ≤ j → j < M a 58 → M (a + 24) j = M (a + 25) j) : zMu M2 a n = zMu M a n := by
  have hr : yR (M (a + 24)) (M (a + 25)) (M a 58) = yR (M (a + 24)) (M (a + 25)) (M2 a 58) := by
    have := yR_flat (at_ := M (a + 24)) (en := M (a + 25)) (s := M2 a 58) (M a 58 - M2 a 58).toNat h1 (fun j j0 j1 => h3 j j0 (by omega))
    rw [show M2 a 58 + ((M a 58 - M2 a 58).toNat : Int) = M a 58 by omega] at this
    exact this
  unfold zMu
  rw [funext e24, funext e25, funext e31, e57, e62, hr]
theorem zMu_go {M M2 : zMm} {a : Nat} {n : Int} (e : M2 = zup M (a + 24) (M a 58 - 1) (M (a + 24) (M a 58 - 1) + 1)) (h : 1 ≤ M a 58) : zMu M2 a n = zMu M a n - 1 := by
  have hr2 : yR (M2 (a + 24)) (M (a + 25)) (M a 58) = yR (M (a + 24)) (M (a + 25)) (M a 58) - 1 := by
    have e1 := yR_s (at_ := M (a + 24)) (en := M (a + 25)) (s := M a 58 - 1) (by omega)
    have e2 := yR_s (at_ := M2 (a + 24)) (en := M (a + 25)) (s := M a 58 - 1) (by omega)
    rw [show M a 58 - 1 + 1 = M a 58 by omega] at e1 e2
    rw [e2, e1, zup_s e, yR_cg (at_ := M (a + 24)) (en := M (a + 25)) (fun j j0 j1 => ⟨zup_n e (by omega), rfl⟩)]
    omega
  have q := fun (o : Nat) (ho : o ≠ 24) => (funext fun j => zup_p e (show a + o ≠ a + 24 by omega) j : M2 (a + o) = M (a + o))
  have q0 := fun (k : Int) => (zup_p e (show a ≠ a + 24 by omega) k : M2 a k = M a k)
  unfold zMu
  rw [q 25 (by decide), q 31 (by decide), q0, q0, q0, hr2]
  omega
section YY5
variable {mb mp at_ en sa fb cm cb ca cg cp ct cl pa ps : Int → Int} {E fr st am pc tp md po ls n A0 v u z : Int}
theorem Y_init (hE : 0 ≤ E ∧ E ≤ 100) (hm : 440 ≤ md ∧ md ≤ 495) (hp : 0 ≤ po ∧ po ≤ 495) (ha : 0 ≤ am ∧ am ≤ 440) {x y b : Int} (hx : x ≤ y ∧ y - x ≤ 440) (hb : ¬ b = 0 ∨ y ≤ md) (hB : ∀ m, 0 ≤ mb m ∧ mb m ≤ 20) : zY mb mp E 0 1 am 0 3500 md po 0 (yup at_ 0 x) (yup en 0 y) (yup sa 0 b) (yup fb 0 0) (yup cm 0 ((-1))) cb ca cg cp ct cl pa ps 0 am 0 0 0 := by
  refine ⟨⟨by omega, by omega, by omega, by omega, by omega, by omega, by omega, by omega, by omega⟩, ⟨hm.1, by omega, by omega, ?_, by omega, by omega, Int.le_refl _, by omega, by omega, by omega, ?_⟩, fun g g1 g2 => by omega, fun s s0 s1 => ?_, fun g g0 g1 => by omega, fun q => by omega, fun _ => ?_, fun q => by omega, fun _ => ⟨rfl, rfl⟩, ⟨fun i i0 i1 => by omega, fun i i0 i1 => by omega⟩, ⟨hp.1, ?_⟩, hB, ⟨fun g g0 g1 => by omega, fun _ q => by omega⟩⟩
  · rw [yup_s]
    omega
  · rw [yup_s]
    exact Int.le_refl _
  · have : s = 0 := by omega
    subst this
    rw [yup_s, yup_s, yup_s]
    exact ⟨hx.1, fun q => hb.resolve_left (fun z => z q)⟩
  · have e1 := yR_s (at_ := yup at_ 0 x) (en := yup en 0 y) (s := 0) (by omega)
    rw [yup_s, yup_s] at e1
    rw [yup_s, yup_s, show (1 : Int) = 0 + 1 by omega, e1, yP_0]
    exact ⟨rfl, by omega⟩
  · show po + 30 * (0 + 0) ≤ 495 + 600 * (E - 0) + 30 * 0
    omega
end YY5

theorem c_X12_peek {w : zWp} {T : zTl} {M : zMm} {J : zJm} {R : zRm'} {G : zGt} {F : zRm'} {a : Nat} {mb mp : Int → Int} {n A0 v u z : Int} (hI : zI G M) (hF : zF F R) (h0 : zModel T F G a) (p1 : zX M a mb mp n A0 v u z) (p2 : M a 57 = n) : zCt w 1 0 0 yX12_peek cX12_peek 2 (some .int) [.ref (w.2.1 + a)] (T, M, J, R) (zPi T R G (fun x M2 => (zMd a [] [58] [] M M2) ∧ (-1 ≤ x ∧ x ≤ 3499) ∧ (zX M2 a mb mp n A0 v u z) ∧ (zMu M2 a n = zMu M a n) ∧ (x = -1 ∨ zNx M2 a) ∧ (¬ x = -1 ∨ M2 a 58 = M (a + 27) (M a 57)))) := by
  refine zCt.of rfl (Nat.le_of_ble_eq_true rfl) ?_
  intro p e s m args below meth c C
  obtain ⟨Po, hPo⟩ : ∃ Po, Po = zPi T R G (fun x M2 => (zMd a [] [58] [] M M2) ∧ (-1 ≤ x ∧ x ≤ 3499) ∧ (zX M2 a mb mp n A0 v u z) ∧ (zMu M2 a n = zMu M a n) ∧ (x = -1 ∨ zNx M2 a) ∧ (¬ x = -1 ∨ M2 a 58 = M (a + 27) (M a 57))) := ⟨_, rfl⟩
  rw [← hPo]
  have hK0 : zMd a [] [58] [] M M := zMd.rf
  have gk_frame := zI.at hI (zM142 h0)
  have gfb := zX.fb p1 rfl
  have gx0 := zX.num p1
  show zK w p e 1 0 0 s m args below meth c 2 T Po 0 [.ref (w.2.1 + a), .null] [] (T, M, J, R)
  have L_10 : ∀ n11 : Nat, ∀ (M2 : zMm) (J3 : zJm), zI G M2 → zMd a [] [58] [] M M2 → zMd a [] [58] [] M M2 → (M2 a 58 ≤ M a 58) → (M (a + 27) (M a 57) ≤ M2 a 58) → (∀ j, M2 a 58 ≤ j → j < M a 58 → M (a + 24) j = M (a + 25) j) → (M2 a 58 + 1 ≤ (n11 : Int)) → zK w p e 1 0 0 s m args below meth c 2 T Po 0 [.ref (w.2.1 + a), .null] [] (T, M2, J3, R) := by
    intro n11
    induction n11 with
    | zero =>
      intro M2 J3 hI4 hK5 hK6 h7 h8 h9 hm13
      exfalso
      have gfb := zX.fb p1 rfl
      omega
    | succ n11 ih12 =>
      intro M2 J3 hI4 hK5 hK6 h7 h8 h9 hm13
      refine q_aload_n C dX12_peek_0 (n := 1) rfl rfl ?_
      have g14 := zI.at hI4 (zM143 h0)
      refine q_getI C dX12_peek_1 (n := 4) rfl f_X12_445 (zM0 h0) (v := M2 a 58) rfl ?_
      refine q_aload_n C dX12_peek_4 (n := 5) rfl rfl ?_
      refine q_getR C dX12_peek_5 (n := 8) rfl f_X12_95 (zM0 h0) (hF _ _ _ (zM94 h0)) ?_
      refine q_aload_n C dX12_peek_8 (n := 9) rfl rfl ?_
      have g15 := zI.at hI (zM142 h0)
      refine q_getI C dX12_peek_9 (n := 12) rfl f_X12_448 (zM0 h0) (v := M a 57) (hK6.getS rfl rfl) ?_
      have g16 := zI.at hI ((zM96 h0) (M a 57))
      refine q_iald C dX12_peek_12 (n := 13) rfl (zM95 h0) (by omega) (v := M (a + 27) (M a 57)) (hK6.getA rfl rfl rfl) ?_
      have J_18 : (M2 a 58 ≤ M (a + 27) (M a 57) ∨ ¬ M (a + 24) ((M2 a 58) - 1) = M (a + 25) ((M2 a 58) - 1)) → zK w p e 1 0 0 s m args below meth c 2 T Po 54 [.ref (w.2.1 + a), .null] [] (T, M2, J3, R) := by
        intro h17
        have gfb := zX.fb p1 rfl
        have hx19 : zX M2 a mb mp n A0 v u z := zY.cgr (Y_peek p1 (by omega) (st2 := M2 a 58) (by omega) (by omega) h9) (hK6.getS rfl rfl) (hK6.getS rfl rfl) (by have hw : M2 a 58 = M2 a 58 := rfl; omega) (hK6.getS rfl rfl) (hK6.getS rfl rfl) (hK6.getS rfl rfl) (hK6.getS rfl rfl) (hK6.getS rfl rfl) (hK6.getS rfl rfl) (funext fun j => (hK6.getA rfl rfl rfl)) (funext fun j => (hK6.getA rfl rfl rfl)) (funext fun j => (hK6.getA rfl rfl rfl)) (funext fun j => (hK6.getA rfl rfl rfl)) (funext fun j => (hK6.getA rfl rfl rfl)) (funext fun j => (hK6.getA rfl rfl rfl)) (funext fun j => (hK6.getA rfl rfl rfl)) (funext fun j => (hK6.getA rfl rfl rfl)) (funext fun j => (hK6.getA rfl rfl rfl)) (funext fun j => (hK6.getA rfl rfl rfl)) (funext fun j => (hK6.getA rfl rfl rfl)) (funext fun j => (hK6.getA rfl rfl rfl)) (funext fun j => (hK6.getA rfl rfl rfl))
        have gx20 := zX.num hx19
        have hz21 : M2 a 62 = M a 62 := (hK6.getS rfl rfl)
        have hz22 : M2 a 57 = M a 57 := (hK6.getS rfl rfl)
        have hz23 : M2 a 59 = M a 59 := (hK6.getS rfl rfl)
        have hz24 : M2 a 60 = M a 60 := (hK6.getS rfl rfl)
        have hz25 : M2 a 26 = M a 26 := (hK6.getS rfl rfl)
        have hz26 : M2 a 25 = M a 25 := (hK6.getS rfl rfl)
        have hz27 : M2 a 24 = M a 24 := (hK6.getS rfl rfl)
        have hz28 : M2 a 61 = M a 61 := (hK6.getS rfl rfl)
        refine q_aload_n C dX12_peek_54 (n := 55) rfl rfl ?_
        refine q_getI C dX12_peek_55 (n := 58) rfl f_X12_445 (zM0 h0) (v := M2 a 58) rfl ?_
        refine q_aload_n C dX12_peek_58 (n := 59) rfl rfl ?_
        refine q_getR C dX12_peek_59 (n := 62) rfl f_X12_95 (zM0 h0) (hF _ _ _ (zM94 h0)) ?_
        refine q_aload_n C dX12_peek_62 (n := 63) rfl rfl ?_
        refine q_getI C dX12_peek_63 (n := 66) rfl f_X12_448 (zM0 h0) (v := M a 57) (hK6.getS rfl rfl) ?_
        refine q_iald C dX12_peek_66 (n := 67) rfl (zM95 h0) (by omega) (v := M (a + 27) (M a 57)) (hK6.getA rfl rfl rfl) ?_
        refine q_icmp_ne C 72 dX12_peek_67 (n := 70) rfl rfl (by omega) (fun h29 => ?_) (fun h29 => ?_)
        · have gs := zX.st2 hx19 (s := M2 a 58 - 1) (by omega) (by omega)
          have gt30 := zI.at hI ((zM90 h0) ((M2 a 58) - 1))
          have hz31 : M2 (a + 24) (M2 a 58 - 1) = M (a + 24) (M2 a 58 - 1) := (hK6.getA rfl rfl rfl)
          have hz32 : M2 (a + 25) (M2 a 58 - 1) = M (a + 25) (M2 a 58 - 1) := (hK6.getA rfl rfl rfl)
          have hz33 : M2 (a + 26) (M2 a 58 - 1) = M (a + 26) (M2 a 58 - 1) := (hK6.getA rfl rfl rfl)
          refine q_aload_n C dX12_peek_72 (n := 73) rfl rfl ?_
          refine q_getR C dX12_peek_73 (n := 76) rfl f_X12_86 (zM0 h0) (hF _ _ _ (zM85 h0)) ?_
          refine q_aload_n C dX12_peek_76 (n := 77) rfl rfl ?_
          refine q_getI C dX12_peek_77 (n := 80) rfl f_X12_445 (zM0 h0) (v := M2 a 58) rfl ?_
          refine q_iconst C dX12_peek_80 (n := 81) rfl ?_
          refine q_isub C dX12_peek_81 (n := 82) rfl (v := (M2 a 58) - 1) rfl ?_
          have g34 := zI.at hI ((zM87 h0) ((M2 a 58) - 1))
          refine q_iald C dX12_peek_82 (n := 83) rfl (zM86 h0) (by omega) (v := M (a + 24) ((M2 a 58) - 1)) (hK6.getA rfl rfl rfl) ?_
          refine q_istore_n C [.ref (w.2.1 + a), zi (M (a + 24) ((M2 a 58) - 1))] dX12_peek_83 (n := 84) rfl rfl rfl ?_
          refine q_aload_n C dX12_peek_84 (n := 85) rfl rfl ?_
          refine q_getR C dX12_peek_85 (n := 88) rfl f_X12_92 (zM0 h0) (hF _ _ _ (zM91 h0)) ?_
          refine q_aload_n C dX12_peek_88 (n := 89) rfl rfl ?_
          refine q_getI C dX12_peek_89 (n := 92) rfl f_X12_445 (zM0 h0) (v := M2 a 58) rfl ?_
          refine q_iconst C dX12_peek_92 (n := 93) rfl ?_
          refine q_isub C dX12_peek_93 (n := 94) rfl (v := (M2 a 58) - 1) rfl ?_
          have g35 := zI.at hI ((zM93 h0) ((M2 a 58) - 1))
          refine q_iald C dX12_peek_94 (n := 95) rfl (zM92 h0) (by omega) (v := M (a + 26) ((M2 a 58) - 1)) (hK6.getA rfl rfl rfl) ?_
          refine q_iconst C dX12_peek_95 (n := 96) rfl ?_
          refine q_icmp_ne C 108 dX12_peek_96 (n := 99) rfl rfl (by omega) (fun h36 => ?_) (fun h36 => ?_)
          · refine q_iload_n C dX12_peek_108 (n := 109) rfl rfl ?_
            exact q_iret C dX12_peek_109 ⟨rfl, rfl⟩ (by rw [hPo]; exact ⟨M (a + 24) ((M2 a 58) - 1), M2, J3, rfl, rfl, hI4, hK5, by omega, hx19, (zMu_st (fun j => (hK6.getA rfl rfl rfl)) (fun j => (hK6.getA rfl rfl rfl)) (fun j => (hK6.getA rfl rfl rfl)) (hK6.getS rfl rfl) (hK6.getS rfl rfl) (by omega) (by omega) h9), Or.inr (show M2 (a + 27) (M2 a 57) < M2 a 58 ∧ M2 (a + 24) (M2 a 58 - 1) < M2 (a + 25) (M2 a 58 - 1) from by rw [show M2 (a + 24) = M (a + 24) from funext (fun j => (hK6.getA rfl rfl rfl)), show M2 (a + 25) = M (a + 25) from funext (fun j => (hK6.getA rfl rfl rfl)), show M2 (a + 27) = M (a + 27) from funext (fun j => (hK6.getA rfl rfl rfl)), show M2 a 57 = M a 57 from (hK6.getS rfl rfl)]; omega), by omega⟩)
          · refine q_aload_n C dX12_peek_99 (n := 100) rfl rfl ?_
            refine q_getR C dX12_peek_100 (n := 103) rfl f_X12_135 (zM0 h0) (hF _ _ _ (zM133 h0)) ?_
            refine q_iload_n C dX12_peek_103 (n := 104) rfl rfl ?_
            have g37 := zI.at hI ((zM135 h0) (M (a + 24) ((M2 a 58) - 1)))
            refine q_iald C dX12_peek_104 (n := 105) rfl (zM134 h0) (by omega) (v := M (a + 40) (M (a + 24) ((M2 a 58) - 1))) (hK6.getA rfl rfl rfl) ?_
            refine q_goto C 109 dX12_peek_105 rfl ?_
            exact q_iret C dX12_peek_109 ⟨rfl, rfl⟩ (by rw [hPo]; exact ⟨M (a + 40) (M (a + 24) ((M2 a 58) - 1)), M2, J3, rfl, rfl, hI4, hK5, by omega, hx19, (zMu_st (fun j => (hK6.getA rfl rfl rfl)) (fun j => (hK6.getA rfl rfl rfl)) (fun j => (hK6.getA rfl rfl rfl)) (hK6.getS rfl rfl) (hK6.getS rfl rfl) (by omega) (by omega) h9), Or.inr (show M2 (a + 27) (M2 a 57) < M2 a 58 ∧ M2 (a + 24) (M2 a 58 - 1) < M2 (a + 25) (M2 a 58 - 1) from by rw [show M2 (a + 24) = M (a + 24) from funext (fun j => (hK6.getA rfl rfl rfl)), show M2 (a + 25) = M (a + 25) from funext (fun j => (hK6.getA rfl rfl rfl)), show M2 (a + 27) = M (a + 27) from funext (fun j => (hK6.getA rfl rfl rfl)), show M2 a 57 = M a 57 from (hK6.getS rfl rfl)]; omega), by omega⟩)
        · refine q_iconst C dX12_peek_70 (n := 71) rfl ?_
          exact q_iret C dX12_peek_71 ⟨rfl, rfl⟩ (by rw [hPo]; exact ⟨(-1), M2, J3, rfl, rfl, hI4, hK5, by omega, hx19, (zMu_st (fun j => (hK6.getA rfl rfl rfl)) (fun j => (hK6.getA rfl rfl rfl)) (fun j => (hK6.getA rfl rfl rfl)) (hK6.getS rfl rfl) (hK6.getS rfl rfl) (by omega) (by omega) h9), Or.inl rfl, by omega⟩)
      refine q_icmp_le C 54 dX12_peek_13 (n := 16) rfl rfl (by omega) (fun h38 => ?_) (fun h38 => ?_)
      · exact zK.weak (J_18 (by omega)) (zwk_c (zwk_n zwk_e))
      · refine q_aload_n C dX12_peek_16 (n := 17) rfl rfl ?_
        refine q_getR C dX12_peek_17 (n := 20) rfl f_X12_86 (zM0 h0) (hF _ _ _ (zM85 h0)) ?_
        refine q_aload_n C dX12_peek_20 (n := 21) rfl rfl ?_
        refine q_getI C dX12_peek_21 (n := 24) rfl f_X12_445 (zM0 h0) (v := M2 a 58) rfl ?_
        refine q_iconst C dX12_peek_24 (n := 25) rfl ?_
        refine q_isub C dX12_peek_25 (n := 26) rfl (v := (M2 a 58) - 1) rfl ?_
        have g39 := zI.at hI ((zM87 h0) ((M2 a 58) - 1))
        refine q_iald C dX12_peek_26 (n := 27) rfl (zM86 h0) (by omega) (v := M (a + 24) ((M2 a 58) - 1)) (hK6.getA rfl rfl rfl) ?_
        refine q_aload_n C dX12_peek_27 (n := 28) rfl rfl ?_
        refine q_getR C dX12_peek_28 (n := 31) rfl f_X12_89 (zM0 h0) (hF _ _ _ (zM88 h0)) ?_
        refine q_aload_n C dX12_peek_31 (n := 32) rfl rfl ?_
        refine q_getI C dX12_peek_32 (n := 35) rfl f_X12_445 (zM0 h0) (v := M2 a 58) rfl ?_
        refine q_iconst C dX12_peek_35 (n := 36) rfl ?_
        refine q_isub C dX12_peek_36 (n := 37) rfl (v := (M2 a 58) - 1) rfl ?_
        have g40 := zI.at hI ((zM90 h0) ((M2 a 58) - 1))
        refine q_iald C dX12_peek_37 (n := 38) rfl (zM89 h0) (by omega) (v := M (a + 25) ((M2 a 58) - 1)) (hK6.getA rfl rfl rfl) ?_
        refine q_icmp_ne C 54 dX12_peek_38 (n := 41) rfl rfl (by omega) (fun h41 => ?_) (fun h41 => ?_)
        · exact zK.weak (J_18 (by omega)) (zwk_c (zwk_n zwk_e))
        · refine q_aload_n C dX12_peek_41 (n := 42) rfl rfl ?_
          refine q_dup C dX12_peek_42 (n := 43) rfl rfl ?_
          refine q_getI C dX12_peek_43 (n := 46) rfl f_X12_445 (zM0 h0) (v := M2 a 58) rfl ?_
          refine q_iconst C dX12_peek_46 (n := 47) rfl ?_
          refine q_isub C dX12_peek_47 (n := 48) rfl (v := (M2 a 58) - 1) rfl ?_
          refine q_putI C dX12_peek_48 (n := 51) rfl f_X12_445 (zM0 h0) ⟨rfl, rfl⟩ (fun M42 (e43 : M42 = zup M2 a 58 ((M2 a 58) - 1)) => ?_)
          have hI44 : zI G M42 := hI4.put e43 (zM143 h0) rfl (by omega)
          have hK45 := hK5.upS e43 rfl
          have hK46 := hK6.upS e43 rfl
          refine q_goto C 0 dX12_peek_51 rfl ?_
          exact zK.weak (ih12 M42 J3 hI44 hK45 hK46 (by have hz47 : M42 a 58 = (M2 a 58) - 1 := (zup_s e43); omega) (by have hz48 : M42 a 58 = (M2 a 58) - 1 := (zup_s e43); omega) (fun j j0 j1 => by have hw : M42 a 58 = (M2 a 58) - 1 := zup_s e43; by_cases q : j = (M2 a 58) - 1; (rw [q]; omega); (exact h9 j (by omega) j1)) (by have hz49 : M42 a 58 = (M2 a 58) - 1 := (zup_s e43); omega)) (zwk_c (zwk_n zwk_e))
  exact zK.weak (L_10 _ M J hI hK0 (zMd.rf : zMd a [] [58] [] M M) (by omega) (by omega) (fun j j0 j1 => by omega) (Int.self_le_toNat _)) (zwk_c (zwk_n zwk_e))
theorem c_X12_goes {w : zWp} {T : zTl} {M : zMm} {J : zJm} {R : zRm'} {G : zGt} {F : zRm'} {a : Nat} {mb mp : Int → Int} {n A0 v u z : Int} (hI : zI G M) (hF : zF F R) (h0 : zModel T F G a) (p1 : zX M a mb mp n A0 v u z) (p2 : M a 57 = n) (p3 : zNx M a) : zCt w 1 0 0 yX12_goes cX12_goes 1 none [.ref (w.2.1 + a)] (T, M, J, R) (zPv T R G (fun M2 => (zMd a [24] [] [] M M2) ∧ (zX M2 a mb mp n A0 (v + 1) u z) ∧ (zMu M2 a n = zMu M a n - 1))) := by
  refine zCt.of rfl (Nat.le_of_ble_eq_true rfl) ?_
  intro p e s m args below meth c C
  obtain ⟨Po, hPo⟩ : ∃ Po, Po = zPv T R G (fun M2 => (zMd a [24] [] [] M M2) ∧ (zX M2 a mb mp n A0 (v + 1) u z) ∧ (zMu M2 a n = zMu M a n - 1)) := ⟨_, rfl⟩
  rw [← hPo]
  have hK0 : zMd a [24] [] [] M M := zMd.rf
  have gn : M (a + 27) (M a 57) < M a 58 ∧ M (a + 24) (M a 58 - 1) < M (a + 25) (M a 58 - 1) := p3
  have gfb := zX.fb p1 rfl
  have gx0 := zX.num p1
  have gt1 := zI.at hI ((zM90 h0) ((M a 58) - 1))
  show zK w p e 1 0 0 s m args below meth c 1 T Po 0 [.ref (w.2.1 + a)] [] (T, M, J, R)
  refine q_aload_n C dX12_goes_0 (n := 1) rfl rfl ?_
  refine q_getR C dX12_goes_1 (n := 4) rfl f_X12_86 (zM0 h0) (hF _ _ _ (zM85 h0)) ?_
  refine q_aload_n C dX12_goes_4 (n := 5) rfl rfl ?_
  have g2 := zI.at hI (zM143 h0)
  refine q_getI C dX12_goes_5 (n := 8) rfl f_X12_445 (zM0 h0) (v := M a 58) rfl ?_
  refine q_iconst C dX12_goes_8 (n := 9) rfl ?_
  refine q_isub C dX12_goes_9 (n := 10) rfl (v := (M a 58) - 1) rfl ?_
  refine q_dup2 C dX12_goes_10 (n := 11) rfl ⟨rfl, rfl⟩ ?_
  have g3 := zI.at hI ((zM87 h0) ((M a 58) - 1))
  refine q_iald C dX12_goes_11 (n := 12) rfl (zM86 h0) (by omega) (v := M (a + 24) ((M a 58) - 1)) rfl ?_
  refine q_iconst C dX12_goes_12 (n := 13) rfl ?_
  refine q_iadd C dX12_goes_13 (n := 14) rfl (v := (M (a + 24) ((M a 58) - 1)) + 1) rfl ?_
  refine q_iast C dX12_goes_14 (n := 15) rfl (zM86 h0) (by omega)  (fun M4 e5 => ?_)
  have hI6 : zI G M4 := hI.put e5 ((zM87 h0) ((M a 58) - 1)) rfl (by omega)
  have hK7 := hK0.upA e5 rfl
  have hx8 : zX M4 a mb mp n A0 (v + 1) u z := zY.cgr (Y_goes p1 (by omega) gn.1 gn.2) (zup_p e5 (by omega) _) (zup_p e5 (by omega) _) (zup_p e5 (by omega) _) (zup_p e5 (by omega) _) (zup_p e5 (by omega) _) (zup_p e5 (by omega) _) (zup_p e5 (by omega) _) (zup_p e5 (by omega) _) (zup_p e5 (by omega) _) (funext fun j => by by_cases q : j = ((M a 58) - 1); (rw [q, yup_s]; have hw : M4 (a + 24) ((M a 58) - 1) = (M (a + 24) ((M a 58) - 1)) + 1 := (zup_e e5 (by omega)); omega); (rw [yup_n q]; exact (zup_n e5 (by omega)))) (funext fun j => (zup_p e5 (by omega) _)) (funext fun j => (zup_p e5 (by omega) _)) (funext fun j => (zup_p e5 (by omega) _)) (funext fun j => (zup_p e5 (by omega) _)) (funext fun j => (zup_p e5 (by omega) _)) (funext fun j => (zup_p e5 (by omega) _)) (funext fun j => (zup_p e5 (by omega) _)) (funext fun j => (zup_p e5 (by omega) _)) (funext fun j => (zup_p e5 (by omega) _)) (funext fun j => (zup_p e5 (by omega) _)) (funext fun j => (zup_p e5 (by omega) _)) (funext fun j => (zup_p e5 (by omega) _))
  exact q_vret C dX12_goes_15 ⟨rfl, rfl⟩ (by rw [hPo]; exact ⟨M4, J, rfl, rfl, hI6, hK7, hx8, (zMu_go e5 (by omega))⟩)
theorem c_X12_opens {w : zWp} {T : zTl} {M : zMm} {J : zJm} {R : zRm'} {G : zGt} {F : zRm'} {a : Nat} (hI : zI G M) (hF : zF F R) (h0 : zModel T F G a) (p1 : 0 ≤ M a 57 ∧ M a 57 ≤ 101) : zCt w 1 0 0 yX12_opens cX12_opens 1 none [.ref (w.2.1 + a)] (T, M, J, R) (zPv T R G (fun M2 => (zMd a [27, 28] [] [] M M2) ∧ (M2 = (zup (zup M (a + 27) (M a 57) (M a 58)) (a + 28) (M a 57) (-1))))) := by
  refine zCt.of rfl (Nat.le_of_ble_eq_true rfl) ?_
  intro p e s m args below meth c C
  obtain ⟨Po, hPo⟩ : ∃ Po, Po = zPv T R G (fun M2 => (zMd a [27, 28] [] [] M M2) ∧ (M2 = (zup (zup M (a + 27) (M a 57) (M a 58)) (a + 28) (M a 57) (-1)))) := ⟨_, rfl⟩
  rw [← hPo]
  have hK0 : zMd a [27, 28] [] [] M M := zMd.rf
  have gk_frame := zI.at hI (zM142 h0)
  show zK w p e 1 0 0 s m args below meth c 1 T Po 0 [.ref (w.2.1 + a)] [] (T, M, J, R)
  refine q_aload_n C dX12_opens_0 (n := 1) rfl rfl ?_
  refine q_getR C dX12_opens_1 (n := 4) rfl f_X12_95 (zM0 h0) (hF _ _ _ (zM94 h0)) ?_
  refine q_aload_n C dX12_opens_4 (n := 5) rfl rfl ?_
  have g1 := zI.at hI (zM142 h0)
  refine q_getI C dX12_opens_5 (n := 8) rfl f_X12_448 (zM0 h0) (v := M a 57) rfl ?_
  refine q_aload_n C dX12_opens_8 (n := 9) rfl rfl ?_
  have g2 := zI.at hI (zM143 h0)
  refine q_getI C dX12_opens_9 (n := 12) rfl f_X12_445 (zM0 h0) (v := M a 58) rfl ?_
  refine q_iast C dX12_opens_12 (n := 13) rfl (zM95 h0) (by omega)  (fun M3 e4 => ?_)
  have hI5 : zI G M3 := hI.put e4 ((zM96 h0) (M a 57)) rfl (by omega)
  have hK6 := hK0.upA e4 rfl
  refine q_aload_n C dX12_opens_13 (n := 14) rfl rfl ?_
  refine q_getR C dX12_opens_14 (n := 17) rfl f_X12_98 (zM0 h0) (hF _ _ _ (zM97 h0)) ?_
  refine q_aload_n C dX12_opens_17 (n := 18) rfl rfl ?_
  refine q_getI C dX12_opens_18 (n := 21) rfl f_X12_448 (zM0 h0) (v := M a 57) (zup_p e4 (by omega) _) ?_
  refine q_iconst C dX12_opens_21 (n := 22) rfl ?_
  refine q_iast C dX12_opens_22 (n := 23) rfl (zM98 h0) (by omega)  (fun M7 e8 => ?_)
  have hI9 : zI G M7 := hI5.put e8 ((zM99 h0) (M a 57)) rfl (by omega)
  have hK10 := hK6.upA e8 rfl
  exact q_vret C dX12_opens_23 ⟨rfl, rfl⟩ (by rw [hPo]; exact ⟨M7, J, rfl, rfl, hI9, hK10, by subst e8; subst e4; rfl⟩)
theorem c_X12_stretch {w : zWp} {T : zTl} {M : zMm} {J : zJm} {R : zRm'} {G : zGt} {F : zRm'} {a : Nat} (hI : zI G M) (hF : zF F R) (h0 : zModel T F G a) (v1 : Int) (v2 : Int) (v3 : Int) (p1 : M a 58 ≤ 255) (p2 : 0 ≤ v1 ∧ v1 ≤ 194000) (p3 : 0 ≤ v2 ∧ v2 ≤ 194000) (p4 : v3 = 0 ∨ v3 = 1) : zCt w 1 0 0 yX12_stretch cX12_stretch 4 none [.ref (w.2.1 + a), zi v1, zi v2, zi v3] (T, M, J, R) (zPv T R G (fun M2 => (zMd a [24, 25, 26] [58] [] M M2) ∧ (M2 = (zup (zup (zup (zup M (a + 24) (M a 58) v1) (a + 25) (M a 58) v2) (a + 26) (M a 58) v3) a 58 (M a 58 + 1))))) := by
  refine zCt.of rfl (Nat.le_of_ble_eq_true rfl) ?_
  intro p e s m args below meth c C
  obtain ⟨Po, hPo⟩ : ∃ Po, Po = zPv T R G (fun M2 => (zMd a [24, 25, 26] [58] [] M M2) ∧ (M2 = (zup (zup (zup (zup M (a + 24) (M a 58) v1) (a + 25) (M a 58) v2) (a + 26) (M a 58) v3) a 58 (M a 58 + 1)))) := ⟨_, rfl⟩
  rw [← hPo]
  have hK0 : zMd a [24, 25, 26] [58] [] M M := zMd.rf
  show zK w p e 1 0 0 s m args below meth c 4 T Po 0 [.ref (w.2.1 + a), zi v1, zi v2, zi v3] [] (T, M, J, R)
  refine q_aload_n C dX12_stretch_0 (n := 1) rfl rfl ?_
  refine q_getR C dX12_stretch_1 (n := 4) rfl f_X12_86 (zM0 h0) (hF _ _ _ (zM85 h0)) ?_
  refine q_aload_n C dX12_stretch_4 (n := 5) rfl rfl ?_
  have g1 := zI.at hI (zM143 h0)
  refine q_getI C dX12_stretch_5 (n := 8) rfl f_X12_445 (zM0 h0) (v := M a 58) rfl ?_
  refine q_iload_n C dX12_stretch_8 (n := 9) rfl rfl ?_
  refine q_iast C dX12_stretch_9 (n := 10) rfl (zM86 h0) (by omega)  (fun M2 e3 => ?_)
  have hI4 : zI G M2 := hI.put e3 ((zM87 h0) (M a 58)) rfl (by omega)
  have hK5 := hK0.upA e3 rfl
  refine q_aload_n C dX12_stretch_10 (n := 11) rfl rfl ?_
  refine q_getR C dX12_stretch_11 (n := 14) rfl f_X12_89 (zM0 h0) (hF _ _ _ (zM88 h0)) ?_
  refine q_aload_n C dX12_stretch_14 (n := 15) rfl rfl ?_
  refine q_getI C dX12_stretch_15 (n := 18) rfl f_X12_445 (zM0 h0) (v := M a 58) (zup_p e3 (by omega) _) ?_
  refine q_iload_n C dX12_stretch_18 (n := 19) rfl rfl ?_
  refine q_iast C dX12_stretch_19 (n := 20) rfl (zM89 h0) (by omega)  (fun M6 e7 => ?_)
  have hI8 : zI G M6 := hI4.put e7 ((zM90 h0) (M a 58)) rfl (by omega)
  have hK9 := hK5.upA e7 rfl
  refine q_aload_n C dX12_stretch_20 (n := 21) rfl rfl ?_
  refine q_getR C dX12_stretch_21 (n := 24) rfl f_X12_92 (zM0 h0) (hF _ _ _ (zM91 h0)) ?_
  refine q_aload_n C dX12_stretch_24 (n := 25) rfl rfl ?_
  refine q_getI C dX12_stretch_25 (n := 28) rfl f_X12_445 (zM0 h0) (v := M a 58) ((zup_p e7 (by omega) _).trans (zup_p e3 (by omega) _)) ?_
  refine q_iload_n C dX12_stretch_28 (n := 29) rfl rfl ?_
  refine q_iast C dX12_stretch_29 (n := 30) rfl (zM92 h0) (by omega)  (fun M10 e11 => ?_)
  have hI12 : zI G M10 := hI8.put e11 ((zM93 h0) (M a 58)) rfl (by omega)
  have hK13 := hK9.upA e11 rfl
  refine q_aload_n C dX12_stretch_30 (n := 31) rfl rfl ?_
  refine q_dup C dX12_stretch_31 (n := 32) rfl rfl ?_
  refine q_getI C dX12_stretch_32 (n := 35) rfl f_X12_445 (zM0 h0) (v := M a 58) ((zup_p e11 (by omega) _).trans ((zup_p e7 (by omega) _).trans (zup_p e3 (by omega) _))) ?_
  refine q_iconst C dX12_stretch_35 (n := 36) rfl ?_
  refine q_iadd C dX12_stretch_36 (n := 37) rfl (v := (M a 58) + 1) rfl ?_
  refine q_putI C dX12_stretch_37 (n := 40) rfl f_X12_445 (zM0 h0) ⟨rfl, rfl⟩ (fun M14 (e15 : M14 = zup M10 a 58 ((M a 58) + 1)) => ?_)
  have hI16 : zI G M14 := hI12.put e15 (zM143 h0) rfl (by omega)
  have hK17 := hK13.upS e15 rfl
  exact q_vret C dX12_stretch_40 ⟨rfl, rfl⟩ (by rw [hPo]; exact ⟨M14, J, rfl, rfl, hI16, hK17, by subst e15; subst e11; subst e7; subst e3; rfl⟩)
