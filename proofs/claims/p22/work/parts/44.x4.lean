def zMb (M : zMm) (a : Nat) (mb mp : Int → Int) (m b : Int) : Prop := (M (a + 18) (979 + (20 * m + b)) < mp m ∨ M (a + 18) (979 + (20 * m + b)) = -1) ∧ (0 ≤ mp m → M (a + 18) (259 + (20 * m + b)) = 3 → M (a + 18) (499 + (20 * m + b)) = 1 → M (a + 20) (360 + 30 * (20 * m + b)) = 35 → b + 1 < mb m ∧ 0 ≤ M (a + 18) (979 + (20 * m + (b + 1))))
def zMa (M : zMm) (a : Nat) (mb mp : Int → Int) : Prop := (∀ m, 0 ≤ m → m ≤ 11 → M (a + 18) (211 + m) = mb m ∧ M (a + 18) (199 + m) = mp m ∧ ∀ b, 0 ≤ b → b < mb m → zMb M a mb mp m b) ∧ (∀ m, 0 ≤ mb m ∧ mb m ≤ 20) ∧ (∀ m, mp m ≤ 4)
theorem zMa.cg {M M2 : zMm} {a : Nat} {mb mp : Int → Int} (h : zMa M a mb mp) (e18 : ∀ j, 199 ≤ j → (j < 223 ∨ 259 ≤ j ∧ j < 739 ∨ 979 ≤ j) → M2 (a + 18) j = M (a + 18) j) (e20 : ∀ j, M2 (a + 20) j = M (a + 20) j) : zMa M2 a mb mp := by
  refine ⟨fun m m0 m1 => ?_, h.2.1, h.2.2⟩
  obtain ⟨h1, h2, h3⟩ := h.1 m m0 m1
  rw [e18 _ (by omega) (by omega), e18 _ (by omega) (by omega)]
  refine ⟨h1, h2, fun b b0 b1 => ?_⟩
  have hb := (h.2.1 m).2
  have := h3 b b0 b1
  unfold zMb at this ⊢
  rw [e18 _ (by omega) (by omega), e18 _ (by omega) (by omega), e18 _ (by omega) (by omega), e18 (979 + (20 * m + (b + 1))) (by omega) (by omega), e20]
  exact this
theorem zMa.up {M M2 : zMm} {a : Nat} {mb mp : Int → Int} {i x : Int} (h : zMa M a mb mp) (e : M2 = zup M (a + 18) i x) (hi : i < 199 ∨ 223 ≤ i ∧ i < 259 ∨ 739 ≤ i ∧ i < 979) : zMa M2 a mb mp := h.cg (fun j j0 j1 => zup_n e (by omega)) (fun j => zup_p e (by omega) _)
theorem zMa.w {M : zMm} {a : Nat} {mb mp : Int → Int} {m : Int} (h : zMa M a mb mp) (h0 : 0 ≤ m) (h1 : m ≤ 11) : M (a + 18) (211 + m) = mb m ∧ M (a + 18) (199 + m) = mp m ∧ 0 ≤ mb m ∧ mb m ≤ 20 ∧ mp m ≤ 4 := ⟨(h.1 m h0 h1).1, (h.1 m h0 h1).2.1, (h.2.1 m).1, (h.2.1 m).2, h.2.2 m⟩
theorem c_X12_adds {w : zWp} {T : zTl} {M : zMm} {J : zJm} {R : zRm'} {G : zGt} {F : zRm'} {a : Nat} {mb mp og lg : Int → Int} {n A0 v u z : Int} (hI : zI G M) (hF : zF F R) (h0 : zModel T F G a) (v1 : Int) (v2 : Int) (p1 : zX M a mb mp n A0 v u z) (p2 : zOg M a og lg) (p3 : 0 ≤ v1 ∧ M a 57 = v1 ∧ n = v1 + 1 ∧ 1 ≤ z) (p4 : M (a + 34) v1 < M a 60) (p5 : 0 ≤ v2 ∧ v2 ≤ 3499) : zCt w 2 0 0 yX12_adds cX12_adds 4 none [.ref (w.2.1 + a), zi v1, zi v2] (T, M, J, R) (zPv T R G (fun M2 => (zMd a [9, 10, 11, 12, 13, 14, 15, 16, 36, 38] [26] [] M M2) ∧ (zX M2 a mb mp n A0 v u (z - 1)) ∧ (zOg M2 a og lg))) := by
  refine zCt.of rfl (Nat.le_of_ble_eq_true rfl) ?_
  intro p e s m args below meth c C
  obtain ⟨Po, hPo⟩ : ∃ Po, Po = zPv T R G (fun M2 => (zMd a [9, 10, 11, 12, 13, 14, 15, 16, 36, 38] [26] [] M M2) ∧ (zX M2 a mb mp n A0 v u (z - 1)) ∧ (zOg M2 a og lg)) := ⟨_, rfl⟩
  rw [← hPo]
  have hK0 : zMd a [9, 10, 11, 12, 13, 14, 15, 16, 36, 38] [26] [] M M := zMd.rf
  have gc := zX.clz p1 (f := v1) (by omega) (by omega)
  have gp := zX.pcs p1 (g := v1) (by omega) (by omega) (by omega)
  have gp1 := gp.1 ((M a 60) - 1) (by omega) (by omega)
  have gx0 := zX.num p1
  show zK w p e 2 0 0 s m args below meth c 4 T Po 0 [.ref (w.2.1 + a), zi v1, zi v2, .null] [] (T, M, J, R)
  refine q_aload_n C dX12_adds_0 (n := 1) rfl rfl ?_
  have g1 := zI.at hI (zM145 h0)
  refine q_getI C dX12_adds_1 (n := 4) rfl f_X12_458 (zM0 h0) (v := M a 60) rfl ?_
  refine q_iconst C dX12_adds_4 (n := 5) rfl ?_
  refine q_isub C dX12_adds_5 (n := 6) rfl (v := (M a 60) - 1) rfl ?_
  refine q_istore_n C [.ref (w.2.1 + a), zi v1, zi v2, zi ((M a 60) - 1)] dX12_adds_6 (n := 7) rfl rfl rfl ?_
  refine q_aload_n C dX12_adds_7 (n := 8) rfl rfl ?_
  refine q_getR C dX12_adds_8 (n := 11) rfl f_X12_122 (zM0 h0) (hF _ _ _ (zM121 h0)) ?_
  refine q_iload_n C dX12_adds_11 (n := 12) rfl rfl ?_
  refine q_dup2 C dX12_adds_12 (n := 13) rfl ⟨rfl, rfl⟩ ?_
  have g2 := zI.at hI ((zM123 h0) v1)
  refine q_iald C dX12_adds_13 (n := 14) rfl (zM122 h0) (by omega) (v := M (a + 36) v1) rfl ?_
  refine q_iconst C dX12_adds_14 (n := 15) rfl ?_
  refine q_iadd C dX12_adds_15 (n := 16) rfl (v := (M (a + 36) v1) + 1) rfl ?_
  refine q_iast C dX12_adds_16 (n := 17) rfl (zM122 h0) (by omega)  (fun M3 e4 => ?_)
  have hI5 : zI G M3 := hI.put e4 ((zM123 h0) v1) rfl (by omega)
  have hK6 := hK0.upA e4 rfl
  refine q_aload_n C dX12_adds_17 (n := 18) rfl rfl ?_
  refine q_getR C dX12_adds_18 (n := 21) rfl f_X12_128 (zM0 h0) (hF _ _ _ (zM127 h0)) ?_
  refine q_iload_n C dX12_adds_21 (n := 22) rfl rfl ?_
  have g7 := zI.at hI ((zM129 h0) ((M a 60) - 1))
  refine q_iald C dX12_adds_22 (n := 23) rfl (zM128 h0) (by omega) (v := M (a + 38) ((M a 60) - 1)) (zup_p e4 (by omega) _) ?_
  refine q_iconst C dX12_adds_23 (n := 24) rfl ?_
  have J_9 : (M (a + 38) ((M a 60) - 1) < 2 ∨ M (a + 36) v1 + 1 ≤ 60) → zK w p e 2 0 0 s m args below meth c 4 T Po 38 [.ref (w.2.1 + a), .null, zi v2, zi ((M a 60) - 1)] [] (T, M3, J, R) := by
    intro h8
    refine q_aload_n C dX12_adds_38 (n := 39) rfl rfl ?_
    refine q_iload_n C dX12_adds_39 (n := 40) rfl rfl ?_
    refine q_aload_n C dX12_adds_40 (n := 41) rfl rfl ?_
    have g10 := zI.at hI (zM61 h0)
    refine q_getI C dX12_adds_41 (n := 44) rfl f_X12_397 (zM0 h0) (v := M a 26) (zup_p e4 (by omega) _) ?_
    have hp11 : zOg M3 a og lg := p2.cg (fun j => (zup_p e4 (by omega) _)) (fun j => (zup_p e4 (by omega) _))
    refine q_callVv C dX12_adds_44 (n := 47) rfl m_X12_461 v_yX12_copies (zM0 h0) ⟨by decide, rfl⟩ (c_X12_copies (w := w) (J := J) hI5 hF h0 v2 (M a 26) hp11 (by omega) (by omega) (by omega)) (Nat.le_of_ble_eq_true rfl) rfl rfl (Nat.le_of_ble_eq_true rfl) ⟨Nat.le_refl _, Nat.le_refl _⟩ (fun M13 J14  hI15 h16 => ?_)
    obtain ⟨hk17, h12⟩ := h16
    have hK18 := hK6.tr hk17 rfl rfl rfl
    refine q_aload_n C dX12_adds_47 (n := 48) rfl rfl ?_
    refine q_dup C dX12_adds_48 (n := 49) rfl rfl ?_
    refine q_getI C dX12_adds_49 (n := 52) rfl f_X12_397 (zM0 h0) (v := M a 26) ((hk17.getS rfl rfl).trans (zup_p e4 (by omega) _)) ?_
    refine q_iconst C dX12_adds_52 (n := 53) rfl ?_
    refine q_iadd C dX12_adds_53 (n := 54) rfl (v := (M a 26) + 1) rfl ?_
    refine q_putI C dX12_adds_54 (n := 57) rfl f_X12_397 (zM0 h0) ⟨rfl, rfl⟩ (fun M19 (e20 : M19 = zup M13 a 26 ((M a 26) + 1)) => ?_)
    have hI21 : zI G M19 := hI15.put e20 (zM61 h0) rfl (by omega)
    have hK22 := hK18.upS e20 rfl
    refine q_aload_n C dX12_adds_57 (n := 58) rfl rfl ?_
    refine q_getR C dX12_adds_58 (n := 61) rfl f_X12_128 (zM0 h0) (hF _ _ _ (zM127 h0)) ?_
    refine q_iload_n C dX12_adds_61 (n := 62) rfl rfl ?_
    refine q_dup2 C dX12_adds_62 (n := 63) rfl ⟨rfl, rfl⟩ ?_
    refine q_iald C dX12_adds_63 (n := 64) rfl (zM128 h0) (by omega) (v := M (a + 38) ((M a 60) - 1)) ((zup_p e20 (by omega) _).trans ((hk17.getA rfl rfl rfl).trans (zup_p e4 (by omega) _))) ?_
    refine q_iconst C dX12_adds_64 (n := 65) rfl ?_
    refine q_iadd C dX12_adds_65 (n := 66) rfl (v := (M (a + 38) ((M a 60) - 1)) + 1) rfl ?_
    refine q_iast C dX12_adds_66 (n := 67) rfl (zM128 h0) (by omega)  (fun M23 e24 => ?_)
    have hI25 : zI G M23 := hI21.put e24 ((zM129 h0) ((M a 60) - 1)) rfl (by omega)
    have hK26 := hK22.upA e24 rfl
    refine q_goto C 81 dX12_adds_67 rfl ?_
    have hx27 : zX M23 a mb mp n A0 v u (z - 1) := zY.cgr (Y_addz p1 (by omega) (by omega) (show M (a + 34) (M a 57) < M a 60 from by rw [show M a 57 = v1 by omega]; omega) (show M (a + 38) (M a 60 - 1) < 2 ∨ M (a + 36) (M a 57) + 1 ≤ 60 from by rw [show M a 57 = v1 by omega]; omega)) ((zup_p e24 (by omega) _).trans ((zup_n e20 (by omega)).trans ((hk17.getS rfl rfl).trans (zup_p e4 (by omega) _)))) ((zup_p e24 (by omega) _).trans ((zup_n e20 (by omega)).trans ((hk17.getS rfl rfl).trans (zup_p e4 (by omega) _)))) ((zup_p e24 (by omega) _).trans ((zup_n e20 (by omega)).trans ((hk17.getS rfl rfl).trans (zup_p e4 (by omega) _)))) ((zup_p e24 (by omega) _).trans ((zup_n e20 (by omega)).trans ((hk17.getS rfl rfl).trans (zup_p e4 (by omega) _)))) ((zup_p e24 (by omega) _).trans ((zup_n e20 (by omega)).trans ((hk17.getS rfl rfl).trans (zup_p e4 (by omega) _)))) (by have hw : M23 a 26 = (M a 26) + 1 := ((zup_p e24 (by omega) _).trans (zup_s e20)); omega) ((zup_p e24 (by omega) _).trans ((zup_n e20 (by omega)).trans ((hk17.getS rfl rfl).trans (zup_p e4 (by omega) _)))) ((zup_p e24 (by omega) _).trans ((zup_n e20 (by omega)).trans ((hk17.getS rfl rfl).trans (zup_p e4 (by omega) _)))) ((zup_p e24 (by omega) _).trans ((zup_n e20 (by omega)).trans ((hk17.getS rfl rfl).trans (zup_p e4 (by omega) _)))) (funext fun j => ((zup_p e24 (by omega) _).trans ((zup_p e20 (by omega) _).trans ((hk17.getA rfl rfl rfl).trans (zup_p e4 (by omega) _))))) (funext fun j => ((zup_p e24 (by omega) _).trans ((zup_p e20 (by omega) _).trans ((hk17.getA rfl rfl rfl).trans (zup_p e4 (by omega) _))))) (funext fun j => ((zup_p e24 (by omega) _).trans ((zup_p e20 (by omega) _).trans ((hk17.getA rfl rfl rfl).trans (zup_p e4 (by omega) _))))) (funext fun j => ((zup_p e24 (by omega) _).trans ((zup_p e20 (by omega) _).trans ((hk17.getA rfl rfl rfl).trans (zup_p e4 (by omega) _))))) (funext fun j => ((zup_p e24 (by omega) _).trans ((zup_p e20 (by omega) _).trans ((hk17.getA rfl rfl rfl).trans (zup_p e4 (by omega) _))))) (funext fun j => ((zup_p e24 (by omega) _).trans ((zup_p e20 (by omega) _).trans ((hk17.getA rfl rfl rfl).trans (zup_p e4 (by omega) _))))) (funext fun j => ((zup_p e24 (by omega) _).trans ((zup_p e20 (by omega) _).trans ((hk17.getA rfl rfl rfl).trans (zup_p e4 (by omega) _))))) (funext fun j => ((zup_p e24 (by omega) _).trans ((zup_p e20 (by omega) _).trans ((hk17.getA rfl rfl rfl).trans (zup_p e4 (by omega) _))))) (funext fun j => ((zup_p e24 (by omega) _).trans ((zup_p e20 (by omega) _).trans ((hk17.getA rfl rfl rfl).trans (zup_p e4 (by omega) _))))) (funext fun j => ((zup_p e24 (by omega) _).trans ((zup_p e20 (by omega) _).trans ((hk17.getA rfl rfl rfl).trans (zup_p e4 (by omega) _))))) (funext fun j => by by_cases q : j = (M a 57); (rw [q, yup_s]; rw [show (M a 57) = v1 by omega]; have hw : M23 (a + 36) v1 = (M (a + 36) v1) + 1 := ((zup_p e24 (by omega) _).trans ((zup_p e20 (by omega) _).trans ((hk17.getA rfl rfl rfl).trans (zup_e e4 (by omega))))); omega); (rw [yup_n q]; exact ((zup_p e24 (by omega) _).trans ((zup_p e20 (by omega) _).trans ((hk17.getA rfl rfl rfl).trans (zup_n e4 (by omega))))))) (funext fun j => ((zup_p e24 (by omega) _).trans ((zup_p e20 (by omega) _).trans ((hk17.getA rfl rfl rfl).trans (zup_p e4 (by omega) _))))) (funext fun j => by by_cases q : j = ((M a 60) - 1); (rw [q, yup_s]; have hw : M23 (a + 38) ((M a 60) - 1) = (M (a + 38) ((M a 60) - 1)) + 1 := (zup_e e24 (by omega)); omega); (rw [yup_n q]; exact ((zup_n e24 (by omega)).trans ((zup_p e20 (by omega) _).trans ((hk17.getA rfl rfl rfl).trans (zup_p e4 (by omega) _))))))
    have hp28 : zOg M23 a og lg := h12.cg (fun j => ((zup_p e24 (by omega) _).trans (zup_p e20 (by omega) _))) (fun j => ((zup_p e24 (by omega) _).trans (zup_p e20 (by omega) _)))
    exact q_vret C dX12_adds_81 ⟨rfl, rfl⟩ (by rw [hPo]; exact ⟨M23, J14, rfl, rfl, hI25, hK26, hx27, hp28⟩)
  refine q_icmp_lt C 38 dX12_adds_24 (n := 27) rfl rfl (by omega) (fun h29 => ?_) (fun h29 => ?_)
  · exact zK.weak (J_9 (by omega)) (zwk_c (zwk_n (zwk_c (zwk_c zwk_e))))
  · refine q_aload_n C dX12_adds_27 (n := 28) rfl rfl ?_
    refine q_getR C dX12_adds_28 (n := 31) rfl f_X12_122 (zM0 h0) (hF _ _ _ (zM121 h0)) ?_
    refine q_iload_n C dX12_adds_31 (n := 32) rfl rfl ?_
    refine q_iald C dX12_adds_32 (n := 33) rfl (zM122 h0) (by omega) (v := (M (a + 36) v1) + 1) (zup_s e4) ?_
    refine q_bipush C dX12_adds_33 (n := 35) rfl (x := 60) (by decide) ?_
    refine q_icmp_gt C 70 dX12_adds_35 (n := 38) rfl rfl (by omega) (fun h30 => ?_) (fun h30 => ?_)
    · refine q_aload_n C dX12_adds_70 (n := 71) rfl rfl ?_
      refine q_iload_n C dX12_adds_71 (n := 72) rfl rfl ?_
      refine q_aload_n C dX12_adds_72 (n := 73) rfl rfl ?_
      have g31 := zI.at hI (zM61 h0)
      refine q_getI C dX12_adds_73 (n := 76) rfl f_X12_397 (zM0 h0) (v := M a 26) (zup_p e4 (by omega) _) ?_
      refine q_iconst C dX12_adds_76 (n := 77) rfl ?_
      refine q_isub C dX12_adds_77 (n := 78) rfl (v := (M a 26) - 1) rfl ?_
      have hp32 : zOg M3 a og lg := p2.cg (fun j => (zup_p e4 (by omega) _)) (fun j => (zup_p e4 (by omega) _))
      refine q_callVv C dX12_adds_78 (n := 81) rfl m_X12_461 v_yX12_copies (zM0 h0) ⟨by decide, rfl⟩ (c_X12_copies (w := w) (J := J) hI5 hF h0 v2 ((M a 26) - 1) hp32 (by omega) (by omega) (by omega)) (Nat.le_of_ble_eq_true rfl) rfl rfl (Nat.le_of_ble_eq_true rfl) ⟨Nat.le_refl _, Nat.le_refl _⟩ (fun M34 J35  hI36 h37 => ?_)
      obtain ⟨hk38, h33⟩ := h37
      have hK39 := hK6.tr hk38 rfl rfl rfl
      have hx40 : zX M34 a mb mp n A0 v u (z - 1) := zY.cgr (Y_addz0 p1 (by omega) (by omega) (show M (a + 34) (M a 57) < M a 60 from by rw [show M a 57 = v1 by omega]; omega)) ((hk38.getS rfl rfl).trans (zup_p e4 (by omega) _)) ((hk38.getS rfl rfl).trans (zup_p e4 (by omega) _)) ((hk38.getS rfl rfl).trans (zup_p e4 (by omega) _)) ((hk38.getS rfl rfl).trans (zup_p e4 (by omega) _)) ((hk38.getS rfl rfl).trans (zup_p e4 (by omega) _)) ((hk38.getS rfl rfl).trans (zup_p e4 (by omega) _)) ((hk38.getS rfl rfl).trans (zup_p e4 (by omega) _)) ((hk38.getS rfl rfl).trans (zup_p e4 (by omega) _)) ((hk38.getS rfl rfl).trans (zup_p e4 (by omega) _)) (funext fun j => ((hk38.getA rfl rfl rfl).trans (zup_p e4 (by omega) _))) (funext fun j => ((hk38.getA rfl rfl rfl).trans (zup_p e4 (by omega) _))) (funext fun j => ((hk38.getA rfl rfl rfl).trans (zup_p e4 (by omega) _))) (funext fun j => ((hk38.getA rfl rfl rfl).trans (zup_p e4 (by omega) _))) (funext fun j => ((hk38.getA rfl rfl rfl).trans (zup_p e4 (by omega) _))) (funext fun j => ((hk38.getA rfl rfl rfl).trans (zup_p e4 (by omega) _))) (funext fun j => ((hk38.getA rfl rfl rfl).trans (zup_p e4 (by omega) _))) (funext fun j => ((hk38.getA rfl rfl rfl).trans (zup_p e4 (by omega) _))) (funext fun j => ((hk38.getA rfl rfl rfl).trans (zup_p e4 (by omega) _))) (funext fun j => ((hk38.getA rfl rfl rfl).trans (zup_p e4 (by omega) _))) (funext fun j => by by_cases q : j = (M a 57); (rw [q, yup_s]; rw [show (M a 57) = v1 by omega]; have hw : M34 (a + 36) v1 = (M (a + 36) v1) + 1 := ((hk38.getA rfl rfl rfl).trans (zup_e e4 (by omega))); omega); (rw [yup_n q]; exact ((hk38.getA rfl rfl rfl).trans (zup_n e4 (by omega))))) (funext fun j => ((hk38.getA rfl rfl rfl).trans (zup_p e4 (by omega) _))) (funext fun j => ((hk38.getA rfl rfl rfl).trans (zup_p e4 (by omega) _)))
      exact q_vret C dX12_adds_81 ⟨rfl, rfl⟩ (by rw [hPo]; exact ⟨M34, J35, rfl, rfl, hI36, hK39, hx40, h33⟩)
    · exact zK.weak (J_9 (by omega)) (zwk_c (zwk_n (zwk_c (zwk_c zwk_e))))
theorem c_X12_addsv {w : zWp} {T : zTl} {M : zMm} {J : zJm} {R : zRm'} {G : zGt} {F : zRm'} {a : Nat} {mb mp og lg : Int → Int} {n A0 v u z : Int} (hI : zI G M) (hF : zF F R) (h0 : zModel T F G a) (v1 : Int) (v2 : Int) (p1 : zX M a mb mp n A0 v u z) (p2 : zOg M a og lg) (p3 : 0 ≤ v1 ∧ M a 57 = v1 + 1 ∧ n = v1 + 1 ∧ 1 ≤ v) (p4 : M (a + 34) v1 < M a 60) (p5 : 0 ≤ v2 ∧ v2 ≤ 3499) : zCt w 2 0 0 yX12_adds cX12_adds 4 none [.ref (w.2.1 + a), zi v1, zi v2] (T, M, J, R) (zPv T R G (fun M2 => (zMd a [9, 10, 11, 12, 13, 14, 15, 16, 36, 38] [26] [] M M2) ∧ (zX M2 a mb mp n A0 (v - 1) u z) ∧ (zOg M2 a og lg))) := by
  refine zCt.of rfl (Nat.le_of_ble_eq_true rfl) ?_
  intro p e s m args below meth c C
  obtain ⟨Po, hPo⟩ : ∃ Po, Po = zPv T R G (fun M2 => (zMd a [9, 10, 11, 12, 13, 14, 15, 16, 36, 38] [26] [] M M2) ∧ (zX M2 a mb mp n A0 (v - 1) u z) ∧ (zOg M2 a og lg)) := ⟨_, rfl⟩
  rw [← hPo]
  have hK0 : zMd a [9, 10, 11, 12, 13, 14, 15, 16, 36, 38] [26] [] M M := zMd.rf
  have gc := zX.clv p1 (f := v1) (by omega) (by omega) (by omega)
  have gp := zX.pcs p1 (g := v1) (by omega) (by omega) (by omega)
  have gp1 := gp.1 ((M a 60) - 1) (by omega) (by omega)
  have gx0 := zX.num p1
  show zK w p e 2 0 0 s m args below meth c 4 T Po 0 [.ref (w.2.1 + a), zi v1, zi v2, .null] [] (T, M, J, R)
  refine q_aload_n C dX12_adds_0 (n := 1) rfl rfl ?_
  have g1 := zI.at hI (zM145 h0)
  refine q_getI C dX12_adds_1 (n := 4) rfl f_X12_458 (zM0 h0) (v := M a 60) rfl ?_
  refine q_iconst C dX12_adds_4 (n := 5) rfl ?_
  refine q_isub C dX12_adds_5 (n := 6) rfl (v := (M a 60) - 1) rfl ?_
  refine q_istore_n C [.ref (w.2.1 + a), zi v1, zi v2, zi ((M a 60) - 1)] dX12_adds_6 (n := 7) rfl rfl rfl ?_
  refine q_aload_n C dX12_adds_7 (n := 8) rfl rfl ?_
  refine q_getR C dX12_adds_8 (n := 11) rfl f_X12_122 (zM0 h0) (hF _ _ _ (zM121 h0)) ?_
  refine q_iload_n C dX12_adds_11 (n := 12) rfl rfl ?_
  refine q_dup2 C dX12_adds_12 (n := 13) rfl ⟨rfl, rfl⟩ ?_
  have g2 := zI.at hI ((zM123 h0) v1)
  refine q_iald C dX12_adds_13 (n := 14) rfl (zM122 h0) (by omega) (v := M (a + 36) v1) rfl ?_
  refine q_iconst C dX12_adds_14 (n := 15) rfl ?_
  refine q_iadd C dX12_adds_15 (n := 16) rfl (v := (M (a + 36) v1) + 1) rfl ?_
  refine q_iast C dX12_adds_16 (n := 17) rfl (zM122 h0) (by omega)  (fun M3 e4 => ?_)
  have hI5 : zI G M3 := hI.put e4 ((zM123 h0) v1) rfl (by omega)
  have hK6 := hK0.upA e4 rfl
  refine q_aload_n C dX12_adds_17 (n := 18) rfl rfl ?_
  refine q_getR C dX12_adds_18 (n := 21) rfl f_X12_128 (zM0 h0) (hF _ _ _ (zM127 h0)) ?_
  refine q_iload_n C dX12_adds_21 (n := 22) rfl rfl ?_
  have g7 := zI.at hI ((zM129 h0) ((M a 60) - 1))
  refine q_iald C dX12_adds_22 (n := 23) rfl (zM128 h0) (by omega) (v := M (a + 38) ((M a 60) - 1)) (zup_p e4 (by omega) _) ?_
  refine q_iconst C dX12_adds_23 (n := 24) rfl ?_
  have J_9 : (M (a + 38) ((M a 60) - 1) < 2 ∨ M (a + 36) v1 + 1 ≤ 60) → zK w p e 2 0 0 s m args below meth c 4 T Po 38 [.ref (w.2.1 + a), .null, zi v2, zi ((M a 60) - 1)] [] (T, M3, J, R) := by
    intro h8
    refine q_aload_n C dX12_adds_38 (n := 39) rfl rfl ?_
    refine q_iload_n C dX12_adds_39 (n := 40) rfl rfl ?_
    refine q_aload_n C dX12_adds_40 (n := 41) rfl rfl ?_
    have g10 := zI.at hI (zM61 h0)
    refine q_getI C dX12_adds_41 (n := 44) rfl f_X12_397 (zM0 h0) (v := M a 26) (zup_p e4 (by omega) _) ?_
    have hp11 : zOg M3 a og lg := p2.cg (fun j => (zup_p e4 (by omega) _)) (fun j => (zup_p e4 (by omega) _))
    refine q_callVv C dX12_adds_44 (n := 47) rfl m_X12_461 v_yX12_copies (zM0 h0) ⟨by decide, rfl⟩ (c_X12_copies (w := w) (J := J) hI5 hF h0 v2 (M a 26) hp11 (by omega) (by omega) (by omega)) (Nat.le_of_ble_eq_true rfl) rfl rfl (Nat.le_of_ble_eq_true rfl) ⟨Nat.le_refl _, Nat.le_refl _⟩ (fun M13 J14  hI15 h16 => ?_)
    obtain ⟨hk17, h12⟩ := h16
    have hK18 := hK6.tr hk17 rfl rfl rfl
    refine q_aload_n C dX12_adds_47 (n := 48) rfl rfl ?_
    refine q_dup C dX12_adds_48 (n := 49) rfl rfl ?_
    refine q_getI C dX12_adds_49 (n := 52) rfl f_X12_397 (zM0 h0) (v := M a 26) ((hk17.getS rfl rfl).trans (zup_p e4 (by omega) _)) ?_
    refine q_iconst C dX12_adds_52 (n := 53) rfl ?_
    refine q_iadd C dX12_adds_53 (n := 54) rfl (v := (M a 26) + 1) rfl ?_
    refine q_putI C dX12_adds_54 (n := 57) rfl f_X12_397 (zM0 h0) ⟨rfl, rfl⟩ (fun M19 (e20 : M19 = zup M13 a 26 ((M a 26) + 1)) => ?_)
    have hI21 : zI G M19 := hI15.put e20 (zM61 h0) rfl (by omega)
    have hK22 := hK18.upS e20 rfl
    refine q_aload_n C dX12_adds_57 (n := 58) rfl rfl ?_
    refine q_getR C dX12_adds_58 (n := 61) rfl f_X12_128 (zM0 h0) (hF _ _ _ (zM127 h0)) ?_
    refine q_iload_n C dX12_adds_61 (n := 62) rfl rfl ?_
    refine q_dup2 C dX12_adds_62 (n := 63) rfl ⟨rfl, rfl⟩ ?_
    refine q_iald C dX12_adds_63 (n := 64) rfl (zM128 h0) (by omega) (v := M (a + 38) ((M a 60) - 1)) ((zup_p e20 (by omega) _).trans ((hk17.getA rfl rfl rfl).trans (zup_p e4 (by omega) _))) ?_
    refine q_iconst C dX12_adds_64 (n := 65) rfl ?_
    refine q_iadd C dX12_adds_65 (n := 66) rfl (v := (M (a + 38) ((M a 60) - 1)) + 1) rfl ?_
    refine q_iast C dX12_adds_66 (n := 67) rfl (zM128 h0) (by omega)  (fun M23 e24 => ?_)
    have hI25 : zI G M23 := hI21.put e24 ((zM129 h0) ((M a 60) - 1)) rfl (by omega)
    have hK26 := hK22.upA e24 rfl
    refine q_goto C 81 dX12_adds_67 rfl ?_
    have hx27 : zX M23 a mb mp n A0 (v - 1) u z := zY.cgr (Y_addv p1 (by omega) (by omega) (by omega) (show M (a + 34) (M a 57 - 1) < M a 60 from by rw [show M a 57 - 1 = v1 by omega]; omega) (show M (a + 38) (M a 60 - 1) < 2 ∨ M (a + 36) (M a 57 - 1) + 1 ≤ 60 from by rw [show M a 57 - 1 = v1 by omega]; omega)) ((zup_p e24 (by omega) _).trans ((zup_n e20 (by omega)).trans ((hk17.getS rfl rfl).trans (zup_p e4 (by omega) _)))) ((zup_p e24 (by omega) _).trans ((zup_n e20 (by omega)).trans ((hk17.getS rfl rfl).trans (zup_p e4 (by omega) _)))) ((zup_p e24 (by omega) _).trans ((zup_n e20 (by omega)).trans ((hk17.getS rfl rfl).trans (zup_p e4 (by omega) _)))) ((zup_p e24 (by omega) _).trans ((zup_n e20 (by omega)).trans ((hk17.getS rfl rfl).trans (zup_p e4 (by omega) _)))) ((zup_p e24 (by omega) _).trans ((zup_n e20 (by omega)).trans ((hk17.getS rfl rfl).trans (zup_p e4 (by omega) _)))) (by have hw : M23 a 26 = (M a 26) + 1 := ((zup_p e24 (by omega) _).trans (zup_s e20)); omega) ((zup_p e24 (by omega) _).trans ((zup_n e20 (by omega)).trans ((hk17.getS rfl rfl).trans (zup_p e4 (by omega) _)))) ((zup_p e24 (by omega) _).trans ((zup_n e20 (by omega)).trans ((hk17.getS rfl rfl).trans (zup_p e4 (by omega) _)))) ((zup_p e24 (by omega) _).trans ((zup_n e20 (by omega)).trans ((hk17.getS rfl rfl).trans (zup_p e4 (by omega) _)))) (funext fun j => ((zup_p e24 (by omega) _).trans ((zup_p e20 (by omega) _).trans ((hk17.getA rfl rfl rfl).trans (zup_p e4 (by omega) _))))) (funext fun j => ((zup_p e24 (by omega) _).trans ((zup_p e20 (by omega) _).trans ((hk17.getA rfl rfl rfl).trans (zup_p e4 (by omega) _))))) (funext fun j => ((zup_p e24 (by omega) _).trans ((zup_p e20 (by omega) _).trans ((hk17.getA rfl rfl rfl).trans (zup_p e4 (by omega) _))))) (funext fun j => ((zup_p e24 (by omega) _).trans ((zup_p e20 (by omega) _).trans ((hk17.getA rfl rfl rfl).trans (zup_p e4 (by omega) _))))) (funext fun j => ((zup_p e24 (by omega) _).trans ((zup_p e20 (by omega) _).trans ((hk17.getA rfl rfl rfl).trans (zup_p e4 (by omega) _))))) (funext fun j => ((zup_p e24 (by omega) _).trans ((zup_p e20 (by omega) _).trans ((hk17.getA rfl rfl rfl).trans (zup_p e4 (by omega) _))))) (funext fun j => ((zup_p e24 (by omega) _).trans ((zup_p e20 (by omega) _).trans ((hk17.getA rfl rfl rfl).trans (zup_p e4 (by omega) _))))) (funext fun j => ((zup_p e24 (by omega) _).trans ((zup_p e20 (by omega) _).trans ((hk17.getA rfl rfl rfl).trans (zup_p e4 (by omega) _))))) (funext fun j => ((zup_p e24 (by omega) _).trans ((zup_p e20 (by omega) _).trans ((hk17.getA rfl rfl rfl).trans (zup_p e4 (by omega) _))))) (funext fun j => ((zup_p e24 (by omega) _).trans ((zup_p e20 (by omega) _).trans ((hk17.getA rfl rfl rfl).trans (zup_p e4 (by omega) _))))) (funext fun j => by by_cases q : j = ((M a 57) - 1); (rw [q, yup_s]; rw [show ((M a 57) - 1) = v1 by omega]; have hw : M23 (a + 36) v1 = (M (a + 36) v1) + 1 := ((zup_p e24 (by omega) _).trans ((zup_p e20 (by omega) _).trans ((hk17.getA rfl rfl rfl).trans (zup_e e4 (by omega))))); omega); (rw [yup_n q]; exact ((zup_p e24 (by omega) _).trans ((zup_p e20 (by omega) _).trans ((hk17.getA rfl rfl rfl).trans (zup_n e4 (by omega))))))) (funext fun j => ((zup_p e24 (by omega) _).trans ((zup_p e20 (by omega) _).trans ((hk17.getA rfl rfl rfl).trans (zup_p e4 (by omega) _))))) (funext fun j => by by_cases q : j = ((M a 60) - 1); (rw [q, yup_s]; have hw : M23 (a + 38) ((M a 60) - 1) = (M (a + 38) ((M a 60) - 1)) + 1 := (zup_e e24 (by omega)); omega); (rw [yup_n q]; exact ((zup_n e24 (by omega)).trans ((zup_p e20 (by omega) _).trans ((hk17.getA rfl rfl rfl).trans (zup_p e4 (by omega) _))))))
    have hp28 : zOg M23 a og lg := h12.cg (fun j => ((zup_p e24 (by omega) _).trans (zup_p e20 (by omega) _))) (fun j => ((zup_p e24 (by omega) _).trans (zup_p e20 (by omega) _)))
    exact q_vret C dX12_adds_81 ⟨rfl, rfl⟩ (by rw [hPo]; exact ⟨M23, J14, rfl, rfl, hI25, hK26, hx27, hp28⟩)
  refine q_icmp_lt C 38 dX12_adds_24 (n := 27) rfl rfl (by omega) (fun h29 => ?_) (fun h29 => ?_)
  · exact zK.weak (J_9 (by omega)) (zwk_c (zwk_n (zwk_c (zwk_c zwk_e))))
  · refine q_aload_n C dX12_adds_27 (n := 28) rfl rfl ?_
    refine q_getR C dX12_adds_28 (n := 31) rfl f_X12_122 (zM0 h0) (hF _ _ _ (zM121 h0)) ?_
    refine q_iload_n C dX12_adds_31 (n := 32) rfl rfl ?_
    refine q_iald C dX12_adds_32 (n := 33) rfl (zM122 h0) (by omega) (v := (M (a + 36) v1) + 1) (zup_s e4) ?_
    refine q_bipush C dX12_adds_33 (n := 35) rfl (x := 60) (by decide) ?_
    refine q_icmp_gt C 70 dX12_adds_35 (n := 38) rfl rfl (by omega) (fun h30 => ?_) (fun h30 => ?_)
    · refine q_aload_n C dX12_adds_70 (n := 71) rfl rfl ?_
      refine q_iload_n C dX12_adds_71 (n := 72) rfl rfl ?_
      refine q_aload_n C dX12_adds_72 (n := 73) rfl rfl ?_
      have g31 := zI.at hI (zM61 h0)
      refine q_getI C dX12_adds_73 (n := 76) rfl f_X12_397 (zM0 h0) (v := M a 26) (zup_p e4 (by omega) _) ?_
      refine q_iconst C dX12_adds_76 (n := 77) rfl ?_
      refine q_isub C dX12_adds_77 (n := 78) rfl (v := (M a 26) - 1) rfl ?_
      have hp32 : zOg M3 a og lg := p2.cg (fun j => (zup_p e4 (by omega) _)) (fun j => (zup_p e4 (by omega) _))
      refine q_callVv C dX12_adds_78 (n := 81) rfl m_X12_461 v_yX12_copies (zM0 h0) ⟨by decide, rfl⟩ (c_X12_copies (w := w) (J := J) hI5 hF h0 v2 ((M a 26) - 1) hp32 (by omega) (by omega) (by omega)) (Nat.le_of_ble_eq_true rfl) rfl rfl (Nat.le_of_ble_eq_true rfl) ⟨Nat.le_refl _, Nat.le_refl _⟩ (fun M34 J35  hI36 h37 => ?_)
      obtain ⟨hk38, h33⟩ := h37
      have hK39 := hK6.tr hk38 rfl rfl rfl
      have hx40 : zX M34 a mb mp n A0 (v - 1) u z := zY.cgr (Y_addv0 p1 (by omega) (by omega) (by omega) (show M (a + 34) (M a 57 - 1) < M a 60 from by rw [show M a 57 - 1 = v1 by omega]; omega)) ((hk38.getS rfl rfl).trans (zup_p e4 (by omega) _)) ((hk38.getS rfl rfl).trans (zup_p e4 (by omega) _)) ((hk38.getS rfl rfl).trans (zup_p e4 (by omega) _)) ((hk38.getS rfl rfl).trans (zup_p e4 (by omega) _)) ((hk38.getS rfl rfl).trans (zup_p e4 (by omega) _)) ((hk38.getS rfl rfl).trans (zup_p e4 (by omega) _)) ((hk38.getS rfl rfl).trans (zup_p e4 (by omega) _)) ((hk38.getS rfl rfl).trans (zup_p e4 (by omega) _)) ((hk38.getS rfl rfl).trans (zup_p e4 (by omega) _)) (funext fun j => ((hk38.getA rfl rfl rfl).trans (zup_p e4 (by omega) _))) (funext fun j => ((hk38.getA rfl rfl rfl).trans (zup_p e4 (by omega) _))) (funext fun j => ((hk38.getA rfl rfl rfl).trans (zup_p e4 (by omega) _))) (funext fun j => ((hk38.getA rfl rfl rfl).trans (zup_p e4 (by omega) _))) (funext fun j => ((hk38.getA rfl rfl rfl).trans (zup_p e4 (by omega) _))) (funext fun j => ((hk38.getA rfl rfl rfl).trans (zup_p e4 (by omega) _))) (funext fun j => ((hk38.getA rfl rfl rfl).trans (zup_p e4 (by omega) _))) (funext fun j => ((hk38.getA rfl rfl rfl).trans (zup_p e4 (by omega) _))) (funext fun j => ((hk38.getA rfl rfl rfl).trans (zup_p e4 (by omega) _))) (funext fun j => ((hk38.getA rfl rfl rfl).trans (zup_p e4 (by omega) _))) (funext fun j => by by_cases q : j = ((M a 57) - 1); (rw [q, yup_s]; rw [show ((M a 57) - 1) = v1 by omega]; have hw : M34 (a + 36) v1 = (M (a + 36) v1) + 1 := ((hk38.getA rfl rfl rfl).trans (zup_e e4 (by omega))); omega); (rw [yup_n q]; exact ((hk38.getA rfl rfl rfl).trans (zup_n e4 (by omega))))) (funext fun j => ((hk38.getA rfl rfl rfl).trans (zup_p e4 (by omega) _))) (funext fun j => ((hk38.getA rfl rfl rfl).trans (zup_p e4 (by omega) _)))
      exact q_vret C dX12_adds_81 ⟨rfl, rfl⟩ (by rw [hPo]; exact ⟨M34, J35, rfl, rfl, hI36, hK39, hx40, h33⟩)
    · exact zK.weak (J_9 (by omega)) (zwk_c (zwk_n (zwk_c (zwk_c zwk_e))))
theorem c_X12_passes {w : zWp} {T : zTl} {M : zMm} {J : zJm} {R : zRm'} {G : zGt} {F : zRm'} {a : Nat} {mb mp og lg : Int → Int} {n A0 v u z : Int} (hI : zI G M) (hF : zF F R) (h0 : zModel T F G a) (v1 : Int) (p1 : zX M a mb mp n A0 v u z) (p2 : zOg M a og lg) (p3 : M a 57 = n ∧ 1 ≤ v) (p4 : 0 ≤ v1 ∧ v1 ≤ 3499) : zCt w 3 0 0 yX12_passes cX12_passes 2 none [.ref (w.2.1 + a), zi v1] (T, M, J, R) (zPv T R G (fun M2 => (zMd a [9, 10, 11, 12, 13, 14, 15, 16, 36, 38, 41] [26, 61] [] M M2) ∧ (zX M2 a mb mp n A0 (v - 1) u z) ∧ (zOg M2 a og lg))) := by
  refine zCt.of rfl (Nat.le_of_ble_eq_true rfl) ?_
  intro p e s m args below meth c C
  obtain ⟨Po, hPo⟩ : ∃ Po, Po = zPv T R G (fun M2 => (zMd a [9, 10, 11, 12, 13, 14, 15, 16, 36, 38, 41] [26, 61] [] M M2) ∧ (zX M2 a mb mp n A0 (v - 1) u z) ∧ (zOg M2 a og lg)) := ⟨_, rfl⟩
  rw [← hPo]
  have hK0 : zMd a [9, 10, 11, 12, 13, 14, 15, 16, 36, 38, 41] [26, 61] [] M M := zMd.rf
  have gx0 := zX.num p1
  show zK w p e 3 0 0 s m args below meth c 2 T Po 0 [.ref (w.2.1 + a), zi v1] [] (T, M, J, R)
  refine q_aload_n C dX12_passes_0 (n := 1) rfl rfl ?_
  have g1 := zI.at hI (zM142 h0)
  refine q_getI C dX12_passes_1 (n := 4) rfl f_X12_448 (zM0 h0) (v := M a 57) rfl ?_
  refine q_if_ne C 30 dX12_passes_4 (n := 7) rfl rfl (by omega) (fun h2 => ?_) (fun h2 => ?_)
  · have gpl : M (a + 34) ((M a 57) - 1) < M a 60 := zX.pcl p1 (f := (M a 57) - 1) (by omega) (by omega) (by omega)
    refine q_aload_n C dX12_passes_30 (n := 31) rfl rfl ?_
    refine q_aload_n C dX12_passes_31 (n := 32) rfl rfl ?_
    refine q_getI C dX12_passes_32 (n := 35) rfl f_X12_448 (zM0 h0) (v := M a 57) rfl ?_
    refine q_iconst C dX12_passes_35 (n := 36) rfl ?_
    refine q_isub C dX12_passes_36 (n := 37) rfl (v := (M a 57) - 1) rfl ?_
    refine q_iload_n C dX12_passes_37 (n := 38) rfl rfl ?_
    refine q_callVv C dX12_passes_38 (n := 41) rfl m_X12_454 v_yX12_adds (zM0 h0) ⟨by decide, rfl⟩ (c_X12_addsv (w := w) (J := J) hI hF h0 ((M a 57) - 1) v1 p1 p2 (by omega) (by omega) (by omega)) (Nat.le_of_ble_eq_true rfl) rfl rfl (Nat.le_of_ble_eq_true rfl) ⟨Nat.le_refl _, Nat.le_refl _⟩ (fun M5 J6  hI7 h8 => ?_)
    obtain ⟨hk9, h3, h4⟩ := h8
    have hK10 := hK0.tr hk9 rfl rfl rfl
    exact q_vret C dX12_passes_41 ⟨rfl, rfl⟩ (by rw [hPo]; exact ⟨M5, J6, rfl, rfl, hI7, hK10, h3, h4⟩)
  · have gl := zX.lst p1 (by omega) (by omega)
    refine q_aload_n C dX12_passes_7 (n := 8) rfl rfl ?_
    refine q_getR C dX12_passes_8 (n := 11) rfl f_X12_138 (zM0 h0) (hF _ _ _ (zM136 h0)) ?_
    refine q_aload_n C dX12_passes_11 (n := 12) rfl rfl ?_
    have g11 := zI.at hI (zM146 h0)
    refine q_getI C dX12_passes_12 (n := 15) rfl f_X12_451 (zM0 h0) (v := M a 61) rfl ?_
    refine q_iload_n C dX12_passes_15 (n := 16) rfl rfl ?_
    refine q_iast C dX12_passes_16 (n := 17) rfl (zM137 h0) (by omega)  (fun M12 e13 => ?_)
    have hI14 : zI G M12 := hI.put e13 ((zM138 h0) (M a 61)) rfl (by omega)
    have hK15 := hK0.upA e13 rfl
    refine q_aload_n C dX12_passes_17 (n := 18) rfl rfl ?_
    refine q_dup C dX12_passes_18 (n := 19) rfl rfl ?_
    refine q_getI C dX12_passes_19 (n := 22) rfl f_X12_451 (zM0 h0) (v := M a 61) (zup_p e13 (by omega) _) ?_
    refine q_iconst C dX12_passes_22 (n := 23) rfl ?_
    refine q_iadd C dX12_passes_23 (n := 24) rfl (v := (M a 61) + 1) rfl ?_
    refine q_putI C dX12_passes_24 (n := 27) rfl f_X12_451 (zM0 h0) ⟨rfl, rfl⟩ (fun M16 (e17 : M16 = zup M12 a 61 ((M a 61) + 1)) => ?_)
    have hI18 : zI G M16 := hI14.put e17 (zM146 h0) rfl (by omega)
    have hK19 := hK15.upS e17 rfl
    have hx20 : zX M16 a mb mp n A0 (v - 1) u z := zY.cgr (Y_list p1 (by omega) (by omega) (by omega)) ((zup_n e17 (by omega)).trans (zup_p e13 (by omega) _)) ((zup_n e17 (by omega)).trans (zup_p e13 (by omega) _)) ((zup_n e17 (by omega)).trans (zup_p e13 (by omega) _)) ((zup_n e17 (by omega)).trans (zup_p e13 (by omega) _)) ((zup_n e17 (by omega)).trans (zup_p e13 (by omega) _)) ((zup_n e17 (by omega)).trans (zup_p e13 (by omega) _)) ((zup_n e17 (by omega)).trans (zup_p e13 (by omega) _)) ((zup_n e17 (by omega)).trans (zup_p e13 (by omega) _)) (by have hw : M16 a 61 = (M a 61) + 1 := (zup_s e17); omega) (funext fun j => ((zup_p e17 (by omega) _).trans (zup_p e13 (by omega) _))) (funext fun j => ((zup_p e17 (by omega) _).trans (zup_p e13 (by omega) _))) (funext fun j => ((zup_p e17 (by omega) _).trans (zup_p e13 (by omega) _))) (funext fun j => ((zup_p e17 (by omega) _).trans (zup_p e13 (by omega) _))) (funext fun j => ((zup_p e17 (by omega) _).trans (zup_p e13 (by omega) _))) (funext fun j => ((zup_p e17 (by omega) _).trans (zup_p e13 (by omega) _))) (funext fun j => ((zup_p e17 (by omega) _).trans (zup_p e13 (by omega) _))) (funext fun j => ((zup_p e17 (by omega) _).trans (zup_p e13 (by omega) _))) (funext fun j => ((zup_p e17 (by omega) _).trans (zup_p e13 (by omega) _))) (funext fun j => ((zup_p e17 (by omega) _).trans (zup_p e13 (by omega) _))) (funext fun j => ((zup_p e17 (by omega) _).trans (zup_p e13 (by omega) _))) (funext fun j => ((zup_p e17 (by omega) _).trans (zup_p e13 (by omega) _))) (funext fun j => ((zup_p e17 (by omega) _).trans (zup_p e13 (by omega) _)))
    refine q_goto C 41 dX12_passes_27 rfl ?_
    have hp21 : zOg M16 a og lg := p2.cg (fun j => ((zup_p e17 (by omega) _).trans (zup_p e13 (by omega) _))) (fun j => ((zup_p e17 (by omega) _).trans (zup_p e13 (by omega) _)))
    exact q_vret C dX12_passes_41 ⟨rfl, rfl⟩ (by rw [hPo]; exact ⟨M16, J, rfl, rfl, hI18, hK19, hx20, hp21⟩)
