theorem zi2b_id {x : Int} (h : -128 ≤ x ∧ x ≤ 127) : zi2b x = x := by
  unfold zi2b
  rw [Int8.toInt_toInt32, Int32.toInt8_ofInt, Int8.toInt_ofInt_of_le (by omega) (by omega)]
/-- as far as the body of m is told: the line's tokens from fr up to t -/
def zDb (M0 M : zMm) (a : Nat) (m fr w b : Int) : Prop := M (a + 18) (259 + (20 * m + b)) = M0 (a + 9) (fr + b) ∧ M (a + 18) (499 + (20 * m + b)) = M0 (a + 11) (fr + b) ∧ (1 ≤ M0 (a + 11) (fr + b) → M (a + 20) (360 + 30 * (20 * m + b)) = zBy M0 a (fr + b) 0) ∧ (M (a + 18) (979 + (20 * m + b)) < M0 a 37 ∨ M (a + 18) (979 + (20 * m + b)) = -1) ∧ (w = 0 → M (a + 18) (979 + (20 * m + b)) = -1) ∧ (¬ w = 0 → zPqq M0 a (fr + b) → 0 ≤ M (a + 18) (979 + (20 * m + b)))
def zDo (m j : Int) : Prop := (j < 259 + 20 * m ∨ 279 + 20 * m ≤ j) ∧ (j < 499 + 20 * m ∨ 519 + 20 * m ≤ j) ∧ (j < 739 + 20 * m ∨ 759 + 20 * m ≤ j) ∧ (j < 979 + 20 * m ∨ 999 + 20 * m ≤ j)
def zDf (M0 M : zMm) (a : Nat) (m fr w t : Int) : Prop := (∀ j, zDo m j → M (a + 18) j = M0 (a + 18) j) ∧ (∀ j, (j < 360 + 600 * m ∨ 960 + 600 * m ≤ j) → M (a + 20) j = M0 (a + 20) j) ∧ ∀ b, 0 ≤ b → fr + b < t → zDb M0 M a m fr w b
theorem zDf.zero {M : zMm} {a : Nat} {m fr w : Int} : zDf M M a m fr w fr := ⟨fun _ _ => rfl, fun _ _ => rfl, fun b b0 b1 => by omega⟩
theorem zDf.st {M0 M M2 : zMm} {a : Nat} {m fr w t x : Int} (h : zDf M0 M a m fr w t) (t0 : fr ≤ t) (t1 : t < fr + 20) (m0 : 0 ≤ m) (ew : ∀ j, j ≠ 259 + (20 * m + (t - fr)) → j ≠ 499 + (20 * m + (t - fr)) → j ≠ 739 + (20 * m + (t - fr)) → j ≠ 979 + (20 * m + (t - fr)) → M2 (a + 18) j = M (a + 18) j) (eb : ∀ j, (j < 360 + 30 * (20 * m + (t - fr)) ∨ 390 + 30 * (20 * m + (t - fr)) ≤ j) → M2 (a + 20) j = M (a + 20) j)
    (e1 : M2 (a + 18) (259 + (20 * m + (t - fr))) = M0 (a + 9) t) (e2 : M2 (a + 18) (499 + (20 * m + (t - fr))) = M0 (a + 11) t) (e3 : M2 (a + 18) (979 + (20 * m + (t - fr))) = x) (e4 : 1 ≤ M0 (a + 11) t → M2 (a + 20) (360 + 30 * (20 * m + (t - fr))) = zBy M0 a t 0) (hx : x < M0 a 37 ∨ x = -1) (hx0 : w = 0 → x = -1) (hx1 : ¬ w = 0 → zPqq M0 a t → 0 ≤ x) : zDf M0 M2 a m fr w (t + 1) := by
  obtain ⟨h1, h2, h3⟩ := h
  refine ⟨fun j hj => ?_, fun j hj => ?_, fun b b0 b1 => ?_⟩
  · have hj2 := hj
    unfold zDo at hj2
    rw [ew j (by omega) (by omega) (by omega) (by omega)]
    exact h1 j hj
  · rw [eb j (by omega)]
    exact h2 j hj
  · by_cases q : fr + b = t
    · have hb : b = t - fr := by omega
      subst hb
      unfold zDb
      rw [q, e1, e2, e3]
      exact ⟨rfl, rfl, e4, hx, hx0, hx1⟩
    · have := h3 b b0 (by omega)
      unfold zDb at this ⊢
      rw [ew _ (by omega) (by omega) (by omega) (by omega), ew (499 + (20 * m + b)) (by omega) (by omega) (by omega) (by omega), ew (979 + (20 * m + b)) (by omega) (by omega) (by omega) (by omega), eb _ (by omega)]
      exact this
theorem zIn.st {M M2 M0 : zMm} {a : Nat} {t B k x : Int} (h : k = 0 ∨ M (a + 20) B = zBy M0 a t 0) (e : M2 = zup M (a + 20) (B + k) x) (hx : zByp M a t k x) (hb : zBy M a t 0 = zBy M0 a t 0) : k + 1 = 0 ∨ M2 (a + 20) B = zBy M0 a t 0 := by
  right
  by_cases q : k = 0
  · subst q
    rw [show B = B + 0 by omega, zup_s e]
    exact hx.trans hb
  · rw [zup_n e (by omega)]
    exact h.resolve_left q
theorem zMe.df {M M2 : zMm} {a : Nat} {m N P : Int} (h : zMe M a) (hm : 0 ≤ m ∧ m ≤ 11) (hN : 0 ≤ N ∧ N ≤ 20) (hP : P ≤ 4) (e211 : M2 (a + 18) (211 + m) = N) (e199 : M2 (a + 18) (199 + m) = P) (hb : ∀ b, 0 ≤ b → b < N → (M2 (a + 18) (979 + (20 * m + b)) < P ∨ M2 (a + 18) (979 + (20 * m + b)) = -1) ∧ (0 ≤ P → M2 (a + 18) (259 + (20 * m + b)) = 3 → M2 (a + 18) (499 + (20 * m + b)) = 1 → M2 (a + 20) (360 + 30 * (20 * m + b)) = 35 → b + 1 < N ∧ 0 ≤ M2 (a + 18) (979 + (20 * m + (b + 1))))) (ew : ∀ j, 199 ≤ j → j ≠ 199 + m → j ≠ 211 + m → (j < 223 ∨ (259 ≤ j ∧ j < 739 ∧ (j < 259 + 20 * m ∨ 279 + 20 * m ≤ j) ∧ (j < 499 + 20 * m ∨ 519 + 20 * m ≤ j)) ∨ (979 ≤ j ∧ (j < 979 + 20 * m ∨ 999 + 20 * m ≤ j))) → M2 (a + 18) j = M (a + 18) j) (eb : ∀ j, 360 ≤ j → (j < 360 + 600 * m ∨ 960 + 600 * m ≤ j) → M2 (a + 20) j = M (a + 20) j) : zMe M2 a := by
  obtain ⟨mb, mp, q⟩ := h
  refine ⟨fun x => if x = m then N else mb x, fun x => if x = m then P else mp x, fun x x0 x1 => ?_, fun x => ?_, fun x => ?_⟩
  · show M2 (a + 18) (211 + x) = (if x = m then N else mb x) ∧ M2 (a + 18) (199 + x) = (if x = m then P else mp x) ∧ ∀ b, 0 ≤ b → b < (if x = m then N else mb x) → _
    by_cases e : x = m
    · subst e
      rw [if_pos rfl, if_pos rfl]
      refine ⟨e211, e199, fun b b0 b1 => ?_⟩
      unfold zMb
      show (_ < (if x = x then P else mp x) ∨ _) ∧ (0 ≤ (if x = x then P else mp x) → _ → _ → _ → b + 1 < (if x = x then N else mb x) ∧ _)
      rw [if_pos rfl, if_pos rfl]
      exact hb b b0 b1
    · rw [if_neg e, if_neg e]
      obtain ⟨h1, h2, h3⟩ := q.1 x x0 x1
      have hb2 := (q.2.1 x).2
      rw [ew (211 + x) (by omega) (by omega) (by omega) (by omega), ew (199 + x) (by omega) (by omega) (by omega) (by omega)]
      refine ⟨h1, h2, fun b b0 b1 => ?_⟩
      have t := h3 b b0 b1
      unfold zMb at t ⊢
      show (_ < (if x = m then P else mp x) ∨ _) ∧ (0 ≤ (if x = m then P else mp x) → _ → _ → _ → b + 1 < (if x = m then N else mb x) ∧ _)
      rw [if_neg e, if_neg e, ew (979 + (20 * x + b)) (by omega) (by omega) (by omega) (by omega), ew (259 + (20 * x + b)) (by omega) (by omega) (by omega) (by omega), ew (499 + (20 * x + b)) (by omega) (by omega) (by omega) (by omega), eb (360 + 30 * (20 * x + b)) (by omega) (by omega)]
      refine ⟨t.1, fun z1 z2 z3 z4 => ?_⟩
      obtain ⟨r1, r2⟩ := t.2 z1 z2 z3 z4
      refine ⟨r1, ?_⟩
      rw [ew (979 + (20 * x + (b + 1))) (by omega) (by omega) (by omega) (by omega)]
      exact r2
  · show 0 ≤ (if x = m then N else mb x) ∧ (if x = m then N else mb x) ≤ 20
    have := q.2.1 x
    split <;> omega
  · show (if x = m then P else mp x) ≤ 4
    have := q.2.2 x
    split <;> omega
theorem zDf.me {M M0 M2 : zMm} {a : Nat} {m fr w tk P t : Int} (h : zMe M a) (hd : zDf M0 M2 a m fr w t) (hs : zHs M0 a fr w tk) (htk : tk = M0 a 23) (ht : M0 a 23 ≤ t) (hm : 0 ≤ m ∧ m ≤ 11) (hN : fr ≤ tk ∧ tk ≤ fr + 20) (hP : w = 0 ∧ P = -1 ∨ ¬ w = 0 ∧ P = M0 a 37) (hP4 : P ≤ 4) (e211 : M0 (a + 18) (211 + m) = tk - fr) (e199 : M0 (a + 18) (199 + m) = P) (ew : ∀ j, 199 ≤ j → j ≠ 199 + m → j ≠ 211 + m → (j < 223 ∨ 259 ≤ j) → M0 (a + 18) j = M (a + 18) j) (eb : ∀ j, 360 ≤ j → M0 (a + 20) j = M (a + 20) j) : zMe M2 a := by
  obtain ⟨d1, d2, d3⟩ := hd
  have o1 : ∀ j, j < 259 → zDo m j := fun j hj => by unfold zDo; omega
  refine zMe.df (N := tk - fr) (P := P) h hm (by omega) hP4 ((d1 _ (o1 _ (by omega))).trans e211) ((d1 _ (o1 _ (by omega))).trans e199) (fun b b0 b1 => ?_) (fun j j0 j1 j2 j3 => ?_) (fun j j0 j1 => (d2 j j1).trans (eb j j0))
  · obtain ⟨q1, q2, q3, q4, q5, q6⟩ := d3 b b0 (by omega)
    refine ⟨?_, fun p0 z1 z2 z3 => ?_⟩
    · rcases hP with ⟨w0, p1⟩ | ⟨w0, p1⟩
      · exact Or.inr (q5 w0)
      · rw [p1]
        exact q4
    · rcases hP with ⟨w0, p1⟩ | ⟨w0, p1⟩
      · omega
      · have hl := (hs.1 (fr + b) (by omega) (by omega)).2
        have hz : zHash M0 a (fr + b) 35 := ⟨q1.symm.trans z1, q2.symm.trans z2, (q3 hl).symm.trans z3⟩
        have hp := hs.2.2 w0 (fr + b) (by omega) (by omega) (by omega) hz
        have hp1 := hp.1
        have e : fr + b + 1 = fr + (b + 1) := by omega
        rw [e] at hp hp1
        exact ⟨by omega, (d3 (b + 1) (by omega) (by omega)).2.2.2.2.2 w0 hp⟩
  · have hj : zDo m j ∨ (739 + 20 * m ≤ j ∧ j < 759 + 20 * m) := by unfold zDo; omega
    rcases hj with hj | hj
    · exact (d1 j hj).trans (ew j j0 j1 j2 (by omega))
    · omega
theorem c_X12_defines {w : zWp} {T : zTl} {M : zMm} {J : zJm} {R : zRm'} {G : zGt} {F : zRm'} {a : Nat} (hI : zI G M) (hF : zF F R) (h0 : zModel T F G a) (p1 : zMe M a) (p2 : zLy M a 440) (p3 : 2 ≤ M a 23) : zCt w 5 0 0 yX12_defines cX12_defines 8 (some .boolean) [.ref (w.2.1 + a)] (T, M, J, R) (zPi T R G (fun x M2 => (zMd a [18, 20, 23] [37] [] M M2) ∧ (x = 0 ∨ x = 1) ∧ (zMe M2 a) ∧ (M2 (a + 18) 3 = M (a + 18) 3))) := by
  refine zCt.of rfl (Nat.le_of_ble_eq_true rfl) ?_
  intro p e s m args below meth c C
  obtain ⟨Po, hPo⟩ : ∃ Po, Po = zPi T R G (fun x M2 => (zMd a [18, 20, 23] [37] [] M M2) ∧ (x = 0 ∨ x = 1) ∧ (zMe M2 a) ∧ (M2 (a + 18) 3 = M (a + 18) 3)) := ⟨_, rfl⟩
  rw [← hPo]
  have hK0 : zMd a [18, 20, 23] [37] [] M M := zMd.rf
  have gk_tokens := zI.at hI (zM58 h0)
  have gk_w_0 := zI.at hI (((zM67 h0) 0).trans (zwG_0 (by omega)))
  show zK w p e 5 0 0 s m args below meth c 8 T Po 0 [.ref (w.2.1 + a), .null, .null, .null, .null, .null, .null, .null] [] (T, M, J, R)
  refine q_aload_n C dX12_defines_0 (n := 1) rfl rfl ?_
  have g1 := zI.at hI (zM58 h0)
  refine q_getI C dX12_defines_1 (n := 4) rfl f_X12_355 (zM0 h0) (v := M a 23) rfl ?_
  refine q_iconst C dX12_defines_4 (n := 5) rfl ?_
  have J_2 : zK w p e 5 0 0 s m args below meth c 8 T Po 25 [.ref (w.2.1 + a), .null, .null, .null, .null, .null, .null, .null] [] (T, M, J, R) := by
    refine q_aload_n C dX12_defines_25 (n := 26) rfl rfl ?_
    refine q_iconst C dX12_defines_26 (n := 27) rfl ?_
    refine q_iconst C dX12_defines_27 (n := 28) rfl ?_
    refine q_callVi C dX12_defines_28 (n := 31) rfl m_X12_430 v_yX12_badToken (zM0 h0) ⟨by decide, rfl⟩ (c_X12_badToken (w := w) (J := J) hI hF h0 2 2 (by omega) (by omega)) (Nat.le_of_ble_eq_true rfl) rfl rfl (Nat.le_of_ble_eq_true rfl) ⟨Nat.le_refl _, Nat.le_refl _⟩ (fun x9 M5 J6  hI7 h8 => ?_)
    obtain ⟨hk10, h3, h4⟩ := h8
    have hK11 := hK0.tr hk10 rfl rfl rfl
    have hp12 : zMe M5 a := p1.cg (fun j j0 j1 => (hk10.getW rfl rfl (by omega))) (fun j => (hk10.getA rfl rfl rfl))
    exact q_zret C dX12_defines_31 ⟨rfl, rfl⟩ (by omega) (by rw [hPo]; exact ⟨x9, M5, J6, rfl, rfl, hI7, hK11, by omega, hp12, ((hk10.getP rfl rfl rfl))⟩)
  refine q_icmp_eq C 25 dX12_defines_5 (n := 8) rfl rfl (by omega) (fun h13 => ?_) (fun h13 => ?_)
  · exact zK.weak (J_2) (zwk_c (zwk_n (zwk_n (zwk_n (zwk_n (zwk_n (zwk_n (zwk_n zwk_e))))))))
  · refine q_aload_n C dX12_defines_8 (n := 9) rfl rfl ?_
    refine q_getR C dX12_defines_9 (n := 12) rfl f_X12_40 (zM0 h0) (hF _ _ _ (zM31 h0)) ?_
    refine q_iconst C dX12_defines_12 (n := 13) rfl ?_
    have g14 := zI.at hI ((zM33 h0) 2)
    refine q_iald C dX12_defines_13 (n := 14) rfl (zM32 h0) (by omega) (v := M (a + 9) 2) rfl ?_
    refine q_if_ne C 25 dX12_defines_14 (n := 17) rfl rfl (by omega) (fun h15 => ?_) (fun h15 => ?_)
    · exact zK.weak (J_2) (zwk_c (zwk_n (zwk_n (zwk_n (zwk_n (zwk_n (zwk_n (zwk_n zwk_e))))))))
    · refine q_aload_n C dX12_defines_17 (n := 18) rfl rfl ?_
      refine q_iconst C dX12_defines_18 (n := 19) rfl ?_
      refine q_callVp C dX12_defines_19 (n := 22) rfl m_X12_433 v_yX12_isDefined (zM0 h0) ⟨by decide, rfl⟩ (c_X12_isDefined (w := w) (J := J) hI hF h0 2 (by omega)) (Nat.le_of_ble_eq_true rfl) rfl rfl (Nat.le_of_ble_eq_true rfl) ⟨Nat.le_refl _, Nat.le_refl _⟩ (fun x18 h19 => ?_)
      obtain ⟨h16, h17⟩ := h19
      refine q_if_eq C 32 dX12_defines_22 (n := 25) rfl rfl (by omega) (fun h20 => ?_) (fun h20 => ?_)
      · refine q_aload_n C dX12_defines_32 (n := 33) rfl rfl ?_
        refine q_iconst C dX12_defines_33 (n := 34) rfl ?_
        refine q_callVp C dX12_defines_34 (n := 37) rfl m_X12_436 v_yX12_macroOf (zM0 h0) ⟨by decide, rfl⟩ (c_X12_macroOf (w := w) (J := J) hI hF h0 2 (by omega)) (Nat.le_of_ble_eq_true rfl) rfl rfl (Nat.le_of_ble_eq_true rfl) ⟨Nat.le_refl _, Nat.le_refl _⟩ (fun x22 h23 => ?_)
        refine q_if_lt C 47 dX12_defines_37 (n := 40) rfl rfl (by omega) (fun h24 => ?_) (fun h24 => ?_)
        · refine q_aload_n C dX12_defines_47 (n := 48) rfl rfl ?_
          refine q_iconst C dX12_defines_48 (n := 49) rfl ?_
          refine q_callVp C dX12_defines_49 (n := 52) rfl m_X12_409 v_yX12_numberOf (zM0 h0) ⟨by decide, rfl⟩ (c_X12_numberOf (w := w) (J := J) hI hF h0 2 (by omega)) (Nat.le_of_ble_eq_true rfl) rfl rfl (Nat.le_of_ble_eq_true rfl) ⟨Nat.le_refl _, Nat.le_refl _⟩ (fun x26 h27 => ?_)
          refine q_istore_n C [.ref (w.2.1 + a), zi x26, .null, .null, .null, .null, .null, .null] dX12_defines_52 (n := 53) rfl rfl rfl ?_
          refine q_iload_n C dX12_defines_53 (n := 54) rfl rfl ?_
          have J_29 : (0 ≤ x26 ∨ ¬ M (a + 18) 0 = 12) → zK w p e 5 0 0 s m args below meth c 8 T Po 76 [.ref (w.2.1 + a), zi x26, .null, .null, .null, .null, .null, .null] [] (T, M, J, R) := by
            intro h28
            refine q_aload_n C dX12_defines_76 (n := 77) rfl rfl ?_
            refine q_iconst C dX12_defines_77 (n := 78) rfl ?_
            refine q_putI C dX12_defines_78 (n := 81) rfl f_X12_421 (zM0 h0) ⟨rfl, rfl⟩ (fun M30 (e31 : M30 = zup M a 37 0) => ?_)
            have hI32 : zI G M30 := hI.put e31 (zM84 h0) rfl (by omega)
            have hK33 := hK0.upS e31 rfl
            have hp34 : zPo M30 a := zPo.zero (zup_s e31)
            refine q_aload_n C dX12_defines_81 (n := 82) rfl rfl ?_
            refine q_getI C dX12_defines_82 (n := 85) rfl f_X12_355 (zM0 h0) (v := M a 23) (zup_n e31 (by omega)) ?_
            refine q_iconst C dX12_defines_85 (n := 86) rfl ?_
            have J_39 : ∀ (u35 : Int), (-2147483648 ≤ u35 ∧ u35 ≤ 2147483647) → (u35 = 0 ∨ u35 = 1) → (u35 = 0 ∨ 3 < M a 23) → zK w p e 5 0 0 s m args below meth c 8 T Po 113 [.ref (w.2.1 + a), zi x26, .null, .null, .null, .null, .null, .null] [zi u35] (T, M30, J, R) := by
              intro u35 h36 h37 h38
              refine q_istore_n C [.ref (w.2.1 + a), zi x26, zi u35, .null, .null, .null, .null, .null] dX12_defines_113 (n := 114) rfl rfl rfl ?_
              refine q_iload_n C dX12_defines_114 (n := 115) rfl rfl ?_
              have J_50 : ∀ (u40 : Int) (M42 : zMm) (J43 : zJm), zI G M42 → zMd a [18, 20, 23] [37] [] M M42 → zMd a [23] [37] [(18, 11), (18, 12), (18, 13), (18, 14)] M30 M42 → (-2147483648 ≤ u40 ∧ u40 ≤ 2147483647) → (u40 = -1 ∨ 3 ≤ u40 ∧ u40 ≤ 441 ∧ u40 ≤ M a 23) → (zPo M42 a) → zK w p e 5 0 0 s m args below meth c 8 T Po 127 [.ref (w.2.1 + a), zi x26, zi u35, .null, .null, .null, .null, .null] [zi u40] (T, M42, J43, R) := by
                intro u40 M42 J43 hI44 hK45 hK46 h47 h48 h49
                refine q_istore_n C [.ref (w.2.1 + a), zi x26, zi u35, zi u40, .null, .null, .null, .null] dX12_defines_127 (n := 128) rfl rfl rfl ?_
                refine q_iload_n C dX12_defines_128 (n := 129) rfl rfl ?_
                refine q_if_ge C 134 dX12_defines_129 (n := 132) rfl rfl (by omega) (fun h51 => ?_) (fun h51 => ?_)
                · refine q_iload_n C dX12_defines_134 (n := 135) rfl rfl ?_
                  refine q_istore C [.ref (w.2.1 + a), zi x26, zi u35, zi u40, zi u40, .null, .null, .null] dX12_defines_135 (n := 137) rfl rfl rfl ?_
                  have L_56 : ∀ n57 : Nat, ∀ (u52 : Int), (-2147483648 ≤ u52 ∧ u52 ≤ 2147483647) → (u40 ≤ u52 ∧ u52 ≤ u40 + 20 ∧ u52 ≤ M a 23) → (zHs M42 a u40 u35 u52) → (M a 23 - u52 + 1 ≤ (n57 : Int)) → zK w p e 5 0 0 s m args below meth c 8 T Po 137 [.ref (w.2.1 + a), zi x26, zi u35, zi u40, zi u52, .null, .null, .null] [] (T, M42, J43, R) := by
                    intro n57
                    induction n57 with
                    | zero =>
                      intro u52 h53 h54 h55 hm59
                      exfalso
                      omega
                    | succ n57 ih58 =>
                      intro u52 h53 h54 h55 hm59
                      refine q_iload C dX12_defines_137 (n := 139) rfl rfl ?_
                      refine q_aload_n C dX12_defines_139 (n := 140) rfl rfl ?_
                      refine q_getI C dX12_defines_140 (n := 143) rfl f_X12_355 (zM0 h0) (v := M a 23) ((hK46.getS rfl rfl).trans (zup_n e31 (by omega))) ?_
                      refine q_icmp_ge C 259 dX12_defines_143 (n := 146) rfl rfl (by omega) (fun h60 => ?_) (fun h60 => ?_)
                      · refine q_iload_n C dX12_defines_259 (n := 260) rfl rfl ?_
                        refine q_istore C [.ref (w.2.1 + a), zi x26, zi u35, zi u40, zi x26, .null, .null, .null] dX12_defines_260 (n := 262) rfl rfl rfl ?_
                        refine q_iload C dX12_defines_262 (n := 264) rfl rfl ?_
                        have J_72 : ∀ (u61 : Int) (M63 : zMm) (J64 : zJm), zI G M63 → zMd a [18, 20, 23] [37] [] M M63 → zMd a [18, 20] [] [] M42 M63 → (-2147483648 ≤ u61 ∧ u61 ≤ 2147483647) → (0 ≤ u61 ∧ u61 ≤ 11) → (∀ j, 0 < j → (j < 175 ∨ 187 ≤ j) → M63 (a + 18) j = M42 (a + 18) j) → (∀ j, 360 ≤ j → M63 (a + 20) j = M42 (a + 20) j) → zK w p e 5 0 0 s m args below meth c 8 T Po 343 [.ref (w.2.1 + a), .null, zi u35, zi u40, zi u61, .null, .null, .null] [] (T, M63, J64, R) := by
                          intro u61 M63 J64 hI65 hK66 hK67 h68 h69 h70 h71
                          refine q_aload_n C dX12_defines_343 (n := 344) rfl rfl ?_
                          refine q_getR C dX12_defines_344 (n := 347) rfl f_X12_68 (zM0 h0) (hF _ _ _ (zM65 h0)) ?_
                          refine q_sipush C dX12_defines_347 (n := 350) rfl (x := 187) (by decide) ?_
                          refine q_iload C dX12_defines_350 (n := 352) rfl rfl ?_
                          refine q_iadd C dX12_defines_352 (n := 353) rfl (v := 187 + u61) rfl ?_
                          refine q_iconst C dX12_defines_353 (n := 354) rfl ?_
                          refine q_iast C dX12_defines_354 (n := 355) rfl (zM66 h0) (by omega)  (fun M73 e74 => ?_)
                          have hI75 : zI G M73 := hI65.put e74 (((zM67 h0) (187 + u61)).trans (zwG_187 (by omega))) rfl (by omega)
                          have hK76 := hK66.upA e74 rfl
                          refine q_aload_n C dX12_defines_355 (n := 356) rfl rfl ?_
                          refine q_getR C dX12_defines_356 (n := 359) rfl f_X12_68 (zM0 h0) (hF _ _ _ (zM65 h0)) ?_
                          refine q_sipush C dX12_defines_359 (n := 362) rfl (x := 199) (by decide) ?_
                          refine q_iload C dX12_defines_362 (n := 364) rfl rfl ?_
                          refine q_iadd C dX12_defines_364 (n := 365) rfl (v := 199 + u61) rfl ?_
                          refine q_iload_n C dX12_defines_365 (n := 366) rfl rfl ?_
                          have J_81 : ∀ (u77 : Int), (-2147483648 ≤ u77 ∧ u77 ≤ 2147483647) → (u35 = 0 ∧ u77 = -1 ∨ ¬ u35 = 0 ∧ u77 = M73 a 37) → (-1 ≤ u77 ∧ u77 ≤ 4) → zK w p e 5 0 0 s m args below meth c 8 T Po 377 [.ref (w.2.1 + a), .null, zi u35, zi u40, zi u61, .null, .null, .null] [zi u77, zi (199 + u61), .ref (w.2.1 + (a + 18))] (T, M73, J64, R) := by
                            intro u77 h78 h79 h80
                            have hz82 : M73 a 37 = M42 a 37 := ((zup_p e74 (by omega) _).trans (hK67.getS rfl rfl))
                            refine q_iast C dX12_defines_377 (n := 378) rfl (zM66 h0) (by omega)  (fun M83 e84 => ?_)
                            have hI85 : zI G M83 := hI75.put e84 (((zM67 h0) (199 + u61)).trans (zwG_199 (by omega))) rfl (by omega)
                            have hK86 := hK76.upA e84 rfl
                            refine q_aload_n C dX12_defines_378 (n := 379) rfl rfl ?_
                            refine q_getR C dX12_defines_379 (n := 382) rfl f_X12_68 (zM0 h0) (hF _ _ _ (zM65 h0)) ?_
                            refine q_sipush C dX12_defines_382 (n := 385) rfl (x := 211) (by decide) ?_
                            refine q_iload C dX12_defines_385 (n := 387) rfl rfl ?_
                            refine q_iadd C dX12_defines_387 (n := 388) rfl (v := 211 + u61) rfl ?_
                            refine q_aload_n C dX12_defines_388 (n := 389) rfl rfl ?_
                            refine q_getI C dX12_defines_389 (n := 392) rfl f_X12_355 (zM0 h0) (v := M a 23) ((zup_p e84 (by omega) _).trans ((zup_p e74 (by omega) _).trans ((hK67.getS rfl rfl).trans ((hK46.getS rfl rfl).trans (zup_n e31 (by omega)))))) ?_
                            refine q_iload_n C dX12_defines_392 (n := 393) rfl rfl ?_
                            refine q_isub C dX12_defines_393 (n := 394) rfl (v := (M a 23) - u40) rfl ?_
                            refine q_iast C dX12_defines_394 (n := 395) rfl (zM66 h0) (by omega)  (fun M87 e88 => ?_)
                            have hI89 : zI G M87 := hI85.put e88 (((zM67 h0) (211 + u61)).trans (zwG_211 (by omega))) rfl (by omega)
                            have hK90 := hK86.upA e88 rfl
                            refine q_aload_n C dX12_defines_395 (n := 396) rfl rfl ?_
                            refine q_getR C dX12_defines_396 (n := 399) rfl f_X12_68 (zM0 h0) (hF _ _ _ (zM65 h0)) ?_
                            refine q_sipush C dX12_defines_399 (n := 402) rfl (x := 223) (by decide) ?_
                            refine q_iload C dX12_defines_402 (n := 404) rfl rfl ?_
                            refine q_iadd C dX12_defines_404 (n := 405) rfl (v := 223 + u61) rfl ?_
                            refine q_aload_n C dX12_defines_405 (n := 406) rfl rfl ?_
                            have g91 := zI.at hI (zM63 h0)
                            refine q_getI C dX12_defines_406 (n := 409) rfl f_X12_379 (zM0 h0) (v := M a 28) ((zup_p e88 (by omega) _).trans ((zup_p e84 (by omega) _).trans ((zup_p e74 (by omega) _).trans ((hK67.getS rfl rfl).trans ((hK46.getS rfl rfl).trans (zup_n e31 (by omega))))))) ?_
                            refine q_iast C dX12_defines_409 (n := 410) rfl (zM66 h0) (by omega)  (fun M92 e93 => ?_)
                            have hI94 : zI G M92 := hI89.put e93 (((zM67 h0) (223 + u61)).trans (zwG_223 (by omega))) rfl (by omega)
                            have hK95 := hK90.upA e93 rfl
                            refine q_aload_n C dX12_defines_410 (n := 411) rfl rfl ?_
                            refine q_getR C dX12_defines_411 (n := 414) rfl f_X12_68 (zM0 h0) (hF _ _ _ (zM65 h0)) ?_
                            refine q_sipush C dX12_defines_414 (n := 417) rfl (x := 235) (by decide) ?_
                            refine q_iload C dX12_defines_417 (n := 419) rfl rfl ?_
                            refine q_iadd C dX12_defines_419 (n := 420) rfl (v := 235 + u61) rfl ?_
                            refine q_aload_n C dX12_defines_420 (n := 421) rfl rfl ?_
                            have g96 := zI.at hI (zM64 h0)
                            refine q_getI C dX12_defines_421 (n := 424) rfl f_X12_382 (zM0 h0) (v := M a 29) ((zup_p e93 (by omega) _).trans ((zup_p e88 (by omega) _).trans ((zup_p e84 (by omega) _).trans ((zup_p e74 (by omega) _).trans ((hK67.getS rfl rfl).trans ((hK46.getS rfl rfl).trans (zup_n e31 (by omega)))))))) ?_
                            refine q_iast C dX12_defines_424 (n := 425) rfl (zM66 h0) (by omega)  (fun M97 e98 => ?_)
                            have hI99 : zI G M97 := hI94.put e98 (((zM67 h0) (235 + u61)).trans (zwG_223 (by omega))) rfl (by omega)
                            have hK100 := hK95.upA e98 rfl
                            have hfw : ∀ j, 199 ≤ j → j ≠ 199 + u61 → j ≠ 211 + u61 → (j < 223 ∨ 259 ≤ j) → M97 (a + 18) j = M (a + 18) j := fun j j0 j1 j2 j3 => (((zup_n e98 (by omega)).trans ((zup_n e93 (by omega)).trans ((zup_n e88 (by omega)).trans ((zup_n e84 (by omega)).trans (zup_n e74 (by omega))))))).trans ((h70 j (by omega) (by omega)).trans (((hK46.getW rfl rfl (by omega)).trans (zup_p e31 (by omega) _))))
                            have hfb : ∀ j, 360 ≤ j → M97 (a + 20) j = M (a + 20) j := fun j j0 => (((zup_p e98 (by omega) _).trans ((zup_p e93 (by omega) _).trans ((zup_p e88 (by omega) _).trans ((zup_p e84 (by omega) _).trans (zup_p e74 (by omega) _)))))).trans ((h71 j j0).trans (((hK46.getA rfl rfl rfl).trans (zup_p e31 (by omega) _))))
                            have h211 : M97 (a + 18) (211 + u61) = (M a 23) - u40 := ((zup_n e98 (by omega)).trans ((zup_n e93 (by omega)).trans (zup_s e88)))
                            have h199 : M97 (a + 18) (199 + u61) = u77 := ((zup_n e98 (by omega)).trans ((zup_n e93 (by omega)).trans ((zup_n e88 (by omega)).trans (zup_s e84))))
                            have hf3 : M97 (a + 18) 3 = M (a + 18) 3 := (((zup_n e98 (by omega)).trans ((zup_n e93 (by omega)).trans ((zup_n e88 (by omega)).trans ((zup_n e84 (by omega)).trans (zup_n e74 (by omega))))))).trans ((h70 3 (by omega) (by omega)).trans (((hK46.getP rfl rfl rfl).trans (zup_p e31 (by omega) _))))
                            have h23 : M97 a 23 = M a 23 := ((zup_p e98 (by omega) _).trans ((zup_p e93 (by omega) _).trans ((zup_p e88 (by omega) _).trans ((zup_p e84 (by omega) _).trans ((zup_p e74 (by omega) _).trans ((hK67.getS rfl rfl).trans ((hK46.getS rfl rfl).trans (zup_n e31 (by omega)))))))))
                            have h37 : M97 a 37 = M42 a 37 := ((zup_p e98 (by omega) _).trans ((zup_p e93 (by omega) _).trans ((zup_p e88 (by omega) _).trans ((zup_p e84 (by omega) _).trans ((zup_p e74 (by omega) _).trans (hK67.getS rfl rfl))))))
                            have hp101 : zHs M97 a u40 u35 u52 := h55.cg (fun j => ((zup_p e98 (by omega) _).trans ((zup_p e93 (by omega) _).trans ((zup_p e88 (by omega) _).trans ((zup_p e84 (by omega) _).trans ((zup_p e74 (by omega) _).trans (hK67.getA rfl rfl rfl))))))) (fun j => ((zup_p e98 (by omega) _).trans ((zup_p e93 (by omega) _).trans ((zup_p e88 (by omega) _).trans ((zup_p e84 (by omega) _).trans ((zup_p e74 (by omega) _).trans (hK67.getA rfl rfl rfl))))))) (fun j => ((zup_p e98 (by omega) _).trans ((zup_p e93 (by omega) _).trans ((zup_p e88 (by omega) _).trans ((zup_p e84 (by omega) _).trans ((zup_p e74 (by omega) _).trans (hK67.getA rfl rfl rfl))))))) (fun j => ((zup_p e98 (by omega) _).trans ((zup_p e93 (by omega) _).trans ((zup_p e88 (by omega) _).trans ((zup_p e84 (by omega) _).trans ((zup_p e74 (by omega) _).trans (hK67.getA rfl rfl rfl))))))) (fun j => ((zup_p e98 (by omega) _).trans ((zup_p e93 (by omega) _).trans ((zup_p e88 (by omega) _).trans ((zup_p e84 (by omega) _).trans ((zup_p e74 (by omega) _).trans (hK67.getA rfl rfl rfl))))))) ((zup_p e98 (by omega) _).trans ((zup_p e93 (by omega) _).trans ((zup_p e88 (by omega) _).trans ((zup_p e84 (by omega) _).trans ((zup_p e74 (by omega) _).trans (hK67.getS rfl rfl)))))) ((zup_p e98 (by omega) _).trans ((zup_p e93 (by omega) _).trans ((zup_p e88 (by omega) _).trans ((zup_p e84 (by omega) _).trans ((zup_p e74 (by omega) _).trans (hK67.getS rfl rfl))))))
                            refine q_iload_n C dX12_defines_425 (n := 426) rfl rfl ?_
                            refine q_istore C [.ref (w.2.1 + a), .null, zi u35, zi u40, zi u61, zi u40, .null, .null] dX12_defines_426 (n := 428) rfl rfl rfl ?_
                            have L_112 : ∀ n113 : Nat, ∀ (u102 : Int) (M104 : zMm) (J105 : zJm), zI G M104 → zMd a [18, 20, 23] [37] [] M M104 → zMd a [18, 20] [] [] M97 M104 → (-2147483648 ≤ u102 ∧ u102 ≤ 2147483647) → (u40 ≤ u102 ∧ u102 ≤ M a 23) → (zDf M97 M104 a u61 u40 u35 u102) → (M a 23 - u102 + 1 ≤ (n113 : Int)) → zK w p e 5 0 0 s m args below meth c 8 T Po 428 [.ref (w.2.1 + a), .null, zi u35, zi u40, zi u61, zi u102, .null, .null] [] (T, M104, J105, R) := by
                              intro n113
                              induction n113 with
                              | zero =>
                                intro u102 M104 J105 hI106 hK107 hK108 h109 h110 h111 hm115
                                exfalso
                                omega
                              | succ n113 ih114 =>
                                intro u102 M104 J105 hI106 hK107 hK108 h109 h110 h111 hm115
                                refine q_iload C dX12_defines_428 (n := 430) rfl rfl ?_
                                refine q_aload_n C dX12_defines_430 (n := 431) rfl rfl ?_
                                refine q_getI C dX12_defines_431 (n := 434) rfl f_X12_355 (zM0 h0) (v := M a 23) ((hK108.getS rfl rfl).trans ((zup_p e98 (by omega) _).trans ((zup_p e93 (by omega) _).trans ((zup_p e88 (by omega) _).trans ((zup_p e84 (by omega) _).trans ((zup_p e74 (by omega) _).trans ((hK67.getS rfl rfl).trans ((hK46.getS rfl rfl).trans (zup_n e31 (by omega)))))))))) ?_
                                refine q_icmp_ge C 580 dX12_defines_434 (n := 437) rfl rfl (by omega) (fun h116 => ?_) (fun h116 => ?_)
                                · refine q_iconst C dX12_defines_580 (n := 581) rfl ?_
                                  exact q_zret C dX12_defines_581 ⟨rfl, rfl⟩ (by omega) (by rw [hPo]; exact ⟨1, M104, J105, rfl, rfl, hI106, hK107, by omega, (zDf.me p1 h111 hp101 (by omega) (by omega) (by omega) (by omega) (by omega) (by omega) (h211.trans (by omega)) h199 hfw hfb), ((h111.1 3 (by unfold zDo; omega)).trans hf3)⟩)
                                · refine q_iload C dX12_defines_437 (n := 439) rfl rfl ?_
                                  refine q_iload C dX12_defines_439 (n := 441) rfl rfl ?_
                                  refine q_iload_n C dX12_defines_441 (n := 442) rfl rfl ?_
                                  refine q_isub C dX12_defines_442 (n := 443) rfl (v := u102 - u40) rfl ?_
                                  refine q_callSp C dX12_defines_443 (n := 446) rfl m_X12_412 s_yX12_bodyAt (c_X12_bodyAt (w := w) (J := J105) hI106 hF u61 (u102 - u40)) (Nat.le_of_ble_eq_true rfl) rfl rfl (Nat.le_of_ble_eq_true rfl) ⟨Nat.le_refl _, Nat.le_refl _⟩ (fun x118 h119 => ?_)
                                  obtain rfl : x118 = 20 * u61 + (u102 - u40) := h119
                                  refine q_istore C [.ref (w.2.1 + a), .null, zi u35, zi u40, zi u61, zi u102, zi (20 * u61 + (u102 - u40)), .null] dX12_defines_446 (n := 448) rfl rfl rfl ?_
                                  refine q_aload_n C dX12_defines_448 (n := 449) rfl rfl ?_
                                  refine q_getR C dX12_defines_449 (n := 452) rfl f_X12_68 (zM0 h0) (hF _ _ _ (zM65 h0)) ?_
                                  refine q_sipush C dX12_defines_452 (n := 455) rfl (x := 259) (by decide) ?_
                                  refine q_iload C dX12_defines_455 (n := 457) rfl rfl ?_
                                  refine q_iadd C dX12_defines_457 (n := 458) rfl (v := 259 + (20 * u61 + (u102 - u40))) rfl ?_
                                  refine q_aload_n C dX12_defines_458 (n := 459) rfl rfl ?_
                                  refine q_getR C dX12_defines_459 (n := 462) rfl f_X12_40 (zM0 h0) (hF _ _ _ (zM31 h0)) ?_
                                  refine q_iload C dX12_defines_462 (n := 464) rfl rfl ?_
                                  have g120 := zI.at hI ((zM33 h0) u102)
                                  refine q_iald C dX12_defines_464 (n := 465) rfl (zM32 h0) (by omega) (v := M (a + 9) u102) ((hK108.getA rfl rfl rfl).trans ((zup_p e98 (by omega) _).trans ((zup_p e93 (by omega) _).trans ((zup_p e88 (by omega) _).trans ((zup_p e84 (by omega) _).trans ((zup_p e74 (by omega) _).trans ((hK67.getA rfl rfl rfl).trans ((hK46.getA rfl rfl rfl).trans (zup_p e31 (by omega) _))))))))) ?_
                                  refine q_iast C dX12_defines_465 (n := 466) rfl (zM66 h0) (by omega)  (fun M121 e122 => ?_)
                                  have hI123 : zI G M121 := hI106.put e122 (((zM67 h0) (259 + (20 * u61 + (u102 - u40)))).trans (zwG_259 (by omega))) rfl (by omega)
                                  have hK124 := hK107.upA e122 rfl
                                  have hK125 := hK108.upA e122 rfl
                                  refine q_aload_n C dX12_defines_466 (n := 467) rfl rfl ?_
                                  refine q_getR C dX12_defines_467 (n := 470) rfl f_X12_68 (zM0 h0) (hF _ _ _ (zM65 h0)) ?_
                                  refine q_sipush C dX12_defines_470 (n := 473) rfl (x := 499) (by decide) ?_
                                  refine q_iload C dX12_defines_473 (n := 475) rfl rfl ?_
                                  refine q_iadd C dX12_defines_475 (n := 476) rfl (v := 499 + (20 * u61 + (u102 - u40))) rfl ?_
                                  refine q_aload_n C dX12_defines_476 (n := 477) rfl rfl ?_
                                  refine q_getR C dX12_defines_477 (n := 480) rfl f_X12_46 (zM0 h0) (hF _ _ _ (zM37 h0)) ?_
                                  refine q_iload C dX12_defines_480 (n := 482) rfl rfl ?_
                                  have g126 := zI.at hI ((zM39 h0) u102)
                                  refine q_iald C dX12_defines_482 (n := 483) rfl (zM38 h0) (by omega) (v := M (a + 11) u102) ((zup_p e122 (by omega) _).trans ((hK108.getA rfl rfl rfl).trans ((zup_p e98 (by omega) _).trans ((zup_p e93 (by omega) _).trans ((zup_p e88 (by omega) _).trans ((zup_p e84 (by omega) _).trans ((zup_p e74 (by omega) _).trans ((hK67.getA rfl rfl rfl).trans ((hK46.getA rfl rfl rfl).trans (zup_p e31 (by omega) _)))))))))) ?_
                                  refine q_iast C dX12_defines_483 (n := 484) rfl (zM66 h0) (by omega)  (fun M127 e128 => ?_)
                                  have hI129 : zI G M127 := hI123.put e128 (((zM67 h0) (499 + (20 * u61 + (u102 - u40)))).trans (zwG_499 (by omega))) rfl (by omega)
                                  have hK130 := hK124.upA e128 rfl
                                  have hK131 := hK125.upA e128 rfl
                                  refine q_aload_n C dX12_defines_484 (n := 485) rfl rfl ?_
                                  refine q_getR C dX12_defines_485 (n := 488) rfl f_X12_68 (zM0 h0) (hF _ _ _ (zM65 h0)) ?_
                                  refine q_sipush C dX12_defines_488 (n := 491) rfl (x := 739) (by decide) ?_
                                  refine q_iload C dX12_defines_491 (n := 493) rfl rfl ?_
                                  refine q_iadd C dX12_defines_493 (n := 494) rfl (v := 739 + (20 * u61 + (u102 - u40))) rfl ?_
                                  refine q_aload_n C dX12_defines_494 (n := 495) rfl rfl ?_
                                  refine q_getR C dX12_defines_495 (n := 498) rfl f_X12_61 (zM0 h0) (hF _ _ _ (zM52 h0)) ?_
                                  refine q_iload C dX12_defines_498 (n := 500) rfl rfl ?_
                                  have g132 := zI.at hI ((zM54 h0) u102)
                                  refine q_iald C dX12_defines_500 (n := 501) rfl (zM53 h0) (by omega) (v := M (a + 16) u102) ((zup_p e128 (by omega) _).trans ((zup_p e122 (by omega) _).trans ((hK108.getA rfl rfl rfl).trans ((zup_p e98 (by omega) _).trans ((zup_p e93 (by omega) _).trans ((zup_p e88 (by omega) _).trans ((zup_p e84 (by omega) _).trans ((zup_p e74 (by omega) _).trans ((hK67.getA rfl rfl rfl).trans ((hK46.getA rfl rfl rfl).trans (zup_p e31 (by omega) _))))))))))) ?_
                                  refine q_iast C dX12_defines_501 (n := 502) rfl (zM66 h0) (by omega)  (fun M133 e134 => ?_)
                                  have hI135 : zI G M133 := hI129.put e134 (((zM67 h0) (739 + (20 * u61 + (u102 - u40)))).trans (zwG_739 (by omega))) rfl (by omega)
                                  have hK136 := hK130.upA e134 rfl
                                  have hK137 := hK131.upA e134 rfl
                                  refine q_aload_n C dX12_defines_502 (n := 503) rfl rfl ?_
                                  refine q_getR C dX12_defines_503 (n := 506) rfl f_X12_68 (zM0 h0) (hF _ _ _ (zM65 h0)) ?_
                                  refine q_sipush C dX12_defines_506 (n := 509) rfl (x := 979) (by decide) ?_
                                  refine q_iload C dX12_defines_509 (n := 511) rfl rfl ?_
                                  refine q_iadd C dX12_defines_511 (n := 512) rfl (v := 979 + (20 * u61 + (u102 - u40))) rfl ?_
                                  refine q_iload_n C dX12_defines_512 (n := 513) rfl rfl ?_
                                  have J_143 : ∀ (u138 : Int), (-2147483648 ≤ u138 ∧ u138 ≤ 2147483647) → (u35 = 0 ∧ u138 = -1 ∨ ¬ u35 = 0 ∧ (0 ≤ u138 ↔ zPqq M97 a u102)) → (-1 ≤ u138 ∧ u138 ≤ 3) → (u138 = -1 ∨ u138 < M133 a 37) → zK w p e 5 0 0 s m args below meth c 8 T Po 526 [.ref (w.2.1 + a), .null, zi u35, zi u40, zi u61, zi u102, .null, .null] [zi u138, zi (979 + (20 * u61 + (u102 - u40))), .ref (w.2.1 + (a + 18))] (T, M133, J105, R) := by
                                    intro u138 h139 h140 h141 h142
                                    have hz144 : M133 a 37 = M42 a 37 := ((zup_p e134 (by omega) _).trans ((zup_p e128 (by omega) _).trans ((zup_p e122 (by omega) _).trans ((hK108.getS rfl rfl).trans ((zup_p e98 (by omega) _).trans ((zup_p e93 (by omega) _).trans ((zup_p e88 (by omega) _).trans ((zup_p e84 (by omega) _).trans ((zup_p e74 (by omega) _).trans (hK67.getS rfl rfl))))))))))
                                    refine q_iast C dX12_defines_526 (n := 527) rfl (zM66 h0) (by omega)  (fun M145 e146 => ?_)
                                    have hI147 : zI G M145 := hI135.put e146 (((zM67 h0) (979 + (20 * u61 + (u102 - u40)))).trans (zwG_979 (by omega))) rfl (by omega)
                                    have hK148 := hK136.upA e146 rfl
                                    have hK149 := hK137.upA e146 rfl
                                    refine q_iconst C dX12_defines_527 (n := 528) rfl ?_
                                    refine q_istore C [.ref (w.2.1 + a), .null, zi u35, zi u40, zi u61, zi u102, .null, zi 0] dX12_defines_528 (n := 530) rfl rfl rfl ?_
                                    have L_162 : ∀ n163 : Nat, ∀ (u150 : Int) (M152 : zMm) (J153 : zJm), zI G M152 → zMd a [18, 20, 23] [37] [] M M152 → zMd a [18, 20] [] [] M97 M152 → zMd a [20] [] [] M145 M152 → (-2147483648 ≤ u150 ∧ u150 ≤ 2147483647) → (0 ≤ u150 ∧ u150 ≤ 30) → (∀ j, (j < 360 + 30 * (20 * u61 + (u102 - u40)) ∨ 390 + 30 * (20 * u61 + (u102 - u40)) ≤ j) → M152 (a + 20) j = M145 (a + 20) j) → (u150 = 0 ∨ M152 (a + 20) (360 + 30 * (20 * u61 + (u102 - u40))) = zBy M145 a u102 0) → (30 - u150 + 1 ≤ (n163 : Int)) → zK w p e 5 0 0 s m args below meth c 8 T Po 530 [.ref (w.2.1 + a), .null, zi u35, zi u40, zi u61, zi u102, .null, zi u150] [] (T, M152, J153, R) := by
                                      intro n163
                                      induction n163 with
                                      | zero =>
                                        intro u150 M152 J153 hI154 hK155 hK156 hK157 h158 h159 h160 h161 hm165
                                        exfalso
                                        omega
                                      | succ n163 ih164 =>
                                        intro u150 M152 J153 hI154 hK155 hK156 hK157 h158 h159 h160 h161 hm165
                                        refine q_iload C dX12_defines_530 (n := 532) rfl rfl ?_
                                        refine q_aload_n C dX12_defines_532 (n := 533) rfl rfl ?_
                                        refine q_getR C dX12_defines_533 (n := 536) rfl f_X12_46 (zM0 h0) (hF _ _ _ (zM37 h0)) ?_
                                        refine q_iload C dX12_defines_536 (n := 538) rfl rfl ?_
                                        refine q_iald C dX12_defines_538 (n := 539) rfl (zM38 h0) (by omega) (v := M (a + 11) u102) ((hK157.getA rfl rfl rfl).trans ((zup_p e146 (by omega) _).trans ((zup_p e134 (by omega) _).trans ((zup_p e128 (by omega) _).trans ((zup_p e122 (by omega) _).trans ((hK108.getA rfl rfl rfl).trans ((zup_p e98 (by omega) _).trans ((zup_p e93 (by omega) _).trans ((zup_p e88 (by omega) _).trans ((zup_p e84 (by omega) _).trans ((zup_p e74 (by omega) _).trans ((hK67.getA rfl rfl rfl).trans ((hK46.getA rfl rfl rfl).trans (zup_p e31 (by omega) _)))))))))))))) ?_
                                        refine q_icmp_ge C 574 dX12_defines_539 (n := 542) rfl rfl (by omega) (fun h166 => ?_) (fun h166 => ?_)
                                        · refine q_iinc C [.ref (w.2.1 + a), .null, zi u35, zi u40, zi u61, zi (u102 + 1), .null, zi u150] dX12_defines_574 (n := 577) rfl rfl rfl rfl ?_
                                          refine q_goto C 428 dX12_defines_577 rfl ?_
                                          exact zK.weak (ih114 (u102 + 1) M152 J153 hI154 hK155 hK156 (by omega) (by omega) (zDf.st (x := u138) h111 (by omega) (by omega) (by omega) (fun j j1 j2 j3 j4 => ((hK157.getA rfl rfl rfl).trans ((zup_n e146 (by omega)).trans ((zup_n e134 (by omega)).trans ((zup_n e128 (by omega)).trans (zup_n e122 (by omega))))))) (fun j j0 => (h160 j j0).trans (((zup_p e146 (by omega) _).trans ((zup_p e134 (by omega) _).trans ((zup_p e128 (by omega) _).trans (zup_p e122 (by omega) _)))))) ((((hK157.getA rfl rfl rfl).trans ((zup_n e146 (by omega)).trans ((zup_n e134 (by omega)).trans ((zup_n e128 (by omega)).trans (zup_s e122)))))).trans (((zup_p e98 (by omega) _).trans ((zup_p e93 (by omega) _).trans ((zup_p e88 (by omega) _).trans ((zup_p e84 (by omega) _).trans ((zup_p e74 (by omega) _).trans ((hK67.getA rfl rfl rfl).trans ((hK46.getA rfl rfl rfl).trans (zup_p e31 (by omega) _))))))))).symm) ((((hK157.getA rfl rfl rfl).trans ((zup_n e146 (by omega)).trans ((zup_n e134 (by omega)).trans (zup_s e128))))).trans (((zup_p e98 (by omega) _).trans ((zup_p e93 (by omega) _).trans ((zup_p e88 (by omega) _).trans ((zup_p e84 (by omega) _).trans ((zup_p e74 (by omega) _).trans ((hK67.getA rfl rfl rfl).trans ((hK46.getA rfl rfl rfl).trans (zup_p e31 (by omega) _))))))))).symm) ((hK157.getA rfl rfl rfl).trans (zup_s e146)) (fun z => by have hz : M97 (a + 11) u102 = M (a + 11) u102 := ((zup_p e98 (by omega) _).trans ((zup_p e93 (by omega) _).trans ((zup_p e88 (by omega) _).trans ((zup_p e84 (by omega) _).trans ((zup_p e74 (by omega) _).trans ((hK67.getA rfl rfl rfl).trans ((hK46.getA rfl rfl rfl).trans (zup_p e31 (by omega) _)))))))); exact (h161.resolve_left (by omega)).trans (zBy.cg (hp101.1 u102 (by omega) (by omega)).1 (fun j => ((zup_p e146 (by omega) _).trans ((zup_p e134 (by omega) _).trans ((zup_p e128 (by omega) _).trans ((zup_p e122 (by omega) _).trans (hK108.getA rfl rfl rfl)))))) (fun j => ((zup_p e146 (by omega) _).trans ((zup_p e134 (by omega) _).trans ((zup_p e128 (by omega) _).trans ((zup_p e122 (by omega) _).trans (hK108.getA rfl rfl rfl)))))))) (by omega) (fun z => by rcases h140 with q | q <;> omega) (fun z z2 => by rcases h140 with q | q <;> first | exact absurd q.1 z | exact q.2.mpr z2)) (by omega)) (zwk_c (zwk_n (zwk_c (zwk_c (zwk_c (zwk_c (zwk_n (zwk_n zwk_e))))))))
                                        · refine q_aload_n C dX12_defines_542 (n := 543) rfl rfl ?_
                                          refine q_getR C dX12_defines_543 (n := 546) rfl f_X12_74 (zM0 h0) (hF _ _ _ (zM71 h0)) ?_
                                          refine q_iload C dX12_defines_546 (n := 548) rfl rfl ?_
                                          refine q_iload C dX12_defines_548 (n := 550) rfl rfl ?_
                                          refine q_iload_n C dX12_defines_550 (n := 551) rfl rfl ?_
                                          refine q_isub C dX12_defines_551 (n := 552) rfl (v := u102 - u40) rfl ?_
                                          refine q_callSp C dX12_defines_552 (n := 555) rfl m_X12_415 s_yX12_bodyByte (c_X12_bodyByte (w := w) (J := J153) hI154 hF u61 (u102 - u40)) (Nat.le_of_ble_eq_true rfl) rfl rfl (Nat.le_of_ble_eq_true rfl) ⟨Nat.le_refl _, Nat.le_refl _⟩ (fun x168 h169 => ?_)
                                          obtain rfl : x168 = 360 + 30 * (20 * u61 + (u102 - u40)) := h169
                                          refine q_iload C dX12_defines_555 (n := 557) rfl rfl ?_
                                          refine q_iadd C dX12_defines_557 (n := 558) rfl (v := (360 + 30 * (20 * u61 + (u102 - u40))) + u150) rfl ?_
                                          refine q_aload_n C dX12_defines_558 (n := 559) rfl rfl ?_
                                          refine q_iload C dX12_defines_559 (n := 561) rfl rfl ?_
                                          refine q_iload C dX12_defines_561 (n := 563) rfl rfl ?_
                                          refine q_callVp C dX12_defines_563 (n := 566) rfl m_X12_370 v_yX12_byteIn (zM0 h0) ⟨by decide, rfl⟩ (c_X12_byteIn (w := w) (J := J153) hI154 hF h0 u102 u150 (by omega) (by omega)) (Nat.le_of_ble_eq_true rfl) rfl rfl (Nat.le_of_ble_eq_true rfl) ⟨Nat.le_refl _, Nat.le_refl _⟩ (fun x172 h173 => ?_)
                                          obtain ⟨h170, h171⟩ := h173
                                          refine q_i2b C dX12_defines_566 (n := 567) rfl (v := zi2b x172) rfl ?_
                                          have g174 := z8_r x172
                                          refine q_bast C dX12_defines_567 (n := 568) rfl (zM72 h0) (by omega) (by omega) (fun M175 e176 => ?_)
                                          have hI177 : zI G M175 := hI154.put e176 ((zM73 h0) ((360 + 30 * (20 * u61 + (u102 - u40))) + u150)) rfl (by omega)
                                          have hK178 := hK155.upA e176 rfl
                                          have hK179 := hK156.upA e176 rfl
                                          have hK180 := hK157.upA e176 rfl
                                          refine q_iinc C [.ref (w.2.1 + a), .null, zi u35, zi u40, zi u61, zi u102, .null, zi (u150 + 1)] dX12_defines_568 (n := 571) rfl rfl rfl rfl ?_
                                          refine q_goto C 530 dX12_defines_571 rfl ?_
                                          exact zK.weak (ih164 (u150 + 1) M175 J153 hI177 hK178 hK179 hK180 (by omega) (by omega) (fun j j0 => ((zup_n e176 (by omega))).trans (h160 j j0)) (zIn.st (B := 360 + 30 * (20 * u61 + (u102 - u40))) h161 e176 (by rw [zi2b_id (by omega)]; exact h171) (zBy.cg (by have hz := (hp101.1 u102 (by omega) (by omega)).1; have hz2 : M145 (a + 10) u102 = M97 (a + 10) u102 := ((zup_p e146 (by omega) _).trans ((zup_p e134 (by omega) _).trans ((zup_p e128 (by omega) _).trans ((zup_p e122 (by omega) _).trans (hK108.getA rfl rfl rfl))))); omega) (fun j => (hK157.getA rfl rfl rfl)) (fun j => (hK157.getA rfl rfl rfl)))) (by omega)) (zwk_c (zwk_n (zwk_c (zwk_c (zwk_c (zwk_c (zwk_n (zwk_c zwk_e))))))))
                                    exact zK.weak (L_162 _ 0 M145 J105 hI147 hK148 hK149 (zMd.rf : zMd a [20] [] [] M145 M145) (by omega) (by omega) (fun j _ => rfl) (Or.inl rfl) (Int.self_le_toNat _)) (zwk_c (zwk_n (zwk_c (zwk_c (zwk_c (zwk_c (zwk_n (zwk_c zwk_e))))))))
                                  refine q_if_eq C 525 dX12_defines_513 (n := 516) rfl rfl (by omega) (fun h181 => ?_) (fun h181 => ?_)
                                  · refine q_iconst C dX12_defines_525 (n := 526) rfl ?_
                                    exact zK.weak (J_143 (-1) (by omega) (Or.inl ⟨by omega, by omega⟩) (by omega) (by have hz182 : M133 a 37 = M42 a 37 := ((zup_p e134 (by omega) _).trans ((zup_p e128 (by omega) _).trans ((zup_p e122 (by omega) _).trans ((hK108.getS rfl rfl).trans ((zup_p e98 (by omega) _).trans ((zup_p e93 (by omega) _).trans ((zup_p e88 (by omega) _).trans ((zup_p e84 (by omega) _).trans ((zup_p e74 (by omega) _).trans (hK67.getS rfl rfl)))))))))); omega)) (zwk_c (zwk_n (zwk_c (zwk_c (zwk_c (zwk_c (zwk_n (zwk_n zwk_e))))))))
                                  · refine q_aload_n C dX12_defines_516 (n := 517) rfl rfl ?_
                                    refine q_iload C dX12_defines_517 (n := 519) rfl rfl ?_
                                    refine q_callVp C dX12_defines_519 (n := 522) rfl m_X12_427 v_yX12_parameterOf (zM0 h0) ⟨by decide, rfl⟩ (c_X12_parameterOf (w := w) (J := J105) hI135 hF h0 u102 (by omega)) (Nat.le_of_ble_eq_true rfl) rfl rfl (Nat.le_of_ble_eq_true rfl) ⟨Nat.le_refl _, Nat.le_refl _⟩ (fun x185 h186 => ?_)
                                    obtain ⟨h183, h184⟩ := h186
                                    have hz187 : M133 a 37 = M42 a 37 := ((zup_p e134 (by omega) _).trans ((zup_p e128 (by omega) _).trans ((zup_p e122 (by omega) _).trans ((hK108.getS rfl rfl).trans ((zup_p e98 (by omega) _).trans ((zup_p e93 (by omega) _).trans ((zup_p e88 (by omega) _).trans ((zup_p e84 (by omega) _).trans ((zup_p e74 (by omega) _).trans (hK67.getS rfl rfl))))))))))
                                    have hz188 : M133 a u102 = M104 a u102 := ((zup_p e134 (by omega) _).trans ((zup_p e128 (by omega) _).trans (zup_p e122 (by omega) _)))
                                    refine q_goto C 526 dX12_defines_522 rfl ?_
                                    exact zK.weak (J_143 x185 (by omega) (Or.inr ⟨by omega, Iff.trans h184 (zPqq.cg hp101.2.1 (fun z => (hp101.1 u102 (by omega) z).1) (fun j => ((zup_p e134 (by omega) _).trans ((zup_p e128 (by omega) _).trans ((zup_p e122 (by omega) _).trans (hK108.getA rfl rfl rfl))))) (fun j => ((zup_p e134 (by omega) _).trans ((zup_p e128 (by omega) _).trans ((zup_p e122 (by omega) _).trans (hK108.getA rfl rfl rfl))))) (fun j => ((zup_p e134 (by omega) _).trans ((zup_p e128 (by omega) _).trans ((zup_p e122 (by omega) _).trans (hK108.getA rfl rfl rfl))))) (fun j => ((zup_p e134 (by omega) _).trans ((zup_p e128 (by omega) _).trans ((zup_p e122 (by omega) _).trans (hK108.getA rfl rfl rfl))))) (fun j => ((zup_p e134 (by omega) _).trans ((zup_p e128 (by omega) _).trans ((zup_p e122 (by omega) _).trans (hK108.getA rfl rfl rfl))))) (((zup_p e134 (by omega) _).trans ((zup_p e128 (by omega) _).trans ((zup_p e122 (by omega) _).trans (hK108.getS rfl rfl))))) (((zup_p e134 (by omega) _).trans ((zup_p e128 (by omega) _).trans ((zup_p e122 (by omega) _).trans (hK108.getS rfl rfl))))))⟩) (by omega) (by have hz189 : M133 a 37 = M42 a 37 := ((zup_p e134 (by omega) _).trans ((zup_p e128 (by omega) _).trans ((zup_p e122 (by omega) _).trans ((hK108.getS rfl rfl).trans ((zup_p e98 (by omega) _).trans ((zup_p e93 (by omega) _).trans ((zup_p e88 (by omega) _).trans ((zup_p e84 (by omega) _).trans ((zup_p e74 (by omega) _).trans (hK67.getS rfl rfl)))))))))); omega)) (zwk_c (zwk_n (zwk_c (zwk_c (zwk_c (zwk_c (zwk_n (zwk_n zwk_e))))))))
                            exact zK.weak (L_112 _ u40 M97 J64 hI99 hK100 (zMd.rf : zMd a [18, 20] [] [] M97 M97) (by omega) (by omega) zDf.zero (Int.self_le_toNat _)) (zwk_c (zwk_n (zwk_c (zwk_c (zwk_c (zwk_c (zwk_n (zwk_n zwk_e))))))))
                          refine q_if_eq C 376 dX12_defines_366 (n := 369) rfl rfl (by omega) (fun h190 => ?_) (fun h190 => ?_)
                          · refine q_iconst C dX12_defines_376 (n := 377) rfl ?_
                            exact zK.weak (J_81 (-1) (by omega) (by have hz191 : M73 a 37 = M42 a 37 := ((zup_p e74 (by omega) _).trans (hK67.getS rfl rfl)); omega) (by omega)) (zwk_c (zwk_n (zwk_c (zwk_c (zwk_c (zwk_n (zwk_n (zwk_n zwk_e))))))))
                          · refine q_aload_n C dX12_defines_369 (n := 370) rfl rfl ?_
                            have g192 := zI.at hI44 (zM84 h0)
                            refine q_getI C dX12_defines_370 (n := 373) rfl f_X12_421 (zM0 h0) (v := M42 a 37) ((zup_p e74 (by omega) _).trans (hK67.getS rfl rfl)) ?_
                            refine q_goto C 377 dX12_defines_373 rfl ?_
                            exact zK.weak (J_81 (M42 a 37) (by omega) (by have hz193 : M73 a 37 = M42 a 37 := ((zup_p e74 (by omega) _).trans (hK67.getS rfl rfl)); omega) (by omega)) (zwk_c (zwk_n (zwk_c (zwk_c (zwk_c (zwk_n (zwk_n (zwk_n zwk_e))))))))
                        refine q_if_ge C 343 dX12_defines_264 (n := 267) rfl rfl (by omega) (fun h194 => ?_) (fun h194 => ?_)
                        · exact zK.weak (J_72 x26 M42 J43 hI44 hK45 (zMd.rf : zMd a [18, 20] [] [] M42 M42) (by omega) (by omega) (fun j _ _ => rfl) (fun j _ => rfl)) (zwk_c (zwk_n (zwk_c (zwk_c (zwk_c (zwk_n (zwk_n (zwk_n zwk_e))))))))
                        · refine q_aload_n C dX12_defines_267 (n := 268) rfl rfl ?_
                          refine q_getR C dX12_defines_268 (n := 271) rfl f_X12_68 (zM0 h0) (hF _ _ _ (zM65 h0)) ?_
                          refine q_iconst C dX12_defines_271 (n := 272) rfl ?_
                          have g195 := zI.at hI (((zM67 h0) 0).trans (zwG_0 (by omega)))
                          refine q_iald C dX12_defines_272 (n := 273) rfl (zM66 h0) (by omega) (v := M (a + 18) 0) ((hK46.getP rfl rfl rfl).trans (zup_p e31 (by omega) _)) ?_
                          refine q_istore C [.ref (w.2.1 + a), zi x26, zi u35, zi u40, zi (M (a + 18) 0), .null, .null, .null] dX12_defines_273 (n := 275) rfl rfl rfl ?_
                          refine q_aload_n C dX12_defines_275 (n := 276) rfl rfl ?_
                          refine q_getR C dX12_defines_276 (n := 279) rfl f_X12_68 (zM0 h0) (hF _ _ _ (zM65 h0)) ?_
                          refine q_iconst C dX12_defines_279 (n := 280) rfl ?_
                          refine q_dup2 C dX12_defines_280 (n := 281) rfl ⟨rfl, rfl⟩ ?_
                          refine q_iald C dX12_defines_281 (n := 282) rfl (zM66 h0) (by omega) (v := M (a + 18) 0) ((hK46.getP rfl rfl rfl).trans (zup_p e31 (by omega) _)) ?_
                          refine q_iconst C dX12_defines_282 (n := 283) rfl ?_
                          refine q_iadd C dX12_defines_283 (n := 284) rfl (v := (M (a + 18) 0) + 1) rfl ?_
                          refine q_iast C dX12_defines_284 (n := 285) rfl (zM66 h0) (by omega)  (fun M196 e197 => ?_)
                          have hp198 : zMe M42 a := p1.cg (fun j j0 j1 => ((hK46.getW rfl rfl (by omega)).trans (zup_p e31 (by omega) _))) (fun j => ((hK46.getA rfl rfl rfl).trans (zup_p e31 (by omega) _)))
                          have hp199 : zMe M196 a := hp198.up e197 (by omega)
                          have hI200 : zI G M196 := hI44.put e197 (((zM67 h0) 0).trans (zwG_0 (by omega))) rfl (by omega)
                          have hK201 := hK45.upA e197 rfl
                          have hK202 := (zMd.rf : zMd a [18, 20] [] [] M42 M42).upA e197 rfl
                          refine q_aload_n C dX12_defines_285 (n := 286) rfl rfl ?_
                          refine q_getR C dX12_defines_286 (n := 289) rfl f_X12_68 (zM0 h0) (hF _ _ _ (zM65 h0)) ?_
                          refine q_sipush C dX12_defines_289 (n := 292) rfl (x := 175) (by decide) ?_
                          refine q_iload C dX12_defines_292 (n := 294) rfl rfl ?_
                          refine q_iadd C dX12_defines_294 (n := 295) rfl (v := 175 + (M (a + 18) 0)) rfl ?_
                          refine q_aload_n C dX12_defines_295 (n := 296) rfl rfl ?_
                          refine q_getR C dX12_defines_296 (n := 299) rfl f_X12_46 (zM0 h0) (hF _ _ _ (zM37 h0)) ?_
                          refine q_iconst C dX12_defines_299 (n := 300) rfl ?_
                          have g203 := zI.at hI ((zM39 h0) 2)
                          refine q_iald C dX12_defines_300 (n := 301) rfl (zM38 h0) (by omega) (v := M (a + 11) 2) ((zup_p e197 (by omega) _).trans ((hK46.getA rfl rfl rfl).trans (zup_p e31 (by omega) _))) ?_
                          refine q_iast C dX12_defines_301 (n := 302) rfl (zM66 h0) (by omega)  (fun M204 e205 => ?_)
                          have hp206 : zMe M204 a := hp199.up e205 (by omega)
                          have hI207 : zI G M204 := hI200.put e205 (((zM67 h0) (175 + (M (a + 18) 0))).trans (zwG_175 (by omega))) rfl (by omega)
                          have hK208 := hK201.upA e205 rfl
                          have hK209 := hK202.upA e205 rfl
                          refine q_iconst C dX12_defines_302 (n := 303) rfl ?_
                          refine q_istore C [.ref (w.2.1 + a), zi x26, zi u35, zi u40, zi (M (a + 18) 0), zi 0, .null, .null] dX12_defines_303 (n := 305) rfl rfl rfl ?_
                          have L_221 : ∀ n222 : Nat, ∀ (u210 : Int) (M212 : zMm) (J213 : zJm), zI G M212 → zMd a [18, 20, 23] [37] [] M M212 → zMd a [18, 20] [] [] M42 M212 → zMd a [20] [] [] M204 M212 → (-2147483648 ≤ u210 ∧ u210 ≤ 2147483647) → (0 ≤ u210 ∧ u210 ≤ 30) → (∀ j, 360 ≤ j → M212 (a + 20) j = M204 (a + 20) j) → (30 - u210 + 1 ≤ (n222 : Int)) → zK w p e 5 0 0 s m args below meth c 8 T Po 305 [.ref (w.2.1 + a), .null, zi u35, zi u40, zi (M (a + 18) 0), zi u210, .null, .null] [] (T, M212, J213, R) := by
                            intro n222
                            induction n222 with
                            | zero =>
                              intro u210 M212 J213 hI214 hK215 hK216 hK217 h218 h219 h220 hm224
                              exfalso
                              omega
                            | succ n222 ih223 =>
                              intro u210 M212 J213 hI214 hK215 hK216 hK217 h218 h219 h220 hm224
                              refine q_iload C dX12_defines_305 (n := 307) rfl rfl ?_
                              refine q_aload_n C dX12_defines_307 (n := 308) rfl rfl ?_
                              refine q_getR C dX12_defines_308 (n := 311) rfl f_X12_46 (zM0 h0) (hF _ _ _ (zM37 h0)) ?_
                              refine q_iconst C dX12_defines_311 (n := 312) rfl ?_
                              refine q_iald C dX12_defines_312 (n := 313) rfl (zM38 h0) (by omega) (v := M (a + 11) 2) ((hK217.getA rfl rfl rfl).trans ((zup_p e205 (by omega) _).trans ((zup_p e197 (by omega) _).trans ((hK46.getA rfl rfl rfl).trans (zup_p e31 (by omega) _))))) ?_
                              refine q_icmp_ge C 343 dX12_defines_313 (n := 316) rfl rfl (by omega) (fun h225 => ?_) (fun h225 => ?_)
                              · exact zK.weak (J_72 (M (a + 18) 0) M212 J213 hI214 hK215 hK216 (by omega) (by omega) (fun j j0 j1 => ((hK217.getA rfl rfl rfl).trans ((zup_n e205 (by omega)).trans (zup_n e197 (by omega))))) (fun j j0 => (h220 j j0).trans (((zup_p e205 (by omega) _).trans (zup_p e197 (by omega) _))))) (zwk_c (zwk_n (zwk_c (zwk_c (zwk_c (zwk_n (zwk_n (zwk_n zwk_e))))))))
                              · refine q_aload_n C dX12_defines_316 (n := 317) rfl rfl ?_
                                refine q_getR C dX12_defines_317 (n := 320) rfl f_X12_74 (zM0 h0) (hF _ _ _ (zM71 h0)) ?_
                                refine q_bipush C dX12_defines_320 (n := 322) rfl (x := 30) (by decide) ?_
                                refine q_iload C dX12_defines_322 (n := 324) rfl rfl ?_
                                refine q_imul C dX12_defines_324 (n := 325) rfl (v := 30 * (M (a + 18) 0)) rfl ?_
                                refine q_iload C dX12_defines_325 (n := 327) rfl rfl ?_
                                refine q_iadd C dX12_defines_327 (n := 328) rfl (v := (30 * (M (a + 18) 0)) + u210) rfl ?_
                                refine q_aload_n C dX12_defines_328 (n := 329) rfl rfl ?_
                                refine q_iconst C dX12_defines_329 (n := 330) rfl ?_
                                refine q_iload C dX12_defines_330 (n := 332) rfl rfl ?_
                                refine q_callVp C dX12_defines_332 (n := 335) rfl m_X12_370 v_yX12_byteIn (zM0 h0) ⟨by decide, rfl⟩ (c_X12_byteIn (w := w) (J := J213) hI214 hF h0 2 u210 (by omega) (by omega)) (Nat.le_of_ble_eq_true rfl) rfl rfl (Nat.le_of_ble_eq_true rfl) ⟨Nat.le_refl _, Nat.le_refl _⟩ (fun x228 h229 => ?_)
                                obtain ⟨h226, h227⟩ := h229
                                have hz230 : M212 a 2 = M a 2 := ((hK217.getS rfl rfl).trans ((zup_p e205 (by omega) _).trans ((zup_p e197 (by omega) _).trans ((hK46.getS rfl rfl).trans (zup_n e31 (by omega))))))
                                refine q_i2b C dX12_defines_335 (n := 336) rfl (v := zi2b x228) rfl ?_
                                have g231 := z8_r x228
                                refine q_bast C dX12_defines_336 (n := 337) rfl (zM72 h0) (by omega) (by omega) (fun M232 e233 => ?_)
                                have hI234 : zI G M232 := hI214.put e233 ((zM73 h0) ((30 * (M (a + 18) 0)) + u210)) rfl (by omega)
                                have hK235 := hK215.upA e233 rfl
                                have hK236 := hK216.upA e233 rfl
                                have hK237 := hK217.upA e233 rfl
                                refine q_iinc C [.ref (w.2.1 + a), .null, zi u35, zi u40, zi (M (a + 18) 0), zi (u210 + 1), .null, .null] dX12_defines_337 (n := 340) rfl rfl rfl rfl ?_
                                refine q_goto C 305 dX12_defines_340 rfl ?_
                                exact zK.weak (ih223 (u210 + 1) M232 J213 hI234 hK235 hK236 hK237 (by omega) (by omega) (fun j j0 => ((zup_n e233 (by omega))).trans (h220 j j0)) (by omega)) (zwk_c (zwk_n (zwk_c (zwk_c (zwk_c (zwk_c (zwk_n (zwk_n zwk_e))))))))
                          exact zK.weak (L_221 _ 0 M204 J43 hI207 hK208 hK209 (zMd.rf : zMd a [20] [] [] M204 M204) (by omega) (by omega) (fun j _ => rfl) (Int.self_le_toNat _)) (zwk_c (zwk_n (zwk_c (zwk_c (zwk_c (zwk_c (zwk_n (zwk_n zwk_e))))))))
                      · refine q_aload_n C dX12_defines_146 (n := 147) rfl rfl ?_
                        refine q_iload C dX12_defines_147 (n := 149) rfl rfl ?_
                        refine q_bipush C dX12_defines_149 (n := 151) rfl (x := 35) (by decide) ?_
                        refine q_bipush C dX12_defines_151 (n := 153) rfl (x := 35) (by decide) ?_
                        refine q_callVp C dX12_defines_153 (n := 156) rfl m_X12_442 v_yX12_isTwo (zM0 h0) ⟨by decide, rfl⟩ (c_X12_isTwo (w := w) (J := J43) hI44 hF h0 u52 35 35 (by omega) (by omega) (by omega)) (Nat.le_of_ble_eq_true rfl) rfl rfl (Nat.le_of_ble_eq_true rfl) ⟨Nat.le_refl _, Nat.le_refl _⟩ (fun x239 h240 => ?_)
                        refine q_istore C [.ref (w.2.1 + a), zi x26, zi u35, zi u40, zi u52, zi x239, .null, .null] dX12_defines_156 (n := 158) rfl rfl rfl ?_
                        refine q_iload C dX12_defines_158 (n := 160) rfl rfl ?_
                        have J_241 : zK w p e 5 0 0 s m args below meth c 8 T Po 203 [.ref (w.2.1 + a), zi x26, zi u35, zi u40, zi u52, .null, .null, .null] [] (T, M42, J43, R) := by
                          refine q_iload_n C dX12_defines_203 (n := 204) rfl rfl ?_
                          have J_243 : (u35 = 0 ∨ ¬ zHash M42 a u52 35 ∨ zPqq M42 a (u52 + 1)) → zK w p e 5 0 0 s m args below meth c 8 T Po 235 [.ref (w.2.1 + a), zi x26, zi u35, zi u40, zi u52, .null, .null, .null] [] (T, M42, J43, R) := by
                            intro h242
                            refine q_iload C dX12_defines_235 (n := 237) rfl rfl ?_
                            refine q_iload_n C dX12_defines_237 (n := 238) rfl rfl ?_
                            refine q_isub C dX12_defines_238 (n := 239) rfl (v := u52 - u40) rfl ?_
                            refine q_bipush C dX12_defines_239 (n := 241) rfl (x := 20) (by decide) ?_
                            refine q_icmp_ne C 253 dX12_defines_241 (n := 244) rfl rfl (by omega) (fun h244 => ?_) (fun h244 => ?_)
                            · refine q_iinc C [.ref (w.2.1 + a), zi x26, zi u35, zi u40, zi (u52 + 1), .null, .null, .null] dX12_defines_253 (n := 256) rfl rfl rfl rfl ?_
                              refine q_goto C 137 dX12_defines_256 rfl ?_
                              exact zK.weak (ih58 (u52 + 1) (by omega) (by omega) (zHs.st h55 h242) (by omega)) (zwk_c (zwk_c (zwk_c (zwk_c (zwk_c (zwk_n (zwk_n (zwk_n zwk_e))))))))
                            · refine q_aload_n C dX12_defines_244 (n := 245) rfl rfl ?_
                              refine q_bipush C dX12_defines_245 (n := 247) rfl (x := 7) (by decide) ?_
                              refine q_iload C dX12_defines_247 (n := 249) rfl rfl ?_
                              refine q_callVi C dX12_defines_249 (n := 252) rfl m_X12_430 v_yX12_badToken (zM0 h0) ⟨by decide, rfl⟩ (c_X12_badToken (w := w) (J := J43) hI44 hF h0 7 u52 (by omega) (by omega)) (Nat.le_of_ble_eq_true rfl) rfl rfl (Nat.le_of_ble_eq_true rfl) ⟨Nat.le_refl _, Nat.le_refl _⟩ (fun x251 M247 J248  hI249 h250 => ?_)
                              obtain ⟨hk252, h245, h246⟩ := h250
                              have hK253 := hK45.tr hk252 rfl rfl rfl
                              have hp254 : zMe M247 a := p1.cg (fun j j0 j1 => ((hk252.getW rfl rfl (by omega)).trans ((hK46.getW rfl rfl (by omega)).trans (zup_p e31 (by omega) _)))) (fun j => ((hk252.getA rfl rfl rfl).trans ((hK46.getA rfl rfl rfl).trans (zup_p e31 (by omega) _))))
                              exact q_zret C dX12_defines_252 ⟨rfl, rfl⟩ (by omega) (by rw [hPo]; exact ⟨x251, M247, J248, rfl, rfl, hI249, hK253, by omega, hp254, (((hk252.getP rfl rfl rfl).trans ((hK46.getP rfl rfl rfl).trans (zup_p e31 (by omega) _))))⟩)
                          refine q_if_eq C 235 dX12_defines_204 (n := 207) rfl rfl (by omega) (fun h255 => ?_) (fun h255 => ?_)
                          · exact zK.weak (J_243 (Or.inl (by omega))) (zwk_c (zwk_c (zwk_c (zwk_c (zwk_c (zwk_n (zwk_n (zwk_n zwk_e))))))))
                          · refine q_aload_n C dX12_defines_207 (n := 208) rfl rfl ?_
                            refine q_iload C dX12_defines_208 (n := 210) rfl rfl ?_
                            refine q_callVp C dX12_defines_210 (n := 213) rfl m_X12_358 v_yX12_isHash (zM0 h0) ⟨by decide, rfl⟩ (c_X12_isHash (w := w) (J := J43) hI44 hF h0 u52 (by omega)) (Nat.le_of_ble_eq_true rfl) rfl rfl (Nat.le_of_ble_eq_true rfl) ⟨Nat.le_refl _, Nat.le_refl _⟩ (fun x258 h259 => ?_)
                            obtain ⟨h256, h257⟩ := h259
                            refine q_if_eq C 235 dX12_defines_213 (n := 216) rfl rfl (by omega) (fun h260 => ?_) (fun h260 => ?_)
                            · exact zK.weak (J_243 (Or.inr (Or.inl (fun z => absurd (by omega) (Iff.mpr h257 z))))) (zwk_c (zwk_c (zwk_c (zwk_c (zwk_c (zwk_n (zwk_n (zwk_n zwk_e))))))))
                            · refine q_aload_n C dX12_defines_216 (n := 217) rfl rfl ?_
                              refine q_iload C dX12_defines_217 (n := 219) rfl rfl ?_
                              refine q_iconst C dX12_defines_219 (n := 220) rfl ?_
                              refine q_iadd C dX12_defines_220 (n := 221) rfl (v := u52 + 1) rfl ?_
                              refine q_callVp C dX12_defines_221 (n := 224) rfl m_X12_427 v_yX12_parameterOf (zM0 h0) ⟨by decide, rfl⟩ (c_X12_parameterOf (w := w) (J := J43) hI44 hF h0 (u52 + 1) (by omega)) (Nat.le_of_ble_eq_true rfl) rfl rfl (Nat.le_of_ble_eq_true rfl) ⟨Nat.le_refl _, Nat.le_refl _⟩ (fun x263 h264 => ?_)
                              obtain ⟨h261, h262⟩ := h264
                              refine q_if_ge C 235 dX12_defines_224 (n := 227) rfl rfl (by omega) (fun h265 => ?_) (fun h265 => ?_)
                              · exact zK.weak (J_243 (Or.inr (Or.inr (Iff.mp h262 (by omega))))) (zwk_c (zwk_c (zwk_c (zwk_c (zwk_c (zwk_n (zwk_n (zwk_n zwk_e))))))))
                              · refine q_aload_n C dX12_defines_227 (n := 228) rfl rfl ?_
                                refine q_iconst C dX12_defines_228 (n := 229) rfl ?_
                                refine q_iload C dX12_defines_229 (n := 231) rfl rfl ?_
                                refine q_callVi C dX12_defines_231 (n := 234) rfl m_X12_430 v_yX12_badToken (zM0 h0) ⟨by decide, rfl⟩ (c_X12_badToken (w := w) (J := J43) hI44 hF h0 2 u52 (by omega) (by omega)) (Nat.le_of_ble_eq_true rfl) rfl rfl (Nat.le_of_ble_eq_true rfl) ⟨Nat.le_refl _, Nat.le_refl _⟩ (fun x272 M268 J269  hI270 h271 => ?_)
                                obtain ⟨hk273, h266, h267⟩ := h271
                                have hK274 := hK45.tr hk273 rfl rfl rfl
                                have hp275 : zMe M268 a := p1.cg (fun j j0 j1 => ((hk273.getW rfl rfl (by omega)).trans ((hK46.getW rfl rfl (by omega)).trans (zup_p e31 (by omega) _)))) (fun j => ((hk273.getA rfl rfl rfl).trans ((hK46.getA rfl rfl rfl).trans (zup_p e31 (by omega) _))))
                                exact q_zret C dX12_defines_234 ⟨rfl, rfl⟩ (by omega) (by rw [hPo]; exact ⟨x272, M268, J269, rfl, rfl, hI270, hK274, by omega, hp275, (((hk273.getP rfl rfl rfl).trans ((hK46.getP rfl rfl rfl).trans (zup_p e31 (by omega) _))))⟩)
                        refine q_if_eq C 203 dX12_defines_160 (n := 163) rfl rfl (by omega) (fun h276 => ?_) (fun h276 => ?_)
                        · exact zK.weak (J_241) (zwk_c (zwk_c (zwk_c (zwk_c (zwk_c (zwk_n (zwk_n (zwk_n zwk_e))))))))
                        · refine q_iload C dX12_defines_163 (n := 165) rfl rfl ?_
                          refine q_iload_n C dX12_defines_165 (n := 166) rfl rfl ?_
                          have J_277 : zK w p e 5 0 0 s m args below meth c 8 T Po 195 [.ref (w.2.1 + a), .null, .null, .null, zi u52, .null, .null, .null] [] (T, M42, J43, R) := by
                            refine q_aload_n C dX12_defines_195 (n := 196) rfl rfl ?_
                            refine q_iconst C dX12_defines_196 (n := 197) rfl ?_
                            refine q_iload C dX12_defines_197 (n := 199) rfl rfl ?_
                            refine q_callVi C dX12_defines_199 (n := 202) rfl m_X12_430 v_yX12_badToken (zM0 h0) ⟨by decide, rfl⟩ (c_X12_badToken (w := w) (J := J43) hI44 hF h0 2 u52 (by omega) (by omega)) (Nat.le_of_ble_eq_true rfl) rfl rfl (Nat.le_of_ble_eq_true rfl) ⟨Nat.le_refl _, Nat.le_refl _⟩ (fun x284 M280 J281  hI282 h283 => ?_)
                            obtain ⟨hk285, h278, h279⟩ := h283
                            have hK286 := hK45.tr hk285 rfl rfl rfl
                            have hp287 : zMe M280 a := p1.cg (fun j j0 j1 => ((hk285.getW rfl rfl (by omega)).trans ((hK46.getW rfl rfl (by omega)).trans (zup_p e31 (by omega) _)))) (fun j => ((hk285.getA rfl rfl rfl).trans ((hK46.getA rfl rfl rfl).trans (zup_p e31 (by omega) _))))
                            exact q_zret C dX12_defines_202 ⟨rfl, rfl⟩ (by omega) (by rw [hPo]; exact ⟨x284, M280, J281, rfl, rfl, hI282, hK286, by omega, hp287, (((hk285.getP rfl rfl rfl).trans ((hK46.getP rfl rfl rfl).trans (zup_p e31 (by omega) _))))⟩)
                          refine q_icmp_eq C 195 dX12_defines_166 (n := 169) rfl rfl (by omega) (fun h288 => ?_) (fun h288 => ?_)
                          · exact zK.weak (J_277) (zwk_c (zwk_n (zwk_n (zwk_n (zwk_c (zwk_n (zwk_n (zwk_n zwk_e))))))))
                          · refine q_iload C dX12_defines_169 (n := 171) rfl rfl ?_
                            refine q_aload_n C dX12_defines_171 (n := 172) rfl rfl ?_
                            refine q_getI C dX12_defines_172 (n := 175) rfl f_X12_355 (zM0 h0) (v := M a 23) ((hK46.getS rfl rfl).trans (zup_n e31 (by omega))) ?_
                            refine q_iconst C dX12_defines_175 (n := 176) rfl ?_
                            refine q_isub C dX12_defines_176 (n := 177) rfl (v := (M a 23) - 1) rfl ?_
                            refine q_icmp_eq C 195 dX12_defines_177 (n := 180) rfl rfl (by omega) (fun h289 => ?_) (fun h289 => ?_)
                            · exact zK.weak (J_277) (zwk_c (zwk_n (zwk_n (zwk_n (zwk_c (zwk_n (zwk_n (zwk_n zwk_e))))))))
                            · refine q_aload_n C dX12_defines_180 (n := 181) rfl rfl ?_
                              refine q_iload C dX12_defines_181 (n := 183) rfl rfl ?_
                              refine q_iconst C dX12_defines_183 (n := 184) rfl ?_
                              refine q_isub C dX12_defines_184 (n := 185) rfl (v := u52 - 1) rfl ?_
                              refine q_bipush C dX12_defines_185 (n := 187) rfl (x := 35) (by decide) ?_
                              refine q_bipush C dX12_defines_187 (n := 189) rfl (x := 35) (by decide) ?_
                              refine q_callVp C dX12_defines_189 (n := 192) rfl m_X12_442 v_yX12_isTwo (zM0 h0) ⟨by decide, rfl⟩ (c_X12_isTwo (w := w) (J := J43) hI44 hF h0 (u52 - 1) 35 35 (by omega) (by omega) (by omega)) (Nat.le_of_ble_eq_true rfl) rfl rfl (Nat.le_of_ble_eq_true rfl) ⟨Nat.le_refl _, Nat.le_refl _⟩ (fun x291 h292 => ?_)
                              refine q_if_eq C 203 dX12_defines_192 (n := 195) rfl rfl (by omega) (fun h293 => ?_) (fun h293 => ?_)
                              · exact zK.weak (J_241) (zwk_c (zwk_c (zwk_c (zwk_c (zwk_c (zwk_n (zwk_n (zwk_n zwk_e))))))))
                              · exact zK.weak (J_277) (zwk_c (zwk_n (zwk_n (zwk_n (zwk_c (zwk_n (zwk_n (zwk_n zwk_e))))))))
                  have hp294 : zLy M42 a 440 := p2.cg (fun j => ((hK46.getA rfl rfl rfl).trans (zup_p e31 (by omega) _))) (fun j => ((hK46.getA rfl rfl rfl).trans (zup_p e31 (by omega) _))) ((hK46.getS rfl rfl).trans (zup_n e31 (by omega)))
                  exact zK.weak (L_56 _ u40 (by omega) (by omega) (zHs.zero hp294 h49 (by omega)) (Int.self_le_toNat _)) (zwk_c (zwk_c (zwk_c (zwk_c (zwk_c (zwk_n (zwk_n (zwk_n zwk_e))))))))
                · refine q_iconst C dX12_defines_132 (n := 133) rfl ?_
                  have hp295 : zMe M42 a := p1.cg (fun j j0 j1 => ((hK46.getW rfl rfl (by omega)).trans (zup_p e31 (by omega) _))) (fun j => ((hK46.getA rfl rfl rfl).trans (zup_p e31 (by omega) _)))
                  exact q_zret C dX12_defines_133 ⟨rfl, rfl⟩ (by omega) (by rw [hPo]; exact ⟨0, M42, J43, rfl, rfl, hI44, hK45, by omega, hp295, (((hK46.getP rfl rfl rfl).trans (zup_p e31 (by omega) _)))⟩)
              refine q_if_eq C 126 dX12_defines_115 (n := 118) rfl rfl (by omega) (fun h296 => ?_) (fun h296 => ?_)
              · refine q_iconst C dX12_defines_126 (n := 127) rfl ?_
                exact zK.weak (J_50 3 M30 J hI32 hK33 (zMd.rf : zMd a [23] [37] [(18, 11), (18, 12), (18, 13), (18, 14)] M30 M30) (by omega) (by omega) hp34) (zwk_c (zwk_c (zwk_c (zwk_n (zwk_n (zwk_n (zwk_n (zwk_n zwk_e))))))))
              · refine q_aload_n C dX12_defines_118 (n := 119) rfl rfl ?_
                refine q_iconst C dX12_defines_119 (n := 120) rfl ?_
                have hp298 : zLy M30 a 440 := p2.cg (fun j => (zup_p e31 (by omega) _)) (fun j => (zup_p e31 (by omega) _)) (zup_n e31 (by omega))
                refine q_callVi C dX12_defines_120 (n := 123) rfl m_X12_439 v_yX12_readParameters (zM0 h0) ⟨by decide, rfl⟩ (c_X12_readParameters (w := w) (J := J) hI32 hF h0 4 (by have hz297 : M30 a 23 = M a 23 := (zup_n e31 (by omega)); omega) hp298 hp34) (Nat.le_of_ble_eq_true rfl) rfl rfl (Nat.le_of_ble_eq_true rfl) ⟨Nat.le_refl _, Nat.le_refl _⟩ (fun x305 M301 J302  hI303 h304 => ?_)
                obtain ⟨hk306, h299, h300⟩ := h304
                have hK307 := hK33.tr hk306 rfl rfl rfl
                have hK308 := (zMd.rf : zMd a [23] [37] [(18, 11), (18, 12), (18, 13), (18, 14)] M30 M30).tr hk306 rfl rfl rfl
                have hz309 : M30 a 23 = M a 23 := (zup_n e31 (by omega))
                refine q_goto C 127 dX12_defines_123 rfl ?_
                exact zK.weak (J_50 x305 M301 J302 hI303 hK307 hK308 (by omega) (by omega) h300) (zwk_c (zwk_c (zwk_c (zwk_n (zwk_n (zwk_n (zwk_n (zwk_n zwk_e))))))))
            have J_310 : zK w p e 5 0 0 s m args below meth c 8 T Po 112 [.ref (w.2.1 + a), zi x26, .null, .null, .null, .null, .null, .null] [] (T, M30, J, R) := by
              refine q_iconst C dX12_defines_112 (n := 113) rfl ?_
              exact zK.weak (J_39 0 (by omega) (by omega) (by omega)) (zwk_c (zwk_c (zwk_n (zwk_n (zwk_n (zwk_n (zwk_n (zwk_n zwk_e))))))))
            refine q_icmp_le C 112 dX12_defines_86 (n := 89) rfl rfl (by omega) (fun h311 => ?_) (fun h311 => ?_)
            · exact zK.weak (J_310) (zwk_c (zwk_c (zwk_n (zwk_n (zwk_n (zwk_n (zwk_n (zwk_n zwk_e))))))))
            · refine q_aload_n C dX12_defines_89 (n := 90) rfl rfl ?_
              refine q_iconst C dX12_defines_90 (n := 91) rfl ?_
              refine q_bipush C dX12_defines_91 (n := 93) rfl (x := 40) (by decide) ?_
              refine q_callVp C dX12_defines_93 (n := 96) rfl m_X12_406 v_yX12_isSign (zM0 h0) ⟨by decide, rfl⟩ (c_X12_isSign (w := w) (J := J) hI32 hF h0 3 40 (by omega) (by omega)) (Nat.le_of_ble_eq_true rfl) rfl rfl (Nat.le_of_ble_eq_true rfl) ⟨Nat.le_refl _, Nat.le_refl _⟩ (fun x315 h316 => ?_)
              obtain ⟨h312, h313, h314⟩ := h316
              have hz317 : M30 (a + 9) 3 = M (a + 9) 3 := (zup_p e31 (by omega) _)
              have hz318 : M30 (a + 11) 3 = M (a + 11) 3 := (zup_p e31 (by omega) _)
              have hz319 : M30 a 3 = M a 3 := (zup_n e31 (by omega))
              refine q_if_eq C 112 dX12_defines_96 (n := 99) rfl rfl (by omega) (fun h320 => ?_) (fun h320 => ?_)
              · exact zK.weak (J_310) (zwk_c (zwk_c (zwk_n (zwk_n (zwk_n (zwk_n (zwk_n (zwk_n zwk_e))))))))
              · refine q_aload_n C dX12_defines_99 (n := 100) rfl rfl ?_
                refine q_getR C dX12_defines_100 (n := 103) rfl f_X12_61 (zM0 h0) (hF _ _ _ (zM52 h0)) ?_
                refine q_iconst C dX12_defines_103 (n := 104) rfl ?_
                have g321 := zI.at hI ((zM54 h0) 3)
                refine q_iald C dX12_defines_104 (n := 105) rfl (zM53 h0) (by omega) (v := M (a + 16) 3) (zup_p e31 (by omega) _) ?_
                refine q_if_ne C 112 dX12_defines_105 (n := 108) rfl rfl (by omega) (fun h322 => ?_) (fun h322 => ?_)
                · exact zK.weak (J_310) (zwk_c (zwk_c (zwk_n (zwk_n (zwk_n (zwk_n (zwk_n (zwk_n zwk_e))))))))
                · refine q_iconst C dX12_defines_108 (n := 109) rfl ?_
                  refine q_goto C 113 dX12_defines_109 rfl ?_
                  exact zK.weak (J_39 1 (by omega) (by omega) (by omega)) (zwk_c (zwk_c (zwk_n (zwk_n (zwk_n (zwk_n (zwk_n (zwk_n zwk_e))))))))
          refine q_if_ge C 76 dX12_defines_54 (n := 57) rfl rfl (by omega) (fun h323 => ?_) (fun h323 => ?_)
          · exact zK.weak (J_29 (by omega)) (zwk_c (zwk_c (zwk_n (zwk_n (zwk_n (zwk_n (zwk_n (zwk_n zwk_e))))))))
          · refine q_aload_n C dX12_defines_57 (n := 58) rfl rfl ?_
            refine q_getR C dX12_defines_58 (n := 61) rfl f_X12_68 (zM0 h0) (hF _ _ _ (zM65 h0)) ?_
            refine q_iconst C dX12_defines_61 (n := 62) rfl ?_
            have g324 := zI.at hI (((zM67 h0) 0).trans (zwG_0 (by omega)))
            refine q_iald C dX12_defines_62 (n := 63) rfl (zM66 h0) (by omega) (v := M (a + 18) 0) rfl ?_
            refine q_bipush C dX12_defines_63 (n := 65) rfl (x := 12) (by decide) ?_
            refine q_icmp_ne C 76 dX12_defines_65 (n := 68) rfl rfl (by omega) (fun h325 => ?_) (fun h325 => ?_)
            · exact zK.weak (J_29 (by omega)) (zwk_c (zwk_c (zwk_n (zwk_n (zwk_n (zwk_n (zwk_n (zwk_n zwk_e))))))))
            · refine q_aload_n C dX12_defines_68 (n := 69) rfl rfl ?_
              refine q_bipush C dX12_defines_69 (n := 71) rfl (x := 7) (by decide) ?_
              refine q_iconst C dX12_defines_71 (n := 72) rfl ?_
              refine q_callVi C dX12_defines_72 (n := 75) rfl m_X12_430 v_yX12_badToken (zM0 h0) ⟨by decide, rfl⟩ (c_X12_badToken (w := w) (J := J) hI hF h0 7 2 (by omega) (by omega)) (Nat.le_of_ble_eq_true rfl) rfl rfl (Nat.le_of_ble_eq_true rfl) ⟨Nat.le_refl _, Nat.le_refl _⟩ (fun x332 M328 J329  hI330 h331 => ?_)
              obtain ⟨hk333, h326, h327⟩ := h331
              have hK334 := hK0.tr hk333 rfl rfl rfl
              have hp335 : zMe M328 a := p1.cg (fun j j0 j1 => (hk333.getW rfl rfl (by omega))) (fun j => (hk333.getA rfl rfl rfl))
              exact q_zret C dX12_defines_75 ⟨rfl, rfl⟩ (by omega) (by rw [hPo]; exact ⟨x332, M328, J329, rfl, rfl, hI330, hK334, by omega, hp335, ((hk333.getP rfl rfl rfl))⟩)
        · refine q_aload_n C dX12_defines_40 (n := 41) rfl rfl ?_
          refine q_iconst C dX12_defines_41 (n := 42) rfl ?_
          refine q_iconst C dX12_defines_42 (n := 43) rfl ?_
          refine q_callVi C dX12_defines_43 (n := 46) rfl m_X12_430 v_yX12_badToken (zM0 h0) ⟨by decide, rfl⟩ (c_X12_badToken (w := w) (J := J) hI hF h0 5 2 (by omega) (by omega)) (Nat.le_of_ble_eq_true rfl) rfl rfl (Nat.le_of_ble_eq_true rfl) ⟨Nat.le_refl _, Nat.le_refl _⟩ (fun x342 M338 J339  hI340 h341 => ?_)
          obtain ⟨hk343, h336, h337⟩ := h341
          have hK344 := hK0.tr hk343 rfl rfl rfl
          have hp345 : zMe M338 a := p1.cg (fun j j0 j1 => (hk343.getW rfl rfl (by omega))) (fun j => (hk343.getA rfl rfl rfl))
          exact q_zret C dX12_defines_46 ⟨rfl, rfl⟩ (by omega) (by rw [hPo]; exact ⟨x342, M338, J339, rfl, rfl, hI340, hK344, by omega, hp345, ((hk343.getP rfl rfl rfl))⟩)
      · exact zK.weak (J_2) (zwk_c (zwk_n (zwk_n (zwk_n (zwk_n (zwk_n (zwk_n (zwk_n zwk_e))))))))
theorem c_X12_doesText {w : zWp} {T : zTl} {M : zMm} {J : zJm} {R : zRm'} {G : zGt} {F : zRm'} {a : Nat} (hI : zI G M) (hF : zF F R) (h0 : zModel T F G a) (p1 : zMe M a) (p2 : M a 26 = 3500 ∧ M a 25 = 440 ∧ 0 ≤ M a 24 ∧ M a 24 ≤ 440) (p3 : 0 ≤ M a 99 ∧ M a 99 ≤ 300 ∧ M a 100 ≤ 30 * M a 99) : zCt w 8 0 0 yX12_doesText cX12_doesText 2 (some .boolean) [.ref (w.2.1 + a)] (T, M, J, R) (zPi T R G (fun x M2 => (zMd a [9, 10, 11, 12, 13, 14, 15, 16, 17, 18, 24, 25, 26, 27, 28, 29, 30, 31, 32, 33, 34, 35, 36, 37, 38, 39, 40, 41, 42, 59, 60, 61, 62, 63, 64, 65, 66, 67] [24, 25, 26, 34, 57, 58, 59, 60, 61, 62, 63, 64, 65, 99, 100] [] M M2) ∧ (x = 0 ∨ x = 1) ∧ (zMe M2 a) ∧ (M2 (a + 18) 3 = M (a + 18) 3) ∧ (0 ≤ M2 a 99 ∧ M2 a 99 ≤ 300 ∧ M2 a 100 ≤ 30 * M2 a 99))) := by
  refine zCt.of rfl (Nat.le_of_ble_eq_true rfl) ?_
  intro p e s m args below meth c C
  obtain ⟨Po, hPo⟩ : ∃ Po, Po = zPi T R G (fun x M2 => (zMd a [9, 10, 11, 12, 13, 14, 15, 16, 17, 18, 24, 25, 26, 27, 28, 29, 30, 31, 32, 33, 34, 35, 36, 37, 38, 39, 40, 41, 42, 59, 60, 61, 62, 63, 64, 65, 66, 67] [24, 25, 26, 34, 57, 58, 59, 60, 61, 62, 63, 64, 65, 99, 100] [] M M2) ∧ (x = 0 ∨ x = 1) ∧ (zMe M2 a) ∧ (M2 (a + 18) 3 = M (a + 18) 3) ∧ (0 ≤ M2 a 99 ∧ M2 a 99 ≤ 300 ∧ M2 a 100 ≤ 30 * M2 a 99)) := ⟨_, rfl⟩
  rw [← hPo]
  have hK0 : zMd a [9, 10, 11, 12, 13, 14, 15, 16, 17, 18, 24, 25, 26, 27, 28, 29, 30, 31, 32, 33, 34, 35, 36, 37, 38, 39, 40, 41, 42, 59, 60, 61, 62, 63, 64, 65, 66, 67] [24, 25, 26, 34, 57, 58, 59, 60, 61, 62, 63, 64, 65, 99, 100] [] M M := zMd.rf
  have gk_outBytes := zI.at hI (zM231 h0)
  show zK w p e 8 0 0 s m args below meth c 2 T Po 0 [.ref (w.2.1 + a), .null] [] (T, M, J, R)
  refine q_aload_n C dX12_doesText_0 (n := 1) rfl rfl ?_
  obtain ⟨mbq1, mpq1, hmaq1⟩ := p1
  have hp2 : zOg M a (M (a + 10)) (M (a + 11)) := fun t _ => ⟨rfl, rfl⟩
  refine q_callVi C dX12_doesText_1 (n := 4) rfl m_X12_673 v_yX12_expandsLine (zM0 h0) ⟨by decide, rfl⟩ (c_X12_expandsLine (w := w) (J := J) hI hF h0 hp2 hmaq1 (by omega)) (Nat.le_of_ble_eq_true rfl) rfl rfl (Nat.le_of_ble_eq_true rfl) ⟨Nat.le_refl _, Nat.le_refl _⟩ (fun x12 M8 J9  hI10 h11 => ?_)
  obtain ⟨hk13, h3, h4, h5, h6, h7⟩ := h11
  have hK14 := hK0.tr hk13 rfl rfl rfl
  refine q_if_ne C 9 dX12_doesText_4 (n := 7) rfl rfl (by omega) (fun h15 => ?_) (fun h15 => ?_)
  · refine q_iconst C dX12_doesText_9 (n := 10) rfl ?_
    refine q_istore_n C [.ref (w.2.1 + a), zi 0] dX12_doesText_10 (n := 11) rfl rfl rfl ?_
    have L_26 : ∀ n27 : Nat, ∀ (u16 : Int) (M18 : zMm) (J19 : zJm), zI G M18 → zMd a [9, 10, 11, 12, 13, 14, 15, 16, 17, 18, 24, 25, 26, 27, 28, 29, 30, 31, 32, 33, 34, 35, 36, 37, 38, 39, 40, 41, 42, 59, 60, 61, 62, 63, 64, 65, 66, 67] [24, 25, 26, 34, 57, 58, 59, 60, 61, 62, 63, 64, 65, 99, 100] [] M M18 → zMd a [59, 60, 61, 62, 63, 64, 65, 66, 67] [99, 100] [] M8 M18 → (-2147483648 ≤ u16 ∧ u16 ≤ 2147483647) → (0 ≤ u16 ∧ u16 ≤ 3440) → (0 ≤ M18 a 99 ∧ M18 a 99 ≤ 300 ∧ M18 a 100 ≤ 30 * (M18 a 99)) → (3440 - u16 + 1 ≤ (n27 : Int)) → zK w p e 8 0 0 s m args below meth c 2 T Po 11 [.ref (w.2.1 + a), zi u16] [] (T, M18, J19, R) := by
      intro n27
      induction n27 with
      | zero =>
        intro u16 M18 J19 hI20 hK21 hK22 h23 h24 h25 hm29
        exfalso
        omega
      | succ n27 ih28 =>
        intro u16 M18 J19 hI20 hK21 hK22 h23 h24 h25 hm29
        refine q_iload_n C dX12_doesText_11 (n := 12) rfl rfl ?_
        refine q_aload_n C dX12_doesText_12 (n := 13) rfl rfl ?_
        have g30 := zI.at hI10 (zM146 h0)
        refine q_getI C dX12_doesText_13 (n := 16) rfl f_X12_451 (zM0 h0) (v := M8 a 61) (hK22.getS rfl rfl) ?_
        refine q_icmp_ge C 58 dX12_doesText_16 (n := 19) rfl rfl (by omega) (fun h31 => ?_) (fun h31 => ?_)
        · refine q_aload_n C dX12_doesText_58 (n := 59) rfl rfl ?_
          refine q_getR C dX12_doesText_59 (n := 62) rfl f_X12_68 (zM0 h0) (hF _ _ _ (zM65 h0)) ?_
          refine q_iconst C dX12_doesText_62 (n := 63) rfl ?_
          refine q_dup2 C dX12_doesText_63 (n := 64) rfl ⟨rfl, rfl⟩ ?_
          have g32 := zI.at hI10 (((zM67 h0) 1).trans (zwG_1 (by omega)))
          refine q_iald C dX12_doesText_64 (n := 65) rfl (zM66 h0) (by omega) (v := M8 (a + 18) 1) (hK22.getA rfl rfl rfl) ?_
          refine q_iconst C dX12_doesText_65 (n := 66) rfl ?_
          refine q_iadd C dX12_doesText_66 (n := 67) rfl (v := (M8 (a + 18) 1) + 1) rfl ?_
          refine q_wrap C ?_
          have g33 := zr_wr ((M8 (a + 18) 1) + 1)
          refine q_iast C dX12_doesText_67 (n := 68) rfl (zM66 h0) (by omega)  (fun M34 e35 => ?_)
          have hp36 : zMa M18 a mbq1 mpq1 := h5.cg (fun j j0 j1 => (hK22.getA rfl rfl rfl)) (fun j => (hK22.getA rfl rfl rfl))
          have hp37 : zMa M34 a mbq1 mpq1 := hp36.up e35 (by omega)
          have hI38 : zI G M34 := hI20.put e35 (((zM67 h0) 1).trans (zwG_1 (by omega))) rfl (by omega)
          have hK39 := hK21.upA e35 rfl
          refine q_iconst C dX12_doesText_68 (n := 69) rfl ?_
          have hp41 : zMe M34 a := ⟨_, _, hp37⟩
          exact q_zret C dX12_doesText_69 ⟨rfl, rfl⟩ (by omega) (by rw [hPo]; exact ⟨1, M34, J19, rfl, rfl, hI38, hK39, by omega, hp41, by have hz42 : M34 (a + 18) 3 = M (a + 18) 3 := ((zup_n e35 (by omega)).trans ((hK22.getA rfl rfl rfl).trans (h7))); omega, by have hz43 : M34 a 99 = M18 a 99 := (zup_p e35 (by omega) _); have hz44 : M34 a 100 = M18 a 100 := (zup_p e35 (by omega) _); omega⟩)
        · refine q_aload_n C dX12_doesText_19 (n := 20) rfl rfl ?_
          have g45 := zI.at hI20 (zM230 h0)
          refine q_getI C dX12_doesText_20 (n := 23) rfl f_X12_636 (zM0 h0) (v := M18 a 99) rfl ?_
          refine q_sipush C dX12_doesText_23 (n := 26) rfl (x := 300) (by decide) ?_
          refine q_icmp_ne C 42 dX12_doesText_26 (n := 29) rfl rfl (by omega) (fun h46 => ?_) (fun h46 => ?_)
          · refine q_aload_n C dX12_doesText_42 (n := 43) rfl rfl ?_
            refine q_aload_n C dX12_doesText_43 (n := 44) rfl rfl ?_
            refine q_getR C dX12_doesText_44 (n := 47) rfl f_X12_138 (zM0 h0) (hF _ _ _ (zM136 h0)) ?_
            refine q_iload_n C dX12_doesText_47 (n := 48) rfl rfl ?_
            have g47 := zI.at hI10 ((zM138 h0) u16)
            refine q_iald C dX12_doesText_48 (n := 49) rfl (zM137 h0) (by omega) (v := M8 (a + 41) u16) (hK22.getA rfl rfl rfl) ?_
            refine q_callVv C dX12_doesText_49 (n := 52) rfl m_X12_676 v_yX12_comes (zM0 h0) ⟨by decide, rfl⟩ (c_X12_comes (w := w) (J := J19) hI20 hF h0 (M8 (a + 41) u16) (by omega) (by omega) (by omega)) (Nat.le_of_ble_eq_true rfl) rfl rfl (Nat.le_of_ble_eq_true rfl) ⟨Nat.le_refl _, Nat.le_refl _⟩ (fun M51 J52  hI53 h54 => ?_)
            obtain ⟨hk55, h48, h49, h50⟩ := h54
            have hK56 := hK21.tr hk55 rfl rfl rfl
            have hK57 := hK22.tr hk55 rfl rfl rfl
            have hz58 : M18 (a + 11) (M8 (a + 41) u16) = M8 (a + 11) (M8 (a + 41) u16) := (hK22.getA rfl rfl rfl)
            refine q_iinc C [.ref (w.2.1 + a), zi (u16 + 1)] dX12_doesText_52 (n := 55) rfl rfl rfl rfl ?_
            refine q_goto C 11 dX12_doesText_55 rfl ?_
            exact zK.weak (ih28 (u16 + 1) M51 J52 hI53 hK56 hK57 (by omega) (by omega) (by omega) (by omega)) (zwk_c (zwk_c zwk_e))
          · refine q_aload_n C dX12_doesText_29 (n := 30) rfl rfl ?_
            refine q_bipush C dX12_doesText_30 (n := 32) rfl (x := 7) (by decide) ?_
            refine q_aload_n C dX12_doesText_32 (n := 33) rfl rfl ?_
            refine q_getR C dX12_doesText_33 (n := 36) rfl f_X12_138 (zM0 h0) (hF _ _ _ (zM136 h0)) ?_
            refine q_iload_n C dX12_doesText_36 (n := 37) rfl rfl ?_
            have g59 := zI.at hI10 ((zM138 h0) u16)
            refine q_iald C dX12_doesText_37 (n := 38) rfl (zM137 h0) (by omega) (v := M8 (a + 41) u16) (hK22.getA rfl rfl rfl) ?_
            refine q_callVi C dX12_doesText_38 (n := 41) rfl m_X12_376 v_yX12_badAt (zM0 h0) ⟨by decide, rfl⟩ (c_X12_badAt (w := w) (J := J19) hI20 hF h0 7 (M8 (a + 41) u16) (by omega) (by omega)) (Nat.le_of_ble_eq_true rfl) rfl rfl (Nat.le_of_ble_eq_true rfl) ⟨Nat.le_refl _, Nat.le_refl _⟩ (fun x66 M62 J63  hI64 h65 => ?_)
            obtain ⟨hk67, h60, h61⟩ := h65
            have hK68 := hK21.tr hk67 rfl rfl rfl
            have hp69 : zMa M62 a mbq1 mpq1 := h5.cg (fun j j0 j1 => ((hk67.getW rfl rfl (by omega)).trans (hK22.getA rfl rfl rfl))) (fun j => ((hk67.getA rfl rfl rfl).trans (hK22.getA rfl rfl rfl)))
            have hp70 : zMe M62 a := ⟨_, _, hp69⟩
            exact q_zret C dX12_doesText_41 ⟨rfl, rfl⟩ (by omega) (by rw [hPo]; exact ⟨x66, M62, J63, rfl, rfl, hI64, hK68, by omega, hp70, by have hz71 : M62 (a + 18) 3 = M (a + 18) 3 := ((hk67.getP rfl rfl rfl).trans ((hK22.getA rfl rfl rfl).trans (h7))); omega, by have hz72 : M62 a 99 = M18 a 99 := (hk67.getS rfl rfl); have hz73 : M62 a 100 = M18 a 100 := (hk67.getS rfl rfl); omega⟩)
    exact zK.weak (L_26 _ 0 M8 J9 hI10 hK14 (zMd.rf : zMd a [59, 60, 61, 62, 63, 64, 65, 66, 67] [99, 100] [] M8 M8) (by omega) (by omega) (by have hz74 : M8 a 99 = M a 99 := (hk13.getS rfl rfl); have hz75 : M8 a 99 = M a 99 := (hk13.getS rfl rfl); have hz76 : M8 a 100 = M a 100 := (hk13.getS rfl rfl); have hz77 : M8 a 99 = M a 99 := (hk13.getS rfl rfl); omega) (Int.self_le_toNat _)) (zwk_c (zwk_c zwk_e))
  · refine q_iconst C dX12_doesText_7 (n := 8) rfl ?_
    have hp78 : zMe M8 a := ⟨_, _, h5⟩
    exact q_zret C dX12_doesText_8 ⟨rfl, rfl⟩ (by omega) (by rw [hPo]; exact ⟨0, M8, J9, rfl, rfl, hI10, hK14, by omega, hp78, by have hz79 : M8 (a + 18) 3 = M (a + 18) 3 := (h7); omega, by have hz80 : M8 a 99 = M a 99 := (hk13.getS rfl rfl); have hz81 : M8 a 100 = M a 100 := (hk13.getS rfl rfl); omega⟩)
theorem c_X12_doesNamed {w : zWp} {T : zTl} {M : zMm} {J : zJm} {R : zRm'} {G : zGt} {F : zRm'} {a : Nat} (hI : zI G M) (hF : zF F R) (h0 : zModel T F G a) (v1 : Int) (v2 : Int) (p1 : zGr M a 1) (p2 : zMe M a) (p3 : -2147483648 ≤ v1 ∧ v1 ≤ 2147483647) (p4 : 0 ≤ v2 ∧ v2 ≤ 39) (p5 : v2 < M (a + 2) (4 + M (a + 51) (M a 88))) : zCt w 5 0 0 yX12_doesNamed cX12_doesNamed 4 (some .boolean) [.ref (w.2.1 + a), zi v1, zi v2] (T, M, J, R) (zPi T R G (fun x M2 => (zMd a [18, 54, 55, 56, 57, 58] [89] [] M M2) ∧ (x = 0 ∨ x = 1) ∧ (x = 0 ∨ zGr M2 a 0) ∧ (zMe M2 a) ∧ (M2 (a + 18) 3 = M (a + 18) 3))) := by
  refine zCt.of rfl (Nat.le_of_ble_eq_true rfl) ?_
  intro p e s m args below meth c C
  obtain ⟨Po, hPo⟩ : ∃ Po, Po = zPi T R G (fun x M2 => (zMd a [18, 54, 55, 56, 57, 58] [89] [] M M2) ∧ (x = 0 ∨ x = 1) ∧ (x = 0 ∨ zGr M2 a 0) ∧ (zMe M2 a) ∧ (M2 (a + 18) 3 = M (a + 18) 3)) := ⟨_, rfl⟩
  rw [← hPo]
  have hK0 : zMd a [18, 54, 55, 56, 57, 58] [89] [] M M := zMd.rf
  have gk_groups := zI.at hI (zM202 h0)
  have gg := zGr.num p1 rfl
  show zK w p e 5 0 0 s m args below meth c 4 T Po 0 [.ref (w.2.1 + a), zi v1, zi v2, .null] [] (T, M, J, R)
  refine q_aload_n C dX12_doesNamed_0 (n := 1) rfl rfl ?_
  have g1 := zI.at hI (zM58 h0)
  refine q_getI C dX12_doesNamed_1 (n := 4) rfl f_X12_355 (zM0 h0) (v := M a 23) rfl ?_
  refine q_iconst C dX12_doesNamed_4 (n := 5) rfl ?_
  have J_2 : zK w p e 5 0 0 s m args below meth c 4 T Po 17 [.ref (w.2.1 + a), .null, .null, .null] [] (T, M, J, R) := by
    refine q_aload_n C dX12_doesNamed_17 (n := 18) rfl rfl ?_
    refine q_iconst C dX12_doesNamed_18 (n := 19) rfl ?_
    refine q_iconst C dX12_doesNamed_19 (n := 20) rfl ?_
    refine q_callVi C dX12_doesNamed_20 (n := 23) rfl m_X12_430 v_yX12_badToken (zM0 h0) ⟨by decide, rfl⟩ (c_X12_badToken (w := w) (J := J) hI hF h0 2 2 (by omega) (by omega)) (Nat.le_of_ble_eq_true rfl) rfl rfl (Nat.le_of_ble_eq_true rfl) ⟨Nat.le_refl _, Nat.le_refl _⟩ (fun x9 M5 J6  hI7 h8 => ?_)
    obtain ⟨hk10, h3, h4⟩ := h8
    have hK11 := hK0.tr hk10 rfl rfl rfl
    have hp12 : zMe M5 a := p2.cg (fun j j0 j1 => (hk10.getW rfl rfl (by omega))) (fun j => (hk10.getA rfl rfl rfl))
    exact q_zret C dX12_doesNamed_23 ⟨rfl, rfl⟩ (by omega) (by rw [hPo]; exact ⟨x9, M5, J6, rfl, rfl, hI7, hK11, by omega, Or.inl (by omega), hp12, ((hk10.getP rfl rfl rfl))⟩)
  refine q_icmp_eq C 17 dX12_doesNamed_5 (n := 8) rfl rfl (by omega) (fun h13 => ?_) (fun h13 => ?_)
  · exact zK.weak (J_2) (zwk_c (zwk_n (zwk_n (zwk_n zwk_e))))
  · refine q_aload_n C dX12_doesNamed_8 (n := 9) rfl rfl ?_
    refine q_getR C dX12_doesNamed_9 (n := 12) rfl f_X12_40 (zM0 h0) (hF _ _ _ (zM31 h0)) ?_
    refine q_iconst C dX12_doesNamed_12 (n := 13) rfl ?_
    have g14 := zI.at hI ((zM33 h0) 2)
    refine q_iald C dX12_doesNamed_13 (n := 14) rfl (zM32 h0) (by omega) (v := M (a + 9) 2) rfl ?_
    refine q_if_eq C 24 dX12_doesNamed_14 (n := 17) rfl rfl (by omega) (fun h15 => ?_) (fun h15 => ?_)
    · refine q_aload_n C dX12_doesNamed_24 (n := 25) rfl rfl ?_
      refine q_iconst C dX12_doesNamed_25 (n := 26) rfl ?_
      refine q_callVi C dX12_doesNamed_26 (n := 29) rfl m_X12_654 v_yX12_isNothing (zM0 h0) ⟨by decide, rfl⟩ (c_X12_isNothing (w := w) (J := J) hI hF h0 3 (by omega)) (Nat.le_of_ble_eq_true rfl) rfl rfl (Nat.le_of_ble_eq_true rfl) ⟨Nat.le_refl _, Nat.le_refl _⟩ (fun x21 M17 J18  hI19 h20 => ?_)
      obtain ⟨hk22, h16⟩ := h20
      have hK23 := hK0.tr hk22 rfl rfl rfl
      refine q_if_ne C 34 dX12_doesNamed_29 (n := 32) rfl rfl (by omega) (fun h24 => ?_) (fun h24 => ?_)
      · refine q_aload_n C dX12_doesNamed_34 (n := 35) rfl rfl ?_
        refine q_iconst C dX12_doesNamed_35 (n := 36) rfl ?_
        refine q_callVp C dX12_doesNamed_36 (n := 39) rfl m_X12_436 v_yX12_macroOf (zM0 h0) ⟨by decide, rfl⟩ (c_X12_macroOf (w := w) (J := J18) hI19 hF h0 2 (by omega)) (Nat.le_of_ble_eq_true rfl) rfl rfl (Nat.le_of_ble_eq_true rfl) ⟨Nat.le_refl _, Nat.le_refl _⟩ (fun x26 h27 => ?_)
        have hz28 : M17 (a + 18) 0 = M (a + 18) 0 := (hk22.getP rfl rfl rfl)
        refine q_istore_n C [.ref (w.2.1 + a), zi v1, zi v2, zi x26] dX12_doesNamed_39 (n := 40) rfl rfl rfl ?_
        refine q_iload_n C dX12_doesNamed_40 (n := 41) rfl rfl ?_
        refine q_iconst C dX12_doesNamed_41 (n := 42) rfl ?_
        refine q_icmp_ne C 62 dX12_doesNamed_42 (n := 45) rfl rfl (by omega) (fun h29 => ?_) (fun h29 => ?_)
        · refine q_aload_n C dX12_doesNamed_62 (n := 63) rfl rfl ?_
          refine q_getR C dX12_doesNamed_63 (n := 66) rfl f_X12_68 (zM0 h0) (hF _ _ _ (zM65 h0)) ?_
          refine q_bipush C dX12_doesNamed_66 (n := 68) rfl (x := 9) (by decide) ?_
          refine q_dup2 C dX12_doesNamed_68 (n := 69) rfl ⟨rfl, rfl⟩ ?_
          have g30 := zI.at hI (((zM67 h0) 9).trans (zwG_1 (by omega)))
          refine q_iald C dX12_doesNamed_69 (n := 70) rfl (zM66 h0) (by omega) (v := M (a + 18) 9) (hk22.getP rfl rfl rfl) ?_
          refine q_iconst C dX12_doesNamed_70 (n := 71) rfl ?_
          refine q_iadd C dX12_doesNamed_71 (n := 72) rfl (v := (M (a + 18) 9) + 1) rfl ?_
          refine q_wrap C ?_
          have g31 := zr_wr ((M (a + 18) 9) + 1)
          refine q_iast C dX12_doesNamed_72 (n := 73) rfl (zM66 h0) (by omega)  (fun M32 e33 => ?_)
          have hp34 : zMe M17 a := p2.cg (fun j j0 j1 => (hk22.getW rfl rfl (by omega))) (fun j => (hk22.getA rfl rfl rfl))
          have hp35 : zMe M32 a := hp34.up e33 (by omega)
          have hI36 : zI G M32 := hI19.put e33 (((zM67 h0) 9).trans (zwG_1 (by omega))) rfl (by omega)
          have hK37 := hK23.upA e33 rfl
          refine q_aload_n C dX12_doesNamed_73 (n := 74) rfl rfl ?_
          refine q_iload_n C dX12_doesNamed_74 (n := 75) rfl rfl ?_
          refine q_iload_n C dX12_doesNamed_75 (n := 76) rfl rfl ?_
          have J_41 : ∀ (u38 : Int), (-2147483648 ≤ u38 ∧ u38 ≤ 2147483647) → (u38 = 0 ∨ u38 = 1) → zK w p e 5 0 0 s m args below meth c 4 T Po 84 [.null, zi v1, .null, .null] [zi u38, zi v2, .ref (w.2.1 + a)] (T, M32, J18, R) := by
            intro u38 h39 h40
            refine q_iload_n C dX12_doesNamed_84 (n := 85) rfl rfl ?_
            refine q_iconst C dX12_doesNamed_85 (n := 86) rfl ?_
            have J_45 : ∀ (u42 : Int), (-2147483648 ≤ u42 ∧ u42 ≤ 2147483647) → (u42 = 0 ∨ u42 = 1) → zK w p e 5 0 0 s m args below meth c 4 T Po 94 [.null, .null, .null, .null] [zi u42, zi u38, zi v2, .ref (w.2.1 + a)] (T, M32, J18, R) := by
              intro u42 h43 h44
              have J_49 : ∀ (u46 : Int), (-2147483648 ≤ u46 ∧ u46 ≤ 2147483647) → (u46 = 0 ∨ u46 = 1) → zK w p e 5 0 0 s m args below meth c 4 T Po 102 [.null, .null, .null, .null] [zi u46, zi v2, .ref (w.2.1 + a)] (T, M32, J18, R) := by
                intro u46 h47 h48
                refine q_iconst C dX12_doesNamed_102 (n := 103) rfl ?_
                have hp50 : zGr M32 a 1 := p1.cg (fun j => ((zup_p e33 (by omega) _).trans (hk22.getA rfl rfl rfl))) (fun j => ((zup_p e33 (by omega) _).trans (hk22.getA rfl rfl rfl))) (fun j => ((zup_p e33 (by omega) _).trans (hk22.getA rfl rfl rfl))) (fun j => ((zup_p e33 (by omega) _).trans (hk22.getA rfl rfl rfl))) (fun j => ((zup_p e33 (by omega) _).trans (hk22.getA rfl rfl rfl))) ((zup_p e33 (by omega) _).trans (hk22.getS rfl rfl)) ((zup_p e33 (by omega) _).trans (hk22.getS rfl rfl))
                refine q_callVv C dX12_doesNamed_103 (n := 106) rfl m_X12_657 v_yX12_group (zM0 h0) ⟨by decide, rfl⟩ (c_X12_group (w := w) (J := J18) hI36 hF h0 v2 u46 0 (by have hz51 : M32 a 89 = M a 89 := ((zup_p e33 (by omega) _).trans (hk22.getS rfl rfl)); omega) (by omega) (by omega) (by omega)) (Nat.le_of_ble_eq_true rfl) rfl rfl (Nat.le_of_ble_eq_true rfl) ⟨Nat.le_refl _, Nat.le_refl _⟩ (fun M55 J56  hI57 h58 => ?_)
                obtain ⟨hk59, h52, h53, h54⟩ := h58
                have hK60 := hK37.tr hk59 rfl rfl rfl
                have hz61 : M32 a 89 = M a 89 := ((zup_p e33 (by omega) _).trans (hk22.getS rfl rfl))
                have hp62 : zGr M55 a 0 := hp50.push (fun j => (hk59.getA rfl rfl rfl)) (fun j => (hk59.getA rfl rfl rfl)) (fun j => (hk59.getA rfl rfl rfl)) (fun j => (hk59.getA rfl rfl rfl)) (hk59.getS rfl rfl) h52 h53 h54 (by rw [show M32 a 88 = M a 88 from ((zup_p e33 (by omega) _).trans (hk22.getS rfl rfl)), show M32 (a + 51) (M a 88) = M (a + 51) (M a 88) from ((zup_p e33 (by omega) _).trans (hk22.getA rfl rfl rfl)), show M32 (a + 2) (4 + M (a + 51) (M a 88)) = M (a + 2) (4 + M (a + 51) (M a 88)) from ((zup_p e33 (by omega) _).trans (hk22.getA rfl rfl rfl))]; omega)
                refine q_iconst C dX12_doesNamed_106 (n := 107) rfl ?_
                have hp63 : zMe M55 a := hp35.cg (fun j j0 j1 => (hk59.getA rfl rfl rfl)) (fun j => (hk59.getA rfl rfl rfl))
                exact q_zret C dX12_doesNamed_107 ⟨rfl, rfl⟩ (by omega) (by rw [hPo]; exact ⟨1, M55, J56, rfl, rfl, hI57, hK60, by omega, Or.inr hp62, hp63, (((hk59.getA rfl rfl rfl).trans ((zup_n e33 (by omega)).trans (hk22.getP rfl rfl rfl))))⟩)
              refine q_icmp_ne C 101 dX12_doesNamed_94 (n := 97) rfl rfl (by omega) (fun h64 => ?_) (fun h64 => ?_)
              · refine q_iconst C dX12_doesNamed_101 (n := 102) rfl ?_
                exact zK.weak (J_49 0 (by omega) (by omega)) (zwk_n (zwk_n (zwk_n (zwk_n zwk_e))))
              · refine q_iconst C dX12_doesNamed_97 (n := 98) rfl ?_
                refine q_goto C 102 dX12_doesNamed_98 rfl ?_
                exact zK.weak (J_49 1 (by omega) (by omega)) (zwk_n (zwk_n (zwk_n (zwk_n zwk_e))))
            refine q_icmp_ne C 93 dX12_doesNamed_86 (n := 89) rfl rfl (by omega) (fun h65 => ?_) (fun h65 => ?_)
            · refine q_iconst C dX12_doesNamed_93 (n := 94) rfl ?_
              exact zK.weak (J_45 0 (by omega) (by omega)) (zwk_n (zwk_n (zwk_n (zwk_n zwk_e))))
            · refine q_iconst C dX12_doesNamed_89 (n := 90) rfl ?_
              refine q_goto C 94 dX12_doesNamed_90 rfl ?_
              exact zK.weak (J_45 1 (by omega) (by omega)) (zwk_n (zwk_n (zwk_n (zwk_n zwk_e))))
          refine q_if_lt C 83 dX12_doesNamed_76 (n := 79) rfl rfl (by omega) (fun h66 => ?_) (fun h66 => ?_)
          · refine q_iconst C dX12_doesNamed_83 (n := 84) rfl ?_
            exact zK.weak (J_41 0 (by omega) (by omega)) (zwk_n (zwk_c (zwk_n (zwk_n zwk_e))))
          · refine q_iconst C dX12_doesNamed_79 (n := 80) rfl ?_
            refine q_goto C 84 dX12_doesNamed_80 rfl ?_
            exact zK.weak (J_41 1 (by omega) (by omega)) (zwk_n (zwk_c (zwk_n (zwk_n zwk_e))))
        · refine q_iload_n C dX12_doesNamed_45 (n := 46) rfl rfl ?_
          refine q_if_lt C 60 dX12_doesNamed_46 (n := 49) rfl rfl (by omega) (fun h67 => ?_) (fun h67 => ?_)
          · refine q_iconst C dX12_doesNamed_60 (n := 61) rfl ?_
            have hp68 : zGr M17 a 1 := p1.cg (fun j => (hk22.getA rfl rfl rfl)) (fun j => (hk22.getA rfl rfl rfl)) (fun j => (hk22.getA rfl rfl rfl)) (fun j => (hk22.getA rfl rfl rfl)) (fun j => (hk22.getA rfl rfl rfl)) (hk22.getS rfl rfl) (hk22.getS rfl rfl)
            have hp69 : zMe M17 a := p2.cg (fun j j0 j1 => (hk22.getW rfl rfl (by omega))) (fun j => (hk22.getA rfl rfl rfl))
            exact q_zret C dX12_doesNamed_61 ⟨rfl, rfl⟩ (by omega) (by rw [hPo]; exact ⟨1, M17, J18, rfl, rfl, hI19, hK23, by omega, Or.inr (hp68.weak (by omega)), hp69, ((hk22.getP rfl rfl rfl))⟩)
          · refine q_aload_n C dX12_doesNamed_49 (n := 50) rfl rfl ?_
            refine q_getR C dX12_doesNamed_50 (n := 53) rfl f_X12_68 (zM0 h0) (hF _ _ _ (zM65 h0)) ?_
            refine q_sipush C dX12_doesNamed_53 (n := 56) rfl (x := 187) (by decide) ?_
            refine q_iload_n C dX12_doesNamed_56 (n := 57) rfl rfl ?_
            refine q_iadd C dX12_doesNamed_57 (n := 58) rfl (v := 187 + x26) rfl ?_
            refine q_iconst C dX12_doesNamed_58 (n := 59) rfl ?_
            refine q_iast C dX12_doesNamed_59 (n := 60) rfl (zM66 h0) (by omega)  (fun M70 e71 => ?_)
            have hp72 : zMe M17 a := p2.cg (fun j j0 j1 => (hk22.getW rfl rfl (by omega))) (fun j => (hk22.getA rfl rfl rfl))
            have hp73 : zMe M70 a := hp72.up e71 (by omega)
            have hI74 : zI G M70 := hI19.put e71 (((zM67 h0) (187 + x26)).trans (zwG_187 (by omega))) rfl (by omega)
            have hK75 := hK23.upA e71 rfl
            refine q_iconst C dX12_doesNamed_60 (n := 61) rfl ?_
            have hp76 : zGr M70 a 1 := p1.cg (fun j => ((zup_p e71 (by omega) _).trans (hk22.getA rfl rfl rfl))) (fun j => ((zup_p e71 (by omega) _).trans (hk22.getA rfl rfl rfl))) (fun j => ((zup_p e71 (by omega) _).trans (hk22.getA rfl rfl rfl))) (fun j => ((zup_p e71 (by omega) _).trans (hk22.getA rfl rfl rfl))) (fun j => ((zup_p e71 (by omega) _).trans (hk22.getA rfl rfl rfl))) ((zup_p e71 (by omega) _).trans (hk22.getS rfl rfl)) ((zup_p e71 (by omega) _).trans (hk22.getS rfl rfl))
            exact q_zret C dX12_doesNamed_61 ⟨rfl, rfl⟩ (by omega) (by rw [hPo]; exact ⟨1, M70, J18, rfl, rfl, hI74, hK75, by omega, Or.inr (hp76.weak (by omega)), hp73, (((zup_n e71 (by omega)).trans (hk22.getP rfl rfl rfl)))⟩)
      · refine q_iconst C dX12_doesNamed_32 (n := 33) rfl ?_
        have hp77 : zMe M17 a := p2.cg (fun j j0 j1 => (hk22.getW rfl rfl (by omega))) (fun j => (hk22.getA rfl rfl rfl))
        exact q_zret C dX12_doesNamed_33 ⟨rfl, rfl⟩ (by omega) (by rw [hPo]; exact ⟨0, M17, J18, rfl, rfl, hI19, hK23, by omega, Or.inl rfl, hp77, ((hk22.getP rfl rfl rfl))⟩)
    · exact zK.weak (J_2) (zwk_c (zwk_n (zwk_n (zwk_n zwk_e))))
theorem c_X12_doesGroup {w : zWp} {T : zTl} {M : zMm} {J : zJm} {R : zRm'} {G : zGt} {F : zRm'} {a : Nat} (hI : zI G M) (hF : zF F R) (h0 : zModel T F G a) (v1 : Int) (v2 : Int) (v3 : Int) (p1 : zGr M a 1) (p2 : zMe M a) (p3 : zFi M a) (p4 : 0 ≤ v1 ∧ v1 ≤ 3) (p5 : 0 ≤ v2 ∧ v2 < M (a + 2) (4 + v1) ∧ v2 ≤ 39) (p6 : 2 ≤ v3 ∧ v3 ≤ 4) (p7 : M (a + 53) (M a 88) < M a 89) : zCt w 8 0 0 yX12_doesGroup cX12_doesGroup 5 (some .boolean) [.ref (w.2.1 + a), zi v1, zi v2, zi v3] (T, M, J, R) (zPi T R G (fun x M2 => (zMd a [9, 10, 11, 12, 13, 14, 15, 16, 17, 18, 24, 25, 26, 27, 28, 29, 30, 31, 32, 33, 34, 35, 36, 37, 38, 39, 40, 41, 42, 43, 44, 45, 46, 47, 48, 55, 56, 57] [23, 24, 25, 26, 27, 28, 29, 34, 57, 58, 59, 60, 61, 62, 63, 64, 65, 74, 75, 76, 78, 89] [] M M2) ∧ (x = 0 ∨ x = 1) ∧ (x = 0 ∨ zGr M2 a 0) ∧ (zMe M2 a) ∧ (M2 (a + 18) 3 = M (a + 18) 3))) := by
  refine zCt.of rfl (Nat.le_of_ble_eq_true rfl) ?_
  intro p e s m args below meth c C
  obtain ⟨Po, hPo⟩ : ∃ Po, Po = zPi T R G (fun x M2 => (zMd a [9, 10, 11, 12, 13, 14, 15, 16, 17, 18, 24, 25, 26, 27, 28, 29, 30, 31, 32, 33, 34, 35, 36, 37, 38, 39, 40, 41, 42, 43, 44, 45, 46, 47, 48, 55, 56, 57] [23, 24, 25, 26, 27, 28, 29, 34, 57, 58, 59, 60, 61, 62, 63, 64, 65, 74, 75, 76, 78, 89] [] M M2) ∧ (x = 0 ∨ x = 1) ∧ (x = 0 ∨ zGr M2 a 0) ∧ (zMe M2 a) ∧ (M2 (a + 18) 3 = M (a + 18) 3)) := ⟨_, rfl⟩
  rw [← hPo]
  have hK0 : zMd a [9, 10, 11, 12, 13, 14, 15, 16, 17, 18, 24, 25, 26, 27, 28, 29, 30, 31, 32, 33, 34, 35, 36, 37, 38, 39, 40, 41, 42, 43, 44, 45, 46, 47, 48, 55, 56, 57] [23, 24, 25, 26, 27, 28, 29, 34, 57, 58, 59, 60, 61, 62, 63, 64, 65, 74, 75, 76, 78, 89] [] M M := zMd.rf
  have gk_groups := zI.at hI (zM202 h0)
  have gg := zGr.num p1 rfl
  show zK w p e 8 0 0 s m args below meth c 5 T Po 0 [.ref (w.2.1 + a), zi v1, zi v2, zi v3, .null] [] (T, M, J, R)
  refine q_aload_n C dX12_doesGroup_0 (n := 1) rfl rfl ?_
  have g1 := zI.at hI (zM202 h0)
  refine q_getI C dX12_doesGroup_1 (n := 4) rfl f_X12_642 (zM0 h0) (v := M a 89) rfl ?_
  refine q_iconst C dX12_doesGroup_4 (n := 5) rfl ?_
  refine q_isub C dX12_doesGroup_5 (n := 6) rfl (v := (M a 89) - 1) rfl ?_
  refine q_istore C [.ref (w.2.1 + a), zi v1, zi v2, zi v3, zi ((M a 89) - 1)] dX12_doesGroup_6 (n := 8) rfl rfl rfl ?_
  refine q_iload_n C dX12_doesGroup_8 (n := 9) rfl rfl ?_
  refine q_iconst C dX12_doesGroup_9 (n := 10) rfl ?_
  have J_2 : zK w p e 8 0 0 s m args below meth c 5 T Po 39 [.ref (w.2.1 + a), zi v1, zi v2, zi v3, zi ((M a 89) - 1)] [] (T, M, J, R) := by
    refine q_iload_n C dX12_doesGroup_39 (n := 40) rfl rfl ?_
    refine q_iconst C dX12_doesGroup_40 (n := 41) rfl ?_
    have J_3 : zK w p e 8 0 0 s m args below meth c 5 T Po 71 [.ref (w.2.1 + a), zi v1, zi v2, zi v3, zi ((M a 89) - 1)] [] (T, M, J, R) := by
      refine q_aload_n C dX12_doesGroup_71 (n := 72) rfl rfl ?_
      refine q_iload_n C dX12_doesGroup_72 (n := 73) rfl rfl ?_
      refine q_iload_n C dX12_doesGroup_73 (n := 74) rfl rfl ?_
      refine q_callVi C dX12_doesGroup_74 (n := 77) rfl m_X12_352 v_yX12_lexes (zM0 h0) ⟨by decide, rfl⟩ (c_X12_lexes (w := w) (J := J) hI hF h0 v1 v2 p3 (by omega) (by omega)) (Nat.le_of_ble_eq_true rfl) rfl rfl (Nat.le_of_ble_eq_true rfl) ⟨Nat.le_refl _, Nat.le_refl _⟩ (fun x15 M11 J12  hI13 h14 => ?_)
      obtain ⟨hk16, h4, h5, h6, h7, h8, h9, h10⟩ := h14
      have hK17 := hK0.tr hk16 rfl rfl rfl
      refine q_if_ne C 82 dX12_doesGroup_77 (n := 80) rfl rfl (by omega) (fun h18 => ?_) (fun h18 => ?_)
      · refine q_iload_n C dX12_doesGroup_82 (n := 83) rfl rfl ?_
        refine q_iconst C dX12_doesGroup_83 (n := 84) rfl ?_
        refine q_icmp_ne C 146 dX12_doesGroup_84 (n := 87) rfl rfl (by omega) (fun h19 => ?_) (fun h19 => ?_)
        · refine q_aload_n C dX12_doesGroup_146 (n := 147) rfl rfl ?_
          refine q_iconst C dX12_doesGroup_147 (n := 148) rfl ?_
          refine q_callVi C dX12_doesGroup_148 (n := 151) rfl m_X12_654 v_yX12_isNothing (zM0 h0) ⟨by decide, rfl⟩ (c_X12_isNothing (w := w) (J := J12) hI13 hF h0 2 (by omega)) (Nat.le_of_ble_eq_true rfl) rfl rfl (Nat.le_of_ble_eq_true rfl) ⟨Nat.le_refl _, Nat.le_refl _⟩ (fun x25 M21 J22  hI23 h24 => ?_)
          obtain ⟨hk26, h20⟩ := h24
          have hK27 := hK17.tr hk26 rfl rfl rfl
          refine q_if_ne C 156 dX12_doesGroup_151 (n := 154) rfl rfl (by omega) (fun h28 => ?_) (fun h28 => ?_)
          · refine q_iload_n C dX12_doesGroup_156 (n := 157) rfl rfl ?_
            refine q_iconst C dX12_doesGroup_157 (n := 158) rfl ?_
            refine q_icmp_ne C 196 dX12_doesGroup_158 (n := 161) rfl rfl (by omega) (fun h29 => ?_) (fun h29 => ?_)
            · refine q_aload_n C dX12_doesGroup_196 (n := 197) rfl rfl ?_
              refine q_dup C dX12_doesGroup_197 (n := 198) rfl rfl ?_
              refine q_getI C dX12_doesGroup_198 (n := 201) rfl f_X12_642 (zM0 h0) (v := M a 89) ((hk26.getS rfl rfl).trans (hk16.getS rfl rfl)) ?_
              refine q_iconst C dX12_doesGroup_201 (n := 202) rfl ?_
              refine q_isub C dX12_doesGroup_202 (n := 203) rfl (v := (M a 89) - 1) rfl ?_
              refine q_putI C dX12_doesGroup_203 (n := 206) rfl f_X12_642 (zM0 h0) ⟨rfl, rfl⟩ (fun M30 (e31 : M30 = zup M21 a 89 ((M a 89) - 1)) => ?_)
              have hI32 : zI G M30 := hI23.put e31 (zM202 h0) rfl (by omega)
              have hK33 := hK27.upS e31 rfl
              have hp34 : zGr M21 a 1 := p1.cg (fun j => ((hk26.getA rfl rfl rfl).trans (hk16.getA rfl rfl rfl))) (fun j => ((hk26.getA rfl rfl rfl).trans (hk16.getA rfl rfl rfl))) (fun j => ((hk26.getA rfl rfl rfl).trans (hk16.getA rfl rfl rfl))) (fun j => ((hk26.getA rfl rfl rfl).trans (hk16.getA rfl rfl rfl))) (fun j => ((hk26.getA rfl rfl rfl).trans (hk16.getA rfl rfl rfl))) ((hk26.getS rfl rfl).trans (hk16.getS rfl rfl)) ((hk26.getS rfl rfl).trans (hk16.getS rfl rfl))
              have hp35 : zGr M30 a 1 := hp34.pop (fun j => (zup_p e31 (by omega) _)) (fun j => (zup_p e31 (by omega) _)) (fun j => (zup_p e31 (by omega) _)) (fun j => (zup_p e31 (by omega) _)) (fun j => (zup_p e31 (by omega) _)) (zup_n e31 (by omega)) (by have hw : M30 a 89 = (M a 89) - 1 := (zup_s e31); have hv : M21 a 89 = M a 89 := ((hk26.getS rfl rfl).trans (hk16.getS rfl rfl)); omega) (by rw [show M21 a 88 = M a 88 from ((hk26.getS rfl rfl).trans (hk16.getS rfl rfl)), show M21 (a + 53) (M a 88) = M (a + 53) (M a 88) from ((hk26.getA rfl rfl rfl).trans (hk16.getA rfl rfl rfl)), show M21 a 89 = M a 89 from ((hk26.getS rfl rfl).trans (hk16.getS rfl rfl))]; omega)
              refine q_aload_n C dX12_doesGroup_206 (n := 207) rfl rfl ?_
              refine q_iload_n C dX12_doesGroup_207 (n := 208) rfl rfl ?_
              refine q_iload_n C dX12_doesGroup_208 (n := 209) rfl rfl ?_
              have hp36 : zMe M30 a := p2.cg (fun j j0 j1 => ((zup_p e31 (by omega) _).trans ((hk26.getW rfl rfl (by omega)).trans (hk16.getW rfl rfl (by omega))))) (fun j => ((zup_p e31 (by omega) _).trans ((hk26.getA rfl rfl rfl).trans (hk16.getA rfl rfl rfl))))
              refine q_callVv C dX12_doesGroup_209 (n := 212) rfl m_X12_648 v_yX12_counts (zM0 h0) ⟨by decide, rfl⟩ (c_X12_counts (w := w) (J := J22) hI32 hF h0 v1 v2 (by omega) (by omega) hp36) (Nat.le_of_ble_eq_true rfl) rfl rfl (Nat.le_of_ble_eq_true rfl) ⟨Nat.le_refl _, Nat.le_refl _⟩ (fun M39 J40  hI41 h42 => ?_)
              obtain ⟨hk43, h37, h38⟩ := h42
              have hK44 := hK33.tr hk43 rfl rfl rfl
              have hz45 : M30 (a + 18) 3 = M (a + 18) 3 := ((zup_p e31 (by omega) _).trans ((hk26.getP rfl rfl rfl).trans (hk16.getP rfl rfl rfl)))
              refine q_iconst C dX12_doesGroup_212 (n := 213) rfl ?_
              have hp46 : zGr M39 a 1 := hp35.cg (fun j => (hk43.getA rfl rfl rfl)) (fun j => (hk43.getA rfl rfl rfl)) (fun j => (hk43.getA rfl rfl rfl)) (fun j => (hk43.getA rfl rfl rfl)) (fun j => (hk43.getA rfl rfl rfl)) (hk43.getS rfl rfl) (hk43.getS rfl rfl)
              exact q_zret C dX12_doesGroup_213 ⟨rfl, rfl⟩ (by omega) (by rw [hPo]; exact ⟨1, M39, J40, rfl, rfl, hI41, hK44, by omega, Or.inr (hp46.weak (by omega)), h37, (((h38).trans ((zup_p e31 (by omega) _).trans ((hk26.getP rfl rfl rfl).trans (hk16.getP rfl rfl rfl)))))⟩)
            · refine q_aload_n C dX12_doesGroup_161 (n := 162) rfl rfl ?_
              refine q_getR C dX12_doesGroup_162 (n := 165) rfl f_X12_187 (zM0 h0) (hF _ _ _ (zM195 h0)) ?_
              refine q_iload C dX12_doesGroup_165 (n := 167) rfl rfl ?_
              refine q_iconst C dX12_doesGroup_167 (n := 168) rfl ?_
              refine q_iast C dX12_doesGroup_168 (n := 169) rfl (zM196 h0) (by omega)  (fun M47 e48 => ?_)
              have hI49 : zI G M47 := hI23.put e48 ((zM197 h0) ((M a 89) - 1)) rfl (by omega)
              have hK50 := hK27.upA e48 rfl
              refine q_aload_n C dX12_doesGroup_169 (n := 170) rfl rfl ?_
              refine q_getR C dX12_doesGroup_170 (n := 173) rfl f_X12_184 (zM0 h0) (hF _ _ _ (zM192 h0)) ?_
              refine q_iload C dX12_doesGroup_173 (n := 175) rfl rfl ?_
              refine q_iconst C dX12_doesGroup_175 (n := 176) rfl ?_
              refine q_aload_n C dX12_doesGroup_176 (n := 177) rfl rfl ?_
              refine q_getR C dX12_doesGroup_177 (n := 180) rfl f_X12_181 (zM0 h0) (hF _ _ _ (zM189 h0)) ?_
              refine q_iload C dX12_doesGroup_180 (n := 182) rfl rfl ?_
              have g51 := zI.at hI ((zM191 h0) ((M a 89) - 1))
              refine q_iald C dX12_doesGroup_182 (n := 183) rfl (zM190 h0) (by omega) (v := M (a + 55) ((M a 89) - 1)) ((zup_p e48 (by omega) _).trans ((hk26.getA rfl rfl rfl).trans (hk16.getA rfl rfl rfl))) ?_
              refine q_isub C dX12_doesGroup_183 (n := 184) rfl (v := 1 - (M (a + 55) ((M a 89) - 1))) rfl ?_
              refine q_iast C dX12_doesGroup_184 (n := 185) rfl (zM193 h0) (by omega)  (fun M52 e53 => ?_)
              have hI54 : zI G M52 := hI49.put e53 ((zM194 h0) ((M a 89) - 1)) rfl (by omega)
              have hK55 := hK50.upA e53 rfl
              refine q_aload_n C dX12_doesGroup_185 (n := 186) rfl rfl ?_
              refine q_getR C dX12_doesGroup_186 (n := 189) rfl f_X12_181 (zM0 h0) (hF _ _ _ (zM189 h0)) ?_
              refine q_iload C dX12_doesGroup_189 (n := 191) rfl rfl ?_
              refine q_iconst C dX12_doesGroup_191 (n := 192) rfl ?_
              refine q_iast C dX12_doesGroup_192 (n := 193) rfl (zM190 h0) (by omega)  (fun M56 e57 => ?_)
              have hI58 : zI G M56 := hI54.put e57 ((zM191 h0) ((M a 89) - 1)) rfl (by omega)
              have hK59 := hK55.upA e57 rfl
              refine q_goto C 206 dX12_doesGroup_193 rfl ?_
              refine q_aload_n C dX12_doesGroup_206 (n := 207) rfl rfl ?_
              refine q_iload_n C dX12_doesGroup_207 (n := 208) rfl rfl ?_
              refine q_iload_n C dX12_doesGroup_208 (n := 209) rfl rfl ?_
              have hp60 : zMe M56 a := p2.cg (fun j j0 j1 => ((zup_p e57 (by omega) _).trans ((zup_p e53 (by omega) _).trans ((zup_p e48 (by omega) _).trans ((hk26.getW rfl rfl (by omega)).trans (hk16.getW rfl rfl (by omega))))))) (fun j => ((zup_p e57 (by omega) _).trans ((zup_p e53 (by omega) _).trans ((zup_p e48 (by omega) _).trans ((hk26.getA rfl rfl rfl).trans (hk16.getA rfl rfl rfl))))))
              refine q_callVv C dX12_doesGroup_209 (n := 212) rfl m_X12_648 v_yX12_counts (zM0 h0) ⟨by decide, rfl⟩ (c_X12_counts (w := w) (J := J22) hI58 hF h0 v1 v2 (by omega) (by omega) hp60) (Nat.le_of_ble_eq_true rfl) rfl rfl (Nat.le_of_ble_eq_true rfl) ⟨Nat.le_refl _, Nat.le_refl _⟩ (fun M63 J64  hI65 h66 => ?_)
              obtain ⟨hk67, h61, h62⟩ := h66
              have hK68 := hK59.tr hk67 rfl rfl rfl
              have hz69 : M56 (a + 18) 3 = M (a + 18) 3 := ((zup_p e57 (by omega) _).trans ((zup_p e53 (by omega) _).trans ((zup_p e48 (by omega) _).trans ((hk26.getP rfl rfl rfl).trans (hk16.getP rfl rfl rfl)))))
              refine q_iconst C dX12_doesGroup_212 (n := 213) rfl ?_
              have hp70 : zGr M63 a 1 := p1.cg (fun j => ((hk67.getA rfl rfl rfl).trans ((zup_p e57 (by omega) _).trans ((zup_p e53 (by omega) _).trans ((zup_p e48 (by omega) _).trans ((hk26.getA rfl rfl rfl).trans (hk16.getA rfl rfl rfl))))))) (fun j => ((hk67.getA rfl rfl rfl).trans ((zup_p e57 (by omega) _).trans ((zup_p e53 (by omega) _).trans ((zup_p e48 (by omega) _).trans ((hk26.getA rfl rfl rfl).trans (hk16.getA rfl rfl rfl))))))) (fun j => ((hk67.getA rfl rfl rfl).trans ((zup_p e57 (by omega) _).trans ((zup_p e53 (by omega) _).trans ((zup_p e48 (by omega) _).trans ((hk26.getA rfl rfl rfl).trans (hk16.getA rfl rfl rfl))))))) (fun j => ((hk67.getA rfl rfl rfl).trans ((zup_p e57 (by omega) _).trans ((zup_p e53 (by omega) _).trans ((zup_p e48 (by omega) _).trans ((hk26.getA rfl rfl rfl).trans (hk16.getA rfl rfl rfl))))))) (fun j => ((hk67.getA rfl rfl rfl).trans ((zup_p e57 (by omega) _).trans ((zup_p e53 (by omega) _).trans ((zup_p e48 (by omega) _).trans ((hk26.getA rfl rfl rfl).trans (hk16.getA rfl rfl rfl))))))) ((hk67.getS rfl rfl).trans ((zup_p e57 (by omega) _).trans ((zup_p e53 (by omega) _).trans ((zup_p e48 (by omega) _).trans ((hk26.getS rfl rfl).trans (hk16.getS rfl rfl)))))) ((hk67.getS rfl rfl).trans ((zup_p e57 (by omega) _).trans ((zup_p e53 (by omega) _).trans ((zup_p e48 (by omega) _).trans ((hk26.getS rfl rfl).trans (hk16.getS rfl rfl))))))
              exact q_zret C dX12_doesGroup_213 ⟨rfl, rfl⟩ (by omega) (by rw [hPo]; exact ⟨1, M63, J64, rfl, rfl, hI65, hK68, by omega, Or.inr (hp70.weak (by omega)), h61, (((h62).trans ((zup_p e57 (by omega) _).trans ((zup_p e53 (by omega) _).trans ((zup_p e48 (by omega) _).trans ((hk26.getP rfl rfl rfl).trans (hk16.getP rfl rfl rfl)))))))⟩)
          · refine q_iconst C dX12_doesGroup_154 (n := 155) rfl ?_
            have hp71 : zMe M21 a := p2.cg (fun j j0 j1 => ((hk26.getW rfl rfl (by omega)).trans (hk16.getW rfl rfl (by omega)))) (fun j => ((hk26.getA rfl rfl rfl).trans (hk16.getA rfl rfl rfl)))
            exact q_zret C dX12_doesGroup_155 ⟨rfl, rfl⟩ (by omega) (by rw [hPo]; exact ⟨0, M21, J22, rfl, rfl, hI23, hK27, by omega, Or.inl rfl, hp71, (((hk26.getP rfl rfl rfl).trans (hk16.getP rfl rfl rfl)))⟩)
        · refine q_aload_n C dX12_doesGroup_87 (n := 88) rfl rfl ?_
          refine q_iconst C dX12_doesGroup_88 (n := 89) rfl ?_
          have hp72 : zMe M11 a := p2.cg (fun j j0 j1 => (hk16.getW rfl rfl (by omega))) (fun j => (hk16.getA rfl rfl rfl))
          obtain ⟨mbq73, mpq73, hmaq73⟩ := hp72
          have hp74 : zOg M11 a (M11 (a + 10)) (M11 (a + 11)) := fun t _ => ⟨rfl, rfl⟩
          refine q_callVi C dX12_doesGroup_89 (n := 92) rfl m_X12_651 v_yX12_conditions (zM0 h0) ⟨by decide, rfl⟩ (c_X12_conditions (w := w) (J := J12) hI13 hF h0 2 hp74 hmaq73 h10 (by omega) (by omega)) (Nat.le_of_ble_eq_true rfl) rfl rfl (Nat.le_of_ble_eq_true rfl) ⟨Nat.le_refl _, Nat.le_refl _⟩ (fun x83 M79 J80  hI81 h82 => ?_)
          obtain ⟨hk84, h75, h76, h77, h78⟩ := h82
          have hK85 := hK17.tr hk84 rfl rfl rfl
          have hz86 : M11 (a + 18) 3 = M (a + 18) 3 := (hk16.getP rfl rfl rfl)
          refine q_if_ne C 97 dX12_doesGroup_92 (n := 95) rfl rfl (by omega) (fun h87 => ?_) (fun h87 => ?_)
          · refine q_aload_n C dX12_doesGroup_97 (n := 98) rfl rfl ?_
            refine q_getR C dX12_doesGroup_98 (n := 101) rfl f_X12_68 (zM0 h0) (hF _ _ _ (zM65 h0)) ?_
            refine q_bipush C dX12_doesGroup_101 (n := 103) rfl (x := 9) (by decide) ?_
            refine q_dup2 C dX12_doesGroup_103 (n := 104) rfl ⟨rfl, rfl⟩ ?_
            have g88 := zI.at hI81 (((zM67 h0) 9).trans (zwG_1 (by omega)))
            refine q_iald C dX12_doesGroup_104 (n := 105) rfl (zM66 h0) (by omega) (v := M79 (a + 18) 9) rfl ?_
            refine q_iconst C dX12_doesGroup_105 (n := 106) rfl ?_
            refine q_iadd C dX12_doesGroup_106 (n := 107) rfl (v := (M79 (a + 18) 9) + 1) rfl ?_
            refine q_wrap C ?_
            have g89 := zr_wr ((M79 (a + 18) 9) + 1)
            refine q_iast C dX12_doesGroup_107 (n := 108) rfl (zM66 h0) (by omega)  (fun M90 e91 => ?_)
            have hp92 : zMa M90 a mbq73 mpq73 := h77.up e91 (by omega)
            have hI93 : zI G M90 := hI81.put e91 (((zM67 h0) 9).trans (zwG_1 (by omega))) rfl (by omega)
            have hK94 := hK85.upA e91 rfl
            refine q_aload_n C dX12_doesGroup_108 (n := 109) rfl rfl ?_
            refine q_getR C dX12_doesGroup_109 (n := 112) rfl f_X12_184 (zM0 h0) (hF _ _ _ (zM192 h0)) ?_
            refine q_iload C dX12_doesGroup_112 (n := 114) rfl rfl ?_
            refine q_aload_n C dX12_doesGroup_114 (n := 115) rfl rfl ?_
            refine q_getL C dX12_doesGroup_115 (n := 118) rfl f_X12_627 (zM0 h0) (fun l95 => ?_)
            refine q_lconst C dX12_doesGroup_118 (n := 119) rfl ?_
            refine q_lcmp C dX12_doesGroup_119 (n := 120) rfl (fun z96 h97 => ?_)
            have J_101 : ∀ (u98 : Int), (-2147483648 ≤ u98 ∧ u98 ≤ 2147483647) → (u98 = 0 ∨ u98 = 1) → zK w p e 8 0 0 s m args below meth c 5 T Po 128 [.ref (w.2.1 + a), zi v1, zi v2, .null, zi ((M a 89) - 1)] [zi u98, zi ((M a 89) - 1), .ref (w.2.1 + (a + 56))] (T, M90, J80, R) := by
              intro u98 h99 h100
              refine q_iast C dX12_doesGroup_128 (n := 129) rfl (zM193 h0) (by omega)  (fun M102 e103 => ?_)
              have hI104 : zI G M102 := hI93.put e103 ((zM194 h0) ((M a 89) - 1)) rfl (by omega)
              have hK105 := hK94.upA e103 rfl
              refine q_aload_n C dX12_doesGroup_129 (n := 130) rfl rfl ?_
              refine q_getR C dX12_doesGroup_130 (n := 133) rfl f_X12_181 (zM0 h0) (hF _ _ _ (zM189 h0)) ?_
              refine q_iload C dX12_doesGroup_133 (n := 135) rfl rfl ?_
              refine q_aload_n C dX12_doesGroup_135 (n := 136) rfl rfl ?_
              refine q_getR C dX12_doesGroup_136 (n := 139) rfl f_X12_184 (zM0 h0) (hF _ _ _ (zM192 h0)) ?_
              refine q_iload C dX12_doesGroup_139 (n := 141) rfl rfl ?_
              refine q_iald C dX12_doesGroup_141 (n := 142) rfl (zM193 h0) (by omega) (v := u98) (zup_s e103) ?_
              refine q_iast C dX12_doesGroup_142 (n := 143) rfl (zM190 h0) (by omega)  (fun M106 e107 => ?_)
              have hI108 : zI G M106 := hI104.put e107 ((zM191 h0) ((M a 89) - 1)) rfl (by omega)
              have hK109 := hK105.upA e107 rfl
              refine q_goto C 206 dX12_doesGroup_143 rfl ?_
              refine q_aload_n C dX12_doesGroup_206 (n := 207) rfl rfl ?_
              refine q_iload_n C dX12_doesGroup_207 (n := 208) rfl rfl ?_
              refine q_iload_n C dX12_doesGroup_208 (n := 209) rfl rfl ?_
              have hp110 : zMa M106 a mbq73 mpq73 := hp92.cg (fun j j0 j1 => ((zup_p e107 (by omega) _).trans (zup_p e103 (by omega) _))) (fun j => ((zup_p e107 (by omega) _).trans (zup_p e103 (by omega) _)))
              have hp111 : zMe M106 a := ⟨_, _, hp110⟩
              refine q_callVv C dX12_doesGroup_209 (n := 212) rfl m_X12_648 v_yX12_counts (zM0 h0) ⟨by decide, rfl⟩ (c_X12_counts (w := w) (J := J80) hI108 hF h0 v1 v2 (by omega) (by omega) hp111) (Nat.le_of_ble_eq_true rfl) rfl rfl (Nat.le_of_ble_eq_true rfl) ⟨Nat.le_refl _, Nat.le_refl _⟩ (fun M114 J115  hI116 h117 => ?_)
              obtain ⟨hk118, h112, h113⟩ := h117
              have hK119 := hK109.tr hk118 rfl rfl rfl
              have hz120 : M106 (a + 18) 3 = M (a + 18) 3 := ((zup_p e107 (by omega) _).trans ((zup_p e103 (by omega) _).trans ((zup_n e91 (by omega)).trans ((h78).trans (hk16.getP rfl rfl rfl)))))
              refine q_iconst C dX12_doesGroup_212 (n := 213) rfl ?_
              have hp121 : zGr M114 a 1 := p1.cg (fun j => ((hk118.getA rfl rfl rfl).trans ((zup_p e107 (by omega) _).trans ((zup_p e103 (by omega) _).trans ((zup_p e91 (by omega) _).trans ((hk84.getA rfl rfl rfl).trans (hk16.getA rfl rfl rfl))))))) (fun j => ((hk118.getA rfl rfl rfl).trans ((zup_p e107 (by omega) _).trans ((zup_p e103 (by omega) _).trans ((zup_p e91 (by omega) _).trans ((hk84.getA rfl rfl rfl).trans (hk16.getA rfl rfl rfl))))))) (fun j => ((hk118.getA rfl rfl rfl).trans ((zup_p e107 (by omega) _).trans ((zup_p e103 (by omega) _).trans ((zup_p e91 (by omega) _).trans ((hk84.getA rfl rfl rfl).trans (hk16.getA rfl rfl rfl))))))) (fun j => ((hk118.getA rfl rfl rfl).trans ((zup_p e107 (by omega) _).trans ((zup_p e103 (by omega) _).trans ((zup_p e91 (by omega) _).trans ((hk84.getA rfl rfl rfl).trans (hk16.getA rfl rfl rfl))))))) (fun j => ((hk118.getA rfl rfl rfl).trans ((zup_p e107 (by omega) _).trans ((zup_p e103 (by omega) _).trans ((zup_p e91 (by omega) _).trans ((hk84.getA rfl rfl rfl).trans (hk16.getA rfl rfl rfl))))))) ((hk118.getS rfl rfl).trans ((zup_p e107 (by omega) _).trans ((zup_p e103 (by omega) _).trans ((zup_p e91 (by omega) _).trans ((hk84.getS rfl rfl).trans (hk16.getS rfl rfl)))))) ((hk118.getS rfl rfl).trans ((zup_p e107 (by omega) _).trans ((zup_p e103 (by omega) _).trans ((zup_p e91 (by omega) _).trans ((hk84.getS rfl rfl).trans (hk16.getS rfl rfl))))))
              exact q_zret C dX12_doesGroup_213 ⟨rfl, rfl⟩ (by omega) (by rw [hPo]; exact ⟨1, M114, J115, rfl, rfl, hI116, hK119, by omega, Or.inr (hp121.weak (by omega)), h112, (((h113).trans ((zup_p e107 (by omega) _).trans ((zup_p e103 (by omega) _).trans ((zup_n e91 (by omega)).trans ((h78).trans (hk16.getP rfl rfl rfl)))))))⟩)
            refine q_if_eq C 127 dX12_doesGroup_120 (n := 123) rfl rfl (by omega) (fun h122 => ?_) (fun h122 => ?_)
            · refine q_iconst C dX12_doesGroup_127 (n := 128) rfl ?_
              exact zK.weak (J_101 0 (by omega) (by omega)) (zwk_c (zwk_c (zwk_c (zwk_n (zwk_c zwk_e)))))
            · refine q_iconst C dX12_doesGroup_123 (n := 124) rfl ?_
              refine q_goto C 128 dX12_doesGroup_124 rfl ?_
              exact zK.weak (J_101 1 (by omega) (by omega)) (zwk_c (zwk_c (zwk_c (zwk_n (zwk_c zwk_e)))))
          · refine q_iconst C dX12_doesGroup_95 (n := 96) rfl ?_
            have hp123 : zMe M79 a := ⟨_, _, h77⟩
            exact q_zret C dX12_doesGroup_96 ⟨rfl, rfl⟩ (by omega) (by rw [hPo]; exact ⟨0, M79, J80, rfl, rfl, hI81, hK85, by omega, Or.inl rfl, hp123, (((h78).trans (hk16.getP rfl rfl rfl)))⟩)
      · refine q_iconst C dX12_doesGroup_80 (n := 81) rfl ?_
        have hp124 : zMe M11 a := p2.cg (fun j j0 j1 => (hk16.getW rfl rfl (by omega))) (fun j => (hk16.getA rfl rfl rfl))
        exact q_zret C dX12_doesGroup_81 ⟨rfl, rfl⟩ (by omega) (by rw [hPo]; exact ⟨0, M11, J12, rfl, rfl, hI13, hK17, by omega, Or.inl rfl, hp124, ((hk16.getP rfl rfl rfl))⟩)
    refine q_icmp_ne C 71 dX12_doesGroup_41 (n := 44) rfl rfl (by omega) (fun h125 => ?_) (fun h125 => ?_)
    · exact zK.weak (J_3) (zwk_c (zwk_c (zwk_c (zwk_c (zwk_c zwk_e)))))
    · refine q_aload_n C dX12_doesGroup_44 (n := 45) rfl rfl ?_
      refine q_getR C dX12_doesGroup_45 (n := 48) rfl f_X12_181 (zM0 h0) (hF _ _ _ (zM189 h0)) ?_
      refine q_iload C dX12_doesGroup_48 (n := 50) rfl rfl ?_
      have g126 := zI.at hI ((zM191 h0) ((M a 89) - 1))
      refine q_iald C dX12_doesGroup_50 (n := 51) rfl (zM190 h0) (by omega) (v := M (a + 55) ((M a 89) - 1)) rfl ?_
      refine q_iconst C dX12_doesGroup_51 (n := 52) rfl ?_
      refine q_icmp_ne C 71 dX12_doesGroup_52 (n := 55) rfl rfl (by omega) (fun h127 => ?_) (fun h127 => ?_)
      · exact zK.weak (J_3) (zwk_c (zwk_c (zwk_c (zwk_c (zwk_c zwk_e)))))
      · refine q_aload_n C dX12_doesGroup_55 (n := 56) rfl rfl ?_
        refine q_getR C dX12_doesGroup_56 (n := 59) rfl f_X12_184 (zM0 h0) (hF _ _ _ (zM192 h0)) ?_
        refine q_iload C dX12_doesGroup_59 (n := 61) rfl rfl ?_
        refine q_iconst C dX12_doesGroup_61 (n := 62) rfl ?_
        refine q_iast C dX12_doesGroup_62 (n := 63) rfl (zM193 h0) (by omega)  (fun M128 e129 => ?_)
        have hI130 : zI G M128 := hI.put e129 ((zM194 h0) ((M a 89) - 1)) rfl (by omega)
        have hK131 := hK0.upA e129 rfl
        refine q_aload_n C dX12_doesGroup_63 (n := 64) rfl rfl ?_
        refine q_iload_n C dX12_doesGroup_64 (n := 65) rfl rfl ?_
        refine q_iload_n C dX12_doesGroup_65 (n := 66) rfl rfl ?_
        have hp132 : zMe M128 a := p2.cg (fun j j0 j1 => (zup_p e129 (by omega) _)) (fun j => (zup_p e129 (by omega) _))
        refine q_callVv C dX12_doesGroup_66 (n := 69) rfl m_X12_648 v_yX12_counts (zM0 h0) ⟨by decide, rfl⟩ (c_X12_counts (w := w) (J := J) hI130 hF h0 v1 v2 (by omega) (by omega) hp132) (Nat.le_of_ble_eq_true rfl) rfl rfl (Nat.le_of_ble_eq_true rfl) ⟨Nat.le_refl _, Nat.le_refl _⟩ (fun M135 J136  hI137 h138 => ?_)
        obtain ⟨hk139, h133, h134⟩ := h138
        have hK140 := hK131.tr hk139 rfl rfl rfl
        have hz141 : M128 (a + 18) 3 = M (a + 18) 3 := (zup_p e129 (by omega) _)
        refine q_iconst C dX12_doesGroup_69 (n := 70) rfl ?_
        have hp142 : zGr M135 a 1 := p1.cg (fun j => ((hk139.getA rfl rfl rfl).trans (zup_p e129 (by omega) _))) (fun j => ((hk139.getA rfl rfl rfl).trans (zup_p e129 (by omega) _))) (fun j => ((hk139.getA rfl rfl rfl).trans (zup_p e129 (by omega) _))) (fun j => ((hk139.getA rfl rfl rfl).trans (zup_p e129 (by omega) _))) (fun j => ((hk139.getA rfl rfl rfl).trans (zup_p e129 (by omega) _))) ((hk139.getS rfl rfl).trans (zup_p e129 (by omega) _)) ((hk139.getS rfl rfl).trans (zup_p e129 (by omega) _))
        exact q_zret C dX12_doesGroup_70 ⟨rfl, rfl⟩ (by omega) (by rw [hPo]; exact ⟨1, M135, J136, rfl, rfl, hI137, hK140, by omega, Or.inr (hp142.weak (by omega)), h133, (((h134).trans (zup_p e129 (by omega) _)))⟩)
  refine q_icmp_ge C 39 dX12_doesGroup_10 (n := 13) rfl rfl (by omega) (fun h143 => ?_) (fun h143 => ?_)
  · exact zK.weak (J_2) (zwk_c (zwk_c (zwk_c (zwk_c (zwk_c zwk_e)))))
  · refine q_aload_n C dX12_doesGroup_13 (n := 14) rfl rfl ?_
    refine q_getR C dX12_doesGroup_14 (n := 17) rfl f_X12_187 (zM0 h0) (hF _ _ _ (zM195 h0)) ?_
    refine q_iload C dX12_doesGroup_17 (n := 19) rfl rfl ?_
    have g144 := zI.at hI ((zM197 h0) ((M a 89) - 1))
    refine q_iald C dX12_doesGroup_19 (n := 20) rfl (zM196 h0) (by omega) (v := M (a + 57) ((M a 89) - 1)) rfl ?_
    refine q_iconst C dX12_doesGroup_20 (n := 21) rfl ?_
    refine q_icmp_ne C 39 dX12_doesGroup_21 (n := 24) rfl rfl (by omega) (fun h145 => ?_) (fun h145 => ?_)
    · exact zK.weak (J_2) (zwk_c (zwk_c (zwk_c (zwk_c (zwk_c zwk_e)))))
    · refine q_aload_n C dX12_doesGroup_24 (n := 25) rfl rfl ?_
      refine q_bipush C dX12_doesGroup_25 (n := 27) rfl (x := 10) (by decide) ?_
      refine q_iload_n C dX12_doesGroup_27 (n := 28) rfl rfl ?_
      refine q_iload_n C dX12_doesGroup_28 (n := 29) rfl rfl ?_
      refine q_aload_n C dX12_doesGroup_29 (n := 30) rfl rfl ?_
      refine q_iload_n C dX12_doesGroup_30 (n := 31) rfl rfl ?_
      refine q_iload_n C dX12_doesGroup_31 (n := 32) rfl rfl ?_
      refine q_callVp C dX12_doesGroup_32 (n := 35) rfl m_X12_330 v_yX12_hashOf (zM0 h0) ⟨by decide, rfl⟩ (c_X12_hashOf (w := w) (J := J) hI hF h0 v1 v2 p3 (by omega) (by omega)) (Nat.le_of_ble_eq_true rfl) rfl rfl (Nat.le_of_ble_eq_true rfl) ⟨Nat.le_refl _, Nat.le_refl _⟩ (fun x148 h149 => ?_)
      obtain ⟨h146, h147⟩ := h149
      refine q_callVi C dX12_doesGroup_35 (n := 38) rfl m_X12_373 v_yX12_bad (zM0 h0) ⟨by decide, rfl⟩ (c_X12_bad (w := w) (J := J) hI hF h0 10 v1 v2 x148 (by omega) (by omega) (by omega) (by omega)) (Nat.le_of_ble_eq_true rfl) rfl rfl (Nat.le_of_ble_eq_true rfl) ⟨Nat.le_refl _, Nat.le_refl _⟩ (fun x156 M152 J153  hI154 h155 => ?_)
      obtain ⟨hk157, h150, h151⟩ := h155
      have hK158 := hK0.tr hk157 rfl rfl rfl
      have hp159 : zMe M152 a := p2.cg (fun j j0 j1 => (hk157.getW rfl rfl (by omega))) (fun j => (hk157.getA rfl rfl rfl))
      exact q_zret C dX12_doesGroup_38 ⟨rfl, rfl⟩ (by omega) (by rw [hPo]; exact ⟨x156, M152, J153, rfl, rfl, hI154, hK158, by omega, Or.inl (by omega), hp159, ((hk157.getP rfl rfl rfl))⟩)
