section YY7
variable {mb mp at_ en sa fb cm cb ca cg cp ct cl pa ps : Int → Int} {E fr st am pc tp md po ls n A0 v u z : Int}
theorem Y_ca (h : zY mb mp E fr st am pc tp md po ls at_ en sa fb cm cb ca cg cp ct cl pa ps n A0 v u z) (hn : n = fr) {x : Int} : zY mb mp E fr st am pc tp md po ls at_ en sa fb cm cb (yup ca fr x) cg cp ct cl pa ps n A0 v u z := by
  obtain ⟨⟨a1, a2, a3, a4, a5, a6, a7, a8, a9⟩, ⟨b1, b2, b3, b4, b5, b6, b7, b8, b9, b10, b11⟩, hF, hT, hL, hP, hC, hD, hZ, ⟨hK, hS⟩, ⟨hO0, hO⟩, hB, ⟨hG1, hG2⟩⟩ := h
  refine ⟨⟨a1, a2, a3, a4, a5, a6, a7, a8, a9⟩, ⟨b1, b2, b3, b4, b5, b6, b7, b8, b9, b10, b11⟩, hF, hT, fun g g0 g1 => ?_, fun q => ?_, hC, hD, hZ, ⟨hK, hS⟩, ⟨hO0, hO⟩, hB, ⟨hG1, hG2⟩⟩
  · obtain ⟨q1, q2, q3⟩ := hL g g0 g1
    rw [yup_n (by omega)]
    exact ⟨q1.mo (Int.le_refl _) g0 rfl rfl (yup_n (by omega)) rfl rfl rfl, q2.cg rfl (yup_n (by omega)) (fun p _ _ => ⟨rfl, rfl⟩), q3⟩
  · obtain ⟨q1, q2, q3, q4⟩ := hP q
    exact ⟨q1.mo (Int.le_refl _) (by omega) rfl rfl (yup_n (by omega)) rfl rfl rfl, q2.cg rfl (yup_n (by omega)) (fun p _ _ => ⟨rfl, rfl⟩), q3, q4⟩
theorem Y_cg (h : zY mb mp E fr st am pc tp md po ls at_ en sa fb cm cb ca cg cp ct cl pa ps n A0 v u z) (hn : n = fr) (hm : ∀ m, mp m ≤ 4) {i x : Int} (hi : 5 * fr ≤ i) : zY mb mp E fr st am pc tp md po ls at_ en sa fb cm cb ca (yup cg i x) cp ct cl pa ps n A0 v u z := by
  obtain ⟨⟨a1, a2, a3, a4, a5, a6, a7, a8, a9⟩, ⟨b1, b2, b3, b4, b5, b6, b7, b8, b9, b10, b11⟩, hF, hT, hL, hP, hC, hD, hZ, ⟨hK, hS⟩, ⟨hO0, hO⟩, hB, ⟨hG1, hG2⟩⟩ := h
  refine ⟨⟨a1, a2, a3, a4, a5, a6, a7, a8, a9⟩, ⟨b1, b2, b3, b4, b5, b6, b7, b8, b9, b10, b11⟩, hF, hT, fun g g0 g1 => ?_, fun q => ?_, hC, hD, hZ, ⟨hK, hS⟩, ⟨hO0, hO⟩, hB, ⟨hG1, hG2⟩⟩
  · obtain ⟨q1, q2, q3⟩ := hL g g0 g1
    have := hm (cm g)
    exact ⟨q1, q2.cg rfl rfl (fun p _ _ => ⟨yup_n (by omega), yup_n (by omega)⟩), q3⟩
  · obtain ⟨q1, q2, q3, q4⟩ := hP q
    have := hm (cm (n - 1))
    exact ⟨q1, q2.cg rfl rfl (fun p _ _ => ⟨yup_n (by omega), yup_n (by omega)⟩), q3, q4⟩
end YY7
theorem zX.drop {M : zMm} {a : Nat} {mb mp : Int → Int} {n A0 v u z : Int} (h : zX M a mb mp n A0 v u z) {v2 u2 z2 : Int} (hv : 0 ≤ v2 ∧ v2 ≤ v) (hu : 0 ≤ u2 ∧ u2 ≤ u) (hz : 0 ≤ z2 ∧ z2 ≤ z) : zX M a mb mp n A0 v2 u2 z2 := Y_drop h hv hu hz
theorem yR_le {at_ en : Int → Int} : ∀ (k : Nat), (∀ j, 0 ≤ j → j < k → en j - at_ j ≤ 194000) → yR at_ en k ≤ 194000 * k
  | 0, _ => Int.le_refl _
  | k + 1, h => by
    have h1 := yR_le k (fun j j0 j1 => h j j0 (by omega))
    have h2 := h k (by omega) (by omega)
    rw [show ((k + 1 : Nat) : Int) = (k : Int) + 1 by omega, yR_s (by omega)]
    omega
theorem zX.mu {T : zTl} {F : zRm'} {G : zGt} {M : zMm} {a : Nat} {mb mp : Int → Int} {n A0 v u z : Int} (h : zX M a mb mp n A0 v u z) (hI : zI G M) (h0 : zModel T F G a) : 0 ≤ zMu M a n ∧ zMu M a n ≤ 100000000 := by
  have hnum := zX.num h
  have hfb := yfl h (g := M a 57) (r := M a 57) h.1.2.2.2.1 (Int.le_refl _) (Int.le_refl _)
  have hst : 0 ≤ M a 58 := by have := h.2.1.2.2.2.1; omega
  have r1 : yR (M (a + 24)) (M (a + 25)) 0 ≤ yR (M (a + 24)) (M (a + 25)) (M a 58) := yR_mo (fun j j0 j1 => (h.2.2.2.1 j j0 j1).1) ⟨Int.le_refl _, hst⟩
  have r0 : yR (M (a + 24)) (M (a + 25)) 0 = 0 := rfl
  have r2 := yR_le (at_ := M (a + 24)) (en := M (a + 25)) (M a 58).toNat (fun j _ _ => by
    have g1 := zI.at hI (zM87 h0 j)
    have g2 := zI.at hI (zM90 h0 j)
    omega)
  rw [show (((M a 58).toNat : Nat) : Int) = M a 58 by omega] at r2
  have hcb : ∀ (k : Nat), (k : Int) ≤ n → 0 ≤ zSum (M (a + 31)) 0 k ∧ zSum (M (a + 31)) 0 k ≤ 20 * k := fun k => by
    induction k with
    | zero => intro _; exact ⟨Int.le_refl _, Int.le_refl _⟩
    | succ k ih =>
      intro hk
      have i1 := ih (by omega)
      have i2 : zSum (M (a + 31)) 0 (k + 1) = zSum (M (a + 31)) 0 k + M (a + 31) (0 + (k : Int)) := rfl
      rw [i2, Int.zero_add]
      have i3 : 0 ≤ M (a + 31) (k : Int) ∧ M (a + 31) (k : Int) ≤ 20 := by
        by_cases q : (k : Int) + 1 < n
        · have := (h.2.2.2.2.1 k (by omega) q).1
          have q2 := (h.2.2.2.2.2.2.2.2.2.2.2.1 (M (a + 28) (k : Int))).2
          have q3 := this.2.2.1
          have q4 := this.2.1
          omega
        · have := (h.2.2.2.2.2.1 (by omega)).1
          rw [show n - 1 = (k : Int) by omega] at this
          have q2 := (h.2.2.2.2.2.2.2.2.2.2.2.1 (M (a + 28) (k : Int))).2
          have q3 := this.2.2.1
          have q4 := this.2.1
          omega
      omega
  have h3 := hcb n.toNat (by omega)
  unfold zMu
  omega
theorem ymul {n E : Int} (h0 : 0 ≤ n) (h1 : n ≤ E) (h2 : E ≤ 100) : n * (440 + 30 * (E - n)) ≤ 119000 := by
  have a1 : n * (440 + 30 * (E - n)) ≤ n * (440 + 30 * (100 - n)) := Int.mul_le_mul_of_nonneg_left (by omega) h0
  have key : ∀ k : Fin 101, ((k : Nat) : Int) * (440 + 30 * (100 - ((k : Nat) : Int))) ≤ 119000 := by decide
  have a2 := key ⟨n.toNat, by omega⟩
  have e : (((⟨n.toNat, by omega⟩ : Fin 101) : Nat) : Int) = n := by show (n.toNat : Int) = n; omega
  rw [e] at a2
  omega
theorem zX.amb {M : zMm} {a : Nat} {mb mp : Int → Int} {n A0 v u z : Int} (h : zX M a mb mp n A0 v u z) (hn : M a 57 = n) : M a 59 + v ≤ 130000 := by
  have hN := yN h
  have hfb := yfl h (g := M a 57) (r := M a 57) h.1.2.2.2.1 (Int.le_refl _) (Int.le_refl _)
  have hc := (h.2.2.2.2.2.2.1 hn.symm).2
  have hrm : yR (M (a + 24)) (M (a + 25)) (M (a + 27) (M a 57)) ≤ yR (M (a + 24)) (M (a + 25)) (M a 58) := yR_mo (fun j j0 j1 => (h.2.2.2.1 j j0 j1).1) ⟨hfb.1, h.2.1.2.2.2.1⟩
  have h8 := h.2.1.2.2.2.2.2.2.2.1
  have hm := ymul h.1.1 h.1.2.1 h.1.2.2.1
  have hy : 0 ≤ yP (M a 61) (M (a + 31)) (M (a + 36)) (M a 57) := by
    by_cases q : M a 57 = 0
    · rw [q, yP_0]
      exact h.2.1.2.2.2.2.2.2.2.2.2.1
    · exact (yP_p q).1
  omega

def zAh (M : zMm) (a : Nat) (f A0 k : Int) : Prop := 4 < k ∨ (∀ p, 0 ≤ p → p < k → A0 ≤ M (a + 33) (5 * f + p) ∧ M (a + 33) (5 * f + p) ≤ M (a + 33) (5 * f + p + 1) ∧ M (a + 33) (5 * f + p + 1) ≤ M a 59) ∧ A0 ≤ M (a + 33) (5 * f + k) ∧ M (a + 33) (5 * f + k) ≤ M a 59
theorem zAh.cg {M M2 : zMm} {a : Nat} {f A0 k : Int} (h : zAh M a f A0 k) (e33 : ∀ j, M2 (a + 33) j = M (a + 33) j) (e59 : M2 a 59 = M a 59) : zAh M2 a f A0 k := by
  unfold zAh at h ⊢
  rw [funext e33, e59]
  exact h
theorem zAh.zero {M M2 : zMm} {a : Nat} {f A0 x : Int} (e : M2 = zup M (a + 33) (5 * f) x) (hx : x = A0) (hA : A0 ≤ M a 59) : zAh M2 a f A0 0 := by
  refine Or.inr ⟨fun p p0 p1 => by omega, ?_⟩
  rw [show 5 * f + 0 = 5 * f by omega, zup_s e, zup_p e (by omega), hx]
  exact ⟨Int.le_refl _, hA⟩
theorem zAh.over {M : zMm} {a : Nat} {f A0 k : Int} (h : 4 < k) : zAh M a f A0 k := Or.inl h
theorem zAh.am {M M2 : zMm} {a : Nat} {f A0 k x : Int} (h : zAh M a f A0 k) (e : M2 = zup M a 59 x) (hx : M a 59 ≤ x) : zAh M2 a f A0 k := by
  rcases h with h | ⟨h1, h2, h3⟩
  · exact Or.inl h
  · have e33 : M2 (a + 33) = M (a + 33) := funext fun j => zup_p e (by omega) j
    refine Or.inr ?_
    rw [e33, zup_s e]
    exact ⟨fun p p0 p1 => ⟨(h1 p p0 p1).1, (h1 p p0 p1).2.1, by have := (h1 p p0 p1).2.2; omega⟩, h2, by omega⟩
theorem zAh.comma {M M2 : zMm} {a : Nat} {f A0 k x : Int} (h : zAh M a f A0 k) (e : M2 = zup M (a + 33) (5 * f + (k + 1)) x) (hx : x = M a 59) (k0 : 0 ≤ k) (hk : k + 1 < 5) : zAh M2 a f A0 (k + 1) := by
  rcases h with h | ⟨h1, h2, h3⟩
  · omega
  · refine Or.inr ⟨fun p p0 p1 => ?_, ?_⟩
    · rw [zup_n e (by omega), zup_p (c := a) e (by omega)]
      by_cases q : p = k
      · subst q
        rw [show 5 * f + p + 1 = 5 * f + (p + 1) by omega, zup_s e]
        omega
      · rw [zup_n e (by omega)]
        exact h1 p p0 (by omega)
    · rw [zup_s e, zup_p (c := a) e (by omega)]
      omega
theorem zAh.fin {M M2 : zMm} {a : Nat} {mp : Int → Int} {f A0 k x m : Int} (h : zAh M a f A0 k) (e : M2 = zup M (a + 33) (5 * f + k + 1) x) (hx : x = M a 59) (k0 : 0 ≤ k) (hk : k ≤ 3) (hm : mp m ≤ 0 ∨ mp m = k + 1) : zAg M2 a mp f A0 m := by
  rcases h with h | ⟨h1, h2, h3⟩
  · omega
  · intro p p0 p1
    rw [zup_n e (by omega), zup_p (c := a) e (by omega)]
    by_cases q : p = k
    · subst q
      rw [zup_s e]
      omega
    · rw [zup_n e (by omega)]
      exact h1 p p0 (by omega)
theorem c_X12_calls {w : zWp} {T : zTl} {M : zMm} {J : zJm} {R : zRm'} {G : zGt} {F : zRm'} {a : Nat} {mb mp : Int → Int} {n A0 v u z : Int} (hI : zI G M) (hF : zF F R) (h0 : zModel T F G a) (v1 : Int) (v2 : Int) (f : Int) (p1 : zX M a mb mp n A0 v u z) (p2 : M a 57 = f) (p3 : zMa M a mb mp) (p4 : n = f ∧ A0 = M a 59) (p5 : zNx M a) (p6 : 0 ≤ v1 ∧ v1 ≤ 3499) (p7 : 0 ≤ v2 ∧ v2 ≤ 11) : zCt w 4 0 0 yX12_calls cX12_calls 9 (some .boolean) [.ref (w.2.1 + a), zi v1, zi v2] (T, M, J, R) (zPi T R G (fun x M2 => (zMd a [18, 24, 28, 29, 30, 31, 32, 33, 34, 35, 36, 40] [58, 59, 62] [] M M2) ∧ (x = 0 ∨ x = 1) ∧ (x = 0 ∨ zX M2 a mb mp (n + 1) (M2 a 59) 0 0 0) ∧ (x = 0 ∨ zMu M2 a (n + 1) + 20000 ≤ zMu M a n) ∧ (zMa M2 a mb mp) ∧ (M2 (a + 18) 3 = M (a + 18) 3))) := by
  refine zCt.of rfl (Nat.le_of_ble_eq_true rfl) ?_
  intro p e s m args below meth c C
  obtain ⟨Po, hPo⟩ : ∃ Po, Po = zPi T R G (fun x M2 => (zMd a [18, 24, 28, 29, 30, 31, 32, 33, 34, 35, 36, 40] [58, 59, 62] [] M M2) ∧ (x = 0 ∨ x = 1) ∧ (x = 0 ∨ zX M2 a mb mp (n + 1) (M2 a 59) 0 0 0) ∧ (x = 0 ∨ zMu M2 a (n + 1) + 20000 ≤ zMu M a n) ∧ (zMa M2 a mb mp) ∧ (M2 (a + 18) 3 = M (a + 18) 3)) := ⟨_, rfl⟩
  rw [← hPo]
  subst p2
  have hK0 : zMd a [18, 24, 28, 29, 30, 31, 32, 33, 34, 35, 36, 40] [58, 59, 62] [] M M := zMd.rf
  have gk_frame := zI.at hI (zM142 h0)
  have gx0 := zX.num p1
  have gmu := zX.mu p1 hI h0
  show zK w p e 4 0 0 s m args below meth c 9 T Po 0 [.ref (w.2.1 + a), zi v1, zi v2, .null, .null, .null, .null, .null, .null] [] (T, M, J, R)
  refine q_aload_n C dX12_calls_0 (n := 1) rfl rfl ?_
  refine q_callVv C dX12_calls_1 (n := 4) rfl m_X12_491 v_yX12_goes (zM0 h0) ⟨by decide, rfl⟩ (c_X12_goes (w := w) (J := J) hI hF h0 p1 (by omega) p5) (Nat.le_of_ble_eq_true rfl) rfl rfl (Nat.le_of_ble_eq_true rfl) ⟨Nat.le_refl _, Nat.le_refl _⟩ (fun M3 J4  hI5 h6 => ?_)
  obtain ⟨hk7, h1, h2⟩ := h6
  have hK8 := hK0.tr hk7 rfl rfl rfl
  refine q_aload_n C dX12_calls_4 (n := 5) rfl rfl ?_
  refine q_getR C dX12_calls_5 (n := 8) rfl f_X12_110 (zM0 h0) (hF _ _ _ (zM109 h0)) ?_
  refine q_aload_n C dX12_calls_8 (n := 9) rfl rfl ?_
  have g9 := zI.at hI (zM142 h0)
  refine q_getI C dX12_calls_9 (n := 12) rfl f_X12_448 (zM0 h0) (v := M a 57) (hk7.getS rfl rfl) ?_
  refine q_aload_n C dX12_calls_12 (n := 13) rfl rfl ?_
  have g10 := zI.at hI (zM144 h0)
  refine q_getI C dX12_calls_13 (n := 16) rfl f_X12_500 (zM0 h0) (v := M a 59) (hk7.getS rfl rfl) ?_
  refine q_iast C dX12_calls_16 (n := 17) rfl (zM110 h0) (by omega)  (fun M11 e12 => ?_)
  have hI13 : zI G M11 := hI5.put e12 ((zM111 h0) (M a 57)) rfl (by omega)
  have hK14 := hK8.upA e12 rfl
  have hz15 : M3 a 62 = M a 62 := (hk7.getS rfl rfl)
  have hz16 : M3 a 57 = M a 57 := (hk7.getS rfl rfl)
  have hz17 : M3 a 58 = M a 58 := (hk7.getS rfl rfl)
  have hz18 : M3 a 59 = M a 59 := (hk7.getS rfl rfl)
  have hz19 : M3 a 60 = M a 60 := (hk7.getS rfl rfl)
  have hz20 : M3 a 26 = M a 26 := (hk7.getS rfl rfl)
  have hz21 : M3 a 25 = M a 25 := (hk7.getS rfl rfl)
  have hz22 : M3 a 24 = M a 24 := (hk7.getS rfl rfl)
  have hz23 : M3 a 61 = M a 61 := (hk7.getS rfl rfl)
  have hx24 : zX M11 a mb mp n A0 (v + 1) u z := zY.cgr (Y_ca h1 (by omega) (x := M a 59)) (zup_p e12 (by omega) _) (zup_p e12 (by omega) _) (zup_p e12 (by omega) _) (zup_p e12 (by omega) _) (zup_p e12 (by omega) _) (zup_p e12 (by omega) _) (zup_p e12 (by omega) _) (zup_p e12 (by omega) _) (zup_p e12 (by omega) _) (funext fun j => (zup_p e12 (by omega) _)) (funext fun j => (zup_p e12 (by omega) _)) (funext fun j => (zup_p e12 (by omega) _)) (funext fun j => (zup_p e12 (by omega) _)) (funext fun j => (zup_p e12 (by omega) _)) (funext fun j => (zup_p e12 (by omega) _)) (funext fun j => by by_cases q : j = (M3 a 57); (rw [q, yup_s]; rw [show (M3 a 57) = M a 57 by omega]; have hw : M11 (a + 32) (M a 57) = M a 59 := (zup_e e12 (by omega)); have hv : M3 (a + 32) (M a 57) = M (a + 32) (M a 57) := (hk7.getA rfl rfl rfl); omega); (rw [yup_n q]; exact (zup_n e12 (by omega)))) (funext fun j => (zup_p e12 (by omega) _)) (funext fun j => (zup_p e12 (by omega) _)) (funext fun j => (zup_p e12 (by omega) _)) (funext fun j => (zup_p e12 (by omega) _)) (funext fun j => (zup_p e12 (by omega) _)) (funext fun j => (zup_p e12 (by omega) _))
  refine q_iconst C dX12_calls_17 (n := 18) rfl ?_
  refine q_istore_n C [.ref (w.2.1 + a), zi v1, zi v2, zi 0, .null, .null, .null, .null, .null] dX12_calls_18 (n := 19) rfl rfl rfl ?_
  refine q_iconst C dX12_calls_19 (n := 20) rfl ?_
  refine q_istore C [.ref (w.2.1 + a), zi v1, zi v2, zi 0, zi 1, .null, .null, .null, .null] dX12_calls_20 (n := 22) rfl rfl rfl ?_
  refine q_aload_n C dX12_calls_22 (n := 23) rfl rfl ?_
  refine q_getI C dX12_calls_23 (n := 26) rfl f_X12_500 (zM0 h0) (v := M a 59) ((zup_p e12 (by omega) _).trans (hk7.getS rfl rfl)) ?_
  refine q_istore C [.ref (w.2.1 + a), zi v1, zi v2, zi 0, zi 1, zi (M a 59), .null, .null, .null] dX12_calls_26 (n := 28) rfl rfl rfl ?_
  refine q_aload_n C dX12_calls_28 (n := 29) rfl rfl ?_
  refine q_getR C dX12_calls_29 (n := 32) rfl f_X12_113 (zM0 h0) (hF _ _ _ (zM112 h0)) ?_
  refine q_iconst C dX12_calls_32 (n := 33) rfl ?_
  refine q_aload_n C dX12_calls_33 (n := 34) rfl rfl ?_
  refine q_getI C dX12_calls_34 (n := 37) rfl f_X12_448 (zM0 h0) (v := M a 57) ((zup_p e12 (by omega) _).trans (hk7.getS rfl rfl)) ?_
  refine q_imul C dX12_calls_37 (n := 38) rfl (v := 5 * (M a 57)) rfl ?_
  refine q_iload C dX12_calls_38 (n := 40) rfl rfl ?_
  refine q_iast C dX12_calls_40 (n := 41) rfl (zM113 h0) (by omega)  (fun M25 e26 => ?_)
  have hI27 : zI G M25 := hI13.put e26 ((zM114 h0) (5 * (M a 57))) rfl (by omega)
  have hK28 := hK14.upA e26 rfl
  have hz29 : M11 a 62 = M a 62 := ((zup_p e12 (by omega) _).trans (hk7.getS rfl rfl))
  have hz30 : M11 a 57 = M a 57 := ((zup_p e12 (by omega) _).trans (hk7.getS rfl rfl))
  have hz31 : M11 a 58 = M a 58 := ((zup_p e12 (by omega) _).trans (hk7.getS rfl rfl))
  have hz32 : M11 a 59 = M a 59 := ((zup_p e12 (by omega) _).trans (hk7.getS rfl rfl))
  have hz33 : M11 a 60 = M a 60 := ((zup_p e12 (by omega) _).trans (hk7.getS rfl rfl))
  have hz34 : M11 a 26 = M a 26 := ((zup_p e12 (by omega) _).trans (hk7.getS rfl rfl))
  have hz35 : M11 a 25 = M a 25 := ((zup_p e12 (by omega) _).trans (hk7.getS rfl rfl))
  have hz36 : M11 a 24 = M a 24 := ((zup_p e12 (by omega) _).trans (hk7.getS rfl rfl))
  have hz37 : M11 a 61 = M a 61 := ((zup_p e12 (by omega) _).trans (hk7.getS rfl rfl))
  have hx38 : zX M25 a mb mp n A0 (v + 1) u z := zY.cgr (Y_cg hx24 (by omega) p3.2.2 (i := 5 * (M a 57)) (x := M a 59) (by omega)) (zup_p e26 (by omega) _) (zup_p e26 (by omega) _) (zup_p e26 (by omega) _) (zup_p e26 (by omega) _) (zup_p e26 (by omega) _) (zup_p e26 (by omega) _) (zup_p e26 (by omega) _) (zup_p e26 (by omega) _) (zup_p e26 (by omega) _) (funext fun j => (zup_p e26 (by omega) _)) (funext fun j => (zup_p e26 (by omega) _)) (funext fun j => (zup_p e26 (by omega) _)) (funext fun j => (zup_p e26 (by omega) _)) (funext fun j => (zup_p e26 (by omega) _)) (funext fun j => (zup_p e26 (by omega) _)) (funext fun j => (zup_p e26 (by omega) _)) (funext fun j => by by_cases q : j = (5 * (M a 57)); (rw [q, yup_s]; have hw : M25 (a + 33) (5 * (M a 57)) = M a 59 := (zup_e e26 (by omega)); have hv : M11 (a + 33) (5 * (M a 57)) = M (a + 33) (5 * (M a 57)) := ((zup_p e12 (by omega) _).trans (hk7.getA rfl rfl rfl)); omega); (rw [yup_n q]; exact (zup_n e26 (by omega)))) (funext fun j => (zup_p e26 (by omega) _)) (funext fun j => (zup_p e26 (by omega) _)) (funext fun j => (zup_p e26 (by omega) _)) (funext fun j => (zup_p e26 (by omega) _)) (funext fun j => (zup_p e26 (by omega) _))
  have hp39 : zAh M25 a (M a 57) A0 0 := zAh.zero e26 (by omega) (by have hw : M11 a 59 = M a 59 := ((zup_p e12 (by omega) _).trans (hk7.getS rfl rfl)); omega)
  refine q_iconst C dX12_calls_41 (n := 42) rfl ?_
  refine q_istore C [.ref (w.2.1 + a), zi v1, zi v2, zi 0, zi 1, zi (M a 59), zi 0, .null, .null] dX12_calls_42 (n := 44) rfl rfl rfl ?_
  have L_56 : ∀ n57 : Nat, ∀ (u40 : Int) (u41 : Int) (u42 : Int) (M44 : zMm) (J45 : zJm), zI G M44 → zMd a [18, 24, 28, 29, 30, 31, 32, 33, 34, 35, 36, 40] [58, 59, 62] [] M M44 → zMd a [24, 33, 40] [58, 59] [] M25 M44 → (-2147483648 ≤ u40 ∧ u40 ≤ 2147483647) → (-2147483648 ≤ u41 ∧ u41 ≤ 2147483647) → (-2147483648 ≤ u42 ∧ u42 ≤ 2147483647) → (0 ≤ u41 ∧ u41 + zMu M44 a n ≤ zMu M a n + 1) → (0 ≤ u40 ∧ u40 + zMu M44 a n ≤ zMu M a n + 1) → (zX M44 a mb mp n A0 0 0 0) → (zAh M44 a (M a 57) A0 u40) → (zMu M44 a n + 1 ≤ (n57 : Int)) → zK w p e 4 0 0 s m args below meth c 9 T Po 44 [.ref (w.2.1 + a), zi v1, zi v2, zi u40, zi u41, zi (M a 59), zi u42, .null, .null] [] (T, M44, J45, R) := by
    intro n57
    induction n57 with
    | zero =>
      intro u40 u41 u42 M44 J45 hI46 hK47 hK48 h49 h50 h51 h52 h53 h54 h55 hm59
      exfalso
      have := zX.mu h54 hI46 h0
      omega
    | succ n57 ih58 =>
      intro u40 u41 u42 M44 J45 hI46 hK47 hK48 h49 h50 h51 h52 h53 h54 h55 hm59
      have gx60 := zX.num h54
      have hz61 : M44 a 62 = M a 62 := ((hK48.getS rfl rfl).trans ((zup_p e26 (by omega) _).trans ((zup_p e12 (by omega) _).trans (hk7.getS rfl rfl))))
      have hz62 : M44 a 57 = M a 57 := ((hK48.getS rfl rfl).trans ((zup_p e26 (by omega) _).trans ((zup_p e12 (by omega) _).trans (hk7.getS rfl rfl))))
      have hz63 : M44 a 60 = M a 60 := ((hK48.getS rfl rfl).trans ((zup_p e26 (by omega) _).trans ((zup_p e12 (by omega) _).trans (hk7.getS rfl rfl))))
      have hz64 : M44 a 26 = M a 26 := ((hK48.getS rfl rfl).trans ((zup_p e26 (by omega) _).trans ((zup_p e12 (by omega) _).trans (hk7.getS rfl rfl))))
      have hz65 : M44 a 25 = M a 25 := ((hK48.getS rfl rfl).trans ((zup_p e26 (by omega) _).trans ((zup_p e12 (by omega) _).trans (hk7.getS rfl rfl))))
      have hz66 : M44 a 24 = M a 24 := ((hK48.getS rfl rfl).trans ((zup_p e26 (by omega) _).trans ((zup_p e12 (by omega) _).trans (hk7.getS rfl rfl))))
      have hz67 : M44 a 61 = M a 61 := ((hK48.getS rfl rfl).trans ((zup_p e26 (by omega) _).trans ((zup_p e12 (by omega) _).trans (hk7.getS rfl rfl))))
      have gmu68 := zX.mu h54 hI46 h0
      refine q_iload C dX12_calls_44 (n := 46) rfl rfl ?_
      refine q_if_le C 185 dX12_calls_46 (n := 49) rfl rfl (by omega) (fun h69 => ?_) (fun h69 => ?_)
      · have gw := zMa.w p3 (m := v2) (by omega) (by omega)
        refine q_aload_n C dX12_calls_185 (n := 186) rfl rfl ?_
        refine q_getR C dX12_calls_186 (n := 189) rfl f_X12_68 (zM0 h0) (hF _ _ _ (zM65 h0)) ?_
        refine q_sipush C dX12_calls_189 (n := 192) rfl (x := 199) (by decide) ?_
        refine q_iload_n C dX12_calls_192 (n := 193) rfl rfl ?_
        refine q_iadd C dX12_calls_193 (n := 194) rfl (v := 199 + v2) rfl ?_
        have g70 := zI.at hI (((zM67 h0) (199 + v2)).trans (zwG_199 (by omega)))
        refine q_iald C dX12_calls_194 (n := 195) rfl (zM66 h0) (by omega) (v := M (a + 18) (199 + v2)) ((hK48.getA rfl rfl rfl).trans ((zup_p e26 (by omega) _).trans ((zup_p e12 (by omega) _).trans (hk7.getA rfl rfl rfl)))) ?_
        refine q_istore C [.ref (w.2.1 + a), zi v1, zi v2, zi u40, zi u41, zi (M a 59), zi u42, zi (M (a + 18) (199 + v2)), .null] dX12_calls_195 (n := 197) rfl rfl rfl ?_
        refine q_iload C dX12_calls_197 (n := 199) rfl rfl ?_
        have J_75 : ∀ (u71 : Int), (-2147483648 ≤ u71 ∧ u71 ≤ 2147483647) → (u71 = 0 ∨ u71 = 1) → (u71 = 0 ∨ (M (a + 18) (199 + v2)) = 0 ∧ u40 = 0 ∨ u40 + 1 = (M (a + 18) (199 + v2))) → zK w p e 4 0 0 s m args below meth c 9 T Po 236 [.ref (w.2.1 + a), zi v1, zi v2, zi u40, .null, .null, zi u42, .null, .null] [zi u71] (T, M44, J45, R) := by
          intro u71 h72 h73 h74
          refine q_istore C [.ref (w.2.1 + a), zi v1, zi v2, zi u40, .null, .null, zi u42, .null, zi u71] dX12_calls_236 (n := 238) rfl rfl rfl ?_
          refine q_iload C dX12_calls_238 (n := 240) rfl rfl ?_
          refine q_if_ne C 250 dX12_calls_240 (n := 243) rfl rfl (by omega) (fun h76 => ?_) (fun h76 => ?_)
          · refine q_iload_n C dX12_calls_250 (n := 251) rfl rfl ?_
            refine q_iconst C dX12_calls_251 (n := 252) rfl ?_
            refine q_icmp_ge C 274 dX12_calls_252 (n := 255) rfl rfl (by omega) (fun h77 => ?_) (fun h77 => ?_)
            · have hp78 : zAg M44 a mp (M a 57) A0 v2 := by exfalso; omega
              refine q_aload_n C dX12_calls_274 (n := 275) rfl rfl ?_
              refine q_iload_n C dX12_calls_275 (n := 276) rfl rfl ?_
              refine q_iload_n C dX12_calls_276 (n := 277) rfl rfl ?_
              refine q_aload_n C dX12_calls_277 (n := 278) rfl rfl ?_
              refine q_getR C dX12_calls_278 (n := 281) rfl f_X12_58 (zM0 h0) (hF _ _ _ (zM49 h0)) ?_
              refine q_iload_n C dX12_calls_281 (n := 282) rfl rfl ?_
              have g79 := zI.at hI ((zM51 h0) v1)
              refine q_iald C dX12_calls_282 (n := 283) rfl (zM50 h0) (by omega) (v := M (a + 15) v1) ((hK48.getA rfl rfl rfl).trans ((zup_p e26 (by omega) _).trans ((zup_p e12 (by omega) _).trans (hk7.getA rfl rfl rfl)))) ?_
              refine q_iload C dX12_calls_283 (n := 285) rfl rfl ?_
              refine q_iand C dX12_calls_285 (n := 286) rfl (v := zand (M (a + 15) v1) u42) rfl ?_
              have g80 := zr_and (M (a + 15) v1) u42
              have gx81 := zX.num h54
              have hz82 : M44 a 62 = M a 62 := ((hK48.getS rfl rfl).trans ((zup_p e26 (by omega) _).trans ((zup_p e12 (by omega) _).trans (hk7.getS rfl rfl))))
              have hz83 : M44 a 57 = M a 57 := ((hK48.getS rfl rfl).trans ((zup_p e26 (by omega) _).trans ((zup_p e12 (by omega) _).trans (hk7.getS rfl rfl))))
              have hz84 : M44 a 60 = M a 60 := ((hK48.getS rfl rfl).trans ((zup_p e26 (by omega) _).trans ((zup_p e12 (by omega) _).trans (hk7.getS rfl rfl))))
              have hz85 : M44 a 26 = M a 26 := ((hK48.getS rfl rfl).trans ((zup_p e26 (by omega) _).trans ((zup_p e12 (by omega) _).trans (hk7.getS rfl rfl))))
              have hz86 : M44 a 25 = M a 25 := ((hK48.getS rfl rfl).trans ((zup_p e26 (by omega) _).trans ((zup_p e12 (by omega) _).trans (hk7.getS rfl rfl))))
              have hz87 : M44 a 24 = M a 24 := ((hK48.getS rfl rfl).trans ((zup_p e26 (by omega) _).trans ((zup_p e12 (by omega) _).trans (hk7.getS rfl rfl))))
              have hz88 : M44 a 61 = M a 61 := ((hK48.getS rfl rfl).trans ((zup_p e26 (by omega) _).trans ((zup_p e12 (by omega) _).trans (hk7.getS rfl rfl))))
              have hp91 : zMa M44 a mb mp := p3.cg (fun j j0 j1 => ((hK48.getA rfl rfl rfl).trans ((zup_p e26 (by omega) _).trans ((zup_p e12 (by omega) _).trans (hk7.getA rfl rfl rfl))))) (fun j => ((hK48.getA rfl rfl rfl).trans ((zup_p e26 (by omega) _).trans ((zup_p e12 (by omega) _).trans (hk7.getA rfl rfl rfl)))))
              refine q_callVi C dX12_calls_286 (n := 289) rfl m_X12_503 v_yX12_begins (zM0 h0) ⟨by decide, rfl⟩ (c_X12_begins (w := w) (J := J45) hI46 hF h0 v1 v2 (zand (M (a + 15) v1) u42) (M a 57) h54 (by have hz89 : M44 a 57 = M a 57 := ((hK48.getS rfl rfl).trans ((zup_p e26 (by omega) _).trans ((zup_p e12 (by omega) _).trans (hk7.getS rfl rfl)))); omega) (by omega) (by have hz90 : M44 (a + 32) (M a 57) = M a 59 := ((hK48.getA rfl rfl rfl).trans ((zup_p e26 (by omega) _).trans ((show _ from by rw [show ((M a 57) : Int) = M a 57 by omega]; exact zup_s e12)))); omega) (by omega) (by omega) (by omega) hp78 hp91) (Nat.le_of_ble_eq_true rfl) rfl rfl (Nat.le_of_ble_eq_true rfl) ⟨Nat.le_refl _, Nat.le_refl _⟩ (fun x101 M97 J98  hI99 h100 => ?_)
              obtain ⟨hk102, h92, h93, h94, h95, h96⟩ := h100
              have hK103 := hK47.tr hk102 rfl rfl rfl
              have hz104 : M44 (a + 18) 3 = M (a + 18) 3 := ((hK48.getA rfl rfl rfl).trans ((zup_p e26 (by omega) _).trans ((zup_p e12 (by omega) _).trans (hk7.getA rfl rfl rfl))))
              exact q_zret C dX12_calls_289 ⟨rfl, rfl⟩ (by omega) (by rw [hPo]; exact ⟨x101, M97, J98, rfl, rfl, hI99, hK103, by omega, h93.imp id (fun h => by rw [show M97 a 59 = M44 a 59 from (hk102.getS rfl rfl)]; exact h), h94.imp id (fun h => by omega), h95, by have hz105 : M97 (a + 18) 3 = M (a + 18) 3 := ((h96).trans ((hK48.getA rfl rfl rfl).trans ((zup_p e26 (by omega) _).trans ((zup_p e12 (by omega) _).trans (hk7.getA rfl rfl rfl))))); omega⟩)
            · refine q_aload_n C dX12_calls_255 (n := 256) rfl rfl ?_
              refine q_getR C dX12_calls_256 (n := 259) rfl f_X12_113 (zM0 h0) (hF _ _ _ (zM112 h0)) ?_
              refine q_iconst C dX12_calls_259 (n := 260) rfl ?_
              refine q_aload_n C dX12_calls_260 (n := 261) rfl rfl ?_
              refine q_getI C dX12_calls_261 (n := 264) rfl f_X12_448 (zM0 h0) (v := M a 57) ((hK48.getS rfl rfl).trans ((zup_p e26 (by omega) _).trans ((zup_p e12 (by omega) _).trans (hk7.getS rfl rfl)))) ?_
              refine q_imul C dX12_calls_264 (n := 265) rfl (v := 5 * (M a 57)) rfl ?_
              refine q_iload_n C dX12_calls_265 (n := 266) rfl rfl ?_
              refine q_iadd C dX12_calls_266 (n := 267) rfl (v := (5 * (M a 57)) + u40) rfl ?_
              refine q_iconst C dX12_calls_267 (n := 268) rfl ?_
              refine q_iadd C dX12_calls_268 (n := 269) rfl (v := ((5 * (M a 57)) + u40) + 1) rfl ?_
              refine q_aload_n C dX12_calls_269 (n := 270) rfl rfl ?_
              have g106 := zI.at hI46 (zM144 h0)
              refine q_getI C dX12_calls_270 (n := 273) rfl f_X12_500 (zM0 h0) (v := M44 a 59) rfl ?_
              refine q_iast C dX12_calls_273 (n := 274) rfl (zM113 h0) (by omega)  (fun M107 e108 => ?_)
              have hI109 : zI G M107 := hI46.put e108 ((zM114 h0) (((5 * (M a 57)) + u40) + 1)) rfl (by omega)
              have hK110 := hK47.upA e108 rfl
              have hK111 := hK48.upA e108 rfl
              have hz112 : M44 a 62 = M a 62 := ((hK48.getS rfl rfl).trans ((zup_p e26 (by omega) _).trans ((zup_p e12 (by omega) _).trans (hk7.getS rfl rfl))))
              have hz113 : M44 a 57 = M a 57 := ((hK48.getS rfl rfl).trans ((zup_p e26 (by omega) _).trans ((zup_p e12 (by omega) _).trans (hk7.getS rfl rfl))))
              have hz114 : M44 a 60 = M a 60 := ((hK48.getS rfl rfl).trans ((zup_p e26 (by omega) _).trans ((zup_p e12 (by omega) _).trans (hk7.getS rfl rfl))))
              have hz115 : M44 a 26 = M a 26 := ((hK48.getS rfl rfl).trans ((zup_p e26 (by omega) _).trans ((zup_p e12 (by omega) _).trans (hk7.getS rfl rfl))))
              have hz116 : M44 a 25 = M a 25 := ((hK48.getS rfl rfl).trans ((zup_p e26 (by omega) _).trans ((zup_p e12 (by omega) _).trans (hk7.getS rfl rfl))))
              have hz117 : M44 a 24 = M a 24 := ((hK48.getS rfl rfl).trans ((zup_p e26 (by omega) _).trans ((zup_p e12 (by omega) _).trans (hk7.getS rfl rfl))))
              have hz118 : M44 a 61 = M a 61 := ((hK48.getS rfl rfl).trans ((zup_p e26 (by omega) _).trans ((zup_p e12 (by omega) _).trans (hk7.getS rfl rfl))))
              have hx119 : zX M107 a mb mp n A0 0 0 0 := zY.cgr (Y_cg h54 (by omega) p3.2.2 (i := ((5 * (M a 57)) + u40) + 1) (x := M44 a 59) (by omega)) (zup_p e108 (by omega) _) (zup_p e108 (by omega) _) (zup_p e108 (by omega) _) (zup_p e108 (by omega) _) (zup_p e108 (by omega) _) (zup_p e108 (by omega) _) (zup_p e108 (by omega) _) (zup_p e108 (by omega) _) (zup_p e108 (by omega) _) (funext fun j => (zup_p e108 (by omega) _)) (funext fun j => (zup_p e108 (by omega) _)) (funext fun j => (zup_p e108 (by omega) _)) (funext fun j => (zup_p e108 (by omega) _)) (funext fun j => (zup_p e108 (by omega) _)) (funext fun j => (zup_p e108 (by omega) _)) (funext fun j => (zup_p e108 (by omega) _)) (funext fun j => by by_cases q : j = (((5 * (M a 57)) + u40) + 1); (rw [q, yup_s]; have hw : M107 (a + 33) (((5 * (M a 57)) + u40) + 1) = M44 a 59 := (zup_e e108 (by omega)); omega); (rw [yup_n q]; exact (zup_n e108 (by omega)))) (funext fun j => (zup_p e108 (by omega) _)) (funext fun j => (zup_p e108 (by omega) _)) (funext fun j => (zup_p e108 (by omega) _)) (funext fun j => (zup_p e108 (by omega) _)) (funext fun j => (zup_p e108 (by omega) _))
              have hp120 : zAg M107 a mp (M a 57) A0 v2 := h55.fin e108 (by have hw : M44 a 59 = M44 a 59 := rfl; omega) (by omega) (by omega) (by omega)
              refine q_aload_n C dX12_calls_274 (n := 275) rfl rfl ?_
              refine q_iload_n C dX12_calls_275 (n := 276) rfl rfl ?_
              refine q_iload_n C dX12_calls_276 (n := 277) rfl rfl ?_
              refine q_aload_n C dX12_calls_277 (n := 278) rfl rfl ?_
              refine q_getR C dX12_calls_278 (n := 281) rfl f_X12_58 (zM0 h0) (hF _ _ _ (zM49 h0)) ?_
              refine q_iload_n C dX12_calls_281 (n := 282) rfl rfl ?_
              have g121 := zI.at hI ((zM51 h0) v1)
              refine q_iald C dX12_calls_282 (n := 283) rfl (zM50 h0) (by omega) (v := M (a + 15) v1) ((zup_p e108 (by omega) _).trans ((hK48.getA rfl rfl rfl).trans ((zup_p e26 (by omega) _).trans ((zup_p e12 (by omega) _).trans (hk7.getA rfl rfl rfl))))) ?_
              refine q_iload C dX12_calls_283 (n := 285) rfl rfl ?_
              refine q_iand C dX12_calls_285 (n := 286) rfl (v := zand (M (a + 15) v1) u42) rfl ?_
              have g122 := zr_and (M (a + 15) v1) u42
              have hm123 : zMu M107 a n = zMu M44 a n := zMu_cg (fun j => (zup_p e108 (by omega) _)) (fun j => (zup_p e108 (by omega) _)) (fun j => (zup_p e108 (by omega) _)) (zup_p e108 (by omega) _) (zup_p e108 (by omega) _) (zup_p e108 (by omega) _)
              have gx124 := zX.num hx119
              have hz125 : M107 a 62 = M a 62 := ((zup_p e108 (by omega) _).trans ((hK48.getS rfl rfl).trans ((zup_p e26 (by omega) _).trans ((zup_p e12 (by omega) _).trans (hk7.getS rfl rfl)))))
              have hz126 : M107 a 57 = M a 57 := ((zup_p e108 (by omega) _).trans ((hK48.getS rfl rfl).trans ((zup_p e26 (by omega) _).trans ((zup_p e12 (by omega) _).trans (hk7.getS rfl rfl)))))
              have hz127 : M107 a 58 = M44 a 58 := (zup_p e108 (by omega) _)
              have hz128 : M107 a 59 = M44 a 59 := (zup_p e108 (by omega) _)
              have hz129 : M107 a 60 = M a 60 := ((zup_p e108 (by omega) _).trans ((hK48.getS rfl rfl).trans ((zup_p e26 (by omega) _).trans ((zup_p e12 (by omega) _).trans (hk7.getS rfl rfl)))))
              have hz130 : M107 a 26 = M a 26 := ((zup_p e108 (by omega) _).trans ((hK48.getS rfl rfl).trans ((zup_p e26 (by omega) _).trans ((zup_p e12 (by omega) _).trans (hk7.getS rfl rfl)))))
              have hz131 : M107 a 25 = M a 25 := ((zup_p e108 (by omega) _).trans ((hK48.getS rfl rfl).trans ((zup_p e26 (by omega) _).trans ((zup_p e12 (by omega) _).trans (hk7.getS rfl rfl)))))
              have hz132 : M107 a 24 = M a 24 := ((zup_p e108 (by omega) _).trans ((hK48.getS rfl rfl).trans ((zup_p e26 (by omega) _).trans ((zup_p e12 (by omega) _).trans (hk7.getS rfl rfl)))))
              have hz133 : M107 a 61 = M a 61 := ((zup_p e108 (by omega) _).trans ((hK48.getS rfl rfl).trans ((zup_p e26 (by omega) _).trans ((zup_p e12 (by omega) _).trans (hk7.getS rfl rfl)))))
              have hp136 : zMa M107 a mb mp := p3.cg (fun j j0 j1 => ((zup_p e108 (by omega) _).trans ((hK48.getA rfl rfl rfl).trans ((zup_p e26 (by omega) _).trans ((zup_p e12 (by omega) _).trans (hk7.getA rfl rfl rfl)))))) (fun j => ((zup_p e108 (by omega) _).trans ((hK48.getA rfl rfl rfl).trans ((zup_p e26 (by omega) _).trans ((zup_p e12 (by omega) _).trans (hk7.getA rfl rfl rfl))))))
              refine q_callVi C dX12_calls_286 (n := 289) rfl m_X12_503 v_yX12_begins (zM0 h0) ⟨by decide, rfl⟩ (c_X12_begins (w := w) (J := J45) hI109 hF h0 v1 v2 (zand (M (a + 15) v1) u42) (M a 57) hx119 (by have hz134 : M107 a 57 = M a 57 := ((zup_p e108 (by omega) _).trans ((hK48.getS rfl rfl).trans ((zup_p e26 (by omega) _).trans ((zup_p e12 (by omega) _).trans (hk7.getS rfl rfl))))); omega) (by omega) (by have hz135 : M107 (a + 32) (M a 57) = M a 59 := ((zup_p e108 (by omega) _).trans ((hK48.getA rfl rfl rfl).trans ((zup_p e26 (by omega) _).trans ((show _ from by rw [show ((M a 57) : Int) = M a 57 by omega]; exact zup_s e12))))); omega) (by omega) (by omega) (by omega) hp120 hp136) (Nat.le_of_ble_eq_true rfl) rfl rfl (Nat.le_of_ble_eq_true rfl) ⟨Nat.le_refl _, Nat.le_refl _⟩ (fun x146 M142 J143  hI144 h145 => ?_)
              obtain ⟨hk147, h137, h138, h139, h140, h141⟩ := h145
              have hK148 := hK110.tr hk147 rfl rfl rfl
              have hz149 : M107 a 59 = M44 a 59 := (zup_p e108 (by omega) _)
              have hz150 : M107 a n = M44 a n := (zup_p e108 (by omega) _)
              have hz151 : M107 (a + 18) 3 = M (a + 18) 3 := ((zup_p e108 (by omega) _).trans ((hK48.getA rfl rfl rfl).trans ((zup_p e26 (by omega) _).trans ((zup_p e12 (by omega) _).trans (hk7.getA rfl rfl rfl)))))
              exact q_zret C dX12_calls_289 ⟨rfl, rfl⟩ (by omega) (by rw [hPo]; exact ⟨x146, M142, J143, rfl, rfl, hI144, hK148, by omega, h138.imp id (fun h => by rw [show M142 a 59 = M107 a 59 from (hk147.getS rfl rfl)]; exact h), h139.imp id (fun h => by omega), h140, by have hz152 : M142 (a + 18) 3 = M (a + 18) 3 := ((h141).trans ((zup_p e108 (by omega) _).trans ((hK48.getA rfl rfl rfl).trans ((zup_p e26 (by omega) _).trans ((zup_p e12 (by omega) _).trans (hk7.getA rfl rfl rfl)))))); omega⟩)
          · refine q_aload_n C dX12_calls_243 (n := 244) rfl rfl ?_
            refine q_iconst C dX12_calls_244 (n := 245) rfl ?_
            refine q_iload_n C dX12_calls_245 (n := 246) rfl rfl ?_
            refine q_callVi C dX12_calls_246 (n := 249) rfl m_X12_376 v_yX12_badAt (zM0 h0) ⟨by decide, rfl⟩ (c_X12_badAt (w := w) (J := J45) hI46 hF h0 4 v1 (by omega) (by omega)) (Nat.le_of_ble_eq_true rfl) rfl rfl (Nat.le_of_ble_eq_true rfl) ⟨Nat.le_refl _, Nat.le_refl _⟩ (fun x159 M155 J156  hI157 h158 => ?_)
            obtain ⟨hk160, h153, h154⟩ := h158
            have hK161 := hK47.tr hk160 rfl rfl rfl
            have hp162 : zMa M155 a mb mp := p3.cg (fun j j0 j1 => ((hk160.getW rfl rfl (by omega)).trans ((hK48.getA rfl rfl rfl).trans ((zup_p e26 (by omega) _).trans ((zup_p e12 (by omega) _).trans (hk7.getA rfl rfl rfl)))))) (fun j => ((hk160.getA rfl rfl rfl).trans ((hK48.getA rfl rfl rfl).trans ((zup_p e26 (by omega) _).trans ((zup_p e12 (by omega) _).trans (hk7.getA rfl rfl rfl))))))
            exact q_zret C dX12_calls_249 ⟨rfl, rfl⟩ (by omega) (by rw [hPo]; exact ⟨x159, M155, J156, rfl, rfl, hI157, hK161, by omega, Or.inl (by omega), Or.inl (by omega), hp162, by have hz163 : M155 (a + 18) 3 = M (a + 18) 3 := ((hk160.getP rfl rfl rfl).trans ((hK48.getA rfl rfl rfl).trans ((zup_p e26 (by omega) _).trans ((zup_p e12 (by omega) _).trans (hk7.getA rfl rfl rfl))))); omega⟩)
        refine q_if_ne C 223 dX12_calls_199 (n := 202) rfl rfl (by omega) (fun h164 => ?_) (fun h164 => ?_)
        · refine q_iload_n C dX12_calls_223 (n := 224) rfl rfl ?_
          refine q_iconst C dX12_calls_224 (n := 225) rfl ?_
          refine q_iadd C dX12_calls_225 (n := 226) rfl (v := u40 + 1) rfl ?_
          refine q_iload C dX12_calls_226 (n := 228) rfl rfl ?_
          refine q_icmp_ne C 235 dX12_calls_228 (n := 231) rfl rfl (by omega) (fun h165 => ?_) (fun h165 => ?_)
          · refine q_iconst C dX12_calls_235 (n := 236) rfl ?_
            exact zK.weak (J_75 0 (by omega) (by omega) (by omega)) (zwk_c (zwk_c (zwk_c (zwk_c (zwk_n (zwk_n (zwk_c (zwk_n (zwk_n zwk_e)))))))))
          · refine q_iconst C dX12_calls_231 (n := 232) rfl ?_
            refine q_goto C 236 dX12_calls_232 rfl ?_
            exact zK.weak (J_75 1 (by omega) (by omega) (by omega)) (zwk_c (zwk_c (zwk_c (zwk_c (zwk_n (zwk_n (zwk_c (zwk_n (zwk_n zwk_e)))))))))
        · refine q_iload_n C dX12_calls_202 (n := 203) rfl rfl ?_
          have J_166 : zK w p e 4 0 0 s m args below meth c 9 T Po 219 [.ref (w.2.1 + a), zi v1, zi v2, zi u40, .null, .null, zi u42, .null, .null] [] (T, M44, J45, R) := by
            refine q_iconst C dX12_calls_219 (n := 220) rfl ?_
            refine q_goto C 236 dX12_calls_220 rfl ?_
            exact zK.weak (J_75 0 (by omega) (by omega) (by omega)) (zwk_c (zwk_c (zwk_c (zwk_c (zwk_n (zwk_n (zwk_c (zwk_n (zwk_n zwk_e)))))))))
          refine q_if_ne C 219 dX12_calls_203 (n := 206) rfl rfl (by omega) (fun h167 => ?_) (fun h167 => ?_)
          · exact zK.weak (J_166) (zwk_c (zwk_c (zwk_c (zwk_c (zwk_n (zwk_n (zwk_c (zwk_n (zwk_n zwk_e)))))))))
          · refine q_aload_n C dX12_calls_206 (n := 207) rfl rfl ?_
            have g168 := zI.at hI46 (zM144 h0)
            refine q_getI C dX12_calls_207 (n := 210) rfl f_X12_500 (zM0 h0) (v := M44 a 59) rfl ?_
            refine q_iload C dX12_calls_210 (n := 212) rfl rfl ?_
            refine q_icmp_ne C 219 dX12_calls_212 (n := 215) rfl rfl (by omega) (fun h169 => ?_) (fun h169 => ?_)
            · exact zK.weak (J_166) (zwk_c (zwk_c (zwk_c (zwk_c (zwk_n (zwk_n (zwk_c (zwk_n (zwk_n zwk_e)))))))))
            · refine q_iconst C dX12_calls_215 (n := 216) rfl ?_
              refine q_goto C 236 dX12_calls_216 rfl ?_
              exact zK.weak (J_75 1 (by omega) (by omega) (by omega)) (zwk_c (zwk_c (zwk_c (zwk_c (zwk_n (zwk_n (zwk_c (zwk_n (zwk_n zwk_e)))))))))
      · refine q_aload_n C dX12_calls_49 (n := 50) rfl rfl ?_
        refine q_callVi C dX12_calls_50 (n := 53) rfl m_X12_484 v_yX12_peek (zM0 h0) ⟨by decide, rfl⟩ (c_X12_peek (w := w) (J := J45) hI46 hF h0 h54 (by have hz170 : M44 a 57 = M a 57 := ((hK48.getS rfl rfl).trans ((zup_p e26 (by omega) _).trans ((zup_p e12 (by omega) _).trans (hk7.getS rfl rfl)))); omega)) (Nat.le_of_ble_eq_true rfl) rfl rfl (Nat.le_of_ble_eq_true rfl) ⟨Nat.le_refl _, Nat.le_refl _⟩ (fun x180 M176 J177  hI178 h179 => ?_)
        obtain ⟨hk181, h171, h172, h173, h174, h175⟩ := h179
        have hK182 := hK47.tr hk181 rfl rfl rfl
        have hK183 := hK48.tr hk181 rfl rfl rfl
        have hz184 : M44 (a + 27) (M a 57) = M (a + 27) (M a 57) := ((hK48.getA rfl rfl rfl).trans ((zup_p e26 (by omega) _).trans ((zup_p e12 (by omega) _).trans (hk7.getA rfl rfl rfl))))
        refine q_istore C [.ref (w.2.1 + a), zi v1, zi v2, zi u40, zi u41, zi (M a 59), zi u42, zi x180, .null] dX12_calls_53 (n := 55) rfl rfl rfl ?_
        refine q_iload C dX12_calls_55 (n := 57) rfl rfl ?_
        refine q_if_ge C 67 dX12_calls_57 (n := 60) rfl rfl (by omega) (fun h185 => ?_) (fun h185 => ?_)
        · have hp186 : zNx M176 a := h174.resolve_left (by omega)
          refine q_aload_n C dX12_calls_67 (n := 68) rfl rfl ?_
          refine q_callVv C dX12_calls_68 (n := 71) rfl m_X12_491 v_yX12_goes (zM0 h0) ⟨by decide, rfl⟩ (c_X12_goes (w := w) (J := J177) hI178 hF h0 h172 (by have hz187 : M176 a 57 = M a 57 := ((hk181.getS rfl rfl).trans ((hK48.getS rfl rfl).trans ((zup_p e26 (by omega) _).trans ((zup_p e12 (by omega) _).trans (hk7.getS rfl rfl))))); omega) hp186) (Nat.le_of_ble_eq_true rfl) rfl rfl (Nat.le_of_ble_eq_true rfl) ⟨Nat.le_refl _, Nat.le_refl _⟩ (fun M190 J191  hI192 h193 => ?_)
          obtain ⟨hk194, h188, h189⟩ := h193
          have hK195 := hK182.tr hk194 rfl rfl rfl
          have hK196 := hK183.tr hk194 rfl rfl rfl
          refine q_aload_n C dX12_calls_71 (n := 72) rfl rfl ?_
          refine q_iload C dX12_calls_72 (n := 74) rfl rfl ?_
          refine q_bipush C dX12_calls_74 (n := 76) rfl (x := 40) (by decide) ?_
          refine q_callVp C dX12_calls_76 (n := 79) rfl m_X12_406 v_yX12_isSign (zM0 h0) ⟨by decide, rfl⟩ (c_X12_isSign (w := w) (J := J191) hI192 hF h0 x180 40 (by omega) (by omega)) (Nat.le_of_ble_eq_true rfl) rfl rfl (Nat.le_of_ble_eq_true rfl) ⟨Nat.le_refl _, Nat.le_refl _⟩ (fun x200 h201 => ?_)
          obtain ⟨h197, h198, h199⟩ := h201
          have hz202 : M190 (a + 9) x180 = M (a + 9) x180 := ((hk194.getA rfl rfl rfl).trans ((hk181.getA rfl rfl rfl).trans ((hK48.getA rfl rfl rfl).trans ((zup_p e26 (by omega) _).trans ((zup_p e12 (by omega) _).trans (hk7.getA rfl rfl rfl))))))
          have hz203 : M190 (a + 11) x180 = M (a + 11) x180 := ((hk194.getA rfl rfl rfl).trans ((hk181.getA rfl rfl rfl).trans ((hK48.getA rfl rfl rfl).trans ((zup_p e26 (by omega) _).trans ((zup_p e12 (by omega) _).trans (hk7.getA rfl rfl rfl))))))
          have J_207 : ∀ (u204 : Int), (-2147483648 ≤ u204 ∧ u204 ≤ 2147483647) → (u41 ≤ u204 ∧ u204 ≤ u41 + 1) → zK w p e 4 0 0 s m args below meth c 9 T Po 85 [.ref (w.2.1 + a), zi v1, zi v2, zi u40, zi u204, zi (M a 59), zi u42, zi x180, .null] [] (T, M190, J191, R) := by
            intro u204 h205 h206
            refine q_aload_n C dX12_calls_85 (n := 86) rfl rfl ?_
            refine q_iload C dX12_calls_86 (n := 88) rfl rfl ?_
            refine q_bipush C dX12_calls_88 (n := 90) rfl (x := 41) (by decide) ?_
            refine q_callVp C dX12_calls_90 (n := 93) rfl m_X12_406 v_yX12_isSign (zM0 h0) ⟨by decide, rfl⟩ (c_X12_isSign (w := w) (J := J191) hI192 hF h0 x180 41 (by omega) (by omega)) (Nat.le_of_ble_eq_true rfl) rfl rfl (Nat.le_of_ble_eq_true rfl) ⟨Nat.le_refl _, Nat.le_refl _⟩ (fun x211 h212 => ?_)
            obtain ⟨h208, h209, h210⟩ := h212
            have hz213 : M190 (a + 9) x180 = M (a + 9) x180 := ((hk194.getA rfl rfl rfl).trans ((hk181.getA rfl rfl rfl).trans ((hK48.getA rfl rfl rfl).trans ((zup_p e26 (by omega) _).trans ((zup_p e12 (by omega) _).trans (hk7.getA rfl rfl rfl))))))
            have hz214 : M190 (a + 11) x180 = M (a + 11) x180 := ((hk194.getA rfl rfl rfl).trans ((hk181.getA rfl rfl rfl).trans ((hK48.getA rfl rfl rfl).trans ((zup_p e26 (by omega) _).trans ((zup_p e12 (by omega) _).trans (hk7.getA rfl rfl rfl))))))
            have J_218 : ∀ (u215 : Int), (-2147483648 ≤ u215 ∧ u215 ≤ 2147483647) → (u204 - 1 ≤ u215 ∧ u215 ≤ u204) → zK w p e 4 0 0 s m args below meth c 9 T Po 99 [.ref (w.2.1 + a), zi v1, zi v2, zi u40, zi u215, zi (M a 59), zi u42, zi x180, .null] [] (T, M190, J191, R) := by
              intro u215 h216 h217
              refine q_iload C dX12_calls_99 (n := 101) rfl rfl ?_
              have J_234 : ∀ (u219 : Int) (u220 : Int) (M222 : zMm) (J223 : zJm), zI G M222 → zMd a [18, 24, 28, 29, 30, 31, 32, 33, 34, 35, 36, 40] [58, 59, 62] [] M M222 → zMd a [24, 33, 40] [58, 59] [] M25 M222 → zMd a [33, 40] [59] [] M190 M222 → (-2147483648 ≤ u219 ∧ u219 ≤ 2147483647) → (-2147483648 ≤ u220 ∧ u220 ≤ 2147483647) → (u40 ≤ u219 ∧ u219 ≤ u40 + 1) → (zX M222 a mb mp n A0 0 0 0) → (zAh M222 a (M a 57) A0 u219) → (zMu M222 a n = zMu M190 a n) → zK w p e 4 0 0 s m args below meth c 9 T Po 182 [.ref (w.2.1 + a), zi v1, zi v2, zi u219, zi u215, zi (M a 59), zi u220, .null, .null] [] (T, M222, J223, R) := by
                intro u219 u220 M222 J223 hI224 hK225 hK226 hK227 h228 h229 h230 h231 h232 h233
                refine q_goto C 44 dX12_calls_182 rfl ?_
                exact zK.weak (ih58 u219 u215 u220 M222 J223 hI224 hK225 hK226 (by omega) (by omega) (by omega) (by omega) (by omega) (zX.drop h231 (by omega) (by omega) (by omega)) h232 (by omega)) (zwk_c (zwk_c (zwk_c (zwk_c (zwk_c (zwk_c (zwk_c (zwk_n (zwk_n zwk_e)))))))))
              refine q_if_ne C 116 dX12_calls_101 (n := 104) rfl rfl (by omega) (fun h235 => ?_) (fun h235 => ?_)
              · refine q_iload C dX12_calls_116 (n := 118) rfl rfl ?_
                refine q_iconst C dX12_calls_118 (n := 119) rfl ?_
                have J_236 : zK w p e 4 0 0 s m args below meth c 9 T Po 161 [.ref (w.2.1 + a), zi v1, zi v2, zi u40, zi u215, zi (M a 59), zi u42, zi x180, .null] [] (T, M190, J191, R) := by
                  have gx237 := zX.num h188
                  have hz238 : M190 a 62 = M a 62 := ((hk194.getS rfl rfl).trans ((hk181.getS rfl rfl).trans ((hK48.getS rfl rfl).trans ((zup_p e26 (by omega) _).trans ((zup_p e12 (by omega) _).trans (hk7.getS rfl rfl))))))
                  have hz239 : M190 a 57 = M a 57 := ((hk194.getS rfl rfl).trans ((hk181.getS rfl rfl).trans ((hK48.getS rfl rfl).trans ((zup_p e26 (by omega) _).trans ((zup_p e12 (by omega) _).trans (hk7.getS rfl rfl))))))
                  have hz240 : M190 a 58 = M176 a 58 := (hk194.getS rfl rfl)
                  have hz241 : M190 a 59 = M44 a 59 := ((hk194.getS rfl rfl).trans (hk181.getS rfl rfl))
                  have hz242 : M190 a 60 = M a 60 := ((hk194.getS rfl rfl).trans ((hk181.getS rfl rfl).trans ((hK48.getS rfl rfl).trans ((zup_p e26 (by omega) _).trans ((zup_p e12 (by omega) _).trans (hk7.getS rfl rfl))))))
                  have hz243 : M190 a 26 = M a 26 := ((hk194.getS rfl rfl).trans ((hk181.getS rfl rfl).trans ((hK48.getS rfl rfl).trans ((zup_p e26 (by omega) _).trans ((zup_p e12 (by omega) _).trans (hk7.getS rfl rfl))))))
                  have hz244 : M190 a 25 = M a 25 := ((hk194.getS rfl rfl).trans ((hk181.getS rfl rfl).trans ((hK48.getS rfl rfl).trans ((zup_p e26 (by omega) _).trans ((zup_p e12 (by omega) _).trans (hk7.getS rfl rfl))))))
                  have hz245 : M190 a 24 = M a 24 := ((hk194.getS rfl rfl).trans ((hk181.getS rfl rfl).trans ((hK48.getS rfl rfl).trans ((zup_p e26 (by omega) _).trans ((zup_p e12 (by omega) _).trans (hk7.getS rfl rfl))))))
                  have hz246 : M190 a 61 = M a 61 := ((hk194.getS rfl rfl).trans ((hk181.getS rfl rfl).trans ((hK48.getS rfl rfl).trans ((zup_p e26 (by omega) _).trans ((zup_p e12 (by omega) _).trans (hk7.getS rfl rfl))))))
                  have gam247 := zX.amb h188 (by omega)
                  refine q_aload_n C dX12_calls_161 (n := 162) rfl rfl ?_
                  refine q_getR C dX12_calls_162 (n := 165) rfl f_X12_135 (zM0 h0) (hF _ _ _ (zM133 h0)) ?_
                  refine q_aload_n C dX12_calls_165 (n := 166) rfl rfl ?_
                  have g248 := zI.at hI46 (zM144 h0)
                  refine q_getI C dX12_calls_166 (n := 169) rfl f_X12_500 (zM0 h0) (v := M44 a 59) ((hk194.getS rfl rfl).trans (hk181.getS rfl rfl)) ?_
                  refine q_iload C dX12_calls_169 (n := 171) rfl rfl ?_
                  refine q_iast C dX12_calls_171 (n := 172) rfl (zM134 h0) (by omega)  (fun M249 e250 => ?_)
                  have hI251 : zI G M249 := hI192.put e250 ((zM135 h0) (M44 a 59)) rfl (by omega)
                  have hK252 := hK195.upA e250 rfl
                  have hK253 := hK196.upA e250 rfl
                  have hK254 := (zMd.rf : zMd a [33, 40] [59] [] M190 M190).upA e250 rfl
                  refine q_aload_n C dX12_calls_172 (n := 173) rfl rfl ?_
                  refine q_dup C dX12_calls_173 (n := 174) rfl rfl ?_
                  refine q_getI C dX12_calls_174 (n := 177) rfl f_X12_500 (zM0 h0) (v := M44 a 59) ((zup_p e250 (by omega) _).trans ((hk194.getS rfl rfl).trans (hk181.getS rfl rfl))) ?_
                  refine q_iconst C dX12_calls_177 (n := 178) rfl ?_
                  refine q_iadd C dX12_calls_178 (n := 179) rfl (v := (M44 a 59) + 1) rfl ?_
                  refine q_putI C dX12_calls_179 (n := 182) rfl f_X12_500 (zM0 h0) ⟨rfl, rfl⟩ (fun M255 (e256 : M255 = zup M249 a 59 ((M44 a 59) + 1)) => ?_)
                  have hp257 : zAh M249 a (M a 57) A0 u40 := h55.cg (fun j => ((zup_p e250 (by omega) _).trans ((hk194.getA rfl rfl rfl).trans (hk181.getA rfl rfl rfl)))) ((zup_p e250 (by omega) _).trans ((hk194.getS rfl rfl).trans (hk181.getS rfl rfl)))
                  have hp258 : zAh M255 a (M a 57) A0 u40 := hp257.am e256 (by have hw : M249 a 59 = M44 a 59 := ((zup_p e250 (by omega) _).trans ((hk194.getS rfl rfl).trans (hk181.getS rfl rfl))); omega)
                  have hI259 : zI G M255 := hI251.put e256 (zM144 h0) rfl (by omega)
                  have hK260 := hK252.upS e256 rfl
                  have hK261 := hK253.upS e256 rfl
                  have hK262 := hK254.upS e256 rfl
                  have hz263 : M190 a 62 = M a 62 := ((hk194.getS rfl rfl).trans ((hk181.getS rfl rfl).trans ((hK48.getS rfl rfl).trans ((zup_p e26 (by omega) _).trans ((zup_p e12 (by omega) _).trans (hk7.getS rfl rfl))))))
                  have hz264 : M190 a 57 = M a 57 := ((hk194.getS rfl rfl).trans ((hk181.getS rfl rfl).trans ((hK48.getS rfl rfl).trans ((zup_p e26 (by omega) _).trans ((zup_p e12 (by omega) _).trans (hk7.getS rfl rfl))))))
                  have hz265 : M190 a 58 = M176 a 58 := (hk194.getS rfl rfl)
                  have hz266 : M190 a 59 = M44 a 59 := ((hk194.getS rfl rfl).trans (hk181.getS rfl rfl))
                  have hz267 : M190 a 60 = M a 60 := ((hk194.getS rfl rfl).trans ((hk181.getS rfl rfl).trans ((hK48.getS rfl rfl).trans ((zup_p e26 (by omega) _).trans ((zup_p e12 (by omega) _).trans (hk7.getS rfl rfl))))))
                  have hz268 : M190 a 26 = M a 26 := ((hk194.getS rfl rfl).trans ((hk181.getS rfl rfl).trans ((hK48.getS rfl rfl).trans ((zup_p e26 (by omega) _).trans ((zup_p e12 (by omega) _).trans (hk7.getS rfl rfl))))))
                  have hz269 : M190 a 25 = M a 25 := ((hk194.getS rfl rfl).trans ((hk181.getS rfl rfl).trans ((hK48.getS rfl rfl).trans ((zup_p e26 (by omega) _).trans ((zup_p e12 (by omega) _).trans (hk7.getS rfl rfl))))))
                  have hz270 : M190 a 24 = M a 24 := ((hk194.getS rfl rfl).trans ((hk181.getS rfl rfl).trans ((hK48.getS rfl rfl).trans ((zup_p e26 (by omega) _).trans ((zup_p e12 (by omega) _).trans (hk7.getS rfl rfl))))))
                  have hz271 : M190 a 61 = M a 61 := ((hk194.getS rfl rfl).trans ((hk181.getS rfl rfl).trans ((hK48.getS rfl rfl).trans ((zup_p e26 (by omega) _).trans ((zup_p e12 (by omega) _).trans (hk7.getS rfl rfl))))))
                  have hx272 : zX M255 a mb mp n A0 ((0 + 1) - 1) 0 0 := zY.cgr (Y_push h188 (by omega) (by omega)) ((zup_n e256 (by omega)).trans (zup_p e250 (by omega) _)) ((zup_n e256 (by omega)).trans (zup_p e250 (by omega) _)) ((zup_n e256 (by omega)).trans (zup_p e250 (by omega) _)) (by have hw : M255 a 59 = (M44 a 59) + 1 := (zup_s e256); omega) ((zup_n e256 (by omega)).trans (zup_p e250 (by omega) _)) ((zup_n e256 (by omega)).trans (zup_p e250 (by omega) _)) ((zup_n e256 (by omega)).trans (zup_p e250 (by omega) _)) ((zup_n e256 (by omega)).trans (zup_p e250 (by omega) _)) ((zup_n e256 (by omega)).trans (zup_p e250 (by omega) _)) (funext fun j => ((zup_p e256 (by omega) _).trans (zup_p e250 (by omega) _))) (funext fun j => ((zup_p e256 (by omega) _).trans (zup_p e250 (by omega) _))) (funext fun j => ((zup_p e256 (by omega) _).trans (zup_p e250 (by omega) _))) (funext fun j => ((zup_p e256 (by omega) _).trans (zup_p e250 (by omega) _))) (funext fun j => ((zup_p e256 (by omega) _).trans (zup_p e250 (by omega) _))) (funext fun j => ((zup_p e256 (by omega) _).trans (zup_p e250 (by omega) _))) (funext fun j => ((zup_p e256 (by omega) _).trans (zup_p e250 (by omega) _))) (funext fun j => ((zup_p e256 (by omega) _).trans (zup_p e250 (by omega) _))) (funext fun j => ((zup_p e256 (by omega) _).trans (zup_p e250 (by omega) _))) (funext fun j => ((zup_p e256 (by omega) _).trans (zup_p e250 (by omega) _))) (funext fun j => ((zup_p e256 (by omega) _).trans (zup_p e250 (by omega) _))) (funext fun j => ((zup_p e256 (by omega) _).trans (zup_p e250 (by omega) _))) (funext fun j => ((zup_p e256 (by omega) _).trans (zup_p e250 (by omega) _)))
                  exact zK.weak (J_234 u40 u42 M255 J191 hI259 hK260 hK261 hK262 (by omega) (by omega) (by omega) (zX.drop hx272 (by omega) (by omega) (by omega)) hp258 (zMu_cg (fun j => ((zup_p e256 (by omega) _).trans (zup_p e250 (by omega) _))) (fun j => ((zup_p e256 (by omega) _).trans (zup_p e250 (by omega) _))) (fun j => ((zup_p e256 (by omega) _).trans (zup_p e250 (by omega) _))) ((zup_n e256 (by omega)).trans (zup_p e250 (by omega) _)) ((zup_n e256 (by omega)).trans (zup_p e250 (by omega) _)) ((zup_n e256 (by omega)).trans (zup_p e250 (by omega) _)))) (zwk_c (zwk_c (zwk_c (zwk_c (zwk_c (zwk_c (zwk_c (zwk_n (zwk_n zwk_e)))))))))
                refine q_icmp_ne C 161 dX12_calls_119 (n := 122) rfl rfl (by omega) (fun h273 => ?_) (fun h273 => ?_)
                · exact zK.weak (J_236) (zwk_c (zwk_c (zwk_c (zwk_c (zwk_c (zwk_c (zwk_c (zwk_c (zwk_n zwk_e)))))))))
                · refine q_aload_n C dX12_calls_122 (n := 123) rfl rfl ?_
                  refine q_iload C dX12_calls_123 (n := 125) rfl rfl ?_
                  refine q_bipush C dX12_calls_125 (n := 127) rfl (x := 44) (by decide) ?_
                  refine q_callVp C dX12_calls_127 (n := 130) rfl m_X12_406 v_yX12_isSign (zM0 h0) ⟨by decide, rfl⟩ (c_X12_isSign (w := w) (J := J191) hI192 hF h0 x180 44 (by omega) (by omega)) (Nat.le_of_ble_eq_true rfl) rfl rfl (Nat.le_of_ble_eq_true rfl) ⟨Nat.le_refl _, Nat.le_refl _⟩ (fun x277 h278 => ?_)
                  obtain ⟨h274, h275, h276⟩ := h278
                  have hz279 : M190 (a + 9) x180 = M (a + 9) x180 := ((hk194.getA rfl rfl rfl).trans ((hk181.getA rfl rfl rfl).trans ((hK48.getA rfl rfl rfl).trans ((zup_p e26 (by omega) _).trans ((zup_p e12 (by omega) _).trans (hk7.getA rfl rfl rfl))))))
                  have hz280 : M190 (a + 11) x180 = M (a + 11) x180 := ((hk194.getA rfl rfl rfl).trans ((hk181.getA rfl rfl rfl).trans ((hK48.getA rfl rfl rfl).trans ((zup_p e26 (by omega) _).trans ((zup_p e12 (by omega) _).trans (hk7.getA rfl rfl rfl))))))
                  refine q_if_eq C 161 dX12_calls_130 (n := 133) rfl rfl (by omega) (fun h281 => ?_) (fun h281 => ?_)
                  · exact zK.weak (J_236) (zwk_c (zwk_c (zwk_c (zwk_c (zwk_c (zwk_c (zwk_c (zwk_c (zwk_n zwk_e)))))))))
                  · refine q_iinc C [.ref (w.2.1 + a), zi v1, zi v2, zi (u40 + 1), zi u215, zi (M a 59), zi u42, zi x180, .null] dX12_calls_133 (n := 136) rfl rfl rfl rfl ?_
                    refine q_iload_n C dX12_calls_136 (n := 137) rfl rfl ?_
                    refine q_iconst C dX12_calls_137 (n := 138) rfl ?_
                    refine q_icmp_ge C 182 dX12_calls_138 (n := 141) rfl rfl (by omega) (fun h282 => ?_) (fun h282 => ?_)
                    · exact zK.weak (J_234 (u40 + 1) u42 M190 J191 hI192 hK195 hK196 (zMd.rf : zMd a [33, 40] [59] [] M190 M190) (by omega) (by omega) (by omega) (zX.drop h188 (by omega) (by omega) (by omega)) (zAh.over (by omega)) rfl) (zwk_c (zwk_c (zwk_c (zwk_c (zwk_c (zwk_c (zwk_c (zwk_n (zwk_n zwk_e)))))))))
                    · refine q_aload_n C dX12_calls_141 (n := 142) rfl rfl ?_
                      refine q_getR C dX12_calls_142 (n := 145) rfl f_X12_113 (zM0 h0) (hF _ _ _ (zM112 h0)) ?_
                      refine q_iconst C dX12_calls_145 (n := 146) rfl ?_
                      refine q_aload_n C dX12_calls_146 (n := 147) rfl rfl ?_
                      refine q_getI C dX12_calls_147 (n := 150) rfl f_X12_448 (zM0 h0) (v := M a 57) ((hk194.getS rfl rfl).trans ((hk181.getS rfl rfl).trans ((hK48.getS rfl rfl).trans ((zup_p e26 (by omega) _).trans ((zup_p e12 (by omega) _).trans (hk7.getS rfl rfl)))))) ?_
                      refine q_imul C dX12_calls_150 (n := 151) rfl (v := 5 * (M a 57)) rfl ?_
                      refine q_iload_n C dX12_calls_151 (n := 152) rfl rfl ?_
                      refine q_iadd C dX12_calls_152 (n := 153) rfl (v := (5 * (M a 57)) + (u40 + 1)) rfl ?_
                      refine q_aload_n C dX12_calls_153 (n := 154) rfl rfl ?_
                      have g283 := zI.at hI46 (zM144 h0)
                      refine q_getI C dX12_calls_154 (n := 157) rfl f_X12_500 (zM0 h0) (v := M44 a 59) ((hk194.getS rfl rfl).trans (hk181.getS rfl rfl)) ?_
                      refine q_iast C dX12_calls_157 (n := 158) rfl (zM113 h0) (by omega)  (fun M284 e285 => ?_)
                      have hp286 : zAh M190 a (M a 57) A0 u40 := h55.cg (fun j => ((hk194.getA rfl rfl rfl).trans (hk181.getA rfl rfl rfl))) ((hk194.getS rfl rfl).trans (hk181.getS rfl rfl))
                      have hI287 : zI G M284 := hI192.put e285 ((zM114 h0) ((5 * (M a 57)) + (u40 + 1))) rfl (by omega)
                      have hK288 := hK195.upA e285 rfl
                      have hK289 := hK196.upA e285 rfl
                      have hK290 := (zMd.rf : zMd a [33, 40] [59] [] M190 M190).upA e285 rfl
                      have hz291 : M190 a 62 = M a 62 := ((hk194.getS rfl rfl).trans ((hk181.getS rfl rfl).trans ((hK48.getS rfl rfl).trans ((zup_p e26 (by omega) _).trans ((zup_p e12 (by omega) _).trans (hk7.getS rfl rfl))))))
                      have hz292 : M190 a 57 = M a 57 := ((hk194.getS rfl rfl).trans ((hk181.getS rfl rfl).trans ((hK48.getS rfl rfl).trans ((zup_p e26 (by omega) _).trans ((zup_p e12 (by omega) _).trans (hk7.getS rfl rfl))))))
                      have hz293 : M190 a 58 = M176 a 58 := (hk194.getS rfl rfl)
                      have hz294 : M190 a 59 = M44 a 59 := ((hk194.getS rfl rfl).trans (hk181.getS rfl rfl))
                      have hz295 : M190 a 60 = M a 60 := ((hk194.getS rfl rfl).trans ((hk181.getS rfl rfl).trans ((hK48.getS rfl rfl).trans ((zup_p e26 (by omega) _).trans ((zup_p e12 (by omega) _).trans (hk7.getS rfl rfl))))))
                      have hz296 : M190 a 26 = M a 26 := ((hk194.getS rfl rfl).trans ((hk181.getS rfl rfl).trans ((hK48.getS rfl rfl).trans ((zup_p e26 (by omega) _).trans ((zup_p e12 (by omega) _).trans (hk7.getS rfl rfl))))))
                      have hz297 : M190 a 25 = M a 25 := ((hk194.getS rfl rfl).trans ((hk181.getS rfl rfl).trans ((hK48.getS rfl rfl).trans ((zup_p e26 (by omega) _).trans ((zup_p e12 (by omega) _).trans (hk7.getS rfl rfl))))))
                      have hz298 : M190 a 24 = M a 24 := ((hk194.getS rfl rfl).trans ((hk181.getS rfl rfl).trans ((hK48.getS rfl rfl).trans ((zup_p e26 (by omega) _).trans ((zup_p e12 (by omega) _).trans (hk7.getS rfl rfl))))))
                      have hz299 : M190 a 61 = M a 61 := ((hk194.getS rfl rfl).trans ((hk181.getS rfl rfl).trans ((hK48.getS rfl rfl).trans ((zup_p e26 (by omega) _).trans ((zup_p e12 (by omega) _).trans (hk7.getS rfl rfl))))))
                      have hx300 : zX M284 a mb mp n A0 (0 + 1) 0 0 := zY.cgr (Y_cg h188 (by omega) p3.2.2 (i := (5 * (M a 57)) + (u40 + 1)) (x := M44 a 59) (by omega)) (zup_p e285 (by omega) _) (zup_p e285 (by omega) _) (zup_p e285 (by omega) _) (zup_p e285 (by omega) _) (zup_p e285 (by omega) _) (zup_p e285 (by omega) _) (zup_p e285 (by omega) _) (zup_p e285 (by omega) _) (zup_p e285 (by omega) _) (funext fun j => (zup_p e285 (by omega) _)) (funext fun j => (zup_p e285 (by omega) _)) (funext fun j => (zup_p e285 (by omega) _)) (funext fun j => (zup_p e285 (by omega) _)) (funext fun j => (zup_p e285 (by omega) _)) (funext fun j => (zup_p e285 (by omega) _)) (funext fun j => (zup_p e285 (by omega) _)) (funext fun j => by by_cases q : j = ((5 * (M a 57)) + (u40 + 1)); (rw [q, yup_s]; have hw : M284 (a + 33) ((5 * (M a 57)) + (u40 + 1)) = M44 a 59 := (zup_e e285 (by omega)); have hv : M190 (a + 33) ((5 * (M a 57)) + (u40 + 1)) = M44 (a + 33) ((5 * (M a 57)) + (u40 + 1)) := ((hk194.getA rfl rfl rfl).trans (hk181.getA rfl rfl rfl)); omega); (rw [yup_n q]; exact (zup_n e285 (by omega)))) (funext fun j => (zup_p e285 (by omega) _)) (funext fun j => (zup_p e285 (by omega) _)) (funext fun j => (zup_p e285 (by omega) _)) (funext fun j => (zup_p e285 (by omega) _)) (funext fun j => (zup_p e285 (by omega) _))
                      have hp301 : zAh M284 a (M a 57) A0 (u40 + 1) := hp286.comma e285 (by have hw : M190 a 59 = M44 a 59 := ((hk194.getS rfl rfl).trans (hk181.getS rfl rfl)); omega) (by omega) (by omega)
                      refine q_goto C 182 dX12_calls_158 rfl ?_
                      exact zK.weak (J_234 (u40 + 1) u42 M284 J191 hI287 hK288 hK289 hK290 (by omega) (by omega) (by omega) (zX.drop hx300 (by omega) (by omega) (by omega)) hp301 (zMu_cg (fun j => (zup_p e285 (by omega) _)) (fun j => (zup_p e285 (by omega) _)) (fun j => (zup_p e285 (by omega) _)) (zup_p e285 (by omega) _) (zup_p e285 (by omega) _) (zup_p e285 (by omega) _))) (zwk_c (zwk_c (zwk_c (zwk_c (zwk_c (zwk_c (zwk_c (zwk_n (zwk_n zwk_e)))))))))
              · refine q_aload_n C dX12_calls_104 (n := 105) rfl rfl ?_
                refine q_getR C dX12_calls_105 (n := 108) rfl f_X12_58 (zM0 h0) (hF _ _ _ (zM49 h0)) ?_
                refine q_iload C dX12_calls_108 (n := 110) rfl rfl ?_
                have g302 := zI.at hI ((zM51 h0) x180)
                refine q_iald C dX12_calls_110 (n := 111) rfl (zM50 h0) (by omega) (v := M (a + 15) x180) ((hk194.getA rfl rfl rfl).trans ((hk181.getA rfl rfl rfl).trans ((hK48.getA rfl rfl rfl).trans ((zup_p e26 (by omega) _).trans ((zup_p e12 (by omega) _).trans (hk7.getA rfl rfl rfl)))))) ?_
                refine q_istore C [.ref (w.2.1 + a), zi v1, zi v2, zi u40, zi u215, zi (M a 59), zi (M (a + 15) x180), zi x180, .null] dX12_calls_111 (n := 113) rfl rfl rfl ?_
                refine q_goto C 182 dX12_calls_113 rfl ?_
                have hp303 : zAh M190 a (M a 57) A0 u40 := h55.cg (fun j => ((hk194.getA rfl rfl rfl).trans (hk181.getA rfl rfl rfl))) ((hk194.getS rfl rfl).trans (hk181.getS rfl rfl))
                exact zK.weak (J_234 u40 (M (a + 15) x180) M190 J191 hI192 hK195 hK196 (zMd.rf : zMd a [33, 40] [59] [] M190 M190) (by omega) (by omega) (by omega) (zX.drop h188 (by omega) (by omega) (by omega)) hp303 rfl) (zwk_c (zwk_c (zwk_c (zwk_c (zwk_c (zwk_c (zwk_c (zwk_n (zwk_n zwk_e)))))))))
            refine q_if_eq C 99 dX12_calls_93 (n := 96) rfl rfl (by omega) (fun h304 => ?_) (fun h304 => ?_)
            · exact zK.weak (J_218 u204 (by omega) (by omega)) (zwk_c (zwk_c (zwk_c (zwk_c (zwk_c (zwk_c (zwk_c (zwk_c (zwk_n zwk_e)))))))))
            · refine q_iinc C [.ref (w.2.1 + a), zi v1, zi v2, zi u40, zi (u204 + (-1)), zi (M a 59), zi u42, zi x180, .null] dX12_calls_96 (n := 99) rfl rfl rfl rfl ?_
              exact zK.weak (J_218 (u204 + (-1)) (by omega) (by omega)) (zwk_c (zwk_c (zwk_c (zwk_c (zwk_c (zwk_c (zwk_c (zwk_c (zwk_n zwk_e)))))))))
          refine q_if_eq C 85 dX12_calls_79 (n := 82) rfl rfl (by omega) (fun h305 => ?_) (fun h305 => ?_)
          · exact zK.weak (J_207 u41 (by omega) (by omega)) (zwk_c (zwk_c (zwk_c (zwk_c (zwk_c (zwk_c (zwk_c (zwk_c (zwk_n zwk_e)))))))))
          · refine q_iinc C [.ref (w.2.1 + a), zi v1, zi v2, zi u40, zi (u41 + 1), zi (M a 59), zi u42, zi x180, .null] dX12_calls_82 (n := 85) rfl rfl rfl rfl ?_
            exact zK.weak (J_207 (u41 + 1) (by omega) (by omega)) (zwk_c (zwk_c (zwk_c (zwk_c (zwk_c (zwk_c (zwk_c (zwk_c (zwk_n zwk_e)))))))))
        · refine q_aload_n C dX12_calls_60 (n := 61) rfl rfl ?_
          refine q_iconst C dX12_calls_61 (n := 62) rfl ?_
          refine q_iload_n C dX12_calls_62 (n := 63) rfl rfl ?_
          refine q_callVi C dX12_calls_63 (n := 66) rfl m_X12_376 v_yX12_badAt (zM0 h0) ⟨by decide, rfl⟩ (c_X12_badAt (w := w) (J := J177) hI178 hF h0 3 v1 (by omega) (by omega)) (Nat.le_of_ble_eq_true rfl) rfl rfl (Nat.le_of_ble_eq_true rfl) ⟨Nat.le_refl _, Nat.le_refl _⟩ (fun x312 M308 J309  hI310 h311 => ?_)
          obtain ⟨hk313, h306, h307⟩ := h311
          have hK314 := hK182.tr hk313 rfl rfl rfl
          have hp315 : zMa M308 a mb mp := p3.cg (fun j j0 j1 => ((hk313.getW rfl rfl (by omega)).trans ((hk181.getA rfl rfl rfl).trans ((hK48.getA rfl rfl rfl).trans ((zup_p e26 (by omega) _).trans ((zup_p e12 (by omega) _).trans (hk7.getA rfl rfl rfl))))))) (fun j => ((hk313.getA rfl rfl rfl).trans ((hk181.getA rfl rfl rfl).trans ((hK48.getA rfl rfl rfl).trans ((zup_p e26 (by omega) _).trans ((zup_p e12 (by omega) _).trans (hk7.getA rfl rfl rfl)))))))
          exact q_zret C dX12_calls_66 ⟨rfl, rfl⟩ (by omega) (by rw [hPo]; exact ⟨x312, M308, J309, rfl, rfl, hI310, hK314, by omega, Or.inl (by omega), Or.inl (by omega), hp315, by have hz316 : M308 (a + 18) 3 = M (a + 18) 3 := ((hk313.getP rfl rfl rfl).trans ((hk181.getA rfl rfl rfl).trans ((hK48.getA rfl rfl rfl).trans ((zup_p e26 (by omega) _).trans ((zup_p e12 (by omega) _).trans (hk7.getA rfl rfl rfl)))))); omega⟩)
  have hm317 : zMu M25 a n = zMu M3 a n := zMu_cg (fun j => ((zup_p e26 (by omega) _).trans (zup_p e12 (by omega) _))) (fun j => ((zup_p e26 (by omega) _).trans (zup_p e12 (by omega) _))) (fun j => ((zup_p e26 (by omega) _).trans (zup_p e12 (by omega) _))) ((zup_p e26 (by omega) _).trans (zup_p e12 (by omega) _)) ((zup_p e26 (by omega) _).trans (zup_p e12 (by omega) _)) ((zup_p e26 (by omega) _).trans (zup_p e12 (by omega) _))
  exact zK.weak (L_56 _ 0 1 0 M25 J4 hI27 hK28 (zMd.rf : zMd a [24, 33, 40] [58, 59] [] M25 M25) (by omega) (by omega) (by omega) (by have hz318 : M25 a n = M3 a n := ((zup_p e26 (by omega) _).trans (zup_p e12 (by omega) _)); omega) (by have hz319 : M25 a n = M3 a n := ((zup_p e26 (by omega) _).trans (zup_p e12 (by omega) _)); omega) (zX.drop hx38 (by omega) (by omega) (by omega)) hp39 (Int.self_le_toNat _)) (zwk_c (zwk_c (zwk_c (zwk_c (zwk_c (zwk_c (zwk_c (zwk_n (zwk_n zwk_e)))))))))
