section YY4
variable {mb mp at_ en sa fb cm cb ca cg cp ct cl pa ps : Int → Int} {E fr st am pc tp md po ls n A0 v u z : Int}
theorem Y_pcs (h : zY mb mp E fr st am pc tp md po ls at_ en sa fb cm cb ca cg cp ct cl pa ps n A0 v u z) (h0 : 0 < n) (hc : cp (n - 1) < pc) : (∀ i, cp (n - 1) ≤ i → i < pc → ct (n - 1) ≤ pa i ∧ 0 ≤ ps i ∧ pa i + ps i ≤ tp) ∧ tp ≤ ct (n - 1) + 100 ∧ pc ≤ cp (n - 1) + 20 ∧ 3500 ≤ ct (n - 1) ∧ 0 ≤ cp (n - 1) := by
  obtain ⟨⟨a1, a2, a3, a4, a5, a6, a7, a8, a9⟩, ⟨b1, b2, b3, b4, b5, b6, b7, b8, b9, b10, b11⟩, hF, hT, hL, hP, hC, hD, hZ, ⟨hK, hS⟩, ⟨hO0, hO⟩, hB, ⟨hG1, hG2⟩⟩ := h
  obtain ⟨q1, q2, ⟨⟨r1, r2, r3, r4, r5, r6, r7⟩, r8, r9⟩, q4⟩ := hP h0
  obtain ⟨s1, s2, s3, s4, s5, s6⟩ := r9 hc
  have q5 := q1.2.2.1
  have q6 := (hB (cm (n - 1))).2
  have up : ∀ (k : Nat), cp (n - 1) + k < pc → ct (n - 1) ≤ pa (cp (n - 1) + k) := fun k => by
    induction k with
    | zero => intro _; rw [show cp (n - 1) + ((0 : Nat) : Int) = cp (n - 1) by omega]; exact s1
    | succ k ih =>
      intro hk
      have i1 := ih (by omega)
      have i2 := hK (cp (n - 1) + k) (by omega) (by omega)
      have i3 := hS (cp (n - 1) + k) (by omega) (by omega)
      rw [show cp (n - 1) + ((k + 1 : Nat) : Int) = cp (n - 1) + k + 1 by omega]
      omega
  have dn : ∀ (k : Nat), cp (n - 1) ≤ pc - 1 - k → pa (pc - 1 - k) + ps (pc - 1 - k) ≤ tp := fun k => by
    induction k with
    | zero => intro _; rw [show pc - 1 - ((0 : Nat) : Int) = pc - 1 by omega]; exact s2
    | succ k ih =>
      intro hk
      have i1 := ih (by omega)
      have i2 := hK (pc - 1 - (k + 1 : Nat)) (by omega) (by omega)
      rw [show pc - 1 - ((k + 1 : Nat) : Int) + 1 = pc - 1 - k by omega] at i2
      have i3 := hS (pc - 1 - k) (by omega) (by omega)
      omega
  refine ⟨fun i i0 i1 => ?_, by omega, by omega, r5, r3⟩
  have u1 := up (i - cp (n - 1)).toNat (by omega)
  have u2 := dn (pc - 1 - i).toNat (by omega)
  rw [show cp (n - 1) + ((i - cp (n - 1)).toNat : Int) = i by omega] at u1
  rw [show pc - 1 - ((pc - 1 - i).toNat : Int) = i by omega] at u2
  exact ⟨u1, hS i (by omega) i1, u2⟩
theorem Y_clz (h : zY mb mp E fr st am pc tp md po ls at_ en sa fb cm cb ca cg cp ct cl pa ps n A0 v u z) (hn : n = fr + 1) : 0 ≤ cl fr ∧ cl fr + z ≤ 68800 ∧ 0 ≤ cb fr ∧ cb fr ≤ 20 ∧ cb fr ≤ mb (cm fr) ∧ 0 ≤ cm fr := by
  obtain ⟨⟨a1, a2, a3, a4, a5, a6, a7, a8, a9⟩, ⟨b1, b2, b3, b4, b5, b6, b7, b8, b9, b10, b11⟩, hF, hT, hL, hP, hC, hD, hZ, ⟨hK, hS⟩, ⟨hO0, hO⟩, hB, ⟨hG1, hG2⟩⟩ := h
  subst hn
  obtain ⟨d1, d2⟩ := hD rfl
  obtain ⟨q1, q2, q3, q4⟩ := hP (by omega)
  rw [show fr + 1 - 1 = fr by omega] at q1 q3
  have q5 := q1.2.2.1
  have q6 := (hB (cm fr)).2
  have q7 := q3.1
  have q8 := q1.2.1
  have q9 := q1.1
  omega
theorem Y_clv (h : zY mb mp E fr st am pc tp md po ls at_ en sa fb cm cb ca cg cp ct cl pa ps n A0 v u z) (hn : n = fr) (h0 : 0 < fr) : 0 ≤ cl (fr - 1) ∧ cl (fr - 1) ≤ 80000 ∧ 1 ≤ cb (fr - 1) ∧ cb (fr - 1) ≤ 20 ∧ 0 ≤ cm (fr - 1) := by
  have hN := yN h
  have hf := yfl h (g := fr) (r := fr) h.1.2.2.2.1 (Int.le_refl _) (Int.le_refl _)
  obtain ⟨⟨a1, a2, a3, a4, a5, a6, a7, a8, a9⟩, ⟨b1, b2, b3, b4, b5, b6, b7, b8, b9, b10, b11⟩, hF, hT, hL, hP, hC, hD, hZ, ⟨hK, hS⟩, ⟨hO0, hO⟩, hB, ⟨hG1, hG2⟩⟩ := h
  subst hn
  obtain ⟨c1, c2⟩ := hC rfl
  obtain ⟨q1, q2, q3, q4⟩ := hP h0
  have q5 := q1.2.2.1
  have q6 := (hB (cm (n - 1))).2
  have q7 := q3.1
  have p2 := yP_p (ls := ls) (g := n) (cb := cb) (cl := cl) (by omega)
  have hrm : yR at_ en (fb n) ≤ yR at_ en st := yR_mo (fun j j0 j1 => (hT j j0 j1).1) ⟨hf.1, b4⟩
  have q8 := (hF n (by omega) (Int.le_refl _)).2.2
  have q9 := q1.1
  omega
end YY4
theorem zX.pcs {M : zMm} {a : Nat} {mb mp : Int → Int} {n A0 v u z : Int} (h : zX M a mb mp n A0 v u z) {g : Int} (hg : n - 1 = g) (g0 : 0 ≤ g) (hc : M (a + 34) g < M a 60) : (∀ i, M (a + 34) g ≤ i → i < M a 60 → M (a + 35) g ≤ M (a + 37) i ∧ 0 ≤ M (a + 38) i ∧ M (a + 37) i + M (a + 38) i ≤ M a 26) ∧ M a 26 ≤ M (a + 35) g + 100 ∧ M a 60 ≤ M (a + 34) g + 20 ∧ 3500 ≤ M (a + 35) g ∧ 0 ≤ M (a + 34) g := by
  subst hg
  exact Y_pcs h (by omega) hc
theorem zX.clz {M : zMm} {a : Nat} {mb mp : Int → Int} {n A0 v u z : Int} (h : zX M a mb mp n A0 v u z) {f : Int} (hf : M a 57 = f) (hn : n = f + 1) : 0 ≤ M (a + 36) f ∧ M (a + 36) f + z ≤ 68800 ∧ 0 ≤ M (a + 31) f ∧ M (a + 31) f ≤ 20 ∧ M (a + 31) f ≤ mb (M (a + 28) f) ∧ 0 ≤ M (a + 28) f := by
  subst hf
  exact Y_clz h hn
theorem zX.clv {M : zMm} {a : Nat} {mb mp : Int → Int} {n A0 v u z : Int} (h : zX M a mb mp n A0 v u z) {f : Int} (hf : M a 57 = f + 1) (hn : n = f + 1) (h0 : 0 ≤ f) : 0 ≤ M (a + 36) f ∧ M (a + 36) f ≤ 80000 ∧ 1 ≤ M (a + 31) f ∧ M (a + 31) f ≤ 20 ∧ 0 ≤ M (a + 28) f := by
  have := Y_clv h (by omega) (by omega)
  rw [show M a 57 - 1 = f by omega] at this
  exact this
theorem zX.fb {M : zMm} {a : Nat} {mb mp : Int → Int} {n A0 v u z : Int} (h : zX M a mb mp n A0 v u z) {f : Int} (hf : M a 57 = f) : 0 ≤ M (a + 27) f ∧ M (a + 27) f ≤ M a 58 := by
  subst hf
  exact ⟨(yfl h (g := M a 57) (r := M a 57) h.1.2.2.2.1 (Int.le_refl _) (Int.le_refl _)).1, h.2.1.2.2.2.1⟩
theorem zX.st {M : zMm} {a : Nat} {mb mp : Int → Int} {n A0 v u z : Int} (h : zX M a mb mp n A0 v u z) {s : Int} (s0 : 0 ≤ s) (s1 : s < M a 58) : M (a + 24) s ≤ M (a + 25) s ∧ (M (a + 26) s = 0 → M (a + 25) s ≤ M a 25) := h.2.2.2.1 s s0 s1
def zNx (M : zMm) (a : Nat) : Prop := M (a + 27) (M a 57) < M a 58 ∧ M (a + 24) (M a 58 - 1) < M (a + 25) (M a 58 - 1)
theorem zNx.cg {M M2 : zMm} {a : Nat} (h : zNx M a) (e24 : ∀ j, M2 (a + 24) j = M (a + 24) j) (e25 : ∀ j, M2 (a + 25) j = M (a + 25) j) (e27 : ∀ j, M2 (a + 27) j = M (a + 27) j) (e57 : M2 a 57 = M a 57) (e58 : M2 a 58 = M a 58) : zNx M2 a := by
  unfold zNx
  rw [e24, e25, e27, e57, e58]
  exact h
def zMu (M : zMm) (a : Nat) (n : Int) : Int := 100000 * (100 - M a 62) + yR (M (a + 24)) (M (a + 25)) (M a 58) + 3450 * (21 * n - zSum (M (a + 31)) 0 n.toNat) + M a 57
theorem zMu_cg {M M2 : zMm} {a : Nat} {n : Int} (e24 : ∀ j, M2 (a + 24) j = M (a + 24) j) (e25 : ∀ j, M2 (a + 25) j = M (a + 25) j) (e31 : ∀ j, M2 (a + 31) j = M (a + 31) j) (e57 : M2 a 57 = M a 57) (e58 : M2 a 58 = M a 58) (e62 : M2 a 62 = M a 62) : zMu M2 a n = zMu M a n := by
  unfold zMu
  rw [funext e24, funext e25, funext e31, e57, e58, e62]
theorem zX.pcl {M : zMm} {a : Nat} {mb mp : Int → Int} {n A0 v u z : Int} (h : zX M a mb mp n A0 v u z) {f : Int} (hf : M a 57 = f + 1) (hn : n = f + 1) (h0 : 0 ≤ f) : M (a + 34) f < M a 60 := by
  have := h.2.2.2.2.2.2.2.2.2.2.2.2.2 (by omega) (by omega)
  rw [show n - 1 = f by omega] at this
  exact this
theorem zX.lst {M : zMm} {a : Nat} {mb mp : Int → Int} {n A0 v u z : Int} (h : zX M a mb mp n A0 v u z) (hn : n = 0) (hf : M a 57 = 0) : M a 61 + v ≤ 3440 := by
  have hN := yN h
  have hfb := yfl h (g := M a 57) (r := M a 57) h.1.2.2.2.1 (Int.le_refl _) (Int.le_refl _)
  have hc := (h.2.2.2.2.2.2.1 (by omega)).2
  have hrm : yR (M (a + 24)) (M (a + 25)) (M (a + 27) (M a 57)) ≤ yR (M (a + 24)) (M (a + 25)) (M a 58) := yR_mo (fun j j0 j1 => (h.2.2.2.1 j j0 j1).1) ⟨hfb.1, h.2.1.2.2.2.1⟩
  rw [hf, yP_0] at hc
  rw [hf] at hrm
  have h7 := h.2.1.2.2.2.2.2.2.1
  omega

theorem c_X12_argBegin {w : zWp} {T : zTl} {M : zMm} {J : zJm} {R : zRm'} {G : zGt} {F : zRm'} {a : Nat} (hI : zI G M) (hF : zF F R) (h0 : zModel T F G a) (v1 : Int) (f : Int) (p1 : M a 57 = f) (p2 : 0 ≤ f ∧ f ≤ 100) (p3 : 0 ≤ v1 ∧ v1 ≤ 3) : zCt w 1 0 0 yX12_argBegin cX12_argBegin 2 (some .int) [.ref (w.2.1 + a), zi v1] (T, M, J, R) (zPp T M J R (fun x => (x = M (a + 33) (5 * f + v1)) ∧ (0 ≤ x ∧ x ≤ 194000))) := by
  refine zCt.of rfl (Nat.le_of_ble_eq_true rfl) ?_
  intro p e s m args below meth c C
  obtain ⟨Po, hPo⟩ : ∃ Po, Po = zPp T M J R (fun x => (x = M (a + 33) (5 * f + v1)) ∧ (0 ≤ x ∧ x ≤ 194000)) := ⟨_, rfl⟩
  rw [← hPo]
  subst p1
  show zK w p e 1 0 0 s m args below meth c 2 T Po 0 [.ref (w.2.1 + a), zi v1] [] (T, M, J, R)
  refine q_aload_n C dX12_argBegin_0 (n := 1) rfl rfl ?_
  refine q_getR C dX12_argBegin_1 (n := 4) rfl f_X12_113 (zM0 h0) (hF _ _ _ (zM112 h0)) ?_
  refine q_iconst C dX12_argBegin_4 (n := 5) rfl ?_
  refine q_aload_n C dX12_argBegin_5 (n := 6) rfl rfl ?_
  have g1 := zI.at hI (zM142 h0)
  refine q_getI C dX12_argBegin_6 (n := 9) rfl f_X12_448 (zM0 h0) (v := M a 57) rfl ?_
  refine q_imul C dX12_argBegin_9 (n := 10) rfl (v := 5 * (M a 57)) rfl ?_
  refine q_iload_n C dX12_argBegin_10 (n := 11) rfl rfl ?_
  refine q_iadd C dX12_argBegin_11 (n := 12) rfl (v := (5 * (M a 57)) + v1) rfl ?_
  have g2 := zI.at hI ((zM114 h0) ((5 * (M a 57)) + v1))
  refine q_iald C dX12_argBegin_12 (n := 13) rfl (zM113 h0) (by omega) (v := M (a + 33) ((5 * (M a 57)) + v1)) rfl ?_
  exact q_iret C dX12_argBegin_13 ⟨rfl, rfl⟩ (by rw [hPo]; exact ⟨M (a + 33) ((5 * (M a 57)) + v1), rfl, rfl, by omega, by omega⟩)
theorem c_X12_argEnd {w : zWp} {T : zTl} {M : zMm} {J : zJm} {R : zRm'} {G : zGt} {F : zRm'} {a : Nat} (hI : zI G M) (hF : zF F R) (h0 : zModel T F G a) (v1 : Int) (f : Int) (p1 : M a 57 = f) (p2 : 0 ≤ f ∧ f ≤ 100) (p3 : 0 ≤ v1 ∧ v1 ≤ 3) : zCt w 1 0 0 yX12_argEnd cX12_argEnd 2 (some .int) [.ref (w.2.1 + a), zi v1] (T, M, J, R) (zPp T M J R (fun x => (x = M (a + 33) (5 * f + v1 + 1)) ∧ (0 ≤ x ∧ x ≤ 194000))) := by
  refine zCt.of rfl (Nat.le_of_ble_eq_true rfl) ?_
  intro p e s m args below meth c C
  obtain ⟨Po, hPo⟩ : ∃ Po, Po = zPp T M J R (fun x => (x = M (a + 33) (5 * f + v1 + 1)) ∧ (0 ≤ x ∧ x ≤ 194000)) := ⟨_, rfl⟩
  rw [← hPo]
  subst p1
  show zK w p e 1 0 0 s m args below meth c 2 T Po 0 [.ref (w.2.1 + a), zi v1] [] (T, M, J, R)
  refine q_aload_n C dX12_argEnd_0 (n := 1) rfl rfl ?_
  refine q_getR C dX12_argEnd_1 (n := 4) rfl f_X12_113 (zM0 h0) (hF _ _ _ (zM112 h0)) ?_
  refine q_iconst C dX12_argEnd_4 (n := 5) rfl ?_
  refine q_aload_n C dX12_argEnd_5 (n := 6) rfl rfl ?_
  have g1 := zI.at hI (zM142 h0)
  refine q_getI C dX12_argEnd_6 (n := 9) rfl f_X12_448 (zM0 h0) (v := M a 57) rfl ?_
  refine q_imul C dX12_argEnd_9 (n := 10) rfl (v := 5 * (M a 57)) rfl ?_
  refine q_iload_n C dX12_argEnd_10 (n := 11) rfl rfl ?_
  refine q_iadd C dX12_argEnd_11 (n := 12) rfl (v := (5 * (M a 57)) + v1) rfl ?_
  refine q_iconst C dX12_argEnd_12 (n := 13) rfl ?_
  refine q_iadd C dX12_argEnd_13 (n := 14) rfl (v := ((5 * (M a 57)) + v1) + 1) rfl ?_
  have g2 := zI.at hI ((zM114 h0) (((5 * (M a 57)) + v1) + 1))
  refine q_iald C dX12_argEnd_14 (n := 15) rfl (zM113 h0) (by omega) (v := M (a + 33) (((5 * (M a 57)) + v1) + 1)) rfl ?_
  exact q_iret C dX12_argEnd_15 ⟨rfl, rfl⟩ (by rw [hPo]; exact ⟨M (a + 33) (((5 * (M a 57)) + v1) + 1), rfl, rfl, by omega, by omega⟩)
