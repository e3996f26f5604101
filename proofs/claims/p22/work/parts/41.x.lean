theorem zY.cgr {mb mp at_ en sa fb cm cb ca cg cp ct cl pa ps at_2 en2 sa2 fb2 cm2 cb2 ca2 cg2 cp2 ct2 cl2 pa2 ps2 : Int → Int} {E fr st am pc tp md po ls n A0 v u z E2 fr2 st2 am2 pc2 tp2 md2 po2 ls2 : Int} (h : zY mb mp E fr st am pc tp md po ls at_ en sa fb cm cb ca cg cp ct cl pa ps n A0 v u z) (e_E : E2 = E) (e_fr : fr2 = fr) (e_st : st2 = st) (e_am : am2 = am) (e_pc : pc2 = pc) (e_tp : tp2 = tp) (e_md : md2 = md) (e_po : po2 = po) (e_ls : ls2 = ls) (e_at_ : at_2 = at_) (e_en : en2 = en) (e_sa : sa2 = sa) (e_fb : fb2 = fb) (e_cm : cm2 = cm) (e_cb : cb2 = cb) (e_ca : ca2 = ca) (e_cg : cg2 = cg) (e_cp : cp2 = cp) (e_ct : ct2 = ct) (e_cl : cl2 = cl) (e_pa : pa2 = pa) (e_ps : ps2 = ps) : zY mb mp E2 fr2 st2 am2 pc2 tp2 md2 po2 ls2 at_2 en2 sa2 fb2 cm2 cb2 ca2 cg2 cp2 ct2 cl2 pa2 ps2 n A0 v u z := by
  subst e_E e_fr e_st e_am e_pc e_tp e_md e_po e_ls e_at_ e_en e_sa e_fb e_cm e_cb e_ca e_cg e_cp e_ct e_cl e_pa e_ps
  exact h
def zX (M : zMm) (a : Nat) (mb mp : Int → Int) (n A0 v u z : Int) : Prop := zY mb mp (M a 62) (M a 57) (M a 58) (M a 59) (M a 60) (M a 26) (M a 25) (M a 24) (M a 61) (M (a + 24)) (M (a + 25)) (M (a + 26)) (M (a + 27)) (M (a + 28)) (M (a + 31)) (M (a + 32)) (M (a + 33)) (M (a + 34)) (M (a + 35)) (M (a + 36)) (M (a + 37)) (M (a + 38)) n A0 v u z
theorem zX.cg {M M2 : zMm} {a : Nat} {mb mp : Int → Int} {n A0 v u z : Int} (h : zX M a mb mp n A0 v u z) (e62 : M2 a 62 = M a 62) (e57 : M2 a 57 = M a 57) (e58 : M2 a 58 = M a 58) (e59 : M2 a 59 = M a 59) (e60 : M2 a 60 = M a 60) (e26 : M2 a 26 = M a 26) (e25 : M2 a 25 = M a 25) (e24 : M2 a 24 = M a 24) (e61 : M2 a 61 = M a 61) (f24 : ∀ j, M2 (a + 24) j = M (a + 24) j) (f25 : ∀ j, M2 (a + 25) j = M (a + 25) j) (f26 : ∀ j, M2 (a + 26) j = M (a + 26) j) (f27 : ∀ j, M2 (a + 27) j = M (a + 27) j) (f28 : ∀ j, M2 (a + 28) j = M (a + 28) j) (f31 : ∀ j, M2 (a + 31) j = M (a + 31) j) (f32 : ∀ j, M2 (a + 32) j = M (a + 32) j) (f33 : ∀ j, M2 (a + 33) j = M (a + 33) j) (f34 : ∀ j, M2 (a + 34) j = M (a + 34) j) (f35 : ∀ j, M2 (a + 35) j = M (a + 35) j) (f36 : ∀ j, M2 (a + 36) j = M (a + 36) j) (f37 : ∀ j, M2 (a + 37) j = M (a + 37) j) (f38 : ∀ j, M2 (a + 38) j = M (a + 38) j) : zX M2 a mb mp n A0 v u z := zY.cgr h e62 e57 e58 e59 e60 e26 e25 e24 e61 (funext f24) (funext f25) (funext f26) (funext f27) (funext f28) (funext f31) (funext f32) (funext f33) (funext f34) (funext f35) (funext f36) (funext f37) (funext f38)
theorem zup_e {M M2 : zMm} {p : Nat} {i j x : Int} (e : M2 = zup M p i x) (h : j = i) : M2 p j = x := by
  rw [h]
  exact zup_s e
theorem zX.num {M : zMm} {a : Nat} {mb mp : Int → Int} {n A0 v u z : Int} (h : zX M a mb mp n A0 v u z) : 0 ≤ n ∧ n ≤ M a 62 ∧ M a 62 ≤ 100 ∧ 0 ≤ M a 57 ∧ n ≤ M a 57 + 1 ∧ M a 57 ≤ n ∧ 0 ≤ v ∧ 0 ≤ u ∧ 0 ≤ z ∧ 440 ≤ M a 25 ∧ M a 25 ≤ 495 + 30 * (M a 62 - n) ∧ M a 58 ≤ M a 62 + 1 + M a 57 - n ∧ 0 ≤ M a 60 ∧ 0 ≤ A0 ∧ A0 ≤ M a 59 ∧ 3500 ≤ M a 26 ∧ M a 26 ≤ 3500 + 100 * n ∧ M a 60 ≤ 20 * n ∧ (n = 0 ∨ M a 60 + u ≤ 20 * n) ∧ 0 ≤ M a 61 ∧ M a 24 + 30 * u ≤ 495 + 600 * (M a 62 - n) + 600 * n := by
  have h' := h
  obtain ⟨⟨a1, a2, a3, a4, a5, a6, a7, a8, a9⟩, ⟨b1, b2, b3, b4, b5, b6, b7, b8, b9, b10, b11⟩, hF, hT, hL, hP, hC, hD, hZ, ⟨hK, hS⟩, ⟨hO0, hO⟩, hB, ⟨hG1, hG2⟩⟩ := h
  have hz := fun (k : Nat) (hk : (k : Int) ≤ n) => show zSum (M (a + 31)) 0 k ≤ 20 * k from by
    induction k with
    | zero => exact Int.le_refl _
    | succ k ih =>
      have i1 := ih (by omega)
      have i2 : zSum (M (a + 31)) 0 (k + 1) = zSum (M (a + 31)) 0 k + M (a + 31) (0 + (k : Int)) := rfl
      rw [i2, Int.zero_add]
      have i3 : M (a + 31) (k : Int) ≤ 20 := by
        by_cases q : (k : Int) + 1 < n
        · have := (hL k (by omega) q).1
          have q2 := (hB (M (a + 28) (k : Int))).2
          have q3 := this.2.2.1
          omega
        · have := (hP (by omega)).1
          rw [show n - 1 = (k : Int) by omega] at this
          have q2 := (hB (M (a + 28) (k : Int))).2
          have q3 := this.2.2.1
          omega
      omega
  have hz2 := hz n.toNat (by omega)
  have ht : M a 26 ≤ 3500 + 100 * n ∧ M a 60 ≤ 20 * n ∧ (n = 0 ∨ M a 60 + u ≤ 20 * n) := by
    by_cases q : 0 < n
    · obtain ⟨q1, q2, ⟨⟨r1, r2, r3, r4, r5, r6, r7⟩, r8, r9⟩, q4⟩ := hP q
      have q5 := q1.2.2.1
      have q6 := (hB (M (a + 28) (n - 1))).2
      by_cases q7 : M (a + 34) (n - 1) < M a 60
      · obtain ⟨s1, s2, s3, s4, s5, s6⟩ := r9 q7
        omega
      · have := r8 (by omega)
        omega
    · have := hZ (by omega)
      have e0 : n = 0 := by omega
      rw [e0] at hO hz2
      have e1 : zSum (M (a + 31)) 0 (0 : Int).toNat = 0 := rfl
      rw [e1] at hO
      omega
  omega

