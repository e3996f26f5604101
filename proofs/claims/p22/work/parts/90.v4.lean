/-! the texts and tables, byte by byte -/
def zTxr (k : Nat) (i : Int) : Int := ((zTxb.getD k []).getD i.toNat 0).toInt
def zTxc (k : Nat) (i : Int) : Int := zand (zTxr k i) 255
def zStt (k : Nat) (i : Int) : Int := ((if k = 200 then zDef else zWrd).getD i.toNat 0).toInt
theorem zStt_r (k : Nat) (i : Int) : -128 ≤ zStt k i ∧ zStt k i ≤ 127 := by
  unfold zStt
  split
  · exact zTbl_r (l := zDef) (by decide) _
  · exact zTbl_r (l := zWrd) (by decide) _
theorem zTx_df : ∀ j : Int, 0 ≤ j → j < 7 → zTxc 0 j = zStt 200 j := fun j j0 j1 => by
  have : j = 0 ∨ j = 1 ∨ j = 2 ∨ j = 3 ∨ j = 4 ∨ j = 5 ∨ j = 6 := by omega
  rcases this with rfl | rfl | rfl | rfl | rfl | rfl | rfl <;> decide
section STRX
variable {w : zWp} {p : Program} {e : Env} {d mc ms : Nat} {s : State} {m : MethodId} {args : Array Value} {below : List Frame} {meth : Method} {c : Code} {y : MethodName} {b : ByteArray} {nL : Nat} {ret : Option FieldType} {T0 T : zTl} {M : zMm} {J : zJm} {R : zRm'} {Post : Option Value → zSg → Prop} {pc n : Nat} {lv st : List Value} {σ : zSg}
theorem q_blSx (C : zCx w p s m args meth c y b nL ret) {k : Nat} {i : Int} (h10 : k < 10) (hd : decode b pc = .ok (.baload, 1)) (hn : pc + 1 = n) (hi : 0 ≤ i ∧ i < (zTxl.getD k 0 : Nat)) (kk : zK w p e d mc ms s m args below meth c nL T0 Post n lv (zi (zTxr k i) :: st) σ) : zK w p e d mc ms s m args below meth c nL T0 Post pc lv (zi i :: .ref (w.2.2.2.2 (100 + k)) :: st) σ := fun ls H locs q n2 h1 h2 hl hW hS => by
  have h7 := zTxl_r k
  obtain ⟨z1, z2⟩ := zin (i := i) (n := zTxl.getD k 0) ⟨hi.1, hi.2, by omega⟩
  have e0 : (Int32.ofInt i).toNatClampNeg = i.toNat := by omega
  have hk := kk ls H locs q n2 h1 h2 hl hW hS
  unfold zTxr at hk
  rw [← hn, ← e0, ← zback] at hk
  exact va_tb C.1 C.2.1 (C.2.2.2.2.2.2.2.2.2.1.1.2.2.2.2.1.1 k h10).2.2.2 hS z1 rfl hd hk
theorem q_baldTx (C : zCx w p s m args meth c y b nL ret) {k N : Nat} {i : Int} (hd : decode b pc = .ok (.baload, 1)) (hn : pc + 1 = n) (hk : (k, N) ∈ zTn) (hi : 0 ≤ i ∧ i < N) (kk : zK w p e d mc ms s m args below meth c nL T0 Post n lv (zi (zStt k i) :: st) σ) : zK w p e d mc ms s m args below meth c nL T0 Post pc lv (zi i :: .ref (w.2.2.2.2 k) :: st) σ := fun ls H locs q n2 h1 h2 hl hW hS => by
  have hz : (k = 200 ∧ N = 7) ∨ (k = 201 ∧ N = 53) := by simpa [zTn] using hk
  rcases hz with ⟨e1, e2⟩ | ⟨e1, e2⟩
  · subst e1 e2
    obtain ⟨z1, z2⟩ := zin (i := i) (n := 7) ⟨hi.1, hi.2, by omega⟩
    have hh := kk ls H locs q n2 h1 h2 hl hW hS
    rw [← hn, show zStt 200 i = (zDef.getD (Int32.ofInt i).toNatClampNeg 0).toInt by rw [show (Int32.ofInt i).toNatClampNeg = i.toNat by omega]; rfl, ← zback] at hh
    exact va_tb C.1 C.2.1 C.2.2.2.2.2.2.2.2.2.1.1.2.2.1 hS (zin (n := 7) ⟨hi.1, hi.2, by omega⟩).1 rfl hd hh
  · subst e1 e2
    obtain ⟨z1, z2⟩ := zin (i := i) (n := 53) ⟨hi.1, hi.2, by omega⟩
    have hh := kk ls H locs q n2 h1 h2 hl hW hS
    rw [← hn, show zStt 201 i = (zWrd.getD (Int32.ofInt i).toNatClampNeg 0).toInt by rw [show (Int32.ofInt i).toNatClampNeg = i.toNat by omega]; rfl, ← zback] at hh
    exact va_tb C.1 C.2.1 C.2.2.2.2.2.2.2.2.2.1.1.2.2.2.1 hS (zin (n := 53) ⟨hi.1, hi.2, by omega⟩).1 rfl hd hh
end STRX
theorem c_J1_charAt_x {w : zWp} {T : zTl} {M : zMm} {J : zJm} {R : zRm'} {k : Nat} (h10 : k < 10) (i : Int) (hi : 0 ≤ i ∧ i < (zTxl.getD k 0 : Nat)) : zCt w 3 0 0 yJ1_charAt_3b067 cJ1_charAt_3b067 2 (some .char) [.ref (w.2.2.2.2 (100 + k)), zi i] (T, M, J, R) (zPp T M J R (fun x => (zr x ∧ narrow .char (zi x) = zi x) ∧ x = zTxc k i)) := by
  refine zCt.of rfl (Nat.le_of_ble_eq_true rfl) ?_
  intro p e s m args below meth c C
  obtain ⟨Po, hPo⟩ : ∃ Po, Po = zPp T M J R (fun x => (zr x ∧ narrow .char (zi x) = zi x) ∧ x = zTxc k i) := ⟨_, rfl⟩
  rw [← hPo]
  show zK w p e 3 0 0 s m args below meth c 2 T Po 0 [.ref (w.2.2.2.2 (100 + k)), zi i] [] (T, M, J, R)
  have h7 := zTxl_r k
  refine q_iload_n C dJ1_charAt_3b067_0 (n := 1) rfl rfl ?_
  refine q_aload_n C dJ1_charAt_3b067_1 (n := 2) rfl rfl ?_
  refine q_alS C h10 dJ1_charAt_3b067_2 (n := 3) rfl ?_
  refine r_callS C m_J1_9 s_yJ0_checkIndex_df160 rfl (c_J0_check (w := w) (J := J) i ((zTxl.getD k 0 : Nat) : Int) ⟨hi.1, hi.2, by omega⟩) (Nat.le_of_ble_eq_true rfl) rfl (Nat.le_of_ble_eq_true rfl) ⟨Nat.le_refl _, Nat.le_refl _⟩ dJ1_charAt_3b067_3 (fun v τ hp _ _ => ?_)
  obtain ⟨rfl, rfl⟩ := hp
  show zK w p e 3 0 0 s m args below meth c 2 T Po 6 [.ref (w.2.2.2.2 (100 + k)), zi i] [] (T, M, J, R)
  refine q_aload_n C dJ1_charAt_3b067_6 (n := 7) rfl rfl ?_
  refine q_iload_n C dJ1_charAt_3b067_7 (n := 8) rfl rfl ?_
  refine q_blSx C h10 dJ1_charAt_3b067_8 (n := 9) rfl hi ?_
  refine q_sipush C dJ1_charAt_3b067_9 (n := 12) rfl (x := 255) (by decide) ?_
  refine q_iand C dJ1_charAt_3b067_12 (n := 13) rfl (v := zTxc k i) rfl ?_
  refine q_i2c C dJ1_charAt_3b067_13 (n := 14) rfl ?_
  exact r_nret C (z_nar (zTxr k i)) dJ1_charAt_3b067_14 ⟨rfl, rfl⟩ (by rw [hPo]; exact ⟨zTxc k i, rfl, rfl, ⟨zr_and _ 255, z_nar _⟩, rfl⟩)
theorem c_J0_charAt_x {w : zWp} {T : zTl} {M : zMm} {J : zJm} {R : zRm'} {k : Nat} (h10 : k < 10) (i : Int) (hi : 0 ≤ i ∧ i < (zTxl.getD k 0 : Nat)) : zCt w 4 0 0 yJ0_charAt_5068e cJ0_charAt_5068e 2 (some .char) [.ref (w.2.2.2.2 k), zi i] (T, M, J, R) (zPp T M J R (fun x => (zr x ∧ narrow .char (zi x) = zi x) ∧ x = zTxc k i)) := by
  refine zCt.of rfl (Nat.le_of_ble_eq_true rfl) ?_
  intro p e s m args below meth c C
  obtain ⟨Po, hPo⟩ : ∃ Po, Po = zPp T M J R (fun x => (zr x ∧ narrow .char (zi x) = zi x) ∧ x = zTxc k i) := ⟨_, rfl⟩
  rw [← hPo]
  show zK w p e 4 0 0 s m args below meth c 2 T Po 0 [.ref (w.2.2.2.2 k), zi i] [] (T, M, J, R)
  refine q_aload_n C dJ0_charAt_5068e_0 (n := 1) rfl rfl ?_
  refine q_callVT C h10 rfl dJ0_charAt_5068e_1 (n := 4) rfl m_J0_492 v_yJ0_isLatin1_aae02 (c_J0_isLatin1 (w := w) (J := J) h10) (Nat.le_of_ble_eq_true rfl) rfl rfl (Nat.le_of_ble_eq_true rfl) ⟨Nat.le_refl _, Nat.le_refl _⟩ (fun x hx => ?_)
  subst hx
  refine q_if_eq C 16 dJ0_charAt_5068e_4 (n := 7) rfl rfl (by omega) (fun h8 => by omega) (fun h8 => ?_)
  refine q_aload_n C dJ0_charAt_5068e_7 (n := 8) rfl rfl ?_
  refine q_gfV C h10 rfl dJ0_charAt_5068e_8 (n := 11) rfl ?_
  refine q_iload_n C dJ0_charAt_5068e_11 (n := 12) rfl rfl ?_
  refine q_callSp C dJ0_charAt_5068e_12 (n := 15) rfl m_J0_495 s_yJ1_charAt_3b067 (c_J1_charAt_x (w := w) (J := J) h10 i hi) (Nat.le_of_ble_eq_true rfl) rfl rfl (Nat.le_of_ble_eq_true rfl) ⟨Nat.le_refl _, Nat.le_refl _⟩ (fun x hx => ?_)
  exact r_nret C (hx.1.2) dJ0_charAt_5068e_15 ⟨rfl, rfl⟩ (by rw [hPo]; exact ⟨x, rfl, rfl, hx⟩)

/-! ===== names on the tape: what switches answers ===== -/
def zWd (c : Int) : Int := if 97 ≤ c ∧ c ≤ 122 ∨ 65 ≤ c ∧ c ≤ 90 ∨ c = 95 ∨ 48 ≤ c ∧ c ≤ 57 then 1 else 0
theorem zWd_i (c : Int) : zWd c = 1 ∧ (97 ≤ c ∧ c ≤ 122 ∨ 65 ≤ c ∧ c ≤ 90 ∨ c = 95 ∨ 48 ≤ c ∧ c ≤ 57) ∨ zWd c = 0 ∧ ¬ (97 ≤ c ∧ c ≤ 122 ∨ 65 ≤ c ∧ c ≤ 90 ∨ c = 95 ∨ 48 ≤ c ∧ c ≤ 57) := by
  unfold zWd
  by_cases h : 97 ≤ c ∧ c ≤ 122 ∨ 65 ≤ c ∧ c ≤ 90 ∨ c = 95 ∨ 48 ≤ c ∧ c ≤ 57
  · exact Or.inl ⟨if_pos h, h⟩
  · exact Or.inr ⟨if_neg h, h⟩
/-- g as far as m -/
def zClip (g : Int → Int) (m j : Int) : Int := if 0 ≤ j ∧ j < m then g j else 0
theorem zClip_at {g : Int → Int} {m j : Int} (h : 0 ≤ j ∧ j < m) : zClip g m j = g j := if_pos h
theorem zClip_no {g : Int → Int} {m j : Int} (h : ¬ (0 ≤ j ∧ j < m)) : zClip g m j = 0 := if_neg h
theorem zClip_cg {g h : Int → Int} {m : Int} (e : ∀ j, 0 ≤ j → j < m → g j = h j) : zClip g m = zClip h m := funext fun j => by
  by_cases z : 0 ≤ j ∧ j < m
  · rw [zClip_at z, zClip_at z]
    exact e j z.1 z.2
  · rw [zClip_no z, zClip_no z]
theorem zWd_0 : zWd 0 = 0 := by decide
theorem zWd_no {g : Int → Int} {m j : Int} (h : ¬ (0 ≤ j ∧ j < m)) : zWd (zClip g m j) = 0 := by rw [zClip_no h]; exact zWd_0
/-- from f on, as far as t: a word, alone -/
def zRn (G : Int → Int) (f t : Int) : Prop := f < t ∧ (∀ j, f ≤ j → j < t → zWd (G j) = 1) ∧ zWd (G (f - 1)) = 0 ∧ zWd (G t) = 0
theorem zRn.eq {G : Int → Int} {f t t2 : Int} (h : zRn G f t) (h2 : zRn G f t2) : t = t2 := by
  by_cases z : t < t2
  · have := h2.2.1 t (by have := h.1; omega) z
    have := h.2.2.2
    omega
  · by_cases z2 : t2 < t
    · have := h.2.1 t2 (by have := h2.1; omega) z2
      have := h2.2.2.2
      omega
    · omega
theorem zRn.ex {g : Int → Int} {m f : Int} (hf : 0 ≤ f ∧ f < m) (h1 : zWd (zClip g m f) = 1) (h0 : zWd (zClip g m (f - 1)) = 0) : ∃ t, t ≤ m ∧ zRn (zClip g m) f t := by
  have key : ∀ n : Nat, (∀ j, f ≤ j → j < f + 1 + n → zWd (zClip g m j) = 1) ∧ f + 1 + n ≤ m ∨ ∃ t, t ≤ m ∧ zRn (zClip g m) f t := by
    intro n
    induction n with
    | zero =>
      refine Or.inl ⟨fun j j0 j1 => ?_, by omega⟩
      rw [show j = f by omega]
      exact h1
    | succ n ih =>
      rcases ih with ⟨i1, i2⟩ | i
      · rcases zWd_i (zClip g m (f + 1 + n)) with ⟨q, _⟩ | ⟨q, _⟩
        · by_cases z : f + 1 + n < m
          · refine Or.inl ⟨fun j j0 j1 => ?_, by omega⟩
            by_cases e : j = f + 1 + n
            · rw [e]
              exact q
            · exact i1 j j0 (by omega)
          · exact absurd q (by rw [zWd_no (by omega)]; decide)
        · exact Or.inr ⟨f + 1 + n, i2, by omega, i1, h0, q⟩
      · exact Or.inr i
  rcases key (m - f).toNat with ⟨_, i2⟩ | i
  · exfalso
    omega
  · exact i
def zAk (G : Int → Int) (f t f2 t2 : Int) : Prop := t - f = t2 - f2 ∧ ∀ j, 0 ≤ j → j < t - f → G (f + j) = G (f2 + j)
def zDfw (G : Int → Int) (f t : Int) : Prop := t - f = 7 ∧ ∀ j, 0 ≤ j → j < 7 → G (f + j) = zTxc 0 j
/-- how many words begin below n -/
def zWs (G : Int → Int) : Nat → Int
  | 0 => 0
  | n + 1 => zWs G n + if zWd (G n) = 1 ∧ zWd (G ((n : Int) - 1)) = 0 then 1 else 0
theorem zWs_s {G : Int → Int} {i : Int} (h : 0 ≤ i) : zWs G (i + 1).toNat = zWs G i.toNat + if zWd (G i) = 1 ∧ zWd (G (i - 1)) = 0 then 1 else 0 := by
  have e : (i + 1).toNat = i.toNat + 1 := by omega
  have e2 : zWs G (i.toNat + 1) = zWs G i.toNat + if zWd (G ((i.toNat : Nat) : Int)) = 1 ∧ zWd (G (((i.toNat : Nat) : Int) - 1)) = 0 then 1 else 0 := rfl
  rw [e, e2, show ((i.toNat : Nat) : Int) = i by omega]
theorem zWs_mo {G : Int → Int} : ∀ (n m : Nat), zWs G n ≤ zWs G (n + m)
  | _, 0 => Int.le_refl _
  | n, m + 1 => by
    have h1 := zWs_mo (G := G) n m
    have e : zWs G (n + (m + 1)) = zWs G (n + m) + if zWd (G ((n + m : Nat) : Int)) = 1 ∧ zWd (G (((n + m : Nat) : Int) - 1)) = 0 then 1 else 0 := rfl
    rw [e]
    split <;> omega
theorem zWs_le {G : Int → Int} {i j : Int} (h : 0 ≤ i ∧ i ≤ j) : 0 ≤ zWs G i.toNat ∧ zWs G i.toNat ≤ zWs G j.toNat := by
  have h1 := zWs_mo (G := G) 0 i.toNat
  rw [Nat.zero_add] at h1
  have h2 := zWs_mo (G := G) i.toNat (j.toNat - i.toNat)
  rw [show i.toNat + (j.toNat - i.toNat) = j.toNat by omega] at h2
  exact ⟨h1, h2⟩
theorem zWs_run {G : Int → Int} {f : Int} (hf : 0 ≤ f) (hs : zWd (G (f - 1)) = 0) : ∀ n : Nat, (∀ j, f ≤ j → j < f + 1 + n → zWd (G j) = 1) → zWs G (f + 1 + n).toNat = zWs G f.toNat + 1
  | 0, h => by
    rw [show f + 1 + ((0 : Nat) : Int) = f + 1 by omega, zWs_s hf, if_pos ⟨h f (by omega) (by omega), hs⟩]
  | n + 1, h => by
    have ih := zWs_run hf hs n (fun j j0 j1 => h j j0 (by omega))
    have h2 := h (f + 1 + n - 1) (by omega) (by omega)
    rw [show f + 1 + ((n + 1 : Nat) : Int) = f + 1 + n + 1 by omega, zWs_s (by omega), if_neg (fun z => by omega), ih, Int.add_zero]
def zFlt (G : Int → Int) (m : Int) : Prop := (∃ j, (0 ≤ j ∧ j < m) ∧ zWd (G j) = 0 ∧ G j ≠ 32) ∨ ∃ f t, (0 ≤ f ∧ t ≤ m ∧ zRn G f t) ∧ (30 < t - f ∨ (48 ≤ G f ∧ G f ≤ 57) ∨ zDfw G f t ∨ 3 ≤ zWs G f.toNat ∨ ∃ f2 t2, (0 ≤ f2 ∧ t2 ≤ f ∧ zRn G f2 t2) ∧ zAk G f2 t2 f t)
def zSwA (G : Int → Int) (m x : Int) : Prop := x = -1 ∧ zFlt G m ∨ (0 ≤ x ∧ x ≤ 3) ∧ x = zWs G m.toNat ∧ ¬ zFlt G m
theorem zSwA.eq {G : Int → Int} {m x y : Int} (p : zSwA G m x) (q : zSwA G m y) : x = y := by
  rcases p with ⟨p1, p2⟩ | ⟨p1, p2, p3⟩ <;> rcases q with ⟨q1, q2⟩ | ⟨q1, q2, q3⟩
  · omega
  · exact absurd p2 q3
  · exact absurd q2 p3
  · omega
/-- as far as i: n words, from F to T -/
def zNs (G : Int → Int) (m i n : Int) (F T : Int → Int) : Prop := (0 ≤ i ∧ i ≤ m ∧ 0 ≤ n) ∧ (zWd (G (i - 1)) = 0 ∨ zWd (G i) = 0) ∧ (∀ j, 0 ≤ j → j < i → zWd (G j) = 1 ∨ G j = 32) ∧ (∀ k, 0 ≤ k → k < n → (0 ≤ F k ∧ T k ≤ i ∧ zRn G (F k) (T k)) ∧ T k - F k ≤ 30 ∧ ¬ (48 ≤ G (F k) ∧ G (F k) ≤ 57) ∧ ¬ zDfw G (F k) (T k)) ∧ (∀ j, 0 ≤ j → j < i → zWd (G j) = 1 → zWd (G (j - 1)) = 0 → ∃ k, (0 ≤ k ∧ k < n) ∧ F k = j) ∧ (∀ k k2, 0 ≤ k → k < k2 → k2 < n → F k < F k2 ∧ ¬ zAk G (F k) (T k) (F k2) (T k2)) ∧ n = zWs G i.toNat
theorem zNs.nil {g : Int → Int} {m i n : Int} {F T : Int → Int} (hm : 0 ≤ m) (hi : i = 0) (hn : n = 0) : zNs (zClip g m) m i n F T := by
  subst hi hn
  exact ⟨by omega, Or.inl (zWd_no (by omega)), fun j j0 j1 => by omega, fun k k0 k1 => by omega, fun j j0 j1 => by omega, fun k k2 k0 k1 k3 => by omega, rfl⟩
theorem zNs.blank {G : Int → Int} {m i n : Int} {F T : Int → Int} (h : zNs G m i n F T) (hi : i < m) (hb : G i = 32) : zNs G m (i + 1) n F T := by
  obtain ⟨h1, h2, h3, h4, h5, h6, h7⟩ := h
  have hw : zWd (G i) = 0 := by rw [hb]; decide
  refine ⟨by omega, Or.inl (by rw [show i + 1 - 1 = i by omega]; exact hw), fun j j0 j1 => ?_, fun k k0 k1 => ?_, fun j j0 j1 j2 j3 => ?_, h6, by rw [zWs_s h1.1, if_neg (fun z => by omega), Int.add_zero]; exact h7⟩
  · by_cases z : j = i
    · rw [z]
      exact Or.inr hb
    · exact h3 j j0 (by omega)
  · obtain ⟨⟨q1, q2, q3⟩, q4⟩ := h4 k k0 k1
    exact ⟨⟨q1, by omega, q3⟩, q4⟩
  · by_cases z : j = i
    · rw [z] at j2
      omega
    · exact h5 j j0 (by omega) j2 j3
theorem zNs.word {G : Int → Int} {m i n t n2 : Int} {F T F2 T2 : Int → Int} (h : zNs G m i n F T) (hr : zRn G i t) (ht : t ≤ m) (c1 : t - i ≤ 30) (c2 : ¬ (48 ≤ G i ∧ G i ≤ 57)) (c3 : ¬ zDfw G i t) (c4 : ∀ k, 0 ≤ k → k < n → ¬ zAk G (F k) (T k) i t) (eF : ∀ k, 0 ≤ k → k < n → F2 k = F k) (eT : ∀ k, 0 ≤ k → k < n → T2 k = T k) (fn : F2 n = i) (tn : T2 n = t) (hn : n2 = n + 1) : zNs G m t n2 F2 T2 := by
  subst hn
  obtain ⟨h1, h2, h3, h4, h5, h6, h7⟩ := h
  have hit := hr.1
  have hc : zWs G t.toNat = zWs G i.toNat + 1 := by
    have := zWs_run h1.1 hr.2.2.1 (t - i - 1).toNat (fun j j0 j1 => hr.2.1 j j0 (by omega))
    rw [show i + 1 + (((t - i - 1).toNat : Nat) : Int) = t by omega] at this
    exact this
  refine ⟨by omega, Or.inr hr.2.2.2, fun j j0 j1 => ?_, fun k k0 k1 => ?_, fun j j0 j1 j2 j3 => ?_, fun k k2 k0 k1 k3 => ?_, by omega⟩
  · by_cases z : j < i
    · exact h3 j j0 z
    · exact Or.inl (hr.2.1 j (by omega) j1)
  · by_cases z : k = n
    · rw [z, fn, tn]
      exact ⟨⟨h1.1, by omega, hr⟩, c1, c2, c3⟩
    · rw [eF k k0 (by omega), eT k k0 (by omega)]
      obtain ⟨⟨q1, q2, q3⟩, q4⟩ := h4 k k0 (by omega)
      exact ⟨⟨q1, by omega, q3⟩, q4⟩
  · by_cases z : j < i
    · obtain ⟨k, hk, e⟩ := h5 j j0 z j2 j3
      exact ⟨k, by omega, by rw [eF k hk.1 hk.2]; exact e⟩
    · by_cases z2 : j = i
      · exact ⟨n, by omega, by rw [fn, z2]⟩
      · have := hr.2.1 (j - 1) (by omega) (by omega)
        omega
  · have k4 := h4 k k0 (by omega)
    rw [eF k k0 (by omega), eT k k0 (by omega)]
    by_cases z : k2 = n
    · rw [z, fn, tn]
      have k5 := k4.1.2.2.1
      exact ⟨by omega, c4 k k0 (by omega)⟩
    · rw [eF k2 (by omega) (by omega), eT k2 (by omega) (by omega)]
      exact h6 k k2 k0 k1 (by omega)
theorem zNs.fin {G : Int → Int} {m i n : Int} {F T : Int → Int} (h : zNs G m i n F T) (hi : i = m) (hn : n ≤ 3) : zSwA G m n := by
  subst hi
  obtain ⟨h1, h2, h3, h4, h5, h6, h7⟩ := h
  refine Or.inr ⟨by omega, h7, ?_⟩
  rintro (⟨j, ⟨j0, j1⟩, j2, j3⟩ | ⟨f, t, ⟨f0, f1, hr⟩, hc⟩)
  · have := h3 j j0 j1
    omega
  · have ht := hr.1
    obtain ⟨k, ⟨k0, k1⟩, e⟩ := h5 f f0 (by omega) (hr.2.1 f (by omega) ht) hr.2.2.1
    subst e
    obtain ⟨⟨q1, q2, q3⟩, q4, q5, q6⟩ := h4 k k0 k1
    have et := q3.eq hr
    subst et
    rcases hc with c | c | c | c | ⟨f2, t2, ⟨r1, r2, r3⟩, c⟩
    · omega
    · exact q5 c
    · exact q6 c
    · have w1 := zWs_s (G := G) (i := F k) f0
      rw [if_pos ⟨hr.2.1 _ (by omega) ht, hr.2.2.1⟩] at w1
      have w2 := zWs_le (G := G) (i := F k + 1) (j := i) (by omega)
      omega
    · have r4 := r3.1
      obtain ⟨k2, ⟨k3, k4⟩, e⟩ := h5 f2 r1 (by omega) (r3.2.1 f2 (by omega) r4) r3.2.2.1
      subst e
      have et2 := (h4 k2 k3 k4).1.2.2.eq r3
      subst et2
      by_cases z : k2 < k
      · exact (h6 k2 k k3 z k1).2 c
      · by_cases z2 : k2 = k
        · rw [z2] at r4 r2
          omega
        · have := (h6 k k2 k0 (by omega) k4).1
          omega
/-- the text k stands in g from i0 to j0 -/
def zSy (g : Int → Int) (N i0 j0 : Int) (k : Nat) : Prop := j0 - i0 = ((zTxl.getD k 0 : Nat) : Int) ∧ 0 ≤ i0 ∧ j0 ≤ N ∧ ∀ i, 0 ≤ i → i < j0 - i0 → g (i0 + i) = zTxc k i
def zLkw (g : Int → Int) (N i0 j0 n : Int) : Prop := 0 ≤ i0 ∧ 0 ≤ j0 ∧ i0 + n ≤ N ∧ j0 + n ≤ N ∧ ∀ i, 0 ≤ i → i < n → g (i0 + i) = g (j0 + i)
/-- a new name, as the class asks -/
def zNn (g F T : Int → Int) (f t n : Int) : Prop := t - f ≤ 30 ∧ ¬ (48 ≤ g f ∧ g f ≤ 57) ∧ ¬ zSy g 440 f t 0 ∧ ∀ k, 0 ≤ k → k < n → ¬ (T k - F k = t - f ∧ zLkw g 440 f (F k) (T k - F k))
theorem zSy_df {g : Int → Int} {m f t : Int} (h0 : 0 ≤ f ∧ t ≤ m ∧ m ≤ 440) : zSy g 440 f t 0 ↔ zDfw (zClip g m) f t := by
  have e7 : ((zTxl.getD 0 0 : Nat) : Int) = 7 := by decide
  constructor
  · rintro ⟨h1, h2, h3, h4⟩
    rw [e7] at h1
    exact ⟨h1, fun j j0 j1 => by rw [zClip_at (by omega)]; exact h4 j j0 (by omega)⟩
  · rintro ⟨h1, h2⟩
    exact ⟨by rw [e7]; exact h1, by omega, by omega, fun j j0 j1 => by rw [← h2 j j0 (by omega), zClip_at (by omega)]⟩
theorem zLk_ak {g : Int → Int} {m f t f2 t2 : Int} (h0 : 0 ≤ f ∧ f ≤ t ∧ t ≤ m ∧ 0 ≤ f2 ∧ f2 ≤ t2 ∧ t2 ≤ m ∧ m ≤ 440) : (t2 - f2 = t - f ∧ zLkw g 440 f f2 (t2 - f2)) ↔ zAk (zClip g m) f2 t2 f t := by
  constructor
  · rintro ⟨h1, h2, h3, h4, h5, h6⟩
    exact ⟨h1, fun j j0 j1 => by rw [zClip_at (by omega), zClip_at (by omega)]; exact (h6 j j0 j1).symm⟩
  · rintro ⟨h1, h2⟩
    refine ⟨h1, by omega, by omega, by omega, by omega, fun j j0 j1 => ?_⟩
    have := h2 j j0 j1
    rw [zClip_at (by omega), zClip_at (by omega)] at this
    exact this.symm
theorem zRn.of {g : Int → Int} {m f t : Int} (hf : 0 ≤ f ∧ f < t ∧ t ≤ m) (h1 : ∀ j, f ≤ j → j < t → zWd (g j) = 1) (h0 : zWd (zClip g m (f - 1)) = 0 ∨ zWd (zClip g m f) = 0) (h2 : m ≤ t ∨ zWd (g t) = 0) : zRn (zClip g m) f t := by
  have h3 := h1 f (by omega) hf.2.1
  rw [zClip_at (j := f) (by omega)] at h0
  refine ⟨hf.2.1, fun j j0 j1 => by rw [zClip_at (by omega)]; exact h1 j j0 j1, by omega, ?_⟩
  by_cases z : t < m
  · rw [zClip_at (by omega)]
    omega
  · exact zWd_no (by omega)
theorem zNs.bad {g : Int → Int} {m f t n : Int} {F T : Int → Int} (h : zNs (zClip g m) m f n F T) (hr : zRn (zClip g m) f t) (ht : t ≤ m ∧ m ≤ 440) (hb : 3 ≤ n ∨ ¬ zNn g F T f t n) : zFlt (zClip g m) m := by
  have h1 := h.1
  have hr1 := hr.1
  by_cases z : 3 ≤ n
  · have := h.2.2.2.2.2.2
    exact Or.inr ⟨f, t, ⟨by omega, ht.1, hr⟩, Or.inr (Or.inr (Or.inr (Or.inl (by omega))))⟩
  · have hb := hb.resolve_left z
    by_cases c1 : 30 < t - f
    · exact Or.inr ⟨f, t, ⟨by omega, ht.1, hr⟩, Or.inl c1⟩
    · by_cases c2 : 48 ≤ g f ∧ g f ≤ 57
      · exact Or.inr ⟨f, t, ⟨by omega, ht.1, hr⟩, Or.inr (Or.inl (by rw [zClip_at (by omega)]; exact c2))⟩
      · by_cases c3 : zSy g 440 f t 0
        · exact Or.inr ⟨f, t, ⟨by omega, ht.1, hr⟩, Or.inr (Or.inr (Or.inl ((zSy_df (by omega)).mp c3)))⟩
        · by_cases c4 : ∃ k, (0 ≤ k ∧ k < n) ∧ T k - F k = t - f ∧ zLkw g 440 f (F k) (T k - F k)
          · obtain ⟨k, ⟨k0, k1⟩, k2⟩ := c4
            obtain ⟨⟨q1, q2, q3⟩, q4⟩ := h.2.2.2.1 k k0 k1
            have q5 := q3.1
            exact Or.inr ⟨f, t, ⟨by omega, ht.1, hr⟩, Or.inr (Or.inr (Or.inr (Or.inr ⟨F k, T k, ⟨q1, by omega, q3⟩, (zLk_ak (by omega)).mp k2⟩)))⟩
          · exact absurd ⟨by omega, c2, c3, fun k k0 k1 q => c4 ⟨k, ⟨k0, k1⟩, q⟩⟩ hb
theorem zNs.good {g : Int → Int} {m f t n n2 : Int} {F T F2 T2 : Int → Int} (h : zNs (zClip g m) m f n F T) (hr : zRn (zClip g m) f t) (ht : t ≤ m ∧ m ≤ 440) (hn : zNn g F T f t n) (eF : ∀ k, 0 ≤ k → k < n → F2 k = F k) (eT : ∀ k, 0 ≤ k → k < n → T2 k = T k) (fn : F2 n = f) (tn : T2 n = t) (hn2 : n2 = n + 1) : zNs (zClip g m) m t n2 F2 T2 := by
  have h1 := h.1
  have hr1 := hr.1
  obtain ⟨c1, c2, c3, c4⟩ := hn
  refine h.word hr ht.1 c1 (by rw [zClip_at (by omega)]; exact c2) (fun q => c3 ((zSy_df (by omega)).mpr q)) (fun k k0 k1 q => c4 k k0 k1 ?_) eF eT fn tn hn2
  obtain ⟨⟨q1, q2, q3⟩, q4⟩ := h.2.2.2.1 k k0 k1
  have q5 := q3.1
  exact (zLk_ak (by omega)).mpr q
theorem zFlt.byte {g : Int → Int} {m j : Int} (h : 0 ≤ j ∧ j < m) (h1 : zWd (g j) = 0) (h2 : g j ≠ 32) : zFlt (zClip g m) m := Or.inl ⟨j, h, by rw [zClip_at h]; exact h1, by rw [zClip_at h]; exact h2⟩
/-- the reference's ways out -/
theorem zNs.bad1 {g : Int → Int} {m i n : Int} {F T : Int → Int} (h : zNs (zClip g m) m i n F T) (hi : i < m) (hb : g i ≠ 32) (hr : 3 ≤ n ∨ ¬ (97 ≤ g i ∧ g i ≤ 122 ∨ 65 ≤ g i ∧ g i ≤ 90 ∨ g i = 95)) : zFlt (zClip g m) m := by
  have h1 := h.1
  rcases zWd_i (g i) with ⟨w1, w2⟩ | ⟨w1, w2⟩
  · have h2 := h.2.1
    have e := zClip_at (g := g) (m := m) (j := i) (by omega)
    rw [e] at h2
    obtain ⟨t, t1, hr2⟩ := zRn.ex (g := g) (m := m) (f := i) (by omega) (by rw [e]; exact w1) (by omega)
    refine Or.inr ⟨i, t, ⟨h1.1, t1, hr2⟩, ?_⟩
    by_cases z : 3 ≤ n
    · have := h.2.2.2.2.2.2
      exact Or.inr (Or.inr (Or.inr (Or.inl (by omega))))
    · exact Or.inr (Or.inl (by rw [e]; omega))
  · exact zFlt.byte ⟨h1.1, hi⟩ w1 hb
theorem zFlt.long {G : Int → Int} {m f t : Int} (hf : 0 ≤ f ∧ t ≤ m) (hr : zRn G f t) (h : 30 < t - f) : zFlt G m := Or.inr ⟨f, t, ⟨hf.1, hf.2, hr⟩, Or.inl h⟩
theorem zFlt.like {G : Int → Int} {m f t f2 t2 : Int} (hf : 0 ≤ f ∧ t ≤ m) (hr : zRn G f t) (h2 : 0 ≤ f2 ∧ t2 ≤ f ∧ zRn G f2 t2) (h : zAk G f2 t2 f t) : zFlt G m := Or.inr ⟨f, t, ⟨hf.1, hf.2, hr⟩, Or.inr (Or.inr (Or.inr (Or.inr ⟨f2, t2, h2, h⟩)))⟩
theorem zFlt.dfn {G : Int → Int} {m f t : Int} (hf : 0 ≤ f ∧ t ≤ m) (hr : zRn G f t) (h : zDfw G f t) : zFlt G m := Or.inr ⟨f, t, ⟨hf.1, hf.2, hr⟩, Or.inr (Or.inr (Or.inl h))⟩
/-- two pieces of the tape -/
def zEq (g : Int → Int) (b n c m : Int) : Prop := n = m ∧ ∀ j, 0 ≤ j → j < n → g (b + j) = g (c + j)
theorem zEq_ak {g : Int → Int} {m f t f2 t2 n n2 : Int} (ht : t = f + n) (ht2 : t2 = f2 + n2) (h0 : 0 ≤ f ∧ f ≤ t ∧ t ≤ m ∧ 0 ≤ f2 ∧ f2 ≤ t2 ∧ t2 ≤ m) : zEq g f2 n2 f n ↔ zAk (zClip g m) f2 t2 f t := by
  constructor
  · rintro ⟨h1, h2⟩
    exact ⟨by omega, fun j j0 j1 => by rw [zClip_at (by omega), zClip_at (by omega)]; exact h2 j j0 (by omega)⟩
  · rintro ⟨h1, h2⟩
    refine ⟨by omega, fun j j0 j1 => ?_⟩
    have := h2 j j0 (by omega)
    rw [zClip_at (by omega), zClip_at (by omega)] at this
    exact this
def zTdf (g : Int → Int) (b n : Int) : Prop := n = 7 ∧ ∀ j, 0 ≤ j → j < 7 → g (b + j) = zStt 200 j
theorem zTdf_df {g : Int → Int} {m f t n : Int} (ht : t = f + n) (h0 : 0 ≤ f ∧ f ≤ t ∧ t ≤ m) : zTdf g f n ↔ zDfw (zClip g m) f t := by
  constructor
  · rintro ⟨h1, h2⟩
    exact ⟨by omega, fun j j0 j1 => by rw [zClip_at (by omega), h2 j j0 j1, zTx_df j j0 j1]⟩
  · rintro ⟨h1, h2⟩
    refine ⟨by omega, fun j j0 j1 => ?_⟩
    have := h2 j j0 j1
    rw [zClip_at (by omega), zTx_df j j0 j1] at this
    exact this

theorem c_X10_isWord_e {w : zWp} {T : zTl} {M : zMm} {J : zJm} {R : zRm'} {G : zGt} {F : zRm'}  (hI : zI G M) (hF : zF F R) (c0 : Int) (p1 : -2147483648 ≤ c0 ∧ c0 ≤ 2147483647) : zCt w 1 0 0 yX10_isWord cX10_isWord 1 (some .boolean) [zi c0] (T, M, J, R) (zPp T M J R (fun x => (x = zWd c0) ∧ (x = 0 ∨ x = 1))) := by
  refine zCt.of rfl (Nat.le_of_ble_eq_true rfl) ?_
  intro p e s m args below meth c C
  obtain ⟨Po, hPo⟩ : ∃ Po, Po = zPp T M J R (fun x => (x = zWd c0) ∧ (x = 0 ∨ x = 1)) := ⟨_, rfl⟩
  rw [← hPo]
  show zK w p e 1 0 0 s m args below meth c 1 T Po 0 [zi c0] [] (T, M, J, R)
  refine q_iload_n C dX10_isWord_0 (n := 1) rfl rfl ?_
  refine q_bipush C dX10_isWord_1 (n := 3) rfl (x := 97) (by decide) ?_
  have J_2 : (c0 < 97 ∨ 122 < c0) → zK w p e 1 0 0 s m args below meth c 1 T Po 12 [zi c0] [] (T, M, J, R) := by
    intro h1
    refine q_iload_n C dX10_isWord_12 (n := 13) rfl rfl ?_
    refine q_bipush C dX10_isWord_13 (n := 15) rfl (x := 65) (by decide) ?_
    have J_4 : ((c0 < 97 ∨ 122 < c0) ∧ (c0 < 65 ∨ 90 < c0)) → zK w p e 1 0 0 s m args below meth c 1 T Po 24 [zi c0] [] (T, M, J, R) := by
      intro h3
      refine q_iload_n C dX10_isWord_24 (n := 25) rfl rfl ?_
      refine q_bipush C dX10_isWord_25 (n := 27) rfl (x := 95) (by decide) ?_
      refine q_icmp_eq C 42 dX10_isWord_27 (n := 30) rfl rfl (by omega) (fun h5 => ?_) (fun h5 => ?_)
      · refine q_iconst C dX10_isWord_42 (n := 43) rfl ?_
        refine q_goto C 47 dX10_isWord_43 rfl ?_
        exact q_zret C dX10_isWord_47 ⟨rfl, rfl⟩ (by omega) (by rw [hPo]; exact ⟨1, rfl, rfl, (by have := zWd_i c0; omega), by omega⟩)
      · refine q_iload_n C dX10_isWord_30 (n := 31) rfl rfl ?_
        refine q_bipush C dX10_isWord_31 (n := 33) rfl (x := 48) (by decide) ?_
        refine q_icmp_lt C 46 dX10_isWord_33 (n := 36) rfl rfl (by omega) (fun h6 => ?_) (fun h6 => ?_)
        · refine q_iconst C dX10_isWord_46 (n := 47) rfl ?_
          exact q_zret C dX10_isWord_47 ⟨rfl, rfl⟩ (by omega) (by rw [hPo]; exact ⟨0, rfl, rfl, (by have := zWd_i c0; omega), by omega⟩)
        · refine q_iload_n C dX10_isWord_36 (n := 37) rfl rfl ?_
          refine q_bipush C dX10_isWord_37 (n := 39) rfl (x := 57) (by decide) ?_
          refine q_icmp_gt C 46 dX10_isWord_39 (n := 42) rfl rfl (by omega) (fun h7 => ?_) (fun h7 => ?_)
          · refine q_iconst C dX10_isWord_46 (n := 47) rfl ?_
            exact q_zret C dX10_isWord_47 ⟨rfl, rfl⟩ (by omega) (by rw [hPo]; exact ⟨0, rfl, rfl, (by have := zWd_i c0; omega), by omega⟩)
          · refine q_iconst C dX10_isWord_42 (n := 43) rfl ?_
            refine q_goto C 47 dX10_isWord_43 rfl ?_
            exact q_zret C dX10_isWord_47 ⟨rfl, rfl⟩ (by omega) (by rw [hPo]; exact ⟨1, rfl, rfl, (by have := zWd_i c0; omega), by omega⟩)
    refine q_icmp_lt C 24 dX10_isWord_15 (n := 18) rfl rfl (by omega) (fun h8 => ?_) (fun h8 => ?_)
    · exact zK.weak (J_4 (by omega)) (zwk_c zwk_e)
    · refine q_iload_n C dX10_isWord_18 (n := 19) rfl rfl ?_
      refine q_bipush C dX10_isWord_19 (n := 21) rfl (x := 90) (by decide) ?_
      refine q_icmp_le C 42 dX10_isWord_21 (n := 24) rfl rfl (by omega) (fun h9 => ?_) (fun h9 => ?_)
      · refine q_iconst C dX10_isWord_42 (n := 43) rfl ?_
        refine q_goto C 47 dX10_isWord_43 rfl ?_
        exact q_zret C dX10_isWord_47 ⟨rfl, rfl⟩ (by omega) (by rw [hPo]; exact ⟨1, rfl, rfl, (by have := zWd_i c0; omega), by omega⟩)
      · exact zK.weak (J_4 (by omega)) (zwk_c zwk_e)
  refine q_icmp_lt C 12 dX10_isWord_3 (n := 6) rfl rfl (by omega) (fun h10 => ?_) (fun h10 => ?_)
  · exact zK.weak (J_2 (by omega)) (zwk_c zwk_e)
  · refine q_iload_n C dX10_isWord_6 (n := 7) rfl rfl ?_
    refine q_bipush C dX10_isWord_7 (n := 9) rfl (x := 122) (by decide) ?_
    refine q_icmp_le C 42 dX10_isWord_9 (n := 12) rfl rfl (by omega) (fun h11 => ?_) (fun h11 => ?_)
    · refine q_iconst C dX10_isWord_42 (n := 43) rfl ?_
      refine q_goto C 47 dX10_isWord_43 rfl ?_
      exact q_zret C dX10_isWord_47 ⟨rfl, rfl⟩ (by omega) (by rw [hPo]; exact ⟨1, rfl, rfl, (by have := zWd_i c0; omega), by omega⟩)
    · exact zK.weak (J_2 (by omega)) (zwk_c zwk_e)
theorem c_X10_isDigit_e {w : zWp} {T : zTl} {M : zMm} {J : zJm} {R : zRm'} {G : zGt} {F : zRm'}  (hI : zI G M) (hF : zF F R) (c0 : Int) (p1 : -2147483648 ≤ c0 ∧ c0 ≤ 2147483647) : zCt w 1 0 0 yX10_isDigit cX10_isDigit 1 (some .boolean) [zi c0] (T, M, J, R) (zPp T M J R (fun x => (x = 0 ∨ x = 1) ∧ (x = 1 ↔ 48 ≤ c0 ∧ c0 ≤ 57))) := by
  refine zCt.of rfl (Nat.le_of_ble_eq_true rfl) ?_
  intro p e s m args below meth c C
  obtain ⟨Po, hPo⟩ : ∃ Po, Po = zPp T M J R (fun x => (x = 0 ∨ x = 1) ∧ (x = 1 ↔ 48 ≤ c0 ∧ c0 ≤ 57)) := ⟨_, rfl⟩
  rw [← hPo]
  show zK w p e 1 0 0 s m args below meth c 1 T Po 0 [zi c0] [] (T, M, J, R)
  refine q_iload_n C dX10_isDigit_0 (n := 1) rfl rfl ?_
  refine q_bipush C dX10_isDigit_1 (n := 3) rfl (x := 48) (by decide) ?_
  refine q_icmp_lt C 16 dX10_isDigit_3 (n := 6) rfl rfl (by omega) (fun h1 => ?_) (fun h1 => ?_)
  · refine q_iconst C dX10_isDigit_16 (n := 17) rfl ?_
    exact q_zret C dX10_isDigit_17 ⟨rfl, rfl⟩ (by omega) (by rw [hPo]; exact ⟨0, rfl, rfl, by omega, by omega⟩)
  · refine q_iload_n C dX10_isDigit_6 (n := 7) rfl rfl ?_
    refine q_bipush C dX10_isDigit_7 (n := 9) rfl (x := 57) (by decide) ?_
    refine q_icmp_gt C 16 dX10_isDigit_9 (n := 12) rfl rfl (by omega) (fun h2 => ?_) (fun h2 => ?_)
    · refine q_iconst C dX10_isDigit_16 (n := 17) rfl ?_
      exact q_zret C dX10_isDigit_17 ⟨rfl, rfl⟩ (by omega) (by rw [hPo]; exact ⟨0, rfl, rfl, by omega, by omega⟩)
    · refine q_iconst C dX10_isDigit_12 (n := 13) rfl ?_
      refine q_goto C 17 dX10_isDigit_13 rfl ?_
      exact q_zret C dX10_isDigit_17 ⟨rfl, rfl⟩ (by omega) (by rw [hPo]; exact ⟨1, rfl, rfl, by omega, by omega⟩)
theorem c_X10_says_e {w : zWp} {T : zTl} {M : zMm} {J : zJm} {R : zRm'} {G : zGt} {F : zRm'} {q N tb : Nat} (hI : zI G M) (hF : zF F R) (t_b0 : T[q]? = some (51, N)) (g_b0 : ∀ k, G q k = (tb, (-128), 127)) (i0 : Int) (j0 : Int) (k0 : Nat) (hk_k0 : k0 < 10) (p1 : N ≤ 1000000) (p2 : -1000000 ≤ i0 ∧ i0 ≤ 1000000) (p3 : -1000000 ≤ j0 ∧ j0 ≤ 1000000) : zCt w 9 0 0 yX10_says cX10_says 5 (some .boolean) [.ref (w.2.1 + q), zi i0, zi j0, .ref (w.2.2.2.2 k0)] (T, M, J, R) (zPp T M J R (fun x => (x = 0 ∨ x = 1) ∧ (x = 1 ↔ zSy (M q) N i0 j0 k0))) := by
  refine zCt.of rfl (Nat.le_of_ble_eq_true rfl) ?_
  intro p e s m args below meth c C
  obtain ⟨Po, hPo⟩ : ∃ Po, Po = zPp T M J R (fun x => (x = 0 ∨ x = 1) ∧ (x = 1 ↔ zSy (M q) N i0 j0 k0)) := ⟨_, rfl⟩
  rw [← hPo]
  have gtl := zTxl_r k0
  show zK w p e 9 0 0 s m args below meth c 5 T Po 0 [.ref (w.2.1 + q), zi i0, zi j0, .ref (w.2.2.2.2 k0), .null] [] (T, M, J, R)
  refine q_iload_n C dX10_says_0 (n := 1) rfl rfl ?_
  refine q_iload_n C dX10_says_1 (n := 2) rfl rfl ?_
  refine q_isub C dX10_says_2 (n := 3) rfl (v := j0 - i0) rfl ?_
  refine q_aload_n C dX10_says_3 (n := 4) rfl rfl ?_
  refine q_callVT C hk_k0 rfl dX10_says_4 (n := 7) rfl m_X10_19 v_yJ0_length_8abf5 (c_J0_length (w := w) (J := J) hk_k0) (Nat.le_of_ble_eq_true rfl) rfl rfl (Nat.le_of_ble_eq_true rfl) ⟨Nat.le_refl _, Nat.le_refl _⟩ (fun x1 h2 => ?_)
  refine q_icmp_ne C 20 dX10_says_7 (n := 10) rfl rfl (by omega) (fun h3 => ?_) (fun h3 => ?_)
  · refine q_iconst C dX10_says_20 (n := 21) rfl ?_
    exact q_zret C dX10_says_21 ⟨rfl, rfl⟩ (by omega) (by rw [hPo]; exact ⟨0, rfl, rfl, by omega, ⟨fun h => absurd h (by decide), fun h => by exfalso; obtain ⟨h1, h2, h3, h4⟩ := h; omega⟩⟩)
  · refine q_iload_n C dX10_says_10 (n := 11) rfl rfl ?_
    refine q_if_lt C 20 dX10_says_11 (n := 14) rfl rfl (by omega) (fun h4 => ?_) (fun h4 => ?_)
    · refine q_iconst C dX10_says_20 (n := 21) rfl ?_
      exact q_zret C dX10_says_21 ⟨rfl, rfl⟩ (by omega) (by rw [hPo]; exact ⟨0, rfl, rfl, by omega, ⟨fun h => absurd h (by decide), fun h => by exfalso; obtain ⟨h1, h2, h3, h4⟩ := h; omega⟩⟩)
    · refine q_iload_n C dX10_says_14 (n := 15) rfl rfl ?_
      refine q_aload_n C dX10_says_15 (n := 16) rfl rfl ?_
      refine q_alen C dX10_says_16 (n := 17) rfl ⟨by decide, by decide⟩ t_b0 ?_
      refine q_icmp_le C 22 dX10_says_17 (n := 20) rfl rfl (by omega) (fun h5 => ?_) (fun h5 => ?_)
      · refine q_iconst C dX10_says_22 (n := 23) rfl ?_
        refine q_istore C [.ref (w.2.1 + q), zi i0, zi j0, .ref (w.2.2.2.2 k0), zi 0] dX10_says_23 (n := 25) rfl rfl rfl ?_
        have L_10 : ∀ n11 : Nat, ∀ (u6 : Int), (-2147483648 ≤ u6 ∧ u6 ≤ 2147483647) → (0 ≤ u6 ∧ u6 ≤ ((zTxl.getD k0 0 : Nat) : Int)) → (∀ i, 0 ≤ i → i < u6 → M q (i0 + i) = zTxc k0 i) → (10 - u6 ≤ (n11 : Int)) → zK w p e 9 0 0 s m args below meth c 5 T Po 25 [.ref (w.2.1 + q), zi i0, .null, .ref (w.2.2.2.2 k0), zi u6] [] (T, M, J, R) := by
          intro n11
          induction n11 with
          | zero =>
            intro u6 h7 h8 h9 hm13
            exfalso
            omega
          | succ n11 ih12 =>
            intro u6 h7 h8 h9 hm13
            refine q_iload C dX10_says_25 (n := 27) rfl rfl ?_
            refine q_aload_n C dX10_says_27 (n := 28) rfl rfl ?_
            refine q_callVT C hk_k0 rfl dX10_says_28 (n := 31) rfl m_X10_19 v_yJ0_length_8abf5 (c_J0_length (w := w) (J := J) hk_k0) (Nat.le_of_ble_eq_true rfl) rfl rfl (Nat.le_of_ble_eq_true rfl) ⟨Nat.le_refl _, Nat.le_refl _⟩ (fun x14 h15 => ?_)
            refine q_icmp_ge C 57 dX10_says_31 (n := 34) rfl rfl (by omega) (fun h16 => ?_) (fun h16 => ?_)
            · refine q_iconst C dX10_says_57 (n := 58) rfl ?_
              exact q_zret C dX10_says_58 ⟨rfl, rfl⟩ (by omega) (by rw [hPo]; exact ⟨1, rfl, rfl, by omega, ⟨fun _ => ⟨by omega, by omega, by omega, fun i i0 i1 => h9 i i0 (by omega)⟩, fun _ => rfl⟩⟩)
            · refine q_aload_n C dX10_says_34 (n := 35) rfl rfl ?_
              refine q_iload_n C dX10_says_35 (n := 36) rfl rfl ?_
              refine q_iload C dX10_says_36 (n := 38) rfl rfl ?_
              refine q_iadd C dX10_says_38 (n := 39) rfl (v := i0 + u6) rfl ?_
              have g17 := zI.at hI (g_b0 (i0 + u6))
              refine q_bald C dX10_says_39 (n := 40) rfl t_b0 (by omega) (v := M q (i0 + u6)) rfl ?_
              refine q_aload_n C dX10_says_40 (n := 41) rfl rfl ?_
              refine q_iload C dX10_says_41 (n := 43) rfl rfl ?_
              refine q_callVT C hk_k0 rfl dX10_says_43 (n := 46) rfl m_X10_25 v_yJ0_charAt_5068e (c_J0_charAt_x (w := w) (J := J) hk_k0 u6 (by omega)) (Nat.le_of_ble_eq_true rfl) rfl rfl (Nat.le_of_ble_eq_true rfl) ⟨Nat.le_refl _, Nat.le_refl _⟩ (fun x18 h19 => ?_)
              have h20 := h19.2
              refine q_icmp_eq C 51 dX10_says_46 (n := 49) rfl rfl (by omega) (fun h21 => ?_) (fun h21 => ?_)
              · refine q_iinc C [.ref (w.2.1 + q), zi i0, .null, .ref (w.2.2.2.2 k0), zi (u6 + 1)] dX10_says_51 (n := 54) rfl rfl rfl rfl ?_
                refine q_goto C 25 dX10_says_54 rfl ?_
                exact zK.weak (ih12 (u6 + 1) (by omega) (by omega) (fun i i0 i1 => (Decidable.em (i = u6)).elim (fun z => by rw [z]; omega) (fun z => h9 i i0 (by omega))) (by omega)) (zwk_c (zwk_c (zwk_n (zwk_c (zwk_c zwk_e)))))
              · refine q_iconst C dX10_says_49 (n := 50) rfl ?_
                exact q_zret C dX10_says_50 ⟨rfl, rfl⟩ (by omega) (by rw [hPo]; exact ⟨0, rfl, rfl, by omega, ⟨fun h => absurd h (by decide), fun h => by exfalso; obtain ⟨h1, h2, h3, h4⟩ := h; have h6 := h4 u6 (by omega) (by omega); omega⟩⟩)
        exact zK.weak (L_10 _ 0 (by omega) (by omega) (fun i i0 i1 => by omega) (Int.self_le_toNat _)) (zwk_c (zwk_c (zwk_n (zwk_c (zwk_c zwk_e)))))
      · refine q_iconst C dX10_says_20 (n := 21) rfl ?_
        exact q_zret C dX10_says_21 ⟨rfl, rfl⟩ (by omega) (by rw [hPo]; exact ⟨0, rfl, rfl, by omega, ⟨fun h => absurd h (by decide), fun h => by exfalso; obtain ⟨h1, h2, h3, h4⟩ := h; omega⟩⟩)
theorem c_X10_isAlike_e {w : zWp} {T : zTl} {M : zMm} {J : zJm} {R : zRm'} {G : zGt} {F : zRm'} {q N tb : Nat} (hI : zI G M) (hF : zF F R) (t_b0 : T[q]? = some (51, N)) (g_b0 : ∀ k, G q k = (tb, (-128), 127)) (i0 : Int) (j0 : Int) (len : Int) (p1 : N ≤ 1000000) (p2 : -1000000 ≤ i0 ∧ i0 ≤ 1000000) (p3 : -1000000 ≤ j0 ∧ j0 ≤ 1000000) (p4 : 0 ≤ len ∧ len ≤ 1000000) : zCt w 1 0 0 yX10_isAlike cX10_isAlike 5 (some .boolean) [.ref (w.2.1 + q), zi i0, zi j0, zi len] (T, M, J, R) (zPp T M J R (fun x => (x = 0 ∨ x = 1) ∧ (x = 1 ↔ zLkw (M q) N i0 j0 len))) := by
  refine zCt.of rfl (Nat.le_of_ble_eq_true rfl) ?_
  intro p e s m args below meth c C
  obtain ⟨Po, hPo⟩ : ∃ Po, Po = zPp T M J R (fun x => (x = 0 ∨ x = 1) ∧ (x = 1 ↔ zLkw (M q) N i0 j0 len)) := ⟨_, rfl⟩
  rw [← hPo]
  show zK w p e 1 0 0 s m args below meth c 5 T Po 0 [.ref (w.2.1 + q), zi i0, zi j0, zi len, .null] [] (T, M, J, R)
  refine q_iload_n C dX10_isAlike_0 (n := 1) rfl rfl ?_
  refine q_if_lt C 24 dX10_isAlike_1 (n := 4) rfl rfl (by omega) (fun h1 => ?_) (fun h1 => ?_)
  · refine q_iconst C dX10_isAlike_24 (n := 25) rfl ?_
    exact q_zret C dX10_isAlike_25 ⟨rfl, rfl⟩ (by omega) (by rw [hPo]; exact ⟨0, rfl, rfl, by omega, ⟨fun h => absurd h (by decide), fun h => by exfalso; obtain ⟨h1, h2, h3, h4, h5⟩ := h; omega⟩⟩)
  · refine q_iload_n C dX10_isAlike_4 (n := 5) rfl rfl ?_
    refine q_if_lt C 24 dX10_isAlike_5 (n := 8) rfl rfl (by omega) (fun h2 => ?_) (fun h2 => ?_)
    · refine q_iconst C dX10_isAlike_24 (n := 25) rfl ?_
      exact q_zret C dX10_isAlike_25 ⟨rfl, rfl⟩ (by omega) (by rw [hPo]; exact ⟨0, rfl, rfl, by omega, ⟨fun h => absurd h (by decide), fun h => by exfalso; obtain ⟨h1, h2, h3, h4, h5⟩ := h; omega⟩⟩)
    · refine q_iload_n C dX10_isAlike_8 (n := 9) rfl rfl ?_
      refine q_iload_n C dX10_isAlike_9 (n := 10) rfl rfl ?_
      refine q_iadd C dX10_isAlike_10 (n := 11) rfl (v := i0 + len) rfl ?_
      refine q_aload_n C dX10_isAlike_11 (n := 12) rfl rfl ?_
      refine q_alen C dX10_isAlike_12 (n := 13) rfl ⟨by decide, by decide⟩ t_b0 ?_
      refine q_icmp_gt C 24 dX10_isAlike_13 (n := 16) rfl rfl (by omega) (fun h3 => ?_) (fun h3 => ?_)
      · refine q_iconst C dX10_isAlike_24 (n := 25) rfl ?_
        exact q_zret C dX10_isAlike_25 ⟨rfl, rfl⟩ (by omega) (by rw [hPo]; exact ⟨0, rfl, rfl, by omega, ⟨fun h => absurd h (by decide), fun h => by exfalso; obtain ⟨h1, h2, h3, h4, h5⟩ := h; omega⟩⟩)
      · refine q_iload_n C dX10_isAlike_16 (n := 17) rfl rfl ?_
        refine q_iload_n C dX10_isAlike_17 (n := 18) rfl rfl ?_
        refine q_iadd C dX10_isAlike_18 (n := 19) rfl (v := j0 + len) rfl ?_
        refine q_aload_n C dX10_isAlike_19 (n := 20) rfl rfl ?_
        refine q_alen C dX10_isAlike_20 (n := 21) rfl ⟨by decide, by decide⟩ t_b0 ?_
        refine q_icmp_le C 26 dX10_isAlike_21 (n := 24) rfl rfl (by omega) (fun h4 => ?_) (fun h4 => ?_)
        · refine q_iconst C dX10_isAlike_26 (n := 27) rfl ?_
          refine q_istore C [.ref (w.2.1 + q), zi i0, zi j0, zi len, zi 0] dX10_isAlike_27 (n := 29) rfl rfl rfl ?_
          have L_9 : ∀ n10 : Nat, ∀ (u5 : Int), (-2147483648 ≤ u5 ∧ u5 ≤ 2147483647) → (0 ≤ u5 ∧ u5 ≤ len) → (∀ i, 0 ≤ i → i < u5 → M q (i0 + i) = M q (j0 + i)) → (len - u5 + 1 ≤ (n10 : Int)) → zK w p e 1 0 0 s m args below meth c 5 T Po 29 [.ref (w.2.1 + q), zi i0, zi j0, zi len, zi u5] [] (T, M, J, R) := by
            intro n10
            induction n10 with
            | zero =>
              intro u5 h6 h7 h8 hm12
              exfalso
              omega
            | succ n10 ih11 =>
              intro u5 h6 h7 h8 hm12
              refine q_iload C dX10_isAlike_29 (n := 31) rfl rfl ?_
              refine q_iload_n C dX10_isAlike_31 (n := 32) rfl rfl ?_
              refine q_icmp_ge C 58 dX10_isAlike_32 (n := 35) rfl rfl (by omega) (fun h13 => ?_) (fun h13 => ?_)
              · refine q_iconst C dX10_isAlike_58 (n := 59) rfl ?_
                exact q_zret C dX10_isAlike_59 ⟨rfl, rfl⟩ (by omega) (by rw [hPo]; exact ⟨1, rfl, rfl, by omega, ⟨fun _ => ⟨by omega, by omega, by omega, by omega, fun i h1 h2 => h8 i h1 (by omega)⟩, fun _ => rfl⟩⟩)
              · refine q_aload_n C dX10_isAlike_35 (n := 36) rfl rfl ?_
                refine q_iload_n C dX10_isAlike_36 (n := 37) rfl rfl ?_
                refine q_iload C dX10_isAlike_37 (n := 39) rfl rfl ?_
                refine q_iadd C dX10_isAlike_39 (n := 40) rfl (v := i0 + u5) rfl ?_
                have g14 := zI.at hI (g_b0 (i0 + u5))
                refine q_bald C dX10_isAlike_40 (n := 41) rfl t_b0 (by omega) (v := M q (i0 + u5)) rfl ?_
                refine q_aload_n C dX10_isAlike_41 (n := 42) rfl rfl ?_
                refine q_iload_n C dX10_isAlike_42 (n := 43) rfl rfl ?_
                refine q_iload C dX10_isAlike_43 (n := 45) rfl rfl ?_
                refine q_iadd C dX10_isAlike_45 (n := 46) rfl (v := j0 + u5) rfl ?_
                have g15 := zI.at hI (g_b0 (j0 + u5))
                refine q_bald C dX10_isAlike_46 (n := 47) rfl t_b0 (by omega) (v := M q (j0 + u5)) rfl ?_
                refine q_icmp_eq C 52 dX10_isAlike_47 (n := 50) rfl rfl (by omega) (fun h16 => ?_) (fun h16 => ?_)
                · refine q_iinc C [.ref (w.2.1 + q), zi i0, zi j0, zi len, zi (u5 + 1)] dX10_isAlike_52 (n := 55) rfl rfl rfl rfl ?_
                  refine q_goto C 29 dX10_isAlike_55 rfl ?_
                  exact zK.weak (ih11 (u5 + 1) (by omega) (by omega) (fun i h1 h2 => (Decidable.em (i = u5)).elim (fun z => by rw [z]; omega) (fun z => h8 i h1 (by omega))) (by omega)) (zwk_c (zwk_c (zwk_c (zwk_c (zwk_c zwk_e)))))
                · refine q_iconst C dX10_isAlike_50 (n := 51) rfl ?_
                  exact q_zret C dX10_isAlike_51 ⟨rfl, rfl⟩ (by omega) (by rw [hPo]; exact ⟨0, rfl, rfl, by omega, ⟨fun h => absurd h (by decide), fun h => by exfalso; obtain ⟨h1, h2, h3, h4, h5⟩ := h; have h6 := h5 u5 (by omega) (by omega); omega⟩⟩)
          exact zK.weak (L_9 _ 0 (by omega) (by omega) (fun i h1 h2 => by omega) (Int.self_le_toNat _)) (zwk_c (zwk_c (zwk_c (zwk_c (zwk_c zwk_e)))))
        · refine q_iconst C dX10_isAlike_24 (n := 25) rfl ?_
          exact q_zret C dX10_isAlike_25 ⟨rfl, rfl⟩ (by omega) (by rw [hPo]; exact ⟨0, rfl, rfl, by omega, ⟨fun h => absurd h (by decide), fun h => by exfalso; obtain ⟨h1, h2, h3, h4, h5⟩ := h; omega⟩⟩)
theorem c_X7_isNewName_e {w : zWp} {T : zTl} {M : zMm} {J : zJm} {R : zRm'} {G : zGt} {F : zRm'} {a b tb : Nat} (hI : zI G M) (hF : zF F R) (h0 : zSource T F G a) (t_b0 : T[b]? = some (51, 440)) (g_b0 : ∀ k, G b k = (tb, (-128), 127)) (v1 : Int) (v2 : Int) (v3 : Int) (p1 : 0 ≤ v1 ∧ v1 < v2 ∧ v2 ≤ 440) (p2 : 0 ≤ v3 ∧ v3 ≤ 3) : zCt w 10 0 0 yX7_isNewName cX7_isNewName 7 (some .boolean) [.ref (w.2.1 + a), .ref (w.2.1 + b), zi v1, zi v2, zi v3] (T, M, J, R) (zPp T M J R (fun x => (x = 0 ∨ x = 1) ∧ (x = 0 ∨ v2 - v1 ≤ 30) ∧ (x = 1 ↔ zNn (M b) (M (a + 7)) (M (a + 8)) v1 v2 v3))) := by
  refine zCt.of rfl (Nat.le_of_ble_eq_true rfl) ?_
  intro p e s m args below meth c C
  obtain ⟨Po, hPo⟩ : ∃ Po, Po = zPp T M J R (fun x => (x = 0 ∨ x = 1) ∧ (x = 0 ∨ v2 - v1 ≤ 30) ∧ (x = 1 ↔ zNn (M b) (M (a + 7)) (M (a + 8)) v1 v2 v3)) := ⟨_, rfl⟩
  rw [← hPo]
  show zK w p e 10 0 0 s m args below meth c 7 T Po 0 [.ref (w.2.1 + a), .ref (w.2.1 + b), zi v1, zi v2, zi v3, .null, .null] [] (T, M, J, R)
  refine q_iload_n C dX7_isNewName_0 (n := 1) rfl rfl ?_
  refine q_iload_n C dX7_isNewName_1 (n := 2) rfl rfl ?_
  refine q_isub C dX7_isNewName_2 (n := 3) rfl (v := v2 - v1) rfl ?_
  refine q_bipush C dX7_isNewName_3 (n := 5) rfl (x := 30) (by decide) ?_
  refine q_icmp_gt C 28 dX7_isNewName_5 (n := 8) rfl rfl (by omega) (fun h1 => ?_) (fun h1 => ?_)
  · refine q_iconst C dX7_isNewName_28 (n := 29) rfl ?_
    exact q_zret C dX7_isNewName_29 ⟨rfl, rfl⟩ (by omega) (by rw [hPo]; exact ⟨0, rfl, rfl, by omega, by omega, ⟨fun h => absurd h (by decide), fun h => by exfalso; obtain ⟨h1, h2, h3, h4⟩ := h; exact False.elim (by omega)⟩⟩)
  · refine q_aload_n C dX7_isNewName_8 (n := 9) rfl rfl ?_
    refine q_iload_n C dX7_isNewName_9 (n := 10) rfl rfl ?_
    have g2 := zI.at hI (g_b0 v1)
    refine q_bald C dX7_isNewName_10 (n := 11) rfl t_b0 (by omega) (v := M b v1) rfl ?_
    refine q_callSp C dX7_isNewName_11 (n := 14) rfl m_X7_70 s_yX10_isDigit (c_X10_isDigit_e (w := w) (J := J) hI hF (M b v1) (by omega)) (Nat.le_of_ble_eq_true rfl) rfl rfl (Nat.le_of_ble_eq_true rfl) ⟨Nat.le_refl _, Nat.le_refl _⟩ (fun x5 h6 => ?_)
    obtain ⟨h3, h4⟩ := h6
    refine q_if_ne C 28 dX7_isNewName_14 (n := 17) rfl rfl (by omega) (fun h7 => ?_) (fun h7 => ?_)
    · refine q_iconst C dX7_isNewName_28 (n := 29) rfl ?_
      exact q_zret C dX7_isNewName_29 ⟨rfl, rfl⟩ (by omega) (by rw [hPo]; exact ⟨0, rfl, rfl, by omega, by omega, ⟨fun h => absurd h (by decide), fun h => by exfalso; obtain ⟨h1, h2, h3, h4⟩ := h; exact False.elim (by omega)⟩⟩)
    · refine q_aload_n C dX7_isNewName_17 (n := 18) rfl rfl ?_
      refine q_iload_n C dX7_isNewName_18 (n := 19) rfl rfl ?_
      refine q_iload_n C dX7_isNewName_19 (n := 20) rfl rfl ?_
      refine q_ldcS C dX7_isNewName_20 (n := 22) rfl (k := 0) (by decide) ?_
      refine q_callSp C dX7_isNewName_22 (n := 25) rfl m_X7_75 s_yX10_says (c_X10_says_e (w := w) (J := J) hI hF t_b0 g_b0 v1 v2 0 (by decide) (by omega) (by omega) (by omega)) (Nat.le_of_ble_eq_true rfl) rfl rfl (Nat.le_of_ble_eq_true rfl) ⟨Nat.le_refl _, Nat.le_refl _⟩ (fun x10 h11 => ?_)
      obtain ⟨h8, h9⟩ := h11
      refine q_if_eq C 30 dX7_isNewName_25 (n := 28) rfl rfl (by omega) (fun h12 => ?_) (fun h12 => ?_)
      · refine q_iconst C dX7_isNewName_30 (n := 31) rfl ?_
        refine q_istore C [.ref (w.2.1 + a), .ref (w.2.1 + b), zi v1, zi v2, zi v3, zi 0, .null] dX7_isNewName_31 (n := 33) rfl rfl rfl ?_
        have L_17 : ∀ n18 : Nat, ∀ (u13 : Int), (-2147483648 ≤ u13 ∧ u13 ≤ 2147483647) → (0 ≤ u13 ∧ u13 ≤ v3) → (∀ k, 0 ≤ k → k < u13 → ¬ (M (a + 8) k - M (a + 7) k = v2 - v1 ∧ zLkw (M b) 440 v1 (M (a + 7) k) (M (a + 8) k - M (a + 7) k))) → (v3 - u13 + 1 ≤ (n18 : Int)) → zK w p e 10 0 0 s m args below meth c 7 T Po 33 [.ref (w.2.1 + a), .ref (w.2.1 + b), zi v1, zi v2, zi v3, zi u13, .null] [] (T, M, J, R) := by
          intro n18
          induction n18 with
          | zero =>
            intro u13 h14 h15 h16 hm20
            exfalso
            omega
          | succ n18 ih19 =>
            intro u13 h14 h15 h16 hm20
            refine q_iload C dX7_isNewName_33 (n := 35) rfl rfl ?_
            refine q_iload C dX7_isNewName_35 (n := 37) rfl rfl ?_
            refine q_icmp_ge C 90 dX7_isNewName_37 (n := 40) rfl rfl (by omega) (fun h21 => ?_) (fun h21 => ?_)
            · refine q_iconst C dX7_isNewName_90 (n := 91) rfl ?_
              exact q_zret C dX7_isNewName_91 ⟨rfl, rfl⟩ (by omega) (by rw [hPo]; exact ⟨1, rfl, rfl, by omega, by omega, ⟨fun _ => ⟨by omega, by omega, fun q => by have := h9.mpr q; omega, fun k k0 k1 => h16 k k0 (by omega)⟩, fun _ => rfl⟩⟩)
            · refine q_aload_n C dX7_isNewName_40 (n := 41) rfl rfl ?_
              refine q_getR C dX7_isNewName_41 (n := 44) rfl f_X7_36 h0.1 (hF _ _ _ h0.2.2.2.2.2.2.2.2.2.2.2.2.2.2.2.1) ?_
              refine q_iload C dX7_isNewName_44 (n := 46) rfl rfl ?_
              have g22 := zI.at hI (h0.2.2.2.2.2.2.2.2.2.2.2.2.2.2.2.2.2 u13)
              refine q_iald C dX7_isNewName_46 (n := 47) rfl h0.2.2.2.2.2.2.2.2.2.2.2.2.2.2.2.2.1 (by omega) (v := M (a + 8) u13) rfl ?_
              refine q_aload_n C dX7_isNewName_47 (n := 48) rfl rfl ?_
              refine q_getR C dX7_isNewName_48 (n := 51) rfl f_X7_33 h0.1 (hF _ _ _ h0.2.2.2.2.2.2.2.2.2.2.2.2.1) ?_
              refine q_iload C dX7_isNewName_51 (n := 53) rfl rfl ?_
              have g23 := zI.at hI (h0.2.2.2.2.2.2.2.2.2.2.2.2.2.2.1 u13)
              refine q_iald C dX7_isNewName_53 (n := 54) rfl h0.2.2.2.2.2.2.2.2.2.2.2.2.2.1 (by omega) (v := M (a + 7) u13) rfl ?_
              refine q_isub C dX7_isNewName_54 (n := 55) rfl (v := (M (a + 8) u13) - (M (a + 7) u13)) rfl ?_
              refine q_istore C [.ref (w.2.1 + a), .ref (w.2.1 + b), zi v1, zi v2, zi v3, zi u13, zi ((M (a + 8) u13) - (M (a + 7) u13))] dX7_isNewName_55 (n := 57) rfl rfl rfl ?_
              refine q_iload C dX7_isNewName_57 (n := 59) rfl rfl ?_
              refine q_iload_n C dX7_isNewName_59 (n := 60) rfl rfl ?_
              refine q_iload_n C dX7_isNewName_60 (n := 61) rfl rfl ?_
              refine q_isub C dX7_isNewName_61 (n := 62) rfl (v := v2 - v1) rfl ?_
              have J_25 : (¬ (M (a + 8) u13 - M (a + 7) u13 = v2 - v1 ∧ zLkw (M b) 440 v1 (M (a + 7) u13) (M (a + 8) u13 - M (a + 7) u13))) → zK w p e 10 0 0 s m args below meth c 7 T Po 84 [.ref (w.2.1 + a), .ref (w.2.1 + b), zi v1, zi v2, zi v3, zi u13, .null] [] (T, M, J, R) := by
                intro h24
                refine q_iinc C [.ref (w.2.1 + a), .ref (w.2.1 + b), zi v1, zi v2, zi v3, zi (u13 + 1), .null] dX7_isNewName_84 (n := 87) rfl rfl rfl rfl ?_
                refine q_goto C 33 dX7_isNewName_87 rfl ?_
                exact zK.weak (ih19 (u13 + 1) (by omega) (by omega) (fun k k0 k1 => (Decidable.em (k = u13)).elim (fun z => by rw [z]; exact h24) (fun z => h16 k k0 (by omega))) (by omega)) (zwk_c (zwk_c (zwk_c (zwk_c (zwk_c (zwk_c (zwk_n zwk_e)))))))
              refine q_icmp_ne C 84 dX7_isNewName_62 (n := 65) rfl rfl (by omega) (fun h26 => ?_) (fun h26 => ?_)
              · exact zK.weak (J_25 (fun q => by omega)) (zwk_c (zwk_c (zwk_c (zwk_c (zwk_c (zwk_c (zwk_n zwk_e)))))))
              · refine q_aload_n C dX7_isNewName_65 (n := 66) rfl rfl ?_
                refine q_iload_n C dX7_isNewName_66 (n := 67) rfl rfl ?_
                refine q_aload_n C dX7_isNewName_67 (n := 68) rfl rfl ?_
                refine q_getR C dX7_isNewName_68 (n := 71) rfl f_X7_33 h0.1 (hF _ _ _ h0.2.2.2.2.2.2.2.2.2.2.2.2.1) ?_
                refine q_iload C dX7_isNewName_71 (n := 73) rfl rfl ?_
                refine q_iald C dX7_isNewName_73 (n := 74) rfl h0.2.2.2.2.2.2.2.2.2.2.2.2.2.1 (by omega) (v := M (a + 7) u13) rfl ?_
                refine q_iload C dX7_isNewName_74 (n := 76) rfl rfl ?_
                refine q_callSp C dX7_isNewName_76 (n := 79) rfl m_X7_79 s_yX10_isAlike (c_X10_isAlike_e (w := w) (J := J) hI hF t_b0 g_b0 v1 (M (a + 7) u13) ((M (a + 8) u13) - (M (a + 7) u13)) (by omega) (by omega) (by omega) (by omega)) (Nat.le_of_ble_eq_true rfl) rfl rfl (Nat.le_of_ble_eq_true rfl) ⟨Nat.le_refl _, Nat.le_refl _⟩ (fun x29 h30 => ?_)
                obtain ⟨h27, h28⟩ := h30
                refine q_if_eq C 84 dX7_isNewName_79 (n := 82) rfl rfl (by omega) (fun h31 => ?_) (fun h31 => ?_)
                · exact zK.weak (J_25 (fun q => by have := h28.mpr q.2; omega)) (zwk_c (zwk_c (zwk_c (zwk_c (zwk_c (zwk_c (zwk_n zwk_e)))))))
                · refine q_iconst C dX7_isNewName_82 (n := 83) rfl ?_
                  exact q_zret C dX7_isNewName_83 ⟨rfl, rfl⟩ (by omega) (by rw [hPo]; exact ⟨0, rfl, rfl, by omega, by omega, ⟨fun h => absurd h (by decide), fun h => by exfalso; obtain ⟨h1, h2, h3, h4⟩ := h; exact h4 u13 (by omega) (by omega) ⟨by omega, h28.mp (by omega)⟩⟩⟩)
        exact zK.weak (L_17 _ 0 (by omega) (by omega) (fun k k0 k1 => by omega) (Int.self_le_toNat _)) (zwk_c (zwk_c (zwk_c (zwk_c (zwk_c (zwk_c (zwk_n zwk_e)))))))
      · refine q_iconst C dX7_isNewName_28 (n := 29) rfl ?_
        exact q_zret C dX7_isNewName_29 ⟨rfl, rfl⟩ (by omega) (by rw [hPo]; exact ⟨0, rfl, rfl, by omega, by omega, ⟨fun h => absurd h (by decide), fun h => by exfalso; obtain ⟨h1, h2, h3, h4⟩ := h; exact h3 (h9.mp (by omega))⟩⟩)
theorem zSrB {T : zTl} {F : zRm'} {G : zGt} {a b : Nat} (h : zSource T F G a) (hb : T[b]? = some (51, 440)) : b + 1 ≤ a ∨ a + 9 ≤ b := by
  by_cases z : b + 1 ≤ a ∨ a + 9 ≤ b
  · exact z
  · exfalso
    rcases (show b = a ∨ b = a + 1 ∨ b = a + 2 ∨ b = a + 3 ∨ b = a + 4 ∨ b = a + 5 ∨ b = a + 6 ∨ b = a + 7 ∨ b = a + 8 by omega) with rfl | rfl | rfl | rfl | rfl | rfl | rfl | rfl | rfl
    · rw [h.1] at hb
      exact absurd hb (by decide)
    · rw [h.2.2.1] at hb
      exact absurd hb (by decide)
    · rw [h.2.2.2.2.2.1] at hb
      exact absurd hb (by decide)
    · have e := (h.2.2.2.2.2.2.1 0 (by omega) (by omega)).2.1
      rw [show a + 3 + (0 : Int).toNat = a + 3 from rfl] at e
      rw [e] at hb
      exact absurd hb (by decide)
    · have e := (h.2.2.2.2.2.2.1 1 (by omega) (by omega)).2.1
      rw [show a + 3 + (1 : Int).toNat = a + 4 from rfl] at e
      rw [e] at hb
      exact absurd hb (by decide)
    · have e := (h.2.2.2.2.2.2.1 2 (by omega) (by omega)).2.1
      rw [show a + 3 + (2 : Int).toNat = a + 5 from rfl] at e
      rw [e] at hb
      exact absurd hb (by decide)
    · rw [h.2.2.2.2.2.2.2.2.1] at hb
      exact absurd hb (by decide)
    · rw [h.2.2.2.2.2.2.2.2.2.2.2.2.2.1] at hb
      exact absurd hb (by decide)
    · rw [h.2.2.2.2.2.2.2.2.2.2.2.2.2.2.2.2.1] at hb
      exact absurd hb (by decide)

theorem c_X7_findNames_w {w : zWp} {T : zTl} {M : zMm} {J : zJm} {R : zRm'} {G : zGt} {F : zRm'} {a b tb : Nat} (hI : zI G M) (hF : zF F R) (h0 : zSource T F G a) (t_b0 : T[b]? = some (51, 440)) (g_b0 : ∀ k, G b k = (tb, (-128), 127)) (v2 : Int) (p1 : 0 ≤ v2 ∧ v2 ≤ 440) : zCt w 11 0 0 yX7_findNames cX7_findNames 6 (some .int) [.ref (w.2.1 + a), .ref (w.2.1 + b), zi v2] (T, M, J, R) (zPi T R G (fun x M2 => (zKp G 20 M M2) ∧ (-1 ≤ x ∧ x ≤ 3) ∧ (x = -1 ∨ zNm M2 a x) ∧ (zKr a 9 M M2) ∧ (M2 a 3 = M a 3 ∧ M2 a 4 = M a 4) ∧ (zSwA (zClip (M b) v2) v2 x))) := by
  refine zCt.of rfl (Nat.le_of_ble_eq_true rfl) ?_
  intro p e s m args below meth c C
  obtain ⟨Po, hPo⟩ : ∃ Po, Po = zPi T R G (fun x M2 => (zKp G 20 M M2) ∧ (-1 ≤ x ∧ x ≤ 3) ∧ (x = -1 ∨ zNm M2 a x) ∧ (zKr a 9 M M2) ∧ (M2 a 3 = M a 3 ∧ M2 a 4 = M a 4) ∧ (zSwA (zClip (M b) v2) v2 x)) := ⟨_, rfl⟩
  rw [← hPo]
  have hK0 : zKp G 20 M M := zKp.rf
  have hK1 : zKr a 9 M M := zKr.rf
  have hbd := zSrB h0 t_b0
  show zK w p e 11 0 0 s m args below meth c 6 T Po 0 [.ref (w.2.1 + a), .ref (w.2.1 + b), zi v2, .null, .null, .null] [] (T, M, J, R)
  refine q_iconst C dX7_findNames_0 (n := 1) rfl ?_
  refine q_istore_n C [.ref (w.2.1 + a), .ref (w.2.1 + b), zi v2, zi 0, .null, .null] dX7_findNames_1 (n := 2) rfl rfl rfl ?_
  refine q_iconst C dX7_findNames_2 (n := 3) rfl ?_
  refine q_istore C [.ref (w.2.1 + a), .ref (w.2.1 + b), zi v2, zi 0, zi 0, .null] dX7_findNames_3 (n := 5) rfl rfl rfl ?_
  have L_17 : ∀ n18 : Nat, ∀ (u1 : Int) (u2 : Int) (M3 : zMm) (J4 : zJm), zI G M3 → zKp G 20 M M3 → zKr a 9 M M3 → (-2147483648 ≤ u1 ∧ u1 ≤ 2147483647) → (-2147483648 ≤ u2 ∧ u2 ≤ 2147483647) → (0 ≤ u1 ∧ u1 ≤ 3) → (0 ≤ u2 ∧ u2 ≤ v2) → (zNm M3 a u1) → (M3 a 3 = M a 3) → (M3 a 4 = M a 4) → (∀ i, M3 b i = M b i) → (zNs (zClip (M b) v2) v2 u2 u1 (M3 (a + 7)) (M3 (a + 8))) → (440 - u2 + 1 ≤ (n18 : Int)) → zK w p e 11 0 0 s m args below meth c 6 T Po 5 [.ref (w.2.1 + a), .ref (w.2.1 + b), zi v2, zi u1, zi u2, .null] [] (T, M3, J4, R) := by
    intro n18
    induction n18 with
    | zero =>
      intro u1 u2 M3 J4 hI5 hK6 hK7 h8 h9 h10 h11 h12 h13 h14 h15 h16 hm20
      exfalso
      omega
    | succ n18 ih19 =>
      intro u1 u2 M3 J4 hI5 hK6 hK7 h8 h9 h10 h11 h12 h13 h14 h15 h16 hm20
      refine q_iload C dX7_findNames_5 (n := 7) rfl rfl ?_
      refine q_iload_n C dX7_findNames_7 (n := 8) rfl rfl ?_
      refine q_icmp_ge C 120 dX7_findNames_8 (n := 11) rfl rfl (by omega) (fun h21 => ?_) (fun h21 => ?_)
      · refine q_iload_n C dX7_findNames_120 (n := 121) rfl rfl ?_
        exact q_iret C dX7_findNames_121 ⟨rfl, rfl⟩ (by rw [hPo]; exact ⟨u1, M3, J4, rfl, rfl, hI5, hK6, by omega, (Or.inr h12), hK7, (by have hz22 : M3 a 3 = M a 3 := (h13); have hz23 : M3 a 4 = M a 4 := (h14); omega), (zNs.fin h16 (by omega) (by omega))⟩)
      · refine q_iload C dX7_findNames_11 (n := 13) rfl rfl ?_
        refine q_aload_n C dX7_findNames_13 (n := 14) rfl rfl ?_
        refine q_alen C dX7_findNames_14 (n := 15) rfl ⟨by decide, by decide⟩ t_b0 ?_
        show zK w p e 11 0 0 s m args below meth c 6 T Po 15 [.ref (w.2.1 + a), .ref (w.2.1 + b), zi v2, zi u1, zi u2, .null] [zi 440, zi u2] (T, M3, J4, R)
        refine q_icmp_ge C 120 dX7_findNames_15 (n := 18) rfl rfl (by omega) (fun h24 => ?_) (fun h24 => ?_)
        · refine q_iload_n C dX7_findNames_120 (n := 121) rfl rfl ?_
          exact q_iret C dX7_findNames_121 ⟨rfl, rfl⟩ (by rw [hPo]; exact ⟨u1, M3, J4, rfl, rfl, hI5, hK6, by omega, (Or.inr h12), hK7, (by have hz25 : M3 a 3 = M a 3 := (h13); have hz26 : M3 a 4 = M a 4 := (h14); omega), (zNs.fin h16 (by omega) (by omega))⟩)
        · refine q_iload C dX7_findNames_18 (n := 20) rfl rfl ?_
          refine q_istore C [.ref (w.2.1 + a), .ref (w.2.1 + b), zi v2, zi u1, zi u2, zi u2] dX7_findNames_20 (n := 22) rfl rfl rfl ?_
          have L_31 : ∀ n32 : Nat, ∀ (u27 : Int), (-2147483648 ≤ u27 ∧ u27 ≤ 2147483647) → (u2 ≤ u27 ∧ u27 ≤ v2) → (∀ j, u2 ≤ j → j < u27 → zWd (M b j) = 1) → (441 - u27 ≤ (n32 : Int)) → zK w p e 11 0 0 s m args below meth c 6 T Po 22 [.ref (w.2.1 + a), .ref (w.2.1 + b), zi v2, zi u1, zi u27, zi u2] [] (T, M3, J4, R) := by
            intro n32
            induction n32 with
            | zero =>
              intro u27 h28 h29 h30 hm34
              exfalso
              omega
            | succ n32 ih33 =>
              intro u27 h28 h29 h30 hm34
              refine q_iload C dX7_findNames_22 (n := 24) rfl rfl ?_
              refine q_iload_n C dX7_findNames_24 (n := 25) rfl rfl ?_
              have J_36 : (v2 ≤ u27 ∨ zWd (M b u27) = 0) → zK w p e 11 0 0 s m args below meth c 6 T Po 44 [.ref (w.2.1 + a), .ref (w.2.1 + b), zi v2, zi u1, zi u27, zi u2] [] (T, M3, J4, R) := by
                intro h35
                refine q_iload C dX7_findNames_44 (n := 46) rfl rfl ?_
                refine q_iload C dX7_findNames_46 (n := 48) rfl rfl ?_
                have J_38 : (u27 ≠ u2 ∨ M b u27 = 32) → zK w p e 11 0 0 s m args below meth c 6 T Po 62 [.ref (w.2.1 + a), .ref (w.2.1 + b), zi v2, zi u1, zi u27, zi u2] [] (T, M3, J4, R) := by
                  intro h37
                  refine q_iload C dX7_findNames_62 (n := 64) rfl rfl ?_
                  refine q_iload C dX7_findNames_64 (n := 66) rfl rfl ?_
                  have J_55 : ∀ (u39 : Int) (u40 : Int) (M41 : zMm) (J42 : zJm), zI G M41 → zKp G 20 M M41 → zKr a 9 M M41 → (-2147483648 ≤ u39 ∧ u39 ≤ 2147483647) → (-2147483648 ≤ u40 ∧ u40 ≤ 2147483647) → (0 ≤ u39 ∧ u39 ≤ 3) → (u2 < u40 ∧ u40 ≤ v2) → (zNm M41 a u39) → (M41 a 3 = M a 3) → (M41 a 4 = M a 4) → (∀ i, M41 b i = M b i) → (zNs (zClip (M b) v2) v2 u40 u39 (M41 (a + 7)) (M41 (a + 8))) → zK w p e 11 0 0 s m args below meth c 6 T Po 117 [.ref (w.2.1 + a), .ref (w.2.1 + b), zi v2, zi u39, zi u40, .null] [] (T, M41, J42, R) := by
                    intro u39 u40 M41 J42 hI43 hK44 hK45 h46 h47 h48 h49 h50 h51 h52 h53 h54
                    refine q_goto C 5 dX7_findNames_117 rfl ?_
                    exact zK.weak (ih19 u39 u40 M41 J42 hI43 hK44 hK45 (by omega) (by omega) (by omega) (by omega) h50 (by have hz56 : M41 a 3 = M a 3 := (h51); omega) (by have hz57 : M41 a 4 = M a 4 := (h52); omega) (fun i => (h53 i)) h54 (by omega)) (zwk_c (zwk_c (zwk_c (zwk_c (zwk_c (zwk_n zwk_e))))))
                  refine q_icmp_ne C 75 dX7_findNames_66 (n := 69) rfl rfl (by omega) (fun h58 => ?_) (fun h58 => ?_)
                  · have hrun := zRn.of (g := M b) (m := v2) (f := u2) (t := u27) (by omega) (fun j j0 j1 => h30 j j0 (by omega)) h16.2.1 (by omega)
                    refine q_iload_n C dX7_findNames_75 (n := 76) rfl rfl ?_
                    refine q_iconst C dX7_findNames_76 (n := 77) rfl ?_
                    refine q_icmp_ge C 115 dX7_findNames_77 (n := 80) rfl rfl (by omega) (fun h59 => ?_) (fun h59 => ?_)
                    · refine q_iconst C dX7_findNames_115 (n := 116) rfl ?_
                      exact q_iret C dX7_findNames_116 ⟨rfl, rfl⟩ (by rw [hPo]; exact ⟨(-1), M3, J4, rfl, rfl, hI5, hK6, by omega, (Or.inl rfl), hK7, (by have hz60 : M3 a 3 = M a 3 := (h13); have hz61 : M3 a 4 = M a 4 := (h14); omega), (Or.inl ⟨rfl, zNs.bad h16 hrun (by omega) (Or.inl (by omega))⟩)⟩)
                    · refine q_aload_n C dX7_findNames_80 (n := 81) rfl rfl ?_
                      refine q_aload_n C dX7_findNames_81 (n := 82) rfl rfl ?_
                      refine q_iload C dX7_findNames_82 (n := 84) rfl rfl ?_
                      refine q_iload C dX7_findNames_84 (n := 86) rfl rfl ?_
                      refine q_iload_n C dX7_findNames_86 (n := 87) rfl rfl ?_
                      refine q_callVp C dX7_findNames_87 (n := 90) rfl m_X7_66 v_yX7_isNewName h0.1 ⟨by decide, rfl⟩ (c_X7_isNewName_e (w := w) (J := J4) hI5 hF h0 t_b0 g_b0 u2 u27 u1 (by omega) (by omega)) (Nat.le_of_ble_eq_true rfl) rfl rfl (Nat.le_of_ble_eq_true rfl) ⟨Nat.le_refl _, Nat.le_refl _⟩ (fun x65 h66 => ?_)
                      obtain ⟨h62, h63, h64⟩ := h66
                      have gbq : M3 b = M b := funext (fun i => (h15 i))
                      have hnn := h64
                      rw [gbq] at hnn
                      refine q_if_eq C 115 dX7_findNames_90 (n := 93) rfl rfl (by omega) (fun h67 => ?_) (fun h67 => ?_)
                      · refine q_iconst C dX7_findNames_115 (n := 116) rfl ?_
                        exact q_iret C dX7_findNames_116 ⟨rfl, rfl⟩ (by rw [hPo]; exact ⟨(-1), M3, J4, rfl, rfl, hI5, hK6, by omega, (Or.inl rfl), hK7, (by have hz68 : M3 a 3 = M a 3 := (h13); have hz69 : M3 a 4 = M a 4 := (h14); omega), (Or.inl ⟨rfl, zNs.bad h16 hrun (by omega) (Or.inr (fun q => by have := hnn.mpr q; omega))⟩)⟩)
                      · refine q_aload_n C dX7_findNames_93 (n := 94) rfl rfl ?_
                        refine q_getR C dX7_findNames_94 (n := 97) rfl f_X7_33 h0.1 (hF _ _ _ h0.2.2.2.2.2.2.2.2.2.2.2.2.1) ?_
                        refine q_iload_n C dX7_findNames_97 (n := 98) rfl rfl ?_
                        refine q_iload C dX7_findNames_98 (n := 100) rfl rfl ?_
                        refine q_iast C dX7_findNames_100 (n := 101) rfl h0.2.2.2.2.2.2.2.2.2.2.2.2.2.1 (by omega)  (fun M70 e71 => ?_)
                        have hI72 : zI G M70 := hI5.put e71 (h0.2.2.2.2.2.2.2.2.2.2.2.2.2.2.1 u1) rfl (by omega)
                        have hK73 := hK6.put e71 (h0.2.2.2.2.2.2.2.2.2.2.2.2.2.2.1 u1) (by decide)
                        have hK74 := hK7.put e71 (by omega)
                        refine q_aload_n C dX7_findNames_101 (n := 102) rfl rfl ?_
                        refine q_getR C dX7_findNames_102 (n := 105) rfl f_X7_36 h0.1 (hF _ _ _ h0.2.2.2.2.2.2.2.2.2.2.2.2.2.2.2.1) ?_
                        refine q_iload_n C dX7_findNames_105 (n := 106) rfl rfl ?_
                        refine q_iload C dX7_findNames_106 (n := 108) rfl rfl ?_
                        refine q_iast C dX7_findNames_108 (n := 109) rfl h0.2.2.2.2.2.2.2.2.2.2.2.2.2.2.2.2.1 (by omega)  (fun M75 e76 => ?_)
                        have hI77 : zI G M75 := hI72.put e76 (h0.2.2.2.2.2.2.2.2.2.2.2.2.2.2.2.2.2 u1) rfl (by omega)
                        have hK78 := hK73.put e76 (h0.2.2.2.2.2.2.2.2.2.2.2.2.2.2.2.2.2 u1) (by decide)
                        have hK79 := hK74.put e76 (by omega)
                        refine q_iinc C [.ref (w.2.1 + a), .ref (w.2.1 + b), zi v2, zi (u1 + 1), zi u27, zi u2] dX7_findNames_109 (n := 112) rfl rfl rfl rfl ?_
                        refine q_goto C 117 dX7_findNames_112 rfl ?_
                        exact zK.weak (J_55 (u1 + 1) u27 M75 J4 hI77 hK78 hK79 (by omega) (by omega) (by omega) (by omega) (h12.put e71 e76 (by omega)) (by have hz80 : M75 a 3 = M a 3 := ((zup_p e76 (by omega) _).trans ((zup_p e71 (by omega) _).trans (h13))); omega) (by have hz81 : M75 a 4 = M a 4 := ((zup_p e76 (by omega) _).trans ((zup_p e71 (by omega) _).trans (h14))); omega) (fun i => ((zup_p e76 (by omega) _).trans ((zup_p e71 (by omega) _).trans (h15 i)))) (zNs.good h16 hrun (by omega) (hnn.mp (by omega)) (fun k k0 k1 => (zup_p e76 (by omega) _).trans (zup_n e71 (by omega))) (fun k k0 k1 => (zup_n e76 (by omega)).trans (zup_p e71 (by omega) _)) ((zup_p e76 (by omega) _).trans (zup_s e71)) (zup_s e76) rfl)) (zwk_c (zwk_c (zwk_c (zwk_c (zwk_c (zwk_n zwk_e))))))
                  · refine q_iinc C [.ref (w.2.1 + a), .ref (w.2.1 + b), zi v2, zi u1, zi (u27 + 1), zi u2] dX7_findNames_69 (n := 72) rfl rfl rfl rfl ?_
                    refine q_goto C 117 dX7_findNames_72 rfl ?_
                    exact zK.weak (J_55 u1 (u27 + 1) M3 J4 hI5 hK6 hK7 (by omega) (by omega) (by omega) (by omega) h12 (by have hz82 : M3 a 3 = M a 3 := (h13); omega) (by have hz83 : M3 a 4 = M a 4 := (h14); omega) (fun i => (h15 i)) (by rw [show (u27 + 1 : Int) = u2 + 1 by omega]; exact zNs.blank h16 (by omega) (by rw [zClip_at (by omega), ← (show (u27 : Int) = u2 by omega)]; omega))) (zwk_c (zwk_c (zwk_c (zwk_c (zwk_c (zwk_n zwk_e))))))
                refine q_icmp_ne C 62 dX7_findNames_48 (n := 51) rfl rfl (by omega) (fun h84 => ?_) (fun h84 => ?_)
                · exact zK.weak (J_38 (by omega)) (zwk_c (zwk_c (zwk_c (zwk_c (zwk_c (zwk_c zwk_e))))))
                · refine q_aload_n C dX7_findNames_51 (n := 52) rfl rfl ?_
                  refine q_iload C dX7_findNames_52 (n := 54) rfl rfl ?_
                  have g85 := zI.at hI (g_b0 u27)
                  refine q_bald C dX7_findNames_54 (n := 55) rfl t_b0 (by omega) (v := M b u27) (h15 u27) ?_
                  refine q_bipush C dX7_findNames_55 (n := 57) rfl (x := 32) (by decide) ?_
                  refine q_icmp_eq C 62 dX7_findNames_57 (n := 60) rfl rfl (by omega) (fun h86 => ?_) (fun h86 => ?_)
                  · exact zK.weak (J_38 (by omega)) (zwk_c (zwk_c (zwk_c (zwk_c (zwk_c (zwk_c zwk_e))))))
                  · refine q_iconst C dX7_findNames_60 (n := 61) rfl ?_
                    exact q_iret C dX7_findNames_61 ⟨rfl, rfl⟩ (by rw [hPo]; exact ⟨(-1), M3, J4, rfl, rfl, hI5, hK6, by omega, (Or.inl rfl), hK7, (by have hz87 : M3 a 3 = M a 3 := (h13); have hz88 : M3 a 4 = M a 4 := (h14); omega), (Or.inl ⟨rfl, zFlt.byte (j := u27) (by omega) (by omega) (by omega)⟩)⟩)
              refine q_icmp_ge C 44 dX7_findNames_25 (n := 28) rfl rfl (by omega) (fun h89 => ?_) (fun h89 => ?_)
              · exact zK.weak (J_36 (by omega)) (zwk_c (zwk_c (zwk_c (zwk_c (zwk_c (zwk_c zwk_e))))))
              · refine q_aload_n C dX7_findNames_28 (n := 29) rfl rfl ?_
                refine q_iload C dX7_findNames_29 (n := 31) rfl rfl ?_
                have g90 := zI.at hI (g_b0 u27)
                refine q_bald C dX7_findNames_31 (n := 32) rfl t_b0 (by omega) (v := M b u27) (h15 u27) ?_
                refine q_callSp C dX7_findNames_32 (n := 35) rfl m_X7_61 s_yX10_isWord (c_X10_isWord_e (w := w) (J := J4) hI5 hF (M b u27) (by omega)) (Nat.le_of_ble_eq_true rfl) rfl rfl (Nat.le_of_ble_eq_true rfl) ⟨Nat.le_refl _, Nat.le_refl _⟩ (fun x93 h94 => ?_)
                obtain ⟨h91, h92⟩ := h94
                obtain rfl : x93 = zWd (M b u27) := h91
                refine q_if_eq C 44 dX7_findNames_35 (n := 38) rfl rfl (by omega) (fun h95 => ?_) (fun h95 => ?_)
                · exact zK.weak (J_36 (by omega)) (zwk_c (zwk_c (zwk_c (zwk_c (zwk_c (zwk_c zwk_e))))))
                · refine q_iinc C [.ref (w.2.1 + a), .ref (w.2.1 + b), zi v2, zi u1, zi (u27 + 1), zi u2] dX7_findNames_38 (n := 41) rfl rfl rfl rfl ?_
                  refine q_goto C 22 dX7_findNames_41 rfl ?_
                  exact zK.weak (ih33 (u27 + 1) (by omega) (by omega) (fun j j0 j1 => (Decidable.em (j = u27)).elim (fun z => by rw [z]; omega) (fun z => h30 j j0 (by omega))) (by omega)) (zwk_c (zwk_c (zwk_c (zwk_c (zwk_c (zwk_c zwk_e))))))
          exact zK.weak (L_31 _ u2 (by omega) (by omega) (fun j j0 j1 => by omega) (Int.self_le_toNat _)) (zwk_c (zwk_c (zwk_c (zwk_c (zwk_c (zwk_c zwk_e))))))
  exact zK.weak (L_17 _ 0 0 M J hI hK0 hK1 (by omega) (by omega) (by omega) (by omega) (fun j j0 j1 => by omega) (by omega) (by omega) (fun i => rfl) (zNs.nil (by omega) rfl rfl) (Int.self_le_toNat _)) (zwk_c (zwk_c (zwk_c (zwk_c (zwk_c (zwk_n zwk_e))))))
theorem c_X7_readSwitches_w {w : zWp} {T : zTl} {M : zMm} {J : zJm} {R : zRm'} {G : zGt} {F : zRm'} {a b tb : Nat} (hI : zI G M) (hF : zF F R) (h0 : zSource T F G a) (t_b0 : T[b]? = some (51, 440)) (g_b0 : ∀ k, G b k = (tb, (-128), 127)) (v2 : Int) (p1 : 0 ≤ v2 ∧ v2 ≤ 440) : zCt w 12 0 0 yX7_readSwitches cX7_readSwitches 5 (some .int) [.ref (w.2.1 + a), .ref (w.2.1 + b), zi v2] (T, M, J, R) (zPi T R G (fun x M2 => (zKp G 20 M M2) ∧ (-1 ≤ x ∧ x ≤ 3) ∧ (zKr a 9 M M2) ∧ (x = -1 ∧ M2 a 3 = M a 3 ∧ M2 a 4 = M a 4 ∨ 0 ≤ x ∧ M2 a 3 = x ∧ M2 a 4 = 0) ∧ (zSwA (zClip (M b) v2) v2 x))) := by
  refine zCt.of rfl (Nat.le_of_ble_eq_true rfl) ?_
  intro p e s m args below meth c C
  obtain ⟨Po, hPo⟩ : ∃ Po, Po = zPi T R G (fun x M2 => (zKp G 20 M M2) ∧ (-1 ≤ x ∧ x ≤ 3) ∧ (zKr a 9 M M2) ∧ (x = -1 ∧ M2 a 3 = M a 3 ∧ M2 a 4 = M a 4 ∨ 0 ≤ x ∧ M2 a 3 = x ∧ M2 a 4 = 0) ∧ (zSwA (zClip (M b) v2) v2 x)) := ⟨_, rfl⟩
  rw [← hPo]
  have hK0 : zKp G 20 M M := zKp.rf
  have hK1 : zKr a 9 M M := zKr.rf
  show zK w p e 12 0 0 s m args below meth c 5 T Po 0 [.ref (w.2.1 + a), .ref (w.2.1 + b), zi v2, .null, .null] [] (T, M, J, R)
  refine q_aload_n C dX7_readSwitches_0 (n := 1) rfl rfl ?_
  refine q_aload_n C dX7_readSwitches_1 (n := 2) rfl rfl ?_
  refine q_iload_n C dX7_readSwitches_2 (n := 3) rfl rfl ?_
  refine q_callVi C dX7_readSwitches_3 (n := 6) rfl m_X7_51 v_yX7_findNames h0.1 ⟨by decide, rfl⟩ (c_X7_findNames_w (w := w) (J := J) hI hF h0 t_b0 g_b0 v2 (by omega)) (Nat.le_of_ble_eq_true rfl) rfl rfl (Nat.le_of_ble_eq_true rfl) ⟨Nat.le_refl _, Nat.le_refl _⟩ (fun x10 M6 J7  hI8 h9 => ?_)
  obtain ⟨hk11, h1, h2, h3, h4, h5⟩ := h9
  have hK12 := hK0.tr hk11 (by decide)
  have hK13 := hK1.tr h3
  refine q_istore_n C [.ref (w.2.1 + a), .ref (w.2.1 + b), zi v2, zi x10, .null] dX7_readSwitches_6 (n := 7) rfl rfl rfl ?_
  refine q_iload_n C dX7_readSwitches_7 (n := 8) rfl rfl ?_
  refine q_iconst C dX7_readSwitches_8 (n := 9) rfl ?_
  refine q_icmp_ne C 14 dX7_readSwitches_9 (n := 12) rfl rfl (by omega) (fun h14 => ?_) (fun h14 => ?_)
  · have nm := h2.resolve_left (by omega)
    refine q_iconst C dX7_readSwitches_14 (n := 15) rfl ?_
    refine q_istore C [.ref (w.2.1 + a), .ref (w.2.1 + b), zi v2, zi x10, zi 0] dX7_readSwitches_15 (n := 17) rfl rfl rfl ?_
    have L_24 : ∀ n25 : Nat, ∀ (u15 : Int) (M16 : zMm) (J17 : zJm), zI G M16 → zKp G 20 M M16 → zKr a 9 M M16 → (-2147483648 ≤ u15 ∧ u15 ≤ 2147483647) → (0 ≤ u15 ∧ u15 ≤ 3) → (zNm M16 a x10) → (3 - u15 + 1 ≤ (n25 : Int)) → zK w p e 12 0 0 s m args below meth c 5 T Po 17 [.ref (w.2.1 + a), .ref (w.2.1 + b), .null, zi x10, zi u15] [] (T, M16, J17, R) := by
      intro n25
      induction n25 with
      | zero =>
        intro u15 M16 J17 hI18 hK19 hK20 h21 h22 h23 hm27
        exfalso
        omega
      | succ n25 ih26 =>
        intro u15 M16 J17 hI18 hK19 hK20 h21 h22 h23 hm27
        refine q_iload C dX7_readSwitches_17 (n := 19) rfl rfl ?_
        refine q_iload_n C dX7_readSwitches_19 (n := 20) rfl rfl ?_
        refine q_icmp_ge C 77 dX7_readSwitches_20 (n := 23) rfl rfl (by omega) (fun h28 => ?_) (fun h28 => ?_)
        · refine q_aload_n C dX7_readSwitches_77 (n := 78) rfl rfl ?_
          refine q_iload_n C dX7_readSwitches_78 (n := 79) rfl rfl ?_
          refine q_putI C dX7_readSwitches_79 (n := 82) rfl f_X7_26 h0.1 ⟨rfl, rfl⟩ (fun M29 (e30 : M29 = zup M16 a 3 x10) => ?_)
          have hI31 : zI G M29 := hI18.put e30 h0.2.2.2.2.2.2.2.2.2.2.1 rfl (by omega)
          have hK32 := hK19.put e30 h0.2.2.2.2.2.2.2.2.2.2.1 (by decide)
          have hK33 := hK20.put e30 (by omega)
          refine q_aload_n C dX7_readSwitches_82 (n := 83) rfl rfl ?_
          refine q_iconst C dX7_readSwitches_83 (n := 84) rfl ?_
          refine q_putI C dX7_readSwitches_84 (n := 87) rfl f_X7_30 h0.1 ⟨rfl, rfl⟩ (fun M34 (e35 : M34 = zup M29 a 4 0) => ?_)
          have hI36 : zI G M34 := hI31.put e35 h0.2.2.2.2.2.2.2.2.2.2.2.1 rfl (by omega)
          have hK37 := hK32.put e35 h0.2.2.2.2.2.2.2.2.2.2.2.1 (by decide)
          have hK38 := hK33.put e35 (by omega)
          refine q_iload_n C dX7_readSwitches_87 (n := 88) rfl rfl ?_
          exact q_iret C dX7_readSwitches_88 ⟨rfl, rfl⟩ (by rw [hPo]; exact ⟨x10, M34, J17, rfl, rfl, hI36, hK37, by omega, hK38, (by have hz39 : M34 a 3 = x10 := ((zup_n e35 (by omega)).trans (zup_s e30)); have hz40 : M34 a 4 = 0 := (zup_s e35); omega), h5⟩)
        · have q1 := h23 (u15) (by omega) (by omega)
          refine q_aload_n C dX7_readSwitches_23 (n := 24) rfl rfl ?_
          refine q_getR C dX7_readSwitches_24 (n := 27) rfl f_X7_22 h0.1 (hF _ _ _ h0.2.2.2.2.2.2.2.1) ?_
          refine q_iload C dX7_readSwitches_27 (n := 29) rfl rfl ?_
          refine q_aload_n C dX7_readSwitches_29 (n := 30) rfl rfl ?_
          refine q_getR C dX7_readSwitches_30 (n := 33) rfl f_X7_36 h0.1 (hF _ _ _ h0.2.2.2.2.2.2.2.2.2.2.2.2.2.2.2.1) ?_
          refine q_iload C dX7_readSwitches_33 (n := 35) rfl rfl ?_
          have g41 := zI.at hI18 (h0.2.2.2.2.2.2.2.2.2.2.2.2.2.2.2.2.2 u15)
          refine q_iald C dX7_readSwitches_35 (n := 36) rfl h0.2.2.2.2.2.2.2.2.2.2.2.2.2.2.2.2.1 (by omega) (v := M16 (a + 8) u15) rfl ?_
          refine q_aload_n C dX7_readSwitches_36 (n := 37) rfl rfl ?_
          refine q_getR C dX7_readSwitches_37 (n := 40) rfl f_X7_33 h0.1 (hF _ _ _ h0.2.2.2.2.2.2.2.2.2.2.2.2.1) ?_
          refine q_iload C dX7_readSwitches_40 (n := 42) rfl rfl ?_
          have g42 := zI.at hI18 (h0.2.2.2.2.2.2.2.2.2.2.2.2.2.2.1 u15)
          refine q_iald C dX7_readSwitches_42 (n := 43) rfl h0.2.2.2.2.2.2.2.2.2.2.2.2.2.1 (by omega) (v := M16 (a + 7) u15) rfl ?_
          refine q_isub C dX7_readSwitches_43 (n := 44) rfl (v := (M16 (a + 8) u15) - (M16 (a + 7) u15)) rfl ?_
          refine q_iast C dX7_readSwitches_44 (n := 45) rfl h0.2.2.2.2.2.2.2.2.1 (by omega)  (fun M43 e44 => ?_)
          have hI45 : zI G M43 := hI18.put e44 (h0.2.2.2.2.2.2.2.2.2.1 u15) rfl (by omega)
          have hK46 := hK19.put e44 (h0.2.2.2.2.2.2.2.2.2.1 u15) (by decide)
          have hK47 := hK20.put e44 (by omega)
          refine q_aload_n C dX7_readSwitches_45 (n := 46) rfl rfl ?_
          refine q_aload_n C dX7_readSwitches_46 (n := 47) rfl rfl ?_
          refine q_getR C dX7_readSwitches_47 (n := 50) rfl f_X7_33 h0.1 (hF _ _ _ h0.2.2.2.2.2.2.2.2.2.2.2.2.1) ?_
          refine q_iload C dX7_readSwitches_50 (n := 52) rfl rfl ?_
          refine q_iald C dX7_readSwitches_52 (n := 53) rfl h0.2.2.2.2.2.2.2.2.2.2.2.2.2.1 (by omega) (v := M16 (a + 7) u15) (zup_p e44 (by omega) _) ?_
          refine q_aload_n C dX7_readSwitches_53 (n := 54) rfl rfl ?_
          refine q_getR C dX7_readSwitches_54 (n := 57) rfl f_X7_19 h0.1 (hF _ _ _ h0.2.2.2.2.1) ?_
          refine q_iload C dX7_readSwitches_57 (n := 59) rfl rfl ?_
          refine q_aald7 C dX7_readSwitches_59 (n := 60) rfl h0.2.2.2.2.2.1 (by omega) (hF _ _ _ (h0.2.2.2.2.2.2.1 u15 (by omega) (by omega)).1) ?_
          refine q_iconst C dX7_readSwitches_60 (n := 61) rfl ?_
          refine q_aload_n C dX7_readSwitches_61 (n := 62) rfl rfl ?_
          refine q_getR C dX7_readSwitches_62 (n := 65) rfl f_X7_22 h0.1 (hF _ _ _ h0.2.2.2.2.2.2.2.1) ?_
          refine q_iload C dX7_readSwitches_65 (n := 67) rfl rfl ?_
          refine q_iald C dX7_readSwitches_67 (n := 68) rfl h0.2.2.2.2.2.2.2.2.1 (by omega) (v := (M16 (a + 8) u15) - (M16 (a + 7) u15)) (zup_s e44) ?_
          refine q_copyB C dX7_readSwitches_68 (n := 71) rfl x_X7_55 t_b0 (h0.2.2.2.2.2.2.1 u15 (by omega) (by omega)).2.1 (by omega) (fun j => by have := zI.at hI45 (g_b0 j); omega) (Nat.le_of_ble_eq_true rfl) (Nat.le_of_ble_eq_true rfl) (fun M48 e49 => ?_)
          have hI50 : zI G M48 := hI45.cp e49 g_b0 (h0.2.2.2.2.2.2.1 u15 (by omega) (by omega)).2.2 rfl (by omega)
          have hK51 := hK46.cp e49 (h0.2.2.2.2.2.2.1 u15 (by omega) (by omega)).2.2 (by decide)
          have hK52 := hK47.cp e49 (by omega)
          refine q_iinc C [.ref (w.2.1 + a), .ref (w.2.1 + b), .null, zi x10, zi (u15 + 1)] dX7_readSwitches_71 (n := 74) rfl rfl rfl rfl ?_
          refine q_goto C 17 dX7_readSwitches_74 rfl ?_
          exact zK.weak (ih26 (u15 + 1) M48 J17 hI50 hK51 hK52 (by omega) (by omega) (h23.cg (fun j => ((zcp_p e49 (by omega) _).trans (zup_p e44 (by omega) _))) (fun j => ((zcp_p e49 (by omega) _).trans (zup_p e44 (by omega) _)))) (by omega)) (zwk_c (zwk_c (zwk_n (zwk_c (zwk_c zwk_e)))))
    exact zK.weak (L_24 _ 0 M6 J7 hI8 hK12 hK13 (by omega) (by omega) nm (Int.self_le_toNat _)) (zwk_c (zwk_c (zwk_n (zwk_c (zwk_c zwk_e)))))
  · refine q_iconst C dX7_readSwitches_12 (n := 13) rfl ?_
    exact q_iret C dX7_readSwitches_13 ⟨rfl, rfl⟩ (by rw [hPo]; exact ⟨(-1), M6, J7, rfl, rfl, hI8, hK12, by omega, hK13, (by omega), (by have t := h5; rw [show (x10 : Int) = (-1) by omega] at t; exact t)⟩)
theorem c_X11_switches_w {w : zWp} {T : zTl} {M : zMm} {J : zJm} {R : zRm'} {G : zGt} {F : zRm'} {a : Nat} (hI : zI G M) (hF : zF F R) (h0 : zHideSets T F G a) (hst : R a 8 = none ∨ ∃ sy, R a 8 = some sy ∧ zStudy T F G sy) : zCt w 13 0 0 yX11_switches cX11_switches 3 (some .int) [.ref (w.2.1 + a)] (T, M, J, R) (zPi T R G (fun x M2 => (zKp G 20 M M2) ∧ (M2 a 1 = 0) ∧ (x = -1 ∧ M2 (a + 2) 3 = M (a + 2) 3 ∧ M2 (a + 2) 4 = M (a + 2) 4 ∨ 0 ≤ x ∧ M2 (a + 2) 3 = x ∧ M2 (a + 2) 4 = 0) ∧ (zOu a (a + 2) 9 M M2) ∧ (zSwA (zClip (M (a + 1)) (M a 1)) (M a 1) x))) := by
  refine zCt.of rfl (Nat.le_of_ble_eq_true rfl) ?_
  intro p e s m args below meth c C
  obtain ⟨Po, hPo⟩ : ∃ Po, Po = zPi T R G (fun x M2 => (zKp G 20 M M2) ∧ (M2 a 1 = 0) ∧ (x = -1 ∧ M2 (a + 2) 3 = M (a + 2) 3 ∧ M2 (a + 2) 4 = M (a + 2) 4 ∨ 0 ≤ x ∧ M2 (a + 2) 3 = x ∧ M2 (a + 2) 4 = 0) ∧ (zOu a (a + 2) 9 M M2) ∧ (zSwA (zClip (M (a + 1)) (M a 1)) (M a 1) x)) := ⟨_, rfl⟩
  rw [← hPo]
  have hK0 : zKp G 20 M M := zKp.rf
  show zK w p e 13 0 0 s m args below meth c 3 T Po 0 [.ref (w.2.1 + a), .null, .null] [] (T, M, J, R)
  refine q_aload_n C dX11_switches_0 (n := 1) rfl rfl ?_
  refine q_callVi C dX11_switches_1 (n := 4) rfl m_X11_54 v_yX11_takeTape h0.1 ⟨by decide, rfl⟩ (c_X11_takeTape (w := w) (J := J) hI hF h0) (Nat.le_of_ble_eq_true rfl) rfl rfl (Nat.le_of_ble_eq_true rfl) ⟨Nat.le_refl _, Nat.le_refl _⟩ (fun x9 M5 J6  hI7 h8 => ?_)
  obtain ⟨hk10, h1, h2, h3, h4⟩ := h8
  have hK11 := hK0.tr hk10 (by decide)
  refine q_istore_n C [.ref (w.2.1 + a), zi x9, .null] dX11_switches_4 (n := 5) rfl rfl rfl ?_
  refine q_aload_n C dX11_switches_5 (n := 6) rfl rfl ?_
  refine q_getR C dX11_switches_6 (n := 9) rfl f_X11_20 h0.1 (hF _ _ _ h0.2.2.2.2.2.1) ?_
  refine q_aload_n C dX11_switches_9 (n := 10) rfl rfl ?_
  refine q_getR C dX11_switches_10 (n := 13) rfl f_X11_9 h0.1 (hF _ _ _ h0.2.1) ?_
  refine q_iload_n C dX11_switches_13 (n := 14) rfl rfl ?_
  refine q_callVi C dX11_switches_14 (n := 17) rfl m_X11_88 v_yX7_readSwitches h0.2.2.2.2.2.2.1.1 ⟨by decide, rfl⟩ (c_X7_readSwitches_w (w := w) (J := J6) hI7 hF h0.2.2.2.2.2.2.1 h0.2.2.1 h0.2.2.2.1 x9 (by omega)) (Nat.le_of_ble_eq_true rfl) rfl rfl (Nat.le_of_ble_eq_true rfl) ⟨Nat.le_refl _, Nat.le_refl _⟩ (fun x20 M16 J17  hI18 h19 => ?_)
  obtain ⟨hk21, h12, h13, h14, h15⟩ := h19
  have hK22 := hK11.tr hk21 (by decide)
  have hz23 : M5 (a + 2) 3 = M (a + 2) 3 := (hk10 _ _ (zle_t h0.2.2.2.2.2.2.1.2.2.2.2.2.2.2.2.2.2.1 (by decide)))
  have hz24 : M5 (a + 2) 4 = M (a + 2) 4 := (hk10 _ _ (zle_t h0.2.2.2.2.2.2.1.2.2.2.2.2.2.2.2.2.2.2.1 (by decide)))
  have hsw := h15
  rw [zClip_cg (g := M5 (a + 1)) (h := M (a + 1)) (fun j _ _ => (h4 j)), show x9 = M a 1 by omega] at hsw
  refine q_istore_n C [.ref (w.2.1 + a), zi x9, zi x20] dX11_switches_17 (n := 18) rfl rfl rfl ?_
  refine q_iload_n C dX11_switches_18 (n := 19) rfl rfl ?_
  refine q_iconst C dX11_switches_19 (n := 20) rfl ?_
  have J_32 : ∀ (M25 : zMm) (J26 : zJm), zI G M25 → zKp G 20 M M25 → (M25 a 1 = 0) → (x20 = -1 ∧ M25 (a + 2) 3 = M (a + 2) 3 ∧ M25 (a + 2) 4 = M (a + 2) 4 ∨ 0 ≤ x20 ∧ M25 (a + 2) 3 = x20 ∧ M25 (a + 2) 4 = 0) → (zOu a (a + 2) 9 M M25) → zK w p e 13 0 0 s m args below meth c 3 T Po 27 [.null, .null, zi x20] [] (T, M25, J26, R) := by
    intro M25 J26 hI27 hK28 h29 h30 h31
    refine q_iload_n C dX11_switches_27 (n := 28) rfl rfl ?_
    exact q_iret C dX11_switches_28 ⟨rfl, rfl⟩ (by rw [hPo]; exact ⟨x20, M25, J26, rfl, rfl, hI27, hK28, (by have hz : M25 a 1 = M25 a 1 := rfl; omega), (by omega), h31, hsw⟩)
  refine q_icmp_eq C 27 dX11_switches_20 (n := 23) rfl rfl (by omega) (fun h33 => ?_) (fun h33 => ?_)
  · exact zK.weak (J_32 M16 J17 hI18 hK22 (by have hz : M16 a 1 = M5 a 1 := (h13 _ _ (by omega)); omega) (by omega) (zOu.rg (zOu.kp (zOu.rf (r := (a + 2)) (n := 9)) h0 hk10 (by decide)) h13 (by omega))) (zwk_n (zwk_n (zwk_c zwk_e)))
  · refine q_aload_n C dX11_switches_23 (n := 24) rfl rfl ?_
    refine q_callVv C dX11_switches_24 (n := 27) rfl m_X11_76 v_yX11_forgetStudy h0.1 ⟨by decide, rfl⟩ (c_X11_forgetStudy (w := w) (J := J17) hI18 hF h0 (by assumption)) (Nat.le_of_ble_eq_true rfl) rfl rfl (Nat.le_of_ble_eq_true rfl) ⟨Nat.le_refl _, Nat.le_refl _⟩ (fun M34 J35  hI36 h37 => ?_)
    have hK39 := hK22.tr h37 (by decide)
    exact zK.weak (J_32 M34 J35 hI36 hK39 (by have hz : M34 a 1 = M5 a 1 := ((h37 _ _ (zle_t h0.2.2.2.2.1 (by decide))).trans (h13 _ _ (by omega))); omega) (by have hz3 : M34 (a + 2) 3 = M16 (a + 2) 3 := (h37 _ _ (zle_t h0.2.2.2.2.2.2.1.2.2.2.2.2.2.2.2.2.2.1 (by decide))); have hz4 : M34 (a + 2) 4 = M16 (a + 2) 4 := (h37 _ _ (zle_t h0.2.2.2.2.2.2.1.2.2.2.2.2.2.2.2.2.2.2.1 (by decide))); omega) (zOu.kp (zOu.rg (zOu.kp (zOu.rf (r := (a + 2)) (n := 9)) h0 hk10 (by decide)) h13 (by omega)) h0 h37 (by decide))) (zwk_n (zwk_n (zwk_c zwk_e)))
theorem c_X12_isStart_e {w : zWp} {T : zTl} {M : zMm} {J : zJm} {R : zRm'} {G : zGt} {F : zRm'}  (hI : zI G M) (hF : zF F R) (v1 : Int) (p1 : -2147483648 ≤ v1 ∧ v1 ≤ 2147483647) : zCt w 1 0 0 yX12_isStart cX12_isStart 1 (some .boolean) [zi v1] (T, M, J, R) (zPp T M J R (fun x => (x = 0 ∨ x = 1) ∧ (x = 1 ↔ (97 ≤ v1 ∧ v1 ≤ 122 ∨ 65 ≤ v1 ∧ v1 ≤ 90 ∨ v1 = 95)))) := by
  refine zCt.of rfl (Nat.le_of_ble_eq_true rfl) ?_
  intro p e s m args below meth c C
  obtain ⟨Po, hPo⟩ : ∃ Po, Po = zPp T M J R (fun x => (x = 0 ∨ x = 1) ∧ (x = 1 ↔ (97 ≤ v1 ∧ v1 ≤ 122 ∨ 65 ≤ v1 ∧ v1 ≤ 90 ∨ v1 = 95))) := ⟨_, rfl⟩
  rw [← hPo]
  show zK w p e 1 0 0 s m args below meth c 1 T Po 0 [zi v1] [] (T, M, J, R)
  refine q_iload_n C dX12_isStart_0 (n := 1) rfl rfl ?_
  refine q_bipush C dX12_isStart_1 (n := 3) rfl (x := 97) (by decide) ?_
  have J_2 : (v1 < 97 ∨ 122 < v1) → zK w p e 1 0 0 s m args below meth c 1 T Po 12 [zi v1] [] (T, M, J, R) := by
    intro h1
    refine q_iload_n C dX12_isStart_12 (n := 13) rfl rfl ?_
    refine q_bipush C dX12_isStart_13 (n := 15) rfl (x := 65) (by decide) ?_
    have J_4 : ((v1 < 97 ∨ 122 < v1) ∧ (v1 < 65 ∨ 90 < v1)) → zK w p e 1 0 0 s m args below meth c 1 T Po 24 [zi v1] [] (T, M, J, R) := by
      intro h3
      refine q_iload_n C dX12_isStart_24 (n := 25) rfl rfl ?_
      refine q_bipush C dX12_isStart_25 (n := 27) rfl (x := 95) (by decide) ?_
      refine q_icmp_ne C 34 dX12_isStart_27 (n := 30) rfl rfl (by omega) (fun h5 => ?_) (fun h5 => ?_)
      · refine q_iconst C dX12_isStart_34 (n := 35) rfl ?_
        exact q_zret C dX12_isStart_35 ⟨rfl, rfl⟩ (by omega) (by rw [hPo]; exact ⟨0, rfl, rfl, by omega, by omega⟩)
      · refine q_iconst C dX12_isStart_30 (n := 31) rfl ?_
        refine q_goto C 35 dX12_isStart_31 rfl ?_
        exact q_zret C dX12_isStart_35 ⟨rfl, rfl⟩ (by omega) (by rw [hPo]; exact ⟨1, rfl, rfl, by omega, by omega⟩)
    refine q_icmp_lt C 24 dX12_isStart_15 (n := 18) rfl rfl (by omega) (fun h6 => ?_) (fun h6 => ?_)
    · exact zK.weak (J_4 (by omega)) (zwk_c zwk_e)
    · refine q_iload_n C dX12_isStart_18 (n := 19) rfl rfl ?_
      refine q_bipush C dX12_isStart_19 (n := 21) rfl (x := 90) (by decide) ?_
      refine q_icmp_le C 30 dX12_isStart_21 (n := 24) rfl rfl (by omega) (fun h7 => ?_) (fun h7 => ?_)
      · refine q_iconst C dX12_isStart_30 (n := 31) rfl ?_
        refine q_goto C 35 dX12_isStart_31 rfl ?_
        exact q_zret C dX12_isStart_35 ⟨rfl, rfl⟩ (by omega) (by rw [hPo]; exact ⟨1, rfl, rfl, by omega, by omega⟩)
      · exact zK.weak (J_4 (by omega)) (zwk_c zwk_e)
  refine q_icmp_lt C 12 dX12_isStart_3 (n := 6) rfl rfl (by omega) (fun h8 => ?_) (fun h8 => ?_)
  · exact zK.weak (J_2 (by omega)) (zwk_c zwk_e)
  · refine q_iload_n C dX12_isStart_6 (n := 7) rfl rfl ?_
    refine q_bipush C dX12_isStart_7 (n := 9) rfl (x := 122) (by decide) ?_
    refine q_icmp_le C 30 dX12_isStart_9 (n := 12) rfl rfl (by omega) (fun h9 => ?_) (fun h9 => ?_)
    · refine q_iconst C dX12_isStart_30 (n := 31) rfl ?_
      refine q_goto C 35 dX12_isStart_31 rfl ?_
      exact q_zret C dX12_isStart_35 ⟨rfl, rfl⟩ (by omega) (by rw [hPo]; exact ⟨1, rfl, rfl, by omega, by omega⟩)
    · exact zK.weak (J_2 (by omega)) (zwk_c zwk_e)
theorem c_X12_isDigit_e {w : zWp} {T : zTl} {M : zMm} {J : zJm} {R : zRm'} {G : zGt} {F : zRm'}  (hI : zI G M) (hF : zF F R) (v1 : Int) (p1 : -2147483648 ≤ v1 ∧ v1 ≤ 2147483647) : zCt w 1 0 0 yX12_isDigit cX12_isDigit 1 (some .boolean) [zi v1] (T, M, J, R) (zPp T M J R (fun x => (x = 0 ∨ x = 1) ∧ (x = 0 ∨ 48 ≤ v1 ∧ v1 ≤ 57) ∧ (x = 1 ↔ 48 ≤ v1 ∧ v1 ≤ 57))) := by
  refine zCt.of rfl (Nat.le_of_ble_eq_true rfl) ?_
  intro p e s m args below meth c C
  obtain ⟨Po, hPo⟩ : ∃ Po, Po = zPp T M J R (fun x => (x = 0 ∨ x = 1) ∧ (x = 0 ∨ 48 ≤ v1 ∧ v1 ≤ 57) ∧ (x = 1 ↔ 48 ≤ v1 ∧ v1 ≤ 57)) := ⟨_, rfl⟩
  rw [← hPo]
  show zK w p e 1 0 0 s m args below meth c 1 T Po 0 [zi v1] [] (T, M, J, R)
  refine q_iload_n C dX12_isDigit_0 (n := 1) rfl rfl ?_
  refine q_bipush C dX12_isDigit_1 (n := 3) rfl (x := 48) (by decide) ?_
  refine q_icmp_lt C 16 dX12_isDigit_3 (n := 6) rfl rfl (by omega) (fun h1 => ?_) (fun h1 => ?_)
  · refine q_iconst C dX12_isDigit_16 (n := 17) rfl ?_
    exact q_zret C dX12_isDigit_17 ⟨rfl, rfl⟩ (by omega) (by rw [hPo]; exact ⟨0, rfl, rfl, by omega, by omega, by omega⟩)
  · refine q_iload_n C dX12_isDigit_6 (n := 7) rfl rfl ?_
    refine q_bipush C dX12_isDigit_7 (n := 9) rfl (x := 57) (by decide) ?_
    refine q_icmp_gt C 16 dX12_isDigit_9 (n := 12) rfl rfl (by omega) (fun h2 => ?_) (fun h2 => ?_)
    · refine q_iconst C dX12_isDigit_16 (n := 17) rfl ?_
      exact q_zret C dX12_isDigit_17 ⟨rfl, rfl⟩ (by omega) (by rw [hPo]; exact ⟨0, rfl, rfl, by omega, by omega, by omega⟩)
    · refine q_iconst C dX12_isDigit_12 (n := 13) rfl ?_
      refine q_goto C 17 dX12_isDigit_13 rfl ?_
      exact q_zret C dX12_isDigit_17 ⟨rfl, rfl⟩ (by omega) (by rw [hPo]; exact ⟨1, rfl, rfl, by omega, by omega, by omega⟩)
theorem c_X12_areTape_e {w : zWp} {T : zTl} {M : zMm} {J : zJm} {R : zRm'} {G : zGt} {F : zRm'} {a : Nat} (hI : zI G M) (hF : zF F R) (h0 : zModel T F G a) (v1 : Int) (v2 : Int) (v3 : Int) (v4 : Int) (p1 : 0 ≤ v1 ∧ 0 ≤ v2 ∧ v1 + v2 ≤ 440 ∧ 0 ≤ v3 ∧ 0 ≤ v4 ∧ v3 + v4 ≤ 440) : zCt w 1 0 0 yX12_areTape cX12_areTape 7 (some .boolean) [.ref (w.2.1 + a), zi v1, zi v2, zi v3, zi v4] (T, M, J, R) (zPp T M J R (fun x => (x = 0 ∨ x = 1) ∧ (x = 1 ↔ zEq (M (a + 1)) v1 v2 v3 v4))) := by
  refine zCt.of rfl (Nat.le_of_ble_eq_true rfl) ?_
  intro p e s m args below meth c C
  obtain ⟨Po, hPo⟩ : ∃ Po, Po = zPp T M J R (fun x => (x = 0 ∨ x = 1) ∧ (x = 1 ↔ zEq (M (a + 1)) v1 v2 v3 v4)) := ⟨_, rfl⟩
  rw [← hPo]
  show zK w p e 1 0 0 s m args below meth c 7 T Po 0 [.ref (w.2.1 + a), zi v1, zi v2, zi v3, zi v4, .null, .null] [] (T, M, J, R)
  refine q_iload_n C dX12_areTape_0 (n := 1) rfl rfl ?_
  refine q_iload C dX12_areTape_1 (n := 3) rfl rfl ?_
  have J_6 : ∀ (u1 : Int), (-2147483648 ≤ u1 ∧ u1 ≤ 2147483647) → (u1 = 0 ∨ u1 = 1) → (u1 = 0 ∨ v2 = v4) → (v2 ≠ v4 ∨ u1 = 1) → zK w p e 1 0 0 s m args below meth c 7 T Po 11 [.ref (w.2.1 + a), zi v1, zi v2, zi v3, .null, .null, .null] [zi u1] (T, M, J, R) := by
    intro u1 h2 h3 h4 h5
    refine q_istore C [.ref (w.2.1 + a), zi v1, zi v2, zi v3, .null, zi u1, .null] dX12_areTape_11 (n := 13) rfl rfl rfl ?_
    refine q_iconst C dX12_areTape_13 (n := 14) rfl ?_
    refine q_istore C [.ref (w.2.1 + a), zi v1, zi v2, zi v3, .null, zi u1, zi 0] dX12_areTape_14 (n := 16) rfl rfl rfl ?_
    have L_16 : ∀ n17 : Nat, ∀ (u7 : Int) (u8 : Int), (-2147483648 ≤ u7 ∧ u7 ≤ 2147483647) → (-2147483648 ≤ u8 ∧ u8 ≤ 2147483647) → (0 ≤ u8 ∧ u8 ≤ v2) → (u7 = 0 ∨ u7 = 1) → (u7 = 0 ∨ v2 = v4) → (zEq (M (a + 1)) v1 v2 v3 v4 → u7 = 1) → (u7 = 1 → ∀ j, 0 ≤ j → j < u8 → M (a + 1) (v1 + j) = M (a + 1) (v3 + j)) → (v2 - u8 + 1 ≤ (n17 : Int)) → zK w p e 1 0 0 s m args below meth c 7 T Po 16 [.ref (w.2.1 + a), zi v1, zi v2, zi v3, .null, zi u7, zi u8] [] (T, M, J, R) := by
      intro n17
      induction n17 with
      | zero =>
        intro u7 u8 h9 h10 h11 h12 h13 h14 h15 hm19
        exfalso
        omega
      | succ n17 ih18 =>
        intro u7 u8 h9 h10 h11 h12 h13 h14 h15 hm19
        refine q_iload C dX12_areTape_16 (n := 18) rfl rfl ?_
        refine q_iload_n C dX12_areTape_18 (n := 19) rfl rfl ?_
        have J_21 : (u7 = 0 ∨ v2 ≤ u8) → zK w p e 1 0 0 s m args below meth c 7 T Po 61 [.null, .null, .null, .null, .null, zi u7, .null] [] (T, M, J, R) := by
          intro h20
          refine q_iload C dX12_areTape_61 (n := 63) rfl rfl ?_
          exact q_zret C dX12_areTape_63 ⟨rfl, rfl⟩ (by omega) (by rw [hPo]; exact ⟨u7, rfl, rfl, by omega, ⟨fun z => ⟨by omega, fun j j0 j1 => h15 z j j0 (by omega)⟩, fun z => h14 z⟩⟩)
        refine q_icmp_ge C 61 dX12_areTape_19 (n := 22) rfl rfl (by omega) (fun h22 => ?_) (fun h22 => ?_)
        · exact zK.weak (J_21 (by omega)) (zwk_n (zwk_n (zwk_n (zwk_n (zwk_n (zwk_c (zwk_n zwk_e)))))))
        · refine q_iload C dX12_areTape_22 (n := 24) rfl rfl ?_
          refine q_if_eq C 61 dX12_areTape_24 (n := 27) rfl rfl (by omega) (fun h23 => ?_) (fun h23 => ?_)
          · exact zK.weak (J_21 (by omega)) (zwk_n (zwk_n (zwk_n (zwk_n (zwk_n (zwk_c (zwk_n zwk_e)))))))
          · refine q_aload_n C dX12_areTape_27 (n := 28) rfl rfl ?_
            refine q_getR C dX12_areTape_28 (n := 31) rfl f_X12_13 (zM0 h0) (hF _ _ _ (zM2 h0)) ?_
            refine q_iload_n C dX12_areTape_31 (n := 32) rfl rfl ?_
            refine q_iload C dX12_areTape_32 (n := 34) rfl rfl ?_
            refine q_iadd C dX12_areTape_34 (n := 35) rfl (v := v1 + u8) rfl ?_
            have g24 := zI.at hI ((zM4 h0) (v1 + u8))
            refine q_bald C dX12_areTape_35 (n := 36) rfl (zM3 h0) (by omega) (v := M (a + 1) (v1 + u8)) rfl ?_
            refine q_aload_n C dX12_areTape_36 (n := 37) rfl rfl ?_
            refine q_getR C dX12_areTape_37 (n := 40) rfl f_X12_13 (zM0 h0) (hF _ _ _ (zM2 h0)) ?_
            refine q_iload_n C dX12_areTape_40 (n := 41) rfl rfl ?_
            refine q_iload C dX12_areTape_41 (n := 43) rfl rfl ?_
            refine q_iadd C dX12_areTape_43 (n := 44) rfl (v := v3 + u8) rfl ?_
            have g25 := zI.at hI ((zM4 h0) (v3 + u8))
            refine q_bald C dX12_areTape_44 (n := 45) rfl (zM3 h0) (by omega) (v := M (a + 1) (v3 + u8)) rfl ?_
            have J_32 : ∀ (u26 : Int), (-2147483648 ≤ u26 ∧ u26 ≤ 2147483647) → (u26 = 0 ∨ u26 = 1) → (u26 = 0 ∨ u26 = 1) → (zEq (M (a + 1)) v1 v2 v3 v4 → u26 = 1) → (u26 = 1 → ∀ j, 0 ≤ j → j < u8 + 1 → M (a + 1) (v1 + j) = M (a + 1) (v3 + j)) → zK w p e 1 0 0 s m args below meth c 7 T Po 53 [.ref (w.2.1 + a), zi v1, zi v2, zi v3, .null, .null, zi u8] [zi u26] (T, M, J, R) := by
              intro u26 h27 h28 h29 h30 h31
              refine q_istore C [.ref (w.2.1 + a), zi v1, zi v2, zi v3, .null, zi u26, zi u8] dX12_areTape_53 (n := 55) rfl rfl rfl ?_
              refine q_iinc C [.ref (w.2.1 + a), zi v1, zi v2, zi v3, .null, zi u26, zi (u8 + 1)] dX12_areTape_55 (n := 58) rfl rfl rfl rfl ?_
              refine q_goto C 16 dX12_areTape_58 rfl ?_
              exact zK.weak (ih18 u26 (u8 + 1) (by omega) (by omega) (by omega) (by omega) (by omega) h30 h31 (by omega)) (zwk_c (zwk_c (zwk_c (zwk_c (zwk_n (zwk_c (zwk_c zwk_e)))))))
            refine q_icmp_ne C 52 dX12_areTape_45 (n := 48) rfl rfl (by omega) (fun h33 => ?_) (fun h33 => ?_)
            · refine q_iconst C dX12_areTape_52 (n := 53) rfl ?_
              exact zK.weak (J_32 0 (by omega) (by omega) (by omega) (fun z => by have z3 := z.2 u8 (by omega) (by omega); omega) (fun z j j0 j1 => (Decidable.em (j = u8)).elim (fun y => by rw [y]; omega) (fun y => h15 (by omega) j j0 (by omega)))) (zwk_c (zwk_c (zwk_c (zwk_c (zwk_n (zwk_n (zwk_c zwk_e)))))))
            · refine q_iconst C dX12_areTape_48 (n := 49) rfl ?_
              refine q_goto C 53 dX12_areTape_49 rfl ?_
              exact zK.weak (J_32 1 (by omega) (by omega) (by omega) (fun z => by have z3 := z.2 u8 (by omega) (by omega); omega) (fun z j j0 j1 => (Decidable.em (j = u8)).elim (fun y => by rw [y]; omega) (fun y => h15 (by omega) j j0 (by omega)))) (zwk_c (zwk_c (zwk_c (zwk_c (zwk_n (zwk_n (zwk_c zwk_e)))))))
    exact zK.weak (L_16 _ u1 0 (by omega) (by omega) (by omega) (by omega) (by omega) (fun z => by obtain ⟨z1, z2⟩ := z; omega) (fun _ j j0 j1 => by omega) (Int.self_le_toNat _)) (zwk_c (zwk_c (zwk_c (zwk_c (zwk_n (zwk_c (zwk_c zwk_e)))))))
  refine q_icmp_ne C 10 dX12_areTape_3 (n := 6) rfl rfl (by omega) (fun h34 => ?_) (fun h34 => ?_)
  · refine q_iconst C dX12_areTape_10 (n := 11) rfl ?_
    exact zK.weak (J_6 0 (by omega) (by omega) (by omega) (by omega)) (zwk_c (zwk_c (zwk_c (zwk_c (zwk_n (zwk_n (zwk_n zwk_e)))))))
  · refine q_iconst C dX12_areTape_6 (n := 7) rfl ?_
    refine q_goto C 11 dX12_areTape_7 rfl ?_
    exact zK.weak (J_6 1 (by omega) (by omega) (by omega) (by omega)) (zwk_c (zwk_c (zwk_c (zwk_c (zwk_n (zwk_n (zwk_n zwk_e)))))))
theorem c_X12_isTapeDefined_e {w : zWp} {T : zTl} {M : zMm} {J : zJm} {R : zRm'} {G : zGt} {F : zRm'} {a : Nat} (hI : zI G M) (hF : zF F R) (h0 : zModel T F G a) (v1 : Int) (v2 : Int) (p1 : 0 ≤ v1 ∧ 0 ≤ v2 ∧ v1 + v2 ≤ 440) : zCt w 1 0 0 yX12_isTapeDefined cX12_isTapeDefined 5 (some .boolean) [.ref (w.2.1 + a), zi v1, zi v2] (T, M, J, R) (zPp T M J R (fun x => (x = 0 ∨ x = 1) ∧ (x = 1 ↔ zTdf (M (a + 1)) v1 v2))) := by
  refine zCt.of rfl (Nat.le_of_ble_eq_true rfl) ?_
  intro p e s m args below meth c C
  obtain ⟨Po, hPo⟩ : ∃ Po, Po = zPp T M J R (fun x => (x = 0 ∨ x = 1) ∧ (x = 1 ↔ zTdf (M (a + 1)) v1 v2)) := ⟨_, rfl⟩
  rw [← hPo]
  show zK w p e 1 0 0 s m args below meth c 5 T Po 0 [.ref (w.2.1 + a), zi v1, zi v2, .null, .null] [] (T, M, J, R)
  refine q_iload_n C dX12_isTapeDefined_0 (n := 1) rfl rfl ?_
  refine q_bipush C dX12_isTapeDefined_1 (n := 3) rfl (x := 7) (by decide) ?_
  have J_6 : ∀ (u1 : Int), (-2147483648 ≤ u1 ∧ u1 ≤ 2147483647) → (u1 = 0 ∨ u1 = 1) → (u1 = 0 ∨ v2 = 7) → (v2 ≠ 7 ∨ u1 = 1) → zK w p e 1 0 0 s m args below meth c 5 T Po 11 [.ref (w.2.1 + a), zi v1, .null, .null, .null] [zi u1] (T, M, J, R) := by
    intro u1 h2 h3 h4 h5
    refine q_istore_n C [.ref (w.2.1 + a), zi v1, .null, zi u1, .null] dX12_isTapeDefined_11 (n := 12) rfl rfl rfl ?_
    refine q_iconst C dX12_isTapeDefined_12 (n := 13) rfl ?_
    refine q_istore C [.ref (w.2.1 + a), zi v1, .null, zi u1, zi 0] dX12_isTapeDefined_13 (n := 15) rfl rfl rfl ?_
    have L_16 : ∀ n17 : Nat, ∀ (u7 : Int) (u8 : Int), (-2147483648 ≤ u7 ∧ u7 ≤ 2147483647) → (-2147483648 ≤ u8 ∧ u8 ≤ 2147483647) → (0 ≤ u8 ∧ u8 ≤ 7) → (u7 = 0 ∨ u7 = 1) → (u7 = 0 ∨ v2 = 7) → (zTdf (M (a + 1)) v1 v2 → u7 = 1) → (u7 = 1 → ∀ j, 0 ≤ j → j < u8 → M (a + 1) (v1 + j) = zStt 200 j) → (7 - u8 + 1 ≤ (n17 : Int)) → zK w p e 1 0 0 s m args below meth c 5 T Po 15 [.ref (w.2.1 + a), zi v1, .null, zi u7, zi u8] [] (T, M, J, R) := by
      intro n17
      induction n17 with
      | zero =>
        intro u7 u8 h9 h10 h11 h12 h13 h14 h15 hm19
        exfalso
        omega
      | succ n17 ih18 =>
        intro u7 u8 h9 h10 h11 h12 h13 h14 h15 hm19
        refine q_iload C dX12_isTapeDefined_15 (n := 17) rfl rfl ?_
        refine q_bipush C dX12_isTapeDefined_17 (n := 19) rfl (x := 7) (by decide) ?_
        have J_21 : (u7 = 0 ∨ 7 ≤ u8) → zK w p e 1 0 0 s m args below meth c 5 T Po 56 [.null, .null, .null, zi u7, .null] [] (T, M, J, R) := by
          intro h20
          refine q_iload_n C dX12_isTapeDefined_56 (n := 57) rfl rfl ?_
          exact q_zret C dX12_isTapeDefined_57 ⟨rfl, rfl⟩ (by omega) (by rw [hPo]; exact ⟨u7, rfl, rfl, by omega, ⟨fun z => ⟨by omega, fun j j0 j1 => h15 z j j0 (by omega)⟩, fun z => h14 z⟩⟩)
        refine q_icmp_ge C 56 dX12_isTapeDefined_19 (n := 22) rfl rfl (by omega) (fun h22 => ?_) (fun h22 => ?_)
        · exact zK.weak (J_21 (by omega)) (zwk_n (zwk_n (zwk_n (zwk_c (zwk_n zwk_e)))))
        · refine q_iload_n C dX12_isTapeDefined_22 (n := 23) rfl rfl ?_
          refine q_if_eq C 56 dX12_isTapeDefined_23 (n := 26) rfl rfl (by omega) (fun h23 => ?_) (fun h23 => ?_)
          · exact zK.weak (J_21 (by omega)) (zwk_n (zwk_n (zwk_n (zwk_c (zwk_n zwk_e)))))
          · refine q_aload_n C dX12_isTapeDefined_26 (n := 27) rfl rfl ?_
            refine q_getR C dX12_isTapeDefined_27 (n := 30) rfl f_X12_13 (zM0 h0) (hF _ _ _ (zM2 h0)) ?_
            refine q_iload_n C dX12_isTapeDefined_30 (n := 31) rfl rfl ?_
            refine q_iload C dX12_isTapeDefined_31 (n := 33) rfl rfl ?_
            refine q_iadd C dX12_isTapeDefined_33 (n := 34) rfl (v := v1 + u8) rfl ?_
            have g24 := zI.at hI ((zM4 h0) (v1 + u8))
            refine q_bald C dX12_isTapeDefined_34 (n := 35) rfl (zM3 h0) (by omega) (v := M (a + 1) (v1 + u8)) rfl ?_
            refine q_gst C dX12_isTapeDefined_35 (n := 38) rfl (k := 200) (by decide) ?_
            refine q_iload C dX12_isTapeDefined_38 (n := 40) rfl rfl ?_
            refine q_baldTx C dX12_isTapeDefined_40 (n := 41) rfl (k := 200) (N := 7) (by decide) (by omega) ?_
            have g25 := zStt_r 200 u8
            have J_31 : ∀ (u26 : Int), (-2147483648 ≤ u26 ∧ u26 ≤ 2147483647) → (u26 = 0 ∨ u26 = 1) → (zTdf (M (a + 1)) v1 v2 → u26 = 1) → (u26 = 1 → ∀ j, 0 ≤ j → j < u8 + 1 → M (a + 1) (v1 + j) = zStt 200 j) → zK w p e 1 0 0 s m args below meth c 5 T Po 49 [.ref (w.2.1 + a), zi v1, .null, .null, zi u8] [zi u26] (T, M, J, R) := by
              intro u26 h27 h28 h29 h30
              refine q_istore_n C [.ref (w.2.1 + a), zi v1, .null, zi u26, zi u8] dX12_isTapeDefined_49 (n := 50) rfl rfl rfl ?_
              refine q_iinc C [.ref (w.2.1 + a), zi v1, .null, zi u26, zi (u8 + 1)] dX12_isTapeDefined_50 (n := 53) rfl rfl rfl rfl ?_
              refine q_goto C 15 dX12_isTapeDefined_53 rfl ?_
              exact zK.weak (ih18 u26 (u8 + 1) (by omega) (by omega) (by omega) (by omega) (by omega) h29 h30 (by omega)) (zwk_c (zwk_c (zwk_n (zwk_c (zwk_c zwk_e)))))
            refine q_icmp_ne C 48 dX12_isTapeDefined_41 (n := 44) rfl rfl (by omega) (fun h32 => ?_) (fun h32 => ?_)
            · refine q_iconst C dX12_isTapeDefined_48 (n := 49) rfl ?_
              exact zK.weak (J_31 0 (by omega) (by omega) (fun z => by have z3 := z.2 u8 (by omega) (by omega); omega) (fun z j j0 j1 => (Decidable.em (j = u8)).elim (fun y => by rw [y]; omega) (fun y => h15 (by omega) j j0 (by omega)))) (zwk_c (zwk_c (zwk_n (zwk_n (zwk_c zwk_e)))))
            · refine q_iconst C dX12_isTapeDefined_44 (n := 45) rfl ?_
              refine q_goto C 49 dX12_isTapeDefined_45 rfl ?_
              exact zK.weak (J_31 1 (by omega) (by omega) (fun z => by have z3 := z.2 u8 (by omega) (by omega); omega) (fun z j j0 j1 => (Decidable.em (j = u8)).elim (fun y => by rw [y]; omega) (fun y => h15 (by omega) j j0 (by omega)))) (zwk_c (zwk_c (zwk_n (zwk_n (zwk_c zwk_e)))))
    exact zK.weak (L_16 _ u1 0 (by omega) (by omega) (by omega) (by omega) (by omega) (fun z => by obtain ⟨z1, z2⟩ := z; omega) (fun _ j j0 j1 => by omega) (Int.self_le_toNat _)) (zwk_c (zwk_c (zwk_n (zwk_c (zwk_c zwk_e)))))
  refine q_icmp_ne C 10 dX12_isTapeDefined_3 (n := 6) rfl rfl (by omega) (fun h33 => ?_) (fun h33 => ?_)
  · refine q_iconst C dX12_isTapeDefined_10 (n := 11) rfl ?_
    exact zK.weak (J_6 0 (by omega) (by omega) (by omega) (by omega)) (zwk_c (zwk_c (zwk_n (zwk_n (zwk_n zwk_e)))))
  · refine q_iconst C dX12_isTapeDefined_6 (n := 7) rfl ?_
    refine q_goto C 11 dX12_isTapeDefined_7 rfl ?_
    exact zK.weak (J_6 1 (by omega) (by omega) (by omega) (by omega)) (zwk_c (zwk_c (zwk_n (zwk_n (zwk_n zwk_e)))))
theorem c_X12_switches_w {w : zWp} {T : zTl} {M : zMm} {J : zJm} {R : zRm'} {G : zGt} {F : zRm'} {a : Nat} (hI : zI G M) (hF : zF F R) (h0 : zModel T F G a) (p1 : zFi M a) : zCt w 2 0 0 yX12_switches cX12_switches 6 (some .int) [.ref (w.2.1 + a)] (T, M, J, R) (zPi T R G (fun x M2 => (zMd a [2, 4, 7] [0, 2, 3, 9] [] M M2) ∧ (zFi M2 a) ∧ (M2 a 2 = 0) ∧ (x = -1 ∧ M2 (a + 2) 168 = M (a + 2) 168 ∧ M2 (a + 2) 172 = M (a + 2) 172 ∨ 0 ≤ x ∧ M2 (a + 2) 168 = x ∧ M2 (a + 2) 172 = 0) ∧ (∀ j, j < 168 → M2 (a + 2) j = M (a + 2) j) ∧ (zSwA (zClip (M (a + 1)) (M a 2)) (M a 2) x) ∧ (∀ j, j < 1600 → M2 (a + 4) j = M (a + 4) j))) := by
  refine zCt.of rfl (Nat.le_of_ble_eq_true rfl) ?_
  intro p e s m args below meth c C
  obtain ⟨Po, hPo⟩ : ∃ Po, Po = zPi T R G (fun x M2 => (zMd a [2, 4, 7] [0, 2, 3, 9] [] M M2) ∧ (zFi M2 a) ∧ (M2 a 2 = 0) ∧ (x = -1 ∧ M2 (a + 2) 168 = M (a + 2) 168 ∧ M2 (a + 2) 172 = M (a + 2) 172 ∨ 0 ≤ x ∧ M2 (a + 2) 168 = x ∧ M2 (a + 2) 172 = 0) ∧ (∀ j, j < 168 → M2 (a + 2) j = M (a + 2) j) ∧ (zSwA (zClip (M (a + 1)) (M a 2)) (M a 2) x) ∧ (∀ j, j < 1600 → M2 (a + 4) j = M (a + 4) j)) := ⟨_, rfl⟩
  rw [← hPo]
  have hK0 : zMd a [2, 4, 7] [0, 2, 3, 9] [] M M := zMd.rf
  have gk_length := zI.at hI (zM5 h0)
  show zK w p e 2 0 0 s m args below meth c 6 T Po 0 [.ref (w.2.1 + a), .null, .null, .null, .null, .null] [] (T, M, J, R)
  refine q_aload_n C dX12_switches_0 (n := 1) rfl rfl ?_
  refine q_callVv C dX12_switches_1 (n := 4) rfl m_X12_293 v_yX12_taken (zM0 h0) ⟨by decide, rfl⟩ (c_X12_taken (w := w) (J := J) hI hF h0) (Nat.le_of_ble_eq_true rfl) rfl rfl (Nat.le_of_ble_eq_true rfl) ⟨Nat.le_refl _, Nat.le_refl _⟩ (fun M3 J4  hI5 h6 => ?_)
  obtain ⟨hk7, h1, h2⟩ := h6
  have hK8 := hK0.tr hk7 rfl rfl rfl
  refine q_iconst C dX12_switches_4 (n := 5) rfl ?_
  refine q_istore_n C [.ref (w.2.1 + a), zi 0, .null, .null, .null, .null] dX12_switches_5 (n := 6) rfl rfl rfl ?_
  refine q_iconst C dX12_switches_6 (n := 7) rfl ?_
  refine q_istore_n C [.ref (w.2.1 + a), zi 0, zi 0, .null, .null, .null] dX12_switches_7 (n := 8) rfl rfl rfl ?_
  refine q_aload_n C dX12_switches_8 (n := 9) rfl rfl ?_
  refine q_getR C dX12_switches_9 (n := 12) rfl f_X12_34 (zM0 h0) (hF _ _ _ (zM23 h0)) ?_
  refine q_astore_n C [.ref (w.2.1 + a), zi 0, zi 0, .ref (w.2.1 + (a + 7)), .null, .null] dX12_switches_12 (n := 13) rfl rfl rfl ?_
  have L_23 : ∀ n24 : Nat, ∀ (u9 : Int) (u10 : Int) (M12 : zMm) (J13 : zJm), zI G M12 → zMd a [2, 4, 7] [0, 2, 3, 9] [] M M12 → zMd a [7] [] [] M3 M12 → (-2147483648 ≤ u9 ∧ u9 ≤ 2147483647) → (-2147483648 ≤ u10 ∧ u10 ≤ 2147483647) → (0 ≤ u9 ∧ u9 ≤ 3) → (0 ≤ u10 ∧ u10 ≤ M12 a 3 ∧ u10 ≤ 440) → (zSb M12 a u9) → (zNs (zClip (M (a + 1)) (M a 2)) (M a 2) u10 u9 (M12 (a + 7)) (fun k => M12 (a + 7) k + M12 (a + 7) (4 + k))) → (441 * (3 - u9) + 442 - u10 ≤ (n24 : Int)) → zK w p e 2 0 0 s m args below meth c 6 T Po 13 [.ref (w.2.1 + a), zi u9, zi u10, .ref (w.2.1 + (a + 7)), .null, .null] [] (T, M12, J13, R) := by
    intro n24
    induction n24 with
    | zero =>
      intro u9 u10 M12 J13 hI14 hK15 hK16 h17 h18 h19 h20 h21 h22 hm26
      exfalso
      omega
    | succ n24 ih25 =>
      intro u9 u10 M12 J13 hI14 hK15 hK16 h17 h18 h19 h20 h21 h22 hm26
      have hz27 : M12 a 3 = M3 a 3 := (hK16.getS rfl rfl)
      refine q_iload_n C dX12_switches_13 (n := 14) rfl rfl ?_
      refine q_aload_n C dX12_switches_14 (n := 15) rfl rfl ?_
      have g28 := zI.at hI5 (zM6 h0)
      refine q_getI C dX12_switches_15 (n := 18) rfl f_X12_274 (zM0 h0) (v := M3 a 3) (hK16.getS rfl rfl) ?_
      refine q_icmp_ge C 205 dX12_switches_18 (n := 21) rfl rfl (by omega) (fun h29 => ?_) (fun h29 => ?_)
      · refine q_aload_n C dX12_switches_205 (n := 206) rfl rfl ?_
        refine q_iconst C dX12_switches_206 (n := 207) rfl ?_
        refine q_putZ C dX12_switches_207 (n := 210) rfl f_X12_300 (zM0 h0) ⟨rfl, rfl⟩ (by omega) (fun M30 (e31 : M30 = zup M12 a 9 0) => ?_)
        have hI32 : zI G M30 := hI14.put e31 (zM22 h0) rfl (by omega)
        have hK33 := hK15.upS e31 rfl
        refine q_aload_n C dX12_switches_210 (n := 211) rfl rfl ?_
        refine q_getR C dX12_switches_211 (n := 214) rfl f_X12_17 (zM0 h0) (hF _ _ _ (zM7 h0)) ?_
        refine q_sipush C dX12_switches_214 (n := 217) rfl (x := 168) (by decide) ?_
        refine q_iload_n C dX12_switches_217 (n := 218) rfl rfl ?_
        refine q_iast C dX12_switches_218 (n := 219) rfl (zM8 h0) (by omega)  (fun M35 e36 => ?_)
        have hp37 : zFi M30 a := p1.cg (fun j => ((zup_p e31 (by omega) _).trans ((hK16.getA rfl rfl rfl).trans (hk7.getA rfl rfl rfl))))
        have hp38 : zFi M35 a := hp37.up e36 hI32 h0 (by omega)
        have hI39 : zI G M35 := hI32.put e36 (((zM9 h0) 168).trans (zfG_168 (by omega))) rfl (by omega)
        have hK40 := hK33.upA e36 rfl
        refine q_aload_n C dX12_switches_219 (n := 220) rfl rfl ?_
        refine q_getR C dX12_switches_220 (n := 223) rfl f_X12_17 (zM0 h0) (hF _ _ _ (zM7 h0)) ?_
        refine q_sipush C dX12_switches_223 (n := 226) rfl (x := 172) (by decide) ?_
        refine q_iconst C dX12_switches_226 (n := 227) rfl ?_
        refine q_iast C dX12_switches_227 (n := 228) rfl (zM8 h0) (by omega)  (fun M41 e42 => ?_)
        have hp43 : zFi M41 a := hp38.up e42 hI39 h0 (by omega)
        have hI44 : zI G M41 := hI39.put e42 (((zM9 h0) 172).trans (zfG_172 (by omega))) rfl (by omega)
        have hK45 := hK40.upA e42 rfl
        refine q_iconst C dX12_switches_228 (n := 229) rfl ?_
        refine q_istore C [.ref (w.2.1 + a), zi u9, zi u10, .ref (w.2.1 + (a + 7)), zi 0, .null] dX12_switches_229 (n := 231) rfl rfl rfl ?_
        have L_60 : ∀ n61 : Nat, ∀ (u46 : Int) (M48 : zMm) (J49 : zJm), zI G M48 → zMd a [2, 4, 7] [0, 2, 3, 9] [] M M48 → zMd a [2, 4] [] [] M41 M48 → (-2147483648 ≤ u46 ∧ u46 ≤ 2147483647) → (0 ≤ u46 ∧ u46 ≤ u9) → (zFi M48 a) → (M48 (a + 2) 168 = u9) → (M48 (a + 2) 172 = 0) → (∀ j, j < 168 → M48 (a + 2) j = M (a + 2) j) → (∀ j, j < 1600 → M48 (a + 4) j = M (a + 4) j) → (4 - u46 ≤ (n61 : Int)) → zK w p e 2 0 0 s m args below meth c 6 T Po 231 [.ref (w.2.1 + a), zi u9, .null, .ref (w.2.1 + (a + 7)), zi u46, .null] [] (T, M48, J49, R) := by
          intro n61
          induction n61 with
          | zero =>
            intro u46 M48 J49 hI50 hK51 hK52 h53 h54 h55 h56 h57 h58 h59 hm63
            exfalso
            omega
          | succ n61 ih62 =>
            intro u46 M48 J49 hI50 hK51 hK52 h53 h54 h55 h56 h57 h58 h59 hm63
            refine q_iload C dX12_switches_231 (n := 233) rfl rfl ?_
            refine q_iload_n C dX12_switches_233 (n := 234) rfl rfl ?_
            refine q_icmp_ge C 309 dX12_switches_234 (n := 237) rfl rfl (by omega) (fun h64 => ?_) (fun h64 => ?_)
            · refine q_iload_n C dX12_switches_309 (n := 310) rfl rfl ?_
              exact q_iret C dX12_switches_310 ⟨rfl, rfl⟩ (by rw [hPo]; exact ⟨u9, M48, J49, rfl, rfl, hI50, hK51, h55, by have hz65 : M48 a 2 = M3 a 2 := ((hK52.getS rfl rfl).trans ((zup_p e42 (by omega) _).trans ((zup_p e36 (by omega) _).trans ((zup_n e31 (by omega)).trans (hK16.getS rfl rfl))))); omega, (by have hz : M48 (a + 2) 168 = M48 (a + 2) 168 := rfl; have hz2 : M48 (a + 2) 172 = M48 (a + 2) 172 := rfl; omega), (fun j hj => (rfl).trans (h58 j hj)), (zNs.fin h22 (by omega) (by omega)), (fun j hj => (rfl).trans (h59 j hj))⟩)
            · have gs66 := h21 u46 (by omega) (by omega)
              refine q_aload_n C dX12_switches_237 (n := 238) rfl rfl ?_
              refine q_getR C dX12_switches_238 (n := 241) rfl f_X12_17 (zM0 h0) (hF _ _ _ (zM7 h0)) ?_
              refine q_sipush C dX12_switches_241 (n := 244) rfl (x := 169) (by decide) ?_
              refine q_iload C dX12_switches_244 (n := 246) rfl rfl ?_
              refine q_iadd C dX12_switches_246 (n := 247) rfl (v := 169 + u46) rfl ?_
              refine q_aload_n C dX12_switches_247 (n := 248) rfl rfl ?_
              refine q_iconst C dX12_switches_248 (n := 249) rfl ?_
              refine q_iload C dX12_switches_249 (n := 251) rfl rfl ?_
              refine q_iadd C dX12_switches_251 (n := 252) rfl (v := 4 + u46) rfl ?_
              have g67 := zI.at hI14 ((zM25 h0) (4 + u46))
              refine q_iald C dX12_switches_252 (n := 253) rfl (zM24 h0) (by omega) (v := M12 (a + 7) (4 + u46)) ((hK52.getA rfl rfl rfl).trans ((zup_p e42 (by omega) _).trans ((zup_p e36 (by omega) _).trans (zup_p e31 (by omega) _)))) ?_
              refine q_iast C dX12_switches_253 (n := 254) rfl (zM8 h0) (by omega)  (fun M68 e69 => ?_)
              have hp70 : zFi M68 a := h55.up e69 hI50 h0 (by omega)
              have hI71 : zI G M68 := hI50.put e69 (((zM9 h0) (169 + u46)).trans (zfG_169 (by omega))) rfl (by omega)
              have hK72 := hK51.upA e69 rfl
              have hK73 := hK52.upA e69 rfl
              refine q_iconst C dX12_switches_254 (n := 255) rfl ?_
              refine q_istore C [.ref (w.2.1 + a), zi u9, .null, .ref (w.2.1 + (a + 7)), zi u46, zi 0] dX12_switches_255 (n := 257) rfl rfl rfl ?_
              have L_85 : ∀ n86 : Nat, ∀ (u74 : Int) (M76 : zMm) (J77 : zJm), zI G M76 → zMd a [2, 4, 7] [0, 2, 3, 9] [] M M76 → zMd a [2, 4] [] [] M41 M76 → zMd a [4] [] [] M68 M76 → (-2147483648 ≤ u74 ∧ u74 ≤ 2147483647) → (0 ≤ u74 ∧ u74 ≤ 30) → (∀ j, j < 1600 → M76 (a + 4) j = M (a + 4) j) → (31 - u74 ≤ (n86 : Int)) → zK w p e 2 0 0 s m args below meth c 6 T Po 257 [.ref (w.2.1 + a), zi u9, .null, .ref (w.2.1 + (a + 7)), zi u46, zi u74] [] (T, M76, J77, R) := by
                intro n86
                induction n86 with
                | zero =>
                  intro u74 M76 J77 hI78 hK79 hK80 hK81 h82 h83 h84 hm88
                  exfalso
                  omega
                | succ n86 ih87 =>
                  intro u74 M76 J77 hI78 hK79 hK80 hK81 h82 h83 h84 hm88
                  refine q_iload C dX12_switches_257 (n := 259) rfl rfl ?_
                  refine q_aload_n C dX12_switches_259 (n := 260) rfl rfl ?_
                  refine q_iconst C dX12_switches_260 (n := 261) rfl ?_
                  refine q_iload C dX12_switches_261 (n := 263) rfl rfl ?_
                  refine q_iadd C dX12_switches_263 (n := 264) rfl (v := 4 + u46) rfl ?_
                  refine q_iald C dX12_switches_264 (n := 265) rfl (zM24 h0) (by omega) (v := M12 (a + 7) (4 + u46)) ((hK81.getA rfl rfl rfl).trans ((zup_p e69 (by omega) _).trans ((hK52.getA rfl rfl rfl).trans ((zup_p e42 (by omega) _).trans ((zup_p e36 (by omega) _).trans (zup_p e31 (by omega) _)))))) ?_
                  refine q_icmp_ge C 303 dX12_switches_265 (n := 268) rfl rfl (by omega) (fun h89 => ?_) (fun h89 => ?_)
                  · refine q_iinc C [.ref (w.2.1 + a), zi u9, .null, .ref (w.2.1 + (a + 7)), zi (u46 + 1), zi u74] dX12_switches_303 (n := 306) rfl rfl rfl rfl ?_
                    refine q_goto C 231 dX12_switches_306 rfl ?_
                    have hp90 : zFi M76 a := hp70.cg (fun j => (hK81.getA rfl rfl rfl))
                    exact zK.weak (ih62 (u46 + 1) M76 J77 hI78 hK79 hK80 (by omega) (by omega) hp90 (by have hz : M76 (a + 2) 168 = M48 (a + 2) 168 := ((hK81.getA rfl rfl rfl).trans (zup_n e69 (by omega))); omega) (by have hz : M76 (a + 2) 172 = M48 (a + 2) 172 := ((hK81.getA rfl rfl rfl).trans (zup_n e69 (by omega))); omega) (fun j hj => (((hK81.getA rfl rfl rfl).trans (zup_n e69 (by omega)))).trans (h58 j hj)) (fun j hj => (rfl).trans (h84 j hj)) (by omega)) (zwk_c (zwk_c (zwk_n (zwk_c (zwk_c (zwk_n zwk_e))))))
                  · refine q_aload_n C dX12_switches_268 (n := 269) rfl rfl ?_
                    refine q_getR C dX12_switches_269 (n := 272) rfl f_X12_24 (zM0 h0) (hF _ _ _ (zM13 h0)) ?_
                    refine q_sipush C dX12_switches_272 (n := 275) rfl (x := 1600) (by decide) ?_
                    refine q_bipush C dX12_switches_275 (n := 277) rfl (x := 30) (by decide) ?_
                    refine q_iload C dX12_switches_277 (n := 279) rfl rfl ?_
                    refine q_imul C dX12_switches_279 (n := 280) rfl (v := 30 * u46) rfl ?_
                    refine q_iadd C dX12_switches_280 (n := 281) rfl (v := 1600 + (30 * u46)) rfl ?_
                    refine q_iload C dX12_switches_281 (n := 283) rfl rfl ?_
                    refine q_iadd C dX12_switches_283 (n := 284) rfl (v := (1600 + (30 * u46)) + u74) rfl ?_
                    refine q_aload_n C dX12_switches_284 (n := 285) rfl rfl ?_
                    refine q_getR C dX12_switches_285 (n := 288) rfl f_X12_13 (zM0 h0) (hF _ _ _ (zM2 h0)) ?_
                    refine q_aload_n C dX12_switches_288 (n := 289) rfl rfl ?_
                    refine q_iload C dX12_switches_289 (n := 291) rfl rfl ?_
                    have g91 := zI.at hI14 ((zM25 h0) u46)
                    refine q_iald C dX12_switches_291 (n := 292) rfl (zM24 h0) (by omega) (v := M12 (a + 7) u46) ((hK81.getA rfl rfl rfl).trans ((zup_p e69 (by omega) _).trans ((hK52.getA rfl rfl rfl).trans ((zup_p e42 (by omega) _).trans ((zup_p e36 (by omega) _).trans (zup_p e31 (by omega) _)))))) ?_
                    refine q_iload C dX12_switches_292 (n := 294) rfl rfl ?_
                    refine q_iadd C dX12_switches_294 (n := 295) rfl (v := (M12 (a + 7) u46) + u74) rfl ?_
                    have g92 := zI.at hI ((zM4 h0) ((M12 (a + 7) u46) + u74))
                    refine q_bald C dX12_switches_295 (n := 296) rfl (zM3 h0) (by omega) (v := M (a + 1) ((M12 (a + 7) u46) + u74)) ((hK81.getA rfl rfl rfl).trans ((zup_p e69 (by omega) _).trans ((hK52.getA rfl rfl rfl).trans ((zup_p e42 (by omega) _).trans ((zup_p e36 (by omega) _).trans ((zup_p e31 (by omega) _).trans ((hK16.getA rfl rfl rfl).trans (hk7.getA rfl rfl rfl)))))))) ?_
                    refine q_bast C dX12_switches_296 (n := 297) rfl (zM14 h0) (by omega) (by omega) (fun M93 e94 => ?_)
                    have hI95 : zI G M93 := hI78.put e94 ((zM15 h0) ((1600 + (30 * u46)) + u74)) rfl (by omega)
                    have hK96 := hK79.upA e94 rfl
                    have hK97 := hK80.upA e94 rfl
                    have hK98 := hK81.upA e94 rfl
                    refine q_iinc C [.ref (w.2.1 + a), zi u9, .null, .ref (w.2.1 + (a + 7)), zi u46, zi (u74 + 1)] dX12_switches_297 (n := 300) rfl rfl rfl rfl ?_
                    refine q_goto C 257 dX12_switches_300 rfl ?_
                    exact zK.weak (ih87 (u74 + 1) M93 J77 hI95 hK96 hK97 hK98 (by omega) (by omega) (fun j hj => ((zup_n e94 (by omega))).trans (h84 j hj)) (by omega)) (zwk_c (zwk_c (zwk_n (zwk_c (zwk_c (zwk_c zwk_e))))))
              exact zK.weak (L_85 _ 0 M68 J49 hI71 hK72 hK73 (zMd.rf : zMd a [4] [] [] M68 M68) (by omega) (by omega) (fun j hj => ((zup_p e69 (by omega) _)).trans (h59 j hj)) (Int.self_le_toNat _)) (zwk_c (zwk_c (zwk_n (zwk_c (zwk_c (zwk_c zwk_e))))))
        exact zK.weak (L_60 _ 0 M41 J13 hI44 hK45 (zMd.rf : zMd a [2, 4] [] [] M41 M41) (by omega) (by omega) hp43 (by have hz : M41 (a + 2) 168 = u9 := ((zup_n e42 (by omega)).trans (zup_s e36)); omega) (by have hz : M41 (a + 2) 172 = 0 := (zup_s e42); omega) (fun j hj => ((zup_n e42 (by omega)).trans ((zup_n e36 (by omega)).trans ((zup_p e31 (by omega) _).trans ((hK16.getA rfl rfl rfl).trans (hk7.getA rfl rfl rfl)))))) (fun j hj => ((zup_p e42 (by omega) _).trans ((zup_p e36 (by omega) _).trans ((zup_p e31 (by omega) _).trans ((hK16.getA rfl rfl rfl).trans (hk7.getA rfl rfl rfl)))))) (Int.self_le_toNat _)) (zwk_c (zwk_c (zwk_n (zwk_c (zwk_c (zwk_n zwk_e))))))
      · refine q_aload_n C dX12_switches_21 (n := 22) rfl rfl ?_
        refine q_getR C dX12_switches_22 (n := 25) rfl f_X12_13 (zM0 h0) (hF _ _ _ (zM2 h0)) ?_
        refine q_iload_n C dX12_switches_25 (n := 26) rfl rfl ?_
        have g99 := zI.at hI ((zM4 h0) u10)
        refine q_bald C dX12_switches_26 (n := 27) rfl (zM3 h0) (by omega) (v := M (a + 1) u10) ((hK16.getA rfl rfl rfl).trans (hk7.getA rfl rfl rfl)) ?_
        refine q_bipush C dX12_switches_27 (n := 29) rfl (x := 32) (by decide) ?_
        refine q_icmp_ne C 38 dX12_switches_29 (n := 32) rfl rfl (by omega) (fun h100 => ?_) (fun h100 => ?_)
        · refine q_iload_n C dX12_switches_38 (n := 39) rfl rfl ?_
          refine q_iconst C dX12_switches_39 (n := 40) rfl ?_
          refine q_icmp_eq C 55 dX12_switches_40 (n := 43) rfl rfl (by omega) (fun h101 => ?_) (fun h101 => ?_)
          · refine q_iconst C dX12_switches_55 (n := 56) rfl ?_
            have hp102 : zFi M12 a := p1.cg (fun j => ((hK16.getA rfl rfl rfl).trans (hk7.getA rfl rfl rfl)))
            exact q_iret C dX12_switches_56 ⟨rfl, rfl⟩ (by rw [hPo]; exact ⟨(-1), M12, J13, rfl, rfl, hI14, hK15, hp102, by have hz103 : M12 a 2 = M3 a 2 := (hK16.getS rfl rfl); omega, (by have hz : M12 (a + 2) 168 = M (a + 2) 168 := ((hK16.getA rfl rfl rfl).trans (hk7.getA rfl rfl rfl)); have hz2 : M12 (a + 2) 172 = M (a + 2) 172 := ((hK16.getA rfl rfl rfl).trans (hk7.getA rfl rfl rfl)); omega), (fun j hj => ((hK16.getA rfl rfl rfl).trans (hk7.getA rfl rfl rfl))), (Or.inl ⟨rfl, zNs.bad1 h22 (by omega) (by omega) (by omega)⟩), (fun j hj => ((hK16.getA rfl rfl rfl).trans (hk7.getA rfl rfl rfl)))⟩)
          · refine q_aload_n C dX12_switches_43 (n := 44) rfl rfl ?_
            refine q_getR C dX12_switches_44 (n := 47) rfl f_X12_13 (zM0 h0) (hF _ _ _ (zM2 h0)) ?_
            refine q_iload_n C dX12_switches_47 (n := 48) rfl rfl ?_
            refine q_bald C dX12_switches_48 (n := 49) rfl (zM3 h0) (by omega) (v := M (a + 1) u10) ((hK16.getA rfl rfl rfl).trans (hk7.getA rfl rfl rfl)) ?_
            refine q_callSp C dX12_switches_49 (n := 52) rfl m_X12_304 s_yX12_isStart (c_X12_isStart_e (w := w) (J := J13) hI14 hF (M (a + 1) u10) (by omega)) (Nat.le_of_ble_eq_true rfl) rfl rfl (Nat.le_of_ble_eq_true rfl) ⟨Nat.le_refl _, Nat.le_refl _⟩ (fun x106 h107 => ?_)
            obtain ⟨h104, h105⟩ := h107
            refine q_if_ne C 57 dX12_switches_52 (n := 55) rfl rfl (by omega) (fun h108 => ?_) (fun h108 => ?_)
            · refine q_aload_n C dX12_switches_57 (n := 58) rfl rfl ?_
              refine q_iload_n C dX12_switches_58 (n := 59) rfl rfl ?_
              refine q_iload_n C dX12_switches_59 (n := 60) rfl rfl ?_
              refine q_iast C dX12_switches_60 (n := 61) rfl (zM24 h0) (by omega)  (fun M109 e110 => ?_)
              have hp111 : zSb M109 a u9 := h21.up e110 (by omega)
              have hI112 : zI G M109 := hI14.put e110 ((zM25 h0) u9) rfl (by omega)
              have hK113 := hK15.upA e110 rfl
              have hK114 := hK16.upA e110 rfl
              have L_119 : ∀ n120 : Nat, ∀ (u115 : Int), (-2147483648 ≤ u115 ∧ u115 ≤ 2147483647) → (u10 ≤ u115 ∧ u115 ≤ M109 a 3 ∧ u115 ≤ 440) → (∀ j, u10 ≤ j → j < u115 → zWd (M (a + 1) j) = 1) → (441 - u115 ≤ (n120 : Int)) → zK w p e 2 0 0 s m args below meth c 6 T Po 61 [.ref (w.2.1 + a), zi u9, zi u115, .ref (w.2.1 + (a + 7)), .null, .null] [] (T, M109, J13, R) := by
                intro n120
                induction n120 with
                | zero =>
                  intro u115 h116 h117 h118 hm122
                  exfalso
                  omega
                | succ n120 ih121 =>
                  intro u115 h116 h117 h118 hm122
                  have hz123 : M109 a 3 = M3 a 3 := ((zup_p e110 (by omega) _).trans (hK16.getS rfl rfl))
                  refine q_iload_n C dX12_switches_61 (n := 62) rfl rfl ?_
                  refine q_aload_n C dX12_switches_62 (n := 63) rfl rfl ?_
                  refine q_getI C dX12_switches_63 (n := 66) rfl f_X12_274 (zM0 h0) (v := M3 a 3) ((zup_p e110 (by omega) _).trans (hK16.getS rfl rfl)) ?_
                  have J_126 : (u115 = u115) → (M a 2 ≤ u115 ∨ zWd (M (a + 1) u115) = 0) → zK w p e 2 0 0 s m args below meth c 6 T Po 99 [.ref (w.2.1 + a), zi u9, zi u115, .ref (w.2.1 + (a + 7)), .null, .null] [] (T, M109, J13, R) := by
                    intro h124 h125
                    have hlt9 : u10 < u115 := (Decidable.em (u10 < u115)).elim id (fun z => by have e : u115 = u10 := (by omega); have hw := zWd_i (M (a + 1) u10); have h9 := h125; rw [e] at h9; omega)
                    have hrun := zRn.of (g := M (a + 1)) (m := M a 2) (f := u10) (t := u115) (by omega) (fun j j0 j1 => h118 j j0 (by omega)) h22.2.1 (by omega)
                    refine q_aload_n C dX12_switches_99 (n := 100) rfl rfl ?_
                    refine q_iconst C dX12_switches_100 (n := 101) rfl ?_
                    refine q_iload_n C dX12_switches_101 (n := 102) rfl rfl ?_
                    refine q_iadd C dX12_switches_102 (n := 103) rfl (v := 4 + u9) rfl ?_
                    refine q_iload_n C dX12_switches_103 (n := 104) rfl rfl ?_
                    refine q_aload_n C dX12_switches_104 (n := 105) rfl rfl ?_
                    refine q_iload_n C dX12_switches_105 (n := 106) rfl rfl ?_
                    refine q_iald C dX12_switches_106 (n := 107) rfl (zM24 h0) (by omega) (v := u10) (zup_s e110) ?_
                    refine q_isub C dX12_switches_107 (n := 108) rfl (v := u115 - u10) rfl ?_
                    refine q_iast C dX12_switches_108 (n := 109) rfl (zM24 h0) (by omega)  (fun M127 e128 => ?_)
                    have hp129 : zSb M127 a u9 := hp111.up e128 (by omega)
                    have hI130 : zI G M127 := hI112.put e128 ((zM25 h0) (4 + u9)) rfl (by omega)
                    have hK131 := hK113.upA e128 rfl
                    have hK132 := hK114.upA e128 rfl
                    refine q_aload_n C dX12_switches_109 (n := 110) rfl rfl ?_
                    refine q_iconst C dX12_switches_110 (n := 111) rfl ?_
                    refine q_iload_n C dX12_switches_111 (n := 112) rfl rfl ?_
                    refine q_iadd C dX12_switches_112 (n := 113) rfl (v := 4 + u9) rfl ?_
                    refine q_iald C dX12_switches_113 (n := 114) rfl (zM24 h0) (by omega) (v := u115 - u10) (zup_s e128) ?_
                    refine q_bipush C dX12_switches_114 (n := 116) rfl (x := 30) (by decide) ?_
                    refine q_icmp_gt C 138 dX12_switches_116 (n := 119) rfl rfl (by omega) (fun h133 => ?_) (fun h133 => ?_)
                    · refine q_iconst C dX12_switches_138 (n := 139) rfl ?_
                      have hp134 : zFi M127 a := p1.cg (fun j => ((zup_p e128 (by omega) _).trans ((zup_p e110 (by omega) _).trans ((hK16.getA rfl rfl rfl).trans (hk7.getA rfl rfl rfl)))))
                      exact q_iret C dX12_switches_139 ⟨rfl, rfl⟩ (by rw [hPo]; exact ⟨(-1), M127, J13, rfl, rfl, hI130, hK131, hp134, by have hz135 : M127 a 2 = M3 a 2 := ((zup_p e128 (by omega) _).trans ((zup_p e110 (by omega) _).trans (hK16.getS rfl rfl))); omega, (by have hz : M127 (a + 2) 168 = M (a + 2) 168 := ((zup_p e128 (by omega) _).trans ((zup_p e110 (by omega) _).trans ((hK16.getA rfl rfl rfl).trans (hk7.getA rfl rfl rfl)))); have hz2 : M127 (a + 2) 172 = M (a + 2) 172 := ((zup_p e128 (by omega) _).trans ((zup_p e110 (by omega) _).trans ((hK16.getA rfl rfl rfl).trans (hk7.getA rfl rfl rfl)))); omega), (fun j hj => ((zup_p e128 (by omega) _).trans ((zup_p e110 (by omega) _).trans ((hK16.getA rfl rfl rfl).trans (hk7.getA rfl rfl rfl))))), (Or.inl ⟨rfl, by first | exact zFlt.long (by omega) hrun (by omega) | exact zFlt.byte (j := u115) (by omega) (by omega) (by omega)⟩), (fun j hj => ((zup_p e128 (by omega) _).trans ((zup_p e110 (by omega) _).trans ((hK16.getA rfl rfl rfl).trans (hk7.getA rfl rfl rfl)))))⟩)
                    · refine q_iload_n C dX12_switches_119 (n := 120) rfl rfl ?_
                      refine q_aload_n C dX12_switches_120 (n := 121) rfl rfl ?_
                      refine q_getI C dX12_switches_121 (n := 124) rfl f_X12_274 (zM0 h0) (v := M3 a 3) ((zup_p e128 (by omega) _).trans ((zup_p e110 (by omega) _).trans (hK16.getS rfl rfl))) ?_
                      have J_136 : zK w p e 2 0 0 s m args below meth c 6 T Po 140 [.ref (w.2.1 + a), zi u9, zi u115, .ref (w.2.1 + (a + 7)), .null, .null] [] (T, M127, J13, R) := by
                        refine q_iconst C dX12_switches_140 (n := 141) rfl ?_
                        refine q_istore C [.ref (w.2.1 + a), zi u9, zi u115, .ref (w.2.1 + (a + 7)), zi 0, .null] dX12_switches_141 (n := 143) rfl rfl rfl ?_
                        have L_141 : ∀ n142 : Nat, ∀ (u137 : Int), (-2147483648 ≤ u137 ∧ u137 ≤ 2147483647) → (0 ≤ u137 ∧ u137 ≤ u9) → (∀ k, 0 ≤ k → k < u137 → ¬ zAk (zClip (M (a + 1)) (M a 2)) (M127 (a + 7) k) (M127 (a + 7) k + M127 (a + 7) (4 + k)) (M127 (a + 7) u9) u115) → (4 - u137 ≤ (n142 : Int)) → zK w p e 2 0 0 s m args below meth c 6 T Po 143 [.ref (w.2.1 + a), zi u9, zi u115, .ref (w.2.1 + (a + 7)), zi u137, .null] [] (T, M127, J13, R) := by
                          intro n142
                          induction n142 with
                          | zero =>
                            intro u137 h138 h139 h140 hm144
                            exfalso
                            omega
                          | succ n142 ih143 =>
                            intro u137 h138 h139 h140 hm144
                            refine q_iload C dX12_switches_143 (n := 145) rfl rfl ?_
                            refine q_iload_n C dX12_switches_145 (n := 146) rfl rfl ?_
                            refine q_icmp_ge C 182 dX12_switches_146 (n := 149) rfl rfl (by omega) (fun h145 => ?_) (fun h145 => ?_)
                            · have hak : ∀ k, 0 ≤ k → k < u9 → ¬ zAk (zClip (M (a + 1)) (M a 2)) (M12 (a + 7) k) (M12 (a + 7) k + M12 (a + 7) (4 + k)) u10 u115 := fun k k0 k1 => by
                                have q := h140 k k0 (by omega)
                                have z1 : M127 (a + 7) k = M12 (a + 7) k := ((zup_n e128 (by omega)).trans (zup_n e110 (by omega)))
                                have z2 : M127 (a + 7) (4 + k) = M12 (a + 7) (4 + k) := ((zup_n e128 (by omega)).trans (zup_n e110 (by omega)))
                                rw [z1, z2, (show M127 (a + 7) u9 = u10 from ((zup_n e128 (by omega)).trans (zup_s e110)))] at q
                                exact q
                              refine q_aload_n C dX12_switches_182 (n := 183) rfl rfl ?_
                              refine q_aload_n C dX12_switches_183 (n := 184) rfl rfl ?_
                              refine q_iload_n C dX12_switches_184 (n := 185) rfl rfl ?_
                              refine q_iald C dX12_switches_185 (n := 186) rfl (zM24 h0) (by omega) (v := u10) ((zup_n e128 (by omega)).trans (zup_s e110)) ?_
                              refine q_aload_n C dX12_switches_186 (n := 187) rfl rfl ?_
                              refine q_iconst C dX12_switches_187 (n := 188) rfl ?_
                              refine q_iload_n C dX12_switches_188 (n := 189) rfl rfl ?_
                              refine q_iadd C dX12_switches_189 (n := 190) rfl (v := 4 + u9) rfl ?_
                              refine q_iald C dX12_switches_190 (n := 191) rfl (zM24 h0) (by omega) (v := u115 - u10) (zup_s e128) ?_
                              refine q_callVp C dX12_switches_191 (n := 194) rfl m_X12_314 v_yX12_isTapeDefined (zM0 h0) ⟨by decide, rfl⟩ (c_X12_isTapeDefined_e (w := w) (J := J13) hI130 hF h0 u10 (u115 - u10) (by omega)) (Nat.le_of_ble_eq_true rfl) rfl rfl (Nat.le_of_ble_eq_true rfl) ⟨Nat.le_refl _, Nat.le_refl _⟩ (fun x148 h149 => ?_)
                              obtain ⟨h146, h147⟩ := h149
                              have hdf := h147
                              rw [show M127 (a + 1) = M (a + 1) from funext (fun j => ((zup_p e128 (by omega) _).trans ((zup_p e110 (by omega) _).trans ((hK16.getA rfl rfl rfl).trans (hk7.getA rfl rfl rfl)))))] at hdf
                              refine q_if_eq C 199 dX12_switches_194 (n := 197) rfl rfl (by omega) (fun h150 => ?_) (fun h150 => ?_)
                              · have hp151 : zSb M127 a (u9 + 1) := hp129.add (by have hz1 : M127 (a + 7) u9 = u10 := ((zup_n e128 (by omega)).trans (zup_s e110)); have hz2 : M127 (a + 7) (4 + u9) = u115 - u10 := (zup_s e128); omega)
                                refine q_iinc C [.ref (w.2.1 + a), zi (u9 + 1), zi u115, .ref (w.2.1 + (a + 7)), zi u137, .null] dX12_switches_199 (n := 202) rfl rfl rfl rfl ?_
                                refine q_goto C 13 dX12_switches_202 rfl ?_
                                exact zK.weak (ih25 (u9 + 1) u115 M127 J13 hI130 hK131 hK132 (by omega) (by omega) (by omega) (by have hz152 : M127 a 3 = M3 a 3 := ((zup_p e128 (by omega) _).trans ((zup_p e110 (by omega) _).trans (hK16.getS rfl rfl))); omega) hp151 (zNs.word h22 hrun (by omega) (by omega) (by rw [zClip_at (by omega)]; omega) (fun q => by have := hdf.mpr ((zTdf_df (by omega) (by omega)).mpr q); omega) (fun k k0 k1 q => hak k k0 k1 q) (fun k k0 k1 => ((zup_n e128 (by omega)).trans (zup_n e110 (by omega)))) (fun k k0 k1 => by have z1 : M127 (a + 7) k = M12 (a + 7) k := ((zup_n e128 (by omega)).trans (zup_n e110 (by omega))); have z2 : M127 (a + 7) (4 + k) = M12 (a + 7) (4 + k) := ((zup_n e128 (by omega)).trans (zup_n e110 (by omega))); show M127 (a + 7) k + M127 (a + 7) (4 + k) = M12 (a + 7) k + M12 (a + 7) (4 + k); rw [z1, z2]) (by have hz : M127 (a + 7) u9 = u10 := ((zup_n e128 (by omega)).trans (zup_s e110)); omega) (by show M127 (a + 7) u9 + M127 (a + 7) (4 + u9) = u115; have hz : M127 (a + 7) u9 = u10 := ((zup_n e128 (by omega)).trans (zup_s e110)); have hz2 : M127 (a + 7) (4 + u9) = u115 - u10 := (zup_s e128); omega) rfl) (by omega)) (zwk_c (zwk_c (zwk_c (zwk_c (zwk_n (zwk_n zwk_e))))))
                              · refine q_iconst C dX12_switches_197 (n := 198) rfl ?_
                                have hp153 : zFi M127 a := p1.cg (fun j => ((zup_p e128 (by omega) _).trans ((zup_p e110 (by omega) _).trans ((hK16.getA rfl rfl rfl).trans (hk7.getA rfl rfl rfl)))))
                                exact q_iret C dX12_switches_198 ⟨rfl, rfl⟩ (by rw [hPo]; exact ⟨(-1), M127, J13, rfl, rfl, hI130, hK131, hp153, by have hz154 : M127 a 2 = M3 a 2 := ((zup_p e128 (by omega) _).trans ((zup_p e110 (by omega) _).trans (hK16.getS rfl rfl))); omega, (by have hz : M127 (a + 2) 168 = M (a + 2) 168 := ((zup_p e128 (by omega) _).trans ((zup_p e110 (by omega) _).trans ((hK16.getA rfl rfl rfl).trans (hk7.getA rfl rfl rfl)))); have hz2 : M127 (a + 2) 172 = M (a + 2) 172 := ((zup_p e128 (by omega) _).trans ((zup_p e110 (by omega) _).trans ((hK16.getA rfl rfl rfl).trans (hk7.getA rfl rfl rfl)))); omega), (fun j hj => ((zup_p e128 (by omega) _).trans ((zup_p e110 (by omega) _).trans ((hK16.getA rfl rfl rfl).trans (hk7.getA rfl rfl rfl))))), (Or.inl ⟨rfl, zFlt.dfn (by omega) hrun ((zTdf_df (by omega) (by omega)).mp (hdf.mp (by omega)))⟩), (fun j hj => ((zup_p e128 (by omega) _).trans ((zup_p e110 (by omega) _).trans ((hK16.getA rfl rfl rfl).trans (hk7.getA rfl rfl rfl)))))⟩)
                            · have gs155 := hp129 u137 (by omega) (by omega)
                              refine q_aload_n C dX12_switches_149 (n := 150) rfl rfl ?_
                              refine q_aload_n C dX12_switches_150 (n := 151) rfl rfl ?_
                              refine q_iload C dX12_switches_151 (n := 153) rfl rfl ?_
                              have g156 := zI.at hI130 ((zM25 h0) u137)
                              refine q_iald C dX12_switches_153 (n := 154) rfl (zM24 h0) (by omega) (v := M127 (a + 7) u137) rfl ?_
                              refine q_aload_n C dX12_switches_154 (n := 155) rfl rfl ?_
                              refine q_iconst C dX12_switches_155 (n := 156) rfl ?_
                              refine q_iload C dX12_switches_156 (n := 158) rfl rfl ?_
                              refine q_iadd C dX12_switches_158 (n := 159) rfl (v := 4 + u137) rfl ?_
                              have g157 := zI.at hI130 ((zM25 h0) (4 + u137))
                              refine q_iald C dX12_switches_159 (n := 160) rfl (zM24 h0) (by omega) (v := M127 (a + 7) (4 + u137)) rfl ?_
                              refine q_aload_n C dX12_switches_160 (n := 161) rfl rfl ?_
                              refine q_iload_n C dX12_switches_161 (n := 162) rfl rfl ?_
                              refine q_iald C dX12_switches_162 (n := 163) rfl (zM24 h0) (by omega) (v := u10) ((zup_n e128 (by omega)).trans (zup_s e110)) ?_
                              refine q_aload_n C dX12_switches_163 (n := 164) rfl rfl ?_
                              refine q_iconst C dX12_switches_164 (n := 165) rfl ?_
                              refine q_iload_n C dX12_switches_165 (n := 166) rfl rfl ?_
                              refine q_iadd C dX12_switches_166 (n := 167) rfl (v := 4 + u9) rfl ?_
                              refine q_iald C dX12_switches_167 (n := 168) rfl (zM24 h0) (by omega) (v := u115 - u10) (zup_s e128) ?_
                              refine q_callVp C dX12_switches_168 (n := 171) rfl m_X12_310 v_yX12_areTape (zM0 h0) ⟨by decide, rfl⟩ (c_X12_areTape_e (w := w) (J := J13) hI130 hF h0 (M127 (a + 7) u137) (M127 (a + 7) (4 + u137)) u10 (u115 - u10) (by omega)) (Nat.le_of_ble_eq_true rfl) rfl rfl (Nat.le_of_ble_eq_true rfl) ⟨Nat.le_refl _, Nat.le_refl _⟩ (fun x160 h161 => ?_)
                              obtain ⟨h158, h159⟩ := h161
                              have hf1 : M127 (a + 7) u137 = M12 (a + 7) u137 := ((zup_n e128 (by omega)).trans (zup_n e110 (by omega)))
                              have hf2 : M127 (a + 7) (4 + u137) = M12 (a + 7) (4 + u137) := ((zup_n e128 (by omega)).trans (zup_n e110 (by omega)))
                              obtain ⟨⟨g1, g2, g3⟩, g4⟩ := h22.2.2.2.1 u137 (by omega) (by omega)
                              have g6 : M12 (a + 7) u137 + M12 (a + 7) (4 + u137) ≤ u10 := g2
                              have g5 : M12 (a + 7) u137 < M12 (a + 7) u137 + M12 (a + 7) (4 + u137) := g3.1
                              have hq9 := h159
                              rw [show M127 (a + 1) = M (a + 1) from funext (fun j => ((zup_p e128 (by omega) _).trans ((zup_p e110 (by omega) _).trans ((hK16.getA rfl rfl rfl).trans (hk7.getA rfl rfl rfl)))))] at hq9
                              have hae : x160 = 1 ↔ zAk (zClip (M (a + 1)) (M a 2)) (M127 (a + 7) u137) (M127 (a + 7) u137 + M127 (a + 7) (4 + u137)) u10 u115 := hq9.trans (zEq_ak (by omega) rfl (by omega))
                              refine q_if_eq C 176 dX12_switches_171 (n := 174) rfl rfl (by omega) (fun h162 => ?_) (fun h162 => ?_)
                              · have hnak : ¬ zAk (zClip (M (a + 1)) (M a 2)) (M127 (a + 7) u137) (M127 (a + 7) u137 + M127 (a + 7) (4 + u137)) u10 u115 := fun q => by have := hae.mpr q; omega
                                refine q_iinc C [.ref (w.2.1 + a), zi u9, zi u115, .ref (w.2.1 + (a + 7)), zi (u137 + 1), .null] dX12_switches_176 (n := 179) rfl rfl rfl rfl ?_
                                refine q_goto C 143 dX12_switches_179 rfl ?_
                                exact zK.weak (ih143 (u137 + 1) (by omega) (by omega) (fun k k0 k1 => (Decidable.em (k = u137)).elim (fun z => by rw [z, (show M127 (a + 7) u9 = u10 from ((zup_n e128 (by omega)).trans (zup_s e110)))]; exact hnak) (fun z => h140 k k0 (by omega))) (by omega)) (zwk_c (zwk_c (zwk_c (zwk_c (zwk_c (zwk_n zwk_e))))))
                              · refine q_iconst C dX12_switches_174 (n := 175) rfl ?_
                                have hp163 : zFi M127 a := p1.cg (fun j => ((zup_p e128 (by omega) _).trans ((zup_p e110 (by omega) _).trans ((hK16.getA rfl rfl rfl).trans (hk7.getA rfl rfl rfl)))))
                                exact q_iret C dX12_switches_175 ⟨rfl, rfl⟩ (by rw [hPo]; exact ⟨(-1), M127, J13, rfl, rfl, hI130, hK131, hp163, by have hz164 : M127 a 2 = M3 a 2 := ((zup_p e128 (by omega) _).trans ((zup_p e110 (by omega) _).trans (hK16.getS rfl rfl))); omega, (by have hz : M127 (a + 2) 168 = M (a + 2) 168 := ((zup_p e128 (by omega) _).trans ((zup_p e110 (by omega) _).trans ((hK16.getA rfl rfl rfl).trans (hk7.getA rfl rfl rfl)))); have hz2 : M127 (a + 2) 172 = M (a + 2) 172 := ((zup_p e128 (by omega) _).trans ((zup_p e110 (by omega) _).trans ((hK16.getA rfl rfl rfl).trans (hk7.getA rfl rfl rfl)))); omega), (fun j hj => ((zup_p e128 (by omega) _).trans ((zup_p e110 (by omega) _).trans ((hK16.getA rfl rfl rfl).trans (hk7.getA rfl rfl rfl))))), (Or.inl ⟨rfl, zFlt.like (by omega) hrun ⟨by omega, by omega, by rw [hf1, hf2]; exact g3⟩ (hae.mp (by omega))⟩), (fun j hj => ((zup_p e128 (by omega) _).trans ((zup_p e110 (by omega) _).trans ((hK16.getA rfl rfl rfl).trans (hk7.getA rfl rfl rfl)))))⟩)
                        exact zK.weak (L_141 _ 0 (by omega) (by omega) (fun k k0 k1 => by omega) (Int.self_le_toNat _)) (zwk_c (zwk_c (zwk_c (zwk_c (zwk_c (zwk_n zwk_e))))))
                      refine q_icmp_ge C 140 dX12_switches_124 (n := 127) rfl rfl (by omega) (fun h165 => ?_) (fun h165 => ?_)
                      · exact zK.weak (J_136) (zwk_c (zwk_c (zwk_c (zwk_c (zwk_n (zwk_n zwk_e))))))
                      · refine q_aload_n C dX12_switches_127 (n := 128) rfl rfl ?_
                        refine q_getR C dX12_switches_128 (n := 131) rfl f_X12_13 (zM0 h0) (hF _ _ _ (zM2 h0)) ?_
                        refine q_iload_n C dX12_switches_131 (n := 132) rfl rfl ?_
                        have g166 := zI.at hI ((zM4 h0) u115)
                        refine q_bald C dX12_switches_132 (n := 133) rfl (zM3 h0) (by omega) (v := M (a + 1) u115) ((zup_p e128 (by omega) _).trans ((zup_p e110 (by omega) _).trans ((hK16.getA rfl rfl rfl).trans (hk7.getA rfl rfl rfl)))) ?_
                        refine q_bipush C dX12_switches_133 (n := 135) rfl (x := 32) (by decide) ?_
                        refine q_icmp_eq C 140 dX12_switches_135 (n := 138) rfl rfl (by omega) (fun h167 => ?_) (fun h167 => ?_)
                        · exact zK.weak (J_136) (zwk_c (zwk_c (zwk_c (zwk_c (zwk_n (zwk_n zwk_e))))))
                        · refine q_iconst C dX12_switches_138 (n := 139) rfl ?_
                          have hp168 : zFi M127 a := p1.cg (fun j => ((zup_p e128 (by omega) _).trans ((zup_p e110 (by omega) _).trans ((hK16.getA rfl rfl rfl).trans (hk7.getA rfl rfl rfl)))))
                          exact q_iret C dX12_switches_139 ⟨rfl, rfl⟩ (by rw [hPo]; exact ⟨(-1), M127, J13, rfl, rfl, hI130, hK131, hp168, by have hz169 : M127 a 2 = M3 a 2 := ((zup_p e128 (by omega) _).trans ((zup_p e110 (by omega) _).trans (hK16.getS rfl rfl))); omega, (by have hz : M127 (a + 2) 168 = M (a + 2) 168 := ((zup_p e128 (by omega) _).trans ((zup_p e110 (by omega) _).trans ((hK16.getA rfl rfl rfl).trans (hk7.getA rfl rfl rfl)))); have hz2 : M127 (a + 2) 172 = M (a + 2) 172 := ((zup_p e128 (by omega) _).trans ((zup_p e110 (by omega) _).trans ((hK16.getA rfl rfl rfl).trans (hk7.getA rfl rfl rfl)))); omega), (fun j hj => ((zup_p e128 (by omega) _).trans ((zup_p e110 (by omega) _).trans ((hK16.getA rfl rfl rfl).trans (hk7.getA rfl rfl rfl))))), (Or.inl ⟨rfl, by first | exact zFlt.long (by omega) hrun (by omega) | exact zFlt.byte (j := u115) (by omega) (by omega) (by omega)⟩), (fun j hj => ((zup_p e128 (by omega) _).trans ((zup_p e110 (by omega) _).trans ((hK16.getA rfl rfl rfl).trans (hk7.getA rfl rfl rfl)))))⟩)
                  refine q_icmp_ge C 99 dX12_switches_66 (n := 69) rfl rfl (by omega) (fun h170 => ?_) (fun h170 => ?_)
                  · exact zK.weak (J_126 (by omega) (by have := zWd_i (M (a + 1) u115); omega)) (zwk_c (zwk_c (zwk_c (zwk_c (zwk_n (zwk_n zwk_e))))))
                  · refine q_aload_n C dX12_switches_69 (n := 70) rfl rfl ?_
                    refine q_getR C dX12_switches_70 (n := 73) rfl f_X12_13 (zM0 h0) (hF _ _ _ (zM2 h0)) ?_
                    refine q_iload_n C dX12_switches_73 (n := 74) rfl rfl ?_
                    have g171 := zI.at hI ((zM4 h0) u115)
                    refine q_bald C dX12_switches_74 (n := 75) rfl (zM3 h0) (by omega) (v := M (a + 1) u115) ((zup_p e110 (by omega) _).trans ((hK16.getA rfl rfl rfl).trans (hk7.getA rfl rfl rfl))) ?_
                    refine q_callSp C dX12_switches_75 (n := 78) rfl m_X12_304 s_yX12_isStart (c_X12_isStart_e (w := w) (J := J13) hI112 hF (M (a + 1) u115) (by omega)) (Nat.le_of_ble_eq_true rfl) rfl rfl (Nat.le_of_ble_eq_true rfl) ⟨Nat.le_refl _, Nat.le_refl _⟩ (fun x174 h175 => ?_)
                    obtain ⟨h172, h173⟩ := h175
                    have J_177 : (zWd (M (a + 1) u115) = 1) → zK w p e 2 0 0 s m args below meth c 6 T Po 93 [.ref (w.2.1 + a), zi u9, zi u115, .ref (w.2.1 + (a + 7)), .null, .null] [] (T, M109, J13, R) := by
                      intro h176
                      refine q_iinc C [.ref (w.2.1 + a), zi u9, zi (u115 + 1), .ref (w.2.1 + (a + 7)), .null, .null] dX12_switches_93 (n := 96) rfl rfl rfl rfl ?_
                      refine q_goto C 61 dX12_switches_96 rfl ?_
                      exact zK.weak (ih121 (u115 + 1) (by omega) (by have hz178 : M109 a 3 = M3 a 3 := ((zup_p e110 (by omega) _).trans (hK16.getS rfl rfl)); omega) (fun j j0 j1 => (Decidable.em (j = u115)).elim (fun z => by rw [z]; exact h176) (fun z => h118 j j0 (by omega))) (by omega)) (zwk_c (zwk_c (zwk_c (zwk_c (zwk_n (zwk_n zwk_e))))))
                    refine q_if_ne C 93 dX12_switches_78 (n := 81) rfl rfl (by omega) (fun h179 => ?_) (fun h179 => ?_)
                    · exact zK.weak (J_177 (by have := zWd_i (M (a + 1) u115); omega)) (zwk_c (zwk_c (zwk_c (zwk_c (zwk_n (zwk_n zwk_e))))))
                    · refine q_aload_n C dX12_switches_81 (n := 82) rfl rfl ?_
                      refine q_getR C dX12_switches_82 (n := 85) rfl f_X12_13 (zM0 h0) (hF _ _ _ (zM2 h0)) ?_
                      refine q_iload_n C dX12_switches_85 (n := 86) rfl rfl ?_
                      refine q_bald C dX12_switches_86 (n := 87) rfl (zM3 h0) (by omega) (v := M (a + 1) u115) ((zup_p e110 (by omega) _).trans ((hK16.getA rfl rfl rfl).trans (hk7.getA rfl rfl rfl))) ?_
                      refine q_callSp C dX12_switches_87 (n := 90) rfl m_X12_307 s_yX12_isDigit (c_X12_isDigit_e (w := w) (J := J13) hI112 hF (M (a + 1) u115) (by omega)) (Nat.le_of_ble_eq_true rfl) rfl rfl (Nat.le_of_ble_eq_true rfl) ⟨Nat.le_refl _, Nat.le_refl _⟩ (fun x183 h184 => ?_)
                      obtain ⟨h180, h181, h182⟩ := h184
                      refine q_if_eq C 99 dX12_switches_90 (n := 93) rfl rfl (by omega) (fun h185 => ?_) (fun h185 => ?_)
                      · exact zK.weak (J_126 (by omega) (by have := zWd_i (M (a + 1) u115); omega)) (zwk_c (zwk_c (zwk_c (zwk_c (zwk_n (zwk_n zwk_e))))))
                      · exact zK.weak (J_177 (by have := zWd_i (M (a + 1) u115); omega)) (zwk_c (zwk_c (zwk_c (zwk_c (zwk_n (zwk_n zwk_e))))))
              exact zK.weak (L_119 _ u10 (by omega) (by have hz186 : M109 a 3 = M3 a 3 := ((zup_p e110 (by omega) _).trans (hK16.getS rfl rfl)); omega) (fun j j0 j1 => by omega) (Int.self_le_toNat _)) (zwk_c (zwk_c (zwk_c (zwk_c (zwk_n (zwk_n zwk_e))))))
            · refine q_iconst C dX12_switches_55 (n := 56) rfl ?_
              have hp187 : zFi M12 a := p1.cg (fun j => ((hK16.getA rfl rfl rfl).trans (hk7.getA rfl rfl rfl)))
              exact q_iret C dX12_switches_56 ⟨rfl, rfl⟩ (by rw [hPo]; exact ⟨(-1), M12, J13, rfl, rfl, hI14, hK15, hp187, by have hz188 : M12 a 2 = M3 a 2 := (hK16.getS rfl rfl); omega, (by have hz : M12 (a + 2) 168 = M (a + 2) 168 := ((hK16.getA rfl rfl rfl).trans (hk7.getA rfl rfl rfl)); have hz2 : M12 (a + 2) 172 = M (a + 2) 172 := ((hK16.getA rfl rfl rfl).trans (hk7.getA rfl rfl rfl)); omega), (fun j hj => ((hK16.getA rfl rfl rfl).trans (hk7.getA rfl rfl rfl))), (Or.inl ⟨rfl, zNs.bad1 h22 (by omega) (by omega) (by omega)⟩), (fun j hj => ((hK16.getA rfl rfl rfl).trans (hk7.getA rfl rfl rfl)))⟩)
        · refine q_iinc C [.ref (w.2.1 + a), zi u9, zi (u10 + 1), .ref (w.2.1 + (a + 7)), .null, .null] dX12_switches_32 (n := 35) rfl rfl rfl rfl ?_
          refine q_goto C 13 dX12_switches_35 rfl ?_
          exact zK.weak (ih25 u9 (u10 + 1) M12 J13 hI14 hK15 hK16 (by omega) (by omega) (by omega) (by have hz189 : M12 a 3 = M3 a 3 := (hK16.getS rfl rfl); omega) h21 (zNs.blank h22 (by omega) (by rw [zClip_at (by omega)]; omega)) (by omega)) (zwk_c (zwk_c (zwk_c (zwk_c (zwk_n (zwk_n zwk_e))))))
  exact zK.weak (L_23 _ 0 0 M3 J4 hI5 hK8 (zMd.rf : zMd a [7] [] [] M3 M3) (by omega) (by omega) (by omega) (by omega) (fun k k0 k1 => by omega) (zNs.nil (by omega) rfl rfl) (Int.self_le_toNat _)) (zwk_c (zwk_c (zwk_c (zwk_c (zwk_n (zwk_n zwk_e))))))
