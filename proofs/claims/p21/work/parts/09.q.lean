/-! ===== typed memory: each cell has a tag and bounds ===== -/
abbrev zMm : Type := Nat → Int → Int
abbrev zJm : Type := Nat → Int → Int64
abbrev zRm' : Type := Nat → Int → Option Nat
abbrev zTl : Type := List (Nat × Nat)
abbrev zGt : Type := Nat → Int → Nat × Int × Int
def zTy (G : zGt) (M : zMm) : Prop := ∀ a k, (G a k).2.1 ≤ M a k ∧ M a k ≤ (G a k).2.2
def zSum (g : Int → Int) (b : Int) : Nat → Int
  | 0 => 0
  | n + 1 => zSum g b n + g (b + n)
/-- rows: where (tag 2) and look (tag 3, the next cell); pages: size (tag 4), starts (tag 5, two cells on), guard (tags 6, 7); file tables: a table begins at tag 8, lines and lengths have tag 9 -/
def zRl1 (G : zGt) (M : zMm) : Prop := ∀ a i, (G a i).1 = 2 → M a i + zand (M (a + 1) i) 31 ≤ (G a i).2.2 ∧ zand (M (a + 1) i) 31 ≤ 30
def zRl2 (G : zGt) (M : zMm) : Prop := ∀ q, (G q 3).1 = 4 → (∀ i, 0 ≤ i → i < M q 3 → M (q + 2) i ≤ M (q + 2) (i + 1)) ∧ M q 5 + M q 6 ≤ 401
def zRl3 (G : zGt) (M : zMm) : Prop := ∀ a b, (G a b).1 = 8 → ∀ k, 0 ≤ k → k < 4 → M a (b + 4 + k) ≤ 40 ∧ zSum (M a) (b + 8 + 40 * k) (M a (b + 4 + k)).toNat ≤ 400
def zGw (G : zGt) : Prop := (∀ a i, (G a i).1 = 2 → (G (a + 1) i).1 = 3) ∧ (∀ q, (G q 3).1 = 4 → (∀ i, (G (q + 2) i).1 = 5) ∧ (G q 5).1 = 6 ∧ (G q 6).1 = 7) ∧ (∀ a b, (G a b).1 = 8 → ∀ j, 4 ≤ j → j < 168 → (G a (b + j)).1 = 9)
def zI (G : zGt) (M : zMm) : Prop := zGw G ∧ zTy G M ∧ zRl1 G M ∧ zRl2 G M ∧ zRl3 G M
def zfree (t : Nat) : Bool := !(t == 2 || t == 3 || t == 4 || t == 5 || t == 6 || t == 7 || t == 9)
/-- cells of a tag from n on are as they were -/
def zKp (G : zGt) (n : Nat) (M M2 : zMm) : Prop := ∀ c k, n ≤ (G c k).1 → M2 c k = M c k
theorem zKp.rf {G : zGt} {n : Nat} {M : zMm} : zKp G n M M := fun _ _ _ => rfl
theorem zKp.tr {G : zGt} {n n2 : Nat} {M M1 M2 : zMm} (h : zKp G n M M1) (h2 : zKp G n2 M1 M2) (hn : n2 ≤ n) : zKp G n M M2 := fun c k q => (h2 c k (Nat.le_trans hn q)).trans (h c k q)
theorem zI.at {G : zGt} {M : zMm} {a : Nat} {i lo hi : Int} {t : Nat} (h : zI G M) (hg : G a i = (t, lo, hi)) : lo ≤ M a i ∧ M a i ≤ hi := by
  have := h.2.1 a i
  rw [hg] at this
  exact this
theorem zTy.put {G : zGt} {M M2 : zMm} {a : Nat} {i x lo hi : Int} {t : Nat} (h : zTy G M) (hM : M2 = zup M a i x) (hg : G a i = (t, lo, hi)) (hx : lo ≤ x ∧ x ≤ hi) : zTy G M2 := by
  intro c j
  rw [hM]
  by_cases q : c = a ∧ j = i
  · obtain ⟨rfl, rfl⟩ := q
    rw [zup_at, hg]
    exact hx
  · have : zup M a i x c j = M c j := if_neg q
    rw [this]
    exact h c j
theorem zup_n {α : Type} {M M2 : Nat → Int → α} {a c : Nat} {i j : Int} {x : α} (hM : M2 = zup M a i x) (h : ¬ (c = a ∧ j = i)) : M2 c j = M c j := by
  rw [hM]
  exact if_neg h
theorem zup_s {α : Type} {M M2 : Nat → Int → α} {a : Nat} {i : Int} {x : α} (hM : M2 = zup M a i x) : M2 a i = x := by
  rw [hM]
  exact if_pos ⟨rfl, rfl⟩
theorem zup_p {α : Type} {M M2 : Nat → Int → α} {a c : Nat} {i : Int} {x : α} (hM : M2 = zup M a i x) (h : c ≠ a) (j : Int) : M2 c j = M c j := zup_n hM (fun q => h q.1)
theorem zKp.put {G : zGt} {n : Nat} {M0 M M2 : zMm} {a : Nat} {i x lo hi : Int} {t : Nat} (h : zKp G n M0 M) (hM : M2 = zup M a i x) (hg : G a i = (t, lo, hi)) (ht : t < n) : zKp G n M0 M2 := by
  intro c k q
  rw [zup_n hM, h c k q]
  rintro ⟨rfl, rfl⟩
  rw [hg] at q
  exact absurd ht (Nat.not_lt.mpr q)
theorem zSum_cg {g h : Int → Int} {b : Int} : ∀ (n : Nat), (∀ i : Nat, i < n → g (b + i) = h (b + i)) → zSum g b n = zSum h b n
  | 0, _ => rfl
  | n + 1, q => by
    unfold zSum
    rw [zSum_cg n (fun i hi => q i (by omega)), q n (by omega)]
theorem zI.put {G : zGt} {M M2 : zMm} {a : Nat} {i x lo hi : Int} {t : Nat} (h : zI G M) (hM : M2 = zup M a i x) (hg : G a i = (t, lo, hi)) (hf : zfree t = true) (hx : lo ≤ x ∧ x ≤ hi) : zI G M2 := by
  obtain ⟨hw, ht, h1, h2, h3⟩ := h
  have hne : ∀ c j, zfree (G c j).1 = false → M2 c j = M c j := by
    intro c j n0
    refine zup_n hM ?_
    rintro ⟨rfl, rfl⟩
    rw [hg] at n0
    rw [hf] at n0
    cases n0
  refine ⟨hw, ht.put hM hg hx, ?_, ?_, ?_⟩
  · intro c j q
    have q2 := hw.1 c j q
    rw [hne c j (by rw [q]; rfl), hne (c + 1) j (by rw [q2]; rfl)]
    exact h1 c j q
  · intro c q
    obtain ⟨g1, g2, g3⟩ := hw.2.1 c q
    rw [hne c 3 (by rw [q]; rfl), hne c 5 (by rw [g2]; rfl), hne c 6 (by rw [g3]; rfl)]
    refine ⟨fun j q1 q2 => ?_, (h2 c q).2⟩
    rw [hne (c + 2) j (by rw [g1]; rfl), hne (c + 2) (j + 1) (by rw [g1]; rfl)]
    exact (h2 c q).1 j q1 q2
  · intro c b q k k0 k4
    have g := hw.2.2 c b q
    have e1 : M2 c (b + 4 + k) = M c (b + 4 + k) := by
      have := g (4 + k) (by omega) (by omega)
      rw [← Int.add_assoc] at this
      exact hne c _ (by rw [this]; rfl)
    obtain ⟨hl, hb⟩ := h3 c b q k k0 k4
    rw [e1]
    refine ⟨hl, ?_⟩
    rw [zSum_cg (g := M2 c) (h := M c)]
    · exact hb
    · intro j hj
      have := g (8 + 40 * k + j) (by omega) (by omega)
      rw [show b + 8 + 40 * k + (j : Int) = b + (8 + 40 * k + j) by omega]
      exact hne c _ (by rw [this]; rfl)

/-! ===== what a method leaves ===== -/
def zPi (T : zTl) (R : zRm') (G : zGt) (E : Int → zMm → Prop) : Option Value → zSg → Prop := fun v τ => ∃ (x : Int) (M' : zMm) (J' : zJm), v = some (zi x) ∧ τ = (T, M', J', R) ∧ zI G M' ∧ E x M'
def zPv (T : zTl) (R : zRm') (G : zGt) (E : zMm → Prop) : Option Value → zSg → Prop := fun v τ => ∃ (M' : zMm) (J' : zJm), v = none ∧ τ = (T, M', J', R) ∧ zI G M' ∧ E M'
def zPl (T : zTl) (R : zRm') (G : zGt) (E : zMm → Prop) : Option Value → zSg → Prop := fun v τ => ∃ (x : Int64) (M' : zMm) (J' : zJm), v = some (.long x) ∧ τ = (T, M', J', R) ∧ zI G M' ∧ E M'
def zPp (T : zTl) (M : zMm) (J : zJm) (R : zRm') (E : Int → Prop) : Option Value → zSg → Prop := fun v τ => ∃ (x : Int), v = some (zi x) ∧ τ = (T, M, J, R) ∧ E x
def zPq (T : zTl) (M : zMm) (J : zJm) (R : zRm') : Option Value → zSg → Prop := fun v τ => ∃ (x : Int64), v = some (.long x) ∧ τ = (T, M, J, R)
/-- locals of which less is known -/
def zwk (l1 l2 : List Value) : Prop := match l1, l2 with
  | [], _ => True
  | .null :: l1, _ :: l2 => zwk l1 l2
  | v :: l1, v2 :: l2 => v = v2 ∧ zwk l1 l2
  | _ :: _, [] => False
theorem zwk_at : ∀ (l1 l2 : List Value), zwk l1 l2 → ∀ (j : Nat) (v : Value), l1[j]? = some v → znl v = false → l2[j]? = some v
  | [], _, _, j, v, h, _ => by simp at h
  | x :: l1, [], q, j, v, h, _ => by
    unfold zwk at q
    cases x <;> simp at q
  | x :: l1, x2 :: l2, q, j, v, h, hn => by
    have q2 : zwk l1 l2 ∧ (znl x = false → x = x2) := by
      unfold zwk at q
      cases x <;> first | exact ⟨q, fun z => by cases z⟩ | exact ⟨q.2, fun _ => q.1⟩
    cases j with
    | zero =>
      simp at h
      subst h
      simp [q2.2 hn]
    | succ j => exact zwk_at l1 l2 q2.1 j v (by simpa using h) hn
theorem zwk_e {l : List Value} : zwk [] l := by unfold zwk; trivial
theorem zwk_n {x : Value} {l1 l2 : List Value} (h : zwk l1 l2) : zwk (.null :: l1) (x :: l2) := h
theorem zwk_c {x : Value} {l1 l2 : List Value} (h : zwk l1 l2) : zwk (x :: l1) (x :: l2) := by
  unfold zwk
  cases x <;> first | exact h | exact ⟨rfl, h⟩
theorem zne_t {G : zGt} {a c t t2 : Nat} {i j lo hi lo2 hi2 : Int} (hg : G c j = (t, lo, hi)) (hg2 : G a i = (t2, lo2, hi2)) (h : t ≠ t2) : ¬ (c = a ∧ j = i) := by
  rintro ⟨rfl, rfl⟩
  rw [hg] at hg2
  exact h (congrArg Prod.fst hg2)
theorem zle_t {G : zGt} {a n t : Nat} {i lo hi : Int} (hg : G a i = (t, lo, hi)) (h : n ≤ t) : n ≤ (G a i).1 := by rw [hg]; exact h
section QRULES
variable {w : zWp} {p : Program} {e : Env} {d mc ms : Nat} {s : State} {m : MethodId} {args : Array Value} {below : List Frame} {meth : Method} {c : Code} {y : MethodName} {b : ByteArray} {nL : Nat} {ret : Option FieldType} {T0 T : zTl} {M : zMm} {J : zJm} {R : zRm'} {G : zGt} {Post : Option Value → zSg → Prop} {pc n : Nat} {lv st : List Value} {σ : zSg}
theorem zK.weak {lv1 : List Value} (k : zK w p e d mc ms s m args below meth c nL T0 Post pc lv1 st σ) (h : zwk lv1 lv) : zK w p e d mc ms s m args below meth c nL T0 Post pc lv st σ := fun ls H locs k1 n h1 h2 hl hW hS => k ls H locs k1 n h1 h2 ⟨hl.1, hl.2.1, fun q hq => hl.2.2 q (by
  obtain ⟨j, v⟩ := q
  obtain ⟨a1, a2⟩ := zal_mem.mp hq
  exact zal_mem.mpr ⟨zwk_at lv1 lv h j v a1 a2, a2⟩)⟩ hW hS

theorem q_iconst (C : zCx w p s m args meth c y b nL ret) {x : Int} (hd : decode b pc = .ok (.iconst x, 1)) (hn : pc + 1 = n) (kk : zK w p e d mc ms s m args below meth c nL T0 Post n lv (zi x :: st) σ) : zK w p e d mc ms s m args below meth c nL T0 Post pc lv (st) σ := r_iconst C hd (by rw [hn]; exact kk)
theorem q_bipush (C : zCx w p s m args meth c y b nL ret) {z x : Int} (hd : decode b pc = .ok (.bipush z, 2)) (hn : pc + 2 = n) (hx : (Int8.ofInt z).toInt32 = Int32.ofInt x) (kk : zK w p e d mc ms s m args below meth c nL T0 Post n lv (zi x :: st) σ) : zK w p e d mc ms s m args below meth c nL T0 Post pc lv (st) σ := r_bipush C hx hd (by rw [hn]; exact kk)
theorem q_sipush (C : zCx w p s m args meth c y b nL ret) {z x : Int} (hd : decode b pc = .ok (.sipush z, 3)) (hn : pc + 3 = n) (hx : (Int16.ofInt z).toInt32 = Int32.ofInt x) (kk : zK w p e d mc ms s m args below meth c nL T0 Post n lv (zi x :: st) σ) : zK w p e d mc ms s m args below meth c nL T0 Post pc lv (st) σ := r_sipush C hx hd (by rw [hn]; exact kk)
theorem q_lconst (C : zCx w p s m args meth c y b nL ret) {z : Fin 2} (hd : decode b pc = .ok (.lconst z, 1)) (hn : pc + 1 = n) (kk : zK w p e d mc ms s m args below meth c nL T0 Post n lv (.long (Int64.ofNat (z : Nat)) :: st) σ) : zK w p e d mc ms s m args below meth c nL T0 Post pc lv (st) σ := r_lconst C rfl hd (by rw [hn]; exact kk)
theorem q_ldc (C : zCx w p s m args meth c y b nL ret) {ix : Nat} {x : Int} (hd : decode b pc = .ok (.ldc ix, 2)) (hn : pc + 2 = n) (hq : Cond.constant y.cls ix (Int32.ofInt x) ∈ lw_g) (kk : zK w p e d mc ms s m args below meth c nL T0 Post n lv (zi x :: st) σ) : zK w p e d mc ms s m args below meth c nL T0 Post pc lv (st) σ := r_ldc C hq hd (by rw [hn]; exact kk)
theorem q_ldcw (C : zCx w p s m args meth c y b nL ret) {ix : Nat} {x : Int} (hd : decode b pc = .ok (.ldc_w ix, 3)) (hn : pc + 3 = n) (hq : Cond.constant y.cls ix (Int32.ofInt x) ∈ lw_g) (kk : zK w p e d mc ms s m args below meth c nL T0 Post n lv (zi x :: st) σ) : zK w p e d mc ms s m args below meth c nL T0 Post pc lv (st) σ := r_ldcw C hq hd (by rw [hn]; exact kk)
theorem q_ldc2 (C : zCx w p s m args meth c y b nL ret) {ix : Nat} {x : Int64} (hd : decode b pc = .ok (.ldc2_w ix, 3)) (hn : pc + 3 = n) (hq : Cond.constantLong y.cls ix x ∈ lw_g) (kk : zK w p e d mc ms s m args below meth c nL T0 Post n lv (.long x :: st) σ) : zK w p e d mc ms s m args below meth c nL T0 Post pc lv (st) σ := r_ldc2 C hq hd (by rw [hn]; exact kk)
theorem q_iload_n (C : zCx w p s m args meth c y b nL ret) {kx : Fin 4} {x : Int} (hd : decode b pc = .ok (.iload_n kx, 1)) (hn : pc + 1 = n) (hg : lv[(kx : Nat)]? = some (zi x)) (kk : zK w p e d mc ms s m args below meth c nL T0 Post n lv (zi x :: st) σ) : zK w p e d mc ms s m args below meth c nL T0 Post pc lv (st) σ := r_iload_n C rfl hg hd (by rw [hn]; exact kk)
theorem q_iload (C : zCx w p s m args meth c y b nL ret) {i : Nat} {x : Int} (hd : decode b pc = .ok (.iload i, 2)) (hn : pc + 2 = n) (hg : lv[i]? = some (zi x)) (kk : zK w p e d mc ms s m args below meth c nL T0 Post n lv (zi x :: st) σ) : zK w p e d mc ms s m args below meth c nL T0 Post pc lv (st) σ := r_iload C hg hd (by rw [hn]; exact kk)
theorem q_lload_n (C : zCx w p s m args meth c y b nL ret) {kx : Fin 4} {x : Int64} (hd : decode b pc = .ok (.lload_n kx, 1)) (hn : pc + 1 = n) (hg : lv[(kx : Nat)]? = some (.long x)) (kk : zK w p e d mc ms s m args below meth c nL T0 Post n lv (.long x :: st) σ) : zK w p e d mc ms s m args below meth c nL T0 Post pc lv (st) σ := r_lload_n C rfl hg hd (by rw [hn]; exact kk)
theorem q_lload (C : zCx w p s m args meth c y b nL ret) {i : Nat} {x : Int64} (hd : decode b pc = .ok (.lload i, 2)) (hn : pc + 2 = n) (hg : lv[i]? = some (.long x)) (kk : zK w p e d mc ms s m args below meth c nL T0 Post n lv (.long x :: st) σ) : zK w p e d mc ms s m args below meth c nL T0 Post pc lv (st) σ := r_lload C hg hd (by rw [hn]; exact kk)
theorem q_aload_n (C : zCx w p s m args meth c y b nL ret) {kx : Fin 4} {x : Nat} (hd : decode b pc = .ok (.aload_n kx, 1)) (hn : pc + 1 = n) (hg : lv[(kx : Nat)]? = some (.ref x)) (kk : zK w p e d mc ms s m args below meth c nL T0 Post n lv (.ref x :: st) σ) : zK w p e d mc ms s m args below meth c nL T0 Post pc lv (st) σ := r_aload_n C rfl hg hd (by rw [hn]; exact kk)
theorem q_aload (C : zCx w p s m args meth c y b nL ret) {i : Nat} {x : Nat} (hd : decode b pc = .ok (.aload i, 2)) (hn : pc + 2 = n) (hg : lv[i]? = some (.ref x)) (kk : zK w p e d mc ms s m args below meth c nL T0 Post n lv (.ref x :: st) σ) : zK w p e d mc ms s m args below meth c nL T0 Post pc lv (st) σ := r_aload C hg hd (by rw [hn]; exact kk)
theorem q_istore_n (C : zCx w p s m args meth c y b nL ret) {kx : Fin 4} {x : Int} (lv2 : List Value) (hd : decode b pc = .ok (.istore_n kx, 1)) (hn : pc + 1 = n) (ho : (decide ((kx : Nat) < nL) && zok lv (kx : Nat)) = true) (hv : lv.set (kx : Nat) (zi x) = lv2) (kk : zK w p e d mc ms s m args below meth c nL T0 Post n lv2 (st) σ) : zK w p e d mc ms s m args below meth c nL T0 Post pc lv (zi x :: st) σ := r_istore_n C rfl (of_decide_eq_true (Bool.and_eq_true_iff.mp ho).1) (Bool.and_eq_true_iff.mp ho).2 hv hd (by rw [hn]; exact kk)
theorem q_istore (C : zCx w p s m args meth c y b nL ret) {i : Nat} {x : Int} (lv2 : List Value) (hd : decode b pc = .ok (.istore i, 2)) (hn : pc + 2 = n) (ho : (decide (i < nL) && zok lv i) = true) (hv : lv.set i (zi x) = lv2) (kk : zK w p e d mc ms s m args below meth c nL T0 Post n lv2 (st) σ) : zK w p e d mc ms s m args below meth c nL T0 Post pc lv (zi x :: st) σ := r_istore C (of_decide_eq_true (Bool.and_eq_true_iff.mp ho).1) (Bool.and_eq_true_iff.mp ho).2 hv hd (by rw [hn]; exact kk)
theorem q_astore_n (C : zCx w p s m args meth c y b nL ret) {kx : Fin 4} {x : Nat} (lv2 : List Value) (hd : decode b pc = .ok (.astore_n kx, 1)) (hn : pc + 1 = n) (ho : (decide ((kx : Nat) < nL) && zok lv (kx : Nat)) = true) (hv : lv.set (kx : Nat) (.ref x) = lv2) (kk : zK w p e d mc ms s m args below meth c nL T0 Post n lv2 (st) σ) : zK w p e d mc ms s m args below meth c nL T0 Post pc lv (.ref x :: st) σ := r_astore_n C rfl (of_decide_eq_true (Bool.and_eq_true_iff.mp ho).1) (Bool.and_eq_true_iff.mp ho).2 hv hd (by rw [hn]; exact kk)
theorem q_astore (C : zCx w p s m args meth c y b nL ret) {i : Nat} {x : Nat} (lv2 : List Value) (hd : decode b pc = .ok (.astore i, 2)) (hn : pc + 2 = n) (ho : (decide (i < nL) && zok lv i) = true) (hv : lv.set i (.ref x) = lv2) (kk : zK w p e d mc ms s m args below meth c nL T0 Post n lv2 (st) σ) : zK w p e d mc ms s m args below meth c nL T0 Post pc lv (.ref x :: st) σ := r_astore C (of_decide_eq_true (Bool.and_eq_true_iff.mp ho).1) (Bool.and_eq_true_iff.mp ho).2 hv hd (by rw [hn]; exact kk)
theorem q_lstore_n (C : zCx w p s m args meth c y b nL ret) {kx : Fin 4} {x : Int64} (lv2 : List Value) (hd : decode b pc = .ok (.lstore_n kx, 1)) (hn : pc + 1 = n) (ho : (decide ((kx : Nat) + 1 < nL) && zok lv (kx : Nat)) = true) (hv : (lv.set (kx : Nat) (.long x)).set ((kx : Nat) + 1) .null = lv2) (kk : zK w p e d mc ms s m args below meth c nL T0 Post n lv2 (st) σ) : zK w p e d mc ms s m args below meth c nL T0 Post pc lv (.long x :: st) σ := r_lstore_n C rfl (of_decide_eq_true (Bool.and_eq_true_iff.mp ho).1) (Bool.and_eq_true_iff.mp ho).2 hv hd (by rw [hn]; exact kk)
theorem q_lstore (C : zCx w p s m args meth c y b nL ret) {i : Nat} {x : Int64} (lv2 : List Value) (hd : decode b pc = .ok (.lstore i, 2)) (hn : pc + 2 = n) (ho : (decide (i + 1 < nL) && zok lv i) = true) (hv : (lv.set i (.long x)).set (i + 1) .null = lv2) (kk : zK w p e d mc ms s m args below meth c nL T0 Post n lv2 (st) σ) : zK w p e d mc ms s m args below meth c nL T0 Post pc lv (.long x :: st) σ := r_lstore C (of_decide_eq_true (Bool.and_eq_true_iff.mp ho).1) (Bool.and_eq_true_iff.mp ho).2 hv hd (by rw [hn]; exact kk)
theorem q_iinc (C : zCx w p s m args meth c y b nL ret) {i : Nat} {x a : Int} (lv2 : List Value) (hd : decode b pc = .ok (.iinc i a, 3)) (hn : pc + 3 = n) (hg : lv[i]? = some (zi x)) (ho : (decide (i < nL) && zok lv i) = true) (hv : lv.set i (zi (x + a)) = lv2) (kk : zK w p e d mc ms s m args below meth c nL T0 Post n lv2 (st) σ) : zK w p e d mc ms s m args below meth c nL T0 Post pc lv (st) σ := r_iinc C hg (of_decide_eq_true (Bool.and_eq_true_iff.mp ho).1) (Bool.and_eq_true_iff.mp ho).2 hv hd (by rw [hn]; exact kk)
theorem q_iadd (C : zCx w p s m args meth c y b nL ret) {x x2 v : Int} (hd : decode b pc = .ok (.iadd, 1)) (hn : pc + 1 = n) (he : x + x2 = v) (kk : zK w p e d mc ms s m args below meth c nL T0 Post n lv (zi v :: st) σ) : zK w p e d mc ms s m args below meth c nL T0 Post pc lv (zi x2 :: zi x :: st) σ := r_iadd C hd (by rw [hn, he]; exact kk)
theorem q_isub (C : zCx w p s m args meth c y b nL ret) {x x2 v : Int} (hd : decode b pc = .ok (.isub, 1)) (hn : pc + 1 = n) (he : x - x2 = v) (kk : zK w p e d mc ms s m args below meth c nL T0 Post n lv (zi v :: st) σ) : zK w p e d mc ms s m args below meth c nL T0 Post pc lv (zi x2 :: zi x :: st) σ := r_isub C hd (by rw [hn, he]; exact kk)
theorem q_imul (C : zCx w p s m args meth c y b nL ret) {x x2 v : Int} (hd : decode b pc = .ok (.imul, 1)) (hn : pc + 1 = n) (he : x * x2 = v) (kk : zK w p e d mc ms s m args below meth c nL T0 Post n lv (zi v :: st) σ) : zK w p e d mc ms s m args below meth c nL T0 Post pc lv (zi x2 :: zi x :: st) σ := r_imul C hd (by rw [hn, he]; exact kk)
theorem q_iand (C : zCx w p s m args meth c y b nL ret) {x x2 v : Int} (hd : decode b pc = .ok (.iand, 1)) (hn : pc + 1 = n) (he : zand x x2 = v) (kk : zK w p e d mc ms s m args below meth c nL T0 Post n lv (zi v :: st) σ) : zK w p e d mc ms s m args below meth c nL T0 Post pc lv (zi x2 :: zi x :: st) σ := r_iand C hd (by rw [hn, he]; exact kk)
theorem q_ior (C : zCx w p s m args meth c y b nL ret) {x x2 v : Int} (hd : decode b pc = .ok (.ior, 1)) (hn : pc + 1 = n) (he : zor x x2 = v) (kk : zK w p e d mc ms s m args below meth c nL T0 Post n lv (zi v :: st) σ) : zK w p e d mc ms s m args below meth c nL T0 Post pc lv (zi x2 :: zi x :: st) σ := r_ior C hd (by rw [hn, he]; exact kk)
theorem q_ixor (C : zCx w p s m args meth c y b nL ret) {x x2 v : Int} (hd : decode b pc = .ok (.ixor, 1)) (hn : pc + 1 = n) (he : zxor x x2 = v) (kk : zK w p e d mc ms s m args below meth c nL T0 Post n lv (zi v :: st) σ) : zK w p e d mc ms s m args below meth c nL T0 Post pc lv (zi x2 :: zi x :: st) σ := r_ixor C hd (by rw [hn, he]; exact kk)
theorem q_ishl (C : zCx w p s m args meth c y b nL ret) {x x2 v : Int} (hd : decode b pc = .ok (.ishl, 1)) (hn : pc + 1 = n) (he : zshl x x2 = v) (kk : zK w p e d mc ms s m args below meth c nL T0 Post n lv (zi v :: st) σ) : zK w p e d mc ms s m args below meth c nL T0 Post pc lv (zi x2 :: zi x :: st) σ := r_ishl C hd (by rw [hn, he]; exact kk)
theorem q_ishr (C : zCx w p s m args meth c y b nL ret) {x x2 v : Int} (hd : decode b pc = .ok (.ishr, 1)) (hn : pc + 1 = n) (he : zshr x x2 = v) (kk : zK w p e d mc ms s m args below meth c nL T0 Post n lv (zi v :: st) σ) : zK w p e d mc ms s m args below meth c nL T0 Post pc lv (zi x2 :: zi x :: st) σ := r_ishr C hd (by rw [hn, he]; exact kk)
theorem q_i2b (C : zCx w p s m args meth c y b nL ret) {x v : Int} (hd : decode b pc = .ok (.i2b, 1)) (hn : pc + 1 = n) (he : zi2b x = v) (kk : zK w p e d mc ms s m args below meth c nL T0 Post n lv (zi v :: st) σ) : zK w p e d mc ms s m args below meth c nL T0 Post pc lv (zi x :: st) σ := r_i2b C hd (by rw [hn, he]; exact kk)
theorem q_i2l (C : zCx w p s m args meth c y b nL ret) {x : Int} (hd : decode b pc = .ok (.i2l, 1)) (hn : pc + 1 = n) (kk : zK w p e d mc ms s m args below meth c nL T0 Post n lv (.long (Int32.ofInt x).toInt64 :: st) σ) : zK w p e d mc ms s m args below meth c nL T0 Post pc lv (zi x :: st) σ := r_i2l C hd (by rw [hn]; exact kk)
theorem q_l2i (C : zCx w p s m args meth c y b nL ret) {x : Int64} (hd : decode b pc = .ok (.l2i, 1)) (hn : pc + 1 = n) (kk : zK w p e d mc ms s m args below meth c nL T0 Post n lv (zi x.toInt32.toInt :: st) σ) : zK w p e d mc ms s m args below meth c nL T0 Post pc lv (.long x :: st) σ := r_l2i C hd (by rw [hn]; exact kk)
theorem q_ladd (C : zCx w p s m args meth c y b nL ret) {x x2 : Int64} (hd : decode b pc = .ok (.ladd, 1)) (hn : pc + 1 = n) (kk : ∀ z : Int64, zK w p e d mc ms s m args below meth c nL T0 Post n lv (.long z :: st) σ) : zK w p e d mc ms s m args below meth c nL T0 Post pc lv (.long x2 :: .long x :: st) σ := r_ladd C hd (by rw [hn]; exact kk _)
theorem q_lsub (C : zCx w p s m args meth c y b nL ret) {x x2 : Int64} (hd : decode b pc = .ok (.lsub, 1)) (hn : pc + 1 = n) (kk : ∀ z : Int64, zK w p e d mc ms s m args below meth c nL T0 Post n lv (.long z :: st) σ) : zK w p e d mc ms s m args below meth c nL T0 Post pc lv (.long x2 :: .long x :: st) σ := r_lsub C hd (by rw [hn]; exact kk _)
theorem q_lmul (C : zCx w p s m args meth c y b nL ret) {x x2 : Int64} (hd : decode b pc = .ok (.lmul, 1)) (hn : pc + 1 = n) (kk : ∀ z : Int64, zK w p e d mc ms s m args below meth c nL T0 Post n lv (.long z :: st) σ) : zK w p e d mc ms s m args below meth c nL T0 Post pc lv (.long x2 :: .long x :: st) σ := r_lmul C hd (by rw [hn]; exact kk _)
theorem q_land (C : zCx w p s m args meth c y b nL ret) {x x2 : Int64} (hd : decode b pc = .ok (.land, 1)) (hn : pc + 1 = n) (kk : ∀ z : Int64, zK w p e d mc ms s m args below meth c nL T0 Post n lv (.long z :: st) σ) : zK w p e d mc ms s m args below meth c nL T0 Post pc lv (.long x2 :: .long x :: st) σ := r_land C hd (by rw [hn]; exact kk _)
theorem q_lor (C : zCx w p s m args meth c y b nL ret) {x x2 : Int64} (hd : decode b pc = .ok (.lor, 1)) (hn : pc + 1 = n) (kk : ∀ z : Int64, zK w p e d mc ms s m args below meth c nL T0 Post n lv (.long z :: st) σ) : zK w p e d mc ms s m args below meth c nL T0 Post pc lv (.long x2 :: .long x :: st) σ := r_lor C hd (by rw [hn]; exact kk _)
theorem q_lxor (C : zCx w p s m args meth c y b nL ret) {x x2 : Int64} (hd : decode b pc = .ok (.lxor, 1)) (hn : pc + 1 = n) (kk : ∀ z : Int64, zK w p e d mc ms s m args below meth c nL T0 Post n lv (.long z :: st) σ) : zK w p e d mc ms s m args below meth c nL T0 Post pc lv (.long x2 :: .long x :: st) σ := r_lxor C hd (by rw [hn]; exact kk _)
theorem q_ldiv (C : zCx w p s m args meth c y b nL ret) {x x2 : Int64} (hd : decode b pc = .ok (.ldiv, 1)) (hn : pc + 1 = n) (h0 : ¬ x2 = 0) (kk : ∀ z : Int64, zK w p e d mc ms s m args below meth c nL T0 Post n lv (.long z :: st) σ) : zK w p e d mc ms s m args below meth c nL T0 Post pc lv (.long x2 :: .long x :: st) σ := r_ldiv C h0 hd (by rw [hn]; exact kk)
theorem q_lrem (C : zCx w p s m args meth c y b nL ret) {x x2 : Int64} (hd : decode b pc = .ok (.lrem, 1)) (hn : pc + 1 = n) (h0 : ¬ x2 = 0) (kk : ∀ z : Int64, zK w p e d mc ms s m args below meth c nL T0 Post n lv (.long z :: st) σ) : zK w p e d mc ms s m args below meth c nL T0 Post pc lv (.long x2 :: .long x :: st) σ := r_lrem C h0 hd (by rw [hn]; exact kk)
theorem q_lneg (C : zCx w p s m args meth c y b nL ret) {x : Int64} (hd : decode b pc = .ok (.lneg, 1)) (hn : pc + 1 = n) (kk : ∀ z : Int64, zK w p e d mc ms s m args below meth c nL T0 Post n lv (.long z :: st) σ) : zK w p e d mc ms s m args below meth c nL T0 Post pc lv (.long x :: st) σ := r_lneg C hd (by rw [hn]; exact kk _)
theorem q_lshl (C : zCx w p s m args meth c y b nL ret) {x : Int64} {x2 : Int} (hd : decode b pc = .ok (.lshl, 1)) (hn : pc + 1 = n) (kk : ∀ z : Int64, zK w p e d mc ms s m args below meth c nL T0 Post n lv (.long z :: st) σ) : zK w p e d mc ms s m args below meth c nL T0 Post pc lv (zi x2 :: .long x :: st) σ := r_lshl C hd (by rw [hn]; exact kk _)
theorem q_lshr (C : zCx w p s m args meth c y b nL ret) {x : Int64} {x2 : Int} (hd : decode b pc = .ok (.lshr, 1)) (hn : pc + 1 = n) (kk : ∀ z : Int64, zK w p e d mc ms s m args below meth c nL T0 Post n lv (.long z :: st) σ) : zK w p e d mc ms s m args below meth c nL T0 Post pc lv (zi x2 :: .long x :: st) σ := r_lshr C hd (by rw [hn]; exact kk _)
theorem zcmp_r (x x2 : Int64) : (lg_cmp x x2).toInt = 0 ∧ x = x2 ∨ ((lg_cmp x x2).toInt = 1 ∨ (lg_cmp x x2).toInt = -1) ∧ ¬ x = x2 := by
  unfold lg_cmp
  by_cases h1 : x = x2
  · subst h1
    simp
  · split <;> first | (simp_all; done) | (split <;> simp_all)
theorem q_lcmp (C : zCx w p s m args meth c y b nL ret) {x x2 : Int64} (hd : decode b pc = .ok (.lcmp, 1)) (hn : pc + 1 = n) (kk : ∀ z : Int, (z = 0 ∧ x = x2 ∨ (z = 1 ∨ z = -1) ∧ ¬ x = x2) → zK w p e d mc ms s m args below meth c nL T0 Post n lv (zi z :: st) σ) : zK w p e d mc ms s m args below meth c nL T0 Post pc lv (.long x2 :: .long x :: st) σ := r_lcmp C hd (by rw [hn]; exact kk _ (zcmp_r x x2))
theorem q_dup (C : zCx w p s m args meth c y b nL ret) {va : Value} (hd : decode b pc = .ok (.dup, 1)) (hn : pc + 1 = n) (hc : va.category = 1) (kk : zK w p e d mc ms s m args below meth c nL T0 Post n lv (va :: va :: st) σ) : zK w p e d mc ms s m args below meth c nL T0 Post pc lv (va :: st) σ := r_dup C hc hd (by rw [hn]; exact kk)
theorem q_pop (C : zCx w p s m args meth c y b nL ret) {va : Value} (hd : decode b pc = .ok (.pop, 1)) (hn : pc + 1 = n) (hc : va.category = 1) (kk : zK w p e d mc ms s m args below meth c nL T0 Post n lv (st) σ) : zK w p e d mc ms s m args below meth c nL T0 Post pc lv (va :: st) σ := r_pop C hc hd (by rw [hn]; exact kk)
theorem q_dup2 (C : zCx w p s m args meth c y b nL ret) {va vb : Value} (hd : decode b pc = .ok (.dup2, 1)) (hn : pc + 1 = n) (hc : va.category = 1 ∧ vb.category = 1) (kk : zK w p e d mc ms s m args below meth c nL T0 Post n lv (va :: vb :: va :: vb :: st) σ) : zK w p e d mc ms s m args below meth c nL T0 Post pc lv (va :: vb :: st) σ := r_dup2 C hc.1 hc.2 hd (by rw [hn]; exact kk)
theorem q_dup2l (C : zCx w p s m args meth c y b nL ret) {va : Value} (hd : decode b pc = .ok (.dup2, 1)) (hn : pc + 1 = n) (hc : va.category = 2) (kk : zK w p e d mc ms s m args below meth c nL T0 Post n lv (va :: va :: st) σ) : zK w p e d mc ms s m args below meth c nL T0 Post pc lv (va :: st) σ := r_dup2l C hc hd (by rw [hn]; exact kk)
theorem q_dupx1 (C : zCx w p s m args meth c y b nL ret) {va vb : Value} (hd : decode b pc = .ok (.dup_x1, 1)) (hn : pc + 1 = n) (hc : va.category = 1 ∧ vb.category = 1) (kk : zK w p e d mc ms s m args below meth c nL T0 Post n lv (va :: vb :: va :: st) σ) : zK w p e d mc ms s m args below meth c nL T0 Post pc lv (va :: vb :: st) σ := r_dupx1 C hc.1 hc.2 hd (by rw [hn]; exact kk)
theorem q_goto (C : zCx w p s m args meth c y b nL ret) {off : Int} (tgt : Nat) (hd : decode b pc = .ok (.goto off, 3)) (ht : (pc : Int) + off = (tgt : Int)) (kk : zK w p e d mc ms s m args below meth c nL T0 Post tgt lv st σ) : zK w p e d mc ms s m args below meth c nL T0 Post pc lv st σ := r_goto C hd ht kk
theorem q_icmp_eq (C : zCx w p s m args meth c y b nL ret) {x x2 off : Int} (tgt : Nat) (hd : decode b pc = .ok (.if_icmp .eq off, 3)) (hn : pc + 3 = n) (ht : (pc : Int) + off = (tgt : Int)) (hz : (-2147483648 ≤ x ∧ x ≤ 2147483647) ∧ (-2147483648 ≤ x2 ∧ x2 ≤ 2147483647)) (kt : x = x2 → zK w p e d mc ms s m args below meth c nL T0 Post tgt lv st σ) (kf : ¬ x = x2 → zK w p e d mc ms s m args below meth c nL T0 Post n lv st σ) : zK w p e d mc ms s m args below meth c nL T0 Post pc lv (zi x2 :: zi x :: st) σ := r_icmp_eq C hz.1 hz.2 hd ht kt (fun q => by rw [hn]; exact kf (q))
theorem q_if_eq (C : zCx w p s m args meth c y b nL ret) {x off : Int} (tgt : Nat) (hd : decode b pc = .ok (.ifCond .eq off, 3)) (hn : pc + 3 = n) (ht : (pc : Int) + off = (tgt : Int)) (hz : -2147483648 ≤ x ∧ x ≤ 2147483647) (kt : x = 0 → zK w p e d mc ms s m args below meth c nL T0 Post tgt lv st σ) (kf : ¬ x = 0 → zK w p e d mc ms s m args below meth c nL T0 Post n lv st σ) : zK w p e d mc ms s m args below meth c nL T0 Post pc lv (zi x :: st) σ := r_if_eq C hz hd ht kt (fun q => by rw [hn]; exact kf (q))
theorem q_icmp_ne (C : zCx w p s m args meth c y b nL ret) {x x2 off : Int} (tgt : Nat) (hd : decode b pc = .ok (.if_icmp .ne off, 3)) (hn : pc + 3 = n) (ht : (pc : Int) + off = (tgt : Int)) (hz : (-2147483648 ≤ x ∧ x ≤ 2147483647) ∧ (-2147483648 ≤ x2 ∧ x2 ≤ 2147483647)) (kt : ¬ x = x2 → zK w p e d mc ms s m args below meth c nL T0 Post tgt lv st σ) (kf : x = x2 → zK w p e d mc ms s m args below meth c nL T0 Post n lv st σ) : zK w p e d mc ms s m args below meth c nL T0 Post pc lv (zi x2 :: zi x :: st) σ := r_icmp_ne C hz.1 hz.2 hd ht kt (fun q => by rw [hn]; exact kf (q))
theorem q_if_ne (C : zCx w p s m args meth c y b nL ret) {x off : Int} (tgt : Nat) (hd : decode b pc = .ok (.ifCond .ne off, 3)) (hn : pc + 3 = n) (ht : (pc : Int) + off = (tgt : Int)) (hz : -2147483648 ≤ x ∧ x ≤ 2147483647) (kt : ¬ x = 0 → zK w p e d mc ms s m args below meth c nL T0 Post tgt lv st σ) (kf : x = 0 → zK w p e d mc ms s m args below meth c nL T0 Post n lv st σ) : zK w p e d mc ms s m args below meth c nL T0 Post pc lv (zi x :: st) σ := r_if_ne C hz hd ht kt (fun q => by rw [hn]; exact kf (q))
theorem q_icmp_lt (C : zCx w p s m args meth c y b nL ret) {x x2 off : Int} (tgt : Nat) (hd : decode b pc = .ok (.if_icmp .lt off, 3)) (hn : pc + 3 = n) (ht : (pc : Int) + off = (tgt : Int)) (hz : (-2147483648 ≤ x ∧ x ≤ 2147483647) ∧ (-2147483648 ≤ x2 ∧ x2 ≤ 2147483647)) (kt : x < x2 → zK w p e d mc ms s m args below meth c nL T0 Post tgt lv st σ) (kf : x2 ≤ x → zK w p e d mc ms s m args below meth c nL T0 Post n lv st σ) : zK w p e d mc ms s m args below meth c nL T0 Post pc lv (zi x2 :: zi x :: st) σ := r_icmp_lt C hz.1 hz.2 hd ht kt (fun q => by rw [hn]; exact kf (by omega))
theorem q_if_lt (C : zCx w p s m args meth c y b nL ret) {x off : Int} (tgt : Nat) (hd : decode b pc = .ok (.ifCond .lt off, 3)) (hn : pc + 3 = n) (ht : (pc : Int) + off = (tgt : Int)) (hz : -2147483648 ≤ x ∧ x ≤ 2147483647) (kt : x < 0 → zK w p e d mc ms s m args below meth c nL T0 Post tgt lv st σ) (kf : 0 ≤ x → zK w p e d mc ms s m args below meth c nL T0 Post n lv st σ) : zK w p e d mc ms s m args below meth c nL T0 Post pc lv (zi x :: st) σ := r_if_lt C hz hd ht kt (fun q => by rw [hn]; exact kf (by omega))
theorem q_icmp_ge (C : zCx w p s m args meth c y b nL ret) {x x2 off : Int} (tgt : Nat) (hd : decode b pc = .ok (.if_icmp .ge off, 3)) (hn : pc + 3 = n) (ht : (pc : Int) + off = (tgt : Int)) (hz : (-2147483648 ≤ x ∧ x ≤ 2147483647) ∧ (-2147483648 ≤ x2 ∧ x2 ≤ 2147483647)) (kt : x2 ≤ x → zK w p e d mc ms s m args below meth c nL T0 Post tgt lv st σ) (kf : x < x2 → zK w p e d mc ms s m args below meth c nL T0 Post n lv st σ) : zK w p e d mc ms s m args below meth c nL T0 Post pc lv (zi x2 :: zi x :: st) σ := r_icmp_ge C hz.1 hz.2 hd ht kt (fun q => by rw [hn]; exact kf (by omega))
theorem q_if_ge (C : zCx w p s m args meth c y b nL ret) {x off : Int} (tgt : Nat) (hd : decode b pc = .ok (.ifCond .ge off, 3)) (hn : pc + 3 = n) (ht : (pc : Int) + off = (tgt : Int)) (hz : -2147483648 ≤ x ∧ x ≤ 2147483647) (kt : 0 ≤ x → zK w p e d mc ms s m args below meth c nL T0 Post tgt lv st σ) (kf : x < 0 → zK w p e d mc ms s m args below meth c nL T0 Post n lv st σ) : zK w p e d mc ms s m args below meth c nL T0 Post pc lv (zi x :: st) σ := r_if_ge C hz hd ht kt (fun q => by rw [hn]; exact kf (by omega))
theorem q_icmp_gt (C : zCx w p s m args meth c y b nL ret) {x x2 off : Int} (tgt : Nat) (hd : decode b pc = .ok (.if_icmp .gt off, 3)) (hn : pc + 3 = n) (ht : (pc : Int) + off = (tgt : Int)) (hz : (-2147483648 ≤ x ∧ x ≤ 2147483647) ∧ (-2147483648 ≤ x2 ∧ x2 ≤ 2147483647)) (kt : x2 < x → zK w p e d mc ms s m args below meth c nL T0 Post tgt lv st σ) (kf : x ≤ x2 → zK w p e d mc ms s m args below meth c nL T0 Post n lv st σ) : zK w p e d mc ms s m args below meth c nL T0 Post pc lv (zi x2 :: zi x :: st) σ := r_icmp_gt C hz.1 hz.2 hd ht kt (fun q => by rw [hn]; exact kf (by omega))
theorem q_if_gt (C : zCx w p s m args meth c y b nL ret) {x off : Int} (tgt : Nat) (hd : decode b pc = .ok (.ifCond .gt off, 3)) (hn : pc + 3 = n) (ht : (pc : Int) + off = (tgt : Int)) (hz : -2147483648 ≤ x ∧ x ≤ 2147483647) (kt : 0 < x → zK w p e d mc ms s m args below meth c nL T0 Post tgt lv st σ) (kf : x ≤ 0 → zK w p e d mc ms s m args below meth c nL T0 Post n lv st σ) : zK w p e d mc ms s m args below meth c nL T0 Post pc lv (zi x :: st) σ := r_if_gt C hz hd ht kt (fun q => by rw [hn]; exact kf (by omega))
theorem q_icmp_le (C : zCx w p s m args meth c y b nL ret) {x x2 off : Int} (tgt : Nat) (hd : decode b pc = .ok (.if_icmp .le off, 3)) (hn : pc + 3 = n) (ht : (pc : Int) + off = (tgt : Int)) (hz : (-2147483648 ≤ x ∧ x ≤ 2147483647) ∧ (-2147483648 ≤ x2 ∧ x2 ≤ 2147483647)) (kt : x ≤ x2 → zK w p e d mc ms s m args below meth c nL T0 Post tgt lv st σ) (kf : x2 < x → zK w p e d mc ms s m args below meth c nL T0 Post n lv st σ) : zK w p e d mc ms s m args below meth c nL T0 Post pc lv (zi x2 :: zi x :: st) σ := r_icmp_le C hz.1 hz.2 hd ht kt (fun q => by rw [hn]; exact kf (by omega))
theorem q_if_le (C : zCx w p s m args meth c y b nL ret) {x off : Int} (tgt : Nat) (hd : decode b pc = .ok (.ifCond .le off, 3)) (hn : pc + 3 = n) (ht : (pc : Int) + off = (tgt : Int)) (hz : -2147483648 ≤ x ∧ x ≤ 2147483647) (kt : x ≤ 0 → zK w p e d mc ms s m args below meth c nL T0 Post tgt lv st σ) (kf : 0 < x → zK w p e d mc ms s m args below meth c nL T0 Post n lv st σ) : zK w p e d mc ms s m args below meth c nL T0 Post pc lv (zi x :: st) σ := r_if_le C hz hd ht kt (fun q => by rw [hn]; exact kf (by omega))
theorem q_getI (C : zCx w p s m args meth c y b nL ret) {ix ci N k a : Nat} {v : Int} (hd : decode b pc = .ok (.getfield ix, 3)) (hn : pc + 3 = n) (hf : zFd y.cls ix ci N k 0) (ht : T[a]? = some (ci, N)) (he : M a k = v) (kk : zK w p e d mc ms s m args below meth c nL T0 Post n lv (zi v :: st) (T, M, J, R)) : zK w p e d mc ms s m args below meth c nL T0 Post pc lv (.ref (w.2.1 + a) :: st) (T, M, J, R) := r_getI C hf ht hd (by rw [hn]; show zK w p e d mc ms s m args below meth c nL T0 Post n lv (zi (M a k) :: st) (T, M, J, R); rw [he]; exact kk)
theorem q_getL (C : zCx w p s m args meth c y b nL ret) {ix ci N k a : Nat} (hd : decode b pc = .ok (.getfield ix, 3)) (hn : pc + 3 = n) (hf : zFd y.cls ix ci N k 1) (ht : T[a]? = some (ci, N)) (kk : ∀ z : Int64, zK w p e d mc ms s m args below meth c nL T0 Post n lv (.long z :: st) (T, M, J, R)) : zK w p e d mc ms s m args below meth c nL T0 Post pc lv (.ref (w.2.1 + a) :: st) (T, M, J, R) := r_getL C hf ht hd (by rw [hn]; exact kk _)
theorem q_getR (C : zCx w p s m args meth c y b nL ret) {ix ci N k a r : Nat} (hd : decode b pc = .ok (.getfield ix, 3)) (hn : pc + 3 = n) (hf : zFd y.cls ix ci N k 2) (ht : T[a]? = some (ci, N)) (hr : R a k = some r) (kk : zK w p e d mc ms s m args below meth c nL T0 Post n lv (.ref (w.2.1 + r) :: st) (T, M, J, R)) : zK w p e d mc ms s m args below meth c nL T0 Post pc lv (.ref (w.2.1 + a) :: st) (T, M, J, R) := r_getR C hf ht hr hd (by rw [hn]; exact kk)
theorem q_putI (C : zCx w p s m args meth c y b nL ret) {ix ci N k a : Nat} {x : Int} (hd : decode b pc = .ok (.putfield ix, 3)) (hn : pc + 3 = n) (hf : zFd y.cls ix ci N k 0) (ht : T[a]? = some (ci, N)) (hfin : zfin ci k = false ∧ zty ci k = .int) (kk : ∀ M2 : zMm, M2 = zup M a k x → zK w p e d mc ms s m args below meth c nL T0 Post n lv st (T, M2, J, R)) : zK w p e d mc ms s m args below meth c nL T0 Post pc lv (zi x :: .ref (w.2.1 + a) :: st) (T, M, J, R) := r_putI C hf hfin.1 hfin.2 ht hd (by rw [hn]; exact kk _ rfl)
theorem q_putZ (C : zCx w p s m args meth c y b nL ret) {ix ci N k a : Nat} {x : Int} (hd : decode b pc = .ok (.putfield ix, 3)) (hn : pc + 3 = n) (hf : zFd y.cls ix ci N k 0) (ht : T[a]? = some (ci, N)) (hfin : zfin ci k = false ∧ zty ci k = .boolean) (hx : x = 0 ∨ x = 1) (kk : ∀ M2 : zMm, M2 = zup M a k x → zK w p e d mc ms s m args below meth c nL T0 Post n lv st (T, M2, J, R)) : zK w p e d mc ms s m args below meth c nL T0 Post pc lv (zi x :: .ref (w.2.1 + a) :: st) (T, M, J, R) := r_putZ C hf hfin.1 hfin.2 hx ht hd (by rw [hn]; exact kk _ rfl)
theorem q_iald (C : zCx w p s m args meth c y b nL ret) {a N : Nat} {i v : Int} (hd : decode b pc = .ok (.iaload, 1)) (hn : pc + 1 = n) (ht : T[a]? = some (50, N)) (hi : 0 ≤ i ∧ i < N ∧ i ≤ 2147483647) (he : M a i = v) (kk : zK w p e d mc ms s m args below meth c nL T0 Post n lv (zi v :: st) (T, M, J, R)) : zK w p e d mc ms s m args below meth c nL T0 Post pc lv (zi i :: .ref (w.2.1 + a) :: st) (T, M, J, R) := r_iald C ht hi hd (by rw [hn]; show zK w p e d mc ms s m args below meth c nL T0 Post n lv (zi (M a i) :: st) (T, M, J, R); rw [he]; exact kk)
theorem q_bald (C : zCx w p s m args meth c y b nL ret) {a N : Nat} {i v : Int} (hd : decode b pc = .ok (.baload, 1)) (hn : pc + 1 = n) (ht : T[a]? = some (51, N)) (hi : 0 ≤ i ∧ i < N ∧ i ≤ 2147483647) (he : M a i = v) (kk : zK w p e d mc ms s m args below meth c nL T0 Post n lv (zi v :: st) (T, M, J, R)) : zK w p e d mc ms s m args below meth c nL T0 Post pc lv (zi i :: .ref (w.2.1 + a) :: st) (T, M, J, R) := r_bald C ht hi hd (by rw [hn]; show zK w p e d mc ms s m args below meth c nL T0 Post n lv (zi (M a i) :: st) (T, M, J, R); rw [he]; exact kk)
theorem q_zald (C : zCx w p s m args meth c y b nL ret) {a N : Nat} {i v : Int} (hd : decode b pc = .ok (.baload, 1)) (hn : pc + 1 = n) (ht : T[a]? = some (52, N)) (hi : 0 ≤ i ∧ i < N ∧ i ≤ 2147483647) (he : M a i = v) (kk : zK w p e d mc ms s m args below meth c nL T0 Post n lv (zi v :: st) (T, M, J, R)) : zK w p e d mc ms s m args below meth c nL T0 Post pc lv (zi i :: .ref (w.2.1 + a) :: st) (T, M, J, R) := r_zald C ht hi hd (by rw [hn]; show zK w p e d mc ms s m args below meth c nL T0 Post n lv (zi (M a i) :: st) (T, M, J, R); rw [he]; exact kk)
theorem q_iast (C : zCx w p s m args meth c y b nL ret) {a N : Nat} {i x : Int} (hd : decode b pc = .ok (.iastore, 1)) (hn : pc + 1 = n) (ht : T[a]? = some (50, N)) (hi : 0 ≤ i ∧ i < N ∧ i ≤ 2147483647) (kk : ∀ M2 : zMm, M2 = zup M a i x → zK w p e d mc ms s m args below meth c nL T0 Post n lv st (T, M2, J, R)) : zK w p e d mc ms s m args below meth c nL T0 Post pc lv (zi x :: zi i :: .ref (w.2.1 + a) :: st) (T, M, J, R) := r_iast C ht hi hd (by rw [hn]; exact kk _ rfl)
theorem q_bast (C : zCx w p s m args meth c y b nL ret) {a N : Nat} {i x : Int} (hd : decode b pc = .ok (.bastore, 1)) (hn : pc + 1 = n) (ht : T[a]? = some (51, N)) (hi : 0 ≤ i ∧ i < N ∧ i ≤ 2147483647) (hx : -128 ≤ x ∧ x ≤ 127) (kk : ∀ M2 : zMm, M2 = zup M a i x → zK w p e d mc ms s m args below meth c nL T0 Post n lv st (T, M2, J, R)) : zK w p e d mc ms s m args below meth c nL T0 Post pc lv (zi x :: zi i :: .ref (w.2.1 + a) :: st) (T, M, J, R) := r_bast C ht hi hx hd (by rw [hn]; exact kk _ rfl)
theorem q_zast (C : zCx w p s m args meth c y b nL ret) {a N : Nat} {i x : Int} (hd : decode b pc = .ok (.bastore, 1)) (hn : pc + 1 = n) (ht : T[a]? = some (52, N)) (hi : 0 ≤ i ∧ i < N ∧ i ≤ 2147483647) (hx : x = 0 ∨ x = 1) (kk : ∀ M2 : zMm, M2 = zup M a i x → zK w p e d mc ms s m args below meth c nL T0 Post n lv st (T, M2, J, R)) : zK w p e d mc ms s m args below meth c nL T0 Post pc lv (zi x :: zi i :: .ref (w.2.1 + a) :: st) (T, M, J, R) := r_zast C ht hi hx hd (by rw [hn]; exact kk _ rfl)
def zwr (x : Int) : Int := (Int32.ofInt x).toInt
theorem zr_wr (x : Int) : zr (zwr x) := ⟨Int32.minValue_le_toInt _, Int32.toInt_le _⟩
theorem zi_wr (x : Int) : zi x = zi (zwr x) := zback (Int32.ofInt x)
theorem q_wrap (C : zCx w p s m args meth c y b nL ret) {x : Int} (kk : zK w p e d mc ms s m args below meth c nL T0 Post pc lv (zi (zwr x) :: st) σ) : zK w p e d mc ms s m args below meth c nL T0 Post pc lv (zi x :: st) σ := by rw [zi_wr]; exact kk
theorem q_lald (C : zCx w p s m args meth c y b nL ret) {a N : Nat} {i : Int} (hd : decode b pc = .ok (.laload, 1)) (hn : pc + 1 = n) (ht : T[a]? = some (53, N)) (hi : 0 ≤ i ∧ i < N ∧ i ≤ 2147483647) (kk : ∀ z : Int64, zK w p e d mc ms s m args below meth c nL T0 Post n lv (.long z :: st) (T, M, J, R)) : zK w p e d mc ms s m args below meth c nL T0 Post pc lv (zi i :: .ref (w.2.1 + a) :: st) (T, M, J, R) := r_lald C ht hi hd (by rw [hn]; exact kk _)
theorem q_last (C : zCx w p s m args meth c y b nL ret) {a N : Nat} {i : Int} {x : Int64} (hd : decode b pc = .ok (.lastore, 1)) (hn : pc + 1 = n) (ht : T[a]? = some (53, N)) (hi : 0 ≤ i ∧ i < N ∧ i ≤ 2147483647) (kk : ∀ J2 : zJm, zK w p e d mc ms s m args below meth c nL T0 Post n lv st (T, M, J2, R)) : zK w p e d mc ms s m args below meth c nL T0 Post pc lv (.long x :: zi i :: .ref (w.2.1 + a) :: st) (T, M, J, R) := r_last C ht hi hd (by rw [hn]; exact kk _)
theorem q_aald (C : zCx w p s m args meth c y b nL ret) {a N k r : Nat} {i : Int} (hd : decode b pc = .ok (.aaload, 1)) (hn : pc + 1 = n) (hk : 54 ≤ k ∧ k < 57) (ht : T[a]? = some (k, N)) (hi : 0 ≤ i ∧ i < N ∧ i ≤ 2147483647) (hr : R a i = some r) (kk : zK w p e d mc ms s m args below meth c nL T0 Post n lv (.ref (w.2.1 + r) :: st) (T, M, J, R)) : zK w p e d mc ms s m args below meth c nL T0 Post pc lv (zi i :: .ref (w.2.1 + a) :: st) (T, M, J, R) := r_aald C hk.1 hk.2 ht hi hr hd (by rw [hn]; exact kk)
theorem q_alen (C : zCx w p s m args meth c y b nL ret) {a N k : Nat} (hd : decode b pc = .ok (.arraylength, 1)) (hn : pc + 1 = n) (hk : 50 ≤ k ∧ k < 57) (ht : T[a]? = some (k, N)) (kk : zK w p e d mc ms s m args below meth c nL T0 Post n lv (zi N :: st) (T, M, J, R)) : zK w p e d mc ms s m args below meth c nL T0 Post pc lv (.ref (w.2.1 + a) :: st) (T, M, J, R) := r_alen C hk.1 hk.2 ht hd (by rw [hn]; exact kk)
theorem q_iret (C : zCx w p s m args meth c y b nL (some .int)) {x : Int} (hd : decode b pc = .ok (.ireturn, 1)) (hT : T.length = T0.length + mc ∧ zsz T = zsz T0 + ms) (hp : Post (some (zi x)) (T, M, J, R)) : zK w p e d mc ms s m args below meth c nL T0 Post pc lv [zi x] (T, M, J, R) := r_iret C hd hT hp
theorem q_zret (C : zCx w p s m args meth c y b nL (some .boolean)) {x : Int} (hd : decode b pc = .ok (.ireturn, 1)) (hT : T.length = T0.length + mc ∧ zsz T = zsz T0 + ms) (hx : x = 0 ∨ x = 1) (hp : Post (some (zi x)) (T, M, J, R)) : zK w p e d mc ms s m args below meth c nL T0 Post pc lv [zi x] (T, M, J, R) := r_zret C hx hd hT hp
theorem q_lret (C : zCx w p s m args meth c y b nL (some .long)) {x : Int64} (hd : decode b pc = .ok (.lreturn, 1)) (hT : T.length = T0.length + mc ∧ zsz T = zsz T0 + ms) (hp : Post (some (.long x)) (T, M, J, R)) : zK w p e d mc ms s m args below meth c nL T0 Post pc lv [.long x] (T, M, J, R) := r_lret C hd hT hp
theorem q_vret (C : zCx w p s m args meth c y b nL none) (hd : decode b pc = .ok (.return_, 1)) (hT : T.length = T0.length + mc ∧ zsz T = zsz T0 + ms) (hp : Post none (T, M, J, R)) : zK w p e d mc ms s m args below meth c nL T0 Post pc lv [] (T, M, J, R) := r_vret C hd hT hp
theorem q_callVi (C : zCx w p s m args meth c y b nL ret) {ix d2 n2 nL2 a ci N : Nat} {y2 : MethodName} {b2 : ByteArray} {ret2 : Option FieldType} {As stk : List Value} {E : Int → zMm → Prop} (hd : decode b pc = .ok (.invokevirtual ix, 3)) (hn : pc + 3 = n) (hw : zCw y.cls ix y2 b2 nL2 ret2 n2) (hv : (Cond.instanceMethod y2) ∈ lw_g ∧ (Cond.selects y2.cls y2 y2) ∈ lw_g) (ht : T[a]? = some (ci, N)) (hci : ci < 50 ∧ (zcl[ci]?).map (fun r => r.1) = some y2.cls) (hM : zCt w d2 0 0 y2 b2 nL2 ret2 (.ref (w.2.1 + a) :: As) (T, M, J, R) (zPi T R G E)) (hd2 : d2 + 1 ≤ d) (hA : As.length = n2) (hst : stk = As.reverse ++ .ref (w.2.1 + a) :: st) (hrm : (st.map fun v => v.category).sum ≤ 8) (hrc : T.length ≤ T0.length + mc ∧ zsz T ≤ zsz T0 + ms) (kk : ∀ (x : Int) (M2 : zMm) (J2 : zJm), zI G M2 → E x M2 → zK w p e d mc ms s m args below meth c nL T0 Post n lv (zi x :: st) (T, M2, J2, R)) : zK w p e d mc ms s m args below meth c nL T0 Post pc lv stk (T, M, J, R) := by
  refine r_callV C hw hv ht hci.1 hci.2 hA hM hd2 hst hrm hrc hd (fun v τ hp _ _ => ?_)
  obtain ⟨x, M2, J2, rfl, rfl, hI2, hE⟩ := hp
  rw [hn]
  exact kk x M2 J2 hI2 hE
theorem q_callVv (C : zCx w p s m args meth c y b nL ret) {ix d2 n2 nL2 a ci N : Nat} {y2 : MethodName} {b2 : ByteArray} {ret2 : Option FieldType} {As stk : List Value} {E : zMm → Prop} (hd : decode b pc = .ok (.invokevirtual ix, 3)) (hn : pc + 3 = n) (hw : zCw y.cls ix y2 b2 nL2 ret2 n2) (hv : (Cond.instanceMethod y2) ∈ lw_g ∧ (Cond.selects y2.cls y2 y2) ∈ lw_g) (ht : T[a]? = some (ci, N)) (hci : ci < 50 ∧ (zcl[ci]?).map (fun r => r.1) = some y2.cls) (hM : zCt w d2 0 0 y2 b2 nL2 ret2 (.ref (w.2.1 + a) :: As) (T, M, J, R) (zPv T R G E)) (hd2 : d2 + 1 ≤ d) (hA : As.length = n2) (hst : stk = As.reverse ++ .ref (w.2.1 + a) :: st) (hrm : (st.map fun v => v.category).sum ≤ 8) (hrc : T.length ≤ T0.length + mc ∧ zsz T ≤ zsz T0 + ms) (kk : ∀ (M2 : zMm) (J2 : zJm), zI G M2 → E M2 → zK w p e d mc ms s m args below meth c nL T0 Post n lv (st) (T, M2, J2, R)) : zK w p e d mc ms s m args below meth c nL T0 Post pc lv stk (T, M, J, R) := by
  refine r_callV C hw hv ht hci.1 hci.2 hA hM hd2 hst hrm hrc hd (fun v τ hp _ _ => ?_)
  obtain ⟨M2, J2, rfl, rfl, hI2, hE⟩ := hp
  rw [hn]
  exact kk M2 J2 hI2 hE
theorem q_callVl (C : zCx w p s m args meth c y b nL ret) {ix d2 n2 nL2 a ci N : Nat} {y2 : MethodName} {b2 : ByteArray} {ret2 : Option FieldType} {As stk : List Value} {E : zMm → Prop} (hd : decode b pc = .ok (.invokevirtual ix, 3)) (hn : pc + 3 = n) (hw : zCw y.cls ix y2 b2 nL2 ret2 n2) (hv : (Cond.instanceMethod y2) ∈ lw_g ∧ (Cond.selects y2.cls y2 y2) ∈ lw_g) (ht : T[a]? = some (ci, N)) (hci : ci < 50 ∧ (zcl[ci]?).map (fun r => r.1) = some y2.cls) (hM : zCt w d2 0 0 y2 b2 nL2 ret2 (.ref (w.2.1 + a) :: As) (T, M, J, R) (zPl T R G E)) (hd2 : d2 + 1 ≤ d) (hA : As.length = n2) (hst : stk = As.reverse ++ .ref (w.2.1 + a) :: st) (hrm : (st.map fun v => v.category).sum ≤ 8) (hrc : T.length ≤ T0.length + mc ∧ zsz T ≤ zsz T0 + ms) (kk : ∀ (x : Int64) (M2 : zMm) (J2 : zJm), zI G M2 → E M2 → zK w p e d mc ms s m args below meth c nL T0 Post n lv (.long x :: st) (T, M2, J2, R)) : zK w p e d mc ms s m args below meth c nL T0 Post pc lv stk (T, M, J, R) := by
  refine r_callV C hw hv ht hci.1 hci.2 hA hM hd2 hst hrm hrc hd (fun v τ hp _ _ => ?_)
  obtain ⟨x, M2, J2, rfl, rfl, hI2, hE⟩ := hp
  rw [hn]
  exact kk x M2 J2 hI2 hE
theorem q_callSi (C : zCx w p s m args meth c y b nL ret) {ix d2 n2 nL2 : Nat} {y2 : MethodName} {b2 : ByteArray} {ret2 : Option FieldType} {As stk : List Value} {E : Int → zMm → Prop} (hd : decode b pc = .ok (.invokestatic ix, 3)) (hn : pc + 3 = n) (hw : zCw y.cls ix y2 b2 nL2 ret2 n2) (hv : (Cond.static y2) ∈ lw_g) (hM : zCt w d2 0 0 y2 b2 nL2 ret2 (As) (T, M, J, R) (zPi T R G E)) (hd2 : d2 + 1 ≤ d) (hA : As.length = n2) (hst : stk = As.reverse ++ st) (hrm : (st.map fun v => v.category).sum ≤ 8) (hrc : T.length ≤ T0.length + mc ∧ zsz T ≤ zsz T0 + ms) (kk : ∀ (x : Int) (M2 : zMm) (J2 : zJm), zI G M2 → E x M2 → zK w p e d mc ms s m args below meth c nL T0 Post n lv (zi x :: st) (T, M2, J2, R)) : zK w p e d mc ms s m args below meth c nL T0 Post pc lv stk (T, M, J, R) := by
  refine r_callS C hw hv hA hM hd2 hst hrm hrc hd (fun v τ hp _ _ => ?_)
  obtain ⟨x, M2, J2, rfl, rfl, hI2, hE⟩ := hp
  rw [hn]
  exact kk x M2 J2 hI2 hE
theorem q_callSv (C : zCx w p s m args meth c y b nL ret) {ix d2 n2 nL2 : Nat} {y2 : MethodName} {b2 : ByteArray} {ret2 : Option FieldType} {As stk : List Value} {E : zMm → Prop} (hd : decode b pc = .ok (.invokestatic ix, 3)) (hn : pc + 3 = n) (hw : zCw y.cls ix y2 b2 nL2 ret2 n2) (hv : (Cond.static y2) ∈ lw_g) (hM : zCt w d2 0 0 y2 b2 nL2 ret2 (As) (T, M, J, R) (zPv T R G E)) (hd2 : d2 + 1 ≤ d) (hA : As.length = n2) (hst : stk = As.reverse ++ st) (hrm : (st.map fun v => v.category).sum ≤ 8) (hrc : T.length ≤ T0.length + mc ∧ zsz T ≤ zsz T0 + ms) (kk : ∀ (M2 : zMm) (J2 : zJm), zI G M2 → E M2 → zK w p e d mc ms s m args below meth c nL T0 Post n lv (st) (T, M2, J2, R)) : zK w p e d mc ms s m args below meth c nL T0 Post pc lv stk (T, M, J, R) := by
  refine r_callS C hw hv hA hM hd2 hst hrm hrc hd (fun v τ hp _ _ => ?_)
  obtain ⟨M2, J2, rfl, rfl, hI2, hE⟩ := hp
  rw [hn]
  exact kk M2 J2 hI2 hE
theorem q_callSl (C : zCx w p s m args meth c y b nL ret) {ix d2 n2 nL2 : Nat} {y2 : MethodName} {b2 : ByteArray} {ret2 : Option FieldType} {As stk : List Value} {E : zMm → Prop} (hd : decode b pc = .ok (.invokestatic ix, 3)) (hn : pc + 3 = n) (hw : zCw y.cls ix y2 b2 nL2 ret2 n2) (hv : (Cond.static y2) ∈ lw_g) (hM : zCt w d2 0 0 y2 b2 nL2 ret2 (As) (T, M, J, R) (zPl T R G E)) (hd2 : d2 + 1 ≤ d) (hA : As.length = n2) (hst : stk = As.reverse ++ st) (hrm : (st.map fun v => v.category).sum ≤ 8) (hrc : T.length ≤ T0.length + mc ∧ zsz T ≤ zsz T0 + ms) (kk : ∀ (x : Int64) (M2 : zMm) (J2 : zJm), zI G M2 → E M2 → zK w p e d mc ms s m args below meth c nL T0 Post n lv (.long x :: st) (T, M2, J2, R)) : zK w p e d mc ms s m args below meth c nL T0 Post pc lv stk (T, M, J, R) := by
  refine r_callS C hw hv hA hM hd2 hst hrm hrc hd (fun v τ hp _ _ => ?_)
  obtain ⟨x, M2, J2, rfl, rfl, hI2, hE⟩ := hp
  rw [hn]
  exact kk x M2 J2 hI2 hE
theorem q_callVp (C : zCx w p s m args meth c y b nL ret) {ix d2 n2 nL2 a ci N : Nat} {y2 : MethodName} {b2 : ByteArray} {ret2 : Option FieldType} {As stk : List Value} {E : Int → Prop} (hd : decode b pc = .ok (.invokevirtual ix, 3)) (hn : pc + 3 = n) (hw : zCw y.cls ix y2 b2 nL2 ret2 n2) (hv : (Cond.instanceMethod y2) ∈ lw_g ∧ (Cond.selects y2.cls y2 y2) ∈ lw_g) (ht : T[a]? = some (ci, N)) (hci : ci < 50 ∧ (zcl[ci]?).map (fun r => r.1) = some y2.cls) (hM : zCt w d2 0 0 y2 b2 nL2 ret2 (.ref (w.2.1 + a) :: As) (T, M, J, R) (zPp T M J R E)) (hd2 : d2 + 1 ≤ d) (hA : As.length = n2) (hst : stk = As.reverse ++ .ref (w.2.1 + a) :: st) (hrm : (st.map fun v => v.category).sum ≤ 8) (hrc : T.length ≤ T0.length + mc ∧ zsz T ≤ zsz T0 + ms) (kk : ∀ (x : Int), E x → zK w p e d mc ms s m args below meth c nL T0 Post n lv (zi x :: st) (T, M, J, R)) : zK w p e d mc ms s m args below meth c nL T0 Post pc lv stk (T, M, J, R) := by
  refine r_callV C hw hv ht hci.1 hci.2 hA hM hd2 hst hrm hrc hd (fun v τ hp _ _ => ?_)
  obtain ⟨x, rfl, rfl, hE⟩ := hp
  rw [hn]
  exact kk x hE
theorem q_callVq (C : zCx w p s m args meth c y b nL ret) {ix d2 n2 nL2 a ci N : Nat} {y2 : MethodName} {b2 : ByteArray} {ret2 : Option FieldType} {As stk : List Value} (hd : decode b pc = .ok (.invokevirtual ix, 3)) (hn : pc + 3 = n) (hw : zCw y.cls ix y2 b2 nL2 ret2 n2) (hv : (Cond.instanceMethod y2) ∈ lw_g ∧ (Cond.selects y2.cls y2 y2) ∈ lw_g) (ht : T[a]? = some (ci, N)) (hci : ci < 50 ∧ (zcl[ci]?).map (fun r => r.1) = some y2.cls) (hM : zCt w d2 0 0 y2 b2 nL2 ret2 (.ref (w.2.1 + a) :: As) (T, M, J, R) (zPq T M J R)) (hd2 : d2 + 1 ≤ d) (hA : As.length = n2) (hst : stk = As.reverse ++ .ref (w.2.1 + a) :: st) (hrm : (st.map fun v => v.category).sum ≤ 8) (hrc : T.length ≤ T0.length + mc ∧ zsz T ≤ zsz T0 + ms) (kk : ∀ (x : Int64), zK w p e d mc ms s m args below meth c nL T0 Post n lv (.long x :: st) (T, M, J, R)) : zK w p e d mc ms s m args below meth c nL T0 Post pc lv stk (T, M, J, R) := by
  refine r_callV C hw hv ht hci.1 hci.2 hA hM hd2 hst hrm hrc hd (fun v τ hp _ _ => ?_)
  obtain ⟨x, rfl, rfl⟩ := hp
  rw [hn]
  exact kk x
theorem q_callSp (C : zCx w p s m args meth c y b nL ret) {ix d2 n2 nL2 : Nat} {y2 : MethodName} {b2 : ByteArray} {ret2 : Option FieldType} {As stk : List Value} {E : Int → Prop} (hd : decode b pc = .ok (.invokestatic ix, 3)) (hn : pc + 3 = n) (hw : zCw y.cls ix y2 b2 nL2 ret2 n2) (hv : (Cond.static y2) ∈ lw_g) (hM : zCt w d2 0 0 y2 b2 nL2 ret2 (As) (T, M, J, R) (zPp T M J R E)) (hd2 : d2 + 1 ≤ d) (hA : As.length = n2) (hst : stk = As.reverse ++ st) (hrm : (st.map fun v => v.category).sum ≤ 8) (hrc : T.length ≤ T0.length + mc ∧ zsz T ≤ zsz T0 + ms) (kk : ∀ (x : Int), E x → zK w p e d mc ms s m args below meth c nL T0 Post n lv (zi x :: st) (T, M, J, R)) : zK w p e d mc ms s m args below meth c nL T0 Post pc lv stk (T, M, J, R) := by
  refine r_callS C hw hv hA hM hd2 hst hrm hrc hd (fun v τ hp _ _ => ?_)
  obtain ⟨x, rfl, rfl, hE⟩ := hp
  rw [hn]
  exact kk x hE
theorem q_callSq (C : zCx w p s m args meth c y b nL ret) {ix d2 n2 nL2 : Nat} {y2 : MethodName} {b2 : ByteArray} {ret2 : Option FieldType} {As stk : List Value} (hd : decode b pc = .ok (.invokestatic ix, 3)) (hn : pc + 3 = n) (hw : zCw y.cls ix y2 b2 nL2 ret2 n2) (hv : (Cond.static y2) ∈ lw_g) (hM : zCt w d2 0 0 y2 b2 nL2 ret2 (As) (T, M, J, R) (zPq T M J R)) (hd2 : d2 + 1 ≤ d) (hA : As.length = n2) (hst : stk = As.reverse ++ st) (hrm : (st.map fun v => v.category).sum ≤ 8) (hrc : T.length ≤ T0.length + mc ∧ zsz T ≤ zsz T0 + ms) (kk : ∀ (x : Int64), zK w p e d mc ms s m args below meth c nL T0 Post n lv (.long x :: st) (T, M, J, R)) : zK w p e d mc ms s m args below meth c nL T0 Post pc lv stk (T, M, J, R) := by
  refine r_callS C hw hv hA hM hd2 hst hrm hrc hd (fun v τ hp _ _ => ?_)
  obtain ⟨x, rfl, rfl⟩ := hp
  rw [hn]
  exact kk x
end QRULES
theorem zand_r {x k : Int} (h : 0 ≤ k ∧ k ≤ 2147483647) : 0 ≤ zand x k ∧ zand x k ≤ k := by
  have e : zand x k = ((Int32.ofInt x).toBitVec &&& (Int32.ofInt k).toBitVec).toInt := rfl
  have hk : (Int32.ofInt k).toBitVec.toInt = k := zto ⟨by omega, h.2⟩
  have hm : (Int32.ofInt k).toBitVec.msb = false := by
    rw [BitVec.msb_eq_toInt, hk]
    simp
    omega
  have hm2 : ((Int32.ofInt x).toBitVec &&& (Int32.ofInt k).toBitVec).msb = false := by
    rw [BitVec.msb_and, hm, Bool.and_false]
  rw [e, BitVec.toInt_eq_toNat_of_msb hm2, BitVec.toNat_and]
  rw [BitVec.toInt_eq_toNat_of_msb hm] at hk
  have := Nat.and_le_right (n := (Int32.ofInt x).toBitVec.toNat) (m := (Int32.ofInt k).toBitVec.toNat)
  omega
theorem zI.put2 {G : zGt} {M M1 M2 : zMm} {a : Nat} {i x z lo hi lo2 hi2 : Int} (h : zI G M) (hM1 : M1 = zup M a i x) (hM2 : M2 = zup M1 (a + 1) i z) (hg : G a i = (2, lo, hi)) (hg2 : G (a + 1) i = (3, lo2, hi2)) (hx : lo ≤ x ∧ x + zand z 31 ≤ hi ∧ zand z 31 ≤ 30) (hz : lo2 ≤ z ∧ z ≤ hi2) : zI G M2 := by
  obtain ⟨hw, ht, h1, h2, h3⟩ := h
  have hp : 0 ≤ zand z 31 := (zand_r ⟨by omega, by omega⟩).1
  have hne : ∀ c j, (G c j).1 ≠ 2 → (G c j).1 ≠ 3 → M2 c j = M c j := by
    intro c j n2 n3
    rw [zup_n hM2, zup_n hM1]
    · rintro ⟨rfl, rfl⟩
      rw [hg] at n2
      exact n2 rfl
    · rintro ⟨rfl, rfl⟩
      rw [hg2] at n3
      exact n3 rfl
  refine ⟨hw, (ht.put hM1 hg ⟨hx.1, by omega⟩).put hM2 hg2 hz, ?_, ?_, ?_⟩
  · intro c j q
    have q2 := hw.1 c j q
    by_cases e : c = a ∧ j = i
    · obtain ⟨rfl, rfl⟩ := e
      rw [zup_s hM2, zup_p hM2 (by omega), zup_s hM1, hg]
      exact hx.2
    · have e1 : M2 c j = M c j := by
        rw [zup_n hM2, zup_n hM1 e]
        rintro ⟨rfl, rfl⟩
        rw [hg2] at q
        exact absurd (show (3 : Nat) = 2 from q) (by decide)
      have e2 : M2 (c + 1) j = M (c + 1) j := by
        rw [zup_n hM2, zup_n hM1]
        · rintro ⟨q3, rfl⟩
          rw [q3, hg] at q2
          exact absurd (show (2 : Nat) = 3 from q2) (by decide)
        · rintro ⟨q3, rfl⟩
          exact e ⟨by omega, rfl⟩
      rw [e1, e2]
      exact h1 c j q
  · intro c q
    obtain ⟨g1, g2, g3⟩ := hw.2.1 c q
    rw [hne c 3 (by rw [q]; decide) (by rw [q]; decide), hne c 5 (by rw [g2]; decide) (by rw [g2]; decide), hne c 6 (by rw [g3]; decide) (by rw [g3]; decide)]
    refine ⟨fun j q1 q2 => ?_, (h2 c q).2⟩
    rw [hne (c + 2) j (by rw [g1]; decide) (by rw [g1]; decide), hne (c + 2) (j + 1) (by rw [g1]; decide) (by rw [g1]; decide)]
    exact (h2 c q).1 j q1 q2
  · intro c b q k k0 k4
    have g := hw.2.2 c b q
    have e1 : M2 c (b + 4 + k) = M c (b + 4 + k) := by
      have := g (4 + k) (by omega) (by omega)
      rw [← Int.add_assoc] at this
      exact hne c _ (by rw [this]; decide) (by rw [this]; decide)
    obtain ⟨hl, hb⟩ := h3 c b q k k0 k4
    rw [e1]
    refine ⟨hl, ?_⟩
    rw [zSum_cg (g := M2 c) (h := M c)]
    · exact hb
    · intro j hj
      have := g (8 + 40 * k + j) (by omega) (by omega)
      rw [show b + 8 + 40 * k + (j : Int) = b + (8 + 40 * k + j) by omega]
      exact hne c _ (by rw [this]; decide) (by rw [this]; decide)
theorem zr_l2i (x : Int64) : zr (x.toInt32.toInt) := ⟨Int32.minValue_le_toInt _, Int32.toInt_le _⟩
theorem zr_and (x k : Int) : zr (zand x k) := ⟨Int32.minValue_le_toInt _, Int32.toInt_le _⟩
theorem zr_or (x k : Int) : zr (zor x k) := ⟨Int32.minValue_le_toInt _, Int32.toInt_le _⟩
theorem zr_xor (x k : Int) : zr (zxor x k) := ⟨Int32.minValue_le_toInt _, Int32.toInt_le _⟩
theorem zr_shl (x k : Int) : zr (zshl x k) := ⟨Int32.minValue_le_toInt _, Int32.toInt_le _⟩
theorem zr_shr (x k : Int) : zr (zshr x k) := ⟨Int32.minValue_le_toInt _, Int32.toInt_le _⟩
theorem z8_r (x : Int) : -128 ≤ zi2b x ∧ zi2b x ≤ 127 := by
  unfold zi2b
  rw [Int8.toInt_toInt32]
  exact ⟨Int8.minValue_le_toInt _, Int8.toInt_le _⟩

