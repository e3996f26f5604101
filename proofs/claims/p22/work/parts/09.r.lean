theorem zw_max : (Cond.static Lib.Math.max.name) ∈ lw_g ∧ (Cond.code Lib.Math.max.name Lib.Math.max.code 2 (some .int)) ∈ lw_g ∧ (Cond.initialized "java/lang/Math") ∈ lw_g := ⟨zt4 105 rfl rfl, zt4 106 rfl rfl, zt1 19 rfl rfl⟩
theorem zw_min : (Cond.static Lib.Math.min.name) ∈ lw_g ∧ (Cond.code Lib.Math.min.name Lib.Math.min.code 2 (some .int)) ∈ lw_g ∧ (Cond.initialized "java/lang/Math") ∈ lw_g := ⟨zt5 58 rfl rfl, zt5 59 rfl rfl, zt1 19 rfl rfl⟩
theorem zw_cp : (Cond.native arraycopyName) ∈ lw_g ∧ (Cond.static arraycopyName) ∈ lw_g ∧ (Cond.initialized "java/lang/System") ∈ lw_g := ⟨zt3 213 rfl rfl, zt3 212 rfl rfl, zt1 17 rfl rfl⟩
theorem x_X6_257 : (Cond.methodLink RX6 257 Lib.Math.max.name) ∈ lw_g := zt4 104 rfl rfl
theorem x_X2_79 : (Cond.methodLink RX2 79 Lib.Math.min.name) ∈ lw_g := zt5 57 rfl rfl
theorem x_X7_55 : (Cond.methodLink RX7 55 arraycopyName) ∈ lw_g := zt3 211 rfl rfl
theorem x_X6_130 : (Cond.methodLink RX6 130 arraycopyName) ∈ lw_g := zt4 1 rfl rfl
theorem x_X0_224 : (Cond.methodLink RX0 224 arraycopyName) ∈ lw_g := zt5 50 rfl rfl
theorem x_X8_96 : (Cond.methodLink RX8 96 arraycopyName) ∈ lw_g := zt6 2 rfl rfl
theorem x_X11_246 : (Cond.methodLink RX11 246 arraycopyName) ∈ lw_g := zt6 35 rfl rfl
set_option maxRecDepth 100000 in
theorem m_X6_109 : zCw RX6 109 yJ7_fill_53178 cJ7_fill_53178 4 none 2 := ⟨zt3 238 rfl rfl, zt4 0 rfl rfl, zt1 18 rfl rfl, ⟨by decide +kernel, by decide +kernel, by decide +kernel⟩, by decide⟩
set_option maxRecDepth 100000 in
theorem m_X0_54 : zCw RX0 54 yJ7_fill_53178 cJ7_fill_53178 4 none 2 := ⟨zt4 21 rfl rfl, zt4 0 rfl rfl, zt1 18 rfl rfl, ⟨by decide +kernel, by decide +kernel, by decide +kernel⟩, by decide⟩
set_option maxRecDepth 100000 in
theorem m_X8_39 : zCw RX8 39 yJ7_fill_53178 cJ7_fill_53178 4 none 2 := ⟨zt5 233 rfl rfl, zt4 0 rfl rfl, zt1 18 rfl rfl, ⟨by decide +kernel, by decide +kernel, by decide +kernel⟩, by decide⟩
theorem s_yJ7_fill_53178 : (Cond.static yJ7_fill_53178) ∈ lw_g := zt3 239 rfl rfl
theorem x_X4_43 : (Cond.methodLink RX4 43 arraycopyName) ∈ lw_g := zt6 53 rfl rfl
def zcp (M : zMm) (a0 a : Nat) (sp dp n : Int) : zMm := fun c j => if c = a ∧ dp ≤ j ∧ j < dp + n then M a0 (sp + (j - dp)) else M c j
section PRIMS
variable {w : zWp} {p : Program} {e : Env} {d mc ms : Nat} {s : State} {m : MethodId} {args : Array Value} {below : List Frame} {meth : Method} {c : Code} {y : MethodName} {b : ByteArray} {nL : Nat} {ret : Option FieldType} {T0 T : zTl} {M : zMm} {J : zJm} {R : zRm'} {G : zGt} {Post : Option Value → zSg → Prop} {pc n : Nat} {lv st : List Value} {σ : zSg}
theorem q_mmax (C : zCx w p s m args meth c y b nL ret) {ix : Nat} {x x2 : Int} (hd : decode b pc = .ok (.invokestatic ix, 3)) (hn : pc + 3 = n) (hw : (Cond.methodLink y.cls ix Lib.Math.max.name) ∈ lw_g) (hz : (-2147483648 ≤ x ∧ x ≤ 2147483647) ∧ (-2147483648 ≤ x2 ∧ x2 ≤ 2147483647)) (hd1 : 1 ≤ d) (hrm : (st.map fun v => v.category).sum ≤ 8) (hrc : σ.1.length ≤ T0.length + mc ∧ zsz σ.1 ≤ zsz T0 + ms) (kk : ∀ v : Int, (v = x ∨ v = x2) → x ≤ v → x2 ≤ v → zK w p e d mc ms s m args below meth c nL T0 Post n lv (zi v :: st) σ) : zK w p e d mc ms s m args below meth c nL T0 Post pc lv (zi x2 :: zi x :: st) σ := fun ls H locs k n h1 h2 hl hW hS => by
  refine va_mmax C.1 C.2.1 (C.2.2.1.trans hl.1.symm) C.2.2.2.1 (C.2.2.2.2.1 _ hw) (C.2.2.2.2.1 _ zw_max.1) (C.2.2.2.2.1 _ zw_max.2.2) (C.2.2.2.2.1 _ zw_max.2.1) (by show 1 ≤ d; exact hd1) (by show _ + 13 ≤ 64 * d; omega) (by show k ≤ mc; omega) (by show n ≤ ms; omega) hd ?_
  rw [hn]
  have hv : Value.int (if Int32.ofInt x < Int32.ofInt x2 then Int32.ofInt x2 else Int32.ofInt x) = zi (if x < x2 then x2 else x) := by
    by_cases q : x < x2
    · rw [if_pos q, if_pos ((zi_lt hz.1 hz.2).mpr q)]; rfl
    · rw [if_neg q, if_neg (fun z => q ((zi_lt hz.1 hz.2).mp z))]; rfl
  rw [hv]
  refine kk _ ?_ ?_ ?_ ls H locs k n h1 h2 hl hW hS <;> split <;> omega
theorem q_mmin (C : zCx w p s m args meth c y b nL ret) {ix : Nat} {x x2 : Int} (hd : decode b pc = .ok (.invokestatic ix, 3)) (hn : pc + 3 = n) (hw : (Cond.methodLink y.cls ix Lib.Math.min.name) ∈ lw_g) (hz : (-2147483648 ≤ x ∧ x ≤ 2147483647) ∧ (-2147483648 ≤ x2 ∧ x2 ≤ 2147483647)) (hd1 : 1 ≤ d) (hrm : (st.map fun v => v.category).sum ≤ 8) (hrc : σ.1.length ≤ T0.length + mc ∧ zsz σ.1 ≤ zsz T0 + ms) (kk : ∀ v : Int, (v = x ∨ v = x2) → v ≤ x → v ≤ x2 → zK w p e d mc ms s m args below meth c nL T0 Post n lv (zi v :: st) σ) : zK w p e d mc ms s m args below meth c nL T0 Post pc lv (zi x2 :: zi x :: st) σ := fun ls H locs k n h1 h2 hl hW hS => by
  refine va_mmin C.1 C.2.1 (C.2.2.1.trans hl.1.symm) C.2.2.2.1 (C.2.2.2.2.1 _ hw) (C.2.2.2.2.1 _ zw_min.1) (C.2.2.2.2.1 _ zw_min.2.2) (C.2.2.2.2.1 _ zw_min.2.1) (by show 1 ≤ d; exact hd1) (by show _ + 13 ≤ 64 * d; omega) (by show k ≤ mc; omega) (by show n ≤ ms; omega) hd ?_
  rw [hn]
  have hv : Value.int (if Int32.ofInt x2 < Int32.ofInt x then Int32.ofInt x2 else Int32.ofInt x) = zi (if x2 < x then x2 else x) := by
    by_cases q : x2 < x
    · rw [if_pos q, if_pos ((zi_lt hz.2 hz.1).mpr q)]; rfl
    · rw [if_neg q, if_neg (fun z => q ((zi_lt hz.2 hz.1).mp z))]; rfl
  rw [hv]
  refine kk _ ?_ ?_ ?_ ls H locs k n h1 h2 hl hW hS <;> split <;> omega
theorem r_copy (C : zCx w p s m args meth c y b nL ret) {ix a0 a n0 n1 kd : Nat} {ty : FieldType} {sp dp z : Int} (hk : 50 ≤ kd ∧ kd < 53) (hty : (ztys w.2.2.2.1)[kd - 50]? = some (w.2.2.2.1 (kd - 50), ty)) (hpr : refKind ty = false) (ht0 : T[a0]? = some (kd, n0)) (ht1 : T[a]? = some (kd, n1)) (hi : (0 ≤ sp ∧ 0 ≤ dp ∧ 0 ≤ z) ∧ (sp + z ≤ n0 ∧ dp + z ≤ n1) ∧ (sp ≤ 2147483647 ∧ dp ≤ 2147483647 ∧ z ≤ 2147483647))
    (hf : ∀ j : Int, fits ty (zi (M a0 j)) = true) (hw : (Cond.methodLink y.cls ix arraycopyName) ∈ lw_g) (hd1 : 1 ≤ d) (hrm : (st.map fun v => v.category).sum ≤ 8) (hd : decode b pc = .ok (.invokestatic ix, 3)) (kk : zK w p e d mc ms s m args below meth c nL T0 Post (pc + 3) lv st (T, zcp M a0 a sp dp z, J, R)) : zK w p e d mc ms s m args below meth c nL T0 Post pc lv (zi z :: zi dp :: .ref (w.2.1 + a) :: zi sp :: .ref (w.2.1 + a0) :: st) (T, M, J, R) := fun ls H locs q n2 h1 h2 hl hW hS => by
  obtain ⟨⟨i1, i2, i3⟩, ⟨i4, i5⟩, ⟨i6, i7, i8⟩⟩ := hi
  have rs : zr sp := ⟨by omega, i6⟩
  have rd : zr dp := ⟨by omega, i7⟩
  have rz : zr z := ⟨by omega, i8⟩
  have cl : ∀ x : Int, 0 ≤ x → zr x → ((Int32.ofInt x).toNatClampNeg : Int) = x := fun x hx hr => by
    have g1 : (Int32.ofInt x).toNatClampNeg = (Int32.ofInt x).toInt.toNat := rfl
    rw [g1, zto hr]; omega
  have ng : ∀ x : Int, 0 ≤ x → zr x → ¬ Int32.ofInt x < 0 := fun x hx hr q => by
    rw [zi_0, zi_lt hr zr_0] at q; omega
  have hP0 := hW.get ht0 (by show ¬ kd = 99; omega)
  have hP1 := hW.get ht1 (by show ¬ kd = 99; omega)
  rw [zE_in hk.1 hk.2] at hP0 hP1
  have hc0 := hP0 0 _ rfl
  have hc1 := hP1 0 _ rfl
  simp only [va_at] at hc0 hc1
  have hts := C.2.2.2.2.1
  intro TT hT X
  obtain ⟨-, k0, hk0, cm0, hkk0⟩ := (C.2.2.2.2.2.2.2.2.1.2 (kd - 50) _ hty).1 n0 (fun j => .int (Int32.ofInt (M a0 j)))
  obtain ⟨-, k1, hk1, cm1, hkk1⟩ := (C.2.2.2.2.2.2.2.2.1.2 (kd - 50) _ hty).1 n1 (fun j => .int (Int32.ofInt (M a j)))
  have csp := cl sp i1 rs
  have cdp := cl dp i2 rd
  have cz := cl z i3 rz
  obtain ⟨vm', X', step⟩ := X.arraycopy C.1 C.2.2.2.1 (hts _ hw) (hts _ zw_cp.1) (hts _ zw_cp.2.1) (hts _ zw_cp.2.2) (src := w.2.1 + a0) (dst := w.2.1 + a) (cs := vp_cell (w.2.2.2.1 (kd - 50)) (n0, .inl (fun j : Nat => Int32.ofInt (M a0 j)))) (cd := vp_cell (w.2.2.2.1 (kd - 50)) (n1, .inl (fun j : Nat => Int32.ofInt (M a j)))) (srcPos := Int32.ofInt sp) (destPos := Int32.ofInt dp) (n := Int32.ofInt z) (by rw [hT]; exact hc0) (by rw [hT]; exact hc1)
    (fun _ h => by cases h) (fun _ h => by cases h) (fun h => by cases h) (fun h => by cases h) hk0 hk1 hkk0 hkk1 (by simp [hpr]) (ng sp i1 rs) (ng dp i2 rd) (ng z i3 rz)
    (by rw [zto rs, zto rz]; show ¬ _ > ((arrV _ n0 _).slots.size : Int); rw [arrV_size]; omega)
    (by rw [zto rd, zto rz]; show ¬ _ > ((arrV _ n1 _).slots.size : Int); rw [arrV_size]; omega)
    (fun vm₁ _ i hi => by
      have e : (arrV (w.2.2.2.1 (kd - 50)) n0 (fun j : Nat => .int (Int32.ofInt (M a0 j)))).slots.getD ((Int32.ofInt sp).toNatClampNeg + i) .null = zi (M a0 (((Int32.ofInt sp).toNatClampNeg + i : Nat) : Int)) := by
        rw [Array.getD_eq_getD_getElem?, arrV_read _ _ (by omega)]
        rfl
      exact ⟨(congrArg (fits ty) e).trans (hf _), cast (congrArg (fun v => (TT.setVm vm₁).takes cm1 v) e).symm trivial⟩)
    (g := F0 m pc ls (zi z :: zi dp :: .ref (w.2.1 + a) :: zi sp :: .ref (w.2.1 + a0) :: st)) rfl (by rw [C.2.2.1, ← hl.1]) (rest := st) rfl (by rw [C.2.1]; exact hd) (by show 1 ≤ d; exact hd1) (by show 2 * 0 + _ + (7 + 11) ≤ 64 * d; omega)
  have e1 := va_copied (fun x : Int32 => Value.int x) (w.2.2.2.1 (kd - 50)) (w.2.2.2.1 (kd - 50)) (n0 := n0) (n1 := n1) (dp := (Int32.ofInt dp).toNatClampNeg) (fun j : Nat => Int32.ofInt (M a0 j)) (fun j : Nat => Int32.ofInt (M a j)) (sp := (Int32.ofInt sp).toNatClampNeg) (n := (Int32.ofInt z).toNatClampNeg) (by omega)
  have e2 : copied (vp_cell (w.2.2.2.1 (kd - 50)) (n0, .inl (fun j : Nat => Int32.ofInt (M a0 j)))) (vp_cell (w.2.2.2.1 (kd - 50)) (n1, .inl (fun j : Nat => Int32.ofInt (M a j)))) (Int32.ofInt sp) (Int32.ofInt dp) (Int32.ofInt z) = vp_cell (w.2.2.2.1 (kd - 50)) (n1, .inl (fun j : Nat => Int32.ofInt (zcp M a0 a sp dp z a j))) := by
    refine Eq.trans e1 ?_
    rw [vp_cell_i]
    congr 1
    funext j
    show Value.int (va_cpy _ _ _ _ _ j) = Value.int (Int32.ofInt (zcp M a0 a sp dp z a j))
    congr 1
    unfold va_cpy zcp
    by_cases hq : (Int32.ofInt dp).toNatClampNeg ≤ j ∧ j < (Int32.ofInt dp).toNatClampNeg + (Int32.ofInt z).toNatClampNeg
    · rw [if_pos hq, if_pos ⟨rfl, by omega, by omega⟩]
      show Int32.ofInt (M a0 (((Int32.ofInt sp).toNatClampNeg + (j - (Int32.ofInt dp).toNatClampNeg) : Nat) : Int)) = _
      rw [show (((Int32.ofInt sp).toNatClampNeg + (j - (Int32.ofInt dp).toNatClampNeg) : Nat) : Int) = sp + ((j : Int) - dp) by omega]
    · rw [if_neg hq, if_neg (fun q => hq ⟨by omega, by omega⟩)]
  rw [e2] at X' step
  have hla : w.2.1 + a < H.size := (Array.getElem?_eq_some_iff.mp hc1).1
  have oq : ∀ q : Nat, q ≠ w.2.1 + a → (H.setIfInBounds (w.2.1 + a) (vp_cell (w.2.2.2.1 (kd - 50)) (n1, .inl (fun j : Nat => Int32.ofInt (zcp M a0 a sp dp z a j)))))[q]? = H[q]? := fun q hq => by simp [Array.getElem?_setIfInBounds, Ne.symm hq]
  have hW2 : zW w (T, zcp M a0 a sp dp z, J, R) (H.setIfInBounds (w.2.1 + a) (vp_cell (w.2.2.2.1 (kd - 50)) (n1, .inl (fun j : Nat => Int32.ofInt (zcp M a0 a sp dp z a j))))) := by
    refine hW.put ht1 rfl (fun c hc => ?_) (fun _ _ => rfl) (fun _ _ => rfl) ?_ (by simp) oq
    · funext j
      exact if_neg (fun q => hc q.1)
    · rw [zE_in hk.1 hk.2]
      show (H.setIfInBounds (w.2.1 + a) _)[w.2.1 + a]? = some _
      simp [Array.getElem?_setIfInBounds, hla]
  obtain ⟨t, a1, b1⟩ := kk ls _ _ q n2 h1 h2 hl hW2 ⟨by simp; exact hS.1, fun q g1 g2 => by
      rw [oq q (fun e => g2 (by rw [e]; exact Nat.le_add_right _ _))]
      exact hS.2.1 q g1 g2, fun q hq => by
      rcases List.mem_append.mp hq with h | h
      · exact hS.2.2 q h
      · obtain ⟨z, -, hz⟩ := List.mem_map.mp h
        rw [← hz]
        exact Nat.le_add_right _ _⟩ _ (by rw [← hT]; rfl) X'
  exact ⟨t, step t a1, b1⟩
theorem q_copyI (C : zCx w p s m args meth c y b nL ret) {ix a0 a n0 n1 : Nat} {sp dp z : Int} (hd : decode b pc = .ok (.invokestatic ix, 3)) (hn : pc + 3 = n) (hw : (Cond.methodLink y.cls ix arraycopyName) ∈ lw_g) (ht0 : T[a0]? = some (50, n0)) (ht1 : T[a]? = some (50, n1)) (hi : (0 ≤ sp ∧ 0 ≤ dp ∧ 0 ≤ z) ∧ (sp + z ≤ n0 ∧ dp + z ≤ n1) ∧ (sp ≤ 2147483647 ∧ dp ≤ 2147483647 ∧ z ≤ 2147483647)) (hd1 : 1 ≤ d) (hrm : (st.map fun v => v.category).sum ≤ 8) (kk : ∀ M2 : zMm, M2 = zcp M a0 a sp dp z → zK w p e d mc ms s m args below meth c nL T0 Post n lv st (T, M2, J, R)) : zK w p e d mc ms s m args below meth c nL T0 Post pc lv (zi z :: zi dp :: .ref (w.2.1 + a) :: zi sp :: .ref (w.2.1 + a0) :: st) (T, M, J, R) := r_copy C (ty := .int) ⟨by decide, by decide⟩ rfl rfl ht0 ht1 hi (fun _ => rfl) hw hd1 hrm hd (by rw [hn]; exact kk _ rfl)
theorem q_copyB (C : zCx w p s m args meth c y b nL ret) {ix a0 a n0 n1 : Nat} {sp dp z : Int} (hd : decode b pc = .ok (.invokestatic ix, 3)) (hn : pc + 3 = n) (hw : (Cond.methodLink y.cls ix arraycopyName) ∈ lw_g) (ht0 : T[a0]? = some (51, n0)) (ht1 : T[a]? = some (51, n1)) (hi : (0 ≤ sp ∧ 0 ≤ dp ∧ 0 ≤ z) ∧ (sp + z ≤ n0 ∧ dp + z ≤ n1) ∧ (sp ≤ 2147483647 ∧ dp ≤ 2147483647 ∧ z ≤ 2147483647)) (hf : ∀ j : Int, -128 ≤ M a0 j ∧ M a0 j ≤ 127) (hd1 : 1 ≤ d) (hrm : (st.map fun v => v.category).sum ≤ 8) (kk : ∀ M2 : zMm, M2 = zcp M a0 a sp dp z → zK w p e d mc ms s m args below meth c nL T0 Post n lv st (T, M2, J, R)) : zK w p e d mc ms s m args below meth c nL T0 Post pc lv (zi z :: zi dp :: .ref (w.2.1 + a) :: zi sp :: .ref (w.2.1 + a0) :: st) (T, M, J, R) := r_copy C (ty := .byte) ⟨by decide, by decide⟩ rfl rfl ht0 ht1 hi (fun j => by
    have h := hf j
    show (decide ((-128 : Int32) ≤ Int32.ofInt (M a0 j)) && decide (Int32.ofInt (M a0 j) ≤ (127 : Int32))) = true
    rw [show (-128 : Int32) = Int32.ofInt (-128) by decide, show (127 : Int32) = Int32.ofInt 127 by decide, Bool.and_eq_true, decide_eq_true_eq, decide_eq_true_eq]
    exact ⟨(zi_le ⟨by omega, by omega⟩ ⟨by omega, by omega⟩).mpr h.1, (zi_le ⟨by omega, by omega⟩ ⟨by omega, by omega⟩).mpr h.2⟩) hw hd1 hrm hd (by rw [hn]; exact kk _ rfl)
end PRIMS
/-! ===== what keeps the typed memory ===== -/
def zF (F R : zRm') : Prop := ∀ a k r, F a k = some r → R a k = some r
theorem zF.put {F R R2 : zRm'} {a : Nat} {k : Int} {v : Option Nat} (h : zF F R) (hR : R2 = zup R a k v) (hn : F a k = none) : zF F R2 := by
  intro c j r q
  rw [zup_n hR]
  · exact h c j r q
  · rintro ⟨rfl, rfl⟩
    rw [hn] at q
    cases q
theorem zI.row {G : zGt} {M : zMm} {a : Nat} {i lo hi : Int} (h : zI G M) (hg : G a i = (2, lo, hi)) : M a i + zand (M (a + 1) i) 31 ≤ hi ∧ zand (M (a + 1) i) 31 ≤ 30 := by
  have := h.2.2.1 a i (by rw [hg])
  rw [hg] at this
  exact this
theorem zI.putAB {G : zGt} {M M2 : zMm} {a : Nat} {i x lo hi : Int} {t : Nat} (h : zI G M) (hM : M2 = zup M a i x) (hg : G a i = (t, lo, hi)) (ht : t = 2 ∨ t = 3) (hx : lo ≤ x ∧ x ≤ hi) (hr : ∀ c j, (G c j).1 = 2 → M2 c j + zand (M2 (c + 1) j) 31 ≤ (G c j).2.2 ∧ zand (M2 (c + 1) j) 31 ≤ 30) : zI G M2 := by
  obtain ⟨hw, ht0, h1, h2, h3⟩ := h
  have hne : ∀ c j, (G c j).1 ≠ 2 → (G c j).1 ≠ 3 → M2 c j = M c j := by
    intro c j n2 n3
    refine zup_n hM ?_
    rintro ⟨rfl, rfl⟩
    rw [hg] at n2 n3
    rcases ht with q | q
    · exact n2 q
    · exact n3 q
  refine ⟨hw, ht0.put hM hg hx, hr, ?_, ?_⟩
  · intro c q
    obtain ⟨g1, g2, g3⟩ := hw.2.1 c q
    rw [hne c 3 (by rw [q]; decide) (by rw [q]; decide), hne c 5 (by rw [g2]; decide) (by rw [g2]; decide), hne c 6 (by rw [g3]; decide) (by rw [g3]; decide)]
    refine ⟨fun j q1 q2 => ?_, (h2 c q).2⟩
    rw [hne (c + 2) j (by rw [g1]; decide) (by rw [g1]; decide), hne (c + 2) (j + 1) (by rw [g1]; decide) (by rw [g1]; decide)]
    exact (h2 c q).1 j q1 q2
  · intro c b q k k0 k4
    have g := hw.2.2 c b q
    have e1 : M2 c (b + 4 + k) = M c (b + 4 + k) := by
      have := g (4 + k) (by omega) (by omega)
      rw [← Int.add_assoc] at this
      exact hne c _ (by rw [this]; decide) (by rw [this]; decide)
    obtain ⟨hl, hb⟩ := h3 c b q k k0 k4
    rw [e1]
    refine ⟨hl, ?_⟩
    rw [zSum_cg (g := M2 c) (h := M c)]
    · exact hb
    · intro j hj
      have := g (8 + 40 * k + j) (by omega) (by omega)
      rw [show b + 8 + 40 * k + (j : Int) = b + (8 + 40 * k + j) by omega]
      exact hne c _ (by rw [this]; decide) (by rw [this]; decide)
theorem zI.putA {G : zGt} {M M2 : zMm} {a : Nat} {i x lo hi : Int} (h : zI G M) (hM : M2 = zup M a i x) (hg : G a i = (2, lo, hi)) (hx : lo ≤ x ∧ x + zand (M (a + 1) i) 31 ≤ hi) : zI G M2 := by
  have hp : 0 ≤ zand (M (a + 1) i) 31 := (zand_r ⟨by omega, by omega⟩).1
  refine h.putAB hM hg (Or.inl rfl) ⟨hx.1, by omega⟩ (fun c j q => ?_)
  by_cases e : c = a ∧ j = i
  · obtain ⟨rfl, rfl⟩ := e
    rw [zup_s hM, zup_p hM (by omega), hg]
    exact ⟨hx.2, (h.2.2.1 _ _ (by rw [hg])).2⟩
  · have q2 := h.1.1 c j q
    rw [zup_n hM e, zup_n hM]
    · exact h.2.2.1 c j q
    · rintro ⟨q3, rfl⟩
      rw [q3, hg] at q2
      exact absurd (show (2 : Nat) = 3 from q2) (by decide)
theorem zI.putB {G : zGt} {M M2 : zMm} {a : Nat} {i x lo hi lo2 hi2 : Int} (h : zI G M) (hM : M2 = zup M (a + 1) i x) (hg : G (a + 1) i = (3, lo, hi)) (hg2 : G a i = (2, lo2, hi2)) (hx : (lo ≤ x ∧ x ≤ hi) ∧ M a i + zand x 31 ≤ hi2 ∧ zand x 31 ≤ 30) : zI G M2 := by
  refine h.putAB hM hg (Or.inr rfl) hx.1 (fun c j q => ?_)
  by_cases e : c + 1 = a + 1 ∧ j = i
  · obtain ⟨e1, rfl⟩ := e
    have e2 : c = a := by omega
    subst e2
    rw [zup_s hM, zup_p hM (by omega), hg2]
    exact hx.2
  · rw [zup_n hM e, zup_n hM]
    · exact h.2.2.1 c j q
    · rintro ⟨q3, rfl⟩
      rw [q3, hg] at q
      exact absurd (show (3 : Nat) = 2 from q) (by decide)
/-- cells outside a stretch are as they were -/
def zKr (a n : Nat) (M M2 : zMm) : Prop := ∀ c k, (c < a ∨ a + n ≤ c) → M2 c k = M c k
theorem zKr.rf {a n : Nat} {M : zMm} : zKr a n M M := fun _ _ _ => rfl
theorem zKr.tr {a n : Nat} {M M1 M2 : zMm} (h : zKr a n M M1) (h2 : zKr a n M1 M2) : zKr a n M M2 := fun c k q => (h2 c k q).trans (h c k q)
theorem zKr.put {a n p : Nat} {i x : Int} {M0 M M2 : zMm} (h : zKr a n M0 M) (hM : M2 = zup M p i x) (hp : a ≤ p ∧ p < a + n) : zKr a n M0 M2 := fun c k q => (zup_p hM (by omega) k).trans (h c k q)
theorem zKr.cp {a n p p0 : Nat} {sp dp z : Int} {M0 M M2 : zMm} (h : zKr a n M0 M) (hM : M2 = zcp M p0 p sp dp z) (hp : a ≤ p ∧ p < a + n) : zKr a n M0 M2 := fun c k q => by
  rw [← h c k q, hM]
  exact if_neg (fun q2 => by omega)
/-- a page: its starts rise, the first is 0; its guard lies in it -/
def zMo (M : zMm) (a : Nat) : Prop := (∀ i, 0 ≤ i → i < M a 3 → M (a + 2) i ≤ M (a + 2) (i + 1)) ∧ M (a + 2) 0 = 0
def zPr (M : zMm) (a : Nat) : Prop := zMo M a ∧ (M a 6 = 0 ∨ M a 5 + M a 6 ≤ 401)
theorem zMo.cg {M M2 : zMm} {a : Nat} (h : zMo M a) (h3 : M2 a 3 = M a 3) (h2 : ∀ i, M2 (a + 2) i = M (a + 2) i) : zMo M2 a := by
  refine ⟨fun i i0 i1 => ?_, by rw [h2]; exact h.2⟩
  rw [h2, h2]
  rw [h3] at i1
  exact h.1 i i0 i1
theorem zMo.le {M : zMm} {a : Nat} (h : zMo M a) : ∀ (n : Nat) (i : Int), 0 ≤ i → i + n ≤ M a 3 → M (a + 2) i ≤ M (a + 2) (i + n)
  | 0, i, _, _ => by
    rw [show i + ((0 : Nat) : Int) = i by omega]
    exact Int.le_refl _
  | n + 1, i, i0, i1 => by
    have h1 := zMo.le h n i i0 (by omega)
    have h2 := h.1 (i + n) (by omega) (by omega)
    rw [show i + ((n + 1 : Nat) : Int) = i + n + 1 by omega]
    omega
theorem zMo.lt {M : zMm} {a : Nat} (h : zMo M a) {i j : Int} (i0 : 0 ≤ i) (ij : i ≤ j) (j1 : j ≤ M a 3) : M (a + 2) i ≤ M (a + 2) j := by
  have := h.le (j - i).toNat i i0 (by omega)
  rw [show i + ((j - i).toNat : Int) = j by omega] at this
  exact this
theorem zMo.close {M M1 M2 : zMm} {a : Nat} {s x : Int} (h : zMo M a) (hs : M a 3 = s) (h0 : 0 ≤ s) (hx : M (a + 2) s ≤ x) (e1 : M1 = zup M a 3 (s + 1)) (e2 : M2 = zup M1 (a + 2) (s + 1) x) : zMo M2 a := by
  have m3 : M2 a 3 = s + 1 := (zup_p e2 (by omega) 3).trans (zup_s e1)
  have mi : ∀ i, i ≠ s + 1 → M2 (a + 2) i = M (a + 2) i := fun i hi => (zup_n e2 (by omega)).trans (zup_p e1 (by omega) i)
  have ms : M2 (a + 2) (s + 1) = x := zup_s e2
  refine ⟨fun i i0 i1 => ?_, by rw [mi 0 (by omega)]; exact h.2⟩
  rw [m3] at i1
  rw [mi i (by omega)]
  by_cases q : i = s
  · subst q
    rw [ms]
    exact hx
  · rw [mi (i + 1) (by omega)]
    exact h.1 i i0 (by omega)
/-- of a runner: the lines of the levels below the top one are lines of their files -/
def zLn (M : zMm) (a : Nat) : Prop := ∀ j, 0 ≤ j → j < M a 15 → M (a + 18) j ≤ 39
theorem zLn.cg {M M2 : zMm} {a : Nat} (h : zLn M a) (h1 : M2 a 15 = M a 15) (h2 : ∀ j, M2 (a + 18) j = M (a + 18) j) : zLn M2 a := by
  intro j j0 j1
  rw [h2]
  rw [h1] at j1
  exact h j j0 j1
theorem zLn.push {M M2 : zMm} {a : Nat} (h : zLn M a) (h1 : M2 a 15 = M a 15 + 1) (h2 : ∀ j, j ≠ M a 15 + 1 → M2 (a + 18) j = M (a + 18) j) (h3 : M (a + 18) (M a 15) ≤ 39) : zLn M2 a := by
  intro j j0 j1
  rw [h1] at j1
  rw [h2 j (by omega)]
  by_cases q : j = M a 15
  · rw [q]
    exact h3
  · exact h j j0 (by omega)
theorem zLn.pop {M M2 : zMm} {a : Nat} (h : zLn M a) (h1 : M2 a 15 ≤ M a 15) (h2 : ∀ j, j < M2 a 15 → M2 (a + 18) j = M (a + 18) j) : zLn M2 a := by
  intro j j0 j1
  rw [h2 j j1]
  exact h j j0 (by omega)
def zSm (M M2 : zMm) (a : Nat) : Prop := M2 a 15 = M a 15 ∧ (∀ j, M2 (a + 18) j = M (a + 18) j) ∧ ∀ j, M2 (a + 17) j = M (a + 17) j
/-- of a runner: its references are as they were, but for the tally that is counted into (the spare one) and the row that is summed (the wide one) -/
def zRo (R R2 : zRm') (a : Nat) : Prop := (∀ c k, ¬ (c = a + 39 ∧ k = 7) → ¬ (c = a + 753 ∧ k = 2) → R2 c k = R c k) ∧ (R2 (a + 39) 7 = R (a + 39) 7 ∨ R2 (a + 39) 7 = some (a + 8)) ∧ (R2 (a + 753) 2 = R (a + 753) 2 ∨ R2 (a + 753) 2 = some (a + 13))
theorem zRo.rf {R : zRm'} {a : Nat} : zRo R R a := ⟨fun _ _ _ _ => rfl, Or.inl rfl, Or.inl rfl⟩
theorem zRo.tal {R R1 R2 : zRm'} {a : Nat} (h : zRo R R1 a) (e : R2 = zup R1 (a + 39) 7 (some (a + 8))) : zRo R R2 a := by
  refine ⟨fun c k q1 q2 => (zup_n e q1).trans (h.1 c k q1 q2), Or.inr (zup_s e), ?_⟩
  rw [zup_n e (by omega)]
  exact h.2.2
theorem zRo.row {R R1 R2 : zRm'} {a : Nat} (h : zRo R R1 a) (e : R2 = zup R1 (a + 753) 2 (some (a + 13))) : zRo R R2 a := by
  refine ⟨fun c k q1 q2 => (zup_n e q2).trans (h.1 c k q1 q2), ?_, Or.inr (zup_s e)⟩
  rw [zup_n e (by omega)]
  exact h.2.1
theorem zRo.F {F R R2 : zRm'} {a : Nat} (h : zRo R R2 a) (hF : zF F R) (n1 : F (a + 39) 7 = none) (n2 : F (a + 753) 2 = none) : zF F R2 := by
  intro c k r q
  rw [h.1 c k (fun z => by rw [z.1, z.2, n1] at q; cases q) (fun z => by rw [z.1, z.2, n2] at q; cases q)]
  exact hF c k r q
theorem zI.gen {G : zGt} {M M2 : zMm} (h : zI G M) (ht2 : zTy G M2) (hne : ∀ c j, zfree (G c j).1 = false → M2 c j = M c j) : zI G M2 := by
  obtain ⟨hw, ht, h1, h2, h3⟩ := h
  refine ⟨hw, ht2, ?_, ?_, ?_⟩
  · intro c j q
    have q2 := hw.1 c j q
    rw [hne c j (by rw [q]; rfl), hne (c + 1) j (by rw [q2]; rfl)]
    exact h1 c j q
  · intro c q
    obtain ⟨g1, g2, g3⟩ := hw.2.1 c q
    rw [hne c 3 (by rw [q]; rfl), hne c 5 (by rw [g2]; rfl), hne c 6 (by rw [g3]; rfl)]
    refine ⟨fun j q1 q2 => ?_, (h2 c q).2⟩
    rw [hne (c + 2) j (by rw [g1]; rfl), hne (c + 2) (j + 1) (by rw [g1]; rfl)]
    exact (h2 c q).1 j q1 q2
  · intro c b q k k0 k4
    have g := hw.2.2 c b q
    have e1 : M2 c (b + 4 + k) = M c (b + 4 + k) := by
      have := g (4 + k) (by omega) (by omega)
      rw [← Int.add_assoc] at this
      exact hne c _ (by rw [this]; rfl)
    obtain ⟨hl, hb⟩ := h3 c b q k k0 k4
    rw [e1]
    refine ⟨hl, ?_⟩
    rw [zSum_cg (g := M2 c) (h := M c)]
    · exact hb
    · intro j hj
      have := g (8 + 40 * k + j) (by omega) (by omega)
      rw [show b + 8 + 40 * k + (j : Int) = b + (8 + 40 * k + j) by omega]
      exact hne c _ (by rw [this]; rfl)
theorem zcp_p {M M2 : zMm} {a0 a c : Nat} {sp dp z : Int} (hM : M2 = zcp M a0 a sp dp z) (h : c ≠ a) (j : Int) : M2 c j = M c j := by
  rw [hM]
  exact if_neg (fun q => h q.1)
theorem zcp_t {G : zGt} {M M2 : zMm} {a0 a c t t2 : Nat} {sp dp z j lo hi lo2 hi2 : Int} (hM : M2 = zcp M a0 a sp dp z) (hg : G c j = (t, lo, hi)) (hg2 : ∀ k, G a k = (t2, lo2, hi2)) (h : t ≠ t2) : M2 c j = M c j := by
  rw [hM]
  refine if_neg (fun q => h ?_)
  have := hg2 j
  rw [← q.1, hg] at this
  exact congrArg Prod.fst this
theorem zI.cp {G : zGt} {M M2 : zMm} {a0 a t t0 : Nat} {sp dp z lo hi lo0 hi0 : Int} (h : zI G M) (hM : M2 = zcp M a0 a sp dp z) (hg0 : ∀ k, G a0 k = (t0, lo0, hi0)) (hg : ∀ k, G a k = (t, lo, hi)) (hf : zfree t = true) (hb : lo ≤ lo0 ∧ hi0 ≤ hi) : zI G M2 := by
  refine h.gen ?_ ?_
  · intro c j
    by_cases q : c = a ∧ dp ≤ j ∧ j < dp + z
    · have e : M2 c j = M a0 (sp + (j - dp)) := by rw [hM]; exact if_pos q
      rw [e, q.1, hg]
      have := h.at (hg0 (sp + (j - dp)))
      exact ⟨by simp only; omega, by simp only; omega⟩
    · have e : M2 c j = M c j := by rw [hM]; exact if_neg q
      rw [e]
      exact h.2.1 c j
  · intro c j n0
    rw [hM]
    refine if_neg (fun q => ?_)
    rw [q.1, hg j, hf] at n0
    cases n0
theorem zKp.cp {G : zGt} {n : Nat} {M0 M M2 : zMm} {a0 a t : Nat} {sp dp z lo hi : Int} (h : zKp G n M0 M) (hM : M2 = zcp M a0 a sp dp z) (hg : ∀ k, G a k = (t, lo, hi)) (ht : t < n) : zKp G n M0 M2 := by
  intro c k q
  rw [← h c k q, hM]
  refine if_neg (fun q2 => ?_)
  rw [q2.1, hg k] at q
  exact absurd ht (Nat.not_lt.mpr q)
def znk (l : List (Int × Int)) (x : Int) : Prop := match l with
  | [] => True
  | q :: r => ¬ q.1 = x ∧ znk r x
theorem zlk_out {x dflt : Int} : ∀ (l : List (Int × Int)), znk l x → Op.lookupswitch.offset l dflt x = dflt
  | [], _ => rfl
  | (a, o) :: r, h => by
    rw [Op.lookupswitch.offset_cons, if_neg h.1]
    exact zlk_out r h.2
section SWITCH
variable {w : zWp} {p : Program} {e : Env} {d mc ms : Nat} {s : State} {m : MethodId} {args : Array Value} {below : List Frame} {meth : Method} {c : Code} {y : MethodName} {b : ByteArray} {nL : Nat} {ret : Option FieldType} {T0 T : zTl} {Post : Option Value → zSg → Prop} {pc n : Nat} {lv st : List Value} {σ : zSg}
theorem q_tabIn (C : zCx w p s m args meth c y b nL ret) {dflt lo hi off x v : Int} {offs : Array Int} {len : Nat} (tgt : Nat) (hd : decode b pc = .ok (.tableswitch dflt lo hi offs, len)) (hv : x = v) (hg : ¬ v < lo ∧ ¬ hi < v ∧ -2147483648 ≤ v ∧ v ≤ 2147483647) (ho : offs[(v - lo).toNat]? = some off) (ht : (pc : Int) + off = (tgt : Int)) (kk : zK w p e d mc ms s m args below meth c nL T0 Post tgt lv st σ) : zK w p e d mc ms s m args below meth c nL T0 Post pc lv (zi x :: st) σ := by
  subst hv
  exact r_tableIn C ⟨hg.2.2.1, hg.2.2.2⟩ hd hg.1 hg.2.1 ho ht kk
theorem q_tabOut (C : zCx w p s m args meth c y b nL ret) {dflt lo hi x : Int} {offs : Array Int} {len : Nat} (tgt : Nat) (hd : decode b pc = .ok (.tableswitch dflt lo hi offs, len)) (hx : -2147483648 ≤ x ∧ x ≤ 2147483647) (hg : x < lo ∨ hi < x) (ht : (pc : Int) + dflt = (tgt : Int)) (kk : zK w p e d mc ms s m args below meth c nL T0 Post tgt lv st σ) : zK w p e d mc ms s m args below meth c nL T0 Post pc lv (zi x :: st) σ := r_tableOut C hx hd hg ht kk
theorem q_lkIn (C : zCx w p s m args meth c y b nL ret) {dflt off x v : Int} {ps : Array (Int × Int)} {len : Nat} (tgt : Nat) (hd : decode b pc = .ok (.lookupswitch dflt ps, len)) (hv : x = v) (hx : -2147483648 ≤ v ∧ v ≤ 2147483647) (hp : (ps.toList.zip (ps.toList.drop 1)).all (fun (a, next) => a.1 < next.1) = true) (ho : Op.lookupswitch.offset ps.toList dflt v = off) (ht : (pc : Int) + off = (tgt : Int)) (kk : zK w p e d mc ms s m args below meth c nL T0 Post tgt lv st σ) : zK w p e d mc ms s m args below meth c nL T0 Post pc lv (zi x :: st) σ := by
  subst hv
  exact r_lookup C hx hd hp ho ht kk
theorem q_lkOut (C : zCx w p s m args meth c y b nL ret) {dflt x : Int} {ps : Array (Int × Int)} {len : Nat} (tgt : Nat) (hd : decode b pc = .ok (.lookupswitch dflt ps, len)) (hx : -2147483648 ≤ x ∧ x ≤ 2147483647) (hp : (ps.toList.zip (ps.toList.drop 1)).all (fun (a, next) => a.1 < next.1) = true) (ho : znk ps.toList x) (ht : (pc : Int) + dflt = (tgt : Int)) (kk : zK w p e d mc ms s m args below meth c nL T0 Post tgt lv st σ) : zK w p e d mc ms s m args below meth c nL T0 Post pc lv (zi x :: st) σ := r_lookup C hx hd hp (zlk_out _ ho) ht kk
theorem zfv_up2 {n0 a k : Nat} {σ : zSg} {r : Nat} {ci : Nat} (h : zft (zty ci k) = 2) (j : Nat) : (if j = k then .ref (n0 + r) else zfv n0 σ a (zty ci j) j) = zfv n0 (σ.1, σ.2.1, σ.2.2.1, zup σ.2.2.2 a k (some r)) a (zty ci j) j := by
  by_cases hj : j = k
  · subst hj
    rw [if_pos rfl]
    unfold zfv
    rw [if_neg (by rw [h]; decide), if_neg (by rw [h]; decide)]
    show _ = va_rf (zof n0 (zup σ.2.2.2 a j (some r) a j))
    rw [zup_at]
    rfl
  · rw [if_neg hj]
    unfold zfv
    show _ = if zft (zty ci j) = 0 then zi (σ.2.1 a j) else if zft (zty ci j) = 1 then .long (σ.2.2.1 a j) else va_rf (zof n0 (zup σ.2.2.2 a k (some r) a j))
    rw [zup_i (by omega)]
theorem q_putR (C : zCx w p s m args meth c y b nL ret) {M : zMm} {J : zJm} {R : zRm'} {ix ci N k a r : Nat} (hd : decode b pc = .ok (.putfield ix, 3)) (hn : pc + 3 = n) (hf : zFd y.cls ix ci N k 2) (ht : T[a]? = some (ci, N)) (hfin : zfin ci k = false) (hty : narrow (zty ci k) (.ref (w.2.1 + r)) = .ref (w.2.1 + r) ∧ fits (zty ci k) (.ref (w.2.1 + r)) = true) (kk : ∀ R2 : zRm', R2 = zup R a k (some r) → zK w p e d mc ms s m args below meth c nL T0 Post n lv st (T, M, J, R2)) : zK w p e d mc ms s m args below meth c nL T0 Post pc lv (.ref (w.2.1 + r) :: .ref (w.2.1 + a) :: st) (T, M, J, R) := by
  refine r_putV (τ := (T, M, J, zup R a k (some r))) C hf hfin ht hty.1 hty.2 rfl (fun _ _ => rfl) (fun _ _ => rfl) (fun c hc => zup_a hc) (fun j _ => ?_) hd (by rw [hn]; exact kk _ rfl)
  obtain ⟨Cn, Tn, f1, f2, f3, f4, f5⟩ := hf
  exact zfv_up2 (σ := (T, M, J, R)) f4 j
theorem zfv_up1 {n0 a k : Nat} {σ : zSg} {x : Int64} {ci : Nat} (h : zft (zty ci k) = 1) (j : Nat) : (if j = k then .long x else zfv n0 σ a (zty ci j) j) = zfv n0 (σ.1, σ.2.1, zup σ.2.2.1 a k x, σ.2.2.2) a (zty ci j) j := by
  by_cases hj : j = k
  · subst hj
    rw [if_pos rfl]
    unfold zfv
    rw [if_neg (by rw [h]; decide), if_pos h]
    show _ = Value.long (zup σ.2.2.1 a j x a j)
    rw [zup_at]
  · rw [if_neg hj]
    unfold zfv
    show _ = if zft (zty ci j) = 0 then zi (σ.2.1 a j) else if zft (zty ci j) = 1 then .long (zup σ.2.2.1 a k x a j) else va_rf (zof n0 (σ.2.2.2 a j))
    rw [zup_i (by omega)]
theorem q_putL (C : zCx w p s m args meth c y b nL ret) {M : zMm} {J : zJm} {R : zRm'} {ix ci N k a : Nat} {x : Int64} (hd : decode b pc = .ok (.putfield ix, 3)) (hn : pc + 3 = n) (hf : zFd y.cls ix ci N k 1) (ht : T[a]? = some (ci, N)) (hfin : zfin ci k = false ∧ zty ci k = .long) (kk : ∀ J2 : zJm, zK w p e d mc ms s m args below meth c nL T0 Post n lv st (T, M, J2, R)) : zK w p e d mc ms s m args below meth c nL T0 Post pc lv (.long x :: .ref (w.2.1 + a) :: st) (T, M, J, R) := by
  refine r_putV (τ := (T, M, zup J a k x, R)) C hf hfin.1 ht (by rw [hfin.2]; rfl) (by rw [hfin.2]; rfl) rfl (fun _ _ => rfl) (fun c hc => zup_a hc) (fun _ _ => rfl) (fun j _ => ?_) hd (by rw [hn]; exact kk _)
  obtain ⟨Cn, Tn, f1, f2, f3, f4, f5⟩ := hf
  exact zfv_up1 (σ := (T, M, J, R)) f4 j
theorem q_ifnullR (C : zCx w p s m args meth c y b nL ret) {x : Nat} {off : Int} (hd : decode b pc = .ok (.ifnull off, 3)) (hn : pc + 3 = n) (kk : zK w p e d mc ms s m args below meth c nL T0 Post n lv st σ) : zK w p e d mc ms s m args below meth c nL T0 Post pc lv (.ref x :: st) σ := fun ls H locs k n h1 h2 hl hW hS => lv_ifnull C.1 C.2.1 hd (by rw [hn]; exact kk ls H locs k n h1 h2 hl hW hS)
theorem q_ifnonnullR (C : zCx w p s m args meth c y b nL ret) {x : Nat} {off : Int} (tgt : Nat) (hd : decode b pc = .ok (.ifnonnull off, 3)) (ht : (pc : Int) + off = (tgt : Int)) (kk : zK w p e d mc ms s m args below meth c nL T0 Post tgt lv st σ) : zK w p e d mc ms s m args below meth c nL T0 Post pc lv (.ref x :: st) σ := fun ls H locs k n h1 h2 hl hW hS => lv_ifnonnull C.1 C.2.1 hd ht (kk ls H locs k n h1 h2 hl hW hS)
theorem q_aald7 (C : zCx w p s m args meth c y b nL ret) {M : zMm} {J : zJm} {R : zRm'} {a N r : Nat} {i : Int} (hd : decode b pc = .ok (.aaload, 1)) (hn : pc + 1 = n) (ht : T[a]? = some (57, N)) (hi : 0 ≤ i ∧ i < N ∧ i ≤ 2147483647) (hr : R a i = some r) (kk : zK w p e d mc ms s m args below meth c nL T0 Post n lv (.ref (w.2.1 + r) :: st) (T, M, J, R)) : zK w p e d mc ms s m args below meth c nL T0 Post pc lv (zi i :: .ref (w.2.1 + a) :: st) (T, M, J, R) := fun ls H locs q n2 h1 h2 hl hW hS => by
  obtain ⟨g1, g2⟩ := zin hi
  have hP := hW.get ht (by show ¬ (57 : Nat) = 99; decide)
  rw [zE_rf (by decide)] at hP
  have hlt : (Int32.ofInt i).toNatClampNeg < N := by omega
  refine W.aald (v := va_rf (zof w.2.1 (R a ((Int32.ofInt i).toNatClampNeg : Nat)))) (ty := .array .byte) C.1 C.2.1 (hP 0 _ rfl) ((C.2.2.2.2.2.2.2.2.1.2 7 _ rfl).1 N (fun j => va_rf (zof w.2.1 (R a j)))) rfl (fun q => by cases q) (by show ¬ (_ ∨ (arrV _ _ _).slots.size ≤ _); rw [arrV_size]; exact g1) (by show (arrV _ _ _).slots[_]? = _; rw [arrV_read _ _ hlt]) rfl rfl hd ?_
  rw [g2, hr]
  show W _ _ _ _ _ _ _ _ _ _ _ _ _ _ _ (F0 m (pc + 1) ls (.ref (w.2.1 + r) :: st))
  rw [hn]
  exact kk ls H locs q n2 h1 h2 hl hW hS
theorem q_ldcS (C : zCx w p s m args meth c y b nL ret) {ix k : Nat} (hd : decode b pc = .ok (.ldc ix, 2)) (hn : pc + 2 = n) (hq : (y.cls, ix, k) ∈ zTx) (kk : zK w p e d mc ms s m args below meth c nL T0 Post n lv (.ref (w.2.2.2.2 k) :: st) σ) : zK w p e d mc ms s m args below meth c nL T0 Post pc lv st σ := fun ls H locs q n2 h1 h2 hl hW hS => by
  obtain ⟨tx, ht⟩ := C.2.2.2.2.2.2.2.2.2.1.2.1 _ hq
  refine va_ldcS C.1 C.2.1 C.2.2.2.1 ht hd ?_
  rw [hn]
  exact kk ls H locs q n2 h1 h2 hl hW hS
theorem q_ldcwS (C : zCx w p s m args meth c y b nL ret) {ix k : Nat} (hd : decode b pc = .ok (.ldc_w ix, 3)) (hn : pc + 3 = n) (hq : (y.cls, ix, k) ∈ zTx) (kk : zK w p e d mc ms s m args below meth c nL T0 Post n lv (.ref (w.2.2.2.2 k) :: st) σ) : zK w p e d mc ms s m args below meth c nL T0 Post pc lv st σ := fun ls H locs q n2 h1 h2 hl hW hS => by
  obtain ⟨tx, ht⟩ := C.2.2.2.2.2.2.2.2.2.1.2.1 _ hq
  intro U hU X
  obtain ⟨t, a1, b1⟩ := kk ls H locs q n2 h1 h2 hl hW hS U hU X
  subst hn
  exact ⟨t, X.ldcStringW C.1 C.2.2.2.1 (text := tx) (a := w.2.2.2.2 k) ht.1 ht.2 (g := F0 m pc ls st) rfl (by rw [C.2.1]; exact hd) t a1, b1⟩
end SWITCH
section CALLR
variable {w : zWp} {p : Program} {e : Env} {d mc ms : Nat} {s : State} {m : MethodId} {args : Array Value} {below : List Frame} {meth : Method} {c : Code} {y : MethodName} {b : ByteArray} {nL : Nat} {ret : Option FieldType} {T0 T : zTl} {M : zMm} {J : zJm} {R R2 : zRm'} {G : zGt} {Post : Option Value → zSg → Prop} {pc n : Nat} {lv st : List Value} {σ : zSg}
theorem q_callViR (C : zCx w p s m args meth c y b nL ret) {ix d2 n2 nL2 a ci N : Nat} {y2 : MethodName} {b2 : ByteArray} {ret2 : Option FieldType} {As stk : List Value} {E : Int → zMm → Prop} (hd : decode b pc = .ok (.invokevirtual ix, 3)) (hn : pc + 3 = n) (hw : zCw y.cls ix y2 b2 nL2 ret2 n2) (hv : (Cond.instanceMethod y2) ∈ lw_g ∧ (Cond.selects y2.cls y2 y2) ∈ lw_g) (ht : T[a]? = some (ci, N)) (hci : ci < 50 ∧ (zcl[ci]?).map (fun r => r.1) = some y2.cls) (hM : zCt w d2 0 0 y2 b2 nL2 ret2 (.ref (w.2.1 + a) :: As) (T, M, J, R) (zPi T R2 G E)) (hd2 : d2 + 1 ≤ d) (hA : As.length = n2) (hst : stk = As.reverse ++ .ref (w.2.1 + a) :: st) (hrm : (st.map fun v => v.category).sum ≤ 8) (hrc : T.length ≤ T0.length + mc ∧ zsz T ≤ zsz T0 + ms) (kk : ∀ (x : Int) (M2 : zMm) (J2 : zJm), zI G M2 → E x M2 → zK w p e d mc ms s m args below meth c nL T0 Post n lv (zi x :: st) (T, M2, J2, R2)) : zK w p e d mc ms s m args below meth c nL T0 Post pc lv stk (T, M, J, R) := by
  refine r_callV C hw hv ht hci.1 hci.2 hA hM hd2 hst hrm hrc hd (fun v τ hp _ _ => ?_)
  obtain ⟨x, M2, J2, rfl, rfl, hI2, hE⟩ := hp
  rw [hn]
  exact kk x M2 J2 hI2 hE
theorem q_callVvR (C : zCx w p s m args meth c y b nL ret) {ix d2 n2 nL2 a ci N : Nat} {y2 : MethodName} {b2 : ByteArray} {ret2 : Option FieldType} {As stk : List Value} {E : zMm → Prop} (hd : decode b pc = .ok (.invokevirtual ix, 3)) (hn : pc + 3 = n) (hw : zCw y.cls ix y2 b2 nL2 ret2 n2) (hv : (Cond.instanceMethod y2) ∈ lw_g ∧ (Cond.selects y2.cls y2 y2) ∈ lw_g) (ht : T[a]? = some (ci, N)) (hci : ci < 50 ∧ (zcl[ci]?).map (fun r => r.1) = some y2.cls) (hM : zCt w d2 0 0 y2 b2 nL2 ret2 (.ref (w.2.1 + a) :: As) (T, M, J, R) (zPv T R2 G E)) (hd2 : d2 + 1 ≤ d) (hA : As.length = n2) (hst : stk = As.reverse ++ .ref (w.2.1 + a) :: st) (hrm : (st.map fun v => v.category).sum ≤ 8) (hrc : T.length ≤ T0.length + mc ∧ zsz T ≤ zsz T0 + ms) (kk : ∀ (M2 : zMm) (J2 : zJm), zI G M2 → E M2 → zK w p e d mc ms s m args below meth c nL T0 Post n lv (st) (T, M2, J2, R2)) : zK w p e d mc ms s m args below meth c nL T0 Post pc lv stk (T, M, J, R) := by
  refine r_callV C hw hv ht hci.1 hci.2 hA hM hd2 hst hrm hrc hd (fun v τ hp _ _ => ?_)
  obtain ⟨M2, J2, rfl, rfl, hI2, hE⟩ := hp
  rw [hn]
  exact kk M2 J2 hI2 hE
theorem q_callVlR (C : zCx w p s m args meth c y b nL ret) {ix d2 n2 nL2 a ci N : Nat} {y2 : MethodName} {b2 : ByteArray} {ret2 : Option FieldType} {As stk : List Value} {E : zMm → Prop} (hd : decode b pc = .ok (.invokevirtual ix, 3)) (hn : pc + 3 = n) (hw : zCw y.cls ix y2 b2 nL2 ret2 n2) (hv : (Cond.instanceMethod y2) ∈ lw_g ∧ (Cond.selects y2.cls y2 y2) ∈ lw_g) (ht : T[a]? = some (ci, N)) (hci : ci < 50 ∧ (zcl[ci]?).map (fun r => r.1) = some y2.cls) (hM : zCt w d2 0 0 y2 b2 nL2 ret2 (.ref (w.2.1 + a) :: As) (T, M, J, R) (zPl T R2 G E)) (hd2 : d2 + 1 ≤ d) (hA : As.length = n2) (hst : stk = As.reverse ++ .ref (w.2.1 + a) :: st) (hrm : (st.map fun v => v.category).sum ≤ 8) (hrc : T.length ≤ T0.length + mc ∧ zsz T ≤ zsz T0 + ms) (kk : ∀ (x : Int64) (M2 : zMm) (J2 : zJm), zI G M2 → E M2 → zK w p e d mc ms s m args below meth c nL T0 Post n lv (.long x :: st) (T, M2, J2, R2)) : zK w p e d mc ms s m args below meth c nL T0 Post pc lv stk (T, M, J, R) := by
  refine r_callV C hw hv ht hci.1 hci.2 hA hM hd2 hst hrm hrc hd (fun v τ hp _ _ => ?_)
  obtain ⟨x, M2, J2, rfl, rfl, hI2, hE⟩ := hp
  rw [hn]
  exact kk x M2 J2 hI2 hE
def zPiE (T : zTl) (G : zGt) (E : Int → zMm → zRm' → Prop) : Option Value → zSg → Prop := fun v τ => ∃ (x : Int) (M' : zMm) (J' : zJm) (R' : zRm'), v = some (zi x) ∧ τ = (T, M', J', R') ∧ zI G M' ∧ E x M' R'
def zPvE (T : zTl) (G : zGt) (E : zMm → zRm' → Prop) : Option Value → zSg → Prop := fun v τ => ∃ (M' : zMm) (J' : zJm) (R' : zRm'), v = none ∧ τ = (T, M', J', R') ∧ zI G M' ∧ E M' R'
def zPlE (T : zTl) (G : zGt) (E : zMm → zRm' → Prop) : Option Value → zSg → Prop := fun v τ => ∃ (x : Int64) (M' : zMm) (J' : zJm) (R' : zRm'), v = some (.long x) ∧ τ = (T, M', J', R') ∧ zI G M' ∧ E M' R'
theorem q_callViE (C : zCx w p s m args meth c y b nL ret) {ix d2 n2 nL2 a ci N : Nat} {y2 : MethodName} {b2 : ByteArray} {ret2 : Option FieldType} {As stk : List Value} {E : Int → zMm → zRm' → Prop} (hd : decode b pc = .ok (.invokevirtual ix, 3)) (hn : pc + 3 = n) (hw : zCw y.cls ix y2 b2 nL2 ret2 n2) (hv : (Cond.instanceMethod y2) ∈ lw_g ∧ (Cond.selects y2.cls y2 y2) ∈ lw_g) (ht : T[a]? = some (ci, N)) (hci : ci < 50 ∧ (zcl[ci]?).map (fun r => r.1) = some y2.cls) (hM : zCt w d2 0 0 y2 b2 nL2 ret2 (.ref (w.2.1 + a) :: As) (T, M, J, R) (zPiE T G E)) (hd2 : d2 + 1 ≤ d) (hA : As.length = n2) (hst : stk = As.reverse ++ .ref (w.2.1 + a) :: st) (hrm : (st.map fun v => v.category).sum ≤ 8) (hrc : T.length ≤ T0.length + mc ∧ zsz T ≤ zsz T0 + ms) (kk : ∀ (x : Int) (M2 : zMm) (J2 : zJm) (R2 : zRm'), zI G M2 → E x M2 R2 → zK w p e d mc ms s m args below meth c nL T0 Post n lv (zi x :: st) (T, M2, J2, R2)) : zK w p e d mc ms s m args below meth c nL T0 Post pc lv stk (T, M, J, R) := by
  refine r_callV C hw hv ht hci.1 hci.2 hA hM hd2 hst hrm hrc hd (fun v τ hp _ _ => ?_)
  obtain ⟨x, M2, J2, R2, rfl, rfl, hI2, hE⟩ := hp
  rw [hn]
  exact kk x M2 J2 R2 hI2 hE
theorem q_callVvE (C : zCx w p s m args meth c y b nL ret) {ix d2 n2 nL2 a ci N : Nat} {y2 : MethodName} {b2 : ByteArray} {ret2 : Option FieldType} {As stk : List Value} {E : zMm → zRm' → Prop} (hd : decode b pc = .ok (.invokevirtual ix, 3)) (hn : pc + 3 = n) (hw : zCw y.cls ix y2 b2 nL2 ret2 n2) (hv : (Cond.instanceMethod y2) ∈ lw_g ∧ (Cond.selects y2.cls y2 y2) ∈ lw_g) (ht : T[a]? = some (ci, N)) (hci : ci < 50 ∧ (zcl[ci]?).map (fun r => r.1) = some y2.cls) (hM : zCt w d2 0 0 y2 b2 nL2 ret2 (.ref (w.2.1 + a) :: As) (T, M, J, R) (zPvE T G E)) (hd2 : d2 + 1 ≤ d) (hA : As.length = n2) (hst : stk = As.reverse ++ .ref (w.2.1 + a) :: st) (hrm : (st.map fun v => v.category).sum ≤ 8) (hrc : T.length ≤ T0.length + mc ∧ zsz T ≤ zsz T0 + ms) (kk : ∀ (M2 : zMm) (J2 : zJm) (R2 : zRm'), zI G M2 → E M2 R2 → zK w p e d mc ms s m args below meth c nL T0 Post n lv (st) (T, M2, J2, R2)) : zK w p e d mc ms s m args below meth c nL T0 Post pc lv stk (T, M, J, R) := by
  refine r_callV C hw hv ht hci.1 hci.2 hA hM hd2 hst hrm hrc hd (fun v τ hp _ _ => ?_)
  obtain ⟨M2, J2, R2, rfl, rfl, hI2, hE⟩ := hp
  rw [hn]
  exact kk M2 J2 R2 hI2 hE
theorem q_callVlE (C : zCx w p s m args meth c y b nL ret) {ix d2 n2 nL2 a ci N : Nat} {y2 : MethodName} {b2 : ByteArray} {ret2 : Option FieldType} {As stk : List Value} {E : zMm → zRm' → Prop} (hd : decode b pc = .ok (.invokevirtual ix, 3)) (hn : pc + 3 = n) (hw : zCw y.cls ix y2 b2 nL2 ret2 n2) (hv : (Cond.instanceMethod y2) ∈ lw_g ∧ (Cond.selects y2.cls y2 y2) ∈ lw_g) (ht : T[a]? = some (ci, N)) (hci : ci < 50 ∧ (zcl[ci]?).map (fun r => r.1) = some y2.cls) (hM : zCt w d2 0 0 y2 b2 nL2 ret2 (.ref (w.2.1 + a) :: As) (T, M, J, R) (zPlE T G E)) (hd2 : d2 + 1 ≤ d) (hA : As.length = n2) (hst : stk = As.reverse ++ .ref (w.2.1 + a) :: st) (hrm : (st.map fun v => v.category).sum ≤ 8) (hrc : T.length ≤ T0.length + mc ∧ zsz T ≤ zsz T0 + ms) (kk : ∀ (x : Int64) (M2 : zMm) (J2 : zJm) (R2 : zRm'), zI G M2 → E M2 R2 → zK w p e d mc ms s m args below meth c nL T0 Post n lv (.long x :: st) (T, M2, J2, R2)) : zK w p e d mc ms s m args below meth c nL T0 Post pc lv stk (T, M, J, R) := by
  refine r_callV C hw hv ht hci.1 hci.2 hA hM hd2 hst hrm hrc hd (fun v τ hp _ _ => ?_)
  obtain ⟨x, M2, J2, R2, rfl, rfl, hI2, hE⟩ := hp
  rw [hn]
  exact kk x M2 J2 R2 hI2 hE
end CALLR
