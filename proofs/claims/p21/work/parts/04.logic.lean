/-! ===== a memory of numbers: cells by their places behind the law's start; what a method does to it ===== -/
/-- the words that hold at every place of a run -/
def lw_g : List Cond := lw_tbl.filter goodWord
/-- the kinds and lengths of the cells; ints (booleans, bytes too); longs; references by places -/
abbrev zSg : Type := List (Nat × Nat) × (Nat → Int → Int) × (Nat → Int → Int64) × (Nat → Int → Option Nat)
def zi (n : Int) : Value := .int (Int32.ofInt n)
abbrev zr (n : Int) : Prop := -2147483648 ≤ n ∧ n ≤ 2147483647
def zof (n0 : Nat) (r : Option Nat) : Option Nat := r.map (fun i => n0 + i)
def zft (t : FieldType) : Nat := match t with
  | .long => 1
  | .object _ => 2
  | .array _ => 2
  | _ => 0
abbrev zcl : List vw_C := [(RX0, TX0, 9), (RX1, TX1, 2), (RX2, TX2, 18), (RX3, TX3, 18), (RX4, TX4, 7), (RX5, TX5, 4), (RX6, TX6, 20), (RX7, TX7, 7), (RX8, TX8, 6), (RX9, TX9, 8), (RX10, TX10, 2), (RX11, TX11, 9), (RX12, TX12, 119)]
def zty (ci : Nat) : Nat → FieldType := match ci with
  | 0 => tyX0
  | 1 => tyX1
  | 2 => tyX2
  | 3 => tyX3
  | 4 => tyX4
  | 5 => tyX5
  | 6 => tyX6
  | 7 => tyX7
  | 8 => tyX8
  | 9 => tyX9
  | 10 => tyX10
  | 11 => tyX11
  | _ => tyX12
/-- a field's worth -/
def zfv (n0 : Nat) (σ : zSg) (i : Nat) (t : FieldType) (k : Nat) : Value := if zft t = 0 then zi (σ.2.1 i k) else if zft t = 1 then .long (σ.2.2.1 i k) else va_rf (zof n0 (σ.2.2.2 i k))
def zE (cA : Nat → ClassId) (n0 : Nat) (σ : zSg) (i : Nat) (t : Nat × Nat) : va_E :=
  if t.1 < 50 then .inr (t.1, (List.range t.2).map (fun k => zfv n0 σ i (zty t.1 k) k))
  else if t.1 < 53 then .inl (cA (t.1 - 50), t.2, .inl (fun j => Int32.ofInt (σ.2.1 i j)))
  else if t.1 = 53 then .inl (cA 3, t.2, .inr (.inl (fun j => σ.2.2.1 i j)))
  else .inl (cA (t.1 - 50), t.2, .inr (.inr (.inr (.inr (fun j => zof n0 (σ.2.2.2 i j))))))
/-- launch, the law's start, the classes' numbers and slots, the array classes; where the texts and tables lie (0..: texts, 100..: their bytes, 200, 201: tables) -/
abbrev zWp : Type := Launch × Nat × va_G × (Nat → ClassId) × (Nat → Nat)
def zA (w : zWp) : Nat → Prop := fun q => w.2.1 ≤ q
def zat (w : zWp) (σ : zSg) (i : Nat) (t : Nat × Nat) (H : Heap) : Prop := t.1 = 99 ∨ va_at w.2.2.1 zcl (w.2.1 + i, zE w.2.2.2.1 w.2.1 σ i t) H
def zW (w : zWp) (σ : zSg) (H : Heap) : Prop := H.size = w.2.1 + σ.1.length ∧ ∀ (i : Nat) (t : Nat × Nat), σ.1[i]? = some t → zat w σ i t H
abbrev ztys (cA : Nat → ClassId) : List (ClassId × FieldType) := [(cA 0, .int), (cA 1, .byte), (cA 2, .boolean), (cA 3, .long), (cA 4, .object RX4), (cA 5, .object RX7), (cA 6, .object RX2), (cA 7, .array .byte)]
def zKn (w : zWp) (U : State) : Prop := va_K w.2.2.1 zcl (ztys w.2.2.2.1) U
def zsz (T : List (Nat × Nat)) : Nat := (T.map (fun t => t.2)).sum
/-- locals by their places; .null: nothing is known -/
def znl (v : Value) : Bool := match v with
  | .null => true
  | _ => false
def zal (lv : List Value) : List (Nat × Value) := (lv.zipIdx.map (fun q => (q.2, q.1))).filter (fun q => !znl q.2)
theorem zal_mem {lv : List Value} {j : Nat} {v : Value} : (j, v) ∈ zal lv ↔ lv[j]? = some v ∧ znl v = false := by
  unfold zal
  rw [List.mem_filter, List.mem_map]
  constructor
  · rintro ⟨⟨⟨v2, j2⟩, h1, h2⟩, h3⟩
    cases h2
    exact ⟨List.mem_zipIdx_iff_getElem?.mp h1, by simpa using h3⟩
  · rintro ⟨h1, h2⟩
    exact ⟨⟨(v, j), List.mem_zipIdx_iff_getElem?.mpr h1, rfl⟩, by simp [h2]⟩
def zok (lv : List Value) (i : Nat) : Bool := match i with
  | 0 => true
  | j + 1 => match lv[j]? with
    | some (.long _) => false
    | some (.double _) => false
    | _ => true
theorem zok_cat {lv : List Value} {i j : Nat} {v : Value} (h : zok lv i = true) (hj : lv[j]? = some v) (hi : j + 1 = i) : ¬ v.category = 2 := by
  subst hi
  simp only [zok, hj] at h
  cases v <;> simp_all [Value.category]
theorem zst1 {ls : Array Slot} {nL i : Nat} {lv : List Value} {v : Value} (h : lv_has ls nL ((i, v) :: (zal lv).filter (fun q => !(q.1 == i) && !(q.1 + 1 == i && q.2.category == 2)))) (ho : zok lv i = true) : lv_has ls nL (zal (lv.set i v)) := by
  refine ⟨h.1, h.2.1, ?_⟩
  rintro ⟨j, x⟩ hx
  obtain ⟨h1, h2⟩ := zal_mem.mp hx
  by_cases hj : j = i
  · subst hj
    have hlt : j < lv.length := by
      have := (List.getElem?_eq_some_iff.mp h1).1
      simpa using this
    rw [List.getElem?_set_self hlt] at h1
    cases h1
    exact h.2.2 (j, v) List.mem_cons_self
  · rw [List.getElem?_set_ne (Ne.symm hj)] at h1
    refine h.2.2 (j, x) (List.mem_cons_of_mem _ (List.mem_filter.mpr ⟨zal_mem.mpr ⟨h1, h2⟩, ?_⟩))
    have hc : ¬ (j + 1 = i ∧ x.category = 2) := fun q => zok_cat ho h1 q.1 q.2
    simp only [Bool.and_eq_true, Bool.not_eq_true', beq_eq_false_iff_ne, ne_eq, Bool.and_eq_false_iff, hj, not_false_eq_true, true_and]
    by_cases h3 : j + 1 = i
    · exact Or.inr fun q => hc ⟨h3, q⟩
    · exact Or.inl h3
theorem zst2 {ls : Array Slot} {nL i : Nat} {lv : List Value} {v : Value} (h : lv_has ls nL ((i, v) :: (zal lv).filter (fun q => !(q.1 == i) && (!(q.1 == i + 1) && !(q.1 + 1 == i && q.2.category == 2))))) (ho : zok lv i = true) : lv_has ls nL (zal ((lv.set i v).set (i + 1) .null)) := by
  refine ⟨h.1, h.2.1, ?_⟩
  rintro ⟨j, x⟩ hx
  obtain ⟨h1, h2⟩ := zal_mem.mp hx
  by_cases hk : j = i + 1
  · subst hk
    have hlt : i + 1 < (lv.set i v).length := by
      have := (List.getElem?_eq_some_iff.mp h1).1
      simpa using this
    rw [List.getElem?_set_self hlt] at h1
    cases h1
    cases h2
  · rw [List.getElem?_set_ne (Ne.symm hk)] at h1
    by_cases hj : j = i
    · subst hj
      have hlt : j < lv.length := by
        have := (List.getElem?_eq_some_iff.mp h1).1
        simpa using this
      rw [List.getElem?_set_self hlt] at h1
      cases h1
      exact h.2.2 (j, v) List.mem_cons_self
    · rw [List.getElem?_set_ne (Ne.symm hj)] at h1
      refine h.2.2 (j, x) (List.mem_cons_of_mem _ (List.mem_filter.mpr ⟨zal_mem.mpr ⟨h1, h2⟩, ?_⟩))
      have hc : ¬ (j + 1 = i ∧ x.category = 2) := fun q => zok_cat ho h1 q.1 q.2
      simp only [Bool.and_eq_true, Bool.not_eq_true', beq_eq_false_iff_ne, ne_eq, Bool.and_eq_false_iff, hj, hk, not_false_eq_true, true_and]
      by_cases h3 : j + 1 = i
      · exact Or.inr fun q => hc ⟨h3, q⟩
      · exact Or.inl h3
/-- the locals at a method's entry -/
def zen0 (vs : List Value) : List Value := match vs with
  | [] => []
  | v :: vs => if v.category = 2 then v :: .null :: zen0 vs else v :: zen0 vs
def zen (vs : List Value) (n : Nat) : List Value := zen0 vs ++ List.replicate (n - (zen0 vs).length) .null
theorem zen0_in (vs : List Value) : ∀ (k j : Nat) (v : Value), (zen0 vs)[j]? = some v → znl v = false → (k + j, v) ∈ lv_args k vs := by
  induction vs with
  | nil => intro k j v h; simp [zen0] at h
  | cons x vs ih =>
    intro k j v h hn
    unfold zen0 at h
    unfold lv_args
    by_cases hc : x.category = 2
    · rw [if_pos hc] at h ⊢
      match j, h with
      | 0, h => cases h; exact List.mem_cons_self
      | 1, h => cases h; cases hn
      | j + 2, h =>
        have := ih (k + 2) j v h hn
        rw [show k + (j + 2) = k + 2 + j by omega]
        exact List.mem_cons_of_mem _ this
    · rw [if_neg hc] at h ⊢
      match j, h with
      | 0, h => cases h; exact List.mem_cons_self
      | j + 1, h =>
        have := ih (k + 1) j v h hn
        rw [show k + (j + 1) = k + 1 + j by omega]
        exact List.mem_cons_of_mem _ this
theorem zen_has {ls : Array Slot} {n : Nat} {vs : List Value} (h : lv_has ls n (lv_args 0 vs)) : lv_has ls n (zal (zen vs n)) := by
  refine ⟨h.1, h.2.1, ?_⟩
  rintro ⟨j, x⟩ hx
  obtain ⟨h1, h2⟩ := zal_mem.mp hx
  unfold zen at h1
  by_cases hj : j < (zen0 vs).length
  · rw [List.getElem?_append_left hj] at h1
    have := zen0_in vs 0 j x h1 h2
    rw [Nat.zero_add] at this
    exact h.2.2 _ this
  · rw [List.getElem?_append_right (by omega)] at h1
    have := List.eq_of_mem_replicate (List.mem_of_getElem? h1)
    rw [this] at h2
    cases h2
/-! numbers -/
theorem zto {n : Int} (h : zr n) : (Int32.ofInt n).toInt = n := Int32.toInt_ofInt_of_le (by have := h.1; omega) (by have := h.2; omega)
theorem zi_add (x y : Int) : Int32.ofInt x + Int32.ofInt y = Int32.ofInt (x + y) := (Int32.ofInt_add x y).symm
theorem zi_sub (x y : Int) : Int32.ofInt x - Int32.ofInt y = Int32.ofInt (x - y) := (Int32.ofInt_sub x y).symm
theorem zi_mul (x y : Int) : Int32.ofInt x * Int32.ofInt y = Int32.ofInt (x * y) := (Int32.ofInt_mul x y).symm
theorem zi_le {x y : Int} (hx : zr x) (hy : zr y) : Int32.ofInt x ≤ Int32.ofInt y ↔ x ≤ y := by rw [Int32.le_iff_toInt_le, zto hx, zto hy]
theorem zi_lt {x y : Int} (hx : zr x) (hy : zr y) : Int32.ofInt x < Int32.ofInt y ↔ x < y := by rw [Int32.lt_iff_toInt_lt, zto hx, zto hy]
theorem zi_eq {x y : Int} (hx : zr x) (hy : zr y) : Int32.ofInt x = Int32.ofInt y ↔ x = y := by rw [← Int32.toInt_inj, zto hx, zto hy]
theorem zi_0 : (0 : Int32) = Int32.ofInt 0 := by decide
theorem zr_0 : zr 0 := ⟨by omega, by omega⟩
theorem zin {i : Int} {n : Nat} (h : 0 ≤ i ∧ i < n ∧ i ≤ 2147483647) : vp_in (Int32.ofInt i) n ∧ ((Int32.ofInt i).toNatClampNeg : Int) = i := by
  have hr : zr i := ⟨by omega, h.2.2⟩
  have hc : ((Int32.ofInt i).toNatClampNeg : Int) = i := by
    have h1 : (Int32.ofInt i).toNatClampNeg = (Int32.ofInt i).toInt.toNat := rfl
    rw [h1, zto hr]
    omega
  refine ⟨fun q => ?_, hc⟩
  rcases q with q | q
  · rw [zi_0, zi_lt hr zr_0] at q
    omega
  · omega
