/-! ===== what a method of the reference may change: whole rows (places behind a), single fields ===== -/
def zMs (a : Nat) (A : List Nat) (S : List Int) (P : List (Nat × Int)) (c : Nat) (k : Int) : Prop := (∃ o : Nat, A.contains o = true ∧ c = a + o) ∨ (c = a ∧ S.contains k = true) ∨ (∃ o : Nat, P.contains (o, k) = true ∧ c = a + o)
def zMd (a : Nat) (A : List Nat) (S : List Int) (P : List (Nat × Int)) (M M2 : zMm) : Prop := ∀ c k, ¬ zMs a A S P c k → M2 c k = M c k
theorem zMd.rf {a : Nat} {A : List Nat} {S : List Int} {P : List (Nat × Int)} {M : zMm} : zMd a A S P M M := fun _ _ _ => rfl
theorem zMd.upA {a o : Nat} {A : List Nat} {S : List Int} {P : List (Nat × Int)} {M0 M M2 : zMm} {i x : Int} (h : zMd a A S P M0 M) (e : M2 = zup M (a + o) i x) (ho : A.contains o = true) : zMd a A S P M0 M2 := fun c k q => (zup_n e (fun z => q (Or.inl ⟨o, ho, z.1⟩))).trans (h c k q)
theorem zMd.upS {a : Nat} {A : List Nat} {S : List Int} {P : List (Nat × Int)} {M0 M M2 : zMm} {i x : Int} (h : zMd a A S P M0 M) (e : M2 = zup M a i x) (ho : S.contains i = true) : zMd a A S P M0 M2 := fun c k q => (zup_n e (fun z => q (Or.inr (Or.inl ⟨z.1, by rw [z.2]; exact ho⟩)))).trans (h c k q)
theorem zMd.upP {a o : Nat} {A : List Nat} {S : List Int} {P : List (Nat × Int)} {M0 M M2 : zMm} {i x : Int} (h : zMd a A S P M0 M) (e : M2 = zup M (a + o) i x) (ho : P.contains (o, i) = true) : zMd a A S P M0 M2 := fun c k q => (zup_n e (fun z => q (Or.inr (Or.inr ⟨o, by rw [z.2]; exact ho, z.1⟩)))).trans (h c k q)
theorem zMs.mono {a : Nat} {A A1 : List Nat} {S S1 : List Int} {P P1 : List (Nat × Int)} {c : Nat} {k : Int} (h : zMs a A1 S1 P1 c k) (hA : (A1.all fun o => A.contains o) = true) (hS : (S1.all fun o => S.contains o) = true) (hP : (P1.all fun o => P.contains o || A.contains o.1) = true) : zMs a A S P c k := by
  rcases h with ⟨o, h1, h2⟩ | ⟨h1, h2⟩ | ⟨o, h1, h2⟩
  · exact Or.inl ⟨o, List.all_eq_true.mp hA o (List.contains_iff_mem.mp h1), h2⟩
  · exact Or.inr (Or.inl ⟨h1, List.all_eq_true.mp hS k (List.contains_iff_mem.mp h2)⟩)
  · have := List.all_eq_true.mp hP (o, k) (List.contains_iff_mem.mp h1)
    rcases Bool.or_eq_true_iff.mp this with q | q
    · exact Or.inr (Or.inr ⟨o, q, h2⟩)
    · exact Or.inl ⟨o, q, h2⟩
theorem zMd.tr {a : Nat} {A A1 : List Nat} {S S1 : List Int} {P P1 : List (Nat × Int)} {M0 M M2 : zMm} (h : zMd a A S P M0 M) (h2 : zMd a A1 S1 P1 M M2) (hA : (A1.all fun o => A.contains o) = true) (hS : (S1.all fun o => S.contains o) = true) (hP : (P1.all fun o => P.contains o || A.contains o.1) = true) : zMd a A S P M0 M2 := fun c k q => (h2 c k (fun z => q (z.mono hA hS hP))).trans (h c k q)
theorem zMd.tre {a : Nat} {A : List Nat} {S : List Int} {P : List (Nat × Int)} {M0 M M2 : zMm} (h : zMd a A S P M0 M) (h2 : M2 = M) : zMd a A S P M0 M2 := h2 ▸ h
theorem zMd.getW {a : Nat} {A : List Nat} {S : List Int} {P : List (Nat × Int)} {M M2 : zMm} {i : Int} (h : zMd a A S P M M2) (ho : A.contains 18 = false) (hp : (P.all fun q => decide (q.2 < 199)) = true) (hi : 199 ≤ i) : M2 (a + 18) i = M (a + 18) i := h _ _ (by
  rintro (⟨q, h1, h2⟩ | ⟨h1, h2⟩ | ⟨q, h1, h2⟩)
  · have : q = 18 := by omega
    subst this
    rw [ho] at h1
    cases h1
  · omega
  · have := of_decide_eq_true (List.all_eq_true.mp hp (q, i) (List.contains_iff_mem.mp h1))
    have h3 : i < 199 := this
    omega)
theorem zMd.getP {a o : Nat} {A : List Nat} {S : List Int} {P : List (Nat × Int)} {M M2 : zMm} {i : Int} (h : zMd a A S P M M2) (ho : A.contains o = false) (h0 : decide (0 < o) = true) (hp : P.contains (o, i) = false) : M2 (a + o) i = M (a + o) i := h _ _ (by
  have h0 := of_decide_eq_true h0
  rintro (⟨q, h1, h2⟩ | ⟨h1, h2⟩ | ⟨q, h1, h2⟩)
  · have : q = o := by omega
    subst this
    rw [ho] at h1
    cases h1
  · omega
  · have : q = o := by omega
    subst this
    rw [hp] at h1
    cases h1)
theorem zMd.getA {a o : Nat} {A : List Nat} {S : List Int} {P : List (Nat × Int)} {M M2 : zMm} {i : Int} (h : zMd a A S P M M2) (ho : A.contains o = false) (h0 : decide (0 < o) = true) (hp : (P.all fun q => !(q.1 == o)) = true) : M2 (a + o) i = M (a + o) i := h.getP ho h0 (by
  cases q : P.contains (o, i) with
  | false => rfl
  | true =>
    have := List.all_eq_true.mp hp (o, i) (List.contains_iff_mem.mp q)
    simp at this)
theorem zMd.getS {a : Nat} {A : List Nat} {S : List Int} {P : List (Nat × Int)} {M M2 : zMm} {k : Int} (h : zMd a A S P M M2) (hk : S.contains k = false) (h0 : (A.contains 0 || P.any fun q => q.1 == 0) = false) : M2 a k = M a k := h _ _ (by
  have h0 := Bool.or_eq_false_iff.mp h0
  rintro (⟨q, h1, h2⟩ | ⟨h1, h2⟩ | ⟨q, h1, h2⟩)
  · have : q = 0 := by omega
    subst this
    rw [h0.1] at h1
    cases h1
  · rw [hk] at h2
    cases h2
  · have : q = 0 := by omega
    subst this
    have h3 := h0.2
    rw [List.any_eq_true.mpr ⟨(0, k), List.contains_iff_mem.mp h1, rfl⟩] at h3
    cases h3)
theorem zMd.reg {a n : Nat} {A : List Nat} {S : List Int} {P : List (Nat × Int)} {M M2 : zMm} (h : zMd a A S P M M2) (hA : (A.all fun o => decide (o < n)) = true) (hP : (P.all fun o => decide (o.1 < n)) = true) (hn : 0 < n) : zKr a n M M2 := fun c k q => h c k (by
  rintro (⟨o, h1, h2⟩ | ⟨h1, h2⟩ | ⟨o, h1, h2⟩)
  · have := of_decide_eq_true (List.all_eq_true.mp hA o (List.contains_iff_mem.mp h1))
    omega
  · omega
  · have h3 : o < n := of_decide_eq_true (List.all_eq_true.mp hP (o, k) (List.contains_iff_mem.mp h1))
    omega)
section STATICS
variable {w : zWp} {p : Program} {e : Env} {d mc ms : Nat} {s : State} {m : MethodId} {args : Array Value} {below : List Frame} {meth : Method} {c : Code} {y : MethodName} {b : ByteArray} {nL : Nat} {ret : Option FieldType} {T0 T : zTl} {M : zMm} {J : zJm} {R : zRm'} {Post : Option Value → zSg → Prop} {pc n : Nat} {lv st : List Value} {σ : zSg}
def zTs : List (String × Nat × Nat) := [("HideSetsModel", 327, 201), ("HideSetsModel", 318, 200)]
def zTn : List (Nat × Nat) := [(200, 7), (201, 53)]
theorem q_gst (C : zCx w p s m args meth c y b nL ret) {ix k : Nat} (hd : decode b pc = .ok (.getstatic ix, 3)) (hn : pc + 3 = n) (hq : (y.cls, ix, k) ∈ zTs) (kk : zK w p e d mc ms s m args below meth c nL T0 Post n lv (.ref (w.2.2.2.2 k) :: st) σ) : zK w p e d mc ms s m args below meth c nL T0 Post pc lv st σ := fun ls H locs q n2 h1 h2 hl hW hS => by
  have hz : (y.cls = RX12 ∧ ix = 327 ∧ k = 201) ∨ (y.cls = RX12 ∧ ix = 318 ∧ k = 200) := by simpa [zTs, RX12] using hq
  have hc := C.2.2.2.1
  have hk := kk ls H locs q n2 h1 h2 hl hW hS
  rw [← hn] at hk
  rcases hz with ⟨e1, e2, e3⟩ | ⟨e1, e2, e3⟩
  · subst e2 e3
    rw [e1] at hc
    exact va_gets (own := RX12) (ref := RX12) C.1 C.2.1 C.2.2.2.2.2.2.2.2.2.1.1.2.1 hS hc (C.2.2.2.2.1 (.fieldLink RX12 327 RX12 "WORDS" "[B") (zt8 178 rfl rfl)) (fun _ h => h) hd hk
  · subst e2 e3
    rw [e1] at hc
    exact va_gets (own := RX12) (ref := RX12) C.1 C.2.1 C.2.2.2.2.2.2.2.2.2.1.1.1 hS hc (C.2.2.2.2.1 (.fieldLink RX12 318 RX12 "DEFINED" "[B") (zt8 112 rfl rfl)) (fun _ h => h) hd hk
theorem q_alenT (C : zCx w p s m args meth c y b nL ret) {k N : Nat} (hd : decode b pc = .ok (.arraylength, 1)) (hn : pc + 1 = n) (hk : (k, N) ∈ zTn) (kk : zK w p e d mc ms s m args below meth c nL T0 Post n lv (zi N :: st) σ) : zK w p e d mc ms s m args below meth c nL T0 Post pc lv (.ref (w.2.2.2.2 k) :: st) σ := fun ls H locs q n2 h1 h2 hl hW hS => by
  have hz : (k = 200 ∧ N = 7) ∨ (k = 201 ∧ N = 53) := by simpa [zTn] using hk
  have hh := kk ls H locs q n2 h1 h2 hl hW hS
  rw [← hn] at hh
  rcases hz with ⟨e1, e2⟩ | ⟨e1, e2⟩
  · subst e1 e2
    exact va_tlen C.1 C.2.1 C.2.2.2.2.2.2.2.2.2.1.1.2.2.1 hS (v := Int32.ofInt ((7 : Nat) : Int)) (by decide) hd hh
  · subst e1 e2
    exact va_tlen C.1 C.2.1 C.2.2.2.2.2.2.2.2.2.1.1.2.2.2.1 hS (v := Int32.ofInt ((53 : Nat) : Int)) (by decide) hd hh
theorem zTbl_r {l : List Int32} (h : (l.all fun x => decide (-128 ≤ x.toInt ∧ x.toInt ≤ 127)) = true) (j : Nat) : -128 ≤ (l.getD j 0).toInt ∧ (l.getD j 0).toInt ≤ 127 := by
  by_cases q : j < l.length
  · have e : l.getD j 0 = l[j] := by rw [List.getD_eq_getElem?_getD, List.getElem?_eq_getElem q]; rfl
    rw [e]
    exact of_decide_eq_true (List.all_eq_true.mp h _ (List.getElem_mem q))
  · have e : l.getD j 0 = 0 := by rw [List.getD_eq_getElem?_getD, List.getElem?_eq_none (by omega)]; rfl
    rw [e]
    decide
theorem q_baldT (C : zCx w p s m args meth c y b nL ret) {k N : Nat} {i : Int} (hd : decode b pc = .ok (.baload, 1)) (hn : pc + 1 = n) (hk : (k, N) ∈ zTn) (hi : 0 ≤ i ∧ i < N) (kk : ∀ v : Int, (-128 ≤ v ∧ v ≤ 127) → zK w p e d mc ms s m args below meth c nL T0 Post n lv (zi v :: st) σ) : zK w p e d mc ms s m args below meth c nL T0 Post pc lv (zi i :: .ref (w.2.2.2.2 k) :: st) σ := fun ls H locs q n2 h1 h2 hl hW hS => by
  have hz : (k = 200 ∧ N = 7) ∨ (k = 201 ∧ N = 53) := by simpa [zTn] using hk
  rcases hz with ⟨e1, e2⟩ | ⟨e1, e2⟩
  · subst e1 e2
    have hh := kk _ (zTbl_r (l := zDef) (by decide) (Int32.ofInt i).toNatClampNeg) ls H locs q n2 h1 h2 hl hW hS
    rw [← hn, ← zback] at hh
    exact va_tb C.1 C.2.1 C.2.2.2.2.2.2.2.2.2.1.1.2.2.1 hS (zin (n := 7) ⟨hi.1, hi.2, by omega⟩).1 rfl hd hh
  · subst e1 e2
    have hh := kk _ (zTbl_r (l := zWrd) (by decide) (Int32.ofInt i).toNatClampNeg) ls H locs q n2 h1 h2 hl hW hS
    rw [← hn, ← zback] at hh
    exact va_tb C.1 C.2.1 C.2.2.2.2.2.2.2.2.2.1.1.2.2.2.1 hS (zin (n := 53) ⟨hi.1, hi.2, by omega⟩).1 rfl hd hh
end STATICS
def zwG (k : Int) : Nat × Int × Int :=
  if 0 ≤ k ∧ k < 1 then (40, 0, 12) else
  if 1 ≤ k ∧ k < 175 then (40, (-2147483648), 2147483647) else
  if 175 ≤ k ∧ k < 187 then (40, 0, 30) else
  if 187 ≤ k ∧ k < 199 then (40, 0, 1) else
  if 199 ≤ k ∧ k < 211 then (40, (-1), 4) else
  if 211 ≤ k ∧ k < 223 then (40, 0, 20) else
  if 223 ≤ k ∧ k < 259 then (40, (-2147483648), 2147483647) else
  if 259 ≤ k ∧ k < 499 then (40, 0, 3) else
  if 499 ≤ k ∧ k < 739 then (40, 0, 30) else
  if 739 ≤ k ∧ k < 979 then (40, (-2147483648), 2147483647) else
  if 979 ≤ k ∧ k < 1219 then (40, (-1), 3) else
  (40, 0, 0)
theorem zwG_0 {k : Int} (h : 0 ≤ k ∧ k < 1) : zwG k = (40, 0, 12) := by
  unfold zwG
  rw [if_pos h]
theorem zwG_1 {k : Int} (h : 1 ≤ k ∧ k < 175) : zwG k = (40, (-2147483648), 2147483647) := by
  unfold zwG
  rw [if_neg (by omega)]
  rw [if_pos h]
theorem zwG_175 {k : Int} (h : 175 ≤ k ∧ k < 187) : zwG k = (40, 0, 30) := by
  unfold zwG
  rw [if_neg (by omega)]
  rw [if_neg (by omega)]
  rw [if_pos h]
theorem zwG_187 {k : Int} (h : 187 ≤ k ∧ k < 199) : zwG k = (40, 0, 1) := by
  unfold zwG
  rw [if_neg (by omega)]
  rw [if_neg (by omega)]
  rw [if_neg (by omega)]
  rw [if_pos h]
theorem zwG_199 {k : Int} (h : 199 ≤ k ∧ k < 211) : zwG k = (40, (-1), 4) := by
  unfold zwG
  rw [if_neg (by omega)]
  rw [if_neg (by omega)]
  rw [if_neg (by omega)]
  rw [if_neg (by omega)]
  rw [if_pos h]
theorem zwG_211 {k : Int} (h : 211 ≤ k ∧ k < 223) : zwG k = (40, 0, 20) := by
  unfold zwG
  rw [if_neg (by omega)]
  rw [if_neg (by omega)]
  rw [if_neg (by omega)]
  rw [if_neg (by omega)]
  rw [if_neg (by omega)]
  rw [if_pos h]
theorem zwG_223 {k : Int} (h : 223 ≤ k ∧ k < 259) : zwG k = (40, (-2147483648), 2147483647) := by
  unfold zwG
  rw [if_neg (by omega)]
  rw [if_neg (by omega)]
  rw [if_neg (by omega)]
  rw [if_neg (by omega)]
  rw [if_neg (by omega)]
  rw [if_neg (by omega)]
  rw [if_pos h]
theorem zwG_259 {k : Int} (h : 259 ≤ k ∧ k < 499) : zwG k = (40, 0, 3) := by
  unfold zwG
  rw [if_neg (by omega)]
  rw [if_neg (by omega)]
  rw [if_neg (by omega)]
  rw [if_neg (by omega)]
  rw [if_neg (by omega)]
  rw [if_neg (by omega)]
  rw [if_neg (by omega)]
  rw [if_pos h]
theorem zwG_499 {k : Int} (h : 499 ≤ k ∧ k < 739) : zwG k = (40, 0, 30) := by
  unfold zwG
  rw [if_neg (by omega)]
  rw [if_neg (by omega)]
  rw [if_neg (by omega)]
  rw [if_neg (by omega)]
  rw [if_neg (by omega)]
  rw [if_neg (by omega)]
  rw [if_neg (by omega)]
  rw [if_neg (by omega)]
  rw [if_pos h]
theorem zwG_739 {k : Int} (h : 739 ≤ k ∧ k < 979) : zwG k = (40, (-2147483648), 2147483647) := by
  unfold zwG
  rw [if_neg (by omega)]
  rw [if_neg (by omega)]
  rw [if_neg (by omega)]
  rw [if_neg (by omega)]
  rw [if_neg (by omega)]
  rw [if_neg (by omega)]
  rw [if_neg (by omega)]
  rw [if_neg (by omega)]
  rw [if_neg (by omega)]
  rw [if_pos h]
theorem zwG_979 {k : Int} (h : 979 ≤ k ∧ k < 1219) : zwG k = (40, (-1), 3) := by
  unfold zwG
  rw [if_neg (by omega)]
  rw [if_neg (by omega)]
  rw [if_neg (by omega)]
  rw [if_neg (by omega)]
  rw [if_neg (by omega)]
  rw [if_neg (by omega)]
  rw [if_neg (by omega)]
  rw [if_neg (by omega)]
  rw [if_neg (by omega)]
  rw [if_neg (by omega)]
  rw [if_pos h]
theorem zwG_t (k : Int) : (zwG k).1 = 40 := by
  unfold zwG
  repeat (first | rfl | split)
theorem zwG_e (k : Int) : zwG k = (40, (zwG k).2.1, (zwG k).2.2) := by
  have h := zwG_t k
  rw [← h]
theorem zwG_z (k : Int) : (zwG k).2.1 ≤ 0 ∧ 0 ≤ (zwG k).2.2 := by
  unfold zwG
  repeat (first | (constructor <;> decide) | split)
def zfG (k : Int) : Nat × Int × Int :=
  if 0 ≤ k ∧ k < 4 then (40, 0, 1) else
  if 4 ≤ k ∧ k < 8 then (40, 0, 40) else
  if 8 ≤ k ∧ k < 168 then (40, 0, 440) else
  if 168 ≤ k ∧ k < 169 then (40, 0, 3) else
  if 169 ≤ k ∧ k < 172 then (40, 0, 30) else
  if 172 ≤ k ∧ k < 173 then (40, 0, 7) else
  (40, 0, 0)
theorem zfG_0 {k : Int} (h : 0 ≤ k ∧ k < 4) : zfG k = (40, 0, 1) := by
  unfold zfG
  rw [if_pos h]
theorem zfG_4 {k : Int} (h : 4 ≤ k ∧ k < 8) : zfG k = (40, 0, 40) := by
  unfold zfG
  rw [if_neg (by omega)]
  rw [if_pos h]
theorem zfG_8 {k : Int} (h : 8 ≤ k ∧ k < 168) : zfG k = (40, 0, 440) := by
  unfold zfG
  rw [if_neg (by omega)]
  rw [if_neg (by omega)]
  rw [if_pos h]
theorem zfG_168 {k : Int} (h : 168 ≤ k ∧ k < 169) : zfG k = (40, 0, 3) := by
  unfold zfG
  rw [if_neg (by omega)]
  rw [if_neg (by omega)]
  rw [if_neg (by omega)]
  rw [if_pos h]
theorem zfG_169 {k : Int} (h : 169 ≤ k ∧ k < 172) : zfG k = (40, 0, 30) := by
  unfold zfG
  rw [if_neg (by omega)]
  rw [if_neg (by omega)]
  rw [if_neg (by omega)]
  rw [if_neg (by omega)]
  rw [if_pos h]
theorem zfG_172 {k : Int} (h : 172 ≤ k ∧ k < 173) : zfG k = (40, 0, 7) := by
  unfold zfG
  rw [if_neg (by omega)]
  rw [if_neg (by omega)]
  rw [if_neg (by omega)]
  rw [if_neg (by omega)]
  rw [if_neg (by omega)]
  rw [if_pos h]
theorem zfG_t (k : Int) : (zfG k).1 = 40 := by
  unfold zfG
  repeat (first | rfl | split)
theorem zfG_e (k : Int) : zfG k = (40, (zfG k).2.1, (zfG k).2.2) := by
  have h := zfG_t k
  rw [← h]
theorem zfG_z (k : Int) : (zfG k).2.1 ≤ 0 ∧ 0 ≤ (zfG k).2.2 := by
  unfold zfG
  repeat (first | (constructor <;> decide) | split)
def zkG (k : Int) : Nat × Int × Int := if k < 173 then zfG k else zfG (k - 173)
theorem zkG_e {k i : Int} (hk : 0 ≤ k ∧ k ≤ 1) (hi : 0 ≤ i ∧ i < 173) : zkG (173 * k + i) = (40, (zfG i).2.1, (zfG i).2.2) := by
  unfold zkG
  by_cases h : k = 0
  · subst h
    rw [if_pos (by omega), show 173 * (0 : Int) + i = i by omega]
    exact zfG_e i
  · rw [if_neg (by omega), show 173 * k + i - 173 = i by omega]
    exact zfG_e i
def zModel_0 (T : zTl) (F : zRm') (G : zGt) (a : Nat) : Prop :=
  T[a]? = some (12, 119) ∧
  G a 0 = (40, 0, 1) ∧
  F a 1 = some (a + 1) ∧
  T[a + 1]? = some (51, 440) ∧
  (∀ k, G (a + 1) k = (40, (-128), 127)) ∧
  G a 2 = (40, 0, 440) ∧
  G a 3 = (40, 0, 440) ∧
  F a 4 = some (a + 2) ∧
  T[a + 2]? = some (50, 173) ∧
  (∀ k, G (a + 2) k = zfG k) ∧
  F a 5 = some (a + 3) ∧
  T[a + 3]? = some (50, 346)
def zModel_1 (T : zTl) (F : zRm') (G : zGt) (a : Nat) : Prop :=
  (∀ k, G (a + 3) k = zkG k) ∧
  F a 6 = some (a + 4) ∧
  T[a + 4]? = some (51, 1690) ∧
  (∀ k, G (a + 4) k = (40, (-128), 127)) ∧
  F a 7 = some (a + 5) ∧
  T[a + 5]? = some (51, 3380) ∧
  (∀ k, G (a + 5) k = (40, (-128), 127)) ∧
  F a 8 = some (a + 6) ∧
  T[a + 6]? = some (52, 2) ∧
  (∀ k, G (a + 6) k = (40, 0, 1)) ∧
  G a 9 = (40, 0, 1) ∧
  F a 10 = some (a + 7)
def zModel_2 (T : zTl) (F : zRm') (G : zGt) (a : Nat) : Prop :=
  T[a + 7]? = some (50, 8) ∧
  (∀ k, G (a + 7) k = (40, 0, 440)) ∧
  G a 11 = (40, 0, 40) ∧
  F a 12 = some (a + 8) ∧
  T[a + 8]? = some (51, 30) ∧
  (∀ k, G (a + 8) k = (40, (-128), 127)) ∧
  G a 13 = (40, 0, 30) ∧
  F a 14 = some (a + 9) ∧
  T[a + 9]? = some (50, 18600) ∧
  (∀ k, G (a + 9) k = (40, 0, 3)) ∧
  F a 15 = some (a + 10) ∧
  T[a + 10]? = some (50, 18600)
def zModel_3 (T : zTl) (F : zRm') (G : zGt) (a : Nat) : Prop :=
  (∀ k, G (a + 10) k = (40, (-7531), 61970)) ∧
  F a 16 = some (a + 11) ∧
  T[a + 11]? = some (50, 18600) ∧
  (∀ k, G (a + 11) k = (40, 0, 30)) ∧
  F a 17 = some (a + 12) ∧
  T[a + 12]? = some (50, 18600) ∧
  (∀ k, G (a + 12) k = (40, (-2147483648), 2147483647)) ∧
  F a 18 = some (a + 13) ∧
  T[a + 13]? = some (50, 18600) ∧
  (∀ k, G (a + 13) k = (40, (-2147483648), 2147483647)) ∧
  F a 19 = some (a + 14) ∧
  T[a + 14]? = some (50, 18600)
def zModel_4 (T : zTl) (F : zRm') (G : zGt) (a : Nat) : Prop :=
  (∀ k, G (a + 14) k = (40, (-2147483648), 2147483647)) ∧
  F a 20 = some (a + 15) ∧
  T[a + 15]? = some (50, 18600) ∧
  (∀ k, G (a + 15) k = (40, (-2147483648), 2147483647)) ∧
  F a 21 = some (a + 16) ∧
  T[a + 16]? = some (50, 18600) ∧
  (∀ k, G (a + 16) k = (40, (-2147483648), 2147483647)) ∧
  F a 22 = some (a + 17) ∧
  T[a + 17]? = some (51, 62000) ∧
  (∀ k, G (a + 17) k = (40, (-128), 127)) ∧
  G a 23 = (40, 0, 440) ∧
  G a 24 = (40, 0, 61900)
def zModel_5 (T : zTl) (F : zRm') (G : zGt) (a : Nat) : Prop :=
  G a 25 = (40, 0, 3500) ∧
  G a 26 = (40, 0, 14000) ∧
  G a 27 = (40, 0, 440) ∧
  G a 28 = (40, (-1), 3) ∧
  G a 29 = (40, (-1), 39) ∧
  F a 30 = some (a + 18) ∧
  T[a + 18]? = some (50, 1219) ∧
  (∀ k, G (a + 18) k = zwG k) ∧
  F a 31 = some (a + 19) ∧
  T[a + 19]? = some (50, 1219) ∧
  (∀ k, G (a + 19) k = zwG k) ∧
  F a 32 = some (a + 20)
def zModel_6 (T : zTl) (F : zRm') (G : zGt) (a : Nat) : Prop :=
  T[a + 20]? = some (51, 7560) ∧
  (∀ k, G (a + 20) k = (40, (-128), 127)) ∧
  F a 33 = some (a + 21) ∧
  T[a + 21]? = some (51, 7560) ∧
  (∀ k, G (a + 21) k = (40, (-128), 127)) ∧
  G a 34 = (40, 0, 3) ∧
  F a 35 = some (a + 22) ∧
  T[a + 22]? = some (51, 30) ∧
  (∀ k, G (a + 22) k = (40, (-128), 127)) ∧
  F a 36 = some (a + 23) ∧
  T[a + 23]? = some (50, 4) ∧
  (∀ k, G (a + 23) k = (40, 0, 439))
def zModel_7 (T : zTl) (F : zRm') (G : zGt) (a : Nat) : Prop :=
  G a 37 = (40, 0, 4) ∧
  F a 38 = some (a + 24) ∧
  T[a + 24]? = some (50, 256) ∧
  (∀ k, G (a + 24) k = (40, 0, 194000)) ∧
  F a 39 = some (a + 25) ∧
  T[a + 25]? = some (50, 256) ∧
  (∀ k, G (a + 25) k = (40, 0, 194000)) ∧
  F a 40 = some (a + 26) ∧
  T[a + 26]? = some (50, 256) ∧
  (∀ k, G (a + 26) k = (40, 0, 1)) ∧
  F a 41 = some (a + 27) ∧
  T[a + 27]? = some (50, 102)
def zModel_8 (T : zTl) (F : zRm') (G : zGt) (a : Nat) : Prop :=
  (∀ k, G (a + 27) k = (40, 0, 256)) ∧
  F a 42 = some (a + 28) ∧
  T[a + 28]? = some (50, 102) ∧
  (∀ k, G (a + 28) k = (40, (-1), 11)) ∧
  F a 43 = some (a + 29) ∧
  T[a + 29]? = some (50, 102) ∧
  (∀ k, G (a + 29) k = (40, 0, 3499)) ∧
  F a 44 = some (a + 30) ∧
  T[a + 30]? = some (50, 102) ∧
  (∀ k, G (a + 30) k = (40, (-2147483648), 2147483647)) ∧
  F a 45 = some (a + 31) ∧
  T[a + 31]? = some (50, 102)
def zModel_9 (T : zTl) (F : zRm') (G : zGt) (a : Nat) : Prop :=
  (∀ k, G (a + 31) k = (40, 0, 22)) ∧
  F a 46 = some (a + 32) ∧
  T[a + 32]? = some (50, 102) ∧
  (∀ k, G (a + 32) k = (40, 0, 194000)) ∧
  F a 47 = some (a + 33) ∧
  T[a + 33]? = some (50, 510) ∧
  (∀ k, G (a + 33) k = (40, 0, 194000)) ∧
  F a 48 = some (a + 34) ∧
  T[a + 34]? = some (50, 102) ∧
  (∀ k, G (a + 34) k = (40, 0, 2040)) ∧
  F a 49 = some (a + 35) ∧
  T[a + 35]? = some (50, 102)
def zModel_10 (T : zTl) (F : zRm') (G : zGt) (a : Nat) : Prop :=
  (∀ k, G (a + 35) k = (40, 0, 14000)) ∧
  F a 50 = some (a + 36) ∧
  T[a + 36]? = some (50, 102) ∧
  (∀ k, G (a + 36) k = (40, 0, 1000000)) ∧
  F a 51 = some (a + 37) ∧
  T[a + 37]? = some (50, 2040) ∧
  (∀ k, G (a + 37) k = (40, 0, 14000)) ∧
  F a 52 = some (a + 38) ∧
  T[a + 38]? = some (50, 2040) ∧
  (∀ k, G (a + 38) k = (40, 0, 200)) ∧
  F a 53 = some (a + 39) ∧
  T[a + 39]? = some (50, 2040)
def zModel_11 (T : zTl) (F : zRm') (G : zGt) (a : Nat) : Prop :=
  (∀ k, G (a + 39) k = (40, 0, 1)) ∧
  F a 54 = some (a + 40) ∧
  T[a + 40]? = some (50, 194000) ∧
  (∀ k, G (a + 40) k = (40, 0, 3499)) ∧
  F a 55 = some (a + 41) ∧
  T[a + 41]? = some (50, 3500) ∧
  (∀ k, G (a + 41) k = (40, 0, 3499)) ∧
  F a 56 = some (a + 42) ∧
  T[a + 42]? = some (50, 140) ∧
  (∀ k, G (a + 42) k = (40, 0, 14000)) ∧
  G a 57 = (40, (-1), 101) ∧
  G a 58 = (40, 0, 256)
def zModel_12 (T : zTl) (F : zRm') (G : zGt) (a : Nat) : Prop :=
  G a 59 = (40, 0, 194000) ∧
  G a 60 = (40, 0, 2040) ∧
  G a 61 = (40, 0, 3500) ∧
  G a 62 = (40, 0, 100) ∧
  G a 63 = (40, 0, 440) ∧
  G a 64 = (40, 0, 440) ∧
  G a 65 = (40, 0, 1) ∧
  F a 66 = some (a + 43) ∧
  T[a + 43]? = some (50, 11000) ∧
  (∀ k, G (a + 43) k = (40, (-2147483648), 2147483647)) ∧
  F a 67 = some (a + 44) ∧
  T[a + 44]? = some (50, 11000)
def zModel_13 (T : zTl) (F : zRm') (G : zGt) (a : Nat) : Prop :=
  (∀ k, G (a + 44) k = (40, 0, 11000)) ∧
  F a 68 = some (a + 45) ∧
  T[a + 45]? = some (50, 11000) ∧
  (∀ k, G (a + 45) k = (40, 0, 3499)) ∧
  F a 69 = some (a + 46) ∧
  T[a + 46]? = some (50, 3600) ∧
  (∀ k, G (a + 46) k = (40, 0, 42)) ∧
  F a 70 = some (a + 47) ∧
  T[a + 47]? = some (50, 3600) ∧
  (∀ k, G (a + 47) k = (40, (-1), 11000)) ∧
  F a 71 = some (a + 48) ∧
  T[a + 48]? = some (50, 3600)
def zModel_14 (T : zTl) (F : zRm') (G : zGt) (a : Nat) : Prop :=
  (∀ k, G (a + 48) k = (40, 0, 3499)) ∧
  F a 72 = some (a + 49) ∧
  T[a + 49]? = some (53, 11000) ∧
  F a 73 = some (a + 50) ∧
  T[a + 50]? = some (53, 3600) ∧
  G a 74 = (40, 0, 11000) ∧
  G a 75 = (40, 0, 3600) ∧
  G a 76 = (40, (-2147483648), 2147483647) ∧
  G a 78 = (40, 0, 1) ∧
  F a 80 = some (a + 51) ∧
  T[a + 51]? = some (50, 8) ∧
  (∀ k, G (a + 51) k = (40, 0, 3))
def zModel_15 (T : zTl) (F : zRm') (G : zGt) (a : Nat) : Prop :=
  F a 81 = some (a + 52) ∧
  T[a + 52]? = some (50, 8) ∧
  (∀ k, G (a + 52) k = (40, 0, 40)) ∧
  F a 82 = some (a + 53) ∧
  T[a + 53]? = some (50, 8) ∧
  (∀ k, G (a + 53) k = (40, 0, 290)) ∧
  F a 83 = some (a + 54) ∧
  T[a + 54]? = some (50, 290) ∧
  (∀ k, G (a + 54) k = (40, 0, 39)) ∧
  F a 84 = some (a + 55) ∧
  T[a + 55]? = some (50, 290) ∧
  (∀ k, G (a + 55) k = (40, 0, 1))
def zModel_16 (T : zTl) (F : zRm') (G : zGt) (a : Nat) : Prop :=
  F a 85 = some (a + 56) ∧
  T[a + 56]? = some (50, 290) ∧
  (∀ k, G (a + 56) k = (40, 0, 1)) ∧
  F a 86 = some (a + 57) ∧
  T[a + 57]? = some (50, 290) ∧
  (∀ k, G (a + 57) k = (40, 0, 1)) ∧
  F a 87 = some (a + 58) ∧
  T[a + 58]? = some (50, 290) ∧
  (∀ k, G (a + 58) k = (40, 0, 1)) ∧
  G a 88 = (40, (-1), 7) ∧
  G a 89 = (40, 0, 290) ∧
  F a 90 = some (a + 59)
def zModel_17 (T : zTl) (F : zRm') (G : zGt) (a : Nat) : Prop :=
  T[a + 59]? = some (50, 3500) ∧
  (∀ k, G (a + 59) k = (40, (-2147483648), 2147483647)) ∧
  F a 91 = some (a + 60) ∧
  T[a + 60]? = some (50, 3500) ∧
  (∀ k, G (a + 60) k = (40, 0, 92970)) ∧
  F a 92 = some (a + 61) ∧
  T[a + 61]? = some (50, 3500) ∧
  (∀ k, G (a + 61) k = (40, 0, 30)) ∧
  F a 93 = some (a + 62) ∧
  T[a + 62]? = some (50, 3500) ∧
  (∀ k, G (a + 62) k = (40, (-2147483648), 2147483647)) ∧
  F a 94 = some (a + 63)
def zModel_18 (T : zTl) (F : zRm') (G : zGt) (a : Nat) : Prop :=
  T[a + 63]? = some (50, 3500) ∧
  (∀ k, G (a + 63) k = (40, (-2147483648), 2147483647)) ∧
  F a 95 = some (a + 64) ∧
  T[a + 64]? = some (50, 3500) ∧
  (∀ k, G (a + 64) k = (40, (-2147483648), 2147483647)) ∧
  F a 96 = some (a + 65) ∧
  T[a + 65]? = some (50, 3500) ∧
  (∀ k, G (a + 65) k = (40, (-2147483648), 2147483647)) ∧
  F a 97 = some (a + 66) ∧
  T[a + 66]? = some (50, 3500) ∧
  (∀ k, G (a + 66) k = (40, (-2147483648), 2147483647)) ∧
  F a 98 = some (a + 67)
def zModel_19 (T : zTl) (F : zRm') (G : zGt) (a : Nat) : Prop :=
  T[a + 67]? = some (51, 93000) ∧
  (∀ k, G (a + 67) k = (40, (-128), 127)) ∧
  G a 99 = (40, 0, 3500) ∧
  G a 100 = (40, 0, 93000) ∧
  G a 101 = (40, 0, 1) ∧
  F a 102 = some (a + 68) ∧
  T[a + 68]? = some (50, 4) ∧
  (∀ k, G (a + 68) k = (40, (-2147483648), 2147483647)) ∧
  F a 103 = some (a + 69) ∧
  T[a + 69]? = some (50, 3500) ∧
  (∀ k, G (a + 69) k = (40, (-2147483648), 2147483647)) ∧
  F a 104 = some (a + 70)
def zModel_20 (T : zTl) (F : zRm') (G : zGt) (a : Nat) : Prop :=
  T[a + 70]? = some (50, 3500) ∧
  (∀ k, G (a + 70) k = (40, 0, 92970)) ∧
  F a 105 = some (a + 71) ∧
  T[a + 71]? = some (50, 3500) ∧
  (∀ k, G (a + 71) k = (40, 0, 30)) ∧
  F a 106 = some (a + 72) ∧
  T[a + 72]? = some (50, 3500) ∧
  (∀ k, G (a + 72) k = (40, (-2147483648), 2147483647)) ∧
  F a 107 = some (a + 73) ∧
  T[a + 73]? = some (50, 3500) ∧
  (∀ k, G (a + 73) k = (40, (-2147483648), 2147483647)) ∧
  F a 108 = some (a + 74)
def zModel_21 (T : zTl) (F : zRm') (G : zGt) (a : Nat) : Prop :=
  T[a + 74]? = some (50, 3500) ∧
  (∀ k, G (a + 74) k = (40, (-2147483648), 2147483647)) ∧
  F a 109 = some (a + 75) ∧
  T[a + 75]? = some (50, 3500) ∧
  (∀ k, G (a + 75) k = (40, (-2147483648), 2147483647)) ∧
  F a 110 = some (a + 76) ∧
  T[a + 76]? = some (50, 3500) ∧
  (∀ k, G (a + 76) k = (40, (-2147483648), 2147483647)) ∧
  F a 111 = some (a + 77) ∧
  T[a + 77]? = some (51, 93000) ∧
  (∀ k, G (a + 77) k = (40, (-128), 127)) ∧
  G a 112 = (40, 0, 3500)
def zModel_22 (T : zTl) (F : zRm') (G : zGt) (a : Nat) : Prop :=
  F a 113 = some (a + 78) ∧
  T[a + 78]? = some (50, 160) ∧
  (∀ k, G (a + 78) k = (40, (-2147483648), 2147483647)) ∧
  F a 114 = some (a + 79) ∧
  T[a + 79]? = some (50, 8) ∧
  (∀ k, G (a + 79) k = (40, 0, 9300)) ∧
  F a 115 = some (a + 80) ∧
  T[a + 80]? = some (50, 8) ∧
  (∀ k, G (a + 80) k = (40, (-2147483648), 2147483647)) ∧
  F a 116 = some (a + 81) ∧
  T[a + 81]? = some (50, 32) ∧
  (∀ k, G (a + 81) k = (40, (-2147483648), 2147483647))
def zModel_23 (T : zTl) (F : zRm') (G : zGt) (a : Nat) : Prop :=
  F a 117 = some (a + 82) ∧
  T[a + 82]? = some (51, 74400) ∧
  (∀ k, G (a + 82) k = (40, (-128), 127)) ∧
  G a 118 = (40, (-2147483648), 2147483647)
def zModel (T : zTl) (F : zRm') (G : zGt) (a : Nat) : Prop :=
  zModel_0 T F G a ∧ zModel_1 T F G a ∧ zModel_2 T F G a ∧ zModel_3 T F G a ∧ zModel_4 T F G a ∧ zModel_5 T F G a ∧ zModel_6 T F G a ∧ zModel_7 T F G a ∧ zModel_8 T F G a ∧ zModel_9 T F G a ∧ zModel_10 T F G a ∧ zModel_11 T F G a ∧ zModel_12 T F G a ∧ zModel_13 T F G a ∧ zModel_14 T F G a ∧ zModel_15 T F G a ∧ zModel_16 T F G a ∧ zModel_17 T F G a ∧ zModel_18 T F G a ∧ zModel_19 T F G a ∧ zModel_20 T F G a ∧ zModel_21 T F G a ∧ zModel_22 T F G a ∧ zModel_23 T F G a
theorem zMg_0 {T : zTl} {F : zRm'} {G : zGt} {a : Nat} (h : zModel T F G a) : zModel_0 T F G a := h.1
theorem zM0 {T : zTl} {F : zRm'} {G : zGt} {a : Nat} (h : zModel T F G a) : T[a]? = some (12, 119) := (zMg_0 h).1
theorem zM1 {T : zTl} {F : zRm'} {G : zGt} {a : Nat} (h : zModel T F G a) : G a 0 = (40, 0, 1) := (zMg_0 h).2.1
theorem zM2 {T : zTl} {F : zRm'} {G : zGt} {a : Nat} (h : zModel T F G a) : F a 1 = some (a + 1) := (zMg_0 h).2.2.1
theorem zM3 {T : zTl} {F : zRm'} {G : zGt} {a : Nat} (h : zModel T F G a) : T[a + 1]? = some (51, 440) := (zMg_0 h).2.2.2.1
theorem zM4 {T : zTl} {F : zRm'} {G : zGt} {a : Nat} (h : zModel T F G a) : (∀ k, G (a + 1) k = (40, (-128), 127)) := (zMg_0 h).2.2.2.2.1
theorem zM5 {T : zTl} {F : zRm'} {G : zGt} {a : Nat} (h : zModel T F G a) : G a 2 = (40, 0, 440) := (zMg_0 h).2.2.2.2.2.1
theorem zM6 {T : zTl} {F : zRm'} {G : zGt} {a : Nat} (h : zModel T F G a) : G a 3 = (40, 0, 440) := (zMg_0 h).2.2.2.2.2.2.1
theorem zM7 {T : zTl} {F : zRm'} {G : zGt} {a : Nat} (h : zModel T F G a) : F a 4 = some (a + 2) := (zMg_0 h).2.2.2.2.2.2.2.1
theorem zM8 {T : zTl} {F : zRm'} {G : zGt} {a : Nat} (h : zModel T F G a) : T[a + 2]? = some (50, 173) := (zMg_0 h).2.2.2.2.2.2.2.2.1
theorem zM9 {T : zTl} {F : zRm'} {G : zGt} {a : Nat} (h : zModel T F G a) : (∀ k, G (a + 2) k = zfG k) := (zMg_0 h).2.2.2.2.2.2.2.2.2.1
theorem zM10 {T : zTl} {F : zRm'} {G : zGt} {a : Nat} (h : zModel T F G a) : F a 5 = some (a + 3) := (zMg_0 h).2.2.2.2.2.2.2.2.2.2.1
theorem zM11 {T : zTl} {F : zRm'} {G : zGt} {a : Nat} (h : zModel T F G a) : T[a + 3]? = some (50, 346) := (zMg_0 h).2.2.2.2.2.2.2.2.2.2.2
theorem zMg_1 {T : zTl} {F : zRm'} {G : zGt} {a : Nat} (h : zModel T F G a) : zModel_1 T F G a := h.2.1
theorem zM12 {T : zTl} {F : zRm'} {G : zGt} {a : Nat} (h : zModel T F G a) : (∀ k, G (a + 3) k = zkG k) := (zMg_1 h).1
theorem zM13 {T : zTl} {F : zRm'} {G : zGt} {a : Nat} (h : zModel T F G a) : F a 6 = some (a + 4) := (zMg_1 h).2.1
theorem zM14 {T : zTl} {F : zRm'} {G : zGt} {a : Nat} (h : zModel T F G a) : T[a + 4]? = some (51, 1690) := (zMg_1 h).2.2.1
theorem zM15 {T : zTl} {F : zRm'} {G : zGt} {a : Nat} (h : zModel T F G a) : (∀ k, G (a + 4) k = (40, (-128), 127)) := (zMg_1 h).2.2.2.1
theorem zM16 {T : zTl} {F : zRm'} {G : zGt} {a : Nat} (h : zModel T F G a) : F a 7 = some (a + 5) := (zMg_1 h).2.2.2.2.1
theorem zM17 {T : zTl} {F : zRm'} {G : zGt} {a : Nat} (h : zModel T F G a) : T[a + 5]? = some (51, 3380) := (zMg_1 h).2.2.2.2.2.1
theorem zM18 {T : zTl} {F : zRm'} {G : zGt} {a : Nat} (h : zModel T F G a) : (∀ k, G (a + 5) k = (40, (-128), 127)) := (zMg_1 h).2.2.2.2.2.2.1
theorem zM19 {T : zTl} {F : zRm'} {G : zGt} {a : Nat} (h : zModel T F G a) : F a 8 = some (a + 6) := (zMg_1 h).2.2.2.2.2.2.2.1
theorem zM20 {T : zTl} {F : zRm'} {G : zGt} {a : Nat} (h : zModel T F G a) : T[a + 6]? = some (52, 2) := (zMg_1 h).2.2.2.2.2.2.2.2.1
theorem zM21 {T : zTl} {F : zRm'} {G : zGt} {a : Nat} (h : zModel T F G a) : (∀ k, G (a + 6) k = (40, 0, 1)) := (zMg_1 h).2.2.2.2.2.2.2.2.2.1
theorem zM22 {T : zTl} {F : zRm'} {G : zGt} {a : Nat} (h : zModel T F G a) : G a 9 = (40, 0, 1) := (zMg_1 h).2.2.2.2.2.2.2.2.2.2.1
theorem zM23 {T : zTl} {F : zRm'} {G : zGt} {a : Nat} (h : zModel T F G a) : F a 10 = some (a + 7) := (zMg_1 h).2.2.2.2.2.2.2.2.2.2.2
theorem zMg_2 {T : zTl} {F : zRm'} {G : zGt} {a : Nat} (h : zModel T F G a) : zModel_2 T F G a := h.2.2.1
theorem zM24 {T : zTl} {F : zRm'} {G : zGt} {a : Nat} (h : zModel T F G a) : T[a + 7]? = some (50, 8) := (zMg_2 h).1
theorem zM25 {T : zTl} {F : zRm'} {G : zGt} {a : Nat} (h : zModel T F G a) : (∀ k, G (a + 7) k = (40, 0, 440)) := (zMg_2 h).2.1
theorem zM26 {T : zTl} {F : zRm'} {G : zGt} {a : Nat} (h : zModel T F G a) : G a 11 = (40, 0, 40) := (zMg_2 h).2.2.1
theorem zM27 {T : zTl} {F : zRm'} {G : zGt} {a : Nat} (h : zModel T F G a) : F a 12 = some (a + 8) := (zMg_2 h).2.2.2.1
theorem zM28 {T : zTl} {F : zRm'} {G : zGt} {a : Nat} (h : zModel T F G a) : T[a + 8]? = some (51, 30) := (zMg_2 h).2.2.2.2.1
theorem zM29 {T : zTl} {F : zRm'} {G : zGt} {a : Nat} (h : zModel T F G a) : (∀ k, G (a + 8) k = (40, (-128), 127)) := (zMg_2 h).2.2.2.2.2.1
theorem zM30 {T : zTl} {F : zRm'} {G : zGt} {a : Nat} (h : zModel T F G a) : G a 13 = (40, 0, 30) := (zMg_2 h).2.2.2.2.2.2.1
theorem zM31 {T : zTl} {F : zRm'} {G : zGt} {a : Nat} (h : zModel T F G a) : F a 14 = some (a + 9) := (zMg_2 h).2.2.2.2.2.2.2.1
theorem zM32 {T : zTl} {F : zRm'} {G : zGt} {a : Nat} (h : zModel T F G a) : T[a + 9]? = some (50, 18600) := (zMg_2 h).2.2.2.2.2.2.2.2.1
theorem zM33 {T : zTl} {F : zRm'} {G : zGt} {a : Nat} (h : zModel T F G a) : (∀ k, G (a + 9) k = (40, 0, 3)) := (zMg_2 h).2.2.2.2.2.2.2.2.2.1
theorem zM34 {T : zTl} {F : zRm'} {G : zGt} {a : Nat} (h : zModel T F G a) : F a 15 = some (a + 10) := (zMg_2 h).2.2.2.2.2.2.2.2.2.2.1
theorem zM35 {T : zTl} {F : zRm'} {G : zGt} {a : Nat} (h : zModel T F G a) : T[a + 10]? = some (50, 18600) := (zMg_2 h).2.2.2.2.2.2.2.2.2.2.2
theorem zMg_3 {T : zTl} {F : zRm'} {G : zGt} {a : Nat} (h : zModel T F G a) : zModel_3 T F G a := h.2.2.2.1
theorem zM36 {T : zTl} {F : zRm'} {G : zGt} {a : Nat} (h : zModel T F G a) : (∀ k, G (a + 10) k = (40, (-7531), 61970)) := (zMg_3 h).1
theorem zM37 {T : zTl} {F : zRm'} {G : zGt} {a : Nat} (h : zModel T F G a) : F a 16 = some (a + 11) := (zMg_3 h).2.1
theorem zM38 {T : zTl} {F : zRm'} {G : zGt} {a : Nat} (h : zModel T F G a) : T[a + 11]? = some (50, 18600) := (zMg_3 h).2.2.1
theorem zM39 {T : zTl} {F : zRm'} {G : zGt} {a : Nat} (h : zModel T F G a) : (∀ k, G (a + 11) k = (40, 0, 30)) := (zMg_3 h).2.2.2.1
theorem zM40 {T : zTl} {F : zRm'} {G : zGt} {a : Nat} (h : zModel T F G a) : F a 17 = some (a + 12) := (zMg_3 h).2.2.2.2.1
theorem zM41 {T : zTl} {F : zRm'} {G : zGt} {a : Nat} (h : zModel T F G a) : T[a + 12]? = some (50, 18600) := (zMg_3 h).2.2.2.2.2.1
theorem zM42 {T : zTl} {F : zRm'} {G : zGt} {a : Nat} (h : zModel T F G a) : (∀ k, G (a + 12) k = (40, (-2147483648), 2147483647)) := (zMg_3 h).2.2.2.2.2.2.1
theorem zM43 {T : zTl} {F : zRm'} {G : zGt} {a : Nat} (h : zModel T F G a) : F a 18 = some (a + 13) := (zMg_3 h).2.2.2.2.2.2.2.1
theorem zM44 {T : zTl} {F : zRm'} {G : zGt} {a : Nat} (h : zModel T F G a) : T[a + 13]? = some (50, 18600) := (zMg_3 h).2.2.2.2.2.2.2.2.1
theorem zM45 {T : zTl} {F : zRm'} {G : zGt} {a : Nat} (h : zModel T F G a) : (∀ k, G (a + 13) k = (40, (-2147483648), 2147483647)) := (zMg_3 h).2.2.2.2.2.2.2.2.2.1
theorem zM46 {T : zTl} {F : zRm'} {G : zGt} {a : Nat} (h : zModel T F G a) : F a 19 = some (a + 14) := (zMg_3 h).2.2.2.2.2.2.2.2.2.2.1
theorem zM47 {T : zTl} {F : zRm'} {G : zGt} {a : Nat} (h : zModel T F G a) : T[a + 14]? = some (50, 18600) := (zMg_3 h).2.2.2.2.2.2.2.2.2.2.2
theorem zMg_4 {T : zTl} {F : zRm'} {G : zGt} {a : Nat} (h : zModel T F G a) : zModel_4 T F G a := h.2.2.2.2.1
theorem zM48 {T : zTl} {F : zRm'} {G : zGt} {a : Nat} (h : zModel T F G a) : (∀ k, G (a + 14) k = (40, (-2147483648), 2147483647)) := (zMg_4 h).1
theorem zM49 {T : zTl} {F : zRm'} {G : zGt} {a : Nat} (h : zModel T F G a) : F a 20 = some (a + 15) := (zMg_4 h).2.1
theorem zM50 {T : zTl} {F : zRm'} {G : zGt} {a : Nat} (h : zModel T F G a) : T[a + 15]? = some (50, 18600) := (zMg_4 h).2.2.1
theorem zM51 {T : zTl} {F : zRm'} {G : zGt} {a : Nat} (h : zModel T F G a) : (∀ k, G (a + 15) k = (40, (-2147483648), 2147483647)) := (zMg_4 h).2.2.2.1
theorem zM52 {T : zTl} {F : zRm'} {G : zGt} {a : Nat} (h : zModel T F G a) : F a 21 = some (a + 16) := (zMg_4 h).2.2.2.2.1
theorem zM53 {T : zTl} {F : zRm'} {G : zGt} {a : Nat} (h : zModel T F G a) : T[a + 16]? = some (50, 18600) := (zMg_4 h).2.2.2.2.2.1
theorem zM54 {T : zTl} {F : zRm'} {G : zGt} {a : Nat} (h : zModel T F G a) : (∀ k, G (a + 16) k = (40, (-2147483648), 2147483647)) := (zMg_4 h).2.2.2.2.2.2.1
theorem zM55 {T : zTl} {F : zRm'} {G : zGt} {a : Nat} (h : zModel T F G a) : F a 22 = some (a + 17) := (zMg_4 h).2.2.2.2.2.2.2.1
theorem zM56 {T : zTl} {F : zRm'} {G : zGt} {a : Nat} (h : zModel T F G a) : T[a + 17]? = some (51, 62000) := (zMg_4 h).2.2.2.2.2.2.2.2.1
theorem zM57 {T : zTl} {F : zRm'} {G : zGt} {a : Nat} (h : zModel T F G a) : (∀ k, G (a + 17) k = (40, (-128), 127)) := (zMg_4 h).2.2.2.2.2.2.2.2.2.1
theorem zM58 {T : zTl} {F : zRm'} {G : zGt} {a : Nat} (h : zModel T F G a) : G a 23 = (40, 0, 440) := (zMg_4 h).2.2.2.2.2.2.2.2.2.2.1
theorem zM59 {T : zTl} {F : zRm'} {G : zGt} {a : Nat} (h : zModel T F G a) : G a 24 = (40, 0, 61900) := (zMg_4 h).2.2.2.2.2.2.2.2.2.2.2
theorem zMg_5 {T : zTl} {F : zRm'} {G : zGt} {a : Nat} (h : zModel T F G a) : zModel_5 T F G a := h.2.2.2.2.2.1
theorem zM60 {T : zTl} {F : zRm'} {G : zGt} {a : Nat} (h : zModel T F G a) : G a 25 = (40, 0, 3500) := (zMg_5 h).1
theorem zM61 {T : zTl} {F : zRm'} {G : zGt} {a : Nat} (h : zModel T F G a) : G a 26 = (40, 0, 14000) := (zMg_5 h).2.1
theorem zM62 {T : zTl} {F : zRm'} {G : zGt} {a : Nat} (h : zModel T F G a) : G a 27 = (40, 0, 440) := (zMg_5 h).2.2.1
theorem zM63 {T : zTl} {F : zRm'} {G : zGt} {a : Nat} (h : zModel T F G a) : G a 28 = (40, (-1), 3) := (zMg_5 h).2.2.2.1
theorem zM64 {T : zTl} {F : zRm'} {G : zGt} {a : Nat} (h : zModel T F G a) : G a 29 = (40, (-1), 39) := (zMg_5 h).2.2.2.2.1
theorem zM65 {T : zTl} {F : zRm'} {G : zGt} {a : Nat} (h : zModel T F G a) : F a 30 = some (a + 18) := (zMg_5 h).2.2.2.2.2.1
theorem zM66 {T : zTl} {F : zRm'} {G : zGt} {a : Nat} (h : zModel T F G a) : T[a + 18]? = some (50, 1219) := (zMg_5 h).2.2.2.2.2.2.1
theorem zM67 {T : zTl} {F : zRm'} {G : zGt} {a : Nat} (h : zModel T F G a) : (∀ k, G (a + 18) k = zwG k) := (zMg_5 h).2.2.2.2.2.2.2.1
theorem zM68 {T : zTl} {F : zRm'} {G : zGt} {a : Nat} (h : zModel T F G a) : F a 31 = some (a + 19) := (zMg_5 h).2.2.2.2.2.2.2.2.1
theorem zM69 {T : zTl} {F : zRm'} {G : zGt} {a : Nat} (h : zModel T F G a) : T[a + 19]? = some (50, 1219) := (zMg_5 h).2.2.2.2.2.2.2.2.2.1
theorem zM70 {T : zTl} {F : zRm'} {G : zGt} {a : Nat} (h : zModel T F G a) : (∀ k, G (a + 19) k = zwG k) := (zMg_5 h).2.2.2.2.2.2.2.2.2.2.1
theorem zM71 {T : zTl} {F : zRm'} {G : zGt} {a : Nat} (h : zModel T F G a) : F a 32 = some (a + 20) := (zMg_5 h).2.2.2.2.2.2.2.2.2.2.2
theorem zMg_6 {T : zTl} {F : zRm'} {G : zGt} {a : Nat} (h : zModel T F G a) : zModel_6 T F G a := h.2.2.2.2.2.2.1
theorem zM72 {T : zTl} {F : zRm'} {G : zGt} {a : Nat} (h : zModel T F G a) : T[a + 20]? = some (51, 7560) := (zMg_6 h).1
theorem zM73 {T : zTl} {F : zRm'} {G : zGt} {a : Nat} (h : zModel T F G a) : (∀ k, G (a + 20) k = (40, (-128), 127)) := (zMg_6 h).2.1
theorem zM74 {T : zTl} {F : zRm'} {G : zGt} {a : Nat} (h : zModel T F G a) : F a 33 = some (a + 21) := (zMg_6 h).2.2.1
theorem zM75 {T : zTl} {F : zRm'} {G : zGt} {a : Nat} (h : zModel T F G a) : T[a + 21]? = some (51, 7560) := (zMg_6 h).2.2.2.1
theorem zM76 {T : zTl} {F : zRm'} {G : zGt} {a : Nat} (h : zModel T F G a) : (∀ k, G (a + 21) k = (40, (-128), 127)) := (zMg_6 h).2.2.2.2.1
theorem zM77 {T : zTl} {F : zRm'} {G : zGt} {a : Nat} (h : zModel T F G a) : G a 34 = (40, 0, 3) := (zMg_6 h).2.2.2.2.2.1
theorem zM78 {T : zTl} {F : zRm'} {G : zGt} {a : Nat} (h : zModel T F G a) : F a 35 = some (a + 22) := (zMg_6 h).2.2.2.2.2.2.1
theorem zM79 {T : zTl} {F : zRm'} {G : zGt} {a : Nat} (h : zModel T F G a) : T[a + 22]? = some (51, 30) := (zMg_6 h).2.2.2.2.2.2.2.1
theorem zM80 {T : zTl} {F : zRm'} {G : zGt} {a : Nat} (h : zModel T F G a) : (∀ k, G (a + 22) k = (40, (-128), 127)) := (zMg_6 h).2.2.2.2.2.2.2.2.1
theorem zM81 {T : zTl} {F : zRm'} {G : zGt} {a : Nat} (h : zModel T F G a) : F a 36 = some (a + 23) := (zMg_6 h).2.2.2.2.2.2.2.2.2.1
theorem zM82 {T : zTl} {F : zRm'} {G : zGt} {a : Nat} (h : zModel T F G a) : T[a + 23]? = some (50, 4) := (zMg_6 h).2.2.2.2.2.2.2.2.2.2.1
theorem zM83 {T : zTl} {F : zRm'} {G : zGt} {a : Nat} (h : zModel T F G a) : (∀ k, G (a + 23) k = (40, 0, 439)) := (zMg_6 h).2.2.2.2.2.2.2.2.2.2.2
theorem zMg_7 {T : zTl} {F : zRm'} {G : zGt} {a : Nat} (h : zModel T F G a) : zModel_7 T F G a := h.2.2.2.2.2.2.2.1
theorem zM84 {T : zTl} {F : zRm'} {G : zGt} {a : Nat} (h : zModel T F G a) : G a 37 = (40, 0, 4) := (zMg_7 h).1
theorem zM85 {T : zTl} {F : zRm'} {G : zGt} {a : Nat} (h : zModel T F G a) : F a 38 = some (a + 24) := (zMg_7 h).2.1
theorem zM86 {T : zTl} {F : zRm'} {G : zGt} {a : Nat} (h : zModel T F G a) : T[a + 24]? = some (50, 256) := (zMg_7 h).2.2.1
theorem zM87 {T : zTl} {F : zRm'} {G : zGt} {a : Nat} (h : zModel T F G a) : (∀ k, G (a + 24) k = (40, 0, 194000)) := (zMg_7 h).2.2.2.1
theorem zM88 {T : zTl} {F : zRm'} {G : zGt} {a : Nat} (h : zModel T F G a) : F a 39 = some (a + 25) := (zMg_7 h).2.2.2.2.1
theorem zM89 {T : zTl} {F : zRm'} {G : zGt} {a : Nat} (h : zModel T F G a) : T[a + 25]? = some (50, 256) := (zMg_7 h).2.2.2.2.2.1
theorem zM90 {T : zTl} {F : zRm'} {G : zGt} {a : Nat} (h : zModel T F G a) : (∀ k, G (a + 25) k = (40, 0, 194000)) := (zMg_7 h).2.2.2.2.2.2.1
theorem zM91 {T : zTl} {F : zRm'} {G : zGt} {a : Nat} (h : zModel T F G a) : F a 40 = some (a + 26) := (zMg_7 h).2.2.2.2.2.2.2.1
theorem zM92 {T : zTl} {F : zRm'} {G : zGt} {a : Nat} (h : zModel T F G a) : T[a + 26]? = some (50, 256) := (zMg_7 h).2.2.2.2.2.2.2.2.1
theorem zM93 {T : zTl} {F : zRm'} {G : zGt} {a : Nat} (h : zModel T F G a) : (∀ k, G (a + 26) k = (40, 0, 1)) := (zMg_7 h).2.2.2.2.2.2.2.2.2.1
theorem zM94 {T : zTl} {F : zRm'} {G : zGt} {a : Nat} (h : zModel T F G a) : F a 41 = some (a + 27) := (zMg_7 h).2.2.2.2.2.2.2.2.2.2.1
theorem zM95 {T : zTl} {F : zRm'} {G : zGt} {a : Nat} (h : zModel T F G a) : T[a + 27]? = some (50, 102) := (zMg_7 h).2.2.2.2.2.2.2.2.2.2.2
theorem zMg_8 {T : zTl} {F : zRm'} {G : zGt} {a : Nat} (h : zModel T F G a) : zModel_8 T F G a := h.2.2.2.2.2.2.2.2.1
theorem zM96 {T : zTl} {F : zRm'} {G : zGt} {a : Nat} (h : zModel T F G a) : (∀ k, G (a + 27) k = (40, 0, 256)) := (zMg_8 h).1
theorem zM97 {T : zTl} {F : zRm'} {G : zGt} {a : Nat} (h : zModel T F G a) : F a 42 = some (a + 28) := (zMg_8 h).2.1
theorem zM98 {T : zTl} {F : zRm'} {G : zGt} {a : Nat} (h : zModel T F G a) : T[a + 28]? = some (50, 102) := (zMg_8 h).2.2.1
theorem zM99 {T : zTl} {F : zRm'} {G : zGt} {a : Nat} (h : zModel T F G a) : (∀ k, G (a + 28) k = (40, (-1), 11)) := (zMg_8 h).2.2.2.1
theorem zM100 {T : zTl} {F : zRm'} {G : zGt} {a : Nat} (h : zModel T F G a) : F a 43 = some (a + 29) := (zMg_8 h).2.2.2.2.1
theorem zM101 {T : zTl} {F : zRm'} {G : zGt} {a : Nat} (h : zModel T F G a) : T[a + 29]? = some (50, 102) := (zMg_8 h).2.2.2.2.2.1
theorem zM102 {T : zTl} {F : zRm'} {G : zGt} {a : Nat} (h : zModel T F G a) : (∀ k, G (a + 29) k = (40, 0, 3499)) := (zMg_8 h).2.2.2.2.2.2.1
theorem zM103 {T : zTl} {F : zRm'} {G : zGt} {a : Nat} (h : zModel T F G a) : F a 44 = some (a + 30) := (zMg_8 h).2.2.2.2.2.2.2.1
theorem zM104 {T : zTl} {F : zRm'} {G : zGt} {a : Nat} (h : zModel T F G a) : T[a + 30]? = some (50, 102) := (zMg_8 h).2.2.2.2.2.2.2.2.1
theorem zM105 {T : zTl} {F : zRm'} {G : zGt} {a : Nat} (h : zModel T F G a) : (∀ k, G (a + 30) k = (40, (-2147483648), 2147483647)) := (zMg_8 h).2.2.2.2.2.2.2.2.2.1
theorem zM106 {T : zTl} {F : zRm'} {G : zGt} {a : Nat} (h : zModel T F G a) : F a 45 = some (a + 31) := (zMg_8 h).2.2.2.2.2.2.2.2.2.2.1
theorem zM107 {T : zTl} {F : zRm'} {G : zGt} {a : Nat} (h : zModel T F G a) : T[a + 31]? = some (50, 102) := (zMg_8 h).2.2.2.2.2.2.2.2.2.2.2
theorem zMg_9 {T : zTl} {F : zRm'} {G : zGt} {a : Nat} (h : zModel T F G a) : zModel_9 T F G a := h.2.2.2.2.2.2.2.2.2.1
theorem zM108 {T : zTl} {F : zRm'} {G : zGt} {a : Nat} (h : zModel T F G a) : (∀ k, G (a + 31) k = (40, 0, 22)) := (zMg_9 h).1
theorem zM109 {T : zTl} {F : zRm'} {G : zGt} {a : Nat} (h : zModel T F G a) : F a 46 = some (a + 32) := (zMg_9 h).2.1
theorem zM110 {T : zTl} {F : zRm'} {G : zGt} {a : Nat} (h : zModel T F G a) : T[a + 32]? = some (50, 102) := (zMg_9 h).2.2.1
theorem zM111 {T : zTl} {F : zRm'} {G : zGt} {a : Nat} (h : zModel T F G a) : (∀ k, G (a + 32) k = (40, 0, 194000)) := (zMg_9 h).2.2.2.1
theorem zM112 {T : zTl} {F : zRm'} {G : zGt} {a : Nat} (h : zModel T F G a) : F a 47 = some (a + 33) := (zMg_9 h).2.2.2.2.1
theorem zM113 {T : zTl} {F : zRm'} {G : zGt} {a : Nat} (h : zModel T F G a) : T[a + 33]? = some (50, 510) := (zMg_9 h).2.2.2.2.2.1
theorem zM114 {T : zTl} {F : zRm'} {G : zGt} {a : Nat} (h : zModel T F G a) : (∀ k, G (a + 33) k = (40, 0, 194000)) := (zMg_9 h).2.2.2.2.2.2.1
theorem zM115 {T : zTl} {F : zRm'} {G : zGt} {a : Nat} (h : zModel T F G a) : F a 48 = some (a + 34) := (zMg_9 h).2.2.2.2.2.2.2.1
theorem zM116 {T : zTl} {F : zRm'} {G : zGt} {a : Nat} (h : zModel T F G a) : T[a + 34]? = some (50, 102) := (zMg_9 h).2.2.2.2.2.2.2.2.1
theorem zM117 {T : zTl} {F : zRm'} {G : zGt} {a : Nat} (h : zModel T F G a) : (∀ k, G (a + 34) k = (40, 0, 2040)) := (zMg_9 h).2.2.2.2.2.2.2.2.2.1
theorem zM118 {T : zTl} {F : zRm'} {G : zGt} {a : Nat} (h : zModel T F G a) : F a 49 = some (a + 35) := (zMg_9 h).2.2.2.2.2.2.2.2.2.2.1
theorem zM119 {T : zTl} {F : zRm'} {G : zGt} {a : Nat} (h : zModel T F G a) : T[a + 35]? = some (50, 102) := (zMg_9 h).2.2.2.2.2.2.2.2.2.2.2
theorem zMg_10 {T : zTl} {F : zRm'} {G : zGt} {a : Nat} (h : zModel T F G a) : zModel_10 T F G a := h.2.2.2.2.2.2.2.2.2.2.1
theorem zM120 {T : zTl} {F : zRm'} {G : zGt} {a : Nat} (h : zModel T F G a) : (∀ k, G (a + 35) k = (40, 0, 14000)) := (zMg_10 h).1
theorem zM121 {T : zTl} {F : zRm'} {G : zGt} {a : Nat} (h : zModel T F G a) : F a 50 = some (a + 36) := (zMg_10 h).2.1
theorem zM122 {T : zTl} {F : zRm'} {G : zGt} {a : Nat} (h : zModel T F G a) : T[a + 36]? = some (50, 102) := (zMg_10 h).2.2.1
theorem zM123 {T : zTl} {F : zRm'} {G : zGt} {a : Nat} (h : zModel T F G a) : (∀ k, G (a + 36) k = (40, 0, 1000000)) := (zMg_10 h).2.2.2.1
theorem zM124 {T : zTl} {F : zRm'} {G : zGt} {a : Nat} (h : zModel T F G a) : F a 51 = some (a + 37) := (zMg_10 h).2.2.2.2.1
theorem zM125 {T : zTl} {F : zRm'} {G : zGt} {a : Nat} (h : zModel T F G a) : T[a + 37]? = some (50, 2040) := (zMg_10 h).2.2.2.2.2.1
theorem zM126 {T : zTl} {F : zRm'} {G : zGt} {a : Nat} (h : zModel T F G a) : (∀ k, G (a + 37) k = (40, 0, 14000)) := (zMg_10 h).2.2.2.2.2.2.1
theorem zM127 {T : zTl} {F : zRm'} {G : zGt} {a : Nat} (h : zModel T F G a) : F a 52 = some (a + 38) := (zMg_10 h).2.2.2.2.2.2.2.1
theorem zM128 {T : zTl} {F : zRm'} {G : zGt} {a : Nat} (h : zModel T F G a) : T[a + 38]? = some (50, 2040) := (zMg_10 h).2.2.2.2.2.2.2.2.1
theorem zM129 {T : zTl} {F : zRm'} {G : zGt} {a : Nat} (h : zModel T F G a) : (∀ k, G (a + 38) k = (40, 0, 200)) := (zMg_10 h).2.2.2.2.2.2.2.2.2.1
theorem zM130 {T : zTl} {F : zRm'} {G : zGt} {a : Nat} (h : zModel T F G a) : F a 53 = some (a + 39) := (zMg_10 h).2.2.2.2.2.2.2.2.2.2.1
theorem zM131 {T : zTl} {F : zRm'} {G : zGt} {a : Nat} (h : zModel T F G a) : T[a + 39]? = some (50, 2040) := (zMg_10 h).2.2.2.2.2.2.2.2.2.2.2
theorem zMg_11 {T : zTl} {F : zRm'} {G : zGt} {a : Nat} (h : zModel T F G a) : zModel_11 T F G a := h.2.2.2.2.2.2.2.2.2.2.2.1
theorem zM132 {T : zTl} {F : zRm'} {G : zGt} {a : Nat} (h : zModel T F G a) : (∀ k, G (a + 39) k = (40, 0, 1)) := (zMg_11 h).1
theorem zM133 {T : zTl} {F : zRm'} {G : zGt} {a : Nat} (h : zModel T F G a) : F a 54 = some (a + 40) := (zMg_11 h).2.1
theorem zM134 {T : zTl} {F : zRm'} {G : zGt} {a : Nat} (h : zModel T F G a) : T[a + 40]? = some (50, 194000) := (zMg_11 h).2.2.1
theorem zM135 {T : zTl} {F : zRm'} {G : zGt} {a : Nat} (h : zModel T F G a) : (∀ k, G (a + 40) k = (40, 0, 3499)) := (zMg_11 h).2.2.2.1
theorem zM136 {T : zTl} {F : zRm'} {G : zGt} {a : Nat} (h : zModel T F G a) : F a 55 = some (a + 41) := (zMg_11 h).2.2.2.2.1
theorem zM137 {T : zTl} {F : zRm'} {G : zGt} {a : Nat} (h : zModel T F G a) : T[a + 41]? = some (50, 3500) := (zMg_11 h).2.2.2.2.2.1
theorem zM138 {T : zTl} {F : zRm'} {G : zGt} {a : Nat} (h : zModel T F G a) : (∀ k, G (a + 41) k = (40, 0, 3499)) := (zMg_11 h).2.2.2.2.2.2.1
theorem zM139 {T : zTl} {F : zRm'} {G : zGt} {a : Nat} (h : zModel T F G a) : F a 56 = some (a + 42) := (zMg_11 h).2.2.2.2.2.2.2.1
theorem zM140 {T : zTl} {F : zRm'} {G : zGt} {a : Nat} (h : zModel T F G a) : T[a + 42]? = some (50, 140) := (zMg_11 h).2.2.2.2.2.2.2.2.1
theorem zM141 {T : zTl} {F : zRm'} {G : zGt} {a : Nat} (h : zModel T F G a) : (∀ k, G (a + 42) k = (40, 0, 14000)) := (zMg_11 h).2.2.2.2.2.2.2.2.2.1
theorem zM142 {T : zTl} {F : zRm'} {G : zGt} {a : Nat} (h : zModel T F G a) : G a 57 = (40, (-1), 101) := (zMg_11 h).2.2.2.2.2.2.2.2.2.2.1
theorem zM143 {T : zTl} {F : zRm'} {G : zGt} {a : Nat} (h : zModel T F G a) : G a 58 = (40, 0, 256) := (zMg_11 h).2.2.2.2.2.2.2.2.2.2.2
theorem zMg_12 {T : zTl} {F : zRm'} {G : zGt} {a : Nat} (h : zModel T F G a) : zModel_12 T F G a := h.2.2.2.2.2.2.2.2.2.2.2.2.1
theorem zM144 {T : zTl} {F : zRm'} {G : zGt} {a : Nat} (h : zModel T F G a) : G a 59 = (40, 0, 194000) := (zMg_12 h).1
theorem zM145 {T : zTl} {F : zRm'} {G : zGt} {a : Nat} (h : zModel T F G a) : G a 60 = (40, 0, 2040) := (zMg_12 h).2.1
theorem zM146 {T : zTl} {F : zRm'} {G : zGt} {a : Nat} (h : zModel T F G a) : G a 61 = (40, 0, 3500) := (zMg_12 h).2.2.1
theorem zM147 {T : zTl} {F : zRm'} {G : zGt} {a : Nat} (h : zModel T F G a) : G a 62 = (40, 0, 100) := (zMg_12 h).2.2.2.1
theorem zM148 {T : zTl} {F : zRm'} {G : zGt} {a : Nat} (h : zModel T F G a) : G a 63 = (40, 0, 440) := (zMg_12 h).2.2.2.2.1
theorem zM149 {T : zTl} {F : zRm'} {G : zGt} {a : Nat} (h : zModel T F G a) : G a 64 = (40, 0, 440) := (zMg_12 h).2.2.2.2.2.1
theorem zM150 {T : zTl} {F : zRm'} {G : zGt} {a : Nat} (h : zModel T F G a) : G a 65 = (40, 0, 1) := (zMg_12 h).2.2.2.2.2.2.1
theorem zM151 {T : zTl} {F : zRm'} {G : zGt} {a : Nat} (h : zModel T F G a) : F a 66 = some (a + 43) := (zMg_12 h).2.2.2.2.2.2.2.1
theorem zM152 {T : zTl} {F : zRm'} {G : zGt} {a : Nat} (h : zModel T F G a) : T[a + 43]? = some (50, 11000) := (zMg_12 h).2.2.2.2.2.2.2.2.1
theorem zM153 {T : zTl} {F : zRm'} {G : zGt} {a : Nat} (h : zModel T F G a) : (∀ k, G (a + 43) k = (40, (-2147483648), 2147483647)) := (zMg_12 h).2.2.2.2.2.2.2.2.2.1
theorem zM154 {T : zTl} {F : zRm'} {G : zGt} {a : Nat} (h : zModel T F G a) : F a 67 = some (a + 44) := (zMg_12 h).2.2.2.2.2.2.2.2.2.2.1
theorem zM155 {T : zTl} {F : zRm'} {G : zGt} {a : Nat} (h : zModel T F G a) : T[a + 44]? = some (50, 11000) := (zMg_12 h).2.2.2.2.2.2.2.2.2.2.2
theorem zMg_13 {T : zTl} {F : zRm'} {G : zGt} {a : Nat} (h : zModel T F G a) : zModel_13 T F G a := h.2.2.2.2.2.2.2.2.2.2.2.2.2.1
theorem zM156 {T : zTl} {F : zRm'} {G : zGt} {a : Nat} (h : zModel T F G a) : (∀ k, G (a + 44) k = (40, 0, 11000)) := (zMg_13 h).1
theorem zM157 {T : zTl} {F : zRm'} {G : zGt} {a : Nat} (h : zModel T F G a) : F a 68 = some (a + 45) := (zMg_13 h).2.1
theorem zM158 {T : zTl} {F : zRm'} {G : zGt} {a : Nat} (h : zModel T F G a) : T[a + 45]? = some (50, 11000) := (zMg_13 h).2.2.1
theorem zM159 {T : zTl} {F : zRm'} {G : zGt} {a : Nat} (h : zModel T F G a) : (∀ k, G (a + 45) k = (40, 0, 3499)) := (zMg_13 h).2.2.2.1
theorem zM160 {T : zTl} {F : zRm'} {G : zGt} {a : Nat} (h : zModel T F G a) : F a 69 = some (a + 46) := (zMg_13 h).2.2.2.2.1
theorem zM161 {T : zTl} {F : zRm'} {G : zGt} {a : Nat} (h : zModel T F G a) : T[a + 46]? = some (50, 3600) := (zMg_13 h).2.2.2.2.2.1
theorem zM162 {T : zTl} {F : zRm'} {G : zGt} {a : Nat} (h : zModel T F G a) : (∀ k, G (a + 46) k = (40, 0, 42)) := (zMg_13 h).2.2.2.2.2.2.1
theorem zM163 {T : zTl} {F : zRm'} {G : zGt} {a : Nat} (h : zModel T F G a) : F a 70 = some (a + 47) := (zMg_13 h).2.2.2.2.2.2.2.1
theorem zM164 {T : zTl} {F : zRm'} {G : zGt} {a : Nat} (h : zModel T F G a) : T[a + 47]? = some (50, 3600) := (zMg_13 h).2.2.2.2.2.2.2.2.1
theorem zM165 {T : zTl} {F : zRm'} {G : zGt} {a : Nat} (h : zModel T F G a) : (∀ k, G (a + 47) k = (40, (-1), 11000)) := (zMg_13 h).2.2.2.2.2.2.2.2.2.1
theorem zM166 {T : zTl} {F : zRm'} {G : zGt} {a : Nat} (h : zModel T F G a) : F a 71 = some (a + 48) := (zMg_13 h).2.2.2.2.2.2.2.2.2.2.1
theorem zM167 {T : zTl} {F : zRm'} {G : zGt} {a : Nat} (h : zModel T F G a) : T[a + 48]? = some (50, 3600) := (zMg_13 h).2.2.2.2.2.2.2.2.2.2.2
theorem zMg_14 {T : zTl} {F : zRm'} {G : zGt} {a : Nat} (h : zModel T F G a) : zModel_14 T F G a := h.2.2.2.2.2.2.2.2.2.2.2.2.2.2.1
theorem zM168 {T : zTl} {F : zRm'} {G : zGt} {a : Nat} (h : zModel T F G a) : (∀ k, G (a + 48) k = (40, 0, 3499)) := (zMg_14 h).1
theorem zM169 {T : zTl} {F : zRm'} {G : zGt} {a : Nat} (h : zModel T F G a) : F a 72 = some (a + 49) := (zMg_14 h).2.1
theorem zM170 {T : zTl} {F : zRm'} {G : zGt} {a : Nat} (h : zModel T F G a) : T[a + 49]? = some (53, 11000) := (zMg_14 h).2.2.1
theorem zM171 {T : zTl} {F : zRm'} {G : zGt} {a : Nat} (h : zModel T F G a) : F a 73 = some (a + 50) := (zMg_14 h).2.2.2.1
theorem zM172 {T : zTl} {F : zRm'} {G : zGt} {a : Nat} (h : zModel T F G a) : T[a + 50]? = some (53, 3600) := (zMg_14 h).2.2.2.2.1
theorem zM173 {T : zTl} {F : zRm'} {G : zGt} {a : Nat} (h : zModel T F G a) : G a 74 = (40, 0, 11000) := (zMg_14 h).2.2.2.2.2.1
theorem zM174 {T : zTl} {F : zRm'} {G : zGt} {a : Nat} (h : zModel T F G a) : G a 75 = (40, 0, 3600) := (zMg_14 h).2.2.2.2.2.2.1
theorem zM175 {T : zTl} {F : zRm'} {G : zGt} {a : Nat} (h : zModel T F G a) : G a 76 = (40, (-2147483648), 2147483647) := (zMg_14 h).2.2.2.2.2.2.2.1
theorem zM176 {T : zTl} {F : zRm'} {G : zGt} {a : Nat} (h : zModel T F G a) : G a 78 = (40, 0, 1) := (zMg_14 h).2.2.2.2.2.2.2.2.1
theorem zM177 {T : zTl} {F : zRm'} {G : zGt} {a : Nat} (h : zModel T F G a) : F a 80 = some (a + 51) := (zMg_14 h).2.2.2.2.2.2.2.2.2.1
theorem zM178 {T : zTl} {F : zRm'} {G : zGt} {a : Nat} (h : zModel T F G a) : T[a + 51]? = some (50, 8) := (zMg_14 h).2.2.2.2.2.2.2.2.2.2.1
theorem zM179 {T : zTl} {F : zRm'} {G : zGt} {a : Nat} (h : zModel T F G a) : (∀ k, G (a + 51) k = (40, 0, 3)) := (zMg_14 h).2.2.2.2.2.2.2.2.2.2.2
theorem zMg_15 {T : zTl} {F : zRm'} {G : zGt} {a : Nat} (h : zModel T F G a) : zModel_15 T F G a := h.2.2.2.2.2.2.2.2.2.2.2.2.2.2.2.1
theorem zM180 {T : zTl} {F : zRm'} {G : zGt} {a : Nat} (h : zModel T F G a) : F a 81 = some (a + 52) := (zMg_15 h).1
theorem zM181 {T : zTl} {F : zRm'} {G : zGt} {a : Nat} (h : zModel T F G a) : T[a + 52]? = some (50, 8) := (zMg_15 h).2.1
theorem zM182 {T : zTl} {F : zRm'} {G : zGt} {a : Nat} (h : zModel T F G a) : (∀ k, G (a + 52) k = (40, 0, 40)) := (zMg_15 h).2.2.1
theorem zM183 {T : zTl} {F : zRm'} {G : zGt} {a : Nat} (h : zModel T F G a) : F a 82 = some (a + 53) := (zMg_15 h).2.2.2.1
theorem zM184 {T : zTl} {F : zRm'} {G : zGt} {a : Nat} (h : zModel T F G a) : T[a + 53]? = some (50, 8) := (zMg_15 h).2.2.2.2.1
theorem zM185 {T : zTl} {F : zRm'} {G : zGt} {a : Nat} (h : zModel T F G a) : (∀ k, G (a + 53) k = (40, 0, 290)) := (zMg_15 h).2.2.2.2.2.1
theorem zM186 {T : zTl} {F : zRm'} {G : zGt} {a : Nat} (h : zModel T F G a) : F a 83 = some (a + 54) := (zMg_15 h).2.2.2.2.2.2.1
theorem zM187 {T : zTl} {F : zRm'} {G : zGt} {a : Nat} (h : zModel T F G a) : T[a + 54]? = some (50, 290) := (zMg_15 h).2.2.2.2.2.2.2.1
theorem zM188 {T : zTl} {F : zRm'} {G : zGt} {a : Nat} (h : zModel T F G a) : (∀ k, G (a + 54) k = (40, 0, 39)) := (zMg_15 h).2.2.2.2.2.2.2.2.1
theorem zM189 {T : zTl} {F : zRm'} {G : zGt} {a : Nat} (h : zModel T F G a) : F a 84 = some (a + 55) := (zMg_15 h).2.2.2.2.2.2.2.2.2.1
theorem zM190 {T : zTl} {F : zRm'} {G : zGt} {a : Nat} (h : zModel T F G a) : T[a + 55]? = some (50, 290) := (zMg_15 h).2.2.2.2.2.2.2.2.2.2.1
theorem zM191 {T : zTl} {F : zRm'} {G : zGt} {a : Nat} (h : zModel T F G a) : (∀ k, G (a + 55) k = (40, 0, 1)) := (zMg_15 h).2.2.2.2.2.2.2.2.2.2.2
theorem zMg_16 {T : zTl} {F : zRm'} {G : zGt} {a : Nat} (h : zModel T F G a) : zModel_16 T F G a := h.2.2.2.2.2.2.2.2.2.2.2.2.2.2.2.2.1
theorem zM192 {T : zTl} {F : zRm'} {G : zGt} {a : Nat} (h : zModel T F G a) : F a 85 = some (a + 56) := (zMg_16 h).1
theorem zM193 {T : zTl} {F : zRm'} {G : zGt} {a : Nat} (h : zModel T F G a) : T[a + 56]? = some (50, 290) := (zMg_16 h).2.1
theorem zM194 {T : zTl} {F : zRm'} {G : zGt} {a : Nat} (h : zModel T F G a) : (∀ k, G (a + 56) k = (40, 0, 1)) := (zMg_16 h).2.2.1
theorem zM195 {T : zTl} {F : zRm'} {G : zGt} {a : Nat} (h : zModel T F G a) : F a 86 = some (a + 57) := (zMg_16 h).2.2.2.1
theorem zM196 {T : zTl} {F : zRm'} {G : zGt} {a : Nat} (h : zModel T F G a) : T[a + 57]? = some (50, 290) := (zMg_16 h).2.2.2.2.1
theorem zM197 {T : zTl} {F : zRm'} {G : zGt} {a : Nat} (h : zModel T F G a) : (∀ k, G (a + 57) k = (40, 0, 1)) := (zMg_16 h).2.2.2.2.2.1
theorem zM198 {T : zTl} {F : zRm'} {G : zGt} {a : Nat} (h : zModel T F G a) : F a 87 = some (a + 58) := (zMg_16 h).2.2.2.2.2.2.1
theorem zM199 {T : zTl} {F : zRm'} {G : zGt} {a : Nat} (h : zModel T F G a) : T[a + 58]? = some (50, 290) := (zMg_16 h).2.2.2.2.2.2.2.1
theorem zM200 {T : zTl} {F : zRm'} {G : zGt} {a : Nat} (h : zModel T F G a) : (∀ k, G (a + 58) k = (40, 0, 1)) := (zMg_16 h).2.2.2.2.2.2.2.2.1
theorem zM201 {T : zTl} {F : zRm'} {G : zGt} {a : Nat} (h : zModel T F G a) : G a 88 = (40, (-1), 7) := (zMg_16 h).2.2.2.2.2.2.2.2.2.1
theorem zM202 {T : zTl} {F : zRm'} {G : zGt} {a : Nat} (h : zModel T F G a) : G a 89 = (40, 0, 290) := (zMg_16 h).2.2.2.2.2.2.2.2.2.2.1
theorem zM203 {T : zTl} {F : zRm'} {G : zGt} {a : Nat} (h : zModel T F G a) : F a 90 = some (a + 59) := (zMg_16 h).2.2.2.2.2.2.2.2.2.2.2
theorem zMg_17 {T : zTl} {F : zRm'} {G : zGt} {a : Nat} (h : zModel T F G a) : zModel_17 T F G a := h.2.2.2.2.2.2.2.2.2.2.2.2.2.2.2.2.2.1
theorem zM204 {T : zTl} {F : zRm'} {G : zGt} {a : Nat} (h : zModel T F G a) : T[a + 59]? = some (50, 3500) := (zMg_17 h).1
theorem zM205 {T : zTl} {F : zRm'} {G : zGt} {a : Nat} (h : zModel T F G a) : (∀ k, G (a + 59) k = (40, (-2147483648), 2147483647)) := (zMg_17 h).2.1
theorem zM206 {T : zTl} {F : zRm'} {G : zGt} {a : Nat} (h : zModel T F G a) : F a 91 = some (a + 60) := (zMg_17 h).2.2.1
theorem zM207 {T : zTl} {F : zRm'} {G : zGt} {a : Nat} (h : zModel T F G a) : T[a + 60]? = some (50, 3500) := (zMg_17 h).2.2.2.1
theorem zM208 {T : zTl} {F : zRm'} {G : zGt} {a : Nat} (h : zModel T F G a) : (∀ k, G (a + 60) k = (40, 0, 92970)) := (zMg_17 h).2.2.2.2.1
theorem zM209 {T : zTl} {F : zRm'} {G : zGt} {a : Nat} (h : zModel T F G a) : F a 92 = some (a + 61) := (zMg_17 h).2.2.2.2.2.1
theorem zM210 {T : zTl} {F : zRm'} {G : zGt} {a : Nat} (h : zModel T F G a) : T[a + 61]? = some (50, 3500) := (zMg_17 h).2.2.2.2.2.2.1
theorem zM211 {T : zTl} {F : zRm'} {G : zGt} {a : Nat} (h : zModel T F G a) : (∀ k, G (a + 61) k = (40, 0, 30)) := (zMg_17 h).2.2.2.2.2.2.2.1
theorem zM212 {T : zTl} {F : zRm'} {G : zGt} {a : Nat} (h : zModel T F G a) : F a 93 = some (a + 62) := (zMg_17 h).2.2.2.2.2.2.2.2.1
theorem zM213 {T : zTl} {F : zRm'} {G : zGt} {a : Nat} (h : zModel T F G a) : T[a + 62]? = some (50, 3500) := (zMg_17 h).2.2.2.2.2.2.2.2.2.1
theorem zM214 {T : zTl} {F : zRm'} {G : zGt} {a : Nat} (h : zModel T F G a) : (∀ k, G (a + 62) k = (40, (-2147483648), 2147483647)) := (zMg_17 h).2.2.2.2.2.2.2.2.2.2.1
theorem zM215 {T : zTl} {F : zRm'} {G : zGt} {a : Nat} (h : zModel T F G a) : F a 94 = some (a + 63) := (zMg_17 h).2.2.2.2.2.2.2.2.2.2.2
theorem zMg_18 {T : zTl} {F : zRm'} {G : zGt} {a : Nat} (h : zModel T F G a) : zModel_18 T F G a := h.2.2.2.2.2.2.2.2.2.2.2.2.2.2.2.2.2.2.1
theorem zM216 {T : zTl} {F : zRm'} {G : zGt} {a : Nat} (h : zModel T F G a) : T[a + 63]? = some (50, 3500) := (zMg_18 h).1
theorem zM217 {T : zTl} {F : zRm'} {G : zGt} {a : Nat} (h : zModel T F G a) : (∀ k, G (a + 63) k = (40, (-2147483648), 2147483647)) := (zMg_18 h).2.1
theorem zM218 {T : zTl} {F : zRm'} {G : zGt} {a : Nat} (h : zModel T F G a) : F a 95 = some (a + 64) := (zMg_18 h).2.2.1
theorem zM219 {T : zTl} {F : zRm'} {G : zGt} {a : Nat} (h : zModel T F G a) : T[a + 64]? = some (50, 3500) := (zMg_18 h).2.2.2.1
theorem zM220 {T : zTl} {F : zRm'} {G : zGt} {a : Nat} (h : zModel T F G a) : (∀ k, G (a + 64) k = (40, (-2147483648), 2147483647)) := (zMg_18 h).2.2.2.2.1
theorem zM221 {T : zTl} {F : zRm'} {G : zGt} {a : Nat} (h : zModel T F G a) : F a 96 = some (a + 65) := (zMg_18 h).2.2.2.2.2.1
theorem zM222 {T : zTl} {F : zRm'} {G : zGt} {a : Nat} (h : zModel T F G a) : T[a + 65]? = some (50, 3500) := (zMg_18 h).2.2.2.2.2.2.1
theorem zM223 {T : zTl} {F : zRm'} {G : zGt} {a : Nat} (h : zModel T F G a) : (∀ k, G (a + 65) k = (40, (-2147483648), 2147483647)) := (zMg_18 h).2.2.2.2.2.2.2.1
theorem zM224 {T : zTl} {F : zRm'} {G : zGt} {a : Nat} (h : zModel T F G a) : F a 97 = some (a + 66) := (zMg_18 h).2.2.2.2.2.2.2.2.1
theorem zM225 {T : zTl} {F : zRm'} {G : zGt} {a : Nat} (h : zModel T F G a) : T[a + 66]? = some (50, 3500) := (zMg_18 h).2.2.2.2.2.2.2.2.2.1
theorem zM226 {T : zTl} {F : zRm'} {G : zGt} {a : Nat} (h : zModel T F G a) : (∀ k, G (a + 66) k = (40, (-2147483648), 2147483647)) := (zMg_18 h).2.2.2.2.2.2.2.2.2.2.1
theorem zM227 {T : zTl} {F : zRm'} {G : zGt} {a : Nat} (h : zModel T F G a) : F a 98 = some (a + 67) := (zMg_18 h).2.2.2.2.2.2.2.2.2.2.2
theorem zMg_19 {T : zTl} {F : zRm'} {G : zGt} {a : Nat} (h : zModel T F G a) : zModel_19 T F G a := h.2.2.2.2.2.2.2.2.2.2.2.2.2.2.2.2.2.2.2.1
theorem zM228 {T : zTl} {F : zRm'} {G : zGt} {a : Nat} (h : zModel T F G a) : T[a + 67]? = some (51, 93000) := (zMg_19 h).1
theorem zM229 {T : zTl} {F : zRm'} {G : zGt} {a : Nat} (h : zModel T F G a) : (∀ k, G (a + 67) k = (40, (-128), 127)) := (zMg_19 h).2.1
theorem zM230 {T : zTl} {F : zRm'} {G : zGt} {a : Nat} (h : zModel T F G a) : G a 99 = (40, 0, 3500) := (zMg_19 h).2.2.1
theorem zM231 {T : zTl} {F : zRm'} {G : zGt} {a : Nat} (h : zModel T F G a) : G a 100 = (40, 0, 93000) := (zMg_19 h).2.2.2.1
theorem zM232 {T : zTl} {F : zRm'} {G : zGt} {a : Nat} (h : zModel T F G a) : G a 101 = (40, 0, 1) := (zMg_19 h).2.2.2.2.1
theorem zM233 {T : zTl} {F : zRm'} {G : zGt} {a : Nat} (h : zModel T F G a) : F a 102 = some (a + 68) := (zMg_19 h).2.2.2.2.2.1
theorem zM234 {T : zTl} {F : zRm'} {G : zGt} {a : Nat} (h : zModel T F G a) : T[a + 68]? = some (50, 4) := (zMg_19 h).2.2.2.2.2.2.1
theorem zM235 {T : zTl} {F : zRm'} {G : zGt} {a : Nat} (h : zModel T F G a) : (∀ k, G (a + 68) k = (40, (-2147483648), 2147483647)) := (zMg_19 h).2.2.2.2.2.2.2.1
theorem zM236 {T : zTl} {F : zRm'} {G : zGt} {a : Nat} (h : zModel T F G a) : F a 103 = some (a + 69) := (zMg_19 h).2.2.2.2.2.2.2.2.1
theorem zM237 {T : zTl} {F : zRm'} {G : zGt} {a : Nat} (h : zModel T F G a) : T[a + 69]? = some (50, 3500) := (zMg_19 h).2.2.2.2.2.2.2.2.2.1
theorem zM238 {T : zTl} {F : zRm'} {G : zGt} {a : Nat} (h : zModel T F G a) : (∀ k, G (a + 69) k = (40, (-2147483648), 2147483647)) := (zMg_19 h).2.2.2.2.2.2.2.2.2.2.1
theorem zM239 {T : zTl} {F : zRm'} {G : zGt} {a : Nat} (h : zModel T F G a) : F a 104 = some (a + 70) := (zMg_19 h).2.2.2.2.2.2.2.2.2.2.2
theorem zMg_20 {T : zTl} {F : zRm'} {G : zGt} {a : Nat} (h : zModel T F G a) : zModel_20 T F G a := h.2.2.2.2.2.2.2.2.2.2.2.2.2.2.2.2.2.2.2.2.1
theorem zM240 {T : zTl} {F : zRm'} {G : zGt} {a : Nat} (h : zModel T F G a) : T[a + 70]? = some (50, 3500) := (zMg_20 h).1
theorem zM241 {T : zTl} {F : zRm'} {G : zGt} {a : Nat} (h : zModel T F G a) : (∀ k, G (a + 70) k = (40, 0, 92970)) := (zMg_20 h).2.1
theorem zM242 {T : zTl} {F : zRm'} {G : zGt} {a : Nat} (h : zModel T F G a) : F a 105 = some (a + 71) := (zMg_20 h).2.2.1
theorem zM243 {T : zTl} {F : zRm'} {G : zGt} {a : Nat} (h : zModel T F G a) : T[a + 71]? = some (50, 3500) := (zMg_20 h).2.2.2.1
theorem zM244 {T : zTl} {F : zRm'} {G : zGt} {a : Nat} (h : zModel T F G a) : (∀ k, G (a + 71) k = (40, 0, 30)) := (zMg_20 h).2.2.2.2.1
theorem zM245 {T : zTl} {F : zRm'} {G : zGt} {a : Nat} (h : zModel T F G a) : F a 106 = some (a + 72) := (zMg_20 h).2.2.2.2.2.1
theorem zM246 {T : zTl} {F : zRm'} {G : zGt} {a : Nat} (h : zModel T F G a) : T[a + 72]? = some (50, 3500) := (zMg_20 h).2.2.2.2.2.2.1
theorem zM247 {T : zTl} {F : zRm'} {G : zGt} {a : Nat} (h : zModel T F G a) : (∀ k, G (a + 72) k = (40, (-2147483648), 2147483647)) := (zMg_20 h).2.2.2.2.2.2.2.1
theorem zM248 {T : zTl} {F : zRm'} {G : zGt} {a : Nat} (h : zModel T F G a) : F a 107 = some (a + 73) := (zMg_20 h).2.2.2.2.2.2.2.2.1
theorem zM249 {T : zTl} {F : zRm'} {G : zGt} {a : Nat} (h : zModel T F G a) : T[a + 73]? = some (50, 3500) := (zMg_20 h).2.2.2.2.2.2.2.2.2.1
theorem zM250 {T : zTl} {F : zRm'} {G : zGt} {a : Nat} (h : zModel T F G a) : (∀ k, G (a + 73) k = (40, (-2147483648), 2147483647)) := (zMg_20 h).2.2.2.2.2.2.2.2.2.2.1
theorem zM251 {T : zTl} {F : zRm'} {G : zGt} {a : Nat} (h : zModel T F G a) : F a 108 = some (a + 74) := (zMg_20 h).2.2.2.2.2.2.2.2.2.2.2
theorem zMg_21 {T : zTl} {F : zRm'} {G : zGt} {a : Nat} (h : zModel T F G a) : zModel_21 T F G a := h.2.2.2.2.2.2.2.2.2.2.2.2.2.2.2.2.2.2.2.2.2.1
theorem zM252 {T : zTl} {F : zRm'} {G : zGt} {a : Nat} (h : zModel T F G a) : T[a + 74]? = some (50, 3500) := (zMg_21 h).1
theorem zM253 {T : zTl} {F : zRm'} {G : zGt} {a : Nat} (h : zModel T F G a) : (∀ k, G (a + 74) k = (40, (-2147483648), 2147483647)) := (zMg_21 h).2.1
theorem zM254 {T : zTl} {F : zRm'} {G : zGt} {a : Nat} (h : zModel T F G a) : F a 109 = some (a + 75) := (zMg_21 h).2.2.1
theorem zM255 {T : zTl} {F : zRm'} {G : zGt} {a : Nat} (h : zModel T F G a) : T[a + 75]? = some (50, 3500) := (zMg_21 h).2.2.2.1
theorem zM256 {T : zTl} {F : zRm'} {G : zGt} {a : Nat} (h : zModel T F G a) : (∀ k, G (a + 75) k = (40, (-2147483648), 2147483647)) := (zMg_21 h).2.2.2.2.1
theorem zM257 {T : zTl} {F : zRm'} {G : zGt} {a : Nat} (h : zModel T F G a) : F a 110 = some (a + 76) := (zMg_21 h).2.2.2.2.2.1
theorem zM258 {T : zTl} {F : zRm'} {G : zGt} {a : Nat} (h : zModel T F G a) : T[a + 76]? = some (50, 3500) := (zMg_21 h).2.2.2.2.2.2.1
theorem zM259 {T : zTl} {F : zRm'} {G : zGt} {a : Nat} (h : zModel T F G a) : (∀ k, G (a + 76) k = (40, (-2147483648), 2147483647)) := (zMg_21 h).2.2.2.2.2.2.2.1
theorem zM260 {T : zTl} {F : zRm'} {G : zGt} {a : Nat} (h : zModel T F G a) : F a 111 = some (a + 77) := (zMg_21 h).2.2.2.2.2.2.2.2.1
theorem zM261 {T : zTl} {F : zRm'} {G : zGt} {a : Nat} (h : zModel T F G a) : T[a + 77]? = some (51, 93000) := (zMg_21 h).2.2.2.2.2.2.2.2.2.1
theorem zM262 {T : zTl} {F : zRm'} {G : zGt} {a : Nat} (h : zModel T F G a) : (∀ k, G (a + 77) k = (40, (-128), 127)) := (zMg_21 h).2.2.2.2.2.2.2.2.2.2.1
theorem zM263 {T : zTl} {F : zRm'} {G : zGt} {a : Nat} (h : zModel T F G a) : G a 112 = (40, 0, 3500) := (zMg_21 h).2.2.2.2.2.2.2.2.2.2.2
theorem zMg_22 {T : zTl} {F : zRm'} {G : zGt} {a : Nat} (h : zModel T F G a) : zModel_22 T F G a := h.2.2.2.2.2.2.2.2.2.2.2.2.2.2.2.2.2.2.2.2.2.2.1
theorem zM264 {T : zTl} {F : zRm'} {G : zGt} {a : Nat} (h : zModel T F G a) : F a 113 = some (a + 78) := (zMg_22 h).1
theorem zM265 {T : zTl} {F : zRm'} {G : zGt} {a : Nat} (h : zModel T F G a) : T[a + 78]? = some (50, 160) := (zMg_22 h).2.1
theorem zM266 {T : zTl} {F : zRm'} {G : zGt} {a : Nat} (h : zModel T F G a) : (∀ k, G (a + 78) k = (40, (-2147483648), 2147483647)) := (zMg_22 h).2.2.1
theorem zM267 {T : zTl} {F : zRm'} {G : zGt} {a : Nat} (h : zModel T F G a) : F a 114 = some (a + 79) := (zMg_22 h).2.2.2.1
theorem zM268 {T : zTl} {F : zRm'} {G : zGt} {a : Nat} (h : zModel T F G a) : T[a + 79]? = some (50, 8) := (zMg_22 h).2.2.2.2.1
theorem zM269 {T : zTl} {F : zRm'} {G : zGt} {a : Nat} (h : zModel T F G a) : (∀ k, G (a + 79) k = (40, 0, 9300)) := (zMg_22 h).2.2.2.2.2.1
theorem zM270 {T : zTl} {F : zRm'} {G : zGt} {a : Nat} (h : zModel T F G a) : F a 115 = some (a + 80) := (zMg_22 h).2.2.2.2.2.2.1
theorem zM271 {T : zTl} {F : zRm'} {G : zGt} {a : Nat} (h : zModel T F G a) : T[a + 80]? = some (50, 8) := (zMg_22 h).2.2.2.2.2.2.2.1
theorem zM272 {T : zTl} {F : zRm'} {G : zGt} {a : Nat} (h : zModel T F G a) : (∀ k, G (a + 80) k = (40, (-2147483648), 2147483647)) := (zMg_22 h).2.2.2.2.2.2.2.2.1
theorem zM273 {T : zTl} {F : zRm'} {G : zGt} {a : Nat} (h : zModel T F G a) : F a 116 = some (a + 81) := (zMg_22 h).2.2.2.2.2.2.2.2.2.1
theorem zM274 {T : zTl} {F : zRm'} {G : zGt} {a : Nat} (h : zModel T F G a) : T[a + 81]? = some (50, 32) := (zMg_22 h).2.2.2.2.2.2.2.2.2.2.1
theorem zM275 {T : zTl} {F : zRm'} {G : zGt} {a : Nat} (h : zModel T F G a) : (∀ k, G (a + 81) k = (40, (-2147483648), 2147483647)) := (zMg_22 h).2.2.2.2.2.2.2.2.2.2.2
theorem zMg_23 {T : zTl} {F : zRm'} {G : zGt} {a : Nat} (h : zModel T F G a) : zModel_23 T F G a := h.2.2.2.2.2.2.2.2.2.2.2.2.2.2.2.2.2.2.2.2.2.2.2
theorem zM276 {T : zTl} {F : zRm'} {G : zGt} {a : Nat} (h : zModel T F G a) : F a 117 = some (a + 82) := (zMg_23 h).1
theorem zM277 {T : zTl} {F : zRm'} {G : zGt} {a : Nat} (h : zModel T F G a) : T[a + 82]? = some (51, 74400) := (zMg_23 h).2.1
theorem zM278 {T : zTl} {F : zRm'} {G : zGt} {a : Nat} (h : zModel T F G a) : (∀ k, G (a + 82) k = (40, (-128), 127)) := (zMg_23 h).2.2.1
theorem zM279 {T : zTl} {F : zRm'} {G : zGt} {a : Nat} (h : zModel T F G a) : G a 118 = (40, (-2147483648), 2147483647) := (zMg_23 h).2.2.2
