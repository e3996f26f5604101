/-! ===== what the constructors made, as components ===== -/
def zsel (l : List (Nat × Int × Int)) (k : Int) : Nat × Int × Int := (l[k.toNat]?).getD (0, (-2147483648), 2147483647)
theorem zsel_z {l : List (Nat × Int × Int)} (h : ∀ x ∈ l, x.2.1 ≤ 0 ∧ 0 ≤ x.2.2) (k : Int) : (zsel l k).2.1 ≤ 0 ∧ 0 ≤ (zsel l k).2.2 := by
  unfold zsel
  cases e : l[k.toNat]? with
  | none => exact ⟨by decide, by decide⟩
  | some x => exact h x (List.mem_of_getElem? e)
theorem zsel_l {l : List (Nat × Int × Int)} (h : ∀ x ∈ l, x.1 < 30) (k : Int) : (zsel l k).1 < 30 := by
  unfold zsel
  cases e : l[k.toNat]? with
  | none => exact show (0 : Nat) < 30 from by decide
  | some x => exact h x (List.mem_of_getElem? e)
theorem zsel_t {l : List (Nat × Int × Int)} (h : ∀ x ∈ l, x.1 ≠ 2 ∧ x.1 ≠ 4 ∧ x.1 ≠ 8) (k : Int) : (zsel l k).1 ≠ 2 ∧ (zsel l k).1 ≠ 4 ∧ (zsel l k).1 ≠ 8 := by
  unfold zsel
  cases e : l[k.toNat]? with
  | none => exact ⟨by decide, by decide, by decide⟩
  | some x => exact h x (List.mem_of_getElem? e)
def zk0 (p : Nat) (k : Int) : Nat × Int × Int := (0, (-2147483648), 2147483647)
def zk1 (p : Nat) (k : Int) : Nat × Int × Int := (2, 0, (p : Int))
def zk2 (p : Nat) (k : Int) : Nat × Int × Int := (3, (-2147483648), 2147483647)
def zk3 (p : Nat) (k : Int) : Nat × Int × Int := (0, (-2147483648), 2147483647)
def zob4 (p : Nat) : List (Nat × Int × Int) := [(0, (-2147483648), 2147483647), (0, (-2147483648), 2147483647), (0, (-2147483648), 2147483647), (0, 0, (p : Int))]
def zk4 (p : Nat) (k : Int) : Nat × Int × Int := zsel (zob4 p) k
def zob5 (p : Nat) : List (Nat × Int × Int) := [(0, 0, 11), (0, (-2147483648), 2147483647)]
def zk5 (p : Nat) (k : Int) : Nat × Int × Int := zsel (zob5 p) k
def zk6 (p : Nat) (k : Int) : Nat × Int × Int := (20, (-128), 127)
def zk7 (p : Nat) (k : Int) : Nat × Int × Int := (20, 0, 401)
def zk8 (p : Nat) (k : Int) : Nat × Int × Int := (20, 0, 4)
def zob9 (p : Nat) : List (Nat × Int × Int) := [(0, (-2147483648), 2147483647), (0, (-2147483648), 2147483647), (0, (-2147483648), 2147483647), (21, 0, 40), (20, 0, 1), (20, 0, 500), (20, 0, 30)]
def zk9 (p : Nat) (k : Int) : Nat × Int × Int := zsel (zob9 p) k
def zk10 (p : Nat) (k : Int) : Nat × Int × Int := (0, (-128), 127)
def zob11 (p : Nat) : List (Nat × Int × Int) := [(0, (-2147483648), 2147483647), (0, 0, (p : Int))]
def zk11 (p : Nat) (k : Int) : Nat × Int × Int := zsel (zob11 p) k
def zk12 (p : Nat) (k : Int) : Nat × Int × Int := (0, 0, (p : Int))
def zk13 (p : Nat) (k : Int) : Nat × Int × Int := (0, 0, 31)
def zk14 (p : Nat) (k : Int) : Nat × Int × Int := (0, 0, 1)
def zk15 (p : Nat) (k : Int) : Nat × Int × Int := (0, (-1), 4)
def zk16 (p : Nat) (k : Int) : Nat × Int × Int := (0, 0, 20)
def zk17 (p : Nat) (k : Int) : Nat × Int × Int := (0, 0, 439)
def zob18 (p : Nat) : List (Nat × Int × Int) := [(0, 0, 12), (0, (-2147483648), 2147483647), (0, (-2147483648), 2147483647), (0, (-2147483648), 2147483647), (0, (-2147483648), 2147483647), (0, (-2147483648), 2147483647), (0, (-2147483648), 2147483647), (0, (-2147483648), 2147483647), (0, (-2147483648), 2147483647), (0, (-2147483648), 2147483647), (0, (-2147483648), 2147483647), (0, (-2147483648), 2147483647), (0, (-2147483648), 2147483647), (0, (-2147483648), 2147483647), (0, (-2147483648), 2147483647), (0, (-2147483648), 2147483647), (0, (-2147483648), 2147483647), (0, 0, 4)]
def zk18 (p : Nat) (k : Int) : Nat × Int × Int := zsel (zob18 p) k
def zob19 (p : Nat) : List (Nat × Int × Int) := [(0, (-2147483648), 2147483647), (0, (-2147483648), 2147483647), (0, (-2147483648), 2147483647), (0, (-2147483648), 2147483647), (0, (-2147483648), 2147483647), (1, 0, 4000), (1, (-1), 4000), (1, (-1), 3439)]
def zk19 (p : Nat) (k : Int) : Nat × Int × Int := zsel (zob19 p) k
def zk20 (p : Nat) (k : Int) : Nat × Int × Int := (0, (-1), 3439)
def zob21 (p : Nat) : List (Nat × Int × Int) := [(0, (-1), 3439), (0, (-1), 3439), (0, 0, 1), (0, (-1), 11), (0, 0, 20), (0, (-2147483648), 2147483647), (0, (-2147483648), 2147483647), (0, (-1), 3439), (0, 0, 4000), (0, (-2147483648), 2147483647), (0, (-2147483648), 2147483647), (0, (-2147483648), 2147483647), (0, 0, 1), (0, 0, 1), (0, 0, 1), (0, (-2147483648), 2147483647), (0, 0, 1), (0, (-2147483648), 2147483647)]
def zk21 (p : Nat) (k : Int) : Nat × Int × Int := zsel (zob21 p) k
def zob22 (p : Nat) : List (Nat × Int × Int) := [(0, (-2147483648), 2147483647), (0, (-2147483648), 2147483647), (0, (-2147483648), 2147483647), (0, (-2147483648), 2147483647), (0, (-2147483648), 2147483647), (0, (-2147483648), 2147483647), (10, (-1), 100), (0, (-2147483648), 2147483647), (0, 0, 1)]
def zk22 (p : Nat) (k : Int) : Nat × Int × Int := zsel (zob22 p) k
def zk23 (p : Nat) (k : Int) : Nat × Int × Int := (19, 0, 30)
def zk24 (p : Nat) (k : Int) : Nat × Int × Int := (19, 0, 440)
def zob25 (p : Nat) : List (Nat × Int × Int) := [(0, (-2147483648), 2147483647), (0, (-2147483648), 2147483647), (0, (-2147483648), 2147483647), (19, 0, 3), (19, 0, 7), (0, (-2147483648), 2147483647), (0, (-2147483648), 2147483647)]
def zk25 (p : Nat) (k : Int) : Nat × Int × Int := zsel (zob25 p) k
def zk26 (p : Nat) (k : Int) : Nat × Int × Int := (19, (-128), 127)
def zk27 (p : Nat) (k : Int) : Nat × Int × Int := (14, 0, 3)
def zk28 (p : Nat) (k : Int) : Nat × Int × Int := (14, 0, 40)
def zk29 (p : Nat) (k : Int) : Nat × Int × Int := (14, 0, 280)
def zk30 (p : Nat) (k : Int) : Nat × Int × Int := (12, (-2147483648), 2147483647)
def zob31 (p : Nat) : List (Nat × Int × Int) := [(0, (-2147483648), 2147483647), (0, (-2147483648), 2147483647), (0, (-2147483648), 2147483647), (0, (-2147483648), 2147483647), (0, (-2147483648), 2147483647), (0, (-2147483648), 2147483647), (0, (-2147483648), 2147483647), (0, (-2147483648), 2147483647), (0, (-2147483648), 2147483647), (0, (-2147483648), 2147483647), (0, (-2147483648), 2147483647), (0, (-2147483648), 2147483647), (0, (-2147483648), 2147483647), (0, (-2147483648), 2147483647), (0, (-2147483648), 2147483647), (14, (-1), 6), (0, (-2147483648), 2147483647), (0, (-2147483648), 2147483647), (12, 0, 280), (12, (-2147483648), 2147483647)]
def zk31 (p : Nat) (k : Int) : Nat × Int × Int := zsel (zob31 p) k
def zk32 (p : Nat) (k : Int) : Nat × Int × Int := (18, (-128), 127)
def zk33 (p : Nat) (k : Int) : Nat × Int × Int := (20, 0, 1)
def zk34 (p : Nat) (k : Int) : Nat × Int × Int := (29, (-128), 127)
def zob35 (p : Nat) : List (Nat × Int × Int) := [(0, (-2147483648), 2147483647), (18, 0, 440), (0, (-2147483648), 2147483647), (0, (-2147483648), 2147483647), (0, (-2147483648), 2147483647), (0, (-2147483648), 2147483647), (29, 0, 30), (0, (-2147483648), 2147483647), (0, (-2147483648), 2147483647)]
def zk35 (p : Nat) (k : Int) : Nat × Int × Int := zsel (zob35 p) k
def zk36 (p : Nat) (k : Int) : Nat × Int × Int := (16, (-128), 127)
def zk37 (p : Nat) (k : Int) : Nat × Int × Int := (16, 0, 9305)
def zk38 (p : Nat) (k : Int) : Nat × Int × Int := (16, 0, 7)
def zob39 (p : Nat) : List (Nat × Int × Int) := [(0, (-2147483648), 2147483647), (0, (-2147483648), 2147483647), (0, (-2147483648), 2147483647), (0, (-2147483648), 2147483647), (0, (-2147483648), 2147483647), (16, (-1), 3)]
def zk39 (p : Nat) (k : Int) : Nat × Int × Int := zsel (zob39 p) k
def zk40 (p : Nat) (k : Int) : Nat × Int × Int := (40, (-128), 127)
def zk41 (p : Nat) (k : Int) : Nat × Int × Int := zfG k
def zk42 (p : Nat) (k : Int) : Nat × Int × Int := zkG k
def zk43 (p : Nat) (k : Int) : Nat × Int × Int := (40, 0, 1)
def zk44 (p : Nat) (k : Int) : Nat × Int × Int := (40, 0, 440)
def zk45 (p : Nat) (k : Int) : Nat × Int × Int := (40, 0, 3)
def zk46 (p : Nat) (k : Int) : Nat × Int × Int := (40, (-7531), 61970)
def zk47 (p : Nat) (k : Int) : Nat × Int × Int := (40, 0, 30)
def zk48 (p : Nat) (k : Int) : Nat × Int × Int := (40, (-2147483648), 2147483647)
def zk49 (p : Nat) (k : Int) : Nat × Int × Int := zwG k
def zk50 (p : Nat) (k : Int) : Nat × Int × Int := zwG k
def zk51 (p : Nat) (k : Int) : Nat × Int × Int := (40, 0, 439)
def zk52 (p : Nat) (k : Int) : Nat × Int × Int := (40, 0, 194000)
def zk53 (p : Nat) (k : Int) : Nat × Int × Int := (40, 0, 256)
def zk54 (p : Nat) (k : Int) : Nat × Int × Int := (40, (-1), 11)
def zk55 (p : Nat) (k : Int) : Nat × Int × Int := (40, 0, 3499)
def zk56 (p : Nat) (k : Int) : Nat × Int × Int := (40, 0, 22)
def zk57 (p : Nat) (k : Int) : Nat × Int × Int := (40, 0, 2040)
def zk58 (p : Nat) (k : Int) : Nat × Int × Int := (40, 0, 14000)
def zk59 (p : Nat) (k : Int) : Nat × Int × Int := (40, 0, 1000000)
def zk60 (p : Nat) (k : Int) : Nat × Int × Int := (40, 0, 200)
def zk61 (p : Nat) (k : Int) : Nat × Int × Int := (40, 0, 11000)
def zk62 (p : Nat) (k : Int) : Nat × Int × Int := (40, 0, 42)
def zk63 (p : Nat) (k : Int) : Nat × Int × Int := (40, (-1), 11000)
def zk64 (p : Nat) (k : Int) : Nat × Int × Int := (40, 0, 40)
def zk65 (p : Nat) (k : Int) : Nat × Int × Int := (40, 0, 290)
def zk66 (p : Nat) (k : Int) : Nat × Int × Int := (40, 0, 39)
def zk67 (p : Nat) (k : Int) : Nat × Int × Int := (40, 0, 92970)
def zk68 (p : Nat) (k : Int) : Nat × Int × Int := (40, 0, 9300)
def zob69 (p : Nat) : List (Nat × Int × Int) := [(40, 0, 1), (0, (-2147483648), 2147483647), (40, 0, 440), (40, 0, 440), (0, (-2147483648), 2147483647), (0, (-2147483648), 2147483647), (0, (-2147483648), 2147483647), (0, (-2147483648), 2147483647), (0, (-2147483648), 2147483647), (40, 0, 1), (0, (-2147483648), 2147483647), (40, 0, 40), (0, (-2147483648), 2147483647), (40, 0, 30), (0, (-2147483648), 2147483647), (0, (-2147483648), 2147483647), (0, (-2147483648), 2147483647), (0, (-2147483648), 2147483647), (0, (-2147483648), 2147483647), (0, (-2147483648), 2147483647), (0, (-2147483648), 2147483647), (0, (-2147483648), 2147483647), (0, (-2147483648), 2147483647), (40, 0, 440), (40, 0, 61900), (40, 0, 3500), (40, 0, 14000), (40, 0, 440), (40, (-1), 3), (40, (-1), 39), (0, (-2147483648), 2147483647), (0, (-2147483648), 2147483647), (0, (-2147483648), 2147483647), (0, (-2147483648), 2147483647), (40, 0, 3), (0, (-2147483648), 2147483647), (0, (-2147483648), 2147483647), (40, 0, 4), (0, (-2147483648), 2147483647), (0, (-2147483648), 2147483647), (0, (-2147483648), 2147483647), (0, (-2147483648), 2147483647), (0, (-2147483648), 2147483647), (0, (-2147483648), 2147483647), (0, (-2147483648), 2147483647), (0, (-2147483648), 2147483647), (0, (-2147483648), 2147483647), (0, (-2147483648), 2147483647), (0, (-2147483648), 2147483647), (0, (-2147483648), 2147483647), (0, (-2147483648), 2147483647), (0, (-2147483648), 2147483647), (0, (-2147483648), 2147483647), (0, (-2147483648), 2147483647), (0, (-2147483648), 2147483647), (0, (-2147483648), 2147483647), (0, (-2147483648), 2147483647), (40, (-1), 101), (40, 0, 256), (40, 0, 194000), (40, 0, 2040), (40, 0, 3500), (40, 0, 100), (40, 0, 440), (40, 0, 440), (40, 0, 1), (0, (-2147483648), 2147483647), (0, (-2147483648), 2147483647), (0, (-2147483648), 2147483647), (0, (-2147483648), 2147483647), (0, (-2147483648), 2147483647), (0, (-2147483648), 2147483647), (0, (-2147483648), 2147483647), (0, (-2147483648), 2147483647), (40, 0, 11000), (40, 0, 3600), (40, (-2147483648), 2147483647), (0, (-2147483648), 2147483647), (40, 0, 1), (0, (-2147483648), 2147483647), (0, (-2147483648), 2147483647), (0, (-2147483648), 2147483647), (0, (-2147483648), 2147483647), (0, (-2147483648), 2147483647), (0, (-2147483648), 2147483647), (0, (-2147483648), 2147483647), (0, (-2147483648), 2147483647), (0, (-2147483648), 2147483647), (40, (-1), 7), (40, 0, 290), (0, (-2147483648), 2147483647), (0, (-2147483648), 2147483647), (0, (-2147483648), 2147483647), (0, (-2147483648), 2147483647), (0, (-2147483648), 2147483647), (0, (-2147483648), 2147483647), (0, (-2147483648), 2147483647), (0, (-2147483648), 2147483647), (0, (-2147483648), 2147483647), (40, 0, 3500), (40, 0, 93000), (40, 0, 1), (0, (-2147483648), 2147483647), (0, (-2147483648), 2147483647), (0, (-2147483648), 2147483647), (0, (-2147483648), 2147483647), (0, (-2147483648), 2147483647), (0, (-2147483648), 2147483647), (0, (-2147483648), 2147483647), (0, (-2147483648), 2147483647), (0, (-2147483648), 2147483647), (0, (-2147483648), 2147483647), (40, 0, 3500), (0, (-2147483648), 2147483647), (0, (-2147483648), 2147483647), (0, (-2147483648), 2147483647), (0, (-2147483648), 2147483647), (0, (-2147483648), 2147483647), (40, (-2147483648), 2147483647)]
def zk69 (p : Nat) (k : Int) : Nat × Int × Int := zsel (zob69 p) k
def zk70 (p : Nat) (k : Int) : Nat × Int × Int := (0, 0, 0)
def zKds : List (Nat → Int → Nat × Int × Int) := [zk0, zk1, zk2, zk3, zk4, zk5, zk6, zk7, zk8, zk9, zk10, zk11, zk12, zk13, zk14, zk15, zk16, zk17, zk18, zk19, zk20, zk21, zk22, zk23, zk24, zk25, zk26, zk27, zk28, zk29, zk30, zk31, zk32, zk33, zk34, zk35, zk36, zk37, zk38, zk39, zk40, zk41, zk42, zk43, zk44, zk45, zk46, zk47, zk48, zk49, zk50, zk51, zk52, zk53, zk54, zk55, zk56, zk57, zk58, zk59, zk60, zk61, zk62, zk63, zk64, zk65, zk66, zk67, zk68, zk69, zk70]
def zKd (u : Nat × Nat) (k : Int) : Nat × Int × Int := ((zKds[u.1]?).getD (fun _ _ => (0, (-2147483648), 2147483647))) u.2 k
def zGu (U : zTl) : zGt := fun c k => zKd ((U[c]?).getD (0, 0)) k
theorem zGu_at {U : zTl} {c : Nat} {u : Nat × Nat} (h : U[c]? = some u) (k : Int) : zGu U c k = zKd u k := by
  unfold zGu
  rw [h]
  rfl
theorem zob4_z (p : Nat) : ∀ x ∈ zob4 p, x.2.1 ≤ 0 ∧ 0 ≤ x.2.2 := by
  intro x hx
  simp only [zob4, List.mem_cons, List.not_mem_nil, or_false] at hx
  rcases hx with rfl | rfl | rfl | rfl <;> (constructor <;> simp)
theorem zob4_t (p : Nat) : ∀ x ∈ zob4 p, x.1 ≠ 2 ∧ x.1 ≠ 4 ∧ x.1 ≠ 8 := by
  intro x hx
  simp only [zob4, List.mem_cons, List.not_mem_nil, or_false] at hx
  rcases hx with rfl | rfl | rfl | rfl <;> exact ⟨Nat.ne_of_beq_eq_false rfl, Nat.ne_of_beq_eq_false rfl, Nat.ne_of_beq_eq_false rfl⟩
set_option maxRecDepth 100000 in
theorem zob5_z (p : Nat) : ∀ x ∈ zob5 p, x.2.1 ≤ 0 ∧ 0 ≤ x.2.2 := show ∀ x ∈ zob5 0, x.2.1 ≤ 0 ∧ 0 ≤ x.2.2 from by decide
set_option maxRecDepth 100000 in
theorem zob5_t (p : Nat) : ∀ x ∈ zob5 p, x.1 ≠ 2 ∧ x.1 ≠ 4 ∧ x.1 ≠ 8 := show ∀ x ∈ zob5 0, x.1 ≠ 2 ∧ x.1 ≠ 4 ∧ x.1 ≠ 8 from by decide
set_option maxRecDepth 100000 in
theorem zob9_z (p : Nat) : ∀ x ∈ zob9 p, x.2.1 ≤ 0 ∧ 0 ≤ x.2.2 := show ∀ x ∈ zob9 0, x.2.1 ≤ 0 ∧ 0 ≤ x.2.2 from by decide
set_option maxRecDepth 100000 in
theorem zob9_t (p : Nat) : ∀ x ∈ zob9 p, x.1 ≠ 2 ∧ x.1 ≠ 4 ∧ x.1 ≠ 8 := show ∀ x ∈ zob9 0, x.1 ≠ 2 ∧ x.1 ≠ 4 ∧ x.1 ≠ 8 from by decide
theorem zob11_z (p : Nat) : ∀ x ∈ zob11 p, x.2.1 ≤ 0 ∧ 0 ≤ x.2.2 := by
  intro x hx
  simp only [zob11, List.mem_cons, List.not_mem_nil, or_false] at hx
  rcases hx with rfl | rfl <;> (constructor <;> simp)
theorem zob11_t (p : Nat) : ∀ x ∈ zob11 p, x.1 ≠ 2 ∧ x.1 ≠ 4 ∧ x.1 ≠ 8 := by
  intro x hx
  simp only [zob11, List.mem_cons, List.not_mem_nil, or_false] at hx
  rcases hx with rfl | rfl <;> exact ⟨Nat.ne_of_beq_eq_false rfl, Nat.ne_of_beq_eq_false rfl, Nat.ne_of_beq_eq_false rfl⟩
set_option maxRecDepth 100000 in
theorem zob18_z (p : Nat) : ∀ x ∈ zob18 p, x.2.1 ≤ 0 ∧ 0 ≤ x.2.2 := show ∀ x ∈ zob18 0, x.2.1 ≤ 0 ∧ 0 ≤ x.2.2 from by decide
set_option maxRecDepth 100000 in
theorem zob18_t (p : Nat) : ∀ x ∈ zob18 p, x.1 ≠ 2 ∧ x.1 ≠ 4 ∧ x.1 ≠ 8 := show ∀ x ∈ zob18 0, x.1 ≠ 2 ∧ x.1 ≠ 4 ∧ x.1 ≠ 8 from by decide
set_option maxRecDepth 100000 in
theorem zob19_z (p : Nat) : ∀ x ∈ zob19 p, x.2.1 ≤ 0 ∧ 0 ≤ x.2.2 := show ∀ x ∈ zob19 0, x.2.1 ≤ 0 ∧ 0 ≤ x.2.2 from by decide
set_option maxRecDepth 100000 in
theorem zob19_t (p : Nat) : ∀ x ∈ zob19 p, x.1 ≠ 2 ∧ x.1 ≠ 4 ∧ x.1 ≠ 8 := show ∀ x ∈ zob19 0, x.1 ≠ 2 ∧ x.1 ≠ 4 ∧ x.1 ≠ 8 from by decide
set_option maxRecDepth 100000 in
theorem zob21_z (p : Nat) : ∀ x ∈ zob21 p, x.2.1 ≤ 0 ∧ 0 ≤ x.2.2 := show ∀ x ∈ zob21 0, x.2.1 ≤ 0 ∧ 0 ≤ x.2.2 from by decide
set_option maxRecDepth 100000 in
theorem zob21_t (p : Nat) : ∀ x ∈ zob21 p, x.1 ≠ 2 ∧ x.1 ≠ 4 ∧ x.1 ≠ 8 := show ∀ x ∈ zob21 0, x.1 ≠ 2 ∧ x.1 ≠ 4 ∧ x.1 ≠ 8 from by decide
set_option maxRecDepth 100000 in
theorem zob22_z (p : Nat) : ∀ x ∈ zob22 p, x.2.1 ≤ 0 ∧ 0 ≤ x.2.2 := show ∀ x ∈ zob22 0, x.2.1 ≤ 0 ∧ 0 ≤ x.2.2 from by decide
set_option maxRecDepth 100000 in
theorem zob22_t (p : Nat) : ∀ x ∈ zob22 p, x.1 ≠ 2 ∧ x.1 ≠ 4 ∧ x.1 ≠ 8 := show ∀ x ∈ zob22 0, x.1 ≠ 2 ∧ x.1 ≠ 4 ∧ x.1 ≠ 8 from by decide
set_option maxRecDepth 100000 in
theorem zob25_z (p : Nat) : ∀ x ∈ zob25 p, x.2.1 ≤ 0 ∧ 0 ≤ x.2.2 := show ∀ x ∈ zob25 0, x.2.1 ≤ 0 ∧ 0 ≤ x.2.2 from by decide
set_option maxRecDepth 100000 in
theorem zob25_t (p : Nat) : ∀ x ∈ zob25 p, x.1 ≠ 2 ∧ x.1 ≠ 4 ∧ x.1 ≠ 8 := show ∀ x ∈ zob25 0, x.1 ≠ 2 ∧ x.1 ≠ 4 ∧ x.1 ≠ 8 from by decide
set_option maxRecDepth 100000 in
theorem zob31_z (p : Nat) : ∀ x ∈ zob31 p, x.2.1 ≤ 0 ∧ 0 ≤ x.2.2 := show ∀ x ∈ zob31 0, x.2.1 ≤ 0 ∧ 0 ≤ x.2.2 from by decide
set_option maxRecDepth 100000 in
theorem zob31_t (p : Nat) : ∀ x ∈ zob31 p, x.1 ≠ 2 ∧ x.1 ≠ 4 ∧ x.1 ≠ 8 := show ∀ x ∈ zob31 0, x.1 ≠ 2 ∧ x.1 ≠ 4 ∧ x.1 ≠ 8 from by decide
set_option maxRecDepth 100000 in
theorem zob35_z (p : Nat) : ∀ x ∈ zob35 p, x.2.1 ≤ 0 ∧ 0 ≤ x.2.2 := show ∀ x ∈ zob35 0, x.2.1 ≤ 0 ∧ 0 ≤ x.2.2 from by decide
set_option maxRecDepth 100000 in
theorem zob35_t (p : Nat) : ∀ x ∈ zob35 p, x.1 ≠ 2 ∧ x.1 ≠ 4 ∧ x.1 ≠ 8 := show ∀ x ∈ zob35 0, x.1 ≠ 2 ∧ x.1 ≠ 4 ∧ x.1 ≠ 8 from by decide
set_option maxRecDepth 100000 in
theorem zob39_z (p : Nat) : ∀ x ∈ zob39 p, x.2.1 ≤ 0 ∧ 0 ≤ x.2.2 := show ∀ x ∈ zob39 0, x.2.1 ≤ 0 ∧ 0 ≤ x.2.2 from by decide
set_option maxRecDepth 100000 in
theorem zob39_t (p : Nat) : ∀ x ∈ zob39 p, x.1 ≠ 2 ∧ x.1 ≠ 4 ∧ x.1 ≠ 8 := show ∀ x ∈ zob39 0, x.1 ≠ 2 ∧ x.1 ≠ 4 ∧ x.1 ≠ 8 from by decide
set_option maxRecDepth 100000 in
theorem zob69_z (p : Nat) : ∀ x ∈ zob69 p, x.2.1 ≤ 0 ∧ 0 ≤ x.2.2 := show ∀ x ∈ zob69 0, x.2.1 ≤ 0 ∧ 0 ≤ x.2.2 from by decide
set_option maxRecDepth 100000 in
theorem zob69_t (p : Nat) : ∀ x ∈ zob69 p, x.1 ≠ 2 ∧ x.1 ≠ 4 ∧ x.1 ≠ 8 := show ∀ x ∈ zob69 0, x.1 ≠ 2 ∧ x.1 ≠ 4 ∧ x.1 ≠ 8 from by decide
def zKok (f : Nat → Int → Nat × Int × Int) : Prop := ∀ (p : Nat) (k : Int), (f p k).2.1 ≤ 0 ∧ 0 ≤ (f p k).2.2
def zKot (f : Nat → Int → Nat × Int × Int) : Prop := ∀ (p : Nat) (k : Int), (f p k).1 ≠ 2 ∧ (f p k).1 ≠ 4 ∧ (f p k).1 ≠ 8
theorem zfa_c {α : Type} {P : α → Prop} {x : α} {l : List α} (h : P x) (h2 : ∀ y ∈ l, P y) : ∀ y ∈ x :: l, P y := by
  intro y hy
  rcases List.mem_cons.mp hy with rfl | hy
  · exact h
  · exact h2 y hy
theorem zfa_n {α : Type} {P : α → Prop} : ∀ y ∈ ([] : List α), P y := fun y hy => by cases hy
theorem zkG_z (k : Int) : (zkG k).2.1 ≤ 0 ∧ 0 ≤ (zkG k).2.2 := by
  unfold zkG
  split <;> exact zfG_z _
theorem zkG_t (k : Int) : (zkG k).1 = 40 := by
  unfold zkG
  split <;> exact zfG_t _
theorem zkz_0 : zKok (zk0) := fun p k => ⟨show ((-2147483648) : Int) ≤ 0 from by decide, show (0 : Int) ≤ 2147483647 from by decide⟩
theorem zkz_1 : zKok (zk1) := fun p k => ⟨show (0 : Int) ≤ 0 from by decide, show (0 : Int) ≤ (p : Int) from Int.natCast_nonneg p⟩
theorem zkz_2 : zKok (zk2) := fun p k => ⟨show ((-2147483648) : Int) ≤ 0 from by decide, show (0 : Int) ≤ 2147483647 from by decide⟩
theorem zkz_3 : zKok (zk3) := fun p k => ⟨show ((-2147483648) : Int) ≤ 0 from by decide, show (0 : Int) ≤ 2147483647 from by decide⟩
theorem zkz_4 : zKok (zk4) := fun p k => zsel_z (zob4_z p) k
theorem zkz_5 : zKok (zk5) := fun p k => zsel_z (zob5_z p) k
theorem zkz_6 : zKok (zk6) := fun p k => ⟨show ((-128) : Int) ≤ 0 from by decide, show (0 : Int) ≤ 127 from by decide⟩
theorem zkz_7 : zKok (zk7) := fun p k => ⟨show (0 : Int) ≤ 0 from by decide, show (0 : Int) ≤ 401 from by decide⟩
theorem zkz_8 : zKok (zk8) := fun p k => ⟨show (0 : Int) ≤ 0 from by decide, show (0 : Int) ≤ 4 from by decide⟩
theorem zkz_9 : zKok (zk9) := fun p k => zsel_z (zob9_z p) k
theorem zkz_10 : zKok (zk10) := fun p k => ⟨show ((-128) : Int) ≤ 0 from by decide, show (0 : Int) ≤ 127 from by decide⟩
theorem zkz_11 : zKok (zk11) := fun p k => zsel_z (zob11_z p) k
theorem zkz_12 : zKok (zk12) := fun p k => ⟨show (0 : Int) ≤ 0 from by decide, show (0 : Int) ≤ (p : Int) from Int.natCast_nonneg p⟩
theorem zkz_13 : zKok (zk13) := fun p k => ⟨show (0 : Int) ≤ 0 from by decide, show (0 : Int) ≤ 31 from by decide⟩
theorem zkz_14 : zKok (zk14) := fun p k => ⟨show (0 : Int) ≤ 0 from by decide, show (0 : Int) ≤ 1 from by decide⟩
theorem zkz_15 : zKok (zk15) := fun p k => ⟨show ((-1) : Int) ≤ 0 from by decide, show (0 : Int) ≤ 4 from by decide⟩
theorem zkz_16 : zKok (zk16) := fun p k => ⟨show (0 : Int) ≤ 0 from by decide, show (0 : Int) ≤ 20 from by decide⟩
theorem zkz_17 : zKok (zk17) := fun p k => ⟨show (0 : Int) ≤ 0 from by decide, show (0 : Int) ≤ 439 from by decide⟩
theorem zkz_18 : zKok (zk18) := fun p k => zsel_z (zob18_z p) k
theorem zkz_19 : zKok (zk19) := fun p k => zsel_z (zob19_z p) k
theorem zkz_20 : zKok (zk20) := fun p k => ⟨show ((-1) : Int) ≤ 0 from by decide, show (0 : Int) ≤ 3439 from by decide⟩
theorem zkz_21 : zKok (zk21) := fun p k => zsel_z (zob21_z p) k
theorem zkz_22 : zKok (zk22) := fun p k => zsel_z (zob22_z p) k
theorem zkz_23 : zKok (zk23) := fun p k => ⟨show (0 : Int) ≤ 0 from by decide, show (0 : Int) ≤ 30 from by decide⟩
theorem zkz_24 : zKok (zk24) := fun p k => ⟨show (0 : Int) ≤ 0 from by decide, show (0 : Int) ≤ 440 from by decide⟩
theorem zkz_25 : zKok (zk25) := fun p k => zsel_z (zob25_z p) k
theorem zkz_26 : zKok (zk26) := fun p k => ⟨show ((-128) : Int) ≤ 0 from by decide, show (0 : Int) ≤ 127 from by decide⟩
theorem zkz_27 : zKok (zk27) := fun p k => ⟨show (0 : Int) ≤ 0 from by decide, show (0 : Int) ≤ 3 from by decide⟩
theorem zkz_28 : zKok (zk28) := fun p k => ⟨show (0 : Int) ≤ 0 from by decide, show (0 : Int) ≤ 40 from by decide⟩
theorem zkz_29 : zKok (zk29) := fun p k => ⟨show (0 : Int) ≤ 0 from by decide, show (0 : Int) ≤ 280 from by decide⟩
theorem zkz_30 : zKok (zk30) := fun p k => ⟨show ((-2147483648) : Int) ≤ 0 from by decide, show (0 : Int) ≤ 2147483647 from by decide⟩
theorem zkz_31 : zKok (zk31) := fun p k => zsel_z (zob31_z p) k
theorem zkz_32 : zKok (zk32) := fun p k => ⟨show ((-128) : Int) ≤ 0 from by decide, show (0 : Int) ≤ 127 from by decide⟩
theorem zkz_33 : zKok (zk33) := fun p k => ⟨show (0 : Int) ≤ 0 from by decide, show (0 : Int) ≤ 1 from by decide⟩
theorem zkz_34 : zKok (zk34) := fun p k => ⟨show ((-128) : Int) ≤ 0 from by decide, show (0 : Int) ≤ 127 from by decide⟩
theorem zkz_35 : zKok (zk35) := fun p k => zsel_z (zob35_z p) k
theorem zkz_36 : zKok (zk36) := fun p k => ⟨show ((-128) : Int) ≤ 0 from by decide, show (0 : Int) ≤ 127 from by decide⟩
theorem zkz_37 : zKok (zk37) := fun p k => ⟨show (0 : Int) ≤ 0 from by decide, show (0 : Int) ≤ 9305 from by decide⟩
theorem zkz_38 : zKok (zk38) := fun p k => ⟨show (0 : Int) ≤ 0 from by decide, show (0 : Int) ≤ 7 from by decide⟩
theorem zkz_39 : zKok (zk39) := fun p k => zsel_z (zob39_z p) k
theorem zkz_40 : zKok (zk40) := fun p k => ⟨show ((-128) : Int) ≤ 0 from by decide, show (0 : Int) ≤ 127 from by decide⟩
theorem zkz_41 : zKok (zk41) := fun _ k => zfG_z k
theorem zkz_42 : zKok (zk42) := fun _ k => zkG_z k
theorem zkz_43 : zKok (zk43) := fun p k => ⟨show (0 : Int) ≤ 0 from by decide, show (0 : Int) ≤ 1 from by decide⟩
theorem zkz_44 : zKok (zk44) := fun p k => ⟨show (0 : Int) ≤ 0 from by decide, show (0 : Int) ≤ 440 from by decide⟩
theorem zkz_45 : zKok (zk45) := fun p k => ⟨show (0 : Int) ≤ 0 from by decide, show (0 : Int) ≤ 3 from by decide⟩
theorem zkz_46 : zKok (zk46) := fun p k => ⟨show ((-7531) : Int) ≤ 0 from by decide, show (0 : Int) ≤ 61970 from by decide⟩
theorem zkz_47 : zKok (zk47) := fun p k => ⟨show (0 : Int) ≤ 0 from by decide, show (0 : Int) ≤ 30 from by decide⟩
theorem zkz_48 : zKok (zk48) := fun p k => ⟨show ((-2147483648) : Int) ≤ 0 from by decide, show (0 : Int) ≤ 2147483647 from by decide⟩
theorem zkz_49 : zKok (zk49) := fun _ k => zwG_z k
theorem zkz_50 : zKok (zk50) := fun _ k => zwG_z k
theorem zkz_51 : zKok (zk51) := fun p k => ⟨show (0 : Int) ≤ 0 from by decide, show (0 : Int) ≤ 439 from by decide⟩
theorem zkz_52 : zKok (zk52) := fun p k => ⟨show (0 : Int) ≤ 0 from by decide, show (0 : Int) ≤ 194000 from by decide⟩
theorem zkz_53 : zKok (zk53) := fun p k => ⟨show (0 : Int) ≤ 0 from by decide, show (0 : Int) ≤ 256 from by decide⟩
theorem zkz_54 : zKok (zk54) := fun p k => ⟨show ((-1) : Int) ≤ 0 from by decide, show (0 : Int) ≤ 11 from by decide⟩
theorem zkz_55 : zKok (zk55) := fun p k => ⟨show (0 : Int) ≤ 0 from by decide, show (0 : Int) ≤ 3499 from by decide⟩
theorem zkz_56 : zKok (zk56) := fun p k => ⟨show (0 : Int) ≤ 0 from by decide, show (0 : Int) ≤ 22 from by decide⟩
theorem zkz_57 : zKok (zk57) := fun p k => ⟨show (0 : Int) ≤ 0 from by decide, show (0 : Int) ≤ 2040 from by decide⟩
theorem zkz_58 : zKok (zk58) := fun p k => ⟨show (0 : Int) ≤ 0 from by decide, show (0 : Int) ≤ 14000 from by decide⟩
theorem zkz_59 : zKok (zk59) := fun p k => ⟨show (0 : Int) ≤ 0 from by decide, show (0 : Int) ≤ 1000000 from by decide⟩
theorem zkz_60 : zKok (zk60) := fun p k => ⟨show (0 : Int) ≤ 0 from by decide, show (0 : Int) ≤ 200 from by decide⟩
theorem zkz_61 : zKok (zk61) := fun p k => ⟨show (0 : Int) ≤ 0 from by decide, show (0 : Int) ≤ 11000 from by decide⟩
theorem zkz_62 : zKok (zk62) := fun p k => ⟨show (0 : Int) ≤ 0 from by decide, show (0 : Int) ≤ 42 from by decide⟩
theorem zkz_63 : zKok (zk63) := fun p k => ⟨show ((-1) : Int) ≤ 0 from by decide, show (0 : Int) ≤ 11000 from by decide⟩
theorem zkz_64 : zKok (zk64) := fun p k => ⟨show (0 : Int) ≤ 0 from by decide, show (0 : Int) ≤ 40 from by decide⟩
theorem zkz_65 : zKok (zk65) := fun p k => ⟨show (0 : Int) ≤ 0 from by decide, show (0 : Int) ≤ 290 from by decide⟩
theorem zkz_66 : zKok (zk66) := fun p k => ⟨show (0 : Int) ≤ 0 from by decide, show (0 : Int) ≤ 39 from by decide⟩
theorem zkz_67 : zKok (zk67) := fun p k => ⟨show (0 : Int) ≤ 0 from by decide, show (0 : Int) ≤ 92970 from by decide⟩
theorem zkz_68 : zKok (zk68) := fun p k => ⟨show (0 : Int) ≤ 0 from by decide, show (0 : Int) ≤ 9300 from by decide⟩
theorem zkz_69 : zKok (zk69) := fun p k => zsel_z (zob69_z p) k
theorem zkz_70 : zKok (zk70) := fun p k => ⟨show (0 : Int) ≤ 0 from by decide, show (0 : Int) ≤ 0 from by decide⟩
theorem zkt_0 : zKot (zk0) := fun p k => ⟨show (0 : Nat) ≠ 2 from by decide, show (0 : Nat) ≠ 4 from by decide, show (0 : Nat) ≠ 8 from by decide⟩
theorem zkt_2 : zKot (zk2) := fun p k => ⟨show (3 : Nat) ≠ 2 from by decide, show (3 : Nat) ≠ 4 from by decide, show (3 : Nat) ≠ 8 from by decide⟩
theorem zkt_3 : zKot (zk3) := fun p k => ⟨show (0 : Nat) ≠ 2 from by decide, show (0 : Nat) ≠ 4 from by decide, show (0 : Nat) ≠ 8 from by decide⟩
theorem zkt_4 : zKot (zk4) := fun p k => zsel_t (zob4_t p) k
theorem zkt_5 : zKot (zk5) := fun p k => zsel_t (zob5_t p) k
theorem zkt_6 : zKot (zk6) := fun p k => ⟨show (20 : Nat) ≠ 2 from by decide, show (20 : Nat) ≠ 4 from by decide, show (20 : Nat) ≠ 8 from by decide⟩
theorem zkt_7 : zKot (zk7) := fun p k => ⟨show (20 : Nat) ≠ 2 from by decide, show (20 : Nat) ≠ 4 from by decide, show (20 : Nat) ≠ 8 from by decide⟩
theorem zkt_8 : zKot (zk8) := fun p k => ⟨show (20 : Nat) ≠ 2 from by decide, show (20 : Nat) ≠ 4 from by decide, show (20 : Nat) ≠ 8 from by decide⟩
theorem zkt_9 : zKot (zk9) := fun p k => zsel_t (zob9_t p) k
theorem zkt_10 : zKot (zk10) := fun p k => ⟨show (0 : Nat) ≠ 2 from by decide, show (0 : Nat) ≠ 4 from by decide, show (0 : Nat) ≠ 8 from by decide⟩
theorem zkt_11 : zKot (zk11) := fun p k => zsel_t (zob11_t p) k
theorem zkt_12 : zKot (zk12) := fun p k => ⟨show (0 : Nat) ≠ 2 from by decide, show (0 : Nat) ≠ 4 from by decide, show (0 : Nat) ≠ 8 from by decide⟩
theorem zkt_13 : zKot (zk13) := fun p k => ⟨show (0 : Nat) ≠ 2 from by decide, show (0 : Nat) ≠ 4 from by decide, show (0 : Nat) ≠ 8 from by decide⟩
theorem zkt_14 : zKot (zk14) := fun p k => ⟨show (0 : Nat) ≠ 2 from by decide, show (0 : Nat) ≠ 4 from by decide, show (0 : Nat) ≠ 8 from by decide⟩
theorem zkt_15 : zKot (zk15) := fun p k => ⟨show (0 : Nat) ≠ 2 from by decide, show (0 : Nat) ≠ 4 from by decide, show (0 : Nat) ≠ 8 from by decide⟩
theorem zkt_16 : zKot (zk16) := fun p k => ⟨show (0 : Nat) ≠ 2 from by decide, show (0 : Nat) ≠ 4 from by decide, show (0 : Nat) ≠ 8 from by decide⟩
theorem zkt_17 : zKot (zk17) := fun p k => ⟨show (0 : Nat) ≠ 2 from by decide, show (0 : Nat) ≠ 4 from by decide, show (0 : Nat) ≠ 8 from by decide⟩
theorem zkt_18 : zKot (zk18) := fun p k => zsel_t (zob18_t p) k
theorem zkt_19 : zKot (zk19) := fun p k => zsel_t (zob19_t p) k
theorem zkt_20 : zKot (zk20) := fun p k => ⟨show (0 : Nat) ≠ 2 from by decide, show (0 : Nat) ≠ 4 from by decide, show (0 : Nat) ≠ 8 from by decide⟩
theorem zkt_21 : zKot (zk21) := fun p k => zsel_t (zob21_t p) k
theorem zkt_22 : zKot (zk22) := fun p k => zsel_t (zob22_t p) k
theorem zkt_23 : zKot (zk23) := fun p k => ⟨show (19 : Nat) ≠ 2 from by decide, show (19 : Nat) ≠ 4 from by decide, show (19 : Nat) ≠ 8 from by decide⟩
theorem zkt_24 : zKot (zk24) := fun p k => ⟨show (19 : Nat) ≠ 2 from by decide, show (19 : Nat) ≠ 4 from by decide, show (19 : Nat) ≠ 8 from by decide⟩
theorem zkt_25 : zKot (zk25) := fun p k => zsel_t (zob25_t p) k
theorem zkt_26 : zKot (zk26) := fun p k => ⟨show (19 : Nat) ≠ 2 from by decide, show (19 : Nat) ≠ 4 from by decide, show (19 : Nat) ≠ 8 from by decide⟩
theorem zkt_27 : zKot (zk27) := fun p k => ⟨show (14 : Nat) ≠ 2 from by decide, show (14 : Nat) ≠ 4 from by decide, show (14 : Nat) ≠ 8 from by decide⟩
theorem zkt_28 : zKot (zk28) := fun p k => ⟨show (14 : Nat) ≠ 2 from by decide, show (14 : Nat) ≠ 4 from by decide, show (14 : Nat) ≠ 8 from by decide⟩
theorem zkt_29 : zKot (zk29) := fun p k => ⟨show (14 : Nat) ≠ 2 from by decide, show (14 : Nat) ≠ 4 from by decide, show (14 : Nat) ≠ 8 from by decide⟩
theorem zkt_30 : zKot (zk30) := fun p k => ⟨show (12 : Nat) ≠ 2 from by decide, show (12 : Nat) ≠ 4 from by decide, show (12 : Nat) ≠ 8 from by decide⟩
theorem zkt_31 : zKot (zk31) := fun p k => zsel_t (zob31_t p) k
theorem zkt_32 : zKot (zk32) := fun p k => ⟨show (18 : Nat) ≠ 2 from by decide, show (18 : Nat) ≠ 4 from by decide, show (18 : Nat) ≠ 8 from by decide⟩
theorem zkt_33 : zKot (zk33) := fun p k => ⟨show (20 : Nat) ≠ 2 from by decide, show (20 : Nat) ≠ 4 from by decide, show (20 : Nat) ≠ 8 from by decide⟩
theorem zkt_34 : zKot (zk34) := fun p k => ⟨show (29 : Nat) ≠ 2 from by decide, show (29 : Nat) ≠ 4 from by decide, show (29 : Nat) ≠ 8 from by decide⟩
theorem zkt_35 : zKot (zk35) := fun p k => zsel_t (zob35_t p) k
theorem zkt_36 : zKot (zk36) := fun p k => ⟨show (16 : Nat) ≠ 2 from by decide, show (16 : Nat) ≠ 4 from by decide, show (16 : Nat) ≠ 8 from by decide⟩
theorem zkt_37 : zKot (zk37) := fun p k => ⟨show (16 : Nat) ≠ 2 from by decide, show (16 : Nat) ≠ 4 from by decide, show (16 : Nat) ≠ 8 from by decide⟩
theorem zkt_38 : zKot (zk38) := fun p k => ⟨show (16 : Nat) ≠ 2 from by decide, show (16 : Nat) ≠ 4 from by decide, show (16 : Nat) ≠ 8 from by decide⟩
theorem zkt_39 : zKot (zk39) := fun p k => zsel_t (zob39_t p) k
theorem zkt_40 : zKot (zk40) := fun p k => ⟨show (40 : Nat) ≠ 2 from by decide, show (40 : Nat) ≠ 4 from by decide, show (40 : Nat) ≠ 8 from by decide⟩
theorem zkt_41 : zKot (zk41) := fun _ k => ⟨by show (zfG k).1 ≠ 2; rw [zfG_t]; decide, by show (zfG k).1 ≠ 4; rw [zfG_t]; decide, by show (zfG k).1 ≠ 8; rw [zfG_t]; decide⟩
theorem zkt_42 : zKot (zk42) := fun _ k => ⟨by show (zkG k).1 ≠ 2; rw [zkG_t]; decide, by show (zkG k).1 ≠ 4; rw [zkG_t]; decide, by show (zkG k).1 ≠ 8; rw [zkG_t]; decide⟩
theorem zkt_43 : zKot (zk43) := fun p k => ⟨show (40 : Nat) ≠ 2 from by decide, show (40 : Nat) ≠ 4 from by decide, show (40 : Nat) ≠ 8 from by decide⟩
theorem zkt_44 : zKot (zk44) := fun p k => ⟨show (40 : Nat) ≠ 2 from by decide, show (40 : Nat) ≠ 4 from by decide, show (40 : Nat) ≠ 8 from by decide⟩
theorem zkt_45 : zKot (zk45) := fun p k => ⟨show (40 : Nat) ≠ 2 from by decide, show (40 : Nat) ≠ 4 from by decide, show (40 : Nat) ≠ 8 from by decide⟩
theorem zkt_46 : zKot (zk46) := fun p k => ⟨show (40 : Nat) ≠ 2 from by decide, show (40 : Nat) ≠ 4 from by decide, show (40 : Nat) ≠ 8 from by decide⟩
theorem zkt_47 : zKot (zk47) := fun p k => ⟨show (40 : Nat) ≠ 2 from by decide, show (40 : Nat) ≠ 4 from by decide, show (40 : Nat) ≠ 8 from by decide⟩
theorem zkt_48 : zKot (zk48) := fun p k => ⟨show (40 : Nat) ≠ 2 from by decide, show (40 : Nat) ≠ 4 from by decide, show (40 : Nat) ≠ 8 from by decide⟩
theorem zkt_49 : zKot (zk49) := fun _ k => ⟨by show (zwG k).1 ≠ 2; rw [zwG_t]; decide, by show (zwG k).1 ≠ 4; rw [zwG_t]; decide, by show (zwG k).1 ≠ 8; rw [zwG_t]; decide⟩
theorem zkt_50 : zKot (zk50) := fun _ k => ⟨by show (zwG k).1 ≠ 2; rw [zwG_t]; decide, by show (zwG k).1 ≠ 4; rw [zwG_t]; decide, by show (zwG k).1 ≠ 8; rw [zwG_t]; decide⟩
theorem zkt_51 : zKot (zk51) := fun p k => ⟨show (40 : Nat) ≠ 2 from by decide, show (40 : Nat) ≠ 4 from by decide, show (40 : Nat) ≠ 8 from by decide⟩
theorem zkt_52 : zKot (zk52) := fun p k => ⟨show (40 : Nat) ≠ 2 from by decide, show (40 : Nat) ≠ 4 from by decide, show (40 : Nat) ≠ 8 from by decide⟩
theorem zkt_53 : zKot (zk53) := fun p k => ⟨show (40 : Nat) ≠ 2 from by decide, show (40 : Nat) ≠ 4 from by decide, show (40 : Nat) ≠ 8 from by decide⟩
theorem zkt_54 : zKot (zk54) := fun p k => ⟨show (40 : Nat) ≠ 2 from by decide, show (40 : Nat) ≠ 4 from by decide, show (40 : Nat) ≠ 8 from by decide⟩
theorem zkt_55 : zKot (zk55) := fun p k => ⟨show (40 : Nat) ≠ 2 from by decide, show (40 : Nat) ≠ 4 from by decide, show (40 : Nat) ≠ 8 from by decide⟩
theorem zkt_56 : zKot (zk56) := fun p k => ⟨show (40 : Nat) ≠ 2 from by decide, show (40 : Nat) ≠ 4 from by decide, show (40 : Nat) ≠ 8 from by decide⟩
theorem zkt_57 : zKot (zk57) := fun p k => ⟨show (40 : Nat) ≠ 2 from by decide, show (40 : Nat) ≠ 4 from by decide, show (40 : Nat) ≠ 8 from by decide⟩
theorem zkt_58 : zKot (zk58) := fun p k => ⟨show (40 : Nat) ≠ 2 from by decide, show (40 : Nat) ≠ 4 from by decide, show (40 : Nat) ≠ 8 from by decide⟩
theorem zkt_59 : zKot (zk59) := fun p k => ⟨show (40 : Nat) ≠ 2 from by decide, show (40 : Nat) ≠ 4 from by decide, show (40 : Nat) ≠ 8 from by decide⟩
theorem zkt_60 : zKot (zk60) := fun p k => ⟨show (40 : Nat) ≠ 2 from by decide, show (40 : Nat) ≠ 4 from by decide, show (40 : Nat) ≠ 8 from by decide⟩
theorem zkt_61 : zKot (zk61) := fun p k => ⟨show (40 : Nat) ≠ 2 from by decide, show (40 : Nat) ≠ 4 from by decide, show (40 : Nat) ≠ 8 from by decide⟩
theorem zkt_62 : zKot (zk62) := fun p k => ⟨show (40 : Nat) ≠ 2 from by decide, show (40 : Nat) ≠ 4 from by decide, show (40 : Nat) ≠ 8 from by decide⟩
theorem zkt_63 : zKot (zk63) := fun p k => ⟨show (40 : Nat) ≠ 2 from by decide, show (40 : Nat) ≠ 4 from by decide, show (40 : Nat) ≠ 8 from by decide⟩
theorem zkt_64 : zKot (zk64) := fun p k => ⟨show (40 : Nat) ≠ 2 from by decide, show (40 : Nat) ≠ 4 from by decide, show (40 : Nat) ≠ 8 from by decide⟩
theorem zkt_65 : zKot (zk65) := fun p k => ⟨show (40 : Nat) ≠ 2 from by decide, show (40 : Nat) ≠ 4 from by decide, show (40 : Nat) ≠ 8 from by decide⟩
theorem zkt_66 : zKot (zk66) := fun p k => ⟨show (40 : Nat) ≠ 2 from by decide, show (40 : Nat) ≠ 4 from by decide, show (40 : Nat) ≠ 8 from by decide⟩
theorem zkt_67 : zKot (zk67) := fun p k => ⟨show (40 : Nat) ≠ 2 from by decide, show (40 : Nat) ≠ 4 from by decide, show (40 : Nat) ≠ 8 from by decide⟩
theorem zkt_68 : zKot (zk68) := fun p k => ⟨show (40 : Nat) ≠ 2 from by decide, show (40 : Nat) ≠ 4 from by decide, show (40 : Nat) ≠ 8 from by decide⟩
theorem zkt_69 : zKot (zk69) := fun p k => zsel_t (zob69_t p) k
theorem zkt_70 : zKot (zk70) := fun p k => ⟨show (0 : Nat) ≠ 2 from by decide, show (0 : Nat) ≠ 4 from by decide, show (0 : Nat) ≠ 8 from by decide⟩
theorem zKds_z : ∀ f ∈ zKds, zKok f := zfa_c zkz_0 (zfa_c zkz_1 (zfa_c zkz_2 (zfa_c zkz_3 (zfa_c zkz_4 (zfa_c zkz_5 (zfa_c zkz_6 (zfa_c zkz_7 (zfa_c zkz_8 (zfa_c zkz_9 (zfa_c zkz_10 (zfa_c zkz_11 (zfa_c zkz_12 (zfa_c zkz_13 (zfa_c zkz_14 (zfa_c zkz_15 (zfa_c zkz_16 (zfa_c zkz_17 (zfa_c zkz_18 (zfa_c zkz_19 (zfa_c zkz_20 (zfa_c zkz_21 (zfa_c zkz_22 (zfa_c zkz_23 (zfa_c zkz_24 (zfa_c zkz_25 (zfa_c zkz_26 (zfa_c zkz_27 (zfa_c zkz_28 (zfa_c zkz_29 (zfa_c zkz_30 (zfa_c zkz_31 (zfa_c zkz_32 (zfa_c zkz_33 (zfa_c zkz_34 (zfa_c zkz_35 (zfa_c zkz_36 (zfa_c zkz_37 (zfa_c zkz_38 (zfa_c zkz_39 (zfa_c zkz_40 (zfa_c zkz_41 (zfa_c zkz_42 (zfa_c zkz_43 (zfa_c zkz_44 (zfa_c zkz_45 (zfa_c zkz_46 (zfa_c zkz_47 (zfa_c zkz_48 (zfa_c zkz_49 (zfa_c zkz_50 (zfa_c zkz_51 (zfa_c zkz_52 (zfa_c zkz_53 (zfa_c zkz_54 (zfa_c zkz_55 (zfa_c zkz_56 (zfa_c zkz_57 (zfa_c zkz_58 (zfa_c zkz_59 (zfa_c zkz_60 (zfa_c zkz_61 (zfa_c zkz_62 (zfa_c zkz_63 (zfa_c zkz_64 (zfa_c zkz_65 (zfa_c zkz_66 (zfa_c zkz_67 (zfa_c zkz_68 (zfa_c zkz_69 (zfa_c zkz_70 (zfa_n)))))))))))))))))))))))))))))))))))))))))))))))))))))))))))))))))))))))
theorem zKds_t : ∀ f ∈ zKds.tail.tail, zKot f := zfa_c zkt_2 (zfa_c zkt_3 (zfa_c zkt_4 (zfa_c zkt_5 (zfa_c zkt_6 (zfa_c zkt_7 (zfa_c zkt_8 (zfa_c zkt_9 (zfa_c zkt_10 (zfa_c zkt_11 (zfa_c zkt_12 (zfa_c zkt_13 (zfa_c zkt_14 (zfa_c zkt_15 (zfa_c zkt_16 (zfa_c zkt_17 (zfa_c zkt_18 (zfa_c zkt_19 (zfa_c zkt_20 (zfa_c zkt_21 (zfa_c zkt_22 (zfa_c zkt_23 (zfa_c zkt_24 (zfa_c zkt_25 (zfa_c zkt_26 (zfa_c zkt_27 (zfa_c zkt_28 (zfa_c zkt_29 (zfa_c zkt_30 (zfa_c zkt_31 (zfa_c zkt_32 (zfa_c zkt_33 (zfa_c zkt_34 (zfa_c zkt_35 (zfa_c zkt_36 (zfa_c zkt_37 (zfa_c zkt_38 (zfa_c zkt_39 (zfa_c zkt_40 (zfa_c zkt_41 (zfa_c zkt_42 (zfa_c zkt_43 (zfa_c zkt_44 (zfa_c zkt_45 (zfa_c zkt_46 (zfa_c zkt_47 (zfa_c zkt_48 (zfa_c zkt_49 (zfa_c zkt_50 (zfa_c zkt_51 (zfa_c zkt_52 (zfa_c zkt_53 (zfa_c zkt_54 (zfa_c zkt_55 (zfa_c zkt_56 (zfa_c zkt_57 (zfa_c zkt_58 (zfa_c zkt_59 (zfa_c zkt_60 (zfa_c zkt_61 (zfa_c zkt_62 (zfa_c zkt_63 (zfa_c zkt_64 (zfa_c zkt_65 (zfa_c zkt_66 (zfa_c zkt_67 (zfa_c zkt_68 (zfa_c zkt_69 (zfa_c zkt_70 (zfa_n)))))))))))))))))))))))))))))))))))))))))))))))))))))))))))))))))))))
theorem zkl_0 : ∀ (p : Nat) (k : Int), (zk0 p k).1 < 30 := fun p k => show (0 : Nat) < 30 from by decide
theorem zkl_1 : ∀ (p : Nat) (k : Int), (zk1 p k).1 < 30 := fun p k => show (2 : Nat) < 30 from by decide
theorem zkl_2 : ∀ (p : Nat) (k : Int), (zk2 p k).1 < 30 := fun p k => show (3 : Nat) < 30 from by decide
theorem zkl_3 : ∀ (p : Nat) (k : Int), (zk3 p k).1 < 30 := fun p k => show (0 : Nat) < 30 from by decide
theorem zob4_l (p : Nat) : ∀ x ∈ zob4 p, x.1 < 30 := by
  intro x hx
  simp only [zob4, List.mem_cons, List.not_mem_nil, or_false] at hx
  rcases hx with rfl | rfl | rfl | rfl <;> exact Nat.le_of_ble_eq_true rfl
theorem zkl_4 : ∀ (p : Nat) (k : Int), (zk4 p k).1 < 30 := fun p k => zsel_l (zob4_l p) k
set_option maxRecDepth 100000 in
theorem zob5_l (p : Nat) : ∀ x ∈ zob5 p, x.1 < 30 := show ∀ x ∈ zob5 0, x.1 < 30 from by decide
theorem zkl_5 : ∀ (p : Nat) (k : Int), (zk5 p k).1 < 30 := fun p k => zsel_l (zob5_l p) k
theorem zkl_6 : ∀ (p : Nat) (k : Int), (zk6 p k).1 < 30 := fun p k => show (20 : Nat) < 30 from by decide
theorem zkl_7 : ∀ (p : Nat) (k : Int), (zk7 p k).1 < 30 := fun p k => show (20 : Nat) < 30 from by decide
theorem zkl_8 : ∀ (p : Nat) (k : Int), (zk8 p k).1 < 30 := fun p k => show (20 : Nat) < 30 from by decide
set_option maxRecDepth 100000 in
theorem zob9_l (p : Nat) : ∀ x ∈ zob9 p, x.1 < 30 := show ∀ x ∈ zob9 0, x.1 < 30 from by decide
theorem zkl_9 : ∀ (p : Nat) (k : Int), (zk9 p k).1 < 30 := fun p k => zsel_l (zob9_l p) k
theorem zkl_10 : ∀ (p : Nat) (k : Int), (zk10 p k).1 < 30 := fun p k => show (0 : Nat) < 30 from by decide
theorem zob11_l (p : Nat) : ∀ x ∈ zob11 p, x.1 < 30 := by
  intro x hx
  simp only [zob11, List.mem_cons, List.not_mem_nil, or_false] at hx
  rcases hx with rfl | rfl <;> exact Nat.le_of_ble_eq_true rfl
theorem zkl_11 : ∀ (p : Nat) (k : Int), (zk11 p k).1 < 30 := fun p k => zsel_l (zob11_l p) k
theorem zkl_12 : ∀ (p : Nat) (k : Int), (zk12 p k).1 < 30 := fun p k => show (0 : Nat) < 30 from by decide
theorem zkl_13 : ∀ (p : Nat) (k : Int), (zk13 p k).1 < 30 := fun p k => show (0 : Nat) < 30 from by decide
theorem zkl_14 : ∀ (p : Nat) (k : Int), (zk14 p k).1 < 30 := fun p k => show (0 : Nat) < 30 from by decide
theorem zkl_15 : ∀ (p : Nat) (k : Int), (zk15 p k).1 < 30 := fun p k => show (0 : Nat) < 30 from by decide
theorem zkl_16 : ∀ (p : Nat) (k : Int), (zk16 p k).1 < 30 := fun p k => show (0 : Nat) < 30 from by decide
theorem zkl_17 : ∀ (p : Nat) (k : Int), (zk17 p k).1 < 30 := fun p k => show (0 : Nat) < 30 from by decide
set_option maxRecDepth 100000 in
theorem zob18_l (p : Nat) : ∀ x ∈ zob18 p, x.1 < 30 := show ∀ x ∈ zob18 0, x.1 < 30 from by decide
theorem zkl_18 : ∀ (p : Nat) (k : Int), (zk18 p k).1 < 30 := fun p k => zsel_l (zob18_l p) k
set_option maxRecDepth 100000 in
theorem zob19_l (p : Nat) : ∀ x ∈ zob19 p, x.1 < 30 := show ∀ x ∈ zob19 0, x.1 < 30 from by decide
theorem zkl_19 : ∀ (p : Nat) (k : Int), (zk19 p k).1 < 30 := fun p k => zsel_l (zob19_l p) k
theorem zkl_20 : ∀ (p : Nat) (k : Int), (zk20 p k).1 < 30 := fun p k => show (0 : Nat) < 30 from by decide
set_option maxRecDepth 100000 in
theorem zob21_l (p : Nat) : ∀ x ∈ zob21 p, x.1 < 30 := show ∀ x ∈ zob21 0, x.1 < 30 from by decide
theorem zkl_21 : ∀ (p : Nat) (k : Int), (zk21 p k).1 < 30 := fun p k => zsel_l (zob21_l p) k
set_option maxRecDepth 100000 in
theorem zob22_l (p : Nat) : ∀ x ∈ zob22 p, x.1 < 30 := show ∀ x ∈ zob22 0, x.1 < 30 from by decide
theorem zkl_22 : ∀ (p : Nat) (k : Int), (zk22 p k).1 < 30 := fun p k => zsel_l (zob22_l p) k
theorem zkl_23 : ∀ (p : Nat) (k : Int), (zk23 p k).1 < 30 := fun p k => show (19 : Nat) < 30 from by decide
theorem zkl_24 : ∀ (p : Nat) (k : Int), (zk24 p k).1 < 30 := fun p k => show (19 : Nat) < 30 from by decide
set_option maxRecDepth 100000 in
theorem zob25_l (p : Nat) : ∀ x ∈ zob25 p, x.1 < 30 := show ∀ x ∈ zob25 0, x.1 < 30 from by decide
theorem zkl_25 : ∀ (p : Nat) (k : Int), (zk25 p k).1 < 30 := fun p k => zsel_l (zob25_l p) k
theorem zkl_26 : ∀ (p : Nat) (k : Int), (zk26 p k).1 < 30 := fun p k => show (19 : Nat) < 30 from by decide
theorem zkl_27 : ∀ (p : Nat) (k : Int), (zk27 p k).1 < 30 := fun p k => show (14 : Nat) < 30 from by decide
theorem zkl_28 : ∀ (p : Nat) (k : Int), (zk28 p k).1 < 30 := fun p k => show (14 : Nat) < 30 from by decide
theorem zkl_29 : ∀ (p : Nat) (k : Int), (zk29 p k).1 < 30 := fun p k => show (14 : Nat) < 30 from by decide
theorem zkl_30 : ∀ (p : Nat) (k : Int), (zk30 p k).1 < 30 := fun p k => show (12 : Nat) < 30 from by decide
set_option maxRecDepth 100000 in
theorem zob31_l (p : Nat) : ∀ x ∈ zob31 p, x.1 < 30 := show ∀ x ∈ zob31 0, x.1 < 30 from by decide
theorem zkl_31 : ∀ (p : Nat) (k : Int), (zk31 p k).1 < 30 := fun p k => zsel_l (zob31_l p) k
theorem zkl_32 : ∀ (p : Nat) (k : Int), (zk32 p k).1 < 30 := fun p k => show (18 : Nat) < 30 from by decide
theorem zkl_33 : ∀ (p : Nat) (k : Int), (zk33 p k).1 < 30 := fun p k => show (20 : Nat) < 30 from by decide
theorem zkl_34 : ∀ (p : Nat) (k : Int), (zk34 p k).1 < 30 := fun p k => show (29 : Nat) < 30 from by decide
set_option maxRecDepth 100000 in
theorem zob35_l (p : Nat) : ∀ x ∈ zob35 p, x.1 < 30 := show ∀ x ∈ zob35 0, x.1 < 30 from by decide
theorem zkl_35 : ∀ (p : Nat) (k : Int), (zk35 p k).1 < 30 := fun p k => zsel_l (zob35_l p) k
theorem zkl_36 : ∀ (p : Nat) (k : Int), (zk36 p k).1 < 30 := fun p k => show (16 : Nat) < 30 from by decide
theorem zkl_37 : ∀ (p : Nat) (k : Int), (zk37 p k).1 < 30 := fun p k => show (16 : Nat) < 30 from by decide
theorem zkl_38 : ∀ (p : Nat) (k : Int), (zk38 p k).1 < 30 := fun p k => show (16 : Nat) < 30 from by decide
set_option maxRecDepth 100000 in
theorem zob39_l (p : Nat) : ∀ x ∈ zob39 p, x.1 < 30 := show ∀ x ∈ zob39 0, x.1 < 30 from by decide
theorem zkl_39 : ∀ (p : Nat) (k : Int), (zk39 p k).1 < 30 := fun p k => zsel_l (zob39_l p) k
theorem zKds_l : ∀ f ∈ zKds.take 40, ∀ (p : Nat) (k : Int), (f p k).1 < 30 := zfa_c zkl_0 (zfa_c zkl_1 (zfa_c zkl_2 (zfa_c zkl_3 (zfa_c zkl_4 (zfa_c zkl_5 (zfa_c zkl_6 (zfa_c zkl_7 (zfa_c zkl_8 (zfa_c zkl_9 (zfa_c zkl_10 (zfa_c zkl_11 (zfa_c zkl_12 (zfa_c zkl_13 (zfa_c zkl_14 (zfa_c zkl_15 (zfa_c zkl_16 (zfa_c zkl_17 (zfa_c zkl_18 (zfa_c zkl_19 (zfa_c zkl_20 (zfa_c zkl_21 (zfa_c zkl_22 (zfa_c zkl_23 (zfa_c zkl_24 (zfa_c zkl_25 (zfa_c zkl_26 (zfa_c zkl_27 (zfa_c zkl_28 (zfa_c zkl_29 (zfa_c zkl_30 (zfa_c zkl_31 (zfa_c zkl_32 (zfa_c zkl_33 (zfa_c zkl_34 (zfa_c zkl_35 (zfa_c zkl_36 (zfa_c zkl_37 (zfa_c zkl_38 (zfa_c zkl_39 (zfa_n))))))))))))))))))))))))))))))))))))))))
theorem zKd_l {u : Nat × Nat} (h : u.1 ≤ 39) (k : Int) : (zKd u k).1 < 30 := by
  unfold zKd
  cases e : zKds[u.1]? with
  | none => exact zkl_0 u.2 k
  | some f =>
    refine zKds_l f (List.mem_of_getElem? (i := u.1) ?_) u.2 k
    rw [List.getElem?_take, if_pos (by omega)]
    exact e
/-- codes of the class alone -/
def zLe (L : zTl) : Prop := ∀ u ∈ L, u.1 ≤ 39
theorem zLe.app {A B : zTl} (hA : zLe A) (hB : zLe B) : zLe (A ++ B) := fun u hu => (List.mem_append.mp hu).elim (hA u) (hB u)
theorem zLe.rep {A : zTl} (hA : zLe A) : ∀ n, zLe (zRep A n)
  | 0 => fun u hu => by cases hu
  | n + 1 => zLe.app (zLe.rep hA n) hA
theorem zLe.of {U : zTl} (h : ((U.map fun u => u.1).all fun n => Nat.ble n 39) = true) : zLe U := fun u hu => Nat.le_of_ble_eq_true (List.all_eq_true.mp h u.1 (List.mem_map_of_mem hu))
theorem zLe.g {U L : zTl} {a l : Nat} (h : zIn U a L) (hl : L.length = l) (hL : zLe L) : ∀ (c : Nat) (k : Int), a ≤ c → c < a + l → (zGu U c k).1 < 30 := fun c k h1 h2 => by
  subst hl
  have h3 := h (c - a) (by omega)
  rw [List.getElem?_eq_getElem (show c - a < L.length by omega), show a + (c - a) = c by omega] at h3
  rw [zGu_at h3]
  exact zKd_l (hL _ (List.getElem_mem _)) k
theorem zKd_z (u : Nat × Nat) (k : Int) : (zKd u k).2.1 ≤ 0 ∧ 0 ≤ (zKd u k).2.2 := by
  unfold zKd
  cases e : zKds[u.1]? with
  | none => exact zkz_0 u.2 k
  | some f => exact zKds_z f (List.mem_of_getElem? e) u.2 k
theorem zKd_t {u : Nat × Nat} (h : u.1 ≠ 1) (k : Int) : (zKd u k).1 ≠ 2 ∧ (zKd u k).1 ≠ 4 ∧ (zKd u k).1 ≠ 8 := by
  unfold zKd
  cases e : zKds[u.1]? with
  | none => exact zkt_0 u.2 k
  | some f =>
    match h0 : u.1, h with
    | 0, _ =>
      rw [h0] at e
      cases e
      exact zkt_0 u.2 k
    | n + 2, _ =>
      refine zKds_t f (List.mem_of_getElem? (i := n) ?_) u.2 k
      rw [h0] at e
      exact e
/-- behind a row's 'where' lies its 'look' -/
def zWu (U : zTl) : Prop := ∀ i p, U[i]? = some (1, p) → ∃ p2, U[i + 1]? = some (2, p2)
theorem zWu.app {A B : zTl} (hA : zWu A) (hB : zWu B) : zWu (A ++ B) := fun i p h => by
  by_cases hi : i < A.length
  · rw [List.getElem?_append_left hi] at h
    obtain ⟨p2, h2⟩ := hA i p h
    exact ⟨p2, by rw [List.getElem?_append_left (List.getElem?_eq_some_iff.mp h2).1]; exact h2⟩
  · rw [List.getElem?_append_right (by omega)] at h
    obtain ⟨p2, h2⟩ := hB _ p h
    exact ⟨p2, by rw [List.getElem?_append_right (by omega), show i + 1 - A.length = i - A.length + 1 by omega]; exact h2⟩
theorem zWu.rep {A : zTl} (hA : zWu A) : ∀ n, zWu (zRep A n)
  | 0 => fun i p h => by cases h
  | n + 1 => zWu.app (zWu.rep hA n) hA
def zwb : List Nat → Bool
  | [] => true
  | [a] => a != 1
  | a :: b :: l => (a != 1 || b == 2) && zwb (b :: l)
theorem zwb_s : ∀ {l : List Nat}, zwb l = true → ∀ i, l[i]? = some 1 → l[i + 1]? = some 2
  | [], _, i, hi => by cases hi
  | [a], h, i, hi => by
    match i with
    | 0 =>
      cases hi
      cases h
    | i + 1 => simp at hi
  | a :: b :: l, h, i, hi => by
    simp only [zwb, Bool.and_eq_true, Bool.or_eq_true, bne_iff_ne, ne_eq, beq_iff_eq] at h
    match i with
    | 0 =>
      cases hi
      rcases h.1 with h1 | h1
      · exact absurd rfl h1
      · subst h1
        rfl
    | i + 1 => exact zwb_s h.2 i hi
theorem zWu.of {U : zTl} (h : zwb (U.map fun u => u.1) = true) : zWu U := fun i p hi => by
  have h1 := zwb_s h i (by rw [List.getElem?_map, hi]; rfl)
  rw [List.getElem?_map] at h1
  cases e : U[i + 1]? with
  | none => rw [e] at h1; cases h1
  | some u =>
    rw [e] at h1
    have h2 : u.1 = 2 := Option.some.inj h1
    exact ⟨u.2, by rw [← h2]⟩
theorem zGu_2 {U : zTl} {a : Nat} {i : Int} (h : (zGu U a i).1 = 2) : ∃ p, U[a]? = some (1, p) := by
  unfold zGu at h
  cases e : U[a]? with
  | none =>
    rw [e] at h
    exact absurd h (zKd_t (u := (0, 0)) (by decide) i).1
  | some u =>
    rw [e] at h
    by_cases q : u.1 = 1
    · exact ⟨u.2, by rw [← q]⟩
    · exact absurd h (zKd_t q i).1
theorem zGu_4 {U : zTl} {a : Nat} {i : Int} : (zGu U a i).1 ≠ 4 ∧ (zGu U a i).1 ≠ 8 := by
  unfold zGu
  by_cases q : ((U[a]?).getD (0, 0)).1 = 1
  · have e : (U[a]?).getD (0, 0) = (1, ((U[a]?).getD (0, 0)).2) := by rw [← q]
    rw [e]
    exact ⟨show (2 : Nat) ≠ 4 from by decide, show (2 : Nat) ≠ 8 from by decide⟩
  · exact (zKd_t q i).2
theorem zGu_w {U : zTl} (h : zWu U) : zGw (zGu U) := by
  refine ⟨fun a i q => ?_, fun a q => absurd q zGu_4.1, fun a b q => absurd q zGu_4.2⟩
  obtain ⟨p, hp⟩ := zGu_2 q
  obtain ⟨p2, hp2⟩ := h a p hp
  rw [zGu_at hp2]
  rfl
theorem zand0 : zand 0 31 = 0 := by decide
/-- memory from b on is 0, and the kinds below b are the same: they may be told anew -/
theorem zI.ext {U V : zTl} {M : zMm} {b : Nat} (h : zI (zGu U) M) (hV : zWu V) (he : ∀ c k, c < b → zGu V c k = zGu U c k) (h0 : ∀ c k, b ≤ c → M c k = 0) : zI (zGu V) M := by
  refine ⟨zGu_w hV, fun a k => ?_, fun a i q => ?_, fun a q => absurd q zGu_4.1, fun a b q => absurd q zGu_4.2⟩
  · by_cases ha : a < b
    · rw [he a k ha]
      exact h.2.1 a k
    · rw [h0 a k (by omega)]
      exact zKd_z _ _
  · by_cases ha : a < b
    · rw [he a i ha] at q ⊢
      exact h.2.2.1 a i q
    · rw [h0 a i (by omega), h0 (a + 1) i (by omega), zand0]
      exact ⟨by have := (zKd_z ((V[a]?).getD (0, 0)) i).2; show 0 + 0 ≤ (zGu V a i).2.2; unfold zGu; omega, by decide⟩
theorem zI.zero {V : zTl} {M : zMm} (hV : zWu V) (h0 : ∀ c k, M c k = 0) : zI (zGu V) M := by
  refine ⟨zGu_w hV, fun a k => ?_, fun a i q => ?_, fun a q => absurd q zGu_4.1, fun a b q => absurd q zGu_4.2⟩
  · rw [h0 a k]
    exact zKd_z _ _
  · rw [h0 a i, h0 (a + 1) i, zand0]
    exact ⟨by have := (zKd_z ((V[a]?).getD (0, 0)) i).2; show 0 + 0 ≤ (zGu V a i).2.2; unfold zGu; omega, by decide⟩
theorem zIn.ap {T : zTl} {a l a2 : Nat} {L1 L2 : zTl} (h : zIn T a (L1 ++ L2)) (hl : L1.length = l) (e : a + l = a2) : zIn T a L1 ∧ zIn T a2 L2 := by
  subst e
  exact zIn.app h hl
theorem zIn.len {T : zTl} {a l : Nat} {L : zTl} (h : zIn T a L) (hl : L.length = l) (h0 : 0 < l) : a + l ≤ T.length := by
  subst hl
  have := h (L.length - 1) (by omega)
  rw [List.getElem?_eq_getElem (show L.length - 1 < L.length by omega)] at this
  have := (List.getElem?_eq_some_iff.mp this).1
  omega
theorem zIn.h2 {T : zTl} {a i b : Nat} {L : zTl} {x : Nat × Nat} (h : zIn T a L) (e : L[i]? = some x) (hb : a + i = b) : T[b]? = some x := by
  subst hb
  exact zIn.hd h e
def zU5 (n : Nat) (L : Nat) : zTl := [(4, n), (1, L), (2, 0), (3, 0)]
theorem zU5_len (n : Nat) (L : Nat) : (zU5 n L).length = 4 := by
  unfold zU5
  simp only [List.length_append, List.length_cons, List.length_nil]
theorem zLe_5 (n : Nat) (L : Nat) : zLe (zU5 n L) := (zLe.of rfl)
theorem zWu_5 (n : Nat) (L : Nat) : zWu (zU5 n L) := (zWu.of rfl)
def zU1 : zTl := [(5, 0)]
theorem zU1_len : (zU1).length = 1 := by
  unfold zU1
  simp only [List.length_append, List.length_cons, List.length_nil]
theorem zLe_1 : zLe (zU1) := (zLe.of rfl)
theorem zWu_1 : zWu (zU1) := (zWu.of rfl)
def zU4 : zTl := [(9, 0), (6, 0), (7, 0), (8, 0)]
theorem zU4_len : (zU4).length = 4 := by
  unfold zU4
  simp only [List.length_append, List.length_cons, List.length_nil]
theorem zLe_4 : zLe (zU4) := (zLe.of rfl)
theorem zWu_4 : zWu (zU4) := (zWu.of rfl)
def zU10 (L : Nat) : zTl := [(11, L), (10, 0)]
theorem zU10_len (L : Nat) : (zU10 L).length = 2 := by
  unfold zU10
  simp only [List.length_append, List.length_cons, List.length_nil]
theorem zLe_10 (L : Nat) : zLe (zU10 L) := (zLe.of rfl)
theorem zWu_10 (L : Nat) : zWu (zU10 L) := (zWu.of rfl)
def zU3 (L : Nat) : zTl := [(18, 0), (12, L), (13, 0), (14, 0), (15, 0), (3, 0), (3, 0), (3, 0), (3, 0), (16, 0), (3, 0), (3, 0), (1, L), (2, 0), (17, 0)]
theorem zU3_len (L : Nat) : (zU3 L).length = 15 := by
  unfold zU3
  simp only [List.length_append, List.length_cons, List.length_nil]
theorem zLe_3 (L : Nat) : zLe (zU3 L) := (zLe.of rfl)
theorem zWu_3 (L : Nat) : zWu (zU3 L) := (zWu.of rfl)
def zU9 (L : Nat) : zTl := [(19, 0), (3, 0), (0, 0)]
theorem zU9_len (L : Nat) : (zU9 L).length = 3 := by
  unfold zU9
  simp only [List.length_append, List.length_cons, List.length_nil]
theorem zLe_9 (L : Nat) : zLe (zU9 L) := (zLe.of rfl)
theorem zWu_9 (L : Nat) : zWu (zU9 L) := (zWu.of rfl)
def zU2 (L : Nat) : zTl := [(21, 0), (20, 0), (20, 0)] ++ (zU5 32 L)
theorem zU2_len (L : Nat) : (zU2 L).length = 7 := by
  unfold zU2
  simp only [List.length_append, List.length_cons, List.length_nil, zU5_len]
theorem zLe_2 (L : Nat) : zLe (zU2 L) := (zLe.app (zLe.of rfl) (zLe_5 _ _))
theorem zWu_2 (L : Nat) : zWu (zU2 L) := (zWu.app (zWu.of rfl) (zWu_5 _ _))
def zU0 (L : Nat) : zTl := [(22, 0)] ++ (zU5 3440 L ++ ([(20, 0), (0, 0)] ++ (zRep (zU2 L) 101)))
theorem zU0_len (L : Nat) : (zU0 L).length = 714 := by
  unfold zU0
  simp only [List.length_append, List.length_cons, List.length_nil, zRep_len (zU2_len L), zU5_len]
theorem zLe_0 (L : Nat) : zLe (zU0 L) := (zLe.app (zLe.of rfl) (zLe.app (zLe_5 _ _) (zLe.app (zLe.of rfl) (zLe.rep (zLe_2 _) _))))
theorem zWu_0 (L : Nat) : zWu (zU0 L) := (zWu.app (zWu.of rfl) (zWu.app (zWu_5 _ _) (zWu.app (zWu.of rfl) (zWu.rep (zWu_2 _) _))))
def zU7 : zTl := [(25, 0), (0, 0), (0, 0)] ++ (zRep [(26, 0)] 3 ++ ([(23, 0), (24, 0), (24, 0)] ++ (zRep zU4 4)))
theorem zU7_len : (zU7).length = 25 := by
  unfold zU7
  simp only [List.length_append, List.length_cons, List.length_nil, zRep_len (L := [(26, 0)]) (l := 1) rfl, zRep_len (zU4_len)]
theorem zLe_7 : zLe (zU7) := (zLe.app (zLe.of rfl) (zLe.app (zLe.rep (zLe.of (U := [(26, 0)]) rfl) _) (zLe.app (zLe.of rfl) (zLe.rep (zLe_4) _))))
theorem zWu_7 : zWu (zU7) := (zWu.app (zWu.of rfl) (zWu.app (zWu.rep (zWu.of (U := [(26, 0)]) rfl) _) (zWu.app (zWu.of rfl) (zWu.rep (zWu_4) _))))
def zU6 (L : Nat) : zTl := [(31, 0)] ++ (zU1 ++ (zU5 3440 L ++ ([(3, 0), (3, 0), (3, 0)] ++ (zU5 440 L ++ (zU5 3440 L ++ ([(27, 0), (28, 0), (29, 0), (30, 0), (30, 0)] ++ (zU10 L ++ (zU3 L ++ (zU0 L ++ (zU9 L))))))))))
theorem zU6_len (L : Nat) : (zU6 L).length = 756 := by
  unfold zU6
  simp only [List.length_append, List.length_cons, List.length_nil, zU0_len, zU10_len, zU1_len, zU3_len, zU5_len, zU9_len]
theorem zLe_6 (L : Nat) : zLe (zU6 L) := (zLe.app (zLe.of rfl) (zLe.app (zLe_1) (zLe.app (zLe_5 _ _) (zLe.app (zLe.of rfl) (zLe.app (zLe_5 _ _) (zLe.app (zLe_5 _ _) (zLe.app (zLe.of rfl) (zLe.app (zLe_10 _) (zLe.app (zLe_3 _) (zLe.app (zLe_0 _) (zLe_9 _)))))))))))
theorem zWu_6 (L : Nat) : zWu (zU6 L) := (zWu.app (zWu.of rfl) (zWu.app (zWu_1) (zWu.app (zWu_5 _ _) (zWu.app (zWu.of rfl) (zWu.app (zWu_5 _ _) (zWu.app (zWu_5 _ _) (zWu.app (zWu.of rfl) (zWu.app (zWu_10 _) (zWu.app (zWu_3 _) (zWu.app (zWu_0 _) (zWu_9 _)))))))))))
def zU11 : zTl := [(35, 0), (32, 0)] ++ (zU7 ++ ([(0, 0), (33, 0), (34, 0)] ++ (zU6 62576 ++ (zRep zU7 2))))
theorem zU11_len : (zU11).length = 836 := by
  unfold zU11
  simp only [List.length_append, List.length_cons, List.length_nil, zRep_len (zU7_len), zU6_len, zU7_len]
theorem zLe_11 : zLe (zU11) := (zLe.app (zLe.of rfl) (zLe.app (zLe_7) (zLe.app (zLe.of rfl) (zLe.app (zLe_6 _) (zLe.rep (zLe_7) _)))))
theorem zWu_11 : zWu (zU11) := (zWu.app (zWu.of rfl) (zWu.app (zWu_7) (zWu.app (zWu.of rfl) (zWu.app (zWu_6 _) (zWu.rep (zWu_7) _)))))
def zU8 : zTl := [(39, 0)] ++ (zU6 32576 ++ [(36, 0), (37, 0), (38, 0), (3, 0)])
theorem zU8_len : (zU8).length = 761 := by
  unfold zU8
  simp only [List.length_append, List.length_cons, List.length_nil, zU6_len]
theorem zLe_8 : zLe (zU8) := (zLe.app (zLe.of rfl) (zLe.app (zLe_6 _) (zLe.of rfl)))
theorem zWu_8 : zWu (zU8) := (zWu.app (zWu.of rfl) (zWu.app (zWu_6 _) (zWu.of rfl)))
def zU12 : zTl := [(69, 0), (40, 0), (41, 0), (42, 0), (40, 0), (40, 0), (43, 0), (44, 0), (40, 0), (45, 0), (46, 0), (47, 0), (48, 0), (48, 0), (48, 0), (48, 0), (48, 0), (40, 0), (49, 0), (50, 0), (40, 0), (40, 0), (40, 0), (51, 0), (52, 0), (52, 0), (43, 0), (53, 0), (54, 0), (55, 0), (48, 0), (56, 0), (52, 0), (52, 0), (57, 0), (58, 0), (59, 0), (58, 0), (60, 0), (43, 0), (55, 0), (55, 0), (58, 0), (48, 0), (61, 0), (55, 0), (62, 0), (63, 0), (55, 0), (0, 0), (0, 0), (45, 0), (64, 0), (65, 0), (66, 0), (43, 0), (43, 0), (43, 0), (43, 0), (48, 0), (67, 0), (47, 0), (48, 0), (48, 0), (48, 0), (48, 0), (48, 0), (40, 0), (48, 0), (48, 0), (67, 0), (47, 0), (48, 0), (48, 0), (48, 0), (48, 0), (48, 0), (40, 0), (48, 0), (68, 0), (48, 0), (48, 0), (40, 0)]
theorem zU12_len : (zU12).length = 83 := by
  unfold zU12
  simp only [List.length_append, List.length_cons, List.length_nil]
theorem zWu_12 : zWu (zU12) := (zWu.of rfl)
theorem zGk5 {U : zTl} {a : Nat} {n : Nat} {L : Nat} (h : zIn U a (zU5 n L)) : zG5 (zGu U) a n (L : Int) := by
  have U0 := h
  exact ⟨fun k => (zGu_at (zIn.h2 U0 (i := 1) (b := a + 1) rfl (by omega)) k).trans rfl, fun k => (zGu_at (zIn.h2 U0 (i := 2) (b := a + 2) rfl (by omega)) k).trans rfl, fun k => (zGu_at (zIn.h2 U0 (i := 3) (b := a + 3) rfl (by omega)) k).trans rfl, (zGu_at (zIn.h2 U0 (i := 0) rfl rfl) _).trans rfl⟩
theorem zGk1 {U : zTl} {a : Nat} (h : zIn U a (zU1)) : zG1 (zGu U) a := by
  have U0 := h
  exact ⟨(zGu_at (zIn.h2 U0 (i := 0) rfl rfl) _).trans rfl, (zGu_at (zIn.h2 U0 (i := 0) rfl rfl) _).trans rfl⟩
theorem zGk4 {U : zTl} {a : Nat} (h : zIn U a (zU4)) : zG4 (zGu U) a := by
  have U0 := h
  exact ⟨fun k => (zGu_at (zIn.h2 U0 (i := 1) (b := a + 1) rfl (by omega)) k).trans rfl, fun k => (zGu_at (zIn.h2 U0 (i := 2) (b := a + 2) rfl (by omega)) k).trans rfl, fun k => (zGu_at (zIn.h2 U0 (i := 3) (b := a + 3) rfl (by omega)) k).trans rfl, (zGu_at (zIn.h2 U0 (i := 0) rfl rfl) _).trans rfl, (zGu_at (zIn.h2 U0 (i := 0) rfl rfl) _).trans rfl, (zGu_at (zIn.h2 U0 (i := 0) rfl rfl) _).trans rfl, (zGu_at (zIn.h2 U0 (i := 0) rfl rfl) _).trans rfl⟩
theorem zGk10 {U : zTl} {a : Nat} {L : Nat} (h : zIn U a (zU10 L)) : zG10 (zGu U) a L := by
  have U0 := h
  exact ⟨fun k => (zGu_at (zIn.h2 U0 (i := 1) (b := a + 1) rfl (by omega)) k).trans rfl, (zGu_at (zIn.h2 U0 (i := 0) rfl rfl) _).trans rfl⟩
theorem zGk3 {U : zTl} {a : Nat} {L : Nat} (h : zIn U a (zU3 L)) : zG3 (zGu U) a L := by
  have U0 := h
  exact ⟨(zGu_at (zIn.h2 U0 (i := 0) rfl rfl) _).trans rfl, fun k => (zGu_at (zIn.h2 U0 (i := 1) (b := a + 1) rfl (by omega)) k).trans rfl, fun k => (zGu_at (zIn.h2 U0 (i := 2) (b := a + 2) rfl (by omega)) k).trans rfl, fun k => (zGu_at (zIn.h2 U0 (i := 3) (b := a + 3) rfl (by omega)) k).trans rfl, fun k => (zGu_at (zIn.h2 U0 (i := 4) (b := a + 4) rfl (by omega)) k).trans rfl, fun k => (zGu_at (zIn.h2 U0 (i := 5) (b := a + 5) rfl (by omega)) k).trans rfl, fun k => (zGu_at (zIn.h2 U0 (i := 6) (b := a + 6) rfl (by omega)) k).trans rfl, fun k => (zGu_at (zIn.h2 U0 (i := 7) (b := a + 7) rfl (by omega)) k).trans rfl, fun k => (zGu_at (zIn.h2 U0 (i := 8) (b := a + 8) rfl (by omega)) k).trans rfl, fun k => (zGu_at (zIn.h2 U0 (i := 9) (b := a + 9) rfl (by omega)) k).trans rfl, fun k => (zGu_at (zIn.h2 U0 (i := 10) (b := a + 10) rfl (by omega)) k).trans rfl, fun k => (zGu_at (zIn.h2 U0 (i := 11) (b := a + 11) rfl (by omega)) k).trans rfl, fun k => (zGu_at (zIn.h2 U0 (i := 12) (b := a + 12) rfl (by omega)) k).trans rfl, fun k => (zGu_at (zIn.h2 U0 (i := 13) (b := a + 13) rfl (by omega)) k).trans rfl, fun k => (zGu_at (zIn.h2 U0 (i := 14) (b := a + 14) rfl (by omega)) k).trans rfl, (zGu_at (zIn.h2 U0 (i := 0) rfl rfl) _).trans rfl⟩
theorem zGk9 {U : zTl} {a : Nat} {L : Nat} (h : zIn U a (zU9 L)) : zG9 (zGu U) a L := by
  have U0 := h
  exact ⟨fun k => (zGu_at (zIn.h2 U0 (i := 1) (b := a + 1) rfl (by omega)) k).trans rfl, (zGu_at (zIn.h2 U0 (i := 0) rfl rfl) _).trans rfl, (zGu_at (zIn.h2 U0 (i := 0) rfl rfl) _).trans rfl, (zGu_at (zIn.h2 U0 (i := 0) rfl rfl) _).trans rfl⟩
theorem zGk2 {U : zTl} {a : Nat} {L : Nat} (h : zIn U a (zU2 L)) : zG2 (zGu U) a L := by
  obtain ⟨U0, U1⟩ := zIn.ap (l := 3) (a2 := a + 3) h rfl (by omega)
  exact ⟨(zGu_at (zIn.h2 U0 (i := 0) rfl rfl) _).trans rfl, (zGu_at (zIn.h2 U0 (i := 0) rfl rfl) _).trans rfl, (zGu_at (zIn.h2 U0 (i := 0) rfl rfl) _).trans rfl, (zGu_at (zIn.h2 U0 (i := 0) rfl rfl) _).trans rfl, (zGu_at (zIn.h2 U0 (i := 0) rfl rfl) _).trans rfl, (zGu_at (zIn.h2 U0 (i := 0) rfl rfl) _).trans rfl, (zGu_at (zIn.h2 U0 (i := 0) rfl rfl) _).trans rfl, (zGu_at (zIn.h2 U0 (i := 0) rfl rfl) _).trans rfl, (zGu_at (zIn.h2 U0 (i := 0) rfl rfl) _).trans rfl, fun k => (zGu_at (zIn.h2 U0 (i := 1) (b := a + 1) rfl (by omega)) k).trans rfl, fun k => (zGu_at (zIn.h2 U0 (i := 2) (b := a + 2) rfl (by omega)) k).trans rfl, zGk5 U1, (zGu_at (zIn.h2 U0 (i := 0) rfl rfl) _).trans rfl, (zGu_at (zIn.h2 U0 (i := 0) rfl rfl) _).trans rfl, (zGu_at (zIn.h2 U0 (i := 0) rfl rfl) _).trans rfl, (zGu_at (zIn.h2 U0 (i := 0) rfl rfl) _).trans rfl, (zGu_at (zIn.h2 U0 (i := 0) rfl rfl) _).trans rfl, (zGu_at (zIn.h2 U0 (i := 0) rfl rfl) _).trans rfl⟩
theorem zGk0 {U : zTl} {a : Nat} {L : Nat} (h : zIn U a (zU0 L)) : zG0 (zGu U) a L := by
  obtain ⟨U0, Ur0⟩ := zIn.ap (l := 1) (a2 := a + 1) h rfl (by omega)
  obtain ⟨U1, Ur1⟩ := zIn.ap (l := 4) (a2 := a + 5) Ur0 (zU5_len _ _) (by omega)
  obtain ⟨U2, U3⟩ := zIn.ap (l := 2) (a2 := a + 7) Ur1 rfl (by omega)
  exact ⟨zGk5 U1, fun k => (zGu_at (zIn.h2 U2 (i := 0) (b := a + 5) rfl (by omega)) k).trans rfl, fun j j1 j2 => zGk2 (zIn.rep (zU2_len _) U3 j.toNat (by omega)), (zGu_at (zIn.h2 U0 (i := 0) rfl rfl) _).trans rfl, (zGu_at (zIn.h2 U0 (i := 0) rfl rfl) _).trans rfl⟩
theorem zGk7 {U : zTl} {a : Nat} (h : zIn U a (zU7)) : zG7 (zGu U) a := by
  obtain ⟨U0, Ur0⟩ := zIn.ap (l := 3) (a2 := a + 3) h rfl (by omega)
  obtain ⟨U1, Ur1⟩ := zIn.ap (l := 3) (a2 := a + 6) Ur0 (zRep_len (l := 1) rfl _) (by omega)
  obtain ⟨U2, U3⟩ := zIn.ap (l := 3) (a2 := a + 9) Ur1 rfl (by omega)
  exact ⟨fun j j1 j2 => zGk4 (zIn.rep (zU4_len) U3 j.toNat (by omega)), fun j j1 j2 k => (zGu_at (zIn.h2 (zIn.rep (l := 1) rfl U1 j.toNat (by omega)) (i := 0) (b := a + 3 + j.toNat) rfl (by omega)) k).trans rfl, fun k => (zGu_at (zIn.h2 U2 (i := 0) (b := a + 6) rfl (by omega)) k).trans rfl, (zGu_at (zIn.h2 U0 (i := 0) rfl rfl) _).trans rfl, (zGu_at (zIn.h2 U0 (i := 0) rfl rfl) _).trans rfl, fun k => (zGu_at (zIn.h2 U2 (i := 1) (b := a + 7) rfl (by omega)) k).trans rfl, fun k => (zGu_at (zIn.h2 U2 (i := 2) (b := a + 8) rfl (by omega)) k).trans rfl⟩
theorem zGk6 {U : zTl} {a : Nat} {L : Nat} (h : zIn U a (zU6 L)) : zG6 (zGu U) a L := by
  obtain ⟨U0, Ur0⟩ := zIn.ap (l := 1) (a2 := a + 1) h rfl (by omega)
  obtain ⟨U1, Ur1⟩ := zIn.ap (l := 1) (a2 := a + 2) Ur0 (zU1_len) (by omega)
  obtain ⟨U2, Ur2⟩ := zIn.ap (l := 4) (a2 := a + 6) Ur1 (zU5_len _ _) (by omega)
  obtain ⟨U3, Ur3⟩ := zIn.ap (l := 3) (a2 := a + 9) Ur2 rfl (by omega)
  obtain ⟨U4, Ur4⟩ := zIn.ap (l := 4) (a2 := a + 13) Ur3 (zU5_len _ _) (by omega)
  obtain ⟨U5, Ur5⟩ := zIn.ap (l := 4) (a2 := a + 17) Ur4 (zU5_len _ _) (by omega)
  obtain ⟨U6, Ur6⟩ := zIn.ap (l := 5) (a2 := a + 22) Ur5 rfl (by omega)
  obtain ⟨U7, Ur7⟩ := zIn.ap (l := 2) (a2 := a + 24) Ur6 (zU10_len _) (by omega)
  obtain ⟨U8, Ur8⟩ := zIn.ap (l := 15) (a2 := a + 39) Ur7 (zU3_len _) (by omega)
  obtain ⟨U9, U10⟩ := zIn.ap (l := 714) (a2 := a + 753) Ur8 (zU0_len _) (by omega)
  exact ⟨zGk10 U7, zGk1 U1, zGk3 U8, zGk5 U2, fun k => (zGu_at (zIn.h2 U3 (i := 0) (b := a + 6) rfl (by omega)) k).trans rfl, fun k => (zGu_at (zIn.h2 U3 (i := 1) (b := a + 7) rfl (by omega)) k).trans rfl, fun k => (zGu_at (zIn.h2 U3 (i := 2) (b := a + 8) rfl (by omega)) k).trans rfl, zGk0 U9, zGk9 U10, zGk5 U4, zGk5 U5, fun k => (zGu_at (zIn.h2 U6 (i := 0) (b := a + 17) rfl (by omega)) k).trans rfl, fun k => (zGu_at (zIn.h2 U6 (i := 1) (b := a + 18) rfl (by omega)) k).trans rfl, fun k => (zGu_at (zIn.h2 U6 (i := 2) (b := a + 19) rfl (by omega)) k).trans rfl, (zGu_at (zIn.h2 U0 (i := 0) rfl rfl) _).trans rfl, fun k => (zGu_at (zIn.h2 U6 (i := 3) (b := a + 20) rfl (by omega)) k).trans rfl, fun k => (zGu_at (zIn.h2 U6 (i := 4) (b := a + 21) rfl (by omega)) k).trans rfl, (zGu_at (zIn.h2 U0 (i := 0) rfl rfl) _).trans rfl, (zGu_at (zIn.h2 U0 (i := 0) rfl rfl) _).trans rfl⟩
theorem zGk11 {U : zTl} {a : Nat} (h : zIn U a (zU11)) : zG11 (zGu U) a := by
  obtain ⟨U0, Ur0⟩ := zIn.ap (l := 2) (a2 := a + 2) h rfl (by omega)
  obtain ⟨U1, Ur1⟩ := zIn.ap (l := 25) (a2 := a + 27) Ur0 (zU7_len) (by omega)
  obtain ⟨U2, Ur2⟩ := zIn.ap (l := 3) (a2 := a + 30) Ur1 rfl (by omega)
  obtain ⟨U3, U4⟩ := zIn.ap (l := 756) (a2 := a + 786) Ur2 (zU6_len _) (by omega)
  exact ⟨fun k => (zGu_at (zIn.h2 U0 (i := 1) (b := a + 1) rfl (by omega)) k).trans rfl, (zGu_at (zIn.h2 U0 (i := 0) rfl rfl) _).trans rfl, zGk7 U1, fun j j1 j2 => zGk7 (zIn.rep (zU7_len) U4 j.toNat (by omega)), fun k => (zGu_at (zIn.h2 U2 (i := 1) (b := a + 28) rfl (by omega)) k).trans rfl, fun k => (zGu_at (zIn.h2 U2 (i := 2) (b := a + 29) rfl (by omega)) k).trans rfl, (zGu_at (zIn.h2 U0 (i := 0) rfl rfl) _).trans rfl, zGk6 U3⟩
theorem zGk8 {U : zTl} {a : Nat} (h : zIn U a (zU8)) : zG8 (zGu U) a := by
  obtain ⟨U0, Ur0⟩ := zIn.ap (l := 1) (a2 := a + 1) h rfl (by omega)
  obtain ⟨U1, U2⟩ := zIn.ap (l := 756) (a2 := a + 757) Ur0 (zU6_len _) (by omega)
  exact ⟨zGk6 U1, fun k => (zGu_at (zIn.h2 U2 (i := 0) (b := a + 757) rfl (by omega)) k).trans rfl, fun k => (zGu_at (zIn.h2 U2 (i := 1) (b := a + 758) rfl (by omega)) k).trans rfl, fun k => (zGu_at (zIn.h2 U2 (i := 2) (b := a + 759) rfl (by omega)) k).trans rfl, fun k => (zGu_at (zIn.h2 U2 (i := 3) (b := a + 760) rfl (by omega)) k).trans rfl, (zGu_at (zIn.h2 U0 (i := 0) rfl rfl) _).trans rfl⟩
def zG12 (G : zGt) (a : Nat) : Prop :=
  G a 0 = (40, 0, 1) ∧
  (∀ k, G (a + 1) k = (40, (-128), 127)) ∧
  G a 2 = (40, 0, 440) ∧
  G a 3 = (40, 0, 440) ∧
  (∀ k, G (a + 2) k = zfG k) ∧
  (∀ k, G (a + 3) k = zkG k) ∧
  (∀ k, G (a + 4) k = (40, (-128), 127)) ∧
  (∀ k, G (a + 5) k = (40, (-128), 127)) ∧
  (∀ k, G (a + 6) k = (40, 0, 1)) ∧
  G a 9 = (40, 0, 1) ∧
  (∀ k, G (a + 7) k = (40, 0, 440)) ∧
  G a 11 = (40, 0, 40) ∧
  (∀ k, G (a + 8) k = (40, (-128), 127)) ∧
  G a 13 = (40, 0, 30) ∧
  (∀ k, G (a + 9) k = (40, 0, 3)) ∧
  (∀ k, G (a + 10) k = (40, (-7531), 61970)) ∧
  (∀ k, G (a + 11) k = (40, 0, 30)) ∧
  (∀ k, G (a + 12) k = (40, (-2147483648), 2147483647)) ∧
  (∀ k, G (a + 13) k = (40, (-2147483648), 2147483647)) ∧
  (∀ k, G (a + 14) k = (40, (-2147483648), 2147483647)) ∧
  (∀ k, G (a + 15) k = (40, (-2147483648), 2147483647)) ∧
  (∀ k, G (a + 16) k = (40, (-2147483648), 2147483647)) ∧
  (∀ k, G (a + 17) k = (40, (-128), 127)) ∧
  G a 23 = (40, 0, 440) ∧
  G a 24 = (40, 0, 61900) ∧
  G a 25 = (40, 0, 3500) ∧
  G a 26 = (40, 0, 14000) ∧
  G a 27 = (40, 0, 440) ∧
  G a 28 = (40, (-1), 3) ∧
  G a 29 = (40, (-1), 39) ∧
  (∀ k, G (a + 18) k = zwG k) ∧
  (∀ k, G (a + 19) k = zwG k) ∧
  (∀ k, G (a + 20) k = (40, (-128), 127)) ∧
  (∀ k, G (a + 21) k = (40, (-128), 127)) ∧
  G a 34 = (40, 0, 3) ∧
  (∀ k, G (a + 22) k = (40, (-128), 127)) ∧
  (∀ k, G (a + 23) k = (40, 0, 439)) ∧
  G a 37 = (40, 0, 4) ∧
  (∀ k, G (a + 24) k = (40, 0, 194000)) ∧
  (∀ k, G (a + 25) k = (40, 0, 194000)) ∧
  (∀ k, G (a + 26) k = (40, 0, 1)) ∧
  (∀ k, G (a + 27) k = (40, 0, 256)) ∧
  (∀ k, G (a + 28) k = (40, (-1), 11)) ∧
  (∀ k, G (a + 29) k = (40, 0, 3499)) ∧
  (∀ k, G (a + 30) k = (40, (-2147483648), 2147483647)) ∧
  (∀ k, G (a + 31) k = (40, 0, 22)) ∧
  (∀ k, G (a + 32) k = (40, 0, 194000)) ∧
  (∀ k, G (a + 33) k = (40, 0, 194000)) ∧
  (∀ k, G (a + 34) k = (40, 0, 2040)) ∧
  (∀ k, G (a + 35) k = (40, 0, 14000)) ∧
  (∀ k, G (a + 36) k = (40, 0, 1000000)) ∧
  (∀ k, G (a + 37) k = (40, 0, 14000)) ∧
  (∀ k, G (a + 38) k = (40, 0, 200)) ∧
  (∀ k, G (a + 39) k = (40, 0, 1)) ∧
  (∀ k, G (a + 40) k = (40, 0, 3499)) ∧
  (∀ k, G (a + 41) k = (40, 0, 3499)) ∧
  (∀ k, G (a + 42) k = (40, 0, 14000)) ∧
  G a 57 = (40, (-1), 101) ∧
  G a 58 = (40, 0, 256) ∧
  G a 59 = (40, 0, 194000) ∧
  G a 60 = (40, 0, 2040) ∧
  G a 61 = (40, 0, 3500) ∧
  G a 62 = (40, 0, 100) ∧
  G a 63 = (40, 0, 440) ∧
  G a 64 = (40, 0, 440) ∧
  G a 65 = (40, 0, 1) ∧
  (∀ k, G (a + 43) k = (40, (-2147483648), 2147483647)) ∧
  (∀ k, G (a + 44) k = (40, 0, 11000)) ∧
  (∀ k, G (a + 45) k = (40, 0, 3499)) ∧
  (∀ k, G (a + 46) k = (40, 0, 42)) ∧
  (∀ k, G (a + 47) k = (40, (-1), 11000)) ∧
  (∀ k, G (a + 48) k = (40, 0, 3499)) ∧
  G a 74 = (40, 0, 11000) ∧
  G a 75 = (40, 0, 3600) ∧
  G a 76 = (40, (-2147483648), 2147483647) ∧
  G a 78 = (40, 0, 1) ∧
  (∀ k, G (a + 51) k = (40, 0, 3)) ∧
  (∀ k, G (a + 52) k = (40, 0, 40)) ∧
  (∀ k, G (a + 53) k = (40, 0, 290)) ∧
  (∀ k, G (a + 54) k = (40, 0, 39)) ∧
  (∀ k, G (a + 55) k = (40, 0, 1)) ∧
  (∀ k, G (a + 56) k = (40, 0, 1)) ∧
  (∀ k, G (a + 57) k = (40, 0, 1)) ∧
  (∀ k, G (a + 58) k = (40, 0, 1)) ∧
  G a 88 = (40, (-1), 7) ∧
  G a 89 = (40, 0, 290) ∧
  (∀ k, G (a + 59) k = (40, (-2147483648), 2147483647)) ∧
  (∀ k, G (a + 60) k = (40, 0, 92970)) ∧
  (∀ k, G (a + 61) k = (40, 0, 30)) ∧
  (∀ k, G (a + 62) k = (40, (-2147483648), 2147483647)) ∧
  (∀ k, G (a + 63) k = (40, (-2147483648), 2147483647)) ∧
  (∀ k, G (a + 64) k = (40, (-2147483648), 2147483647)) ∧
  (∀ k, G (a + 65) k = (40, (-2147483648), 2147483647)) ∧
  (∀ k, G (a + 66) k = (40, (-2147483648), 2147483647)) ∧
  (∀ k, G (a + 67) k = (40, (-128), 127)) ∧
  G a 99 = (40, 0, 3500) ∧
  G a 100 = (40, 0, 93000) ∧
  G a 101 = (40, 0, 1) ∧
  (∀ k, G (a + 68) k = (40, (-2147483648), 2147483647)) ∧
  (∀ k, G (a + 69) k = (40, (-2147483648), 2147483647)) ∧
  (∀ k, G (a + 70) k = (40, 0, 92970)) ∧
  (∀ k, G (a + 71) k = (40, 0, 30)) ∧
  (∀ k, G (a + 72) k = (40, (-2147483648), 2147483647)) ∧
  (∀ k, G (a + 73) k = (40, (-2147483648), 2147483647)) ∧
  (∀ k, G (a + 74) k = (40, (-2147483648), 2147483647)) ∧
  (∀ k, G (a + 75) k = (40, (-2147483648), 2147483647)) ∧
  (∀ k, G (a + 76) k = (40, (-2147483648), 2147483647)) ∧
  (∀ k, G (a + 77) k = (40, (-128), 127)) ∧
  G a 112 = (40, 0, 3500) ∧
  (∀ k, G (a + 78) k = (40, (-2147483648), 2147483647)) ∧
  (∀ k, G (a + 79) k = (40, 0, 9300)) ∧
  (∀ k, G (a + 80) k = (40, (-2147483648), 2147483647)) ∧
  (∀ k, G (a + 81) k = (40, (-2147483648), 2147483647)) ∧
  (∀ k, G (a + 82) k = (40, (-128), 127)) ∧
  G a 118 = (40, (-2147483648), 2147483647)
theorem zGk12 {U : zTl} {a : Nat} (h : zIn U a zU12) : zG12 (zGu U) a := by
  have U0 := h
  exact ⟨(zGu_at (zIn.h2 U0 (i := 0) rfl rfl) _).trans rfl, fun k => (zGu_at (zIn.h2 U0 (i := 1) (b := a + 1) rfl (by omega)) k).trans rfl, (zGu_at (zIn.h2 U0 (i := 0) rfl rfl) _).trans rfl, (zGu_at (zIn.h2 U0 (i := 0) rfl rfl) _).trans rfl, fun k => (zGu_at (zIn.h2 U0 (i := 2) (b := a + 2) rfl (by omega)) k).trans rfl, fun k => (zGu_at (zIn.h2 U0 (i := 3) (b := a + 3) rfl (by omega)) k).trans rfl, fun k => (zGu_at (zIn.h2 U0 (i := 4) (b := a + 4) rfl (by omega)) k).trans rfl, fun k => (zGu_at (zIn.h2 U0 (i := 5) (b := a + 5) rfl (by omega)) k).trans rfl, fun k => (zGu_at (zIn.h2 U0 (i := 6) (b := a + 6) rfl (by omega)) k).trans rfl, (zGu_at (zIn.h2 U0 (i := 0) rfl rfl) _).trans rfl, fun k => (zGu_at (zIn.h2 U0 (i := 7) (b := a + 7) rfl (by omega)) k).trans rfl, (zGu_at (zIn.h2 U0 (i := 0) rfl rfl) _).trans rfl, fun k => (zGu_at (zIn.h2 U0 (i := 8) (b := a + 8) rfl (by omega)) k).trans rfl, (zGu_at (zIn.h2 U0 (i := 0) rfl rfl) _).trans rfl, fun k => (zGu_at (zIn.h2 U0 (i := 9) (b := a + 9) rfl (by omega)) k).trans rfl, fun k => (zGu_at (zIn.h2 U0 (i := 10) (b := a + 10) rfl (by omega)) k).trans rfl, fun k => (zGu_at (zIn.h2 U0 (i := 11) (b := a + 11) rfl (by omega)) k).trans rfl, fun k => (zGu_at (zIn.h2 U0 (i := 12) (b := a + 12) rfl (by omega)) k).trans rfl, fun k => (zGu_at (zIn.h2 U0 (i := 13) (b := a + 13) rfl (by omega)) k).trans rfl, fun k => (zGu_at (zIn.h2 U0 (i := 14) (b := a + 14) rfl (by omega)) k).trans rfl, fun k => (zGu_at (zIn.h2 U0 (i := 15) (b := a + 15) rfl (by omega)) k).trans rfl, fun k => (zGu_at (zIn.h2 U0 (i := 16) (b := a + 16) rfl (by omega)) k).trans rfl, fun k => (zGu_at (zIn.h2 U0 (i := 17) (b := a + 17) rfl (by omega)) k).trans rfl, (zGu_at (zIn.h2 U0 (i := 0) rfl rfl) _).trans rfl, (zGu_at (zIn.h2 U0 (i := 0) rfl rfl) _).trans rfl, (zGu_at (zIn.h2 U0 (i := 0) rfl rfl) _).trans rfl, (zGu_at (zIn.h2 U0 (i := 0) rfl rfl) _).trans rfl, (zGu_at (zIn.h2 U0 (i := 0) rfl rfl) _).trans rfl, (zGu_at (zIn.h2 U0 (i := 0) rfl rfl) _).trans rfl, (zGu_at (zIn.h2 U0 (i := 0) rfl rfl) _).trans rfl, fun k => (zGu_at (zIn.h2 U0 (i := 18) (b := a + 18) rfl (by omega)) k).trans rfl, fun k => (zGu_at (zIn.h2 U0 (i := 19) (b := a + 19) rfl (by omega)) k).trans rfl, fun k => (zGu_at (zIn.h2 U0 (i := 20) (b := a + 20) rfl (by omega)) k).trans rfl, fun k => (zGu_at (zIn.h2 U0 (i := 21) (b := a + 21) rfl (by omega)) k).trans rfl, (zGu_at (zIn.h2 U0 (i := 0) rfl rfl) _).trans rfl, fun k => (zGu_at (zIn.h2 U0 (i := 22) (b := a + 22) rfl (by omega)) k).trans rfl, fun k => (zGu_at (zIn.h2 U0 (i := 23) (b := a + 23) rfl (by omega)) k).trans rfl, (zGu_at (zIn.h2 U0 (i := 0) rfl rfl) _).trans rfl, fun k => (zGu_at (zIn.h2 U0 (i := 24) (b := a + 24) rfl (by omega)) k).trans rfl, fun k => (zGu_at (zIn.h2 U0 (i := 25) (b := a + 25) rfl (by omega)) k).trans rfl, fun k => (zGu_at (zIn.h2 U0 (i := 26) (b := a + 26) rfl (by omega)) k).trans rfl, fun k => (zGu_at (zIn.h2 U0 (i := 27) (b := a + 27) rfl (by omega)) k).trans rfl, fun k => (zGu_at (zIn.h2 U0 (i := 28) (b := a + 28) rfl (by omega)) k).trans rfl, fun k => (zGu_at (zIn.h2 U0 (i := 29) (b := a + 29) rfl (by omega)) k).trans rfl, fun k => (zGu_at (zIn.h2 U0 (i := 30) (b := a + 30) rfl (by omega)) k).trans rfl, fun k => (zGu_at (zIn.h2 U0 (i := 31) (b := a + 31) rfl (by omega)) k).trans rfl, fun k => (zGu_at (zIn.h2 U0 (i := 32) (b := a + 32) rfl (by omega)) k).trans rfl, fun k => (zGu_at (zIn.h2 U0 (i := 33) (b := a + 33) rfl (by omega)) k).trans rfl, fun k => (zGu_at (zIn.h2 U0 (i := 34) (b := a + 34) rfl (by omega)) k).trans rfl, fun k => (zGu_at (zIn.h2 U0 (i := 35) (b := a + 35) rfl (by omega)) k).trans rfl, fun k => (zGu_at (zIn.h2 U0 (i := 36) (b := a + 36) rfl (by omega)) k).trans rfl, fun k => (zGu_at (zIn.h2 U0 (i := 37) (b := a + 37) rfl (by omega)) k).trans rfl, fun k => (zGu_at (zIn.h2 U0 (i := 38) (b := a + 38) rfl (by omega)) k).trans rfl, fun k => (zGu_at (zIn.h2 U0 (i := 39) (b := a + 39) rfl (by omega)) k).trans rfl, fun k => (zGu_at (zIn.h2 U0 (i := 40) (b := a + 40) rfl (by omega)) k).trans rfl, fun k => (zGu_at (zIn.h2 U0 (i := 41) (b := a + 41) rfl (by omega)) k).trans rfl, fun k => (zGu_at (zIn.h2 U0 (i := 42) (b := a + 42) rfl (by omega)) k).trans rfl, (zGu_at (zIn.h2 U0 (i := 0) rfl rfl) _).trans rfl, (zGu_at (zIn.h2 U0 (i := 0) rfl rfl) _).trans rfl, (zGu_at (zIn.h2 U0 (i := 0) rfl rfl) _).trans rfl, (zGu_at (zIn.h2 U0 (i := 0) rfl rfl) _).trans rfl, (zGu_at (zIn.h2 U0 (i := 0) rfl rfl) _).trans rfl, (zGu_at (zIn.h2 U0 (i := 0) rfl rfl) _).trans rfl, (zGu_at (zIn.h2 U0 (i := 0) rfl rfl) _).trans rfl, (zGu_at (zIn.h2 U0 (i := 0) rfl rfl) _).trans rfl, (zGu_at (zIn.h2 U0 (i := 0) rfl rfl) _).trans rfl, fun k => (zGu_at (zIn.h2 U0 (i := 43) (b := a + 43) rfl (by omega)) k).trans rfl, fun k => (zGu_at (zIn.h2 U0 (i := 44) (b := a + 44) rfl (by omega)) k).trans rfl, fun k => (zGu_at (zIn.h2 U0 (i := 45) (b := a + 45) rfl (by omega)) k).trans rfl, fun k => (zGu_at (zIn.h2 U0 (i := 46) (b := a + 46) rfl (by omega)) k).trans rfl, fun k => (zGu_at (zIn.h2 U0 (i := 47) (b := a + 47) rfl (by omega)) k).trans rfl, fun k => (zGu_at (zIn.h2 U0 (i := 48) (b := a + 48) rfl (by omega)) k).trans rfl, (zGu_at (zIn.h2 U0 (i := 0) rfl rfl) _).trans rfl, (zGu_at (zIn.h2 U0 (i := 0) rfl rfl) _).trans rfl, (zGu_at (zIn.h2 U0 (i := 0) rfl rfl) _).trans rfl, (zGu_at (zIn.h2 U0 (i := 0) rfl rfl) _).trans rfl, fun k => (zGu_at (zIn.h2 U0 (i := 51) (b := a + 51) rfl (by omega)) k).trans rfl, fun k => (zGu_at (zIn.h2 U0 (i := 52) (b := a + 52) rfl (by omega)) k).trans rfl, fun k => (zGu_at (zIn.h2 U0 (i := 53) (b := a + 53) rfl (by omega)) k).trans rfl, fun k => (zGu_at (zIn.h2 U0 (i := 54) (b := a + 54) rfl (by omega)) k).trans rfl, fun k => (zGu_at (zIn.h2 U0 (i := 55) (b := a + 55) rfl (by omega)) k).trans rfl, fun k => (zGu_at (zIn.h2 U0 (i := 56) (b := a + 56) rfl (by omega)) k).trans rfl, fun k => (zGu_at (zIn.h2 U0 (i := 57) (b := a + 57) rfl (by omega)) k).trans rfl, fun k => (zGu_at (zIn.h2 U0 (i := 58) (b := a + 58) rfl (by omega)) k).trans rfl, (zGu_at (zIn.h2 U0 (i := 0) rfl rfl) _).trans rfl, (zGu_at (zIn.h2 U0 (i := 0) rfl rfl) _).trans rfl, fun k => (zGu_at (zIn.h2 U0 (i := 59) (b := a + 59) rfl (by omega)) k).trans rfl, fun k => (zGu_at (zIn.h2 U0 (i := 60) (b := a + 60) rfl (by omega)) k).trans rfl, fun k => (zGu_at (zIn.h2 U0 (i := 61) (b := a + 61) rfl (by omega)) k).trans rfl, fun k => (zGu_at (zIn.h2 U0 (i := 62) (b := a + 62) rfl (by omega)) k).trans rfl, fun k => (zGu_at (zIn.h2 U0 (i := 63) (b := a + 63) rfl (by omega)) k).trans rfl, fun k => (zGu_at (zIn.h2 U0 (i := 64) (b := a + 64) rfl (by omega)) k).trans rfl, fun k => (zGu_at (zIn.h2 U0 (i := 65) (b := a + 65) rfl (by omega)) k).trans rfl, fun k => (zGu_at (zIn.h2 U0 (i := 66) (b := a + 66) rfl (by omega)) k).trans rfl, fun k => (zGu_at (zIn.h2 U0 (i := 67) (b := a + 67) rfl (by omega)) k).trans rfl, (zGu_at (zIn.h2 U0 (i := 0) rfl rfl) _).trans rfl, (zGu_at (zIn.h2 U0 (i := 0) rfl rfl) _).trans rfl, (zGu_at (zIn.h2 U0 (i := 0) rfl rfl) _).trans rfl, fun k => (zGu_at (zIn.h2 U0 (i := 68) (b := a + 68) rfl (by omega)) k).trans rfl, fun k => (zGu_at (zIn.h2 U0 (i := 69) (b := a + 69) rfl (by omega)) k).trans rfl, fun k => (zGu_at (zIn.h2 U0 (i := 70) (b := a + 70) rfl (by omega)) k).trans rfl, fun k => (zGu_at (zIn.h2 U0 (i := 71) (b := a + 71) rfl (by omega)) k).trans rfl, fun k => (zGu_at (zIn.h2 U0 (i := 72) (b := a + 72) rfl (by omega)) k).trans rfl, fun k => (zGu_at (zIn.h2 U0 (i := 73) (b := a + 73) rfl (by omega)) k).trans rfl, fun k => (zGu_at (zIn.h2 U0 (i := 74) (b := a + 74) rfl (by omega)) k).trans rfl, fun k => (zGu_at (zIn.h2 U0 (i := 75) (b := a + 75) rfl (by omega)) k).trans rfl, fun k => (zGu_at (zIn.h2 U0 (i := 76) (b := a + 76) rfl (by omega)) k).trans rfl, fun k => (zGu_at (zIn.h2 U0 (i := 77) (b := a + 77) rfl (by omega)) k).trans rfl, (zGu_at (zIn.h2 U0 (i := 0) rfl rfl) _).trans rfl, fun k => (zGu_at (zIn.h2 U0 (i := 78) (b := a + 78) rfl (by omega)) k).trans rfl, fun k => (zGu_at (zIn.h2 U0 (i := 79) (b := a + 79) rfl (by omega)) k).trans rfl, fun k => (zGu_at (zIn.h2 U0 (i := 80) (b := a + 80) rfl (by omega)) k).trans rfl, fun k => (zGu_at (zIn.h2 U0 (i := 81) (b := a + 81) rfl (by omega)) k).trans rfl, fun k => (zGu_at (zIn.h2 U0 (i := 82) (b := a + 82) rfl (by omega)) k).trans rfl, (zGu_at (zIn.h2 U0 (i := 0) rfl rfl) _).trans rfl⟩
theorem zMk5 {T : zTl} {F R : zRm'} {G : zGt} {a : Nat} {n : Nat} {L : Int} (hT : zIn T a (zL5 n)) (hG : zG5 G a n L) (hN : zN5 R a) (g : ∀ (c : Nat) (z : Int), a ≤ c → c < a + 4 → F c z = R c z) : zRow T F G a n L := by
  have L0 := hT
  exact ⟨zIn.h2 L0 (i := 0) rfl (by omega), (g a 0 (by omega) (by omega)).trans (hN.1), zIn.h2 L0 (i := 1) rfl (by omega), (hG.1), (g a 1 (by omega) (by omega)).trans (hN.2.1), zIn.h2 L0 (i := 2) rfl (by omega), (hG.2.1), (g a 2 (by omega) (by omega)).trans (hN.2.2), zIn.h2 L0 (i := 3) rfl (by omega), (hG.2.2.1), (hG.2.2.2)⟩
theorem zMk1 {T : zTl} {F : zRm'} {G : zGt} {a : Nat} (hT : zIn T a (zL1)) (hG : zG1 G a) : zFault T F G a := by
  have L0 := hT
  exact ⟨zIn.h2 L0 (i := 0) rfl (by omega), (hG.1), (hG.2)⟩
theorem zMk4 {T : zTl} {F R : zRm'} {G : zGt} {a : Nat} (hT : zIn T a (zL4)) (hG : zG4 G a) (hN : zN4 R a) (g : ∀ (c : Nat) (z : Int), a ≤ c → c < a + 4 → F c z = R c z) : zPage T F G a := by
  have L0 := hT
  exact ⟨zIn.h2 L0 (i := 0) rfl (by omega), (g a 0 (by omega) (by omega)).trans (hN.1), zIn.h2 L0 (i := 1) rfl (by omega), (hG.1), (g a 1 (by omega) (by omega)).trans (hN.2.1), zIn.h2 L0 (i := 2) rfl (by omega), (hG.2.1), (g a 2 (by omega) (by omega)).trans (hN.2.2), zIn.h2 L0 (i := 3) rfl (by omega), (hG.2.2.1), (hG.2.2.2.1), (hG.2.2.2.2.1), (hG.2.2.2.2.2.1), (hG.2.2.2.2.2.2)⟩
theorem zMk10 {T : zTl} {F R : zRm'} {G : zGt} {a : Nat} {L : Nat} {n : Nat} (hT : zIn T a (zL10 n)) (hG : zG10 G a L) (hN : zN10 R a) (g : ∀ (c : Nat) (z : Int), a ≤ c → c < a + 2 → F c z = R c z) (hL : 2576 + n = L) : zText T F G a L := by
  subst hL
  have L0 := hT
  exact ⟨zIn.h2 L0 (i := 0) rfl (by omega), (g a 0 (by omega) (by omega)).trans (hN), zIn.h2 L0 (i := 1) rfl (by omega), (hG.1), (hG.2)⟩
theorem zMk3 {T : zTl} {F R : zRm'} {G : zGt} {a : Nat} {t : Nat} {q : Nat} {L : Nat} (hT : zIn T a (zL3)) (hG : zG3 G a L) (hN : zN3 R a t q) (g : ∀ (c : Nat) (z : Int), a ≤ c → c < a + 15 → F c z = R c z) (et : zText T F G t L) (eq : zFault T F G q) : zMacros T F G a t q L := by
  have L0 := hT
  exact ⟨zIn.h2 L0 (i := 0) rfl (by omega), (hG.1), (g a 1 (by omega) (by omega)).trans (hN.1), zIn.h2 L0 (i := 1) rfl (by omega), (hG.2.1), (g a 2 (by omega) (by omega)).trans (hN.2.1), zIn.h2 L0 (i := 2) rfl (by omega), (hG.2.2.1), (g a 3 (by omega) (by omega)).trans (hN.2.2.1), zIn.h2 L0 (i := 3) rfl (by omega), (hG.2.2.2.1), (g a 4 (by omega) (by omega)).trans (hN.2.2.2.1), zIn.h2 L0 (i := 4) rfl (by omega), (hG.2.2.2.2.1), (g a 5 (by omega) (by omega)).trans (hN.2.2.2.2.1), zIn.h2 L0 (i := 5) rfl (by omega), (hG.2.2.2.2.2.1), (g a 6 (by omega) (by omega)).trans (hN.2.2.2.2.2.1), zIn.h2 L0 (i := 6) rfl (by omega), (hG.2.2.2.2.2.2.1), (g a 7 (by omega) (by omega)).trans (hN.2.2.2.2.2.2.1), zIn.h2 L0 (i := 7) rfl (by omega), (hG.2.2.2.2.2.2.2.1), (g a 8 (by omega) (by omega)).trans (hN.2.2.2.2.2.2.2.1), zIn.h2 L0 (i := 8) rfl (by omega), (hG.2.2.2.2.2.2.2.2.1), (g a 9 (by omega) (by omega)).trans (hN.2.2.2.2.2.2.2.2.1), zIn.h2 L0 (i := 9) rfl (by omega), (hG.2.2.2.2.2.2.2.2.2.1), (g a 10 (by omega) (by omega)).trans (hN.2.2.2.2.2.2.2.2.2.1), zIn.h2 L0 (i := 10) rfl (by omega), (hG.2.2.2.2.2.2.2.2.2.2.1), (g a 11 (by omega) (by omega)).trans (hN.2.2.2.2.2.2.2.2.2.2.1), zIn.h2 L0 (i := 11) rfl (by omega), (hG.2.2.2.2.2.2.2.2.2.2.2.1), (g a 12 (by omega) (by omega)).trans (hN.2.2.2.2.2.2.2.2.2.2.2.1), zIn.h2 L0 (i := 12) rfl (by omega), (hG.2.2.2.2.2.2.2.2.2.2.2.2.1), (g a 13 (by omega) (by omega)).trans (hN.2.2.2.2.2.2.2.2.2.2.2.2.1), zIn.h2 L0 (i := 13) rfl (by omega), (hG.2.2.2.2.2.2.2.2.2.2.2.2.2.1), (g a 14 (by omega) (by omega)).trans (hN.2.2.2.2.2.2.2.2.2.2.2.2.2.2.1), et, (g a 15 (by omega) (by omega)).trans (hN.2.2.2.2.2.2.2.2.2.2.2.2.2.2.2), eq, (g a 16 (by omega) (by omega)).trans (hN.2.2.2.2.2.2.2.2.2.2.2.2.2.1), zIn.h2 L0 (i := 14) rfl (by omega), (hG.2.2.2.2.2.2.2.2.2.2.2.2.2.2.1), (hG.2.2.2.2.2.2.2.2.2.2.2.2.2.2.2)⟩
theorem zMk9 {T : zTl} {F R : zRm'} {G : zGt} {a : Nat} {t : Nat} {q : Nat} {L : Nat} (hT : zIn T a (zL9)) (hG : zG9 G a L) (hN : zN9 R a t q) (g : ∀ (c : Nat) (z : Int), a ≤ c → c < a + 3 → ¬ (c = a ∧ z = 2) → F c z = R c z) (hh : ∀ (c : Nat) (z : Int), c = a ∧ z = 2 → F c z = none) (et : zText T F G t L) (eq : zFault T F G q) : zSums T F G a t q L := by
  have L0 := hT
  exact ⟨zIn.h2 L0 (i := 0) rfl (by omega), (g a 0 (by omega) (by omega) (by omega)).trans (hN.2.2.1), et, (g a 1 (by omega) (by omega) (by omega)).trans (hN.2.2.2), eq, hh a 2 (by omega), (g a 3 (by omega) (by omega) (by omega)).trans (hN.1), zIn.h2 L0 (i := 1) rfl (by omega), (hG.1), (g a 4 (by omega) (by omega) (by omega)).trans (hN.2.1), zIn.h2 L0 (i := 2) rfl (by omega), (hG.2.1), (hG.2.2.1), (hG.2.2.2)⟩
theorem zMk2 {T : zTl} {F R : zRm'} {G : zGt} {a : Nat} {L : Nat} (hT : zIn T a (zL2)) (hG : zG2 G a L) (hN : zN2 R a) (g : ∀ (c : Nat) (z : Int), a ≤ c → c < a + 7 → F c z = R c z) : zFrame T F G a L := by
  obtain ⟨L0, L1⟩ := zIn.ap (l := 3) (a2 := a + 3) hT rfl (by omega)
  exact ⟨zIn.h2 L0 (i := 0) rfl (by omega), (hG.1), (hG.2.1), (hG.2.2.1), (hG.2.2.2.1), (hG.2.2.2.2.1), (hG.2.2.2.2.2.1), (hG.2.2.2.2.2.2.1), (hG.2.2.2.2.2.2.2.1), (hG.2.2.2.2.2.2.2.2.1), (g a 9 (by omega) (by omega)).trans (hN.1), zIn.h2 L0 (i := 1) rfl (by omega), (hG.2.2.2.2.2.2.2.2.2.1), (g a 10 (by omega) (by omega)).trans (hN.2.1), zIn.h2 L0 (i := 2) rfl (by omega), (hG.2.2.2.2.2.2.2.2.2.2.1), (g a 11 (by omega) (by omega)).trans (hN.2.2.1), zMk5 L1 (hG.2.2.2.2.2.2.2.2.2.2.2.1) (hN.2.2.2) (fun c z h1 h2 => g c z (by omega) (by omega)), (hG.2.2.2.2.2.2.2.2.2.2.2.2.1), (hG.2.2.2.2.2.2.2.2.2.2.2.2.2.1), (hG.2.2.2.2.2.2.2.2.2.2.2.2.2.2.1), (hG.2.2.2.2.2.2.2.2.2.2.2.2.2.2.2.1), (hG.2.2.2.2.2.2.2.2.2.2.2.2.2.2.2.2.1), (hG.2.2.2.2.2.2.2.2.2.2.2.2.2.2.2.2.2)⟩
theorem zMk0 {T : zTl} {F R : zRm'} {G : zGt} {a : Nat} {t : Nat} {mc : Nat} {q : Nat} {L : Nat} (hT : zIn T a (zL0)) (hG : zG0 G a L) (hN : zN0 R a t mc q) (g : ∀ (c : Nat) (z : Int), a ≤ c → c < a + 714 → ¬ (c = a ∧ z = 7) → F c z = R c z) (hh : ∀ (c : Nat) (z : Int), c = a ∧ z = 7 → F c z = none) (et : zText T F G t L) (em : zMacros T F G mc t q L) (eq : zFault T F G q) : zExpander T F G a t mc q L := by
  obtain ⟨L0, Lr0⟩ := zIn.ap (l := 1) (a2 := a + 1) hT rfl (by omega)
  obtain ⟨L1, Lr1⟩ := zIn.ap (l := 4) (a2 := a + 5) Lr0 (zL5_len _) (by omega)
  obtain ⟨L2, L3⟩ := zIn.ap (l := 2) (a2 := a + 7) Lr1 rfl (by omega)
  exact ⟨zIn.h2 L0 (i := 0) rfl (by omega), (g a 0 (by omega) (by omega) (by omega)).trans (hN.2.2.2.1), et, (g a 1 (by omega) (by omega) (by omega)).trans (hN.2.2.2.2.1), em, (g a 2 (by omega) (by omega) (by omega)).trans (hN.2.2.2.2.2.1), eq, (g a 3 (by omega) (by omega) (by omega)).trans (hN.1), zMk5 L1 (hG.1) (hN.2.2.2.2.2.2.1) (fun c z h1 h2 => g c z (by omega) (by omega) (by omega)), (g a 4 (by omega) (by omega) (by omega)).trans (hN.2.1), zIn.h2 L2 (i := 0) rfl (by omega), (hG.2.1), (g a 5 (by omega) (by omega) (by omega)).trans (hN.2.2.1), zIn.h2 L2 (i := 1) rfl (by omega), fun j j1 j2 => ⟨(g _ _ (by omega) (by omega) (by omega)).trans ((hN.2.2.2.2.2.2.2) j j1 j2).1, zMk2 (zIn.rep zL2_len L3 j.toNat (by omega)) ((hG.2.2.1) j j1 j2) ((hN.2.2.2.2.2.2.2) j j1 j2).2 (fun c z h1 h2 => g c z (by omega) (by omega) (by omega))⟩, (hG.2.2.2.1), hh a 7 (by omega), (hG.2.2.2.2)⟩
theorem zMk7 {T : zTl} {F R : zRm'} {G : zGt} {a : Nat} (hT : zIn T a (zL7)) (hG : zG7 G a) (hN : zN7 R a) (g : ∀ (c : Nat) (z : Int), a ≤ c → c < a + 25 → F c z = R c z) : zSource T F G a := by
  obtain ⟨L0, Lr0⟩ := zIn.ap (l := 3) (a2 := a + 3) hT rfl (by omega)
  obtain ⟨L1, Lr1⟩ := zIn.ap (l := 3) (a2 := a + 6) Lr0 (zRep_len (l := 1) rfl _) (by omega)
  obtain ⟨L2, L3⟩ := zIn.ap (l := 3) (a2 := a + 9) Lr1 rfl (by omega)
  exact ⟨zIn.h2 L0 (i := 0) rfl (by omega), (g a 0 (by omega) (by omega)).trans (hN.1), zIn.h2 L0 (i := 1) rfl (by omega), fun j j1 j2 => ⟨(g _ _ (by omega) (by omega)).trans ((hN.2.2.2.2.2.2) j j1 j2).1, zMk4 (zIn.rep zL4_len L3 j.toNat (by omega)) ((hG.1) j j1 j2) ((hN.2.2.2.2.2.2) j j1 j2).2 (fun c z h1 h2 => g c z (by omega) (by omega))⟩, (g a 1 (by omega) (by omega)).trans (hN.2.1), zIn.h2 L0 (i := 2) rfl (by omega), fun j j1 j2 => ⟨(g _ _ (by omega) (by omega)).trans ((hN.2.2.2.2.2.1) j j1 j2), zIn.h2 (zIn.rep (l := 1) rfl L1 j.toNat (by omega)) (i := 0) rfl (by omega), (hG.2.1) j j1 j2⟩, (g a 2 (by omega) (by omega)).trans (hN.2.2.1), zIn.h2 L2 (i := 0) rfl (by omega), (hG.2.2.1), (hG.2.2.2.1), (hG.2.2.2.2.1), (g a 5 (by omega) (by omega)).trans (hN.2.2.2.1), zIn.h2 L2 (i := 1) rfl (by omega), (hG.2.2.2.2.2.1), (g a 6 (by omega) (by omega)).trans (hN.2.2.2.2.1), zIn.h2 L2 (i := 2) rfl (by omega), (hG.2.2.2.2.2.2)⟩
theorem zMk6 {T : zTl} {F R : zRm'} {G : zGt} {a : Nat} {L : Nat} {r : Nat} (hT : zIn T a (zL6 r)) (hG : zG6 G a L) (hN : zN6 R a) (g : ∀ (c : Nat) (z : Int), a ≤ c → c < a + 756 → ¬ (c = a ∧ z = 11 ∨ c = a + 39 ∧ z = 7 ∨ c = a + 753 ∧ z = 2) → F c z = R c z) (hh : ∀ (c : Nat) (z : Int), c = a ∧ z = 11 ∨ c = a + 39 ∧ z = 7 ∨ c = a + 753 ∧ z = 2 → F c z = none) (hL : 2576 + r * 30000 = L) : zRunner T F G a L := by
  subst hL
  obtain ⟨L0, Lr0⟩ := zIn.ap (l := 1) (a2 := a + 1) hT rfl (by omega)
  obtain ⟨L1, Lr1⟩ := zIn.ap (l := 1) (a2 := a + 2) Lr0 (zL1_len) (by omega)
  obtain ⟨L2, Lr2⟩ := zIn.ap (l := 4) (a2 := a + 6) Lr1 (zL5_len _) (by omega)
  obtain ⟨L3, Lr3⟩ := zIn.ap (l := 3) (a2 := a + 9) Lr2 rfl (by omega)
  obtain ⟨L4, Lr4⟩ := zIn.ap (l := 4) (a2 := a + 13) Lr3 (zL5_len _) (by omega)
  obtain ⟨L5, Lr5⟩ := zIn.ap (l := 4) (a2 := a + 17) Lr4 (zL5_len _) (by omega)
  obtain ⟨L6, Lr6⟩ := zIn.ap (l := 5) (a2 := a + 22) Lr5 rfl (by omega)
  obtain ⟨L7, Lr7⟩ := zIn.ap (l := 2) (a2 := a + 24) Lr6 (zL10_len _) (by omega)
  obtain ⟨L8, Lr8⟩ := zIn.ap (l := 15) (a2 := a + 39) Lr7 (zL3_len) (by omega)
  obtain ⟨L9, L10⟩ := zIn.ap (l := 714) (a2 := a + 753) Lr8 (zL0_len) (by omega)
  have et : zText T F G (a + 22) (2576 + r * 30000) := zMk10 L7 (hG.1) (hN.2.2.2.2.2.2.2.2.2.2.2.2.2.2.2.2.2.2.2.1) (fun c z h1 h2 => g c z (by omega) (by omega) (by omega)) rfl
  have eq : zFault T F G (a + 1) := zMk1 L1 (hG.2.1)
  have em : zMacros T F G (a + 24) (a + 22) (a + 1) (2576 + r * 30000) := zMk3 L8 (hG.2.2.1) (hN.2.2.2.2.2.2.2.2.2.2.2.2.2.2.2.2.2.2.2.2.1) (fun c z h1 h2 => g c z (by omega) (by omega) (by omega)) et eq
  exact ⟨zIn.h2 L0 (i := 0) rfl (by omega), (g a 0 (by omega) (by omega) (by omega)).trans (hN.2.2.2.2.2.2.2.2.2.2.2.2.1), et, (g a 1 (by omega) (by omega) (by omega)).trans (hN.1), eq, (g a 2 (by omega) (by omega) (by omega)).trans (hN.2.2.2.2.2.2.2.2.2.2.2.2.2.1), em, (g a 3 (by omega) (by omega) (by omega)).trans (hN.2.1), zMk5 L2 (hG.2.2.2.1) (hN.2.2.2.2.2.2.2.2.2.2.2.2.2.2.2.2.1) (fun c z h1 h2 => g c z (by omega) (by omega) (by omega)), (g a 4 (by omega) (by omega) (by omega)).trans (hN.2.2.1), zIn.h2 L3 (i := 0) rfl (by omega), (hG.2.2.2.2.1), (g a 5 (by omega) (by omega) (by omega)).trans (hN.2.2.2.1), zIn.h2 L3 (i := 1) rfl (by omega), (hG.2.2.2.2.2.1), (g a 6 (by omega) (by omega) (by omega)).trans (hN.2.2.2.2.1), zIn.h2 L3 (i := 2) rfl (by omega), (hG.2.2.2.2.2.2.1), (g a 7 (by omega) (by omega) (by omega)).trans (hN.2.2.2.2.2.2.2.2.2.2.2.2.2.2.1), zMk0 L9 (hG.2.2.2.2.2.2.2.1) (hN.2.2.2.2.2.2.2.2.2.2.2.2.2.2.2.2.2.2.2.2.2.1) (fun c z h1 h2 h3 => g c z (by omega) (by omega) (by omega)) (fun c z h => hh c z (by omega)) et em eq, (g a 8 (by omega) (by omega) (by omega)).trans (hN.2.2.2.2.2.2.2.2.2.2.2.2.2.2.2.1), zMk9 L10 (hG.2.2.2.2.2.2.2.2.1) (hN.2.2.2.2.2.2.2.2.2.2.2.2.2.2.2.2.2.2.2.2.2.2) (fun c z h1 h2 h3 => g c z (by omega) (by omega) (by omega)) (fun c z h => hh c z (by omega)) et eq, (g a 9 (by omega) (by omega) (by omega)).trans (hN.2.2.2.2.2.1), zMk5 L4 (hG.2.2.2.2.2.2.2.2.2.1) (hN.2.2.2.2.2.2.2.2.2.2.2.2.2.2.2.2.2.1) (fun c z h1 h2 => g c z (by omega) (by omega) (by omega)), (g a 10 (by omega) (by omega) (by omega)).trans (hN.2.2.2.2.2.2.1), zMk5 L5 (hG.2.2.2.2.2.2.2.2.2.2.1) (hN.2.2.2.2.2.2.2.2.2.2.2.2.2.2.2.2.2.2.1) (fun c z h1 h2 => g c z (by omega) (by omega) (by omega)), hh a 11 (by omega), (g a 12 (by omega) (by omega) (by omega)).trans (hN.2.2.2.2.2.2.2.1), zIn.h2 L6 (i := 0) rfl (by omega), (hG.2.2.2.2.2.2.2.2.2.2.2.1), (g a 13 (by omega) (by omega) (by omega)).trans (hN.2.2.2.2.2.2.2.2.1), zIn.h2 L6 (i := 1) rfl (by omega), (hG.2.2.2.2.2.2.2.2.2.2.2.2.1), (g a 14 (by omega) (by omega) (by omega)).trans (hN.2.2.2.2.2.2.2.2.2.1), zIn.h2 L6 (i := 2) rfl (by omega), (hG.2.2.2.2.2.2.2.2.2.2.2.2.2.1), (hG.2.2.2.2.2.2.2.2.2.2.2.2.2.2.1), (g a 16 (by omega) (by omega) (by omega)).trans (hN.2.2.2.2.2.2.2.2.2.2.1), zIn.h2 L6 (i := 3) rfl (by omega), (hG.2.2.2.2.2.2.2.2.2.2.2.2.2.2.2.1), (g a 17 (by omega) (by omega) (by omega)).trans (hN.2.2.2.2.2.2.2.2.2.2.2.1), zIn.h2 L6 (i := 4) rfl (by omega), (hG.2.2.2.2.2.2.2.2.2.2.2.2.2.2.2.2.1), (hG.2.2.2.2.2.2.2.2.2.2.2.2.2.2.2.2.2.1), (hG.2.2.2.2.2.2.2.2.2.2.2.2.2.2.2.2.2.2)⟩
theorem zMk11 {T : zTl} {F R : zRm'} {G : zGt} {a : Nat} (hT : zIn T a (zL11)) (hG : zG11 G a) (hN : zN11 R a) (g : ∀ (c : Nat) (z : Int), a ≤ c → c < a + 836 → ¬ (c = a ∧ z = 8 ∨ c = a + 30 ∧ z = 11 ∨ c = a + 69 ∧ z = 7 ∨ c = a + 783 ∧ z = 2) → F c z = R c z) (hh : ∀ (c : Nat) (z : Int), c = a ∧ z = 8 ∨ c = a + 30 ∧ z = 11 ∨ c = a + 69 ∧ z = 7 ∨ c = a + 783 ∧ z = 2 → F c z = none) : zHideSets T F G a := by
  obtain ⟨L0, Lr0⟩ := zIn.ap (l := 2) (a2 := a + 2) hT rfl (by omega)
  obtain ⟨L1, Lr1⟩ := zIn.ap (l := 25) (a2 := a + 27) Lr0 (zL7_len) (by omega)
  obtain ⟨L2, Lr2⟩ := zIn.ap (l := 3) (a2 := a + 30) Lr1 rfl (by omega)
  obtain ⟨L3, L4⟩ := zIn.ap (l := 756) (a2 := a + 786) Lr2 (zL6_len _) (by omega)
  exact ⟨zIn.h2 L0 (i := 0) rfl (by omega), (g a 0 (by omega) (by omega) (by omega)).trans (hN.1), zIn.h2 L0 (i := 1) rfl (by omega), (hG.1), (hG.2.1), (g a 2 (by omega) (by omega) (by omega)).trans (hN.2.1), zMk7 L1 (hG.2.2.1) (hN.2.2.2.2.2.2.1) (fun c z h1 h2 => g c z (by omega) (by omega) (by omega)), (g a 3 (by omega) (by omega) (by omega)).trans (hN.2.2.1), zIn.h2 L2 (i := 0) rfl (by omega), fun j j1 j2 => ⟨(g _ _ (by omega) (by omega) (by omega)).trans ((hN.2.2.2.2.2.2.2.2) j j1 j2).1, zMk7 (zIn.rep zL7_len L4 j.toNat (by omega)) ((hG.2.2.2.1) j j1 j2) ((hN.2.2.2.2.2.2.2.2) j j1 j2).2 (fun c z h1 h2 => g c z (by omega) (by omega) (by omega))⟩, (g a 4 (by omega) (by omega) (by omega)).trans (hN.2.2.2.1), zIn.h2 L2 (i := 1) rfl (by omega), (hG.2.2.2.2.1), (g a 5 (by omega) (by omega) (by omega)).trans (hN.2.2.2.2.1), zIn.h2 L2 (i := 2) rfl (by omega), (hG.2.2.2.2.2.1), (hG.2.2.2.2.2.2.1), (g a 7 (by omega) (by omega) (by omega)).trans (hN.2.2.2.2.2.1), zMk6 (L := 62576) (r := 2) L3 (hG.2.2.2.2.2.2.2) (hN.2.2.2.2.2.2.2.1) (fun c z h1 h2 h3 => g c z (by omega) (by omega) (by omega)) (fun c z h => hh c z (by omega)) rfl, hh a 8 (by omega)⟩
theorem zMk8 {T : zTl} {F R : zRm'} {G : zGt} {a : Nat} (hT : zIn T a (zL8)) (hG : zG8 G a) (hN : zN8 R a) (g : ∀ (c : Nat) (z : Int), a ≤ c → c < a + 761 → ¬ (c = a + 1 ∧ z = 11 ∨ c = a + 40 ∧ z = 7 ∨ c = a + 754 ∧ z = 2) → F c z = R c z) (hh : ∀ (c : Nat) (z : Int), c = a + 1 ∧ z = 11 ∨ c = a + 40 ∧ z = 7 ∨ c = a + 754 ∧ z = 2 → F c z = none) : zStudy T F G a := by
  obtain ⟨L0, Lr0⟩ := zIn.ap (l := 1) (a2 := a + 1) hT rfl (by omega)
  obtain ⟨L1, L2⟩ := zIn.ap (l := 756) (a2 := a + 757) Lr0 (zL6_len _) (by omega)
  exact ⟨zIn.h2 L0 (i := 0) rfl (by omega), (g a 0 (by omega) (by omega) (by omega)).trans (hN.1), zMk6 (L := 32576) (r := 1) L1 (hG.1) (hN.2.2.2.2.2) (fun c z h1 h2 h3 => g c z (by omega) (by omega) (by omega)) (fun c z h => hh c z (by omega)) rfl, (g a 1 (by omega) (by omega) (by omega)).trans (hN.2.1), zIn.h2 L2 (i := 0) rfl (by omega), (hG.2.1), (g a 2 (by omega) (by omega) (by omega)).trans (hN.2.2.1), zIn.h2 L2 (i := 1) rfl (by omega), (hG.2.2.1), (g a 3 (by omega) (by omega) (by omega)).trans (hN.2.2.2.1), zIn.h2 L2 (i := 2) rfl (by omega), (hG.2.2.2.1), (g a 4 (by omega) (by omega) (by omega)).trans (hN.2.2.2.2.1), zIn.h2 L2 (i := 3) rfl (by omega), (hG.2.2.2.2.1), (hG.2.2.2.2.2)⟩
theorem zMk12 {T : zTl} {F R : zRm'} {G : zGt} {a : Nat} (hT : zIn T a zL12) (hG : zG12 G a) (hN : zN12 R a) (g : ∀ (c : Nat) (z : Int), a ≤ c → c < a + 83 → F c z = R c z) : zModel T F G a := by
  have L0 := hT
  exact ⟨⟨zIn.h2 L0 (i := 0) rfl (by omega), (hG.1), (g a 1 (by omega) (by omega)).trans (hN.1), zIn.h2 L0 (i := 1) rfl (by omega), (hG.2.1), (hG.2.2.1), (hG.2.2.2.1), (g a 4 (by omega) (by omega)).trans (hN.2.1), zIn.h2 L0 (i := 2) rfl (by omega), (hG.2.2.2.2.1), (g a 5 (by omega) (by omega)).trans (hN.2.2.1), zIn.h2 L0 (i := 3) rfl (by omega)⟩, ⟨(hG.2.2.2.2.2.1), (g a 6 (by omega) (by omega)).trans (hN.2.2.2.1), zIn.h2 L0 (i := 4) rfl (by omega), (hG.2.2.2.2.2.2.1), (g a 7 (by omega) (by omega)).trans (hN.2.2.2.2.1), zIn.h2 L0 (i := 5) rfl (by omega), (hG.2.2.2.2.2.2.2.1), (g a 8 (by omega) (by omega)).trans (hN.2.2.2.2.2.1), zIn.h2 L0 (i := 6) rfl (by omega), (hG.2.2.2.2.2.2.2.2.1), (hG.2.2.2.2.2.2.2.2.2.1), (g a 10 (by omega) (by omega)).trans (hN.2.2.2.2.2.2.1)⟩, ⟨zIn.h2 L0 (i := 7) rfl (by omega), (hG.2.2.2.2.2.2.2.2.2.2.1), (hG.2.2.2.2.2.2.2.2.2.2.2.1), (g a 12 (by omega) (by omega)).trans (hN.2.2.2.2.2.2.2.1), zIn.h2 L0 (i := 8) rfl (by omega), (hG.2.2.2.2.2.2.2.2.2.2.2.2.1), (hG.2.2.2.2.2.2.2.2.2.2.2.2.2.1), (g a 14 (by omega) (by omega)).trans (hN.2.2.2.2.2.2.2.2.1), zIn.h2 L0 (i := 9) rfl (by omega), (hG.2.2.2.2.2.2.2.2.2.2.2.2.2.2.1), (g a 15 (by omega) (by omega)).trans (hN.2.2.2.2.2.2.2.2.2.1), zIn.h2 L0 (i := 10) rfl (by omega)⟩, ⟨(hG.2.2.2.2.2.2.2.2.2.2.2.2.2.2.2.1), (g a 16 (by omega) (by omega)).trans (hN.2.2.2.2.2.2.2.2.2.2.1), zIn.h2 L0 (i := 11) rfl (by omega), (hG.2.2.2.2.2.2.2.2.2.2.2.2.2.2.2.2.1), (g a 17 (by omega) (by omega)).trans (hN.2.2.2.2.2.2.2.2.2.2.2.1), zIn.h2 L0 (i := 12) rfl (by omega), (hG.2.2.2.2.2.2.2.2.2.2.2.2.2.2.2.2.2.1), (g a 18 (by omega) (by omega)).trans (hN.2.2.2.2.2.2.2.2.2.2.2.2.1), zIn.h2 L0 (i := 13) rfl (by omega), (hG.2.2.2.2.2.2.2.2.2.2.2.2.2.2.2.2.2.2.1), (g a 19 (by omega) (by omega)).trans (hN.2.2.2.2.2.2.2.2.2.2.2.2.2.1), zIn.h2 L0 (i := 14) rfl (by omega)⟩, ⟨(hG.2.2.2.2.2.2.2.2.2.2.2.2.2.2.2.2.2.2.2.1), (g a 20 (by omega) (by omega)).trans (hN.2.2.2.2.2.2.2.2.2.2.2.2.2.2.1), zIn.h2 L0 (i := 15) rfl (by omega), (hG.2.2.2.2.2.2.2.2.2.2.2.2.2.2.2.2.2.2.2.2.1), (g a 21 (by omega) (by omega)).trans (hN.2.2.2.2.2.2.2.2.2.2.2.2.2.2.2.1), zIn.h2 L0 (i := 16) rfl (by omega), (hG.2.2.2.2.2.2.2.2.2.2.2.2.2.2.2.2.2.2.2.2.2.1), (g a 22 (by omega) (by omega)).trans (hN.2.2.2.2.2.2.2.2.2.2.2.2.2.2.2.2.1), zIn.h2 L0 (i := 17) rfl (by omega), (hG.2.2.2.2.2.2.2.2.2.2.2.2.2.2.2.2.2.2.2.2.2.2.1), (hG.2.2.2.2.2.2.2.2.2.2.2.2.2.2.2.2.2.2.2.2.2.2.2.1), (hG.2.2.2.2.2.2.2.2.2.2.2.2.2.2.2.2.2.2.2.2.2.2.2.2.1)⟩, ⟨(hG.2.2.2.2.2.2.2.2.2.2.2.2.2.2.2.2.2.2.2.2.2.2.2.2.2.1), (hG.2.2.2.2.2.2.2.2.2.2.2.2.2.2.2.2.2.2.2.2.2.2.2.2.2.2.1), (hG.2.2.2.2.2.2.2.2.2.2.2.2.2.2.2.2.2.2.2.2.2.2.2.2.2.2.2.1), (hG.2.2.2.2.2.2.2.2.2.2.2.2.2.2.2.2.2.2.2.2.2.2.2.2.2.2.2.2.1), (hG.2.2.2.2.2.2.2.2.2.2.2.2.2.2.2.2.2.2.2.2.2.2.2.2.2.2.2.2.2.1), (g a 30 (by omega) (by omega)).trans (hN.2.2.2.2.2.2.2.2.2.2.2.2.2.2.2.2.2.1), zIn.h2 L0 (i := 18) rfl (by omega), (hG.2.2.2.2.2.2.2.2.2.2.2.2.2.2.2.2.2.2.2.2.2.2.2.2.2.2.2.2.2.2.1), (g a 31 (by omega) (by omega)).trans (hN.2.2.2.2.2.2.2.2.2.2.2.2.2.2.2.2.2.2.1), zIn.h2 L0 (i := 19) rfl (by omega), (hG.2.2.2.2.2.2.2.2.2.2.2.2.2.2.2.2.2.2.2.2.2.2.2.2.2.2.2.2.2.2.2.1), (g a 32 (by omega) (by omega)).trans (hN.2.2.2.2.2.2.2.2.2.2.2.2.2.2.2.2.2.2.2.1)⟩, ⟨zIn.h2 L0 (i := 20) rfl (by omega), (hG.2.2.2.2.2.2.2.2.2.2.2.2.2.2.2.2.2.2.2.2.2.2.2.2.2.2.2.2.2.2.2.2.1), (g a 33 (by omega) (by omega)).trans (hN.2.2.2.2.2.2.2.2.2.2.2.2.2.2.2.2.2.2.2.2.1), zIn.h2 L0 (i := 21) rfl (by omega), (hG.2.2.2.2.2.2.2.2.2.2.2.2.2.2.2.2.2.2.2.2.2.2.2.2.2.2.2.2.2.2.2.2.2.1), (hG.2.2.2.2.2.2.2.2.2.2.2.2.2.2.2.2.2.2.2.2.2.2.2.2.2.2.2.2.2.2.2.2.2.2.1), (g a 35 (by omega) (by omega)).trans (hN.2.2.2.2.2.2.2.2.2.2.2.2.2.2.2.2.2.2.2.2.2.1), zIn.h2 L0 (i := 22) rfl (by omega), (hG.2.2.2.2.2.2.2.2.2.2.2.2.2.2.2.2.2.2.2.2.2.2.2.2.2.2.2.2.2.2.2.2.2.2.2.1), (g a 36 (by omega) (by omega)).trans (hN.2.2.2.2.2.2.2.2.2.2.2.2.2.2.2.2.2.2.2.2.2.2.1), zIn.h2 L0 (i := 23) rfl (by omega), (hG.2.2.2.2.2.2.2.2.2.2.2.2.2.2.2.2.2.2.2.2.2.2.2.2.2.2.2.2.2.2.2.2.2.2.2.2.1)⟩, ⟨(hG.2.2.2.2.2.2.2.2.2.2.2.2.2.2.2.2.2.2.2.2.2.2.2.2.2.2.2.2.2.2.2.2.2.2.2.2.2.1), (g a 38 (by omega) (by omega)).trans (hN.2.2.2.2.2.2.2.2.2.2.2.2.2.2.2.2.2.2.2.2.2.2.2.1), zIn.h2 L0 (i := 24) rfl (by omega), (hG.2.2.2.2.2.2.2.2.2.2.2.2.2.2.2.2.2.2.2.2.2.2.2.2.2.2.2.2.2.2.2.2.2.2.2.2.2.2.1), (g a 39 (by omega) (by omega)).trans (hN.2.2.2.2.2.2.2.2.2.2.2.2.2.2.2.2.2.2.2.2.2.2.2.2.1), zIn.h2 L0 (i := 25) rfl (by omega), (hG.2.2.2.2.2.2.2.2.2.2.2.2.2.2.2.2.2.2.2.2.2.2.2.2.2.2.2.2.2.2.2.2.2.2.2.2.2.2.2.1), (g a 40 (by omega) (by omega)).trans (hN.2.2.2.2.2.2.2.2.2.2.2.2.2.2.2.2.2.2.2.2.2.2.2.2.2.1), zIn.h2 L0 (i := 26) rfl (by omega), (hG.2.2.2.2.2.2.2.2.2.2.2.2.2.2.2.2.2.2.2.2.2.2.2.2.2.2.2.2.2.2.2.2.2.2.2.2.2.2.2.2.1), (g a 41 (by omega) (by omega)).trans (hN.2.2.2.2.2.2.2.2.2.2.2.2.2.2.2.2.2.2.2.2.2.2.2.2.2.2.1), zIn.h2 L0 (i := 27) rfl (by omega)⟩, ⟨(hG.2.2.2.2.2.2.2.2.2.2.2.2.2.2.2.2.2.2.2.2.2.2.2.2.2.2.2.2.2.2.2.2.2.2.2.2.2.2.2.2.2.1), (g a 42 (by omega) (by omega)).trans (hN.2.2.2.2.2.2.2.2.2.2.2.2.2.2.2.2.2.2.2.2.2.2.2.2.2.2.2.1), zIn.h2 L0 (i := 28) rfl (by omega), (hG.2.2.2.2.2.2.2.2.2.2.2.2.2.2.2.2.2.2.2.2.2.2.2.2.2.2.2.2.2.2.2.2.2.2.2.2.2.2.2.2.2.2.1), (g a 43 (by omega) (by omega)).trans (hN.2.2.2.2.2.2.2.2.2.2.2.2.2.2.2.2.2.2.2.2.2.2.2.2.2.2.2.2.1), zIn.h2 L0 (i := 29) rfl (by omega), (hG.2.2.2.2.2.2.2.2.2.2.2.2.2.2.2.2.2.2.2.2.2.2.2.2.2.2.2.2.2.2.2.2.2.2.2.2.2.2.2.2.2.2.2.1), (g a 44 (by omega) (by omega)).trans (hN.2.2.2.2.2.2.2.2.2.2.2.2.2.2.2.2.2.2.2.2.2.2.2.2.2.2.2.2.2.1), zIn.h2 L0 (i := 30) rfl (by omega), (hG.2.2.2.2.2.2.2.2.2.2.2.2.2.2.2.2.2.2.2.2.2.2.2.2.2.2.2.2.2.2.2.2.2.2.2.2.2.2.2.2.2.2.2.2.1), (g a 45 (by omega) (by omega)).trans (hN.2.2.2.2.2.2.2.2.2.2.2.2.2.2.2.2.2.2.2.2.2.2.2.2.2.2.2.2.2.2.1), zIn.h2 L0 (i := 31) rfl (by omega)⟩, ⟨(hG.2.2.2.2.2.2.2.2.2.2.2.2.2.2.2.2.2.2.2.2.2.2.2.2.2.2.2.2.2.2.2.2.2.2.2.2.2.2.2.2.2.2.2.2.2.1), (g a 46 (by omega) (by omega)).trans (hN.2.2.2.2.2.2.2.2.2.2.2.2.2.2.2.2.2.2.2.2.2.2.2.2.2.2.2.2.2.2.2.1), zIn.h2 L0 (i := 32) rfl (by omega), (hG.2.2.2.2.2.2.2.2.2.2.2.2.2.2.2.2.2.2.2.2.2.2.2.2.2.2.2.2.2.2.2.2.2.2.2.2.2.2.2.2.2.2.2.2.2.2.1), (g a 47 (by omega) (by omega)).trans (hN.2.2.2.2.2.2.2.2.2.2.2.2.2.2.2.2.2.2.2.2.2.2.2.2.2.2.2.2.2.2.2.2.1), zIn.h2 L0 (i := 33) rfl (by omega), (hG.2.2.2.2.2.2.2.2.2.2.2.2.2.2.2.2.2.2.2.2.2.2.2.2.2.2.2.2.2.2.2.2.2.2.2.2.2.2.2.2.2.2.2.2.2.2.2.1), (g a 48 (by omega) (by omega)).trans (hN.2.2.2.2.2.2.2.2.2.2.2.2.2.2.2.2.2.2.2.2.2.2.2.2.2.2.2.2.2.2.2.2.2.1), zIn.h2 L0 (i := 34) rfl (by omega), (hG.2.2.2.2.2.2.2.2.2.2.2.2.2.2.2.2.2.2.2.2.2.2.2.2.2.2.2.2.2.2.2.2.2.2.2.2.2.2.2.2.2.2.2.2.2.2.2.2.1), (g a 49 (by omega) (by omega)).trans (hN.2.2.2.2.2.2.2.2.2.2.2.2.2.2.2.2.2.2.2.2.2.2.2.2.2.2.2.2.2.2.2.2.2.2.1), zIn.h2 L0 (i := 35) rfl (by omega)⟩, ⟨(hG.2.2.2.2.2.2.2.2.2.2.2.2.2.2.2.2.2.2.2.2.2.2.2.2.2.2.2.2.2.2.2.2.2.2.2.2.2.2.2.2.2.2.2.2.2.2.2.2.2.1), (g a 50 (by omega) (by omega)).trans (hN.2.2.2.2.2.2.2.2.2.2.2.2.2.2.2.2.2.2.2.2.2.2.2.2.2.2.2.2.2.2.2.2.2.2.2.1), zIn.h2 L0 (i := 36) rfl (by omega), (hG.2.2.2.2.2.2.2.2.2.2.2.2.2.2.2.2.2.2.2.2.2.2.2.2.2.2.2.2.2.2.2.2.2.2.2.2.2.2.2.2.2.2.2.2.2.2.2.2.2.2.1), (g a 51 (by omega) (by omega)).trans (hN.2.2.2.2.2.2.2.2.2.2.2.2.2.2.2.2.2.2.2.2.2.2.2.2.2.2.2.2.2.2.2.2.2.2.2.2.1), zIn.h2 L0 (i := 37) rfl (by omega), (hG.2.2.2.2.2.2.2.2.2.2.2.2.2.2.2.2.2.2.2.2.2.2.2.2.2.2.2.2.2.2.2.2.2.2.2.2.2.2.2.2.2.2.2.2.2.2.2.2.2.2.2.1), (g a 52 (by omega) (by omega)).trans (hN.2.2.2.2.2.2.2.2.2.2.2.2.2.2.2.2.2.2.2.2.2.2.2.2.2.2.2.2.2.2.2.2.2.2.2.2.2.1), zIn.h2 L0 (i := 38) rfl (by omega), (hG.2.2.2.2.2.2.2.2.2.2.2.2.2.2.2.2.2.2.2.2.2.2.2.2.2.2.2.2.2.2.2.2.2.2.2.2.2.2.2.2.2.2.2.2.2.2.2.2.2.2.2.2.1), (g a 53 (by omega) (by omega)).trans (hN.2.2.2.2.2.2.2.2.2.2.2.2.2.2.2.2.2.2.2.2.2.2.2.2.2.2.2.2.2.2.2.2.2.2.2.2.2.2.1), zIn.h2 L0 (i := 39) rfl (by omega)⟩, ⟨(hG.2.2.2.2.2.2.2.2.2.2.2.2.2.2.2.2.2.2.2.2.2.2.2.2.2.2.2.2.2.2.2.2.2.2.2.2.2.2.2.2.2.2.2.2.2.2.2.2.2.2.2.2.2.1), (g a 54 (by omega) (by omega)).trans (hN.2.2.2.2.2.2.2.2.2.2.2.2.2.2.2.2.2.2.2.2.2.2.2.2.2.2.2.2.2.2.2.2.2.2.2.2.2.2.2.1), zIn.h2 L0 (i := 40) rfl (by omega), (hG.2.2.2.2.2.2.2.2.2.2.2.2.2.2.2.2.2.2.2.2.2.2.2.2.2.2.2.2.2.2.2.2.2.2.2.2.2.2.2.2.2.2.2.2.2.2.2.2.2.2.2.2.2.2.1), (g a 55 (by omega) (by omega)).trans (hN.2.2.2.2.2.2.2.2.2.2.2.2.2.2.2.2.2.2.2.2.2.2.2.2.2.2.2.2.2.2.2.2.2.2.2.2.2.2.2.2.1), zIn.h2 L0 (i := 41) rfl (by omega), (hG.2.2.2.2.2.2.2.2.2.2.2.2.2.2.2.2.2.2.2.2.2.2.2.2.2.2.2.2.2.2.2.2.2.2.2.2.2.2.2.2.2.2.2.2.2.2.2.2.2.2.2.2.2.2.2.1), (g a 56 (by omega) (by omega)).trans (hN.2.2.2.2.2.2.2.2.2.2.2.2.2.2.2.2.2.2.2.2.2.2.2.2.2.2.2.2.2.2.2.2.2.2.2.2.2.2.2.2.2.1), zIn.h2 L0 (i := 42) rfl (by omega), (hG.2.2.2.2.2.2.2.2.2.2.2.2.2.2.2.2.2.2.2.2.2.2.2.2.2.2.2.2.2.2.2.2.2.2.2.2.2.2.2.2.2.2.2.2.2.2.2.2.2.2.2.2.2.2.2.2.1), (hG.2.2.2.2.2.2.2.2.2.2.2.2.2.2.2.2.2.2.2.2.2.2.2.2.2.2.2.2.2.2.2.2.2.2.2.2.2.2.2.2.2.2.2.2.2.2.2.2.2.2.2.2.2.2.2.2.2.1), (hG.2.2.2.2.2.2.2.2.2.2.2.2.2.2.2.2.2.2.2.2.2.2.2.2.2.2.2.2.2.2.2.2.2.2.2.2.2.2.2.2.2.2.2.2.2.2.2.2.2.2.2.2.2.2.2.2.2.2.1)⟩, ⟨(hG.2.2.2.2.2.2.2.2.2.2.2.2.2.2.2.2.2.2.2.2.2.2.2.2.2.2.2.2.2.2.2.2.2.2.2.2.2.2.2.2.2.2.2.2.2.2.2.2.2.2.2.2.2.2.2.2.2.2.2.1), (hG.2.2.2.2.2.2.2.2.2.2.2.2.2.2.2.2.2.2.2.2.2.2.2.2.2.2.2.2.2.2.2.2.2.2.2.2.2.2.2.2.2.2.2.2.2.2.2.2.2.2.2.2.2.2.2.2.2.2.2.2.1), (hG.2.2.2.2.2.2.2.2.2.2.2.2.2.2.2.2.2.2.2.2.2.2.2.2.2.2.2.2.2.2.2.2.2.2.2.2.2.2.2.2.2.2.2.2.2.2.2.2.2.2.2.2.2.2.2.2.2.2.2.2.2.1), (hG.2.2.2.2.2.2.2.2.2.2.2.2.2.2.2.2.2.2.2.2.2.2.2.2.2.2.2.2.2.2.2.2.2.2.2.2.2.2.2.2.2.2.2.2.2.2.2.2.2.2.2.2.2.2.2.2.2.2.2.2.2.2.1), (hG.2.2.2.2.2.2.2.2.2.2.2.2.2.2.2.2.2.2.2.2.2.2.2.2.2.2.2.2.2.2.2.2.2.2.2.2.2.2.2.2.2.2.2.2.2.2.2.2.2.2.2.2.2.2.2.2.2.2.2.2.2.2.2.1), (hG.2.2.2.2.2.2.2.2.2.2.2.2.2.2.2.2.2.2.2.2.2.2.2.2.2.2.2.2.2.2.2.2.2.2.2.2.2.2.2.2.2.2.2.2.2.2.2.2.2.2.2.2.2.2.2.2.2.2.2.2.2.2.2.2.1), (hG.2.2.2.2.2.2.2.2.2.2.2.2.2.2.2.2.2.2.2.2.2.2.2.2.2.2.2.2.2.2.2.2.2.2.2.2.2.2.2.2.2.2.2.2.2.2.2.2.2.2.2.2.2.2.2.2.2.2.2.2.2.2.2.2.2.1), (g a 66 (by omega) (by omega)).trans (hN.2.2.2.2.2.2.2.2.2.2.2.2.2.2.2.2.2.2.2.2.2.2.2.2.2.2.2.2.2.2.2.2.2.2.2.2.2.2.2.2.2.2.1), zIn.h2 L0 (i := 43) rfl (by omega), (hG.2.2.2.2.2.2.2.2.2.2.2.2.2.2.2.2.2.2.2.2.2.2.2.2.2.2.2.2.2.2.2.2.2.2.2.2.2.2.2.2.2.2.2.2.2.2.2.2.2.2.2.2.2.2.2.2.2.2.2.2.2.2.2.2.2.2.1), (g a 67 (by omega) (by omega)).trans (hN.2.2.2.2.2.2.2.2.2.2.2.2.2.2.2.2.2.2.2.2.2.2.2.2.2.2.2.2.2.2.2.2.2.2.2.2.2.2.2.2.2.2.2.1), zIn.h2 L0 (i := 44) rfl (by omega)⟩, ⟨(hG.2.2.2.2.2.2.2.2.2.2.2.2.2.2.2.2.2.2.2.2.2.2.2.2.2.2.2.2.2.2.2.2.2.2.2.2.2.2.2.2.2.2.2.2.2.2.2.2.2.2.2.2.2.2.2.2.2.2.2.2.2.2.2.2.2.2.2.1), (g a 68 (by omega) (by omega)).trans (hN.2.2.2.2.2.2.2.2.2.2.2.2.2.2.2.2.2.2.2.2.2.2.2.2.2.2.2.2.2.2.2.2.2.2.2.2.2.2.2.2.2.2.2.2.1), zIn.h2 L0 (i := 45) rfl (by omega), (hG.2.2.2.2.2.2.2.2.2.2.2.2.2.2.2.2.2.2.2.2.2.2.2.2.2.2.2.2.2.2.2.2.2.2.2.2.2.2.2.2.2.2.2.2.2.2.2.2.2.2.2.2.2.2.2.2.2.2.2.2.2.2.2.2.2.2.2.2.1), (g a 69 (by omega) (by omega)).trans (hN.2.2.2.2.2.2.2.2.2.2.2.2.2.2.2.2.2.2.2.2.2.2.2.2.2.2.2.2.2.2.2.2.2.2.2.2.2.2.2.2.2.2.2.2.2.1), zIn.h2 L0 (i := 46) rfl (by omega), (hG.2.2.2.2.2.2.2.2.2.2.2.2.2.2.2.2.2.2.2.2.2.2.2.2.2.2.2.2.2.2.2.2.2.2.2.2.2.2.2.2.2.2.2.2.2.2.2.2.2.2.2.2.2.2.2.2.2.2.2.2.2.2.2.2.2.2.2.2.2.1), (g a 70 (by omega) (by omega)).trans (hN.2.2.2.2.2.2.2.2.2.2.2.2.2.2.2.2.2.2.2.2.2.2.2.2.2.2.2.2.2.2.2.2.2.2.2.2.2.2.2.2.2.2.2.2.2.2.1), zIn.h2 L0 (i := 47) rfl (by omega), (hG.2.2.2.2.2.2.2.2.2.2.2.2.2.2.2.2.2.2.2.2.2.2.2.2.2.2.2.2.2.2.2.2.2.2.2.2.2.2.2.2.2.2.2.2.2.2.2.2.2.2.2.2.2.2.2.2.2.2.2.2.2.2.2.2.2.2.2.2.2.2.1), (g a 71 (by omega) (by omega)).trans (hN.2.2.2.2.2.2.2.2.2.2.2.2.2.2.2.2.2.2.2.2.2.2.2.2.2.2.2.2.2.2.2.2.2.2.2.2.2.2.2.2.2.2.2.2.2.2.2.1), zIn.h2 L0 (i := 48) rfl (by omega)⟩, ⟨(hG.2.2.2.2.2.2.2.2.2.2.2.2.2.2.2.2.2.2.2.2.2.2.2.2.2.2.2.2.2.2.2.2.2.2.2.2.2.2.2.2.2.2.2.2.2.2.2.2.2.2.2.2.2.2.2.2.2.2.2.2.2.2.2.2.2.2.2.2.2.2.2.1), (g a 72 (by omega) (by omega)).trans (hN.2.2.2.2.2.2.2.2.2.2.2.2.2.2.2.2.2.2.2.2.2.2.2.2.2.2.2.2.2.2.2.2.2.2.2.2.2.2.2.2.2.2.2.2.2.2.2.2.1), zIn.h2 L0 (i := 49) rfl (by omega), (g a 73 (by omega) (by omega)).trans (hN.2.2.2.2.2.2.2.2.2.2.2.2.2.2.2.2.2.2.2.2.2.2.2.2.2.2.2.2.2.2.2.2.2.2.2.2.2.2.2.2.2.2.2.2.2.2.2.2.2.1), zIn.h2 L0 (i := 50) rfl (by omega), (hG.2.2.2.2.2.2.2.2.2.2.2.2.2.2.2.2.2.2.2.2.2.2.2.2.2.2.2.2.2.2.2.2.2.2.2.2.2.2.2.2.2.2.2.2.2.2.2.2.2.2.2.2.2.2.2.2.2.2.2.2.2.2.2.2.2.2.2.2.2.2.2.2.1), (hG.2.2.2.2.2.2.2.2.2.2.2.2.2.2.2.2.2.2.2.2.2.2.2.2.2.2.2.2.2.2.2.2.2.2.2.2.2.2.2.2.2.2.2.2.2.2.2.2.2.2.2.2.2.2.2.2.2.2.2.2.2.2.2.2.2.2.2.2.2.2.2.2.2.1), (hG.2.2.2.2.2.2.2.2.2.2.2.2.2.2.2.2.2.2.2.2.2.2.2.2.2.2.2.2.2.2.2.2.2.2.2.2.2.2.2.2.2.2.2.2.2.2.2.2.2.2.2.2.2.2.2.2.2.2.2.2.2.2.2.2.2.2.2.2.2.2.2.2.2.2.1), (hG.2.2.2.2.2.2.2.2.2.2.2.2.2.2.2.2.2.2.2.2.2.2.2.2.2.2.2.2.2.2.2.2.2.2.2.2.2.2.2.2.2.2.2.2.2.2.2.2.2.2.2.2.2.2.2.2.2.2.2.2.2.2.2.2.2.2.2.2.2.2.2.2.2.2.2.1), (g a 80 (by omega) (by omega)).trans (hN.2.2.2.2.2.2.2.2.2.2.2.2.2.2.2.2.2.2.2.2.2.2.2.2.2.2.2.2.2.2.2.2.2.2.2.2.2.2.2.2.2.2.2.2.2.2.2.2.2.2.1), zIn.h2 L0 (i := 51) rfl (by omega), (hG.2.2.2.2.2.2.2.2.2.2.2.2.2.2.2.2.2.2.2.2.2.2.2.2.2.2.2.2.2.2.2.2.2.2.2.2.2.2.2.2.2.2.2.2.2.2.2.2.2.2.2.2.2.2.2.2.2.2.2.2.2.2.2.2.2.2.2.2.2.2.2.2.2.2.2.2.1)⟩, ⟨(g a 81 (by omega) (by omega)).trans (hN.2.2.2.2.2.2.2.2.2.2.2.2.2.2.2.2.2.2.2.2.2.2.2.2.2.2.2.2.2.2.2.2.2.2.2.2.2.2.2.2.2.2.2.2.2.2.2.2.2.2.2.1), zIn.h2 L0 (i := 52) rfl (by omega), (hG.2.2.2.2.2.2.2.2.2.2.2.2.2.2.2.2.2.2.2.2.2.2.2.2.2.2.2.2.2.2.2.2.2.2.2.2.2.2.2.2.2.2.2.2.2.2.2.2.2.2.2.2.2.2.2.2.2.2.2.2.2.2.2.2.2.2.2.2.2.2.2.2.2.2.2.2.2.1), (g a 82 (by omega) (by omega)).trans (hN.2.2.2.2.2.2.2.2.2.2.2.2.2.2.2.2.2.2.2.2.2.2.2.2.2.2.2.2.2.2.2.2.2.2.2.2.2.2.2.2.2.2.2.2.2.2.2.2.2.2.2.2.1), zIn.h2 L0 (i := 53) rfl (by omega), (hG.2.2.2.2.2.2.2.2.2.2.2.2.2.2.2.2.2.2.2.2.2.2.2.2.2.2.2.2.2.2.2.2.2.2.2.2.2.2.2.2.2.2.2.2.2.2.2.2.2.2.2.2.2.2.2.2.2.2.2.2.2.2.2.2.2.2.2.2.2.2.2.2.2.2.2.2.2.2.1), (g a 83 (by omega) (by omega)).trans (hN.2.2.2.2.2.2.2.2.2.2.2.2.2.2.2.2.2.2.2.2.2.2.2.2.2.2.2.2.2.2.2.2.2.2.2.2.2.2.2.2.2.2.2.2.2.2.2.2.2.2.2.2.2.1), zIn.h2 L0 (i := 54) rfl (by omega), (hG.2.2.2.2.2.2.2.2.2.2.2.2.2.2.2.2.2.2.2.2.2.2.2.2.2.2.2.2.2.2.2.2.2.2.2.2.2.2.2.2.2.2.2.2.2.2.2.2.2.2.2.2.2.2.2.2.2.2.2.2.2.2.2.2.2.2.2.2.2.2.2.2.2.2.2.2.2.2.2.1), (g a 84 (by omega) (by omega)).trans (hN.2.2.2.2.2.2.2.2.2.2.2.2.2.2.2.2.2.2.2.2.2.2.2.2.2.2.2.2.2.2.2.2.2.2.2.2.2.2.2.2.2.2.2.2.2.2.2.2.2.2.2.2.2.2.1), zIn.h2 L0 (i := 55) rfl (by omega), (hG.2.2.2.2.2.2.2.2.2.2.2.2.2.2.2.2.2.2.2.2.2.2.2.2.2.2.2.2.2.2.2.2.2.2.2.2.2.2.2.2.2.2.2.2.2.2.2.2.2.2.2.2.2.2.2.2.2.2.2.2.2.2.2.2.2.2.2.2.2.2.2.2.2.2.2.2.2.2.2.2.1)⟩, ⟨(g a 85 (by omega) (by omega)).trans (hN.2.2.2.2.2.2.2.2.2.2.2.2.2.2.2.2.2.2.2.2.2.2.2.2.2.2.2.2.2.2.2.2.2.2.2.2.2.2.2.2.2.2.2.2.2.2.2.2.2.2.2.2.2.2.2.1), zIn.h2 L0 (i := 56) rfl (by omega), (hG.2.2.2.2.2.2.2.2.2.2.2.2.2.2.2.2.2.2.2.2.2.2.2.2.2.2.2.2.2.2.2.2.2.2.2.2.2.2.2.2.2.2.2.2.2.2.2.2.2.2.2.2.2.2.2.2.2.2.2.2.2.2.2.2.2.2.2.2.2.2.2.2.2.2.2.2.2.2.2.2.2.1), (g a 86 (by omega) (by omega)).trans (hN.2.2.2.2.2.2.2.2.2.2.2.2.2.2.2.2.2.2.2.2.2.2.2.2.2.2.2.2.2.2.2.2.2.2.2.2.2.2.2.2.2.2.2.2.2.2.2.2.2.2.2.2.2.2.2.2.1), zIn.h2 L0 (i := 57) rfl (by omega), (hG.2.2.2.2.2.2.2.2.2.2.2.2.2.2.2.2.2.2.2.2.2.2.2.2.2.2.2.2.2.2.2.2.2.2.2.2.2.2.2.2.2.2.2.2.2.2.2.2.2.2.2.2.2.2.2.2.2.2.2.2.2.2.2.2.2.2.2.2.2.2.2.2.2.2.2.2.2.2.2.2.2.2.1), (g a 87 (by omega) (by omega)).trans (hN.2.2.2.2.2.2.2.2.2.2.2.2.2.2.2.2.2.2.2.2.2.2.2.2.2.2.2.2.2.2.2.2.2.2.2.2.2.2.2.2.2.2.2.2.2.2.2.2.2.2.2.2.2.2.2.2.2.1), zIn.h2 L0 (i := 58) rfl (by omega), (hG.2.2.2.2.2.2.2.2.2.2.2.2.2.2.2.2.2.2.2.2.2.2.2.2.2.2.2.2.2.2.2.2.2.2.2.2.2.2.2.2.2.2.2.2.2.2.2.2.2.2.2.2.2.2.2.2.2.2.2.2.2.2.2.2.2.2.2.2.2.2.2.2.2.2.2.2.2.2.2.2.2.2.2.1), (hG.2.2.2.2.2.2.2.2.2.2.2.2.2.2.2.2.2.2.2.2.2.2.2.2.2.2.2.2.2.2.2.2.2.2.2.2.2.2.2.2.2.2.2.2.2.2.2.2.2.2.2.2.2.2.2.2.2.2.2.2.2.2.2.2.2.2.2.2.2.2.2.2.2.2.2.2.2.2.2.2.2.2.2.2.1), (hG.2.2.2.2.2.2.2.2.2.2.2.2.2.2.2.2.2.2.2.2.2.2.2.2.2.2.2.2.2.2.2.2.2.2.2.2.2.2.2.2.2.2.2.2.2.2.2.2.2.2.2.2.2.2.2.2.2.2.2.2.2.2.2.2.2.2.2.2.2.2.2.2.2.2.2.2.2.2.2.2.2.2.2.2.2.1), (g a 90 (by omega) (by omega)).trans (hN.2.2.2.2.2.2.2.2.2.2.2.2.2.2.2.2.2.2.2.2.2.2.2.2.2.2.2.2.2.2.2.2.2.2.2.2.2.2.2.2.2.2.2.2.2.2.2.2.2.2.2.2.2.2.2.2.2.2.1)⟩, ⟨zIn.h2 L0 (i := 59) rfl (by omega), (hG.2.2.2.2.2.2.2.2.2.2.2.2.2.2.2.2.2.2.2.2.2.2.2.2.2.2.2.2.2.2.2.2.2.2.2.2.2.2.2.2.2.2.2.2.2.2.2.2.2.2.2.2.2.2.2.2.2.2.2.2.2.2.2.2.2.2.2.2.2.2.2.2.2.2.2.2.2.2.2.2.2.2.2.2.2.2.1), (g a 91 (by omega) (by omega)).trans (hN.2.2.2.2.2.2.2.2.2.2.2.2.2.2.2.2.2.2.2.2.2.2.2.2.2.2.2.2.2.2.2.2.2.2.2.2.2.2.2.2.2.2.2.2.2.2.2.2.2.2.2.2.2.2.2.2.2.2.2.1), zIn.h2 L0 (i := 60) rfl (by omega), (hG.2.2.2.2.2.2.2.2.2.2.2.2.2.2.2.2.2.2.2.2.2.2.2.2.2.2.2.2.2.2.2.2.2.2.2.2.2.2.2.2.2.2.2.2.2.2.2.2.2.2.2.2.2.2.2.2.2.2.2.2.2.2.2.2.2.2.2.2.2.2.2.2.2.2.2.2.2.2.2.2.2.2.2.2.2.2.2.1), (g a 92 (by omega) (by omega)).trans (hN.2.2.2.2.2.2.2.2.2.2.2.2.2.2.2.2.2.2.2.2.2.2.2.2.2.2.2.2.2.2.2.2.2.2.2.2.2.2.2.2.2.2.2.2.2.2.2.2.2.2.2.2.2.2.2.2.2.2.2.2.1), zIn.h2 L0 (i := 61) rfl (by omega), (hG.2.2.2.2.2.2.2.2.2.2.2.2.2.2.2.2.2.2.2.2.2.2.2.2.2.2.2.2.2.2.2.2.2.2.2.2.2.2.2.2.2.2.2.2.2.2.2.2.2.2.2.2.2.2.2.2.2.2.2.2.2.2.2.2.2.2.2.2.2.2.2.2.2.2.2.2.2.2.2.2.2.2.2.2.2.2.2.2.1), (g a 93 (by omega) (by omega)).trans (hN.2.2.2.2.2.2.2.2.2.2.2.2.2.2.2.2.2.2.2.2.2.2.2.2.2.2.2.2.2.2.2.2.2.2.2.2.2.2.2.2.2.2.2.2.2.2.2.2.2.2.2.2.2.2.2.2.2.2.2.2.2.1), zIn.h2 L0 (i := 62) rfl (by omega), (hG.2.2.2.2.2.2.2.2.2.2.2.2.2.2.2.2.2.2.2.2.2.2.2.2.2.2.2.2.2.2.2.2.2.2.2.2.2.2.2.2.2.2.2.2.2.2.2.2.2.2.2.2.2.2.2.2.2.2.2.2.2.2.2.2.2.2.2.2.2.2.2.2.2.2.2.2.2.2.2.2.2.2.2.2.2.2.2.2.2.1), (g a 94 (by omega) (by omega)).trans (hN.2.2.2.2.2.2.2.2.2.2.2.2.2.2.2.2.2.2.2.2.2.2.2.2.2.2.2.2.2.2.2.2.2.2.2.2.2.2.2.2.2.2.2.2.2.2.2.2.2.2.2.2.2.2.2.2.2.2.2.2.2.2.1)⟩, ⟨zIn.h2 L0 (i := 63) rfl (by omega), (hG.2.2.2.2.2.2.2.2.2.2.2.2.2.2.2.2.2.2.2.2.2.2.2.2.2.2.2.2.2.2.2.2.2.2.2.2.2.2.2.2.2.2.2.2.2.2.2.2.2.2.2.2.2.2.2.2.2.2.2.2.2.2.2.2.2.2.2.2.2.2.2.2.2.2.2.2.2.2.2.2.2.2.2.2.2.2.2.2.2.2.1), (g a 95 (by omega) (by omega)).trans (hN.2.2.2.2.2.2.2.2.2.2.2.2.2.2.2.2.2.2.2.2.2.2.2.2.2.2.2.2.2.2.2.2.2.2.2.2.2.2.2.2.2.2.2.2.2.2.2.2.2.2.2.2.2.2.2.2.2.2.2.2.2.2.2.1), zIn.h2 L0 (i := 64) rfl (by omega), (hG.2.2.2.2.2.2.2.2.2.2.2.2.2.2.2.2.2.2.2.2.2.2.2.2.2.2.2.2.2.2.2.2.2.2.2.2.2.2.2.2.2.2.2.2.2.2.2.2.2.2.2.2.2.2.2.2.2.2.2.2.2.2.2.2.2.2.2.2.2.2.2.2.2.2.2.2.2.2.2.2.2.2.2.2.2.2.2.2.2.2.2.1), (g a 96 (by omega) (by omega)).trans (hN.2.2.2.2.2.2.2.2.2.2.2.2.2.2.2.2.2.2.2.2.2.2.2.2.2.2.2.2.2.2.2.2.2.2.2.2.2.2.2.2.2.2.2.2.2.2.2.2.2.2.2.2.2.2.2.2.2.2.2.2.2.2.2.2.1), zIn.h2 L0 (i := 65) rfl (by omega), (hG.2.2.2.2.2.2.2.2.2.2.2.2.2.2.2.2.2.2.2.2.2.2.2.2.2.2.2.2.2.2.2.2.2.2.2.2.2.2.2.2.2.2.2.2.2.2.2.2.2.2.2.2.2.2.2.2.2.2.2.2.2.2.2.2.2.2.2.2.2.2.2.2.2.2.2.2.2.2.2.2.2.2.2.2.2.2.2.2.2.2.2.2.1), (g a 97 (by omega) (by omega)).trans (hN.2.2.2.2.2.2.2.2.2.2.2.2.2.2.2.2.2.2.2.2.2.2.2.2.2.2.2.2.2.2.2.2.2.2.2.2.2.2.2.2.2.2.2.2.2.2.2.2.2.2.2.2.2.2.2.2.2.2.2.2.2.2.2.2.2.1), zIn.h2 L0 (i := 66) rfl (by omega), (hG.2.2.2.2.2.2.2.2.2.2.2.2.2.2.2.2.2.2.2.2.2.2.2.2.2.2.2.2.2.2.2.2.2.2.2.2.2.2.2.2.2.2.2.2.2.2.2.2.2.2.2.2.2.2.2.2.2.2.2.2.2.2.2.2.2.2.2.2.2.2.2.2.2.2.2.2.2.2.2.2.2.2.2.2.2.2.2.2.2.2.2.2.2.1), (g a 98 (by omega) (by omega)).trans (hN.2.2.2.2.2.2.2.2.2.2.2.2.2.2.2.2.2.2.2.2.2.2.2.2.2.2.2.2.2.2.2.2.2.2.2.2.2.2.2.2.2.2.2.2.2.2.2.2.2.2.2.2.2.2.2.2.2.2.2.2.2.2.2.2.2.2.1)⟩, ⟨zIn.h2 L0 (i := 67) rfl (by omega), (hG.2.2.2.2.2.2.2.2.2.2.2.2.2.2.2.2.2.2.2.2.2.2.2.2.2.2.2.2.2.2.2.2.2.2.2.2.2.2.2.2.2.2.2.2.2.2.2.2.2.2.2.2.2.2.2.2.2.2.2.2.2.2.2.2.2.2.2.2.2.2.2.2.2.2.2.2.2.2.2.2.2.2.2.2.2.2.2.2.2.2.2.2.2.2.1), (hG.2.2.2.2.2.2.2.2.2.2.2.2.2.2.2.2.2.2.2.2.2.2.2.2.2.2.2.2.2.2.2.2.2.2.2.2.2.2.2.2.2.2.2.2.2.2.2.2.2.2.2.2.2.2.2.2.2.2.2.2.2.2.2.2.2.2.2.2.2.2.2.2.2.2.2.2.2.2.2.2.2.2.2.2.2.2.2.2.2.2.2.2.2.2.2.1), (hG.2.2.2.2.2.2.2.2.2.2.2.2.2.2.2.2.2.2.2.2.2.2.2.2.2.2.2.2.2.2.2.2.2.2.2.2.2.2.2.2.2.2.2.2.2.2.2.2.2.2.2.2.2.2.2.2.2.2.2.2.2.2.2.2.2.2.2.2.2.2.2.2.2.2.2.2.2.2.2.2.2.2.2.2.2.2.2.2.2.2.2.2.2.2.2.2.1), (hG.2.2.2.2.2.2.2.2.2.2.2.2.2.2.2.2.2.2.2.2.2.2.2.2.2.2.2.2.2.2.2.2.2.2.2.2.2.2.2.2.2.2.2.2.2.2.2.2.2.2.2.2.2.2.2.2.2.2.2.2.2.2.2.2.2.2.2.2.2.2.2.2.2.2.2.2.2.2.2.2.2.2.2.2.2.2.2.2.2.2.2.2.2.2.2.2.2.1), (g a 102 (by omega) (by omega)).trans (hN.2.2.2.2.2.2.2.2.2.2.2.2.2.2.2.2.2.2.2.2.2.2.2.2.2.2.2.2.2.2.2.2.2.2.2.2.2.2.2.2.2.2.2.2.2.2.2.2.2.2.2.2.2.2.2.2.2.2.2.2.2.2.2.2.2.2.2.1), zIn.h2 L0 (i := 68) rfl (by omega), (hG.2.2.2.2.2.2.2.2.2.2.2.2.2.2.2.2.2.2.2.2.2.2.2.2.2.2.2.2.2.2.2.2.2.2.2.2.2.2.2.2.2.2.2.2.2.2.2.2.2.2.2.2.2.2.2.2.2.2.2.2.2.2.2.2.2.2.2.2.2.2.2.2.2.2.2.2.2.2.2.2.2.2.2.2.2.2.2.2.2.2.2.2.2.2.2.2.2.2.1), (g a 103 (by omega) (by omega)).trans (hN.2.2.2.2.2.2.2.2.2.2.2.2.2.2.2.2.2.2.2.2.2.2.2.2.2.2.2.2.2.2.2.2.2.2.2.2.2.2.2.2.2.2.2.2.2.2.2.2.2.2.2.2.2.2.2.2.2.2.2.2.2.2.2.2.2.2.2.2.1), zIn.h2 L0 (i := 69) rfl (by omega), (hG.2.2.2.2.2.2.2.2.2.2.2.2.2.2.2.2.2.2.2.2.2.2.2.2.2.2.2.2.2.2.2.2.2.2.2.2.2.2.2.2.2.2.2.2.2.2.2.2.2.2.2.2.2.2.2.2.2.2.2.2.2.2.2.2.2.2.2.2.2.2.2.2.2.2.2.2.2.2.2.2.2.2.2.2.2.2.2.2.2.2.2.2.2.2.2.2.2.2.2.1), (g a 104 (by omega) (by omega)).trans (hN.2.2.2.2.2.2.2.2.2.2.2.2.2.2.2.2.2.2.2.2.2.2.2.2.2.2.2.2.2.2.2.2.2.2.2.2.2.2.2.2.2.2.2.2.2.2.2.2.2.2.2.2.2.2.2.2.2.2.2.2.2.2.2.2.2.2.2.2.2.1)⟩, ⟨zIn.h2 L0 (i := 70) rfl (by omega), (hG.2.2.2.2.2.2.2.2.2.2.2.2.2.2.2.2.2.2.2.2.2.2.2.2.2.2.2.2.2.2.2.2.2.2.2.2.2.2.2.2.2.2.2.2.2.2.2.2.2.2.2.2.2.2.2.2.2.2.2.2.2.2.2.2.2.2.2.2.2.2.2.2.2.2.2.2.2.2.2.2.2.2.2.2.2.2.2.2.2.2.2.2.2.2.2.2.2.2.2.2.1), (g a 105 (by omega) (by omega)).trans (hN.2.2.2.2.2.2.2.2.2.2.2.2.2.2.2.2.2.2.2.2.2.2.2.2.2.2.2.2.2.2.2.2.2.2.2.2.2.2.2.2.2.2.2.2.2.2.2.2.2.2.2.2.2.2.2.2.2.2.2.2.2.2.2.2.2.2.2.2.2.2.1), zIn.h2 L0 (i := 71) rfl (by omega), (hG.2.2.2.2.2.2.2.2.2.2.2.2.2.2.2.2.2.2.2.2.2.2.2.2.2.2.2.2.2.2.2.2.2.2.2.2.2.2.2.2.2.2.2.2.2.2.2.2.2.2.2.2.2.2.2.2.2.2.2.2.2.2.2.2.2.2.2.2.2.2.2.2.2.2.2.2.2.2.2.2.2.2.2.2.2.2.2.2.2.2.2.2.2.2.2.2.2.2.2.2.2.1), (g a 106 (by omega) (by omega)).trans (hN.2.2.2.2.2.2.2.2.2.2.2.2.2.2.2.2.2.2.2.2.2.2.2.2.2.2.2.2.2.2.2.2.2.2.2.2.2.2.2.2.2.2.2.2.2.2.2.2.2.2.2.2.2.2.2.2.2.2.2.2.2.2.2.2.2.2.2.2.2.2.2.1), zIn.h2 L0 (i := 72) rfl (by omega), (hG.2.2.2.2.2.2.2.2.2.2.2.2.2.2.2.2.2.2.2.2.2.2.2.2.2.2.2.2.2.2.2.2.2.2.2.2.2.2.2.2.2.2.2.2.2.2.2.2.2.2.2.2.2.2.2.2.2.2.2.2.2.2.2.2.2.2.2.2.2.2.2.2.2.2.2.2.2.2.2.2.2.2.2.2.2.2.2.2.2.2.2.2.2.2.2.2.2.2.2.2.2.2.1), (g a 107 (by omega) (by omega)).trans (hN.2.2.2.2.2.2.2.2.2.2.2.2.2.2.2.2.2.2.2.2.2.2.2.2.2.2.2.2.2.2.2.2.2.2.2.2.2.2.2.2.2.2.2.2.2.2.2.2.2.2.2.2.2.2.2.2.2.2.2.2.2.2.2.2.2.2.2.2.2.2.2.2.1), zIn.h2 L0 (i := 73) rfl (by omega), (hG.2.2.2.2.2.2.2.2.2.2.2.2.2.2.2.2.2.2.2.2.2.2.2.2.2.2.2.2.2.2.2.2.2.2.2.2.2.2.2.2.2.2.2.2.2.2.2.2.2.2.2.2.2.2.2.2.2.2.2.2.2.2.2.2.2.2.2.2.2.2.2.2.2.2.2.2.2.2.2.2.2.2.2.2.2.2.2.2.2.2.2.2.2.2.2.2.2.2.2.2.2.2.2.1), (g a 108 (by omega) (by omega)).trans (hN.2.2.2.2.2.2.2.2.2.2.2.2.2.2.2.2.2.2.2.2.2.2.2.2.2.2.2.2.2.2.2.2.2.2.2.2.2.2.2.2.2.2.2.2.2.2.2.2.2.2.2.2.2.2.2.2.2.2.2.2.2.2.2.2.2.2.2.2.2.2.2.2.2.1)⟩, ⟨zIn.h2 L0 (i := 74) rfl (by omega), (hG.2.2.2.2.2.2.2.2.2.2.2.2.2.2.2.2.2.2.2.2.2.2.2.2.2.2.2.2.2.2.2.2.2.2.2.2.2.2.2.2.2.2.2.2.2.2.2.2.2.2.2.2.2.2.2.2.2.2.2.2.2.2.2.2.2.2.2.2.2.2.2.2.2.2.2.2.2.2.2.2.2.2.2.2.2.2.2.2.2.2.2.2.2.2.2.2.2.2.2.2.2.2.2.2.1), (g a 109 (by omega) (by omega)).trans (hN.2.2.2.2.2.2.2.2.2.2.2.2.2.2.2.2.2.2.2.2.2.2.2.2.2.2.2.2.2.2.2.2.2.2.2.2.2.2.2.2.2.2.2.2.2.2.2.2.2.2.2.2.2.2.2.2.2.2.2.2.2.2.2.2.2.2.2.2.2.2.2.2.2.2.1), zIn.h2 L0 (i := 75) rfl (by omega), (hG.2.2.2.2.2.2.2.2.2.2.2.2.2.2.2.2.2.2.2.2.2.2.2.2.2.2.2.2.2.2.2.2.2.2.2.2.2.2.2.2.2.2.2.2.2.2.2.2.2.2.2.2.2.2.2.2.2.2.2.2.2.2.2.2.2.2.2.2.2.2.2.2.2.2.2.2.2.2.2.2.2.2.2.2.2.2.2.2.2.2.2.2.2.2.2.2.2.2.2.2.2.2.2.2.2.1), (g a 110 (by omega) (by omega)).trans (hN.2.2.2.2.2.2.2.2.2.2.2.2.2.2.2.2.2.2.2.2.2.2.2.2.2.2.2.2.2.2.2.2.2.2.2.2.2.2.2.2.2.2.2.2.2.2.2.2.2.2.2.2.2.2.2.2.2.2.2.2.2.2.2.2.2.2.2.2.2.2.2.2.2.2.2.1), zIn.h2 L0 (i := 76) rfl (by omega), (hG.2.2.2.2.2.2.2.2.2.2.2.2.2.2.2.2.2.2.2.2.2.2.2.2.2.2.2.2.2.2.2.2.2.2.2.2.2.2.2.2.2.2.2.2.2.2.2.2.2.2.2.2.2.2.2.2.2.2.2.2.2.2.2.2.2.2.2.2.2.2.2.2.2.2.2.2.2.2.2.2.2.2.2.2.2.2.2.2.2.2.2.2.2.2.2.2.2.2.2.2.2.2.2.2.2.2.1), (g a 111 (by omega) (by omega)).trans (hN.2.2.2.2.2.2.2.2.2.2.2.2.2.2.2.2.2.2.2.2.2.2.2.2.2.2.2.2.2.2.2.2.2.2.2.2.2.2.2.2.2.2.2.2.2.2.2.2.2.2.2.2.2.2.2.2.2.2.2.2.2.2.2.2.2.2.2.2.2.2.2.2.2.2.2.2.1), zIn.h2 L0 (i := 77) rfl (by omega), (hG.2.2.2.2.2.2.2.2.2.2.2.2.2.2.2.2.2.2.2.2.2.2.2.2.2.2.2.2.2.2.2.2.2.2.2.2.2.2.2.2.2.2.2.2.2.2.2.2.2.2.2.2.2.2.2.2.2.2.2.2.2.2.2.2.2.2.2.2.2.2.2.2.2.2.2.2.2.2.2.2.2.2.2.2.2.2.2.2.2.2.2.2.2.2.2.2.2.2.2.2.2.2.2.2.2.2.2.1), (hG.2.2.2.2.2.2.2.2.2.2.2.2.2.2.2.2.2.2.2.2.2.2.2.2.2.2.2.2.2.2.2.2.2.2.2.2.2.2.2.2.2.2.2.2.2.2.2.2.2.2.2.2.2.2.2.2.2.2.2.2.2.2.2.2.2.2.2.2.2.2.2.2.2.2.2.2.2.2.2.2.2.2.2.2.2.2.2.2.2.2.2.2.2.2.2.2.2.2.2.2.2.2.2.2.2.2.2.2.1)⟩, ⟨(g a 113 (by omega) (by omega)).trans (hN.2.2.2.2.2.2.2.2.2.2.2.2.2.2.2.2.2.2.2.2.2.2.2.2.2.2.2.2.2.2.2.2.2.2.2.2.2.2.2.2.2.2.2.2.2.2.2.2.2.2.2.2.2.2.2.2.2.2.2.2.2.2.2.2.2.2.2.2.2.2.2.2.2.2.2.2.2.1), zIn.h2 L0 (i := 78) rfl (by omega), (hG.2.2.2.2.2.2.2.2.2.2.2.2.2.2.2.2.2.2.2.2.2.2.2.2.2.2.2.2.2.2.2.2.2.2.2.2.2.2.2.2.2.2.2.2.2.2.2.2.2.2.2.2.2.2.2.2.2.2.2.2.2.2.2.2.2.2.2.2.2.2.2.2.2.2.2.2.2.2.2.2.2.2.2.2.2.2.2.2.2.2.2.2.2.2.2.2.2.2.2.2.2.2.2.2.2.2.2.2.2.1), (g a 114 (by omega) (by omega)).trans (hN.2.2.2.2.2.2.2.2.2.2.2.2.2.2.2.2.2.2.2.2.2.2.2.2.2.2.2.2.2.2.2.2.2.2.2.2.2.2.2.2.2.2.2.2.2.2.2.2.2.2.2.2.2.2.2.2.2.2.2.2.2.2.2.2.2.2.2.2.2.2.2.2.2.2.2.2.2.2.1), zIn.h2 L0 (i := 79) rfl (by omega), (hG.2.2.2.2.2.2.2.2.2.2.2.2.2.2.2.2.2.2.2.2.2.2.2.2.2.2.2.2.2.2.2.2.2.2.2.2.2.2.2.2.2.2.2.2.2.2.2.2.2.2.2.2.2.2.2.2.2.2.2.2.2.2.2.2.2.2.2.2.2.2.2.2.2.2.2.2.2.2.2.2.2.2.2.2.2.2.2.2.2.2.2.2.2.2.2.2.2.2.2.2.2.2.2.2.2.2.2.2.2.2.1), (g a 115 (by omega) (by omega)).trans (hN.2.2.2.2.2.2.2.2.2.2.2.2.2.2.2.2.2.2.2.2.2.2.2.2.2.2.2.2.2.2.2.2.2.2.2.2.2.2.2.2.2.2.2.2.2.2.2.2.2.2.2.2.2.2.2.2.2.2.2.2.2.2.2.2.2.2.2.2.2.2.2.2.2.2.2.2.2.2.2.1), zIn.h2 L0 (i := 80) rfl (by omega), (hG.2.2.2.2.2.2.2.2.2.2.2.2.2.2.2.2.2.2.2.2.2.2.2.2.2.2.2.2.2.2.2.2.2.2.2.2.2.2.2.2.2.2.2.2.2.2.2.2.2.2.2.2.2.2.2.2.2.2.2.2.2.2.2.2.2.2.2.2.2.2.2.2.2.2.2.2.2.2.2.2.2.2.2.2.2.2.2.2.2.2.2.2.2.2.2.2.2.2.2.2.2.2.2.2.2.2.2.2.2.2.2.1), (g a 116 (by omega) (by omega)).trans (hN.2.2.2.2.2.2.2.2.2.2.2.2.2.2.2.2.2.2.2.2.2.2.2.2.2.2.2.2.2.2.2.2.2.2.2.2.2.2.2.2.2.2.2.2.2.2.2.2.2.2.2.2.2.2.2.2.2.2.2.2.2.2.2.2.2.2.2.2.2.2.2.2.2.2.2.2.2.2.2.2.1), zIn.h2 L0 (i := 81) rfl (by omega), (hG.2.2.2.2.2.2.2.2.2.2.2.2.2.2.2.2.2.2.2.2.2.2.2.2.2.2.2.2.2.2.2.2.2.2.2.2.2.2.2.2.2.2.2.2.2.2.2.2.2.2.2.2.2.2.2.2.2.2.2.2.2.2.2.2.2.2.2.2.2.2.2.2.2.2.2.2.2.2.2.2.2.2.2.2.2.2.2.2.2.2.2.2.2.2.2.2.2.2.2.2.2.2.2.2.2.2.2.2.2.2.2.2.1)⟩, ⟨(g a 117 (by omega) (by omega)).trans (hN.2.2.2.2.2.2.2.2.2.2.2.2.2.2.2.2.2.2.2.2.2.2.2.2.2.2.2.2.2.2.2.2.2.2.2.2.2.2.2.2.2.2.2.2.2.2.2.2.2.2.2.2.2.2.2.2.2.2.2.2.2.2.2.2.2.2.2.2.2.2.2.2.2.2.2.2.2.2.2.2.2), zIn.h2 L0 (i := 82) rfl (by omega), (hG.2.2.2.2.2.2.2.2.2.2.2.2.2.2.2.2.2.2.2.2.2.2.2.2.2.2.2.2.2.2.2.2.2.2.2.2.2.2.2.2.2.2.2.2.2.2.2.2.2.2.2.2.2.2.2.2.2.2.2.2.2.2.2.2.2.2.2.2.2.2.2.2.2.2.2.2.2.2.2.2.2.2.2.2.2.2.2.2.2.2.2.2.2.2.2.2.2.2.2.2.2.2.2.2.2.2.2.2.2.2.2.2.2.1), (hG.2.2.2.2.2.2.2.2.2.2.2.2.2.2.2.2.2.2.2.2.2.2.2.2.2.2.2.2.2.2.2.2.2.2.2.2.2.2.2.2.2.2.2.2.2.2.2.2.2.2.2.2.2.2.2.2.2.2.2.2.2.2.2.2.2.2.2.2.2.2.2.2.2.2.2.2.2.2.2.2.2.2.2.2.2.2.2.2.2.2.2.2.2.2.2.2.2.2.2.2.2.2.2.2.2.2.2.2.2.2.2.2.2.2)⟩⟩
