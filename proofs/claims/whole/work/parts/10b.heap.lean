/-! the references between the cells, as the constructors leave them; plan and draft may be exchanged -/
def xGT : List (List Nat) := [[2, 4, 9, 14, 20, 118, 131, 132, 133, 0], [3, 0, 0, 0, 0, 0], [], [0, 0, 0, 0, 0, 0, 0, 5, 6, 7, 8], [], [], [], [], [0, 0, 0, 0, 0, 0, 0, 10, 11, 12, 13], [], [], [], [], [0, 0, 0, 0, 15, 16, 17, 18, 19], [], [], [], [], [], [21, 0, 0], [22, 28, 34, 40, 46, 52, 58, 64, 70, 76, 82, 88, 94, 100, 106, 112], [0, 0, 0, 0, 23, 24, 25, 26, 27], [], [], [], [], [], [0, 0, 0, 0, 29, 30, 31, 32, 33], [], [], [], [], [], [0, 0, 0, 0, 35, 36, 37, 38, 39], [], [], [], [], [], [0, 0, 0, 0, 41, 42, 43, 44, 45], [], [], [], [], [], [0, 0, 0, 0, 47, 48, 49, 50, 51], [], [], [], [], [], [0, 0, 0, 0, 53, 54, 55, 56, 57], [], [], [], [], [], [0, 0, 0, 0, 59, 60, 61, 62, 63], [], [], [], [], [], [0, 0, 0, 0, 65, 66, 67, 68, 69], [], [], [], [], [], [0, 0, 0, 0, 71, 72, 73, 74, 75], [], [], [], [], [], [0, 0, 0, 0, 77, 78, 79, 80, 81], [], [], [], [], [], [0, 0, 0, 0, 83, 84, 85, 86, 87], [], [], [], [], [], [0, 0, 0, 0, 89, 90, 91, 92, 93], [], [], [], [], [], [0, 0, 0, 0, 95, 96, 97, 98, 99], [], [], [], [], [], [0, 0, 0, 0, 101, 102, 103, 104, 105], [], [], [], [], [], [0, 0, 0, 0, 107, 108, 109, 110, 111], [], [], [], [], [], [0, 0, 0, 0, 113, 114, 115, 116, 117], [], [], [], [], [], [119, 125], [0, 0, 0, 0, 120, 121, 122, 123, 124], [], [], [], [], [], [0, 0, 0, 0, 126, 127, 128, 129, 130], [], [], [], [], [], [], [], [0, 0, 0, 134, 135, 136, 137, 138, 139, 140], [], [], [], [], [], [], [], [0, 0, 0, 142, 143, 0, 144, 145, 0, 146, 0, 147, 0, 0, 0, 0, 0, 0, 0, 0, 148, 149, 0, 150, 151, 0, 0, 0, 152, 0, 153, 154, 155, 156, 0, 157, 158, 0, 159, 160, 161, 162], [], [], [], [], [], [], [], [], [], [], [], [], [], [], [], [], [], [], [], [], []]
def Gb (sw : Bool) : xG := fun a k => if a = 0 ∧ k = 1 then (if sw then 9 else 4) else if a = 0 ∧ k = 2 then (if sw then 4 else 9) else (xGT.getD a []).getD k 0
def pl (sw : Bool) : Nat := if sw then 8 else 3
def dr (sw : Bool) : Nat := if sw then 3 else 8
theorem G_pl (sw : Bool) : Gb sw 0 1 = pl sw + 1 := by cases sw <;> rfl
theorem G_dr (sw : Bool) : Gb sw 0 2 = dr sw + 1 := by cases sw <;> rfl
def isP (p : Nat) : Prop := p = 3 ∨ p = 8
theorem pl_P (sw : Bool) : isP (pl sw) := by cases sw; exact Or.inl rfl; exact Or.inr rfl
theorem dr_P (sw : Bool) : isP (dr sw) := by cases sw; exact Or.inr rfl; exact Or.inl rfl
theorem isP.k {p : Nat} (hp : isP p) : xk p = 2 ∧ p < 162 := by rcases hp with rfl | rfl <;> decide
theorem isP.g7 {p : Nat} {sw : Bool} (hp : isP p) : Gb sw p 7 = (p + 1) + 1 := by rcases hp with rfl | rfl <;> rfl
theorem isP.g8 {p : Nat} {sw : Bool} (hp : isP p) : Gb sw p 8 = (p + 2) + 1 := by rcases hp with rfl | rfl <;> rfl
theorem isP.g9 {p : Nat} {sw : Bool} (hp : isP p) : Gb sw p 9 = (p + 3) + 1 := by rcases hp with rfl | rfl <;> rfl
theorem isP.g10 {p : Nat} {sw : Bool} (hp : isP p) : Gb sw p 10 = (p + 4) + 1 := by rcases hp with rfl | rfl <;> rfl
theorem isP.a1 {p : Nat} (hp : isP p) : xk (p + 1) = 7 ∧ p + 1 < 162 := by rcases hp with rfl | rfl <;> decide
theorem isP.z1 {p : Nat} (hp : isP p) : xz (p + 1) = 6 := by rcases hp with rfl | rfl <;> decide
theorem isP.a2 {p : Nat} (hp : isP p) : xk (p + 2) = 7 ∧ p + 2 < 162 := by rcases hp with rfl | rfl <;> decide
theorem isP.z2 {p : Nat} (hp : isP p) : xz (p + 2) = 6 := by rcases hp with rfl | rfl <;> decide
theorem isP.a3 {p : Nat} (hp : isP p) : xk (p + 3) = 7 ∧ p + 3 < 162 := by rcases hp with rfl | rfl <;> decide
theorem isP.z3 {p : Nat} (hp : isP p) : xz (p + 3) = 8 := by rcases hp with rfl | rfl <;> decide
theorem isP.a4 {p : Nat} (hp : isP p) : xk (p + 4) = 7 ∧ p + 4 < 162 := by rcases hp with rfl | rfl <;> decide
theorem isP.z4 {p : Nat} (hp : isP p) : xz (p + 4) = 8 := by rcases hp with rfl | rfl <;> decide
def scL : List Nat := [13, 21, 27, 33, 39, 45, 51, 57, 63, 69, 75, 81, 87, 93, 99, 105, 111, 118, 124]
def isSc (a : Nat) : Prop := a ∈ scL
theorem isSc.k {a : Nat} (ha : isSc a) : xk a = 3 ∧ a < 162 := (by decide +kernel : ∀ a ∈ scL, xk a = 3 ∧ a < 162) a ha
theorem isSc.lt {a : Nat} (ha : isSc a) : a < 125 := (by decide +kernel : ∀ a ∈ scL, a < 125) a ha
theorem isSc.g4 {a : Nat} {sw : Bool} (ha : isSc a) : Gb sw a 4 = (a + 1) + 1 := by
  have h1 : ∀ a ∈ scL, (xGT.getD a []).getD 4 0 = (a + 1) + 1 ∧ a ≠ 0 := by decide +kernel
  unfold Gb
  rw [if_neg (fun q => (h1 a ha).2 q.1), if_neg (fun q => (h1 a ha).2 q.1)]
  exact (h1 a ha).1
theorem isSc.g5 {a : Nat} {sw : Bool} (ha : isSc a) : Gb sw a 5 = (a + 2) + 1 := by
  have h1 : ∀ a ∈ scL, (xGT.getD a []).getD 5 0 = (a + 2) + 1 ∧ a ≠ 0 := by decide +kernel
  unfold Gb
  rw [if_neg (fun q => (h1 a ha).2 q.1), if_neg (fun q => (h1 a ha).2 q.1)]
  exact (h1 a ha).1
theorem isSc.g6 {a : Nat} {sw : Bool} (ha : isSc a) : Gb sw a 6 = (a + 3) + 1 := by
  have h1 : ∀ a ∈ scL, (xGT.getD a []).getD 6 0 = (a + 3) + 1 ∧ a ≠ 0 := by decide +kernel
  unfold Gb
  rw [if_neg (fun q => (h1 a ha).2 q.1), if_neg (fun q => (h1 a ha).2 q.1)]
  exact (h1 a ha).1
theorem isSc.g7 {a : Nat} {sw : Bool} (ha : isSc a) : Gb sw a 7 = (a + 4) + 1 := by
  have h1 : ∀ a ∈ scL, (xGT.getD a []).getD 7 0 = (a + 4) + 1 ∧ a ≠ 0 := by decide +kernel
  unfold Gb
  rw [if_neg (fun q => (h1 a ha).2 q.1), if_neg (fun q => (h1 a ha).2 q.1)]
  exact (h1 a ha).1
theorem isSc.g8 {a : Nat} {sw : Bool} (ha : isSc a) : Gb sw a 8 = (a + 5) + 1 := by
  have h1 : ∀ a ∈ scL, (xGT.getD a []).getD 8 0 = (a + 5) + 1 ∧ a ≠ 0 := by decide +kernel
  unfold Gb
  rw [if_neg (fun q => (h1 a ha).2 q.1), if_neg (fun q => (h1 a ha).2 q.1)]
  exact (h1 a ha).1
theorem isSc.a1 {a : Nat} (ha : isSc a) : xk (a + 1) = 7 ∧ a + 1 < 162 := (by decide +kernel : ∀ a ∈ scL, xk (a + 1) = 7 ∧ a + 1 < 162) a ha
theorem isSc.z1 {a : Nat} (ha : isSc a) : xz (a + 1) = 8 := (by decide +kernel : ∀ a ∈ scL, xz (a + 1) = 8) a ha
theorem isSc.a2 {a : Nat} (ha : isSc a) : xk (a + 2) = 7 ∧ a + 2 < 162 := (by decide +kernel : ∀ a ∈ scL, xk (a + 2) = 7 ∧ a + 2 < 162) a ha
theorem isSc.z2 {a : Nat} (ha : isSc a) : xz (a + 2) = 8 := (by decide +kernel : ∀ a ∈ scL, xz (a + 2) = 8) a ha
theorem isSc.a3 {a : Nat} (ha : isSc a) : xk (a + 3) = 7 ∧ a + 3 < 162 := (by decide +kernel : ∀ a ∈ scL, xk (a + 3) = 7 ∧ a + 3 < 162) a ha
theorem isSc.z3 {a : Nat} (ha : isSc a) : xz (a + 3) = 8 := (by decide +kernel : ∀ a ∈ scL, xz (a + 3) = 8) a ha
theorem isSc.a4 {a : Nat} (ha : isSc a) : xk (a + 4) = 7 ∧ a + 4 < 162 := (by decide +kernel : ∀ a ∈ scL, xk (a + 4) = 7 ∧ a + 4 < 162) a ha
theorem isSc.z4 {a : Nat} (ha : isSc a) : xz (a + 4) = 8 := (by decide +kernel : ∀ a ∈ scL, xz (a + 4) = 8) a ha
theorem isSc.a5 {a : Nat} (ha : isSc a) : xk (a + 5) = 7 ∧ a + 5 < 162 := (by decide +kernel : ∀ a ∈ scL, xk (a + 5) = 7 ∧ a + 5 < 162) a ha
theorem isSc.z5 {a : Nat} (ha : isSc a) : xz (a + 5) = 8 := (by decide +kernel : ∀ a ∈ scL, xz (a + 5) = 8) a ha
theorem sc_now : isSc 13 := (by decide +kernel : 13 ∈ scL)
theorem sc_past : ∀ i, i < 16 → isSc (21 + 6 * i) := (by decide +kernel : ∀ i, i < 16 → (21 + 6 * i) ∈ scL)
theorem sc_img : ∀ i, i < 2 → isSc (118 + 6 * i) := (by decide +kernel : ∀ i, i < 2 → (118 + 6 * i) ∈ scL)
theorem inb_lt {i : Int32} {n : Nat} (h : inb i n) : i.toNatClampNeg < n := Nat.not_le.mp fun q => h (Or.inr q)
theorem G_sc20 {sw : Bool} {i : Nat} (h : i < 16) : Gb sw 20 i = (21 + 6 * i) + 1 := (by decide +kernel : ∀ i, i < 16 → (xGT.getD 20 []).getD i 0 = (21 + 6 * i) + 1) i h
theorem G_sc117 {sw : Bool} {i : Nat} (h : i < 2) : Gb sw 117 i = (118 + 6 * i) + 1 := (by decide +kernel : ∀ i, i < 2 → (xGT.getD 117 []).getD i 0 = (118 + 6 * i) + 1) i h
theorem Gb_swap (sw : Bool) : xu (xu (Gb sw) 0 1 (dr sw + 1)) 0 2 (pl sw + 1) = Gb (!sw) := by
  funext a k
  unfold xu xp Gb
  cases sw <;> by_cases h0 : a = 0 <;> by_cases h1 : k = 1 <;> by_cases h2 : k = 2 <;> simp [h0, h1, h2, pl, dr] <;> omega
