/-! leaves -/
def b01 (p : Prop) [Decidable p] : Int32 := if p then 1 else 0
theorem b01_0 (p : Prop) [Decidable p] : (b01 p = 0) = ¬ p := by
  unfold b01
  by_cases h : p <;> simp [h]
theorem b01_is (p : Prop) [Decidable p] : is01 (b01 p) := by
  unfold b01 is01
  by_cases h : p <;> simp [h]
theorem is01_0 : is01 0 = True := by simp [is01]
theorem is01_1 : is01 1 = True := by simp [is01]
theorem ite_q {α β : Type} (c : Prop) [Decidable c] (f : α → β) (x y : α) : f (if c then x else y) = if c then f x else f y := by
  by_cases h : c <;> simp [h]
section LEAF
variable {X : (Nat → Int32) × Nat} {g : xG} {h : xH} {Q : Option Value → xG → xH → Prop} {sw : Bool}
theorem r_isOutside (a b c : Int32) : EV X mX5_isOutside 0 0 0 [.int a, .int b, .int c] [] g h Q = Q (some (.int (b01 (a < b ∨ c < a)))) g h := by
  simp only [eX5_isOutside_0, eX5_isOutside_1, eX5_isOutside_2, eX5_isOutside_5, eX5_isOutside_6, eX5_isOutside_7, eX5_isOutside_10, eX5_isOutside_11, eX5_isOutside_14, eX5_isOutside_15, Option.toList_some, Option.toList_none, List.cons_append, List.nil_append, is01_0, is01_1, true_and]
  unfold b01
  by_cases h1 : a < b
  · simp [h1]
  · by_cases h2 : c < a
    · have h3 : ¬ a ≤ c := by rw [Int32.not_le]; exact h2
      simp [h1, h2, h3]
    · have h3 : a ≤ c := by rw [← Int32.not_lt]; exact h2
      simp [h1, h2, h3]
theorem r_older (a n : Int32) : EV X mX5_older 0 0 0 [.int a, .int n] [] g h Q = Q (some (.int (if a + n < 99999999 then a + n else 99999999))) g h := by
  simp only [eX5_older_0, eX5_older_3, eX5_older_4, eX5_older_5, eX5_older_6, eX5_older_9, Option.toList_some, Option.toList_none, List.cons_append, List.nil_append, is01_0, is01_1, true_and]
theorem r_max {a b : Int32} : (if a < b then b else a) = (if a < b then b else a) := rfl
theorem r_hasGoer {p : Nat} (hp : isP p) (x : Int32) : EV X mX2_hasGoer 0 0 0 [.ref p, .int x] [] g h Q = Q (some (.int (b01 (0 ≤ x ∧ x < h p 6)))) g h := by
  simp only [eX2_hasGoer_0, eX2_hasGoer_1, eX2_hasGoer_4, eX2_hasGoer_5, eX2_hasGoer_6, eX2_hasGoer_9, eX2_hasGoer_12, eX2_hasGoer_13, eX2_hasGoer_16, eX2_hasGoer_17, Option.toList_some, Option.toList_none, List.cons_append, List.nil_append, is01_0, is01_1, true_and, hp]
  unfold b01
  by_cases h1 : x < 0
  · have h2 : ¬ 0 ≤ x := by rw [Int32.not_le]; exact h1
    simp [h1, h2]
  · have h2 : 0 ≤ x := by rw [← Int32.not_lt]; exact h1
    by_cases h3 : h p 6 ≤ x
    · have h4 : ¬ x < h p 6 := by rw [Int32.not_lt]; exact h3
      simp [h1, h2, h3, h4]
    · have h4 : x < h p 6 := by rw [← Int32.not_le]; exact h3
      simp [h1, h2, h3, h4]
theorem lg_3 (x y : Int64) : lg_cmp x y = if y < x then 1 else if x = y then 0 else -1 := rfl
theorem lg0 (x y : Int64) : (lg_cmp x y < 0) = (x < y) := by
  rw [lg_3]
  apply propext
  split
  · rename_i q; rw [fa_lt64] at q; exact ⟨fun h => absurd h (by decide), fun h => by rw [fa_lt64] at h; omega⟩
  · rename_i q; rw [fa_lt64] at q
    split
    · rename_i q2; rw [fa_eq64] at q2; exact ⟨fun h => absurd h (by decide), fun h => by rw [fa_lt64] at h; omega⟩
    · rename_i q2; rw [fa_eq64] at q2; exact ⟨fun h => by rw [fa_lt64]; omega, fun h => by decide⟩
theorem lg1 (x y : Int64) : (0 < lg_cmp x y) = (y < x) := by
  rw [lg_3]
  apply propext
  split
  · rename_i q; rw [fa_lt64] at q; exact ⟨fun h => by rw [fa_lt64]; omega, fun h => by decide⟩
  · rename_i q; rw [fa_lt64] at q
    split
    · rename_i q2; rw [fa_eq64] at q2; exact ⟨fun h => absurd h (by decide), fun h => by rw [fa_lt64] at h; omega⟩
    · rename_i q2; rw [fa_eq64] at q2; exact ⟨fun h => absurd h (by decide), fun h => by rw [fa_lt64] at h; omega⟩
theorem lg0' (x y : Int64) : (0 ≤ lg_cmp x y) = (y ≤ x) := by
  rw [lg_3]
  apply propext
  split
  · rename_i q; rw [fa_lt64] at q; exact ⟨fun h => by rw [fa_le64]; omega, fun h => by decide⟩
  · rename_i q; rw [fa_lt64] at q
    split
    · rename_i q2; rw [fa_eq64] at q2; exact ⟨fun h => by rw [fa_le64]; omega, fun h => by decide⟩
    · rename_i q2; rw [fa_eq64] at q2; exact ⟨fun h => absurd h (by decide), fun h => by rw [fa_le64] at h; omega⟩
theorem lg1' (x y : Int64) : (lg_cmp x y ≤ 0) = (x ≤ y) := by
  rw [lg_3]
  apply propext
  split
  · rename_i q; rw [fa_lt64] at q; exact ⟨fun h => absurd h (by decide), fun h => by rw [fa_le64] at h; omega⟩
  · rename_i q; rw [fa_lt64] at q
    split
    · rename_i q2; rw [fa_eq64] at q2; exact ⟨fun h => by rw [fa_le64]; omega, fun h => by decide⟩
    · rename_i q2; rw [fa_eq64] at q2; exact ⟨fun h => by rw [fa_le64]; omega, fun h => by decide⟩
theorem q_ite {P : Int32 → Prop} {c : Prop} [Decidable c] {x y : Int32} : P (if c then x else y) = if c then P x else P y := by
  by_cases h : c <;> simp [h]
theorem r_in (a b c : Int64) : EV X mX6_in 0 0 0 [.long a, .null, .long b, .null, .long c, .null] [] g h Q = Q (some (.int (b01 (b ≤ a ∧ a ≤ c)))) g h := by
  simp only [eX6_in_0, eX6_in_1, eX6_in_2, eX6_in_3, eX6_in_6, eX6_in_7, eX6_in_9, eX6_in_10, eX6_in_13, eX6_in_14, eX6_in_17, eX6_in_18, Option.toList_some, Option.toList_none, List.cons_append, List.nil_append, is01_0, is01_1, true_and, lg0, lg1, lg0', lg1']
  unfold b01
  by_cases h1 : a < b
  · have h2 : ¬ (b ≤ a ∧ a ≤ c) := by intro q; rw [fa_lt64] at h1; rw [fa_le64] at q; omega
    rw [if_pos h1, if_neg h2]
  · by_cases h3 : c < a
    · have h2 : ¬ (b ≤ a ∧ a ≤ c) := by intro q; rw [fa_lt64] at h3; rw [fa_le64 a c] at q; omega
      rw [if_neg h1, if_pos h3, if_neg h2]
    · have h2 : b ≤ a ∧ a ≤ c := by rw [fa_lt64] at h1 h3; rw [fa_le64, fa_le64]; omega
      rw [if_neg h1, if_neg h3, if_pos h2]
/-- the model's 'in' over ints -/
theorem in32 (x a b : Int32) : (a.toInt64 ≤ x.toInt64 ∧ x.toInt64 ≤ b.toInt64) = (a ≤ x ∧ x ≤ b) := by rw [fa_wide_le, fa_wide_le]
theorem r_inI (x a b : Int32) : EV X mX6_in 0 0 0 [.long x.toInt64, .null, .long a.toInt64, .null, .long b.toInt64, .null] [] g h Q = Q (some (.int (b01 (a ≤ x ∧ x ≤ b)))) g h := by
  rw [r_in]
  congr 4
  exact in32 x a b
theorem nd2 : (¬ (2 : Int32) = 0) = True := by decide
theorem nd5 : (¬ (5 : Int32) = 0) = True := by decide
theorem nd10 : (¬ (10 : Int32) = 0) = True := by decide
theorem nd16 : (¬ (16 : Int32) = 0) = True := by decide
theorem nd20 : (¬ (20 : Int32) = 0) = True := by decide
theorem nd50 : (¬ (50 : Int32) = 0) = True := by decide
theorem nd100 : (¬ (100 : Int32) = 0) = True := by decide
theorem nd65536 : (¬ (65536 : Int32) = 0) = True := by decide
theorem tc0 : (0 : Int32).toNatClampNeg = 0 := rfl
theorem tc1 : (1 : Int32).toNatClampNeg = 1 := rfl
theorem tc2 : (2 : Int32).toNatClampNeg = 2 := rfl
theorem tc3 : (3 : Int32).toNatClampNeg = 3 := rfl
theorem tc4 : (4 : Int32).toNatClampNeg = 4 := rfl
theorem ib0 : inb 0 44 = True := by apply eq_true; exact inb_nI (n := 0) (by omega) (by omega)
theorem ib1 : inb 1 44 = True := by apply eq_true; exact inb_nI (n := 1) (by omega) (by omega)
theorem ib2 : inb 2 44 = True := by apply eq_true; exact inb_nI (n := 2) (by omega) (by omega)
theorem ib3 : inb 3 44 = True := by apply eq_true; exact inb_nI (n := 3) (by omega) (by omega)
theorem ib4 : inb 4 44 = True := by apply eq_true; exact inb_nI (n := 4) (by omega) (by omega)
theorem la4 (j : Nat) : (4 : Int32) + nI j = nI (4 + j) := nI_add 4 j
theorem la12 (j : Nat) : (12 : Int32) + nI j = nI (12 + j) := nI_add 12 j
theorem la20 (j : Nat) : (20 : Int32) + nI j = nI (20 + j) := nI_add 20 j
theorem la28 (j : Nat) : (28 : Int32) + nI j = nI (28 + j) := nI_add 28 j
theorem la36 (j : Nat) : (36 : Int32) + nI j = nI (36 + j) := nI_add 36 j
theorem cl8 {j : Nat} (hj : j < 8) : (nI j).toNatClampNeg = j := cl_nI (by omega)
theorem cl8_4 {j : Nat} (hj : j < 8) : (nI (4 + j)).toNatClampNeg = 4 + j := cl_nI (by omega)
theorem cl8_12 {j : Nat} (hj : j < 8) : (nI (12 + j)).toNatClampNeg = 12 + j := cl_nI (by omega)
theorem cl8_20 {j : Nat} (hj : j < 8) : (nI (20 + j)).toNatClampNeg = 20 + j := cl_nI (by omega)
theorem cl8_28 {j : Nat} (hj : j < 8) : (nI (28 + j)).toNatClampNeg = 28 + j := cl_nI (by omega)
theorem cl8_36 {j : Nat} (hj : j < 8) : (nI (36 + j)).toNatClampNeg = 36 + j := cl_nI (by omega)
theorem inb8 {j N : Nat} (hj : j < 8) (hN : 8 ≤ N) : inb (nI j) N = True := by
  rw [inb_nIe (by omega)]
  apply eq_true
  omega
theorem ib8_4 {j : Nat} (hj : j < 8) : inb (nI (4 + j)) 44 = True := by
  rw [inb_nIe (by omega)]
  apply eq_true
  omega
theorem ib8_12 {j : Nat} (hj : j < 8) : inb (nI (12 + j)) 44 = True := by
  rw [inb_nIe (by omega)]
  apply eq_true
  omega
theorem ib8_20 {j : Nat} (hj : j < 8) : inb (nI (20 + j)) 44 = True := by
  rw [inb_nIe (by omega)]
  apply eq_true
  omega
theorem ib8_28 {j : Nat} (hj : j < 8) : inb (nI (28 + j)) 44 = True := by
  rw [inb_nIe (by omega)]
  apply eq_true
  omega
theorem ib8_36 {j : Nat} (hj : j < 8) : inb (nI (36 + j)) 44 = True := by
  rw [inb_nIe (by omega)]
  apply eq_true
  omega
/-! the plan, as class and model have it -/
def PW (NL G : Nat) (w : Nat → Int32) : Prop := NL ≤ 6 ∧ G ≤ 8 ∧ (0 ≤ w 0 ∧ w 0 ≤ 900) ∧ (w 0 = 0 → w 1 = 0 ∧ NL = 0 ∧ G = 0) ∧ (w 0 ≠ 0 → 1 ≤ w 1 ∧ w 1 ≤ 8 ∧ 1 ≤ w 2 ∧ w 2 ≤ 99) ∧ (∀ k, k < NL → 1 ≤ w (10 + k) ∧ w (10 + k) ≤ 900 ∧ 2 ≤ w (20 + k) ∧ w (20 + k) ≤ 60) ∧ ∀ k, k < G → 0 ≤ w (30 + k) ∧ w (30 + k) ≤ 4
def PC (h : xH) (p NL G : Nat) (w : Nat → Int32) : Prop := (h p 0 = b01 (¬ w 0 = 0) ∧ h p 2 = w 0 ∧ h p 3 = w 1 ∧ h p 4 = w 2 ∧ h p 5 = nI NL ∧ h p 6 = nI G) ∧ (∀ k, k < NL → h (p + 1) k = w (10 + k) ∧ h (p + 2) k = w (20 + k)) ∧ ∀ k, k < G → h (p + 4) k = w (30 + k)
def PM (h : xH) (NL G : Nat) (w : Nat → Int32) : Prop := (h 140 0 = w 0 ∧ h 140 1 = w 1 ∧ h 140 8 = (if w 0 = 0 then 0 else w 2) ∧ h 140 2 = nI NL ∧ h 140 5 = nI G) ∧ (∀ k, k < NL → h 141 k = w (10 + k) ∧ h 142 k = w (20 + k)) ∧ ∀ k, k < G → h 144 k = w (30 + k)
/-- how fast time goes at a height, of the first n layers -/
def pcS (w : Nat → Int32) (y : Int32) : Nat → Int32
  | 0 => 1
  | n + 1 => if w (10 + n) ≤ y then w (20 + n) else pcS w y n
theorem r_paceAt {p NL G : Nat} {w : Nat → Int32} (hp : isP p) (hn : NL ≤ 6) (hC : PC h p NL G w) (y : Int32) : EV X mX2_paceAt 0 0 0 [.ref p, .int y, .null] [] (Gb sw) h Q = Q (some (.int (pcS w y NL))) (Gb sw) h := by
  simp only [eX2_paceAt_0, eX2_paceAt_1, eX2_paceAt_4, eX2_paceAt_5, eX2_paceAt_6, eX2_paceAt_8, eX2_paceAt_11, eX2_paceAt_12, eX2_paceAt_15, eX2_paceAt_16, eX2_paceAt_17, eX2_paceAt_18, eX2_paceAt_21, eX2_paceAt_22, eX2_paceAt_25, eX2_paceAt_26, eX2_paceAt_27, eX2_paceAt_28, eX2_paceAt_31, eX2_paceAt_34, eX2_paceAt_35, Option.toList_some, Option.toList_none, List.cons_append, List.nil_append, is01_0, is01_1, true_and, hp, hC.1]
  have key : ∀ n, n ≤ NL → EV X mX2_paceAt 0 0 7 [.ref p, .int y, .int (nI n - 1)] [] (Gb sw) h Q = Q (some (.int (pcS w y n))) (Gb sw) h := by
    intro n
    induction n with
    | zero =>
      intro _
      rw [eX2_paceAt_7]
      simp only [eX2_paceAt_0, eX2_paceAt_1, eX2_paceAt_4, eX2_paceAt_5, eX2_paceAt_6, eX2_paceAt_8, eX2_paceAt_11, eX2_paceAt_12, eX2_paceAt_15, eX2_paceAt_16, eX2_paceAt_17, eX2_paceAt_18, eX2_paceAt_21, eX2_paceAt_22, eX2_paceAt_25, eX2_paceAt_26, eX2_paceAt_27, eX2_paceAt_28, eX2_paceAt_31, eX2_paceAt_34, eX2_paceAt_35, Option.toList_some, Option.toList_none, List.cons_append, List.nil_append, is01_0, is01_1, true_and, hp]
      rw [if_pos (by decide)]
      rfl
    | succ n ih =>
      intro hl
      have e1 : nI (n + 1) - 1 = nI n := nI_pred n
      have e2 : nI n + -1 = nI n - 1 := by rw [Int32.sub_eq_add_neg]
      rw [e1, eX2_paceAt_7]
      have hc := (hC.2.1 n (by omega))
      simp only [eX2_paceAt_0, eX2_paceAt_1, eX2_paceAt_4, eX2_paceAt_5, eX2_paceAt_6, eX2_paceAt_8, eX2_paceAt_11, eX2_paceAt_12, eX2_paceAt_15, eX2_paceAt_16, eX2_paceAt_17, eX2_paceAt_18, eX2_paceAt_21, eX2_paceAt_22, eX2_paceAt_25, eX2_paceAt_26, eX2_paceAt_27, eX2_paceAt_28, eX2_paceAt_31, eX2_paceAt_34, eX2_paceAt_35, Option.toList_some, Option.toList_none, List.cons_append, List.nil_append, is01_0, is01_1, true_and, hp, cl_nI (show n < 2147483648 by omega), inb_nIe (show n < 2147483648 by omega), hc.1, hc.2, show n < 6 by omega, e2]
      rw [if_neg (nI_pos (by omega)), ih (by omega)]
      unfold pcS
      by_cases q : w (10 + n) ≤ y
      · have q2 : ¬ y < w (10 + n) := by rw [Int32.not_lt]; exact q
        rw [if_neg q2, if_pos q]
      · have q2 : y < w (10 + n) := by rw [← Int32.not_le]; exact q
        rw [if_pos q2, if_neg q]
        cases n <;> rfl
  exact key NL (Nat.le_refl _)
theorem pcS_fold (w : Nat → Int32) (y : Int32) : ∀ n, xfold (fun k v => if w (10 + k) ≤ y then w (20 + k) else v) 0 n 1 = pcS w y n
  | 0 => rfl
  | n + 1 => by
    rw [xfold_succ, pcS_fold w y n, Nat.zero_add]
    rfl
theorem r_speedAt {NL G : Nat} {w : Nat → Int32} (hn : NL ≤ 6) (hM : PM h NL G w) (y : Int32) : EV X mX6_speedAt 0 0 0 [.ref 140, .int y, .null, .null] [] (Gb sw) h Q = Q (some (.int (pcS w y NL))) (Gb sw) h := by
  simp only [eX6_speedAt_0, eX6_speedAt_1, eX6_speedAt_2, eX6_speedAt_3, eX6_speedAt_5, eX6_speedAt_6, eX6_speedAt_9, eX6_speedAt_12, eX6_speedAt_13, eX6_speedAt_16, eX6_speedAt_17, eX6_speedAt_18, eX6_speedAt_19, eX6_speedAt_22, eX6_speedAt_23, eX6_speedAt_26, eX6_speedAt_27, eX6_speedAt_28, eX6_speedAt_31, eX6_speedAt_32, eX6_speedAt_33, eX6_speedAt_36, eX6_speedAt_39, eX6_speedAt_40, Option.toList_some, Option.toList_none, List.cons_append, List.nil_append, is01_0, is01_1, true_and]
  have key := lp_fold (f := fun k v => if w (10 + k) ≤ y then w (20 + k) else v) (fun i (v : Int32) => EV X mX6_speedAt 0 0 4 [.ref 140, .int y, .int v, .int (nI i)] [] (Gb sw) h Q) NL 0 1 (fun i v h1 h2 => by
    have hc := (hM.2.1 i (by omega))
    rw [eX6_speedAt_4]
    simp only [eX6_speedAt_0, eX6_speedAt_1, eX6_speedAt_2, eX6_speedAt_3, eX6_speedAt_5, eX6_speedAt_6, eX6_speedAt_9, eX6_speedAt_12, eX6_speedAt_13, eX6_speedAt_16, eX6_speedAt_17, eX6_speedAt_18, eX6_speedAt_19, eX6_speedAt_22, eX6_speedAt_23, eX6_speedAt_26, eX6_speedAt_27, eX6_speedAt_28, eX6_speedAt_31, eX6_speedAt_32, eX6_speedAt_33, eX6_speedAt_36, eX6_speedAt_39, eX6_speedAt_40, Option.toList_some, Option.toList_none, List.cons_append, List.nil_append, is01_0, is01_1, true_and, cl_nI (show i < 2147483648 by omega), inb_nIe (show i < 2147483648 by omega), hc.1, hc.2, show i < 6 by omega, hM.1]
    rw [if_neg (nI_ge (by omega) (by omega)), nI_1]
    by_cases q : w (10 + i) ≤ y
    · have q2 : ¬ y < w (10 + i) := by rw [Int32.not_lt]; exact q
      rw [if_neg q2, if_pos q]
    · have q2 : y < w (10 + i) := by rw [← Int32.not_le]; exact q
      rw [if_pos q2, if_neg q])
  rw [pcS_fold, Nat.zero_add] at key
  refine key.trans ?_
  rw [eX6_speedAt_4]
  simp only [eX6_speedAt_0, eX6_speedAt_1, eX6_speedAt_2, eX6_speedAt_3, eX6_speedAt_5, eX6_speedAt_6, eX6_speedAt_9, eX6_speedAt_12, eX6_speedAt_13, eX6_speedAt_16, eX6_speedAt_17, eX6_speedAt_18, eX6_speedAt_19, eX6_speedAt_22, eX6_speedAt_23, eX6_speedAt_26, eX6_speedAt_27, eX6_speedAt_28, eX6_speedAt_31, eX6_speedAt_32, eX6_speedAt_33, eX6_speedAt_36, eX6_speedAt_39, eX6_speedAt_40, Option.toList_some, Option.toList_none, List.cons_append, List.nil_append, is01_0, is01_1, true_and, hM.1]
  rw [if_pos (nI_le (Nat.le_refl _) (by omega))]
theorem pcS_low {NL G : Nat} {w : Nat → Int32} (hW : PW NL G w) : ∀ n, n ≤ NL → pcS w 0 n = 1
  | 0, _ => rfl
  | n + 1, h => by
    have h1 := (hW.2.2.2.2.2.1 n (by omega)).1
    have : ¬ w (10 + n) ≤ 0 := by
      rw [fa_le] at h1 ⊢
      have e1 : (1 : Int32).toInt = 1 := rfl
      have e0 : (0 : Int32).toInt = 0 := rfl
      omega
    unfold pcS
    rw [if_neg this]
    exact pcS_low hW n (by omega)
theorem pcS_rng {NL G : Nat} {w : Nat → Int32} (hW : PW NL G w) (y : Int32) : ∀ n, n ≤ NL → 1 ≤ (pcS w y n).toInt ∧ (pcS w y n).toInt ≤ 60
  | 0, _ => by unfold pcS; decide
  | n + 1, h => by
    have h1 := (hW.2.2.2.2.2.1 n (by omega)).2.2
    unfold pcS
    split
    · rw [fa_le, fa_le] at h1
      have e1 : (2 : Int32).toInt = 2 := rfl
      have e0 : (60 : Int32).toInt = 60 := rfl
      omega
    · exact pcS_rng hW y n (by omega)
theorem r_isUp (x : Int32) : EV X mX3_isUp 0 0 0 [.ref 13, .int x] [] (Gb sw) h Q = (inb x 8 ∧ Q (some (.int (b01 (h 17 x.toNatClampNeg = 2 ∨ h 17 x.toNatClampNeg = 3)))) (Gb sw) h) := by
  simp only [eX3_isUp_0, eX3_isUp_1, eX3_isUp_4, eX3_isUp_5, eX3_isUp_6, eX3_isUp_7, eX3_isUp_10, eX3_isUp_11, eX3_isUp_14, eX3_isUp_15, eX3_isUp_16, eX3_isUp_17, eX3_isUp_20, eX3_isUp_21, eX3_isUp_24, eX3_isUp_25, Option.toList_some, Option.toList_none, List.cons_append, List.nil_append, is01_0, is01_1, true_and]
  apply propext
  unfold b01
  by_cases h0 : inb x 8
  · by_cases h1 : h 17 x.toNatClampNeg = 2 <;> by_cases h2 : h 17 x.toNatClampNeg = 3 <;> simp [h0, h1, h2]
  · simp [h0]
theorem r_heightOf (x : Int32) : EV X mX3_heightOf 0 0 0 [.ref 13, .int x] [] (Gb sw) h Q = (inb x 8 ∧ Q (some (.int (if h 17 x.toNatClampNeg = 2 then h 13 0 else if h 17 x.toNatClampNeg = 3 then h 18 x.toNatClampNeg else 0))) (Gb sw) h) := by
  simp only [eX3_heightOf_0, eX3_heightOf_1, eX3_heightOf_4, eX3_heightOf_5, eX3_heightOf_6, eX3_heightOf_7, eX3_heightOf_10, eX3_heightOf_11, eX3_heightOf_14, eX3_heightOf_15, eX3_heightOf_16, eX3_heightOf_19, eX3_heightOf_20, eX3_heightOf_21, eX3_heightOf_22, eX3_heightOf_25, eX3_heightOf_26, eX3_heightOf_29, eX3_heightOf_30, eX3_heightOf_31, eX3_heightOf_34, eX3_heightOf_35, Option.toList_some, Option.toList_none, List.cons_append, List.nil_append, is01_0, is01_1, true_and]
  apply propext
  by_cases h0 : inb x 8
  · by_cases h1 : h 17 x.toNatClampNeg = 2 <;> by_cases h2 : h 17 x.toNatClampNeg = 3 <;> simp [h0, h1, h2]
  · simp [h0]
theorem r_misUp {j : Nat} (hj : j < 8) : EV X mX6_isUp 0 0 0 [.ref 140, .int (nI j)] [] (Gb sw) h Q = Q (some (.int (b01 (¬ h 145 (12 + j) < 2)))) (Gb sw) h := by
  simp only [eX6_isUp_0, eX6_isUp_1, eX6_isUp_4, eX6_isUp_6, eX6_isUp_7, eX6_isUp_8, eX6_isUp_9, eX6_isUp_10, eX6_isUp_13, eX6_isUp_14, eX6_isUp_17, eX6_isUp_18, Option.toList_some, Option.toList_none, List.cons_append, List.nil_append, is01_0, is01_1, true_and, la4, la12, la20, la28, la36, cl8_4 hj, cl8_12 hj, cl8_20 hj, cl8_28 hj, cl8_36 hj, ib8_4 hj, ib8_12 hj, ib8_20 hj, ib8_28 hj, ib8_36 hj]
  unfold b01
  by_cases q : h 145 (12 + j) < 2 <;> simp [q]
theorem r_mheightOf {j : Nat} (hj : j < 8) : EV X mX6_heightOf 0 0 0 [.ref 140, .int (nI j), .null] [] (Gb sw) h Q = Q (some (.int (if h 145 (12 + j) = 2 then h 145 0 else if h 145 (12 + j) = 3 then h 145 (20 + j) else 0))) (Gb sw) h := by
  simp only [eX6_heightOf_0, eX6_heightOf_1, eX6_heightOf_4, eX6_heightOf_6, eX6_heightOf_7, eX6_heightOf_8, eX6_heightOf_9, eX6_heightOf_10, eX6_heightOf_11, eX6_heightOf_12, eX6_heightOf_15, eX6_heightOf_16, eX6_heightOf_19, eX6_heightOf_20, eX6_heightOf_21, eX6_heightOf_24, eX6_heightOf_25, eX6_heightOf_26, eX6_heightOf_29, eX6_heightOf_30, eX6_heightOf_33, eX6_heightOf_35, eX6_heightOf_36, eX6_heightOf_37, eX6_heightOf_38, eX6_heightOf_41, eX6_heightOf_42, Option.toList_some, Option.toList_none, List.cons_append, List.nil_append, is01_0, is01_1, true_and, la4, la12, la20, la28, la36, cl8_4 hj, cl8_12 hj, cl8_20 hj, cl8_28 hj, cl8_36 hj, ib8_4 hj, ib8_12 hj, ib8_20 hj, ib8_28 hj, ib8_36 hj, tc0, ib0]
  by_cases q : h 145 (12 + j) = 2 <;> by_cases q2 : h 145 (12 + j) = 3 <;> simp [q, q2]
theorem r_isGoer (x : Int32) (hG : 0 ≤ (h 140 5).toInt) : EV X mX6_isGoer 0 0 0 [.ref 140, .int x] [] g h Q = Q (some (.int (b01 (0 ≤ x ∧ x < h 140 5)))) g h := by
  have e0 : (0 : Int64) = (0 : Int32).toInt64 := rfl
  simp only [eX6_isGoer_0, eX6_isGoer_1, eX6_isGoer_2, eX6_isGoer_3, eX6_isGoer_4, eX6_isGoer_7, eX6_isGoer_8, eX6_isGoer_9, eX6_isGoer_10, eX6_isGoer_13, Option.toList_some, Option.toList_none, List.cons_append, List.nil_append, is01_0, is01_1, true_and, e0, r_inI]
  simp only [eX6_isGoer_13, Option.toList_some, Option.toList_none, List.cons_append, List.nil_append, is01_0, is01_1, true_and, b01_is]
  have e1 : (x ≤ h 140 5 - 1) = (x < h 140 5) := by
    apply propext
    rw [fa_le, fa_lt, fb_subI (by show _ ≤ _ - (1 : Int); omega) (by show _ - (1 : Int) < _; have := fb_rng (h 140 5); omega)]
    show _ ≤ _ - (1 : Int) ↔ _
    omega
  simp only [e1]
end LEAF
