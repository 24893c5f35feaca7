/-! letters: blanks, numbers, the close of a clause -/
section LX
variable (t : Nat → Int32) (n : Nat)
def skB (a : Nat) : Nat := (xfind (fun k => !decide (t k = 32)) a (n - a)).getD n
def isD (k : Nat) : Bool := decide (48 ≤ t k) && decide (t k ≤ 57)
def fgB (a : Nat) : Nat := (xfind (fun k => !isD t k) a (n - a)).getD n
def dgN (k : Nat) : Nat := (t k).toNatClampNeg - 48
def vlN (b : Nat) : Nat → Nat
  | 0 => 0
  | m + 1 => vlN b m * 10 + dgN t (b + m)
def nmE (a : Nat) : Nat := fgB t n (skB t n a)
def nmV (a : Nat) : Nat := vlN t (skB t n a) (if nmE t n a - skB t n a < 3 then nmE t n a - skB t n a else 3)
def nmF (L M a : Nat) : Nat := if nmE t n a = skB t n a then 1 else if 3 < nmE t n a - skB t n a ∨ nmV t n a < L ∨ M < nmV t n a then 2 else 0
def clF (a : Nat) : Nat := if skB t n a < n ∧ t (skB t n a) = 59 then 0 else 1
end LX
section LX2
variable {t : Nat → Int32} {n : Nat}
theorem skB_n {a : Nat} (h : n ≤ a) : skB t n a = n := by
  unfold skB
  rw [show n - a = 0 by omega]
  rfl
theorem skB_y {a : Nat} (h : a < n) (q : t a = 32) : skB t n a = skB t n (a + 1) := by
  unfold skB
  rw [show n - a = n - (a + 1) + 1 by omega]
  show (if (!decide (t a = 32)) = true then some a else xfind _ (a + 1) (n - (a + 1))).getD n = _
  rw [if_neg (by simp [q])]
theorem skB_x {a : Nat} (h : a < n) (q : ¬ t a = 32) : skB t n a = a := by
  unfold skB
  rw [show n - a = n - (a + 1) + 1 by omega]
  show (if (!decide (t a = 32)) = true then some a else xfind _ (a + 1) (n - (a + 1))).getD n = _
  rw [if_pos (by simp [q])]
  rfl
theorem skB_b {a : Nat} (h : a ≤ n) : a ≤ skB t n a ∧ skB t n a ≤ n ∧ (skB t n a < n → ¬ t (skB t n a) = 32) := by
  unfold skB
  cases hf : xfind (fun k => !decide (t k = 32)) a (n - a) with
  | none =>
    show a ≤ n ∧ n ≤ n ∧ (n < n → _)
    exact ⟨h, Nat.le_refl _, fun z => by omega⟩
  | some k =>
    obtain ⟨h1, h2, h3, -⟩ := xfind_some hf
    show a ≤ k ∧ k ≤ n ∧ (k < n → ¬ t k = 32)
    refine ⟨h1, by omega, fun _ => ?_⟩
    simpa using h3
theorem fgB_b {a : Nat} (h : a ≤ n) : a ≤ fgB t n a ∧ fgB t n a ≤ n ∧ (fgB t n a < n → isD t (fgB t n a) = false) ∧ ∀ k, a ≤ k → k < fgB t n a → isD t k = true := by
  unfold fgB
  cases hf : xfind (fun k => !isD t k) a (n - a) with
  | none =>
    show a ≤ n ∧ n ≤ n ∧ (n < n → _) ∧ ∀ k, a ≤ k → k < n → _
    refine ⟨h, Nat.le_refl _, fun z => by omega, fun k k1 k2 => ?_⟩
    have := xfind_none hf k k1 (by omega)
    simpa using this
  | some k =>
    obtain ⟨h1, h2, h3, h4⟩ := xfind_some hf
    show a ≤ k ∧ k ≤ n ∧ (k < n → isD t k = false) ∧ ∀ i, a ≤ i → i < k → isD t i = true
    refine ⟨h1, by omega, fun _ => by simpa using h3, fun i i1 i2 => ?_⟩
    have := h4 i i1 i2
    simpa using this
theorem isD_iff {k : Nat} : isD t k = true ↔ 48 ≤ t k ∧ t k ≤ 57 := by
  unfold isD
  rw [Bool.and_eq_true, decide_eq_true_eq, decide_eq_true_eq]
theorem isD_c {k : Nat} (h : isD t k = true) : ∃ d : Nat, d ≤ 9 ∧ t k = nI (48 + d) ∧ dgN t k = d := by
  obtain ⟨h1, h2⟩ := isD_iff.mp h
  obtain ⟨c, c1, c2⟩ := nI_of2 (x := t k) (M := 57) (n := 57) rfl (by rw [Int32.not_lt]; exact Int32.le_trans (by decide) h1) h2
  have c3 : 48 ≤ c := by
    rw [c2] at h1
    exact (nI_leI (a := 48) (by omega) (by omega)).mp h1
  refine ⟨c - 48, by omega, by rw [c2, show 48 + (c - 48) = c by omega], ?_⟩
  unfold dgN
  rw [c2, cl_nI (by omega)]
theorem vlN_b {b e : Nat} (hd : ∀ k, b ≤ k → k < e → isD t k = true) : ∀ m, b + m ≤ e → m ≤ 3 → vlN t b m < 10 ^ m
  | 0, _, _ => by show 0 < 1; omega
  | m + 1, h, h3 => by
    have ih := vlN_b hd m (by omega) (by omega)
    obtain ⟨d, d1, d2, d3⟩ := isD_c (hd (b + m) (by omega) (by omega))
    show vlN t b m * 10 + dgN t (b + m) < _
    rw [d3, Nat.pow_succ]
    omega
theorem vlN_999 {b e m : Nat} (hd : ∀ k, b ≤ k → k < e → isD t k = true) (h : b + m ≤ e) (h3 : m ≤ 3) : vlN t b m ≤ 999 := by
  have := vlN_b hd m h h3
  have : (10 : Nat) ^ m ≤ 10 ^ 3 := Nat.pow_le_pow_right (by omega) h3
  omega
theorem xu_xu {α : Type} (h : Nat → Nat → α) (a k : Nat) (x y : α) : xu (xu h a k x) a k y = xu h a k y := by
  funext b j
  rw [xu_r, xu_r, xu_r]
  by_cases q : b = a ∧ j = k
  · rw [if_pos q, if_pos q]
  · rw [if_neg q, if_neg q, if_neg q]
theorem xu_id {α : Type} (h : Nat → Nat → α) (a k : Nat) {x : α} (e : h a k = x) : xu h a k x = h := by
  funext b j
  rw [xu_r]
  by_cases q : b = a ∧ j = k
  · rw [if_pos q, q.1, q.2, e]
  · rw [if_neg q]
def TC (h : xH) (t : Nat → Int32) (n : Nat) : Prop := h 1 1 = nI n ∧ ∀ k, k < n → h 2 k = t k
def TM (h : xH) (t : Nat → Int32) (n : Nat) : Prop := h 140 12 = nI n ∧ ∀ k, k < n → h 146 k = t k
variable {X : (Nat → Int32) × Nat} {sw : Bool}
theorem c_skip (hn : n ≤ 240) : ∀ (r a : Nat) (h : xH) (Q : Option Value → xG → xH → Prop), a + r = n → TC h t n → h 1 2 = nI a → EV X mX4_skipBlanks 0 0 0 [.ref 1] [] (Gb sw) h Q = Q none (Gb sw) (xu h 1 2 (nI (skB t n a))) := by
  intro r
  induction r with
  | zero =>
    intro a h Q ha hT h2
    have ha : a = n := ha
    subst ha
    rw [skB_n (Nat.le_refl _), xu_id h 1 2 h2, eX4_skipBlanks_0]
    simp only [eX4_skipBlanks_1, eX4_skipBlanks_4, eX4_skipBlanks_5, eX4_skipBlanks_8, eX4_skipBlanks_11, eX4_skipBlanks_12, eX4_skipBlanks_15, eX4_skipBlanks_16, eX4_skipBlanks_19, eX4_skipBlanks_20, eX4_skipBlanks_22, eX4_skipBlanks_25, eX4_skipBlanks_26, eX4_skipBlanks_27, eX4_skipBlanks_30, eX4_skipBlanks_31, eX4_skipBlanks_32, eX4_skipBlanks_35, eX4_skipBlanks_38, Option.toList_some, Option.toList_none, List.cons_append, List.nil_append, is01_0, is01_1, true_and, hT.1, h2]
    rw [if_pos (Int32.le_refl _)]
  | succ r ih =>
    intro a h Q ha hT h2
    have hcl : (nI a).toNatClampNeg = a := cl_nI (by omega)
    have hin : inb (nI a) 240 = True := by rw [inb_nIe (by omega)]; apply eq_true; omega
    have q0 : ¬ nI n ≤ nI a := nI_ge (by omega) (by omega)
    rw [eX4_skipBlanks_0]
    by_cases q : t a = 32
    · rw [skB_y (by omega) q]
      have := ih (a + 1) (xu h 1 2 (nI (a + 1))) Q (by omega) ⟨by simp only [xun, xus, xps, xpn, ne_eq, not_false_eq_true, Nat.reduceEqDiff, not_false_iff]; exact hT.1, fun k hk => by simp only [xun, xus, xps, xpn, ne_eq, not_false_eq_true, Nat.reduceEqDiff, not_false_iff]; exact hT.2 k hk⟩ (by simp only [xun, xus, xps, xpn, ne_eq, not_false_eq_true, Nat.reduceEqDiff, not_false_iff])
      rw [xu_xu] at this
      rw [← this]
      simp only [eX4_skipBlanks_1, eX4_skipBlanks_4, eX4_skipBlanks_5, eX4_skipBlanks_8, eX4_skipBlanks_11, eX4_skipBlanks_12, eX4_skipBlanks_15, eX4_skipBlanks_16, eX4_skipBlanks_19, eX4_skipBlanks_20, eX4_skipBlanks_22, eX4_skipBlanks_25, eX4_skipBlanks_26, eX4_skipBlanks_27, eX4_skipBlanks_30, eX4_skipBlanks_31, eX4_skipBlanks_32, eX4_skipBlanks_35, eX4_skipBlanks_38, Option.toList_some, Option.toList_none, List.cons_append, List.nil_append, is01_0, is01_1, true_and, hT.1, h2, hcl, hin, hT.2 a (by omega), q, q0, if_true, if_false, not_true, nI_1]
    · rw [skB_x (by omega) q, xu_id h 1 2 h2]
      simp only [eX4_skipBlanks_1, eX4_skipBlanks_4, eX4_skipBlanks_5, eX4_skipBlanks_8, eX4_skipBlanks_11, eX4_skipBlanks_12, eX4_skipBlanks_15, eX4_skipBlanks_16, eX4_skipBlanks_19, eX4_skipBlanks_20, eX4_skipBlanks_22, eX4_skipBlanks_25, eX4_skipBlanks_26, eX4_skipBlanks_27, eX4_skipBlanks_30, eX4_skipBlanks_31, eX4_skipBlanks_32, eX4_skipBlanks_35, eX4_skipBlanks_38, Option.toList_some, Option.toList_none, List.cons_append, List.nil_append, is01_0, is01_1, true_and, hT.1, h2, hcl, hin, hT.2 a (by omega), q, q0, if_true, if_false, not_false_iff]
theorem m_here (hn : n ≤ 240) : ∀ (r a : Nat) (h : xH) (Q : Option Value → xG → xH → Prop), a + r = n → TM h t n → h 140 14 = nI a → EV X mX6_here 0 0 0 [.ref 140] [] (Gb sw) h Q = Q (some (.int (if skB t n a < n then t (skB t n a) else -1))) (Gb sw) (xu h 140 14 (nI (skB t n a))) := by
  intro r
  induction r with
  | zero =>
    intro a h Q ha hT h2
    have ha : a = n := ha
    subst ha
    rw [skB_n (Nat.le_refl _), xu_id h 140 14 h2, eX6_here_0]
    simp only [eX6_here_1, eX6_here_4, eX6_here_5, eX6_here_8, eX6_here_11, eX6_here_12, eX6_here_15, eX6_here_16, eX6_here_19, eX6_here_20, eX6_here_22, eX6_here_25, eX6_here_26, eX6_here_27, eX6_here_30, eX6_here_31, eX6_here_32, eX6_here_35, eX6_here_38, eX6_here_39, eX6_here_42, eX6_here_43, eX6_here_46, eX6_here_49, eX6_here_50, eX6_here_53, eX6_here_54, eX6_here_57, eX6_here_58, eX6_here_61, eX6_here_62, Option.toList_some, Option.toList_none, List.cons_append, List.nil_append, is01_0, is01_1, true_and, hT.1, h2, Int32.le_refl, if_true, Nat.lt_irrefl, if_false]
  | succ r ih =>
    intro a h Q ha hT h2
    have hcl : (nI a).toNatClampNeg = a := cl_nI (by omega)
    have hin : inb (nI a) 240 = True := by rw [inb_nIe (by omega)]; apply eq_true; omega
    have q0 : ¬ nI n ≤ nI a := nI_ge (by omega) (by omega)
    rw [eX6_here_0]
    by_cases q : t a = 32
    · rw [skB_y (by omega) q]
      have := ih (a + 1) (xu h 140 14 (nI (a + 1))) Q (by omega) ⟨by simp only [xun, xus, xps, xpn, ne_eq, not_false_eq_true, Nat.reduceEqDiff, not_false_iff]; exact hT.1, fun k hk => by simp only [xun, xus, xps, xpn, ne_eq, not_false_eq_true, Nat.reduceEqDiff, not_false_iff]; exact hT.2 k hk⟩ (by simp only [xun, xus, xps, xpn, ne_eq, not_false_eq_true, Nat.reduceEqDiff, not_false_iff])
      rw [xu_xu] at this
      rw [← this]
      simp only [eX6_here_1, eX6_here_4, eX6_here_5, eX6_here_8, eX6_here_11, eX6_here_12, eX6_here_15, eX6_here_16, eX6_here_19, eX6_here_20, eX6_here_22, eX6_here_25, eX6_here_26, eX6_here_27, eX6_here_30, eX6_here_31, eX6_here_32, eX6_here_35, eX6_here_38, eX6_here_39, eX6_here_42, eX6_here_43, eX6_here_46, eX6_here_49, eX6_here_50, eX6_here_53, eX6_here_54, eX6_here_57, eX6_here_58, eX6_here_61, eX6_here_62, Option.toList_some, Option.toList_none, List.cons_append, List.nil_append, is01_0, is01_1, true_and, hT.1, h2, hcl, hin, hT.2 a (by omega), q, q0, if_true, if_false, not_true, nI_1]
    · rw [skB_x (by omega) q, xu_id h 140 14 h2, if_pos (show a < n by omega)]
      simp only [eX6_here_1, eX6_here_4, eX6_here_5, eX6_here_8, eX6_here_11, eX6_here_12, eX6_here_15, eX6_here_16, eX6_here_19, eX6_here_20, eX6_here_22, eX6_here_25, eX6_here_26, eX6_here_27, eX6_here_30, eX6_here_31, eX6_here_32, eX6_here_35, eX6_here_38, eX6_here_39, eX6_here_42, eX6_here_43, eX6_here_46, eX6_here_49, eX6_here_50, eX6_here_53, eX6_here_54, eX6_here_57, eX6_here_58, eX6_here_61, eX6_here_62, Option.toList_some, Option.toList_none, List.cons_append, List.nil_append, is01_0, is01_1, true_and, hT.1, h2, hcl, hin, hT.2 a (by omega), q, q0, if_true, if_false, not_false_iff]
theorem c_blame {h : xH} {Q : Option Value → xG → xH → Prop} (h4 : h 1 4 = 0) (x y : Int32) : EV X mX4_blame 0 0 0 [.ref 1, .int x, .int y] [] (Gb sw) h Q = Q none (Gb sw) (xu (xu h 1 4 x) 1 5 y) := by
  simp only [eX4_blame_0, eX4_blame_1, eX4_blame_4, eX4_blame_7, eX4_blame_8, eX4_blame_9, eX4_blame_12, eX4_blame_13, eX4_blame_14, eX4_blame_17, Option.toList_some, Option.toList_none, List.cons_append, List.nil_append, is01_0, is01_1, true_and, h4, if_true, not_true, if_false]
theorem c_blame2 {h : xH} {Q : Option Value → xG → xH → Prop} (h4 : ¬ h 1 4 = 0) (x y : Int32) : EV X mX4_blame 0 0 0 [.ref 1, .int x, .int y] [] (Gb sw) h Q = Q none (Gb sw) h := by
  simp only [eX4_blame_0, eX4_blame_1, eX4_blame_4, eX4_blame_7, eX4_blame_8, eX4_blame_9, eX4_blame_12, eX4_blame_13, eX4_blame_14, eX4_blame_17, Option.toList_some, Option.toList_none, List.cons_append, List.nil_append, is01_0, is01_1, true_and, h4, if_false, not_false_iff, if_true]
theorem c_isFig {h : xH} {Q : Option Value → xG → xH → Prop} (x : Int32) : EV X mX4_isFigure 0 0 0 [.int x] [] (Gb sw) h Q = Q (some (.int (b01 (48 ≤ x ∧ x ≤ 57)))) (Gb sw) h := by
  simp only [eX4_isFigure_0, eX4_isFigure_1, eX4_isFigure_3, eX4_isFigure_6, eX4_isFigure_7, eX4_isFigure_9, eX4_isFigure_12, eX4_isFigure_13, eX4_isFigure_16, eX4_isFigure_17, Option.toList_some, Option.toList_none, List.cons_append, List.nil_append, is01_0, is01_1, true_and]
  unfold b01
  by_cases h1 : x < 48
  · have h2 : ¬ (48 ≤ x ∧ x ≤ 57) := fun z => by have := z.1; rw [← Int32.not_lt] at this; exact this h1
    rw [if_pos h1, if_neg h2]
  · by_cases h3 : 57 < x
    · have h2 : ¬ (48 ≤ x ∧ x ≤ 57) := fun z => by have := z.2; rw [← Int32.not_lt] at this; exact this h3
      rw [if_neg h1, if_pos h3, if_neg h2]
    · have h2 : 48 ≤ x ∧ x ≤ 57 := ⟨by rw [← Int32.not_lt]; exact h1, by rw [← Int32.not_lt]; exact h3⟩
      rw [if_neg h1, if_neg h3, if_pos h2]
theorem c_num (X : (Nat → Int32) × Nat) (sw : Bool) (hn : n ≤ 240) {h : xH} {a : Nat} (ha : a ≤ n) (hT : TC h t n) (h2 : h 1 2 = nI a) (h4 : h 1 4 = 0) (L M : Nat) (hL : L < 1000) (hM : M < 1000) : ∃ h' : xH, (∀ c, ¬ c = 1 → h' c = h c) ∧ h' 1 1 = h 1 1 ∧ h' 1 2 = nI (nmE t n a) ∧ h' 1 3 = nI (skB t n a) ∧ h' 1 4 = nI (nmF t n L M a) ∧ h' 1 5 = (if nmF t n L M a = 0 then h 1 5 else nI (skB t n a)) ∧ ∀ Q : Option Value → xG → xH → Prop, EV X mX4_readNumber 0 0 0 [.ref 1, .int (nI L), .int (nI M), .null, .null] [] (Gb sw) h Q = Q (some (.int (nI (nmV t n a)))) (Gb sw) h' := by
  obtain ⟨b1, b2, b3⟩ := skB_b (t := t) ha
  obtain ⟨e1, e2, e3, e4⟩ := fgB_b (t := t) b2
  have hE : nmE t n a = fgB t n (skB t n a) := rfl
  rw [← hE] at e1 e2 e3 e4
  have hV : nmV t n a = vlN t (skB t n a) (if nmE t n a - skB t n a < 3 then nmE t n a - skB t n a else 3) := rfl
  have hF : nmF t n L M a = if nmE t n a = skB t n a then 1 else if 3 < nmE t n a - skB t n a ∨ nmV t n a < L ∨ M < nmV t n a then 2 else 0 := rfl
  have hV9 : nmV t n a ≤ 999 := by
    rw [hV]
    exact vlN_999 e4 (by split <;> omega) (by split <;> omega)
  have sk := fun Q => c_skip (X := X) (sw := sw) hn (n - a) a h Q (by omega) hT h2
  generalize skB t n a = b at *
  generalize nmE t n a = e at *
  generalize nmV t n a = V at *
  generalize nmF t n L M a = F at *
  have loop : ∀ (r m : Nat) (h1 : xH), b + m + r = e → (∀ c, ¬ c = 1 → h1 c = h c) → h1 1 1 = h 1 1 → h1 1 2 = nI (b + m) → h1 1 3 = nI b → h1 1 4 = 0 → h1 1 5 = h 1 5 → ∃ h' : xH, (∀ c, ¬ c = 1 → h' c = h c) ∧ h' 1 1 = h 1 1 ∧ h' 1 2 = nI e ∧ h' 1 3 = nI b ∧ h' 1 4 = 0 ∧ h' 1 5 = h 1 5 ∧ ∀ Q : Option Value → xG → xH → Prop, EV X mX4_readNumber 0 0 26 [.ref 1, .int (nI L), .int (nI M), .int (nI m), .int (nI (vlN t b (if m < 3 then m else 3)))] [] (Gb sw) h1 Q = EV X mX4_readNumber 0 0 26 [.ref 1, .int (nI L), .int (nI M), .int (nI (e - b)), .int (nI V)] [] (Gb sw) h' Q := by
    intro r
    induction r with
    | zero =>
      intro m h1 hm f1 f2 f3 f4 f5 f6
      have hm : m = e - b := by omega
      subst hm
      refine ⟨h1, f1, f2, by rw [f3, show b + (e - b) = e by omega], f4, f5, f6, fun Q => ?_⟩
      rw [hV]
    | succ r ih =>
      intro m h1 hm f1 f2 f3 f4 f5 f6
      have hlt : b + m < n := by omega
      have hcl : (nI (b + m)).toNatClampNeg = b + m := cl_nI (by omega)
      have hin : inb (nI (b + m)) 240 = True := by rw [inb_nIe (by omega)]; apply eq_true; omega
      have q0 : ¬ nI n ≤ nI (b + m) := nI_ge (by omega) (by omega)
      have hd := e4 (b + m) (by omega) (by omega)
      obtain ⟨d, d1, d2, d3⟩ := isD_c hd
      obtain ⟨w1, w2⟩ := isD_iff.mp hd
      have w1' : ¬ t (b + m) < 48 := by rw [Int32.not_lt]; exact w1
      have w2' : ¬ 57 < t (b + m) := by rw [Int32.not_lt]; exact w2
      have ht : h1 2 (b + m) = t (b + m) := by rw [f1 2 (by omega)]; exact hT.2 _ hlt
      obtain ⟨h', g1, g2, g3, g4, g5, g6, g7⟩ := ih (m + 1) (xu h1 1 2 (nI (b + m + 1))) (by omega) (fun c hc => by rw [xun _ _ _ _ _ hc, f1 c hc]) (by simp only [xun, xus, xps, xpn, ne_eq, not_false_eq_true, Nat.reduceEqDiff, not_false_iff]; exact f2) (by simp only [xun, xus, xps, xpn, ne_eq, not_false_eq_true, Nat.reduceEqDiff, not_false_iff]; rfl) (by simp only [xun, xus, xps, xpn, ne_eq, not_false_eq_true, Nat.reduceEqDiff, not_false_iff]; exact f4) (by simp only [xun, xus, xps, xpn, ne_eq, not_false_eq_true, Nat.reduceEqDiff, not_false_iff]; exact f5) (by simp only [xun, xus, xps, xpn, ne_eq, not_false_eq_true, Nat.reduceEqDiff, not_false_iff]; exact f6)
      refine ⟨h', g1, g2, g3, g4, g5, g6, fun Q => ?_⟩
      rw [← g7 Q]
      conv => lhs; rw [eX4_readNumber_26]
      have hh1 : h1 1 1 = nI n := f2.trans hT.1
      by_cases q3 : m < 3
      · have l3 : ¬ (3 : Int32) ≤ nI m := nI_ge (b := 3) (by omega) (by omega)
        have l3' : nI m < (3 : Int32) := nI_lt (b := 3) (by omega) (by omega)
        have hv : nI (vlN t b m) * 10 + t (b + m) - 48 = nI (vlN t b (m + 1)) := by
          have v1 : vlN t b (m + 1) = vlN t b m * 10 + d := by show _ + dgN t (b + m) = _; rw [d3]
          rw [d2, v1]
          have p1 := pk_mul (vlN t b m) 10
          have p2 := nI_add (vlN t b m * 10) (48 + d)
          have p3 := pk_sub (a := vlN t b m * 10 + (48 + d)) (b := 48) (by omega)
          rw [show vlN t b m * 10 + (48 + d) - 48 = vlN t b m * 10 + d by omega] at p3
          rw [← p3, ← p2, ← p1]
          rfl
        have i1 : (if m < 3 then m else 3) = m := if_pos q3
        have i2 : (if m + 1 < 3 then m + 1 else 3) = m + 1 := by split <;> omega
        rw [i1, i2]
        simp only [eX4_readNumber_0, eX4_readNumber_1, eX4_readNumber_4, eX4_readNumber_7, eX4_readNumber_8, eX4_readNumber_9, eX4_readNumber_10, eX4_readNumber_13, eX4_readNumber_14, eX4_readNumber_15, eX4_readNumber_18, eX4_readNumber_21, eX4_readNumber_22, eX4_readNumber_23, eX4_readNumber_24, eX4_readNumber_27, eX4_readNumber_30, eX4_readNumber_31, eX4_readNumber_34, eX4_readNumber_37, eX4_readNumber_38, eX4_readNumber_41, eX4_readNumber_42, eX4_readNumber_45, eX4_readNumber_46, eX4_readNumber_49, eX4_readNumber_52, eX4_readNumber_53, eX4_readNumber_54, eX4_readNumber_57, eX4_readNumber_59, eX4_readNumber_61, eX4_readNumber_62, eX4_readNumber_63, eX4_readNumber_66, eX4_readNumber_67, eX4_readNumber_70, eX4_readNumber_71, eX4_readNumber_72, eX4_readNumber_74, eX4_readNumber_75, eX4_readNumber_77, eX4_readNumber_80, eX4_readNumber_81, eX4_readNumber_82, eX4_readNumber_85, eX4_readNumber_86, eX4_readNumber_87, eX4_readNumber_90, eX4_readNumber_93, eX4_readNumber_94, eX4_readNumber_97, eX4_readNumber_98, eX4_readNumber_99, eX4_readNumber_100, eX4_readNumber_103, eX4_readNumber_106, eX4_readNumber_109, eX4_readNumber_110, eX4_readNumber_111, eX4_readNumber_114, eX4_readNumber_116, eX4_readNumber_117, eX4_readNumber_118, eX4_readNumber_121, eX4_readNumber_124, eX4_readNumber_125, eX4_readNumber_126, eX4_readNumber_127, eX4_readNumber_130, eX4_readNumber_133, eX4_readNumber_135, eX4_isFigure_0, eX4_isFigure_1, eX4_isFigure_3, eX4_isFigure_6, eX4_isFigure_7, eX4_isFigure_9, eX4_isFigure_12, eX4_isFigure_13, eX4_isFigure_16, eX4_isFigure_17, Option.toList_some, Option.toList_none, List.cons_append, List.nil_append, is01_0, is01_1, true_and, hh1, f3, hcl, hin, ht, q0, if_false, w1', w2', l3, l3', if_true, hv, nI_1, not_true, not_false_iff]
        simp
      · have l3 : (3 : Int32) ≤ nI m := nI_le (a := 3) (by omega) (by omega)
        have l3' : ¬ nI m < (3 : Int32) := by rw [Int32.not_lt]; exact l3
        have i1 : (if m < 3 then m else 3) = 3 := if_neg q3
        have i2 : (if m + 1 < 3 then m + 1 else 3) = 3 := if_neg (by omega)
        rw [i1, i2]
        simp only [eX4_readNumber_0, eX4_readNumber_1, eX4_readNumber_4, eX4_readNumber_7, eX4_readNumber_8, eX4_readNumber_9, eX4_readNumber_10, eX4_readNumber_13, eX4_readNumber_14, eX4_readNumber_15, eX4_readNumber_18, eX4_readNumber_21, eX4_readNumber_22, eX4_readNumber_23, eX4_readNumber_24, eX4_readNumber_27, eX4_readNumber_30, eX4_readNumber_31, eX4_readNumber_34, eX4_readNumber_37, eX4_readNumber_38, eX4_readNumber_41, eX4_readNumber_42, eX4_readNumber_45, eX4_readNumber_46, eX4_readNumber_49, eX4_readNumber_52, eX4_readNumber_53, eX4_readNumber_54, eX4_readNumber_57, eX4_readNumber_59, eX4_readNumber_61, eX4_readNumber_62, eX4_readNumber_63, eX4_readNumber_66, eX4_readNumber_67, eX4_readNumber_70, eX4_readNumber_71, eX4_readNumber_72, eX4_readNumber_74, eX4_readNumber_75, eX4_readNumber_77, eX4_readNumber_80, eX4_readNumber_81, eX4_readNumber_82, eX4_readNumber_85, eX4_readNumber_86, eX4_readNumber_87, eX4_readNumber_90, eX4_readNumber_93, eX4_readNumber_94, eX4_readNumber_97, eX4_readNumber_98, eX4_readNumber_99, eX4_readNumber_100, eX4_readNumber_103, eX4_readNumber_106, eX4_readNumber_109, eX4_readNumber_110, eX4_readNumber_111, eX4_readNumber_114, eX4_readNumber_116, eX4_readNumber_117, eX4_readNumber_118, eX4_readNumber_121, eX4_readNumber_124, eX4_readNumber_125, eX4_readNumber_126, eX4_readNumber_127, eX4_readNumber_130, eX4_readNumber_133, eX4_readNumber_135, eX4_isFigure_0, eX4_isFigure_1, eX4_isFigure_3, eX4_isFigure_6, eX4_isFigure_7, eX4_isFigure_9, eX4_isFigure_12, eX4_isFigure_13, eX4_isFigure_16, eX4_isFigure_17, Option.toList_some, Option.toList_none, List.cons_append, List.nil_append, is01_0, is01_1, true_and, hh1, f3, hcl, hin, ht, q0, if_false, w1', w2', l3, l3', if_true, nI_1, not_true, not_false_iff]
        simp
  obtain ⟨h', g1, g2, g3, g4, g5, g6, g7⟩ := loop (e - b) 0 (xu (xu h 1 2 (nI b)) 1 3 (nI b)) (by omega) (fun c hc => by rw [xun _ _ _ _ _ hc, xun _ _ _ _ _ hc]) (by simp only [xun, xus, xps, xpn, ne_eq, not_false_eq_true, Nat.reduceEqDiff, not_false_iff]) (by simp only [xun, xus, xps, xpn, ne_eq, not_false_eq_true, Nat.reduceEqDiff, not_false_iff]; rfl) (by simp only [xun, xus, xps, xpn, ne_eq, not_false_eq_true, Nat.reduceEqDiff, not_false_iff]) (by simp only [xun, xus, xps, xpn, ne_eq, not_false_eq_true, Nat.reduceEqDiff, not_false_iff]; exact h4) (by simp only [xun, xus, xps, xpn, ne_eq, not_false_eq_true, Nat.reduceEqDiff, not_false_iff])
  have start : ∀ Q : Option Value → xG → xH → Prop, EV X mX4_readNumber 0 0 0 [.ref 1, .int (nI L), .int (nI M), .null, .null] [] (Gb sw) h Q = EV X mX4_readNumber 0 0 26 [.ref 1, .int (nI L), .int (nI M), .int (nI (e - b)), .int (nI V)] [] (Gb sw) h' Q := fun Q => by
    rw [← g7 Q]
    simp only [eX4_readNumber_0, eX4_readNumber_1, eX4_readNumber_4, eX4_readNumber_7, eX4_readNumber_8, eX4_readNumber_9, eX4_readNumber_10, eX4_readNumber_13, eX4_readNumber_14, eX4_readNumber_15, eX4_readNumber_18, eX4_readNumber_21, eX4_readNumber_22, eX4_readNumber_23, eX4_readNumber_24, eX4_readNumber_27, eX4_readNumber_30, eX4_readNumber_31, eX4_readNumber_34, eX4_readNumber_37, eX4_readNumber_38, eX4_readNumber_41, eX4_readNumber_42, eX4_readNumber_45, eX4_readNumber_46, eX4_readNumber_49, eX4_readNumber_52, eX4_readNumber_53, eX4_readNumber_54, eX4_readNumber_57, eX4_readNumber_59, eX4_readNumber_61, eX4_readNumber_62, eX4_readNumber_63, eX4_readNumber_66, eX4_readNumber_67, eX4_readNumber_70, eX4_readNumber_71, eX4_readNumber_72, eX4_readNumber_74, eX4_readNumber_75, eX4_readNumber_77, eX4_readNumber_80, eX4_readNumber_81, eX4_readNumber_82, eX4_readNumber_85, eX4_readNumber_86, eX4_readNumber_87, eX4_readNumber_90, eX4_readNumber_93, eX4_readNumber_94, eX4_readNumber_97, eX4_readNumber_98, eX4_readNumber_99, eX4_readNumber_100, eX4_readNumber_103, eX4_readNumber_106, eX4_readNumber_109, eX4_readNumber_110, eX4_readNumber_111, eX4_readNumber_114, eX4_readNumber_116, eX4_readNumber_117, eX4_readNumber_118, eX4_readNumber_121, eX4_readNumber_124, eX4_readNumber_125, eX4_readNumber_126, eX4_readNumber_127, eX4_readNumber_130, eX4_readNumber_133, eX4_readNumber_135, Option.toList_some, Option.toList_none, List.cons_append, List.nil_append, is01_0, is01_1, true_and, h4, sk, if_true, not_true, if_false, xun, xus, xps, xpn, ne_eq, not_false_eq_true, Nat.reduceEqDiff, not_false_iff]
    rfl
  have hh1 : h' 1 1 = nI n := g2.trans hT.1
  have stop : ∀ (x3 x4 : Int32) (Q : Option Value → xG → xH → Prop), EV X mX4_readNumber 0 0 26 [.ref 1, .int (nI L), .int (nI M), .int x3, .int x4] [] (Gb sw) h' Q = EV X mX4_readNumber 0 0 93 [.ref 1, .int (nI L), .int (nI M), .int x3, .int x4] [] (Gb sw) h' Q := fun x3 x4 Q => by
    rw [eX4_readNumber_26]
    by_cases q : e = n
    · have q0 : nI n ≤ nI e := by rw [q]; exact Int32.le_refl _
      simp only [eX4_readNumber_0, eX4_readNumber_1, eX4_readNumber_4, eX4_readNumber_7, eX4_readNumber_8, eX4_readNumber_9, eX4_readNumber_10, eX4_readNumber_13, eX4_readNumber_14, eX4_readNumber_15, eX4_readNumber_18, eX4_readNumber_21, eX4_readNumber_22, eX4_readNumber_23, eX4_readNumber_24, eX4_readNumber_27, eX4_readNumber_30, eX4_readNumber_31, eX4_readNumber_34, eX4_readNumber_37, eX4_readNumber_38, eX4_readNumber_41, eX4_readNumber_42, eX4_readNumber_45, eX4_readNumber_46, eX4_readNumber_49, eX4_readNumber_52, eX4_readNumber_53, eX4_readNumber_54, eX4_readNumber_57, eX4_readNumber_59, eX4_readNumber_61, eX4_readNumber_62, eX4_readNumber_63, eX4_readNumber_66, eX4_readNumber_67, eX4_readNumber_70, eX4_readNumber_71, eX4_readNumber_72, eX4_readNumber_74, eX4_readNumber_75, eX4_readNumber_77, eX4_readNumber_80, eX4_readNumber_81, eX4_readNumber_82, eX4_readNumber_85, eX4_readNumber_86, eX4_readNumber_87, eX4_readNumber_90, eX4_readNumber_94, eX4_readNumber_97, eX4_readNumber_98, eX4_readNumber_99, eX4_readNumber_100, eX4_readNumber_103, eX4_readNumber_106, eX4_readNumber_109, eX4_readNumber_110, eX4_readNumber_111, eX4_readNumber_114, eX4_readNumber_116, eX4_readNumber_117, eX4_readNumber_118, eX4_readNumber_121, eX4_readNumber_124, eX4_readNumber_125, eX4_readNumber_126, eX4_readNumber_127, eX4_readNumber_130, eX4_readNumber_133, eX4_readNumber_135, Option.toList_some, Option.toList_none, List.cons_append, List.nil_append, is01_0, is01_1, true_and, hh1, g3, q0, if_true]
    · have q0 : ¬ nI n ≤ nI e := nI_ge (by omega) (by omega)
      have hcl : (nI e).toNatClampNeg = e := cl_nI (by omega)
      have hin : inb (nI e) 240 = True := by rw [inb_nIe (by omega)]; apply eq_true; omega
      have ht : h' 2 e = t e := by rw [g1 2 (by omega)]; exact hT.2 _ (by omega)
      have hd : ¬ (48 ≤ t e ∧ t e ≤ 57) := fun z => by
        have := e3 (by omega)
        rw [isD_iff.mpr z] at this
        cases this
      simp only [eX4_readNumber_0, eX4_readNumber_1, eX4_readNumber_4, eX4_readNumber_7, eX4_readNumber_8, eX4_readNumber_9, eX4_readNumber_10, eX4_readNumber_13, eX4_readNumber_14, eX4_readNumber_15, eX4_readNumber_18, eX4_readNumber_21, eX4_readNumber_22, eX4_readNumber_23, eX4_readNumber_24, eX4_readNumber_27, eX4_readNumber_30, eX4_readNumber_31, eX4_readNumber_34, eX4_readNumber_37, eX4_readNumber_38, eX4_readNumber_41, eX4_readNumber_42, eX4_readNumber_45, eX4_readNumber_46, eX4_readNumber_49, eX4_readNumber_52, eX4_readNumber_53, eX4_readNumber_54, eX4_readNumber_57, eX4_readNumber_59, eX4_readNumber_61, eX4_readNumber_62, eX4_readNumber_63, eX4_readNumber_66, eX4_readNumber_67, eX4_readNumber_70, eX4_readNumber_71, eX4_readNumber_72, eX4_readNumber_74, eX4_readNumber_75, eX4_readNumber_77, eX4_readNumber_80, eX4_readNumber_81, eX4_readNumber_82, eX4_readNumber_85, eX4_readNumber_86, eX4_readNumber_87, eX4_readNumber_90, eX4_readNumber_94, eX4_readNumber_97, eX4_readNumber_98, eX4_readNumber_99, eX4_readNumber_100, eX4_readNumber_103, eX4_readNumber_106, eX4_readNumber_109, eX4_readNumber_110, eX4_readNumber_111, eX4_readNumber_114, eX4_readNumber_116, eX4_readNumber_117, eX4_readNumber_118, eX4_readNumber_121, eX4_readNumber_124, eX4_readNumber_125, eX4_readNumber_126, eX4_readNumber_127, eX4_readNumber_130, eX4_readNumber_133, eX4_readNumber_135, Option.toList_some, Option.toList_none, List.cons_append, List.nil_append, is01_0, is01_1, true_and, hh1, g3, q0, if_false, hcl, hin, ht, c_isFig, b01_0, hd, not_false_iff, if_true]
  have z0 : (nI (e - b) = 0) = (e = b) := by
    rw [show (0 : Int32) = nI 0 from rfl, eq_nI (by omega) (by omega)]
    apply propext
    omega
  have z3 : (3 < nI (e - b)) = (3 < e - b) := lt_nI (a := 3) (by omega) (by omega)
  have zv : (nI L ≤ nI V ∧ nI V ≤ nI M) = (L ≤ V ∧ V ≤ M) := by rw [le_nI (by omega) (by omega), le_nI (by omega) (by omega)]
  by_cases c1 : e = b
  · have hF1 : F = 1 := by rw [hF, if_pos c1]
    subst hF1
    refine ⟨xu (xu h' 1 4 (nI 1)) 1 5 (nI b), fun c hc => by rw [xun _ _ _ _ _ hc, xun _ _ _ _ _ hc, g1 c hc], by simp only [xun, xus, xps, xpn, ne_eq, not_false_eq_true, Nat.reduceEqDiff, not_false_iff]; exact g2, by simp only [xun, xus, xps, xpn, ne_eq, not_false_eq_true, Nat.reduceEqDiff, not_false_iff]; exact g3, by simp only [xun, xus, xps, xpn, ne_eq, not_false_eq_true, Nat.reduceEqDiff, not_false_iff]; exact g4, by simp only [xun, xus, xps, xpn, ne_eq, not_false_eq_true, Nat.reduceEqDiff, not_false_iff], by simp only [xun, xus, xps, xpn, ne_eq, not_false_eq_true, Nat.reduceEqDiff, not_false_iff]; rfl, fun Q => ?_⟩
    rw [start Q, stop]
    have z0' : (nI (e - b) = 0) = True := by rw [z0]; exact eq_true c1
    simp only [eX4_readNumber_0, eX4_readNumber_1, eX4_readNumber_4, eX4_readNumber_7, eX4_readNumber_8, eX4_readNumber_9, eX4_readNumber_10, eX4_readNumber_13, eX4_readNumber_14, eX4_readNumber_15, eX4_readNumber_18, eX4_readNumber_21, eX4_readNumber_22, eX4_readNumber_23, eX4_readNumber_24, eX4_readNumber_27, eX4_readNumber_30, eX4_readNumber_31, eX4_readNumber_34, eX4_readNumber_37, eX4_readNumber_38, eX4_readNumber_41, eX4_readNumber_42, eX4_readNumber_45, eX4_readNumber_46, eX4_readNumber_49, eX4_readNumber_52, eX4_readNumber_53, eX4_readNumber_54, eX4_readNumber_57, eX4_readNumber_59, eX4_readNumber_61, eX4_readNumber_62, eX4_readNumber_63, eX4_readNumber_66, eX4_readNumber_67, eX4_readNumber_70, eX4_readNumber_71, eX4_readNumber_72, eX4_readNumber_74, eX4_readNumber_75, eX4_readNumber_77, eX4_readNumber_80, eX4_readNumber_81, eX4_readNumber_82, eX4_readNumber_85, eX4_readNumber_86, eX4_readNumber_87, eX4_readNumber_90, eX4_readNumber_93, eX4_readNumber_94, eX4_readNumber_97, eX4_readNumber_98, eX4_readNumber_99, eX4_readNumber_100, eX4_readNumber_103, eX4_readNumber_106, eX4_readNumber_109, eX4_readNumber_110, eX4_readNumber_111, eX4_readNumber_114, eX4_readNumber_116, eX4_readNumber_117, eX4_readNumber_118, eX4_readNumber_121, eX4_readNumber_124, eX4_readNumber_125, eX4_readNumber_126, eX4_readNumber_127, eX4_readNumber_130, eX4_readNumber_133, eX4_readNumber_135, Option.toList_some, Option.toList_none, List.cons_append, List.nil_append, is01_0, is01_1, true_and, z0', if_true, not_true, if_false, c_blame g5, g3]
    rw [c1]
    rfl
  · by_cases c2 : 3 < e - b ∨ V < L ∨ M < V
    · have hF1 : F = 2 := by rw [hF, if_neg c1, if_pos c2]
      subst hF1
      refine ⟨xu (xu h' 1 4 (nI 2)) 1 5 (nI b), fun c hc => by rw [xun _ _ _ _ _ hc, xun _ _ _ _ _ hc, g1 c hc], by simp only [xun, xus, xps, xpn, ne_eq, not_false_eq_true, Nat.reduceEqDiff, not_false_iff]; exact g2, by simp only [xun, xus, xps, xpn, ne_eq, not_false_eq_true, Nat.reduceEqDiff, not_false_iff]; exact g3, by simp only [xun, xus, xps, xpn, ne_eq, not_false_eq_true, Nat.reduceEqDiff, not_false_iff]; exact g4, by simp only [xun, xus, xps, xpn, ne_eq, not_false_eq_true, Nat.reduceEqDiff, not_false_iff], by simp only [xun, xus, xps, xpn, ne_eq, not_false_eq_true, Nat.reduceEqDiff, not_false_iff]; rfl, fun Q => ?_⟩
      rw [start Q, stop]
      by_cases c3 : 3 < e - b
      · simp only [eX4_readNumber_0, eX4_readNumber_1, eX4_readNumber_4, eX4_readNumber_7, eX4_readNumber_8, eX4_readNumber_9, eX4_readNumber_10, eX4_readNumber_13, eX4_readNumber_14, eX4_readNumber_15, eX4_readNumber_18, eX4_readNumber_21, eX4_readNumber_22, eX4_readNumber_23, eX4_readNumber_24, eX4_readNumber_27, eX4_readNumber_30, eX4_readNumber_31, eX4_readNumber_34, eX4_readNumber_37, eX4_readNumber_38, eX4_readNumber_41, eX4_readNumber_42, eX4_readNumber_45, eX4_readNumber_46, eX4_readNumber_49, eX4_readNumber_52, eX4_readNumber_53, eX4_readNumber_54, eX4_readNumber_57, eX4_readNumber_59, eX4_readNumber_61, eX4_readNumber_62, eX4_readNumber_63, eX4_readNumber_66, eX4_readNumber_67, eX4_readNumber_70, eX4_readNumber_71, eX4_readNumber_72, eX4_readNumber_74, eX4_readNumber_75, eX4_readNumber_77, eX4_readNumber_80, eX4_readNumber_81, eX4_readNumber_82, eX4_readNumber_85, eX4_readNumber_86, eX4_readNumber_87, eX4_readNumber_90, eX4_readNumber_93, eX4_readNumber_94, eX4_readNumber_97, eX4_readNumber_98, eX4_readNumber_99, eX4_readNumber_100, eX4_readNumber_103, eX4_readNumber_106, eX4_readNumber_109, eX4_readNumber_110, eX4_readNumber_111, eX4_readNumber_114, eX4_readNumber_116, eX4_readNumber_117, eX4_readNumber_118, eX4_readNumber_121, eX4_readNumber_124, eX4_readNumber_125, eX4_readNumber_126, eX4_readNumber_127, eX4_readNumber_130, eX4_readNumber_133, eX4_readNumber_135, Option.toList_some, Option.toList_none, List.cons_append, List.nil_append, is01_0, is01_1, true_and, z0, c1, z3, c3, if_true, not_false_iff, if_false, c_blame g5, g4]
        rfl
      · have c4 : ¬ (L ≤ V ∧ V ≤ M) := by omega
        simp only [eX4_readNumber_0, eX4_readNumber_1, eX4_readNumber_4, eX4_readNumber_7, eX4_readNumber_8, eX4_readNumber_9, eX4_readNumber_10, eX4_readNumber_13, eX4_readNumber_14, eX4_readNumber_15, eX4_readNumber_18, eX4_readNumber_21, eX4_readNumber_22, eX4_readNumber_23, eX4_readNumber_24, eX4_readNumber_27, eX4_readNumber_30, eX4_readNumber_31, eX4_readNumber_34, eX4_readNumber_37, eX4_readNumber_38, eX4_readNumber_41, eX4_readNumber_42, eX4_readNumber_45, eX4_readNumber_46, eX4_readNumber_49, eX4_readNumber_52, eX4_readNumber_53, eX4_readNumber_54, eX4_readNumber_57, eX4_readNumber_59, eX4_readNumber_61, eX4_readNumber_62, eX4_readNumber_63, eX4_readNumber_66, eX4_readNumber_67, eX4_readNumber_70, eX4_readNumber_71, eX4_readNumber_72, eX4_readNumber_74, eX4_readNumber_75, eX4_readNumber_77, eX4_readNumber_80, eX4_readNumber_81, eX4_readNumber_82, eX4_readNumber_85, eX4_readNumber_86, eX4_readNumber_87, eX4_readNumber_90, eX4_readNumber_93, eX4_readNumber_94, eX4_readNumber_97, eX4_readNumber_98, eX4_readNumber_99, eX4_readNumber_100, eX4_readNumber_103, eX4_readNumber_106, eX4_readNumber_109, eX4_readNumber_110, eX4_readNumber_111, eX4_readNumber_114, eX4_readNumber_116, eX4_readNumber_117, eX4_readNumber_118, eX4_readNumber_121, eX4_readNumber_124, eX4_readNumber_125, eX4_readNumber_126, eX4_readNumber_127, eX4_readNumber_130, eX4_readNumber_133, eX4_readNumber_135, Option.toList_some, Option.toList_none, List.cons_append, List.nil_append, is01_0, is01_1, true_and, z0, c1, z3, c3, if_true, not_false_iff, if_false, r_isOutside, b01_0, out_in, zv, c4, c_blame g5, g4]
        rfl
    · have hF1 : F = 0 := by rw [hF, if_neg c1, if_neg c2]
      subst hF1
      have c3 : ¬ 3 < e - b := by omega
      have c4 : L ≤ V ∧ V ≤ M := by omega
      refine ⟨h', g1, g2, g3, g4, g5, by rw [if_pos rfl]; exact g6, fun Q => ?_⟩
      rw [start Q, stop]
      simp only [eX4_readNumber_0, eX4_readNumber_1, eX4_readNumber_4, eX4_readNumber_7, eX4_readNumber_8, eX4_readNumber_9, eX4_readNumber_10, eX4_readNumber_13, eX4_readNumber_14, eX4_readNumber_15, eX4_readNumber_18, eX4_readNumber_21, eX4_readNumber_22, eX4_readNumber_23, eX4_readNumber_24, eX4_readNumber_27, eX4_readNumber_30, eX4_readNumber_31, eX4_readNumber_34, eX4_readNumber_37, eX4_readNumber_38, eX4_readNumber_41, eX4_readNumber_42, eX4_readNumber_45, eX4_readNumber_46, eX4_readNumber_49, eX4_readNumber_52, eX4_readNumber_53, eX4_readNumber_54, eX4_readNumber_57, eX4_readNumber_59, eX4_readNumber_61, eX4_readNumber_62, eX4_readNumber_63, eX4_readNumber_66, eX4_readNumber_67, eX4_readNumber_70, eX4_readNumber_71, eX4_readNumber_72, eX4_readNumber_74, eX4_readNumber_75, eX4_readNumber_77, eX4_readNumber_80, eX4_readNumber_81, eX4_readNumber_82, eX4_readNumber_85, eX4_readNumber_86, eX4_readNumber_87, eX4_readNumber_90, eX4_readNumber_93, eX4_readNumber_94, eX4_readNumber_97, eX4_readNumber_98, eX4_readNumber_99, eX4_readNumber_100, eX4_readNumber_103, eX4_readNumber_106, eX4_readNumber_109, eX4_readNumber_110, eX4_readNumber_111, eX4_readNumber_114, eX4_readNumber_116, eX4_readNumber_117, eX4_readNumber_118, eX4_readNumber_121, eX4_readNumber_124, eX4_readNumber_125, eX4_readNumber_126, eX4_readNumber_127, eX4_readNumber_130, eX4_readNumber_133, eX4_readNumber_135, Option.toList_some, Option.toList_none, List.cons_append, List.nil_append, is01_0, is01_1, true_and, z0, c1, z3, c3, if_true, not_false_iff, if_false, r_isOutside, b01_0, out_in, zv, c4, and_self]
theorem c_num2 {h : xH} {Q : Option Value → xG → xH → Prop} (h4 : ¬ h 1 4 = 0) (x y : Int32) : EV X mX4_readNumber 0 0 0 [.ref 1, .int x, .int y, .null, .null] [] (Gb sw) h Q = Q (some (.int 0)) (Gb sw) h := by
  simp only [eX4_readNumber_0, eX4_readNumber_1, eX4_readNumber_4, eX4_readNumber_7, eX4_readNumber_8, eX4_readNumber_9, eX4_readNumber_10, eX4_readNumber_13, eX4_readNumber_14, eX4_readNumber_15, eX4_readNumber_18, eX4_readNumber_21, eX4_readNumber_22, eX4_readNumber_23, eX4_readNumber_24, eX4_readNumber_27, eX4_readNumber_30, eX4_readNumber_31, eX4_readNumber_34, eX4_readNumber_37, eX4_readNumber_38, eX4_readNumber_41, eX4_readNumber_42, eX4_readNumber_45, eX4_readNumber_46, eX4_readNumber_49, eX4_readNumber_52, eX4_readNumber_53, eX4_readNumber_54, eX4_readNumber_57, eX4_readNumber_59, eX4_readNumber_61, eX4_readNumber_62, eX4_readNumber_63, eX4_readNumber_66, eX4_readNumber_67, eX4_readNumber_70, eX4_readNumber_71, eX4_readNumber_72, eX4_readNumber_74, eX4_readNumber_75, eX4_readNumber_77, eX4_readNumber_80, eX4_readNumber_81, eX4_readNumber_82, eX4_readNumber_85, eX4_readNumber_86, eX4_readNumber_87, eX4_readNumber_90, eX4_readNumber_93, eX4_readNumber_94, eX4_readNumber_97, eX4_readNumber_98, eX4_readNumber_99, eX4_readNumber_100, eX4_readNumber_103, eX4_readNumber_106, eX4_readNumber_109, eX4_readNumber_110, eX4_readNumber_111, eX4_readNumber_114, eX4_readNumber_116, eX4_readNumber_117, eX4_readNumber_118, eX4_readNumber_121, eX4_readNumber_124, eX4_readNumber_125, eX4_readNumber_126, eX4_readNumber_127, eX4_readNumber_130, eX4_readNumber_133, eX4_readNumber_135, Option.toList_some, Option.toList_none, List.cons_append, List.nil_append, is01_0, is01_1, true_and, h4, if_false, not_false_iff, if_true]
theorem m_num (X : (Nat → Int32) × Nat) (sw : Bool) (hn : n ≤ 240) {h : xH} {a : Nat} (ha : a ≤ n) (hT : TM h t n) (h2 : h 140 14 = nI a) (L M : Nat) (hL : L < 1000) (hM : M < 1000) : ∃ h' : xH, (∀ c, ¬ c = 140 → h' c = h c) ∧ (∀ k, ¬ (13 ≤ k ∧ k ≤ 16) → h' 140 k = h 140 k) ∧ (nmF t n L M a = 0 → h' 140 14 = nI (nmE t n a) ∧ h' 140 15 = nI (nmV t n a) ∧ h' 140 16 = nI (skB t n a)) ∧ h' 140 13 = (if nmF t n L M a = 0 then h 140 13 else nI (skB t n a)) ∧ ∀ Q : Option Value → xG → xH → Prop, EV X mX6_takeNumber 0 0 0 [.ref 140, .int (nI L), .int (nI M), .null] [] (Gb sw) h Q = Q (some (.int (nI (nmF t n L M a)))) (Gb sw) h' := by
  obtain ⟨b1, b2, b3⟩ := skB_b (t := t) ha
  obtain ⟨e1, e2, e3, e4⟩ := fgB_b (t := t) b2
  have hE : nmE t n a = fgB t n (skB t n a) := rfl
  rw [← hE] at e1 e2 e3 e4
  have hV : nmV t n a = vlN t (skB t n a) (if nmE t n a - skB t n a < 3 then nmE t n a - skB t n a else 3) := rfl
  have hF : nmF t n L M a = if nmE t n a = skB t n a then 1 else if 3 < nmE t n a - skB t n a ∨ nmV t n a < L ∨ M < nmV t n a then 2 else 0 := rfl
  have hV9 : nmV t n a ≤ 999 := by
    rw [hV]
    exact vlN_999 e4 (by split <;> omega) (by split <;> omega)
  have sk := fun Q => m_here (X := X) (sw := sw) hn (n - a) a h Q (by omega) hT h2
  generalize skB t n a = b at *
  generalize nmE t n a = e at *
  generalize nmV t n a = V at *
  generalize nmF t n L M a = F at *
  by_cases c1 : e = b
  · have hF1 : F = 1 := by rw [hF, if_pos c1]
    subst hF1
    have hd : ¬ ((48 : Int32) ≤ (if b < n then t b else -1) ∧ (if b < n then t b else -1) ≤ (57 : Int32)) := by
      by_cases q : b < n
      · rw [if_pos q]
        intro z
        have := e3 (by omega)
        rw [c1, isD_iff.mpr z] at this
        cases this
      · rw [if_neg q]; decide
    refine ⟨xu (xu h 140 14 (nI b)) 140 13 (nI b), fun c hc => by rw [xun _ _ _ _ _ hc, xun _ _ _ _ _ hc], fun k hk => by rw [xus, xpn _ _ _ _ (by omega), xus, xpn _ _ _ _ (by omega)], fun q => absurd q (by omega), by simp only [xun, xus, xps, xpn, ne_eq, not_false_eq_true, Nat.reduceEqDiff, not_false_iff]; rfl, fun Q => ?_⟩
    simp only [eX6_takeNumber_0, eX6_takeNumber_1, eX6_takeNumber_4, eX6_takeNumber_5, eX6_takeNumber_6, eX6_takeNumber_7, eX6_takeNumber_10, eX6_takeNumber_13, eX6_takeNumber_16, eX6_takeNumber_19, eX6_takeNumber_20, eX6_takeNumber_21, eX6_takeNumber_22, eX6_takeNumber_25, eX6_takeNumber_28, eX6_takeNumber_29, eX6_takeNumber_30, eX6_takeNumber_31, eX6_takeNumber_34, eX6_takeNumber_37, eX6_takeNumber_38, eX6_takeNumber_39, eX6_takeNumber_43, eX6_takeNumber_46, eX6_takeNumber_47, eX6_takeNumber_50, eX6_takeNumber_53, eX6_takeNumber_54, eX6_takeNumber_57, eX6_takeNumber_58, eX6_takeNumber_61, eX6_takeNumber_62, eX6_takeNumber_63, eX6_takeNumber_66, eX6_takeNumber_69, eX6_takeNumber_72, eX6_takeNumber_75, eX6_takeNumber_76, eX6_takeNumber_77, eX6_takeNumber_80, eX6_takeNumber_83, eX6_takeNumber_86, eX6_takeNumber_87, eX6_takeNumber_90, eX6_takeNumber_93, eX6_takeNumber_95, eX6_takeNumber_96, eX6_takeNumber_99, eX6_takeNumber_100, eX6_takeNumber_101, eX6_takeNumber_104, eX6_takeNumber_105, eX6_takeNumber_108, eX6_takeNumber_109, eX6_takeNumber_110, eX6_takeNumber_112, eX6_takeNumber_113, eX6_takeNumber_116, eX6_takeNumber_117, eX6_takeNumber_118, eX6_takeNumber_121, eX6_takeNumber_122, eX6_takeNumber_123, eX6_takeNumber_126, eX6_takeNumber_129, eX6_takeNumber_130, eX6_takeNumber_133, eX6_takeNumber_134, eX6_takeNumber_137, eX6_takeNumber_138, eX6_takeNumber_139, eX6_takeNumber_142, eX6_takeNumber_143, eX6_takeNumber_146, eX6_takeNumber_147, eX6_takeNumber_148, eX6_takeNumber_149, eX6_takeNumber_150, eX6_takeNumber_151, eX6_takeNumber_154, eX6_takeNumber_157, eX6_takeNumber_158, eX6_takeNumber_159, eX6_takeNumber_160, eX6_takeNumber_163, eX6_takeNumber_166, eX6_takeNumber_169, eX6_takeNumber_170, eX6_fails_0, eX6_fails_1, eX6_fails_2, eX6_fails_5, eX6_fails_6, Option.toList_some, Option.toList_none, List.cons_append, List.nil_append, is01_0, is01_1, true_and, sk, r_in, b01_0, wl_0, wr_0, wl_1, wr_1, wl_2, wr_2, wl_3, wr_3, wl_20, wr_20, wl_48, wr_48, wl_57, wr_57, wl_60, wr_60, wl_100, wr_100, wl_255, wr_255, wl_500, wr_500, wl_900, wr_900, wl_999, wr_999, wl_12345, wr_12345, wl_999999, wr_999999, wl_99999999, wr_99999999, wl_1000000000, wr_1000000000, wl_1103515245, wr_1103515245, hd, not_false_iff, if_true, not_true, if_false, xun, xus, xps, xpn, ne_eq, not_false_eq_true, Nat.reduceEqDiff, not_false_iff]
    rfl
  · have hbn : b < n := by omega
    have hdb := isD_iff.mp (e4 b (by omega) (by omega))
    have loop : ∀ (r m : Nat) (h1 : xH), b + m + r = e → (∀ c, ¬ c = 140 → h1 c = h c) → (∀ k, ¬ (13 ≤ k ∧ k ≤ 16) → h1 140 k = h 140 k) → h1 140 13 = h 140 13 → h1 140 14 = nI (b + m) → (m ≤ 3 → h1 140 15 = nI (vlN t b m)) → h1 140 16 = nI b → ∃ h' : xH, (∀ c, ¬ c = 140 → h' c = h c) ∧ (∀ k, ¬ (13 ≤ k ∧ k ≤ 16) → h' 140 k = h 140 k) ∧ h' 140 13 = h 140 13 ∧ h' 140 14 = nI e ∧ (e - b ≤ 3 → h' 140 15 = nI V) ∧ h' 140 16 = nI b ∧ ∀ (z : Int32) (Q : Option Value → xG → xH → Prop), EV X mX6_takeNumber 0 0 42 [.ref 140, .int (nI L), .int (nI M), .int z] [] (Gb sw) h1 Q = EV X mX6_takeNumber 0 0 42 [.ref 140, .int (nI L), .int (nI M), .int z] [] (Gb sw) h' Q := by
      intro r
      induction r with
      | zero =>
        intro m h1 hm f1 f2 f3 f4 f5 f6
        have hm : m = e - b := by omega
        subst hm
        refine ⟨h1, f1, f2, f3, by rw [f4, show b + (e - b) = e by omega], fun q => ?_, f6, fun z Q => rfl⟩
        rw [f5 q, hV]
        congr 2
        split <;> omega
      | succ r ih =>
        intro m h1 hm f1 f2 f3 f4 f5 f6
        have hlt : b + m < n := by omega
        have hcl : (nI (b + m)).toNatClampNeg = b + m := cl_nI (by omega)
        have hin : inb (nI (b + m)) 240 = True := by rw [inb_nIe (by omega)]; apply eq_true; omega
        have q0 : ¬ nI n ≤ nI (b + m) := nI_ge (by omega) (by omega)
        have hd := e4 (b + m) (by omega) (by omega)
        obtain ⟨d, d1, d2, d3⟩ := isD_c hd
        have w12 := isD_iff.mp hd
        have ht : h1 146 (b + m) = t (b + m) := by rw [f1 146 (by omega)]; exact hT.2 _ hlt
        have hh1 : h1 140 12 = nI n := (f2 12 (by omega)).trans hT.1
        by_cases q4 : h1 140 15 ≤ 10000
        · obtain ⟨h', g1, g2, g3, g4, g5, g6, g7⟩ := ih (m + 1) (xu (xu h1 140 15 (10 * h1 140 15 + t (b + m) - 48)) 140 14 (nI (b + m + 1))) (by omega) (fun c hc => by rw [xun _ _ _ _ _ hc, xun _ _ _ _ _ hc, f1 c hc]) (fun k hk => by rw [xus, xpn _ _ _ _ (by omega), xus, xpn _ _ _ _ (by omega), f2 k hk]) (by simp only [xun, xus, xps, xpn, ne_eq, not_false_eq_true, Nat.reduceEqDiff, not_false_iff]; exact f3) (by simp only [xun, xus, xps, xpn, ne_eq, not_false_eq_true, Nat.reduceEqDiff, not_false_iff]; rfl) (fun q => by
            simp only [xun, xus, xps, xpn, ne_eq, not_false_eq_true, Nat.reduceEqDiff, not_false_iff]
            rw [f5 (by omega), d2]
            have v1 : vlN t b (m + 1) = vlN t b m * 10 + d := by show _ + dgN t (b + m) = _; rw [d3]
            rw [v1]
            have p1 := pk_mul 10 (vlN t b m)
            have p2 := nI_add (10 * vlN t b m) (48 + d)
            have p3 := pk_sub (a := 10 * vlN t b m + (48 + d)) (b := 48) (by omega)
            rw [show 10 * vlN t b m + (48 + d) - 48 = vlN t b m * 10 + d by omega] at p3
            rw [← p3, ← p2, ← p1]
            rfl) (by simp only [xun, xus, xps, xpn, ne_eq, not_false_eq_true, Nat.reduceEqDiff, not_false_iff]; exact f6)
          refine ⟨h', g1, g2, g3, g4, g5, g6, fun z Q => ?_⟩
          rw [← g7 z Q]
          conv => lhs; rw [eX6_takeNumber_42]
          simp only [eX6_takeNumber_0, eX6_takeNumber_1, eX6_takeNumber_4, eX6_takeNumber_5, eX6_takeNumber_6, eX6_takeNumber_7, eX6_takeNumber_10, eX6_takeNumber_13, eX6_takeNumber_16, eX6_takeNumber_19, eX6_takeNumber_20, eX6_takeNumber_21, eX6_takeNumber_22, eX6_takeNumber_25, eX6_takeNumber_28, eX6_takeNumber_29, eX6_takeNumber_30, eX6_takeNumber_31, eX6_takeNumber_34, eX6_takeNumber_37, eX6_takeNumber_38, eX6_takeNumber_39, eX6_takeNumber_43, eX6_takeNumber_46, eX6_takeNumber_47, eX6_takeNumber_50, eX6_takeNumber_53, eX6_takeNumber_54, eX6_takeNumber_57, eX6_takeNumber_58, eX6_takeNumber_61, eX6_takeNumber_62, eX6_takeNumber_63, eX6_takeNumber_66, eX6_takeNumber_69, eX6_takeNumber_72, eX6_takeNumber_75, eX6_takeNumber_76, eX6_takeNumber_77, eX6_takeNumber_80, eX6_takeNumber_83, eX6_takeNumber_86, eX6_takeNumber_87, eX6_takeNumber_90, eX6_takeNumber_93, eX6_takeNumber_95, eX6_takeNumber_96, eX6_takeNumber_99, eX6_takeNumber_100, eX6_takeNumber_101, eX6_takeNumber_104, eX6_takeNumber_105, eX6_takeNumber_108, eX6_takeNumber_109, eX6_takeNumber_110, eX6_takeNumber_112, eX6_takeNumber_113, eX6_takeNumber_116, eX6_takeNumber_117, eX6_takeNumber_118, eX6_takeNumber_121, eX6_takeNumber_122, eX6_takeNumber_123, eX6_takeNumber_126, eX6_takeNumber_129, eX6_takeNumber_130, eX6_takeNumber_133, eX6_takeNumber_134, eX6_takeNumber_137, eX6_takeNumber_138, eX6_takeNumber_139, eX6_takeNumber_142, eX6_takeNumber_143, eX6_takeNumber_146, eX6_takeNumber_147, eX6_takeNumber_148, eX6_takeNumber_149, eX6_takeNumber_150, eX6_takeNumber_151, eX6_takeNumber_154, eX6_takeNumber_157, eX6_takeNumber_158, eX6_takeNumber_159, eX6_takeNumber_160, eX6_takeNumber_163, eX6_takeNumber_166, eX6_takeNumber_169, eX6_takeNumber_170, Option.toList_some, Option.toList_none, List.cons_append, List.nil_append, is01_0, is01_1, true_and, hh1, f4, hcl, hin, ht, q0, if_false, r_in, b01_0, wl_0, wr_0, wl_1, wr_1, wl_2, wr_2, wl_3, wr_3, wl_20, wr_20, wl_48, wr_48, wl_57, wr_57, wl_60, wr_60, wl_100, wr_100, wl_255, wr_255, wl_500, wr_500, wl_900, wr_900, wl_999, wr_999, wl_12345, wr_12345, wl_999999, wr_999999, wl_99999999, wr_99999999, wl_1000000000, wr_1000000000, wl_1103515245, wr_1103515245, w12, and_self, not_true, q4, if_true, nI_1, xun, xus, xps, xpn, ne_eq, not_false_eq_true, Nat.reduceEqDiff, not_false_iff]
        · have hm3 : ¬ m ≤ 3 := fun q => q4 (by
            rw [f5 q]
            have := vlN_999 e4 (by omega) q
            exact nI_le (b := 10000) (by omega) (by omega))
          obtain ⟨h', g1, g2, g3, g4, g5, g6, g7⟩ := ih (m + 1) (xu h1 140 14 (nI (b + m + 1))) (by omega) (fun c hc => by rw [xun _ _ _ _ _ hc, f1 c hc]) (fun k hk => by rw [xus, xpn _ _ _ _ (by omega), f2 k hk]) (by simp only [xun, xus, xps, xpn, ne_eq, not_false_eq_true, Nat.reduceEqDiff, not_false_iff]; exact f3) (by simp only [xun, xus, xps, xpn, ne_eq, not_false_eq_true, Nat.reduceEqDiff, not_false_iff]; rfl) (fun q => by omega) (by simp only [xun, xus, xps, xpn, ne_eq, not_false_eq_true, Nat.reduceEqDiff, not_false_iff]; exact f6)
          refine ⟨h', g1, g2, g3, g4, g5, g6, fun z Q => ?_⟩
          rw [← g7 z Q]
          conv => lhs; rw [eX6_takeNumber_42]
          simp only [eX6_takeNumber_0, eX6_takeNumber_1, eX6_takeNumber_4, eX6_takeNumber_5, eX6_takeNumber_6, eX6_takeNumber_7, eX6_takeNumber_10, eX6_takeNumber_13, eX6_takeNumber_16, eX6_takeNumber_19, eX6_takeNumber_20, eX6_takeNumber_21, eX6_takeNumber_22, eX6_takeNumber_25, eX6_takeNumber_28, eX6_takeNumber_29, eX6_takeNumber_30, eX6_takeNumber_31, eX6_takeNumber_34, eX6_takeNumber_37, eX6_takeNumber_38, eX6_takeNumber_39, eX6_takeNumber_43, eX6_takeNumber_46, eX6_takeNumber_47, eX6_takeNumber_50, eX6_takeNumber_53, eX6_takeNumber_54, eX6_takeNumber_57, eX6_takeNumber_58, eX6_takeNumber_61, eX6_takeNumber_62, eX6_takeNumber_63, eX6_takeNumber_66, eX6_takeNumber_69, eX6_takeNumber_72, eX6_takeNumber_75, eX6_takeNumber_76, eX6_takeNumber_77, eX6_takeNumber_80, eX6_takeNumber_83, eX6_takeNumber_86, eX6_takeNumber_87, eX6_takeNumber_90, eX6_takeNumber_93, eX6_takeNumber_95, eX6_takeNumber_96, eX6_takeNumber_99, eX6_takeNumber_100, eX6_takeNumber_101, eX6_takeNumber_104, eX6_takeNumber_105, eX6_takeNumber_108, eX6_takeNumber_109, eX6_takeNumber_110, eX6_takeNumber_112, eX6_takeNumber_113, eX6_takeNumber_116, eX6_takeNumber_117, eX6_takeNumber_118, eX6_takeNumber_121, eX6_takeNumber_122, eX6_takeNumber_123, eX6_takeNumber_126, eX6_takeNumber_129, eX6_takeNumber_130, eX6_takeNumber_133, eX6_takeNumber_134, eX6_takeNumber_137, eX6_takeNumber_138, eX6_takeNumber_139, eX6_takeNumber_142, eX6_takeNumber_143, eX6_takeNumber_146, eX6_takeNumber_147, eX6_takeNumber_148, eX6_takeNumber_149, eX6_takeNumber_150, eX6_takeNumber_151, eX6_takeNumber_154, eX6_takeNumber_157, eX6_takeNumber_158, eX6_takeNumber_159, eX6_takeNumber_160, eX6_takeNumber_163, eX6_takeNumber_166, eX6_takeNumber_169, eX6_takeNumber_170, Option.toList_some, Option.toList_none, List.cons_append, List.nil_append, is01_0, is01_1, true_and, hh1, f4, hcl, hin, ht, q0, if_false, r_in, b01_0, wl_0, wr_0, wl_1, wr_1, wl_2, wr_2, wl_3, wr_3, wl_20, wr_20, wl_48, wr_48, wl_57, wr_57, wl_60, wr_60, wl_100, wr_100, wl_255, wr_255, wl_500, wr_500, wl_900, wr_900, wl_999, wr_999, wl_12345, wr_12345, wl_999999, wr_999999, wl_99999999, wr_99999999, wl_1000000000, wr_1000000000, wl_1103515245, wr_1103515245, w12, and_self, not_true, q4, if_true, nI_1, xun, xus, xps, xpn, ne_eq, not_false_eq_true, Nat.reduceEqDiff, not_false_iff, xu_id h1 140 15 rfl]
    obtain ⟨h', g1, g2, g3, g4, g5, g6, g7⟩ := loop (e - b) 0 (xu (xu (xu h 140 14 (nI b)) 140 16 (nI b)) 140 15 0) (by omega) (fun c hc => by rw [xun _ _ _ _ _ hc, xun _ _ _ _ _ hc, xun _ _ _ _ _ hc]) (fun k hk => by rw [xus, xpn _ _ _ _ (by omega), xus, xpn _ _ _ _ (by omega), xus, xpn _ _ _ _ (by omega)]) (by simp only [xun, xus, xps, xpn, ne_eq, not_false_eq_true, Nat.reduceEqDiff, not_false_iff]) (by simp only [xun, xus, xps, xpn, ne_eq, not_false_eq_true, Nat.reduceEqDiff, not_false_iff]; rfl) (fun _ => by simp only [xun, xus, xps, xpn, ne_eq, not_false_eq_true, Nat.reduceEqDiff, not_false_iff]; rfl) (by simp only [xun, xus, xps, xpn, ne_eq, not_false_eq_true, Nat.reduceEqDiff, not_false_iff])
    have start : ∀ Q : Option Value → xG → xH → Prop, EV X mX6_takeNumber 0 0 0 [.ref 140, .int (nI L), .int (nI M), .null] [] (Gb sw) h Q = EV X mX6_takeNumber 0 0 42 [.ref 140, .int (nI L), .int (nI M), .int (t b)] [] (Gb sw) h' Q := fun Q => by
      rw [← g7 (t b) Q]
      simp only [eX6_takeNumber_0, eX6_takeNumber_1, eX6_takeNumber_4, eX6_takeNumber_5, eX6_takeNumber_6, eX6_takeNumber_7, eX6_takeNumber_10, eX6_takeNumber_13, eX6_takeNumber_16, eX6_takeNumber_19, eX6_takeNumber_20, eX6_takeNumber_21, eX6_takeNumber_22, eX6_takeNumber_25, eX6_takeNumber_28, eX6_takeNumber_29, eX6_takeNumber_30, eX6_takeNumber_31, eX6_takeNumber_34, eX6_takeNumber_37, eX6_takeNumber_38, eX6_takeNumber_39, eX6_takeNumber_43, eX6_takeNumber_46, eX6_takeNumber_47, eX6_takeNumber_50, eX6_takeNumber_53, eX6_takeNumber_54, eX6_takeNumber_57, eX6_takeNumber_58, eX6_takeNumber_61, eX6_takeNumber_62, eX6_takeNumber_63, eX6_takeNumber_66, eX6_takeNumber_69, eX6_takeNumber_72, eX6_takeNumber_75, eX6_takeNumber_76, eX6_takeNumber_77, eX6_takeNumber_80, eX6_takeNumber_83, eX6_takeNumber_86, eX6_takeNumber_87, eX6_takeNumber_90, eX6_takeNumber_93, eX6_takeNumber_95, eX6_takeNumber_96, eX6_takeNumber_99, eX6_takeNumber_100, eX6_takeNumber_101, eX6_takeNumber_104, eX6_takeNumber_105, eX6_takeNumber_108, eX6_takeNumber_109, eX6_takeNumber_110, eX6_takeNumber_112, eX6_takeNumber_113, eX6_takeNumber_116, eX6_takeNumber_117, eX6_takeNumber_118, eX6_takeNumber_121, eX6_takeNumber_122, eX6_takeNumber_123, eX6_takeNumber_126, eX6_takeNumber_129, eX6_takeNumber_130, eX6_takeNumber_133, eX6_takeNumber_134, eX6_takeNumber_137, eX6_takeNumber_138, eX6_takeNumber_139, eX6_takeNumber_142, eX6_takeNumber_143, eX6_takeNumber_146, eX6_takeNumber_147, eX6_takeNumber_148, eX6_takeNumber_149, eX6_takeNumber_150, eX6_takeNumber_151, eX6_takeNumber_154, eX6_takeNumber_157, eX6_takeNumber_158, eX6_takeNumber_159, eX6_takeNumber_160, eX6_takeNumber_163, eX6_takeNumber_166, eX6_takeNumber_169, eX6_takeNumber_170, Option.toList_some, Option.toList_none, List.cons_append, List.nil_append, is01_0, is01_1, true_and, sk, hbn, if_true, r_in, b01_0, wl_0, wr_0, wl_1, wr_1, wl_2, wr_2, wl_3, wr_3, wl_20, wr_20, wl_48, wr_48, wl_57, wr_57, wl_60, wr_60, wl_100, wr_100, wl_255, wr_255, wl_500, wr_500, wl_900, wr_900, wl_999, wr_999, wl_12345, wr_12345, wl_999999, wr_999999, wl_99999999, wr_99999999, wl_1000000000, wr_1000000000, wl_1103515245, wr_1103515245, hdb, and_self, not_true, if_false, xun, xus, xps, xpn, ne_eq, not_false_eq_true, Nat.reduceEqDiff, not_false_iff]
    have hh1 : h' 140 12 = nI n := (g2 12 (by omega)).trans hT.1
    have stop : ∀ (z : Int32) (Q : Option Value → xG → xH → Prop), EV X mX6_takeNumber 0 0 42 [.ref 140, .int (nI L), .int (nI M), .int z] [] (Gb sw) h' Q = EV X mX6_takeNumber 0 0 129 [.ref 140, .int (nI L), .int (nI M), .int z] [] (Gb sw) h' Q := fun z Q => by
      rw [eX6_takeNumber_42]
      by_cases q : e = n
      · have q0 : nI n ≤ nI e := by rw [q]; exact Int32.le_refl _
        simp only [eX6_takeNumber_0, eX6_takeNumber_1, eX6_takeNumber_4, eX6_takeNumber_5, eX6_takeNumber_6, eX6_takeNumber_7, eX6_takeNumber_10, eX6_takeNumber_13, eX6_takeNumber_16, eX6_takeNumber_19, eX6_takeNumber_20, eX6_takeNumber_21, eX6_takeNumber_22, eX6_takeNumber_25, eX6_takeNumber_28, eX6_takeNumber_29, eX6_takeNumber_30, eX6_takeNumber_31, eX6_takeNumber_34, eX6_takeNumber_37, eX6_takeNumber_38, eX6_takeNumber_39, eX6_takeNumber_43, eX6_takeNumber_46, eX6_takeNumber_47, eX6_takeNumber_50, eX6_takeNumber_53, eX6_takeNumber_54, eX6_takeNumber_57, eX6_takeNumber_58, eX6_takeNumber_61, eX6_takeNumber_62, eX6_takeNumber_63, eX6_takeNumber_66, eX6_takeNumber_69, eX6_takeNumber_72, eX6_takeNumber_75, eX6_takeNumber_76, eX6_takeNumber_77, eX6_takeNumber_80, eX6_takeNumber_83, eX6_takeNumber_86, eX6_takeNumber_87, eX6_takeNumber_90, eX6_takeNumber_93, eX6_takeNumber_95, eX6_takeNumber_96, eX6_takeNumber_99, eX6_takeNumber_100, eX6_takeNumber_101, eX6_takeNumber_104, eX6_takeNumber_105, eX6_takeNumber_108, eX6_takeNumber_109, eX6_takeNumber_110, eX6_takeNumber_112, eX6_takeNumber_113, eX6_takeNumber_116, eX6_takeNumber_117, eX6_takeNumber_118, eX6_takeNumber_121, eX6_takeNumber_122, eX6_takeNumber_123, eX6_takeNumber_126, eX6_takeNumber_130, eX6_takeNumber_133, eX6_takeNumber_134, eX6_takeNumber_137, eX6_takeNumber_138, eX6_takeNumber_139, eX6_takeNumber_142, eX6_takeNumber_143, eX6_takeNumber_146, eX6_takeNumber_147, eX6_takeNumber_148, eX6_takeNumber_149, eX6_takeNumber_150, eX6_takeNumber_151, eX6_takeNumber_154, eX6_takeNumber_157, eX6_takeNumber_158, eX6_takeNumber_159, eX6_takeNumber_160, eX6_takeNumber_163, eX6_takeNumber_166, eX6_takeNumber_169, eX6_takeNumber_170, Option.toList_some, Option.toList_none, List.cons_append, List.nil_append, is01_0, is01_1, true_and, hh1, g4, q0, if_true]
      · have q0 : ¬ nI n ≤ nI e := nI_ge (by omega) (by omega)
        have hcl : (nI e).toNatClampNeg = e := cl_nI (by omega)
        have hin : inb (nI e) 240 = True := by rw [inb_nIe (by omega)]; apply eq_true; omega
        have ht : h' 146 e = t e := by rw [g1 146 (by omega)]; exact hT.2 _ (by omega)
        have hd : ¬ (48 ≤ t e ∧ t e ≤ 57) := fun z => by
          have := e3 (by omega)
          rw [isD_iff.mpr z] at this
          cases this
        simp only [eX6_takeNumber_0, eX6_takeNumber_1, eX6_takeNumber_4, eX6_takeNumber_5, eX6_takeNumber_6, eX6_takeNumber_7, eX6_takeNumber_10, eX6_takeNumber_13, eX6_takeNumber_16, eX6_takeNumber_19, eX6_takeNumber_20, eX6_takeNumber_21, eX6_takeNumber_22, eX6_takeNumber_25, eX6_takeNumber_28, eX6_takeNumber_29, eX6_takeNumber_30, eX6_takeNumber_31, eX6_takeNumber_34, eX6_takeNumber_37, eX6_takeNumber_38, eX6_takeNumber_39, eX6_takeNumber_43, eX6_takeNumber_46, eX6_takeNumber_47, eX6_takeNumber_50, eX6_takeNumber_53, eX6_takeNumber_54, eX6_takeNumber_57, eX6_takeNumber_58, eX6_takeNumber_61, eX6_takeNumber_62, eX6_takeNumber_63, eX6_takeNumber_66, eX6_takeNumber_69, eX6_takeNumber_72, eX6_takeNumber_75, eX6_takeNumber_76, eX6_takeNumber_77, eX6_takeNumber_80, eX6_takeNumber_83, eX6_takeNumber_86, eX6_takeNumber_87, eX6_takeNumber_90, eX6_takeNumber_93, eX6_takeNumber_95, eX6_takeNumber_96, eX6_takeNumber_99, eX6_takeNumber_100, eX6_takeNumber_101, eX6_takeNumber_104, eX6_takeNumber_105, eX6_takeNumber_108, eX6_takeNumber_109, eX6_takeNumber_110, eX6_takeNumber_112, eX6_takeNumber_113, eX6_takeNumber_116, eX6_takeNumber_117, eX6_takeNumber_118, eX6_takeNumber_121, eX6_takeNumber_122, eX6_takeNumber_123, eX6_takeNumber_126, eX6_takeNumber_130, eX6_takeNumber_133, eX6_takeNumber_134, eX6_takeNumber_137, eX6_takeNumber_138, eX6_takeNumber_139, eX6_takeNumber_142, eX6_takeNumber_143, eX6_takeNumber_146, eX6_takeNumber_147, eX6_takeNumber_148, eX6_takeNumber_149, eX6_takeNumber_150, eX6_takeNumber_151, eX6_takeNumber_154, eX6_takeNumber_157, eX6_takeNumber_158, eX6_takeNumber_159, eX6_takeNumber_160, eX6_takeNumber_163, eX6_takeNumber_166, eX6_takeNumber_169, eX6_takeNumber_170, Option.toList_some, Option.toList_none, List.cons_append, List.nil_append, is01_0, is01_1, true_and, hh1, g4, q0, if_false, hcl, hin, ht, r_in, b01_0, wl_0, wr_0, wl_1, wr_1, wl_2, wr_2, wl_3, wr_3, wl_20, wr_20, wl_48, wr_48, wl_57, wr_57, wl_60, wr_60, wl_100, wr_100, wl_255, wr_255, wl_500, wr_500, wl_900, wr_900, wl_999, wr_999, wl_12345, wr_12345, wl_999999, wr_999999, wl_99999999, wr_99999999, wl_1000000000, wr_1000000000, wl_1103515245, wr_1103515245, hd, not_false_iff, if_true]
    have zs : nI e - nI b = nI (e - b) := pk_sub (by omega)
    have z3 : (3 < nI (e - b)) = (3 < e - b) := lt_nI (a := 3) (by omega) (by omega)
    have zv : (nI L ≤ nI V ∧ nI V ≤ nI M) = (L ≤ V ∧ V ≤ M) := by rw [le_nI (by omega) (by omega), le_nI (by omega) (by omega)]
    by_cases c2 : 3 < e - b ∨ V < L ∨ M < V
    · have hF1 : F = 2 := by rw [hF, if_neg c1, if_pos c2]
      subst hF1
      refine ⟨xu h' 140 13 (nI b), fun c hc => by rw [xun _ _ _ _ _ hc, g1 c hc], fun k hk => by rw [xus, xpn _ _ _ _ (by omega), g2 k hk], fun q => absurd q (by omega), by simp only [xun, xus, xps, xpn, ne_eq, not_false_eq_true, Nat.reduceEqDiff, not_false_iff]; rfl, fun Q => ?_⟩
      rw [start Q, stop]
      by_cases c3 : 3 < e - b
      · simp only [eX6_takeNumber_0, eX6_takeNumber_1, eX6_takeNumber_4, eX6_takeNumber_5, eX6_takeNumber_6, eX6_takeNumber_7, eX6_takeNumber_10, eX6_takeNumber_13, eX6_takeNumber_16, eX6_takeNumber_19, eX6_takeNumber_20, eX6_takeNumber_21, eX6_takeNumber_22, eX6_takeNumber_25, eX6_takeNumber_28, eX6_takeNumber_29, eX6_takeNumber_30, eX6_takeNumber_31, eX6_takeNumber_34, eX6_takeNumber_37, eX6_takeNumber_38, eX6_takeNumber_39, eX6_takeNumber_43, eX6_takeNumber_46, eX6_takeNumber_47, eX6_takeNumber_50, eX6_takeNumber_53, eX6_takeNumber_54, eX6_takeNumber_57, eX6_takeNumber_58, eX6_takeNumber_61, eX6_takeNumber_62, eX6_takeNumber_63, eX6_takeNumber_66, eX6_takeNumber_69, eX6_takeNumber_72, eX6_takeNumber_75, eX6_takeNumber_76, eX6_takeNumber_77, eX6_takeNumber_80, eX6_takeNumber_83, eX6_takeNumber_86, eX6_takeNumber_87, eX6_takeNumber_90, eX6_takeNumber_93, eX6_takeNumber_95, eX6_takeNumber_96, eX6_takeNumber_99, eX6_takeNumber_100, eX6_takeNumber_101, eX6_takeNumber_104, eX6_takeNumber_105, eX6_takeNumber_108, eX6_takeNumber_109, eX6_takeNumber_110, eX6_takeNumber_112, eX6_takeNumber_113, eX6_takeNumber_116, eX6_takeNumber_117, eX6_takeNumber_118, eX6_takeNumber_121, eX6_takeNumber_122, eX6_takeNumber_123, eX6_takeNumber_126, eX6_takeNumber_129, eX6_takeNumber_130, eX6_takeNumber_133, eX6_takeNumber_134, eX6_takeNumber_137, eX6_takeNumber_138, eX6_takeNumber_139, eX6_takeNumber_142, eX6_takeNumber_143, eX6_takeNumber_146, eX6_takeNumber_147, eX6_takeNumber_148, eX6_takeNumber_149, eX6_takeNumber_150, eX6_takeNumber_151, eX6_takeNumber_154, eX6_takeNumber_157, eX6_takeNumber_158, eX6_takeNumber_159, eX6_takeNumber_160, eX6_takeNumber_163, eX6_takeNumber_166, eX6_takeNumber_169, eX6_takeNumber_170, eX6_fails_0, eX6_fails_1, eX6_fails_2, eX6_fails_5, eX6_fails_6, Option.toList_some, Option.toList_none, List.cons_append, List.nil_append, is01_0, is01_1, true_and, g4, g6, zs, z3, c3, if_true]
        rfl
      · have c4 : ¬ (L ≤ V ∧ V ≤ M) := by omega
        simp only [eX6_takeNumber_0, eX6_takeNumber_1, eX6_takeNumber_4, eX6_takeNumber_5, eX6_takeNumber_6, eX6_takeNumber_7, eX6_takeNumber_10, eX6_takeNumber_13, eX6_takeNumber_16, eX6_takeNumber_19, eX6_takeNumber_20, eX6_takeNumber_21, eX6_takeNumber_22, eX6_takeNumber_25, eX6_takeNumber_28, eX6_takeNumber_29, eX6_takeNumber_30, eX6_takeNumber_31, eX6_takeNumber_34, eX6_takeNumber_37, eX6_takeNumber_38, eX6_takeNumber_39, eX6_takeNumber_43, eX6_takeNumber_46, eX6_takeNumber_47, eX6_takeNumber_50, eX6_takeNumber_53, eX6_takeNumber_54, eX6_takeNumber_57, eX6_takeNumber_58, eX6_takeNumber_61, eX6_takeNumber_62, eX6_takeNumber_63, eX6_takeNumber_66, eX6_takeNumber_69, eX6_takeNumber_72, eX6_takeNumber_75, eX6_takeNumber_76, eX6_takeNumber_77, eX6_takeNumber_80, eX6_takeNumber_83, eX6_takeNumber_86, eX6_takeNumber_87, eX6_takeNumber_90, eX6_takeNumber_93, eX6_takeNumber_95, eX6_takeNumber_96, eX6_takeNumber_99, eX6_takeNumber_100, eX6_takeNumber_101, eX6_takeNumber_104, eX6_takeNumber_105, eX6_takeNumber_108, eX6_takeNumber_109, eX6_takeNumber_110, eX6_takeNumber_112, eX6_takeNumber_113, eX6_takeNumber_116, eX6_takeNumber_117, eX6_takeNumber_118, eX6_takeNumber_121, eX6_takeNumber_122, eX6_takeNumber_123, eX6_takeNumber_126, eX6_takeNumber_129, eX6_takeNumber_130, eX6_takeNumber_133, eX6_takeNumber_134, eX6_takeNumber_137, eX6_takeNumber_138, eX6_takeNumber_139, eX6_takeNumber_142, eX6_takeNumber_143, eX6_takeNumber_146, eX6_takeNumber_147, eX6_takeNumber_148, eX6_takeNumber_149, eX6_takeNumber_150, eX6_takeNumber_151, eX6_takeNumber_154, eX6_takeNumber_157, eX6_takeNumber_158, eX6_takeNumber_159, eX6_takeNumber_160, eX6_takeNumber_163, eX6_takeNumber_166, eX6_takeNumber_169, eX6_takeNumber_170, eX6_fails_0, eX6_fails_1, eX6_fails_2, eX6_fails_5, eX6_fails_6, Option.toList_some, Option.toList_none, List.cons_append, List.nil_append, is01_0, is01_1, true_and, g4, g6, zs, z3, c3, if_false, g5 (by omega), r_inI, b01_0, zv, c4, not_false_iff, if_true]
        rfl
    · have hF1 : F = 0 := by rw [hF, if_neg c1, if_neg c2]
      subst hF1
      have c3 : ¬ 3 < e - b := by omega
      have c4 : L ≤ V ∧ V ≤ M := by omega
      refine ⟨h', g1, g2, fun _ => ⟨g4, g5 (by omega), g6⟩, by rw [if_pos rfl]; exact g3, fun Q => ?_⟩
      rw [start Q, stop]
      simp only [eX6_takeNumber_0, eX6_takeNumber_1, eX6_takeNumber_4, eX6_takeNumber_5, eX6_takeNumber_6, eX6_takeNumber_7, eX6_takeNumber_10, eX6_takeNumber_13, eX6_takeNumber_16, eX6_takeNumber_19, eX6_takeNumber_20, eX6_takeNumber_21, eX6_takeNumber_22, eX6_takeNumber_25, eX6_takeNumber_28, eX6_takeNumber_29, eX6_takeNumber_30, eX6_takeNumber_31, eX6_takeNumber_34, eX6_takeNumber_37, eX6_takeNumber_38, eX6_takeNumber_39, eX6_takeNumber_43, eX6_takeNumber_46, eX6_takeNumber_47, eX6_takeNumber_50, eX6_takeNumber_53, eX6_takeNumber_54, eX6_takeNumber_57, eX6_takeNumber_58, eX6_takeNumber_61, eX6_takeNumber_62, eX6_takeNumber_63, eX6_takeNumber_66, eX6_takeNumber_69, eX6_takeNumber_72, eX6_takeNumber_75, eX6_takeNumber_76, eX6_takeNumber_77, eX6_takeNumber_80, eX6_takeNumber_83, eX6_takeNumber_86, eX6_takeNumber_87, eX6_takeNumber_90, eX6_takeNumber_93, eX6_takeNumber_95, eX6_takeNumber_96, eX6_takeNumber_99, eX6_takeNumber_100, eX6_takeNumber_101, eX6_takeNumber_104, eX6_takeNumber_105, eX6_takeNumber_108, eX6_takeNumber_109, eX6_takeNumber_110, eX6_takeNumber_112, eX6_takeNumber_113, eX6_takeNumber_116, eX6_takeNumber_117, eX6_takeNumber_118, eX6_takeNumber_121, eX6_takeNumber_122, eX6_takeNumber_123, eX6_takeNumber_126, eX6_takeNumber_129, eX6_takeNumber_130, eX6_takeNumber_133, eX6_takeNumber_134, eX6_takeNumber_137, eX6_takeNumber_138, eX6_takeNumber_139, eX6_takeNumber_142, eX6_takeNumber_143, eX6_takeNumber_146, eX6_takeNumber_147, eX6_takeNumber_148, eX6_takeNumber_149, eX6_takeNumber_150, eX6_takeNumber_151, eX6_takeNumber_154, eX6_takeNumber_157, eX6_takeNumber_158, eX6_takeNumber_159, eX6_takeNumber_160, eX6_takeNumber_163, eX6_takeNumber_166, eX6_takeNumber_169, eX6_takeNumber_170, eX6_fails_0, eX6_fails_1, eX6_fails_2, eX6_fails_5, eX6_fails_6, Option.toList_some, Option.toList_none, List.cons_append, List.nil_append, is01_0, is01_1, true_and, g4, g6, zs, z3, c3, if_false, g5 (by omega), r_inI, b01_0, zv, c4, and_self, not_true]
      rfl
theorem c_close (X : (Nat → Int32) × Nat) (sw : Bool) (hn : n ≤ 240) {h : xH} {a : Nat} (ha : a ≤ n) (hT : TC h t n) (h2 : h 1 2 = nI a) (h4 : h 1 4 = 0) : ∃ h' : xH, (∀ c, ¬ c = 1 → h' c = h c) ∧ h' 1 1 = h 1 1 ∧ ((clF t n a = 0 → h' 1 2 = nI (skB t n a + 1)) ∧ (¬ clF t n a = 0 → h' 1 2 = nI (skB t n a))) ∧ h' 1 4 = nI (clF t n a) ∧ h' 1 5 = (if clF t n a = 0 then h 1 5 else nI (skB t n a)) ∧ ∀ Q : Option Value → xG → xH → Prop, EV X mX4_readClose 0 0 0 [.ref 1] [] (Gb sw) h Q = Q none (Gb sw) h' := by
  obtain ⟨b1, b2, b3⟩ := skB_b (t := t) ha
  have hF : clF t n a = if skB t n a < n ∧ t (skB t n a) = 59 then 0 else 1 := rfl
  have sk := fun Q => c_skip (X := X) (sw := sw) hn (n - a) a h Q (by omega) hT h2
  generalize skB t n a = b at *
  generalize clF t n a = F at *
  have r1 : xu h 1 2 (nI b) 1 1 = nI n := by simp only [xun, xus, xps, xpn, ne_eq, not_false_eq_true, Nat.reduceEqDiff, not_false_iff]; exact hT.1
  have r2 : xu h 1 2 (nI b) 1 2 = nI b := by simp only [xun, xus, xps, xpn, ne_eq, not_false_eq_true, Nat.reduceEqDiff, not_false_iff]
  have r4 : xu h 1 2 (nI b) 1 4 = 0 := by simp only [xun, xus, xps, xpn, ne_eq, not_false_eq_true, Nat.reduceEqDiff, not_false_iff]; exact h4
  have hcl : (nI b).toNatClampNeg = b := cl_nI (by omega)
  by_cases c : b < n
  · have hin : inb (nI b) 240 = True := by rw [inb_nIe (by omega)]; apply eq_true; omega
    have q0 : ¬ nI n ≤ nI b := nI_ge (by omega) (by omega)
    have rt : xu h 1 2 (nI b) 2 b = t b := by simp only [xun, xus, xps, xpn, ne_eq, not_false_eq_true, Nat.reduceEqDiff, not_false_iff]; exact hT.2 b c
    by_cases c2 : t b = 59
    · have hF1 : F = 0 := by rw [hF, if_pos ⟨c, c2⟩]
      subst hF1
      refine ⟨xu h 1 2 (nI (b + 1)), fun k hk => xun _ _ _ _ _ hk, by simp only [xun, xus, xps, xpn, ne_eq, not_false_eq_true, Nat.reduceEqDiff, not_false_iff], ⟨fun _ => by simp only [xun, xus, xps, xpn, ne_eq, not_false_eq_true, Nat.reduceEqDiff, not_false_iff], fun q => absurd rfl q⟩, by simp only [xun, xus, xps, xpn, ne_eq, not_false_eq_true, Nat.reduceEqDiff, not_false_iff]; exact h4, by simp only [xun, xus, xps, xpn, ne_eq, not_false_eq_true, Nat.reduceEqDiff, not_false_iff]; rfl, fun Q => ?_⟩
      simp only [eX4_readClose_0, eX4_readClose_1, eX4_readClose_4, eX4_readClose_7, eX4_readClose_8, eX4_readClose_9, eX4_readClose_12, eX4_readClose_13, eX4_readClose_16, eX4_readClose_17, eX4_readClose_20, eX4_readClose_23, eX4_readClose_24, eX4_readClose_27, eX4_readClose_28, eX4_readClose_31, eX4_readClose_32, eX4_readClose_34, eX4_readClose_37, eX4_readClose_38, eX4_readClose_39, eX4_readClose_42, eX4_readClose_43, eX4_readClose_44, eX4_readClose_47, eX4_readClose_50, eX4_readClose_51, eX4_readClose_52, eX4_readClose_53, eX4_readClose_56, eX4_readClose_59, Option.toList_some, Option.toList_none, List.cons_append, List.nil_append, is01_0, is01_1, true_and, h4, if_true, not_true, if_false, sk, r1, r2, q0, hcl, hin, rt, c2, nI_1, xu_xu]
    · have hF1 : F = 1 := by rw [hF, if_neg (fun z => c2 z.2)]
      subst hF1
      refine ⟨xu (xu (xu h 1 2 (nI b)) 1 4 1) 1 5 (nI b), fun k hk => by rw [xun _ _ _ _ _ hk, xun _ _ _ _ _ hk, xun _ _ _ _ _ hk], by simp only [xun, xus, xps, xpn, ne_eq, not_false_eq_true, Nat.reduceEqDiff, not_false_iff], ⟨fun q => absurd q (by omega), fun _ => by simp only [xun, xus, xps, xpn, ne_eq, not_false_eq_true, Nat.reduceEqDiff, not_false_iff]⟩, by simp only [xun, xus, xps, xpn, ne_eq, not_false_eq_true, Nat.reduceEqDiff, not_false_iff]; rfl, by simp only [xun, xus, xps, xpn, ne_eq, not_false_eq_true, Nat.reduceEqDiff, not_false_iff]; rfl, fun Q => ?_⟩
      simp only [eX4_readClose_0, eX4_readClose_1, eX4_readClose_4, eX4_readClose_7, eX4_readClose_8, eX4_readClose_9, eX4_readClose_12, eX4_readClose_13, eX4_readClose_16, eX4_readClose_17, eX4_readClose_20, eX4_readClose_23, eX4_readClose_24, eX4_readClose_27, eX4_readClose_28, eX4_readClose_31, eX4_readClose_32, eX4_readClose_34, eX4_readClose_37, eX4_readClose_38, eX4_readClose_39, eX4_readClose_42, eX4_readClose_43, eX4_readClose_44, eX4_readClose_47, eX4_readClose_50, eX4_readClose_51, eX4_readClose_52, eX4_readClose_53, eX4_readClose_56, eX4_readClose_59, Option.toList_some, Option.toList_none, List.cons_append, List.nil_append, is01_0, is01_1, true_and, h4, if_true, not_true, if_false, sk, r1, r2, q0, hcl, hin, rt, c2, not_false_iff, c_blame r4]
  · have hF1 : F = 1 := by rw [hF, if_neg (fun z => c z.1)]
    subst hF1
    have q0 : nI n ≤ nI b := nI_le (by omega) (by omega)
    refine ⟨xu (xu (xu h 1 2 (nI b)) 1 4 1) 1 5 (nI b), fun k hk => by rw [xun _ _ _ _ _ hk, xun _ _ _ _ _ hk, xun _ _ _ _ _ hk], by simp only [xun, xus, xps, xpn, ne_eq, not_false_eq_true, Nat.reduceEqDiff, not_false_iff], ⟨fun q => absurd q (by omega), fun _ => by simp only [xun, xus, xps, xpn, ne_eq, not_false_eq_true, Nat.reduceEqDiff, not_false_iff]⟩, by simp only [xun, xus, xps, xpn, ne_eq, not_false_eq_true, Nat.reduceEqDiff, not_false_iff]; rfl, by simp only [xun, xus, xps, xpn, ne_eq, not_false_eq_true, Nat.reduceEqDiff, not_false_iff]; rfl, fun Q => ?_⟩
    simp only [eX4_readClose_0, eX4_readClose_1, eX4_readClose_4, eX4_readClose_7, eX4_readClose_8, eX4_readClose_9, eX4_readClose_12, eX4_readClose_13, eX4_readClose_16, eX4_readClose_17, eX4_readClose_20, eX4_readClose_23, eX4_readClose_24, eX4_readClose_27, eX4_readClose_28, eX4_readClose_31, eX4_readClose_32, eX4_readClose_34, eX4_readClose_37, eX4_readClose_38, eX4_readClose_39, eX4_readClose_42, eX4_readClose_43, eX4_readClose_44, eX4_readClose_47, eX4_readClose_50, eX4_readClose_51, eX4_readClose_52, eX4_readClose_53, eX4_readClose_56, eX4_readClose_59, Option.toList_some, Option.toList_none, List.cons_append, List.nil_append, is01_0, is01_1, true_and, h4, if_true, not_true, if_false, sk, r1, r2, q0, c_blame r4]
theorem c_close2 {h : xH} {Q : Option Value → xG → xH → Prop} (h4 : ¬ h 1 4 = 0) : EV X mX4_readClose 0 0 0 [.ref 1] [] (Gb sw) h Q = Q none (Gb sw) h := by
  simp only [eX4_readClose_0, eX4_readClose_1, eX4_readClose_4, eX4_readClose_7, eX4_readClose_8, eX4_readClose_9, eX4_readClose_12, eX4_readClose_13, eX4_readClose_16, eX4_readClose_17, eX4_readClose_20, eX4_readClose_23, eX4_readClose_24, eX4_readClose_27, eX4_readClose_28, eX4_readClose_31, eX4_readClose_32, eX4_readClose_34, eX4_readClose_37, eX4_readClose_38, eX4_readClose_39, eX4_readClose_42, eX4_readClose_43, eX4_readClose_44, eX4_readClose_47, eX4_readClose_50, eX4_readClose_51, eX4_readClose_52, eX4_readClose_53, eX4_readClose_56, eX4_readClose_59, Option.toList_some, Option.toList_none, List.cons_append, List.nil_append, is01_0, is01_1, true_and, h4, if_false, not_false_iff, if_true]
end LX2
