/-! LAWS -/
section LW
variable (n : Nat) (sy ss : Nat → Nat) (sm : Nat → Bool)
def okF (y k : Nat) : Bool := decide (y ≤ sy k) || (sm k == decide (ss k ≤ 1))
def okC (y g k : Nat) : Bool := decide (ss k ≤ (if sy k < y then 1 else g)) == sm k
def fitB (y : Nat) : Bool := (xfind (fun k => !okF sy ss sm y k) 0 n).isNone
def okA (y g : Nat) : Bool := (xfind (fun k => !okC sy ss sm y g k) 0 n).isNone
def lpF (y k s : Nat) : Nat := if sy k < y then s else if sm k then (if s < ss k then ss k else s) else s
def gpF (y k s : Nat) : Nat := if sy k < y then s else if sm k then s else (if ss k - 1 < s then ss k - 1 else s)
def lpN (y : Nat) : Nat := xfold (lpF sy ss sm y) 0 n 2
def gpN (y : Nat) : Nat := xfold (gpF sy ss sm y) 0 n 60
def lawN (y : Nat) : Nat := if fitB n sy ss sm y then gpN n sy ss sm y + 1 - lpN n sy ss sm y else 0
end LW
theorem isNone_iff {c : Nat → Bool} {n : Nat} : (xfind (fun k => !c k) 0 n).isNone = true ↔ ∀ k, k < n → c k = true := by
  rw [Option.isNone_iff_eq_none, xfind_none_iff]
  constructor
  · intro h k hk
    simpa using h k (Nat.zero_le _) (by omega)
  · intro h k _ hk
    simpa using h k (by omega)
theorem lpN_le {sy ss : Nat → Nat} {sm : Nat → Bool} {y g : Nat} : ∀ n, (lpN n sy ss sm y ≤ g ↔ 2 ≤ g ∧ ∀ k, k < n → ¬ sy k < y → sm k = true → ss k ≤ g)
  | 0 => by
    show 2 ≤ g ↔ _
    exact ⟨fun h => ⟨h, fun k hk => by omega⟩, fun h => h.1⟩
  | n + 1 => by
    have ih := lpN_le (sy := sy) (ss := ss) (sm := sm) (y := y) (g := g) n
    have e : lpN (n + 1) sy ss sm y = lpF sy ss sm y n (lpN n sy ss sm y) := by
      unfold lpN
      rw [xfold_succ, Nat.zero_add]
    rw [e]
    unfold lpF
    have hs : (∀ k, k < n + 1 → ¬ sy k < y → sm k = true → ss k ≤ g) ↔ (∀ k, k < n → ¬ sy k < y → sm k = true → ss k ≤ g) ∧ (¬ sy n < y → sm n = true → ss n ≤ g) := by
      constructor
      · exact fun h => ⟨fun k hk => h k (by omega), h n (by omega)⟩
      · intro h k hk
        rcases Nat.lt_or_ge k n with q | q
        · exact h.1 k q
        · rw [show k = n by omega]; exact h.2
    rw [hs]
    split
    · rename_i q
      rw [ih]
      exact ⟨fun h => ⟨h.1, h.2, fun z => absurd q z⟩, fun h => ⟨h.1, h.2.1⟩⟩
    · rename_i q
      split
      · rename_i q2
        split
        · rename_i q3
          constructor
          · intro h
            have := ih.mp (by omega)
            exact ⟨this.1, this.2, fun _ _ => h⟩
          · exact fun h => h.2.2 q q2
        · rename_i q3
          rw [ih]
          constructor
          · intro h
            have := ih.mpr h
            exact ⟨h.1, h.2, fun _ _ => by omega⟩
          · exact fun h => ⟨h.1, h.2.1⟩
      · rename_i q2
        rw [ih]
        exact ⟨fun h => ⟨h.1, h.2, fun _ z => absurd z q2⟩, fun h => ⟨h.1, h.2.1⟩⟩
theorem gpN_le {sy ss : Nat → Nat} {sm : Nat → Bool} {y g : Nat} (hs1 : ∀ k, 1 ≤ ss k) : ∀ n, (g ≤ gpN n sy ss sm y ↔ g ≤ 60 ∧ ∀ k, k < n → ¬ sy k < y → sm k = false → g < ss k)
  | 0 => by
    show g ≤ 60 ↔ _
    exact ⟨fun h => ⟨h, fun k hk => by omega⟩, fun h => h.1⟩
  | n + 1 => by
    have ih := gpN_le (sy := sy) (ss := ss) (sm := sm) (y := y) (g := g) hs1 n
    have h1 := hs1 n
    have e : gpN (n + 1) sy ss sm y = gpF sy ss sm y n (gpN n sy ss sm y) := by
      unfold gpN
      rw [xfold_succ, Nat.zero_add]
    rw [e]
    unfold gpF
    have hs : (∀ k, k < n + 1 → ¬ sy k < y → sm k = false → g < ss k) ↔ (∀ k, k < n → ¬ sy k < y → sm k = false → g < ss k) ∧ (¬ sy n < y → sm n = false → g < ss n) := by
      constructor
      · exact fun h => ⟨fun k hk => h k (by omega), h n (by omega)⟩
      · intro h k hk
        rcases Nat.lt_or_ge k n with q | q
        · exact h.1 k q
        · rw [show k = n by omega]; exact h.2
    rw [hs]
    split
    · rename_i q
      rw [ih]
      exact ⟨fun h => ⟨h.1, h.2, fun z => absurd q z⟩, fun h => ⟨h.1, h.2.1⟩⟩
    · rename_i q
      split
      · rename_i q2
        rw [ih]
        exact ⟨fun h => ⟨h.1, h.2, fun _ z => by rw [q2] at z; cases z⟩, fun h => ⟨h.1, h.2.1⟩⟩
      · rename_i q2
        have q2 : sm n = false := by simpa using q2
        split
        · rename_i q3
          constructor
          · intro h
            have := ih.mp (by omega)
            exact ⟨this.1, this.2, fun _ _ => by omega⟩
          · intro h
            have := h.2.2 q q2
            omega
        · rename_i q3
          rw [ih]
          constructor
          · intro h
            have := ih.mpr h
            exact ⟨h.1, h.2, fun _ _ => by omega⟩
          · exact fun h => ⟨h.1, h.2.1⟩
/-- a pair is possible just where class and model say so -/
theorem okA_iff {n : Nat} {sy ss : Nat → Nat} {sm : Nat → Bool} (hs1 : ∀ k, 1 ≤ ss k) {y g : Nat} (g1 : 2 ≤ g) (g2 : g ≤ 60) : okA n sy ss sm y g = true ↔ fitB n sy ss sm y = true ∧ lpN n sy ss sm y ≤ g ∧ g ≤ gpN n sy ss sm y := by
  unfold okA fitB
  rw [isNone_iff, isNone_iff, lpN_le, gpN_le hs1]
  constructor
  · intro h
    refine ⟨fun k hk => ?_, ⟨g1, fun k hk q1 q2 => ?_⟩, g2, fun k hk q1 q2 => ?_⟩
    · have := h k hk
      unfold okC at this
      unfold okF
      by_cases q : sy k < y
      · rw [if_pos q] at this
        have e : decide (y ≤ sy k) = false := by simpa using q
        rw [e, Bool.false_or]
        rw [beq_iff_eq] at this ⊢; exact this.symm
      · have e : decide (y ≤ sy k) = true := by simpa using q
        rw [e, Bool.true_or]
    · have := h k hk
      unfold okC at this
      rw [if_neg q1, q2] at this
      simpa using this
    · have := h k hk
      unfold okC at this
      rw [if_neg q1, q2] at this
      simpa using this
  · rintro ⟨h1, ⟨-, h2⟩, -, h3⟩ k hk
    unfold okC
    by_cases q : sy k < y
    · rw [if_pos q]
      have := h1 k hk
      unfold okF at this
      have e : decide (y ≤ sy k) = false := by simpa using q
      rw [e, Bool.false_or] at this
      rw [beq_iff_eq] at this ⊢; exact this.symm
    · rw [if_neg q]
      cases hm : sm k with
      | true =>
        have := h2 k hk q hm
        simpa using this
      | false =>
        have := h3 k hk q hm
        simpa using this
theorem ct_int (a b : Nat) : ∀ n, fb_ct (fun t => decide (a ≤ t ∧ t < b)) n = (if b < n then b else n) - a
  | 0 => by rw [if_neg (by omega)]; simp [fb_ct]
  | n + 1 => by
    rw [fb_ct_succ, ct_int a b n]
    by_cases q : a ≤ n ∧ n < b
    · simp only [q, decide_true, and_self, if_true]
      rw [if_neg (by omega), if_neg (by omega)]
      omega
    · have : decide (a ≤ n ∧ n < b) = false := by simpa using q
      rw [this]
      simp only [Bool.false_eq_true, if_false]
      split <;> split <;> omega
theorem ctA {n : Nat} {sy ss : Nat → Nat} {sm : Nat → Bool} (hs1 : ∀ k, 1 ≤ ss k) (y : Nat) : fb_ct (fun t => okA n sy ss sm y (t + 2)) 59 = lawN n sy ss sm y := by
  unfold lawN
  have h2 : 2 ≤ lpN n sy ss sm y := ((lpN_le n).mp (Nat.le_refl _)).1
  have h60 : gpN n sy ss sm y ≤ 60 := ((gpN_le hs1 n).mp (Nat.le_refl _)).1
  by_cases q : fitB n sy ss sm y = true
  · rw [if_pos q]
    have : fb_ct (fun t => okA n sy ss sm y (t + 2)) 59 = fb_ct (fun t => decide (lpN n sy ss sm y - 2 ≤ t ∧ t < gpN n sy ss sm y - 1)) 59 := by
      apply fb_ct_cong
      intro t ht
      rw [Bool.eq_iff_iff, okA_iff hs1 (by omega) (by omega), decide_eq_true_eq]
      constructor
      · rintro ⟨-, h1, h2⟩; omega
      · intro h; exact ⟨q, by omega, by omega⟩
    rw [this, ct_int]
    split <;> omega
  · rw [if_neg q]
    apply fb_ct_zero.mpr
    intro t ht
    have : ¬ okA n sy ss sm y (t + 2) = true := fun z => q ((okA_iff hs1 (by omega) (by omega)).mp z).1
    simpa using this
theorem lawN_le {n : Nat} {sy ss : Nat → Nat} {sm : Nat → Bool} (hs1 : ∀ k, 1 ≤ ss k) (y : Nat) : lawN n sy ss sm y ≤ 59 := by
  rw [← ctA hs1]
  exact fb_ct_le _ _
/-- what is seen, as class and model have it -/
def SNv (h : xH) (n : Nat) (sy ss : Nat → Nat) (sm : Nat → Bool) : Prop := n ≤ 6 ∧ h 132 0 = nI n ∧ h 140 29 = nI n ∧ (∀ k, k < n → (h 133 k = nI (sy k) ∧ h 152 k = nI (sy k) ∧ h 134 k = nI (ss k) ∧ h 153 k = nI (ss k) ∧ h 135 k = b2 (sm k) ∧ h 154 k = b2 (sm k)) ∧ sy k ≤ 900 ∧ 1 ≤ ss k ∧ ss k ≤ 60)
theorem SNv.mv {h h' : xH} {n : Nat} {sy ss : Nat → Nat} {sm : Nat → Bool} (H : SNv h n sy ss sm) (e : ∀ c, ¬ c = 155 → h' c = h c) : SNv h' n sy ss sm := by
  unfold SNv; rw [e 132 (by omega), e 140 (by omega), e 133 (by omega), e 134 (by omega), e 135 (by omega), e 152 (by omega), e 153 (by omega), e 154 (by omega)]; exact H
theorem b2_0 (b : Bool) : (b2 b = 0) = (b = false) := by cases b <;> decide
theorem b2_1 (b : Bool) : (b2 b = 1) = (b = true) := by cases b <;> decide
theorem b2_0' (b : Bool) : (0 = b2 b) = (b = false) := by cases b <;> decide
theorem b2_1' (b : Bool) : (1 = b2 b) = (b = true) := by cases b <;> decide
theorem b2_is (b : Bool) : is01 (b2 b) = True := by apply eq_true; cases b; exact Or.inl rfl; exact Or.inr rfl
section LW2
variable {X : (Nat → Int32) × Nat} {g : xG} {h : xH} {Q : Option Value → xG → xH → Prop} {sw : Bool} {n : Nat} {sy ss : Nat → Nat} {sm : Nat → Bool}
theorem c_fits (H : SNv h n sy ss sm) {y : Nat} (hy : y ≤ 900) : EV X mX0_fitsBelow 0 0 0 [.ref 132, .int (nI y), .null] [] (Gb sw) h Q = Q (some (.int (b2 (fitB n sy ss sm y)))) (Gb sw) h := by
  obtain ⟨hn, c1, c2, c3⟩ := H
  simp only [eX0_fitsBelow_0, eX0_fitsBelow_1, eX0_fitsBelow_3, eX0_fitsBelow_4, eX0_fitsBelow_7, eX0_fitsBelow_10, eX0_fitsBelow_11, eX0_fitsBelow_14, eX0_fitsBelow_15, eX0_fitsBelow_16, eX0_fitsBelow_17, eX0_fitsBelow_20, eX0_fitsBelow_21, eX0_fitsBelow_24, eX0_fitsBelow_25, eX0_fitsBelow_26, eX0_fitsBelow_27, eX0_fitsBelow_30, eX0_fitsBelow_31, eX0_fitsBelow_32, eX0_fitsBelow_33, eX0_fitsBelow_36, eX0_fitsBelow_37, eX0_fitsBelow_40, eX0_fitsBelow_41, eX0_fitsBelow_44, eX0_fitsBelow_45, eX0_fitsBelow_46, eX0_fitsBelow_49, eX0_fitsBelow_52, eX0_fitsBelow_53, Option.toList_some, Option.toList_none, List.cons_append, List.nil_append, is01_0, is01_1, true_and]
  have key := lp_find (c := fun k => !okF sy ss sm y k) (fun i => EV X mX0_fitsBelow 0 0 2 [.ref 132, .int (nI y), .int (nI i)] [] (Gb sw) h Q) (fun i => Q (some (.int 0)) (Gb sw) h) n 0 (fun i h1 h2 => by
    obtain ⟨⟨a1, -, a3, -, a5, -⟩, b1, b2, b3⟩ := c3 i (by omega)
    have hcl : (nI i).toNatClampNeg = i := cl_nI (by omega)
    have hin : inb (nI i) 6 = True := by rw [inb_nIe (by omega)]; apply eq_true; omega
    have l1 : (nI y ≤ nI (sy i)) = (y ≤ sy i) := le_nI (by omega) (by omega)
    have l2 : ((1 : Int32) < nI (ss i)) = (1 < ss i) := lt_nI (a := 1) (by omega) (by omega)
    rw [eX0_fitsBelow_2]
    simp only [eX0_fitsBelow_0, eX0_fitsBelow_1, eX0_fitsBelow_3, eX0_fitsBelow_4, eX0_fitsBelow_7, eX0_fitsBelow_10, eX0_fitsBelow_11, eX0_fitsBelow_14, eX0_fitsBelow_15, eX0_fitsBelow_16, eX0_fitsBelow_17, eX0_fitsBelow_20, eX0_fitsBelow_21, eX0_fitsBelow_24, eX0_fitsBelow_25, eX0_fitsBelow_26, eX0_fitsBelow_27, eX0_fitsBelow_30, eX0_fitsBelow_31, eX0_fitsBelow_32, eX0_fitsBelow_33, eX0_fitsBelow_36, eX0_fitsBelow_37, eX0_fitsBelow_40, eX0_fitsBelow_41, eX0_fitsBelow_44, eX0_fitsBelow_45, eX0_fitsBelow_46, eX0_fitsBelow_49, eX0_fitsBelow_52, eX0_fitsBelow_53, Option.toList_some, Option.toList_none, List.cons_append, List.nil_append, is01_0, is01_1, true_and, c1, hcl, hin, a1, a3, a5, l1, l2, b2_0, b2_1, nI_1]
    rw [if_neg (nI_ge (by omega) (by omega))]
    unfold okF
    by_cases q : y ≤ sy i
    · simp [q]
    · by_cases q2 : 1 < ss i
      · have q3 : ¬ ss i ≤ 1 := by omega
        cases hm : sm i <;> simp [q, q2, q3, hm]
      · have q3 : ss i ≤ 1 := by omega
        cases hm : sm i <;> simp [q, q2, q3, hm])
  refine key.trans ?_
  unfold fitB
  cases hx : xfind (fun k => !okF sy ss sm y k) 0 n with
  | some k => rfl
  | none =>
    simp only
    rw [Nat.zero_add, eX0_fitsBelow_2]
    simp only [eX0_fitsBelow_0, eX0_fitsBelow_1, eX0_fitsBelow_3, eX0_fitsBelow_4, eX0_fitsBelow_7, eX0_fitsBelow_10, eX0_fitsBelow_11, eX0_fitsBelow_14, eX0_fitsBelow_15, eX0_fitsBelow_16, eX0_fitsBelow_17, eX0_fitsBelow_20, eX0_fitsBelow_21, eX0_fitsBelow_24, eX0_fitsBelow_25, eX0_fitsBelow_26, eX0_fitsBelow_27, eX0_fitsBelow_30, eX0_fitsBelow_31, eX0_fitsBelow_32, eX0_fitsBelow_33, eX0_fitsBelow_36, eX0_fitsBelow_37, eX0_fitsBelow_40, eX0_fitsBelow_41, eX0_fitsBelow_44, eX0_fitsBelow_45, eX0_fitsBelow_46, eX0_fitsBelow_49, eX0_fitsBelow_52, eX0_fitsBelow_53, Option.toList_some, Option.toList_none, List.cons_append, List.nil_append, is01_0, is01_1, true_and, c1]
    rw [if_pos (nI_le (by omega) (by omega))]
    rfl
theorem c_leastPace (H : SNv h n sy ss sm) {y : Nat} (hy : y ≤ 900) : EV X mX0_leastPace 0 0 0 [.ref 132, .int (nI y), .null, .null] [] (Gb sw) h Q = Q (some (.int (nI (lpN n sy ss sm y)))) (Gb sw) h := by
  obtain ⟨hn, c1, c2, c3⟩ := H
  simp only [eX0_leastPace_0, eX0_leastPace_1, eX0_leastPace_2, eX0_leastPace_3, eX0_leastPace_5, eX0_leastPace_6, eX0_leastPace_9, eX0_leastPace_12, eX0_leastPace_13, eX0_leastPace_16, eX0_leastPace_17, eX0_leastPace_18, eX0_leastPace_19, eX0_leastPace_22, eX0_leastPace_23, eX0_leastPace_26, eX0_leastPace_27, eX0_leastPace_28, eX0_leastPace_31, eX0_leastPace_32, eX0_leastPace_33, eX0_leastPace_36, eX0_leastPace_37, eX0_leastPace_38, eX0_leastPace_41, eX0_leastPace_42, eX0_leastPace_45, eX0_leastPace_48, eX0_leastPace_49, Option.toList_some, Option.toList_none, List.cons_append, List.nil_append, is01_0, is01_1, true_and]
  have key := (lp_foldI (f := lpF sy ss sm y) (fun i (s : Nat) => EV X mX0_leastPace 0 0 4 [.ref 132, .int (nI y), .int (nI s), .int (nI i)] [] (Gb sw) h Q) (fun _ s => s ≤ 60) n 0 2 (by omega) (fun i s h1 h2 hI => by
    obtain ⟨⟨a1, -, a3, -, a5, -⟩, b1, b2, b3⟩ := c3 i (by omega)
    have hcl : (nI i).toNatClampNeg = i := cl_nI (by omega)
    have hin : inb (nI i) 6 = True := by rw [inb_nIe (by omega)]; apply eq_true; omega
    have l1 : (nI (sy i) < nI y) = (sy i < y) := lt_nI (by omega) (by omega)
    have l2 : (nI s < nI (ss i)) = (s < ss i) := lt_nI (by omega) (by omega)
    refine ⟨?_, ?_⟩
    · rw [eX0_leastPace_4]
      simp only [eX0_leastPace_0, eX0_leastPace_1, eX0_leastPace_2, eX0_leastPace_3, eX0_leastPace_5, eX0_leastPace_6, eX0_leastPace_9, eX0_leastPace_12, eX0_leastPace_13, eX0_leastPace_16, eX0_leastPace_17, eX0_leastPace_18, eX0_leastPace_19, eX0_leastPace_22, eX0_leastPace_23, eX0_leastPace_26, eX0_leastPace_27, eX0_leastPace_28, eX0_leastPace_31, eX0_leastPace_32, eX0_leastPace_33, eX0_leastPace_36, eX0_leastPace_37, eX0_leastPace_38, eX0_leastPace_41, eX0_leastPace_42, eX0_leastPace_45, eX0_leastPace_48, eX0_leastPace_49, Option.toList_some, Option.toList_none, List.cons_append, List.nil_append, is01_0, is01_1, true_and, c1, hcl, hin, a1, a3, a5, l1, l2, b2_0, nI_1]
      rw [if_neg (nI_ge (by omega) (by omega))]
      unfold lpF
      by_cases q : sy i < y
      · simp [q]
      · by_cases q2 : s < ss i
        · cases hm : sm i <;> simp [q, q2, hm]
        · cases hm : sm i <;> simp [q, q2, hm]
    · unfold lpF
      split
      · exact hI
      · split
        · split <;> omega
        · exact hI)).1
  refine key.trans ?_
  rw [Nat.zero_add, eX0_leastPace_4]
  simp only [eX0_leastPace_0, eX0_leastPace_1, eX0_leastPace_2, eX0_leastPace_3, eX0_leastPace_5, eX0_leastPace_6, eX0_leastPace_9, eX0_leastPace_12, eX0_leastPace_13, eX0_leastPace_16, eX0_leastPace_17, eX0_leastPace_18, eX0_leastPace_19, eX0_leastPace_22, eX0_leastPace_23, eX0_leastPace_26, eX0_leastPace_27, eX0_leastPace_28, eX0_leastPace_31, eX0_leastPace_32, eX0_leastPace_33, eX0_leastPace_36, eX0_leastPace_37, eX0_leastPace_38, eX0_leastPace_41, eX0_leastPace_42, eX0_leastPace_45, eX0_leastPace_48, eX0_leastPace_49, Option.toList_some, Option.toList_none, List.cons_append, List.nil_append, is01_0, is01_1, true_and, c1]
  rw [if_pos (nI_le (by omega) (by omega))]
  rfl
theorem c_greatPace (H : SNv h n sy ss sm) {y : Nat} (hy : y ≤ 900) : EV X mX0_greatestPace 0 0 0 [.ref 132, .int (nI y), .null, .null] [] (Gb sw) h Q = Q (some (.int (nI (gpN n sy ss sm y)))) (Gb sw) h := by
  obtain ⟨hn, c1, c2, c3⟩ := H
  simp only [eX0_greatestPace_0, eX0_greatestPace_2, eX0_greatestPace_3, eX0_greatestPace_4, eX0_greatestPace_6, eX0_greatestPace_7, eX0_greatestPace_10, eX0_greatestPace_13, eX0_greatestPace_14, eX0_greatestPace_17, eX0_greatestPace_18, eX0_greatestPace_19, eX0_greatestPace_20, eX0_greatestPace_23, eX0_greatestPace_24, eX0_greatestPace_27, eX0_greatestPace_28, eX0_greatestPace_29, eX0_greatestPace_32, eX0_greatestPace_33, eX0_greatestPace_34, eX0_greatestPace_37, eX0_greatestPace_38, eX0_greatestPace_39, eX0_greatestPace_40, eX0_greatestPace_41, eX0_greatestPace_44, eX0_greatestPace_45, eX0_greatestPace_48, eX0_greatestPace_51, eX0_greatestPace_52, Option.toList_some, Option.toList_none, List.cons_append, List.nil_append, is01_0, is01_1, true_and]
  have key := (lp_foldI (f := gpF sy ss sm y) (fun i (s : Nat) => EV X mX0_greatestPace 0 0 5 [.ref 132, .int (nI y), .int (nI s), .int (nI i)] [] (Gb sw) h Q) (fun _ s => s ≤ 60) n 0 60 (by omega) (fun i s h1 h2 hI => by
    obtain ⟨⟨a1, -, a3, -, a5, -⟩, b1, b2, b3⟩ := c3 i (by omega)
    have hcl : (nI i).toNatClampNeg = i := cl_nI (by omega)
    have hin : inb (nI i) 6 = True := by rw [inb_nIe (by omega)]; apply eq_true; omega
    have l1 : (nI (sy i) < nI y) = (sy i < y) := lt_nI (by omega) (by omega)
    have e1 : nI (ss i) - 1 = nI (ss i - 1) := pk_sub (b := 1) (by omega)
    have l2 : (nI (ss i - 1) < nI s) = (ss i - 1 < s) := lt_nI (by omega) (by omega)
    refine ⟨?_, ?_⟩
    · rw [eX0_greatestPace_5]
      simp only [eX0_greatestPace_0, eX0_greatestPace_2, eX0_greatestPace_3, eX0_greatestPace_4, eX0_greatestPace_6, eX0_greatestPace_7, eX0_greatestPace_10, eX0_greatestPace_13, eX0_greatestPace_14, eX0_greatestPace_17, eX0_greatestPace_18, eX0_greatestPace_19, eX0_greatestPace_20, eX0_greatestPace_23, eX0_greatestPace_24, eX0_greatestPace_27, eX0_greatestPace_28, eX0_greatestPace_29, eX0_greatestPace_32, eX0_greatestPace_33, eX0_greatestPace_34, eX0_greatestPace_37, eX0_greatestPace_38, eX0_greatestPace_39, eX0_greatestPace_40, eX0_greatestPace_41, eX0_greatestPace_44, eX0_greatestPace_45, eX0_greatestPace_48, eX0_greatestPace_51, eX0_greatestPace_52, Option.toList_some, Option.toList_none, List.cons_append, List.nil_append, is01_0, is01_1, true_and, c1, hcl, hin, a1, a3, a5, l1, e1, l2, b2_0, nI_1]
      rw [if_neg (nI_ge (by omega) (by omega))]
      unfold gpF
      by_cases q : sy i < y
      · simp [q]
      · by_cases q2 : ss i - 1 < s
        · cases hm : sm i <;> simp [q, q2, hm]
        · cases hm : sm i <;> simp [q, q2, hm]
    · unfold gpF
      split
      · exact hI
      · split
        · exact hI
        · split <;> omega)).1
  refine key.trans ?_
  rw [Nat.zero_add, eX0_greatestPace_5]
  simp only [eX0_greatestPace_0, eX0_greatestPace_2, eX0_greatestPace_3, eX0_greatestPace_4, eX0_greatestPace_6, eX0_greatestPace_7, eX0_greatestPace_10, eX0_greatestPace_13, eX0_greatestPace_14, eX0_greatestPace_17, eX0_greatestPace_18, eX0_greatestPace_19, eX0_greatestPace_20, eX0_greatestPace_23, eX0_greatestPace_24, eX0_greatestPace_27, eX0_greatestPace_28, eX0_greatestPace_29, eX0_greatestPace_32, eX0_greatestPace_33, eX0_greatestPace_34, eX0_greatestPace_37, eX0_greatestPace_38, eX0_greatestPace_39, eX0_greatestPace_40, eX0_greatestPace_41, eX0_greatestPace_44, eX0_greatestPace_45, eX0_greatestPace_48, eX0_greatestPace_51, eX0_greatestPace_52, Option.toList_some, Option.toList_none, List.cons_append, List.nil_append, is01_0, is01_1, true_and, c1]
  rw [if_pos (nI_le (by omega) (by omega))]
  rfl
theorem c_lawsFrom (H : SNv h n sy ss sm) (hs1 : ∀ k, 1 ≤ ss k) {y : Nat} (hy : y ≤ 900) : EV X mX0_lawsFrom 0 0 0 [.ref 132, .int (nI y)] [] (Gb sw) h Q = Q (some (.int (nI (lawN n sy ss sm y)))) (Gb sw) h := by
  have h2 : 2 ≤ lpN n sy ss sm y := ((lpN_le n).mp (Nat.le_refl _)).1
  have h60 : gpN n sy ss sm y ≤ 60 := ((gpN_le hs1 n).mp (Nat.le_refl _)).1
  have hl : lpN n sy ss sm y ≤ 60 := by
    rw [lpN_le]
    exact ⟨by omega, fun k hk _ _ => (H.2.2.2 k hk).2.2.2⟩
  simp only [eX0_lawsFrom_0, eX0_lawsFrom_1, eX0_lawsFrom_2, eX0_lawsFrom_5, eX0_lawsFrom_8, eX0_lawsFrom_9, eX0_lawsFrom_10, eX0_lawsFrom_11, eX0_lawsFrom_14, eX0_lawsFrom_15, eX0_lawsFrom_16, eX0_lawsFrom_19, eX0_lawsFrom_20, eX0_lawsFrom_21, eX0_lawsFrom_22, eX0_lawsFrom_25, eX0_lawsFrom_28, eX0_lawsFrom_29, Option.toList_some, Option.toList_none, List.cons_append, List.nil_append, is01_0, is01_1, true_and, c_fits H hy, c_greatPace H hy, c_leastPace H hy, b2_0]
  unfold lawN
  by_cases q : fitB n sy ss sm y = true
  · have q2 : ¬ fitB n sy ss sm y = false := by rw [q]; decide
    rw [if_neg q2, if_pos q]
    congr 3
    generalize gpN n sy ss sm y = a at *
    generalize lpN n sy ss sm y = b at *
    have e1 : (nI a - nI b).toInt = (a : Int) - b := pk_sub_toInt (by omega) (by omega)
    have e2 : (nI a - nI b + 1).toInt = (a : Int) - b + 1 := by
      rw [fb_addI (by rw [e1]; show _ ≤ _ + (1 : Int); omega) (by rw [e1]; show _ + (1 : Int) < _; omega), e1]
      rfl
    by_cases q3 : (0 : Int32) < nI a - nI b + 1
    · rw [if_pos q3]
      rw [fa_lt, e2] at q3
      have e0 : (0 : Int32).toInt = 0 := rfl
      apply Int32.toInt_inj.mp
      rw [e2, nI_toInt (by omega)]
      omega
    · rw [if_neg q3]
      rw [fa_lt, e2] at q3
      have e0 : (0 : Int32).toInt = 0 := rfl
      rw [show a + 1 - b = 0 by omega]
      rfl
  · have q2 : fitB n sy ss sm y = false := by simpa using q
    rw [if_pos q2, if_neg q]
    rfl
theorem m_couldBe (H : SNv h n sy ss sm) {y t : Nat} (hy : y ≤ 900) (ht : t ≤ 60) : EV X mX6_couldBe 0 0 0 [.ref 140, .int (nI y), .int (nI t), .null, .null] [] (Gb sw) h Q = Q (some (.int (b2 (okA n sy ss sm y t)))) (Gb sw) h := by
  obtain ⟨hn, c1, c2, c3⟩ := H
  simp only [eX6_couldBe_0, eX6_couldBe_1, eX6_couldBe_2, eX6_couldBe_3, eX6_couldBe_7, eX6_couldBe_8, eX6_couldBe_11, eX6_couldBe_14, eX6_couldBe_15, eX6_couldBe_18, eX6_couldBe_19, eX6_couldBe_22, eX6_couldBe_24, eX6_couldBe_25, eX6_couldBe_26, eX6_couldBe_29, eX6_couldBe_30, eX6_couldBe_33, eX6_couldBe_34, eX6_couldBe_35, eX6_couldBe_38, eX6_couldBe_40, eX6_couldBe_41, eX6_couldBe_44, eX6_couldBe_45, eX6_couldBe_48, eX6_couldBe_49, eX6_couldBe_50, eX6_couldBe_53, eX6_couldBe_55, eX6_couldBe_56, eX6_couldBe_59, eX6_couldBe_60, eX6_couldBe_63, eX6_couldBe_64, eX6_couldBe_65, eX6_couldBe_68, eX6_couldBe_71, eX6_couldBe_72, Option.toList_some, Option.toList_none, List.cons_append, List.nil_append, is01_0, is01_1, true_and]
  have n10' : ¬ (1 : Int32) = 0 := by decide
  have stop : ∀ i, EV X mX6_couldBe 0 0 5 [.ref 140, .int (nI y), .int (nI t), .int 0, .int (nI i)] [] (Gb sw) h Q = Q (some (.int 0)) (Gb sw) h := by
    intro i
    rw [eX6_couldBe_5]
    simp only [eX6_couldBe_0, eX6_couldBe_1, eX6_couldBe_2, eX6_couldBe_3, eX6_couldBe_7, eX6_couldBe_8, eX6_couldBe_11, eX6_couldBe_14, eX6_couldBe_15, eX6_couldBe_18, eX6_couldBe_19, eX6_couldBe_22, eX6_couldBe_24, eX6_couldBe_25, eX6_couldBe_26, eX6_couldBe_29, eX6_couldBe_30, eX6_couldBe_33, eX6_couldBe_34, eX6_couldBe_35, eX6_couldBe_38, eX6_couldBe_40, eX6_couldBe_41, eX6_couldBe_44, eX6_couldBe_45, eX6_couldBe_48, eX6_couldBe_49, eX6_couldBe_50, eX6_couldBe_53, eX6_couldBe_55, eX6_couldBe_56, eX6_couldBe_59, eX6_couldBe_60, eX6_couldBe_63, eX6_couldBe_64, eX6_couldBe_65, eX6_couldBe_68, eX6_couldBe_71, eX6_couldBe_72, Option.toList_some, Option.toList_none, List.cons_append, List.nil_append, is01_0, is01_1, true_and]
    split <;> simp
  have key := lp_find (c := fun k => !okC sy ss sm y t k) (fun i => EV X mX6_couldBe 0 0 5 [.ref 140, .int (nI y), .int (nI t), .int 1, .int (nI i)] [] (Gb sw) h Q) (fun i => Q (some (.int 0)) (Gb sw) h) n 0 (fun i h1 h2 => by
    obtain ⟨⟨-, a2, -, a4, -, a6⟩, b1, b2, b3⟩ := c3 i (by omega)
    have hcl : (nI i).toNatClampNeg = i := cl_nI (by omega)
    have hin : inb (nI i) 6 = True := by rw [inb_nIe (by omega)]; apply eq_true; omega
    have l1 : (nI y ≤ nI (sy i)) = (y ≤ sy i) := le_nI (by omega) (by omega)
    have l2 : ((1 : Int32) < nI (ss i)) = (1 < ss i) := lt_nI (a := 1) (by omega) (by omega)
    have l3 : (nI t < nI (ss i)) = (t < ss i) := lt_nI (by omega) (by omega)
    rw [eX6_couldBe_5]
    simp only [eX6_couldBe_0, eX6_couldBe_1, eX6_couldBe_2, eX6_couldBe_3, eX6_couldBe_7, eX6_couldBe_8, eX6_couldBe_11, eX6_couldBe_14, eX6_couldBe_15, eX6_couldBe_18, eX6_couldBe_19, eX6_couldBe_22, eX6_couldBe_24, eX6_couldBe_25, eX6_couldBe_26, eX6_couldBe_29, eX6_couldBe_30, eX6_couldBe_33, eX6_couldBe_34, eX6_couldBe_35, eX6_couldBe_38, eX6_couldBe_40, eX6_couldBe_41, eX6_couldBe_44, eX6_couldBe_45, eX6_couldBe_48, eX6_couldBe_49, eX6_couldBe_50, eX6_couldBe_53, eX6_couldBe_55, eX6_couldBe_56, eX6_couldBe_59, eX6_couldBe_60, eX6_couldBe_63, eX6_couldBe_64, eX6_couldBe_65, eX6_couldBe_68, eX6_couldBe_71, eX6_couldBe_72, Option.toList_some, Option.toList_none, List.cons_append, List.nil_append, is01_0, is01_1, true_and, c2, hcl, hin, a2, a4, a6, l1, l2, l3, b2_0', b2_1', nI_1, n10', if_false, stop]
    rw [if_neg (nI_ge (by omega) (by omega))]
    unfold okC
    by_cases q : y ≤ sy i
    · have q' : ¬ sy i < y := by omega
      by_cases q2 : t < ss i
      · have q3 : ¬ ss i ≤ t := by omega
        cases hm : sm i <;> simp [q, q', q2, q3, hm]
      · have q3 : ss i ≤ t := by omega
        cases hm : sm i <;> simp [q, q', q2, q3, hm]
    · have q' : sy i < y := by omega
      by_cases q2 : 1 < ss i
      · have q3 : ¬ ss i ≤ 1 := by omega
        cases hm : sm i <;> simp [q, q', q2, q3, hm]
      · have q3 : ss i ≤ 1 := by omega
        cases hm : sm i <;> simp [q, q', q2, q3, hm])
  refine key.trans ?_
  unfold okA
  cases hx : xfind (fun k => !okC sy ss sm y t k) 0 n with
  | some k => rfl
  | none =>
    simp only
    rw [Nat.zero_add, eX6_couldBe_5]
    simp only [eX6_couldBe_0, eX6_couldBe_1, eX6_couldBe_2, eX6_couldBe_3, eX6_couldBe_7, eX6_couldBe_8, eX6_couldBe_11, eX6_couldBe_14, eX6_couldBe_15, eX6_couldBe_18, eX6_couldBe_19, eX6_couldBe_22, eX6_couldBe_24, eX6_couldBe_25, eX6_couldBe_26, eX6_couldBe_29, eX6_couldBe_30, eX6_couldBe_33, eX6_couldBe_34, eX6_couldBe_35, eX6_couldBe_38, eX6_couldBe_40, eX6_couldBe_41, eX6_couldBe_44, eX6_couldBe_45, eX6_couldBe_48, eX6_couldBe_49, eX6_couldBe_50, eX6_couldBe_53, eX6_couldBe_55, eX6_couldBe_56, eX6_couldBe_59, eX6_couldBe_60, eX6_couldBe_63, eX6_couldBe_64, eX6_couldBe_65, eX6_couldBe_68, eX6_couldBe_71, eX6_couldBe_72, Option.toList_some, Option.toList_none, List.cons_append, List.nil_append, is01_0, is01_1, true_and, c2]
    rw [if_pos (nI_le (by omega) (by omega))]
    rfl
/-! sums, the first -/
abbrev sumL (n : Nat) (sy ss : Nat → Nat) (sm : Nat → Bool) (t : Nat) : Nat := fb_sm (fun k => lawN n sy ss sm (k + 1)) t
theorem sumL_le (hs1 : ∀ k, 1 ≤ ss k) (t : Nat) : sumL n sy ss sm t ≤ 59 * t := by
  have := fb_sm_bound (f := fun k => lawN n sy ss sm (k + 1)) (c := 59) (n := t) (fun k _ => lawN_le hs1 (k + 1))
  rw [Nat.mul_comm]
  exact this
theorem c_countLaws (H : SNv h n sy ss sm) (hs1 : ∀ k, 1 ≤ ss k) : EV X mX0_countLaws 0 0 0 [.ref 132, .null, .null] [] (Gb sw) h Q = Q (some (.int (nI (sumL n sy ss sm 900)))) (Gb sw) h := by
  simp only [eX0_countLaws_0, eX0_countLaws_1, eX0_countLaws_2, eX0_countLaws_3, eX0_countLaws_5, eX0_countLaws_8, eX0_countLaws_11, eX0_countLaws_12, eX0_countLaws_13, eX0_countLaws_14, eX0_countLaws_17, eX0_countLaws_18, eX0_countLaws_19, eX0_countLaws_22, eX0_countLaws_25, eX0_countLaws_26, Option.toList_some, Option.toList_none, List.cons_append, List.nil_append, is01_0, is01_1, true_and]
  have key : ∀ m i : Nat, i + m = 900 → EV X mX0_countLaws 0 0 4 [.ref 132, .int (nI (sumL n sy ss sm i)), .int (nI (i + 1))] [] (Gb sw) h Q = Q (some (.int (nI (sumL n sy ss sm 900)))) (Gb sw) h := by
    intro m
    induction m with
    | zero =>
      intro i hi
      rw [show i = 900 by omega, eX0_countLaws_4]
      simp only [eX0_countLaws_0, eX0_countLaws_1, eX0_countLaws_2, eX0_countLaws_3, eX0_countLaws_5, eX0_countLaws_8, eX0_countLaws_11, eX0_countLaws_12, eX0_countLaws_13, eX0_countLaws_14, eX0_countLaws_17, eX0_countLaws_18, eX0_countLaws_19, eX0_countLaws_22, eX0_countLaws_25, eX0_countLaws_26, Option.toList_some, Option.toList_none, List.cons_append, List.nil_append, is01_0, is01_1, true_and]
      rw [if_pos (show (900 : Int32) < nI (900 + 1) from nI_lt (a := 900) (by omega) (by omega))]
    | succ m ih =>
      intro i hi
      have e := ih (i + 1) (by omega)
      rw [eX0_countLaws_4]
      simp only [eX0_countLaws_0, eX0_countLaws_1, eX0_countLaws_2, eX0_countLaws_3, eX0_countLaws_5, eX0_countLaws_8, eX0_countLaws_11, eX0_countLaws_12, eX0_countLaws_13, eX0_countLaws_14, eX0_countLaws_17, eX0_countLaws_18, eX0_countLaws_19, eX0_countLaws_22, eX0_countLaws_25, eX0_countLaws_26, Option.toList_some, Option.toList_none, List.cons_append, List.nil_append, is01_0, is01_1, true_and, c_lawsFrom H hs1 (show i + 1 ≤ 900 by omega), addI_nI, nI_1]
      rw [if_neg (show ¬ (900 : Int32) < nI (i + 1) from nI_nlt (a := 900) (by omega) (by omega))]
      exact e
  exact key 900 0 (by omega)
def fstL (n : Nat) (sy ss : Nat → Nat) (sm : Nat → Bool) : Option Nat := xfind (fun y => decide (0 < lawN n sy ss sm y)) 1 900
theorem c_leastLayer (H : SNv h n sy ss sm) (hs1 : ∀ k, 1 ≤ ss k) : EV X mX0_leastLayer 0 0 0 [.ref 132, .null] [] (Gb sw) h Q = Q (some (.int (encO (fstL n sy ss sm)))) (Gb sw) h := by
  simp only [eX0_leastLayer_0, eX0_leastLayer_1, eX0_leastLayer_3, eX0_leastLayer_6, eX0_leastLayer_9, eX0_leastLayer_10, eX0_leastLayer_11, eX0_leastLayer_14, eX0_leastLayer_17, eX0_leastLayer_18, eX0_leastLayer_19, eX0_leastLayer_22, eX0_leastLayer_25, eX0_leastLayer_26, Option.toList_some, Option.toList_none, List.cons_append, List.nil_append, is01_0, is01_1, true_and]
  have key := lp_find (c := fun y => decide (0 < lawN n sy ss sm y)) (fun i => EV X mX0_leastLayer 0 0 2 [.ref 132, .int (nI i)] [] (Gb sw) h Q) (fun i => Q (some (.int (nI i))) (Gb sw) h) 900 1 (fun i h1 h2 => by
    have := lawN_le (n := n) (sy := sy) (sm := sm) hs1 i
    have l1 : (nI (lawN n sy ss sm i) ≤ (0 : Int32)) = (lawN n sy ss sm i ≤ 0) := le_nI (b := 0) (by omega) (by omega)
    have l2 : ((0 : Int32) < nI (lawN n sy ss sm i)) = (0 < lawN n sy ss sm i) := lt_nI (a := 0) (by omega) (by omega)
    rw [eX0_leastLayer_2]
    simp only [eX0_leastLayer_0, eX0_leastLayer_1, eX0_leastLayer_3, eX0_leastLayer_6, eX0_leastLayer_9, eX0_leastLayer_10, eX0_leastLayer_11, eX0_leastLayer_14, eX0_leastLayer_17, eX0_leastLayer_18, eX0_leastLayer_19, eX0_leastLayer_22, eX0_leastLayer_25, eX0_leastLayer_26, Option.toList_some, Option.toList_none, List.cons_append, List.nil_append, is01_0, is01_1, true_and, c_lawsFrom H hs1 (show i ≤ 900 by omega), nI_1, l1, l2, decide_eq_true_eq]
    rw [if_neg (show ¬ (900 : Int32) < nI i from nI_nlt (a := 900) (by omega) (by omega))]
    by_cases q : 0 < lawN n sy ss sm i
    · have q2 : ¬ lawN n sy ss sm i ≤ 0 := by omega
      simp [q, q2]
    · have q2 : lawN n sy ss sm i ≤ 0 := by omega
      simp [q, q2])
  refine key.trans ?_
  unfold fstL
  cases hx : xfind (fun y => decide (0 < lawN n sy ss sm y)) 1 900 with
  | some k => rfl
  | none =>
    simp only
    rw [eX0_leastLayer_2]
    simp only [eX0_leastLayer_0, eX0_leastLayer_1, eX0_leastLayer_3, eX0_leastLayer_6, eX0_leastLayer_9, eX0_leastLayer_10, eX0_leastLayer_11, eX0_leastLayer_14, eX0_leastLayer_17, eX0_leastLayer_18, eX0_leastLayer_19, eX0_leastLayer_22, eX0_leastLayer_25, eX0_leastLayer_26, Option.toList_some, Option.toList_none, List.cons_append, List.nil_append, is01_0, is01_1, true_and]
    rw [if_pos (show (900 : Int32) < nI (1 + 900) from nI_lt (a := 900) (by omega) (by omega))]
    rfl
/-- the model's row of counts -/
theorem m_findLaws {h0 : xH} (H0 : SNv h0 n sy ss sm) (hs1 : ∀ k, 1 ≤ ss k) : ∀ (m i : Nat) (a b : Value) (h : xH), i + m = 901 → 1 ≤ i → (∀ c, ¬ c = 155 → h c = h0 c) → (∀ y, 1 ≤ y → y < i → h 155 y = nI (lawN n sy ss sm y)) →
    ∃ h' : xH, (∀ c, ¬ c = 155 → h' c = h0 c) ∧ (∀ y, 1 ≤ y → y ≤ 900 → h' 155 y = nI (lawN n sy ss sm y)) ∧ ∀ Q : Option Value → xG → xH → Prop, EV X mX6_findLaws 0 0 2 [.ref 140, .int (nI i), a, b] [] (Gb sw) h Q = Q none (Gb sw) h' := by
  intro m
  induction m with
  | zero =>
    intro i a b h hi h1 he hy
    refine ⟨h, he, fun y q1 q2 => hy y q1 (by omega), fun Q => ?_⟩
    rw [eX6_findLaws_2]
    simp only [eX6_findLaws_0, eX6_findLaws_1, eX6_findLaws_3, eX6_findLaws_6, eX6_findLaws_9, eX6_findLaws_10, eX6_findLaws_11, eX6_findLaws_12, eX6_findLaws_14, eX6_findLaws_16, eX6_findLaws_19, eX6_findLaws_20, eX6_findLaws_21, eX6_findLaws_22, eX6_findLaws_23, eX6_findLaws_26, eX6_findLaws_29, eX6_findLaws_30, eX6_findLaws_33, eX6_findLaws_34, eX6_findLaws_35, eX6_findLaws_36, eX6_findLaws_39, eX6_findLaws_42, eX6_findLaws_43, eX6_findLaws_46, eX6_findLaws_47, eX6_findLaws_48, eX6_findLaws_49, eX6_findLaws_52, eX6_findLaws_55, Option.toList_some, Option.toList_none, List.cons_append, List.nil_append, is01_0, is01_1, true_and]
    rw [if_pos (show (900 : Int32) < nI i from nI_lt (a := 900) (by omega) (by omega))]
  | succ m ih =>
    intro i a b h hi h1 he hy
    have H : SNv h n sy ss sm := H0.mv he
    have inner : ∀ (p j : Nat) (Q : Option Value → xG → xH → Prop), j + p = 59 → EV X mX6_findLaws 0 0 13 [.ref 140, .int (nI i), .int (nI (fb_ct (fun t => okA n sy ss sm i (t + 2)) j)), .int (nI (j + 2))] [] (Gb sw) h Q = EV X mX6_findLaws 0 0 2 [.ref 140, .int (nI (i + 1)), .int (nI (lawN n sy ss sm i)), .int (nI 61)] [] (Gb sw) (xu h 155 i (nI (lawN n sy ss sm i))) Q := by
      intro p
      induction p with
      | zero =>
        intro j Q hj
        rw [show j = 59 by omega, ctA hs1, eX6_findLaws_13]
        simp only [eX6_findLaws_0, eX6_findLaws_1, eX6_findLaws_3, eX6_findLaws_6, eX6_findLaws_9, eX6_findLaws_10, eX6_findLaws_11, eX6_findLaws_12, eX6_findLaws_14, eX6_findLaws_16, eX6_findLaws_19, eX6_findLaws_20, eX6_findLaws_21, eX6_findLaws_22, eX6_findLaws_23, eX6_findLaws_26, eX6_findLaws_29, eX6_findLaws_30, eX6_findLaws_33, eX6_findLaws_34, eX6_findLaws_35, eX6_findLaws_36, eX6_findLaws_39, eX6_findLaws_42, eX6_findLaws_43, eX6_findLaws_46, eX6_findLaws_47, eX6_findLaws_48, eX6_findLaws_49, eX6_findLaws_52, eX6_findLaws_55, Option.toList_some, Option.toList_none, List.cons_append, List.nil_append, is01_0, is01_1, true_and, cl_nI (show i < 2147483648 by omega), inb_nIe (show i < 2147483648 by omega), show i < 901 by omega, nI_1]
        rw [if_pos (show (60 : Int32) < nI (59 + 2) from nI_lt (a := 60) (by omega) (by omega))]
      | succ p ihp =>
        intro j Q hj
        have e := ihp (j + 1) Q (by omega)
        rw [fb_ct_succ] at e
        rw [eX6_findLaws_13]
        simp only [eX6_findLaws_0, eX6_findLaws_1, eX6_findLaws_3, eX6_findLaws_6, eX6_findLaws_9, eX6_findLaws_10, eX6_findLaws_11, eX6_findLaws_12, eX6_findLaws_14, eX6_findLaws_16, eX6_findLaws_19, eX6_findLaws_20, eX6_findLaws_21, eX6_findLaws_22, eX6_findLaws_23, eX6_findLaws_26, eX6_findLaws_29, eX6_findLaws_30, eX6_findLaws_33, eX6_findLaws_34, eX6_findLaws_35, eX6_findLaws_36, eX6_findLaws_39, eX6_findLaws_42, eX6_findLaws_43, eX6_findLaws_46, eX6_findLaws_47, eX6_findLaws_48, eX6_findLaws_49, eX6_findLaws_52, eX6_findLaws_55, Option.toList_some, Option.toList_none, List.cons_append, List.nil_append, is01_0, is01_1, true_and, m_couldBe H (show i ≤ 900 by omega) (show j + 2 ≤ 60 by omega), b2_0, nI_1]
        rw [if_neg (show ¬ (60 : Int32) < nI (j + 2) from nI_nlt (a := 60) (by omega) (by omega))]
        have e2 : j + 1 + 2 = j + 2 + 1 := by omega
        rw [e2] at e
        by_cases q : okA n sy ss sm i (j + 2) = true
        · rw [if_pos q] at e
          have q2 : ¬ okA n sy ss sm i (j + 2) = false := by rw [q]; decide
          rw [if_neg q2]
          exact e
        · rw [if_neg q, Nat.add_zero] at e
          have q2 : okA n sy ss sm i (j + 2) = false := by simpa using q
          rw [if_pos q2, Int32.add_zero]
          exact e
    obtain ⟨h', e1, e2, e3⟩ := ih (i + 1) (.int (nI (lawN n sy ss sm i))) (.int (nI 61)) (xu h 155 i (nI (lawN n sy ss sm i))) (by omega) (by omega) (fun c hc => by rw [xun _ _ _ _ _ hc]; exact he c hc) (fun y q1 q2 => by
      rw [xus]
      by_cases q : y = i
      · rw [q, xps]
      · rw [xpn _ _ _ _ q]
        exact hy y q1 (by omega))
    refine ⟨h', e1, e2, fun Q => ?_⟩
    rw [← e3 Q, ← inner 59 0 Q (by omega), eX6_findLaws_2]
    simp only [eX6_findLaws_0, eX6_findLaws_1, eX6_findLaws_3, eX6_findLaws_6, eX6_findLaws_9, eX6_findLaws_10, eX6_findLaws_11, eX6_findLaws_12, eX6_findLaws_14, eX6_findLaws_16, eX6_findLaws_19, eX6_findLaws_20, eX6_findLaws_21, eX6_findLaws_22, eX6_findLaws_23, eX6_findLaws_26, eX6_findLaws_29, eX6_findLaws_30, eX6_findLaws_33, eX6_findLaws_34, eX6_findLaws_35, eX6_findLaws_36, eX6_findLaws_39, eX6_findLaws_42, eX6_findLaws_43, eX6_findLaws_46, eX6_findLaws_47, eX6_findLaws_48, eX6_findLaws_49, eX6_findLaws_52, eX6_findLaws_55, Option.toList_some, Option.toList_none, List.cons_append, List.nil_append, is01_0, is01_1, true_and]
    rw [if_neg (show ¬ (900 : Int32) < nI i from nI_nlt (a := 900) (by omega) (by omega))]
    rfl
theorem m_allLaws (hs1 : ∀ k, 1 ≤ ss k) (hy : ∀ y, 1 ≤ y → y ≤ 900 → h 155 y = nI (lawN n sy ss sm y)) : EV X mX6_allLaws 0 0 0 [.ref 140, .null, .null] [] (Gb sw) h Q = Q (some (.int (nI (sumL n sy ss sm 900)))) (Gb sw) h := by
  simp only [eX6_allLaws_0, eX6_allLaws_1, eX6_allLaws_2, eX6_allLaws_3, eX6_allLaws_5, eX6_allLaws_8, eX6_allLaws_11, eX6_allLaws_12, eX6_allLaws_13, eX6_allLaws_16, eX6_allLaws_17, eX6_allLaws_18, eX6_allLaws_19, eX6_allLaws_20, eX6_allLaws_23, eX6_allLaws_26, eX6_allLaws_27, Option.toList_some, Option.toList_none, List.cons_append, List.nil_append, is01_0, is01_1, true_and]
  have key : ∀ m i : Nat, i + m = 900 → EV X mX6_allLaws 0 0 4 [.ref 140, .int (nI (sumL n sy ss sm i)), .int (nI (i + 1))] [] (Gb sw) h Q = Q (some (.int (nI (sumL n sy ss sm 900)))) (Gb sw) h := by
    intro m
    induction m with
    | zero =>
      intro i hi
      rw [show i = 900 by omega, eX6_allLaws_4]
      simp only [eX6_allLaws_0, eX6_allLaws_1, eX6_allLaws_2, eX6_allLaws_3, eX6_allLaws_5, eX6_allLaws_8, eX6_allLaws_11, eX6_allLaws_12, eX6_allLaws_13, eX6_allLaws_16, eX6_allLaws_17, eX6_allLaws_18, eX6_allLaws_19, eX6_allLaws_20, eX6_allLaws_23, eX6_allLaws_26, eX6_allLaws_27, Option.toList_some, Option.toList_none, List.cons_append, List.nil_append, is01_0, is01_1, true_and]
      rw [if_pos (show (900 : Int32) < nI (900 + 1) from nI_lt (a := 900) (by omega) (by omega))]
    | succ m ih =>
      intro i hi
      have e := ih (i + 1) (by omega)
      rw [eX6_allLaws_4]
      simp only [eX6_allLaws_0, eX6_allLaws_1, eX6_allLaws_2, eX6_allLaws_3, eX6_allLaws_5, eX6_allLaws_8, eX6_allLaws_11, eX6_allLaws_12, eX6_allLaws_13, eX6_allLaws_16, eX6_allLaws_17, eX6_allLaws_18, eX6_allLaws_19, eX6_allLaws_20, eX6_allLaws_23, eX6_allLaws_26, eX6_allLaws_27, Option.toList_some, Option.toList_none, List.cons_append, List.nil_append, is01_0, is01_1, true_and, cl_nI (show i + 1 < 2147483648 by omega), inb_nIe (show i + 1 < 2147483648 by omega), show i + 1 < 901 by omega, hy (i + 1) (by omega) (by omega), addI_nI, nI_1]
      rw [if_neg (show ¬ (900 : Int32) < nI (i + 1) from nI_nlt (a := 900) (by omega) (by omega))]
      exact e
  exact key 900 0 (by omega)
theorem m_firstLaw (hs1 : ∀ k, 1 ≤ ss k) (hy : ∀ y, 1 ≤ y → y ≤ 900 → h 155 y = nI (lawN n sy ss sm y)) : EV X mX6_firstLaw 0 0 0 [.ref 140, .null] [] (Gb sw) h Q = Q (some (.int (encO (fstL n sy ss sm)))) (Gb sw) h := by
  simp only [eX6_firstLaw_0, eX6_firstLaw_1, eX6_firstLaw_3, eX6_firstLaw_6, eX6_firstLaw_9, eX6_firstLaw_10, eX6_firstLaw_13, eX6_firstLaw_14, eX6_firstLaw_15, eX6_firstLaw_18, eX6_firstLaw_19, eX6_firstLaw_20, eX6_firstLaw_23, eX6_firstLaw_26, eX6_firstLaw_27, Option.toList_some, Option.toList_none, List.cons_append, List.nil_append, is01_0, is01_1, true_and]
  have key := lp_find (c := fun y => decide (0 < lawN n sy ss sm y)) (fun i => EV X mX6_firstLaw 0 0 2 [.ref 140, .int (nI i)] [] (Gb sw) h Q) (fun i => Q (some (.int (nI i))) (Gb sw) h) 900 1 (fun i h1 h2 => by
    have := lawN_le (n := n) (sy := sy) (sm := sm) hs1 i
    have l1 : (nI (lawN n sy ss sm i) ≤ (0 : Int32)) = (lawN n sy ss sm i ≤ 0) := le_nI (b := 0) (by omega) (by omega)
    rw [eX6_firstLaw_2]
    simp only [eX6_firstLaw_0, eX6_firstLaw_1, eX6_firstLaw_3, eX6_firstLaw_6, eX6_firstLaw_9, eX6_firstLaw_10, eX6_firstLaw_13, eX6_firstLaw_14, eX6_firstLaw_15, eX6_firstLaw_18, eX6_firstLaw_19, eX6_firstLaw_20, eX6_firstLaw_23, eX6_firstLaw_26, eX6_firstLaw_27, Option.toList_some, Option.toList_none, List.cons_append, List.nil_append, is01_0, is01_1, true_and, cl_nI (show i < 2147483648 by omega), inb_nIe (show i < 2147483648 by omega), show i < 901 by omega, hy i (by omega) (by omega), nI_1, l1, decide_eq_true_eq]
    rw [if_neg (show ¬ (900 : Int32) < nI i from nI_nlt (a := 900) (by omega) (by omega))]
    by_cases q : 0 < lawN n sy ss sm i
    · have q2 : ¬ lawN n sy ss sm i ≤ 0 := by omega
      simp [q, q2]
    · have q2 : lawN n sy ss sm i ≤ 0 := by omega
      simp [q, q2])
  refine key.trans ?_
  unfold fstL
  cases hx : xfind (fun y => decide (0 < lawN n sy ss sm y)) 1 900 with
  | some k => rfl
  | none =>
    simp only
    rw [eX6_firstLaw_2]
    simp only [eX6_firstLaw_0, eX6_firstLaw_1, eX6_firstLaw_3, eX6_firstLaw_6, eX6_firstLaw_9, eX6_firstLaw_10, eX6_firstLaw_13, eX6_firstLaw_14, eX6_firstLaw_15, eX6_firstLaw_18, eX6_firstLaw_19, eX6_firstLaw_20, eX6_firstLaw_23, eX6_firstLaw_26, eX6_firstLaw_27, Option.toList_some, Option.toList_none, List.cons_append, List.nil_append, is01_0, is01_1, true_and]
    rw [if_pos (show (900 : Int32) < nI (1 + 900) from nI_lt (a := 900) (by omega) (by omega))]
    rfl
end LW2
