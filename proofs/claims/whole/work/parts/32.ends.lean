/-! ENDS -/
section EN
variable (fy fh : Nat → Nat)
def okE (e k : Nat) : Bool := decide ((if e = fy k then 1 else if fy k < e then 0 else 2) = fh k)
def leF (k s : Nat) : Nat := if fh k = 0 then (if s < fy k + 1 then fy k + 1 else s) else if fh k = 1 then (if s < fy k then fy k else s) else s
def geF (k s : Nat) : Nat := if fh k = 2 then (if fy k - 1 < s then fy k - 1 else s) else if fh k = 1 then (if fy k < s then fy k else s) else s
def leN (n : Nat) : Nat := xfold (leF fy fh) 0 n 1
def geN (n : Nat) : Nat := xfold (geF fy fh) 0 n 900
def ceN (e n : Nat) : Bool := xfold (fun k s => s && okE fy fh e k) 0 n true
end EN
theorem ce_iff {fy fh : Nat → Nat} {e : Nat} : ∀ n, (∀ k, k < n → 1 ≤ fy k ∧ fh k ≤ 2) → ((leN fy fh n ≤ e ∧ e ≤ geN fy fh n) ↔ (1 ≤ e ∧ e ≤ 900 ∧ ceN fy fh e n = true))
  | 0, _ => by
    show 1 ≤ e ∧ e ≤ 900 ↔ 1 ≤ e ∧ e ≤ 900 ∧ true = true
    simp
  | n + 1, H => by
    have ih := ce_iff (e := e) n (fun k hk => H k (by omega))
    obtain ⟨h1, h2⟩ := H n (by omega)
    have e1 : leN fy fh (n + 1) = leF fy fh n (leN fy fh n) := by unfold leN; rw [xfold_succ, Nat.zero_add]
    have e2 : geN fy fh (n + 1) = geF fy fh n (geN fy fh n) := by unfold geN; rw [xfold_succ, Nat.zero_add]
    have e3 : ceN fy fh e (n + 1) = (ceN fy fh e n && okE fy fh e n) := by unfold ceN; rw [xfold_succ, Nat.zero_add]
    rw [e1, e2, e3, Bool.and_eq_true]
    unfold leF geF okE
    generalize leN fy fh n = l at *
    generalize geN fy fh n = g at *
    generalize fy n = y at *
    rw [decide_eq_true_eq]
    rcases (show fh n = 0 ∨ fh n = 1 ∨ fh n = 2 by omega) with q | q | q
    · simp only [q, if_true, show ¬ (0 : Nat) = 2 by omega, show ¬ (0 : Nat) = 1 by omega, if_false]
      have : ((if e = y then 1 else if y < e then 0 else 2) = 0) ↔ y < e := by
        split
        · omega
        · split <;> omega
      rw [this]
      by_cases qc : ceN fy fh e n = true
      · simp only [qc, and_true, true_and] at ih ⊢
        split <;> omega
      · simp only [qc, and_false, false_and, iff_false, Bool.false_eq_true] at ih ⊢
        split <;> omega
    · simp only [q, if_true, show ¬ (1 : Nat) = 2 by omega, show ¬ (1 : Nat) = 0 by omega, if_false]
      have : ((if e = y then 1 else if y < e then 0 else 2) = 1) ↔ y = e := by
        split
        · omega
        · split <;> omega
      rw [this]
      by_cases qc : ceN fy fh e n = true
      · simp only [qc, and_true, true_and] at ih ⊢
        split <;> split <;> omega
      · simp only [qc, and_false, false_and, iff_false, Bool.false_eq_true] at ih ⊢
        split <;> split <;> omega
    · simp only [q, if_true, show ¬ (2 : Nat) = 0 by omega, show ¬ (2 : Nat) = 1 by omega, if_false]
      have : ((if e = y then 1 else if y < e then 0 else 2) = 2) ↔ e < y := by
        split
        · omega
        · split <;> omega
      rw [this]
      by_cases qc : ceN fy fh e n = true
      · simp only [qc, and_true, true_and] at ih ⊢
        split <;> omega
      · simp only [qc, and_false, false_and, iff_false, Bool.false_eq_true] at ih ⊢
        split <;> omega
theorem leN_b {fy fh : Nat → Nat} : ∀ n, (∀ k, k < n → fy k ≤ 900) → 1 ≤ leN fy fh n ∧ leN fy fh n ≤ 901
  | 0, _ => by show 1 ≤ 1 ∧ 1 ≤ 901; omega
  | n + 1, H => by
    have ih := leN_b (fh := fh) n (fun k hk => H k (by omega))
    have h1 := H n (by omega)
    have e1 : leN fy fh (n + 1) = leF fy fh n (leN fy fh n) := by unfold leN; rw [xfold_succ, Nat.zero_add]
    rw [e1]
    unfold leF
    repeat' split
    all_goals omega
theorem geN_b {fy fh : Nat → Nat} : ∀ n, geN fy fh n ≤ 900
  | 0 => by show 900 ≤ 900; omega
  | n + 1 => by
    have ih := geN_b (fy := fy) (fh := fh) n
    have e1 : geN fy fh (n + 1) = geF fy fh n (geN fy fh n) := by unfold geN; rw [xfold_succ, Nat.zero_add]
    rw [e1]
    unfold geF
    repeat' split
    all_goals omega
def FLv (h : xH) (n : Nat) (fy fh : Nat → Nat) : Prop := n ≤ 6 ∧ h 132 1 = nI n ∧ h 140 34 = nI n ∧ ∀ k, k < n → (h 136 k = nI (fy k) ∧ h 156 k = nI (fy k) ∧ h 137 k = nI (fh k) ∧ h 157 k = nI (fh k)) ∧ 1 ≤ fy k ∧ fy k ≤ 900 ∧ fh k ≤ 2
section EN2
variable {X : (Nat → Int32) × Nat} {g : xG} {h : xH} {Q : Option Value → xG → xH → Prop} {sw : Bool} {n : Nat} {fy fh : Nat → Nat}
theorem c_leastEnd (H : FLv h n fy fh) : EV X mX0_leastEnd 0 0 0 [.ref 132, .null, .null] [] (Gb sw) h Q = Q (some (.int (nI (leN fy fh n)))) (Gb sw) h := by
  obtain ⟨hn, c1, c2, c3⟩ := H
  simp only [eX0_leastEnd_0, eX0_leastEnd_1, eX0_leastEnd_2, eX0_leastEnd_3, eX0_leastEnd_5, eX0_leastEnd_6, eX0_leastEnd_9, eX0_leastEnd_12, eX0_leastEnd_13, eX0_leastEnd_16, eX0_leastEnd_17, eX0_leastEnd_18, eX0_leastEnd_21, eX0_leastEnd_22, eX0_leastEnd_23, eX0_leastEnd_26, eX0_leastEnd_27, eX0_leastEnd_28, eX0_leastEnd_29, eX0_leastEnd_30, eX0_leastEnd_33, eX0_leastEnd_34, eX0_leastEnd_37, eX0_leastEnd_38, eX0_leastEnd_41, eX0_leastEnd_42, eX0_leastEnd_43, eX0_leastEnd_44, eX0_leastEnd_47, eX0_leastEnd_48, eX0_leastEnd_49, eX0_leastEnd_52, eX0_leastEnd_53, eX0_leastEnd_54, eX0_leastEnd_57, eX0_leastEnd_58, eX0_leastEnd_61, eX0_leastEnd_64, eX0_leastEnd_65, Option.toList_some, Option.toList_none, List.cons_append, List.nil_append, is01_0, is01_1, true_and]
  have key := (lp_foldI (f := leF fy fh) (fun i (s : Nat) => EV X mX0_leastEnd 0 0 4 [.ref 132, .int (nI s), .int (nI i)] [] (Gb sw) h Q) (fun _ s => s ≤ 901) n 0 1 (by omega) (fun i s h1 h2 hI => by
    obtain ⟨⟨a1, -, a3, -⟩, b1, b2, b3⟩ := c3 i (by omega)
    have hcl : (nI i).toNatClampNeg = i := cl_nI (by omega)
    have hin : inb (nI i) 6 = True := by rw [inb_nIe (by omega)]; apply eq_true; omega
    have l1 : (nI s < nI (fy i + 1)) = (s < fy i + 1) := lt_nI (by omega) (by omega)
    have l2 : (nI s < nI (fy i)) = (s < fy i) := lt_nI (by omega) (by omega)
    have l3 : (nI (fh i) = 0) = (fh i = 0) := eq_nI (b := 0) (by omega) (by omega)
    have l4 : (nI (fh i) = 1) = (fh i = 1) := eq_nI (b := 1) (by omega) (by omega)
    refine ⟨?_, ?_⟩
    · rw [eX0_leastEnd_4]
      simp only [eX0_leastEnd_0, eX0_leastEnd_1, eX0_leastEnd_2, eX0_leastEnd_3, eX0_leastEnd_5, eX0_leastEnd_6, eX0_leastEnd_9, eX0_leastEnd_12, eX0_leastEnd_13, eX0_leastEnd_16, eX0_leastEnd_17, eX0_leastEnd_18, eX0_leastEnd_21, eX0_leastEnd_22, eX0_leastEnd_23, eX0_leastEnd_26, eX0_leastEnd_27, eX0_leastEnd_28, eX0_leastEnd_29, eX0_leastEnd_30, eX0_leastEnd_33, eX0_leastEnd_34, eX0_leastEnd_37, eX0_leastEnd_38, eX0_leastEnd_41, eX0_leastEnd_42, eX0_leastEnd_43, eX0_leastEnd_44, eX0_leastEnd_47, eX0_leastEnd_48, eX0_leastEnd_49, eX0_leastEnd_52, eX0_leastEnd_53, eX0_leastEnd_54, eX0_leastEnd_57, eX0_leastEnd_58, eX0_leastEnd_61, eX0_leastEnd_64, eX0_leastEnd_65, Option.toList_some, Option.toList_none, List.cons_append, List.nil_append, is01_0, is01_1, true_and, c1, hcl, hin, a1, a3, nI_1, l1, l2, l3, l4]
      rw [if_neg (nI_ge (by omega) (by omega))]
      unfold leF
      by_cases q : fh i = 0
      · by_cases q2 : s < fy i + 1 <;> simp only [q, q2, if_true, if_false]
      · by_cases q3 : fh i = 1
        · by_cases q2 : s < fy i <;> simp only [q3, q2, if_true, if_false, show ¬ (1 : Nat) = 0 by omega]
        · simp only [q, q3, if_false]
    · unfold leF
      repeat' split
      all_goals omega)).1
  refine key.trans ?_
  rw [Nat.zero_add, eX0_leastEnd_4]
  simp only [eX0_leastEnd_0, eX0_leastEnd_1, eX0_leastEnd_2, eX0_leastEnd_3, eX0_leastEnd_5, eX0_leastEnd_6, eX0_leastEnd_9, eX0_leastEnd_12, eX0_leastEnd_13, eX0_leastEnd_16, eX0_leastEnd_17, eX0_leastEnd_18, eX0_leastEnd_21, eX0_leastEnd_22, eX0_leastEnd_23, eX0_leastEnd_26, eX0_leastEnd_27, eX0_leastEnd_28, eX0_leastEnd_29, eX0_leastEnd_30, eX0_leastEnd_33, eX0_leastEnd_34, eX0_leastEnd_37, eX0_leastEnd_38, eX0_leastEnd_41, eX0_leastEnd_42, eX0_leastEnd_43, eX0_leastEnd_44, eX0_leastEnd_47, eX0_leastEnd_48, eX0_leastEnd_49, eX0_leastEnd_52, eX0_leastEnd_53, eX0_leastEnd_54, eX0_leastEnd_57, eX0_leastEnd_58, eX0_leastEnd_61, eX0_leastEnd_64, eX0_leastEnd_65, Option.toList_some, Option.toList_none, List.cons_append, List.nil_append, is01_0, is01_1, true_and, c1]
  rw [if_pos (nI_le (by omega) (by omega))]
  rfl
theorem c_greatEnd (H : FLv h n fy fh) : EV X mX0_greatestEnd 0 0 0 [.ref 132, .null, .null] [] (Gb sw) h Q = Q (some (.int (nI (geN fy fh n)))) (Gb sw) h := by
  obtain ⟨hn, c1, c2, c3⟩ := H
  simp only [eX0_greatestEnd_0, eX0_greatestEnd_3, eX0_greatestEnd_4, eX0_greatestEnd_5, eX0_greatestEnd_7, eX0_greatestEnd_8, eX0_greatestEnd_11, eX0_greatestEnd_14, eX0_greatestEnd_15, eX0_greatestEnd_18, eX0_greatestEnd_19, eX0_greatestEnd_20, eX0_greatestEnd_21, eX0_greatestEnd_24, eX0_greatestEnd_25, eX0_greatestEnd_26, eX0_greatestEnd_29, eX0_greatestEnd_30, eX0_greatestEnd_31, eX0_greatestEnd_32, eX0_greatestEnd_33, eX0_greatestEnd_36, eX0_greatestEnd_37, eX0_greatestEnd_40, eX0_greatestEnd_41, eX0_greatestEnd_44, eX0_greatestEnd_45, eX0_greatestEnd_46, eX0_greatestEnd_47, eX0_greatestEnd_50, eX0_greatestEnd_51, eX0_greatestEnd_52, eX0_greatestEnd_55, eX0_greatestEnd_56, eX0_greatestEnd_57, eX0_greatestEnd_60, eX0_greatestEnd_61, eX0_greatestEnd_64, eX0_greatestEnd_67, eX0_greatestEnd_68, Option.toList_some, Option.toList_none, List.cons_append, List.nil_append, is01_0, is01_1, true_and]
  have key := (lp_foldI (f := geF fy fh) (fun i (s : Nat) => EV X mX0_greatestEnd 0 0 6 [.ref 132, .int (nI s), .int (nI i)] [] (Gb sw) h Q) (fun _ s => s ≤ 900) n 0 900 (by omega) (fun i s h1 h2 hI => by
    obtain ⟨⟨a1, -, a3, -⟩, b1, b2, b3⟩ := c3 i (by omega)
    have hcl : (nI i).toNatClampNeg = i := cl_nI (by omega)
    have hin : inb (nI i) 6 = True := by rw [inb_nIe (by omega)]; apply eq_true; omega
    have e1 : nI (fy i) - 1 = nI (fy i - 1) := pk_sub (b := 1) (by omega)
    have l1 : (nI (fy i - 1) < nI s) = (fy i - 1 < s) := lt_nI (by omega) (by omega)
    have l2 : (nI (fy i) < nI s) = (fy i < s) := lt_nI (by omega) (by omega)
    have l3 : (nI (fh i) = 2) = (fh i = 2) := eq_nI (b := 2) (by omega) (by omega)
    have l4 : (nI (fh i) = 1) = (fh i = 1) := eq_nI (b := 1) (by omega) (by omega)
    refine ⟨?_, ?_⟩
    · rw [eX0_greatestEnd_6]
      simp only [eX0_greatestEnd_0, eX0_greatestEnd_3, eX0_greatestEnd_4, eX0_greatestEnd_5, eX0_greatestEnd_7, eX0_greatestEnd_8, eX0_greatestEnd_11, eX0_greatestEnd_14, eX0_greatestEnd_15, eX0_greatestEnd_18, eX0_greatestEnd_19, eX0_greatestEnd_20, eX0_greatestEnd_21, eX0_greatestEnd_24, eX0_greatestEnd_25, eX0_greatestEnd_26, eX0_greatestEnd_29, eX0_greatestEnd_30, eX0_greatestEnd_31, eX0_greatestEnd_32, eX0_greatestEnd_33, eX0_greatestEnd_36, eX0_greatestEnd_37, eX0_greatestEnd_40, eX0_greatestEnd_41, eX0_greatestEnd_44, eX0_greatestEnd_45, eX0_greatestEnd_46, eX0_greatestEnd_47, eX0_greatestEnd_50, eX0_greatestEnd_51, eX0_greatestEnd_52, eX0_greatestEnd_55, eX0_greatestEnd_56, eX0_greatestEnd_57, eX0_greatestEnd_60, eX0_greatestEnd_61, eX0_greatestEnd_64, eX0_greatestEnd_67, eX0_greatestEnd_68, Option.toList_some, Option.toList_none, List.cons_append, List.nil_append, is01_0, is01_1, true_and, c1, hcl, hin, a1, a3, nI_1, e1, l1, l2, l3, l4]
      rw [if_neg (nI_ge (by omega) (by omega))]
      unfold geF
      by_cases q : fh i = 2
      · by_cases q2 : fy i - 1 < s <;> simp only [q, q2, if_true, if_false]
      · by_cases q3 : fh i = 1
        · by_cases q2 : fy i < s <;> simp only [q3, q2, if_true, if_false, show ¬ (1 : Nat) = 2 by omega]
        · simp only [q, q3, if_false]
    · unfold geF
      repeat' split
      all_goals omega)).1
  refine key.trans ?_
  rw [Nat.zero_add, eX0_greatestEnd_6]
  simp only [eX0_greatestEnd_0, eX0_greatestEnd_3, eX0_greatestEnd_4, eX0_greatestEnd_5, eX0_greatestEnd_7, eX0_greatestEnd_8, eX0_greatestEnd_11, eX0_greatestEnd_14, eX0_greatestEnd_15, eX0_greatestEnd_18, eX0_greatestEnd_19, eX0_greatestEnd_20, eX0_greatestEnd_21, eX0_greatestEnd_24, eX0_greatestEnd_25, eX0_greatestEnd_26, eX0_greatestEnd_29, eX0_greatestEnd_30, eX0_greatestEnd_31, eX0_greatestEnd_32, eX0_greatestEnd_33, eX0_greatestEnd_36, eX0_greatestEnd_37, eX0_greatestEnd_40, eX0_greatestEnd_41, eX0_greatestEnd_44, eX0_greatestEnd_45, eX0_greatestEnd_46, eX0_greatestEnd_47, eX0_greatestEnd_50, eX0_greatestEnd_51, eX0_greatestEnd_52, eX0_greatestEnd_55, eX0_greatestEnd_56, eX0_greatestEnd_57, eX0_greatestEnd_60, eX0_greatestEnd_61, eX0_greatestEnd_64, eX0_greatestEnd_67, eX0_greatestEnd_68, Option.toList_some, Option.toList_none, List.cons_append, List.nil_append, is01_0, is01_1, true_and, c1]
  rw [if_pos (nI_le (by omega) (by omega))]
  rfl
theorem m_couldEnd (H : FLv h n fy fh) {e : Nat} (he : e ≤ 900) : EV X mX6_couldEnd 0 0 0 [.ref 140, .int (nI e), .null, .null, .null] [] (Gb sw) h Q = Q (some (.int (b2 (ceN fy fh e n)))) (Gb sw) h := by
  obtain ⟨hn, c1, c2, c3⟩ := H
  simp only [eX6_couldEnd_0, eX6_couldEnd_1, eX6_couldEnd_2, eX6_couldEnd_3, eX6_couldEnd_5, eX6_couldEnd_6, eX6_couldEnd_9, eX6_couldEnd_12, eX6_couldEnd_13, eX6_couldEnd_14, eX6_couldEnd_17, eX6_couldEnd_18, eX6_couldEnd_19, eX6_couldEnd_22, eX6_couldEnd_23, eX6_couldEnd_26, eX6_couldEnd_27, eX6_couldEnd_28, eX6_couldEnd_31, eX6_couldEnd_32, eX6_couldEnd_33, eX6_couldEnd_36, eX6_couldEnd_37, eX6_couldEnd_40, eX6_couldEnd_41, eX6_couldEnd_43, eX6_couldEnd_44, eX6_couldEnd_47, eX6_couldEnd_49, eX6_couldEnd_50, eX6_couldEnd_53, eX6_couldEnd_54, eX6_couldEnd_55, eX6_couldEnd_58, eX6_couldEnd_59, eX6_couldEnd_62, eX6_couldEnd_63, eX6_couldEnd_64, eX6_couldEnd_67, eX6_couldEnd_70, eX6_couldEnd_71, Option.toList_some, Option.toList_none, List.cons_append, List.nil_append, is01_0, is01_1, true_and]
  have key : ∀ (m i : Nat) (s : Bool) (z : Value), i + m = n → EV X mX6_couldEnd 0 0 4 [.ref 140, .int (nI e), .int (b2 s), .int (nI i), z] [] (Gb sw) h Q = Q (some (.int (b2 (xfold (fun k s => s && okE fy fh e k) i m s)))) (Gb sw) h := by
    intro m
    induction m with
    | zero =>
      intro i s z hi
      rw [eX6_couldEnd_4]
      simp only [eX6_couldEnd_0, eX6_couldEnd_1, eX6_couldEnd_2, eX6_couldEnd_3, eX6_couldEnd_5, eX6_couldEnd_6, eX6_couldEnd_9, eX6_couldEnd_12, eX6_couldEnd_13, eX6_couldEnd_14, eX6_couldEnd_17, eX6_couldEnd_18, eX6_couldEnd_19, eX6_couldEnd_22, eX6_couldEnd_23, eX6_couldEnd_26, eX6_couldEnd_27, eX6_couldEnd_28, eX6_couldEnd_31, eX6_couldEnd_32, eX6_couldEnd_33, eX6_couldEnd_36, eX6_couldEnd_37, eX6_couldEnd_40, eX6_couldEnd_41, eX6_couldEnd_43, eX6_couldEnd_44, eX6_couldEnd_47, eX6_couldEnd_49, eX6_couldEnd_50, eX6_couldEnd_53, eX6_couldEnd_54, eX6_couldEnd_55, eX6_couldEnd_58, eX6_couldEnd_59, eX6_couldEnd_62, eX6_couldEnd_63, eX6_couldEnd_64, eX6_couldEnd_67, eX6_couldEnd_70, eX6_couldEnd_71, Option.toList_some, Option.toList_none, List.cons_append, List.nil_append, is01_0, is01_1, true_and, c2, b2_is]
      rw [if_pos (nI_le (by omega) (by omega))]
      rfl
    | succ m ih =>
      intro i s z hi
      obtain ⟨⟨-, a2, -, a4⟩, b1, b2', b3⟩ := c3 i (by omega)
      have hcl : (nI i).toNatClampNeg = i := cl_nI (by omega)
      have hin : inb (nI i) 6 = True := by rw [inb_nIe (by omega)]; apply eq_true; omega
      have l1 : (nI e = nI (fy i)) = (e = fy i) := eq_nI (by omega) (by omega)
      have l2 : (nI e ≤ nI (fy i)) = (e ≤ fy i) := le_nI (by omega) (by omega)
      have l3 : (1 = nI (fh i)) = (1 = fh i) := eq_nI (a := 1) (by omega) (by omega)
      have l4 : (2 = nI (fh i)) = (2 = fh i) := eq_nI (a := 2) (by omega) (by omega)
      have l5 : (0 = nI (fh i)) = (0 = fh i) := eq_nI (a := 0) (by omega) (by omega)
      have ex : xfold (fun k s => s && okE fy fh e k) i (m + 1) s = xfold (fun k s => s && okE fy fh e k) (i + 1) m (s && okE fy fh e i) := rfl
      have i0 := fun z => ih (i + 1) false z (by omega)
      have i1 := fun z => ih (i + 1) true z (by omega)
      have z0 : b2 false = 0 := rfl
      have z1 : b2 true = 1 := rfl
      rw [z0] at i0
      rw [z1] at i1
      rw [ex, eX6_couldEnd_4]
      simp only [eX6_couldEnd_0, eX6_couldEnd_1, eX6_couldEnd_2, eX6_couldEnd_3, eX6_couldEnd_5, eX6_couldEnd_6, eX6_couldEnd_9, eX6_couldEnd_12, eX6_couldEnd_13, eX6_couldEnd_14, eX6_couldEnd_17, eX6_couldEnd_18, eX6_couldEnd_19, eX6_couldEnd_22, eX6_couldEnd_23, eX6_couldEnd_26, eX6_couldEnd_27, eX6_couldEnd_28, eX6_couldEnd_31, eX6_couldEnd_32, eX6_couldEnd_33, eX6_couldEnd_36, eX6_couldEnd_37, eX6_couldEnd_40, eX6_couldEnd_41, eX6_couldEnd_43, eX6_couldEnd_44, eX6_couldEnd_47, eX6_couldEnd_49, eX6_couldEnd_50, eX6_couldEnd_53, eX6_couldEnd_54, eX6_couldEnd_55, eX6_couldEnd_58, eX6_couldEnd_59, eX6_couldEnd_62, eX6_couldEnd_63, eX6_couldEnd_64, eX6_couldEnd_67, eX6_couldEnd_70, eX6_couldEnd_71, Option.toList_some, Option.toList_none, List.cons_append, List.nil_append, is01_0, is01_1, true_and, c2, hcl, hin, a2, a4, nI_1, l1, l2, l3, l4, l5, b2_0, i0, i1]
      rw [if_neg (nI_ge (by omega) (by omega))]
      unfold okE
      cases s with
      | false => simp
      | true =>
        by_cases q : e = fy i
        · by_cases q2 : 1 = fh i <;> simp [q, q2]
        · by_cases q3 : e ≤ fy i
          · have q4 : ¬ fy i < e := by omega
            by_cases q2 : 2 = fh i <;> simp [q, q2, q3, q4]
          · have q4 : fy i < e := by omega
            by_cases q2 : 0 = fh i <;> simp [q, q2, q3, q4]
  exact key n 0 true .null (by omega)
theorem m_endBehind (H : FLv h n fy fh) (x : Int32) : ∀ (m e l : Nat), e + m = 901 → 1 ≤ e → l ≤ 900 → EV X mX6_endBehind 0 0 4 [.ref 140, .int x, .int (nI l), .int (nI e)] [] (Gb sw) h Q = Q (some (.int (if (if e < leN fy fh n then leN fy fh n else e) + l ≤ geN fy fh n then nI ((if e < leN fy fh n then leN fy fh n else e) + l) else -1))) (Gb sw) h := by
  have hg := geN_b (fy := fy) (fh := fh) n
  have hk : ∀ k, k < n → 1 ≤ fy k ∧ fh k ≤ 2 := fun k hk => ⟨(H.2.2.2 k hk).2.1, (H.2.2.2 k hk).2.2.2⟩
  intro m
  induction m with
  | zero =>
    intro e l he h1 hl
    have : ¬ (if e < leN fy fh n then leN fy fh n else e) + l ≤ geN fy fh n := by split <;> omega
    rw [if_neg this, eX6_endBehind_4]
    simp only [eX6_endBehind_0, eX6_endBehind_1, eX6_endBehind_2, eX6_endBehind_3, eX6_endBehind_5, eX6_endBehind_8, eX6_endBehind_11, eX6_endBehind_12, eX6_endBehind_13, eX6_endBehind_16, eX6_endBehind_19, eX6_endBehind_20, eX6_endBehind_23, eX6_endBehind_24, eX6_endBehind_25, eX6_endBehind_28, eX6_endBehind_31, eX6_endBehind_34, eX6_endBehind_35, Option.toList_some, Option.toList_none, List.cons_append, List.nil_append, is01_0, is01_1, true_and]
    rw [if_pos (show (900 : Int32) < nI e from nI_lt (a := 900) (by omega) (by omega))]
  | succ m ih =>
    intro e l he h1 hl
    have ci := ce_iff (e := e) n hk
    rw [eX6_endBehind_4]
    have l0 : (nI l = 0) = (l = 0) := eq_nI (b := 0) (by omega) (by omega)
    simp only [eX6_endBehind_0, eX6_endBehind_1, eX6_endBehind_2, eX6_endBehind_3, eX6_endBehind_5, eX6_endBehind_8, eX6_endBehind_11, eX6_endBehind_12, eX6_endBehind_13, eX6_endBehind_16, eX6_endBehind_19, eX6_endBehind_20, eX6_endBehind_23, eX6_endBehind_24, eX6_endBehind_25, eX6_endBehind_28, eX6_endBehind_31, eX6_endBehind_34, eX6_endBehind_35, Option.toList_some, Option.toList_none, List.cons_append, List.nil_append, is01_0, is01_1, true_and, m_couldEnd H (show e ≤ 900 by omega), b2_0, l0, nI_1]
    rw [if_neg (show ¬ (900 : Int32) < nI e from nI_nlt (a := 900) (by omega) (by omega))]
    by_cases q : ceN fy fh e n = true
    · have q2 : ¬ ceN fy fh e n = false := by rw [q]; decide
      obtain ⟨g1, g2⟩ := ci.mpr ⟨h1, by omega, q⟩
      rw [if_neg q2, if_neg (show ¬ e < leN fy fh n by omega)]
      by_cases q3 : l = 0
      · subst q3
        simp only [if_true, not_true, if_false, Nat.add_zero]
        rw [if_pos g2]
      · have e1 : nI l + -1 = nI (l - 1) := by
          have : nI l - 1 = nI (l - 1) := pk_sub (b := 1) (by omega)
          rw [← this, Int32.sub_eq_add_neg]
        simp only [q3, not_false_iff, if_true, if_false, e1]
        rw [ih (e + 1) (l - 1) (by omega) (by omega) (by omega), if_neg (show ¬ e + 1 < leN fy fh n by omega), show e + 1 + (l - 1) = e + l by omega]
    · have q2 : ceN fy fh e n = false := by simpa using q
      rw [if_pos q2]
      rw [ih (e + 1) l (by omega) (by omega) hl]
      by_cases q3 : e < leN fy fh n
      · rw [if_pos q3]
        have : (if e + 1 < leN fy fh n then leN fy fh n else e + 1) = leN fy fh n := by split <;> omega
        rw [this]
      · rw [if_neg q3, if_neg (show ¬ e + 1 < leN fy fh n by omega)]
        have : ¬ e ≤ geN fy fh n := fun z => q (ci.mp ⟨by omega, z⟩).2.2
        rw [if_neg (by omega), if_neg (by omega)]
end EN2
section OPS
variable {X : (Nat → Int32) × Nat}
theorem p_ends (z : Int32) : OpK X mX5_ends mX6_ends [.ref 0, .int z, .null, .null, .null] [.ref 140, .int z, .null, .null] := OpK.of fun sw h NL G w v H => by
  by_cases c : 0 ≤ z ∧ z ≤ 3
  · obtain ⟨n, fy, fh, hF⟩ : ∃ n fy fh, FLv h n fy fh := H.2.2.2.2.1
    have hk : ∀ k, k < n → 1 ≤ fy k ∧ fh k ≤ 2 := fun k hk => ⟨(hF.2.2.2 k hk).2.1, (hF.2.2.2 k hk).2.2.2⟩
    have hle := leN_b (fh := fh) n (fun k hk => (hF.2.2.2 k hk).2.2.1)
    have hge := geN_b (fy := fy) (fh := fh) n
    have hct : fb_ct (fun t => ceN fy fh (t + 1) n) 900 = geN fy fh n + 1 - leN fy fh n := by
      have : fb_ct (fun t => ceN fy fh (t + 1) n) 900 = fb_ct (fun t => decide (leN fy fh n - 1 ≤ t ∧ t < geN fy fh n)) 900 := by
        apply fb_ct_cong
        intro t ht
        have := ce_iff (e := t + 1) n hk
        rw [Bool.eq_iff_iff, decide_eq_true_eq]
        constructor
        · intro q
          have := this.mpr ⟨by omega, by omega, q⟩
          omega
        · intro q
          exact (this.mp ⟨by omega, by omega⟩).2.2
      rw [this, ct_int]
      split <;> omega
    have mloop : ∀ (Q : Option Value → xG → xH → Prop) (m i : Nat), i + m = 900 → EV X mX6_ends 0 0 19 [.ref 140, .int z, .int (nI (fb_ct (fun t => ceN fy fh (t + 1) n) i)), .int (nI (i + 1))] [] (Gb sw) h Q = EV X mX6_ends 0 0 49 [.ref 140, .int z, .int (nI (geN fy fh n + 1 - leN fy fh n)), .int (nI 901)] [.int z] (Gb sw) h Q := by
      intro Q m
      induction m with
      | zero =>
        intro i hi
        rw [show i = 900 by omega, eX6_ends_19, hct]
        simp only [eX6_ends_20, eX6_ends_23, eX6_ends_48, Option.toList_some, Option.toList_none, List.cons_append, List.nil_append, is01_0, is01_1, true_and]
        rw [if_pos (show (900 : Int32) < nI (900 + 1) from nI_lt (a := 900) (by omega) (by omega))]
      | succ m ih =>
        intro i hi
        rw [← ih (i + 1) (by omega), fb_ct_succ]
        conv => lhs; rw [eX6_ends_19]
        simp only [eX6_ends_0, eX6_ends_1, eX6_ends_2, eX6_ends_3, eX6_ends_6, eX6_ends_9, eX6_ends_12, eX6_ends_14, eX6_ends_15, eX6_ends_16, eX6_ends_17, eX6_ends_18, eX6_ends_20, eX6_ends_23, eX6_ends_26, eX6_ends_27, eX6_ends_28, eX6_ends_29, eX6_ends_32, eX6_ends_35, eX6_ends_36, eX6_ends_39, eX6_ends_40, eX6_ends_41, eX6_ends_42, eX6_ends_45, eX6_ends_48, eX6_ends_49_c0, eX6_ends_49_c1, eX6_ends_49_c2, eX6_ends_76, eX6_ends_77, eX6_ends_78, eX6_ends_79, eX6_ends_80, eX6_ends_83, eX6_ends_84, eX6_ends_85, eX6_ends_88, eX6_ends_89, eX6_ends_92, eX6_ends_93, eX6_ends_94, eX6_ends_95, eX6_ends_96, eX6_ends_99, eX6_ends_100, eX6_ends_101, eX6_ends_104, eX6_ends_105, eX6_ends_108, eX6_ends_109, eX6_ends_110, eX6_ends_111, eX6_ends_112, eX6_ends_113, eX6_ends_114, eX6_ends_117, Option.toList_some, Option.toList_none, List.cons_append, List.nil_append, is01_0, is01_1, true_and, m_couldEnd hF (show i + 1 ≤ 900 by omega), b2_0, nI_1]
        rw [if_neg (show ¬ (900 : Int32) < nI (i + 1) from nI_nlt (a := 900) (by omega) (by omega))]
        by_cases q : ceN fy fh (i + 1) n = true
        · have q2 : ¬ ceN fy fh (i + 1) n = false := by rw [q]; decide
          rw [if_neg q2, if_pos q]
        · have q2 : ceN fy fh (i + 1) n = false := by simpa using q
          rw [if_pos q2, if_neg q, Int32.add_zero]
          rfl
    have mloop0 : ∀ (Q : Option Value → xG → xH → Prop), EV X mX6_ends 0 0 19 [.ref 140, .int z, .int 0, .int 1] [] (Gb sw) h Q = EV X mX6_ends 0 0 49 [.ref 140, .int z, .int (nI (geN fy fh n + 1 - leN fy fh n)), .int (nI 901)] [.int z] (Gb sw) h Q := fun Q => mloop Q 900 0 (by omega)
    have mbeh : ∀ (Q : Option Value → xG → xH → Prop) (l : Nat), l ≤ 900 → EV X mX6_endBehind 0 0 0 [.ref 140, .int (nI l), .null, .null] [] (Gb sw) h Q = Q (some (.int (if leN fy fh n + l ≤ geN fy fh n then nI (leN fy fh n + l) else -1))) (Gb sw) h := by
      intro Q l hl
      simp only [eX6_endBehind_0, eX6_endBehind_1, eX6_endBehind_2, eX6_endBehind_3, eX6_endBehind_5, eX6_endBehind_8, eX6_endBehind_11, eX6_endBehind_12, eX6_endBehind_13, eX6_endBehind_16, eX6_endBehind_19, eX6_endBehind_20, eX6_endBehind_23, eX6_endBehind_24, eX6_endBehind_25, eX6_endBehind_28, eX6_endBehind_31, eX6_endBehind_34, eX6_endBehind_35, Option.toList_some, Option.toList_none, List.cons_append, List.nil_append, is01_0, is01_1, true_and]
      refine (m_endBehind hF (nI l) 900 1 l (by omega) (by omega) hl).trans ?_
      have : (if 1 < leN fy fh n then leN fy fh n else 1) = leN fy fh n := by split <;> omega
      rw [this]
    have hcL := fun Q => c_leastEnd (X := X) (Q := Q) (sw := sw) hF
    have hcG := fun Q => c_greatEnd (X := X) (Q := Q) (sw := sw) hF
    generalize leN fy fh n = a at *
    generalize geN fy fh n = b at *
    have hcnt : (if (0 : Int32) < nI b - nI a + 1 then nI b - nI a + 1 else 0) = nI (b + 1 - a) := by
      have e1 : (nI b - nI a).toInt = (b : Int) - a := pk_sub_toInt (by omega) (by omega)
      have e2 : (nI b - nI a + 1).toInt = (b : Int) - a + 1 := by
        rw [fb_addI (by rw [e1]; show _ ≤ _ + (1 : Int); omega) (by rw [e1]; show _ + (1 : Int) < _; omega), e1]
        rfl
      have e0 : (0 : Int32).toInt = 0 := rfl
      by_cases q3 : (0 : Int32) < nI b - nI a + 1
      · rw [if_pos q3]
        rw [fa_lt, e2] at q3
        apply Int32.toInt_inj.mp
        rw [e2, nI_toInt (by omega)]
        omega
      · rw [if_neg q3]
        rw [fa_lt, e2] at q3
        rw [show b + 1 - a = 0 by omega]
        rfl
    have z00 : (nI 0 = (0 : Int32)) = True := eq_true rfl
    have hz : (nI (b + 1 - a) = 0) = (b + 1 - a = 0) := eq_nI (b := 0) (by omega) (by omega)
    have hs : ¬ b + 1 - a = 0 → nI (b + 1 - a) - 1 = nI (b - a) := fun q => by
      rw [show b - a = b + 1 - a - 1 by omega]
      exact pk_sub (b := 1) (by omega)
    have hdv : nI (b - a) / 2 = nI ((b - a) / 2) := pk_div (d := 2) (by omega) (by omega) (by omega)
    by_cases z0 : z = 0
    · subst z0
      refine ⟨nI (b + 1 - a), fun Q => ?_, fun Q => ?_⟩
      · simp only [eX5_ends_0, eX5_ends_1, eX5_ends_2, eX5_ends_3, eX5_ends_6, eX5_ends_9, eX5_ends_11, eX5_ends_12, eX5_ends_13, eX5_ends_16, eX5_ends_19, eX5_ends_20, eX5_ends_21, eX5_ends_24, eX5_ends_27, eX5_ends_28, eX5_ends_29, eX5_ends_30, eX5_ends_31, eX5_ends_32, eX5_ends_33, eX5_ends_34, eX5_ends_37, eX5_ends_39, eX5_ends_40, eX5_ends_43, eX5_ends_45, eX5_ends_46, eX5_ends_48, eX5_ends_51, eX5_ends_52, eX5_ends_53, eX5_ends_54, eX5_ends_55, eX5_ends_58, eX5_ends_59, eX5_ends_60, eX5_ends_61, eX5_ends_62, eX5_ends_65, eX5_ends_66, eX5_ends_69, eX5_ends_70, eX5_ends_72, eX5_ends_73, eX5_ends_74, eX5_ends_75, eX5_ends_76, eX5_ends_77, Option.toList_some, Option.toList_none, List.cons_append, List.nil_append, is01_0, is01_1, true_and, r_isOutside, b01_0, out_in, c, and_self, if_true, hcL, hcG, hcnt]
      · simp only [eX6_ends_0, eX6_ends_1, eX6_ends_2, eX6_ends_3, eX6_ends_6, eX6_ends_9, eX6_ends_12, eX6_ends_14, eX6_ends_15, eX6_ends_16, eX6_ends_17, eX6_ends_18, eX6_ends_20, eX6_ends_23, eX6_ends_26, eX6_ends_27, eX6_ends_28, eX6_ends_29, eX6_ends_32, eX6_ends_35, eX6_ends_36, eX6_ends_39, eX6_ends_40, eX6_ends_41, eX6_ends_42, eX6_ends_45, eX6_ends_48, eX6_ends_49_c0, eX6_ends_49_c1, eX6_ends_49_c2, eX6_ends_76, eX6_ends_77, eX6_ends_78, eX6_ends_79, eX6_ends_80, eX6_ends_83, eX6_ends_84, eX6_ends_85, eX6_ends_88, eX6_ends_89, eX6_ends_92, eX6_ends_93, eX6_ends_94, eX6_ends_95, eX6_ends_96, eX6_ends_99, eX6_ends_100, eX6_ends_101, eX6_ends_104, eX6_ends_105, eX6_ends_108, eX6_ends_109, eX6_ends_110, eX6_ends_111, eX6_ends_112, eX6_ends_113, eX6_ends_114, eX6_ends_117, Option.toList_some, Option.toList_none, List.cons_append, List.nil_append, is01_0, is01_1, true_and, r_in, b01_0, wl_0, wr_0, wl_1, wr_1, wl_2, wr_2, wl_3, wr_3, wl_20, wr_20, wl_48, wr_48, wl_57, wr_57, wl_60, wr_60, wl_100, wr_100, wl_255, wr_255, wl_500, wr_500, wl_900, wr_900, wl_999, wr_999, wl_12345, wr_12345, wl_999999, wr_999999, wl_99999999, wr_99999999, wl_1000000000, wr_1000000000, wl_1103515245, wr_1103515245, c, and_self, not_true, if_true, if_false, mloop0]
    by_cases z1 : z = 1
    · subst z1
      by_cases q : b + 1 - a = 0
      · refine ⟨-1, fun Q => ?_, fun Q => ?_⟩
        · simp only [eX5_ends_0, eX5_ends_1, eX5_ends_2, eX5_ends_3, eX5_ends_6, eX5_ends_9, eX5_ends_11, eX5_ends_12, eX5_ends_13, eX5_ends_16, eX5_ends_19, eX5_ends_20, eX5_ends_21, eX5_ends_24, eX5_ends_27, eX5_ends_28, eX5_ends_29, eX5_ends_30, eX5_ends_31, eX5_ends_32, eX5_ends_33, eX5_ends_34, eX5_ends_37, eX5_ends_39, eX5_ends_40, eX5_ends_43, eX5_ends_45, eX5_ends_46, eX5_ends_48, eX5_ends_51, eX5_ends_52, eX5_ends_53, eX5_ends_54, eX5_ends_55, eX5_ends_58, eX5_ends_59, eX5_ends_60, eX5_ends_61, eX5_ends_62, eX5_ends_65, eX5_ends_66, eX5_ends_69, eX5_ends_70, eX5_ends_72, eX5_ends_73, eX5_ends_74, eX5_ends_75, eX5_ends_76, eX5_ends_77, Option.toList_some, Option.toList_none, List.cons_append, List.nil_append, is01_0, is01_1, true_and, r_isOutside, b01_0, out_in, c, and_self, if_true, hcL, hcG, hcnt, z0, if_false, not_false_iff, hz, q, z00, not_true]
        · simp only [eX6_ends_0, eX6_ends_1, eX6_ends_2, eX6_ends_3, eX6_ends_6, eX6_ends_9, eX6_ends_12, eX6_ends_14, eX6_ends_15, eX6_ends_16, eX6_ends_17, eX6_ends_18, eX6_ends_20, eX6_ends_23, eX6_ends_26, eX6_ends_27, eX6_ends_28, eX6_ends_29, eX6_ends_32, eX6_ends_35, eX6_ends_36, eX6_ends_39, eX6_ends_40, eX6_ends_41, eX6_ends_42, eX6_ends_45, eX6_ends_48, eX6_ends_49_c0, eX6_ends_49_c1, eX6_ends_49_c2, eX6_ends_76, eX6_ends_77, eX6_ends_78, eX6_ends_79, eX6_ends_80, eX6_ends_83, eX6_ends_84, eX6_ends_85, eX6_ends_88, eX6_ends_89, eX6_ends_92, eX6_ends_93, eX6_ends_94, eX6_ends_95, eX6_ends_96, eX6_ends_99, eX6_ends_100, eX6_ends_101, eX6_ends_104, eX6_ends_105, eX6_ends_108, eX6_ends_109, eX6_ends_110, eX6_ends_111, eX6_ends_112, eX6_ends_113, eX6_ends_114, eX6_ends_117, Option.toList_some, Option.toList_none, List.cons_append, List.nil_append, is01_0, is01_1, true_and, r_in, b01_0, wl_0, wr_0, wl_1, wr_1, wl_2, wr_2, wl_3, wr_3, wl_20, wr_20, wl_48, wr_48, wl_57, wr_57, wl_60, wr_60, wl_100, wr_100, wl_255, wr_255, wl_500, wr_500, wl_900, wr_900, wl_999, wr_999, wl_12345, wr_12345, wl_999999, wr_999999, wl_99999999, wr_99999999, wl_1000000000, wr_1000000000, wl_1103515245, wr_1103515245, c, and_self, not_true, if_true, if_false, mloop0]
          refine (mbeh _ 0 (by omega)).trans ?_
          rw [if_neg (by omega)]
          simp only [eX6_ends_0, eX6_ends_1, eX6_ends_2, eX6_ends_3, eX6_ends_6, eX6_ends_9, eX6_ends_12, eX6_ends_14, eX6_ends_15, eX6_ends_16, eX6_ends_17, eX6_ends_18, eX6_ends_20, eX6_ends_23, eX6_ends_26, eX6_ends_27, eX6_ends_28, eX6_ends_29, eX6_ends_32, eX6_ends_35, eX6_ends_36, eX6_ends_39, eX6_ends_40, eX6_ends_41, eX6_ends_42, eX6_ends_45, eX6_ends_48, eX6_ends_49_c0, eX6_ends_49_c1, eX6_ends_49_c2, eX6_ends_76, eX6_ends_77, eX6_ends_78, eX6_ends_79, eX6_ends_80, eX6_ends_83, eX6_ends_84, eX6_ends_85, eX6_ends_88, eX6_ends_89, eX6_ends_92, eX6_ends_93, eX6_ends_94, eX6_ends_95, eX6_ends_96, eX6_ends_99, eX6_ends_100, eX6_ends_101, eX6_ends_104, eX6_ends_105, eX6_ends_108, eX6_ends_109, eX6_ends_110, eX6_ends_111, eX6_ends_112, eX6_ends_113, eX6_ends_114, eX6_ends_117, Option.toList_some, Option.toList_none, List.cons_append, List.nil_append, is01_0, is01_1, true_and]
      · refine ⟨nI a, fun Q => ?_, fun Q => ?_⟩
        · simp only [eX5_ends_0, eX5_ends_1, eX5_ends_2, eX5_ends_3, eX5_ends_6, eX5_ends_9, eX5_ends_11, eX5_ends_12, eX5_ends_13, eX5_ends_16, eX5_ends_19, eX5_ends_20, eX5_ends_21, eX5_ends_24, eX5_ends_27, eX5_ends_28, eX5_ends_29, eX5_ends_30, eX5_ends_31, eX5_ends_32, eX5_ends_33, eX5_ends_34, eX5_ends_37, eX5_ends_39, eX5_ends_40, eX5_ends_43, eX5_ends_45, eX5_ends_46, eX5_ends_48, eX5_ends_51, eX5_ends_52, eX5_ends_53, eX5_ends_54, eX5_ends_55, eX5_ends_58, eX5_ends_59, eX5_ends_60, eX5_ends_61, eX5_ends_62, eX5_ends_65, eX5_ends_66, eX5_ends_69, eX5_ends_70, eX5_ends_72, eX5_ends_73, eX5_ends_74, eX5_ends_75, eX5_ends_76, eX5_ends_77, Option.toList_some, Option.toList_none, List.cons_append, List.nil_append, is01_0, is01_1, true_and, r_isOutside, b01_0, out_in, c, and_self, if_true, hcL, hcG, hcnt, z0, if_false, not_false_iff, hz, q, z00]
        · simp only [eX6_ends_0, eX6_ends_1, eX6_ends_2, eX6_ends_3, eX6_ends_6, eX6_ends_9, eX6_ends_12, eX6_ends_14, eX6_ends_15, eX6_ends_16, eX6_ends_17, eX6_ends_18, eX6_ends_20, eX6_ends_23, eX6_ends_26, eX6_ends_27, eX6_ends_28, eX6_ends_29, eX6_ends_32, eX6_ends_35, eX6_ends_36, eX6_ends_39, eX6_ends_40, eX6_ends_41, eX6_ends_42, eX6_ends_45, eX6_ends_48, eX6_ends_49_c0, eX6_ends_49_c1, eX6_ends_49_c2, eX6_ends_76, eX6_ends_77, eX6_ends_78, eX6_ends_79, eX6_ends_80, eX6_ends_83, eX6_ends_84, eX6_ends_85, eX6_ends_88, eX6_ends_89, eX6_ends_92, eX6_ends_93, eX6_ends_94, eX6_ends_95, eX6_ends_96, eX6_ends_99, eX6_ends_100, eX6_ends_101, eX6_ends_104, eX6_ends_105, eX6_ends_108, eX6_ends_109, eX6_ends_110, eX6_ends_111, eX6_ends_112, eX6_ends_113, eX6_ends_114, eX6_ends_117, Option.toList_some, Option.toList_none, List.cons_append, List.nil_append, is01_0, is01_1, true_and, r_in, b01_0, wl_0, wr_0, wl_1, wr_1, wl_2, wr_2, wl_3, wr_3, wl_20, wr_20, wl_48, wr_48, wl_57, wr_57, wl_60, wr_60, wl_100, wr_100, wl_255, wr_255, wl_500, wr_500, wl_900, wr_900, wl_999, wr_999, wl_12345, wr_12345, wl_999999, wr_999999, wl_99999999, wr_99999999, wl_1000000000, wr_1000000000, wl_1103515245, wr_1103515245, c, and_self, not_true, if_true, if_false, mloop0]
          refine (mbeh _ 0 (by omega)).trans ?_
          rw [if_pos (by omega)]
          simp only [eX6_ends_0, eX6_ends_1, eX6_ends_2, eX6_ends_3, eX6_ends_6, eX6_ends_9, eX6_ends_12, eX6_ends_14, eX6_ends_15, eX6_ends_16, eX6_ends_17, eX6_ends_18, eX6_ends_20, eX6_ends_23, eX6_ends_26, eX6_ends_27, eX6_ends_28, eX6_ends_29, eX6_ends_32, eX6_ends_35, eX6_ends_36, eX6_ends_39, eX6_ends_40, eX6_ends_41, eX6_ends_42, eX6_ends_45, eX6_ends_48, eX6_ends_49_c0, eX6_ends_49_c1, eX6_ends_49_c2, eX6_ends_76, eX6_ends_77, eX6_ends_78, eX6_ends_79, eX6_ends_80, eX6_ends_83, eX6_ends_84, eX6_ends_85, eX6_ends_88, eX6_ends_89, eX6_ends_92, eX6_ends_93, eX6_ends_94, eX6_ends_95, eX6_ends_96, eX6_ends_99, eX6_ends_100, eX6_ends_101, eX6_ends_104, eX6_ends_105, eX6_ends_108, eX6_ends_109, eX6_ends_110, eX6_ends_111, eX6_ends_112, eX6_ends_113, eX6_ends_114, eX6_ends_117, Option.toList_some, Option.toList_none, List.cons_append, List.nil_append, is01_0, is01_1, true_and, Nat.add_zero]
    by_cases z2 : z = 2
    · subst z2
      by_cases q : b + 1 - a = 0
      · refine ⟨-1, fun Q => ?_, fun Q => ?_⟩
        · simp only [eX5_ends_0, eX5_ends_1, eX5_ends_2, eX5_ends_3, eX5_ends_6, eX5_ends_9, eX5_ends_11, eX5_ends_12, eX5_ends_13, eX5_ends_16, eX5_ends_19, eX5_ends_20, eX5_ends_21, eX5_ends_24, eX5_ends_27, eX5_ends_28, eX5_ends_29, eX5_ends_30, eX5_ends_31, eX5_ends_32, eX5_ends_33, eX5_ends_34, eX5_ends_37, eX5_ends_39, eX5_ends_40, eX5_ends_43, eX5_ends_45, eX5_ends_46, eX5_ends_48, eX5_ends_51, eX5_ends_52, eX5_ends_53, eX5_ends_54, eX5_ends_55, eX5_ends_58, eX5_ends_59, eX5_ends_60, eX5_ends_61, eX5_ends_62, eX5_ends_65, eX5_ends_66, eX5_ends_69, eX5_ends_70, eX5_ends_72, eX5_ends_73, eX5_ends_74, eX5_ends_75, eX5_ends_76, eX5_ends_77, Option.toList_some, Option.toList_none, List.cons_append, List.nil_append, is01_0, is01_1, true_and, r_isOutside, b01_0, out_in, c, and_self, if_true, hcL, hcG, hcnt, z0, if_false, not_false_iff, hz, q, z00, not_true]
        · simp only [eX6_ends_0, eX6_ends_1, eX6_ends_2, eX6_ends_3, eX6_ends_6, eX6_ends_9, eX6_ends_12, eX6_ends_14, eX6_ends_15, eX6_ends_16, eX6_ends_17, eX6_ends_18, eX6_ends_20, eX6_ends_23, eX6_ends_26, eX6_ends_27, eX6_ends_28, eX6_ends_29, eX6_ends_32, eX6_ends_35, eX6_ends_36, eX6_ends_39, eX6_ends_40, eX6_ends_41, eX6_ends_42, eX6_ends_45, eX6_ends_48, eX6_ends_49_c0, eX6_ends_49_c1, eX6_ends_49_c2, eX6_ends_76, eX6_ends_77, eX6_ends_78, eX6_ends_79, eX6_ends_80, eX6_ends_83, eX6_ends_84, eX6_ends_85, eX6_ends_88, eX6_ends_89, eX6_ends_92, eX6_ends_93, eX6_ends_94, eX6_ends_95, eX6_ends_96, eX6_ends_99, eX6_ends_100, eX6_ends_101, eX6_ends_104, eX6_ends_105, eX6_ends_108, eX6_ends_109, eX6_ends_110, eX6_ends_111, eX6_ends_112, eX6_ends_113, eX6_ends_114, eX6_ends_117, Option.toList_some, Option.toList_none, List.cons_append, List.nil_append, is01_0, is01_1, true_and, r_in, b01_0, wl_0, wr_0, wl_1, wr_1, wl_2, wr_2, wl_3, wr_3, wl_20, wr_20, wl_48, wr_48, wl_57, wr_57, wl_60, wr_60, wl_100, wr_100, wl_255, wr_255, wl_500, wr_500, wl_900, wr_900, wl_999, wr_999, wl_12345, wr_12345, wl_999999, wr_999999, wl_99999999, wr_99999999, wl_1000000000, wr_1000000000, wl_1103515245, wr_1103515245, c, and_self, not_true, if_true, if_false, mloop0, hz, q, z00]
      · refine ⟨nI b, fun Q => ?_, fun Q => ?_⟩
        · simp only [eX5_ends_0, eX5_ends_1, eX5_ends_2, eX5_ends_3, eX5_ends_6, eX5_ends_9, eX5_ends_11, eX5_ends_12, eX5_ends_13, eX5_ends_16, eX5_ends_19, eX5_ends_20, eX5_ends_21, eX5_ends_24, eX5_ends_27, eX5_ends_28, eX5_ends_29, eX5_ends_30, eX5_ends_31, eX5_ends_32, eX5_ends_33, eX5_ends_34, eX5_ends_37, eX5_ends_39, eX5_ends_40, eX5_ends_43, eX5_ends_45, eX5_ends_46, eX5_ends_48, eX5_ends_51, eX5_ends_52, eX5_ends_53, eX5_ends_54, eX5_ends_55, eX5_ends_58, eX5_ends_59, eX5_ends_60, eX5_ends_61, eX5_ends_62, eX5_ends_65, eX5_ends_66, eX5_ends_69, eX5_ends_70, eX5_ends_72, eX5_ends_73, eX5_ends_74, eX5_ends_75, eX5_ends_76, eX5_ends_77, Option.toList_some, Option.toList_none, List.cons_append, List.nil_append, is01_0, is01_1, true_and, r_isOutside, b01_0, out_in, c, and_self, if_true, hcL, hcG, hcnt, z0, z1, if_false, not_false_iff, hz, q, z00]
        · simp only [eX6_ends_0, eX6_ends_1, eX6_ends_2, eX6_ends_3, eX6_ends_6, eX6_ends_9, eX6_ends_12, eX6_ends_14, eX6_ends_15, eX6_ends_16, eX6_ends_17, eX6_ends_18, eX6_ends_20, eX6_ends_23, eX6_ends_26, eX6_ends_27, eX6_ends_28, eX6_ends_29, eX6_ends_32, eX6_ends_35, eX6_ends_36, eX6_ends_39, eX6_ends_40, eX6_ends_41, eX6_ends_42, eX6_ends_45, eX6_ends_48, eX6_ends_49_c0, eX6_ends_49_c1, eX6_ends_49_c2, eX6_ends_76, eX6_ends_77, eX6_ends_78, eX6_ends_79, eX6_ends_80, eX6_ends_83, eX6_ends_84, eX6_ends_85, eX6_ends_88, eX6_ends_89, eX6_ends_92, eX6_ends_93, eX6_ends_94, eX6_ends_95, eX6_ends_96, eX6_ends_99, eX6_ends_100, eX6_ends_101, eX6_ends_104, eX6_ends_105, eX6_ends_108, eX6_ends_109, eX6_ends_110, eX6_ends_111, eX6_ends_112, eX6_ends_113, eX6_ends_114, eX6_ends_117, Option.toList_some, Option.toList_none, List.cons_append, List.nil_append, is01_0, is01_1, true_and, r_in, b01_0, wl_0, wr_0, wl_1, wr_1, wl_2, wr_2, wl_3, wr_3, wl_20, wr_20, wl_48, wr_48, wl_57, wr_57, wl_60, wr_60, wl_100, wr_100, wl_255, wr_255, wl_500, wr_500, wl_900, wr_900, wl_999, wr_999, wl_12345, wr_12345, wl_999999, wr_999999, wl_99999999, wr_99999999, wl_1000000000, wr_1000000000, wl_1103515245, wr_1103515245, c, and_self, not_true, if_true, if_false, mloop0, hz, q, z00, not_false_iff, hs q, mbeh _ (b - a) (by omega)]
          rw [if_pos (by omega), show a + (b - a) = b by omega]
    · have hz3 : z = 3 := by
        have h1 := c.1
        have h2 := c.2
        rw [fa_le] at h1 h2
        rw [fa_eq] at z0 z1 z2 ⊢
        have a0 : (0 : Int32).toInt = 0 := rfl
        have a1 : (1 : Int32).toInt = 1 := rfl
        have a2 : (2 : Int32).toInt = 2 := rfl
        have a3 : (3 : Int32).toInt = 3 := rfl
        omega
      subst hz3
      have hd : (3 : Int32).toInt < 0 ∨ 2 < (3 : Int32).toInt := by decide
      by_cases q : b + 1 - a = 0
      · refine ⟨-1, fun Q => ?_, fun Q => ?_⟩
        · simp only [eX5_ends_0, eX5_ends_1, eX5_ends_2, eX5_ends_3, eX5_ends_6, eX5_ends_9, eX5_ends_11, eX5_ends_12, eX5_ends_13, eX5_ends_16, eX5_ends_19, eX5_ends_20, eX5_ends_21, eX5_ends_24, eX5_ends_27, eX5_ends_28, eX5_ends_29, eX5_ends_30, eX5_ends_31, eX5_ends_32, eX5_ends_33, eX5_ends_34, eX5_ends_37, eX5_ends_39, eX5_ends_40, eX5_ends_43, eX5_ends_45, eX5_ends_46, eX5_ends_48, eX5_ends_51, eX5_ends_52, eX5_ends_53, eX5_ends_54, eX5_ends_55, eX5_ends_58, eX5_ends_59, eX5_ends_60, eX5_ends_61, eX5_ends_62, eX5_ends_65, eX5_ends_66, eX5_ends_69, eX5_ends_70, eX5_ends_72, eX5_ends_73, eX5_ends_74, eX5_ends_75, eX5_ends_76, eX5_ends_77, Option.toList_some, Option.toList_none, List.cons_append, List.nil_append, is01_0, is01_1, true_and, r_isOutside, b01_0, out_in, c, and_self, if_true, hcL, hcG, hcnt, z0, if_false, not_false_iff, hz, q, z00, not_true]
        · simp only [eX6_ends_0, eX6_ends_1, eX6_ends_2, eX6_ends_3, eX6_ends_6, eX6_ends_9, eX6_ends_12, eX6_ends_14, eX6_ends_15, eX6_ends_16, eX6_ends_17, eX6_ends_18, eX6_ends_20, eX6_ends_23, eX6_ends_26, eX6_ends_27, eX6_ends_28, eX6_ends_29, eX6_ends_32, eX6_ends_35, eX6_ends_36, eX6_ends_39, eX6_ends_40, eX6_ends_41, eX6_ends_42, eX6_ends_45, eX6_ends_48, eX6_ends_76, eX6_ends_77, eX6_ends_78, eX6_ends_79, eX6_ends_80, eX6_ends_83, eX6_ends_84, eX6_ends_85, eX6_ends_88, eX6_ends_89, eX6_ends_92, eX6_ends_93, eX6_ends_94, eX6_ends_95, eX6_ends_96, eX6_ends_99, eX6_ends_100, eX6_ends_101, eX6_ends_104, eX6_ends_105, eX6_ends_108, eX6_ends_109, eX6_ends_110, eX6_ends_111, eX6_ends_112, eX6_ends_113, eX6_ends_114, eX6_ends_117, Option.toList_some, Option.toList_none, List.cons_append, List.nil_append, is01_0, is01_1, true_and, r_in, b01_0, wl_0, wr_0, wl_1, wr_1, wl_2, wr_2, wl_3, wr_3, wl_20, wr_20, wl_48, wr_48, wl_57, wr_57, wl_60, wr_60, wl_100, wr_100, wl_255, wr_255, wl_500, wr_500, wl_900, wr_900, wl_999, wr_999, wl_12345, wr_12345, wl_999999, wr_999999, wl_99999999, wr_99999999, wl_1000000000, wr_1000000000, wl_1103515245, wr_1103515245, c, and_self, not_true, if_true, if_false, mloop0]
          rw [eX6_ends_49_d _ _ hd]
          simp only [eX6_ends_0, eX6_ends_1, eX6_ends_2, eX6_ends_3, eX6_ends_6, eX6_ends_9, eX6_ends_12, eX6_ends_14, eX6_ends_15, eX6_ends_16, eX6_ends_17, eX6_ends_18, eX6_ends_20, eX6_ends_23, eX6_ends_26, eX6_ends_27, eX6_ends_28, eX6_ends_29, eX6_ends_32, eX6_ends_35, eX6_ends_36, eX6_ends_39, eX6_ends_40, eX6_ends_41, eX6_ends_42, eX6_ends_45, eX6_ends_48, eX6_ends_76, eX6_ends_77, eX6_ends_78, eX6_ends_79, eX6_ends_80, eX6_ends_83, eX6_ends_84, eX6_ends_85, eX6_ends_88, eX6_ends_89, eX6_ends_92, eX6_ends_93, eX6_ends_94, eX6_ends_95, eX6_ends_96, eX6_ends_99, eX6_ends_100, eX6_ends_101, eX6_ends_104, eX6_ends_105, eX6_ends_108, eX6_ends_109, eX6_ends_110, eX6_ends_111, eX6_ends_112, eX6_ends_113, eX6_ends_114, eX6_ends_117, Option.toList_some, Option.toList_none, List.cons_append, List.nil_append, is01_0, is01_1, true_and, hz, q, z00, not_true, if_true, if_false]
      · refine ⟨nI (a + (b - a) / 2), fun Q => ?_, fun Q => ?_⟩
        · simp only [eX5_ends_0, eX5_ends_1, eX5_ends_2, eX5_ends_3, eX5_ends_6, eX5_ends_9, eX5_ends_11, eX5_ends_12, eX5_ends_13, eX5_ends_16, eX5_ends_19, eX5_ends_20, eX5_ends_21, eX5_ends_24, eX5_ends_27, eX5_ends_28, eX5_ends_29, eX5_ends_30, eX5_ends_31, eX5_ends_32, eX5_ends_33, eX5_ends_34, eX5_ends_37, eX5_ends_39, eX5_ends_40, eX5_ends_43, eX5_ends_45, eX5_ends_46, eX5_ends_48, eX5_ends_51, eX5_ends_52, eX5_ends_53, eX5_ends_54, eX5_ends_55, eX5_ends_58, eX5_ends_59, eX5_ends_60, eX5_ends_61, eX5_ends_62, eX5_ends_65, eX5_ends_66, eX5_ends_69, eX5_ends_70, eX5_ends_72, eX5_ends_73, eX5_ends_74, eX5_ends_75, eX5_ends_76, eX5_ends_77, Option.toList_some, Option.toList_none, List.cons_append, List.nil_append, is01_0, is01_1, true_and, r_isOutside, b01_0, out_in, c, and_self, if_true, hcL, hcG, hcnt, z0, z1, z2, if_false, not_false_iff, hz, q, z00, hs q, hdv, nd2, addI_nI]
        · simp only [eX6_ends_0, eX6_ends_1, eX6_ends_2, eX6_ends_3, eX6_ends_6, eX6_ends_9, eX6_ends_12, eX6_ends_14, eX6_ends_15, eX6_ends_16, eX6_ends_17, eX6_ends_18, eX6_ends_20, eX6_ends_23, eX6_ends_26, eX6_ends_27, eX6_ends_28, eX6_ends_29, eX6_ends_32, eX6_ends_35, eX6_ends_36, eX6_ends_39, eX6_ends_40, eX6_ends_41, eX6_ends_42, eX6_ends_45, eX6_ends_48, eX6_ends_76, eX6_ends_77, eX6_ends_78, eX6_ends_79, eX6_ends_80, eX6_ends_83, eX6_ends_84, eX6_ends_85, eX6_ends_88, eX6_ends_89, eX6_ends_92, eX6_ends_93, eX6_ends_94, eX6_ends_95, eX6_ends_96, eX6_ends_99, eX6_ends_100, eX6_ends_101, eX6_ends_104, eX6_ends_105, eX6_ends_108, eX6_ends_109, eX6_ends_110, eX6_ends_111, eX6_ends_112, eX6_ends_113, eX6_ends_114, eX6_ends_117, Option.toList_some, Option.toList_none, List.cons_append, List.nil_append, is01_0, is01_1, true_and, r_in, b01_0, wl_0, wr_0, wl_1, wr_1, wl_2, wr_2, wl_3, wr_3, wl_20, wr_20, wl_48, wr_48, wl_57, wr_57, wl_60, wr_60, wl_100, wr_100, wl_255, wr_255, wl_500, wr_500, wl_900, wr_900, wl_999, wr_999, wl_12345, wr_12345, wl_999999, wr_999999, wl_99999999, wr_99999999, wl_1000000000, wr_1000000000, wl_1103515245, wr_1103515245, c, and_self, not_true, if_true, if_false, mloop0]
          rw [eX6_ends_49_d _ _ hd]
          simp only [eX6_ends_0, eX6_ends_1, eX6_ends_2, eX6_ends_3, eX6_ends_6, eX6_ends_9, eX6_ends_12, eX6_ends_14, eX6_ends_15, eX6_ends_16, eX6_ends_17, eX6_ends_18, eX6_ends_20, eX6_ends_23, eX6_ends_26, eX6_ends_27, eX6_ends_28, eX6_ends_29, eX6_ends_32, eX6_ends_35, eX6_ends_36, eX6_ends_39, eX6_ends_40, eX6_ends_41, eX6_ends_42, eX6_ends_45, eX6_ends_48, eX6_ends_76, eX6_ends_77, eX6_ends_78, eX6_ends_79, eX6_ends_80, eX6_ends_83, eX6_ends_84, eX6_ends_85, eX6_ends_88, eX6_ends_89, eX6_ends_92, eX6_ends_93, eX6_ends_94, eX6_ends_95, eX6_ends_96, eX6_ends_99, eX6_ends_100, eX6_ends_101, eX6_ends_104, eX6_ends_105, eX6_ends_108, eX6_ends_109, eX6_ends_110, eX6_ends_111, eX6_ends_112, eX6_ends_113, eX6_ends_114, eX6_ends_117, Option.toList_some, Option.toList_none, List.cons_append, List.nil_append, is01_0, is01_1, true_and, hz, q, z00, not_false_iff, not_true, if_true, if_false, hs q, hdv, nd2, mbeh _ ((b - a) / 2) (by omega)]
          rw [if_pos (by omega)]
  · unfold Both
    simp only [eX5_ends_0, eX5_ends_1, eX5_ends_2, eX5_ends_3, eX5_ends_6, eX5_ends_9, eX5_ends_11, eX5_ends_12, eX5_ends_13, eX5_ends_16, eX5_ends_19, eX5_ends_20, eX5_ends_21, eX5_ends_24, eX5_ends_27, eX5_ends_28, eX5_ends_29, eX5_ends_30, eX5_ends_31, eX5_ends_32, eX5_ends_33, eX5_ends_34, eX5_ends_37, eX5_ends_39, eX5_ends_40, eX5_ends_43, eX5_ends_45, eX5_ends_46, eX5_ends_48, eX5_ends_51, eX5_ends_52, eX5_ends_53, eX5_ends_54, eX5_ends_55, eX5_ends_58, eX5_ends_59, eX5_ends_60, eX5_ends_61, eX5_ends_62, eX5_ends_65, eX5_ends_66, eX5_ends_69, eX5_ends_70, eX5_ends_72, eX5_ends_73, eX5_ends_74, eX5_ends_75, eX5_ends_76, eX5_ends_77, eX6_ends_0, eX6_ends_1, eX6_ends_2, eX6_ends_3, eX6_ends_6, eX6_ends_9, eX6_ends_12, eX6_ends_14, eX6_ends_15, eX6_ends_16, eX6_ends_17, eX6_ends_18, eX6_ends_20, eX6_ends_23, eX6_ends_26, eX6_ends_27, eX6_ends_28, eX6_ends_29, eX6_ends_32, eX6_ends_35, eX6_ends_36, eX6_ends_39, eX6_ends_40, eX6_ends_41, eX6_ends_42, eX6_ends_45, eX6_ends_48, eX6_ends_49_c0, eX6_ends_49_c1, eX6_ends_49_c2, eX6_ends_76, eX6_ends_77, eX6_ends_78, eX6_ends_79, eX6_ends_80, eX6_ends_83, eX6_ends_84, eX6_ends_85, eX6_ends_88, eX6_ends_89, eX6_ends_92, eX6_ends_93, eX6_ends_94, eX6_ends_95, eX6_ends_96, eX6_ends_99, eX6_ends_100, eX6_ends_101, eX6_ends_104, eX6_ends_105, eX6_ends_108, eX6_ends_109, eX6_ends_110, eX6_ends_111, eX6_ends_112, eX6_ends_113, eX6_ends_114, eX6_ends_117, Option.toList_some, Option.toList_none, List.cons_append, List.nil_append, is01_0, is01_1, true_and, r_isOutside, r_in, b01_0, out_in, wl_0, wr_0, wl_1, wr_1, wl_2, wr_2, wl_3, wr_3, wl_20, wr_20, wl_48, wr_48, wl_57, wr_57, wl_60, wr_60, wl_100, wr_100, wl_255, wr_255, wl_500, wr_500, wl_900, wr_900, wl_999, wr_999, wl_12345, wr_12345, wl_999999, wr_999999, wl_99999999, wr_99999999, wl_1000000000, wr_1000000000, wl_1103515245, wr_1103515245, c, not_true, not_false_iff, if_true, if_false]
    first | exact ⟨_, fun _ => rfl, fun _ => rfl⟩ | exact ⟨_, fun _ => rfl⟩
end OPS
