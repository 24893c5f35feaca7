/-! read-only operations, second part -/
theorem xfind_none_iff {c : Nat → Bool} {n j : Nat} : xfind c j n = none ↔ ∀ i, j ≤ i → i < j + n → c i = false := by
  constructor
  · exact fun h => xfind_none h
  · intro h
    cases hx : xfind c j n with
    | none => rfl
    | some k =>
      obtain ⟨h1, h2, h3, -⟩ := xfind_some hx
      rw [h k h1 h2] at h3
      cases h3
theorem goE {x : Int32} {G : Nat} (hG : G ≤ 8) (h : 0 ≤ x ∧ x < nI G) : ∃ j, j < G ∧ x = nI j := by
  obtain ⟨j, h1, h2⟩ := nI_of (x := x) (by rw [Int32.not_lt]; exact h.1)
  refine ⟨j, ?_, h2⟩
  rw [h2] at h
  exact (nI_ltI h1 (by omega)).mp h.2
theorem nIr {n : Nat} (h : n < 2147483648) : 0 ≤ (nI n).toInt := by rw [nI_toInt h]; omega
section OPS
variable {X : (Nat → Int32) × Nat} {g : xG} {h : xH} {sw : Bool} {NL G : Nat} {w v : Nat → Int32} {Q : Option Value → xG → xH → Prop}
theorem o_was (a n b z : Int32) : Both (fun Q => EV X mX5_was 0 0 0 [.ref 0, .int a, .int n, .int b, .int z, .null, .null, .null, .null] [] (Gb sw) h Q) (fun Q => EV X mX6_was 0 0 0 [.ref 140, .int a, .int n, .int b, .int z, .null, .null, .null, .null, .null] [] (Gb sw) h Q) sw h := by
  have key : ∀ (m i : Nat) (c lo hi : Int32) (y : Value), i + m = 61 → (lo = -1 ∨ 0 ≤ lo) → Both (fun Q => EV X mX5_was 0 0 58 [.ref 0, .int a, .int n, .int b, .int z, .int c, .int lo, .int hi, .int (nI i)] [] (Gb sw) h Q) (fun Q => EV X mX6_was 0 0 64 [.ref 140, .int a, .int n, .int b, .int z, .int c, .int lo, .int hi, .int (nI i), y] [] (Gb sw) h Q) sw h := by
    intro m
    induction m with
    | zero =>
      intro i c lo hi y hm hlo
      have hlt : (60 : Int32) < nI i := nI_lt (a := 60) (by omega) (by omega)
      refine ⟨if z = 0 then c else if z = 1 then lo else hi, fun Q => ?_, fun Q => ?_⟩
      · show EV X mX5_was 0 0 58 _ _ _ _ _ = _
        rw [eX5_was_58]
        simp only [eX5_was_0, eX5_was_1, eX5_was_2, eX5_was_5, eX5_was_8, eX5_was_11, eX5_was_12, eX5_was_13, eX5_was_16, eX5_was_19, eX5_was_22, eX5_was_23, eX5_was_24, eX5_was_27, eX5_was_30, eX5_was_33, eX5_was_35, eX5_was_36, eX5_was_37, eX5_was_40, eX5_was_43, eX5_was_45, eX5_was_46, eX5_was_47, eX5_was_49, eX5_was_50, eX5_was_52, eX5_was_53, eX5_was_55, eX5_was_56, eX5_was_60, eX5_was_62, eX5_was_65, eX5_was_66, eX5_was_68, eX5_was_69, eX5_was_70, eX5_was_72, eX5_was_73, eX5_was_74, eX5_was_76, eX5_was_77, eX5_was_78, eX5_was_81, eX5_was_84, eX5_was_86, eX5_was_88, eX5_was_90, eX5_was_91, eX5_was_94, eX5_was_96, eX5_was_98, eX5_was_101, eX5_was_104, eX5_was_106, eX5_was_109, eX5_was_111, eX5_was_112, eX5_was_114, eX5_was_115, eX5_was_118, eX5_was_120, eX5_was_123, eX5_was_125, Option.toList_some, Option.toList_none, List.cons_append, List.nil_append, is01_0, is01_1, true_and]
        rw [if_pos hlt]
        by_cases q : z = 0 <;> by_cases q2 : z = 1 <;> simp [q, q2]
      · show EV X mX6_was 0 0 64 _ _ _ _ _ = _
        rw [eX6_was_64]
        simp only [eX6_was_0, eX6_was_1, eX6_was_2, eX6_was_3, eX6_was_6, eX6_was_9, eX6_was_12, eX6_was_13, eX6_was_14, eX6_was_15, eX6_was_18, eX6_was_21, eX6_was_24, eX6_was_25, eX6_was_26, eX6_was_27, eX6_was_30, eX6_was_33, eX6_was_36, eX6_was_38, eX6_was_39, eX6_was_40, eX6_was_43, eX6_was_46, eX6_was_49, eX6_was_51, eX6_was_52, eX6_was_53, eX6_was_55, eX6_was_56, eX6_was_58, eX6_was_59, eX6_was_61, eX6_was_62, eX6_was_66, eX6_was_68, eX6_was_71, eX6_was_73, eX6_was_74, eX6_was_75, eX6_was_76, eX6_was_78, eX6_was_79, eX6_was_80, eX6_was_82, eX6_was_83, eX6_was_84, eX6_was_87, eX6_was_88, eX6_was_91, eX6_was_92, eX6_was_94, eX6_was_96, eX6_was_99, eX6_was_101, eX6_was_104, eX6_was_106, eX6_was_109, eX6_was_111, eX6_was_113, eX6_was_115, eX6_was_118, eX6_was_120, eX6_was_123, eX6_was_125, eX6_was_127, eX6_was_129, eX6_was_131, eX6_was_134, eX6_was_135, eX6_was_138, eX6_was_139, eX6_was_140, eX6_was_142, eX6_was_145, eX6_was_148, eX6_was_150, eX6_was_153, eX6_was_155, eX6_was_158, eX6_was_160, eX6_was_161, eX6_was_164, eX6_was_166, eX6_was_169, eX6_was_171, Option.toList_some, Option.toList_none, List.cons_append, List.nil_append, is01_0, is01_1, true_and]
        rw [if_pos hlt]
        by_cases q : z = 0 <;> by_cases q2 : z = 1 <;> simp [q, q2]
    | succ m ih =>
      intro i c lo hi y hm hlo
      have hlt : ¬ (60 : Int32) < nI i := nI_nlt (a := 60) (by omega) (by omega)
      by_cases q : (a * 100 + n * nI i) / 100 = b
      · have q' : (100 * a + n * nI i) / 100 = b := by rw [Int32.mul_comm]; exact q
        have hpos : ¬ nI i = -1 := nI_n1 (by omega)
        rcases hlo with rfl | hlo
        · obtain ⟨r, h1, h2⟩ := ih (i + 1) (c + 1) (nI i) (nI i) (.int 1) (by omega) (Or.inr (nI_pos' (by omega)))
          refine ⟨r, fun Q => ?_, fun Q => ?_⟩
          · rw [← h1 Q]
            show EV X mX5_was 0 0 58 _ _ _ _ _ = _
            rw [eX5_was_58]
            simp only [eX5_was_0, eX5_was_1, eX5_was_2, eX5_was_5, eX5_was_8, eX5_was_11, eX5_was_12, eX5_was_13, eX5_was_16, eX5_was_19, eX5_was_22, eX5_was_23, eX5_was_24, eX5_was_27, eX5_was_30, eX5_was_33, eX5_was_35, eX5_was_36, eX5_was_37, eX5_was_40, eX5_was_43, eX5_was_45, eX5_was_46, eX5_was_47, eX5_was_49, eX5_was_50, eX5_was_52, eX5_was_53, eX5_was_55, eX5_was_56, eX5_was_60, eX5_was_62, eX5_was_65, eX5_was_66, eX5_was_68, eX5_was_69, eX5_was_70, eX5_was_72, eX5_was_73, eX5_was_74, eX5_was_76, eX5_was_77, eX5_was_78, eX5_was_81, eX5_was_84, eX5_was_86, eX5_was_88, eX5_was_90, eX5_was_91, eX5_was_94, eX5_was_96, eX5_was_98, eX5_was_101, eX5_was_104, eX5_was_106, eX5_was_109, eX5_was_111, eX5_was_112, eX5_was_114, eX5_was_115, eX5_was_118, eX5_was_120, eX5_was_123, eX5_was_125, Option.toList_some, Option.toList_none, List.cons_append, List.nil_append, is01_0, is01_1, true_and, nd100, nI_1]
            rw [if_neg hlt, if_pos q, if_pos trivial]
          · rw [← h2 Q]
            show EV X mX6_was 0 0 64 _ _ _ _ _ = _
            rw [eX6_was_64]
            simp only [eX6_was_0, eX6_was_1, eX6_was_2, eX6_was_3, eX6_was_6, eX6_was_9, eX6_was_12, eX6_was_13, eX6_was_14, eX6_was_15, eX6_was_18, eX6_was_21, eX6_was_24, eX6_was_25, eX6_was_26, eX6_was_27, eX6_was_30, eX6_was_33, eX6_was_36, eX6_was_38, eX6_was_39, eX6_was_40, eX6_was_43, eX6_was_46, eX6_was_49, eX6_was_51, eX6_was_52, eX6_was_53, eX6_was_55, eX6_was_56, eX6_was_58, eX6_was_59, eX6_was_61, eX6_was_62, eX6_was_66, eX6_was_68, eX6_was_71, eX6_was_73, eX6_was_74, eX6_was_75, eX6_was_76, eX6_was_78, eX6_was_79, eX6_was_80, eX6_was_82, eX6_was_83, eX6_was_84, eX6_was_87, eX6_was_88, eX6_was_91, eX6_was_92, eX6_was_94, eX6_was_96, eX6_was_99, eX6_was_101, eX6_was_104, eX6_was_106, eX6_was_109, eX6_was_111, eX6_was_113, eX6_was_115, eX6_was_118, eX6_was_120, eX6_was_123, eX6_was_125, eX6_was_127, eX6_was_129, eX6_was_131, eX6_was_134, eX6_was_135, eX6_was_138, eX6_was_139, eX6_was_140, eX6_was_142, eX6_was_145, eX6_was_148, eX6_was_150, eX6_was_153, eX6_was_155, eX6_was_158, eX6_was_160, eX6_was_161, eX6_was_164, eX6_was_166, eX6_was_169, eX6_was_171, Option.toList_some, Option.toList_none, List.cons_append, List.nil_append, is01_0, is01_1, true_and, nd100, nI_1, n10, n1ge, if_false]
            rw [if_neg hlt, if_pos q']
        · have hn1 : ¬ lo = -1 := by
            intro e
            rw [e] at hlo
            exact absurd hlo (by decide)
          obtain ⟨r, h1, h2⟩ := ih (i + 1) (c + 1) lo (nI i) (.int 1) (by omega) (Or.inr hlo)
          refine ⟨r, fun Q => ?_, fun Q => ?_⟩
          · rw [← h1 Q]
            show EV X mX5_was 0 0 58 _ _ _ _ _ = _
            rw [eX5_was_58]
            simp only [eX5_was_0, eX5_was_1, eX5_was_2, eX5_was_5, eX5_was_8, eX5_was_11, eX5_was_12, eX5_was_13, eX5_was_16, eX5_was_19, eX5_was_22, eX5_was_23, eX5_was_24, eX5_was_27, eX5_was_30, eX5_was_33, eX5_was_35, eX5_was_36, eX5_was_37, eX5_was_40, eX5_was_43, eX5_was_45, eX5_was_46, eX5_was_47, eX5_was_49, eX5_was_50, eX5_was_52, eX5_was_53, eX5_was_55, eX5_was_56, eX5_was_60, eX5_was_62, eX5_was_65, eX5_was_66, eX5_was_68, eX5_was_69, eX5_was_70, eX5_was_72, eX5_was_73, eX5_was_74, eX5_was_76, eX5_was_77, eX5_was_78, eX5_was_81, eX5_was_84, eX5_was_86, eX5_was_88, eX5_was_90, eX5_was_91, eX5_was_94, eX5_was_96, eX5_was_98, eX5_was_101, eX5_was_104, eX5_was_106, eX5_was_109, eX5_was_111, eX5_was_112, eX5_was_114, eX5_was_115, eX5_was_118, eX5_was_120, eX5_was_123, eX5_was_125, Option.toList_some, Option.toList_none, List.cons_append, List.nil_append, is01_0, is01_1, true_and, nd100, nI_1]
            rw [if_neg hlt, if_pos q, if_neg hn1]
          · rw [← h2 Q]
            show EV X mX6_was 0 0 64 _ _ _ _ _ = _
            rw [eX6_was_64]
            simp only [eX6_was_0, eX6_was_1, eX6_was_2, eX6_was_3, eX6_was_6, eX6_was_9, eX6_was_12, eX6_was_13, eX6_was_14, eX6_was_15, eX6_was_18, eX6_was_21, eX6_was_24, eX6_was_25, eX6_was_26, eX6_was_27, eX6_was_30, eX6_was_33, eX6_was_36, eX6_was_38, eX6_was_39, eX6_was_40, eX6_was_43, eX6_was_46, eX6_was_49, eX6_was_51, eX6_was_52, eX6_was_53, eX6_was_55, eX6_was_56, eX6_was_58, eX6_was_59, eX6_was_61, eX6_was_62, eX6_was_66, eX6_was_68, eX6_was_71, eX6_was_73, eX6_was_74, eX6_was_75, eX6_was_76, eX6_was_78, eX6_was_79, eX6_was_80, eX6_was_82, eX6_was_83, eX6_was_84, eX6_was_87, eX6_was_88, eX6_was_91, eX6_was_92, eX6_was_94, eX6_was_96, eX6_was_99, eX6_was_101, eX6_was_104, eX6_was_106, eX6_was_109, eX6_was_111, eX6_was_113, eX6_was_115, eX6_was_118, eX6_was_120, eX6_was_123, eX6_was_125, eX6_was_127, eX6_was_129, eX6_was_131, eX6_was_134, eX6_was_135, eX6_was_138, eX6_was_139, eX6_was_140, eX6_was_142, eX6_was_145, eX6_was_148, eX6_was_150, eX6_was_153, eX6_was_155, eX6_was_158, eX6_was_160, eX6_was_161, eX6_was_164, eX6_was_166, eX6_was_169, eX6_was_171, Option.toList_some, Option.toList_none, List.cons_append, List.nil_append, is01_0, is01_1, true_and, nd100, nI_1, n10, hlo, if_true, if_false]
            rw [if_neg hlt, if_pos q']
      · have q' : ¬ (100 * a + n * nI i) / 100 = b := by rw [Int32.mul_comm]; exact q
        obtain ⟨r, h1, h2⟩ := ih (i + 1) c lo hi (.int 0) (by omega) hlo
        refine ⟨r, fun Q => ?_, fun Q => ?_⟩
        · rw [← h1 Q]
          show EV X mX5_was 0 0 58 _ _ _ _ _ = _
          rw [eX5_was_58]
          simp only [eX5_was_0, eX5_was_1, eX5_was_2, eX5_was_5, eX5_was_8, eX5_was_11, eX5_was_12, eX5_was_13, eX5_was_16, eX5_was_19, eX5_was_22, eX5_was_23, eX5_was_24, eX5_was_27, eX5_was_30, eX5_was_33, eX5_was_35, eX5_was_36, eX5_was_37, eX5_was_40, eX5_was_43, eX5_was_45, eX5_was_46, eX5_was_47, eX5_was_49, eX5_was_50, eX5_was_52, eX5_was_53, eX5_was_55, eX5_was_56, eX5_was_60, eX5_was_62, eX5_was_65, eX5_was_66, eX5_was_68, eX5_was_69, eX5_was_70, eX5_was_72, eX5_was_73, eX5_was_74, eX5_was_76, eX5_was_77, eX5_was_78, eX5_was_81, eX5_was_84, eX5_was_86, eX5_was_88, eX5_was_90, eX5_was_91, eX5_was_94, eX5_was_96, eX5_was_98, eX5_was_101, eX5_was_104, eX5_was_106, eX5_was_109, eX5_was_111, eX5_was_112, eX5_was_114, eX5_was_115, eX5_was_118, eX5_was_120, eX5_was_123, eX5_was_125, Option.toList_some, Option.toList_none, List.cons_append, List.nil_append, is01_0, is01_1, true_and, nd100, nI_1]
          rw [if_neg hlt, if_neg q]
        · rw [← h2 Q]
          show EV X mX6_was 0 0 64 _ _ _ _ _ = _
          rw [eX6_was_64]
          simp only [eX6_was_0, eX6_was_1, eX6_was_2, eX6_was_3, eX6_was_6, eX6_was_9, eX6_was_12, eX6_was_13, eX6_was_14, eX6_was_15, eX6_was_18, eX6_was_21, eX6_was_24, eX6_was_25, eX6_was_26, eX6_was_27, eX6_was_30, eX6_was_33, eX6_was_36, eX6_was_38, eX6_was_39, eX6_was_40, eX6_was_43, eX6_was_46, eX6_was_49, eX6_was_51, eX6_was_52, eX6_was_53, eX6_was_55, eX6_was_56, eX6_was_58, eX6_was_59, eX6_was_61, eX6_was_62, eX6_was_66, eX6_was_68, eX6_was_71, eX6_was_73, eX6_was_74, eX6_was_75, eX6_was_76, eX6_was_78, eX6_was_79, eX6_was_80, eX6_was_82, eX6_was_83, eX6_was_84, eX6_was_87, eX6_was_88, eX6_was_91, eX6_was_92, eX6_was_94, eX6_was_96, eX6_was_99, eX6_was_101, eX6_was_104, eX6_was_106, eX6_was_109, eX6_was_111, eX6_was_113, eX6_was_115, eX6_was_118, eX6_was_120, eX6_was_123, eX6_was_125, eX6_was_127, eX6_was_129, eX6_was_131, eX6_was_134, eX6_was_135, eX6_was_138, eX6_was_139, eX6_was_140, eX6_was_142, eX6_was_145, eX6_was_148, eX6_was_150, eX6_was_153, eX6_was_155, eX6_was_158, eX6_was_160, eX6_was_161, eX6_was_164, eX6_was_166, eX6_was_169, eX6_was_171, Option.toList_some, Option.toList_none, List.cons_append, List.nil_append, is01_0, is01_1, true_and, nd100, nI_1, n10, if_true, if_false, Int32.add_zero]
          rw [if_neg hlt, if_neg q']
  unfold Both
  simp only [eX5_was_0, eX5_was_1, eX5_was_2, eX5_was_5, eX5_was_8, eX5_was_11, eX5_was_12, eX5_was_13, eX5_was_16, eX5_was_19, eX5_was_22, eX5_was_23, eX5_was_24, eX5_was_27, eX5_was_30, eX5_was_33, eX5_was_35, eX5_was_36, eX5_was_37, eX5_was_40, eX5_was_43, eX5_was_45, eX5_was_46, eX5_was_47, eX5_was_49, eX5_was_50, eX5_was_52, eX5_was_53, eX5_was_55, eX5_was_56, eX5_was_60, eX5_was_62, eX5_was_65, eX5_was_66, eX5_was_68, eX5_was_69, eX5_was_70, eX5_was_72, eX5_was_73, eX5_was_74, eX5_was_76, eX5_was_77, eX5_was_78, eX5_was_81, eX5_was_84, eX5_was_86, eX5_was_88, eX5_was_90, eX5_was_91, eX5_was_94, eX5_was_96, eX5_was_98, eX5_was_101, eX5_was_104, eX5_was_106, eX5_was_109, eX5_was_111, eX5_was_112, eX5_was_114, eX5_was_115, eX5_was_118, eX5_was_120, eX5_was_123, eX5_was_125, eX6_was_0, eX6_was_1, eX6_was_2, eX6_was_3, eX6_was_6, eX6_was_9, eX6_was_12, eX6_was_13, eX6_was_14, eX6_was_15, eX6_was_18, eX6_was_21, eX6_was_24, eX6_was_25, eX6_was_26, eX6_was_27, eX6_was_30, eX6_was_33, eX6_was_36, eX6_was_38, eX6_was_39, eX6_was_40, eX6_was_43, eX6_was_46, eX6_was_49, eX6_was_51, eX6_was_52, eX6_was_53, eX6_was_55, eX6_was_56, eX6_was_58, eX6_was_59, eX6_was_61, eX6_was_62, eX6_was_66, eX6_was_68, eX6_was_71, eX6_was_73, eX6_was_74, eX6_was_75, eX6_was_76, eX6_was_78, eX6_was_79, eX6_was_80, eX6_was_82, eX6_was_83, eX6_was_84, eX6_was_87, eX6_was_88, eX6_was_91, eX6_was_92, eX6_was_94, eX6_was_96, eX6_was_99, eX6_was_101, eX6_was_104, eX6_was_106, eX6_was_109, eX6_was_111, eX6_was_113, eX6_was_115, eX6_was_118, eX6_was_120, eX6_was_123, eX6_was_125, eX6_was_127, eX6_was_129, eX6_was_131, eX6_was_134, eX6_was_135, eX6_was_138, eX6_was_139, eX6_was_140, eX6_was_142, eX6_was_145, eX6_was_148, eX6_was_150, eX6_was_153, eX6_was_155, eX6_was_158, eX6_was_160, eX6_was_161, eX6_was_164, eX6_was_166, eX6_was_169, eX6_was_171, Option.toList_some, Option.toList_none, List.cons_append, List.nil_append, is01_0, is01_1, true_and, r_isOutside, r_in, b01_0, out_in, wl_0, wr_0, wl_1, wr_1, wl_2, wr_2, wl_3, wr_3, wl_20, wr_20, wl_48, wr_48, wl_57, wr_57, wl_60, wr_60, wl_100, wr_100, wl_255, wr_255, wl_500, wr_500, wl_900, wr_900, wl_999, wr_999, wl_12345, wr_12345, wl_999999, wr_999999, wl_99999999, wr_99999999, wl_1000000000, wr_1000000000, wl_1103515245, wr_1103515245]
  by_cases c1 : 0 ≤ a ∧ a ≤ 999
  · by_cases c2 : 1 ≤ n ∧ n ≤ 500
    · by_cases c3 : 0 ≤ b ∧ b ≤ 999
      · by_cases c4 : 0 ≤ z ∧ z ≤ 2
        · simp only [c1, c2, c3, c4, not_true, if_true, if_false, and_self]
          exact key 60 1 0 (-1) (-1) .null (by omega) (Or.inl rfl)
        · simp only [c1, c2, c3, c4, not_true, not_false_iff, if_true, if_false, and_self]
          first | exact ⟨_, fun _ => rfl, fun _ => rfl⟩ | exact ⟨_, fun _ => rfl⟩
      · simp only [c1, c2, c3, not_true, not_false_iff, if_true, if_false, and_self]
        first | exact ⟨_, fun _ => rfl, fun _ => rfl⟩ | exact ⟨_, fun _ => rfl⟩
    · simp only [c1, c2, not_true, not_false_iff, if_true, if_false, and_self]
      first | exact ⟨_, fun _ => rfl, fun _ => rfl⟩ | exact ⟨_, fun _ => rfl⟩
  · simp only [c1, not_true, not_false_iff, if_true, if_false]
    first | exact ⟨_, fun _ => rfl, fun _ => rfl⟩ | exact ⟨_, fun _ => rfl⟩
theorem o_speed (hN : Nw sw h NL G w v) (y : Int32) : Both (fun Q => EV X mX5_speed 0 0 0 [.ref 0, .int y] [] (Gb sw) h Q) (fun Q => EV X mX6_speed 0 0 0 [.ref 140, .int y] [] (Gb sw) h Q) sw h := by
  obtain ⟨hW, hV, hC, hM, hs, hm⟩ := hN
  unfold Both
  simp only [eX5_speed_0, eX5_speed_1, eX5_speed_2, eX5_speed_5, eX5_speed_8, eX5_speed_11, eX5_speed_13, eX5_speed_14, eX5_speed_15, eX5_speed_18, eX5_speed_21, eX5_speed_24, eX5_speed_25, eX5_speed_28, eX5_speed_29, eX5_speed_32, eX5_speed_35, eX5_speed_37, eX6_speed_0, eX6_speed_1, eX6_speed_2, eX6_speed_3, eX6_speed_6, eX6_speed_9, eX6_speed_12, eX6_speed_14, eX6_speed_15, eX6_speed_16, eX6_speed_19, eX6_speed_22, eX6_speed_24, eX6_speed_27, eX6_speed_28, eX6_speed_29, eX6_speed_32, Option.toList_some, Option.toList_none, List.cons_append, List.nil_append, is01_0, is01_1, true_and, r_isOutside, r_in, b01_0, out_in, wl_0, wr_0, wl_1, wr_1, wl_2, wr_2, wl_3, wr_3, wl_20, wr_20, wl_48, wr_48, wl_57, wr_57, wl_60, wr_60, wl_100, wr_100, wl_255, wr_255, wl_500, wr_500, wl_900, wr_900, wl_999, wr_999, wl_12345, wr_12345, wl_999999, wr_999999, wl_99999999, wr_99999999, wl_1000000000, wr_1000000000, wl_1103515245, wr_1103515245, pl_P, hC.1, hM.1, r_paceAt (pl_P sw) hW.1 hC, r_speedAt hW.1 hM, Decidable.not_not]
  by_cases c1 : 0 ≤ y ∧ y ≤ 900
  · simp only [c1, not_true, if_true, if_false, and_self]
    by_cases c2 : w 0 = 0
    · simp only [c2, if_true]
      first | exact ⟨_, fun _ => rfl, fun _ => rfl⟩ | exact ⟨_, fun _ => rfl⟩
    · simp only [c2, if_false]
      first | exact ⟨_, fun _ => rfl, fun _ => rfl⟩ | exact ⟨_, fun _ => rfl⟩
  · simp only [c1, not_true, not_false_iff, if_true, if_false]
    first | exact ⟨_, fun _ => rfl, fun _ => rfl⟩ | exact ⟨_, fun _ => rfl⟩
theorem o_front (hN : Nw sw h NL G w v) (x : Int32) : Both (fun Q => EV X mX5_front 0 0 0 [.ref 0, .int x] [] (Gb sw) h Q) (fun Q => EV X mX6_front 0 0 0 [.ref 140, .int x] [] (Gb sw) h Q) sw h := by
  obtain ⟨hW, hV, hC, hM, hs, hm⟩ := hN
  obtain ⟨⟨n, hn8, hn, -⟩, -⟩ := hV
  have hcl : (v 3).toNatClampNeg = n := by rw [hn]; exact cl_nI (by omega)
  have e0 : (0 : Int64) = (0 : Int32).toInt64 := rfl
  unfold Both
  simp only [eX5_front_0, eX5_front_1, eX5_front_4, eX5_front_5, eX5_front_6, eX5_front_9, eX5_front_12, eX5_front_15, eX5_front_16, eX5_front_19, eX5_front_22, eX5_front_23, eX5_front_24, eX5_front_27, eX5_front_28, eX6_front_0, eX6_front_1, eX6_front_2, eX6_front_3, eX6_front_4, eX6_front_7, eX6_front_8, eX6_front_9, eX6_front_10, eX6_front_11, eX6_front_12, eX6_front_15, eX6_front_18, eX6_front_19, eX6_front_22, eX6_front_23, eX6_front_24, eX6_front_25, eX6_front_26, eX6_front_29, eX6_front_30, Option.toList_some, Option.toList_none, List.cons_append, List.nil_append, is01_0, is01_1, true_and, tc3, ib3, hs.1, hm.f, e0, r_inI, b01_0, hn]
  by_cases c1 : x < 0
  · have c2 : ¬ (0 ≤ x ∧ x ≤ nI n - 1) := by rw [Int32.le_iff_toInt_le]; rw [Int32.lt_iff_toInt_lt] at c1; intro q; have := q.1; have e : (0 : Int32).toInt = 0 := rfl; omega
    simp only [c1, c2, if_true, if_false, not_false_iff]
    first | exact ⟨_, fun _ => rfl, fun _ => rfl⟩ | exact ⟨_, fun _ => rfl⟩
  · have e1 : (nI n - 1).toInt = n - 1 := by
      have : (nI n).toInt = n := nI_toInt (by omega)
      rw [fb_subI (by rw [this]; show _ ≤ _ - (1 : Int); omega) (by rw [this]; show _ - (1 : Int) < _; omega), this]
      rfl
    obtain ⟨j, hj, rfl⟩ := nI_of c1
    by_cases c2 : nI n ≤ nI j
    · have c3 : ¬ (0 ≤ nI j ∧ nI j ≤ nI n - 1) := by
        intro q
        have q2 := q.2
        rw [fa_le, e1, nI_toInt hj] at q2
        have := (nI_leI (by omega) hj).mp c2
        omega
      simp only [c1, c2, c3, if_true, if_false, not_false_iff]
      first | exact ⟨_, fun _ => rfl, fun _ => rfl⟩ | exact ⟨_, fun _ => rfl⟩
    · have hjn : j < n := by
        have := mt (nI_leI (a := n) (b := j) (by omega) hj).mpr c2
        omega
      have c3 : 0 ≤ nI j ∧ nI j ≤ nI n - 1 := by
        refine ⟨nI_pos' hj, ?_⟩
        rw [fa_le, e1, nI_toInt hj]
        omega
      have hj8 : j < 8 := by omega
      simp only [c1, c2, c3, if_true, if_false, not_true, la4, la12, la20, la28, la36, cl8_4 hj8, cl8_12 hj8, cl8_20 hj8, cl8_28 hj8, cl8_36 hj8, ib8_4 hj8, ib8_12 hj8, ib8_20 hj8, ib8_28 hj8, ib8_36 hj8, cl8 hj8, inb8 hj8, Nat.le_refl, hs.q j (by omega), hm.q j (by omega), true_and, and_self]
      first | exact ⟨_, fun _ => rfl, fun _ => rfl⟩ | exact ⟨_, fun _ => rfl⟩
theorem c_turnOf (hs : SC h 13 G v) {n : Nat} (hn : v 3 = nI n) (hn8 : n ≤ 8) (x : Int32) : EV X mX3_turnOf 0 0 0 [.ref 13, .int x, .null] [] (Gb sw) h Q = Q (some (.int (encO (xfind (fun k => decide (v (4 + k) = x)) 0 n)))) (Gb sw) h := by
  have hcl : (v 3).toNatClampNeg = n := by rw [hn]; exact cl_nI (by omega)
  simp only [eX3_turnOf_0, eX3_turnOf_1, eX3_turnOf_3, eX3_turnOf_4, eX3_turnOf_7, eX3_turnOf_10, eX3_turnOf_11, eX3_turnOf_14, eX3_turnOf_15, eX3_turnOf_16, eX3_turnOf_17, eX3_turnOf_20, eX3_turnOf_21, eX3_turnOf_22, eX3_turnOf_25, eX3_turnOf_28, eX3_turnOf_29, Option.toList_some, Option.toList_none, List.cons_append, List.nil_append, is01_0, is01_1, true_and]
  have key := lp_find (c := fun k => decide (v (4 + k) = x)) (fun i => EV X mX3_turnOf 0 0 2 [.ref 13, .int x, .int (nI i)] [] (Gb sw) h Q) (fun i => Q (some (.int (nI i))) (Gb sw) h) n 0 (fun i h1 h2 => by
    have hi8 : i < 8 := by omega
    rw [eX3_turnOf_2]
    simp only [eX3_turnOf_0, eX3_turnOf_1, eX3_turnOf_3, eX3_turnOf_4, eX3_turnOf_7, eX3_turnOf_10, eX3_turnOf_11, eX3_turnOf_14, eX3_turnOf_15, eX3_turnOf_16, eX3_turnOf_17, eX3_turnOf_20, eX3_turnOf_21, eX3_turnOf_22, eX3_turnOf_25, eX3_turnOf_28, eX3_turnOf_29, Option.toList_some, Option.toList_none, List.cons_append, List.nil_append, is01_0, is01_1, true_and, hs.1, hn, cl8 hi8, inb8 hi8, Nat.le_refl, hs.q i (by omega), nI_1, decide_eq_true_eq]
    rw [if_neg (nI_ge (by omega) (by omega))])
  refine key.trans ?_
  cases hx : xfind (fun k => decide (v (4 + k) = x)) 0 n with
  | some k => rfl
  | none =>
    simp only
    rw [Nat.zero_add, eX3_turnOf_2]
    simp only [eX3_turnOf_0, eX3_turnOf_1, eX3_turnOf_3, eX3_turnOf_4, eX3_turnOf_7, eX3_turnOf_10, eX3_turnOf_11, eX3_turnOf_14, eX3_turnOf_15, eX3_turnOf_16, eX3_turnOf_17, eX3_turnOf_20, eX3_turnOf_21, eX3_turnOf_22, eX3_turnOf_25, eX3_turnOf_28, eX3_turnOf_29, Option.toList_some, Option.toList_none, List.cons_append, List.nil_append, is01_0, is01_1, true_and, hs.1, hn]
    rw [if_pos (nI_le (by omega) (by omega))]
    rfl
theorem m_placeOf (hm : SM h 145 0 G v) {n : Nat} (hn : v 3 = nI n) (hn8 : n ≤ 8) (x : Int32) : EV X mX6_placeOf 0 0 0 [.ref 140, .int x, .null] [] (Gb sw) h Q = Q (some (.int (encO (xfind (fun k => decide (v (4 + k) = x)) 0 n)))) (Gb sw) h := by
  have hcl : (v 3).toNatClampNeg = n := by rw [hn]; exact cl_nI (by omega)
  simp only [eX6_placeOf_0, eX6_placeOf_1, eX6_placeOf_3, eX6_placeOf_4, eX6_placeOf_7, eX6_placeOf_8, eX6_placeOf_9, eX6_placeOf_12, eX6_placeOf_13, eX6_placeOf_16, eX6_placeOf_17, eX6_placeOf_18, eX6_placeOf_19, eX6_placeOf_20, eX6_placeOf_21, eX6_placeOf_24, eX6_placeOf_25, eX6_placeOf_26, eX6_placeOf_29, eX6_placeOf_32, eX6_placeOf_33, Option.toList_some, Option.toList_none, List.cons_append, List.nil_append, is01_0, is01_1, true_and]
  have key := lp_find (c := fun k => decide (v (4 + k) = x)) (fun i => EV X mX6_placeOf 0 0 2 [.ref 140, .int x, .int (nI i)] [] (Gb sw) h Q) (fun i => Q (some (.int (nI i))) (Gb sw) h) n 0 (fun i h1 h2 => by
    have hi8 : i < 8 := by omega
    rw [eX6_placeOf_2]
    simp only [eX6_placeOf_0, eX6_placeOf_1, eX6_placeOf_3, eX6_placeOf_4, eX6_placeOf_7, eX6_placeOf_8, eX6_placeOf_9, eX6_placeOf_12, eX6_placeOf_13, eX6_placeOf_16, eX6_placeOf_17, eX6_placeOf_18, eX6_placeOf_19, eX6_placeOf_20, eX6_placeOf_21, eX6_placeOf_24, eX6_placeOf_25, eX6_placeOf_26, eX6_placeOf_29, eX6_placeOf_32, eX6_placeOf_33, Option.toList_some, Option.toList_none, List.cons_append, List.nil_append, is01_0, is01_1, true_and, tc3, ib3, hm.f, hn, la4, la12, la20, la28, la36, cl8_4 hi8, cl8_12 hi8, cl8_20 hi8, cl8_28 hi8, cl8_36 hi8, ib8_4 hi8, ib8_12 hi8, ib8_20 hi8, ib8_28 hi8, ib8_36 hi8, hm.q i (by omega), nI_1, decide_eq_true_eq]
    rw [if_neg (nI_ge (by omega) (by omega))])
  refine key.trans ?_
  cases hx : xfind (fun k => decide (v (4 + k) = x)) 0 n with
  | some k => rfl
  | none =>
    simp only
    rw [Nat.zero_add, eX6_placeOf_2]
    simp only [eX6_placeOf_0, eX6_placeOf_1, eX6_placeOf_3, eX6_placeOf_4, eX6_placeOf_7, eX6_placeOf_8, eX6_placeOf_9, eX6_placeOf_12, eX6_placeOf_13, eX6_placeOf_16, eX6_placeOf_17, eX6_placeOf_18, eX6_placeOf_19, eX6_placeOf_20, eX6_placeOf_21, eX6_placeOf_24, eX6_placeOf_25, eX6_placeOf_26, eX6_placeOf_29, eX6_placeOf_32, eX6_placeOf_33, Option.toList_some, Option.toList_none, List.cons_append, List.nil_append, is01_0, is01_1, true_and, tc3, ib3, hm.f, hn]
    rw [if_pos (nI_le (by omega) (by omega))]
    rfl
theorem m_isGoer (hM : PM h NL G w) (hG : G ≤ 8) (x : Int32) : EV X mX6_isGoer 0 0 0 [.ref 140, .int x] [] g h Q = Q (some (.int (b01 (0 ≤ x ∧ x < nI G)))) g h := by
  rw [r_isGoer x (by rw [hM.1.2.2.2.2]; exact nIr (by omega)), hM.1.2.2.2.2]
theorem c_hasGoer {p : Nat} (hp : isP p) (hC : PC h p NL G w) (x : Int32) : EV X mX2_hasGoer 0 0 0 [.ref p, .int x] [] g h Q = Q (some (.int (b01 (0 ≤ x ∧ x < nI G)))) g h := by
  rw [r_hasGoer hp, hC.1.2.2.2.2.2]
theorem o_waits (hN : Nw sw h NL G w v) (x : Int32) : Both (fun Q => EV X mX5_waits 0 0 0 [.ref 0, .int x, .null] [] (Gb sw) h Q) (fun Q => EV X mX6_waits 0 0 0 [.ref 140, .int x, .null] [] (Gb sw) h Q) sw h := by
  obtain ⟨hW, hV, hC, hM, hs, hm⟩ := hN
  obtain ⟨⟨n, hn8, hn, hq, -⟩, -⟩ := hV
  unfold Both
  simp only [eX5_waits_0, eX5_waits_1, eX5_waits_4, eX5_waits_5, eX5_waits_8, eX5_waits_11, eX5_waits_13, eX5_waits_14, eX5_waits_15, eX5_waits_18, eX5_waits_19, eX5_waits_22, eX5_waits_23, eX5_waits_24, eX5_waits_25, eX5_waits_28, eX5_waits_29, eX5_waits_32, eX5_waits_35, eX5_waits_36, eX5_waits_39, eX5_waits_40, eX5_waits_41, eX5_waits_42, eX5_waits_43, eX5_waits_46, eX5_waits_49, eX5_waits_50, eX5_waits_51, eX5_waits_52, eX6_waits_0, eX6_waits_1, eX6_waits_2, eX6_waits_5, eX6_waits_8, eX6_waits_10, eX6_waits_11, eX6_waits_12, eX6_waits_13, eX6_waits_16, eX6_waits_17, eX6_waits_18, eX6_waits_21, eX6_waits_22, eX6_waits_25, eX6_waits_26, eX6_waits_27, eX6_waits_30, eX6_waits_31, eX6_waits_32, eX6_waits_33, Option.toList_some, Option.toList_none, List.cons_append, List.nil_append, is01_0, is01_1, true_and, pl_P, c_hasGoer (pl_P sw) hC, m_isGoer hM hW.2.1, b01_0, c_turnOf hs hn hn8, m_placeOf hm hn hn8, hC.1, hM.1]
  by_cases c1 : 0 ≤ x ∧ x < nI G
  · simp only [c1, not_true, if_false, and_self]
    cases hx : xfind (fun k => decide (v (4 + k) = x)) 0 n with
    | none =>
      simp only [encO_n, n1lt, n1ge, if_true, if_false]
      first | exact ⟨_, fun _ => rfl, fun _ => rfl⟩ | exact ⟨_, fun _ => rfl⟩
    | some k =>
      obtain ⟨-, h2, -, -⟩ := xfind_some hx
      have hGp : 0 < G := by
        obtain ⟨j, hj, -⟩ := goE hW.2.1 c1
        omega
      have hw0 : w 0 ≠ 0 := fun q => by have := (hW.2.2.2.1 q).2.2; omega
      have hr := (hW.2.2.2.2.1 hw0).1
      have r1 : ¬ w 1 < 1 := by rw [Int32.not_lt]; exact hr
      have r0 : ¬ w 1 = 0 := fun q => by rw [q] at hr; exact absurd hr (by decide)
      simp only [encO_s, nIlt0 (show k < 2147483648 by omega), nIge0 (show k < 2147483648 by omega), eq_false (nI_n1 (show k < 2147483648 by omega)), r1, r0, hr, if_true, if_false, not_false_iff, true_and]
      first | exact ⟨_, fun _ => rfl, fun _ => rfl⟩ | exact ⟨_, fun _ => rfl⟩
  · simp only [c1, not_false_iff, if_true]
    first | exact ⟨_, fun _ => rfl, fun _ => rfl⟩ | exact ⟨_, fun _ => rfl⟩
theorem o_age (hN : Nw sw h NL G w v) (x n : Int32) : Both (fun Q => EV X mX5_age 0 0 0 [.ref 0, .int x, .int n] [] (Gb sw) h Q) (fun Q => EV X mX6_age 0 0 0 [.ref 140, .int x, .int n] [] (Gb sw) h Q) sw h := by
  obtain ⟨hW, hV, hC, hM, hs, hm⟩ := hN
  unfold Both
  simp only [eX5_age_0, eX5_age_1, eX5_age_4, eX5_age_5, eX5_age_8, eX5_age_11, eX5_age_13, eX5_age_14, eX5_age_15, eX5_age_16, eX5_age_19, eX5_age_22, eX5_age_25, eX5_age_27, eX5_age_28, eX5_age_29, eX5_age_32, eX5_age_35, eX5_age_36, eX5_age_37, eX5_age_38, eX5_age_39, eX5_age_40, eX5_age_43, eX5_age_44, eX5_age_47, eX5_age_49, eX5_age_50, eX6_age_0, eX6_age_1, eX6_age_2, eX6_age_5, eX6_age_8, eX6_age_10, eX6_age_11, eX6_age_12, eX6_age_13, eX6_age_14, eX6_age_17, eX6_age_20, eX6_age_23, eX6_age_24, eX6_age_25, eX6_age_26, eX6_age_29, eX6_age_31, eX6_age_32, eX6_age_35, eX6_age_37, Option.toList_some, Option.toList_none, List.cons_append, List.nil_append, is01_0, is01_1, true_and, pl_P, c_hasGoer (pl_P sw) hC, m_isGoer hM hW.2.1, b01_0, r_isOutside, out_in, r_in, wl_0, wr_0, wl_1, wr_1, wl_2, wr_2, wl_3, wr_3, wl_20, wr_20, wl_48, wr_48, wl_57, wr_57, wl_60, wr_60, wl_100, wr_100, wl_255, wr_255, wl_500, wr_500, wl_900, wr_900, wl_999, wr_999, wl_12345, wr_12345, wl_999999, wr_999999, wl_99999999, wr_99999999, wl_1000000000, wr_1000000000, wl_1103515245, wr_1103515245]
  by_cases c1 : 0 ≤ x ∧ x < nI G
  · obtain ⟨j, hj, rfl⟩ := goE hW.2.1 c1
    have hj8 : j < 8 := by have := hW.2.1; omega
    simp only [c1, not_true, if_false, and_self]
    by_cases c2 : 0 ≤ n ∧ n ≤ 500
    · have hr := rg c2 (m := 0) (n := 500) rfl rfl
      simp only [c2, not_true, if_false, if_true, and_self, cl8 hj8, inb8 hj8, Nat.le_refl, hs.a j hj, c_paceOf hs hW hC hj, r_older, m_olderBy hm hW hV hM hj n hr.1 (by omega), Option.toList_some, Option.toList_none, List.cons_append, List.nil_append, is01_0, is01_1, true_and, eX5_age_0, eX5_age_1, eX5_age_4, eX5_age_5, eX5_age_8, eX5_age_11, eX5_age_13, eX5_age_14, eX5_age_15, eX5_age_16, eX5_age_19, eX5_age_22, eX5_age_25, eX5_age_27, eX5_age_28, eX5_age_29, eX5_age_32, eX5_age_35, eX5_age_36, eX5_age_37, eX5_age_38, eX5_age_39, eX5_age_40, eX5_age_43, eX5_age_44, eX5_age_47, eX5_age_49, eX5_age_50, eX6_age_0, eX6_age_1, eX6_age_2, eX6_age_5, eX6_age_8, eX6_age_10, eX6_age_11, eX6_age_12, eX6_age_13, eX6_age_14, eX6_age_17, eX6_age_20, eX6_age_23, eX6_age_24, eX6_age_25, eX6_age_26, eX6_age_29, eX6_age_31, eX6_age_32, eX6_age_35, eX6_age_37, nd100]
      first | exact ⟨_, fun _ => rfl, fun _ => rfl⟩ | exact ⟨_, fun _ => rfl⟩
    · simp only [c2, not_false_iff, if_true, if_false, and_self]
      first | exact ⟨_, fun _ => rfl, fun _ => rfl⟩ | exact ⟨_, fun _ => rfl⟩
  · simp only [c1, not_false_iff, if_true]
    first | exact ⟨_, fun _ => rfl, fun _ => rfl⟩ | exact ⟨_, fun _ => rfl⟩
end OPS
