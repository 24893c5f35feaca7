/-! read-only operations, class and model together -/
theorem wl_0 (x : Int32) : ((0 : Int64) ≤ x.toInt64) = ((0 : Int32) ≤ x) := propext (fa_wide_le 0 x)
theorem wr_0 (x : Int32) : (x.toInt64 ≤ (0 : Int64)) = (x ≤ (0 : Int32)) := propext (fa_wide_le x 0)
theorem wl_1 (x : Int32) : ((1 : Int64) ≤ x.toInt64) = ((1 : Int32) ≤ x) := propext (fa_wide_le 1 x)
theorem wr_1 (x : Int32) : (x.toInt64 ≤ (1 : Int64)) = (x ≤ (1 : Int32)) := propext (fa_wide_le x 1)
theorem wl_2 (x : Int32) : ((2 : Int64) ≤ x.toInt64) = ((2 : Int32) ≤ x) := propext (fa_wide_le 2 x)
theorem wr_2 (x : Int32) : (x.toInt64 ≤ (2 : Int64)) = (x ≤ (2 : Int32)) := propext (fa_wide_le x 2)
theorem wl_3 (x : Int32) : ((3 : Int64) ≤ x.toInt64) = ((3 : Int32) ≤ x) := propext (fa_wide_le 3 x)
theorem wr_3 (x : Int32) : (x.toInt64 ≤ (3 : Int64)) = (x ≤ (3 : Int32)) := propext (fa_wide_le x 3)
theorem wl_20 (x : Int32) : ((20 : Int64) ≤ x.toInt64) = ((20 : Int32) ≤ x) := propext (fa_wide_le 20 x)
theorem wr_20 (x : Int32) : (x.toInt64 ≤ (20 : Int64)) = (x ≤ (20 : Int32)) := propext (fa_wide_le x 20)
theorem wl_48 (x : Int32) : ((48 : Int64) ≤ x.toInt64) = ((48 : Int32) ≤ x) := propext (fa_wide_le 48 x)
theorem wr_48 (x : Int32) : (x.toInt64 ≤ (48 : Int64)) = (x ≤ (48 : Int32)) := propext (fa_wide_le x 48)
theorem wl_57 (x : Int32) : ((57 : Int64) ≤ x.toInt64) = ((57 : Int32) ≤ x) := propext (fa_wide_le 57 x)
theorem wr_57 (x : Int32) : (x.toInt64 ≤ (57 : Int64)) = (x ≤ (57 : Int32)) := propext (fa_wide_le x 57)
theorem wl_60 (x : Int32) : ((60 : Int64) ≤ x.toInt64) = ((60 : Int32) ≤ x) := propext (fa_wide_le 60 x)
theorem wr_60 (x : Int32) : (x.toInt64 ≤ (60 : Int64)) = (x ≤ (60 : Int32)) := propext (fa_wide_le x 60)
theorem wl_100 (x : Int32) : ((100 : Int64) ≤ x.toInt64) = ((100 : Int32) ≤ x) := propext (fa_wide_le 100 x)
theorem wr_100 (x : Int32) : (x.toInt64 ≤ (100 : Int64)) = (x ≤ (100 : Int32)) := propext (fa_wide_le x 100)
theorem wl_255 (x : Int32) : ((255 : Int64) ≤ x.toInt64) = ((255 : Int32) ≤ x) := propext (fa_wide_le 255 x)
theorem wr_255 (x : Int32) : (x.toInt64 ≤ (255 : Int64)) = (x ≤ (255 : Int32)) := propext (fa_wide_le x 255)
theorem wl_500 (x : Int32) : ((500 : Int64) ≤ x.toInt64) = ((500 : Int32) ≤ x) := propext (fa_wide_le 500 x)
theorem wr_500 (x : Int32) : (x.toInt64 ≤ (500 : Int64)) = (x ≤ (500 : Int32)) := propext (fa_wide_le x 500)
theorem wl_900 (x : Int32) : ((900 : Int64) ≤ x.toInt64) = ((900 : Int32) ≤ x) := propext (fa_wide_le 900 x)
theorem wr_900 (x : Int32) : (x.toInt64 ≤ (900 : Int64)) = (x ≤ (900 : Int32)) := propext (fa_wide_le x 900)
theorem wl_999 (x : Int32) : ((999 : Int64) ≤ x.toInt64) = ((999 : Int32) ≤ x) := propext (fa_wide_le 999 x)
theorem wr_999 (x : Int32) : (x.toInt64 ≤ (999 : Int64)) = (x ≤ (999 : Int32)) := propext (fa_wide_le x 999)
theorem wl_12345 (x : Int32) : ((12345 : Int64) ≤ x.toInt64) = ((12345 : Int32) ≤ x) := propext (fa_wide_le 12345 x)
theorem wr_12345 (x : Int32) : (x.toInt64 ≤ (12345 : Int64)) = (x ≤ (12345 : Int32)) := propext (fa_wide_le x 12345)
theorem wl_999999 (x : Int32) : ((999999 : Int64) ≤ x.toInt64) = ((999999 : Int32) ≤ x) := propext (fa_wide_le 999999 x)
theorem wr_999999 (x : Int32) : (x.toInt64 ≤ (999999 : Int64)) = (x ≤ (999999 : Int32)) := propext (fa_wide_le x 999999)
theorem wl_99999999 (x : Int32) : ((99999999 : Int64) ≤ x.toInt64) = ((99999999 : Int32) ≤ x) := propext (fa_wide_le 99999999 x)
theorem wr_99999999 (x : Int32) : (x.toInt64 ≤ (99999999 : Int64)) = (x ≤ (99999999 : Int32)) := propext (fa_wide_le x 99999999)
theorem wl_1000000000 (x : Int32) : ((1000000000 : Int64) ≤ x.toInt64) = ((1000000000 : Int32) ≤ x) := propext (fa_wide_le 1000000000 x)
theorem wr_1000000000 (x : Int32) : (x.toInt64 ≤ (1000000000 : Int64)) = (x ≤ (1000000000 : Int32)) := propext (fa_wide_le x 1000000000)
theorem wl_1103515245 (x : Int32) : ((1103515245 : Int64) ≤ x.toInt64) = ((1103515245 : Int32) ≤ x) := propext (fa_wide_le 1103515245 x)
theorem wr_1103515245 (x : Int32) : (x.toInt64 ≤ (1103515245 : Int64)) = (x ≤ (1103515245 : Int32)) := propext (fa_wide_le x 1103515245)
theorem out_in (x a b : Int32) : (¬ (x < a ∨ b < x)) = (a ≤ x ∧ x ≤ b) := by
  apply propext
  rw [fa_lt, fa_lt, fa_le, fa_le]
  omega
def Both (A B : (Option Value → xG → xH → Prop) → Prop) (sw : Bool) (h : xH) : Prop := ∃ r : Int32, (∀ Q, A Q = Q (some (.int r)) (Gb sw) h) ∧ ∀ Q, B Q = Q (some (.int r)) (Gb sw) h
theorem rg {x a b : Int32} {m n : Int} (h : a ≤ x ∧ x ≤ b) (ha : a.toInt = m) (hb : b.toInt = n) : m ≤ x.toInt ∧ x.toInt ≤ n := by
  rw [fa_le, fa_le, ha, hb] at h
  exact h
theorem n10 : ((1 : Int32) = 0) = False := by decide
section OPS
variable {X : (Nat → Int32) × Nat} {g : xG} {h : xH} {sw : Bool} {NL G : Nat} {w v : Nat → Int32}
theorem o_meet (a b c d : Int32) : Both (fun Q => EV X mX5_meet 0 0 0 [.ref 0, .int a, .int b, .int c, .int d, .null, .null] [] (Gb sw) h Q) (fun Q => EV X mX6_meet 0 0 0 [.ref 140, .int a, .int b, .int c, .int d, .null, .null] [] (Gb sw) h Q) sw h := by
  have key : ∀ (n i : Nat) (t : Int32), i + n = 2000 → ¬ b = 0 → Both (fun Q => EV X mX5_meet 0 0 54 [.ref 0, .int a, .int b, .int c, .int d, .int t, .int (nI i)] [] (Gb sw) h Q) (fun Q => EV X mX6_meet 0 0 58 [.ref 140, .int a, .int b, .int c, .int d, .int t, .int (nI i)] [] (Gb sw) h Q) sw h := by
    intro n
    induction n with
    | zero =>
      intro i t hi hb
      refine ⟨-1, fun Q => ?_, fun Q => ?_⟩
      · show EV X mX5_meet 0 0 54 _ _ _ _ _ = _
        rw [eX5_meet_54]
        simp only [eX5_meet_0, eX5_meet_1, eX5_meet_2, eX5_meet_5, eX5_meet_8, eX5_meet_11, eX5_meet_12, eX5_meet_13, eX5_meet_16, eX5_meet_19, eX5_meet_22, eX5_meet_23, eX5_meet_24, eX5_meet_27, eX5_meet_30, eX5_meet_33, eX5_meet_35, eX5_meet_36, eX5_meet_39, eX5_meet_42, eX5_meet_45, eX5_meet_47, eX5_meet_48, eX5_meet_49, eX5_meet_51, eX5_meet_52, eX5_meet_56, eX5_meet_59, eX5_meet_62, eX5_meet_64, eX5_meet_66, eX5_meet_69, eX5_meet_71, eX5_meet_73, eX5_meet_74, eX5_meet_75, eX5_meet_76, eX5_meet_79, eX5_meet_81, eX5_meet_82, eX5_meet_84, eX5_meet_85, eX5_meet_86, eX5_meet_88, eX5_meet_91, eX5_meet_94, eX5_meet_95, Option.toList_some, Option.toList_none, List.cons_append, List.nil_append, is01_0, is01_1, true_and]
        rw [if_pos (show (2000 : Int32) ≤ nI i from nI_le (a := 2000) (by omega) (by omega))]
      · show EV X mX6_meet 0 0 58 _ _ _ _ _ = _
        rw [eX6_meet_58]
        simp only [eX6_meet_0, eX6_meet_1, eX6_meet_2, eX6_meet_3, eX6_meet_6, eX6_meet_9, eX6_meet_12, eX6_meet_13, eX6_meet_14, eX6_meet_15, eX6_meet_18, eX6_meet_21, eX6_meet_24, eX6_meet_25, eX6_meet_26, eX6_meet_27, eX6_meet_30, eX6_meet_33, eX6_meet_36, eX6_meet_38, eX6_meet_39, eX6_meet_40, eX6_meet_43, eX6_meet_46, eX6_meet_49, eX6_meet_51, eX6_meet_52, eX6_meet_53, eX6_meet_55, eX6_meet_56, eX6_meet_60, eX6_meet_63, eX6_meet_66, eX6_meet_68, eX6_meet_70, eX6_meet_73, eX6_meet_75, eX6_meet_77, eX6_meet_78, eX6_meet_79, eX6_meet_80, eX6_meet_83, eX6_meet_85, eX6_meet_86, eX6_meet_88, eX6_meet_89, eX6_meet_90, eX6_meet_92, eX6_meet_95, eX6_meet_98, eX6_meet_99, Option.toList_some, Option.toList_none, List.cons_append, List.nil_append, is01_0, is01_1, true_and]
        rw [if_pos (show (2000 : Int32) ≤ nI i from nI_le (a := 2000) (by omega) (by omega))]
    | succ n ih =>
      intro i t hi hb
      have hlt : ¬ (2000 : Int32) ≤ nI i := nI_ge (b := 2000) (by omega) (by omega)
      obtain ⟨r, h1, h2⟩ := ih (i + 1) (t + a) (by omega) hb
      by_cases q1 : t < d
      · refine ⟨r, fun Q => ?_, fun Q => ?_⟩
        · rw [← h1 Q]
          show EV X mX5_meet 0 0 54 _ _ _ _ _ = _
          rw [eX5_meet_54]
          simp only [eX5_meet_0, eX5_meet_1, eX5_meet_2, eX5_meet_5, eX5_meet_8, eX5_meet_11, eX5_meet_12, eX5_meet_13, eX5_meet_16, eX5_meet_19, eX5_meet_22, eX5_meet_23, eX5_meet_24, eX5_meet_27, eX5_meet_30, eX5_meet_33, eX5_meet_35, eX5_meet_36, eX5_meet_39, eX5_meet_42, eX5_meet_45, eX5_meet_47, eX5_meet_48, eX5_meet_49, eX5_meet_51, eX5_meet_52, eX5_meet_56, eX5_meet_59, eX5_meet_62, eX5_meet_64, eX5_meet_66, eX5_meet_69, eX5_meet_71, eX5_meet_73, eX5_meet_74, eX5_meet_75, eX5_meet_76, eX5_meet_79, eX5_meet_81, eX5_meet_82, eX5_meet_84, eX5_meet_85, eX5_meet_86, eX5_meet_88, eX5_meet_91, eX5_meet_94, eX5_meet_95, Option.toList_some, Option.toList_none, List.cons_append, List.nil_append, is01_0, is01_1, true_and, nI_1]
          rw [if_neg hlt, if_pos q1]
        · rw [← h2 Q]
          show EV X mX6_meet 0 0 58 _ _ _ _ _ = _
          rw [eX6_meet_58]
          simp only [eX6_meet_0, eX6_meet_1, eX6_meet_2, eX6_meet_3, eX6_meet_6, eX6_meet_9, eX6_meet_12, eX6_meet_13, eX6_meet_14, eX6_meet_15, eX6_meet_18, eX6_meet_21, eX6_meet_24, eX6_meet_25, eX6_meet_26, eX6_meet_27, eX6_meet_30, eX6_meet_33, eX6_meet_36, eX6_meet_38, eX6_meet_39, eX6_meet_40, eX6_meet_43, eX6_meet_46, eX6_meet_49, eX6_meet_51, eX6_meet_52, eX6_meet_53, eX6_meet_55, eX6_meet_56, eX6_meet_60, eX6_meet_63, eX6_meet_66, eX6_meet_68, eX6_meet_70, eX6_meet_73, eX6_meet_75, eX6_meet_77, eX6_meet_78, eX6_meet_79, eX6_meet_80, eX6_meet_83, eX6_meet_85, eX6_meet_86, eX6_meet_88, eX6_meet_89, eX6_meet_90, eX6_meet_92, eX6_meet_95, eX6_meet_98, eX6_meet_99, Option.toList_some, Option.toList_none, List.cons_append, List.nil_append, is01_0, is01_1, true_and, nI_1]
          rw [if_neg hlt, if_pos q1]
      · by_cases q2 : t - d - (t - d) / b * b = 0
        · refine ⟨t, fun Q => ?_, fun Q => ?_⟩
          · show EV X mX5_meet 0 0 54 _ _ _ _ _ = _
            rw [eX5_meet_54]
            simp only [eX5_meet_0, eX5_meet_1, eX5_meet_2, eX5_meet_5, eX5_meet_8, eX5_meet_11, eX5_meet_12, eX5_meet_13, eX5_meet_16, eX5_meet_19, eX5_meet_22, eX5_meet_23, eX5_meet_24, eX5_meet_27, eX5_meet_30, eX5_meet_33, eX5_meet_35, eX5_meet_36, eX5_meet_39, eX5_meet_42, eX5_meet_45, eX5_meet_47, eX5_meet_48, eX5_meet_49, eX5_meet_51, eX5_meet_52, eX5_meet_56, eX5_meet_59, eX5_meet_62, eX5_meet_64, eX5_meet_66, eX5_meet_69, eX5_meet_71, eX5_meet_73, eX5_meet_74, eX5_meet_75, eX5_meet_76, eX5_meet_79, eX5_meet_81, eX5_meet_82, eX5_meet_84, eX5_meet_85, eX5_meet_86, eX5_meet_88, eX5_meet_91, eX5_meet_94, eX5_meet_95, Option.toList_some, Option.toList_none, List.cons_append, List.nil_append, is01_0, is01_1, true_and, nI_1]
            rw [if_neg hlt, if_neg q1, if_pos q2]
            simp [hb]
          · show EV X mX6_meet 0 0 58 _ _ _ _ _ = _
            rw [eX6_meet_58]
            simp only [eX6_meet_0, eX6_meet_1, eX6_meet_2, eX6_meet_3, eX6_meet_6, eX6_meet_9, eX6_meet_12, eX6_meet_13, eX6_meet_14, eX6_meet_15, eX6_meet_18, eX6_meet_21, eX6_meet_24, eX6_meet_25, eX6_meet_26, eX6_meet_27, eX6_meet_30, eX6_meet_33, eX6_meet_36, eX6_meet_38, eX6_meet_39, eX6_meet_40, eX6_meet_43, eX6_meet_46, eX6_meet_49, eX6_meet_51, eX6_meet_52, eX6_meet_53, eX6_meet_55, eX6_meet_56, eX6_meet_60, eX6_meet_63, eX6_meet_66, eX6_meet_68, eX6_meet_70, eX6_meet_73, eX6_meet_75, eX6_meet_77, eX6_meet_78, eX6_meet_79, eX6_meet_80, eX6_meet_83, eX6_meet_85, eX6_meet_86, eX6_meet_88, eX6_meet_89, eX6_meet_90, eX6_meet_92, eX6_meet_95, eX6_meet_98, eX6_meet_99, Option.toList_some, Option.toList_none, List.cons_append, List.nil_append, is01_0, is01_1, true_and, nI_1]
            rw [if_neg hlt, if_neg q1, if_pos q2]
            simp [hb]
        · refine ⟨r, fun Q => ?_, fun Q => ?_⟩
          · rw [← h1 Q]
            show EV X mX5_meet 0 0 54 _ _ _ _ _ = _
            rw [eX5_meet_54]
            simp only [eX5_meet_0, eX5_meet_1, eX5_meet_2, eX5_meet_5, eX5_meet_8, eX5_meet_11, eX5_meet_12, eX5_meet_13, eX5_meet_16, eX5_meet_19, eX5_meet_22, eX5_meet_23, eX5_meet_24, eX5_meet_27, eX5_meet_30, eX5_meet_33, eX5_meet_35, eX5_meet_36, eX5_meet_39, eX5_meet_42, eX5_meet_45, eX5_meet_47, eX5_meet_48, eX5_meet_49, eX5_meet_51, eX5_meet_52, eX5_meet_56, eX5_meet_59, eX5_meet_62, eX5_meet_64, eX5_meet_66, eX5_meet_69, eX5_meet_71, eX5_meet_73, eX5_meet_74, eX5_meet_75, eX5_meet_76, eX5_meet_79, eX5_meet_81, eX5_meet_82, eX5_meet_84, eX5_meet_85, eX5_meet_86, eX5_meet_88, eX5_meet_91, eX5_meet_94, eX5_meet_95, Option.toList_some, Option.toList_none, List.cons_append, List.nil_append, is01_0, is01_1, true_and, nI_1]
            rw [if_neg hlt, if_neg q1, if_neg q2]
            simp [hb]
          · rw [← h2 Q]
            show EV X mX6_meet 0 0 58 _ _ _ _ _ = _
            rw [eX6_meet_58]
            simp only [eX6_meet_0, eX6_meet_1, eX6_meet_2, eX6_meet_3, eX6_meet_6, eX6_meet_9, eX6_meet_12, eX6_meet_13, eX6_meet_14, eX6_meet_15, eX6_meet_18, eX6_meet_21, eX6_meet_24, eX6_meet_25, eX6_meet_26, eX6_meet_27, eX6_meet_30, eX6_meet_33, eX6_meet_36, eX6_meet_38, eX6_meet_39, eX6_meet_40, eX6_meet_43, eX6_meet_46, eX6_meet_49, eX6_meet_51, eX6_meet_52, eX6_meet_53, eX6_meet_55, eX6_meet_56, eX6_meet_60, eX6_meet_63, eX6_meet_66, eX6_meet_68, eX6_meet_70, eX6_meet_73, eX6_meet_75, eX6_meet_77, eX6_meet_78, eX6_meet_79, eX6_meet_80, eX6_meet_83, eX6_meet_85, eX6_meet_86, eX6_meet_88, eX6_meet_89, eX6_meet_90, eX6_meet_92, eX6_meet_95, eX6_meet_98, eX6_meet_99, Option.toList_some, Option.toList_none, List.cons_append, List.nil_append, is01_0, is01_1, true_and, nI_1]
            rw [if_neg hlt, if_neg q1, if_neg q2]
            simp [hb]
  unfold Both
  simp only [eX5_meet_0, eX5_meet_1, eX5_meet_2, eX5_meet_5, eX5_meet_8, eX5_meet_11, eX5_meet_12, eX5_meet_13, eX5_meet_16, eX5_meet_19, eX5_meet_22, eX5_meet_23, eX5_meet_24, eX5_meet_27, eX5_meet_30, eX5_meet_33, eX5_meet_35, eX5_meet_36, eX5_meet_39, eX5_meet_42, eX5_meet_45, eX5_meet_47, eX5_meet_48, eX5_meet_49, eX5_meet_51, eX5_meet_52, eX5_meet_56, eX5_meet_59, eX5_meet_62, eX5_meet_64, eX5_meet_66, eX5_meet_69, eX5_meet_71, eX5_meet_73, eX5_meet_74, eX5_meet_75, eX5_meet_76, eX5_meet_79, eX5_meet_81, eX5_meet_82, eX5_meet_84, eX5_meet_85, eX5_meet_86, eX5_meet_88, eX5_meet_91, eX5_meet_94, eX5_meet_95, eX6_meet_0, eX6_meet_1, eX6_meet_2, eX6_meet_3, eX6_meet_6, eX6_meet_9, eX6_meet_12, eX6_meet_13, eX6_meet_14, eX6_meet_15, eX6_meet_18, eX6_meet_21, eX6_meet_24, eX6_meet_25, eX6_meet_26, eX6_meet_27, eX6_meet_30, eX6_meet_33, eX6_meet_36, eX6_meet_38, eX6_meet_39, eX6_meet_40, eX6_meet_43, eX6_meet_46, eX6_meet_49, eX6_meet_51, eX6_meet_52, eX6_meet_53, eX6_meet_55, eX6_meet_56, eX6_meet_60, eX6_meet_63, eX6_meet_66, eX6_meet_68, eX6_meet_70, eX6_meet_73, eX6_meet_75, eX6_meet_77, eX6_meet_78, eX6_meet_79, eX6_meet_80, eX6_meet_83, eX6_meet_85, eX6_meet_86, eX6_meet_88, eX6_meet_89, eX6_meet_90, eX6_meet_92, eX6_meet_95, eX6_meet_98, eX6_meet_99, Option.toList_some, Option.toList_none, List.cons_append, List.nil_append, is01_0, is01_1, true_and, r_isOutside, r_in, b01_0, out_in, wl_0, wr_0, wl_1, wr_1, wl_2, wr_2, wl_3, wr_3, wl_20, wr_20, wl_48, wr_48, wl_57, wr_57, wl_60, wr_60, wl_100, wr_100, wl_255, wr_255, wl_500, wr_500, wl_900, wr_900, wl_999, wr_999, wl_12345, wr_12345, wl_999999, wr_999999, wl_99999999, wr_99999999, wl_1000000000, wr_1000000000, wl_1103515245, wr_1103515245]
  by_cases c1 : 1 ≤ a ∧ a ≤ 999
  · by_cases c2 : 1 ≤ b ∧ b ≤ 999
    · by_cases c3 : 0 ≤ c ∧ c ≤ 999
      · by_cases c4 : 0 ≤ d ∧ d ≤ 999
        · simp only [c1, c2, c3, c4, not_true, if_true, if_false, and_self]
          refine key 2000 0 c (by omega) ?_
          intro q
          rw [q] at c2
          exact absurd c2.1 (by decide)
        · simp only [c1, c2, c3, c4, not_true, not_false_iff, if_true, if_false, and_self]
          first | exact ⟨_, fun _ => rfl, fun _ => rfl⟩ | exact ⟨_, fun _ => rfl⟩
      · simp only [c1, c2, c3, not_true, not_false_iff, if_true, if_false, and_self]
        first | exact ⟨_, fun _ => rfl, fun _ => rfl⟩ | exact ⟨_, fun _ => rfl⟩
    · simp only [c1, c2, not_true, not_false_iff, if_true, if_false, and_self]
      first | exact ⟨_, fun _ => rfl, fun _ => rfl⟩ | exact ⟨_, fun _ => rfl⟩
  · simp only [c1, not_true, not_false_iff, if_true, if_false]
    first | exact ⟨_, fun _ => rfl, fun _ => rfl⟩ | exact ⟨_, fun _ => rfl⟩
theorem o_wind (n q : Int32) : Both (fun Q => EV X mX5_wind 0 0 0 [.ref 0, .int n, .int q, .null, .null, .null] [] (Gb sw) h Q) (fun Q => EV X mX6_wind 0 0 0 [.ref 140, .int n, .int q, .null, .null, .null] [] (Gb sw) h Q) sw h := by
  have key : ∀ (m i N : Nat) (t : Int64), n = nI N → i + m = N → N ≤ 60 → Both (fun Q => EV X mX5_wind 0 0 30 [.ref 0, .int n, .int q, .long t, .null, .int (nI i)] [] (Gb sw) h Q) (fun Q => EV X mX6_wind 0 0 34 [.ref 140, .int n, .int q, .long t, .null, .int (nI i)] [] (Gb sw) h Q) sw h := by
    intro m
    induction m with
    | zero =>
      intro i N t hn hi hN
      have hle : n ≤ nI i := by rw [hn]; exact nI_le (by omega) (by omega)
      refine ⟨t.toInt32, fun Q => ?_, fun Q => ?_⟩
      · show EV X mX5_wind 0 0 30 _ _ _ _ _ = _
        rw [eX5_wind_30]
        simp only [eX5_wind_0, eX5_wind_1, eX5_wind_2, eX5_wind_4, eX5_wind_7, eX5_wind_10, eX5_wind_11, eX5_wind_12, eX5_wind_14, eX5_wind_17, eX5_wind_20, eX5_wind_22, eX5_wind_23, eX5_wind_26, eX5_wind_27, eX5_wind_28, eX5_wind_32, eX5_wind_33, eX5_wind_36, eX5_wind_37, eX5_wind_38, eX5_wind_39, eX5_wind_40, eX5_wind_43, eX5_wind_44, eX5_wind_45, eX5_wind_48, eX5_wind_51, eX5_wind_52, eX5_wind_53, Option.toList_some, Option.toList_none, List.cons_append, List.nil_append, is01_0, is01_1, true_and]
        rw [if_pos hle]
      · show EV X mX6_wind 0 0 34 _ _ _ _ _ = _
        rw [eX6_wind_34]
        simp only [eX6_wind_0, eX6_wind_1, eX6_wind_2, eX6_wind_3, eX6_wind_6, eX6_wind_9, eX6_wind_12, eX6_wind_13, eX6_wind_14, eX6_wind_15, eX6_wind_18, eX6_wind_21, eX6_wind_24, eX6_wind_26, eX6_wind_27, eX6_wind_30, eX6_wind_31, eX6_wind_32, eX6_wind_36, eX6_wind_37, eX6_wind_40, eX6_wind_41, eX6_wind_42, eX6_wind_43, eX6_wind_44, eX6_wind_47, eX6_wind_48, eX6_wind_49, eX6_wind_52, eX6_wind_55, eX6_wind_56, eX6_wind_57, Option.toList_some, Option.toList_none, List.cons_append, List.nil_append, is01_0, is01_1, true_and]
        rw [if_pos hle]
    | succ m ih =>
      intro i N t hn hi hN
      have hlt : ¬ n ≤ nI i := by rw [hn]; exact nI_ge (by omega) (by omega)
      obtain ⟨r, h1, h2⟩ := ih (i + 1) N (t * q.toInt64 / 100) hn (by omega) hN
      have n64 : (¬ (100 : Int64) = 0) = True := by decide
      refine ⟨r, fun Q => ?_, fun Q => ?_⟩
      · rw [← h1 Q]
        show EV X mX5_wind 0 0 30 _ _ _ _ _ = _
        rw [eX5_wind_30]
        simp only [eX5_wind_0, eX5_wind_1, eX5_wind_2, eX5_wind_4, eX5_wind_7, eX5_wind_10, eX5_wind_11, eX5_wind_12, eX5_wind_14, eX5_wind_17, eX5_wind_20, eX5_wind_22, eX5_wind_23, eX5_wind_26, eX5_wind_27, eX5_wind_28, eX5_wind_32, eX5_wind_33, eX5_wind_36, eX5_wind_37, eX5_wind_38, eX5_wind_39, eX5_wind_40, eX5_wind_43, eX5_wind_44, eX5_wind_45, eX5_wind_48, eX5_wind_51, eX5_wind_52, eX5_wind_53, Option.toList_some, Option.toList_none, List.cons_append, List.nil_append, is01_0, is01_1, true_and, nI_1, n64]
        rw [if_neg hlt]
      · rw [← h2 Q]
        show EV X mX6_wind 0 0 34 _ _ _ _ _ = _
        rw [eX6_wind_34]
        simp only [eX6_wind_0, eX6_wind_1, eX6_wind_2, eX6_wind_3, eX6_wind_6, eX6_wind_9, eX6_wind_12, eX6_wind_13, eX6_wind_14, eX6_wind_15, eX6_wind_18, eX6_wind_21, eX6_wind_24, eX6_wind_26, eX6_wind_27, eX6_wind_30, eX6_wind_31, eX6_wind_32, eX6_wind_36, eX6_wind_37, eX6_wind_40, eX6_wind_41, eX6_wind_42, eX6_wind_43, eX6_wind_44, eX6_wind_47, eX6_wind_48, eX6_wind_49, eX6_wind_52, eX6_wind_55, eX6_wind_56, eX6_wind_57, Option.toList_some, Option.toList_none, List.cons_append, List.nil_append, is01_0, is01_1, true_and, nI_1, n64]
        rw [if_neg hlt]
  unfold Both
  simp only [eX5_wind_0, eX5_wind_1, eX5_wind_2, eX5_wind_4, eX5_wind_7, eX5_wind_10, eX5_wind_11, eX5_wind_12, eX5_wind_14, eX5_wind_17, eX5_wind_20, eX5_wind_22, eX5_wind_23, eX5_wind_26, eX5_wind_27, eX5_wind_28, eX5_wind_32, eX5_wind_33, eX5_wind_36, eX5_wind_37, eX5_wind_38, eX5_wind_39, eX5_wind_40, eX5_wind_43, eX5_wind_44, eX5_wind_45, eX5_wind_48, eX5_wind_51, eX5_wind_52, eX5_wind_53, eX6_wind_0, eX6_wind_1, eX6_wind_2, eX6_wind_3, eX6_wind_6, eX6_wind_9, eX6_wind_12, eX6_wind_13, eX6_wind_14, eX6_wind_15, eX6_wind_18, eX6_wind_21, eX6_wind_24, eX6_wind_26, eX6_wind_27, eX6_wind_30, eX6_wind_31, eX6_wind_32, eX6_wind_36, eX6_wind_37, eX6_wind_40, eX6_wind_41, eX6_wind_42, eX6_wind_43, eX6_wind_44, eX6_wind_47, eX6_wind_48, eX6_wind_49, eX6_wind_52, eX6_wind_55, eX6_wind_56, eX6_wind_57, Option.toList_some, Option.toList_none, List.cons_append, List.nil_append, is01_0, is01_1, true_and, r_isOutside, r_in, b01_0, out_in, wl_0, wr_0, wl_1, wr_1, wl_2, wr_2, wl_3, wr_3, wl_20, wr_20, wl_48, wr_48, wl_57, wr_57, wl_60, wr_60, wl_100, wr_100, wl_255, wr_255, wl_500, wr_500, wl_900, wr_900, wl_999, wr_999, wl_12345, wr_12345, wl_999999, wr_999999, wl_99999999, wr_99999999, wl_1000000000, wr_1000000000, wl_1103515245, wr_1103515245]
  by_cases c1 : 0 ≤ n ∧ n ≤ 60
  · by_cases c2 : 0 ≤ q ∧ q ≤ 100
    · simp only [c1, c2, not_true, if_true, if_false, and_self]
      obtain ⟨N, h1, h2⟩ := nI_of2 (x := n) (M := 60) (n := 60) rfl (by rw [Int32.not_lt]; exact c1.1) c1.2
      exact key N 0 N _ h2 (by omega) h1
    · simp only [c1, c2, not_true, not_false_iff, if_true, if_false, and_self]
      first | exact ⟨_, fun _ => rfl, fun _ => rfl⟩ | exact ⟨_, fun _ => rfl⟩
  · simp only [c1, not_true, not_false_iff, if_true, if_false]
    first | exact ⟨_, fun _ => rfl, fun _ => rfl⟩ | exact ⟨_, fun _ => rfl⟩
end OPS
