/-! leaves -/
def b01 (p : Prop) [Decidable p] : Int32 := if p then 1 else 0
theorem b01_0 (p : Prop) [Decidable p] : (b01 p = 0) = ¬ p := by
  unfold b01
  by_cases h : p <;> simp [h]
theorem b01_is (p : Prop) [Decidable p] : is01 (b01 p) := by
  unfold b01 is01
  by_cases h : p <;> simp [h]
theorem is01_0 : is01 0 = True := by simp [is01]
theorem is01_1 : is01 1 = True := by simp [is01]
theorem ite_q {α β : Type} (c : Prop) [Decidable c] (f : α → β) (x y : α) : f (if c then x else y) = if c then f x else f y := by
  by_cases h : c <;> simp [h]
section LEAF
variable {X : (Nat → Int32) × Nat} {g : xG} {h : xH} {Q : Option Value → xG → xH → Prop} {sw : Bool}
theorem r_isOutside (a b c : Int32) : EV X mX5_isOutside 0 0 0 [.int a, .int b, .int c] [] g h Q = Q (some (.int (b01 (a < b ∨ c < a)))) g h := by
  simp only [eX5_isOutside_0, eX5_isOutside_1, eX5_isOutside_2, eX5_isOutside_5, eX5_isOutside_6, eX5_isOutside_7, eX5_isOutside_10, eX5_isOutside_11, eX5_isOutside_14, eX5_isOutside_15, Option.toList_some, Option.toList_none, List.cons_append, List.nil_append, is01_0, is01_1, true_and]
  unfold b01
  by_cases h1 : a < b
  · simp [h1]
  · by_cases h2 : c < a
    · have h3 : ¬ a ≤ c := by rw [Int32.not_le]; exact h2
      simp [h1, h2, h3]
    · have h3 : a ≤ c := by rw [← Int32.not_lt]; exact h2
      simp [h1, h2, h3]
theorem r_older (a n : Int32) : EV X mX5_older 0 0 0 [.int a, .int n] [] g h Q = Q (some (.int (if a + n < 99999999 then a + n else 99999999))) g h := by
  simp only [eX5_older_0, eX5_older_3, eX5_older_4, eX5_older_5, eX5_older_6, eX5_older_9, Option.toList_some, Option.toList_none, List.cons_append, List.nil_append, is01_0, is01_1, true_and]
theorem r_hasGoer {p : Nat} (hp : isP p) (x : Int32) : EV X mX2_hasGoer 0 0 0 [.ref p, .int x] [] g h Q = Q (some (.int (b01 (0 ≤ x ∧ x < h p 6)))) g h := by
  simp only [eX2_hasGoer_0, eX2_hasGoer_1, eX2_hasGoer_4, eX2_hasGoer_5, eX2_hasGoer_6, eX2_hasGoer_9, eX2_hasGoer_12, eX2_hasGoer_13, eX2_hasGoer_16, eX2_hasGoer_17, Option.toList_some, Option.toList_none, List.cons_append, List.nil_append, is01_0, is01_1, true_and, hp]
  done
theorem r_isUp (x : Int32) : EV X mX3_isUp 0 0 0 [.ref 13, .int x] [] (Gb sw) h Q = (inb x 8 ∧ Q (some (.int (b01 (h 17 x.toNatClampNeg = 2 ∨ h 17 x.toNatClampNeg = 3)))) (Gb sw) h) := by
  simp only [eX3_isUp_0, eX3_isUp_1, eX3_isUp_4, eX3_isUp_5, eX3_isUp_6, eX3_isUp_7, eX3_isUp_10, eX3_isUp_11, eX3_isUp_14, eX3_isUp_15, eX3_isUp_16, eX3_isUp_17, eX3_isUp_20, eX3_isUp_21, eX3_isUp_24, eX3_isUp_25, Option.toList_some, Option.toList_none, List.cons_append, List.nil_append, is01_0, is01_1, true_and]
  done
theorem r_heightOf (x : Int32) : EV X mX3_heightOf 0 0 0 [.ref 13, .int x] [] (Gb sw) h Q = (inb x 8 ∧ Q (some (.int (b01 (h 17 x.toNatClampNeg = 2 ∨ h 17 x.toNatClampNeg = 3)))) (Gb sw) h) := by
  simp only [eX3_heightOf_0, eX3_heightOf_1, eX3_heightOf_4, eX3_heightOf_5, eX3_heightOf_6, eX3_heightOf_7, eX3_heightOf_10, eX3_heightOf_11, eX3_heightOf_14, eX3_heightOf_15, eX3_heightOf_16, eX3_heightOf_19, eX3_heightOf_20, eX3_heightOf_21, eX3_heightOf_22, eX3_heightOf_25, eX3_heightOf_26, eX3_heightOf_29, eX3_heightOf_30, eX3_heightOf_31, eX3_heightOf_34, eX3_heightOf_35, Option.toList_some, Option.toList_none, List.cons_append, List.nil_append, is01_0, is01_1, true_and]
  done
theorem r_told (x : Int32) : EV X mX6_told 0 0 0 [.ref 140, .int x] [] (Gb sw) h Q = True := by
  simp only [eX6_told_0, eX6_told_1_c0, eX6_told_1_c1, eX6_told_1_c2, eX6_told_1_c3, eX6_told_1_c4, eX6_told_1_c5, eX6_told_1_c6, eX6_told_1_c7, eX6_told_1_c8, eX6_told_1_c9, eX6_told_1_c10, eX6_told_1_c11, eX6_told_1_c12, eX6_told_1_c13, eX6_told_1_c14, eX6_told_1_c15, eX6_told_1_c16, eX6_told_1_c17, eX6_told_1_c18, eX6_told_1_c19, eX6_told_96, eX6_told_97, eX6_told_100, eX6_told_101, eX6_told_102, eX6_told_105, eX6_told_106, eX6_told_107, eX6_told_110, eX6_told_111, eX6_told_112, eX6_told_115, eX6_told_116, eX6_told_117, eX6_told_120, eX6_told_121, eX6_told_122, eX6_told_125, eX6_told_126, eX6_told_127, eX6_told_128, eX6_told_129, eX6_told_132, eX6_told_133, eX6_told_134, eX6_told_135, eX6_told_136, eX6_told_139, eX6_told_142, eX6_told_143, eX6_told_146, eX6_told_147, eX6_told_148, eX6_told_149, eX6_told_152, eX6_told_155, eX6_told_156, eX6_told_159, eX6_told_160, eX6_told_161, eX6_told_162, eX6_told_163, eX6_told_166, eX6_told_167, eX6_told_168, eX6_told_169, eX6_told_172, eX6_told_173, eX6_told_174, eX6_told_175, eX6_told_178, eX6_told_179, eX6_told_180, eX6_told_183, eX6_told_184, eX6_told_185, eX6_told_186, eX6_told_187, eX6_told_188, eX6_told_191, eX6_told_192, eX6_told_193, eX6_told_194, eX6_told_197, eX6_told_198, eX6_told_199, eX6_told_200, eX6_told_203, eX6_told_204, eX6_told_205, eX6_told_208, eX6_told_209, eX6_told_212, eX6_told_213, eX6_told_214, eX6_told_215, eX6_told_216, eX6_told_217, eX6_told_220, eX6_told_221, eX6_told_222, eX6_told_225, eX6_told_226, eX6_told_227, eX6_told_230, eX6_told_231, eX6_told_232, eX6_told_235, eX6_told_236, eX6_told_238, Option.toList_some, Option.toList_none, List.cons_append, List.nil_append, is01_0, is01_1, true_and]
  done
theorem r_was (a b c d : Int32) : EV X mX5_was 0 0 0 [.ref 0, .int a, .int b, .int c, .int d, .null, .null, .null, .null] [] (Gb sw) h Q = True := by
  simp only [eX5_was_0, eX5_was_1, eX5_was_2, eX5_was_5, eX5_was_8, eX5_was_11, eX5_was_12, eX5_was_13, eX5_was_16, eX5_was_19, eX5_was_22, eX5_was_23, eX5_was_24, eX5_was_27, eX5_was_30, eX5_was_33, eX5_was_35, eX5_was_36, eX5_was_37, eX5_was_40, eX5_was_43, eX5_was_45, eX5_was_46, eX5_was_47, eX5_was_49, eX5_was_50, eX5_was_52, eX5_was_55, eX5_was_56, eX5_was_58, eX5_was_60, eX5_was_62, eX5_was_65, eX5_was_66, eX5_was_68, eX5_was_69, eX5_was_70, eX5_was_72, eX5_was_73, eX5_was_74, eX5_was_76, eX5_was_77, eX5_was_78, eX5_was_81, eX5_was_84, eX5_was_86, eX5_was_88, eX5_was_90, eX5_was_91, eX5_was_94, eX5_was_96, eX5_was_98, eX5_was_101, eX5_was_104, eX5_was_106, eX5_was_109, eX5_was_111, eX5_was_112, eX5_was_114, eX5_was_115, eX5_was_118, eX5_was_120, eX5_was_123, eX5_was_125, Option.toList_some, Option.toList_none, List.cons_append, List.nil_append, is01_0, is01_1, true_and, r_isOutside, b01_0]
  done
end LEAF
