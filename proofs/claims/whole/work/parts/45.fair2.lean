/-! a new fair -/
section FB
variable {X : (Nat → Int32) × Nat} {sw : Bool} {NL G : Nat} {w : Nat → Int32}
def v00 (w : Nat → Int32) (G : Nat) : Nat → Int32 := fun t => if 28 ≤ t ∧ t < 28 + G then w (40 + (t - 28)) * 100 else 0
theorem v00_n {t : Nat} (h : ¬ (28 ≤ t ∧ t < 28 + G)) : v00 w G t = 0 := by unfold v00; rw [if_neg h]
theorem v00_a {j : Nat} (h : j < G) : v00 w G (28 + j) = w (40 + j) * 100 := by unfold v00; rw [if_pos (by omega), show 28 + j - 28 = j by omega]
theorem SW.beg (hW : DW NL G w) : SW w G (v00 w G) := by
  have hG := hW.1.2.1
  have hn : ∀ t, ¬ (28 ≤ t ∧ t < 36) → v00 w G t = 0 := fun t ht => v00_n (G := G) (w := w) (t := t) (by omega)
  have z0 : (0 : Int32).toInt = 0 := rfl
  refine ⟨⟨0, by omega, by rw [hn 3 (by omega)]; rfl, fun k hk => by omega, fun k k' hk => by omega, fun q hq z => ?_⟩, fun j hj => Or.inl (hn _ (by omega)), fun j q1 q2 => hn _ (by omega), fun j hj => ?_, ?_, ?_, ?_, ?_⟩
  · rw [hn _ (by omega)] at z
    exact absurd z (by decide)
  · obtain ⟨a1, a2⟩ := hW.2.2.1 j hj
    rw [fa_le] at a1 a2
    have e99 : (99 : Int32).toInt = 99 := rfl
    have e100 : (100 : Int32).toInt = 100 := rfl
    have e : (w (40 + j) * 100).toInt = (w (40 + j)).toInt * 100 := by
      rw [fb_mulI (by rw [e100]; omega) (by rw [e100]; omega), e100]
    rw [v00_a hj, hn (36 + j) (by omega), hn 1 (by omega), e, z0]
    omega
  · rw [hn 1 (by omega), z0]; omega
  · rw [hn 2 (by omega), z0]; omega
  · rw [hn 0 (by omega), z0]
    have := hW.1.2.2.1.1
    rw [fa_le, z0] at this
    omega
  · have : fb_ct (fun j => decide (v00 w G (12 + j) = 2)) 8 = 0 := fb_ct_zero.mpr (fun k hk => by rw [hn _ (by omega)]; decide)
    rw [this]
    omega
theorem c_begin (X : (Nat → Int32) × Nat) (sw : Bool) {h : xH} {p : Nat} (hp : isP p) (hD : DC h p NL G w) (hG : G ≤ 8) : ∃ h' : xH, (∀ c, ¬ (13 ≤ c ∧ c < 19) → h' c = h c) ∧ SC h' 13 G (v00 w G) ∧ ∀ Q : Option Value → xG → xH → Prop, EV X mX3_begin 0 0 0 [.ref 13, .ref p, .null] [] (Gb sw) h Q = Q none (Gb sw) h' := by
  have hpr := hp.r
  have loop : ∀ (r i : Nat) (h1 : xH), i + r = 8 → (∀ c, ¬ (13 ≤ c ∧ c < 19) → h1 c = h c) → (∀ k, k < 4 → h1 13 k = 0) → (∀ j, j < i → h1 15 j = h (p + 3) j * 100 ∧ h1 16 j = 0 ∧ h1 17 j = 0 ∧ h1 18 j = 0) → ∃ h' : xH, (∀ c, ¬ (13 ≤ c ∧ c < 19) → h' c = h c) ∧ (∀ k, k < 4 → h' 13 k = 0) ∧ (∀ j, j < 8 → h' 15 j = h (p + 3) j * 100 ∧ h' 16 j = 0 ∧ h' 17 j = 0 ∧ h' 18 j = 0) ∧ ∀ Q : Option Value → xG → xH → Prop, EV X mX3_begin 0 0 22 [.ref 13, .ref p, .int (nI i)] [] (Gb sw) h1 Q = Q none (Gb sw) h' := by
    intro r
    induction r with
    | zero =>
      intro i h1 hi f1 f2 f3
      have hi : i = 8 := hi
      subst hi
      refine ⟨h1, f1, f2, f3, fun Q => ?_⟩
      rw [eX3_begin_22]
      simp only [eX3_begin_0, eX3_begin_1, eX3_begin_2, eX3_begin_5, eX3_begin_6, eX3_begin_7, eX3_begin_10, eX3_begin_11, eX3_begin_12, eX3_begin_15, eX3_begin_16, eX3_begin_17, eX3_begin_20, eX3_begin_21, eX3_begin_23, eX3_begin_25, eX3_begin_28, eX3_begin_29, eX3_begin_32, eX3_begin_33, eX3_begin_34, eX3_begin_37, eX3_begin_38, eX3_begin_39, eX3_begin_41, eX3_begin_42, eX3_begin_43, eX3_begin_44, eX3_begin_47, eX3_begin_48, eX3_begin_49, eX3_begin_50, eX3_begin_51, eX3_begin_54, eX3_begin_55, eX3_begin_56, eX3_begin_57, eX3_begin_58, eX3_begin_61, eX3_begin_62, eX3_begin_63, eX3_begin_64, eX3_begin_67, eX3_begin_70, Option.toList_some, Option.toList_none, List.cons_append, List.nil_append, is01_0, is01_1, true_and, hp]
      rw [if_pos (show (8 : Int32) ≤ nI 8 by decide)]
    | succ r ih =>
      intro i h1 hi f1 f2 f3
      have hi8 : i < 8 := by omega
      obtain ⟨h', g1, g2, g3, g4⟩ := ih (i + 1) (xu (xu (xu (xu h1 15 i (h (p + 3) i * 100)) 16 i 0) 17 i 0) 18 i 0) (by omega) (fun c hc => by rw [xun _ _ _ _ _ (by omega), xun _ _ _ _ _ (by omega), xun _ _ _ _ _ (by omega), xun _ _ _ _ _ (by omega), f1 c hc]) (fun k hk => by simp only [xun, xus, xps, xpn, ne_eq, not_false_eq_true, Nat.reduceEqDiff, not_false_iff]; exact f2 k hk) (fun j hj => by
        simp only [xun, xus, xps, xpn, ne_eq, not_false_eq_true, Nat.reduceEqDiff, not_false_iff]
        by_cases z : j = i
        · rw [z, xps, xps, xps, xps]; exact ⟨rfl, rfl, rfl, rfl⟩
        · rw [xpn _ _ _ _ z, xpn _ _ _ _ z, xpn _ _ _ _ z, xpn _ _ _ _ z]; exact f3 j (by omega))
      refine ⟨h', g1, g2, g3, fun Q => ?_⟩
      rw [← g4 Q]
      conv => lhs; rw [eX3_begin_22]
      simp only [eX3_begin_0, eX3_begin_1, eX3_begin_2, eX3_begin_5, eX3_begin_6, eX3_begin_7, eX3_begin_10, eX3_begin_11, eX3_begin_12, eX3_begin_15, eX3_begin_16, eX3_begin_17, eX3_begin_20, eX3_begin_21, eX3_begin_23, eX3_begin_25, eX3_begin_28, eX3_begin_29, eX3_begin_32, eX3_begin_33, eX3_begin_34, eX3_begin_37, eX3_begin_38, eX3_begin_39, eX3_begin_41, eX3_begin_42, eX3_begin_43, eX3_begin_44, eX3_begin_47, eX3_begin_48, eX3_begin_49, eX3_begin_50, eX3_begin_51, eX3_begin_54, eX3_begin_55, eX3_begin_56, eX3_begin_57, eX3_begin_58, eX3_begin_61, eX3_begin_62, eX3_begin_63, eX3_begin_64, eX3_begin_67, eX3_begin_70, Option.toList_some, Option.toList_none, List.cons_append, List.nil_append, is01_0, is01_1, true_and, hp, cl8 hi8, inb8 hi8 (Nat.le_refl 8), nI_1, f1 (p + 3) (by omega)]
      rw [if_neg (show ¬ (8 : Int32) ≤ nI i from nI_ge (b := 8) (by omega) (by omega))]
  obtain ⟨h', g1, g2, g3, g4⟩ := loop 8 0 (xu (xu (xu (xu h 13 0 0) 13 1 0) 13 2 0) 13 3 0) (by omega) (fun c hc => by rw [xun _ _ _ _ _ (by omega), xun _ _ _ _ _ (by omega), xun _ _ _ _ _ (by omega), xun _ _ _ _ _ (by omega)]) (fun k hk => by
    rcases (show k = 0 ∨ k = 1 ∨ k = 2 ∨ k = 3 by omega) with rfl | rfl | rfl | rfl <;> simp [xu_r]) (fun j hj => by omega)
  have hn : ∀ t, ¬ (28 ≤ t ∧ t < 36) → v00 w G t = 0 := fun t ht => v00_n (G := G) (w := w) (t := t) (by omega)
  refine ⟨h', g1, ⟨⟨?_, ?_, ?_, ?_⟩, fun k hk => ?_, fun j hj => ?_, fun j hj => ⟨?_, ?_, fun z => ?_⟩⟩, fun Q => ?_⟩
  · rw [g2 0 (by omega), hn _ (by omega)]
  · rw [g2 1 (by omega), hn _ (by omega)]
  · rw [g2 2 (by omega), hn _ (by omega)]
  · rw [g2 3 (by omega), hn _ (by omega)]
  · rw [hn 3 (by omega)] at hk
    rw [tc0] at hk; omega
  · rw [hn _ (by omega)]; exact (g3 j hj).2.2.1
  · rw [v00_a hj, ← hD.2.2 j hj]; exact (g3 j (by omega)).1
  · rw [hn _ (by omega)]; exact (g3 j (by omega)).2.1
  · rw [hn _ (by omega)] at z
    exact absurd z (by decide)
  · rw [← g4 Q]
    simp only [eX3_begin_0, eX3_begin_1, eX3_begin_2, eX3_begin_5, eX3_begin_6, eX3_begin_7, eX3_begin_10, eX3_begin_11, eX3_begin_12, eX3_begin_15, eX3_begin_16, eX3_begin_17, eX3_begin_20, eX3_begin_21, eX3_begin_23, eX3_begin_25, eX3_begin_28, eX3_begin_29, eX3_begin_32, eX3_begin_33, eX3_begin_34, eX3_begin_37, eX3_begin_38, eX3_begin_39, eX3_begin_41, eX3_begin_42, eX3_begin_43, eX3_begin_44, eX3_begin_47, eX3_begin_48, eX3_begin_49, eX3_begin_50, eX3_begin_51, eX3_begin_54, eX3_begin_55, eX3_begin_56, eX3_begin_57, eX3_begin_58, eX3_begin_61, eX3_begin_62, eX3_begin_63, eX3_begin_64, eX3_begin_67, eX3_begin_70, Option.toList_some, Option.toList_none, List.cons_append, List.nil_append, is01_0, is01_1, true_and, hp]
    rfl
theorem m_copyRow {h : xH} {Q : Option Value → xG → xH → Prop} {A B k : Nat} (hA : xk A = 7 ∧ A < 162) (hB : xk B = 7 ∧ B < 162) (hAB : ¬ A = B) (k1 : k ≤ xz A) (k2 : k ≤ xz B) (k3 : k ≤ 8) : EV X mX6_copyRow 0 0 0 [.ref A, .ref B, .int (nI k), .null] [] (Gb sw) h Q = Q none (Gb sw) (cpR h B 0 A 0 k) := by
  simp only [eX6_copyRow_0, eX6_copyRow_1, eX6_copyRow_3, eX6_copyRow_4, eX6_copyRow_7, eX6_copyRow_8, eX6_copyRow_9, eX6_copyRow_10, eX6_copyRow_11, eX6_copyRow_12, eX6_copyRow_13, eX6_copyRow_16, eX6_copyRow_19, Option.toList_some, Option.toList_none, List.cons_append, List.nil_append, is01_0, is01_1, true_and]
  refine (lp_copy (fun i h => EV X mX6_copyRow 0 0 2 [.ref A, .ref B, .int (nI k), .int (nI i)] [] (Gb sw) h Q) (h0 := h) (dst := B) (off := 0) (src := A) (off2 := 0) (Or.inl hAB) k (fun i hi => ?_)).trans ?_
  · have i1 : inb (nI i) (xz A) = True := by rw [inb_nIe (by omega)]; apply eq_true; omega
    have i2 : inb (nI i) (xz B) = True := by rw [inb_nIe (by omega)]; apply eq_true; omega
    show EV X mX6_copyRow 0 0 2 _ _ _ _ _ = _
    rw [eX6_copyRow_2]
    simp only [eX6_copyRow_0, eX6_copyRow_1, eX6_copyRow_3, eX6_copyRow_4, eX6_copyRow_7, eX6_copyRow_8, eX6_copyRow_9, eX6_copyRow_10, eX6_copyRow_11, eX6_copyRow_12, eX6_copyRow_13, eX6_copyRow_16, eX6_copyRow_19, Option.toList_some, Option.toList_none, List.cons_append, List.nil_append, is01_0, is01_1, true_and, hA, hB, i1, i2, cl_nI (show i < 2147483648 by omega), nI_1, Nat.zero_add]
    rw [if_neg (nI_ge (by omega) (by omega))]
  · show EV X mX6_copyRow 0 0 2 _ _ _ _ _ = _
    rw [eX6_copyRow_2]
    simp only [eX6_copyRow_0, eX6_copyRow_1, eX6_copyRow_3, eX6_copyRow_4, eX6_copyRow_7, eX6_copyRow_8, eX6_copyRow_9, eX6_copyRow_10, eX6_copyRow_11, eX6_copyRow_12, eX6_copyRow_13, eX6_copyRow_16, eX6_copyRow_19, Option.toList_some, Option.toList_none, List.cons_append, List.nil_append, is01_0, is01_1, true_and]
    rw [if_pos (Int32.le_refl _)]
theorem k141 : xk 141 = 7 ∧ 141 < 162 := by decide
theorem k142 : xk 142 = 7 ∧ 142 < 162 := by decide
theorem k143 : xk 143 = 7 ∧ 143 < 162 := by decide
theorem k144 : xk 144 = 7 ∧ 144 < 162 := by decide
theorem s141 : xz 141 = 6 := by decide
theorem s142 : xz 142 = 6 := by decide
theorem s143 : xz 143 = 8 := by decide
theorem s144 : xz 144 = 8 := by decide
theorem m_takeRead (X : (Nat → Int32) × Nat) (sw : Bool) {h : xH} (hW : DW NL G w) (hD : DM h NL G w) : ∃ h' : xH, (∀ c, ¬ (140 ≤ c ∧ c < 146) → h' c = h c) ∧ (∀ k, ¬ k = 0 → ¬ k = 1 → ¬ k = 2 → ¬ k = 5 → ¬ k = 8 → h' 140 k = h 140 k) ∧ PM h' NL G w ∧ SM h' 145 0 G (v00 w G) ∧ ∀ Q : Option Value → xG → xH → Prop, EV X mX6_takeRead 0 0 0 [.ref 140, .null] [] (Gb sw) h Q = Q none (Gb sw) h' := by
  have hNL := hW.1.1
  have hG := hW.1.2.1
  obtain ⟨⟨d1, d2, d3, d4, d5, d6⟩, d7, d8⟩ := hD
  -- zeros and ages
  have zer : ∀ (h0 : xH) (r i : Nat) (h1 : xH), i + r = 44 → (∀ c, ¬ c = 145 → h1 c = h0 c) → (∀ k, k < i → h1 145 k = 0) → ∃ h' : xH, (∀ c, ¬ c = 145 → h' c = h0 c) ∧ (∀ k, k < 44 → h' 145 k = 0) ∧ ∀ Q : Option Value → xG → xH → Prop, EV X mX6_takeRead 0 0 124 [.ref 140, .int (nI i)] [] (Gb sw) h1 Q = EV X mX6_takeRead 0 0 145 [.ref 140, .int 0] [] (Gb sw) h' Q := by
    intro h0 r
    induction r with
    | zero =>
      intro i h1 hi f1 f2
      have hi : i = 44 := hi
      subst hi
      refine ⟨h1, f1, f2, fun Q => ?_⟩
      rw [eX6_takeRead_124]
      simp only [eX6_takeRead_0, eX6_takeRead_1, eX6_takeRead_2, eX6_takeRead_5, eX6_takeRead_8, eX6_takeRead_9, eX6_takeRead_10, eX6_takeRead_13, eX6_takeRead_16, eX6_takeRead_17, eX6_takeRead_20, eX6_takeRead_21, eX6_takeRead_24, eX6_takeRead_27, eX6_takeRead_28, eX6_takeRead_29, eX6_takeRead_32, eX6_takeRead_35, eX6_takeRead_36, eX6_takeRead_37, eX6_takeRead_40, eX6_takeRead_43, eX6_takeRead_44, eX6_takeRead_45, eX6_takeRead_48, eX6_takeRead_51, eX6_takeRead_52, eX6_takeRead_55, eX6_takeRead_56, eX6_takeRead_59, eX6_takeRead_62, eX6_takeRead_63, eX6_takeRead_66, eX6_takeRead_67, eX6_takeRead_70, eX6_takeRead_71, eX6_takeRead_74, eX6_takeRead_77, eX6_takeRead_78, eX6_takeRead_81, eX6_takeRead_82, eX6_takeRead_85, eX6_takeRead_86, eX6_takeRead_89, eX6_takeRead_92, eX6_takeRead_93, eX6_takeRead_96, eX6_takeRead_97, eX6_takeRead_100, eX6_takeRead_101, eX6_takeRead_104, eX6_takeRead_107, eX6_takeRead_108, eX6_takeRead_111, eX6_takeRead_112, eX6_takeRead_115, eX6_takeRead_116, eX6_takeRead_119, eX6_takeRead_122, eX6_takeRead_123, eX6_takeRead_125, eX6_takeRead_127, eX6_takeRead_130, eX6_takeRead_131, eX6_takeRead_134, eX6_takeRead_135, eX6_takeRead_136, eX6_takeRead_137, eX6_takeRead_140, eX6_takeRead_143, eX6_takeRead_144, eX6_takeRead_146, eX6_takeRead_147, eX6_takeRead_150, eX6_takeRead_153, eX6_takeRead_154, eX6_takeRead_157, eX6_takeRead_159, eX6_takeRead_160, eX6_takeRead_161, eX6_takeRead_163, eX6_takeRead_164, eX6_takeRead_167, eX6_takeRead_168, eX6_takeRead_169, eX6_takeRead_170, eX6_takeRead_171, eX6_takeRead_174, eX6_takeRead_177, Option.toList_some, Option.toList_none, List.cons_append, List.nil_append, is01_0, is01_1, true_and]
      rw [if_pos (show (44 : Int32) ≤ nI 44 by decide)]
    | succ r ih =>
      intro i h1 hi f1 f2
      obtain ⟨h', g1, g2, g3⟩ := ih (i + 1) (xu h1 145 i 0) (by omega) (fun c hc => by rw [xun _ _ _ _ _ hc, f1 c hc]) (fun k hk => by
        rw [xus]
        by_cases z : k = i
        · rw [z, xps]
        · rw [xpn _ _ _ _ z]; exact f2 k (by omega))
      refine ⟨h', g1, g2, fun Q => ?_⟩
      rw [← g3 Q]
      conv => lhs; rw [eX6_takeRead_124]
      simp only [eX6_takeRead_0, eX6_takeRead_1, eX6_takeRead_2, eX6_takeRead_5, eX6_takeRead_8, eX6_takeRead_9, eX6_takeRead_10, eX6_takeRead_13, eX6_takeRead_16, eX6_takeRead_17, eX6_takeRead_20, eX6_takeRead_21, eX6_takeRead_24, eX6_takeRead_27, eX6_takeRead_28, eX6_takeRead_29, eX6_takeRead_32, eX6_takeRead_35, eX6_takeRead_36, eX6_takeRead_37, eX6_takeRead_40, eX6_takeRead_43, eX6_takeRead_44, eX6_takeRead_45, eX6_takeRead_48, eX6_takeRead_51, eX6_takeRead_52, eX6_takeRead_55, eX6_takeRead_56, eX6_takeRead_59, eX6_takeRead_62, eX6_takeRead_63, eX6_takeRead_66, eX6_takeRead_67, eX6_takeRead_70, eX6_takeRead_71, eX6_takeRead_74, eX6_takeRead_77, eX6_takeRead_78, eX6_takeRead_81, eX6_takeRead_82, eX6_takeRead_85, eX6_takeRead_86, eX6_takeRead_89, eX6_takeRead_92, eX6_takeRead_93, eX6_takeRead_96, eX6_takeRead_97, eX6_takeRead_100, eX6_takeRead_101, eX6_takeRead_104, eX6_takeRead_107, eX6_takeRead_108, eX6_takeRead_111, eX6_takeRead_112, eX6_takeRead_115, eX6_takeRead_116, eX6_takeRead_119, eX6_takeRead_122, eX6_takeRead_123, eX6_takeRead_125, eX6_takeRead_127, eX6_takeRead_130, eX6_takeRead_131, eX6_takeRead_134, eX6_takeRead_135, eX6_takeRead_136, eX6_takeRead_137, eX6_takeRead_140, eX6_takeRead_143, eX6_takeRead_144, eX6_takeRead_146, eX6_takeRead_147, eX6_takeRead_150, eX6_takeRead_153, eX6_takeRead_154, eX6_takeRead_157, eX6_takeRead_159, eX6_takeRead_160, eX6_takeRead_161, eX6_takeRead_163, eX6_takeRead_164, eX6_takeRead_167, eX6_takeRead_168, eX6_takeRead_169, eX6_takeRead_170, eX6_takeRead_171, eX6_takeRead_174, eX6_takeRead_177, Option.toList_some, Option.toList_none, List.cons_append, List.nil_append, is01_0, is01_1, true_and, cl_nI (show i < 2147483648 by omega), inb_nIe (show i < 2147483648 by omega), show i < 44 by omega, nI_1]
      rw [if_neg (show ¬ (44 : Int32) ≤ nI i from nI_ge (b := 44) (by omega) (by omega))]
  have ags : ∀ (h0 : xH) (r i : Nat) (h1 : xH), i + r = G → h0 140 5 = nI G → (∀ j, j < G → h0 143 j = w (40 + j)) → (∀ c, ¬ c = 145 → h1 c = h0 c) → (∀ k, k < 44 → h1 145 k = if 28 ≤ k ∧ k < 28 + i then w (40 + (k - 28)) * 100 else 0) → ∃ h' : xH, (∀ c, ¬ c = 145 → h' c = h0 c) ∧ (∀ k, k < 44 → h' 145 k = v00 w G k) ∧ ∀ Q : Option Value → xG → xH → Prop, EV X mX6_takeRead 0 0 145 [.ref 140, .int (nI i)] [] (Gb sw) h1 Q = Q none (Gb sw) h' := by
    intro h0 r
    induction r with
    | zero =>
      intro i h1 hi e5 e3 f1 f2
      have hi : i = G := hi
      subst hi
      refine ⟨h1, f1, f2, fun Q => ?_⟩
      rw [eX6_takeRead_145]
      simp only [eX6_takeRead_0, eX6_takeRead_1, eX6_takeRead_2, eX6_takeRead_5, eX6_takeRead_8, eX6_takeRead_9, eX6_takeRead_10, eX6_takeRead_13, eX6_takeRead_16, eX6_takeRead_17, eX6_takeRead_20, eX6_takeRead_21, eX6_takeRead_24, eX6_takeRead_27, eX6_takeRead_28, eX6_takeRead_29, eX6_takeRead_32, eX6_takeRead_35, eX6_takeRead_36, eX6_takeRead_37, eX6_takeRead_40, eX6_takeRead_43, eX6_takeRead_44, eX6_takeRead_45, eX6_takeRead_48, eX6_takeRead_51, eX6_takeRead_52, eX6_takeRead_55, eX6_takeRead_56, eX6_takeRead_59, eX6_takeRead_62, eX6_takeRead_63, eX6_takeRead_66, eX6_takeRead_67, eX6_takeRead_70, eX6_takeRead_71, eX6_takeRead_74, eX6_takeRead_77, eX6_takeRead_78, eX6_takeRead_81, eX6_takeRead_82, eX6_takeRead_85, eX6_takeRead_86, eX6_takeRead_89, eX6_takeRead_92, eX6_takeRead_93, eX6_takeRead_96, eX6_takeRead_97, eX6_takeRead_100, eX6_takeRead_101, eX6_takeRead_104, eX6_takeRead_107, eX6_takeRead_108, eX6_takeRead_111, eX6_takeRead_112, eX6_takeRead_115, eX6_takeRead_116, eX6_takeRead_119, eX6_takeRead_122, eX6_takeRead_123, eX6_takeRead_125, eX6_takeRead_127, eX6_takeRead_130, eX6_takeRead_131, eX6_takeRead_134, eX6_takeRead_135, eX6_takeRead_136, eX6_takeRead_137, eX6_takeRead_140, eX6_takeRead_143, eX6_takeRead_144, eX6_takeRead_146, eX6_takeRead_147, eX6_takeRead_150, eX6_takeRead_153, eX6_takeRead_154, eX6_takeRead_157, eX6_takeRead_159, eX6_takeRead_160, eX6_takeRead_161, eX6_takeRead_163, eX6_takeRead_164, eX6_takeRead_167, eX6_takeRead_168, eX6_takeRead_169, eX6_takeRead_170, eX6_takeRead_171, eX6_takeRead_174, eX6_takeRead_177, Option.toList_some, Option.toList_none, List.cons_append, List.nil_append, is01_0, is01_1, true_and, f1 140 (by omega), e5]
      rw [if_pos (Int32.le_refl _)]
    | succ r ih =>
      intro i h1 hi e5 e3 f1 f2
      have hi8 : i < 8 := by omega
      have e143 : h1 143 i = w (40 + i) := by rw [f1 143 (by omega)]; exact e3 i (by omega)
      obtain ⟨h', g1, g2, g3⟩ := ih (i + 1) (xu h1 145 (28 + i) (100 * w (40 + i))) (by omega) e5 e3 (fun c hc => by rw [xun _ _ _ _ _ hc, f1 c hc]) (fun k hk => by
        rw [xus]
        by_cases z : k = 28 + i
        · rw [z, xps, if_pos (by omega), show 28 + i - 28 = i by omega, Int32.mul_comm]
        · rw [xpn _ _ _ _ z, f2 k hk]
          by_cases z2 : 28 ≤ k ∧ k < 28 + i
          · rw [if_pos z2, if_pos (by omega)]
          · rw [if_neg z2, if_neg (by omega)])
      refine ⟨h', g1, g2, fun Q => ?_⟩
      rw [← g3 Q]
      conv => lhs; rw [eX6_takeRead_145]
      simp only [eX6_takeRead_0, eX6_takeRead_1, eX6_takeRead_2, eX6_takeRead_5, eX6_takeRead_8, eX6_takeRead_9, eX6_takeRead_10, eX6_takeRead_13, eX6_takeRead_16, eX6_takeRead_17, eX6_takeRead_20, eX6_takeRead_21, eX6_takeRead_24, eX6_takeRead_27, eX6_takeRead_28, eX6_takeRead_29, eX6_takeRead_32, eX6_takeRead_35, eX6_takeRead_36, eX6_takeRead_37, eX6_takeRead_40, eX6_takeRead_43, eX6_takeRead_44, eX6_takeRead_45, eX6_takeRead_48, eX6_takeRead_51, eX6_takeRead_52, eX6_takeRead_55, eX6_takeRead_56, eX6_takeRead_59, eX6_takeRead_62, eX6_takeRead_63, eX6_takeRead_66, eX6_takeRead_67, eX6_takeRead_70, eX6_takeRead_71, eX6_takeRead_74, eX6_takeRead_77, eX6_takeRead_78, eX6_takeRead_81, eX6_takeRead_82, eX6_takeRead_85, eX6_takeRead_86, eX6_takeRead_89, eX6_takeRead_92, eX6_takeRead_93, eX6_takeRead_96, eX6_takeRead_97, eX6_takeRead_100, eX6_takeRead_101, eX6_takeRead_104, eX6_takeRead_107, eX6_takeRead_108, eX6_takeRead_111, eX6_takeRead_112, eX6_takeRead_115, eX6_takeRead_116, eX6_takeRead_119, eX6_takeRead_122, eX6_takeRead_123, eX6_takeRead_125, eX6_takeRead_127, eX6_takeRead_130, eX6_takeRead_131, eX6_takeRead_134, eX6_takeRead_135, eX6_takeRead_136, eX6_takeRead_137, eX6_takeRead_140, eX6_takeRead_143, eX6_takeRead_144, eX6_takeRead_146, eX6_takeRead_147, eX6_takeRead_150, eX6_takeRead_153, eX6_takeRead_154, eX6_takeRead_157, eX6_takeRead_159, eX6_takeRead_160, eX6_takeRead_161, eX6_takeRead_163, eX6_takeRead_164, eX6_takeRead_167, eX6_takeRead_168, eX6_takeRead_169, eX6_takeRead_170, eX6_takeRead_171, eX6_takeRead_174, eX6_takeRead_177, Option.toList_some, Option.toList_none, List.cons_append, List.nil_append, is01_0, is01_1, true_and, f1 140 (by omega), e5, cl8 hi8, inb8 hi8 (Nat.le_refl 8), la4, la12, la20, la28, la36, cl8_4 hi8, cl8_12 hi8, cl8_20 hi8, cl8_28 hi8, cl8_36 hi8, ib8_4 hi8, ib8_12 hi8, ib8_20 hi8, ib8_28 hi8, ib8_36 hi8, e143, nI_1]
      rw [if_neg (nI_ge (by omega) (by omega))]
  -- the fields
  have key : ∀ h0 : xH, (∀ c, ¬ c = 140 → h0 c = h c) → (∀ k, ¬ k = 0 → ¬ k = 1 → ¬ k = 2 → ¬ k = 5 → ¬ k = 8 → h0 140 k = h 140 k) → h0 140 0 = w 0 → h0 140 1 = w 1 → h0 140 2 = nI NL → h0 140 5 = nI G → h0 140 8 = (if w 0 = 0 then 0 else w 2) → (∀ Q : Option Value → xG → xH → Prop, EV X mX6_takeRead 0 0 0 [.ref 140, .null] [] (Gb sw) h Q = EV X mX6_takeRead 0 0 124 [.ref 140, .int 0] [] (Gb sw) (cpR (cpR (cpR (cpR h0 141 0 147 0 NL) 142 0 148 0 NL) 143 0 149 0 G) 144 0 150 0 G) Q) → ∃ h' : xH, (∀ c, ¬ (140 ≤ c ∧ c < 146) → h' c = h c) ∧ (∀ k, ¬ k = 0 → ¬ k = 1 → ¬ k = 2 → ¬ k = 5 → ¬ k = 8 → h' 140 k = h 140 k) ∧ PM h' NL G w ∧ SM h' 145 0 G (v00 w G) ∧ ∀ Q : Option Value → xG → xH → Prop, EV X mX6_takeRead 0 0 0 [.ref 140, .null] [] (Gb sw) h Q = Q none (Gb sw) h' := by
    intro h0 o1 o2 p0 p1 p2 p5 p8 E
    let h4 := cpR (cpR (cpR (cpR h0 141 0 147 0 NL) 142 0 148 0 NL) 143 0 149 0 G) 144 0 150 0 G
    have q0 : ∀ c, ¬ c = 141 → ¬ c = 142 → ¬ c = 143 → ¬ c = 144 → h4 c = h0 c := fun c c1 c2 c3 c4 => by
      show cpR _ _ _ _ _ _ _ = _
      rw [cpR_o c4, cpR_o c3, cpR_o c2, cpR_o c1]
    have q1 : ∀ k, k < NL → h4 141 k = w (10 + k) := fun k hk => by
      show cpR _ _ _ _ _ _ _ _ = _
      rw [cpR_o (by omega), cpR_o (by omega), cpR_o (by omega)]
      have := cpR_i (h := h0) (dst := 141) (off := 0) (src := 147) (off2 := 0) hk
      rw [Nat.zero_add] at this
      rw [this, o1 147 (by omega)]
      exact (d7 k hk).1
    have q2 : ∀ k, k < NL → h4 142 k = w (20 + k) := fun k hk => by
      show cpR _ _ _ _ _ _ _ _ = _
      rw [cpR_o (by omega), cpR_o (by omega)]
      have := cpR_i (h := cpR h0 141 0 147 0 NL) (dst := 142) (off := 0) (src := 148) (off2 := 0) hk
      rw [Nat.zero_add] at this
      rw [this, cpR_o (by omega), o1 148 (by omega)]
      exact (d7 k hk).2
    have q3 : ∀ k, k < G → h4 143 k = w (40 + k) := fun k hk => by
      show cpR _ _ _ _ _ _ _ _ = _
      rw [cpR_o (by omega)]
      have := cpR_i (h := cpR (cpR h0 141 0 147 0 NL) 142 0 148 0 NL) (dst := 143) (off := 0) (src := 149) (off2 := 0) hk
      rw [Nat.zero_add] at this
      rw [this, cpR_o (by omega), cpR_o (by omega), o1 149 (by omega)]
      exact (d8 k hk).1
    have q4 : ∀ k, k < G → h4 144 k = w (30 + k) := fun k hk => by
      show cpR _ _ _ _ _ _ _ _ = _
      have := cpR_i (h := cpR (cpR (cpR h0 141 0 147 0 NL) 142 0 148 0 NL) 143 0 149 0 G) (dst := 144) (off := 0) (src := 150) (off2 := 0) hk
      rw [Nat.zero_add] at this
      rw [this, cpR_o (by omega), cpR_o (by omega), cpR_o (by omega), o1 150 (by omega)]
      exact (d8 k hk).2
    have r140 : h4 140 = h0 140 := q0 140 (by omega) (by omega) (by omega) (by omega)
    obtain ⟨h5, z1, z2, z3⟩ := zer h4 44 0 h4 (by omega) (fun _ _ => rfl) (fun k hk => by omega)
    obtain ⟨h6, y1, y2, y3⟩ := ags h4 G 0 h5 (by omega) (by rw [r140]; exact p5) q3 z1 (fun k hk => by rw [z2 k hk, if_neg (by omega)])
    refine ⟨h6, fun c hc => by rw [y1 c (by omega), q0 c (by omega) (by omega) (by omega) (by omega), o1 c (by omega)], fun k k0 k1 k2 k5 k8 => by rw [y1 140 (by omega), r140, o2 k k0 k1 k2 k5 k8], ⟨⟨?_, ?_, ?_, ?_, ?_⟩, fun k hk => ?_, fun k hk => ?_⟩, ⟨⟨?_, ?_, ?_, ?_⟩, fun k hk => ?_, fun j hj => ⟨?_, ?_, ?_, fun _ => ?_⟩⟩, fun Q => ?_⟩
    · rw [y1 140 (by omega), r140]; exact p0
    · rw [y1 140 (by omega), r140]; exact p1
    · rw [y1 140 (by omega), r140]; exact p8
    · rw [y1 140 (by omega), r140]; exact p2
    · rw [y1 140 (by omega), r140]; exact p5
    · rw [y1 141 (by omega), y1 142 (by omega)]; exact ⟨q1 k hk, q2 k hk⟩
    · rw [y1 144 (by omega)]; exact q4 k hk
    · exact y2 0 (by omega)
    · exact y2 1 (by omega)
    · exact y2 2 (by omega)
    · exact y2 3 (by omega)
    · rw [v00_n (t := 3) (by omega)] at hk
      rw [tc0] at hk; omega
    · rw [Nat.zero_add]; exact y2 _ (by omega)
    · rw [Nat.zero_add]; exact y2 _ (by omega)
    · rw [Nat.zero_add]; exact y2 _ (by omega)
    · rw [Nat.zero_add]; exact y2 _ (by omega)
    · rw [E Q]
      refine Eq.trans ?_ ((z3 Q).trans (y3 Q))
      rfl
  by_cases q : w 0 = 0
  · have w1 := (hW.1.2.2.2.1 q).1
    refine key (xu (xu (xu (xu (xu h 140 0 (w 0)) 140 1 0) 140 2 (nI NL)) 140 5 (nI G)) 140 8 0) (fun c hc => by rw [xun _ _ _ _ _ hc, xun _ _ _ _ _ hc, xun _ _ _ _ _ hc, xun _ _ _ _ _ hc, xun _ _ _ _ _ hc]) (fun k k0 k1 k2 k5 k8 => by rw [xus, xpn _ _ _ _ k8, xus, xpn _ _ _ _ k5, xus, xpn _ _ _ _ k2, xus, xpn _ _ _ _ k1, xus, xpn _ _ _ _ k0]) (by simp only [xun, xus, xps, xpn, ne_eq, not_false_eq_true, Nat.reduceEqDiff, not_false_iff]) (by simp only [xun, xus, xps, xpn, ne_eq, not_false_eq_true, Nat.reduceEqDiff, not_false_iff]; exact w1.symm) (by simp only [xun, xus, xps, xpn, ne_eq, not_false_eq_true, Nat.reduceEqDiff, not_false_iff]) (by simp only [xun, xus, xps, xpn, ne_eq, not_false_eq_true, Nat.reduceEqDiff, not_false_iff]) (by simp only [xun, xus, xps, xpn, ne_eq, not_false_eq_true, Nat.reduceEqDiff, not_false_iff]; rw [if_pos q]) (fun Q => ?_)
    simp only [eX6_takeRead_0, eX6_takeRead_1, eX6_takeRead_2, eX6_takeRead_5, eX6_takeRead_8, eX6_takeRead_9, eX6_takeRead_10, eX6_takeRead_13, eX6_takeRead_16, eX6_takeRead_17, eX6_takeRead_20, eX6_takeRead_21, eX6_takeRead_24, eX6_takeRead_27, eX6_takeRead_28, eX6_takeRead_29, eX6_takeRead_32, eX6_takeRead_35, eX6_takeRead_36, eX6_takeRead_37, eX6_takeRead_40, eX6_takeRead_43, eX6_takeRead_44, eX6_takeRead_45, eX6_takeRead_48, eX6_takeRead_51, eX6_takeRead_52, eX6_takeRead_55, eX6_takeRead_56, eX6_takeRead_59, eX6_takeRead_62, eX6_takeRead_63, eX6_takeRead_66, eX6_takeRead_67, eX6_takeRead_70, eX6_takeRead_71, eX6_takeRead_74, eX6_takeRead_77, eX6_takeRead_78, eX6_takeRead_81, eX6_takeRead_82, eX6_takeRead_85, eX6_takeRead_86, eX6_takeRead_89, eX6_takeRead_92, eX6_takeRead_93, eX6_takeRead_96, eX6_takeRead_97, eX6_takeRead_100, eX6_takeRead_101, eX6_takeRead_104, eX6_takeRead_107, eX6_takeRead_108, eX6_takeRead_111, eX6_takeRead_112, eX6_takeRead_115, eX6_takeRead_116, eX6_takeRead_119, eX6_takeRead_122, eX6_takeRead_123, eX6_takeRead_125, eX6_takeRead_127, eX6_takeRead_130, eX6_takeRead_131, eX6_takeRead_134, eX6_takeRead_135, eX6_takeRead_136, eX6_takeRead_137, eX6_takeRead_140, eX6_takeRead_143, eX6_takeRead_144, eX6_takeRead_145, eX6_takeRead_146, eX6_takeRead_147, eX6_takeRead_150, eX6_takeRead_153, eX6_takeRead_154, eX6_takeRead_157, eX6_takeRead_159, eX6_takeRead_160, eX6_takeRead_161, eX6_takeRead_163, eX6_takeRead_164, eX6_takeRead_167, eX6_takeRead_168, eX6_takeRead_169, eX6_takeRead_170, eX6_takeRead_171, eX6_takeRead_174, eX6_takeRead_177, Option.toList_some, Option.toList_none, List.cons_append, List.nil_append, is01_0, is01_1, true_and, xun, xus, xps, xpn, ne_eq, not_false_eq_true, Nat.reduceEqDiff, not_false_iff, d1, d3, d4, q, not_true, if_false, not_false_iff, if_true, cpR_o (show ¬ 140 = 141 by decide), cpR_o (show ¬ 140 = 142 by decide), cpR_o (show ¬ 140 = 143 by decide), m_copyRow k147 k141 (show ¬ 147 = 141 by decide) (show NL ≤ xz 147 by rw [s147]; exact hNL) (show NL ≤ xz 141 by rw [s141]; exact hNL) (show NL ≤ 8 by omega), m_copyRow k148 k142 (show ¬ 148 = 142 by decide) (show NL ≤ xz 148 by rw [s148]; exact hNL) (show NL ≤ xz 142 by rw [s142]; exact hNL) (show NL ≤ 8 by omega), m_copyRow k149 k143 (show ¬ 149 = 143 by decide) (show G ≤ xz 149 by rw [s149]; exact hG) (show G ≤ xz 143 by rw [s143]; exact hG) hG, m_copyRow k150 k144 (show ¬ 150 = 144 by decide) (show G ≤ xz 150 by rw [s150]; exact hG) (show G ≤ xz 144 by rw [s144]; exact hG) hG]
  · refine key (xu (xu (xu (xu (xu h 140 0 (w 0)) 140 1 (w 1)) 140 2 (nI NL)) 140 5 (nI G)) 140 8 (w 2)) (fun c hc => by rw [xun _ _ _ _ _ hc, xun _ _ _ _ _ hc, xun _ _ _ _ _ hc, xun _ _ _ _ _ hc, xun _ _ _ _ _ hc]) (fun k k0 k1 k2 k5 k8 => by rw [xus, xpn _ _ _ _ k8, xus, xpn _ _ _ _ k5, xus, xpn _ _ _ _ k2, xus, xpn _ _ _ _ k1, xus, xpn _ _ _ _ k0]) (by simp only [xun, xus, xps, xpn, ne_eq, not_false_eq_true, Nat.reduceEqDiff, not_false_iff]) (by simp only [xun, xus, xps, xpn, ne_eq, not_false_eq_true, Nat.reduceEqDiff, not_false_iff]) (by simp only [xun, xus, xps, xpn, ne_eq, not_false_eq_true, Nat.reduceEqDiff, not_false_iff]) (by simp only [xun, xus, xps, xpn, ne_eq, not_false_eq_true, Nat.reduceEqDiff, not_false_iff]) (by simp only [xun, xus, xps, xpn, ne_eq, not_false_eq_true, Nat.reduceEqDiff, not_false_iff]; rw [if_neg q]) (fun Q => ?_)
    simp only [eX6_takeRead_0, eX6_takeRead_1, eX6_takeRead_2, eX6_takeRead_5, eX6_takeRead_8, eX6_takeRead_9, eX6_takeRead_10, eX6_takeRead_13, eX6_takeRead_16, eX6_takeRead_17, eX6_takeRead_20, eX6_takeRead_21, eX6_takeRead_24, eX6_takeRead_27, eX6_takeRead_28, eX6_takeRead_29, eX6_takeRead_32, eX6_takeRead_35, eX6_takeRead_36, eX6_takeRead_37, eX6_takeRead_40, eX6_takeRead_43, eX6_takeRead_44, eX6_takeRead_45, eX6_takeRead_48, eX6_takeRead_51, eX6_takeRead_52, eX6_takeRead_55, eX6_takeRead_56, eX6_takeRead_59, eX6_takeRead_62, eX6_takeRead_63, eX6_takeRead_66, eX6_takeRead_67, eX6_takeRead_70, eX6_takeRead_71, eX6_takeRead_74, eX6_takeRead_77, eX6_takeRead_78, eX6_takeRead_81, eX6_takeRead_82, eX6_takeRead_85, eX6_takeRead_86, eX6_takeRead_89, eX6_takeRead_92, eX6_takeRead_93, eX6_takeRead_96, eX6_takeRead_97, eX6_takeRead_100, eX6_takeRead_101, eX6_takeRead_104, eX6_takeRead_107, eX6_takeRead_108, eX6_takeRead_111, eX6_takeRead_112, eX6_takeRead_115, eX6_takeRead_116, eX6_takeRead_119, eX6_takeRead_122, eX6_takeRead_123, eX6_takeRead_125, eX6_takeRead_127, eX6_takeRead_130, eX6_takeRead_131, eX6_takeRead_134, eX6_takeRead_135, eX6_takeRead_136, eX6_takeRead_137, eX6_takeRead_140, eX6_takeRead_143, eX6_takeRead_144, eX6_takeRead_145, eX6_takeRead_146, eX6_takeRead_147, eX6_takeRead_150, eX6_takeRead_153, eX6_takeRead_154, eX6_takeRead_157, eX6_takeRead_159, eX6_takeRead_160, eX6_takeRead_161, eX6_takeRead_163, eX6_takeRead_164, eX6_takeRead_167, eX6_takeRead_168, eX6_takeRead_169, eX6_takeRead_170, eX6_takeRead_171, eX6_takeRead_174, eX6_takeRead_177, Option.toList_some, Option.toList_none, List.cons_append, List.nil_append, is01_0, is01_1, true_and, xun, xus, xps, xpn, ne_eq, not_false_eq_true, Nat.reduceEqDiff, not_false_iff, d1, d2 q, d3, d4, d5, q, if_false, not_false_iff, if_true, cpR_o (show ¬ 140 = 141 by decide), cpR_o (show ¬ 140 = 142 by decide), cpR_o (show ¬ 140 = 143 by decide), m_copyRow k147 k141 (show ¬ 147 = 141 by decide) (show NL ≤ xz 147 by rw [s147]; exact hNL) (show NL ≤ xz 141 by rw [s141]; exact hNL) (show NL ≤ 8 by omega), m_copyRow k148 k142 (show ¬ 148 = 142 by decide) (show NL ≤ xz 148 by rw [s148]; exact hNL) (show NL ≤ xz 142 by rw [s142]; exact hNL) (show NL ≤ 8 by omega), m_copyRow k149 k143 (show ¬ 149 = 143 by decide) (show G ≤ xz 149 by rw [s149]; exact hG) (show G ≤ xz 143 by rw [s143]; exact hG) hG, m_copyRow k150 k144 (show ¬ 150 = 144 by decide) (show G ≤ xz 150 by rw [s150]; exact hG) (show G ≤ xz 144 by rw [s144]; exact hG) hG]
end FB
