/-! alighting; hours pass -/
section PA
variable {X : (Nat → Int32) × Nat} {g : xG} {sw : Bool} {NL G : Nat} {w v : Nat → Int32}
def alV (v : Nat → Int32) : Nat → Int32 := fun t => if (12 ≤ t ∧ t < 20) ∧ v t = 2 then 0 else v t
theorem alV_n {t : Nat} (h : ¬ (12 ≤ t ∧ t < 20)) : alV v t = v t := by unfold alV; rw [if_neg (fun q => h q.1)]
theorem alV_i {j : Nat} (h : j < 8) : alV v (12 + j) = if v (12 + j) = 2 then 0 else v (12 + j) := by
  unfold alV
  by_cases q : v (12 + j) = 2
  · rw [if_pos ⟨by omega, q⟩, if_pos q]
  · rw [if_neg (fun z => q z.2), if_neg q]
theorem alV_3 {j : Nat} (h : j < 8) (q : alV v (12 + j) = 3) : v (12 + j) = 3 := by
  rw [alV_i h] at q
  split at q
  · exact absurd q (by decide)
  · exact q
theorem alV_1 {j : Nat} (h : j < 8) : (alV v (12 + j) = 1) = (v (12 + j) = 1) := by
  rw [alV_i h]
  by_cases q : v (12 + j) = 2
  · rw [if_pos q, q]; decide
  · rw [if_neg q]
theorem SW.al (hV : SW w G v) (hG : G ≤ 8) : SW w G (alV v) := by
  obtain ⟨⟨n, n1, n2, n3, n4, n5⟩, a1, a2, a3, a4, a5, a6, a7⟩ := hV
  refine ⟨⟨n, n1, by rw [alV_n (by omega)]; exact n2, fun k hk => ?_, fun k k' hk hk' => ?_, fun q hq => ?_⟩, fun i hi => ?_, fun i q1 q2 => ?_, fun i hi => ?_, ?_, ?_, ?_, ?_⟩
  · obtain ⟨q, q1, q2, q3⟩ := n3 k hk
    exact ⟨q, q1, by rw [alV_n (by omega)]; exact q2, by rw [alV_1 (by omega)]; exact q3⟩
  · rw [alV_n (by omega), alV_n (by omega)]; exact n4 k k' hk hk'
  · rw [alV_1 (by omega)]
    intro z
    obtain ⟨k, k1, k2⟩ := n5 q hq z
    exact ⟨k, k1, by rw [alV_n (by omega)]; exact k2⟩
  · rw [alV_i hi]
    split
    · exact Or.inl rfl
    · exact a1 i hi
  · rw [alV_i q2, a2 i q1 q2]; decide
  · rw [alV_n (by omega), alV_n (by omega), alV_n (t := 1) (by omega)]; exact a3 i hi
  · rw [alV_n (by omega)]; exact a4
  · rw [alV_n (by omega)]; exact a5
  · rw [alV_n (by omega)]; exact a6
  · have : fb_ct (fun j => decide (alV v (12 + j) = 2)) 8 = 0 := fb_ct_zero.mpr (fun k hk => by
      rw [alV_i hk]
      by_cases q : v (12 + k) = 2
      · rw [if_pos q]; decide
      · rw [if_neg q]; simpa using q)
    rw [this]
    omega
theorem ctS_s (v : Nat → Int32) (p : Int32) (i : Nat) : ctS v p (i + 1) = ctS v p i + (if v (12 + i) = p then 1 else 0) := by
  unfold ctS
  rw [fb_ct_succ]
  simp
theorem c_al (X : (Nat → Int32) × Nat) (sw : Bool) {h : xH} (hs : SC h 13 G v) (hV : SW w G v) (hG : G ≤ 8) : ∃ h' : xH, (∀ a, ¬ a = 17 → h' a = h a) ∧ SC h' 13 G (alV v) ∧ ∀ Q : Option Value → xG → xH → Prop, EV X mX3_emptyCar 0 0 0 [.ref 13, .null, .null] [] (Gb sw) h Q = Q (some (.int (nI (ctS v 2 8)))) (Gb sw) h' := by
  have loop : ∀ (r i : Nat) (h1 : xH), i + r = 8 → (∀ a, ¬ a = 17 → h1 a = h a) → (∀ j, j < 8 → h1 17 j = if j < i then alV v (12 + j) else v (12 + j)) → ∃ h' : xH, (∀ a, ¬ a = 17 → h' a = h a) ∧ (∀ j, j < 8 → h' 17 j = alV v (12 + j)) ∧ ∀ Q : Option Value → xG → xH → Prop, EV X mX3_emptyCar 0 0 4 [.ref 13, .int (nI (ctS v 2 i)), .int (nI i)] [] (Gb sw) h1 Q = Q (some (.int (nI (ctS v 2 8)))) (Gb sw) h' := by
    intro r
    induction r with
    | zero =>
      intro i h1 hi f1 s1
      have hi : i = 8 := hi
      subst hi
      refine ⟨h1, f1, fun j hj => by rw [s1 j hj, if_pos hj], fun Q => ?_⟩
      rw [eX3_emptyCar_4]
      simp only [eX3_emptyCar_0, eX3_emptyCar_1, eX3_emptyCar_2, eX3_emptyCar_3, eX3_emptyCar_5, eX3_emptyCar_7, eX3_emptyCar_10, eX3_emptyCar_11, eX3_emptyCar_14, eX3_emptyCar_15, eX3_emptyCar_16, eX3_emptyCar_17, eX3_emptyCar_20, eX3_emptyCar_21, eX3_emptyCar_24, eX3_emptyCar_25, eX3_emptyCar_26, eX3_emptyCar_27, eX3_emptyCar_30, eX3_emptyCar_33, eX3_emptyCar_36, eX3_emptyCar_37, Option.toList_some, Option.toList_none, List.cons_append, List.nil_append, is01_0, is01_1, true_and]
      rw [if_pos (show (8 : Int32) ≤ nI 8 by decide)]
    | succ r ih =>
      intro i h1 hi f1 s1
      have hi8 : i < 8 := by omega
      have e17 : h1 17 i = v (12 + i) := by rw [s1 i hi8, if_neg (by omega)]
      by_cases q : v (12 + i) = 2
      · obtain ⟨h', f2, s2, e2⟩ := ih (i + 1) (xu h1 17 i 0) (by omega) (fun a ha => by rw [xun _ _ _ _ _ ha, f1 a ha]) (fun j hj => by
          rw [xus]
          by_cases z : j = i
          · rw [z, xps, if_pos (by omega), alV_i hi8, if_pos q]
          · rw [xpn _ _ _ _ z, s1 j hj]
            by_cases z2 : j < i
            · rw [if_pos z2, if_pos (by omega)]
            · rw [if_neg z2, if_neg (by omega)])
        refine ⟨h', f2, s2, fun Q => ?_⟩
        rw [← e2 Q, ctS_s, if_pos q]
        conv => lhs; rw [eX3_emptyCar_4]
        simp only [eX3_emptyCar_0, eX3_emptyCar_1, eX3_emptyCar_2, eX3_emptyCar_3, eX3_emptyCar_5, eX3_emptyCar_7, eX3_emptyCar_10, eX3_emptyCar_11, eX3_emptyCar_14, eX3_emptyCar_15, eX3_emptyCar_16, eX3_emptyCar_17, eX3_emptyCar_20, eX3_emptyCar_21, eX3_emptyCar_24, eX3_emptyCar_25, eX3_emptyCar_26, eX3_emptyCar_27, eX3_emptyCar_30, eX3_emptyCar_33, eX3_emptyCar_36, eX3_emptyCar_37, Option.toList_some, Option.toList_none, List.cons_append, List.nil_append, is01_0, is01_1, true_and, cl8 hi8, inb8 hi8 (Nat.le_refl 8), e17, q, if_true, not_true, if_false, nI_1]
        rw [if_neg (show ¬ (8 : Int32) ≤ nI i from nI_ge (b := 8) (by omega) (by omega))]
      · obtain ⟨h', f2, s2, e2⟩ := ih (i + 1) h1 (by omega) f1 (fun j hj => by
          rw [s1 j hj]
          by_cases z : j = i
          · rw [z, if_neg (by omega), if_pos (by omega), alV_i hi8, if_neg q]
          · by_cases z2 : j < i
            · rw [if_pos z2, if_pos (by omega)]
            · rw [if_neg z2, if_neg (by omega)])
        refine ⟨h', f2, s2, fun Q => ?_⟩
        rw [← e2 Q, ctS_s, if_neg q]
        conv => lhs; rw [eX3_emptyCar_4]
        simp only [eX3_emptyCar_0, eX3_emptyCar_1, eX3_emptyCar_2, eX3_emptyCar_3, eX3_emptyCar_5, eX3_emptyCar_7, eX3_emptyCar_10, eX3_emptyCar_11, eX3_emptyCar_14, eX3_emptyCar_15, eX3_emptyCar_16, eX3_emptyCar_17, eX3_emptyCar_20, eX3_emptyCar_21, eX3_emptyCar_24, eX3_emptyCar_25, eX3_emptyCar_26, eX3_emptyCar_27, eX3_emptyCar_30, eX3_emptyCar_33, eX3_emptyCar_36, eX3_emptyCar_37, Option.toList_some, Option.toList_none, List.cons_append, List.nil_append, is01_0, is01_1, true_and, cl8 hi8, inb8 hi8 (Nat.le_refl 8), e17, q, if_true, not_false_iff, if_false, nI_1, Nat.add_zero]
        rw [if_neg (show ¬ (8 : Int32) ≤ nI i from nI_ge (b := 8) (by omega) (by omega))]
  obtain ⟨h', f1, s1, e1⟩ := loop 8 0 h (by omega) (fun _ _ => rfl) (fun j hj => by rw [if_neg (by omega)]; exact hs.w j hj)
  have hn8 := hV.n8
  refine ⟨h', f1, ⟨⟨?_, ?_, ?_, ?_⟩, fun i hi => ?_, fun i hi => s1 i hi, fun i hi => ⟨?_, ?_, fun z => ?_⟩⟩, fun Q => ?_⟩
  · rw [f1 _ (by omega), alV_n (by omega)]; exact hs.1.1
  · rw [f1 _ (by omega), alV_n (by omega)]; exact hs.1.2.1
  · rw [f1 _ (by omega), alV_n (by omega)]; exact hs.1.2.2.1
  · rw [f1 _ (by omega), alV_n (by omega)]; exact hs.1.2.2.2
  · rw [alV_n (t := 3) (by omega)] at hi
    rw [f1 _ (by omega), alV_n (by omega)]; exact hs.q i hi
  · rw [f1 _ (by omega), alV_n (by omega)]; exact hs.a i hi
  · rw [f1 _ (by omega), alV_n (by omega)]; exact hs.k i hi
  · rw [f1 _ (by omega), alV_n (by omega)]; exact hs.s i hi (alV_3 (by omega) z)
  · rw [← e1 Q]
    simp only [eX3_emptyCar_0, eX3_emptyCar_1, eX3_emptyCar_2, eX3_emptyCar_3, eX3_emptyCar_5, eX3_emptyCar_7, eX3_emptyCar_10, eX3_emptyCar_11, eX3_emptyCar_14, eX3_emptyCar_15, eX3_emptyCar_16, eX3_emptyCar_17, eX3_emptyCar_20, eX3_emptyCar_21, eX3_emptyCar_24, eX3_emptyCar_25, eX3_emptyCar_26, eX3_emptyCar_27, eX3_emptyCar_30, eX3_emptyCar_33, eX3_emptyCar_36, eX3_emptyCar_37, Option.toList_some, Option.toList_none, List.cons_append, List.nil_append, is01_0, is01_1, true_and]
    rfl
theorem m_al (X : (Nat → Int32) × Nat) (sw : Bool) {h : xH} (hs : SM h 145 0 G v) (hV : SW w G v) (hG : G ≤ 8) (hM : PM h NL G w) : ∃ h' : xH, (∀ a, ¬ a = 145 → h' a = h a) ∧ SM h' 145 0 G (alV v) ∧ ∀ Q : Option Value → xG → xH → Prop, EV X mX6_alightNow 0 0 0 [.ref 140, .null, .null] [] (Gb sw) h Q = Q (some (.int (nI (ctS v 2 8)))) (Gb sw) h' := by
  have loop : ∀ (r i : Nat) (h1 : xH), i + r = G → (∀ a, ¬ a = 145 → h1 a = h a) → (∀ t, ¬ (12 ≤ t ∧ t < 20) → h1 145 t = h 145 t) → (∀ j, j < G → h1 145 (12 + j) = if j < i then alV v (12 + j) else v (12 + j)) → ∃ h' : xH, (∀ a, ¬ a = 145 → h' a = h a) ∧ (∀ t, ¬ (12 ≤ t ∧ t < 20) → h' 145 t = h 145 t) ∧ (∀ j, j < G → h' 145 (12 + j) = alV v (12 + j)) ∧ ∀ Q : Option Value → xG → xH → Prop, EV X mX6_alightNow 0 0 4 [.ref 140, .int (nI (ctS v 2 i)), .int (nI i)] [] (Gb sw) h1 Q = Q (some (.int (nI (ctS v 2 G)))) (Gb sw) h' := by
    intro r
    induction r with
    | zero =>
      intro i h1 hi f1 t1 s1
      have hi : i = G := hi
      subst hi
      have e5 : h1 140 5 = nI i := by rw [f1 140 (by omega)]; exact hM.1.2.2.2.2
      refine ⟨h1, f1, t1, fun j hj => by rw [s1 j hj, if_pos hj], fun Q => ?_⟩
      rw [eX6_alightNow_4]
      simp only [eX6_alightNow_0, eX6_alightNow_1, eX6_alightNow_2, eX6_alightNow_3, eX6_alightNow_5, eX6_alightNow_6, eX6_alightNow_9, eX6_alightNow_12, eX6_alightNow_13, eX6_alightNow_14, eX6_alightNow_17, eX6_alightNow_19, eX6_alightNow_20, eX6_alightNow_21, eX6_alightNow_22, eX6_alightNow_23, eX6_alightNow_26, eX6_alightNow_27, eX6_alightNow_30, eX6_alightNow_31, eX6_alightNow_32, eX6_alightNow_33, eX6_alightNow_34, eX6_alightNow_37, eX6_alightNow_39, eX6_alightNow_40, eX6_alightNow_41, eX6_alightNow_42, eX6_alightNow_45, eX6_alightNow_47, eX6_alightNow_48, eX6_alightNow_49, eX6_alightNow_50, eX6_alightNow_51, eX6_alightNow_54, eX6_alightNow_55, eX6_alightNow_58, eX6_alightNow_59, eX6_alightNow_62, eX6_alightNow_64, eX6_alightNow_65, eX6_alightNow_66, eX6_alightNow_67, eX6_alightNow_68, eX6_alightNow_71, eX6_alightNow_74, eX6_alightNow_75, Option.toList_some, Option.toList_none, List.cons_append, List.nil_append, is01_0, is01_1, true_and, e5]
      rw [if_pos (Int32.le_refl _)]
    | succ r ih =>
      intro i h1 hi f1 t1 s1
      have hi8 : i < 8 := by omega
      have e5 : h1 140 5 = nI G := by rw [f1 140 (by omega)]; exact hM.1.2.2.2.2
      have e17 : h1 145 (12 + i) = v (12 + i) := by rw [s1 i (by omega), if_neg (by omega)]
      obtain ⟨h', f2, t2, s2, e2⟩ := ih (i + 1) (xu h1 145 (12 + i) (alV v (12 + i))) (by omega) (fun a ha => by rw [xun _ _ _ _ _ ha, f1 a ha]) (fun t ht => by rw [xus, xpn _ _ _ _ (by omega), t1 t ht]) (fun j hj => by
        rw [xus]
        by_cases z : j = i
        · rw [z, xps, if_pos (by omega)]
        · rw [xpn _ _ _ _ (by omega), s1 j hj]
          by_cases z2 : j < i
          · rw [if_pos z2, if_pos (by omega)]
          · rw [if_neg z2, if_neg (by omega)])
      refine ⟨h', f2, t2, s2, fun Q => ?_⟩
      rw [← e2 Q, ctS_s, alV_i hi8]
      conv => lhs; rw [eX6_alightNow_4]
      by_cases q : v (12 + i) = 2
      · simp only [eX6_alightNow_0, eX6_alightNow_1, eX6_alightNow_2, eX6_alightNow_3, eX6_alightNow_5, eX6_alightNow_6, eX6_alightNow_9, eX6_alightNow_12, eX6_alightNow_13, eX6_alightNow_14, eX6_alightNow_17, eX6_alightNow_19, eX6_alightNow_20, eX6_alightNow_21, eX6_alightNow_22, eX6_alightNow_23, eX6_alightNow_26, eX6_alightNow_27, eX6_alightNow_30, eX6_alightNow_31, eX6_alightNow_32, eX6_alightNow_33, eX6_alightNow_34, eX6_alightNow_37, eX6_alightNow_39, eX6_alightNow_40, eX6_alightNow_41, eX6_alightNow_42, eX6_alightNow_45, eX6_alightNow_47, eX6_alightNow_48, eX6_alightNow_49, eX6_alightNow_50, eX6_alightNow_51, eX6_alightNow_54, eX6_alightNow_55, eX6_alightNow_58, eX6_alightNow_59, eX6_alightNow_62, eX6_alightNow_64, eX6_alightNow_65, eX6_alightNow_66, eX6_alightNow_67, eX6_alightNow_68, eX6_alightNow_71, eX6_alightNow_74, eX6_alightNow_75, Option.toList_some, Option.toList_none, List.cons_append, List.nil_append, is01_0, is01_1, true_and, la4, la12, la20, la28, la36, cl8_4 hi8, cl8_12 hi8, cl8_20 hi8, cl8_28 hi8, cl8_36 hi8, ib8_4 hi8, ib8_12 hi8, ib8_20 hi8, ib8_28 hi8, ib8_36 hi8, e5, e17, q, if_true, not_true, if_false, nI_1]
        rw [if_neg (nI_ge (by omega) (by omega))]
      · simp only [eX6_alightNow_0, eX6_alightNow_1, eX6_alightNow_2, eX6_alightNow_3, eX6_alightNow_5, eX6_alightNow_6, eX6_alightNow_9, eX6_alightNow_12, eX6_alightNow_13, eX6_alightNow_14, eX6_alightNow_17, eX6_alightNow_19, eX6_alightNow_20, eX6_alightNow_21, eX6_alightNow_22, eX6_alightNow_23, eX6_alightNow_26, eX6_alightNow_27, eX6_alightNow_30, eX6_alightNow_31, eX6_alightNow_32, eX6_alightNow_33, eX6_alightNow_34, eX6_alightNow_37, eX6_alightNow_39, eX6_alightNow_40, eX6_alightNow_41, eX6_alightNow_42, eX6_alightNow_45, eX6_alightNow_47, eX6_alightNow_48, eX6_alightNow_49, eX6_alightNow_50, eX6_alightNow_51, eX6_alightNow_54, eX6_alightNow_55, eX6_alightNow_58, eX6_alightNow_59, eX6_alightNow_62, eX6_alightNow_64, eX6_alightNow_65, eX6_alightNow_66, eX6_alightNow_67, eX6_alightNow_68, eX6_alightNow_71, eX6_alightNow_74, eX6_alightNow_75, Option.toList_some, Option.toList_none, List.cons_append, List.nil_append, is01_0, is01_1, true_and, la4, la12, la20, la28, la36, cl8_4 hi8, cl8_12 hi8, cl8_20 hi8, cl8_28 hi8, cl8_36 hi8, ib8_4 hi8, ib8_12 hi8, ib8_20 hi8, ib8_28 hi8, ib8_36 hi8, e5, e17, q, if_true, not_false_iff, if_false, nI_1, Nat.add_zero, Int32.add_zero]
        rw [if_neg (nI_ge (by omega) (by omega))]
  obtain ⟨h', f1, t1, s1, e1⟩ := loop G 0 h (by omega) (fun _ _ => rfl) (fun _ _ => rfl) (fun j hj => by rw [if_neg (by omega)]; exact hs.w j hj)
  have hn8 := hV.n8
  refine ⟨h', f1, ⟨⟨?_, ?_, ?_, ?_⟩, fun i hi => ?_, fun i hi => ⟨?_, ?_, ?_, fun z => ?_⟩⟩, fun Q => ?_⟩
  · rw [t1 _ (by omega), alV_n (by omega)]; exact hs.f.1
  · rw [t1 _ (by omega), alV_n (by omega)]; exact hs.f.2.1
  · rw [t1 _ (by omega), alV_n (by omega)]; exact hs.f.2.2.1
  · rw [t1 _ (by omega), alV_n (by omega)]; exact hs.f.2.2.2
  · rw [alV_n (t := 3) (by omega)] at hi
    rw [Nat.zero_add, t1 _ (by omega), alV_n (by omega)]; exact hs.q i hi
  · rw [Nat.zero_add]; exact s1 i hi
  · rw [Nat.zero_add, t1 _ (by omega), alV_n (by omega)]; exact hs.a i hi
  · rw [Nat.zero_add, t1 _ (by omega), alV_n (by omega)]; exact hs.k i hi
  · rw [Nat.zero_add, t1 _ (by omega), alV_n (by omega)]; exact hs.s i hi (alV_3 (by omega) z)
  · rw [ctS_G hV hG (show ¬ (2 : Int32) = 0 by decide), ← e1 Q]
    simp only [eX6_alightNow_0, eX6_alightNow_1, eX6_alightNow_2, eX6_alightNow_3, eX6_alightNow_5, eX6_alightNow_6, eX6_alightNow_9, eX6_alightNow_12, eX6_alightNow_13, eX6_alightNow_14, eX6_alightNow_17, eX6_alightNow_19, eX6_alightNow_20, eX6_alightNow_21, eX6_alightNow_22, eX6_alightNow_23, eX6_alightNow_26, eX6_alightNow_27, eX6_alightNow_30, eX6_alightNow_31, eX6_alightNow_32, eX6_alightNow_33, eX6_alightNow_34, eX6_alightNow_37, eX6_alightNow_39, eX6_alightNow_40, eX6_alightNow_41, eX6_alightNow_42, eX6_alightNow_45, eX6_alightNow_47, eX6_alightNow_48, eX6_alightNow_49, eX6_alightNow_50, eX6_alightNow_51, eX6_alightNow_54, eX6_alightNow_55, eX6_alightNow_58, eX6_alightNow_59, eX6_alightNow_62, eX6_alightNow_64, eX6_alightNow_65, eX6_alightNow_66, eX6_alightNow_67, eX6_alightNow_68, eX6_alightNow_71, eX6_alightNow_74, eX6_alightNow_75, Option.toList_some, Option.toList_none, List.cons_append, List.nil_append, is01_0, is01_1, true_and]
    rfl
theorem p_alight : OpK X mX5_alight mX6_alight [.ref 0] [.ref 140] := OpK.two fun sw h NL G w v H => by
  obtain ⟨n1, n2, n3, n4, n5, n6⟩ := id H.1
  have hz := hpos n2.2.2.2.2.2.2.1.1
  by_cases c : w 0 = 0
  · refine OpK.same H ?_
    unfold Both
    simp only [eX5_alight_0, eX5_alight_1, eX5_alight_4, eX5_alight_7, eX5_alight_10, eX5_alight_11, eX5_alight_14, eX5_alight_17, eX5_alight_20, eX5_alight_22, eX5_alight_23, eX5_alight_24, eX5_alight_27, eX5_alight_28, eX5_alight_31, eX5_alight_34, eX5_alight_35, eX5_alight_38, eX5_alight_41, eX6_alight_0, eX6_alight_1, eX6_alight_4, eX6_alight_7, eX6_alight_8, eX6_alight_11, eX6_alight_12, eX6_alight_13, eX6_alight_16, eX6_alight_18, eX6_alight_19, eX6_alight_20, eX6_alight_23, eX6_alight_24, eX6_alight_27, Option.toList_some, Option.toList_none, List.cons_append, List.nil_append, is01_0, is01_1, true_and, pl_P, n3.1, n4.1, b01_0, c, not_true, not_false_iff, if_true, if_false]
    first | exact ⟨_, fun _ => rfl, fun _ => rfl⟩ | exact ⟨_, fun _ => rfl⟩
  · by_cases c1 : v 0 = 0
    · obtain ⟨hp, hN, z0, z140, e1, K⟩ := act X H
      obtain ⟨m1, m2, m3, m4, m5, m6⟩ := id hN
      obtain ⟨h1, g1, hs', k1⟩ := c_al X sw m5 m2 m1.2.1
      obtain ⟨hr, hM, hm, r0, r140, e2, K2⟩ := K h1 (fun a q1 q2 => g1 a (by omega))
      obtain ⟨h2, g2, hm', k2⟩ := m_al X sw hm m2 m1.2.1 hM
      refine ⟨nI (ctS v 2 8), h1, h2, fun Q => ?_, fun Q => ?_, NL, G, w, _, K2 _ _ (fun a q1 q2 => g2 a q1) (fun k _ => by rw [g2 140 (by omega)]) (n2.al n1.2.1) hs' hm' ?_⟩
      · simp only [eX5_alight_0, eX5_alight_1, eX5_alight_4, eX5_alight_7, eX5_alight_10, eX5_alight_11, eX5_alight_14, eX5_alight_17, eX5_alight_20, eX5_alight_22, eX5_alight_23, eX5_alight_24, eX5_alight_27, eX5_alight_28, eX5_alight_31, eX5_alight_34, eX5_alight_35, eX5_alight_38, eX5_alight_41, Option.toList_some, Option.toList_none, List.cons_append, List.nil_append, is01_0, is01_1, true_and, pl_P, n3.1, n5.1, b01_0, c, c1, not_true, not_false_iff, if_true, if_false, e1, k1]
      · have p1 : PM h1 NL G w := by
          refine m4.mv ?_ ?_ ?_ ?_ ?_ ?_ ?_ ?_ <;> rw [g1 _ (by omega)]
        have p2 : SM h1 145 0 G v := m6.mv (g1 _ (by omega))
        simp only [eX6_alight_0, eX6_alight_1, eX6_alight_4, eX6_alight_7, eX6_alight_8, eX6_alight_11, eX6_alight_12, eX6_alight_13, eX6_alight_16, eX6_alight_18, eX6_alight_19, eX6_alight_20, eX6_alight_23, eX6_alight_24, eX6_alight_27, Option.toList_some, Option.toList_none, List.cons_append, List.nil_append, is01_0, is01_1, true_and, p1.1, p2.f, tc0, ib0, hz, c, c1, Int32.le_refl, not_true, not_false_iff, if_true, if_false, e2, k2]
      · refine SDr.mv H.2.2.2.2.2.2.2.2 ?_ ?_
        · rw [g2 0 (by omega), r0, g1 0 (by omega), z0]
        · rw [g2 140 (by omega), r140]
    · refine OpK.same H ?_
      unfold Both
      simp only [eX5_alight_0, eX5_alight_1, eX5_alight_4, eX5_alight_7, eX5_alight_10, eX5_alight_11, eX5_alight_14, eX5_alight_17, eX5_alight_20, eX5_alight_22, eX5_alight_23, eX5_alight_24, eX5_alight_27, eX5_alight_28, eX5_alight_31, eX5_alight_34, eX5_alight_35, eX5_alight_38, eX5_alight_41, eX6_alight_0, eX6_alight_1, eX6_alight_4, eX6_alight_7, eX6_alight_8, eX6_alight_11, eX6_alight_12, eX6_alight_13, eX6_alight_16, eX6_alight_18, eX6_alight_19, eX6_alight_20, eX6_alight_23, eX6_alight_24, eX6_alight_27, Option.toList_some, Option.toList_none, List.cons_append, List.nil_append, is01_0, is01_1, true_and, pl_P, n3.1, n4.1, n5.1, n6.f, tc0, ib0, hz, b01_0, c, c1, not_true, not_false_iff, if_true, if_false]
      first | exact ⟨_, fun _ => rfl, fun _ => rfl⟩ | exact ⟨_, fun _ => rfl⟩
/-! hours -/
def psP (w v : Nat → Int32) (NL : Nat) (n : Int32) : Nat → Nat → Int32
  | 0 => v
  | i + 1 => xp (xp (psP w v NL n i) (28 + i) (oldS (v (28 + i)) (n * pcj w v NL i))) (36 + i) (if up v i then v (36 + i) + n * pcj w v NL i else v (36 + i))
def psV (w v : Nat → Int32) (NL G : Nat) (n : Int32) : Nat → Int32 := xp (psP w v NL n G) 1 (v 1 + n)
theorem psP_n (n : Int32) {t : Nat} (h : t < 28) : ∀ i, psP w v NL n i t = v t
  | 0 => rfl
  | i + 1 => by
    show xp (xp _ _ _) _ _ t = _
    rw [xpn _ _ _ _ (by omega), xpn _ _ _ _ (by omega)]
    exact psP_n n h i
theorem psP_g (n : Int32) {j : Nat} (hj : j < 8) : ∀ i, i ≤ 8 → (psP w v NL n i (28 + j) = if j < i then oldS (v (28 + j)) (n * pcj w v NL j) else v (28 + j)) ∧ (psP w v NL n i (36 + j) = if j < i then (if up v j then v (36 + j) + n * pcj w v NL j else v (36 + j)) else v (36 + j))
  | 0, _ => ⟨by rw [if_neg (by omega)]; rfl, by rw [if_neg (by omega)]; rfl⟩
  | i + 1, hi => by
    obtain ⟨a1, a2⟩ := psP_g n hj i (by omega)
    refine ⟨?_, ?_⟩
    · show xp (xp _ _ _) _ _ _ = _
      rw [xpn _ _ _ _ (by omega)]
      by_cases q : j = i
      · rw [q, xps, if_pos (show i < i + 1 by omega)]
      · rw [xpn _ _ _ _ (by omega), a1]
        by_cases q2 : j < i
        · rw [if_pos q2, if_pos (show j < i + 1 by omega)]
        · rw [if_neg q2, if_neg (by omega)]
    · show xp (xp _ _ _) _ _ _ = _
      by_cases q : j = i
      · rw [q, xps, if_pos (show i < i + 1 by omega)]
      · rw [xpn _ _ _ _ (by omega), xpn _ _ _ _ (by omega), a2]
        by_cases q2 : j < i
        · rw [if_pos q2, if_pos (show j < i + 1 by omega)]
        · rw [if_neg q2, if_neg (by omega)]
theorem hgt_ps (n : Int32) {i j : Nat} (hj : j < 8) : hgt (psP w v NL n i) j = hgt v j := by
  unfold hgt
  rw [psP_n n (by omega), psP_n n (by omega), psP_n n (by omega)]
theorem SC.ag {h : xH} (hs : SC h 13 G v) (hG : G ≤ 8) (j : Nat) (y : Int32) (hj : j < 8) (hn : (v 3).toNatClampNeg ≤ 8) : SC (xu h 15 j y) 13 G (xp v (28 + j) y) := by
  have e3 : ∀ t, t < 28 → xp v (28 + j) y t = v t := fun t ht => xpn _ _ _ _ (by omega)
  have e : ∀ a, ¬ a = 15 → xu h 15 j y a = h a := fun a ha => xun _ _ _ _ _ ha
  refine ⟨⟨?_, ?_, ?_, ?_⟩, fun i hi => ?_, fun i hi => ?_, fun i hi => ⟨?_, ?_, fun q => ?_⟩⟩
  · rw [e _ (by omega), e3 _ (by omega)]; exact hs.1.1
  · rw [e _ (by omega), e3 _ (by omega)]; exact hs.1.2.1
  · rw [e _ (by omega), e3 _ (by omega)]; exact hs.1.2.2.1
  · rw [e _ (by omega), e3 _ (by omega)]; exact hs.1.2.2.2
  · rw [e3 3 (by omega)] at hi
    rw [e _ (by omega), e3 _ (by omega)]; exact hs.q i hi
  · rw [e _ (by omega), e3 _ (by omega)]; exact hs.w i hi
  · show xu h 15 j y 15 i = _
    rw [xus]
    by_cases q : i = j
    · rw [q, xps, xps]
    · rw [xpn _ _ _ _ q, xpn _ _ _ _ (by omega)]; exact hs.a i hi
  · rw [e _ (by omega)]
    rw [xpn _ _ _ _ (by omega)]; exact hs.k i hi
  · rw [e3 _ (by omega)] at q
    rw [e _ (by omega), e3 _ (by omega)]; exact hs.s i hi q
theorem SC.wk {h : xH} (hs : SC h 13 G v) (hG : G ≤ 8) (j : Nat) (y : Int32) (hj : j < 8) (hn : (v 3).toNatClampNeg ≤ 8) : SC (xu h 16 j y) 13 G (xp v (36 + j) y) := by
  have e3 : ∀ t, t < 36 → xp v (36 + j) y t = v t := fun t ht => xpn _ _ _ _ (by omega)
  have e : ∀ a, ¬ a = 16 → xu h 16 j y a = h a := fun a ha => xun _ _ _ _ _ ha
  refine ⟨⟨?_, ?_, ?_, ?_⟩, fun i hi => ?_, fun i hi => ?_, fun i hi => ⟨?_, ?_, fun q => ?_⟩⟩
  · rw [e _ (by omega), e3 _ (by omega)]; exact hs.1.1
  · rw [e _ (by omega), e3 _ (by omega)]; exact hs.1.2.1
  · rw [e _ (by omega), e3 _ (by omega)]; exact hs.1.2.2.1
  · rw [e _ (by omega), e3 _ (by omega)]; exact hs.1.2.2.2
  · rw [e3 3 (by omega)] at hi
    rw [e _ (by omega), e3 _ (by omega)]; exact hs.q i hi
  · rw [e _ (by omega), e3 _ (by omega)]; exact hs.w i hi
  · rw [e _ (by omega), e3 _ (by omega)]; exact hs.a i hi
  · show xu h 16 j y 16 i = _
    rw [xus]
    by_cases q : i = j
    · rw [q, xps, xps]
    · rw [xpn _ _ _ _ q, xpn _ _ _ _ (by omega)]; exact hs.k i hi
  · rw [e3 _ (by omega)] at q
    rw [e _ (by omega), e3 _ (by omega)]; exact hs.s i hi q
theorem xp_id (v : Nat → Int32) (k : Nat) : xp v k (v k) = v := by
  funext t
  by_cases q : t = k
  · rw [q, xps]
  · rw [xpn _ _ _ _ q]
theorem c_pass (X : (Nat → Int32) × Nat) {h : xH} (hs : SC h 13 G v) (hV : SW w G v) (hW : PW NL G w) (hC : PC h (pl sw) NL G w) (n : Int32) : ∃ h' : xH, (∀ a, ¬ (13 ≤ a ∧ a < 19) → h' a = h a) ∧ SC h' 13 G (psV w v NL G n) ∧ ∀ Q : Option Value → xG → xH → Prop, EV X mX3_pass 0 0 0 [.ref 13, .int n, .ref (pl sw), .null, .null] [] (Gb sw) h Q = Q none (Gb sw) h' := by
  have hG := hW.2.1
  have hpl : 3 ≤ pl sw ∧ pl sw ≤ 8 := by cases sw <;> decide
  have hn8 : ∀ i, (psP w v NL n i 3).toNatClampNeg ≤ 8 := fun i => by rw [psP_n n (by omega)]; exact hV.n8
  have loop : ∀ (r i : Nat) (h1 : xH) (z : Value), i + r = G → (∀ a, ¬ (13 ≤ a ∧ a < 19) → h1 a = h a) → SC h1 13 G (psP w v NL n i) → ∃ h' : xH, (∀ a, ¬ (13 ≤ a ∧ a < 19) → h' a = h a) ∧ SC h' 13 G (psV w v NL G n) ∧ ∀ Q : Option Value → xG → xH → Prop, EV X mX3_pass 0 0 2 [.ref 13, .int n, .ref (pl sw), .int (nI i), z] [] (Gb sw) h1 Q = Q none (Gb sw) h' := by
    intro r
    induction r with
    | zero =>
      intro i h1 z hi f1 s1
      have hi : i = G := hi
      subst hi
      have e6 : h1 (pl sw) 6 = nI i := by rw [f1 _ (by omega)]; exact hC.1.2.2.2.2.2
      have e1 : h1 13 1 = v 1 := by rw [s1.1.2.1, psP_n n (by omega)]
      refine ⟨xu h1 13 1 (v 1 + n), fun a ha => by rw [xun _ _ _ _ _ (by omega), f1 a ha], s1.set0 1 (by omega) _, fun Q => ?_⟩
      rw [eX3_pass_2]
      simp only [eX3_pass_0, eX3_pass_1, eX3_pass_3, eX3_pass_4, eX3_pass_7, eX3_pass_10, eX3_pass_11, eX3_pass_12, eX3_pass_13, eX3_pass_14, eX3_pass_17, eX3_pass_20, eX3_pass_21, eX3_pass_23, eX3_pass_24, eX3_pass_27, eX3_pass_28, eX3_pass_29, eX3_pass_32, eX3_pass_33, eX3_pass_34, eX3_pass_36, eX3_pass_39, eX3_pass_40, eX3_pass_41, eX3_pass_42, eX3_pass_45, eX3_pass_48, eX3_pass_49, eX3_pass_52, eX3_pass_53, eX3_pass_54, eX3_pass_55, eX3_pass_57, eX3_pass_58, eX3_pass_59, eX3_pass_62, eX3_pass_65, eX3_pass_66, eX3_pass_67, eX3_pass_70, eX3_pass_71, eX3_pass_72, eX3_pass_75, Option.toList_some, Option.toList_none, List.cons_append, List.nil_append, is01_0, is01_1, true_and, pl_P, e6, e1]
      rw [if_pos (Int32.le_refl _)]
    | succ r ih =>
      intro i h1 z hi f1 s1
      have hi8 : i < 8 := by omega
      have hiG : i < G := by omega
      have e6 : h1 (pl sw) 6 = nI G := by rw [f1 _ (by omega)]; exact hC.1.2.2.2.2.2
      have hC1 : PC h1 (pl sw) NL G w := hC.mv (f1 _ (by omega)) (f1 _ (by omega)) (f1 _ (by omega)) (f1 _ (by omega))
      have ga : psP w v NL n i (28 + i) = v (28 + i) := by rw [(psP_g n hi8 i (by omega)).1, if_neg (by omega)]
      have gk : psP w v NL n i (36 + i) = v (36 + i) := by rw [(psP_g n hi8 i (by omega)).2, if_neg (by omega)]
      have gp : psP w v NL n i (12 + i) = v (12 + i) := psP_n n (by omega) i
      have s2 := s1.ag hG i (oldS (v (28 + i)) (n * pcj w v NL i)) hi8 (hn8 i)
      have s3 := s2.wk hG i (if up v i then v (36 + i) + n * pcj w v NL i else v (36 + i)) hi8 (by rw [xpn _ _ _ _ (by omega)]; exact hn8 i)
      have ea : h1 15 i = v (28 + i) := (s1.a i hiG).trans ga
      have ek : xu h1 15 i (oldS (v (28 + i)) (n * pcj w v NL i)) 16 i = v (36 + i) := by rw [xun _ _ _ _ _ (by omega)]; exact (s1.k i hiG).trans gk
      have ek' : xu h1 15 i (oldS (v (28 + i)) (n * pcj w v NL i)) 16 = h1 16 := xun _ _ _ _ _ (by omega)
      have eold : (if v (28 + i) + n * pcS w (hgt v i) NL < 99999999 then v (28 + i) + n * pcS w (hgt v i) NL else 99999999) = oldS (v (28 + i)) (n * pcj w v NL i) := rfl
      by_cases q : up v i
      · rw [if_pos q] at s3
        have s4 : SC (xu (xu h1 15 i (oldS (v (28 + i)) (n * pcj w v NL i))) 16 i (v (36 + i) + n * pcj w v NL i)) 13 G (psP w v NL n (i + 1)) := by
          show SC _ 13 G (xp (xp _ _ _) _ _)
          rw [if_pos q]
          exact s3
        obtain ⟨h', f2, s5, e5⟩ := ih (i + 1) _ (.int (n * pcj w v NL i)) (by omega) (fun a ha => by rw [xun _ _ _ _ _ (by omega), xun _ _ _ _ _ (by omega), f1 a ha]) s4
        refine ⟨h', f2, s5, fun Q => ?_⟩
        rw [← e5 Q]
        conv => lhs; rw [eX3_pass_2]
        have hup : (xp (psP w v NL n i) (28 + i) (oldS (v (28 + i)) (n * pcj w v NL i)) (12 + i) = 2 ∨ xp (psP w v NL n i) (28 + i) (oldS (v (28 + i)) (n * pcj w v NL i)) (12 + i) = 3) = True := by
          rw [xpn _ _ _ _ (by omega), gp]; exact eq_true q
        simp only [eX3_pass_0, eX3_pass_1, eX3_pass_3, eX3_pass_4, eX3_pass_7, eX3_pass_10, eX3_pass_11, eX3_pass_12, eX3_pass_13, eX3_pass_14, eX3_pass_17, eX3_pass_20, eX3_pass_21, eX3_pass_23, eX3_pass_24, eX3_pass_27, eX3_pass_28, eX3_pass_29, eX3_pass_32, eX3_pass_33, eX3_pass_34, eX3_pass_36, eX3_pass_39, eX3_pass_40, eX3_pass_41, eX3_pass_42, eX3_pass_45, eX3_pass_48, eX3_pass_49, eX3_pass_52, eX3_pass_53, eX3_pass_54, eX3_pass_55, eX3_pass_57, eX3_pass_58, eX3_pass_59, eX3_pass_62, eX3_pass_65, eX3_pass_66, eX3_pass_67, eX3_pass_70, eX3_pass_71, eX3_pass_72, eX3_pass_75, Option.toList_some, Option.toList_none, List.cons_append, List.nil_append, is01_0, is01_1, true_and, pl_P, e6, c_heightOf s1 hG hiG, hgt_ps n hi8, r_paceAt (pl_P sw) hW.1 hC1, r_older, cl8 hi8, inb8 hi8 (Nat.le_refl 8), ea, eold, c_isUp s2 hi8, hup, b01_0, not_true, if_false, ek, nI_1]
        rw [if_neg (nI_ge (by omega) (by omega))]
        rfl
      · rw [if_neg q] at s3
        have s4 : SC (xu h1 15 i (oldS (v (28 + i)) (n * pcj w v NL i))) 13 G (psP w v NL n (i + 1)) := by
          show SC _ 13 G (xp (xp _ _ _) _ _)
          rw [if_neg q]
          have : xp (xp (psP w v NL n i) (28 + i) (oldS (v (28 + i)) (n * pcj w v NL i))) (36 + i) (v (36 + i)) = xp (psP w v NL n i) (28 + i) (oldS (v (28 + i)) (n * pcj w v NL i)) := by
            have e := xp_id (xp (psP w v NL n i) (28 + i) (oldS (v (28 + i)) (n * pcj w v NL i))) (36 + i)
            rw [xpn _ _ _ _ (by omega), gk] at e
            exact e
          rw [this]
          exact s2
        obtain ⟨h', f2, s5, e5⟩ := ih (i + 1) _ (.int (n * pcj w v NL i)) (by omega) (fun a ha => by rw [xun _ _ _ _ _ (by omega), f1 a ha]) s4
        refine ⟨h', f2, s5, fun Q => ?_⟩
        rw [← e5 Q]
        conv => lhs; rw [eX3_pass_2]
        have hup : (xp (psP w v NL n i) (28 + i) (oldS (v (28 + i)) (n * pcj w v NL i)) (12 + i) = 2 ∨ xp (psP w v NL n i) (28 + i) (oldS (v (28 + i)) (n * pcj w v NL i)) (12 + i) = 3) = False := by
          rw [xpn _ _ _ _ (by omega), gp]; exact eq_false q
        simp only [eX3_pass_0, eX3_pass_1, eX3_pass_3, eX3_pass_4, eX3_pass_7, eX3_pass_10, eX3_pass_11, eX3_pass_12, eX3_pass_13, eX3_pass_14, eX3_pass_17, eX3_pass_20, eX3_pass_21, eX3_pass_23, eX3_pass_24, eX3_pass_27, eX3_pass_28, eX3_pass_29, eX3_pass_32, eX3_pass_33, eX3_pass_34, eX3_pass_36, eX3_pass_39, eX3_pass_40, eX3_pass_41, eX3_pass_42, eX3_pass_45, eX3_pass_48, eX3_pass_49, eX3_pass_52, eX3_pass_53, eX3_pass_54, eX3_pass_55, eX3_pass_57, eX3_pass_58, eX3_pass_59, eX3_pass_62, eX3_pass_65, eX3_pass_66, eX3_pass_67, eX3_pass_70, eX3_pass_71, eX3_pass_72, eX3_pass_75, Option.toList_some, Option.toList_none, List.cons_append, List.nil_append, is01_0, is01_1, true_and, pl_P, e6, c_heightOf s1 hG hiG, hgt_ps n hi8, r_paceAt (pl_P sw) hW.1 hC1, r_older, cl8 hi8, inb8 hi8 (Nat.le_refl 8), ea, eold, c_isUp s2 hi8, hup, b01_0, not_false_iff, if_true, nI_1]
        rw [if_neg (nI_ge (by omega) (by omega))]
        rfl
  obtain ⟨h', f1, s1, e1⟩ := loop G 0 h .null (by omega) (fun _ _ => rfl) hs
  refine ⟨h', f1, s1, fun Q => ?_⟩
  rw [← e1 Q]
  simp only [eX3_pass_0, eX3_pass_1, eX3_pass_3, eX3_pass_4, eX3_pass_7, eX3_pass_10, eX3_pass_11, eX3_pass_12, eX3_pass_13, eX3_pass_14, eX3_pass_17, eX3_pass_20, eX3_pass_21, eX3_pass_23, eX3_pass_24, eX3_pass_27, eX3_pass_28, eX3_pass_29, eX3_pass_32, eX3_pass_33, eX3_pass_34, eX3_pass_36, eX3_pass_39, eX3_pass_40, eX3_pass_41, eX3_pass_42, eX3_pass_45, eX3_pass_48, eX3_pass_49, eX3_pass_52, eX3_pass_53, eX3_pass_54, eX3_pass_55, eX3_pass_57, eX3_pass_58, eX3_pass_59, eX3_pass_62, eX3_pass_65, eX3_pass_66, eX3_pass_67, eX3_pass_70, eX3_pass_71, eX3_pass_72, eX3_pass_75, Option.toList_some, Option.toList_none, List.cons_append, List.nil_append, is01_0, is01_1, true_and]
  rfl
theorem m_paceOf2 {h : xH} {Q : Option Value → xG → xH → Prop} (hs : SM h 145 0 G v) (hW : PW NL G w) (hM : PM h NL G w) {j : Nat} (hj : j < G) (hp : v (12 + j) = 0 ∨ v (12 + j) = 1 ∨ v (12 + j) = 2 ∨ v (12 + j) = 3) : EV X mX6_paceOf 0 0 0 [.ref 140, .int (nI j)] [] (Gb sw) h Q = Q (some (.int (pcj w v NL j))) (Gb sw) h := by
  have hj8 : j < 8 := by have := hW.2.1; omega
  simp only [eX6_paceOf_0, eX6_paceOf_1, eX6_paceOf_2, eX6_paceOf_5, eX6_paceOf_8, eX6_paceOf_9, eX6_paceOf_10, eX6_paceOf_11, eX6_paceOf_14, eX6_paceOf_17, eX6_paceOf_20, eX6_paceOf_21, Option.toList_some, Option.toList_none, List.cons_append, List.nil_append, is01_0, is01_1, true_and, r_misUp hj8, b01_0, m_heightOf hs hW.2.1 hj, r_speedAt hW.1 hM, hs.w j hj, Decidable.not_not]
  unfold pcj
  by_cases q : v (12 + j) < 2
  · rw [if_pos q]
    have : hgt v j = 0 := by
      unfold hgt
      rcases hp with z | z | z | z <;> rw [z] at q ⊢ <;> first | (exact absurd q (by decide)) | (rw [if_neg (by decide), if_neg (by decide)])
    rw [this, pcS_low hW NL (Nat.le_refl _)]
  · rw [if_neg q]
theorem m_olderBy2 {h : xH} {Q : Option Value → xG → xH → Prop} (hs : SM h 145 0 G v) (hW : PW NL G w) (hM : PM h NL G w) {j : Nat} (hj : j < G) (hp : v (12 + j) = 0 ∨ v (12 + j) = 1 ∨ v (12 + j) = 2 ∨ v (12 + j) = 3) (ha : 0 ≤ (v (28 + j)).toInt ∧ (v (28 + j)).toInt ≤ 99999999) (n : Int32) (h3 : 0 ≤ n.toInt) (h4 : n.toInt ≤ 5000) : EV X mX6_olderBy 0 0 0 [.ref 140, .int (nI j), .int n, .null, .null] [] (Gb sw) h Q = Q (some (.int (oldS (v (28 + j)) (n * pcj w v NL j)))) (Gb sw) h := by
  have hj8 : j < 8 := by have := hW.2.1; omega
  simp only [eX6_olderBy_0, eX6_olderBy_1, eX6_olderBy_4, eX6_olderBy_6, eX6_olderBy_7, eX6_olderBy_8, eX6_olderBy_9, eX6_olderBy_10, eX6_olderBy_11, eX6_olderBy_12, eX6_olderBy_13, eX6_olderBy_14, eX6_olderBy_17, eX6_olderBy_18, eX6_olderBy_19, eX6_olderBy_20, eX6_olderBy_21, eX6_olderBy_22, eX6_olderBy_25, eX6_olderBy_26, eX6_olderBy_29, eX6_olderBy_30, eX6_olderBy_33, eX6_olderBy_36, eX6_olderBy_37, Option.toList_some, Option.toList_none, List.cons_append, List.nil_append, is01_0, is01_1, true_and, la4, la12, la20, la28, la36, cl8_4 hj8, cl8_12 hj8, cl8_20 hj8, cl8_28 hj8, cl8_36 hj8, ib8_4 hj8, ib8_12 hj8, ib8_20 hj8, ib8_28 hj8, ib8_36 hj8, m_paceOf2 hs hW hM hj hp, hs.a j hj, lg0, lg1, lg0', lg1']
  have hp := pcS_rng hW (hgt v j) NL (Nat.le_refl _)
  obtain ⟨e1, e2, e3, e4⟩ := old64 (v (28 + j)) n (pcj w v NL j) ha.1 ha.2 h3 h4 hp.1 hp.2
  unfold oldS
  have e9 : ((99999999 : Int64)).toInt = 99999999 := by decide
  have e8 : ((99999999 : Int32)).toInt = 99999999 := by decide
  by_cases q : v (28 + j) + n * pcj w v NL j < 99999999
  · have q2 : ¬ (99999999 : Int64) ≤ (v (28 + j)).toInt64 + n.toInt64 * (pcj w v NL j).toInt64 := by
      rw [fa_lt, e1, e8] at q
      rw [fa_le64, e2, e9]
      omega
    rw [if_neg q2, if_pos q]
    congr 3
    apply Int32.toInt_inj.mp
    rw [e1, Int64.toInt_toInt32, e2]
    apply Int.bmod_eq_of_le <;> omega
  · have q2 : (99999999 : Int64) ≤ (v (28 + j)).toInt64 + n.toInt64 * (pcj w v NL j).toInt64 := by
      rw [fa_lt, e1, e8] at q
      rw [fa_le64, e2, e9]
      omega
    rw [if_pos q2, if_neg q]
    rfl
theorem m_pass (X : (Nat → Int32) × Nat) (sw : Bool) {h : xH} (hs : SM h 145 0 G v) (hV : SW w G v) (hW : PW NL G w) (hM : PM h NL G w) (n : Int32) (h3 : 0 ≤ n.toInt) (h4 : n.toInt ≤ 5000) : ∃ h' : xH, (∀ a, ¬ a = 145 → h' a = h a) ∧ SM h' 145 0 G (psV w v NL G n) ∧ ∀ Q : Option Value → xG → xH → Prop, EV X mX6_pass 0 0 0 [.ref 140, .int n, .null] [] (Gb sw) h Q = Q none (Gb sw) h' := by
  have hG := hW.2.1
  have mp : ∀ h1 : xH, (∀ a, ¬ a = 145 → h1 a = h a) → PM h1 NL G w := fun h1 f => by
    refine hM.mv ?_ ?_ ?_ ?_ ?_ ?_ ?_ ?_ <;> rw [f _ (by omega)]
  have loop : ∀ (r i : Nat) (h1 : xH), i + r = G → (∀ a, ¬ a = 145 → h1 a = h a) → SM h1 145 0 G (psP w v NL n i) → ∃ h' : xH, (∀ a, ¬ a = 145 → h' a = h a) ∧ SM h' 145 0 G (psV w v NL G n) ∧ ∀ Q : Option Value → xG → xH → Prop, EV X mX6_pass 0 0 2 [.ref 140, .int n, .int (nI i)] [] (Gb sw) h1 Q = Q none (Gb sw) h' := by
    intro r
    induction r with
    | zero =>
      intro i h1 hi f1 s1
      have hi : i = G := hi
      subst hi
      have hM1 := mp h1 f1
      have e1 : h1 145 1 = v 1 := by rw [s1.f.2.1, psP_n n (by omega)]
      refine ⟨xu h1 145 1 (v 1 + n), fun a ha => by rw [xun _ _ _ _ _ ha, f1 a ha], s1.set 1 _ (by omega) (fun j hj z _ => by omega), fun Q => ?_⟩
      rw [eX6_pass_2]
      simp only [eX6_pass_0, eX6_pass_1, eX6_pass_3, eX6_pass_4, eX6_pass_7, eX6_pass_10, eX6_pass_11, eX6_pass_14, eX6_pass_16, eX6_pass_17, eX6_pass_18, eX6_pass_19, eX6_pass_20, eX6_pass_21, eX6_pass_24, eX6_pass_25, eX6_pass_26, eX6_pass_29, eX6_pass_31, eX6_pass_32, eX6_pass_33, eX6_pass_34, eX6_pass_35, eX6_pass_36, eX6_pass_37, eX6_pass_40, eX6_pass_43, eX6_pass_44, eX6_pass_45, eX6_pass_46, eX6_pass_49, eX6_pass_50, eX6_pass_53, eX6_pass_54, eX6_pass_55, eX6_pass_56, eX6_pass_59, eX6_pass_62, eX6_pass_63, eX6_pass_66, eX6_pass_67, eX6_pass_68, eX6_pass_69, eX6_pass_70, eX6_pass_71, eX6_pass_72, Option.toList_some, Option.toList_none, List.cons_append, List.nil_append, is01_0, is01_1, true_and, hM1.1, e1, tc1, ib1]
      rw [if_pos (Int32.le_refl _)]
    | succ r ih =>
      intro i h1 hi f1 s1
      have hi8 : i < 8 := by omega
      have hiG : i < G := by omega
      have hM1 := mp h1 f1
      have ga : psP w v NL n i (28 + i) = v (28 + i) := by rw [(psP_g n hi8 i (by omega)).1, if_neg (by omega)]
      have gk : psP w v NL n i (36 + i) = v (36 + i) := by rw [(psP_g n hi8 i (by omega)).2, if_neg (by omega)]
      have gp : psP w v NL n i (12 + i) = v (12 + i) := psP_n n (by omega) i
      have hpr := hV.2.1 i hi8
      have hag := hV.2.2.2.1 i hiG
      have gpc : pcj w (psP w v NL n i) NL i = pcj w v NL i := by unfold pcj; rw [hgt_ps n hi8]
      have s2 := s1.set (28 + i) (oldS (v (28 + i)) (n * pcj w v NL i)) (by omega) (fun j hj z _ => by omega)
      have s3 := s2.set (36 + i) (if up v i then v (36 + i) + n * pcj w v NL i else v (36 + i)) (by omega) (fun j hj z _ => by omega)
      obtain ⟨h', f2, s5, e5⟩ := ih (i + 1) _ (by omega) (fun a ha => by rw [xun _ _ _ _ _ ha, xun _ _ _ _ _ ha, f1 a ha]) s3
      refine ⟨h', f2, s5, fun Q => ?_⟩
      rw [← e5 Q]
      have e1 : ∀ Q : Option Value → xG → xH → Prop, EV X mX6_olderBy 0 0 0 [.ref 140, .int (nI i), .int n, .null, .null] [] (Gb sw) h1 Q = Q (some (.int (oldS (v (28 + i)) (n * pcj w v NL i)))) (Gb sw) h1 := fun Q => by
        rw [m_olderBy2 s1 hW hM1 hiG (by rw [gp]; exact hpr) (by rw [ga]; exact ⟨hag.1, hag.2.1⟩) n h3 h4, ga, gpc]
      have hM2 : PM (xu h1 145 (28 + i) (oldS (v (28 + i)) (n * pcj w v NL i))) NL G w := mp _ (fun a ha => by rw [xun _ _ _ _ _ ha, f1 a ha])
      have gpc2 : pcj w (xp (psP w v NL n i) (28 + i) (oldS (v (28 + i)) (n * pcj w v NL i))) NL i = pcj w v NL i := by
        rw [← gpc]
        unfold pcj hgt
        rw [xpn _ _ _ _ (by omega), xpn _ _ _ _ (by omega), xpn _ _ _ _ (by omega)]
      have e2 : ∀ Q : Option Value → xG → xH → Prop, EV X mX6_paceOf 0 0 0 [.ref 140, .int (nI i)] [] (Gb sw) (xu h1 145 (28 + i) (oldS (v (28 + i)) (n * pcj w v NL i))) Q = Q (some (.int (pcj w v NL i))) (Gb sw) (xu h1 145 (28 + i) (oldS (v (28 + i)) (n * pcj w v NL i))) := fun Q => by
        rw [m_paceOf2 s2 hW hM2 hiG (by rw [xpn _ _ _ _ (by omega), gp]; exact hpr), gpc2]
      have ew : xu h1 145 (28 + i) (oldS (v (28 + i)) (n * pcj w v NL i)) 145 (12 + i) = v (12 + i) := by rw [xus, xpn _ _ _ _ (by omega), ← gp]; exact s1.w i hiG
      have ek : xu h1 145 (28 + i) (oldS (v (28 + i)) (n * pcj w v NL i)) 145 (36 + i) = v (36 + i) := by rw [xus, xpn _ _ _ _ (by omega), ← gk]; exact s1.k i hiG
      conv => lhs; rw [eX6_pass_2]
      by_cases q : up v i
      · simp only [eX6_pass_0, eX6_pass_1, eX6_pass_3, eX6_pass_4, eX6_pass_7, eX6_pass_10, eX6_pass_11, eX6_pass_14, eX6_pass_16, eX6_pass_17, eX6_pass_18, eX6_pass_19, eX6_pass_20, eX6_pass_21, eX6_pass_24, eX6_pass_25, eX6_pass_26, eX6_pass_29, eX6_pass_31, eX6_pass_32, eX6_pass_33, eX6_pass_34, eX6_pass_35, eX6_pass_36, eX6_pass_37, eX6_pass_40, eX6_pass_43, eX6_pass_44, eX6_pass_45, eX6_pass_46, eX6_pass_49, eX6_pass_50, eX6_pass_53, eX6_pass_54, eX6_pass_55, eX6_pass_56, eX6_pass_59, eX6_pass_62, eX6_pass_63, eX6_pass_66, eX6_pass_67, eX6_pass_68, eX6_pass_69, eX6_pass_70, eX6_pass_71, eX6_pass_72, Option.toList_some, Option.toList_none, List.cons_append, List.nil_append, is01_0, is01_1, true_and, hM1.1, e1, la4, la12, la20, la28, la36, cl8_4 hi8, cl8_12 hi8, cl8_20 hi8, cl8_28 hi8, cl8_36 hi8, ib8_4 hi8, ib8_12 hi8, ib8_20 hi8, ib8_28 hi8, ib8_36 hi8, r_misUp hi8, ew, up_iff hV hi8, q, b01_0, not_true, if_false, if_true, ek, e2, nI_1]
        rw [if_neg (nI_ge (by omega) (by omega))]
      · simp only [eX6_pass_0, eX6_pass_1, eX6_pass_3, eX6_pass_4, eX6_pass_7, eX6_pass_10, eX6_pass_11, eX6_pass_14, eX6_pass_16, eX6_pass_17, eX6_pass_18, eX6_pass_19, eX6_pass_20, eX6_pass_21, eX6_pass_24, eX6_pass_25, eX6_pass_26, eX6_pass_29, eX6_pass_31, eX6_pass_32, eX6_pass_33, eX6_pass_34, eX6_pass_35, eX6_pass_36, eX6_pass_37, eX6_pass_40, eX6_pass_43, eX6_pass_44, eX6_pass_45, eX6_pass_46, eX6_pass_49, eX6_pass_50, eX6_pass_53, eX6_pass_54, eX6_pass_55, eX6_pass_56, eX6_pass_59, eX6_pass_62, eX6_pass_63, eX6_pass_66, eX6_pass_67, eX6_pass_68, eX6_pass_69, eX6_pass_70, eX6_pass_71, eX6_pass_72, Option.toList_some, Option.toList_none, List.cons_append, List.nil_append, is01_0, is01_1, true_and, hM1.1, e1, la4, la12, la20, la28, la36, cl8_4 hi8, cl8_12 hi8, cl8_20 hi8, cl8_28 hi8, cl8_36 hi8, ib8_4 hi8, ib8_12 hi8, ib8_20 hi8, ib8_28 hi8, ib8_36 hi8, r_misUp hi8, ew, up_iff hV hi8, q, b01_0, not_false_iff, if_true, if_false, ek, e2, nI_1, Int32.add_zero]
        rw [if_neg (nI_ge (by omega) (by omega))]
  obtain ⟨h', f1, s1, e1⟩ := loop G 0 h (by omega) (fun _ _ => rfl) hs
  refine ⟨h', f1, s1, fun Q => ?_⟩
  rw [← e1 Q]
  simp only [eX6_pass_0, eX6_pass_1, eX6_pass_3, eX6_pass_4, eX6_pass_7, eX6_pass_10, eX6_pass_11, eX6_pass_14, eX6_pass_16, eX6_pass_17, eX6_pass_18, eX6_pass_19, eX6_pass_20, eX6_pass_21, eX6_pass_24, eX6_pass_25, eX6_pass_26, eX6_pass_29, eX6_pass_31, eX6_pass_32, eX6_pass_33, eX6_pass_34, eX6_pass_35, eX6_pass_36, eX6_pass_37, eX6_pass_40, eX6_pass_43, eX6_pass_44, eX6_pass_45, eX6_pass_46, eX6_pass_49, eX6_pass_50, eX6_pass_53, eX6_pass_54, eX6_pass_55, eX6_pass_56, eX6_pass_59, eX6_pass_62, eX6_pass_63, eX6_pass_66, eX6_pass_67, eX6_pass_68, eX6_pass_69, eX6_pass_70, eX6_pass_71, eX6_pass_72, Option.toList_some, Option.toList_none, List.cons_append, List.nil_append, is01_0, is01_1, true_and]
  rfl
theorem SW.ps (hV : SW w G v) (hW : PW NL G w) (n : Int32) (h3 : 0 ≤ n.toInt) (h4 : n.toInt ≤ 5000) (h5 : (v 1).toInt + n.toInt ≤ 100499) : SW w G (psV w v NL G n) := by
  have hG := hW.2.1
  have e : ∀ t, ¬ t = 1 → t < 28 → psV w v NL G n t = v t := fun t q1 q2 => by unfold psV; rw [xpn _ _ _ _ q1]; exact psP_n n q2 G
  have e1 : psV w v NL G n 1 = v 1 + n := by unfold psV; rw [xps]
  have hh := hV.2.2.2.2.1
  have e1i : (v 1 + n).toInt = (v 1).toInt + n.toInt := fb_addI (by omega) (by omega)
  obtain ⟨⟨n', n1, n2, n3, n4, n5⟩, a1, a2, a3, a4, a5, a6, a7⟩ := hV
  refine ⟨⟨n', n1, by rw [e 3 (by omega) (by omega)]; exact n2, fun k hk => ?_, fun k k' hk hk' => ?_, fun q hq => ?_⟩, fun i hi => ?_, fun i q1 q2 => ?_, fun i hi => ?_, ?_, ?_, ?_, ?_⟩
  · obtain ⟨q, q1, q2, q3⟩ := n3 k hk
    exact ⟨q, q1, by rw [e _ (by omega) (by omega)]; exact q2, by rw [e _ (by omega) (by omega)]; exact q3⟩
  · rw [e _ (by omega) (by omega), e _ (by omega) (by omega)]; exact n4 k k' hk hk'
  · rw [e _ (by omega) (by omega)]
    intro z
    obtain ⟨k, k1, k2⟩ := n5 q hq z
    exact ⟨k, k1, by rw [e _ (by omega) (by omega)]; exact k2⟩
  · rw [e _ (by omega) (by omega)]; exact a1 i hi
  · rw [e _ (by omega) (by omega)]; exact a2 i q1 q2
  · have hi8 : i < 8 := by omega
    obtain ⟨b1, b2, b3, b4⟩ := a3 i hi
    have hp := pcS_rng hW (hgt v i) NL (Nat.le_refl _)
    obtain ⟨c1, -, c3, c4⟩ := old64 (v (28 + i)) n (pcj w v NL i) b1 b2 h3 h4 hp.1 hp.2
    have hmul : (n * pcj w v NL i).toInt = n.toInt * (pcj w v NL i).toInt := fb_mulI (by omega) (by omega)
    have hle : n.toInt * (pcj w v NL i).toInt ≤ n.toInt * 60 := Int.mul_le_mul_of_nonneg_left hp.2 h3
    have ga : psV w v NL G n (28 + i) = oldS (v (28 + i)) (n * pcj w v NL i) := by
      unfold psV
      rw [xpn _ _ _ _ (by omega), (psP_g n hi8 G hG).1, if_pos hi]
    have gk : psV w v NL G n (36 + i) = if up v i then v (36 + i) + n * pcj w v NL i else v (36 + i) := by
      unfold psV
      rw [xpn _ _ _ _ (by omega), (psP_g n hi8 G hG).2, if_pos hi]
    rw [ga, gk, e1, e1i]
    have e8 : ((99999999 : Int32)).toInt = 99999999 := by decide
    refine ⟨?_, ?_, ?_, ?_⟩
    · unfold oldS
      split
      · rw [c1]; omega
      · rw [e8]; omega
    · unfold oldS
      split
      · rename_i q
        rw [fa_lt, e8] at q
        omega
      · rw [e8]; omega
    · split
      · rw [fb_addI (by rw [hmul]; omega) (by rw [hmul]; omega), hmul]; omega
      · exact b3
    · split
      · rw [fb_addI (by rw [hmul]; omega) (by rw [hmul]; omega), hmul]; omega
      · omega
  · rw [e1, e1i]; omega
  · rw [e _ (by omega) (by omega)]; exact a5
  · rw [e _ (by omega) (by omega)]; exact a6
  · have : fb_ct (fun j => decide (psV w v NL G n (12 + j) = 2)) 8 = fb_ct (fun j => decide (v (12 + j) = 2)) 8 := fb_ct_cong (fun k hk => by rw [e _ (by omega) (by omega)])
    rw [this]; exact a7
theorem c_refuse {h : xH} {Q : Option Value → xG → xH → Prop} (hC : PC h (pl sw) NL G w) (hs : SC h 13 G v) (n m : Int32) : EV X mX5_refusalOfHours 0 0 0 [.ref 0, .int n, .int m] [] (Gb sw) h Q = Q (some (.int (if 1 ≤ n ∧ n ≤ m then (if w 0 = 0 then -1000000003 else if v 1 ≤ 99999 then 0 else -1000000004) else -1000000002))) (Gb sw) h := by
  simp only [eX5_refusalOfHours_0, eX5_refusalOfHours_1, eX5_refusalOfHours_2, eX5_refusalOfHours_3, eX5_refusalOfHours_6, eX5_refusalOfHours_9, eX5_refusalOfHours_11, eX5_refusalOfHours_12, eX5_refusalOfHours_13, eX5_refusalOfHours_16, eX5_refusalOfHours_19, eX5_refusalOfHours_22, eX5_refusalOfHours_24, eX5_refusalOfHours_25, eX5_refusalOfHours_26, eX5_refusalOfHours_29, eX5_refusalOfHours_32, eX5_refusalOfHours_35, eX5_refusalOfHours_38, eX5_refusalOfHours_40, eX5_refusalOfHours_43, eX5_refusalOfHours_44, Option.toList_some, Option.toList_none, List.cons_append, List.nil_append, is01_0, is01_1, true_and, r_isOutside, b01_0, out_in, pl_P, hC.1, hs.1]
  by_cases c : 1 ≤ n ∧ n ≤ m
  · by_cases c1 : w 0 = 0
    · simp only [c, c1, and_self, not_true, not_false_iff, if_true, if_false]
    · by_cases c2 : v 1 ≤ 99999 <;> simp only [c, c1, c2, and_self, not_true, not_false_iff, if_true, if_false]
  · simp only [c, not_true, not_false_iff, if_true, if_false]
theorem p_hour (n : Int32) : OpK X mX5_hour mX6_hour [.ref 0, .int n, .null] [.ref 140, .int n] := OpK.two fun sw h NL G w v H => by
  obtain ⟨n1, n2, n3, n4, n5, n6⟩ := id H.1
  have k1 : ¬ (-1000000002 : Int32) = 0 := by decide
  have k2 : ¬ (-1000000003 : Int32) = 0 := by decide
  have k3 : ¬ (-1000000004 : Int32) = 0 := by decide
  by_cases c : 1 ≤ n ∧ n ≤ 500
  · by_cases c1 : w 0 = 0
    · refine OpK.same H ?_
      unfold Both
      simp only [eX5_hour_0, eX5_hour_1, eX5_hour_2, eX5_hour_5, eX5_hour_8, eX5_hour_9, eX5_hour_10, eX5_hour_13, eX5_hour_14, eX5_hour_15, eX5_hour_16, eX5_hour_19, eX5_hour_20, eX5_hour_23, eX5_hour_26, eX5_hour_27, eX5_hour_30, eX5_hour_31, eX5_hour_32, eX5_hour_35, eX5_hour_38, eX5_hour_39, eX5_hour_42, eX5_hour_45, eX6_hour_0, eX6_hour_1, eX6_hour_2, eX6_hour_3, eX6_hour_6, eX6_hour_9, eX6_hour_12, eX6_hour_14, eX6_hour_15, eX6_hour_16, eX6_hour_19, eX6_hour_22, eX6_hour_24, eX6_hour_25, eX6_hour_26, eX6_hour_29, eX6_hour_30, eX6_hour_31, eX6_hour_34, eX6_hour_37, eX6_hour_39, eX6_hour_40, eX6_hour_41, eX6_hour_44, eX6_hour_45, eX6_hour_46, eX6_hour_49, eX6_hour_50, eX6_hour_53, eX6_hour_54, eX6_hour_55, Option.toList_some, Option.toList_none, List.cons_append, List.nil_append, is01_0, is01_1, true_and, c_refuse n3 n5, r_in, b01_0, wl_0, wr_0, wl_1, wr_1, wl_2, wr_2, wl_3, wr_3, wl_20, wr_20, wl_48, wr_48, wl_57, wr_57, wl_60, wr_60, wl_100, wr_100, wl_255, wr_255, wl_500, wr_500, wl_900, wr_900, wl_999, wr_999, wl_12345, wr_12345, wl_999999, wr_999999, wl_99999999, wr_99999999, wl_1000000000, wr_1000000000, wl_1103515245, wr_1103515245, n4.1, c, c1, k2, and_self, not_true, not_false_iff, if_true, if_false]
      first | exact ⟨_, fun _ => rfl, fun _ => rfl⟩ | exact ⟨_, fun _ => rfl⟩
    · by_cases c2 : v 1 ≤ 99999
      · obtain ⟨r3, r4⟩ := rg c (m := 1) (n := 500) rfl rfl
        have hh : (v 1).toInt + n.toInt ≤ 100499 := by
          rw [fa_le] at c2
          have : (99999 : Int32).toInt = 99999 := rfl
          omega
        obtain ⟨hp, hN, z0, z140, e1, K⟩ := act X H
        obtain ⟨m1, m2, m3, m4, m5, m6⟩ := id hN
        obtain ⟨h1, g1, hs', kk1⟩ := c_pass X m5 m2 m1 m3 n
        obtain ⟨hr, hM, hm, r0, r140, e2, K2⟩ := K h1 (fun a q1 q2 => g1 a q1)
        obtain ⟨h2, g2, hm', kk2⟩ := m_pass X sw hm m2 m1 hM n (by omega) (by omega)
        have e11 : psV w v NL G n 1 = v 1 + n := by unfold psV; rw [xps]
        refine ⟨v 1 + n, h1, h2, fun Q => ?_, fun Q => ?_, NL, G, w, _, K2 _ _ (fun a q1 q2 => g2 a q1) (fun k _ => by rw [g2 140 (by omega)]) (n2.ps n1 n (by omega) (by omega) hh) hs' hm' ?_⟩
        · simp only [eX5_hour_0, eX5_hour_1, eX5_hour_2, eX5_hour_5, eX5_hour_8, eX5_hour_9, eX5_hour_10, eX5_hour_13, eX5_hour_14, eX5_hour_15, eX5_hour_16, eX5_hour_19, eX5_hour_20, eX5_hour_23, eX5_hour_26, eX5_hour_27, eX5_hour_30, eX5_hour_31, eX5_hour_32, eX5_hour_35, eX5_hour_38, eX5_hour_39, eX5_hour_42, eX5_hour_45, Option.toList_some, Option.toList_none, List.cons_append, List.nil_append, is01_0, is01_1, true_and, c_refuse n3 n5, c, c1, c2, and_self, not_true, not_false_iff, if_true, if_false, e1, kk1, hs'.1, e11]
        · have p1 : PM h1 NL G w := by
            refine m4.mv ?_ ?_ ?_ ?_ ?_ ?_ ?_ ?_ <;> rw [g1 _ (by omega)]
          have p2 : SM h1 145 0 G v := m6.mv (g1 _ (by omega))
          simp only [eX6_hour_0, eX6_hour_1, eX6_hour_2, eX6_hour_3, eX6_hour_6, eX6_hour_9, eX6_hour_12, eX6_hour_14, eX6_hour_15, eX6_hour_16, eX6_hour_19, eX6_hour_22, eX6_hour_24, eX6_hour_25, eX6_hour_26, eX6_hour_29, eX6_hour_30, eX6_hour_31, eX6_hour_34, eX6_hour_37, eX6_hour_39, eX6_hour_40, eX6_hour_41, eX6_hour_44, eX6_hour_45, eX6_hour_46, eX6_hour_49, eX6_hour_50, eX6_hour_53, eX6_hour_54, eX6_hour_55, Option.toList_some, Option.toList_none, List.cons_append, List.nil_append, is01_0, is01_1, true_and, r_in, b01_0, wl_0, wr_0, wl_1, wr_1, wl_2, wr_2, wl_3, wr_3, wl_20, wr_20, wl_48, wr_48, wl_57, wr_57, wl_60, wr_60, wl_100, wr_100, wl_255, wr_255, wl_500, wr_500, wl_900, wr_900, wl_999, wr_999, wl_12345, wr_12345, wl_999999, wr_999999, wl_99999999, wr_99999999, wl_1000000000, wr_1000000000, wl_1103515245, wr_1103515245, p1.1, p2.f, tc1, ib1, c, c1, c2, and_self, not_true, not_false_iff, if_true, if_false, e2, kk2, hm'.f, e11]
        · refine SDr.mv H.2.2.2.2.2.2.2.2 ?_ ?_
          · rw [g2 0 (by omega), r0, g1 0 (by omega), z0]
          · rw [g2 140 (by omega), r140]
      · refine OpK.same H ?_
        unfold Both
        simp only [eX5_hour_0, eX5_hour_1, eX5_hour_2, eX5_hour_5, eX5_hour_8, eX5_hour_9, eX5_hour_10, eX5_hour_13, eX5_hour_14, eX5_hour_15, eX5_hour_16, eX5_hour_19, eX5_hour_20, eX5_hour_23, eX5_hour_26, eX5_hour_27, eX5_hour_30, eX5_hour_31, eX5_hour_32, eX5_hour_35, eX5_hour_38, eX5_hour_39, eX5_hour_42, eX5_hour_45, eX6_hour_0, eX6_hour_1, eX6_hour_2, eX6_hour_3, eX6_hour_6, eX6_hour_9, eX6_hour_12, eX6_hour_14, eX6_hour_15, eX6_hour_16, eX6_hour_19, eX6_hour_22, eX6_hour_24, eX6_hour_25, eX6_hour_26, eX6_hour_29, eX6_hour_30, eX6_hour_31, eX6_hour_34, eX6_hour_37, eX6_hour_39, eX6_hour_40, eX6_hour_41, eX6_hour_44, eX6_hour_45, eX6_hour_46, eX6_hour_49, eX6_hour_50, eX6_hour_53, eX6_hour_54, eX6_hour_55, Option.toList_some, Option.toList_none, List.cons_append, List.nil_append, is01_0, is01_1, true_and, c_refuse n3 n5, r_in, b01_0, wl_0, wr_0, wl_1, wr_1, wl_2, wr_2, wl_3, wr_3, wl_20, wr_20, wl_48, wr_48, wl_57, wr_57, wl_60, wr_60, wl_100, wr_100, wl_255, wr_255, wl_500, wr_500, wl_900, wr_900, wl_999, wr_999, wl_12345, wr_12345, wl_999999, wr_999999, wl_99999999, wr_99999999, wl_1000000000, wr_1000000000, wl_1103515245, wr_1103515245, n4.1, n6.f, tc1, ib1, c, c1, c2, k3, and_self, not_true, not_false_iff, if_true, if_false]
        first | exact ⟨_, fun _ => rfl, fun _ => rfl⟩ | exact ⟨_, fun _ => rfl⟩
  · refine OpK.same H ?_
    unfold Both
    simp only [eX5_hour_0, eX5_hour_1, eX5_hour_2, eX5_hour_5, eX5_hour_8, eX5_hour_9, eX5_hour_10, eX5_hour_13, eX5_hour_14, eX5_hour_15, eX5_hour_16, eX5_hour_19, eX5_hour_20, eX5_hour_23, eX5_hour_26, eX5_hour_27, eX5_hour_30, eX5_hour_31, eX5_hour_32, eX5_hour_35, eX5_hour_38, eX5_hour_39, eX5_hour_42, eX5_hour_45, eX6_hour_0, eX6_hour_1, eX6_hour_2, eX6_hour_3, eX6_hour_6, eX6_hour_9, eX6_hour_12, eX6_hour_14, eX6_hour_15, eX6_hour_16, eX6_hour_19, eX6_hour_22, eX6_hour_24, eX6_hour_25, eX6_hour_26, eX6_hour_29, eX6_hour_30, eX6_hour_31, eX6_hour_34, eX6_hour_37, eX6_hour_39, eX6_hour_40, eX6_hour_41, eX6_hour_44, eX6_hour_45, eX6_hour_46, eX6_hour_49, eX6_hour_50, eX6_hour_53, eX6_hour_54, eX6_hour_55, Option.toList_some, Option.toList_none, List.cons_append, List.nil_append, is01_0, is01_1, true_and, c_refuse n3 n5, r_in, b01_0, wl_0, wr_0, wl_1, wr_1, wl_2, wr_2, wl_3, wr_3, wl_20, wr_20, wl_48, wr_48, wl_57, wr_57, wl_60, wr_60, wl_100, wr_100, wl_255, wr_255, wl_500, wr_500, wl_900, wr_900, wl_999, wr_999, wl_12345, wr_12345, wl_999999, wr_999999, wl_99999999, wr_99999999, wl_1000000000, wr_1000000000, wl_1103515245, wr_1103515245, c, k1, not_true, not_false_iff, if_true, if_false]
    first | exact ⟨_, fun _ => rfl, fun _ => rfl⟩ | exact ⟨_, fun _ => rfl⟩
end PA
