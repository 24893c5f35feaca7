/-! the other clauses -/
section CL2
variable {t : Nat → Int32} {n : Nat} {X : (Nat → Int32) × Nat} {sw : Bool}
theorem m_into {h h1 : xH} {f : Int32} {R k : Nat} {L M : Int32} {Q : Option Value → xG → xH → Prop} (hnum : ∀ Q : Option Value → xG → xH → Prop, EV X mX6_takeNumber 0 0 0 [.ref 140, .int L, .int M, .null] [] (Gb sw) h Q = Q (some (.int f)) (Gb sw) h1) (hR : xk R = 7 ∧ R < 162) (hk : k < xz R) (hz : xz R ≤ 8) : EV X mX6_into 0 0 0 [.ref 140, .ref R, .int (nI k), .int L, .int M, .null] [] (Gb sw) h Q = Q (some (.int f)) (Gb sw) (xu h1 R k (h1 140 15)) := by
  have hin : inb (nI k) (xz R) = True := by rw [inb_nIe (by omega)]; exact eq_true hk
  simp only [eX6_into_0, eX6_into_1, eX6_into_2, eX6_into_4, eX6_into_7, eX6_into_9, eX6_into_10, eX6_into_11, eX6_into_12, eX6_into_15, eX6_into_16, eX6_into_18, Option.toList_some, Option.toList_none, List.cons_append, List.nil_append, is01_0, is01_1, true_and, hnum, hR, hin, cl_nI (show k < 2147483648 by omega)]
theorem c_above {h : xH} {p NL G : Nat} {w : Nat → Int32} {Q : Option Value → xG → xH → Prop} (hp : isP p) (hC : PC h p NL G w) (hN : NL ≤ 6) (x : Int32) : EV X mX2_isAboveLayers 0 0 0 [.ref p, .int x] [] (Gb sw) h Q = Q (some (.int (b01 (¬ (0 < NL ∧ x ≤ w (10 + (NL - 1))))))) (Gb sw) h := by
  by_cases q : NL = 0
  · have q2 : ¬ (0 < NL ∧ x ≤ w (10 + (NL - 1))) := fun z => by omega
    have e : h p 5 = 0 := by rw [hC.1.2.2.2.2.1, q]; rfl
    simp only [eX2_isAboveLayers_0, eX2_isAboveLayers_1, eX2_isAboveLayers_4, eX2_isAboveLayers_7, eX2_isAboveLayers_8, eX2_isAboveLayers_9, eX2_isAboveLayers_12, eX2_isAboveLayers_13, eX2_isAboveLayers_16, eX2_isAboveLayers_17, eX2_isAboveLayers_18, eX2_isAboveLayers_19, eX2_isAboveLayers_22, eX2_isAboveLayers_23, eX2_isAboveLayers_26, eX2_isAboveLayers_27, Option.toList_some, Option.toList_none, List.cons_append, List.nil_append, is01_0, is01_1, true_and, hp, e, if_true, not_true, if_false]
    unfold b01
    rw [if_pos q2]
  · have e : h p 5 = nI NL := hC.1.2.2.2.2.1
    have e0 : ¬ nI NL = 0 := nI_ne0 (by omega) (by omega)
    have e1 : nI NL - 1 = nI (NL - 1) := pk_sub (b := 1) (by omega)
    have hin : inb (nI (NL - 1)) 6 = True := by rw [inb_nIe (by omega)]; apply eq_true; omega
    have ew := (hC.2.1 (NL - 1) (by omega)).1
    simp only [eX2_isAboveLayers_0, eX2_isAboveLayers_1, eX2_isAboveLayers_4, eX2_isAboveLayers_7, eX2_isAboveLayers_8, eX2_isAboveLayers_9, eX2_isAboveLayers_12, eX2_isAboveLayers_13, eX2_isAboveLayers_16, eX2_isAboveLayers_17, eX2_isAboveLayers_18, eX2_isAboveLayers_19, eX2_isAboveLayers_22, eX2_isAboveLayers_23, eX2_isAboveLayers_26, eX2_isAboveLayers_27, Option.toList_some, Option.toList_none, List.cons_append, List.nil_append, is01_0, is01_1, true_and, hp, e, e0, if_false, not_false_iff, e1, hin, cl_nI (show NL - 1 < 2147483648 by omega), ew]
    unfold b01
    by_cases z : x ≤ w (10 + (NL - 1))
    · have z2 : ¬ ¬ (0 < NL ∧ x ≤ w (10 + (NL - 1))) := fun y => y ⟨by omega, z⟩
      rw [if_pos z, if_neg z2]
    · have z2 : ¬ (0 < NL ∧ x ≤ w (10 + (NL - 1))) := fun y => z y.2
      rw [if_neg z, if_pos z2]
theorem k147 : xk 147 = 7 ∧ 147 < 162 := by decide
theorem k148 : xk 148 = 7 ∧ 148 < 162 := by decide
theorem k149 : xk 149 = 7 ∧ 149 < 162 := by decide
theorem k150 : xk 150 = 7 ∧ 150 < 162 := by decide
theorem s147 : xz 147 = 6 := by decide
theorem s148 : xz 148 = 6 := by decide
theorem s149 : xz 149 = 8 := by decide
theorem s150 : xz 150 = 8 := by decide
theorem clF_1 {a : Nat} (h : ¬ clF t n a = 0) : clF t n a = 1 := by
  unfold clF at h ⊢
  split at h
  · exact absurd rfl h
  · rename_i q; rw [if_neg q]
theorem b_layer (X : (Nat → Int32) × Nat) (sw : Bool) (hn : n ≤ 240) {p : Nat} (hp : isP p) {a NL G : Nat} {w : Nat → Int32} (ha : a ≤ n) (hW : DW NL G w) (hN : NL < 6) (hw : ¬ w 0 = 0) : Body X sw t n p mX4_readLayer [.ref 1, .ref p, .null, .null] mX6_takeLayer [.ref 140, .null, .null] a NL G w := by
  have hpr := hp.r
  obtain ⟨m1, m2, m3⟩ := nm_b (t := t) ha
  obtain ⟨m4, m5, m6⟩ := nm_b (t := t) m3
  obtain ⟨F1, F1'⟩ := nmF_b (t := t) (n := n) (a := a) (L := 1) (M := 900)
  obtain ⟨F2, F2'⟩ := nmF_b (t := t) (n := n) (a := nmE t n a) (L := 2) (M := 60)
  obtain ⟨z1, z1'⟩ := nz (f := nmF t n 1 900 a) (by omega)
  obtain ⟨z2, z2'⟩ := nz (f := nmF t n 2 60 (nmE t n a)) (by omega)
  have hNz : (nI NL ≤ 0) = (NL = 0) := by
    have : (nI NL ≤ 0) = (NL ≤ 0) := le_nI (b := 0) (by omega) (by omega)
    rw [this]; apply propext; omega
  have hcN : (nI NL).toNatClampNeg = NL := cl_nI (by omega)
  have hiN : inb (nI NL) 6 = True := by rw [inb_nIe (by omega)]; apply eq_true; omega
  have hcP : (nI (NL - 1)).toNatClampNeg = NL - 1 := cl_nI (by omega)
  have hiP : inb (nI (NL - 1)) 6 = True := by rw [inb_nIe (by omega)]; apply eq_true; omega
  -- the model's first number
  have mA : ∀ (sw : Bool) (h : xH), TM h t n → h 140 14 = nI a → DM h NL G w → ∃ h1 : xH, (∀ c, ¬ c = 140 → h1 c = h c) ∧ (∀ k, ¬ (13 ≤ k ∧ k ≤ 16) → ¬ k = 19 → h1 140 k = h 140 k) ∧ h1 140 19 = nI (NL + 1) ∧ (nmF t n 1 900 a = 0 → h1 140 14 = nI (nmE t n a) ∧ h1 140 15 = nI (nmV t n a) ∧ h1 140 16 = nI (skB t n a)) ∧ h1 140 13 = (if nmF t n 1 900 a = 0 then h 140 13 else nI (skB t n a)) ∧ ∀ Q : Option Value → xG → xH → Prop, EV X mX6_takeLayer 0 0 0 [.ref 140, .null, .null] [] (Gb sw) h Q = EV X mX6_takeLayer 0 0 28 [.ref 140, .int (nI NL), .null] [.int (nI (nmF t n 1 900 a))] (Gb sw) (xu h1 147 NL (h1 140 15)) Q := fun sw h hT h14 hD => by
    obtain ⟨h1, a1, a2, a3, a4, a5⟩ := m_num X sw hn ha (h := xu h 140 19 (nI (NL + 1))) (hT.mv (by simp only [xun, xus, xps, xpn, ne_eq, not_false_eq_true, Nat.reduceEqDiff, not_false_iff]) (by simp only [xun, xus, xps, xpn, ne_eq, not_false_eq_true, Nat.reduceEqDiff, not_false_iff])) (by simp only [xun, xus, xps, xpn, ne_eq, not_false_eq_true, Nat.reduceEqDiff, not_false_iff]; exact h14) 1 900 (by omega) (by omega)
    refine ⟨h1, fun c hc => by rw [a1 c hc, xun _ _ _ _ _ hc], fun k q1 q2 => by rw [a2 k q1, xus, xpn _ _ _ _ q2], by rw [a2 19 (by omega), xus, xps], a3, by rw [a4]; simp only [xun, xus, xps, xpn, ne_eq, not_false_eq_true, Nat.reduceEqDiff, not_false_iff], fun Q => ?_⟩
    have a5' : ∀ Q : Option Value → xG → xH → Prop, EV X mX6_takeNumber 0 0 0 [.ref 140, .int 1, .int 900, .null] [] (Gb sw) (xu h 140 19 (nI (NL + 1))) Q = Q (some (.int (nI (nmF t n 1 900 a)))) (Gb sw) h1 := a5
    simp only [eX6_takeLayer_0, eX6_takeLayer_1, eX6_takeLayer_4, eX6_takeLayer_5, eX6_takeLayer_6, eX6_takeLayer_7, eX6_takeLayer_10, eX6_takeLayer_11, eX6_takeLayer_12, eX6_takeLayer_15, eX6_takeLayer_16, eX6_takeLayer_17, eX6_takeLayer_20, eX6_takeLayer_21, eX6_takeLayer_22, eX6_takeLayer_25, eX6_takeLayer_29, eX6_takeLayer_30, eX6_takeLayer_33, eX6_takeLayer_34, eX6_takeLayer_37, eX6_takeLayer_38, eX6_takeLayer_41, eX6_takeLayer_42, eX6_takeLayer_43, eX6_takeLayer_44, eX6_takeLayer_47, eX6_takeLayer_48, eX6_takeLayer_49, eX6_takeLayer_50, eX6_takeLayer_51, eX6_takeLayer_54, eX6_takeLayer_55, eX6_takeLayer_56, eX6_takeLayer_57, eX6_takeLayer_60, eX6_takeLayer_63, eX6_takeLayer_64, eX6_takeLayer_65, eX6_takeLayer_68, eX6_takeLayer_69, eX6_takeLayer_72, eX6_takeLayer_73, eX6_takeLayer_74, eX6_takeLayer_77, eX6_takeLayer_78, eX6_takeLayer_79, eX6_takeLayer_81, eX6_takeLayer_84, Option.toList_some, Option.toList_none, List.cons_append, List.nil_append, is01_0, is01_1, true_and, hD.1.2.2.1, nI_1, m_into a5' k147 (by rw [s147]; exact hN) (by rw [s147]; omega)]
  -- the class's first number
  have cA : ∀ h : xH, TC h t n → h 1 2 = nI a → h 1 4 = 0 → DC h p NL G w → ∃ h1 : xH, (∀ c, ¬ c = 1 → h1 c = h c) ∧ h1 1 1 = h 1 1 ∧ h1 1 2 = nI (nmE t n a) ∧ h1 1 3 = nI (skB t n a) ∧ h1 1 4 = nI (nmF t n 1 900 a) ∧ h1 1 5 = (if nmF t n 1 900 a = 0 then h 1 5 else nI (skB t n a)) ∧ ∀ Q : Option Value → xG → xH → Prop, EV X mX4_readLayer 0 0 0 [.ref 1, .ref p, .null, .null] [] (Gb sw) h Q = EV X mX4_readLayer 0 0 14 [.ref 1, .ref p, .int (nI (nmV t n a)), .null] [.int (b01 (¬ (0 < NL ∧ nI (nmV t n a) ≤ w (10 + (NL - 1)))))] (Gb sw) h1 Q := fun h hT h2 h4 hD => by
    obtain ⟨h1, a1, a2, a3, a4, a5, a6, a7⟩ := c_num X sw hn ha hT h2 h4 1 900 (by omega) (by omega)
    have hD1 : DC h1 p NL G w := hD.mv (fun c q1 q2 => a1 c (by omega))
    have a7' : ∀ Q : Option Value → xG → xH → Prop, EV X mX4_readNumber 0 0 0 [.ref 1, .int 1, .int 900, .null, .null] [] (Gb sw) h Q = Q (some (.int (nI (nmV t n a)))) (Gb sw) h1 := a7
    refine ⟨h1, a1, a2, a3, a4, a5, a6, fun Q => ?_⟩
    simp only [eX4_readLayer_0, eX4_readLayer_1, eX4_readLayer_2, eX4_readLayer_5, eX4_readLayer_8, eX4_readLayer_9, eX4_readLayer_10, eX4_readLayer_11, eX4_readLayer_17, eX4_readLayer_18, eX4_readLayer_19, eX4_readLayer_20, eX4_readLayer_23, eX4_readLayer_26, eX4_readLayer_27, eX4_readLayer_28, eX4_readLayer_30, eX4_readLayer_33, eX4_readLayer_34, eX4_readLayer_35, eX4_readLayer_38, eX4_readLayer_39, eX4_readLayer_42, eX4_readLayer_45, eX4_readLayer_46, eX4_readLayer_47, eX4_readLayer_48, eX4_readLayer_51, Option.toList_some, Option.toList_none, List.cons_append, List.nil_append, is01_0, is01_1, true_and, hp, a7', c_above hp hD1.1 (by omega)]
  by_cases f1 : nmF t n 1 900 a = 0
  · obtain ⟨v1, v1'⟩ := F1' f1
    by_cases fr : 0 < NL ∧ nI (nmV t n a) ≤ w (10 + (NL - 1))
    · refine ⟨4, skB t n a, 0, NL, G, w, by omega, fun q => absurd q (by omega), fun sw h hT h14 hD => ?_, fun h hT h2 h4 hD => ?_⟩
      · obtain ⟨h1, a1, a2, a2', a3, a4, a5⟩ := mA sw h hT h14 hD
        obtain ⟨b1, b2, b3⟩ := a3 f1
        refine ⟨xu (xu h1 147 NL (h1 140 15)) 140 13 (nI (skB t n a)), ⟨fun c q1 q2 => by rw [xun _ _ _ _ _ q1, xun _ _ _ _ _ (by omega), a1 c q1], fun k hk => by rw [xus, xpn _ _ _ _ (by omega), xun _ _ _ _ _ (by omega), a2 k (by omega) (by omega)], fun q => absurd q (by omega), fun _ => by rw [xus, xps]⟩, fun Q => ?_⟩
        have e1 : nI NL - 1 = nI (NL - 1) := pk_sub (b := 1) (by omega)
        have g1 : xu h1 147 NL (h1 140 15) 147 NL = nI (nmV t n a) := by rw [xus, xps, b2]
        have g2 : xu h1 147 NL (h1 140 15) 147 (NL - 1) = w (10 + (NL - 1)) := by rw [xus, xpn _ _ _ _ (by omega), a1 147 (by omega)]; exact (hD.2.1 (NL - 1) (by omega)).1
        have g3 : xu h1 147 NL (h1 140 15) 140 16 = nI (skB t n a) := by rw [xun _ _ _ _ _ (by omega), b3]
        have nl0 : ¬ NL = 0 := by omega
        have fr2 : ¬ w (10 + (NL - 1)) < nI (nmV t n a) := by rw [Int32.not_lt]; exact fr.2
        rw [a5 Q]
        simp only [eX6_takeLayer_0, eX6_takeLayer_1, eX6_takeLayer_4, eX6_takeLayer_5, eX6_takeLayer_6, eX6_takeLayer_7, eX6_takeLayer_10, eX6_takeLayer_11, eX6_takeLayer_12, eX6_takeLayer_15, eX6_takeLayer_16, eX6_takeLayer_17, eX6_takeLayer_20, eX6_takeLayer_21, eX6_takeLayer_22, eX6_takeLayer_25, eX6_takeLayer_28, eX6_takeLayer_29, eX6_takeLayer_30, eX6_takeLayer_33, eX6_takeLayer_34, eX6_takeLayer_37, eX6_takeLayer_38, eX6_takeLayer_41, eX6_takeLayer_42, eX6_takeLayer_43, eX6_takeLayer_44, eX6_takeLayer_47, eX6_takeLayer_48, eX6_takeLayer_49, eX6_takeLayer_50, eX6_takeLayer_51, eX6_takeLayer_54, eX6_takeLayer_55, eX6_takeLayer_56, eX6_takeLayer_57, eX6_takeLayer_60, eX6_takeLayer_63, eX6_takeLayer_64, eX6_takeLayer_65, eX6_takeLayer_68, eX6_takeLayer_69, eX6_takeLayer_72, eX6_takeLayer_73, eX6_takeLayer_74, eX6_takeLayer_77, eX6_takeLayer_78, eX6_takeLayer_79, eX6_takeLayer_81, eX6_takeLayer_84, eX6_fails_0, eX6_fails_1, eX6_fails_2, eX6_fails_5, eX6_fails_6, Option.toList_some, Option.toList_none, List.cons_append, List.nil_append, is01_0, is01_1, true_and, f1, n0e, n00, hNz, nl0, if_true, if_false, not_true, not_false_iff, hcN, hiN, hcP, hiP, e1, g1, g2, g3, fr2, fr.2]
        first | done | rfl
      · obtain ⟨h1, a1, a2, a3, a4, a5, a6, a7⟩ := cA h hT h2 h4 hD
        rw [f1] at a5
        have a5' : h1 1 4 = 0 := a5
        rw [if_neg (show ¬ 4 = 0 by omega), if_neg (show ¬ 4 = 0 by omega)]
        have d4' : ¬ xu (xu h1 1 4 4) 1 5 (nI (skB t n a)) 1 4 = 0 := by simp only [xun, xus, xps, xpn, ne_eq, not_false_eq_true, Nat.reduceEqDiff, not_false_iff]; decide
        refine ⟨xu (xu h1 1 4 4) 1 5 (nI (skB t n a)), ⟨fun c q1 q2 => by rw [xun _ _ _ _ _ q1, xun _ _ _ _ _ q1, a1 c q1], by simp only [xun, xus, xps, xpn, ne_eq, not_false_eq_true, Nat.reduceEqDiff, not_false_iff]; exact a2, by simp only [xun, xus, xps, xpn, ne_eq, not_false_eq_true, Nat.reduceEqDiff, not_false_iff]; rfl, fun q => absurd q (by omega), fun _ => ⟨by simp only [xun, xus, xps, xpn, ne_eq, not_false_eq_true, Nat.reduceEqDiff, not_false_iff], nmE t n a, by omega, by simp only [xun, xus, xps, xpn, ne_eq, not_false_eq_true, Nat.reduceEqDiff, not_false_iff]; exact a3⟩⟩, fun Q => ?_⟩
        rw [a7 Q]
        simp only [eX4_readLayer_0, eX4_readLayer_1, eX4_readLayer_2, eX4_readLayer_5, eX4_readLayer_8, eX4_readLayer_9, eX4_readLayer_10, eX4_readLayer_11, eX4_readLayer_14, eX4_readLayer_17, eX4_readLayer_18, eX4_readLayer_19, eX4_readLayer_20, eX4_readLayer_23, eX4_readLayer_26, eX4_readLayer_27, eX4_readLayer_28, eX4_readLayer_30, eX4_readLayer_33, eX4_readLayer_34, eX4_readLayer_35, eX4_readLayer_38, eX4_readLayer_39, eX4_readLayer_42, eX4_readLayer_45, eX4_readLayer_46, eX4_readLayer_47, eX4_readLayer_48, eX4_readLayer_51, Option.toList_some, Option.toList_none, List.cons_append, List.nil_append, is01_0, is01_1, true_and, hp, b01_0, fr, and_self, not_true, not_false_iff, if_true, if_false, a4, c_blame a5', c_num2 d4', c_close2 d4', d4']
    · by_cases f2 : nmF t n 2 60 (nmE t n a) = 0
      · obtain ⟨v2, v2'⟩ := F2' f2
        have e0 : ∀ x, ¬ x = 10 + NL → ¬ x = 20 + NL → xp (xp w (10 + NL) (nI (nmV t n a))) (20 + NL) (nI (nmV t n (nmE t n a))) x = w x := fun x q1 q2 => by rw [xpn _ _ _ _ q2, xpn _ _ _ _ q1]
        have w0 : xp (xp w (10 + NL) (nI (nmV t n a))) (20 + NL) (nI (nmV t n (nmE t n a))) (10 + NL) = nI (nmV t n a) := by rw [xpn _ _ _ _ (by omega), xps]
        have w1 : xp (xp w (10 + NL) (nI (nmV t n a))) (20 + NL) (nI (nmV t n (nmE t n a))) (20 + NL) = nI (nmV t n (nmE t n a)) := xps _ _ _
        obtain ⟨⟨p1, p2, p3, p4, p5, p6, p7⟩, q1, q2, q3⟩ := id hW
        refine ⟨0, 0, nmE t n (nmE t n a), NL + 1, G, xp (xp w (10 + NL) (nI (nmV t n a))) (20 + NL) (nI (nmV t n (nmE t n a))), by omega, fun _ => ⟨by omega, by omega, ?_⟩, fun sw h hT h14 hD => ?_, fun h hT h2 h4 hD => ?_⟩
        · refine ⟨⟨by omega, p2, ?_, ?_, ?_, fun k hk => ?_, fun k hk => ?_⟩, ?_, fun k hk => ?_, ?_⟩
          · rw [e0 _ (by omega) (by omega)]; exact p3
          · rw [e0 _ (by omega) (by omega)]; exact fun z => absurd z hw
          · rw [e0 _ (by omega) (by omega), e0 _ (by omega) (by omega), e0 _ (by omega) (by omega)]; exact p5
          · by_cases z : k = NL
            · rw [z, w0, w1]
              obtain ⟨r1, r2⟩ := nI_rg (L := 1) (M := 900) v1 v1' (by omega)
              obtain ⟨r3, r4⟩ := nI_rg (L := 2) (M := 60) v2 v2' (by omega)
              exact ⟨r1, r2, r3, r4⟩
            · rw [e0 _ (by omega) (by omega), e0 _ (by omega) (by omega)]; exact p6 k (by omega)
          · rw [e0 _ (by omega) (by omega)]; exact p7 k hk
          · rw [e0 _ (by omega) (by omega)]; exact q1
          · rw [e0 _ (by omega) (by omega)]; exact q2 k hk
          · rw [e0 _ (by omega) (by omega)]; exact q3
        · obtain ⟨h1, a1, a2, a2', a3, a4, a5⟩ := mA sw h hT h14 hD
          obtain ⟨b1, b2, b3⟩ := a3 f1
          rw [if_pos f1] at a4
          have hT2 : TM (xu h1 147 NL (h1 140 15)) t n := hT.mv (by rw [xun _ _ _ _ _ (by omega)]; exact a2 12 (by omega) (by omega)) (by rw [xun _ _ _ _ _ (by omega)]; exact a1 146 (by omega))
          obtain ⟨h3, c1, c2, c3, c4, c5⟩ := m_num X sw hn m3 hT2 (by rw [xun _ _ _ _ _ (by omega)]; exact b1) 2 60 (by omega) (by omega)
          obtain ⟨d1, d2, d3⟩ := c3 f2
          rw [if_pos f2] at c4
          have kk : ∀ k, ¬ k = 19 → ¬ (13 ≤ k ∧ k ≤ 16) → h3 140 k = h 140 k := fun k q1 q2 => by rw [c2 k q2, xun _ _ _ _ _ (by omega), a2 k q2 q1]
          have oo : ∀ c, ¬ c = 140 → ¬ c = 147 → h3 c = h c := fun c hc hc2 => by rw [c1 c hc, xun _ _ _ _ _ hc2, a1 c hc]
          have o147 : h3 147 = xp (h 147) NL (nI (nmV t n a)) := by rw [c1 147 (by omega), xus, b2, a1 147 (by omega)]
          refine ⟨xu h3 148 NL (h3 140 15), ⟨fun c q1 q2 => by rw [xun _ _ _ _ _ (by omega), oo c q1 (by omega)], fun k hk => by rw [xun _ _ _ _ _ (by omega), kk k (by omega) (by omega)], fun _ => ⟨?_, ?_, ⟨?_, ?_, ?_, ?_, ?_, ?_⟩, fun k hk => ?_, fun k hk => ?_⟩, fun q => absurd rfl q⟩, fun Q => ?_⟩
          · rw [xun _ _ _ _ _ (by omega), c4, xun _ _ _ _ _ (by omega), a4]
          · rw [xun _ _ _ _ _ (by omega), d1]
          · rw [xun _ _ _ _ _ (by omega), kk _ (by omega) (by omega), e0 _ (by omega) (by omega)]; exact hD.1.1
          · rw [xun _ _ _ _ _ (by omega), kk _ (by omega) (by omega), e0 _ (by omega) (by omega), e0 _ (by omega) (by omega)]; exact hD.1.2.1
          · rw [xun _ _ _ _ _ (by omega), c2 19 (by omega), xun _ _ _ _ _ (by omega), a2']
          · rw [xun _ _ _ _ _ (by omega), kk _ (by omega) (by omega)]; exact hD.1.2.2.2.1
          · rw [xun _ _ _ _ _ (by omega), kk _ (by omega) (by omega), e0 _ (by omega) (by omega)]; exact hD.1.2.2.2.2.1
          · rw [xun _ _ _ _ _ (by omega), kk _ (by omega) (by omega), e0 _ (by omega) (by omega)]; exact hD.1.2.2.2.2.2
          · rw [xun _ _ _ _ _ (by omega), xus, o147]
            by_cases z : k = NL
            · rw [z, xps, xps, w0, w1, d2]; exact ⟨rfl, rfl⟩
            · rw [xpn _ _ _ _ z, xpn _ _ _ _ z, e0 _ (by omega) (by omega), e0 _ (by omega) (by omega), oo 148 (by omega) (by omega)]
              exact hD.2.1 k (by omega)
          · rw [xun _ _ _ _ _ (by omega), xun _ _ _ _ _ (by omega), oo _ (by omega) (by omega), oo _ (by omega) (by omega), e0 _ (by omega) (by omega), e0 _ (by omega) (by omega)]; exact hD.2.2 k hk
          · have c5' : ∀ Q : Option Value → xG → xH → Prop, EV X mX6_takeNumber 0 0 0 [.ref 140, .int 2, .int 60, .null] [] (Gb sw) (xu h1 147 NL (h1 140 15)) Q = Q (some (.int (nI (nmF t n 2 60 (nmE t n a))))) (Gb sw) h3 := c5
            rw [a5 Q]
            by_cases nl0 : NL = 0
            · have hNt : (nI NL ≤ 0) = True := by rw [hNz]; exact eq_true nl0
              simp only [eX6_takeLayer_0, eX6_takeLayer_1, eX6_takeLayer_4, eX6_takeLayer_5, eX6_takeLayer_6, eX6_takeLayer_7, eX6_takeLayer_10, eX6_takeLayer_11, eX6_takeLayer_12, eX6_takeLayer_15, eX6_takeLayer_16, eX6_takeLayer_17, eX6_takeLayer_20, eX6_takeLayer_21, eX6_takeLayer_22, eX6_takeLayer_25, eX6_takeLayer_28, eX6_takeLayer_29, eX6_takeLayer_30, eX6_takeLayer_33, eX6_takeLayer_34, eX6_takeLayer_37, eX6_takeLayer_38, eX6_takeLayer_41, eX6_takeLayer_42, eX6_takeLayer_43, eX6_takeLayer_44, eX6_takeLayer_47, eX6_takeLayer_48, eX6_takeLayer_49, eX6_takeLayer_50, eX6_takeLayer_51, eX6_takeLayer_54, eX6_takeLayer_55, eX6_takeLayer_56, eX6_takeLayer_57, eX6_takeLayer_60, eX6_takeLayer_63, eX6_takeLayer_64, eX6_takeLayer_65, eX6_takeLayer_68, eX6_takeLayer_69, eX6_takeLayer_72, eX6_takeLayer_73, eX6_takeLayer_74, eX6_takeLayer_77, eX6_takeLayer_78, eX6_takeLayer_79, eX6_takeLayer_81, eX6_takeLayer_84, eX6_fails_0, eX6_fails_1, eX6_fails_2, eX6_fails_5, eX6_fails_6, Option.toList_some, Option.toList_none, List.cons_append, List.nil_append, is01_0, is01_1, true_and, f1, n0e, n00, hNt, if_true, if_false, not_true, not_false_iff, m_into c5' k148 (show NL < xz 148 by rw [s148]; exact hN) (show xz 148 ≤ 8 by rw [s148]; omega), f2]
            · have e1 : nI NL - 1 = nI (NL - 1) := pk_sub (b := 1) (by omega)
              have g1 : xu h1 147 NL (h1 140 15) 147 NL = nI (nmV t n a) := by rw [xus, xps, b2]
              have g2 : xu h1 147 NL (h1 140 15) 147 (NL - 1) = w (10 + (NL - 1)) := by rw [xus, xpn _ _ _ _ (by omega), a1 147 (by omega)]; exact (hD.2.1 (NL - 1) (by omega)).1
              have fr' : ¬ nI (nmV t n a) ≤ w (10 + (NL - 1)) := fun z => fr ⟨by omega, z⟩
              have fr2 : w (10 + (NL - 1)) < nI (nmV t n a) := by rw [← Int32.not_le]; exact fr'
              simp only [eX6_takeLayer_0, eX6_takeLayer_1, eX6_takeLayer_4, eX6_takeLayer_5, eX6_takeLayer_6, eX6_takeLayer_7, eX6_takeLayer_10, eX6_takeLayer_11, eX6_takeLayer_12, eX6_takeLayer_15, eX6_takeLayer_16, eX6_takeLayer_17, eX6_takeLayer_20, eX6_takeLayer_21, eX6_takeLayer_22, eX6_takeLayer_25, eX6_takeLayer_28, eX6_takeLayer_29, eX6_takeLayer_30, eX6_takeLayer_33, eX6_takeLayer_34, eX6_takeLayer_37, eX6_takeLayer_38, eX6_takeLayer_41, eX6_takeLayer_42, eX6_takeLayer_43, eX6_takeLayer_44, eX6_takeLayer_47, eX6_takeLayer_48, eX6_takeLayer_49, eX6_takeLayer_50, eX6_takeLayer_51, eX6_takeLayer_54, eX6_takeLayer_55, eX6_takeLayer_56, eX6_takeLayer_57, eX6_takeLayer_60, eX6_takeLayer_63, eX6_takeLayer_64, eX6_takeLayer_65, eX6_takeLayer_68, eX6_takeLayer_69, eX6_takeLayer_72, eX6_takeLayer_73, eX6_takeLayer_74, eX6_takeLayer_77, eX6_takeLayer_78, eX6_takeLayer_79, eX6_takeLayer_81, eX6_takeLayer_84, eX6_fails_0, eX6_fails_1, eX6_fails_2, eX6_fails_5, eX6_fails_6, Option.toList_some, Option.toList_none, List.cons_append, List.nil_append, is01_0, is01_1, true_and, f1, n0e, n00, hNz, nl0, if_true, if_false, not_true, not_false_iff, hcN, hiN, hcP, hiP, e1, g1, g2, fr2, fr', m_into c5' k148 (show NL < xz 148 by rw [s148]; exact hN) (show xz 148 ≤ 8 by rw [s148]; omega), f2]
        · obtain ⟨h1, a1, a2, a3, a4, a5, a6, a7⟩ := cA h hT h2 h4 hD
          rw [f1] at a5
          rw [if_pos f1] at a6
          have a5' : h1 1 4 = 0 := a5
          obtain ⟨h3, c1, c2, c3, c4, c5, c6, c7⟩ := c_num X sw hn m3 (h := h1) (hT.mv a2 (a1 2 (by omega))) a3 a5' 2 60 (by omega) (by omega)
          rw [f2] at c5
          rw [if_pos f2] at c6
          have c5' : h3 1 4 = 0 := c5
          obtain ⟨h5, d1, d2, d3, d4, d5, d6⟩ := c_close X sw hn m6 (h := h3) ((hT.mv a2 (a1 2 (by omega))).mv c2 (c1 2 (by omega))) c3 c5'
          have c7' : ∀ Q : Option Value → xG → xH → Prop, EV X mX4_readNumber 0 0 0 [.ref 1, .int 2, .int 60, .null, .null] [] (Gb sw) h1 Q = Q (some (.int (nI (nmV t n (nmE t n a))))) (Gb sw) h3 := c7
          have oo : ∀ c, ¬ c = 1 → h5 c = h c := fun c hc => by rw [d1 c hc, c1 c hc, a1 c hc]
          rw [if_pos rfl, if_pos rfl]
          by_cases f3 : clF t n (nmE t n (nmE t n a)) = 0
          · rw [f3] at d4 ⊢
            rw [if_pos f3] at d5
            have dp1 : ¬ p = p + 1 := by omega
            have dp2 : ¬ p = p + 2 := by omega
            refine ⟨xu (xu (xu h5 (p + 1) NL (nI (nmV t n a))) (p + 2) NL (nI (nmV t n (nmE t n a)))) p 5 (nI (NL + 1)), ⟨fun c q1 q2 => by rw [xun _ _ _ _ _ (by omega), xun _ _ _ _ _ (by omega), xun _ _ _ _ _ (by omega), oo c q1], ?_, ?_, fun _ => ⟨?_, ?_, ⟨⟨?_, ?_, ?_, ?_, ?_, ?_⟩, fun k hk => ?_, fun k hk => ?_⟩, ?_, fun k hk => ?_⟩, fun q => absurd rfl q⟩, fun Q => ?_⟩
            · rw [xun _ _ _ _ _ (by omega), xun _ _ _ _ _ (by omega), xun _ _ _ _ _ (by omega), d2, c2, a2]
            · rw [xun _ _ _ _ _ (by omega), xun _ _ _ _ _ (by omega), xun _ _ _ _ _ (by omega), d4]
            · rw [xun _ _ _ _ _ (by omega), xun _ _ _ _ _ (by omega), xun _ _ _ _ _ (by omega), d5, c6, a6]
            · rw [xun _ _ _ _ _ (by omega), xun _ _ _ _ _ (by omega), xun _ _ _ _ _ (by omega), d3.1 f3]
            · rw [xus, xpn _ _ _ _ (by omega), xun _ _ _ _ _ (by omega), xun _ _ _ _ _ (by omega), oo _ (by omega), e0 _ (by omega) (by omega)]; exact hD.1.1.1
            · rw [xus, xpn _ _ _ _ (by omega), xun _ _ _ _ _ (by omega), xun _ _ _ _ _ (by omega), oo _ (by omega), e0 _ (by omega) (by omega)]; exact hD.1.1.2.1
            · rw [xus, xpn _ _ _ _ (by omega), xun _ _ _ _ _ (by omega), xun _ _ _ _ _ (by omega), oo _ (by omega), e0 _ (by omega) (by omega)]; exact hD.1.1.2.2.1
            · rw [xus, xpn _ _ _ _ (by omega), xun _ _ _ _ _ (by omega), xun _ _ _ _ _ (by omega), oo _ (by omega), e0 _ (by omega) (by omega)]; exact hD.1.1.2.2.2.1
            · rw [xus, xps]
            · rw [xus, xpn _ _ _ _ (by omega), xun _ _ _ _ _ (by omega), xun _ _ _ _ _ (by omega), oo _ (by omega)]; exact hD.1.1.2.2.2.2.2
            · rw [xun _ _ _ _ _ (show ¬ p + 1 = p by omega), xun _ _ _ _ _ (show ¬ p + 1 = p + 2 by omega), xus, xun _ _ _ _ _ (show ¬ p + 2 = p by omega), xus, xun _ _ _ _ _ (show ¬ p + 2 = p + 1 by omega), oo _ (by omega), oo _ (by omega)]
              by_cases z : k = NL
              · rw [z, xps, xps, w0, w1]; exact ⟨rfl, rfl⟩
              · rw [xpn _ _ _ _ z, xpn _ _ _ _ z, e0 _ (by omega) (by omega), e0 _ (by omega) (by omega)]; exact hD.1.2.1 k (by omega)
            · rw [xun _ _ _ _ _ (by omega), xun _ _ _ _ _ (by omega), xun _ _ _ _ _ (by omega), oo _ (by omega), e0 _ (by omega) (by omega)]; exact hD.1.2.2 k hk
            · rw [xus, xpn _ _ _ _ (by omega), xun _ _ _ _ _ (by omega), xun _ _ _ _ _ (by omega), oo _ (by omega), e0 _ (by omega) (by omega)]; exact hD.2.1
            · rw [xun _ _ _ _ _ (by omega), xun _ _ _ _ _ (by omega), xun _ _ _ _ _ (by omega), oo _ (by omega), e0 _ (by omega) (by omega)]; exact hD.2.2 k hk
            · have d4' : h5 1 4 = 0 := d4
              have e5 : h5 p 5 = nI NL := by rw [oo _ (by omega)]; exact hD.1.1.2.2.2.2.1
              have l6 : ¬ (6 : Int32) ≤ nI NL := nI_ge (b := 6) (by omega) (by omega)
              have l6' : nI NL < (6 : Int32) := nI_lt (b := 6) (by omega) (by omega)
              rw [a7 Q]
              simp only [eX4_readLayer_0, eX4_readLayer_1, eX4_readLayer_2, eX4_readLayer_5, eX4_readLayer_8, eX4_readLayer_9, eX4_readLayer_10, eX4_readLayer_11, eX4_readLayer_14, eX4_readLayer_17, eX4_readLayer_18, eX4_readLayer_19, eX4_readLayer_20, eX4_readLayer_23, eX4_readLayer_26, eX4_readLayer_27, eX4_readLayer_28, eX4_readLayer_30, eX4_readLayer_33, eX4_readLayer_34, eX4_readLayer_35, eX4_readLayer_38, eX4_readLayer_39, eX4_readLayer_42, eX4_readLayer_45, eX4_readLayer_46, eX4_readLayer_47, eX4_readLayer_48, eX4_readLayer_51, eX2_addLayer_0, eX2_addLayer_1, eX2_addLayer_4, eX2_addLayer_6, eX2_addLayer_9, eX2_addLayer_10, eX2_addLayer_13, eX2_addLayer_14, eX2_addLayer_17, eX2_addLayer_18, eX2_addLayer_19, eX2_addLayer_20, eX2_addLayer_23, eX2_addLayer_24, eX2_addLayer_27, eX2_addLayer_28, eX2_addLayer_29, eX2_addLayer_30, eX2_addLayer_31, eX2_addLayer_34, eX2_addLayer_35, eX2_addLayer_36, eX2_addLayer_39, Option.toList_some, Option.toList_none, List.cons_append, List.nil_append, is01_0, is01_1, true_and, hp, b01_0, fr, not_true, not_false_iff, if_true, if_false, c7', d6, d4', e5, l6, l6', hcN, hiN, xun _ _ _ _ _ dp1, xun _ _ _ _ _ dp2, nI_1]
          · have hc1 := clF_1 f3
            rw [hc1] at d4 d5 ⊢
            rw [if_neg (by omega)] at d5
            refine ⟨h5, ⟨fun c q1 q2 => oo c q1, by rw [d2, c2, a2], d4, fun q => absurd q (by omega), fun _ => ⟨d5, skB t n (nmE t n (nmE t n a)), by have := (skB_b (t := t) m6).2.1; omega, d3.2 f3⟩⟩, fun Q => ?_⟩
            have d4' : ¬ h5 1 4 = 0 := by rw [d4]; decide
            rw [a7 Q]
            simp only [eX4_readLayer_0, eX4_readLayer_1, eX4_readLayer_2, eX4_readLayer_5, eX4_readLayer_8, eX4_readLayer_9, eX4_readLayer_10, eX4_readLayer_11, eX4_readLayer_14, eX4_readLayer_17, eX4_readLayer_18, eX4_readLayer_19, eX4_readLayer_20, eX4_readLayer_23, eX4_readLayer_26, eX4_readLayer_27, eX4_readLayer_28, eX4_readLayer_30, eX4_readLayer_33, eX4_readLayer_34, eX4_readLayer_35, eX4_readLayer_38, eX4_readLayer_39, eX4_readLayer_42, eX4_readLayer_45, eX4_readLayer_46, eX4_readLayer_47, eX4_readLayer_48, eX4_readLayer_51, Option.toList_some, Option.toList_none, List.cons_append, List.nil_append, is01_0, is01_1, true_and, hp, b01_0, fr, not_true, not_false_iff, if_true, if_false, c7', d6, d4']
      · refine ⟨nmF t n 2 60 (nmE t n a), skB t n (nmE t n a), 0, NL, G, w, by omega, fun q => absurd q f2, fun sw h hT h14 hD => ?_, fun h hT h2 h4 hD => ?_⟩
        · obtain ⟨h1, a1, a2, a2', a3, a4, a5⟩ := mA sw h hT h14 hD
          obtain ⟨b1, b2, b3⟩ := a3 f1
          have hT2 : TM (xu h1 147 NL (h1 140 15)) t n := hT.mv (by rw [xun _ _ _ _ _ (by omega)]; exact a2 12 (by omega) (by omega)) (by rw [xun _ _ _ _ _ (by omega)]; exact a1 146 (by omega))
          obtain ⟨h3, c1, c2, c3, c4, c5⟩ := m_num X sw hn m3 hT2 (by rw [xun _ _ _ _ _ (by omega)]; exact b1) 2 60 (by omega) (by omega)
          rw [if_neg f2] at c4
          refine ⟨xu h3 148 NL (h3 140 15), ⟨fun c q1 q2 => by rw [xun _ _ _ _ _ (by omega), c1 c q1, xun _ _ _ _ _ (by omega), a1 c q1], fun k hk => by rw [xun _ _ _ _ _ (by omega), c2 k (by omega), xun _ _ _ _ _ (by omega), a2 k (by omega) (by omega)], fun q => absurd q f2, fun _ => by rw [xun _ _ _ _ _ (by omega), c4]⟩, fun Q => ?_⟩
          have c5' : ∀ Q : Option Value → xG → xH → Prop, EV X mX6_takeNumber 0 0 0 [.ref 140, .int 2, .int 60, .null] [] (Gb sw) (xu h1 147 NL (h1 140 15)) Q = Q (some (.int (nI (nmF t n 2 60 (nmE t n a))))) (Gb sw) h3 := c5
          rw [a5 Q]
          by_cases nl0 : NL = 0
          · have hNt : (nI NL ≤ 0) = True := by rw [hNz]; exact eq_true nl0
            simp only [eX6_takeLayer_0, eX6_takeLayer_1, eX6_takeLayer_4, eX6_takeLayer_5, eX6_takeLayer_6, eX6_takeLayer_7, eX6_takeLayer_10, eX6_takeLayer_11, eX6_takeLayer_12, eX6_takeLayer_15, eX6_takeLayer_16, eX6_takeLayer_17, eX6_takeLayer_20, eX6_takeLayer_21, eX6_takeLayer_22, eX6_takeLayer_25, eX6_takeLayer_28, eX6_takeLayer_29, eX6_takeLayer_30, eX6_takeLayer_33, eX6_takeLayer_34, eX6_takeLayer_37, eX6_takeLayer_38, eX6_takeLayer_41, eX6_takeLayer_42, eX6_takeLayer_43, eX6_takeLayer_44, eX6_takeLayer_47, eX6_takeLayer_48, eX6_takeLayer_49, eX6_takeLayer_50, eX6_takeLayer_51, eX6_takeLayer_54, eX6_takeLayer_55, eX6_takeLayer_56, eX6_takeLayer_57, eX6_takeLayer_60, eX6_takeLayer_63, eX6_takeLayer_64, eX6_takeLayer_65, eX6_takeLayer_68, eX6_takeLayer_69, eX6_takeLayer_72, eX6_takeLayer_73, eX6_takeLayer_74, eX6_takeLayer_77, eX6_takeLayer_78, eX6_takeLayer_79, eX6_takeLayer_81, eX6_takeLayer_84, eX6_fails_0, eX6_fails_1, eX6_fails_2, eX6_fails_5, eX6_fails_6, Option.toList_some, Option.toList_none, List.cons_append, List.nil_append, is01_0, is01_1, true_and, f1, n0e, n00, hNt, if_true, if_false, not_true, not_false_iff, m_into c5' k148 (show NL < xz 148 by rw [s148]; exact hN) (show xz 148 ≤ 8 by rw [s148]; omega)]
          · have e1 : nI NL - 1 = nI (NL - 1) := pk_sub (b := 1) (by omega)
            have g1 : xu h1 147 NL (h1 140 15) 147 NL = nI (nmV t n a) := by rw [xus, xps, b2]
            have g2 : xu h1 147 NL (h1 140 15) 147 (NL - 1) = w (10 + (NL - 1)) := by rw [xus, xpn _ _ _ _ (by omega), a1 147 (by omega)]; exact (hD.2.1 (NL - 1) (by omega)).1
            have fr' : ¬ nI (nmV t n a) ≤ w (10 + (NL - 1)) := fun z => fr ⟨by omega, z⟩
            have fr2 : w (10 + (NL - 1)) < nI (nmV t n a) := by rw [← Int32.not_le]; exact fr'
            simp only [eX6_takeLayer_0, eX6_takeLayer_1, eX6_takeLayer_4, eX6_takeLayer_5, eX6_takeLayer_6, eX6_takeLayer_7, eX6_takeLayer_10, eX6_takeLayer_11, eX6_takeLayer_12, eX6_takeLayer_15, eX6_takeLayer_16, eX6_takeLayer_17, eX6_takeLayer_20, eX6_takeLayer_21, eX6_takeLayer_22, eX6_takeLayer_25, eX6_takeLayer_28, eX6_takeLayer_29, eX6_takeLayer_30, eX6_takeLayer_33, eX6_takeLayer_34, eX6_takeLayer_37, eX6_takeLayer_38, eX6_takeLayer_41, eX6_takeLayer_42, eX6_takeLayer_43, eX6_takeLayer_44, eX6_takeLayer_47, eX6_takeLayer_48, eX6_takeLayer_49, eX6_takeLayer_50, eX6_takeLayer_51, eX6_takeLayer_54, eX6_takeLayer_55, eX6_takeLayer_56, eX6_takeLayer_57, eX6_takeLayer_60, eX6_takeLayer_63, eX6_takeLayer_64, eX6_takeLayer_65, eX6_takeLayer_68, eX6_takeLayer_69, eX6_takeLayer_72, eX6_takeLayer_73, eX6_takeLayer_74, eX6_takeLayer_77, eX6_takeLayer_78, eX6_takeLayer_79, eX6_takeLayer_81, eX6_takeLayer_84, eX6_fails_0, eX6_fails_1, eX6_fails_2, eX6_fails_5, eX6_fails_6, Option.toList_some, Option.toList_none, List.cons_append, List.nil_append, is01_0, is01_1, true_and, f1, n0e, n00, hNz, nl0, if_true, if_false, not_true, not_false_iff, hcN, hiN, hcP, hiP, e1, g1, g2, fr2, fr', m_into c5' k148 (show NL < xz 148 by rw [s148]; exact hN) (show xz 148 ≤ 8 by rw [s148]; omega)]
        · rw [if_neg f2, if_neg f2]
          obtain ⟨h1, a1, a2, a3, a4, a5, a6, a7⟩ := cA h hT h2 h4 hD
          rw [f1] at a5
          have a5' : h1 1 4 = 0 := a5
          obtain ⟨h3, c1, c2, c3, c4, c5, c6, c7⟩ := c_num X sw hn m3 (h := h1) (hT.mv a2 (a1 2 (by omega))) a3 a5' 2 60 (by omega) (by omega)
          rw [if_neg f2] at c6
          have c7' : ∀ Q : Option Value → xG → xH → Prop, EV X mX4_readNumber 0 0 0 [.ref 1, .int 2, .int 60, .null, .null] [] (Gb sw) h1 Q = Q (some (.int (nI (nmV t n (nmE t n a))))) (Gb sw) h3 := c7
          have d4' : ¬ h3 1 4 = 0 := by rw [c5, z2]; exact f2
          refine ⟨h3, ⟨fun c q1 q2 => by rw [c1 c q1, a1 c q1], by rw [c2, a2], c5, fun q => absurd q f2, fun _ => ⟨c6, nmE t n (nmE t n a), by omega, c3⟩⟩, fun Q => ?_⟩
          rw [a7 Q]
          simp only [eX4_readLayer_0, eX4_readLayer_1, eX4_readLayer_2, eX4_readLayer_5, eX4_readLayer_8, eX4_readLayer_9, eX4_readLayer_10, eX4_readLayer_11, eX4_readLayer_14, eX4_readLayer_17, eX4_readLayer_18, eX4_readLayer_19, eX4_readLayer_20, eX4_readLayer_23, eX4_readLayer_26, eX4_readLayer_27, eX4_readLayer_28, eX4_readLayer_30, eX4_readLayer_33, eX4_readLayer_34, eX4_readLayer_35, eX4_readLayer_38, eX4_readLayer_39, eX4_readLayer_42, eX4_readLayer_45, eX4_readLayer_46, eX4_readLayer_47, eX4_readLayer_48, eX4_readLayer_51, Option.toList_some, Option.toList_none, List.cons_append, List.nil_append, is01_0, is01_1, true_and, hp, b01_0, fr, not_true, not_false_iff, if_true, if_false, c7', c_close2 d4', d4']
  · refine ⟨nmF t n 1 900 a, skB t n a, 0, NL, G, w, by omega, fun q => absurd q f1, fun sw h hT h14 hD => ?_, fun h hT h2 h4 hD => ?_⟩
    · obtain ⟨h1, a1, a2, a2', a3, a4, a5⟩ := mA sw h hT h14 hD
      rw [if_neg f1] at a4
      refine ⟨xu h1 147 NL (h1 140 15), ⟨fun c q1 q2 => by rw [xun _ _ _ _ _ (by omega), a1 c q1], fun k hk => by rw [xun _ _ _ _ _ (by omega), a2 k (by omega) (by omega)], fun q => absurd q f1, fun _ => by rw [xun _ _ _ _ _ (by omega), a4]⟩, fun Q => ?_⟩
      rw [a5 Q]
      simp only [eX6_takeLayer_0, eX6_takeLayer_1, eX6_takeLayer_4, eX6_takeLayer_5, eX6_takeLayer_6, eX6_takeLayer_7, eX6_takeLayer_10, eX6_takeLayer_11, eX6_takeLayer_12, eX6_takeLayer_15, eX6_takeLayer_16, eX6_takeLayer_17, eX6_takeLayer_20, eX6_takeLayer_21, eX6_takeLayer_22, eX6_takeLayer_25, eX6_takeLayer_28, eX6_takeLayer_29, eX6_takeLayer_30, eX6_takeLayer_33, eX6_takeLayer_34, eX6_takeLayer_37, eX6_takeLayer_38, eX6_takeLayer_41, eX6_takeLayer_42, eX6_takeLayer_43, eX6_takeLayer_44, eX6_takeLayer_47, eX6_takeLayer_48, eX6_takeLayer_49, eX6_takeLayer_50, eX6_takeLayer_51, eX6_takeLayer_54, eX6_takeLayer_55, eX6_takeLayer_56, eX6_takeLayer_57, eX6_takeLayer_60, eX6_takeLayer_63, eX6_takeLayer_64, eX6_takeLayer_65, eX6_takeLayer_68, eX6_takeLayer_69, eX6_takeLayer_72, eX6_takeLayer_73, eX6_takeLayer_74, eX6_takeLayer_77, eX6_takeLayer_78, eX6_takeLayer_79, eX6_takeLayer_81, eX6_takeLayer_84, Option.toList_some, Option.toList_none, List.cons_append, List.nil_append, is01_0, is01_1, true_and, z1, z1', f1, if_true, if_false, not_false_iff]
    · rw [if_neg f1, if_neg f1]
      obtain ⟨h1, a1, a2, a3, a4, a5, a6, a7⟩ := cA h hT h2 h4 hD
      rw [if_neg f1] at a6
      have d4' : ¬ h1 1 4 = 0 := by rw [a5, z1]; exact f1
      refine ⟨h1, ⟨fun c q1 q2 => a1 c q1, a2, a5, fun q => absurd q f1, fun _ => ⟨a6, nmE t n a, by omega, a3⟩⟩, fun Q => ?_⟩
      rw [a7 Q]
      by_cases fr : 0 < NL ∧ nI (nmV t n a) ≤ w (10 + (NL - 1))
      · simp only [eX4_readLayer_0, eX4_readLayer_1, eX4_readLayer_2, eX4_readLayer_5, eX4_readLayer_8, eX4_readLayer_9, eX4_readLayer_10, eX4_readLayer_11, eX4_readLayer_14, eX4_readLayer_17, eX4_readLayer_18, eX4_readLayer_19, eX4_readLayer_20, eX4_readLayer_23, eX4_readLayer_26, eX4_readLayer_27, eX4_readLayer_28, eX4_readLayer_30, eX4_readLayer_33, eX4_readLayer_34, eX4_readLayer_35, eX4_readLayer_38, eX4_readLayer_39, eX4_readLayer_42, eX4_readLayer_45, eX4_readLayer_46, eX4_readLayer_47, eX4_readLayer_48, eX4_readLayer_51, Option.toList_some, Option.toList_none, List.cons_append, List.nil_append, is01_0, is01_1, true_and, hp, b01_0, fr, and_self, not_true, not_false_iff, if_true, if_false, c_blame2 d4', c_num2 d4', c_close2 d4', d4']
      · simp only [eX4_readLayer_0, eX4_readLayer_1, eX4_readLayer_2, eX4_readLayer_5, eX4_readLayer_8, eX4_readLayer_9, eX4_readLayer_10, eX4_readLayer_11, eX4_readLayer_14, eX4_readLayer_17, eX4_readLayer_18, eX4_readLayer_19, eX4_readLayer_20, eX4_readLayer_23, eX4_readLayer_26, eX4_readLayer_27, eX4_readLayer_28, eX4_readLayer_30, eX4_readLayer_33, eX4_readLayer_34, eX4_readLayer_35, eX4_readLayer_38, eX4_readLayer_39, eX4_readLayer_42, eX4_readLayer_45, eX4_readLayer_46, eX4_readLayer_47, eX4_readLayer_48, eX4_readLayer_51, Option.toList_some, Option.toList_none, List.cons_append, List.nil_append, is01_0, is01_1, true_and, hp, b01_0, fr, not_true, not_false_iff, if_true, if_false, c_num2 d4', c_close2 d4', d4']
theorem b_goer (X : (Nat → Int32) × Nat) (sw : Bool) (hn : n ≤ 240) {p : Nat} (hp : isP p) {a NL G : Nat} {w : Nat → Int32} (ha : a ≤ n) (hW : DW NL G w) (hN : G < 8) (hw : ¬ w 0 = 0) : Body X sw t n p mX4_readGoer [.ref 1, .ref p, .null, .null] mX6_takeGoer [.ref 140, .null, .null] a NL G w := by
  have hpr := hp.r
  obtain ⟨m1, m2, m3⟩ := nm_b (t := t) ha
  obtain ⟨m4, m5, m6⟩ := nm_b (t := t) m3
  obtain ⟨F1, F1'⟩ := nmF_b (t := t) (n := n) (a := a) (L := 0) (M := 99)
  obtain ⟨F2, F2'⟩ := nmF_b (t := t) (n := n) (a := nmE t n a) (L := 0) (M := 4)
  obtain ⟨z1, z1'⟩ := nz (f := nmF t n 0 99 a) (by omega)
  obtain ⟨z2, z2'⟩ := nz (f := nmF t n 0 4 (nmE t n a)) (by omega)
  have hcN : (nI G).toNatClampNeg = G := cl_nI (by omega)
  have hiN : inb (nI G) 8 = True := by rw [inb_nIe (by omega)]; apply eq_true; omega
  have mA : ∀ (sw : Bool) (h : xH), TM h t n → h 140 14 = nI a → DM h NL G w → ∃ h1 : xH, (∀ c, ¬ c = 140 → h1 c = h c) ∧ (∀ k, ¬ (13 ≤ k ∧ k ≤ 16) → ¬ k = 22 → h1 140 k = h 140 k) ∧ h1 140 22 = nI (G + 1) ∧ (nmF t n 0 99 a = 0 → h1 140 14 = nI (nmE t n a) ∧ h1 140 15 = nI (nmV t n a) ∧ h1 140 16 = nI (skB t n a)) ∧ h1 140 13 = (if nmF t n 0 99 a = 0 then h 140 13 else nI (skB t n a)) ∧ ∀ Q : Option Value → xG → xH → Prop, EV X mX6_takeGoer 0 0 0 [.ref 140, .null, .null] [] (Gb sw) h Q = EV X mX6_takeGoer 0 0 27 [.ref 140, .int (nI G), .null] [.int (nI (nmF t n 0 99 a))] (Gb sw) (xu h1 149 G (h1 140 15)) Q := fun sw h hT h14 hD => by
    obtain ⟨h1, a1, a2, a3, a4, a5⟩ := m_num X sw hn ha (h := xu h 140 22 (nI (G + 1))) (hT.mv (by simp only [xun, xus, xps, xpn, ne_eq, not_false_eq_true, Nat.reduceEqDiff, not_false_iff]) (by simp only [xun, xus, xps, xpn, ne_eq, not_false_eq_true, Nat.reduceEqDiff, not_false_iff])) (by simp only [xun, xus, xps, xpn, ne_eq, not_false_eq_true, Nat.reduceEqDiff, not_false_iff]; exact h14) 0 99 (by omega) (by omega)
    refine ⟨h1, fun c hc => by rw [a1 c hc, xun _ _ _ _ _ hc], fun k q1 q2 => by rw [a2 k q1, xus, xpn _ _ _ _ q2], by rw [a2 22 (by omega), xus, xps], a3, by rw [a4]; simp only [xun, xus, xps, xpn, ne_eq, not_false_eq_true, Nat.reduceEqDiff, not_false_iff], fun Q => ?_⟩
    have a5' : ∀ Q : Option Value → xG → xH → Prop, EV X mX6_takeNumber 0 0 0 [.ref 140, .int 0, .int 99, .null] [] (Gb sw) (xu h 140 22 (nI (G + 1))) Q = Q (some (.int (nI (nmF t n 0 99 a)))) (Gb sw) h1 := a5
    simp only [eX6_takeGoer_0, eX6_takeGoer_1, eX6_takeGoer_4, eX6_takeGoer_5, eX6_takeGoer_6, eX6_takeGoer_7, eX6_takeGoer_10, eX6_takeGoer_11, eX6_takeGoer_12, eX6_takeGoer_15, eX6_takeGoer_16, eX6_takeGoer_17, eX6_takeGoer_20, eX6_takeGoer_21, eX6_takeGoer_22, eX6_takeGoer_24, eX6_takeGoer_28, eX6_takeGoer_29, eX6_takeGoer_32, eX6_takeGoer_33, eX6_takeGoer_36, eX6_takeGoer_37, eX6_takeGoer_38, eX6_takeGoer_41, eX6_takeGoer_42, eX6_takeGoer_43, eX6_takeGoer_44, eX6_takeGoer_47, Option.toList_some, Option.toList_none, List.cons_append, List.nil_append, is01_0, is01_1, true_and, hD.1.2.2.2.1, nI_1, m_into a5' k149 (by rw [s149]; exact hN) (by rw [s149]; omega)]
  have cA : ∀ h : xH, TC h t n → h 1 2 = nI a → h 1 4 = 0 → DC h p NL G w → ∃ h1 : xH, (∀ c, ¬ c = 1 → h1 c = h c) ∧ h1 1 1 = h 1 1 ∧ h1 1 2 = nI (nmE t n a) ∧ h1 1 4 = nI (nmF t n 0 99 a) ∧ h1 1 5 = (if nmF t n 0 99 a = 0 then h 1 5 else nI (skB t n a)) ∧ ∀ Q : Option Value → xG → xH → Prop, EV X mX4_readGoer 0 0 0 [.ref 1, .ref p, .null, .null] [] (Gb sw) h Q = EV X mX4_readGoer 0 0 7 [.ref 1, .ref p, .null, .null] [.int (nI (nmV t n a))] (Gb sw) h1 Q := fun h hT h2 h4 hD => by
    obtain ⟨h1, a1, a2, a3, a4, a5, a6, a7⟩ := c_num X sw hn ha hT h2 h4 0 99 (by omega) (by omega)
    have a7' : ∀ Q : Option Value → xG → xH → Prop, EV X mX4_readNumber 0 0 0 [.ref 1, .int 0, .int 99, .null, .null] [] (Gb sw) h Q = Q (some (.int (nI (nmV t n a)))) (Gb sw) h1 := a7
    refine ⟨h1, a1, a2, a3, a5, a6, fun Q => ?_⟩
    simp only [eX4_readGoer_0, eX4_readGoer_1, eX4_readGoer_2, eX4_readGoer_4, eX4_readGoer_8, eX4_readGoer_9, eX4_readGoer_10, eX4_readGoer_11, eX4_readGoer_14, eX4_readGoer_15, eX4_readGoer_16, eX4_readGoer_19, eX4_readGoer_20, eX4_readGoer_23, eX4_readGoer_26, eX4_readGoer_27, eX4_readGoer_28, eX4_readGoer_29, eX4_readGoer_32, Option.toList_some, Option.toList_none, List.cons_append, List.nil_append, is01_0, is01_1, true_and, hp, a7']
  by_cases f1 : nmF t n 0 99 a = 0
  · obtain ⟨v1, v1'⟩ := F1' f1
    by_cases f2 : nmF t n 0 4 (nmE t n a) = 0
    · obtain ⟨v2, v2'⟩ := F2' f2
      have e0 : ∀ x, ¬ x = 40 + G → ¬ x = 30 + G → xp (xp w (40 + G) (nI (nmV t n a))) (30 + G) (nI (nmV t n (nmE t n a))) x = w x := fun x q1 q2 => by rw [xpn _ _ _ _ q2, xpn _ _ _ _ q1]
      have w0 : xp (xp w (40 + G) (nI (nmV t n a))) (30 + G) (nI (nmV t n (nmE t n a))) (40 + G) = nI (nmV t n a) := by rw [xpn _ _ _ _ (by omega), xps]
      have w1 : xp (xp w (40 + G) (nI (nmV t n a))) (30 + G) (nI (nmV t n (nmE t n a))) (30 + G) = nI (nmV t n (nmE t n a)) := xps _ _ _
      obtain ⟨⟨p1, p2, p3, p4, p5, p6, p7⟩, q1, q2, q3⟩ := id hW
      refine ⟨0, 0, nmE t n (nmE t n a), NL, G + 1, xp (xp w (40 + G) (nI (nmV t n a))) (30 + G) (nI (nmV t n (nmE t n a))), by omega, fun _ => ⟨by omega, by omega, ?_⟩, fun sw h hT h14 hD => ?_, fun h hT h2 h4 hD => ?_⟩
      · refine ⟨⟨p1, by omega, ?_, ?_, ?_, fun k hk => ?_, fun k hk => ?_⟩, ?_, fun k hk => ?_, ?_⟩
        · rw [e0 _ (by omega) (by omega)]; exact p3
        · rw [e0 _ (by omega) (by omega)]; exact fun z => absurd z hw
        · rw [e0 _ (by omega) (by omega), e0 _ (by omega) (by omega), e0 _ (by omega) (by omega)]; exact p5
        · rw [e0 _ (by omega) (by omega), e0 _ (by omega) (by omega)]; exact p6 k hk
        · by_cases z : k = G
          · rw [z, w1]
            exact nI_rg (L := 0) (M := 4) v2 v2' (by omega)
          · rw [e0 _ (by omega) (by omega)]; exact p7 k (by omega)
        · rw [e0 _ (by omega) (by omega)]; exact q1
        · by_cases z : k = G
          · rw [z, w0]
            exact nI_rg (L := 0) (M := 99) v1 v1' (by omega)
          · rw [e0 _ (by omega) (by omega)]; exact q2 k (by omega)
        · rw [e0 _ (by omega) (by omega)]; exact q3
      · obtain ⟨h1, a1, a2, a2', a3, a4, a5⟩ := mA sw h hT h14 hD
        obtain ⟨b1, b2, b3⟩ := a3 f1
        rw [if_pos f1] at a4
        have hT2 : TM (xu h1 149 G (h1 140 15)) t n := hT.mv (by rw [xun _ _ _ _ _ (by omega)]; exact a2 12 (by omega) (by omega)) (by rw [xun _ _ _ _ _ (by omega)]; exact a1 146 (by omega))
        obtain ⟨h3, c1, c2, c3, c4, c5⟩ := m_num X sw hn m3 hT2 (by rw [xun _ _ _ _ _ (by omega)]; exact b1) 0 4 (by omega) (by omega)
        obtain ⟨d1, d2, d3⟩ := c3 f2
        rw [if_pos f2] at c4
        have kk : ∀ k, ¬ k = 22 → ¬ (13 ≤ k ∧ k ≤ 16) → h3 140 k = h 140 k := fun k q1 q2 => by rw [c2 k q2, xun _ _ _ _ _ (by omega), a2 k q2 q1]
        have oo : ∀ c, ¬ c = 140 → ¬ c = 149 → h3 c = h c := fun c hc hc2 => by rw [c1 c hc, xun _ _ _ _ _ hc2, a1 c hc]
        have o149 : h3 149 = xp (h 149) G (nI (nmV t n a)) := by rw [c1 149 (by omega), xus, b2, a1 149 (by omega)]
        refine ⟨xu h3 150 G (h3 140 15), ⟨fun c q1 q2 => by rw [xun _ _ _ _ _ (by omega), oo c q1 (by omega)], fun k hk => by rw [xun _ _ _ _ _ (by omega), kk k (by omega) (by omega)], fun _ => ⟨?_, ?_, ⟨?_, ?_, ?_, ?_, ?_, ?_⟩, fun k hk => ?_, fun k hk => ?_⟩, fun q => absurd rfl q⟩, fun Q => ?_⟩
        · rw [xun _ _ _ _ _ (by omega), c4, xun _ _ _ _ _ (by omega), a4]
        · rw [xun _ _ _ _ _ (by omega), d1]
        · rw [xun _ _ _ _ _ (by omega), kk _ (by omega) (by omega), e0 _ (by omega) (by omega)]; exact hD.1.1
        · rw [xun _ _ _ _ _ (by omega), kk _ (by omega) (by omega), e0 _ (by omega) (by omega), e0 _ (by omega) (by omega)]; exact hD.1.2.1
        · rw [xun _ _ _ _ _ (by omega), kk _ (by omega) (by omega)]; exact hD.1.2.2.1
        · rw [xun _ _ _ _ _ (by omega), c2 22 (by omega), xun _ _ _ _ _ (by omega), a2']
        · rw [xun _ _ _ _ _ (by omega), kk _ (by omega) (by omega), e0 _ (by omega) (by omega)]; exact hD.1.2.2.2.2.1
        · rw [xun _ _ _ _ _ (by omega), kk _ (by omega) (by omega), e0 _ (by omega) (by omega)]; exact hD.1.2.2.2.2.2
        · rw [xun _ _ _ _ _ (by omega), xun _ _ _ _ _ (by omega), oo _ (by omega) (by omega), oo _ (by omega) (by omega), e0 _ (by omega) (by omega), e0 _ (by omega) (by omega)]; exact hD.2.1 k hk
        · rw [xun _ _ _ _ _ (show ¬ 149 = 150 by omega), xus, o149]
          by_cases z : k = G
          · rw [z, xps, xps, w0, w1, d2]; exact ⟨rfl, rfl⟩
          · rw [xpn _ _ _ _ z, xpn _ _ _ _ z, e0 _ (by omega) (by omega), e0 _ (by omega) (by omega), oo 150 (by omega) (by omega)]
            exact hD.2.2 k (by omega)
        · have c5' : ∀ Q : Option Value → xG → xH → Prop, EV X mX6_takeNumber 0 0 0 [.ref 140, .int 0, .int 4, .null] [] (Gb sw) (xu h1 149 G (h1 140 15)) Q = Q (some (.int (nI (nmF t n 0 4 (nmE t n a))))) (Gb sw) h3 := c5
          rw [a5 Q]
          simp only [eX6_takeGoer_0, eX6_takeGoer_1, eX6_takeGoer_4, eX6_takeGoer_5, eX6_takeGoer_6, eX6_takeGoer_7, eX6_takeGoer_10, eX6_takeGoer_11, eX6_takeGoer_12, eX6_takeGoer_15, eX6_takeGoer_16, eX6_takeGoer_17, eX6_takeGoer_20, eX6_takeGoer_21, eX6_takeGoer_22, eX6_takeGoer_24, eX6_takeGoer_27, eX6_takeGoer_28, eX6_takeGoer_29, eX6_takeGoer_32, eX6_takeGoer_33, eX6_takeGoer_36, eX6_takeGoer_37, eX6_takeGoer_38, eX6_takeGoer_41, eX6_takeGoer_42, eX6_takeGoer_43, eX6_takeGoer_44, eX6_takeGoer_47, Option.toList_some, Option.toList_none, List.cons_append, List.nil_append, is01_0, is01_1, true_and, f1, n0e, n00, if_true, if_false, not_true, not_false_iff, m_into c5' k150 (show G < xz 150 by rw [s150]; exact hN) (show xz 150 ≤ 8 by rw [s150]; omega), f2]
      · obtain ⟨h1, a1, a2, a3, a5, a6, a7⟩ := cA h hT h2 h4 hD
        rw [f1] at a5
        rw [if_pos f1] at a6
        have a5' : h1 1 4 = 0 := a5
        obtain ⟨h3, c1, c2, c3, c4, c5, c6, c7⟩ := c_num X sw hn m3 (h := h1) (hT.mv a2 (a1 2 (by omega))) a3 a5' 0 4 (by omega) (by omega)
        rw [f2] at c5
        rw [if_pos f2] at c6
        have c5' : h3 1 4 = 0 := c5
        obtain ⟨h5, d1, d2, d3, d4, d5, d6⟩ := c_close X sw hn m6 (h := h3) ((hT.mv a2 (a1 2 (by omega))).mv c2 (c1 2 (by omega))) c3 c5'
        have c7' : ∀ Q : Option Value → xG → xH → Prop, EV X mX4_readNumber 0 0 0 [.ref 1, .int 0, .int 4, .null, .null] [] (Gb sw) h1 Q = Q (some (.int (nI (nmV t n (nmE t n a))))) (Gb sw) h3 := c7
        have oo : ∀ c, ¬ c = 1 → h5 c = h c := fun c hc => by rw [d1 c hc, c1 c hc, a1 c hc]
        rw [if_pos rfl, if_pos rfl]
        by_cases f3 : clF t n (nmE t n (nmE t n a)) = 0
        · rw [f3] at d4 ⊢
          rw [if_pos f3] at d5
          have dp1 : ¬ p = p + 3 := by omega
          have dp2 : ¬ p = p + 4 := by omega
          refine ⟨xu (xu (xu h5 (p + 3) G (nI (nmV t n a))) (p + 4) G (nI (nmV t n (nmE t n a)))) p 6 (nI (G + 1)), ⟨fun c q1 q2 => by rw [xun _ _ _ _ _ (by omega), xun _ _ _ _ _ (by omega), xun _ _ _ _ _ (by omega), oo c q1], ?_, ?_, fun _ => ⟨?_, ?_, ⟨⟨?_, ?_, ?_, ?_, ?_, ?_⟩, fun k hk => ?_, fun k hk => ?_⟩, ?_, fun k hk => ?_⟩, fun q => absurd rfl q⟩, fun Q => ?_⟩
          · rw [xun _ _ _ _ _ (by omega), xun _ _ _ _ _ (by omega), xun _ _ _ _ _ (by omega), d2, c2, a2]
          · rw [xun _ _ _ _ _ (by omega), xun _ _ _ _ _ (by omega), xun _ _ _ _ _ (by omega), d4]
          · rw [xun _ _ _ _ _ (by omega), xun _ _ _ _ _ (by omega), xun _ _ _ _ _ (by omega), d5, c6, a6]
          · rw [xun _ _ _ _ _ (by omega), xun _ _ _ _ _ (by omega), xun _ _ _ _ _ (by omega), d3.1 f3]
          · rw [xus, xpn _ _ _ _ (by omega), xun _ _ _ _ _ (by omega), xun _ _ _ _ _ (by omega), oo _ (by omega), e0 _ (by omega) (by omega)]; exact hD.1.1.1
          · rw [xus, xpn _ _ _ _ (by omega), xun _ _ _ _ _ (by omega), xun _ _ _ _ _ (by omega), oo _ (by omega), e0 _ (by omega) (by omega)]; exact hD.1.1.2.1
          · rw [xus, xpn _ _ _ _ (by omega), xun _ _ _ _ _ (by omega), xun _ _ _ _ _ (by omega), oo _ (by omega), e0 _ (by omega) (by omega)]; exact hD.1.1.2.2.1
          · rw [xus, xpn _ _ _ _ (by omega), xun _ _ _ _ _ (by omega), xun _ _ _ _ _ (by omega), oo _ (by omega), e0 _ (by omega) (by omega)]; exact hD.1.1.2.2.2.1
          · rw [xus, xpn _ _ _ _ (by omega), xun _ _ _ _ _ (by omega), xun _ _ _ _ _ (by omega), oo _ (by omega)]; exact hD.1.1.2.2.2.2.1
          · rw [xus, xps]
          · rw [xun _ _ _ _ _ (by omega), xun _ _ _ _ _ (by omega), xun _ _ _ _ _ (by omega), xun _ _ _ _ _ (by omega), xun _ _ _ _ _ (by omega), xun _ _ _ _ _ (by omega), oo _ (by omega), oo _ (by omega), e0 _ (by omega) (by omega), e0 _ (by omega) (by omega)]; exact hD.1.2.1 k hk
          · rw [xun _ _ _ _ _ (show ¬ p + 4 = p by omega), xus, xun _ _ _ _ _ (show ¬ p + 4 = p + 3 by omega), oo _ (by omega)]
            by_cases z : k = G
            · rw [z, xps, w1]
            · rw [xpn _ _ _ _ z, e0 _ (by omega) (by omega)]; exact hD.1.2.2 k (by omega)
          · rw [xus, xpn _ _ _ _ (by omega), xun _ _ _ _ _ (by omega), xun _ _ _ _ _ (by omega), oo _ (by omega), e0 _ (by omega) (by omega)]; exact hD.2.1
          · rw [xun _ _ _ _ _ (show ¬ p + 3 = p by omega), xun _ _ _ _ _ (show ¬ p + 3 = p + 4 by omega), xus, oo _ (by omega)]
            by_cases z : k = G
            · rw [z, xps, w0]
            · rw [xpn _ _ _ _ z, e0 _ (by omega) (by omega)]; exact hD.2.2 k (by omega)
          · have d4' : h5 1 4 = 0 := d4
            have e5 : h5 p 6 = nI G := by rw [oo _ (by omega)]; exact hD.1.1.2.2.2.2.2
            have l6 : ¬ (8 : Int32) ≤ nI G := nI_ge (b := 8) (by omega) (by omega)
            have l6' : nI G < (8 : Int32) := nI_lt (b := 8) (by omega) (by omega)
            rw [a7 Q]
            simp only [eX4_readGoer_0, eX4_readGoer_1, eX4_readGoer_2, eX4_readGoer_4, eX4_readGoer_7, eX4_readGoer_8, eX4_readGoer_9, eX4_readGoer_10, eX4_readGoer_11, eX4_readGoer_14, eX4_readGoer_15, eX4_readGoer_16, eX4_readGoer_19, eX4_readGoer_20, eX4_readGoer_23, eX4_readGoer_26, eX4_readGoer_27, eX4_readGoer_28, eX4_readGoer_29, eX4_readGoer_32, eX2_addGoer_0, eX2_addGoer_1, eX2_addGoer_4, eX2_addGoer_6, eX2_addGoer_9, eX2_addGoer_10, eX2_addGoer_13, eX2_addGoer_14, eX2_addGoer_17, eX2_addGoer_18, eX2_addGoer_19, eX2_addGoer_20, eX2_addGoer_23, eX2_addGoer_24, eX2_addGoer_27, eX2_addGoer_28, eX2_addGoer_29, eX2_addGoer_30, eX2_addGoer_31, eX2_addGoer_34, eX2_addGoer_35, eX2_addGoer_36, eX2_addGoer_39, Option.toList_some, Option.toList_none, List.cons_append, List.nil_append, is01_0, is01_1, true_and, hp, not_true, not_false_iff, if_true, if_false, c7', d6, d4', e5, l6, l6', hcN, hiN, xun _ _ _ _ _ dp1, xun _ _ _ _ _ dp2, nI_1]
        · have hc1 := clF_1 f3
          rw [hc1] at d4 d5 ⊢
          rw [if_neg (by omega)] at d5
          refine ⟨h5, ⟨fun c q1 q2 => oo c q1, by rw [d2, c2, a2], d4, fun q => absurd q (by omega), fun _ => ⟨d5, skB t n (nmE t n (nmE t n a)), by have := (skB_b (t := t) m6).2.1; omega, d3.2 f3⟩⟩, fun Q => ?_⟩
          have d4' : ¬ h5 1 4 = 0 := by rw [d4]; decide
          rw [a7 Q]
          simp only [eX4_readGoer_0, eX4_readGoer_1, eX4_readGoer_2, eX4_readGoer_4, eX4_readGoer_7, eX4_readGoer_8, eX4_readGoer_9, eX4_readGoer_10, eX4_readGoer_11, eX4_readGoer_14, eX4_readGoer_15, eX4_readGoer_16, eX4_readGoer_19, eX4_readGoer_20, eX4_readGoer_23, eX4_readGoer_26, eX4_readGoer_27, eX4_readGoer_28, eX4_readGoer_29, eX4_readGoer_32, Option.toList_some, Option.toList_none, List.cons_append, List.nil_append, is01_0, is01_1, true_and, hp, not_true, not_false_iff, if_true, if_false, c7', d6, d4']
    · refine ⟨nmF t n 0 4 (nmE t n a), skB t n (nmE t n a), 0, NL, G, w, by omega, fun q => absurd q f2, fun sw h hT h14 hD => ?_, fun h hT h2 h4 hD => ?_⟩
      · obtain ⟨h1, a1, a2, a2', a3, a4, a5⟩ := mA sw h hT h14 hD
        obtain ⟨b1, b2, b3⟩ := a3 f1
        have hT2 : TM (xu h1 149 G (h1 140 15)) t n := hT.mv (by rw [xun _ _ _ _ _ (by omega)]; exact a2 12 (by omega) (by omega)) (by rw [xun _ _ _ _ _ (by omega)]; exact a1 146 (by omega))
        obtain ⟨h3, c1, c2, c3, c4, c5⟩ := m_num X sw hn m3 hT2 (by rw [xun _ _ _ _ _ (by omega)]; exact b1) 0 4 (by omega) (by omega)
        rw [if_neg f2] at c4
        refine ⟨xu h3 150 G (h3 140 15), ⟨fun c q1 q2 => by rw [xun _ _ _ _ _ (by omega), c1 c q1, xun _ _ _ _ _ (by omega), a1 c q1], fun k hk => by rw [xun _ _ _ _ _ (by omega), c2 k (by omega), xun _ _ _ _ _ (by omega), a2 k (by omega) (by omega)], fun q => absurd q f2, fun _ => by rw [xun _ _ _ _ _ (by omega), c4]⟩, fun Q => ?_⟩
        have c5' : ∀ Q : Option Value → xG → xH → Prop, EV X mX6_takeNumber 0 0 0 [.ref 140, .int 0, .int 4, .null] [] (Gb sw) (xu h1 149 G (h1 140 15)) Q = Q (some (.int (nI (nmF t n 0 4 (nmE t n a))))) (Gb sw) h3 := c5
        rw [a5 Q]
        simp only [eX6_takeGoer_0, eX6_takeGoer_1, eX6_takeGoer_4, eX6_takeGoer_5, eX6_takeGoer_6, eX6_takeGoer_7, eX6_takeGoer_10, eX6_takeGoer_11, eX6_takeGoer_12, eX6_takeGoer_15, eX6_takeGoer_16, eX6_takeGoer_17, eX6_takeGoer_20, eX6_takeGoer_21, eX6_takeGoer_22, eX6_takeGoer_24, eX6_takeGoer_27, eX6_takeGoer_28, eX6_takeGoer_29, eX6_takeGoer_32, eX6_takeGoer_33, eX6_takeGoer_36, eX6_takeGoer_37, eX6_takeGoer_38, eX6_takeGoer_41, eX6_takeGoer_42, eX6_takeGoer_43, eX6_takeGoer_44, eX6_takeGoer_47, Option.toList_some, Option.toList_none, List.cons_append, List.nil_append, is01_0, is01_1, true_and, f1, n0e, n00, if_true, if_false, not_true, not_false_iff, m_into c5' k150 (show G < xz 150 by rw [s150]; exact hN) (show xz 150 ≤ 8 by rw [s150]; omega)]
      · rw [if_neg f2, if_neg f2]
        obtain ⟨h1, a1, a2, a3, a5, a6, a7⟩ := cA h hT h2 h4 hD
        rw [f1] at a5
        have a5' : h1 1 4 = 0 := a5
        obtain ⟨h3, c1, c2, c3, c4, c5, c6, c7⟩ := c_num X sw hn m3 (h := h1) (hT.mv a2 (a1 2 (by omega))) a3 a5' 0 4 (by omega) (by omega)
        rw [if_neg f2] at c6
        have c7' : ∀ Q : Option Value → xG → xH → Prop, EV X mX4_readNumber 0 0 0 [.ref 1, .int 0, .int 4, .null, .null] [] (Gb sw) h1 Q = Q (some (.int (nI (nmV t n (nmE t n a))))) (Gb sw) h3 := c7
        have d4' : ¬ h3 1 4 = 0 := by rw [c5, z2]; exact f2
        refine ⟨h3, ⟨fun c q1 q2 => by rw [c1 c q1, a1 c q1], by rw [c2, a2], c5, fun q => absurd q f2, fun _ => ⟨c6, nmE t n (nmE t n a), by omega, c3⟩⟩, fun Q => ?_⟩
        rw [a7 Q]
        simp only [eX4_readGoer_0, eX4_readGoer_1, eX4_readGoer_2, eX4_readGoer_4, eX4_readGoer_7, eX4_readGoer_8, eX4_readGoer_9, eX4_readGoer_10, eX4_readGoer_11, eX4_readGoer_14, eX4_readGoer_15, eX4_readGoer_16, eX4_readGoer_19, eX4_readGoer_20, eX4_readGoer_23, eX4_readGoer_26, eX4_readGoer_27, eX4_readGoer_28, eX4_readGoer_29, eX4_readGoer_32, Option.toList_some, Option.toList_none, List.cons_append, List.nil_append, is01_0, is01_1, true_and, hp, not_true, not_false_iff, if_true, if_false, c7', c_close2 d4', d4']
  · refine ⟨nmF t n 0 99 a, skB t n a, 0, NL, G, w, by omega, fun q => absurd q f1, fun sw h hT h14 hD => ?_, fun h hT h2 h4 hD => ?_⟩
    · obtain ⟨h1, a1, a2, a2', a3, a4, a5⟩ := mA sw h hT h14 hD
      rw [if_neg f1] at a4
      refine ⟨xu h1 149 G (h1 140 15), ⟨fun c q1 q2 => by rw [xun _ _ _ _ _ (by omega), a1 c q1], fun k hk => by rw [xun _ _ _ _ _ (by omega), a2 k (by omega) (by omega)], fun q => absurd q f1, fun _ => by rw [xun _ _ _ _ _ (by omega), a4]⟩, fun Q => ?_⟩
      rw [a5 Q]
      simp only [eX6_takeGoer_0, eX6_takeGoer_1, eX6_takeGoer_4, eX6_takeGoer_5, eX6_takeGoer_6, eX6_takeGoer_7, eX6_takeGoer_10, eX6_takeGoer_11, eX6_takeGoer_12, eX6_takeGoer_15, eX6_takeGoer_16, eX6_takeGoer_17, eX6_takeGoer_20, eX6_takeGoer_21, eX6_takeGoer_22, eX6_takeGoer_24, eX6_takeGoer_27, eX6_takeGoer_28, eX6_takeGoer_29, eX6_takeGoer_32, eX6_takeGoer_33, eX6_takeGoer_36, eX6_takeGoer_37, eX6_takeGoer_38, eX6_takeGoer_41, eX6_takeGoer_42, eX6_takeGoer_43, eX6_takeGoer_44, eX6_takeGoer_47, Option.toList_some, Option.toList_none, List.cons_append, List.nil_append, is01_0, is01_1, true_and, z1, z1', f1, if_true, if_false, not_false_iff]
    · rw [if_neg f1, if_neg f1]
      obtain ⟨h1, a1, a2, a3, a5, a6, a7⟩ := cA h hT h2 h4 hD
      rw [if_neg f1] at a6
      have d4' : ¬ h1 1 4 = 0 := by rw [a5, z1]; exact f1
      refine ⟨h1, ⟨fun c q1 q2 => a1 c q1, a2, a5, fun q => absurd q f1, fun _ => ⟨a6, nmE t n a, by omega, a3⟩⟩, fun Q => ?_⟩
      rw [a7 Q]
      simp only [eX4_readGoer_0, eX4_readGoer_1, eX4_readGoer_2, eX4_readGoer_4, eX4_readGoer_7, eX4_readGoer_8, eX4_readGoer_9, eX4_readGoer_10, eX4_readGoer_11, eX4_readGoer_14, eX4_readGoer_15, eX4_readGoer_16, eX4_readGoer_19, eX4_readGoer_20, eX4_readGoer_23, eX4_readGoer_26, eX4_readGoer_27, eX4_readGoer_28, eX4_readGoer_29, eX4_readGoer_32, Option.toList_some, Option.toList_none, List.cons_append, List.nil_append, is01_0, is01_1, true_and, hp, not_true, not_false_iff, if_true, if_false, c_num2 d4', c_close2 d4', d4']
theorem b_price (X : (Nat → Int32) × Nat) (sw : Bool) (hn : n ≤ 240) {p : Nat} (hp : isP p) {a NL G : Nat} {w : Nat → Int32} (ha : a ≤ n) (hW : DW NL G w) : Body X sw t n p mX4_readPrice [.ref 1, .ref p, .null] mX6_takePrice [.ref 140, .null] a NL G w := by
  have hpr := hp.r
  obtain ⟨m1, m2, m3⟩ := nm_b (t := t) ha
  obtain ⟨F1, F1'⟩ := nmF_b (t := t) (n := n) (a := a) (L := 1) (M := 99)
  obtain ⟨z1, z1'⟩ := nz (f := nmF t n 1 99 a) (by omega)
  have mA : ∀ (sw : Bool) (h : xH), TM h t n → h 140 14 = nI a → ∃ h1 : xH, (∀ c, ¬ c = 140 → h1 c = h c) ∧ (∀ k, ¬ (13 ≤ k ∧ k ≤ 16) → ¬ k = 26 → h1 140 k = h 140 k) ∧ h1 140 26 = 1 ∧ (nmF t n 1 99 a = 0 → h1 140 14 = nI (nmE t n a) ∧ h1 140 15 = nI (nmV t n a) ∧ h1 140 16 = nI (skB t n a)) ∧ h1 140 13 = (if nmF t n 1 99 a = 0 then h 140 13 else nI (skB t n a)) ∧ ∀ Q : Option Value → xG → xH → Prop, EV X mX6_takePrice 0 0 0 [.ref 140, .null] [] (Gb sw) h Q = Q (some (.int (nI (nmF t n 1 99 a)))) (Gb sw) (xu h1 140 25 (h1 140 15)) := fun sw h hT h14 => by
    obtain ⟨h1, a1, a2, a3, a4, a5⟩ := m_num X sw hn ha (h := xu h 140 26 1) (hT.mv (by simp only [xun, xus, xps, xpn, ne_eq, not_false_eq_true, Nat.reduceEqDiff, not_false_iff]) (by simp only [xun, xus, xps, xpn, ne_eq, not_false_eq_true, Nat.reduceEqDiff, not_false_iff])) (by simp only [xun, xus, xps, xpn, ne_eq, not_false_eq_true, Nat.reduceEqDiff, not_false_iff]; exact h14) 1 99 (by omega) (by omega)
    refine ⟨h1, fun c hc => by rw [a1 c hc, xun _ _ _ _ _ hc], fun k q1 q2 => by rw [a2 k q1, xus, xpn _ _ _ _ q2], by rw [a2 26 (by omega), xus, xps], a3, by rw [a4]; simp only [xun, xus, xps, xpn, ne_eq, not_false_eq_true, Nat.reduceEqDiff, not_false_iff], fun Q => ?_⟩
    have a5' : ∀ Q : Option Value → xG → xH → Prop, EV X mX6_takeNumber 0 0 0 [.ref 140, .int 1, .int 99, .null] [] (Gb sw) (xu h 140 26 1) Q = Q (some (.int (nI (nmF t n 1 99 a)))) (Gb sw) h1 := a5
    simp only [eX6_takePrice_0, eX6_takePrice_1, eX6_takePrice_2, eX6_takePrice_5, eX6_takePrice_6, eX6_takePrice_7, eX6_takePrice_9, eX6_takePrice_12, eX6_takePrice_13, eX6_takePrice_14, eX6_takePrice_15, eX6_takePrice_18, eX6_takePrice_21, eX6_takePrice_22, Option.toList_some, Option.toList_none, List.cons_append, List.nil_append, is01_0, is01_1, true_and, a5']
  have cA : ∀ h : xH, TC h t n → h 1 2 = nI a → h 1 4 = 0 → ∃ h1 : xH, (∀ c, ¬ c = 1 → h1 c = h c) ∧ h1 1 1 = h 1 1 ∧ h1 1 2 = nI (nmE t n a) ∧ h1 1 4 = nI (nmF t n 1 99 a) ∧ h1 1 5 = (if nmF t n 1 99 a = 0 then h 1 5 else nI (skB t n a)) ∧ ∀ Q : Option Value → xG → xH → Prop, EV X mX4_readPrice 0 0 0 [.ref 1, .ref p, .null] [] (Gb sw) h Q = EV X mX4_readPrice 0 0 7 [.ref 1, .ref p, .null] [.int (nI (nmV t n a))] (Gb sw) h1 Q := fun h hT h2 h4 => by
    obtain ⟨h1, a1, a2, a3, a4, a5, a6, a7⟩ := c_num X sw hn ha hT h2 h4 1 99 (by omega) (by omega)
    have a7' : ∀ Q : Option Value → xG → xH → Prop, EV X mX4_readNumber 0 0 0 [.ref 1, .int 1, .int 99, .null, .null] [] (Gb sw) h Q = Q (some (.int (nI (nmV t n a)))) (Gb sw) h1 := a7
    refine ⟨h1, a1, a2, a3, a5, a6, fun Q => ?_⟩
    simp only [eX4_readPrice_0, eX4_readPrice_1, eX4_readPrice_2, eX4_readPrice_4, eX4_readPrice_8, eX4_readPrice_9, eX4_readPrice_12, eX4_readPrice_13, eX4_readPrice_16, eX4_readPrice_19, eX4_readPrice_20, eX4_readPrice_21, eX4_readPrice_24, Option.toList_some, Option.toList_none, List.cons_append, List.nil_append, is01_0, is01_1, true_and, hp, a7']
  by_cases f1 : nmF t n 1 99 a = 0
  · obtain ⟨v1, v1'⟩ := F1' f1
    have e0 : ∀ x, ¬ x = 3 → ¬ x = 2 → xp (xp w 3 1) 2 (nI (nmV t n a)) x = w x := fun x q1 q2 => by rw [xpn _ _ _ _ q2, xpn _ _ _ _ q1]
    have w3 : xp (xp w 3 1) 2 (nI (nmV t n a)) 3 = 1 := by rw [xpn _ _ _ _ (by omega), xps]
    have w2 : xp (xp w 3 1) 2 (nI (nmV t n a)) 2 = nI (nmV t n a) := xps _ _ _
    obtain ⟨⟨p1, p2, p3, p4, p5, p6, p7⟩, q1, q2, q3⟩ := id hW
    have hr := nI_rg (L := 1) (M := 99) v1 v1' (by omega)
    refine ⟨0, 0, nmE t n a, NL, G, xp (xp w 3 1) 2 (nI (nmV t n a)), by omega, fun _ => ⟨by omega, by omega, ?_⟩, fun sw h hT h14 hD => ?_, fun h hT h2 h4 hD => ?_⟩
    · refine ⟨⟨p1, p2, ?_, ?_, ?_, fun k hk => ?_, fun k hk => ?_⟩, ?_, fun k hk => ?_, ?_⟩
      · rw [e0 _ (by omega) (by omega)]; exact p3
      · rw [e0 _ (by omega) (by omega), e0 _ (by omega) (by omega)]; exact p4
      · rw [e0 _ (by omega) (by omega), e0 _ (by omega) (by omega), w2]
        exact fun z => ⟨(p5 z).1, (p5 z).2.1, hr.1, hr.2⟩
      · rw [e0 _ (by omega) (by omega), e0 _ (by omega) (by omega)]; exact p6 k hk
      · rw [e0 _ (by omega) (by omega)]; exact p7 k hk
      · rw [w3]; exact Or.inr rfl
      · rw [e0 _ (by omega) (by omega)]; exact q2 k hk
      · rw [w2]; exact hr
    · obtain ⟨h1, a1, a2, a2', a3, a4, a5⟩ := mA sw h hT h14
      obtain ⟨b1, b2, b3⟩ := a3 f1
      rw [if_pos f1] at a4
      refine ⟨xu h1 140 25 (h1 140 15), ⟨fun c q1 q2 => by rw [xun _ _ _ _ _ q1, a1 c q1], fun k hk => by rw [xus, xpn _ _ _ _ (by omega), a2 k (by omega) (by omega)], fun _ => ⟨?_, ?_, ⟨?_, ?_, ?_, ?_, ?_, ?_⟩, fun k hk => ?_, fun k hk => ?_⟩, fun q => absurd rfl q⟩, fun Q => ?_⟩
      · rw [xus, xpn _ _ _ _ (by omega), a4]
      · rw [xus, xpn _ _ _ _ (by omega), b1]
      · rw [xus, xpn _ _ _ _ (by omega), a2 _ (by omega) (by omega), e0 _ (by omega) (by omega)]; exact hD.1.1
      · rw [e0 0 (by omega) (by omega), e0 1 (by omega) (by omega), xus, xpn _ _ _ _ (by omega), a2 18 (by omega) (by omega)]; exact hD.1.2.1
      · rw [xus, xpn _ _ _ _ (by omega), a2 _ (by omega) (by omega)]; exact hD.1.2.2.1
      · rw [xus, xpn _ _ _ _ (by omega), a2 _ (by omega) (by omega)]; exact hD.1.2.2.2.1
      · rw [xus, xps, w2, b2]
      · rw [xus, xpn _ _ _ _ (by omega), a2', w3]
      · rw [xun _ _ _ _ _ (by omega), xun _ _ _ _ _ (by omega), a1 _ (by omega), a1 _ (by omega), e0 _ (by omega) (by omega), e0 _ (by omega) (by omega)]; exact hD.2.1 k hk
      · rw [xun _ _ _ _ _ (by omega), xun _ _ _ _ _ (by omega), a1 _ (by omega), a1 _ (by omega), e0 _ (by omega) (by omega), e0 _ (by omega) (by omega)]; exact hD.2.2 k hk
      · rw [a5 Q, f1]
    · obtain ⟨h1, a1, a2, a3, a5, a6, a7⟩ := cA h hT h2 h4
      rw [f1] at a5
      rw [if_pos f1] at a6
      have a5' : h1 1 4 = 0 := a5
      obtain ⟨h5, d1, d2, d3, d4, d5, d6⟩ := c_close X sw hn m3 (h := h1) (hT.mv a2 (a1 2 (by omega))) a3 a5'
      have oo : ∀ c, ¬ c = 1 → h5 c = h c := fun c hc => by rw [d1 c hc, a1 c hc]
      rw [if_pos rfl, if_pos rfl]
      by_cases f3 : clF t n (nmE t n a) = 0
      · rw [f3] at d4 ⊢
        rw [if_pos f3] at d5
        refine ⟨xu (xu h5 p 1 1) p 4 (nI (nmV t n a)), ⟨fun c q1 q2 => by rw [xun _ _ _ _ _ (by omega), xun _ _ _ _ _ (by omega), oo c q1], ?_, ?_, fun _ => ⟨?_, ?_, ⟨⟨?_, ?_, ?_, ?_, ?_, ?_⟩, fun k hk => ?_, fun k hk => ?_⟩, ?_, fun k hk => ?_⟩, fun q => absurd rfl q⟩, fun Q => ?_⟩
        · rw [xun _ _ _ _ _ (by omega), xun _ _ _ _ _ (by omega), d2, a2]
        · rw [xun _ _ _ _ _ (by omega), xun _ _ _ _ _ (by omega), d4]
        · rw [xun _ _ _ _ _ (by omega), xun _ _ _ _ _ (by omega), d5, a6]
        · rw [xun _ _ _ _ _ (by omega), xun _ _ _ _ _ (by omega), d3.1 f3]
        · rw [xus, xpn _ _ _ _ (by omega), xus, xpn _ _ _ _ (by omega), oo _ (by omega), e0 _ (by omega) (by omega)]; exact hD.1.1.1
        · rw [xus, xpn _ _ _ _ (by omega), xus, xpn _ _ _ _ (by omega), oo _ (by omega), e0 _ (by omega) (by omega)]; exact hD.1.1.2.1
        · rw [xus, xpn _ _ _ _ (by omega), xus, xpn _ _ _ _ (by omega), oo _ (by omega), e0 _ (by omega) (by omega)]; exact hD.1.1.2.2.1
        · rw [xus, xps, w2]
        · rw [xus, xpn _ _ _ _ (by omega), xus, xpn _ _ _ _ (by omega), oo _ (by omega)]; exact hD.1.1.2.2.2.2.1
        · rw [xus, xpn _ _ _ _ (by omega), xus, xpn _ _ _ _ (by omega), oo _ (by omega)]; exact hD.1.1.2.2.2.2.2
        · rw [xun _ _ _ _ _ (by omega), xun _ _ _ _ _ (by omega), xun _ _ _ _ _ (by omega), xun _ _ _ _ _ (by omega), oo _ (by omega), oo _ (by omega), e0 _ (by omega) (by omega), e0 _ (by omega) (by omega)]; exact hD.1.2.1 k hk
        · rw [xun _ _ _ _ _ (by omega), xun _ _ _ _ _ (by omega), oo _ (by omega), e0 _ (by omega) (by omega)]; exact hD.1.2.2 k hk
        · rw [xus, xpn _ _ _ _ (by omega), xus, xps, w3]
        · rw [xun _ _ _ _ _ (by omega), xun _ _ _ _ _ (by omega), oo _ (by omega), e0 _ (by omega) (by omega)]; exact hD.2.2 k hk
        · have d4' : h5 1 4 = 0 := d4
          rw [a7 Q]
          simp only [eX4_readPrice_0, eX4_readPrice_1, eX4_readPrice_2, eX4_readPrice_4, eX4_readPrice_7, eX4_readPrice_8, eX4_readPrice_9, eX4_readPrice_12, eX4_readPrice_13, eX4_readPrice_16, eX4_readPrice_19, eX4_readPrice_20, eX4_readPrice_21, eX4_readPrice_24, eX2_setPrice_0, eX2_setPrice_1, eX2_setPrice_2, eX2_setPrice_5, eX2_setPrice_6, eX2_setPrice_7, eX2_setPrice_10, Option.toList_some, Option.toList_none, List.cons_append, List.nil_append, is01_0, is01_1, true_and, hp, not_true, not_false_iff, if_true, if_false, d6, d4']
      · have hc1 := clF_1 f3
        rw [hc1] at d4 d5 ⊢
        rw [if_neg (by omega)] at d5
        refine ⟨h5, ⟨fun c q1 q2 => oo c q1, by rw [d2, a2], d4, fun q => absurd q (by omega), fun _ => ⟨d5, skB t n (nmE t n a), by have := (skB_b (t := t) m3).2.1; omega, d3.2 f3⟩⟩, fun Q => ?_⟩
        have d4' : ¬ h5 1 4 = 0 := by rw [d4]; decide
        rw [a7 Q]
        simp only [eX4_readPrice_0, eX4_readPrice_1, eX4_readPrice_2, eX4_readPrice_4, eX4_readPrice_7, eX4_readPrice_8, eX4_readPrice_9, eX4_readPrice_12, eX4_readPrice_13, eX4_readPrice_16, eX4_readPrice_19, eX4_readPrice_20, eX4_readPrice_21, eX4_readPrice_24, Option.toList_some, Option.toList_none, List.cons_append, List.nil_append, is01_0, is01_1, true_and, hp, not_true, not_false_iff, if_true, if_false, d6, d4']
  · refine ⟨nmF t n 1 99 a, skB t n a, 0, NL, G, w, by omega, fun q => absurd q f1, fun sw h hT h14 hD => ?_, fun h hT h2 h4 hD => ?_⟩
    · obtain ⟨h1, a1, a2, a2', a3, a4, a5⟩ := mA sw h hT h14
      rw [if_neg f1] at a4
      refine ⟨xu h1 140 25 (h1 140 15), ⟨fun c q1 q2 => by rw [xun _ _ _ _ _ q1, a1 c q1], fun k hk => by rw [xus, xpn _ _ _ _ (by omega), a2 k (by omega) (by omega)], fun q => absurd q f1, fun _ => by rw [xus, xpn _ _ _ _ (by omega), a4]⟩, a5⟩
    · rw [if_neg f1, if_neg f1]
      obtain ⟨h1, a1, a2, a3, a5, a6, a7⟩ := cA h hT h2 h4
      rw [if_neg f1] at a6
      have d4' : ¬ h1 1 4 = 0 := by rw [a5, z1]; exact f1
      refine ⟨h1, ⟨fun c q1 q2 => a1 c q1, a2, a5, fun q => absurd q f1, fun _ => ⟨a6, nmE t n a, by omega, a3⟩⟩, fun Q => ?_⟩
      rw [a7 Q]
      simp only [eX4_readPrice_0, eX4_readPrice_1, eX4_readPrice_2, eX4_readPrice_4, eX4_readPrice_7, eX4_readPrice_8, eX4_readPrice_9, eX4_readPrice_12, eX4_readPrice_13, eX4_readPrice_16, eX4_readPrice_19, eX4_readPrice_20, eX4_readPrice_21, eX4_readPrice_24, Option.toList_some, Option.toList_none, List.cons_append, List.nil_append, is01_0, is01_1, true_and, hp, not_true, not_false_iff, if_true, if_false, c_close2 d4', d4']
end CL2
