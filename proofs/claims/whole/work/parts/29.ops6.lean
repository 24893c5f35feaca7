/-! operations that change text, findings, book, seed -/
section OPS
variable {X : (Nat → Int32) × Nat}
theorem OpK.two {X : (Nat → Int32) × Nat} {Mx Mm : xM} {ax am : List Value} (H : ∀ (sw : Bool) (h : xH) (NL G : Nat) (w v : Nat → Int32), Rl sw h NL G w v → ∃ (r : Int32) (h1 h2 : xH), (∀ Q : Option Value → xG → xH → Prop, EV X Mx 0 0 0 ax [] (Gb sw) h Q = Q (some (.int r)) (Gb sw) h1) ∧ (∀ Q : Option Value → xG → xH → Prop, EV X Mm 0 0 0 am [] (Gb sw) h1 Q = Q (some (.int r)) (Gb sw) h2) ∧ Rel sw h2) : OpK X Mx Mm ax am := by
  intro sw h hR
  obtain ⟨NL, G, w, v, hR⟩ := hR
  obtain ⟨r, h1, h2, e1, e2, e3⟩ := H sw h NL G w v hR
  exact ⟨r, sw, h1, h2, fun Q hq => by rw [e1]; exact hq, fun Q hq => by rw [e2]; exact hq, e3⟩
/-- the same answer, nothing changed -/
theorem OpK.same {X : (Nat → Int32) × Nat} {Mx Mm : xM} {ax am : List Value} {sw : Bool} {h : xH} {NL G : Nat} {w v : Nat → Int32} (hR : Rl sw h NL G w v) (B : Both (fun Q => EV X Mx 0 0 0 ax [] (Gb sw) h Q) (fun Q => EV X Mm 0 0 0 am [] (Gb sw) h Q) sw h) : ∃ (r : Int32) (h1 h2 : xH), (∀ Q : Option Value → xG → xH → Prop, EV X Mx 0 0 0 ax [] (Gb sw) h Q = Q (some (.int r)) (Gb sw) h1) ∧ (∀ Q : Option Value → xG → xH → Prop, EV X Mm 0 0 0 am [] (Gb sw) h1 Q = Q (some (.int r)) (Gb sw) h2) ∧ Rel sw h2 := by
  obtain ⟨r, h1, h2⟩ := B
  exact ⟨r, h, h, h1, h2, NL, G, w, v, hR⟩
theorem p_seed (x : Int32) : OpK X mX5_seed mX6_seed [.ref 0, .int x, .null] [.ref 140, .int x, .null] := OpK.two fun sw h NL G w v H => by
  by_cases c : x < 0
  · refine OpK.same H ?_
    have c2 : ¬ 0 ≤ x := by rw [Int32.not_le]; exact c
    unfold Both
    simp only [eX5_seed_0, eX5_seed_1, eX5_seed_4, eX5_seed_6, eX5_seed_7, eX5_seed_8, eX5_seed_11, eX5_seed_12, eX5_seed_13, eX5_seed_14, eX5_seed_17, eX5_seed_18, eX6_seed_0, eX6_seed_1, eX6_seed_4, eX6_seed_6, eX6_seed_7, eX6_seed_8, eX6_seed_11, eX6_seed_12, eX6_seed_13, eX6_seed_14, eX6_seed_17, eX6_seed_18, Option.toList_some, Option.toList_none, List.cons_append, List.nil_append, is01_0, is01_1, true_and, c, c2, if_true, if_false]
    first | exact ⟨_, fun _ => rfl, fun _ => rfl⟩ | exact ⟨_, fun _ => rfl⟩
  · have c2 : 0 ≤ x := by rw [← Int32.not_lt]; exact c
    obtain ⟨hN, hT, hF, hS, hL, hB, hP, hI, hD⟩ := H
    refine ⟨h 0 9, xu h 0 9 x, xu (xu h 0 9 x) 140 10 x, fun Q => ?_, fun Q => ?_, NL, G, w, v, hN.mv (fun a q1 q2 => ?_) ?_ ?_ ?_ ?_ ?_ (fun a q1 q2 => ?_), hT.mv ?_ ?_ ?_ ?_, hF.mv ?_ ?_, hS.mv ?_ ?_ ?_ ?_ ?_ ?_ ?_ ?_, hL.mv ?_ ?_ ?_ ?_ ?_ ?_, hB.mv ?_ ?_ ?_ ?_ ?_ ?_, hP.mv ?_ ?_ (fun a q1 q2 => ?_) ?_, hI.mv ?_ ?_ (fun a q1 q2 => ?_) ?_, ?_⟩
    · simp only [eX5_seed_0, eX5_seed_1, eX5_seed_4, eX5_seed_6, eX5_seed_7, eX5_seed_8, eX5_seed_11, eX5_seed_12, eX5_seed_13, eX5_seed_14, eX5_seed_17, eX5_seed_18, Option.toList_some, Option.toList_none, List.cons_append, List.nil_append, is01_0, is01_1, true_and, c, c2, if_true, if_false]
    · simp only [eX6_seed_0, eX6_seed_1, eX6_seed_4, eX6_seed_6, eX6_seed_7, eX6_seed_8, eX6_seed_11, eX6_seed_12, eX6_seed_13, eX6_seed_14, eX6_seed_17, eX6_seed_18, Option.toList_some, Option.toList_none, List.cons_append, List.nil_append, is01_0, is01_1, true_and, c, c2, if_true, if_false, xun, xus, xps, xpn, ne_eq, not_false_eq_true, Nat.reduceEqDiff, not_false_iff, hD.1]
    all_goals first
      | (simp only [xun, xus, xps, xpn, ne_eq, not_false_eq_true, Nat.reduceEqDiff, not_false_iff]; done)
      | (rw [xun _ _ _ _ _ (by omega), xun _ _ _ _ _ (by omega)]; done)
      | skip
    refine ⟨by simp only [xun, xus, xps, xpn, ne_eq, not_false_eq_true, Nat.reduceEqDiff, not_false_iff], by simp only [xun, xus, xps, xpn, ne_eq, not_false_eq_true, Nat.reduceEqDiff, not_false_iff]; rw [fa_le] at c2; exact c2⟩
theorem p_feed (x : Int32) : OpK X mX5_feed mX6_feed [.ref 0, .int x] [.ref 140, .int x] := OpK.two fun sw h NL G w v H => by
  obtain ⟨n, hn, t1, t2, t3⟩ := H.2.1
  by_cases c : 0 ≤ x ∧ x ≤ 255
  · by_cases c3 : n = 240
    · refine OpK.same H ?_
      unfold Both
      simp only [eX5_feed_0, eX5_feed_1, eX5_feed_2, eX5_feed_5, eX5_feed_8, eX5_feed_11, eX5_feed_13, eX5_feed_14, eX5_feed_15, eX5_feed_18, eX5_feed_21, eX5_feed_24, eX5_feed_27, eX5_feed_29, eX5_feed_30, eX5_feed_31, eX5_feed_34, eX5_feed_35, eX5_feed_38, eX6_feed_0, eX6_feed_1, eX6_feed_2, eX6_feed_3, eX6_feed_6, eX6_feed_9, eX6_feed_12, eX6_feed_14, eX6_feed_15, eX6_feed_16, eX6_feed_19, eX6_feed_22, eX6_feed_25, eX6_feed_27, eX6_feed_28, eX6_feed_29, eX6_feed_32, eX6_feed_33, eX6_feed_36, eX6_feed_37, eX6_feed_38, eX6_feed_39, eX6_feed_40, eX6_feed_43, eX6_feed_44, eX6_feed_45, eX6_feed_48, eX6_feed_49, eX6_feed_52, Option.toList_some, Option.toList_none, List.cons_append, List.nil_append, is01_0, is01_1, true_and, r_isOutside, r_in, b01_0, out_in, wl_0, wr_0, wl_1, wr_1, wl_2, wr_2, wl_3, wr_3, wl_20, wr_20, wl_48, wr_48, wl_57, wr_57, wl_60, wr_60, wl_100, wr_100, wl_255, wr_255, wl_500, wr_500, wl_900, wr_900, wl_999, wr_999, wl_12345, wr_12345, wl_999999, wr_999999, wl_99999999, wr_99999999, wl_1000000000, wr_1000000000, wl_1103515245, wr_1103515245, c, not_true, if_true, if_false, and_self, t1, t2, c3]
      have e1 : (240 : Int32) ≤ nI 240 := by decide
      have e2 : nI 240 = (240 : Int32) := rfl
      simp only [e1, e2, if_true, Int32.le_refl]
      first | exact ⟨_, fun _ => rfl, fun _ => rfl⟩ | exact ⟨_, fun _ => rfl⟩
    · have hn2 : n < 240 := by omega
      have hcl : (nI n).toNatClampNeg = n := cl_nI (by omega)
      have hin : inb (nI n) 240 = True := by rw [inb_nIe (by omega)]; apply eq_true; omega
      have e1 : ¬ (240 : Int32) ≤ nI n := nI_ge (b := 240) (by omega) (by omega)
      have e1' : nI n < (240 : Int32) := nI_lt (b := 240) (by omega) (by omega)
      have e2 : ¬ nI n = (240 : Int32) := by
        intro q
        exact c3 ((nI_eq (b := 240) (by omega) (by omega)).mp q)
      obtain ⟨hN, hT, hF, hS, hL, hB, hP, hI, hD⟩ := H
      refine ⟨nI (n + 1), xu (xu h 2 n x) 1 1 (nI (n + 1)), xu (xu (xu (xu h 2 n x) 1 1 (nI (n + 1))) 146 n x) 140 12 (nI (n + 1)), fun Q => ?_, fun Q => ?_, NL, G, w, v, hN.mv (fun a q1 q2 => ?_) ?_ ?_ ?_ ?_ ?_ (fun a q1 q2 => ?_), ?_, hF.mv ?_ ?_, hS.mv ?_ ?_ ?_ ?_ ?_ ?_ ?_ ?_, hL.mv ?_ ?_ ?_ ?_ ?_ ?_, hB.mv ?_ ?_ ?_ ?_ ?_ ?_, hP.mv ?_ ?_ (fun a q1 q2 => ?_) ?_, hI.mv ?_ ?_ (fun a q1 q2 => ?_) ?_, hD.mv ?_ ?_⟩
      · simp only [eX5_feed_0, eX5_feed_1, eX5_feed_2, eX5_feed_5, eX5_feed_8, eX5_feed_11, eX5_feed_13, eX5_feed_14, eX5_feed_15, eX5_feed_18, eX5_feed_21, eX5_feed_24, eX5_feed_27, eX5_feed_29, eX5_feed_30, eX5_feed_31, eX5_feed_34, eX5_feed_35, eX5_feed_38, eX4_append_0, eX4_append_1, eX4_append_4, eX4_append_7, eX4_append_10, eX4_append_11, eX4_append_14, eX4_append_15, eX4_append_18, eX4_append_19, eX4_append_20, eX4_append_21, eX4_append_22, eX4_append_25, eX4_append_26, eX4_append_27, eX4_append_30, eX4_append_31, eX4_append_34, Option.toList_some, Option.toList_none, List.cons_append, List.nil_append, is01_0, is01_1, true_and, r_isOutside, b01_0, out_in, c, not_true, if_true, if_false, and_self, t1, hcl, hin, e1, e1', xun, xus, xps, xpn, ne_eq, not_false_eq_true, Nat.reduceEqDiff, not_false_iff, nI_1]
      · simp only [eX6_feed_0, eX6_feed_1, eX6_feed_2, eX6_feed_3, eX6_feed_6, eX6_feed_9, eX6_feed_12, eX6_feed_14, eX6_feed_15, eX6_feed_16, eX6_feed_19, eX6_feed_22, eX6_feed_25, eX6_feed_27, eX6_feed_28, eX6_feed_29, eX6_feed_32, eX6_feed_33, eX6_feed_36, eX6_feed_37, eX6_feed_38, eX6_feed_39, eX6_feed_40, eX6_feed_43, eX6_feed_44, eX6_feed_45, eX6_feed_48, eX6_feed_49, eX6_feed_52, Option.toList_some, Option.toList_none, List.cons_append, List.nil_append, is01_0, is01_1, true_and, r_in, b01_0, wl_0, wr_0, wl_1, wr_1, wl_2, wr_2, wl_3, wr_3, wl_20, wr_20, wl_48, wr_48, wl_57, wr_57, wl_60, wr_60, wl_100, wr_100, wl_255, wr_255, wl_500, wr_500, wl_900, wr_900, wl_999, wr_999, wl_12345, wr_12345, wl_999999, wr_999999, wl_99999999, wr_99999999, wl_1000000000, wr_1000000000, wl_1103515245, wr_1103515245, c, not_true, if_true, if_false, and_self, t2, hcl, hin, e2, xun, xus, xps, xpn, ne_eq, not_false_eq_true, Nat.reduceEqDiff, not_false_iff, nI_1]
      all_goals first
        | (simp only [xun, xus, xps, xpn, ne_eq, not_false_eq_true, Nat.reduceEqDiff, not_false_iff]; done)
        | (rw [xun _ _ _ _ _ (by omega), xun _ _ _ _ _ (by omega), xun _ _ _ _ _ (by omega), xun _ _ _ _ _ (by omega)]; done)
        | skip
      refine ⟨n + 1, by omega, by simp only [xun, xus, xps, xpn, ne_eq, not_false_eq_true, Nat.reduceEqDiff, not_false_iff], by simp only [xun, xus, xps, xpn, ne_eq, not_false_eq_true, Nat.reduceEqDiff, not_false_iff], fun k hk => ?_⟩
      simp only [xun, xus, xps, xpn, ne_eq, not_false_eq_true, Nat.reduceEqDiff, not_false_iff]
      by_cases e : k = n
      · subst e
        have := rg c (m := 0) (n := 255) rfl rfl
        simp only [xps]
        exact ⟨trivial, this⟩
      · rw [xpn _ _ _ _ e, xpn _ _ _ _ e]
        exact t3 k (by omega)
  · refine OpK.same H ?_
    unfold Both
    simp only [eX5_feed_0, eX5_feed_1, eX5_feed_2, eX5_feed_5, eX5_feed_8, eX5_feed_11, eX5_feed_13, eX5_feed_14, eX5_feed_15, eX5_feed_18, eX5_feed_21, eX5_feed_24, eX5_feed_27, eX5_feed_29, eX5_feed_30, eX5_feed_31, eX5_feed_34, eX5_feed_35, eX5_feed_38, eX6_feed_0, eX6_feed_1, eX6_feed_2, eX6_feed_3, eX6_feed_6, eX6_feed_9, eX6_feed_12, eX6_feed_14, eX6_feed_15, eX6_feed_16, eX6_feed_19, eX6_feed_22, eX6_feed_25, eX6_feed_27, eX6_feed_28, eX6_feed_29, eX6_feed_32, eX6_feed_33, eX6_feed_36, eX6_feed_37, eX6_feed_38, eX6_feed_39, eX6_feed_40, eX6_feed_43, eX6_feed_44, eX6_feed_45, eX6_feed_48, eX6_feed_49, eX6_feed_52, Option.toList_some, Option.toList_none, List.cons_append, List.nil_append, is01_0, is01_1, true_and, r_isOutside, r_in, b01_0, out_in, wl_0, wr_0, wl_1, wr_1, wl_2, wr_2, wl_3, wr_3, wl_20, wr_20, wl_48, wr_48, wl_57, wr_57, wl_60, wr_60, wl_100, wr_100, wl_255, wr_255, wl_500, wr_500, wl_900, wr_900, wl_999, wr_999, wl_12345, wr_12345, wl_999999, wr_999999, wl_99999999, wr_99999999, wl_1000000000, wr_1000000000, wl_1103515245, wr_1103515245, c, not_true, not_false_iff, if_true, if_false]
    first | exact ⟨_, fun _ => rfl, fun _ => rfl⟩ | exact ⟨_, fun _ => rfl⟩
theorem p_see (y s : Int32) (b : Bool) : OpK X mX5_see mX6_see [.ref 0, .int y, .int s, .int (b2 b)] [.ref 140, .int y, .int s, .int (b2 b)] := OpK.two fun sw h NL G w v H => by
  obtain ⟨n, sy, ss, sm, hn, t1, t2, t3⟩ := H.2.2.2.1
  by_cases c : 0 ≤ y ∧ y ≤ 900
  · by_cases c2 : 1 ≤ s ∧ s ≤ 60
    · by_cases c3 : n = 6
      · refine OpK.same H ?_
        unfold Both
        have e2 : nI 6 = (6 : Int32) := rfl
        have e3 : ¬ (6 : Int32) < 6 := by decide
        simp only [eX5_see_0, eX5_see_1, eX5_see_2, eX5_see_5, eX5_see_8, eX5_see_11, eX5_see_12, eX5_see_13, eX5_see_15, eX5_see_18, eX5_see_21, eX5_see_23, eX5_see_24, eX5_see_25, eX5_see_28, eX5_see_31, eX5_see_33, eX5_see_36, eX5_see_37, eX5_see_40, eX5_see_41, eX5_see_42, eX5_see_43, eX5_see_46, eX5_see_49, eX5_see_51, eX6_see_0, eX6_see_1, eX6_see_2, eX6_see_3, eX6_see_6, eX6_see_9, eX6_see_12, eX6_see_13, eX6_see_14, eX6_see_15, eX6_see_18, eX6_see_21, eX6_see_24, eX6_see_26, eX6_see_27, eX6_see_28, eX6_see_31, eX6_see_33, eX6_see_36, eX6_see_38, eX6_see_39, eX6_see_40, eX6_see_43, eX6_see_44, eX6_see_47, eX6_see_48, eX6_see_49, eX6_see_50, eX6_see_53, eX6_see_54, eX6_see_57, eX6_see_58, eX6_see_59, eX6_see_60, eX6_see_63, eX6_see_64, eX6_see_67, eX6_see_68, eX6_see_69, eX6_see_70, eX6_see_71, eX6_see_74, eX6_see_75, eX6_see_76, eX6_see_79, eX6_see_80, eX6_see_83, Option.toList_some, Option.toList_none, List.cons_append, List.nil_append, is01_0, is01_1, true_and, r_isOutside, r_in, b01_0, out_in, wl_0, wr_0, wl_1, wr_1, wl_2, wr_2, wl_3, wr_3, wl_20, wr_20, wl_48, wr_48, wl_57, wr_57, wl_60, wr_60, wl_100, wr_100, wl_255, wr_255, wl_500, wr_500, wl_900, wr_900, wl_999, wr_999, wl_12345, wr_12345, wl_999999, wr_999999, wl_99999999, wr_99999999, wl_1000000000, wr_1000000000, wl_1103515245, wr_1103515245, c, c2, not_true, if_true, if_false, and_self, t1, t2, c3, e2, e3, Int32.le_refl]
        first | exact ⟨_, fun _ => rfl, fun _ => rfl⟩ | exact ⟨_, fun _ => rfl⟩
      · have hcl : (nI n).toNatClampNeg = n := cl_nI (by omega)
        have hin : inb (nI n) 6 = True := by rw [inb_nIe (by omega)]; apply eq_true; omega
        have e1 : ¬ (6 : Int32) ≤ nI n := nI_ge (b := 6) (by omega) (by omega)
        have e1' : nI n < (6 : Int32) := nI_lt (b := 6) (by omega) (by omega)
        have e2 : ¬ nI n = (6 : Int32) := fun q => c3 ((nI_eq (b := 6) (by omega) (by omega)).mp q)
        have hb : is01 (b2 b) = True := by apply eq_true; cases b; exact Or.inl rfl; exact Or.inr rfl
        obtain ⟨Y, hY, rfl⟩ := nI_of2 (x := y) (M := 900) (n := 900) rfl (by rw [Int32.not_lt]; exact c.1) c.2
        obtain ⟨S', hS', hs'⟩ := nI_of2 (x := s) (M := 60) (n := 60) rfl (by rw [Int32.not_lt]; exact Int32.le_trans (by decide) c2.1) c2.2
        have hS1 : 1 ≤ S' := by have q := c2.1; rw [hs'] at q; exact (nI_leI (a := 1) (by omega) (by omega)).mp q
        obtain ⟨hN, hT, hF, hS, hL, hB, hP, hI, hD⟩ := H
        refine ⟨nI (n + 1), xu (xu (xu (xu h 133 n (nI Y)) 134 n s) 135 n (b2 b)) 132 0 (nI (n + 1)), xu (xu (xu (xu (xu (xu (xu (xu h 133 n (nI Y)) 134 n s) 135 n (b2 b)) 132 0 (nI (n + 1))) 152 n (nI Y)) 153 n s) 154 n (b2 b)) 140 29 (nI (n + 1)), fun Q => ?_, fun Q => ?_, NL, G, w, v, hN.mv (fun a q1 q2 => ?_) ?_ ?_ ?_ ?_ ?_ (fun a q1 q2 => ?_), hT.mv ?_ ?_ ?_ ?_, hF.mv ?_ ?_, ?_, hL.mv ?_ ?_ ?_ ?_ ?_ ?_, hB.mv ?_ ?_ ?_ ?_ ?_ ?_, hP.mv ?_ ?_ (fun a q1 q2 => ?_) ?_, hI.mv ?_ ?_ (fun a q1 q2 => ?_) ?_, hD.mv ?_ ?_⟩
        · simp only [eX5_see_0, eX5_see_1, eX5_see_2, eX5_see_5, eX5_see_8, eX5_see_11, eX5_see_12, eX5_see_13, eX5_see_15, eX5_see_18, eX5_see_21, eX5_see_23, eX5_see_24, eX5_see_25, eX5_see_28, eX5_see_31, eX5_see_33, eX5_see_36, eX5_see_37, eX5_see_40, eX5_see_41, eX5_see_42, eX5_see_43, eX5_see_46, eX5_see_49, eX5_see_51, eX0_addSeen_0, eX0_addSeen_1, eX0_addSeen_4, eX0_addSeen_6, eX0_addSeen_9, eX0_addSeen_10, eX0_addSeen_13, eX0_addSeen_14, eX0_addSeen_17, eX0_addSeen_18, eX0_addSeen_19, eX0_addSeen_20, eX0_addSeen_23, eX0_addSeen_24, eX0_addSeen_27, eX0_addSeen_28, eX0_addSeen_29, eX0_addSeen_30, eX0_addSeen_33, eX0_addSeen_34, eX0_addSeen_37, eX0_addSeen_38, eX0_addSeen_39, eX0_addSeen_40, eX0_addSeen_41, eX0_addSeen_44, eX0_addSeen_45, eX0_addSeen_46, eX0_addSeen_49, eX0_addSeen_50, eX0_addSeen_53, Option.toList_some, Option.toList_none, List.cons_append, List.nil_append, is01_0, is01_1, true_and, r_isOutside, b01_0, out_in, c, c2, not_true, if_true, if_false, and_self, t1, hcl, hin, e1, e1', hb, xun, xus, xps, xpn, ne_eq, not_false_eq_true, Nat.reduceEqDiff, not_false_iff, nI_1]
        · simp only [eX6_see_0, eX6_see_1, eX6_see_2, eX6_see_3, eX6_see_6, eX6_see_9, eX6_see_12, eX6_see_13, eX6_see_14, eX6_see_15, eX6_see_18, eX6_see_21, eX6_see_24, eX6_see_26, eX6_see_27, eX6_see_28, eX6_see_31, eX6_see_33, eX6_see_36, eX6_see_38, eX6_see_39, eX6_see_40, eX6_see_43, eX6_see_44, eX6_see_47, eX6_see_48, eX6_see_49, eX6_see_50, eX6_see_53, eX6_see_54, eX6_see_57, eX6_see_58, eX6_see_59, eX6_see_60, eX6_see_63, eX6_see_64, eX6_see_67, eX6_see_68, eX6_see_69, eX6_see_70, eX6_see_71, eX6_see_74, eX6_see_75, eX6_see_76, eX6_see_79, eX6_see_80, eX6_see_83, Option.toList_some, Option.toList_none, List.cons_append, List.nil_append, is01_0, is01_1, true_and, r_in, b01_0, wl_0, wr_0, wl_1, wr_1, wl_2, wr_2, wl_3, wr_3, wl_20, wr_20, wl_48, wr_48, wl_57, wr_57, wl_60, wr_60, wl_100, wr_100, wl_255, wr_255, wl_500, wr_500, wl_900, wr_900, wl_999, wr_999, wl_12345, wr_12345, wl_999999, wr_999999, wl_99999999, wr_99999999, wl_1000000000, wr_1000000000, wl_1103515245, wr_1103515245, c, c2, not_true, if_true, if_false, and_self, t2, hcl, hin, e2, hb, xun, xus, xps, xpn, ne_eq, not_false_eq_true, Nat.reduceEqDiff, not_false_iff, nI_1]
        all_goals first
          | (simp only [xun, xus, xps, xpn, ne_eq, not_false_eq_true, Nat.reduceEqDiff, not_false_iff]; done)
          | (rw [xun _ _ _ _ _ (by omega), xun _ _ _ _ _ (by omega), xun _ _ _ _ _ (by omega), xun _ _ _ _ _ (by omega), xun _ _ _ _ _ (by omega), xun _ _ _ _ _ (by omega), xun _ _ _ _ _ (by omega), xun _ _ _ _ _ (by omega)]; done)
          | skip
        refine ⟨n + 1, fun k => if k = n then Y else sy k, fun k => if k = n then S' else ss k, fun k => if k = n then b else sm k, by omega, by simp only [xun, xus, xps, xpn, ne_eq, not_false_eq_true, Nat.reduceEqDiff, not_false_iff], by simp only [xun, xus, xps, xpn, ne_eq, not_false_eq_true, Nat.reduceEqDiff, not_false_iff], fun k hk => ?_⟩
        simp only [xun, xus, xps, xpn, ne_eq, not_false_eq_true, Nat.reduceEqDiff, not_false_iff]
        by_cases e : k = n
        · subst e
          simp only [xps, if_true]
          exact ⟨⟨trivial, trivial, hs', hs', trivial, trivial⟩, hY, hS1, hS'⟩
        · simp only [xpn _ _ _ _ e, if_neg e]
          exact t3 k (by omega)
    · refine OpK.same H ?_
      unfold Both
      simp only [eX5_see_0, eX5_see_1, eX5_see_2, eX5_see_5, eX5_see_8, eX5_see_11, eX5_see_12, eX5_see_13, eX5_see_15, eX5_see_18, eX5_see_21, eX5_see_23, eX5_see_24, eX5_see_25, eX5_see_28, eX5_see_31, eX5_see_33, eX5_see_36, eX5_see_37, eX5_see_40, eX5_see_41, eX5_see_42, eX5_see_43, eX5_see_46, eX5_see_49, eX5_see_51, eX6_see_0, eX6_see_1, eX6_see_2, eX6_see_3, eX6_see_6, eX6_see_9, eX6_see_12, eX6_see_13, eX6_see_14, eX6_see_15, eX6_see_18, eX6_see_21, eX6_see_24, eX6_see_26, eX6_see_27, eX6_see_28, eX6_see_31, eX6_see_33, eX6_see_36, eX6_see_38, eX6_see_39, eX6_see_40, eX6_see_43, eX6_see_44, eX6_see_47, eX6_see_48, eX6_see_49, eX6_see_50, eX6_see_53, eX6_see_54, eX6_see_57, eX6_see_58, eX6_see_59, eX6_see_60, eX6_see_63, eX6_see_64, eX6_see_67, eX6_see_68, eX6_see_69, eX6_see_70, eX6_see_71, eX6_see_74, eX6_see_75, eX6_see_76, eX6_see_79, eX6_see_80, eX6_see_83, Option.toList_some, Option.toList_none, List.cons_append, List.nil_append, is01_0, is01_1, true_and, r_isOutside, r_in, b01_0, out_in, wl_0, wr_0, wl_1, wr_1, wl_2, wr_2, wl_3, wr_3, wl_20, wr_20, wl_48, wr_48, wl_57, wr_57, wl_60, wr_60, wl_100, wr_100, wl_255, wr_255, wl_500, wr_500, wl_900, wr_900, wl_999, wr_999, wl_12345, wr_12345, wl_999999, wr_999999, wl_99999999, wr_99999999, wl_1000000000, wr_1000000000, wl_1103515245, wr_1103515245, c, c2, not_true, not_false_iff, if_true, if_false, and_self]
      first | exact ⟨_, fun _ => rfl, fun _ => rfl⟩ | exact ⟨_, fun _ => rfl⟩
  · refine OpK.same H ?_
    unfold Both
    simp only [eX5_see_0, eX5_see_1, eX5_see_2, eX5_see_5, eX5_see_8, eX5_see_11, eX5_see_12, eX5_see_13, eX5_see_15, eX5_see_18, eX5_see_21, eX5_see_23, eX5_see_24, eX5_see_25, eX5_see_28, eX5_see_31, eX5_see_33, eX5_see_36, eX5_see_37, eX5_see_40, eX5_see_41, eX5_see_42, eX5_see_43, eX5_see_46, eX5_see_49, eX5_see_51, eX6_see_0, eX6_see_1, eX6_see_2, eX6_see_3, eX6_see_6, eX6_see_9, eX6_see_12, eX6_see_13, eX6_see_14, eX6_see_15, eX6_see_18, eX6_see_21, eX6_see_24, eX6_see_26, eX6_see_27, eX6_see_28, eX6_see_31, eX6_see_33, eX6_see_36, eX6_see_38, eX6_see_39, eX6_see_40, eX6_see_43, eX6_see_44, eX6_see_47, eX6_see_48, eX6_see_49, eX6_see_50, eX6_see_53, eX6_see_54, eX6_see_57, eX6_see_58, eX6_see_59, eX6_see_60, eX6_see_63, eX6_see_64, eX6_see_67, eX6_see_68, eX6_see_69, eX6_see_70, eX6_see_71, eX6_see_74, eX6_see_75, eX6_see_76, eX6_see_79, eX6_see_80, eX6_see_83, Option.toList_some, Option.toList_none, List.cons_append, List.nil_append, is01_0, is01_1, true_and, r_isOutside, r_in, b01_0, out_in, wl_0, wr_0, wl_1, wr_1, wl_2, wr_2, wl_3, wr_3, wl_20, wr_20, wl_48, wr_48, wl_57, wr_57, wl_60, wr_60, wl_100, wr_100, wl_255, wr_255, wl_500, wr_500, wl_900, wr_900, wl_999, wr_999, wl_12345, wr_12345, wl_999999, wr_999999, wl_99999999, wr_99999999, wl_1000000000, wr_1000000000, wl_1103515245, wr_1103515245, c, not_true, not_false_iff, if_true, if_false]
    first | exact ⟨_, fun _ => rfl, fun _ => rfl⟩ | exact ⟨_, fun _ => rfl⟩
theorem p_feel (y s : Int32) : OpK X mX5_feel mX6_feel [.ref 0, .int y, .int s] [.ref 140, .int y, .int s] := OpK.two fun sw h NL G w v H => by
  obtain ⟨n, fy, fh, hn, t1, t2, t3⟩ := H.2.2.2.2.1
  by_cases c : 1 ≤ y ∧ y ≤ 900
  · by_cases c2 : 0 ≤ s ∧ s ≤ 2
    · by_cases c3 : n = 6
      · refine OpK.same H ?_
        unfold Both
        have e2 : nI 6 = (6 : Int32) := rfl
        have e3 : ¬ (6 : Int32) < 6 := by decide
        simp only [eX5_feel_0, eX5_feel_1, eX5_feel_2, eX5_feel_5, eX5_feel_8, eX5_feel_11, eX5_feel_12, eX5_feel_13, eX5_feel_14, eX5_feel_17, eX5_feel_20, eX5_feel_22, eX5_feel_23, eX5_feel_24, eX5_feel_27, eX5_feel_30, eX5_feel_32, eX5_feel_35, eX5_feel_36, eX5_feel_39, eX5_feel_40, eX5_feel_41, eX5_feel_44, eX5_feel_47, eX5_feel_49, eX6_feel_0, eX6_feel_1, eX6_feel_2, eX6_feel_3, eX6_feel_6, eX6_feel_9, eX6_feel_12, eX6_feel_13, eX6_feel_14, eX6_feel_15, eX6_feel_18, eX6_feel_21, eX6_feel_24, eX6_feel_26, eX6_feel_27, eX6_feel_28, eX6_feel_31, eX6_feel_33, eX6_feel_36, eX6_feel_38, eX6_feel_39, eX6_feel_40, eX6_feel_43, eX6_feel_44, eX6_feel_47, eX6_feel_48, eX6_feel_49, eX6_feel_50, eX6_feel_53, eX6_feel_54, eX6_feel_57, eX6_feel_58, eX6_feel_59, eX6_feel_60, eX6_feel_61, eX6_feel_64, eX6_feel_65, eX6_feel_66, eX6_feel_69, eX6_feel_70, eX6_feel_73, Option.toList_some, Option.toList_none, List.cons_append, List.nil_append, is01_0, is01_1, true_and, r_isOutside, r_in, b01_0, out_in, wl_0, wr_0, wl_1, wr_1, wl_2, wr_2, wl_3, wr_3, wl_20, wr_20, wl_48, wr_48, wl_57, wr_57, wl_60, wr_60, wl_100, wr_100, wl_255, wr_255, wl_500, wr_500, wl_900, wr_900, wl_999, wr_999, wl_12345, wr_12345, wl_999999, wr_999999, wl_99999999, wr_99999999, wl_1000000000, wr_1000000000, wl_1103515245, wr_1103515245, c, c2, not_true, if_true, if_false, and_self, t1, t2, c3, e2, e3, Int32.le_refl]
        first | exact ⟨_, fun _ => rfl, fun _ => rfl⟩ | exact ⟨_, fun _ => rfl⟩
      · have hcl : (nI n).toNatClampNeg = n := cl_nI (by omega)
        have hin : inb (nI n) 6 = True := by rw [inb_nIe (by omega)]; apply eq_true; omega
        have e1 : ¬ (6 : Int32) ≤ nI n := nI_ge (b := 6) (by omega) (by omega)
        have e1' : nI n < (6 : Int32) := nI_lt (b := 6) (by omega) (by omega)
        have e2 : ¬ nI n = (6 : Int32) := fun q => c3 ((nI_eq (b := 6) (by omega) (by omega)).mp q)
        obtain ⟨S', hS', hs'⟩ := nI_of2 (x := s) (M := 2) (n := 2) rfl (by rw [Int32.not_lt]; exact c2.1) c2.2
        obtain ⟨Y, hY, hy⟩ := nI_of2 (x := y) (M := 900) (n := 900) rfl (by rw [Int32.not_lt]; exact Int32.le_trans (by decide) c.1) c.2
        have hS1 : 1 ≤ Y := by have q := c.1; rw [hy] at q; exact (nI_leI (a := 1) (by omega) (by omega)).mp q
        obtain ⟨hN, hT, hF, hS, hL, hB, hP, hI, hD⟩ := H
        refine ⟨nI (n + 1), xu (xu (xu h 136 n y) 137 n s) 132 1 (nI (n + 1)), xu (xu (xu (xu (xu (xu h 136 n y) 137 n s) 132 1 (nI (n + 1))) 156 n y) 157 n s) 140 34 (nI (n + 1)), fun Q => ?_, fun Q => ?_, NL, G, w, v, hN.mv (fun a q1 q2 => ?_) ?_ ?_ ?_ ?_ ?_ (fun a q1 q2 => ?_), hT.mv ?_ ?_ ?_ ?_, hF.mv ?_ ?_, hS.mv ?_ ?_ ?_ ?_ ?_ ?_ ?_ ?_, ?_, hB.mv ?_ ?_ ?_ ?_ ?_ ?_, hP.mv ?_ ?_ (fun a q1 q2 => ?_) ?_, hI.mv ?_ ?_ (fun a q1 q2 => ?_) ?_, hD.mv ?_ ?_⟩
        · simp only [eX5_feel_0, eX5_feel_1, eX5_feel_2, eX5_feel_5, eX5_feel_8, eX5_feel_11, eX5_feel_12, eX5_feel_13, eX5_feel_14, eX5_feel_17, eX5_feel_20, eX5_feel_22, eX5_feel_23, eX5_feel_24, eX5_feel_27, eX5_feel_30, eX5_feel_32, eX5_feel_35, eX5_feel_36, eX5_feel_39, eX5_feel_40, eX5_feel_41, eX5_feel_44, eX5_feel_47, eX5_feel_49, eX0_addFelt_0, eX0_addFelt_1, eX0_addFelt_4, eX0_addFelt_6, eX0_addFelt_9, eX0_addFelt_10, eX0_addFelt_13, eX0_addFelt_14, eX0_addFelt_17, eX0_addFelt_18, eX0_addFelt_19, eX0_addFelt_20, eX0_addFelt_23, eX0_addFelt_24, eX0_addFelt_27, eX0_addFelt_28, eX0_addFelt_29, eX0_addFelt_30, eX0_addFelt_31, eX0_addFelt_34, eX0_addFelt_35, eX0_addFelt_36, eX0_addFelt_39, eX0_addFelt_40, eX0_addFelt_43, Option.toList_some, Option.toList_none, List.cons_append, List.nil_append, is01_0, is01_1, true_and, r_isOutside, b01_0, out_in, c, c2, not_true, if_true, if_false, and_self, t1, hcl, hin, e1, e1', xun, xus, xps, xpn, ne_eq, not_false_eq_true, Nat.reduceEqDiff, not_false_iff, nI_1]
        · simp only [eX6_feel_0, eX6_feel_1, eX6_feel_2, eX6_feel_3, eX6_feel_6, eX6_feel_9, eX6_feel_12, eX6_feel_13, eX6_feel_14, eX6_feel_15, eX6_feel_18, eX6_feel_21, eX6_feel_24, eX6_feel_26, eX6_feel_27, eX6_feel_28, eX6_feel_31, eX6_feel_33, eX6_feel_36, eX6_feel_38, eX6_feel_39, eX6_feel_40, eX6_feel_43, eX6_feel_44, eX6_feel_47, eX6_feel_48, eX6_feel_49, eX6_feel_50, eX6_feel_53, eX6_feel_54, eX6_feel_57, eX6_feel_58, eX6_feel_59, eX6_feel_60, eX6_feel_61, eX6_feel_64, eX6_feel_65, eX6_feel_66, eX6_feel_69, eX6_feel_70, eX6_feel_73, Option.toList_some, Option.toList_none, List.cons_append, List.nil_append, is01_0, is01_1, true_and, r_in, b01_0, wl_0, wr_0, wl_1, wr_1, wl_2, wr_2, wl_3, wr_3, wl_20, wr_20, wl_48, wr_48, wl_57, wr_57, wl_60, wr_60, wl_100, wr_100, wl_255, wr_255, wl_500, wr_500, wl_900, wr_900, wl_999, wr_999, wl_12345, wr_12345, wl_999999, wr_999999, wl_99999999, wr_99999999, wl_1000000000, wr_1000000000, wl_1103515245, wr_1103515245, c, c2, not_true, if_true, if_false, and_self, t2, hcl, hin, e2, xun, xus, xps, xpn, ne_eq, not_false_eq_true, Nat.reduceEqDiff, not_false_iff, nI_1]
        all_goals first
          | (simp only [xun, xus, xps, xpn, ne_eq, not_false_eq_true, Nat.reduceEqDiff, not_false_iff]; done)
          | (rw [xun _ _ _ _ _ (by omega), xun _ _ _ _ _ (by omega), xun _ _ _ _ _ (by omega), xun _ _ _ _ _ (by omega), xun _ _ _ _ _ (by omega), xun _ _ _ _ _ (by omega)]; done)
          | skip
        refine ⟨n + 1, fun k => if k = n then Y else fy k, fun k => if k = n then S' else fh k, by omega, by simp only [xun, xus, xps, xpn, ne_eq, not_false_eq_true, Nat.reduceEqDiff, not_false_iff], by simp only [xun, xus, xps, xpn, ne_eq, not_false_eq_true, Nat.reduceEqDiff, not_false_iff], fun k hk => ?_⟩
        simp only [xun, xus, xps, xpn, ne_eq, not_false_eq_true, Nat.reduceEqDiff, not_false_iff]
        by_cases e : k = n
        · subst e
          simp only [xps, if_true]
          exact ⟨⟨hy, hy, hs', hs'⟩, hS1, hY, hS'⟩
        · simp only [xpn _ _ _ _ e, if_neg e]
          exact t3 k (by omega)
    · refine OpK.same H ?_
      unfold Both
      simp only [eX5_feel_0, eX5_feel_1, eX5_feel_2, eX5_feel_5, eX5_feel_8, eX5_feel_11, eX5_feel_12, eX5_feel_13, eX5_feel_14, eX5_feel_17, eX5_feel_20, eX5_feel_22, eX5_feel_23, eX5_feel_24, eX5_feel_27, eX5_feel_30, eX5_feel_32, eX5_feel_35, eX5_feel_36, eX5_feel_39, eX5_feel_40, eX5_feel_41, eX5_feel_44, eX5_feel_47, eX5_feel_49, eX6_feel_0, eX6_feel_1, eX6_feel_2, eX6_feel_3, eX6_feel_6, eX6_feel_9, eX6_feel_12, eX6_feel_13, eX6_feel_14, eX6_feel_15, eX6_feel_18, eX6_feel_21, eX6_feel_24, eX6_feel_26, eX6_feel_27, eX6_feel_28, eX6_feel_31, eX6_feel_33, eX6_feel_36, eX6_feel_38, eX6_feel_39, eX6_feel_40, eX6_feel_43, eX6_feel_44, eX6_feel_47, eX6_feel_48, eX6_feel_49, eX6_feel_50, eX6_feel_53, eX6_feel_54, eX6_feel_57, eX6_feel_58, eX6_feel_59, eX6_feel_60, eX6_feel_61, eX6_feel_64, eX6_feel_65, eX6_feel_66, eX6_feel_69, eX6_feel_70, eX6_feel_73, Option.toList_some, Option.toList_none, List.cons_append, List.nil_append, is01_0, is01_1, true_and, r_isOutside, r_in, b01_0, out_in, wl_0, wr_0, wl_1, wr_1, wl_2, wr_2, wl_3, wr_3, wl_20, wr_20, wl_48, wr_48, wl_57, wr_57, wl_60, wr_60, wl_100, wr_100, wl_255, wr_255, wl_500, wr_500, wl_900, wr_900, wl_999, wr_999, wl_12345, wr_12345, wl_999999, wr_999999, wl_99999999, wr_99999999, wl_1000000000, wr_1000000000, wl_1103515245, wr_1103515245, c, c2, not_true, not_false_iff, if_true, if_false, and_self]
      first | exact ⟨_, fun _ => rfl, fun _ => rfl⟩ | exact ⟨_, fun _ => rfl⟩
  · refine OpK.same H ?_
    unfold Both
    simp only [eX5_feel_0, eX5_feel_1, eX5_feel_2, eX5_feel_5, eX5_feel_8, eX5_feel_11, eX5_feel_12, eX5_feel_13, eX5_feel_14, eX5_feel_17, eX5_feel_20, eX5_feel_22, eX5_feel_23, eX5_feel_24, eX5_feel_27, eX5_feel_30, eX5_feel_32, eX5_feel_35, eX5_feel_36, eX5_feel_39, eX5_feel_40, eX5_feel_41, eX5_feel_44, eX5_feel_47, eX5_feel_49, eX6_feel_0, eX6_feel_1, eX6_feel_2, eX6_feel_3, eX6_feel_6, eX6_feel_9, eX6_feel_12, eX6_feel_13, eX6_feel_14, eX6_feel_15, eX6_feel_18, eX6_feel_21, eX6_feel_24, eX6_feel_26, eX6_feel_27, eX6_feel_28, eX6_feel_31, eX6_feel_33, eX6_feel_36, eX6_feel_38, eX6_feel_39, eX6_feel_40, eX6_feel_43, eX6_feel_44, eX6_feel_47, eX6_feel_48, eX6_feel_49, eX6_feel_50, eX6_feel_53, eX6_feel_54, eX6_feel_57, eX6_feel_58, eX6_feel_59, eX6_feel_60, eX6_feel_61, eX6_feel_64, eX6_feel_65, eX6_feel_66, eX6_feel_69, eX6_feel_70, eX6_feel_73, Option.toList_some, Option.toList_none, List.cons_append, List.nil_append, is01_0, is01_1, true_and, r_isOutside, r_in, b01_0, out_in, wl_0, wr_0, wl_1, wr_1, wl_2, wr_2, wl_3, wr_3, wl_20, wr_20, wl_48, wr_48, wl_57, wr_57, wl_60, wr_60, wl_100, wr_100, wl_255, wr_255, wl_500, wr_500, wl_900, wr_900, wl_999, wr_999, wl_12345, wr_12345, wl_999999, wr_999999, wl_99999999, wr_99999999, wl_1000000000, wr_1000000000, wl_1103515245, wr_1103515245, c, not_true, not_false_iff, if_true, if_false]
    first | exact ⟨_, fun _ => rfl, fun _ => rfl⟩ | exact ⟨_, fun _ => rfl⟩
theorem p_write (x s : Int32) : OpK X mX5_write mX6_write [.ref 0, .int x, .int s] [.ref 140, .int x, .int s] := OpK.two fun sw h NL G w v H => by
  obtain ⟨n, bo, hn, t1, t2, t3⟩ := H.2.2.2.2.2.1
  have hW := H.1.1
  have hC := H.1.2.2.1
  have hM := H.1.2.2.2.1
  by_cases c : 0 ≤ x ∧ x < nI G
  · by_cases c2 : 0 ≤ s ∧ s ≤ 999999
    · by_cases c3 : n = 15
      · refine OpK.same H ?_
        unfold Both
        have e2 : nI 15 = (15 : Int32) := rfl
        have e3 : ¬ (15 : Int32) < 15 := by decide
        simp only [eX5_write_0, eX5_write_1, eX5_write_4, eX5_write_5, eX5_write_8, eX5_write_11, eX5_write_13, eX5_write_14, eX5_write_15, eX5_write_16, eX5_write_19, eX5_write_22, eX5_write_25, eX5_write_27, eX5_write_28, eX5_write_29, eX5_write_32, eX5_write_35, eX5_write_37, eX5_write_40, eX5_write_41, eX5_write_44, eX5_write_45, eX5_write_46, eX5_write_49, eX5_write_52, eX5_write_54, eX6_write_0, eX6_write_1, eX6_write_2, eX6_write_5, eX6_write_8, eX6_write_10, eX6_write_11, eX6_write_12, eX6_write_13, eX6_write_14, eX6_write_17, eX6_write_20, eX6_write_23, eX6_write_25, eX6_write_26, eX6_write_27, eX6_write_30, eX6_write_32, eX6_write_35, eX6_write_37, eX6_write_38, eX6_write_39, eX6_write_42, eX6_write_43, eX6_write_46, eX6_write_47, eX6_write_48, eX6_write_49, eX6_write_52, eX6_write_53, eX6_write_56, eX6_write_57, eX6_write_58, eX6_write_59, eX6_write_60, eX6_write_63, eX6_write_64, eX6_write_65, eX6_write_68, eX6_write_69, eX6_write_72, Option.toList_some, Option.toList_none, List.cons_append, List.nil_append, is01_0, is01_1, true_and, pl_P, c_hasGoer (pl_P sw) hC, m_isGoer hM hW.2.1, r_isOutside, r_in, b01_0, out_in, wl_0, wr_0, wl_1, wr_1, wl_2, wr_2, wl_3, wr_3, wl_20, wr_20, wl_48, wr_48, wl_57, wr_57, wl_60, wr_60, wl_100, wr_100, wl_255, wr_255, wl_500, wr_500, wl_900, wr_900, wl_999, wr_999, wl_12345, wr_12345, wl_999999, wr_999999, wl_99999999, wr_99999999, wl_1000000000, wr_1000000000, wl_1103515245, wr_1103515245, c, c2, not_true, if_true, if_false, and_self, t1, t2, c3, e2, e3, Int32.le_refl]
        first | exact ⟨_, fun _ => rfl, fun _ => rfl⟩ | exact ⟨_, fun _ => rfl⟩
      · have hcl : (nI n).toNatClampNeg = n := cl_nI (by omega)
        have hin : inb (nI n) 15 = True := by rw [inb_nIe (by omega)]; apply eq_true; omega
        have e1 : ¬ (15 : Int32) ≤ nI n := nI_ge (b := 15) (by omega) (by omega)
        have e1' : nI n < (15 : Int32) := nI_lt (b := 15) (by omega) (by omega)
        have e2 : ¬ nI n = (15 : Int32) := fun q => c3 ((nI_eq (b := 15) (by omega) (by omega)).mp q)
        obtain ⟨j, hj, hx⟩ := goE hW.2.1 c
        obtain ⟨hN, hT, hF, hS, hL, hB, hP, hI, hD⟩ := H
        have hM1 : PM (xu (xu (xu h 138 n x) 139 n s) 132 2 (nI (n + 1))) NL G w := by
          refine hM.mv ?_ ?_ ?_ ?_ ?_ ?_ ?_ ?_ <;> simp only [xun, xus, xps, xpn, ne_eq, not_false_eq_true, Nat.reduceEqDiff, not_false_iff]
        refine ⟨nI (n + 1), xu (xu (xu h 138 n x) 139 n s) 132 2 (nI (n + 1)), xu (xu (xu (xu (xu (xu h 138 n x) 139 n s) 132 2 (nI (n + 1))) 158 n x) 159 n s) 140 37 (nI (n + 1)), fun Q => ?_, fun Q => ?_, NL, G, w, v, hN.mv (fun a q1 q2 => ?_) ?_ ?_ ?_ ?_ ?_ (fun a q1 q2 => ?_), hT.mv ?_ ?_ ?_ ?_, hF.mv ?_ ?_, hS.mv ?_ ?_ ?_ ?_ ?_ ?_ ?_ ?_, hL.mv ?_ ?_ ?_ ?_ ?_ ?_, ?_, hP.mv ?_ ?_ (fun a q1 q2 => ?_) ?_, hI.mv ?_ ?_ (fun a q1 q2 => ?_) ?_, hD.mv ?_ ?_⟩
        · simp only [eX5_write_0, eX5_write_1, eX5_write_4, eX5_write_5, eX5_write_8, eX5_write_11, eX5_write_13, eX5_write_14, eX5_write_15, eX5_write_16, eX5_write_19, eX5_write_22, eX5_write_25, eX5_write_27, eX5_write_28, eX5_write_29, eX5_write_32, eX5_write_35, eX5_write_37, eX5_write_40, eX5_write_41, eX5_write_44, eX5_write_45, eX5_write_46, eX5_write_49, eX5_write_52, eX5_write_54, eX0_addEntry_0, eX0_addEntry_1, eX0_addEntry_4, eX0_addEntry_6, eX0_addEntry_9, eX0_addEntry_10, eX0_addEntry_13, eX0_addEntry_14, eX0_addEntry_17, eX0_addEntry_18, eX0_addEntry_19, eX0_addEntry_20, eX0_addEntry_23, eX0_addEntry_24, eX0_addEntry_27, eX0_addEntry_28, eX0_addEntry_29, eX0_addEntry_30, eX0_addEntry_31, eX0_addEntry_34, eX0_addEntry_35, eX0_addEntry_36, eX0_addEntry_39, eX0_addEntry_40, eX0_addEntry_43, Option.toList_some, Option.toList_none, List.cons_append, List.nil_append, is01_0, is01_1, true_and, pl_P, c_hasGoer (pl_P sw) hC, r_isOutside, b01_0, out_in, c, c2, not_true, if_true, if_false, and_self, t1, hcl, hin, e1, e1', xun, xus, xps, xpn, ne_eq, not_false_eq_true, Nat.reduceEqDiff, not_false_iff, nI_1]
        · simp only [eX6_write_0, eX6_write_1, eX6_write_2, eX6_write_5, eX6_write_8, eX6_write_10, eX6_write_11, eX6_write_12, eX6_write_13, eX6_write_14, eX6_write_17, eX6_write_20, eX6_write_23, eX6_write_25, eX6_write_26, eX6_write_27, eX6_write_30, eX6_write_32, eX6_write_35, eX6_write_37, eX6_write_38, eX6_write_39, eX6_write_42, eX6_write_43, eX6_write_46, eX6_write_47, eX6_write_48, eX6_write_49, eX6_write_52, eX6_write_53, eX6_write_56, eX6_write_57, eX6_write_58, eX6_write_59, eX6_write_60, eX6_write_63, eX6_write_64, eX6_write_65, eX6_write_68, eX6_write_69, eX6_write_72, Option.toList_some, Option.toList_none, List.cons_append, List.nil_append, is01_0, is01_1, true_and, m_isGoer hM1 hW.2.1, r_in, b01_0, wl_0, wr_0, wl_1, wr_1, wl_2, wr_2, wl_3, wr_3, wl_20, wr_20, wl_48, wr_48, wl_57, wr_57, wl_60, wr_60, wl_100, wr_100, wl_255, wr_255, wl_500, wr_500, wl_900, wr_900, wl_999, wr_999, wl_12345, wr_12345, wl_999999, wr_999999, wl_99999999, wr_99999999, wl_1000000000, wr_1000000000, wl_1103515245, wr_1103515245, c, c2, not_true, if_true, if_false, and_self, t2, hcl, hin, e2, xun, xus, xps, xpn, ne_eq, not_false_eq_true, Nat.reduceEqDiff, not_false_iff, nI_1]
        all_goals first
          | (simp only [xun, xus, xps, xpn, ne_eq, not_false_eq_true, Nat.reduceEqDiff, not_false_iff]; done)
          | (rw [xun _ _ _ _ _ (by omega), xun _ _ _ _ _ (by omega), xun _ _ _ _ _ (by omega), xun _ _ _ _ _ (by omega), xun _ _ _ _ _ (by omega), xun _ _ _ _ _ (by omega)]; done)
          | skip
        refine ⟨n + 1, fun k => if k = n then j else bo k, by omega, by simp only [xun, xus, xps, xpn, ne_eq, not_false_eq_true, Nat.reduceEqDiff, not_false_iff], by simp only [xun, xus, xps, xpn, ne_eq, not_false_eq_true, Nat.reduceEqDiff, not_false_iff], fun k hk => ?_⟩
        simp only [xun, xus, xps, xpn, ne_eq, not_false_eq_true, Nat.reduceEqDiff, not_false_iff]
        by_cases e : k = n
        · subst e
          simp only [xps, if_true]
          exact ⟨hx, hx, hj, trivial⟩
        · simp only [xpn _ _ _ _ e, if_neg e]
          exact t3 k (by omega)
    · refine OpK.same H ?_
      unfold Both
      simp only [eX5_write_0, eX5_write_1, eX5_write_4, eX5_write_5, eX5_write_8, eX5_write_11, eX5_write_13, eX5_write_14, eX5_write_15, eX5_write_16, eX5_write_19, eX5_write_22, eX5_write_25, eX5_write_27, eX5_write_28, eX5_write_29, eX5_write_32, eX5_write_35, eX5_write_37, eX5_write_40, eX5_write_41, eX5_write_44, eX5_write_45, eX5_write_46, eX5_write_49, eX5_write_52, eX5_write_54, eX6_write_0, eX6_write_1, eX6_write_2, eX6_write_5, eX6_write_8, eX6_write_10, eX6_write_11, eX6_write_12, eX6_write_13, eX6_write_14, eX6_write_17, eX6_write_20, eX6_write_23, eX6_write_25, eX6_write_26, eX6_write_27, eX6_write_30, eX6_write_32, eX6_write_35, eX6_write_37, eX6_write_38, eX6_write_39, eX6_write_42, eX6_write_43, eX6_write_46, eX6_write_47, eX6_write_48, eX6_write_49, eX6_write_52, eX6_write_53, eX6_write_56, eX6_write_57, eX6_write_58, eX6_write_59, eX6_write_60, eX6_write_63, eX6_write_64, eX6_write_65, eX6_write_68, eX6_write_69, eX6_write_72, Option.toList_some, Option.toList_none, List.cons_append, List.nil_append, is01_0, is01_1, true_and, pl_P, c_hasGoer (pl_P sw) hC, m_isGoer hM hW.2.1, r_isOutside, r_in, b01_0, out_in, wl_0, wr_0, wl_1, wr_1, wl_2, wr_2, wl_3, wr_3, wl_20, wr_20, wl_48, wr_48, wl_57, wr_57, wl_60, wr_60, wl_100, wr_100, wl_255, wr_255, wl_500, wr_500, wl_900, wr_900, wl_999, wr_999, wl_12345, wr_12345, wl_999999, wr_999999, wl_99999999, wr_99999999, wl_1000000000, wr_1000000000, wl_1103515245, wr_1103515245, c, c2, not_true, not_false_iff, if_true, if_false, and_self]
      first | exact ⟨_, fun _ => rfl, fun _ => rfl⟩ | exact ⟨_, fun _ => rfl⟩
  · refine OpK.same H ?_
    unfold Both
    simp only [eX5_write_0, eX5_write_1, eX5_write_4, eX5_write_5, eX5_write_8, eX5_write_11, eX5_write_13, eX5_write_14, eX5_write_15, eX5_write_16, eX5_write_19, eX5_write_22, eX5_write_25, eX5_write_27, eX5_write_28, eX5_write_29, eX5_write_32, eX5_write_35, eX5_write_37, eX5_write_40, eX5_write_41, eX5_write_44, eX5_write_45, eX5_write_46, eX5_write_49, eX5_write_52, eX5_write_54, eX6_write_0, eX6_write_1, eX6_write_2, eX6_write_5, eX6_write_8, eX6_write_10, eX6_write_11, eX6_write_12, eX6_write_13, eX6_write_14, eX6_write_17, eX6_write_20, eX6_write_23, eX6_write_25, eX6_write_26, eX6_write_27, eX6_write_30, eX6_write_32, eX6_write_35, eX6_write_37, eX6_write_38, eX6_write_39, eX6_write_42, eX6_write_43, eX6_write_46, eX6_write_47, eX6_write_48, eX6_write_49, eX6_write_52, eX6_write_53, eX6_write_56, eX6_write_57, eX6_write_58, eX6_write_59, eX6_write_60, eX6_write_63, eX6_write_64, eX6_write_65, eX6_write_68, eX6_write_69, eX6_write_72, Option.toList_some, Option.toList_none, List.cons_append, List.nil_append, is01_0, is01_1, true_and, pl_P, c_hasGoer (pl_P sw) hC, m_isGoer hM hW.2.1, r_isOutside, r_in, b01_0, out_in, wl_0, wr_0, wl_1, wr_1, wl_2, wr_2, wl_3, wr_3, wl_20, wr_20, wl_48, wr_48, wl_57, wr_57, wl_60, wr_60, wl_100, wr_100, wl_255, wr_255, wl_500, wr_500, wl_900, wr_900, wl_999, wr_999, wl_12345, wr_12345, wl_999999, wr_999999, wl_99999999, wr_99999999, wl_1000000000, wr_1000000000, wl_1103515245, wr_1103515245, c, not_true, not_false_iff, if_true, if_false]
    first | exact ⟨_, fun _ => rfl, fun _ => rfl⟩ | exact ⟨_, fun _ => rfl⟩
theorem p_tear : OpK X mX5_tear mX6_tear [.ref 0, .null] [.ref 140, .null] := OpK.two fun sw h NL G w v H => by
  obtain ⟨hN, hT, hF, hS, hL, hB, hP, hI, hD⟩ := H
  obtain ⟨n1, sy, ss, sm, -, a1, a2, -⟩ := id hS
  obtain ⟨n2, fy, fh, -, b1, b2, -⟩ := id hL
  obtain ⟨n3, bo, -, c1, c2, -⟩ := id hB
  refine ⟨nI n1 + nI n2 + nI n3, xu (xu (xu h 132 0 0) 132 1 0) 132 2 0, xu (xu (xu (xu (xu (xu h 132 0 0) 132 1 0) 132 2 0) 140 29 0) 140 34 0) 140 37 0, fun Q => ?_, fun Q => ?_, NL, G, w, v, hN.mv (fun a q1 q2 => ?_) ?_ ?_ ?_ ?_ ?_ (fun a q1 q2 => ?_), hT.mv ?_ ?_ ?_ ?_, hF.mv ?_ ?_, ?_, ?_, ?_, hP.mv ?_ ?_ (fun a q1 q2 => ?_) ?_, hI.mv ?_ ?_ (fun a q1 q2 => ?_) ?_, hD.mv ?_ ?_⟩
  · simp only [eX5_tear_0, eX5_tear_1, eX5_tear_4, eX5_tear_7, eX5_tear_8, eX5_tear_11, eX5_tear_14, eX5_tear_15, eX5_tear_16, eX5_tear_19, eX5_tear_22, eX5_tear_23, eX5_tear_24, eX5_tear_25, eX5_tear_28, eX5_tear_31, eX5_tear_32, eX0_clear_0, eX0_clear_1, eX0_clear_2, eX0_clear_5, eX0_clear_6, eX0_clear_7, eX0_clear_10, eX0_clear_11, eX0_clear_12, eX0_clear_15, Option.toList_some, Option.toList_none, List.cons_append, List.nil_append, is01_0, is01_1, true_and, a1, b1, c1, xun, xus, xps, xpn, ne_eq, not_false_eq_true, Nat.reduceEqDiff, not_false_iff]
  · simp only [eX6_tear_0, eX6_tear_1, eX6_tear_4, eX6_tear_5, eX6_tear_8, eX6_tear_9, eX6_tear_10, eX6_tear_13, eX6_tear_14, eX6_tear_15, eX6_tear_16, eX6_tear_17, eX6_tear_20, eX6_tear_21, eX6_tear_22, eX6_tear_25, eX6_tear_26, eX6_tear_27, eX6_tear_30, eX6_tear_31, Option.toList_some, Option.toList_none, List.cons_append, List.nil_append, is01_0, is01_1, true_and, a2, b2, c2, xun, xus, xps, xpn, ne_eq, not_false_eq_true, Nat.reduceEqDiff, not_false_iff]
  all_goals first
    | (simp only [xun, xus, xps, xpn, ne_eq, not_false_eq_true, Nat.reduceEqDiff, not_false_iff]; done)
    | (rw [xun _ _ _ _ _ (by omega), xun _ _ _ _ _ (by omega), xun _ _ _ _ _ (by omega), xun _ _ _ _ _ (by omega), xun _ _ _ _ _ (by omega), xun _ _ _ _ _ (by omega)]; done)
    | skip
  · exact ⟨0, sy, ss, sm, by omega, by simp only [xun, xus, xps, xpn, ne_eq, not_false_eq_true, Nat.reduceEqDiff, not_false_iff]; rfl, by simp only [xun, xus, xps, xpn, ne_eq, not_false_eq_true, Nat.reduceEqDiff, not_false_iff]; rfl, fun k hk => by omega⟩
  · exact ⟨0, fy, fh, by omega, by simp only [xun, xus, xps, xpn, ne_eq, not_false_eq_true, Nat.reduceEqDiff, not_false_iff]; rfl, by simp only [xun, xus, xps, xpn, ne_eq, not_false_eq_true, Nat.reduceEqDiff, not_false_iff]; rfl, fun k hk => by omega⟩
  · exact ⟨0, bo, by omega, by simp only [xun, xus, xps, xpn, ne_eq, not_false_eq_true, Nat.reduceEqDiff, not_false_iff]; rfl, by simp only [xun, xus, xps, xpn, ne_eq, not_false_eq_true, Nat.reduceEqDiff, not_false_iff]; rfl, fun k hk => by omega⟩
end OPS
