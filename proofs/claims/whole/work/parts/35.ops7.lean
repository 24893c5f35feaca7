/-! off, fetch, undo, keep, go back -/
section ACT
variable {X : (Nat → Int32) × Nat} {g : xG} {sw : Bool} {NL G : Nat} {w v : Nat → Int32}
theorem n2_3 : ¬ (2 : Int32) = 3 := by decide
theorem p_off (x : Int32) : OpK X mX5_off mX6_off [.ref 0, .int x] [.ref 140, .int x] := OpK.two fun sw h NL G w v H => by
  obtain ⟨n1, n2, n3, n4, n5, n6⟩ := id H.1
  by_cases c : 0 ≤ x ∧ x < nI G
  · obtain ⟨j, hj, rfl⟩ := goE n1.2.1 c
    have hj8 : j < 8 := by have := n1.2.1; omega
    by_cases c1 : v (12 + j) = 2
    · by_cases c2 : v 0 = 0
      · refine OpK.same H ?_
        unfold Both
        simp only [eX5_off_0, eX5_off_1, eX5_off_4, eX5_off_5, eX5_off_8, eX5_off_11, eX5_off_13, eX5_off_14, eX5_off_15, eX5_off_18, eX5_off_21, eX5_off_22, eX5_off_23, eX5_off_24, eX5_off_27, eX5_off_28, eX5_off_31, eX5_off_34, eX5_off_37, eX5_off_39, eX5_off_40, eX5_off_41, eX5_off_44, eX5_off_45, eX5_off_48, eX5_off_51, eX5_off_52, eX5_off_55, eX5_off_58, eX5_off_59, eX5_off_60, eX5_off_61, eX5_off_62, eX5_off_65, eX5_off_68, eX5_off_69, eX5_off_70, eX5_off_73, eX5_off_76, eX5_off_77, eX5_off_78, eX5_off_81, eX5_off_84, eX6_off_0, eX6_off_1, eX6_off_2, eX6_off_5, eX6_off_8, eX6_off_10, eX6_off_11, eX6_off_12, eX6_off_15, eX6_off_17, eX6_off_18, eX6_off_19, eX6_off_20, eX6_off_21, eX6_off_24, eX6_off_25, eX6_off_28, eX6_off_29, eX6_off_30, eX6_off_33, eX6_off_35, eX6_off_36, eX6_off_37, eX6_off_40, eX6_off_41, eX6_off_44, eX6_off_46, eX6_off_47, eX6_off_48, eX6_off_49, eX6_off_50, eX6_off_51, eX6_off_54, eX6_off_56, eX6_off_57, eX6_off_58, eX6_off_59, eX6_off_62, eX6_off_63, eX6_off_64, eX6_off_65, eX6_off_66, eX6_off_67, eX6_off_70, Option.toList_some, Option.toList_none, List.cons_append, List.nil_append, is01_0, is01_1, true_and, pl_P, c_hasGoer (pl_P sw) n3, m_isGoer n4 n1.2.1, b01_0, c, and_self, not_true, if_true, if_false, cl8 hj8, inb8 hj8 (Nat.le_refl 8), la4, la12, la20, la28, la36, cl8_4 hj8, cl8_12 hj8, cl8_20 hj8, cl8_28 hj8, cl8_36 hj8, ib8_4 hj8, ib8_12 hj8, ib8_20 hj8, ib8_28 hj8, ib8_36 hj8, n5.w j hj8, n6.w j hj, n5.1, n6.f, tc0, ib0, c1, c2]
        first | exact ⟨_, fun _ => rfl, fun _ => rfl⟩ | exact ⟨_, fun _ => rfl⟩
      · obtain ⟨hp, hN, z0, z140, e1, K⟩ := act X H
        obtain ⟨m1, m2, m3, m4, m5, m6⟩ := id hN
        obtain ⟨hr, hM, hm, r0, r140, e2, K2⟩ := K (xu (xu hp 17 j 3) 18 j (v 0)) (fun a q1 q2 => by rw [xun _ _ _ _ _ (by omega), xun _ _ _ _ _ (by omega)])
        have hv20 : SW w G (xp v (20 + j) (v 0)) := n2.cong n1.2.1 (fun t ht => xpn _ _ _ _ (by omega))
        have eq12 : xp v (20 + j) (v 0) (12 + j) = 2 := by rw [xpn _ _ _ _ (by omega)]; exact c1
        have hV' : SW w G (xp (xp v (20 + j) (v 0)) (12 + j) 3) := hv20.place n1.2.1 hj (by rw [eq12]; decide) (Or.inr (Or.inr rfl)) (by
          have := ct_xp (xp v (20 + j) (v 0)) hj8 3
          have := hv20.ct
          rw [if_neg (show ¬ (3 : Int32) = 2 by decide)] at *
          omega)
        have hs' : SC (xu (xu hp 17 j 3) 18 j (v 0)) 13 G (xp (xp v (20 + j) (v 0)) (12 + j) 3) := by
          rw [xu_comm _ _ _ (by omega)]
          exact (m5.h20 n1.2.1 j (v 0) hj8 n2.n8).place n1.2.1 j 3 hj8 hv20.n8 (fun _ _ => by rw [xus, xps, xps])
        have hm' : SM (xu (xu hr 145 (12 + j) 3) 145 (20 + j) (v 0)) 145 0 G (xp (xp v (20 + j) (v 0)) (12 + j) 3) := by
          rw [xu_comm _ _ _ (by omega)]
          exact (hm.set (20 + j) (v 0) (by omega) (fun i hi q _ => by have := n1.2.1; omega)).set (12 + j) 3 (by omega) (fun i hi q _ => by
            have : i = j := by omega
            subst this
            rw [xus, xps, xps])
        have hM' : PM (xu (xu hr 145 (12 + j) 3) 145 (20 + j) (v 0)) NL G w := by
          refine hM.mv ?_ ?_ ?_ ?_ ?_ ?_ ?_ ?_ <;> simp only [xun, xus, xps, xpn, ne_eq, not_false_eq_true, Nat.reduceEqDiff, not_false_iff]
        refine ⟨nI (ctS (xp (xp v (20 + j) (v 0)) (12 + j) 3) 2 8), xu (xu hp 17 j 3) 18 j (v 0), xu (xu hr 145 (12 + j) 3) 145 (20 + j) (v 0), fun Q => ?_, fun Q => ?_, NL, G, w, _, K2 _ _ (fun a q1 q2 => by rw [xun _ _ _ _ _ q1, xun _ _ _ _ _ q1]) (fun k _ => by rw [xun _ _ _ _ _ (by omega), xun _ _ _ _ _ (by omega)]) hV' hs' hm' ?_⟩
        · simp only [eX5_off_0, eX5_off_1, eX5_off_4, eX5_off_5, eX5_off_8, eX5_off_11, eX5_off_13, eX5_off_14, eX5_off_15, eX5_off_18, eX5_off_21, eX5_off_22, eX5_off_23, eX5_off_24, eX5_off_27, eX5_off_28, eX5_off_31, eX5_off_34, eX5_off_37, eX5_off_39, eX5_off_40, eX5_off_41, eX5_off_44, eX5_off_45, eX5_off_48, eX5_off_51, eX5_off_52, eX5_off_55, eX5_off_58, eX5_off_59, eX5_off_60, eX5_off_61, eX5_off_62, eX5_off_65, eX5_off_68, eX5_off_69, eX5_off_70, eX5_off_73, eX5_off_76, eX5_off_77, eX5_off_78, eX5_off_81, eX5_off_84, Option.toList_some, Option.toList_none, List.cons_append, List.nil_append, is01_0, is01_1, true_and, pl_P, c_hasGoer (pl_P sw) n3, b01_0, c, and_self, not_true, if_true, if_false, cl8 hj8, inb8 hj8 (Nat.le_refl 8), n5.w j hj8, n5.1, c1, c2, e1, xun _ _ _ _ _ (show ¬ 13 = 17 by decide), m5.1, c_inCar hs']
        · have g1 : PM (xu (xu hp 17 j 3) 18 j (v 0)) NL G w := by
            refine m4.mv ?_ ?_ ?_ ?_ ?_ ?_ ?_ ?_ <;> simp only [xun, xus, xps, xpn, ne_eq, not_false_eq_true, Nat.reduceEqDiff, not_false_iff]
          have g2 : SM (xu (xu hp 17 j 3) 18 j (v 0)) 145 0 G v := m6.mv (by simp only [xun, xus, xps, xpn, ne_eq, not_false_eq_true, Nat.reduceEqDiff, not_false_iff])
          have eh : xu hr 145 (12 + j) 3 145 0 = v 0 := by rw [xus, xpn _ _ _ _ (by omega)]; exact hm.f.1
          simp only [eX6_off_0, eX6_off_1, eX6_off_2, eX6_off_5, eX6_off_8, eX6_off_10, eX6_off_11, eX6_off_12, eX6_off_15, eX6_off_17, eX6_off_18, eX6_off_19, eX6_off_20, eX6_off_21, eX6_off_24, eX6_off_25, eX6_off_28, eX6_off_29, eX6_off_30, eX6_off_33, eX6_off_35, eX6_off_36, eX6_off_37, eX6_off_40, eX6_off_41, eX6_off_44, eX6_off_46, eX6_off_47, eX6_off_48, eX6_off_49, eX6_off_50, eX6_off_51, eX6_off_54, eX6_off_56, eX6_off_57, eX6_off_58, eX6_off_59, eX6_off_62, eX6_off_63, eX6_off_64, eX6_off_65, eX6_off_66, eX6_off_67, eX6_off_70, Option.toList_some, Option.toList_none, List.cons_append, List.nil_append, is01_0, is01_1, true_and, m_isGoer g1 n1.2.1, b01_0, c, and_self, not_true, if_true, if_false, la4, la12, la20, la28, la36, cl8_4 hj8, cl8_12 hj8, cl8_20 hj8, cl8_28 hj8, cl8_36 hj8, ib8_4 hj8, ib8_12 hj8, ib8_20 hj8, ib8_28 hj8, ib8_36 hj8, g2.w j hj, g2.f, tc0, ib0, c1, c2, e2, eh, m_manyAt hm' n1.2.1 hM', ctS_G hV' n1.2.1 (show ¬ (2 : Int32) = 0 by decide)]
        · refine SDr.mv H.2.2.2.2.2.2.2.2 ?_ ?_
          · simp only [xun, xus, xps, xpn, ne_eq, not_false_eq_true, Nat.reduceEqDiff, not_false_iff, r0, z0]
          · simp only [xun, xus, xps, xpn, ne_eq, not_false_eq_true, Nat.reduceEqDiff, not_false_iff, r140]
    · refine OpK.same H ?_
      unfold Both
      simp only [eX5_off_0, eX5_off_1, eX5_off_4, eX5_off_5, eX5_off_8, eX5_off_11, eX5_off_13, eX5_off_14, eX5_off_15, eX5_off_18, eX5_off_21, eX5_off_22, eX5_off_23, eX5_off_24, eX5_off_27, eX5_off_28, eX5_off_31, eX5_off_34, eX5_off_37, eX5_off_39, eX5_off_40, eX5_off_41, eX5_off_44, eX5_off_45, eX5_off_48, eX5_off_51, eX5_off_52, eX5_off_55, eX5_off_58, eX5_off_59, eX5_off_60, eX5_off_61, eX5_off_62, eX5_off_65, eX5_off_68, eX5_off_69, eX5_off_70, eX5_off_73, eX5_off_76, eX5_off_77, eX5_off_78, eX5_off_81, eX5_off_84, eX6_off_0, eX6_off_1, eX6_off_2, eX6_off_5, eX6_off_8, eX6_off_10, eX6_off_11, eX6_off_12, eX6_off_15, eX6_off_17, eX6_off_18, eX6_off_19, eX6_off_20, eX6_off_21, eX6_off_24, eX6_off_25, eX6_off_28, eX6_off_29, eX6_off_30, eX6_off_33, eX6_off_35, eX6_off_36, eX6_off_37, eX6_off_40, eX6_off_41, eX6_off_44, eX6_off_46, eX6_off_47, eX6_off_48, eX6_off_49, eX6_off_50, eX6_off_51, eX6_off_54, eX6_off_56, eX6_off_57, eX6_off_58, eX6_off_59, eX6_off_62, eX6_off_63, eX6_off_64, eX6_off_65, eX6_off_66, eX6_off_67, eX6_off_70, Option.toList_some, Option.toList_none, List.cons_append, List.nil_append, is01_0, is01_1, true_and, pl_P, c_hasGoer (pl_P sw) n3, m_isGoer n4 n1.2.1, b01_0, c, and_self, not_true, if_true, if_false, cl8 hj8, inb8 hj8 (Nat.le_refl 8), la4, la12, la20, la28, la36, cl8_4 hj8, cl8_12 hj8, cl8_20 hj8, cl8_28 hj8, cl8_36 hj8, ib8_4 hj8, ib8_12 hj8, ib8_20 hj8, ib8_28 hj8, ib8_36 hj8, n5.w j hj8, n6.w j hj, c1, not_false_iff]
      first | exact ⟨_, fun _ => rfl, fun _ => rfl⟩ | exact ⟨_, fun _ => rfl⟩
  · refine OpK.same H ?_
    unfold Both
    simp only [eX5_off_0, eX5_off_1, eX5_off_4, eX5_off_5, eX5_off_8, eX5_off_11, eX5_off_13, eX5_off_14, eX5_off_15, eX5_off_18, eX5_off_21, eX5_off_22, eX5_off_23, eX5_off_24, eX5_off_27, eX5_off_28, eX5_off_31, eX5_off_34, eX5_off_37, eX5_off_39, eX5_off_40, eX5_off_41, eX5_off_44, eX5_off_45, eX5_off_48, eX5_off_51, eX5_off_52, eX5_off_55, eX5_off_58, eX5_off_59, eX5_off_60, eX5_off_61, eX5_off_62, eX5_off_65, eX5_off_68, eX5_off_69, eX5_off_70, eX5_off_73, eX5_off_76, eX5_off_77, eX5_off_78, eX5_off_81, eX5_off_84, eX6_off_0, eX6_off_1, eX6_off_2, eX6_off_5, eX6_off_8, eX6_off_10, eX6_off_11, eX6_off_12, eX6_off_15, eX6_off_17, eX6_off_18, eX6_off_19, eX6_off_20, eX6_off_21, eX6_off_24, eX6_off_25, eX6_off_28, eX6_off_29, eX6_off_30, eX6_off_33, eX6_off_35, eX6_off_36, eX6_off_37, eX6_off_40, eX6_off_41, eX6_off_44, eX6_off_46, eX6_off_47, eX6_off_48, eX6_off_49, eX6_off_50, eX6_off_51, eX6_off_54, eX6_off_56, eX6_off_57, eX6_off_58, eX6_off_59, eX6_off_62, eX6_off_63, eX6_off_64, eX6_off_65, eX6_off_66, eX6_off_67, eX6_off_70, Option.toList_some, Option.toList_none, List.cons_append, List.nil_append, is01_0, is01_1, true_and, pl_P, c_hasGoer (pl_P sw) n3, m_isGoer n4 n1.2.1, b01_0, c, not_true, not_false_iff, if_true, if_false]
    first | exact ⟨_, fun _ => rfl, fun _ => rfl⟩ | exact ⟨_, fun _ => rfl⟩
theorem p_fetch (x : Int32) : OpK X mX5_fetch mX6_fetch [.ref 0, .int x] [.ref 140, .int x] := OpK.two fun sw h NL G w v H => by
  obtain ⟨n1, n2, n3, n4, n5, n6⟩ := id H.1
  by_cases c : 0 ≤ x ∧ x < nI G
  · obtain ⟨j, hj, rfl⟩ := goE n1.2.1 c
    have hj8 : j < 8 := by have := n1.2.1; omega
    obtain ⟨R, R1, R8, hR, hRc, hw0⟩ := n1.room hj
    by_cases c1 : v (12 + j) = 3
    · by_cases c2 : v (20 + j) = v 0
      · have hct := n2.ct
        rw [hRc] at hct
        have hctG := ctS_G n2 n1.2.1 (show ¬ (2 : Int32) = 0 by decide)
        have l1 : (nI R ≤ nI (ctS v 2 8)) = (R ≤ ctS v 2 8) := le_nI (by omega) (by omega)
        have l2 : (nI (ctS v 2 8) = nI R) = (ctS v 2 8 = R) := eq_nI (by omega) (by omega)
        have l3 : (nI (ctS v 2 8) < nI R) = (ctS v 2 8 < R) := lt_nI (by omega) (by omega)
        by_cases c3 : ctS v 2 8 = R
        · refine OpK.same H ?_
          unfold Both
          have q : R ≤ ctS v 2 8 := by omega
          have q' : ¬ ctS v 2 8 < R := by omega
          simp only [eX5_fetch_0, eX5_fetch_1, eX5_fetch_4, eX5_fetch_5, eX5_fetch_8, eX5_fetch_11, eX5_fetch_13, eX5_fetch_14, eX5_fetch_15, eX5_fetch_18, eX5_fetch_21, eX5_fetch_22, eX5_fetch_23, eX5_fetch_24, eX5_fetch_27, eX5_fetch_28, eX5_fetch_31, eX5_fetch_34, eX5_fetch_35, eX5_fetch_36, eX5_fetch_37, eX5_fetch_40, eX5_fetch_43, eX5_fetch_46, eX5_fetch_48, eX5_fetch_49, eX5_fetch_50, eX5_fetch_53, eX5_fetch_56, eX5_fetch_57, eX5_fetch_60, eX5_fetch_63, eX5_fetch_66, eX5_fetch_68, eX5_fetch_69, eX5_fetch_70, eX5_fetch_73, eX5_fetch_74, eX5_fetch_77, eX5_fetch_80, eX5_fetch_81, eX5_fetch_84, eX5_fetch_87, eX5_fetch_88, eX5_fetch_89, eX5_fetch_90, eX5_fetch_91, eX5_fetch_94, eX5_fetch_97, eX6_fetch_0, eX6_fetch_1, eX6_fetch_2, eX6_fetch_5, eX6_fetch_8, eX6_fetch_10, eX6_fetch_11, eX6_fetch_12, eX6_fetch_15, eX6_fetch_17, eX6_fetch_18, eX6_fetch_19, eX6_fetch_20, eX6_fetch_21, eX6_fetch_24, eX6_fetch_25, eX6_fetch_28, eX6_fetch_30, eX6_fetch_31, eX6_fetch_32, eX6_fetch_33, eX6_fetch_34, eX6_fetch_37, eX6_fetch_38, eX6_fetch_39, eX6_fetch_42, eX6_fetch_44, eX6_fetch_45, eX6_fetch_46, eX6_fetch_47, eX6_fetch_50, eX6_fetch_51, eX6_fetch_54, eX6_fetch_57, eX6_fetch_59, eX6_fetch_60, eX6_fetch_61, eX6_fetch_64, eX6_fetch_65, eX6_fetch_68, eX6_fetch_70, eX6_fetch_71, eX6_fetch_72, eX6_fetch_73, eX6_fetch_74, eX6_fetch_75, eX6_fetch_78, eX6_fetch_80, eX6_fetch_81, eX6_fetch_82, eX6_fetch_83, eX6_fetch_84, eX6_fetch_85, eX6_fetch_86, eX6_fetch_89, Option.toList_some, Option.toList_none, List.cons_append, List.nil_append, is01_0, is01_1, true_and, pl_P, c_hasGoer (pl_P sw) n3, m_isGoer n4 n1.2.1, b01_0, c, and_self, not_true, if_true, if_false, cl8 hj8, inb8 hj8 (Nat.le_refl 8), la4, la12, la20, la28, la36, cl8_4 hj8, cl8_12 hj8, cl8_20 hj8, cl8_28 hj8, cl8_36 hj8, ib8_4 hj8, ib8_12 hj8, ib8_20 hj8, ib8_28 hj8, ib8_36 hj8, n5.w j hj8, n6.w j hj, n5.s j hj c1, n6.s j hj c1, n5.1, n6.f, tc0, ib0, c1, c2, c_inCar n5, m_manyAt n6 n1.2.1 n4, ← hctG, n3.1, n4.1, hR, l1, l2, l3]
          first
            | (simp only [c3, Nat.le_refl, Nat.lt_irrefl, if_true, if_false, not_true, not_false_iff]; first | exact ⟨_, fun _ => rfl, fun _ => rfl⟩ | exact ⟨_, fun _ => rfl⟩)
            | (simp only [c3, q, q', if_true, if_false, not_true, not_false_iff]; first | exact ⟨_, fun _ => rfl, fun _ => rfl⟩ | exact ⟨_, fun _ => rfl⟩)
        · have q : ¬ R ≤ ctS v 2 8 := by omega
          have q' : ctS v 2 8 < R := by omega
          obtain ⟨hp, hN, z0, z140, e1, K⟩ := act X H
          obtain ⟨m1, m2, m3, m4, m5, m6⟩ := id hN
          obtain ⟨hr, hM, hm, r0, r140, e2, K2⟩ := K (xu hp 17 j 2) (fun a q1 q2 => by rw [xun _ _ _ _ _ (by omega)])
          have hV' : SW w G (xp v (12 + j) 2) := n2.place n1.2.1 hj (by rw [c1]; decide) (Or.inr (Or.inl rfl)) (by
            have := ct_xp v hj8 2
            rw [if_pos rfl, c1, if_neg (by decide)] at this
            rw [hRc]
            omega)
          have hs' : SC (xu hp 17 j 2) 13 G (xp v (12 + j) 2) := m5.place n1.2.1 j 2 hj8 n2.n8 (fun _ q => absurd q (by decide))
          have hm1 : SM (xu hr 145 (12 + j) 2) 145 0 G (xp v (12 + j) 2) := hm.set (12 + j) 2 (by omega) (fun i hi _ q => absurd q (by decide))
          have hm' : SM (xu (xu hr 145 (12 + j) 2) 145 (20 + j) 0) 145 0 G (xp v (12 + j) 2) := by
            have e : ∀ t, ¬ t = 20 + j → xu (xu hr 145 (12 + j) 2) 145 (20 + j) 0 145 t = xu hr 145 (12 + j) 2 145 t := fun t ht => by rw [xus, xpn _ _ _ _ ht]
            have h8 := n1.2.1
            refine ⟨⟨?_, ?_, ?_, ?_⟩, fun i hi => ?_, fun i hi => ⟨?_, ?_, ?_, fun qq => ?_⟩⟩
            · rw [e _ (by omega)]; exact hm1.f.1
            · rw [e _ (by omega)]; exact hm1.f.2.1
            · rw [e _ (by omega)]; exact hm1.f.2.2.1
            · rw [e _ (by omega)]; exact hm1.f.2.2.2
            · have := hV'.n8
              rw [Nat.zero_add, e _ (by omega)]; exact hm1.q i hi
            · rw [Nat.zero_add, e _ (by omega)]; exact hm1.w i hi
            · rw [Nat.zero_add, e _ (by omega)]; exact hm1.a i hi
            · rw [Nat.zero_add, e _ (by omega)]; exact hm1.k i hi
            · have : ¬ i = j := fun z => by rw [z, xps] at qq; exact absurd qq (by decide)
              rw [Nat.zero_add, e _ (by omega)]; exact hm1.s i hi qq
          have hM' : PM (xu (xu hr 145 (12 + j) 2) 145 (20 + j) 0) NL G w := by
            refine hM.mv ?_ ?_ ?_ ?_ ?_ ?_ ?_ ?_ <;> simp only [xun, xus, xps, xpn, ne_eq, not_false_eq_true, Nat.reduceEqDiff, not_false_iff]
          refine ⟨nI (ctS (xp v (12 + j) 2) 2 8), xu hp 17 j 2, xu (xu hr 145 (12 + j) 2) 145 (20 + j) 0, fun Q => ?_, fun Q => ?_, NL, G, w, _, K2 _ _ (fun a q1 q2 => by rw [xun _ _ _ _ _ q1, xun _ _ _ _ _ q1]) (fun k _ => by rw [xun _ _ _ _ _ (by omega), xun _ _ _ _ _ (by omega)]) hV' hs' hm' ?_⟩
          · simp only [eX5_fetch_0, eX5_fetch_1, eX5_fetch_4, eX5_fetch_5, eX5_fetch_8, eX5_fetch_11, eX5_fetch_13, eX5_fetch_14, eX5_fetch_15, eX5_fetch_18, eX5_fetch_21, eX5_fetch_22, eX5_fetch_23, eX5_fetch_24, eX5_fetch_27, eX5_fetch_28, eX5_fetch_31, eX5_fetch_34, eX5_fetch_35, eX5_fetch_36, eX5_fetch_37, eX5_fetch_40, eX5_fetch_43, eX5_fetch_46, eX5_fetch_48, eX5_fetch_49, eX5_fetch_50, eX5_fetch_53, eX5_fetch_56, eX5_fetch_57, eX5_fetch_60, eX5_fetch_63, eX5_fetch_66, eX5_fetch_68, eX5_fetch_69, eX5_fetch_70, eX5_fetch_73, eX5_fetch_74, eX5_fetch_77, eX5_fetch_80, eX5_fetch_81, eX5_fetch_84, eX5_fetch_87, eX5_fetch_88, eX5_fetch_89, eX5_fetch_90, eX5_fetch_91, eX5_fetch_94, eX5_fetch_97, Option.toList_some, Option.toList_none, List.cons_append, List.nil_append, is01_0, is01_1, true_and, pl_P, c_hasGoer (pl_P sw) n3, b01_0, c, and_self, not_true, if_true, if_false, cl8 hj8, inb8 hj8 (Nat.le_refl 8), n5.w j hj8, n5.s j hj c1, n5.1, c1, c2, c_inCar n5, n3.1, hR, l1, l3, q, q', e1, c_inCar hs']
          · have g1 : PM (xu hp 17 j 2) NL G w := by
              refine m4.mv ?_ ?_ ?_ ?_ ?_ ?_ ?_ ?_ <;> simp only [xun, xus, xps, xpn, ne_eq, not_false_eq_true, Nat.reduceEqDiff, not_false_iff]
            have g2 : SM (xu hp 17 j 2) 145 0 G v := m6.mv (by simp only [xun, xus, xps, xpn, ne_eq, not_false_eq_true, Nat.reduceEqDiff, not_false_iff])
            have hct' := ctS_G hV' n1.2.1 (show ¬ (2 : Int32) = 0 by decide)
            simp only [eX6_fetch_0, eX6_fetch_1, eX6_fetch_2, eX6_fetch_5, eX6_fetch_8, eX6_fetch_10, eX6_fetch_11, eX6_fetch_12, eX6_fetch_15, eX6_fetch_17, eX6_fetch_18, eX6_fetch_19, eX6_fetch_20, eX6_fetch_21, eX6_fetch_24, eX6_fetch_25, eX6_fetch_28, eX6_fetch_30, eX6_fetch_31, eX6_fetch_32, eX6_fetch_33, eX6_fetch_34, eX6_fetch_37, eX6_fetch_38, eX6_fetch_39, eX6_fetch_42, eX6_fetch_44, eX6_fetch_45, eX6_fetch_46, eX6_fetch_47, eX6_fetch_50, eX6_fetch_51, eX6_fetch_54, eX6_fetch_57, eX6_fetch_59, eX6_fetch_60, eX6_fetch_61, eX6_fetch_64, eX6_fetch_65, eX6_fetch_68, eX6_fetch_70, eX6_fetch_71, eX6_fetch_72, eX6_fetch_73, eX6_fetch_74, eX6_fetch_75, eX6_fetch_78, eX6_fetch_80, eX6_fetch_81, eX6_fetch_82, eX6_fetch_83, eX6_fetch_84, eX6_fetch_85, eX6_fetch_86, eX6_fetch_89, Option.toList_some, Option.toList_none, List.cons_append, List.nil_append, is01_0, is01_1, true_and, m_isGoer g1 n1.2.1, b01_0, c, and_self, not_true, not_false_iff, if_true, if_false, la4, la12, la20, la28, la36, cl8_4 hj8, cl8_12 hj8, cl8_20 hj8, cl8_28 hj8, cl8_36 hj8, ib8_4 hj8, ib8_12 hj8, ib8_20 hj8, ib8_28 hj8, ib8_36 hj8, g2.w j hj, g2.s j hj c1, g2.f, tc0, ib0, c1, c2, m_manyAt g2 n1.2.1 g1, ← hctG, g1.1, hR, l2, c3, e2, m_manyAt hm' n1.2.1 hM', ← hct']
          · refine SDr.mv H.2.2.2.2.2.2.2.2 ?_ ?_
            · simp only [xun, xus, xps, xpn, ne_eq, not_false_eq_true, Nat.reduceEqDiff, not_false_iff, r0, z0]
            · simp only [xun, xus, xps, xpn, ne_eq, not_false_eq_true, Nat.reduceEqDiff, not_false_iff, r140]
      · refine OpK.same H ?_
        unfold Both
        simp only [eX5_fetch_0, eX5_fetch_1, eX5_fetch_4, eX5_fetch_5, eX5_fetch_8, eX5_fetch_11, eX5_fetch_13, eX5_fetch_14, eX5_fetch_15, eX5_fetch_18, eX5_fetch_21, eX5_fetch_22, eX5_fetch_23, eX5_fetch_24, eX5_fetch_27, eX5_fetch_28, eX5_fetch_31, eX5_fetch_34, eX5_fetch_35, eX5_fetch_36, eX5_fetch_37, eX5_fetch_40, eX5_fetch_43, eX5_fetch_46, eX5_fetch_48, eX5_fetch_49, eX5_fetch_50, eX5_fetch_53, eX5_fetch_56, eX5_fetch_57, eX5_fetch_60, eX5_fetch_63, eX5_fetch_66, eX5_fetch_68, eX5_fetch_69, eX5_fetch_70, eX5_fetch_73, eX5_fetch_74, eX5_fetch_77, eX5_fetch_80, eX5_fetch_81, eX5_fetch_84, eX5_fetch_87, eX5_fetch_88, eX5_fetch_89, eX5_fetch_90, eX5_fetch_91, eX5_fetch_94, eX5_fetch_97, eX6_fetch_0, eX6_fetch_1, eX6_fetch_2, eX6_fetch_5, eX6_fetch_8, eX6_fetch_10, eX6_fetch_11, eX6_fetch_12, eX6_fetch_15, eX6_fetch_17, eX6_fetch_18, eX6_fetch_19, eX6_fetch_20, eX6_fetch_21, eX6_fetch_24, eX6_fetch_25, eX6_fetch_28, eX6_fetch_30, eX6_fetch_31, eX6_fetch_32, eX6_fetch_33, eX6_fetch_34, eX6_fetch_37, eX6_fetch_38, eX6_fetch_39, eX6_fetch_42, eX6_fetch_44, eX6_fetch_45, eX6_fetch_46, eX6_fetch_47, eX6_fetch_50, eX6_fetch_51, eX6_fetch_54, eX6_fetch_57, eX6_fetch_59, eX6_fetch_60, eX6_fetch_61, eX6_fetch_64, eX6_fetch_65, eX6_fetch_68, eX6_fetch_70, eX6_fetch_71, eX6_fetch_72, eX6_fetch_73, eX6_fetch_74, eX6_fetch_75, eX6_fetch_78, eX6_fetch_80, eX6_fetch_81, eX6_fetch_82, eX6_fetch_83, eX6_fetch_84, eX6_fetch_85, eX6_fetch_86, eX6_fetch_89, Option.toList_some, Option.toList_none, List.cons_append, List.nil_append, is01_0, is01_1, true_and, pl_P, c_hasGoer (pl_P sw) n3, m_isGoer n4 n1.2.1, b01_0, c, and_self, not_true, if_true, if_false, cl8 hj8, inb8 hj8 (Nat.le_refl 8), la4, la12, la20, la28, la36, cl8_4 hj8, cl8_12 hj8, cl8_20 hj8, cl8_28 hj8, cl8_36 hj8, ib8_4 hj8, ib8_12 hj8, ib8_20 hj8, ib8_28 hj8, ib8_36 hj8, n5.w j hj8, n6.w j hj, n5.s j hj c1, n6.s j hj c1, n5.1, n6.f, tc0, ib0, c1, c2, not_false_iff]
        first | exact ⟨_, fun _ => rfl, fun _ => rfl⟩ | exact ⟨_, fun _ => rfl⟩
    · refine OpK.same H ?_
      unfold Both
      simp only [eX5_fetch_0, eX5_fetch_1, eX5_fetch_4, eX5_fetch_5, eX5_fetch_8, eX5_fetch_11, eX5_fetch_13, eX5_fetch_14, eX5_fetch_15, eX5_fetch_18, eX5_fetch_21, eX5_fetch_22, eX5_fetch_23, eX5_fetch_24, eX5_fetch_27, eX5_fetch_28, eX5_fetch_31, eX5_fetch_34, eX5_fetch_35, eX5_fetch_36, eX5_fetch_37, eX5_fetch_40, eX5_fetch_43, eX5_fetch_46, eX5_fetch_48, eX5_fetch_49, eX5_fetch_50, eX5_fetch_53, eX5_fetch_56, eX5_fetch_57, eX5_fetch_60, eX5_fetch_63, eX5_fetch_66, eX5_fetch_68, eX5_fetch_69, eX5_fetch_70, eX5_fetch_73, eX5_fetch_74, eX5_fetch_77, eX5_fetch_80, eX5_fetch_81, eX5_fetch_84, eX5_fetch_87, eX5_fetch_88, eX5_fetch_89, eX5_fetch_90, eX5_fetch_91, eX5_fetch_94, eX5_fetch_97, eX6_fetch_0, eX6_fetch_1, eX6_fetch_2, eX6_fetch_5, eX6_fetch_8, eX6_fetch_10, eX6_fetch_11, eX6_fetch_12, eX6_fetch_15, eX6_fetch_17, eX6_fetch_18, eX6_fetch_19, eX6_fetch_20, eX6_fetch_21, eX6_fetch_24, eX6_fetch_25, eX6_fetch_28, eX6_fetch_30, eX6_fetch_31, eX6_fetch_32, eX6_fetch_33, eX6_fetch_34, eX6_fetch_37, eX6_fetch_38, eX6_fetch_39, eX6_fetch_42, eX6_fetch_44, eX6_fetch_45, eX6_fetch_46, eX6_fetch_47, eX6_fetch_50, eX6_fetch_51, eX6_fetch_54, eX6_fetch_57, eX6_fetch_59, eX6_fetch_60, eX6_fetch_61, eX6_fetch_64, eX6_fetch_65, eX6_fetch_68, eX6_fetch_70, eX6_fetch_71, eX6_fetch_72, eX6_fetch_73, eX6_fetch_74, eX6_fetch_75, eX6_fetch_78, eX6_fetch_80, eX6_fetch_81, eX6_fetch_82, eX6_fetch_83, eX6_fetch_84, eX6_fetch_85, eX6_fetch_86, eX6_fetch_89, Option.toList_some, Option.toList_none, List.cons_append, List.nil_append, is01_0, is01_1, true_and, pl_P, c_hasGoer (pl_P sw) n3, m_isGoer n4 n1.2.1, b01_0, c, and_self, not_true, if_true, if_false, cl8 hj8, inb8 hj8 (Nat.le_refl 8), la4, la12, la20, la28, la36, cl8_4 hj8, cl8_12 hj8, cl8_20 hj8, cl8_28 hj8, cl8_36 hj8, ib8_4 hj8, ib8_12 hj8, ib8_20 hj8, ib8_28 hj8, ib8_36 hj8, n5.w j hj8, n6.w j hj, c1, not_false_iff]
      first | exact ⟨_, fun _ => rfl, fun _ => rfl⟩ | exact ⟨_, fun _ => rfl⟩
  · refine OpK.same H ?_
    unfold Both
    simp only [eX5_fetch_0, eX5_fetch_1, eX5_fetch_4, eX5_fetch_5, eX5_fetch_8, eX5_fetch_11, eX5_fetch_13, eX5_fetch_14, eX5_fetch_15, eX5_fetch_18, eX5_fetch_21, eX5_fetch_22, eX5_fetch_23, eX5_fetch_24, eX5_fetch_27, eX5_fetch_28, eX5_fetch_31, eX5_fetch_34, eX5_fetch_35, eX5_fetch_36, eX5_fetch_37, eX5_fetch_40, eX5_fetch_43, eX5_fetch_46, eX5_fetch_48, eX5_fetch_49, eX5_fetch_50, eX5_fetch_53, eX5_fetch_56, eX5_fetch_57, eX5_fetch_60, eX5_fetch_63, eX5_fetch_66, eX5_fetch_68, eX5_fetch_69, eX5_fetch_70, eX5_fetch_73, eX5_fetch_74, eX5_fetch_77, eX5_fetch_80, eX5_fetch_81, eX5_fetch_84, eX5_fetch_87, eX5_fetch_88, eX5_fetch_89, eX5_fetch_90, eX5_fetch_91, eX5_fetch_94, eX5_fetch_97, eX6_fetch_0, eX6_fetch_1, eX6_fetch_2, eX6_fetch_5, eX6_fetch_8, eX6_fetch_10, eX6_fetch_11, eX6_fetch_12, eX6_fetch_15, eX6_fetch_17, eX6_fetch_18, eX6_fetch_19, eX6_fetch_20, eX6_fetch_21, eX6_fetch_24, eX6_fetch_25, eX6_fetch_28, eX6_fetch_30, eX6_fetch_31, eX6_fetch_32, eX6_fetch_33, eX6_fetch_34, eX6_fetch_37, eX6_fetch_38, eX6_fetch_39, eX6_fetch_42, eX6_fetch_44, eX6_fetch_45, eX6_fetch_46, eX6_fetch_47, eX6_fetch_50, eX6_fetch_51, eX6_fetch_54, eX6_fetch_57, eX6_fetch_59, eX6_fetch_60, eX6_fetch_61, eX6_fetch_64, eX6_fetch_65, eX6_fetch_68, eX6_fetch_70, eX6_fetch_71, eX6_fetch_72, eX6_fetch_73, eX6_fetch_74, eX6_fetch_75, eX6_fetch_78, eX6_fetch_80, eX6_fetch_81, eX6_fetch_82, eX6_fetch_83, eX6_fetch_84, eX6_fetch_85, eX6_fetch_86, eX6_fetch_89, Option.toList_some, Option.toList_none, List.cons_append, List.nil_append, is01_0, is01_1, true_and, pl_P, c_hasGoer (pl_P sw) n3, m_isGoer n4 n1.2.1, b01_0, c, not_true, not_false_iff, if_true, if_false]
    first | exact ⟨_, fun _ => rfl, fun _ => rfl⟩ | exact ⟨_, fun _ => rfl⟩
theorem p_undo : OpK X mX5_undo mX6_undo [.ref 0] [.ref 140, .null] := OpK.two fun sw h NL G w v H => by
  obtain ⟨n1, n2, n3, n4, n5, n6⟩ := id H.1
  obtain ⟨c, x, u, hc, hx, hPc, hPm, hu⟩ := PSr.ap H.2.2.2.2.2.2.1
  by_cases q : c = 0
  · refine OpK.same H ?_
    unfold Both
    have z00 : nI 0 = 0 := rfl
    simp only [eX5_undo_0, eX5_undo_1, eX5_undo_4, eX5_undo_7, eX5_undo_10, eX5_undo_12, eX5_undo_13, eX5_undo_14, eX5_undo_17, eX5_undo_18, eX5_undo_21, eX5_undo_24, eX5_undo_25, eX5_undo_28, eX5_undo_31, eX6_undo_0, eX6_undo_1, eX6_undo_4, eX6_undo_7, eX6_undo_9, eX6_undo_10, eX6_undo_11, eX6_undo_12, eX6_undo_15, eX6_undo_16, eX6_undo_17, eX6_undo_20, eX6_undo_21, eX6_undo_23, eX6_undo_25, eX6_undo_28, eX6_undo_29, eX6_undo_32, eX6_undo_33, eX6_undo_34, eX6_undo_37, eX6_undo_39, eX6_undo_40, eX6_undo_43, eX6_undo_44, eX6_undo_45, eX6_undo_46, eX6_undo_47, eX6_undo_48, eX6_undo_51, eX6_undo_54, eX6_undo_55, eX6_undo_58, Option.toList_some, Option.toList_none, List.cons_append, List.nil_append, is01_0, is01_1, true_and, hPc.1, hPm.1, q, z00, if_true, not_true, if_false]
    first | exact ⟨_, fun _ => rfl, fun _ => rfl⟩ | exact ⟨_, fun _ => rfl⟩
  · have q0 : ¬ nI c = 0 := nI_ne0 (by omega) (by omega)
    have q1 : ¬ nI c ≤ 0 := nI_nle (by omega) (by omega)
    have q1' : 0 < nI c := by rw [← Int32.not_le]; exact q1
    have em : nI x + 16 - 1 - (nI x + 16 - 1) / 16 * 16 = nI ((x + 15) % 16) := by
      have e1 : nI x + 16 - 1 = nI (x + 15) := by
        have := nI_add x 16
        rw [show (16 : Int32) = nI 16 from rfl, this]
        exact pk_sub (b := 1) (by omega)
      rw [e1]
      exact pk_rem (d := 16) (by omega) (by omega) (by omega)
    have ep : nI c - 1 = nI (c - 1) := pk_sub (b := 1) (by omega)
    have hy : (x + 15) % 16 < 16 := Nat.mod_lt _ (by omega)
    have hcl : (nI ((x + 15) % 16)).toNatClampNeg = (x + 15) % 16 := cl_nI (by omega)
    have hin : inb (nI ((x + 15) % 16)) 16 = True := by rw [inb_nIe (by omega)]; apply eq_true; omega
    obtain ⟨h1, C1, e1⟩ := c_copy X sw (h := xu (xu h 19 2 (nI ((x + 15) % 16))) 19 1 (nI (c - 1))) sc_now (sc_past _ hy) (by omega)
    have f1 : ∀ a, ¬ (13 ≤ a ∧ a ≤ 19) → h1 a = h a := fun a ha => by rw [C1.1 a (by omega), xun _ _ _ _ _ (by omega), xun _ _ _ _ _ (by omega)]
    have hs' : SC h1 13 G (u (c - 1)) := by
      refine C1.sc n1.2.1 (hu _ (by omega)) ?_
      have := hPc.2.2 (c - 1) (by omega)
      rw [show (x + 16 - c + (c - 1)) % 16 = (x + 15) % 16 by omega] at this
      exact this.mv (fun k _ => by rw [xun _ _ _ _ _ (by omega), xun _ _ _ _ _ (by omega)]) (by rw [xun _ _ _ _ _ (by omega), xun _ _ _ _ _ (by omega)]) (by rw [xun _ _ _ _ _ (by omega), xun _ _ _ _ _ (by omega)]) (by rw [xun _ _ _ _ _ (by omega), xun _ _ _ _ _ (by omega)]) (by rw [xun _ _ _ _ _ (by omega), xun _ _ _ _ _ (by omega)]) (by rw [xun _ _ _ _ _ (by omega), xun _ _ _ _ _ (by omega)])
    have h19 : h1 19 1 = nI (c - 1) := by rw [C1.1 19 (by omega), xus, xps]
    have h192 : h1 19 2 = nI ((x + 15) % 16) := by rw [C1.1 19 (by omega), xus, xpn _ _ _ _ (by omega), xus, xps]
    have hPm1 : PSm h1 G c u := hPm.mv (by rw [f1 140 (by omega)]) (f1 151 (by omega))
    let hm := xu h1 140 27 (nI (c - 1))
    have hmm : ∀ a, ¬ a = 140 → hm a = h1 a := fun a ha => by show xu _ _ _ _ _ = _; rw [xun _ _ _ _ _ ha]
    have hm27 : hm 140 27 = nI (c - 1) := by show xu _ _ _ _ _ _ = _; rw [xus, xps]
    let h2 := cpR hm 145 0 151 (44 * (c - 1)) 44
    have h2o : ∀ a, ¬ a = 145 → h2 a = hm a := fun a ha => cpR_o ha
    refine ⟨nI (c - 1), h1, h2, fun Q => ?_, fun Q => ?_, NL, G, w, u (c - 1), H.step (fun a q1 q2 q3 q4 q5 => ?_) (fun k q1 q2 => ?_) (hu _ (by omega)) ?_ ?_ ?_ ?_⟩
    · simp only [eX5_undo_0, eX5_undo_1, eX5_undo_4, eX5_undo_7, eX5_undo_10, eX5_undo_12, eX5_undo_13, eX5_undo_14, eX5_undo_17, eX5_undo_18, eX5_undo_21, eX5_undo_24, eX5_undo_25, eX5_undo_28, eX5_undo_31, eX1_pop_0, eX1_pop_1, eX1_pop_4, eX1_pop_7, eX1_pop_8, eX1_pop_9, eX1_pop_12, eX1_pop_14, eX1_pop_15, eX1_pop_16, eX1_pop_17, eX1_pop_19, eX1_pop_20, eX1_pop_23, eX1_pop_24, eX1_pop_25, eX1_pop_28, eX1_pop_29, eX1_pop_30, eX1_pop_33, eX1_pop_34, eX1_pop_35, eX1_pop_38, eX1_pop_39, eX1_pop_42, eX1_pop_43, eX1_pop_46, Option.toList_some, Option.toList_none, List.cons_append, List.nil_append, is01_0, is01_1, true_and, hPc.1, hPc.2.1, q0, q1, q1', if_true, if_false, not_false_iff, nd16, em, ep, xun, xus, xps, xpn, ne_eq, not_false_eq_true, Nat.reduceEqDiff, not_false_iff, hcl, hin, e1, h19]
    · simp only [eX6_undo_0, eX6_undo_1, eX6_undo_4, eX6_undo_7, eX6_undo_9, eX6_undo_10, eX6_undo_11, eX6_undo_12, eX6_undo_15, eX6_undo_16, eX6_undo_17, eX6_undo_20, eX6_undo_21, eX6_undo_23, eX6_undo_25, eX6_undo_28, eX6_undo_29, eX6_undo_32, eX6_undo_33, eX6_undo_34, eX6_undo_37, eX6_undo_39, eX6_undo_40, eX6_undo_43, eX6_undo_44, eX6_undo_45, eX6_undo_46, eX6_undo_47, eX6_undo_48, eX6_undo_51, eX6_undo_54, eX6_undo_55, eX6_undo_58, Option.toList_some, Option.toList_none, List.cons_append, List.nil_append, is01_0, is01_1, true_and, hPm1.1, q0, ep, if_true, if_false, not_false_iff]
      refine (lp_copy (fun i h => EV X mX6_undo 0 0 22 [.ref 140, .int (nI i)] [] (Gb sw) h Q) (h0 := hm) (dst := 145) (off := 0) (src := 151) (off2 := 44 * (c - 1)) (Or.inl (by omega)) 44 (fun i hi => ?_)).trans ?_
      · have e1 : cpR hm 145 0 151 (44 * (c - 1)) i 140 = hm 140 := cpR_o (by omega)
        have e2 : (44 : Int32) * nI (c - 1) + nI i = nI (44 * (c - 1) + i) := by
          have := pk_mul 44 (c - 1)
          rw [← nI_add, ← this]
          rfl
        show EV X mX6_undo 0 0 22 _ _ _ _ _ = _
        rw [eX6_undo_22]
        simp only [eX6_undo_0, eX6_undo_1, eX6_undo_4, eX6_undo_7, eX6_undo_9, eX6_undo_10, eX6_undo_11, eX6_undo_12, eX6_undo_15, eX6_undo_16, eX6_undo_17, eX6_undo_20, eX6_undo_21, eX6_undo_23, eX6_undo_25, eX6_undo_28, eX6_undo_29, eX6_undo_32, eX6_undo_33, eX6_undo_34, eX6_undo_37, eX6_undo_39, eX6_undo_40, eX6_undo_43, eX6_undo_44, eX6_undo_45, eX6_undo_46, eX6_undo_47, eX6_undo_48, eX6_undo_51, eX6_undo_54, eX6_undo_55, eX6_undo_58, Option.toList_some, Option.toList_none, List.cons_append, List.nil_append, is01_0, is01_1, true_and, e1, hm27, e2, nI_1, cl_nI (show i < 2147483648 by omega), inb_nIe (show i < 2147483648 by omega), cl_nI (show 44 * (c - 1) + i < 2147483648 by omega), inb_nIe (show 44 * (c - 1) + i < 2147483648 by omega), show i < 44 by omega, show 44 * (c - 1) + i < 704 by omega, Nat.zero_add]
        rw [if_neg (show ¬ (44 : Int32) ≤ nI i from nI_ge (b := 44) (by omega) (by omega))]
      · have e1 : cpR hm 145 0 151 (44 * (c - 1)) 44 140 = hm 140 := cpR_o (by omega)
        show EV X mX6_undo 0 0 22 _ _ _ _ _ = _
        rw [eX6_undo_22]
        simp only [eX6_undo_0, eX6_undo_1, eX6_undo_4, eX6_undo_7, eX6_undo_9, eX6_undo_10, eX6_undo_11, eX6_undo_12, eX6_undo_15, eX6_undo_16, eX6_undo_17, eX6_undo_20, eX6_undo_21, eX6_undo_23, eX6_undo_25, eX6_undo_28, eX6_undo_29, eX6_undo_32, eX6_undo_33, eX6_undo_34, eX6_undo_37, eX6_undo_39, eX6_undo_40, eX6_undo_43, eX6_undo_44, eX6_undo_45, eX6_undo_46, eX6_undo_47, eX6_undo_48, eX6_undo_51, eX6_undo_54, eX6_undo_55, eX6_undo_58, Option.toList_some, Option.toList_none, List.cons_append, List.nil_append, is01_0, is01_1, true_and, e1, hm27]
        rw [if_pos (show (44 : Int32) ≤ nI 44 by decide)]
    · rw [h2o a q4, hmm a q3]; exact f1 a (by omega)
    · rw [h2o 140 (by omega)]
      show xu _ _ _ _ _ _ = _
      rw [xus, xpn _ _ _ _ q2, f1 140 (by omega)]
    · have z : ∀ a, a < 140 → h2 a = h1 a := fun a ha => by rw [h2o a (by omega), hmm a (by omega)]
      exact hs'.mv (fun k _ => by rw [z _ (by omega)]) (z _ (by omega)) (z _ (by omega)) (z _ (by omega)) (z _ (by omega)) (z _ (by omega))
    · refine (hPm1.2 (c - 1) (by omega)).cp n1.2.1 (hu _ (by omega)) (fun k hk => ?_)
      show cpR hm 145 0 151 (44 * (c - 1)) 44 145 (0 + k) = _
      rw [cpR_i hk, hmm 151 (by omega)]
    · refine PSr.jn (c := c - 1) (x := (x + 15) % 16) (u := u) (by omega) hy ⟨?_, ?_, fun i hi => ?_⟩ ⟨?_, fun i hi => ?_⟩ (fun i hi => hu i (by omega))
      · rw [h2o 19 (by omega), hmm 19 (by omega)]; exact h19
      · rw [h2o 19 (by omega), hmm 19 (by omega)]; exact h192
      · rw [show ((x + 15) % 16 + 16 - (c - 1) + i) % 16 = (x + 16 - c + i) % 16 by omega]
        have z : ∀ a, 20 ≤ a → a < 140 → h2 a = h a := fun a q1 q2 => by rw [h2o a (by omega), hmm a (by omega), f1 a (by omega)]
        have hmo : (x + 16 - c + i) % 16 < 16 := Nat.mod_lt _ (by omega)
        exact (hPc.2.2 i (by omega)).mv (fun k _ => by rw [z _ (by omega) (by omega)]) (z _ (by omega) (by omega)) (z _ (by omega) (by omega)) (z _ (by omega) (by omega)) (z _ (by omega) (by omega)) (z _ (by omega) (by omega))
      · rw [h2o 140 (by omega)]; exact hm27
      · refine (hPm1.2 i (by omega)).mv ?_
        rw [h2o 151 (by omega), hmm 151 (by omega)]
    · refine SDr.mv H.2.2.2.2.2.2.2.2 ?_ ?_
      · rw [h2o 0 (by omega), hmm 0 (by omega), f1 0 (by omega)]
      · rw [h2o 140 (by omega)]
        show xu _ _ _ _ _ _ = _
        rw [xus, xpn _ _ _ _ (by omega), f1 140 (by omega)]
theorem i01 {x : Int32} (c : 0 ≤ x ∧ x ≤ 1) : ∃ i : Nat, i < 2 ∧ x = nI i := by
  obtain ⟨i, h1, h2⟩ := nI_of2 (x := x) (M := 1) (n := 1) rfl (by rw [Int32.not_lt]; exact c.1) c.2
  exact ⟨i, by omega, h2⟩
theorem PSr.zero {h : xH} (x : Nat) (hx : x < 16) (h1 : h 19 1 = 0) (h2 : h 140 27 = 0) (h3 : h 19 2 = nI x) : PSr h G w := ⟨0, x, by omega, hx, h1, h2, h3, fun i hi => by omega⟩
theorem p_keep (x : Int32) : OpK X mX5_keep mX6_keep [.ref 0, .int x] [.ref 140, .int x, .null] := OpK.two fun sw h NL G w v H => by
  obtain ⟨n1, n2, n3, n4, n5, n6⟩ := id H.1
  by_cases c : 0 ≤ x ∧ x ≤ 1
  · obtain ⟨hN, hT, hF, hS, hL, hB, hP, hI, hD⟩ := id H
    obtain ⟨cc, xx, -, hxx, -, -, hx2, -⟩ := id hP
    obtain ⟨i, hi, rfl⟩ := i01 c
    have hcl : (nI i).toNatClampNeg = i := cl_nI (by omega)
    have hin : inb (nI i) 2 = True := by rw [inb_nIe (by omega)]; apply eq_true; omega
    obtain ⟨hc, C1, e1⟩ := c_copy X sw (h := h) (sc_img i hi) sc_now (by omega)
    have r0 : hc 0 = h 0 := C1.1 0 (by omega)
    let h1 := xu (xu (xu hc 130 i (h 0 9)) 131 i 1) 19 1 0
    have f1 : ∀ a, ¬ a = 19 → ¬ a = 130 → ¬ a = 131 → ¬ (118 + 6 * i ≤ a ∧ a ≤ 118 + 6 * i + 5) → h1 a = h a := fun a q1 q2 q3 q4 => by
      show xu _ _ _ _ _ = _
      rw [xun _ _ _ _ _ q1, xun _ _ _ _ _ q3, xun _ _ _ _ _ q2, C1.1 a q4]
    let h2 := xu (xu (xu (cpR h1 160 (45 * i) 145 0 44) 160 (45 * i + 44) (h 140 10)) 161 i 1) 140 27 0
    have f2 : ∀ a, ¬ a = 140 → ¬ a = 160 → ¬ a = 161 → h2 a = h1 a := fun a q1 q2 q3 => by
      show xu _ _ _ _ _ = _
      rw [xun _ _ _ _ _ q1, xun _ _ _ _ _ q3, xun _ _ _ _ _ q2, cpR_o q2]
    have f3 : ∀ k, ¬ k = 27 → h2 140 k = h 140 k := fun k hk => by
      show xu _ _ _ _ _ _ = _
      rw [xus, xpn _ _ _ _ hk, xun _ _ _ _ _ (by omega), xun _ _ _ _ _ (by omega), cpR_o (by omega), f1 140 (by omega) (by omega) (by omega) (by omega)]
    have f4 : ∀ a, ¬ a = 19 → ¬ (118 ≤ a ∧ a < 132) → ¬ a = 140 → ¬ a = 160 → ¬ a = 161 → h2 a = h a := fun a q1 q2 q3 q4 q5 => by
      rw [f2 a q3 q4 q5, f1 a q1 (by omega) (by omega) (by omega)]
    have h161 : h2 161 = xp (h 161) i 1 := by
      show xu _ _ _ _ _ = _
      rw [xun _ _ _ _ _ (by omega), xus, xun _ _ _ _ _ (by omega), cpR_o (by omega), f1 161 (by omega) (by omega) (by omega) (by omega)]
    have h131 : h2 131 = xp (h 131) i 1 := by
      rw [f2 131 (by omega) (by omega) (by omega)]
      show xu _ _ _ _ _ = _
      rw [xun _ _ _ _ _ (by omega), xus, xun _ _ _ _ _ (by omega), C1.1 131 (by omega)]
    have h130 : h2 130 = xp (h 130) i (h 0 9) := by
      rw [f2 130 (by omega) (by omega) (by omega)]
      show xu _ _ _ _ _ = _
      rw [xun _ _ _ _ _ (by omega), xun _ _ _ _ _ (by omega), xus, C1.1 130 (by omega)]
    have h160 : ∀ t, h2 160 t = if t = 45 * i + 44 then h 140 10 else if 45 * i ≤ t ∧ t < 45 * i + 44 then h 145 (t - 45 * i) else h 160 t := fun t => by
      show xu _ _ _ _ _ _ = _
      rw [xun _ _ _ _ _ (by omega), xun _ _ _ _ _ (by omega), xus]
      by_cases q : t = 45 * i + 44
      · rw [if_pos q, q, xps]
      · rw [if_neg q, xpn _ _ _ _ q]
        by_cases q2 : 45 * i ≤ t ∧ t < 45 * i + 44
        · rw [if_pos q2]
          have := cpR_i (h := h1) (dst := 160) (off := 45 * i) (src := 145) (off2 := 0) (N := 44) (k := t - 45 * i) (by omega)
          rw [show 45 * i + (t - 45 * i) = t by omega, Nat.zero_add] at this
          rw [this, f1 145 (by omega) (by omega) (by omega) (by omega)]
        · rw [if_neg q2, cpR_n _ q2, f1 160 (by omega) (by omega) (by omega) (by omega)]
    refine ⟨1, h1, h2, fun Q => ?_, fun Q => ?_, NL, G, w, v, hN.mv (fun a q1 q2 => f4 a (by omega) (by omega) (by omega) (by omega) (by omega)) (f3 _ (by omega)) (f3 _ (by omega)) (f3 _ (by omega)) (f3 _ (by omega)) (f3 _ (by omega)) (fun a q1 q2 => f4 a (by omega) (by omega) (by omega) (by omega) (by omega)), hT.mv ?_ ?_ (f3 _ (by omega)) ?_, hF.mv ?_ (f3 _ (by omega)), hS.mv ?_ (f3 _ (by omega)) ?_ ?_ ?_ ?_ ?_ ?_, hL.mv ?_ (f3 _ (by omega)) ?_ ?_ ?_ ?_, hB.mv ?_ (f3 _ (by omega)) ?_ ?_ ?_ ?_, PSr.zero xx hxx ?_ ?_ ?_, fun i' hi' => ?_, hD.mv ?_ (f3 _ (by omega))⟩
    all_goals first
      | (rw [f4 _ (by omega) (by omega) (by omega) (by omega) (by omega)]; done)
      | skip
    · simp only [eX5_keep_0, eX5_keep_1, eX5_keep_2, eX5_keep_3, eX5_keep_6, eX5_keep_9, eX5_keep_11, eX5_keep_12, eX5_keep_13, eX5_keep_16, eX5_keep_17, eX5_keep_18, eX5_keep_19, eX5_keep_22, eX5_keep_25, eX5_keep_26, eX5_keep_29, eX5_keep_30, eX5_keep_31, eX5_keep_34, eX5_keep_35, eX5_keep_36, eX5_keep_39, eX5_keep_40, eX5_keep_41, eX5_keep_42, eX5_keep_43, eX5_keep_46, eX5_keep_47, eX5_keep_50, eX5_keep_51, Option.toList_some, Option.toList_none, List.cons_append, List.nil_append, is01_0, is01_1, true_and, r_isOutside, b01_0, out_in, c, and_self, not_true, if_true, if_false, hcl, hin, sc_img i hi, e1, r0]
      rfl
    · have e2 : ∀ k, (45 : Int32) * nI i + nI k = nI (45 * i + k) := fun k => by
        have := pk_mul 45 i
        rw [← nI_add, ← this]
        rfl
      have e44 : (45 : Int32) * nI i + 44 = nI (45 * i + 44) := e2 44
      simp only [eX6_keep_0, eX6_keep_1, eX6_keep_2, eX6_keep_3, eX6_keep_4, eX6_keep_7, eX6_keep_10, eX6_keep_12, eX6_keep_13, eX6_keep_14, eX6_keep_16, eX6_keep_18, eX6_keep_21, eX6_keep_22, eX6_keep_25, eX6_keep_27, eX6_keep_28, eX6_keep_29, eX6_keep_30, eX6_keep_31, eX6_keep_32, eX6_keep_35, eX6_keep_36, eX6_keep_37, eX6_keep_38, eX6_keep_41, eX6_keep_44, eX6_keep_45, eX6_keep_48, eX6_keep_50, eX6_keep_51, eX6_keep_52, eX6_keep_54, eX6_keep_55, eX6_keep_56, eX6_keep_59, eX6_keep_60, eX6_keep_61, eX6_keep_64, eX6_keep_65, eX6_keep_66, eX6_keep_67, eX6_keep_68, eX6_keep_69, eX6_keep_72, eX6_keep_73, Option.toList_some, Option.toList_none, List.cons_append, List.nil_append, is01_0, is01_1, true_and, r_in, b01_0, wl_0, wr_0, wl_1, wr_1, wl_2, wr_2, wl_3, wr_3, wl_20, wr_20, wl_48, wr_48, wl_57, wr_57, wl_60, wr_60, wl_100, wr_100, wl_255, wr_255, wl_500, wr_500, wl_900, wr_900, wl_999, wr_999, wl_12345, wr_12345, wl_999999, wr_999999, wl_99999999, wr_99999999, wl_1000000000, wr_1000000000, wl_1103515245, wr_1103515245, c, and_self, not_true, if_true, if_false]
      refine (lp_copy (fun k h => EV X mX6_keep 0 0 15 [.ref 140, .int (nI i), .int (nI k)] [] (Gb sw) h Q) (h0 := h1) (dst := 160) (off := 45 * i) (src := 145) (off2 := 0) (Or.inl (by omega)) 44 (fun k hk => ?_)).trans ?_
      · show EV X mX6_keep 0 0 15 _ _ _ _ _ = _
        rw [eX6_keep_15]
        simp only [eX6_keep_0, eX6_keep_1, eX6_keep_2, eX6_keep_3, eX6_keep_4, eX6_keep_7, eX6_keep_10, eX6_keep_12, eX6_keep_13, eX6_keep_14, eX6_keep_16, eX6_keep_18, eX6_keep_21, eX6_keep_22, eX6_keep_25, eX6_keep_27, eX6_keep_28, eX6_keep_29, eX6_keep_30, eX6_keep_31, eX6_keep_32, eX6_keep_35, eX6_keep_36, eX6_keep_37, eX6_keep_38, eX6_keep_41, eX6_keep_44, eX6_keep_45, eX6_keep_48, eX6_keep_50, eX6_keep_51, eX6_keep_52, eX6_keep_54, eX6_keep_55, eX6_keep_56, eX6_keep_59, eX6_keep_60, eX6_keep_61, eX6_keep_64, eX6_keep_65, eX6_keep_66, eX6_keep_67, eX6_keep_68, eX6_keep_69, eX6_keep_72, eX6_keep_73, Option.toList_some, Option.toList_none, List.cons_append, List.nil_append, is01_0, is01_1, true_and, e2, nI_1, cl_nI (show k < 2147483648 by omega), inb_nIe (show k < 2147483648 by omega), cl_nI (show 45 * i + k < 2147483648 by omega), inb_nIe (show 45 * i + k < 2147483648 by omega), show k < 44 by omega, show 45 * i + k < 90 by omega, Nat.zero_add]
        rw [if_neg (show ¬ (44 : Int32) ≤ nI k from nI_ge (b := 44) (by omega) (by omega))]
      · have q1 : cpR h1 160 (45 * i) 145 0 44 140 = h 140 := by rw [cpR_o (by omega), f1 140 (by omega) (by omega) (by omega) (by omega)]
        show EV X mX6_keep 0 0 15 _ _ _ _ _ = _
        rw [eX6_keep_15]
        simp only [eX6_keep_0, eX6_keep_1, eX6_keep_2, eX6_keep_3, eX6_keep_4, eX6_keep_7, eX6_keep_10, eX6_keep_12, eX6_keep_13, eX6_keep_14, eX6_keep_16, eX6_keep_18, eX6_keep_21, eX6_keep_22, eX6_keep_25, eX6_keep_27, eX6_keep_28, eX6_keep_29, eX6_keep_30, eX6_keep_31, eX6_keep_32, eX6_keep_35, eX6_keep_36, eX6_keep_37, eX6_keep_38, eX6_keep_41, eX6_keep_44, eX6_keep_45, eX6_keep_48, eX6_keep_50, eX6_keep_51, eX6_keep_52, eX6_keep_54, eX6_keep_55, eX6_keep_56, eX6_keep_59, eX6_keep_60, eX6_keep_61, eX6_keep_64, eX6_keep_65, eX6_keep_66, eX6_keep_67, eX6_keep_68, eX6_keep_69, eX6_keep_72, eX6_keep_73, Option.toList_some, Option.toList_none, List.cons_append, List.nil_append, is01_0, is01_1, true_and, q1, e44, cl_nI (show 45 * i + 44 < 2147483648 by omega), inb_nIe (show 45 * i + 44 < 2147483648 by omega), show 45 * i + 44 < 90 by omega, hcl, hin]
        rw [if_pos (show (44 : Int32) ≤ nI 44 by decide)]
    · rw [f2 19 (by omega) (by omega) (by omega)]
      show xu _ _ _ _ _ _ = _
      rw [xus, xps]
    · show xu _ _ _ _ _ _ = _
      rw [xus, xps]
    · rw [f2 19 (by omega) (by omega) (by omega)]
      show xu _ _ _ _ _ _ = _
      rw [xus, xpn _ _ _ _ (by omega), xun _ _ _ _ _ (by omega), xun _ _ _ _ _ (by omega), C1.1 19 (by omega)]
      exact hx2
    · by_cases q : i' = i
      · subst q
        rw [h131, h161, xps, xps]
        refine ⟨rfl, Or.inr rfl, fun _ => ⟨v, n2, ?_, ?_, ?_, ?_⟩⟩
        · have z : ∀ a, ¬ a = 19 → ¬ a = 130 → ¬ a = 131 → a < 140 → h2 a = hc a := fun a q1 q2 q3 q4 => by
            rw [f2 a (by omega) (by omega) (by omega)]
            show xu _ _ _ _ _ = _
            rw [xun _ _ _ _ _ q1, xun _ _ _ _ _ q3, xun _ _ _ _ _ q2]
          exact (C1.sc n1.2.1 n2 n5).mv (fun k _ => by rw [z _ (by omega) (by omega) (by omega) (by omega)]) (z _ (by omega) (by omega) (by omega) (by omega)) (z _ (by omega) (by omega) (by omega) (by omega)) (z _ (by omega) (by omega) (by omega) (by omega)) (z _ (by omega) (by omega) (by omega) (by omega)) (z _ (by omega) (by omega) (by omega) (by omega))
        · refine n6.cp n1.2.1 n2 (fun k hk => ?_)
          rw [h160, if_neg (by omega), if_pos (by omega)]
          congr 1
          omega
        · rw [h130, xps, h160, if_pos rfl]
          exact hD.1
        · rw [h130, xps]
          exact hD.2
      · obtain ⟨a1, a2, a3⟩ := hI i' hi'
        rw [h131, h161, xpn _ _ _ _ q, xpn _ _ _ _ q]
        refine ⟨a1, a2, fun qq => ?_⟩
        obtain ⟨u, u1, u2, u3, u4, u5⟩ := a3 qq
        refine ⟨u, u1, ?_, ?_, ?_, ?_⟩
        · have z : ∀ a, 118 + 6 * i' ≤ a → a ≤ 118 + 6 * i' + 5 → h2 a = h a := fun a q1 q2 => by
            rw [f2 a (by omega) (by omega) (by omega), f1 a (by omega) (by omega) (by omega) (by omega)]
          exact u2.mv (fun k _ => by rw [z _ (by omega) (by omega)]) (z _ (by omega) (by omega)) (z _ (by omega) (by omega)) (z _ (by omega) (by omega)) (z _ (by omega) (by omega)) (z _ (by omega) (by omega))
        · refine u3.cp n1.2.1 u1 (fun k hk => ?_)
          rw [h160, if_neg (by omega), if_neg (by omega)]
        · rw [h130, xpn _ _ _ _ q, h160, if_neg (by omega), if_neg (by omega)]
          exact u4
        · rw [h130, xpn _ _ _ _ q]
          exact u5
  · refine OpK.same H ?_
    unfold Both
    simp only [eX5_keep_0, eX5_keep_1, eX5_keep_2, eX5_keep_3, eX5_keep_6, eX5_keep_9, eX5_keep_11, eX5_keep_12, eX5_keep_13, eX5_keep_16, eX5_keep_17, eX5_keep_18, eX5_keep_19, eX5_keep_22, eX5_keep_25, eX5_keep_26, eX5_keep_29, eX5_keep_30, eX5_keep_31, eX5_keep_34, eX5_keep_35, eX5_keep_36, eX5_keep_39, eX5_keep_40, eX5_keep_41, eX5_keep_42, eX5_keep_43, eX5_keep_46, eX5_keep_47, eX5_keep_50, eX5_keep_51, eX6_keep_0, eX6_keep_1, eX6_keep_2, eX6_keep_3, eX6_keep_4, eX6_keep_7, eX6_keep_10, eX6_keep_12, eX6_keep_13, eX6_keep_14, eX6_keep_16, eX6_keep_18, eX6_keep_21, eX6_keep_22, eX6_keep_25, eX6_keep_27, eX6_keep_28, eX6_keep_29, eX6_keep_30, eX6_keep_31, eX6_keep_32, eX6_keep_35, eX6_keep_36, eX6_keep_37, eX6_keep_38, eX6_keep_41, eX6_keep_44, eX6_keep_45, eX6_keep_48, eX6_keep_50, eX6_keep_51, eX6_keep_52, eX6_keep_54, eX6_keep_55, eX6_keep_56, eX6_keep_59, eX6_keep_60, eX6_keep_61, eX6_keep_64, eX6_keep_65, eX6_keep_66, eX6_keep_67, eX6_keep_68, eX6_keep_69, eX6_keep_72, eX6_keep_73, Option.toList_some, Option.toList_none, List.cons_append, List.nil_append, is01_0, is01_1, true_and, r_isOutside, r_in, b01_0, out_in, wl_0, wr_0, wl_1, wr_1, wl_2, wr_2, wl_3, wr_3, wl_20, wr_20, wl_48, wr_48, wl_57, wr_57, wl_60, wr_60, wl_100, wr_100, wl_255, wr_255, wl_500, wr_500, wl_900, wr_900, wl_999, wr_999, wl_12345, wr_12345, wl_999999, wr_999999, wl_99999999, wr_99999999, wl_1000000000, wr_1000000000, wl_1103515245, wr_1103515245, c, not_true, not_false_iff, if_true, if_false]
    first | exact ⟨_, fun _ => rfl, fun _ => rfl⟩ | exact ⟨_, fun _ => rfl⟩
theorem p_goBack (x : Int32) : OpK X mX5_goBack mX6_goBack [.ref 0, .int x] [.ref 140, .int x, .null] := OpK.two fun sw h NL G w v H => by
  obtain ⟨n1, n2, n3, n4, n5, n6⟩ := id H.1
  by_cases c : 0 ≤ x ∧ x ≤ 1
  · obtain ⟨hN, hT, hF, hS, hL, hB, hP, hI, hD⟩ := id H
    obtain ⟨cc, xx, -, hxx, -, -, hx2, -⟩ := id hP
    obtain ⟨i, hi, rfl⟩ := i01 c
    have hcl : (nI i).toNatClampNeg = i := cl_nI (by omega)
    have hin : inb (nI i) 2 = True := by rw [inb_nIe (by omega)]; apply eq_true; omega
    obtain ⟨a1, a2, a3⟩ := hI i hi
    by_cases k0 : h 131 i = 0
    · have k0' : h 161 i = 0 := by rw [← a1]; exact k0
      refine OpK.same H ?_
      unfold Both
      simp only [eX5_goBack_0, eX5_goBack_1, eX5_goBack_2, eX5_goBack_3, eX5_goBack_6, eX5_goBack_9, eX5_goBack_11, eX5_goBack_12, eX5_goBack_13, eX5_goBack_16, eX5_goBack_17, eX5_goBack_18, eX5_goBack_21, eX5_goBack_23, eX5_goBack_24, eX5_goBack_25, eX5_goBack_28, eX5_goBack_29, eX5_goBack_32, eX5_goBack_33, eX5_goBack_34, eX5_goBack_37, eX5_goBack_38, eX5_goBack_39, eX5_goBack_42, eX5_goBack_43, eX5_goBack_44, eX5_goBack_47, eX5_goBack_48, eX5_goBack_51, eX5_goBack_52, eX5_goBack_55, eX5_goBack_56, eX6_goBack_0, eX6_goBack_1, eX6_goBack_2, eX6_goBack_3, eX6_goBack_4, eX6_goBack_7, eX6_goBack_10, eX6_goBack_12, eX6_goBack_13, eX6_goBack_14, eX6_goBack_17, eX6_goBack_18, eX6_goBack_19, eX6_goBack_22, eX6_goBack_24, eX6_goBack_25, eX6_goBack_26, eX6_goBack_28, eX6_goBack_30, eX6_goBack_33, eX6_goBack_34, eX6_goBack_37, eX6_goBack_38, eX6_goBack_39, eX6_goBack_42, eX6_goBack_44, eX6_goBack_45, eX6_goBack_46, eX6_goBack_47, eX6_goBack_48, eX6_goBack_49, eX6_goBack_50, eX6_goBack_53, eX6_goBack_56, eX6_goBack_57, eX6_goBack_58, eX6_goBack_61, eX6_goBack_63, eX6_goBack_64, eX6_goBack_65, eX6_goBack_67, eX6_goBack_68, eX6_goBack_69, eX6_goBack_72, eX6_goBack_73, eX6_goBack_74, eX6_goBack_77, eX6_goBack_78, Option.toList_some, Option.toList_none, List.cons_append, List.nil_append, is01_0, is01_1, true_and, r_isOutside, r_in, b01_0, out_in, wl_0, wr_0, wl_1, wr_1, wl_2, wr_2, wl_3, wr_3, wl_20, wr_20, wl_48, wr_48, wl_57, wr_57, wl_60, wr_60, wl_100, wr_100, wl_255, wr_255, wl_500, wr_500, wl_900, wr_900, wl_999, wr_999, wl_12345, wr_12345, wl_999999, wr_999999, wl_99999999, wr_99999999, wl_1000000000, wr_1000000000, wl_1103515245, wr_1103515245, c, and_self, not_true, if_true, if_false, hcl, hin, k0, k0']
      first | exact ⟨_, fun _ => rfl, fun _ => rfl⟩ | exact ⟨_, fun _ => rfl⟩
    · have k1 : h 131 i = 1 := by rcases a2 with q | q; exact absurd q k0; exact q
      obtain ⟨u, u1, u2, u3, u4, u5⟩ := a3 k1
      obtain ⟨hc, C1, e1⟩ := c_copy X sw (h := h) sc_now (sc_img i hi) (by omega)
      let h1 := xu (xu hc 0 9 (h 130 i)) 19 1 0
      have f1 : ∀ a, ¬ a = 0 → ¬ a = 19 → ¬ (13 ≤ a ∧ a ≤ 18) → h1 a = h a := fun a q1 q2 q3 => by
        show xu _ _ _ _ _ = _
        rw [xun _ _ _ _ _ q2, xun _ _ _ _ _ q1, C1.1 a (by omega)]
      let h2 := xu (xu (cpR h1 145 0 160 (45 * i) 44) 140 10 (h 160 (45 * i + 44))) 140 27 0
      have f2 : ∀ a, ¬ a = 140 → ¬ a = 145 → h2 a = h1 a := fun a q1 q2 => by
        show xu _ _ _ _ _ = _
        rw [xun _ _ _ _ _ q1, xun _ _ _ _ _ q1, cpR_o q2]
      refine ⟨1, h1, h2, fun Q => ?_, fun Q => ?_, NL, G, w, u, H.step (fun a q1 q2 q3 q4 q5 => ?_) (fun k q1 q2 => ?_) u1 ?_ ?_ (PSr.zero xx hxx ?_ ?_ ?_) ⟨?_, ?_⟩⟩
      · simp only [eX5_goBack_0, eX5_goBack_1, eX5_goBack_2, eX5_goBack_3, eX5_goBack_6, eX5_goBack_9, eX5_goBack_11, eX5_goBack_12, eX5_goBack_13, eX5_goBack_16, eX5_goBack_17, eX5_goBack_18, eX5_goBack_21, eX5_goBack_23, eX5_goBack_24, eX5_goBack_25, eX5_goBack_28, eX5_goBack_29, eX5_goBack_32, eX5_goBack_33, eX5_goBack_34, eX5_goBack_37, eX5_goBack_38, eX5_goBack_39, eX5_goBack_42, eX5_goBack_43, eX5_goBack_44, eX5_goBack_47, eX5_goBack_48, eX5_goBack_51, eX5_goBack_52, eX5_goBack_55, eX5_goBack_56, Option.toList_some, Option.toList_none, List.cons_append, List.nil_append, is01_0, is01_1, true_and, r_isOutside, b01_0, out_in, c, and_self, not_true, if_true, if_false, hcl, hin, k0, e1, C1.1 130 (by omega)]
        rfl
      · have k0' : ¬ h1 161 i = 0 := by rw [f1 161 (by omega) (by omega) (by omega), ← a1]; exact k0
        have e2 : ∀ k, (45 : Int32) * nI i + nI k = nI (45 * i + k) := fun k => by
          have := pk_mul 45 i
          rw [← nI_add, ← this]
          rfl
        have e44 : (45 : Int32) * nI i + 44 = nI (45 * i + 44) := e2 44
        simp only [eX6_goBack_0, eX6_goBack_1, eX6_goBack_2, eX6_goBack_3, eX6_goBack_4, eX6_goBack_7, eX6_goBack_10, eX6_goBack_12, eX6_goBack_13, eX6_goBack_14, eX6_goBack_17, eX6_goBack_18, eX6_goBack_19, eX6_goBack_22, eX6_goBack_24, eX6_goBack_25, eX6_goBack_26, eX6_goBack_28, eX6_goBack_30, eX6_goBack_33, eX6_goBack_34, eX6_goBack_37, eX6_goBack_38, eX6_goBack_39, eX6_goBack_42, eX6_goBack_44, eX6_goBack_45, eX6_goBack_46, eX6_goBack_47, eX6_goBack_48, eX6_goBack_49, eX6_goBack_50, eX6_goBack_53, eX6_goBack_56, eX6_goBack_57, eX6_goBack_58, eX6_goBack_61, eX6_goBack_63, eX6_goBack_64, eX6_goBack_65, eX6_goBack_67, eX6_goBack_68, eX6_goBack_69, eX6_goBack_72, eX6_goBack_73, eX6_goBack_74, eX6_goBack_77, eX6_goBack_78, Option.toList_some, Option.toList_none, List.cons_append, List.nil_append, is01_0, is01_1, true_and, r_in, b01_0, wl_0, wr_0, wl_1, wr_1, wl_2, wr_2, wl_3, wr_3, wl_20, wr_20, wl_48, wr_48, wl_57, wr_57, wl_60, wr_60, wl_100, wr_100, wl_255, wr_255, wl_500, wr_500, wl_900, wr_900, wl_999, wr_999, wl_12345, wr_12345, wl_999999, wr_999999, wl_99999999, wr_99999999, wl_1000000000, wr_1000000000, wl_1103515245, wr_1103515245, c, and_self, not_true, not_false_iff, if_true, if_false, hcl, hin, k0']
        refine (lp_copy (fun k h => EV X mX6_goBack 0 0 27 [.ref 140, .int (nI i), .int (nI k)] [] (Gb sw) h Q) (h0 := h1) (dst := 145) (off := 0) (src := 160) (off2 := 45 * i) (Or.inl (by omega)) 44 (fun k hk => ?_)).trans ?_
        · show EV X mX6_goBack 0 0 27 _ _ _ _ _ = _
          rw [eX6_goBack_27]
          simp only [eX6_goBack_0, eX6_goBack_1, eX6_goBack_2, eX6_goBack_3, eX6_goBack_4, eX6_goBack_7, eX6_goBack_10, eX6_goBack_12, eX6_goBack_13, eX6_goBack_14, eX6_goBack_17, eX6_goBack_18, eX6_goBack_19, eX6_goBack_22, eX6_goBack_24, eX6_goBack_25, eX6_goBack_26, eX6_goBack_28, eX6_goBack_30, eX6_goBack_33, eX6_goBack_34, eX6_goBack_37, eX6_goBack_38, eX6_goBack_39, eX6_goBack_42, eX6_goBack_44, eX6_goBack_45, eX6_goBack_46, eX6_goBack_47, eX6_goBack_48, eX6_goBack_49, eX6_goBack_50, eX6_goBack_53, eX6_goBack_56, eX6_goBack_57, eX6_goBack_58, eX6_goBack_61, eX6_goBack_63, eX6_goBack_64, eX6_goBack_65, eX6_goBack_67, eX6_goBack_68, eX6_goBack_69, eX6_goBack_72, eX6_goBack_73, eX6_goBack_74, eX6_goBack_77, eX6_goBack_78, Option.toList_some, Option.toList_none, List.cons_append, List.nil_append, is01_0, is01_1, true_and, e2, nI_1, cl_nI (show k < 2147483648 by omega), inb_nIe (show k < 2147483648 by omega), cl_nI (show 45 * i + k < 2147483648 by omega), inb_nIe (show 45 * i + k < 2147483648 by omega), show k < 44 by omega, show 45 * i + k < 90 by omega, Nat.zero_add]
          rw [if_neg (show ¬ (44 : Int32) ≤ nI k from nI_ge (b := 44) (by omega) (by omega))]
        · have q1 : cpR h1 145 0 160 (45 * i) 44 160 = h 160 := by rw [cpR_o (by omega), f1 160 (by omega) (by omega) (by omega)]
          show EV X mX6_goBack 0 0 27 _ _ _ _ _ = _
          rw [eX6_goBack_27]
          simp only [eX6_goBack_0, eX6_goBack_1, eX6_goBack_2, eX6_goBack_3, eX6_goBack_4, eX6_goBack_7, eX6_goBack_10, eX6_goBack_12, eX6_goBack_13, eX6_goBack_14, eX6_goBack_17, eX6_goBack_18, eX6_goBack_19, eX6_goBack_22, eX6_goBack_24, eX6_goBack_25, eX6_goBack_26, eX6_goBack_28, eX6_goBack_30, eX6_goBack_33, eX6_goBack_34, eX6_goBack_37, eX6_goBack_38, eX6_goBack_39, eX6_goBack_42, eX6_goBack_44, eX6_goBack_45, eX6_goBack_46, eX6_goBack_47, eX6_goBack_48, eX6_goBack_49, eX6_goBack_50, eX6_goBack_53, eX6_goBack_56, eX6_goBack_57, eX6_goBack_58, eX6_goBack_61, eX6_goBack_63, eX6_goBack_64, eX6_goBack_65, eX6_goBack_67, eX6_goBack_68, eX6_goBack_69, eX6_goBack_72, eX6_goBack_73, eX6_goBack_74, eX6_goBack_77, eX6_goBack_78, Option.toList_some, Option.toList_none, List.cons_append, List.nil_append, is01_0, is01_1, true_and, q1, e44, cl_nI (show 45 * i + 44 < 2147483648 by omega), inb_nIe (show 45 * i + 44 < 2147483648 by omega), show 45 * i + 44 < 90 by omega]
          rw [if_pos (show (44 : Int32) ≤ nI 44 by decide)]
      · rw [f2 a q3 q4, f1 a q1 (by omega) (by omega)]
      · show xu _ _ _ _ _ _ = _
        rw [xus, xpn _ _ _ _ q2, xus, xpn _ _ _ _ q1, cpR_o (by omega), f1 140 (by omega) (by omega) (by omega)]
      · have z : ∀ a, 13 ≤ a → a ≤ 18 → h2 a = hc a := fun a q1 q2 => by
          rw [f2 a (by omega) (by omega)]
          show xu _ _ _ _ _ = _
          rw [xun _ _ _ _ _ (by omega), xun _ _ _ _ _ (by omega)]
        exact (C1.sc n1.2.1 u1 u2).mv (fun k _ => by rw [z _ (by omega) (by omega)]) (z _ (by omega) (by omega)) (z _ (by omega) (by omega)) (z _ (by omega) (by omega)) (z _ (by omega) (by omega)) (z _ (by omega) (by omega))
      · refine u3.cp n1.2.1 u1 (fun k hk => ?_)
        show xu _ _ _ _ _ _ = _
        rw [xun _ _ _ _ _ (by omega), xun _ _ _ _ _ (by omega), cpR_i hk, f1 160 (by omega) (by omega) (by omega)]
      · rw [f2 19 (by omega) (by omega)]
        show xu _ _ _ _ _ _ = _
        rw [xus, xps]
      · show xu _ _ _ _ _ _ = _
        rw [xus, xps]
      · rw [f2 19 (by omega) (by omega)]
        show xu _ _ _ _ _ _ = _
        rw [xus, xpn _ _ _ _ (by omega), xun _ _ _ _ _ (by omega), C1.1 19 (by omega)]
        exact hx2
      · have : h2 0 9 = h 130 i := by
          rw [f2 0 (by omega) (by omega)]
          show xu _ _ _ _ _ _ = _
          rw [xun _ _ _ _ _ (by omega), xus, xps]
        rw [this, u4]
        show _ = xu _ _ _ _ _ _
        rw [xus, xpn _ _ _ _ (by omega), xus, xps]
      · have : h2 0 9 = h 130 i := by
          rw [f2 0 (by omega) (by omega)]
          show xu _ _ _ _ _ _ = _
          rw [xun _ _ _ _ _ (by omega), xus, xps]
        rw [this]
        exact u5
  · refine OpK.same H ?_
    unfold Both
    simp only [eX5_goBack_0, eX5_goBack_1, eX5_goBack_2, eX5_goBack_3, eX5_goBack_6, eX5_goBack_9, eX5_goBack_11, eX5_goBack_12, eX5_goBack_13, eX5_goBack_16, eX5_goBack_17, eX5_goBack_18, eX5_goBack_21, eX5_goBack_23, eX5_goBack_24, eX5_goBack_25, eX5_goBack_28, eX5_goBack_29, eX5_goBack_32, eX5_goBack_33, eX5_goBack_34, eX5_goBack_37, eX5_goBack_38, eX5_goBack_39, eX5_goBack_42, eX5_goBack_43, eX5_goBack_44, eX5_goBack_47, eX5_goBack_48, eX5_goBack_51, eX5_goBack_52, eX5_goBack_55, eX5_goBack_56, eX6_goBack_0, eX6_goBack_1, eX6_goBack_2, eX6_goBack_3, eX6_goBack_4, eX6_goBack_7, eX6_goBack_10, eX6_goBack_12, eX6_goBack_13, eX6_goBack_14, eX6_goBack_17, eX6_goBack_18, eX6_goBack_19, eX6_goBack_22, eX6_goBack_24, eX6_goBack_25, eX6_goBack_26, eX6_goBack_28, eX6_goBack_30, eX6_goBack_33, eX6_goBack_34, eX6_goBack_37, eX6_goBack_38, eX6_goBack_39, eX6_goBack_42, eX6_goBack_44, eX6_goBack_45, eX6_goBack_46, eX6_goBack_47, eX6_goBack_48, eX6_goBack_49, eX6_goBack_50, eX6_goBack_53, eX6_goBack_56, eX6_goBack_57, eX6_goBack_58, eX6_goBack_61, eX6_goBack_63, eX6_goBack_64, eX6_goBack_65, eX6_goBack_67, eX6_goBack_68, eX6_goBack_69, eX6_goBack_72, eX6_goBack_73, eX6_goBack_74, eX6_goBack_77, eX6_goBack_78, Option.toList_some, Option.toList_none, List.cons_append, List.nil_append, is01_0, is01_1, true_and, r_isOutside, r_in, b01_0, out_in, wl_0, wr_0, wl_1, wr_1, wl_2, wr_2, wl_3, wr_3, wl_20, wr_20, wl_48, wr_48, wl_57, wr_57, wl_60, wr_60, wl_100, wr_100, wl_255, wr_255, wl_500, wr_500, wl_900, wr_900, wl_999, wr_999, wl_12345, wr_12345, wl_999999, wr_999999, wl_99999999, wr_99999999, wl_1000000000, wr_1000000000, wl_1103515245, wr_1103515245, c, not_true, not_false_iff, if_true, if_false]
    first | exact ⟨_, fun _ => rfl, fun _ => rfl⟩ | exact ⟨_, fun _ => rfl⟩
end ACT
