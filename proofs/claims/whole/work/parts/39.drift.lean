/-! draws; drift -/
def nxS (s : Nat) : Nat := (s * 1103515245 + 12345) % 2147483648
theorem nxS_lt (s : Nat) : nxS s < 2147483648 := Nat.mod_lt _ (by omega)
theorem nx_c {s : Nat} : nI s * 1103515245 + 12345 &&& 2147483647 = nI (nxS s) := by
  have e : nI s * 1103515245 + 12345 = nI (s * 1103515245 + 12345) := by
    have h1 := pk_mul s 1103515245
    have h2 := nI_add (s * 1103515245) 12345
    rw [← h2, ← h1]
    rfl
  unfold nxS
  rw [e]
  generalize s * 1103515245 + 12345 = Y
  rw [pk_and _ 31 (by decide)]
  have t : (nI Y).toBitVec.toNat % 2 ^ 31 = Y % 2147483648 := by
    have : (nI Y).toBitVec.toNat = Y % 2 ^ 32 := by
      show (BitVec.ofNat 32 Y).toNat = _
      rw [BitVec.toNat_ofNat]
    rw [this]
    omega
  rw [t]
theorem nx_m {s : Nat} (hs : s < 2147483648) : ((nI s).toInt64 * 1103515245 + 12345 - ((nI s).toInt64 * 1103515245 + 12345) / 2147483648 * 2147483648).toInt32 = nI (nxS s) := by
  have e : (nI s).toInt64 * 1103515245 + 12345 = lN (s * 1103515245 + 12345) := by
    rw [nI_l hs]
    have h1 := lN_mul s 1103515245
    have h2 := lN_add (s * 1103515245) 12345
    rw [← h2, ← h1]
    rfl
  have e2 : lN (s * 1103515245 + 12345) - lN (s * 1103515245 + 12345) / 2147483648 * 2147483648 = lN ((s * 1103515245 + 12345) % 2147483648) := pk_lRem (b := 2147483648) (by omega) (by omega) (by omega)
  rw [e, e2, lN_i]
  rfl
section DR
variable {X : (Nat → Int32) × Nat} {sw : Bool} {NL G : Nat} {w v : Nat → Int32}
theorem dv_rem {s N : Nat} (hN : 1 ≤ N) (hN2 : N < 2147483648) : nI (nxS s) / 65536 - nI (nxS s) / 65536 / nI N * nI N = nI (nxS s / 65536 % N) := by
  have h0 := nxS_lt s
  have e : nI (nxS s) / 65536 = nI (nxS s / 65536) := pk_div (d := 65536) (by omega) (by omega) (by omega)
  rw [e]
  exact pk_rem (by omega) (by omega) (by omega)
theorem c_draw {h : xH} {Q : Option Value → xG → xH → Prop} {s N : Nat} (h9 : h 0 9 = nI s) (hN : 1 ≤ N) (hN2 : N < 2147483648) : EV X mX5_draw 0 0 0 [.ref 0, .int (nI N)] [] (Gb sw) h Q = Q (some (.int (nI (nxS s / 65536 % N)))) (Gb sw) (xu h 0 9 (nI (nxS s))) := by
  have q1 : (1 : Int32) ≤ nI N := nI_le (a := 1) hN hN2
  have q1' : ¬ nI N < (1 : Int32) := by rw [Int32.not_lt]; exact q1
  have q2 : ¬ nI N = 0 := nI_ne0 (by omega) hN2
  simp only [eX5_draw_0, eX5_draw_1, eX5_draw_2, eX5_draw_5, eX5_draw_8, eX5_draw_9, eX5_draw_12, eX5_draw_13, eX5_draw_16, eX5_draw_17, eX5_draw_20, eX5_draw_21, eX5_draw_22, eX5_draw_25, eX5_draw_26, eX5_draw_29, eX5_draw_30, eX5_draw_33, eX5_draw_36, eX5_draw_37, eX5_draw_38, eX5_draw_39, Option.toList_some, Option.toList_none, List.cons_append, List.nil_append, is01_0, is01_1, true_and, h9, nx_c, xun, xus, xps, xpn, ne_eq, not_false_eq_true, Nat.reduceEqDiff, not_false_iff, q1, q1', q2, if_true, if_false, nd65536, dv_rem hN hN2, and_self]
theorem m_draw {h : xH} {Q : Option Value → xG → xH → Prop} {s N : Nat} (h9 : h 140 10 = nI s) (hs : s < 2147483648) (hN : 1 ≤ N) (hN2 : N < 2147483648) : EV X mX6_draw 0 0 0 [.ref 140, .int (nI N)] [] (Gb sw) h Q = Q (some (.int (nI (nxS s / 65536 % N)))) (Gb sw) (xu h 140 10 (nI (nxS s))) := by
  have q2 : ¬ nI N = 0 := nI_ne0 (by omega) hN2
  have q3 : ¬ (2147483648 : Int64) = 0 := by decide
  simp only [eX6_draw_0, eX6_draw_1, eX6_draw_2, eX6_draw_5, eX6_draw_6, eX6_draw_9, eX6_draw_10, eX6_draw_13, eX6_draw_14, eX6_draw_17, eX6_draw_18, eX6_draw_19, eX6_draw_22, eX6_draw_23, eX6_draw_26, eX6_draw_29, eX6_draw_30, eX6_draw_31, eX6_draw_32, Option.toList_some, Option.toList_none, List.cons_append, List.nil_append, is01_0, is01_1, true_and, h9, nx_m hs, xun, xus, xps, xpn, ne_eq, not_false_eq_true, Nat.reduceEqDiff, not_false_iff, q2, q3, nd65536, dv_rem hN hN2, and_self]
/-- what one draw does, class and model alike -/
theorem chs (X : (Nat → Int32) × Nat) (sw : Bool) (hV : SW w G v) (hW : PW NL G w) (hw : ¬ w 0 = 0) {s : Nat} (hs : s < 2147483648) : ∃ (v' : Nat → Int32) (s' : Nat), SW w G v' ∧ v' 1 = v 1 ∧ s' < 2147483648 ∧
    (∀ h : xH, SC h 13 G v → PC h (pl sw) NL G w → h 0 9 = nI s → ∃ h' : xH, (∀ a, ¬ (13 ≤ a ∧ a < 19) → ¬ a = 0 → h' a = h a) ∧ h' 0 9 = nI s' ∧ SC h' 13 G v' ∧ ∀ Q : Option Value → xG → xH → Prop, EV X mX5_doByDraw 0 0 0 [.ref 0] [] (Gb sw) h Q = Q none (Gb sw) h') ∧
    (∀ h : xH, SM h 145 0 G v → PM h NL G w → h 140 10 = nI s → ∃ h' : xH, (∀ a, ¬ a = 145 → ¬ a = 140 → h' a = h a) ∧ (∀ k, ¬ k = 10 → h' 140 k = h 140 k) ∧ h' 140 10 = nI s' ∧ SM h' 145 0 G v' ∧ ∀ Q : Option Value → xG → xH → Prop, EV X mX6_chance 0 0 0 [.ref 140, .null, .null] [] (Gb sw) h Q = Q none (Gb sw) h') := by
  have hG := hW.2.1
  have hpl : 3 ≤ pl sw ∧ pl sw ≤ 8 := by cases sw <;> decide
  have hn1 := nxS_lt s
  -- the heaps behind a draw
  have cS : ∀ (h : xH) (x : Int32), SC h 13 G v → SC (xu h 0 9 x) 13 G v := fun h x H => H.mv (fun k _ => by rw [xun _ _ _ _ _ (by omega)]) (xun _ _ _ _ _ (by omega)) (xun _ _ _ _ _ (by omega)) (xun _ _ _ _ _ (by omega)) (xun _ _ _ _ _ (by omega)) (xun _ _ _ _ _ (by omega))
  have cP : ∀ (h : xH) (x : Int32), PC h (pl sw) NL G w → PC (xu h 0 9 x) (pl sw) NL G w := fun h x H => H.mv (xun _ _ _ _ _ (by omega)) (xun _ _ _ _ _ (by omega)) (xun _ _ _ _ _ (by omega)) (xun _ _ _ _ _ (by omega))
  have mS : ∀ (h : xH) (x : Int32), SM h 145 0 G v → SM (xu h 140 10 x) 145 0 G v := fun h x H => H.mv (xun _ _ _ _ _ (by omega))
  have mP : ∀ (h : xH) (x : Int32), PM h NL G w → PM (xu h 140 10 x) NL G w := fun h x H => by
    refine H.mv ?_ ?_ ?_ ?_ ?_ ?_ ?_ ?_ <;> simp only [xun, xus, xps, xpn, ne_eq, not_false_eq_true, Nat.reduceEqDiff, not_false_iff]
  have cd5 : ∀ (h : xH) (Q : Option Value → xG → xH → Prop), h 0 9 = nI s → EV X mX5_draw 0 0 0 [.ref 0, .int 5] [] (Gb sw) h Q = Q (some (.int (nI (nxS s / 65536 % 5)))) (Gb sw) (xu h 0 9 (nI (nxS s))) := fun h Q h9 => c_draw (N := 5) h9 (by omega) (by omega)
  have md5 : ∀ (h : xH) (Q : Option Value → xG → xH → Prop), h 140 10 = nI s → EV X mX6_draw 0 0 0 [.ref 140, .int 5] [] (Gb sw) h Q = Q (some (.int (nI (nxS s / 65536 % 5)))) (Gb sw) (xu h 140 10 (nI (nxS s))) := fun h Q h9 => m_draw (N := 5) h9 hs (by omega) (by omega)
  have hk5 : nxS s / 65536 % 5 < 5 := Nat.mod_lt _ (by omega)
  have n10 : ¬ (1 : Int32) = 0 := by decide
  have n20 : ¬ (2 : Int32) = 0 := by decide
  have n21 : ¬ (2 : Int32) = 1 := by decide
  have n30 : ¬ (3 : Int32) = 0 := by decide
  have n31 : ¬ (3 : Int32) = 1 := by decide
  have n32 : ¬ (3 : Int32) = 2 := by decide
  have n01 : ¬ (0 : Int32) = 1 := by decide
  have n02 : ¬ (0 : Int32) = 2 := by decide
  have n03 : ¬ (0 : Int32) = 3 := by decide
  have n12 : ¬ (1 : Int32) = 2 := by decide
  have n13 : ¬ (1 : Int32) = 3 := by decide
  have n40 : ¬ (4 : Int32) = 0 := by decide
  have n41 : ¬ (4 : Int32) = 1 := by decide
  have n42 : ¬ (4 : Int32) = 2 := by decide
  have n43 : ¬ (4 : Int32) = 3 := by decide
  rcases (show nxS s / 65536 % 5 = 0 ∨ nxS s / 65536 % 5 = 1 ∨ nxS s / 65536 % 5 = 2 ∨ nxS s / 65536 % 5 = 3 ∨ nxS s / 65536 % 5 = 4 by omega) with k | k | k | k | k
  · -- one joins
    have hk : nI (nxS s / 65536 % 5) = 0 := by rw [k]; rfl
    by_cases g0 : G = 0
    · have gz : nI G = 0 := by rw [g0]; rfl
      have gz' : nI G ≤ 0 := by rw [gz]; exact Int32.le_refl _
      refine ⟨v, nxS s, hV, rfl, hn1, fun h H1 H2 h9 => ⟨xu h 0 9 (nI (nxS s)), fun a q1 q2 => xun _ _ _ _ _ q2, by rw [xus, xps], cS _ _ H1, fun Q => ?_⟩, fun h H1 H2 h9 => ⟨xu h 140 10 (nI (nxS s)), fun a q1 q2 => xun _ _ _ _ _ q2, fun k hk => by rw [xus, xpn _ _ _ _ hk], by rw [xus, xps], mS _ _ H1, fun Q => ?_⟩⟩
      · simp only [eX5_doByDraw_0, eX5_doByDraw_1, eX5_doByDraw_2, eX5_doByDraw_5_c0, eX5_doByDraw_5_c1, eX5_doByDraw_5_c2, eX5_doByDraw_5_c3, eX5_doByDraw_36, eX5_doByDraw_37, eX5_doByDraw_40, eX5_doByDraw_43, eX5_doByDraw_44, eX5_doByDraw_47, eX5_doByDraw_50, eX5_doByDraw_53, eX5_doByDraw_54, eX5_doByDraw_57, eX5_doByDraw_58, eX5_doByDraw_61, eX5_doByDraw_64, eX5_doByDraw_65, eX5_doByDraw_68, eX5_doByDraw_69, eX5_doByDraw_72, eX5_doByDraw_73, eX5_doByDraw_74, eX5_doByDraw_75, eX5_doByDraw_78, eX5_doByDraw_81, eX5_doByDraw_84, eX5_doByDraw_85, eX5_doByDraw_88, eX5_doByDraw_91, eX5_doByDraw_92, eX5_doByDraw_95, eX5_doByDraw_96, eX5_doByDraw_99, eX5_doByDraw_100, eX5_doByDraw_103, eX5_doByDraw_106, eX5_doByDraw_107, eX5_doByDraw_110, eX5_joinByDraw_0, eX5_joinByDraw_1, eX5_joinByDraw_4, eX5_joinByDraw_7, eX5_joinByDraw_10, eX5_joinByDraw_11, eX5_joinByDraw_12, eX5_joinByDraw_13, eX5_joinByDraw_16, eX5_joinByDraw_19, eX5_joinByDraw_22, eX5_joinByDraw_23, eX5_joinByDraw_24, eX5_joinByDraw_27, eX5_joinByDraw_30, eX5_joinByDraw_31, eX5_joinByDraw_32, eX5_joinByDraw_35, eX5_joinByDraw_36, eX5_joinByDraw_39, eX5_joinByDraw_40, eX5_joinByDraw_43, Option.toList_some, Option.toList_none, List.cons_append, List.nil_append, is01_0, is01_1, true_and, cd5 h _ h9, hk, pl_P, (cP h (nI (nxS s)) H2).1, gz, if_true, not_true, if_false]
      · simp only [eX6_chance_0, eX6_chance_1, eX6_chance_2, eX6_chance_5, eX6_chance_6, eX6_chance_7, eX6_chance_10, eX6_chance_11, eX6_chance_14, eX6_chance_17, eX6_chance_18, eX6_chance_19, eX6_chance_22, eX6_chance_25, eX6_chance_26, eX6_chance_27, eX6_chance_30, eX6_chance_32, eX6_chance_33, eX6_chance_34, eX6_chance_35, eX6_chance_38, eX6_chance_39, eX6_chance_40, eX6_chance_43, eX6_chance_46, eX6_chance_47, eX6_chance_48, eX6_chance_51, eX6_chance_52, eX6_chance_55, eX6_chance_56, eX6_chance_57, eX6_chance_60, eX6_chance_61, eX6_chance_64, eX6_chance_65, eX6_chance_68, eX6_chance_69, eX6_chance_70, eX6_chance_73, eX6_chance_74, eX6_chance_77, eX6_chance_78, eX6_chance_79, eX6_chance_80, eX6_chance_81, eX6_chance_84, eX6_chance_87, eX6_chance_88, eX6_chance_89, eX6_chance_92, eX6_chance_93, eX6_chance_94, eX6_chance_97, eX6_chance_98, eX6_chance_101, eX6_chance_102, eX6_chance_103, eX6_chance_104, eX6_chance_105, eX6_chance_108, eX6_chance_109, Option.toList_some, Option.toList_none, List.cons_append, List.nil_append, is01_0, is01_1, true_and, md5 h _ h9, hk, (mP h (nI (nxS s)) H2).1, gz, gz', Int32.le_refl, Int32.lt_irrefl, if_true, not_true, if_false, n01, n02, n03, not_false_iff]
    · have hn2 := nxS_lt (nxS s)
      have hjG : nxS (nxS s) / 65536 % G < G := Nat.mod_lt _ (by omega)
      obtain ⟨j, hj⟩ : ∃ j, nxS (nxS s) / 65536 % G = j := ⟨_, rfl⟩
      rw [hj] at hjG
      have hj8 : j < 8 := by omega
      have gz : ¬ nI G = 0 := nI_ne0 (by omega) (by omega)
      have gz' : ¬ nI G ≤ 0 := nI_nle (by omega) (by omega)
      have gz'' : 0 < nI G := by rw [← Int32.not_le]; exact gz'
      have cdG : ∀ (h : xH) (Q : Option Value → xG → xH → Prop), h 0 9 = nI (nxS s) → EV X mX5_draw 0 0 0 [.ref 0, .int (nI G)] [] (Gb sw) h Q = Q (some (.int (nI j))) (Gb sw) (xu h 0 9 (nI (nxS (nxS s)))) := fun h Q h9 => by rw [← hj]; exact c_draw h9 (by omega) (by omega)
      have mdG : ∀ (h : xH) (Q : Option Value → xG → xH → Prop), h 140 10 = nI (nxS s) → EV X mX6_draw 0 0 0 [.ref 140, .int (nI G)] [] (Gb sw) h Q = Q (some (.int (nI j))) (Gb sw) (xu h 140 10 (nI (nxS (nxS s)))) := fun h Q h9 => by rw [← hj]; exact m_draw h9 hn1 (by omega) (by omega)
      have c9 : ∀ h : xH, xu h 0 9 (nI (nxS s)) 0 9 = nI (nxS s) := fun h => by rw [xus, xps]
      have m9 : ∀ h : xH, xu h 140 10 (nI (nxS s)) 140 10 = nI (nxS s) := fun h => by rw [xus, xps]
      by_cases p0 : v (12 + j) = 0
      · obtain ⟨n, q1, q2, q3⟩ := hV.n
        have hn8 : n < 8 := hV.lt8 hG hjG (by rw [p0]; decide) q2 q1
        refine ⟨enV v n j, nxS (nxS s), hV.en hG hjG p0 q2 hn8, by rw [enV_r, if_neg (by omega), if_neg (by omega), if_neg (by omega)], hn2, fun h H1 H2 h9 => ?_, fun h H1 H2 h9 => ?_⟩
        · have s2 := cS _ (nI (nxS (nxS s))) (cS h (nI (nxS s)) H1)
          obtain ⟨h', f1, s1, e1⟩ := c_en (X := X) (sw := sw) s2 hG hjG q2 hn8
          refine ⟨h', fun a q1 q2 => by rw [f1 a q1, xun _ _ _ _ _ q2, xun _ _ _ _ _ q2], by rw [f1 0 (by omega), xus, xps], s1, fun Q => ?_⟩
          simp only [eX5_doByDraw_0, eX5_doByDraw_1, eX5_doByDraw_2, eX5_doByDraw_5_c0, eX5_doByDraw_5_c1, eX5_doByDraw_5_c2, eX5_doByDraw_5_c3, eX5_doByDraw_36, eX5_doByDraw_37, eX5_doByDraw_40, eX5_doByDraw_43, eX5_doByDraw_44, eX5_doByDraw_47, eX5_doByDraw_50, eX5_doByDraw_53, eX5_doByDraw_54, eX5_doByDraw_57, eX5_doByDraw_58, eX5_doByDraw_61, eX5_doByDraw_64, eX5_doByDraw_65, eX5_doByDraw_68, eX5_doByDraw_69, eX5_doByDraw_72, eX5_doByDraw_73, eX5_doByDraw_74, eX5_doByDraw_75, eX5_doByDraw_78, eX5_doByDraw_81, eX5_doByDraw_84, eX5_doByDraw_85, eX5_doByDraw_88, eX5_doByDraw_91, eX5_doByDraw_92, eX5_doByDraw_95, eX5_doByDraw_96, eX5_doByDraw_99, eX5_doByDraw_100, eX5_doByDraw_103, eX5_doByDraw_106, eX5_doByDraw_107, eX5_doByDraw_110, eX5_joinByDraw_0, eX5_joinByDraw_1, eX5_joinByDraw_4, eX5_joinByDraw_7, eX5_joinByDraw_10, eX5_joinByDraw_11, eX5_joinByDraw_12, eX5_joinByDraw_13, eX5_joinByDraw_16, eX5_joinByDraw_19, eX5_joinByDraw_22, eX5_joinByDraw_23, eX5_joinByDraw_24, eX5_joinByDraw_27, eX5_joinByDraw_30, eX5_joinByDraw_31, eX5_joinByDraw_32, eX5_joinByDraw_35, eX5_joinByDraw_36, eX5_joinByDraw_39, eX5_joinByDraw_40, eX5_joinByDraw_43, Option.toList_some, Option.toList_none, List.cons_append, List.nil_append, is01_0, is01_1, true_and, cd5 h _ h9, hk, pl_P, (cP h (nI (nxS s)) H2).1, gz, if_true, not_true, not_false_iff, if_false, cdG _ _ (c9 h), cl8 hj8, inb8 hj8 (Nat.le_refl 8), s2.w j hj8, p0, e1]
        · have s2 := mS _ (nI (nxS (nxS s))) (mS h (nI (nxS s)) H1)
          obtain ⟨h', f1, s1, e1⟩ := m_en (X := X) (sw := sw) s2 hG hjG q2 hn8
          refine ⟨h', fun a q1 q2 => by rw [f1 a q1, xun _ _ _ _ _ q2, xun _ _ _ _ _ q2], fun k hk => by rw [f1 140 (by omega), xus, xpn _ _ _ _ hk, xus, xpn _ _ _ _ hk], by rw [f1 140 (by omega), xus, xps], s1, fun Q => ?_⟩
          simp only [eX6_chance_0, eX6_chance_1, eX6_chance_2, eX6_chance_5, eX6_chance_6, eX6_chance_7, eX6_chance_10, eX6_chance_11, eX6_chance_14, eX6_chance_17, eX6_chance_18, eX6_chance_19, eX6_chance_22, eX6_chance_25, eX6_chance_26, eX6_chance_27, eX6_chance_30, eX6_chance_32, eX6_chance_33, eX6_chance_34, eX6_chance_35, eX6_chance_38, eX6_chance_39, eX6_chance_40, eX6_chance_43, eX6_chance_46, eX6_chance_47, eX6_chance_48, eX6_chance_51, eX6_chance_52, eX6_chance_55, eX6_chance_56, eX6_chance_57, eX6_chance_60, eX6_chance_61, eX6_chance_64, eX6_chance_65, eX6_chance_68, eX6_chance_69, eX6_chance_70, eX6_chance_73, eX6_chance_74, eX6_chance_77, eX6_chance_78, eX6_chance_79, eX6_chance_80, eX6_chance_81, eX6_chance_84, eX6_chance_87, eX6_chance_88, eX6_chance_89, eX6_chance_92, eX6_chance_93, eX6_chance_94, eX6_chance_97, eX6_chance_98, eX6_chance_101, eX6_chance_102, eX6_chance_103, eX6_chance_104, eX6_chance_105, eX6_chance_108, eX6_chance_109, Option.toList_some, Option.toList_none, List.cons_append, List.nil_append, is01_0, is01_1, true_and, md5 h _ h9, hk, (mP h (nI (nxS s)) H2).1, gz, gz', gz'', if_true, not_true, not_false_iff, if_false, mdG _ _ (m9 h), la4, la12, la20, la28, la36, cl8_4 hj8, cl8_12 hj8, cl8_20 hj8, cl8_28 hj8, cl8_36 hj8, ib8_4 hj8, ib8_12 hj8, ib8_20 hj8, ib8_28 hj8, ib8_36 hj8, s2.w j hjG, p0, e1]
      · refine ⟨v, nxS (nxS s), hV, rfl, hn2, fun h H1 H2 h9 => ?_, fun h H1 H2 h9 => ?_⟩
        · have s2 := cS _ (nI (nxS (nxS s))) (cS h (nI (nxS s)) H1)
          refine ⟨xu (xu h 0 9 (nI (nxS s))) 0 9 (nI (nxS (nxS s))), fun a q1 q2 => by rw [xun _ _ _ _ _ q2, xun _ _ _ _ _ q2], by rw [xus, xps], s2, fun Q => ?_⟩
          simp only [eX5_doByDraw_0, eX5_doByDraw_1, eX5_doByDraw_2, eX5_doByDraw_5_c0, eX5_doByDraw_5_c1, eX5_doByDraw_5_c2, eX5_doByDraw_5_c3, eX5_doByDraw_36, eX5_doByDraw_37, eX5_doByDraw_40, eX5_doByDraw_43, eX5_doByDraw_44, eX5_doByDraw_47, eX5_doByDraw_50, eX5_doByDraw_53, eX5_doByDraw_54, eX5_doByDraw_57, eX5_doByDraw_58, eX5_doByDraw_61, eX5_doByDraw_64, eX5_doByDraw_65, eX5_doByDraw_68, eX5_doByDraw_69, eX5_doByDraw_72, eX5_doByDraw_73, eX5_doByDraw_74, eX5_doByDraw_75, eX5_doByDraw_78, eX5_doByDraw_81, eX5_doByDraw_84, eX5_doByDraw_85, eX5_doByDraw_88, eX5_doByDraw_91, eX5_doByDraw_92, eX5_doByDraw_95, eX5_doByDraw_96, eX5_doByDraw_99, eX5_doByDraw_100, eX5_doByDraw_103, eX5_doByDraw_106, eX5_doByDraw_107, eX5_doByDraw_110, eX5_joinByDraw_0, eX5_joinByDraw_1, eX5_joinByDraw_4, eX5_joinByDraw_7, eX5_joinByDraw_10, eX5_joinByDraw_11, eX5_joinByDraw_12, eX5_joinByDraw_13, eX5_joinByDraw_16, eX5_joinByDraw_19, eX5_joinByDraw_22, eX5_joinByDraw_23, eX5_joinByDraw_24, eX5_joinByDraw_27, eX5_joinByDraw_30, eX5_joinByDraw_31, eX5_joinByDraw_32, eX5_joinByDraw_35, eX5_joinByDraw_36, eX5_joinByDraw_39, eX5_joinByDraw_40, eX5_joinByDraw_43, Option.toList_some, Option.toList_none, List.cons_append, List.nil_append, is01_0, is01_1, true_and, cd5 h _ h9, hk, pl_P, (cP h (nI (nxS s)) H2).1, gz, if_true, not_true, not_false_iff, if_false, cdG _ _ (c9 h), cl8 hj8, inb8 hj8 (Nat.le_refl 8), s2.w j hj8, p0]
        · have s2 := mS _ (nI (nxS (nxS s))) (mS h (nI (nxS s)) H1)
          refine ⟨xu (xu h 140 10 (nI (nxS s))) 140 10 (nI (nxS (nxS s))), fun a q1 q2 => by rw [xun _ _ _ _ _ q2, xun _ _ _ _ _ q2], fun k hk => by rw [xus, xpn _ _ _ _ hk, xus, xpn _ _ _ _ hk], by rw [xus, xps], s2, fun Q => ?_⟩
          simp only [eX6_chance_0, eX6_chance_1, eX6_chance_2, eX6_chance_5, eX6_chance_6, eX6_chance_7, eX6_chance_10, eX6_chance_11, eX6_chance_14, eX6_chance_17, eX6_chance_18, eX6_chance_19, eX6_chance_22, eX6_chance_25, eX6_chance_26, eX6_chance_27, eX6_chance_30, eX6_chance_32, eX6_chance_33, eX6_chance_34, eX6_chance_35, eX6_chance_38, eX6_chance_39, eX6_chance_40, eX6_chance_43, eX6_chance_46, eX6_chance_47, eX6_chance_48, eX6_chance_51, eX6_chance_52, eX6_chance_55, eX6_chance_56, eX6_chance_57, eX6_chance_60, eX6_chance_61, eX6_chance_64, eX6_chance_65, eX6_chance_68, eX6_chance_69, eX6_chance_70, eX6_chance_73, eX6_chance_74, eX6_chance_77, eX6_chance_78, eX6_chance_79, eX6_chance_80, eX6_chance_81, eX6_chance_84, eX6_chance_87, eX6_chance_88, eX6_chance_89, eX6_chance_92, eX6_chance_93, eX6_chance_94, eX6_chance_97, eX6_chance_98, eX6_chance_101, eX6_chance_102, eX6_chance_103, eX6_chance_104, eX6_chance_105, eX6_chance_108, eX6_chance_109, Option.toList_some, Option.toList_none, List.cons_append, List.nil_append, is01_0, is01_1, true_and, md5 h _ h9, hk, (mP h (nI (nxS s)) H2).1, gz, gz', gz'', if_true, not_true, not_false_iff, if_false, mdG _ _ (m9 h), la4, la12, la20, la28, la36, cl8_4 hj8, cl8_12 hj8, cl8_20 hj8, cl8_28 hj8, cl8_36 hj8, ib8_4 hj8, ib8_12 hj8, ib8_20 hj8, ib8_28 hj8, ib8_36 hj8, s2.w j hjG, p0]
  · -- the car is boarded
    have hk : nI (nxS s / 65536 % 5) = 1 := by rw [k]; rfl
    by_cases p0 : v 0 = 0
    · have ev1 : brV w v 1 = v 1 := by
        obtain ⟨b1, b2, b3, b4, b5⟩ := br_b hW hV hw
        obtain ⟨m1, m2, -⟩ := br_m b5
        have : ∀ n i, i ≤ 8 → n ≤ 8 → bqV v n i 1 = v 1 := by
          intro n i
          induction i with
          | zero => intros; rfl
          | succ i ih =>
            intro q1 q2
            show dqV _ _ _ _ _ 1 = _
            rw [dqV_r, if_neg (by omega), if_neg (by omega), if_neg (by omega)]
            exact ih (by omega) q2
        unfold brV
        rw [xpn _ _ _ _ (by omega)]
        exact this _ _ (by omega) (by omega)
      refine ⟨brV w v, nxS s, hV.br hW hw, ev1, hn1, fun h H1 H2 h9 => ?_, fun h H1 H2 h9 => ?_⟩
      · have s2 := cS h (nI (nxS s)) H1
        obtain ⟨h', f1, s1, e1⟩ := c_fill X s2 hV hW (cP h (nI (nxS s)) H2) hw
        refine ⟨h', fun a q1 q2 => by rw [f1 a q1, xun _ _ _ _ _ q2], by rw [f1 0 (by omega), xus, xps], s1, fun Q => ?_⟩
        simp only [eX5_doByDraw_0, eX5_doByDraw_1, eX5_doByDraw_2, eX5_doByDraw_5_c0, eX5_doByDraw_5_c1, eX5_doByDraw_5_c2, eX5_doByDraw_5_c3, eX5_doByDraw_36, eX5_doByDraw_37, eX5_doByDraw_40, eX5_doByDraw_43, eX5_doByDraw_44, eX5_doByDraw_47, eX5_doByDraw_50, eX5_doByDraw_53, eX5_doByDraw_54, eX5_doByDraw_57, eX5_doByDraw_58, eX5_doByDraw_61, eX5_doByDraw_64, eX5_doByDraw_65, eX5_doByDraw_68, eX5_doByDraw_69, eX5_doByDraw_72, eX5_doByDraw_73, eX5_doByDraw_74, eX5_doByDraw_75, eX5_doByDraw_78, eX5_doByDraw_81, eX5_doByDraw_84, eX5_doByDraw_85, eX5_doByDraw_88, eX5_doByDraw_91, eX5_doByDraw_92, eX5_doByDraw_95, eX5_doByDraw_96, eX5_doByDraw_99, eX5_doByDraw_100, eX5_doByDraw_103, eX5_doByDraw_106, eX5_doByDraw_107, eX5_doByDraw_110, Option.toList_some, Option.toList_none, List.cons_append, List.nil_append, is01_0, is01_1, true_and, cd5 h _ h9, hk, s2.1, p0, if_true, not_true, not_false_iff, if_false, e1]
      · have s2 := mS h (nI (nxS s)) H1
        obtain ⟨h', f1, s1, e1⟩ := m_board X sw s2 hV hW (mP h (nI (nxS s)) H2) hw
        refine ⟨h', fun a q1 q2 => by rw [f1 a q1, xun _ _ _ _ _ q2], fun k hk => by rw [f1 140 (by omega), xus, xpn _ _ _ _ hk], by rw [f1 140 (by omega), xus, xps], s1, fun Q => ?_⟩
        simp only [eX6_chance_0, eX6_chance_1, eX6_chance_2, eX6_chance_5, eX6_chance_6, eX6_chance_7, eX6_chance_10, eX6_chance_11, eX6_chance_14, eX6_chance_17, eX6_chance_18, eX6_chance_19, eX6_chance_22, eX6_chance_25, eX6_chance_26, eX6_chance_27, eX6_chance_30, eX6_chance_32, eX6_chance_33, eX6_chance_34, eX6_chance_35, eX6_chance_38, eX6_chance_39, eX6_chance_40, eX6_chance_43, eX6_chance_46, eX6_chance_47, eX6_chance_48, eX6_chance_51, eX6_chance_52, eX6_chance_55, eX6_chance_56, eX6_chance_57, eX6_chance_60, eX6_chance_61, eX6_chance_64, eX6_chance_65, eX6_chance_68, eX6_chance_69, eX6_chance_70, eX6_chance_73, eX6_chance_74, eX6_chance_77, eX6_chance_78, eX6_chance_79, eX6_chance_80, eX6_chance_81, eX6_chance_84, eX6_chance_87, eX6_chance_88, eX6_chance_89, eX6_chance_92, eX6_chance_93, eX6_chance_94, eX6_chance_97, eX6_chance_98, eX6_chance_101, eX6_chance_102, eX6_chance_103, eX6_chance_104, eX6_chance_105, eX6_chance_108, eX6_chance_109, Option.toList_some, Option.toList_none, List.cons_append, List.nil_append, is01_0, is01_1, true_and, md5 h _ h9, hk, s2.f, tc0, ib0, p0, n10, if_true, not_true, not_false_iff, if_false, e1]
    · refine ⟨v, nxS s, hV, rfl, hn1, fun h H1 H2 h9 => ?_, fun h H1 H2 h9 => ?_⟩
      · have s2 := cS h (nI (nxS s)) H1
        refine ⟨_, fun a q1 q2 => xun _ _ _ _ _ q2, by rw [xus, xps], s2, fun Q => ?_⟩
        simp only [eX5_doByDraw_0, eX5_doByDraw_1, eX5_doByDraw_2, eX5_doByDraw_5_c0, eX5_doByDraw_5_c1, eX5_doByDraw_5_c2, eX5_doByDraw_5_c3, eX5_doByDraw_36, eX5_doByDraw_37, eX5_doByDraw_40, eX5_doByDraw_43, eX5_doByDraw_44, eX5_doByDraw_47, eX5_doByDraw_50, eX5_doByDraw_53, eX5_doByDraw_54, eX5_doByDraw_57, eX5_doByDraw_58, eX5_doByDraw_61, eX5_doByDraw_64, eX5_doByDraw_65, eX5_doByDraw_68, eX5_doByDraw_69, eX5_doByDraw_72, eX5_doByDraw_73, eX5_doByDraw_74, eX5_doByDraw_75, eX5_doByDraw_78, eX5_doByDraw_81, eX5_doByDraw_84, eX5_doByDraw_85, eX5_doByDraw_88, eX5_doByDraw_91, eX5_doByDraw_92, eX5_doByDraw_95, eX5_doByDraw_96, eX5_doByDraw_99, eX5_doByDraw_100, eX5_doByDraw_103, eX5_doByDraw_106, eX5_doByDraw_107, eX5_doByDraw_110, Option.toList_some, Option.toList_none, List.cons_append, List.nil_append, is01_0, is01_1, true_and, cd5 h _ h9, hk, s2.1, p0, if_true, not_true, not_false_iff, if_false]
      · have s2 := mS h (nI (nxS s)) H1
        refine ⟨_, fun a q1 q2 => xun _ _ _ _ _ q2, fun k hk => by rw [xus, xpn _ _ _ _ hk], by rw [xus, xps], s2, fun Q => ?_⟩
        simp only [eX6_chance_0, eX6_chance_1, eX6_chance_2, eX6_chance_5, eX6_chance_6, eX6_chance_7, eX6_chance_10, eX6_chance_11, eX6_chance_14, eX6_chance_17, eX6_chance_18, eX6_chance_19, eX6_chance_22, eX6_chance_25, eX6_chance_26, eX6_chance_27, eX6_chance_30, eX6_chance_32, eX6_chance_33, eX6_chance_34, eX6_chance_35, eX6_chance_38, eX6_chance_39, eX6_chance_40, eX6_chance_43, eX6_chance_46, eX6_chance_47, eX6_chance_48, eX6_chance_51, eX6_chance_52, eX6_chance_55, eX6_chance_56, eX6_chance_57, eX6_chance_60, eX6_chance_61, eX6_chance_64, eX6_chance_65, eX6_chance_68, eX6_chance_69, eX6_chance_70, eX6_chance_73, eX6_chance_74, eX6_chance_77, eX6_chance_78, eX6_chance_79, eX6_chance_80, eX6_chance_81, eX6_chance_84, eX6_chance_87, eX6_chance_88, eX6_chance_89, eX6_chance_92, eX6_chance_93, eX6_chance_94, eX6_chance_97, eX6_chance_98, eX6_chance_101, eX6_chance_102, eX6_chance_103, eX6_chance_104, eX6_chance_105, eX6_chance_108, eX6_chance_109, Option.toList_some, Option.toList_none, List.cons_append, List.nil_append, is01_0, is01_1, true_and, md5 h _ h9, hk, s2.f, tc0, ib0, p0, n10, n12, n13, if_true, not_true, not_false_iff, if_false]
  · -- the car is let up
    have hk : nI (nxS s / 65536 % 5) = 2 := by rw [k]; rfl
    have hn2 := nxS_lt (nxS s)
    obtain ⟨c0, c9⟩ := hW.2.2.1
    rw [fa_le] at c0 c9
    have z0 : (0 : Int32).toInt = 0 := rfl
    have z900 : (900 : Int32).toInt = 900 := rfl
    obtain ⟨E, E1, E2⟩ : ∃ E : Nat, w 0 = nI E ∧ E ≤ 900 := by
      obtain ⟨a1, a2⟩ := nI_t (x := w 0) (M := 900) (by omega) (by omega) (by omega)
      exact ⟨_, a1, a2⟩
    have E3 : 1 ≤ E := by
      rcases Nat.eq_zero_or_pos E with q | q
      · exact absurd (by rw [E1, q]; rfl) hw
      · exact q
    have hjE : nxS (nxS s) / 65536 % E < E := Nat.mod_lt _ (by omega)
    obtain ⟨j, hj⟩ : ∃ j, nxS (nxS s) / 65536 % E = j := ⟨_, rfl⟩
    rw [hj] at hjE
    have cdG : ∀ (h : xH) (Q : Option Value → xG → xH → Prop), h 0 9 = nI (nxS s) → EV X mX5_draw 0 0 0 [.ref 0, .int (nI E)] [] (Gb sw) h Q = Q (some (.int (nI j))) (Gb sw) (xu h 0 9 (nI (nxS (nxS s)))) := fun h Q h9 => by rw [← hj]; exact c_draw h9 (by omega) (by omega)
    have mdG : ∀ (h : xH) (Q : Option Value → xG → xH → Prop), h 140 10 = nI (nxS s) → EV X mX6_draw 0 0 0 [.ref 140, .int (nI E)] [] (Gb sw) h Q = Q (some (.int (nI j))) (Gb sw) (xu h 140 10 (nI (nxS (nxS s)))) := fun h Q h9 => by rw [← hj]; exact m_draw h9 hn1 (by omega) (by omega)
    have c9 : ∀ h : xH, xu h 0 9 (nI (nxS s)) 0 9 = nI (nxS s) := fun h => by rw [xus, xps]
    have m9 : ∀ h : xH, xu h 140 10 (nI (nxS s)) 140 10 = nI (nxS s) := fun h => by rw [xus, xps]
    refine ⟨xp v 0 (1 + nI j), nxS (nxS s), ?_, xpn _ _ _ _ (by omega), hn2, fun h H1 H2 h9 => ?_, fun h H1 H2 h9 => ?_⟩
    · refine hV.set (Or.inl rfl) hG (fun _ => ?_) (fun q => by omega)
      have : (1 : Int32) + nI j = nI (1 + j) := nI_add 1 j
      rw [this, E1, nI_toInt (by omega), nI_toInt (by omega)]
      omega
    · have s2 := cS _ (nI (nxS (nxS s))) (cS h (nI (nxS s)) H1)
      refine ⟨xu (xu (xu h 0 9 (nI (nxS s))) 0 9 (nI (nxS (nxS s)))) 13 0 (1 + nI j), fun a q1 q2 => by rw [xun _ _ _ _ _ (by omega), xun _ _ _ _ _ q2, xun _ _ _ _ _ q2], by rw [xun _ _ _ _ _ (by omega), xus, xps], s2.set0 0 (by omega) _, fun Q => ?_⟩
      have he : xu h 0 9 (nI (nxS s)) (pl sw) 2 = nI E := by rw [← E1]; exact (cP h (nI (nxS s)) H2).1.2.1
      simp only [eX5_doByDraw_0, eX5_doByDraw_1, eX5_doByDraw_2, eX5_doByDraw_5_c0, eX5_doByDraw_5_c1, eX5_doByDraw_5_c2, eX5_doByDraw_5_c3, eX5_doByDraw_36, eX5_doByDraw_37, eX5_doByDraw_40, eX5_doByDraw_43, eX5_doByDraw_44, eX5_doByDraw_47, eX5_doByDraw_50, eX5_doByDraw_53, eX5_doByDraw_54, eX5_doByDraw_57, eX5_doByDraw_58, eX5_doByDraw_61, eX5_doByDraw_64, eX5_doByDraw_65, eX5_doByDraw_68, eX5_doByDraw_69, eX5_doByDraw_72, eX5_doByDraw_73, eX5_doByDraw_74, eX5_doByDraw_75, eX5_doByDraw_78, eX5_doByDraw_81, eX5_doByDraw_84, eX5_doByDraw_85, eX5_doByDraw_88, eX5_doByDraw_91, eX5_doByDraw_92, eX5_doByDraw_95, eX5_doByDraw_96, eX5_doByDraw_99, eX5_doByDraw_100, eX5_doByDraw_103, eX5_doByDraw_106, eX5_doByDraw_107, eX5_doByDraw_110, Option.toList_some, Option.toList_none, List.cons_append, List.nil_append, is01_0, is01_1, true_and, cd5 h _ h9, hk, pl_P, he, cdG _ _ (c9 h)]
    · have s2 := mS _ (nI (nxS (nxS s))) (mS h (nI (nxS s)) H1)
      refine ⟨xu (xu (xu h 140 10 (nI (nxS s))) 140 10 (nI (nxS (nxS s)))) 145 0 (1 + nI j), fun a q1 q2 => by rw [xun _ _ _ _ _ q1, xun _ _ _ _ _ q2, xun _ _ _ _ _ q2], fun k hk => by rw [xun _ _ _ _ _ (by omega), xus, xpn _ _ _ _ hk, xus, xpn _ _ _ _ hk], by rw [xun _ _ _ _ _ (by omega), xus, xps], s2.set 0 _ (by omega) (fun i hi z _ => by omega), fun Q => ?_⟩
      have he : xu h 140 10 (nI (nxS s)) 140 0 = nI E := by rw [← E1]; exact (mP h (nI (nxS s)) H2).1.1
      simp only [eX6_chance_0, eX6_chance_1, eX6_chance_2, eX6_chance_5, eX6_chance_6, eX6_chance_7, eX6_chance_10, eX6_chance_11, eX6_chance_14, eX6_chance_17, eX6_chance_18, eX6_chance_19, eX6_chance_22, eX6_chance_25, eX6_chance_26, eX6_chance_27, eX6_chance_30, eX6_chance_32, eX6_chance_33, eX6_chance_34, eX6_chance_35, eX6_chance_38, eX6_chance_39, eX6_chance_40, eX6_chance_43, eX6_chance_46, eX6_chance_47, eX6_chance_48, eX6_chance_51, eX6_chance_52, eX6_chance_55, eX6_chance_56, eX6_chance_57, eX6_chance_60, eX6_chance_61, eX6_chance_64, eX6_chance_65, eX6_chance_68, eX6_chance_69, eX6_chance_70, eX6_chance_73, eX6_chance_74, eX6_chance_77, eX6_chance_78, eX6_chance_79, eX6_chance_80, eX6_chance_81, eX6_chance_84, eX6_chance_87, eX6_chance_88, eX6_chance_89, eX6_chance_92, eX6_chance_93, eX6_chance_94, eX6_chance_97, eX6_chance_98, eX6_chance_101, eX6_chance_102, eX6_chance_103, eX6_chance_104, eX6_chance_105, eX6_chance_108, eX6_chance_109, Option.toList_some, Option.toList_none, List.cons_append, List.nil_append, is01_0, is01_1, true_and, md5 h _ h9, hk, n20, n21, if_true, not_true, not_false_iff, if_false, he, mdG _ _ (m9 h), tc0, ib0]
  · -- the car is reeled in
    have hk : nI (nxS s / 65536 % 5) = 3 := by rw [k]; rfl
    have hV0 : SW w G (xp v 0 0) := hV.set (Or.inl rfl) hG (fun _ => by
      have := hW.2.2.1.1
      rw [fa_le] at this
      exact ⟨by decide, this⟩) (fun q => by omega)
    refine ⟨alV (xp v 0 0), nxS s, hV0.al hG, by rw [alV_n (by omega), xpn _ _ _ _ (by omega)], hn1, fun h H1 H2 h9 => ?_, fun h H1 H2 h9 => ?_⟩
    · have s2 := (cS h (nI (nxS s)) H1).set0 0 (by omega) 0
      obtain ⟨h', f1, s1, e1⟩ := c_al X sw s2 hV0 hG
      refine ⟨h', fun a q1 q2 => by rw [f1 a (by omega), xun _ _ _ _ _ (by omega), xun _ _ _ _ _ q2], by rw [f1 0 (by omega), xun _ _ _ _ _ (by omega), xus, xps], s1, fun Q => ?_⟩
      simp only [eX5_doByDraw_0, eX5_doByDraw_1, eX5_doByDraw_2, eX5_doByDraw_5_c0, eX5_doByDraw_5_c1, eX5_doByDraw_5_c2, eX5_doByDraw_5_c3, eX5_doByDraw_36, eX5_doByDraw_37, eX5_doByDraw_40, eX5_doByDraw_43, eX5_doByDraw_44, eX5_doByDraw_47, eX5_doByDraw_50, eX5_doByDraw_53, eX5_doByDraw_54, eX5_doByDraw_57, eX5_doByDraw_58, eX5_doByDraw_61, eX5_doByDraw_64, eX5_doByDraw_65, eX5_doByDraw_68, eX5_doByDraw_69, eX5_doByDraw_72, eX5_doByDraw_73, eX5_doByDraw_74, eX5_doByDraw_75, eX5_doByDraw_78, eX5_doByDraw_81, eX5_doByDraw_84, eX5_doByDraw_85, eX5_doByDraw_88, eX5_doByDraw_91, eX5_doByDraw_92, eX5_doByDraw_95, eX5_doByDraw_96, eX5_doByDraw_99, eX5_doByDraw_100, eX5_doByDraw_103, eX5_doByDraw_106, eX5_doByDraw_107, eX5_doByDraw_110, Option.toList_some, Option.toList_none, List.cons_append, List.nil_append, is01_0, is01_1, true_and, cd5 h _ h9, hk, e1]
    · have s2 := (mS h (nI (nxS s)) H1).set 0 0 (by omega) (fun i hi z _ => by omega)
      have hM2 : PM (xu (xu h 140 10 (nI (nxS s))) 145 0 0) NL G w := by
        refine H2.mv ?_ ?_ ?_ ?_ ?_ ?_ ?_ ?_ <;> simp only [xun, xus, xps, xpn, ne_eq, not_false_eq_true, Nat.reduceEqDiff, not_false_iff]
      obtain ⟨h', f1, s1, e1⟩ := m_al X sw s2 hV0 hG hM2
      refine ⟨h', fun a q1 q2 => by rw [f1 a q1, xun _ _ _ _ _ q1, xun _ _ _ _ _ q2], fun k hk => by rw [f1 140 (by omega), xun _ _ _ _ _ (by omega), xus, xpn _ _ _ _ hk], by rw [f1 140 (by omega), xun _ _ _ _ _ (by omega), xus, xps], s1, fun Q => ?_⟩
      simp only [eX6_chance_0, eX6_chance_1, eX6_chance_2, eX6_chance_5, eX6_chance_6, eX6_chance_7, eX6_chance_10, eX6_chance_11, eX6_chance_14, eX6_chance_17, eX6_chance_18, eX6_chance_19, eX6_chance_22, eX6_chance_25, eX6_chance_26, eX6_chance_27, eX6_chance_30, eX6_chance_32, eX6_chance_33, eX6_chance_34, eX6_chance_35, eX6_chance_38, eX6_chance_39, eX6_chance_40, eX6_chance_43, eX6_chance_46, eX6_chance_47, eX6_chance_48, eX6_chance_51, eX6_chance_52, eX6_chance_55, eX6_chance_56, eX6_chance_57, eX6_chance_60, eX6_chance_61, eX6_chance_64, eX6_chance_65, eX6_chance_68, eX6_chance_69, eX6_chance_70, eX6_chance_73, eX6_chance_74, eX6_chance_77, eX6_chance_78, eX6_chance_79, eX6_chance_80, eX6_chance_81, eX6_chance_84, eX6_chance_87, eX6_chance_88, eX6_chance_89, eX6_chance_92, eX6_chance_93, eX6_chance_94, eX6_chance_97, eX6_chance_98, eX6_chance_101, eX6_chance_102, eX6_chance_103, eX6_chance_104, eX6_chance_105, eX6_chance_108, eX6_chance_109, Option.toList_some, Option.toList_none, List.cons_append, List.nil_append, is01_0, is01_1, true_and, md5 h _ h9, hk, n30, n31, n32, if_true, not_true, not_false_iff, if_false, tc0, ib0, e1]
  · -- nothing
    have hk : nI (nxS s / 65536 % 5) = 4 := by rw [k]; rfl
    have hd : (4 : Int32).toInt < 0 ∨ 3 < (4 : Int32).toInt := by decide
    refine ⟨v, nxS s, hV, rfl, hn1, fun h H1 H2 h9 => ?_, fun h H1 H2 h9 => ?_⟩
    · have s2 := cS h (nI (nxS s)) H1
      refine ⟨_, fun a q1 q2 => xun _ _ _ _ _ q2, by rw [xus, xps], s2, fun Q => ?_⟩
      simp only [eX5_doByDraw_0, eX5_doByDraw_1, eX5_doByDraw_2, eX5_doByDraw_5_c0, eX5_doByDraw_5_c1, eX5_doByDraw_5_c2, eX5_doByDraw_5_c3, eX5_doByDraw_36, eX5_doByDraw_37, eX5_doByDraw_40, eX5_doByDraw_43, eX5_doByDraw_44, eX5_doByDraw_47, eX5_doByDraw_50, eX5_doByDraw_53, eX5_doByDraw_54, eX5_doByDraw_57, eX5_doByDraw_58, eX5_doByDraw_61, eX5_doByDraw_64, eX5_doByDraw_65, eX5_doByDraw_68, eX5_doByDraw_69, eX5_doByDraw_72, eX5_doByDraw_73, eX5_doByDraw_74, eX5_doByDraw_75, eX5_doByDraw_78, eX5_doByDraw_81, eX5_doByDraw_84, eX5_doByDraw_85, eX5_doByDraw_88, eX5_doByDraw_91, eX5_doByDraw_92, eX5_doByDraw_95, eX5_doByDraw_96, eX5_doByDraw_99, eX5_doByDraw_100, eX5_doByDraw_103, eX5_doByDraw_106, eX5_doByDraw_107, eX5_doByDraw_110, Option.toList_some, Option.toList_none, List.cons_append, List.nil_append, is01_0, is01_1, true_and, cd5 h _ h9, hk, eX5_doByDraw_5_d _ _ hd]
    · have s2 := mS h (nI (nxS s)) H1
      refine ⟨_, fun a q1 q2 => xun _ _ _ _ _ q2, fun k hk => by rw [xus, xpn _ _ _ _ hk], by rw [xus, xps], s2, fun Q => ?_⟩
      simp only [eX6_chance_0, eX6_chance_1, eX6_chance_2, eX6_chance_5, eX6_chance_6, eX6_chance_7, eX6_chance_10, eX6_chance_11, eX6_chance_14, eX6_chance_17, eX6_chance_18, eX6_chance_19, eX6_chance_22, eX6_chance_25, eX6_chance_26, eX6_chance_27, eX6_chance_30, eX6_chance_32, eX6_chance_33, eX6_chance_34, eX6_chance_35, eX6_chance_38, eX6_chance_39, eX6_chance_40, eX6_chance_43, eX6_chance_46, eX6_chance_47, eX6_chance_48, eX6_chance_51, eX6_chance_52, eX6_chance_55, eX6_chance_56, eX6_chance_57, eX6_chance_60, eX6_chance_61, eX6_chance_64, eX6_chance_65, eX6_chance_68, eX6_chance_69, eX6_chance_70, eX6_chance_73, eX6_chance_74, eX6_chance_77, eX6_chance_78, eX6_chance_79, eX6_chance_80, eX6_chance_81, eX6_chance_84, eX6_chance_87, eX6_chance_88, eX6_chance_89, eX6_chance_92, eX6_chance_93, eX6_chance_94, eX6_chance_97, eX6_chance_98, eX6_chance_101, eX6_chance_102, eX6_chance_103, eX6_chance_104, eX6_chance_105, eX6_chance_108, eX6_chance_109, Option.toList_some, Option.toList_none, List.cons_append, List.nil_append, is01_0, is01_1, true_and, md5 h _ h9, hk, n40, n41, n42, n43, if_true, not_true, not_false_iff, if_false]
/-- a run of draws -/
theorem drs (X : (Nat → Int32) × Nat) (sw : Bool) (hW : PW NL G w) (hw : ¬ w 0 = 0) (N : Nat) (hN : N ≤ 60) : ∀ (r i : Nat) (v : Nat → Int32) (s : Nat), i + r = N → SW w G v → s < 2147483648 → (v 1).toInt + r ≤ 100499 → ∃ (v' : Nat → Int32) (s' : Nat), SW w G v' ∧ s' < 2147483648 ∧
    (∀ (h : xH) (z : Int32), SC h 13 G v → PC h (pl sw) NL G w → h 0 9 = nI s → ∃ h' : xH, (∀ a, ¬ (13 ≤ a ∧ a < 19) → ¬ a = 0 → h' a = h a) ∧ h' 0 9 = nI s' ∧ SC h' 13 G v' ∧ ∀ Q : Option Value → xG → xH → Prop, EV X mX5_drift 0 0 27 [.ref 0, .int (nI N), .int z, .int (nI i)] [] (Gb sw) h Q = Q (some (.int (v' 2))) (Gb sw) h') ∧
    (∀ h : xH, SM h 145 0 G v → PM h NL G w → h 140 10 = nI s → ∃ h' : xH, (∀ a, ¬ a = 145 → ¬ a = 140 → h' a = h a) ∧ (∀ k, ¬ k = 10 → h' 140 k = h 140 k) ∧ h' 140 10 = nI s' ∧ SM h' 145 0 G v' ∧ ∀ Q : Option Value → xG → xH → Prop, EV X mX6_drift 0 0 46 [.ref 140, .int (nI N), .int (nI i)] [] (Gb sw) h Q = Q (some (.int (v' 2))) (Gb sw) h') := by
  have hpl : 3 ≤ pl sw ∧ pl sw ≤ 8 := by cases sw <;> decide
  intro r
  induction r with
  | zero =>
    intro i v s hi hV hs hh
    have hi : i = N := hi
    subst hi
    refine ⟨v, s, hV, hs, fun h z H1 H2 h9 => ⟨h, fun _ _ _ => rfl, h9, H1, fun Q => ?_⟩, fun h H1 H2 h9 => ⟨h, fun _ _ _ => rfl, fun _ _ => rfl, h9, H1, fun Q => ?_⟩⟩
    · rw [eX5_drift_27]
      simp only [eX5_drift_0, eX5_drift_1, eX5_drift_2, eX5_drift_4, eX5_drift_7, eX5_drift_8, eX5_drift_9, eX5_drift_12, eX5_drift_13, eX5_drift_14, eX5_drift_15, eX5_drift_18, eX5_drift_19, eX5_drift_22, eX5_drift_25, eX5_drift_26, eX5_drift_28, eX5_drift_29, eX5_drift_32, eX5_drift_33, eX5_drift_36, eX5_drift_37, eX5_drift_40, eX5_drift_41, eX5_drift_42, eX5_drift_45, eX5_drift_48, eX5_drift_51, eX5_drift_54, eX5_drift_55, eX5_drift_58, eX5_drift_61, Option.toList_some, Option.toList_none, List.cons_append, List.nil_append, is01_0, is01_1, true_and, H1.1]
      rw [if_pos (Int32.le_refl _)]
    · rw [eX6_drift_46]
      simp only [eX6_drift_0, eX6_drift_1, eX6_drift_2, eX6_drift_3, eX6_drift_6, eX6_drift_9, eX6_drift_12, eX6_drift_14, eX6_drift_15, eX6_drift_16, eX6_drift_19, eX6_drift_22, eX6_drift_24, eX6_drift_25, eX6_drift_26, eX6_drift_29, eX6_drift_30, eX6_drift_31, eX6_drift_34, eX6_drift_37, eX6_drift_39, eX6_drift_40, eX6_drift_41, eX6_drift_44, eX6_drift_45, eX6_drift_47, eX6_drift_48, eX6_drift_51, eX6_drift_52, eX6_drift_55, eX6_drift_56, eX6_drift_57, eX6_drift_60, eX6_drift_63, eX6_drift_66, eX6_drift_67, eX6_drift_70, eX6_drift_71, eX6_drift_72, Option.toList_some, Option.toList_none, List.cons_append, List.nil_append, is01_0, is01_1, true_and, H1.f, tc2, ib2]
      rw [if_pos (Int32.le_refl _)]
  | succ r ih =>
    intro i v s hi hV hs hh
    obtain ⟨v1, s1, hV1, hv11, hs1, cc, mm⟩ := chs X sw hV hW hw hs
    have o1 : (1 : Int32).toInt = 1 := rfl
    have hV2 : SW w G (psV w v1 NL G 1) := hV1.ps hW 1 (by decide) (by decide) (by rw [hv11, o1]; omega)
    have hh1 := hV.2.2.2.2.1
    have e11 : psV w v1 NL G 1 1 = v1 1 + 1 := by unfold psV; rw [xps]
    obtain ⟨v', s', hV', hs', cc2, mm2⟩ := ih (i + 1) (psV w v1 NL G 1) s1 (by omega) hV2 hs1 (by
      rw [e11, hv11, fb_addI (by rw [o1]; omega) (by rw [o1]; omega), o1]
      omega)
    refine ⟨v', s', hV', hs', fun h z H1 H2 h9 => ?_, fun h H1 H2 h9 => ?_⟩
    · obtain ⟨h1, f1, a1, b1, k1⟩ := cc h H1 H2 h9
      have P1 : PC h1 (pl sw) NL G w := H2.mv (f1 _ (by omega) (by omega)) (f1 _ (by omega) (by omega)) (f1 _ (by omega) (by omega)) (f1 _ (by omega) (by omega))
      obtain ⟨h2, f2, b2, k2⟩ := c_pass X b1 hV1 hW P1 1
      have P2 : PC h2 (pl sw) NL G w := P1.mv (f2 _ (by omega)) (f2 _ (by omega)) (f2 _ (by omega)) (f2 _ (by omega))
      obtain ⟨h3, f3, a3, b3, k3⟩ := cc2 h2 z b2 P2 (by rw [f2 0 (by omega)]; exact a1)
      refine ⟨h3, fun a q1 q2 => by rw [f3 a q1 q2, f2 a q1, f1 a q1 q2], a3, b3, fun Q => ?_⟩
      rw [← k3 Q]
      conv => lhs; rw [eX5_drift_27]
      simp only [eX5_drift_0, eX5_drift_1, eX5_drift_2, eX5_drift_4, eX5_drift_7, eX5_drift_8, eX5_drift_9, eX5_drift_12, eX5_drift_13, eX5_drift_14, eX5_drift_15, eX5_drift_18, eX5_drift_19, eX5_drift_22, eX5_drift_25, eX5_drift_26, eX5_drift_28, eX5_drift_29, eX5_drift_32, eX5_drift_33, eX5_drift_36, eX5_drift_37, eX5_drift_40, eX5_drift_41, eX5_drift_42, eX5_drift_45, eX5_drift_48, eX5_drift_51, eX5_drift_54, eX5_drift_55, eX5_drift_58, eX5_drift_61, Option.toList_some, Option.toList_none, List.cons_append, List.nil_append, is01_0, is01_1, true_and, k1, k2, nI_1]
      rw [if_neg (nI_ge (by omega) (by omega))]
    · obtain ⟨h1, f1, g1, a1, b1, k1⟩ := mm h H1 H2 h9
      have P1 : PM h1 NL G w := H2.mv (g1 _ (by omega)) (g1 _ (by omega)) (g1 _ (by omega)) (g1 _ (by omega)) (g1 _ (by omega)) (f1 _ (by omega) (by omega)) (f1 _ (by omega) (by omega)) (f1 _ (by omega) (by omega))
      obtain ⟨h2, f2, b2, k2⟩ := m_pass X sw b1 hV1 hW P1 1 (by decide) (by decide)
      have P2 : PM h2 NL G w := by
        refine P1.mv ?_ ?_ ?_ ?_ ?_ ?_ ?_ ?_ <;> rw [f2 _ (by omega)]
      obtain ⟨h3, f3, g3, a3, b3, k3⟩ := mm2 h2 b2 P2 (by rw [f2 140 (by omega)]; exact a1)
      refine ⟨h3, fun a q1 q2 => by rw [f3 a q1 q2, f2 a q1, f1 a q1 q2], fun k hk => by rw [g3 k hk, f2 140 (by omega), g1 k hk], a3, b3, fun Q => ?_⟩
      rw [← k3 Q]
      conv => lhs; rw [eX6_drift_46]
      simp only [eX6_drift_0, eX6_drift_1, eX6_drift_2, eX6_drift_3, eX6_drift_6, eX6_drift_9, eX6_drift_12, eX6_drift_14, eX6_drift_15, eX6_drift_16, eX6_drift_19, eX6_drift_22, eX6_drift_24, eX6_drift_25, eX6_drift_26, eX6_drift_29, eX6_drift_30, eX6_drift_31, eX6_drift_34, eX6_drift_37, eX6_drift_39, eX6_drift_40, eX6_drift_41, eX6_drift_44, eX6_drift_45, eX6_drift_47, eX6_drift_48, eX6_drift_51, eX6_drift_52, eX6_drift_55, eX6_drift_56, eX6_drift_57, eX6_drift_60, eX6_drift_63, eX6_drift_66, eX6_drift_67, eX6_drift_70, eX6_drift_71, eX6_drift_72, Option.toList_some, Option.toList_none, List.cons_append, List.nil_append, is01_0, is01_1, true_and, k1, k2, nI_1]
      rw [if_neg (nI_ge (by omega) (by omega))]
theorem p_drift (n : Int32) : OpK X mX5_drift mX6_drift [.ref 0, .int n, .null, .null] [.ref 140, .int n, .null] := OpK.two fun sw h NL G w v H => by
  obtain ⟨n1, n2, n3, n4, n5, n6⟩ := id H.1
  have k1 : ¬ (-1000000002 : Int32) = 0 := by decide
  have k2 : ¬ (-1000000003 : Int32) = 0 := by decide
  have k3 : ¬ (-1000000004 : Int32) = 0 := by decide
  by_cases c : 1 ≤ n ∧ n ≤ 60
  · by_cases c1 : w 0 = 0
    · refine OpK.same H ?_
      unfold Both
      simp only [eX5_drift_0, eX5_drift_1, eX5_drift_2, eX5_drift_4, eX5_drift_7, eX5_drift_8, eX5_drift_9, eX5_drift_12, eX5_drift_13, eX5_drift_14, eX5_drift_15, eX5_drift_18, eX5_drift_19, eX5_drift_22, eX5_drift_25, eX5_drift_26, eX5_drift_28, eX5_drift_29, eX5_drift_32, eX5_drift_33, eX5_drift_36, eX5_drift_37, eX5_drift_40, eX5_drift_41, eX5_drift_42, eX5_drift_45, eX5_drift_48, eX5_drift_51, eX5_drift_54, eX5_drift_55, eX5_drift_58, eX5_drift_61, eX6_drift_0, eX6_drift_1, eX6_drift_2, eX6_drift_3, eX6_drift_6, eX6_drift_9, eX6_drift_12, eX6_drift_14, eX6_drift_15, eX6_drift_16, eX6_drift_19, eX6_drift_22, eX6_drift_24, eX6_drift_25, eX6_drift_26, eX6_drift_29, eX6_drift_30, eX6_drift_31, eX6_drift_34, eX6_drift_37, eX6_drift_39, eX6_drift_40, eX6_drift_41, eX6_drift_44, eX6_drift_45, eX6_drift_47, eX6_drift_48, eX6_drift_51, eX6_drift_52, eX6_drift_55, eX6_drift_56, eX6_drift_57, eX6_drift_60, eX6_drift_63, eX6_drift_66, eX6_drift_67, eX6_drift_70, eX6_drift_71, eX6_drift_72, Option.toList_some, Option.toList_none, List.cons_append, List.nil_append, is01_0, is01_1, true_and, c_refuse n3 n5, r_in, b01_0, wl_0, wr_0, wl_1, wr_1, wl_2, wr_2, wl_3, wr_3, wl_20, wr_20, wl_48, wr_48, wl_57, wr_57, wl_60, wr_60, wl_100, wr_100, wl_255, wr_255, wl_500, wr_500, wl_900, wr_900, wl_999, wr_999, wl_12345, wr_12345, wl_999999, wr_999999, wl_99999999, wr_99999999, wl_1000000000, wr_1000000000, wl_1103515245, wr_1103515245, n4.1, c, c1, k2, and_self, not_true, not_false_iff, if_true, if_false]
      first | exact ⟨_, fun _ => rfl, fun _ => rfl⟩ | exact ⟨_, fun _ => rfl⟩
    · by_cases c2 : v 1 ≤ 99999
      · obtain ⟨r3, r4⟩ := rg c (m := 1) (n := 60) rfl rfl
        obtain ⟨N1, N2⟩ := nI_t (x := n) (M := 60) (by omega) (by omega) (by omega)
        generalize n.toNatClampNeg = N at N1 N2
        subst N1
        have hh : (v 1).toInt + N ≤ 100499 := by
          rw [fa_le] at c2
          have : (99999 : Int32).toInt = 99999 := rfl
          omega
        obtain ⟨hp, hN, z0, z140, e1, K⟩ := act X H
        obtain ⟨m1, m2, m3, m4, m5, m6⟩ := id hN
        obtain ⟨d1, d2⟩ := H.2.2.2.2.2.2.2.2
        obtain ⟨S1, S2⟩ := nI_t (x := h 0 9) (M := 2147483647) d2 (by have := fb_rng (h 0 9); omega) (by omega)
        generalize (h 0 9).toNatClampNeg = s at S1 S2
        obtain ⟨v', s', hV', hs', cc, mm⟩ := drs X sw n1 c1 N N2 N 0 v s (by omega) n2 (by omega) hh
        obtain ⟨h1, g1, a1, hs1, kk1⟩ := cc hp 0 m5 m3 (by rw [z0]; exact S1)
        obtain ⟨hr, hM, hm, r0, r140, e2, K2⟩ := K h1 g1
        obtain ⟨h2, g2, g3, a2, hm', kk2⟩ := mm hr hm hM (by rw [r140, ← d1]; exact S1)
        refine ⟨v' 2, h1, h2, fun Q => ?_, fun Q => ?_, NL, G, w, v', K2 _ _ g2 g3 hV' hs1 hm' ⟨?_, ?_⟩⟩
        · simp only [eX5_drift_0, eX5_drift_1, eX5_drift_2, eX5_drift_4, eX5_drift_7, eX5_drift_8, eX5_drift_9, eX5_drift_12, eX5_drift_13, eX5_drift_14, eX5_drift_15, eX5_drift_18, eX5_drift_19, eX5_drift_22, eX5_drift_25, eX5_drift_26, eX5_drift_28, eX5_drift_29, eX5_drift_32, eX5_drift_33, eX5_drift_36, eX5_drift_37, eX5_drift_40, eX5_drift_41, eX5_drift_42, eX5_drift_45, eX5_drift_48, eX5_drift_51, eX5_drift_54, eX5_drift_55, eX5_drift_58, eX5_drift_61, Option.toList_some, Option.toList_none, List.cons_append, List.nil_append, is01_0, is01_1, true_and, c_refuse n3 n5, c, c1, c2, and_self, not_true, not_false_iff, if_true, if_false, e1]
          exact kk1 Q
        · have p1 : PM h1 NL G w := by
            refine m4.mv ?_ ?_ ?_ ?_ ?_ ?_ ?_ ?_ <;> rw [g1 _ (by omega) (by omega)]
          have p2 : SM h1 145 0 G v := m6.mv (g1 _ (by omega) (by omega))
          simp only [eX6_drift_0, eX6_drift_1, eX6_drift_2, eX6_drift_3, eX6_drift_6, eX6_drift_9, eX6_drift_12, eX6_drift_14, eX6_drift_15, eX6_drift_16, eX6_drift_19, eX6_drift_22, eX6_drift_24, eX6_drift_25, eX6_drift_26, eX6_drift_29, eX6_drift_30, eX6_drift_31, eX6_drift_34, eX6_drift_37, eX6_drift_39, eX6_drift_40, eX6_drift_41, eX6_drift_44, eX6_drift_45, eX6_drift_47, eX6_drift_48, eX6_drift_51, eX6_drift_52, eX6_drift_55, eX6_drift_56, eX6_drift_57, eX6_drift_60, eX6_drift_63, eX6_drift_66, eX6_drift_67, eX6_drift_70, eX6_drift_71, eX6_drift_72, Option.toList_some, Option.toList_none, List.cons_append, List.nil_append, is01_0, is01_1, true_and, r_in, b01_0, wl_0, wr_0, wl_1, wr_1, wl_2, wr_2, wl_3, wr_3, wl_20, wr_20, wl_48, wr_48, wl_57, wr_57, wl_60, wr_60, wl_100, wr_100, wl_255, wr_255, wl_500, wr_500, wl_900, wr_900, wl_999, wr_999, wl_12345, wr_12345, wl_999999, wr_999999, wl_99999999, wr_99999999, wl_1000000000, wr_1000000000, wl_1103515245, wr_1103515245, p1.1, p2.f, tc1, ib1, c, c1, c2, and_self, not_true, not_false_iff, if_true, if_false, e2]
          exact kk2 Q
        · rw [g2 0 (by omega) (by omega), r0, a1, a2]
        · rw [g2 0 (by omega) (by omega), r0, a1, nI_toInt (by omega)]
          omega
      · refine OpK.same H ?_
        unfold Both
        simp only [eX5_drift_0, eX5_drift_1, eX5_drift_2, eX5_drift_4, eX5_drift_7, eX5_drift_8, eX5_drift_9, eX5_drift_12, eX5_drift_13, eX5_drift_14, eX5_drift_15, eX5_drift_18, eX5_drift_19, eX5_drift_22, eX5_drift_25, eX5_drift_26, eX5_drift_28, eX5_drift_29, eX5_drift_32, eX5_drift_33, eX5_drift_36, eX5_drift_37, eX5_drift_40, eX5_drift_41, eX5_drift_42, eX5_drift_45, eX5_drift_48, eX5_drift_51, eX5_drift_54, eX5_drift_55, eX5_drift_58, eX5_drift_61, eX6_drift_0, eX6_drift_1, eX6_drift_2, eX6_drift_3, eX6_drift_6, eX6_drift_9, eX6_drift_12, eX6_drift_14, eX6_drift_15, eX6_drift_16, eX6_drift_19, eX6_drift_22, eX6_drift_24, eX6_drift_25, eX6_drift_26, eX6_drift_29, eX6_drift_30, eX6_drift_31, eX6_drift_34, eX6_drift_37, eX6_drift_39, eX6_drift_40, eX6_drift_41, eX6_drift_44, eX6_drift_45, eX6_drift_47, eX6_drift_48, eX6_drift_51, eX6_drift_52, eX6_drift_55, eX6_drift_56, eX6_drift_57, eX6_drift_60, eX6_drift_63, eX6_drift_66, eX6_drift_67, eX6_drift_70, eX6_drift_71, eX6_drift_72, Option.toList_some, Option.toList_none, List.cons_append, List.nil_append, is01_0, is01_1, true_and, c_refuse n3 n5, r_in, b01_0, wl_0, wr_0, wl_1, wr_1, wl_2, wr_2, wl_3, wr_3, wl_20, wr_20, wl_48, wr_48, wl_57, wr_57, wl_60, wr_60, wl_100, wr_100, wl_255, wr_255, wl_500, wr_500, wl_900, wr_900, wl_999, wr_999, wl_12345, wr_12345, wl_999999, wr_999999, wl_99999999, wr_99999999, wl_1000000000, wr_1000000000, wl_1103515245, wr_1103515245, n4.1, n6.f, tc1, ib1, c, c1, c2, k3, and_self, not_true, not_false_iff, if_true, if_false]
        first | exact ⟨_, fun _ => rfl, fun _ => rfl⟩ | exact ⟨_, fun _ => rfl⟩
  · refine OpK.same H ?_
    unfold Both
    simp only [eX5_drift_0, eX5_drift_1, eX5_drift_2, eX5_drift_4, eX5_drift_7, eX5_drift_8, eX5_drift_9, eX5_drift_12, eX5_drift_13, eX5_drift_14, eX5_drift_15, eX5_drift_18, eX5_drift_19, eX5_drift_22, eX5_drift_25, eX5_drift_26, eX5_drift_28, eX5_drift_29, eX5_drift_32, eX5_drift_33, eX5_drift_36, eX5_drift_37, eX5_drift_40, eX5_drift_41, eX5_drift_42, eX5_drift_45, eX5_drift_48, eX5_drift_51, eX5_drift_54, eX5_drift_55, eX5_drift_58, eX5_drift_61, eX6_drift_0, eX6_drift_1, eX6_drift_2, eX6_drift_3, eX6_drift_6, eX6_drift_9, eX6_drift_12, eX6_drift_14, eX6_drift_15, eX6_drift_16, eX6_drift_19, eX6_drift_22, eX6_drift_24, eX6_drift_25, eX6_drift_26, eX6_drift_29, eX6_drift_30, eX6_drift_31, eX6_drift_34, eX6_drift_37, eX6_drift_39, eX6_drift_40, eX6_drift_41, eX6_drift_44, eX6_drift_45, eX6_drift_47, eX6_drift_48, eX6_drift_51, eX6_drift_52, eX6_drift_55, eX6_drift_56, eX6_drift_57, eX6_drift_60, eX6_drift_63, eX6_drift_66, eX6_drift_67, eX6_drift_70, eX6_drift_71, eX6_drift_72, Option.toList_some, Option.toList_none, List.cons_append, List.nil_append, is01_0, is01_1, true_and, c_refuse n3 n5, r_in, b01_0, wl_0, wr_0, wl_1, wr_1, wl_2, wr_2, wl_3, wr_3, wl_20, wr_20, wl_48, wr_48, wl_57, wr_57, wl_60, wr_60, wl_100, wr_100, wl_255, wr_255, wl_500, wr_500, wl_900, wr_900, wl_999, wr_999, wl_12345, wr_12345, wl_999999, wr_999999, wl_99999999, wr_99999999, wl_1000000000, wr_1000000000, wl_1103515245, wr_1103515245, c, k1, not_true, not_false_iff, if_true, if_false]
    first | exact ⟨_, fun _ => rfl, fun _ => rfl⟩ | exact ⟨_, fun _ => rfl⟩
end DR
