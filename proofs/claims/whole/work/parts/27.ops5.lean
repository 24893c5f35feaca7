/-! best, best price -/
theorem div_nn {a b : Int32} (ha : 0 ≤ a.toInt) (hb : 0 < b.toInt) : (a / b).toInt = a.toInt / b.toInt := by
  rw [Int32.toInt_div, Int.tdiv_eq_ediv_of_nonneg ha]
  have h1 : 0 ≤ a.toInt / b.toInt := Int.ediv_nonneg ha (by omega)
  have h2 : a.toInt / b.toInt ≤ a.toInt := Int.ediv_le_self _ ha
  have := fb_rng a
  apply Int.bmod_eq_of_le <;> omega
theorem skS_rng {t k a : Int32} (h1 : 0 ≤ k.toInt) (h2 : k.toInt ≤ 7000000) (h3 : 0 ≤ a.toInt) (h4 : a.toInt ≤ 99999999) : 0 ≤ (skS t k a).toInt ∧ (skS t k a).toInt ≤ 400000 := by
  have c100 : (100 : Int32).toInt = 100 := rfl
  have c50 : (50 : Int32).toInt = 50 := rfl
  have c20 : (20 : Int32).toInt = 20 := rfl
  have c10 : (10 : Int32).toInt = 10 := rfl
  have c2 : (2 : Int32).toInt = 2 := rfl
  have c30 : (30 : Int32).toInt = 30 := rfl
  have c40 : (40 : Int32).toInt = 40 := rfl
  have d100 : (k / 100).toInt = k.toInt / 100 := div_nn h1 (by decide)
  have d50 : (k / 50).toInt = k.toInt / 50 := div_nn h1 (by decide)
  have d20 : (k / 20).toInt = k.toInt / 20 := div_nn h1 (by decide)
  have a100 : (a / 100).toInt = a.toInt / 100 := div_nn h3 (by decide)
  have a10 : (a / 100 / 10).toInt = a.toInt / 100 / 10 := by rw [div_nn (by rw [a100]; omega) (by decide), a100, c10]
  unfold skS
  split
  · rw [d100]; omega
  · split
    · split
      · rw [d50]; omega
      · rw [c40]; omega
    · split
      · split
        · rw [d20]; omega
        · rename_i q
          rw [fa_le, d20, c30] at q
          have e1 : (k / 20 - 30).toInt = k.toInt / 20 - 30 := by rw [fb_subI (by rw [d20, c30]; omega) (by rw [d20, c30]; omega), d20, c30]
          have e2 : ((k / 20 - 30) / 2).toInt = (k.toInt / 20 - 30) / 2 := by rw [div_nn (by rw [e1]; omega) (by decide), e1, c2]
          rw [fb_addI (by rw [e2, c30]; omega) (by rw [e2, c30]; omega), e2, c30]
          omega
      · split
        · rw [fb_addI (by rw [d100, a10]; omega) (by rw [d100, a10]; omega), d100, a10]
          omega
        · decide
theorem oldS_rng {a n : Int32} (h1 : 0 ≤ a.toInt) (h2 : 0 ≤ n.toInt) (h3 : a.toInt ≤ 99999999) (h4 : n.toInt ≤ 300000) : 0 ≤ (oldS a n).toInt ∧ (oldS a n).toInt ≤ 99999999 := by
  have e : (a + n).toInt = a.toInt + n.toInt := fb_addI (by omega) (by omega)
  have c : (99999999 : Int32).toInt = 99999999 := rfl
  unfold oldS
  split
  · rename_i q
    rw [fa_lt, e, c] at q
    rw [e]
    omega
  · rw [c]; omega
theorem bdS_rng {w v : Nat → Int32} {NL G : Nat} (hW : PW NL G w) (hV : SW w G v) {n : Int32} (n0 : 0 ≤ n.toInt) (n1 : n.toInt ≤ 500) : 0 ≤ (bdS w v NL G n).toInt := by
  have key := xfold_inv (f := fun j s => if up v j then s + skS (w (30 + j)) (v (36 + j) + n * pcj w v NL j) (oldS (v (28 + j)) (n * pcj w v NL j)) else s) (fun i (s : Int32) => 0 ≤ s.toInt ∧ s.toInt ≤ 400000 * i) G 0 0 ⟨by decide, by decide⟩ (fun i s h1 h2 hI => by
    have hG := hW.2.1
    have hiG : i < G := by omega
    have ha := hV.2.2.2.1 i hiG
    have hh := hV.2.2.2.2.1
    have hp := pcS_rng hW (hgt v i) NL (Nat.le_refl _)
    obtain ⟨e1, -, e3, e4⟩ := old64 (v (36 + i)) n (pcj w v NL i) ha.2.2.1 (by omega) n0 (by omega) hp.1 hp.2
    have em : (n * pcj w v NL i).toInt = n.toInt * (pcj w v NL i).toInt := fb_mulI (by omega) (by omega)
    have e5 : n.toInt * (pcj w v NL i).toInt ≤ 30000 := by
      have := Int.mul_le_mul n1 hp.2 (by omega) (by omega)
      exact this
    have ho := oldS_rng (n := n * pcj w v NL i) ha.1 (by rw [em]; exact e3) ha.2.1 (by rw [em]; exact e4)
    have hk := skS_rng (t := w (30 + i)) (k := v (36 + i) + n * pcj w v NL i) (a := oldS (v (28 + i)) (n * pcj w v NL i)) (by rw [e1]; omega) (by rw [e1]; omega) ho.1 ho.2
    show 0 ≤ (if up v i then _ else s).toInt ∧ _
    split
    · rw [fb_addI (by omega) (by omega)]
      omega
    · omega)
  exact key.1
section OPS
variable {X : (Nat → Int32) × Nat} {g : xG} {h : xH} {sw : Bool} {NL G : Nat} {w v : Nat → Int32} {Q : Option Value → xG → xH → Prop}
theorem o_best (hN : Nw sw h NL G w v) (z : Int32) : Both (fun Q => EV X mX5_best 0 0 0 [.ref 0, .int z, .null, .null, .null, .null] [] (Gb sw) h Q) (fun Q => EV X mX6_best 0 0 0 [.ref 140, .int z, .null, .null, .null, .null] [] (Gb sw) h Q) sw h := by
  obtain ⟨hW, hV, hC, hM, hs, hm⟩ := hN
  have mstep : ∀ (i : Nat) (H B : Int32) (b : Value) (Q : Option Value → xG → xH → Prop), i ≤ 500 → EV X mX6_best 0 0 20 [.ref 140, .int z, .int H, .int B, .int (nI i), b] [] (Gb sw) h Q = if B < bdS w v NL G (nI i) then EV X mX6_best 0 0 20 [.ref 140, .int z, .int (nI i), .int (bdS w v NL G (nI i)), .int (nI (i + 1)), .int (bdS w v NL G (nI i))] [] (Gb sw) h Q else EV X mX6_best 0 0 20 [.ref 140, .int z, .int H, .int B, .int (nI (i + 1)), .int (bdS w v NL G (nI i))] [] (Gb sw) h Q := by
    intro i H B b Q hi
    rw [eX6_best_20]
    simp only [eX6_best_0, eX6_best_1, eX6_best_2, eX6_best_3, eX6_best_4, eX6_best_7, eX6_best_10, eX6_best_12, eX6_best_13, eX6_best_14, eX6_best_15, eX6_best_16, eX6_best_17, eX6_best_18, eX6_best_22, eX6_best_25, eX6_best_28, eX6_best_29, eX6_best_31, eX6_best_34, eX6_best_36, eX6_best_38, eX6_best_39, eX6_best_42, eX6_best_44, eX6_best_47, eX6_best_48, eX6_best_49, eX6_best_51, eX6_best_52, eX6_best_55, eX6_best_57, eX6_best_60, eX6_best_61, eX6_best_62, eX6_best_65, eX6_best_68, eX6_best_69, eX6_best_72, eX6_best_73, eX6_best_76, eX6_best_77, Option.toList_some, Option.toList_none, List.cons_append, List.nil_append, is01_0, is01_1, true_and, nI_1, m_band hm hW hV hM (nI i) (nIr (by omega)) (by rw [nI_toInt (by omega)]; omega)]
    rw [if_neg (show ¬ (500 : Int32) < nI i from nI_nlt (a := 500) (by omega) (by omega))]
    by_cases q : B < bdS w v NL G (nI i)
    · have q2 : ¬ bdS w v NL G (nI i) ≤ B := by rw [Int32.not_le]; exact q
      simp only [q, q2, if_true, if_false]
    · have q2 : bdS w v NL G (nI i) ≤ B := by rw [← Int32.not_lt]; exact q
      simp only [q, q2, if_true, if_false]
  have key : ∀ (m i : Nat) (B H : Int32) (a b : Value), i + m = 501 → Both (fun Q => EV X mX5_best 0 0 23 [.ref 0, .int z, .int B, .int H, .int (nI i), a] [] (Gb sw) h Q) (fun Q => EV X mX6_best 0 0 20 [.ref 140, .int z, .int H, .int B, .int (nI i), b] [] (Gb sw) h Q) sw h := by
    intro m
    induction m with
    | zero =>
      intro i B H a b hi
      have hlt : (500 : Int32) < nI i := nI_lt (a := 500) (by omega) (by omega)
      refine ⟨if z = 0 then H else B, fun Q => ?_, fun Q => ?_⟩
      · show EV X mX5_best 0 0 23 _ _ _ _ _ = _
        rw [eX5_best_23]
        simp only [eX5_best_0, eX5_best_1, eX5_best_2, eX5_best_3, eX5_best_6, eX5_best_9, eX5_best_11, eX5_best_12, eX5_best_13, eX5_best_14, eX5_best_17, eX5_best_18, eX5_best_19, eX5_best_20, eX5_best_21, eX5_best_25, eX5_best_28, eX5_best_31, eX5_best_32, eX5_best_34, eX5_best_37, eX5_best_39, eX5_best_41, eX5_best_42, eX5_best_45, eX5_best_47, eX5_best_48, eX5_best_50, eX5_best_51, eX5_best_54, eX5_best_57, eX5_best_58, eX5_best_61, eX5_best_62, eX5_best_65, eX5_best_66, Option.toList_some, Option.toList_none, List.cons_append, List.nil_append, is01_0, is01_1, true_and]
        rw [if_pos hlt]
        by_cases q : z = 0 <;> simp [q]
      · show EV X mX6_best 0 0 20 _ _ _ _ _ = _
        rw [eX6_best_20]
        simp only [eX6_best_0, eX6_best_1, eX6_best_2, eX6_best_3, eX6_best_4, eX6_best_7, eX6_best_10, eX6_best_12, eX6_best_13, eX6_best_14, eX6_best_15, eX6_best_16, eX6_best_17, eX6_best_18, eX6_best_22, eX6_best_25, eX6_best_28, eX6_best_29, eX6_best_31, eX6_best_34, eX6_best_36, eX6_best_38, eX6_best_39, eX6_best_42, eX6_best_44, eX6_best_47, eX6_best_48, eX6_best_49, eX6_best_51, eX6_best_52, eX6_best_55, eX6_best_57, eX6_best_60, eX6_best_61, eX6_best_62, eX6_best_65, eX6_best_68, eX6_best_69, eX6_best_72, eX6_best_73, eX6_best_76, eX6_best_77, Option.toList_some, Option.toList_none, List.cons_append, List.nil_append, is01_0, is01_1, true_and]
        rw [if_pos hlt]
        by_cases q : z = 0 <;> simp [q]
    | succ m ih =>
      intro i B H a b hi
      have hlt : ¬ (500 : Int32) < nI i := nI_nlt (a := 500) (by omega) (by omega)
      by_cases q : B < bdS w v NL G (nI i)
      · have q2 : ¬ bdS w v NL G (nI i) ≤ B := by rw [Int32.not_le]; exact q
        obtain ⟨r, h1, h2⟩ := ih (i + 1) (bdS w v NL G (nI i)) (nI i) (.int (bdS w v NL G (nI i))) (.int (bdS w v NL G (nI i))) (by omega)
        refine ⟨r, fun Q => ?_, fun Q => ?_⟩
        · rw [← h1 Q]
          show EV X mX5_best 0 0 23 _ _ _ _ _ = _
          rw [eX5_best_23]
          simp only [eX5_best_0, eX5_best_1, eX5_best_2, eX5_best_3, eX5_best_6, eX5_best_9, eX5_best_11, eX5_best_12, eX5_best_13, eX5_best_14, eX5_best_17, eX5_best_18, eX5_best_19, eX5_best_20, eX5_best_21, eX5_best_25, eX5_best_28, eX5_best_31, eX5_best_32, eX5_best_34, eX5_best_37, eX5_best_39, eX5_best_41, eX5_best_42, eX5_best_45, eX5_best_47, eX5_best_48, eX5_best_50, eX5_best_51, eX5_best_54, eX5_best_57, eX5_best_58, eX5_best_61, eX5_best_62, eX5_best_65, eX5_best_66, Option.toList_some, Option.toList_none, List.cons_append, List.nil_append, is01_0, is01_1, true_and, nI_1, c_band hs hW hC]
          rw [if_neg hlt, if_neg q2]
        · rw [← h2 Q]
          show EV X mX6_best 0 0 20 _ _ _ _ _ = _
          rw [mstep i H B b Q (by omega), if_pos q]
      · have q2 : bdS w v NL G (nI i) ≤ B := by rw [← Int32.not_lt]; exact q
        obtain ⟨r, h1, h2⟩ := ih (i + 1) B H (.int (bdS w v NL G (nI i))) (.int (bdS w v NL G (nI i))) (by omega)
        refine ⟨r, fun Q => ?_, fun Q => ?_⟩
        · rw [← h1 Q]
          show EV X mX5_best 0 0 23 _ _ _ _ _ = _
          rw [eX5_best_23]
          simp only [eX5_best_0, eX5_best_1, eX5_best_2, eX5_best_3, eX5_best_6, eX5_best_9, eX5_best_11, eX5_best_12, eX5_best_13, eX5_best_14, eX5_best_17, eX5_best_18, eX5_best_19, eX5_best_20, eX5_best_21, eX5_best_25, eX5_best_28, eX5_best_31, eX5_best_32, eX5_best_34, eX5_best_37, eX5_best_39, eX5_best_41, eX5_best_42, eX5_best_45, eX5_best_47, eX5_best_48, eX5_best_50, eX5_best_51, eX5_best_54, eX5_best_57, eX5_best_58, eX5_best_61, eX5_best_62, eX5_best_65, eX5_best_66, Option.toList_some, Option.toList_none, List.cons_append, List.nil_append, is01_0, is01_1, true_and, nI_1, c_band hs hW hC]
          rw [if_neg hlt, if_pos q2]
        · rw [← h2 Q]
          show EV X mX6_best 0 0 20 _ _ _ _ _ = _
          rw [mstep i H B b Q (by omega), if_neg q]
  have hb0 : (-1 : Int32) < bdS w v NL G (nI 0) := by
    rw [fa_lt]
    have := bdS_rng hW hV (n := nI 0) (by decide) (by decide)
    have e : (-1 : Int32).toInt = -1 := rfl
    omega
  unfold Both
  simp only [eX5_best_0, eX5_best_1, eX5_best_2, eX5_best_3, eX5_best_6, eX5_best_9, eX5_best_11, eX5_best_12, eX5_best_13, eX5_best_14, eX5_best_17, eX5_best_18, eX5_best_19, eX5_best_20, eX5_best_21, eX5_best_25, eX5_best_28, eX5_best_31, eX5_best_32, eX5_best_34, eX5_best_37, eX5_best_39, eX5_best_41, eX5_best_42, eX5_best_45, eX5_best_47, eX5_best_48, eX5_best_50, eX5_best_51, eX5_best_54, eX5_best_57, eX5_best_58, eX5_best_61, eX5_best_62, eX5_best_65, eX5_best_66, eX6_best_0, eX6_best_1, eX6_best_2, eX6_best_3, eX6_best_4, eX6_best_7, eX6_best_10, eX6_best_12, eX6_best_13, eX6_best_14, eX6_best_15, eX6_best_16, eX6_best_17, eX6_best_18, eX6_best_22, eX6_best_25, eX6_best_28, eX6_best_29, eX6_best_31, eX6_best_34, eX6_best_36, eX6_best_38, eX6_best_39, eX6_best_42, eX6_best_44, eX6_best_47, eX6_best_48, eX6_best_49, eX6_best_51, eX6_best_52, eX6_best_55, eX6_best_57, eX6_best_60, eX6_best_61, eX6_best_62, eX6_best_65, eX6_best_68, eX6_best_69, eX6_best_72, eX6_best_73, eX6_best_76, eX6_best_77, Option.toList_some, Option.toList_none, List.cons_append, List.nil_append, is01_0, is01_1, true_and, r_isOutside, r_in, b01_0, out_in, wl_0, wr_0, wl_1, wr_1, wl_2, wr_2, wl_3, wr_3, wl_20, wr_20, wl_48, wr_48, wl_57, wr_57, wl_60, wr_60, wl_100, wr_100, wl_255, wr_255, wl_500, wr_500, wl_900, wr_900, wl_999, wr_999, wl_12345, wr_12345, wl_999999, wr_999999, wl_99999999, wr_99999999, wl_1000000000, wr_1000000000, wl_1103515245, wr_1103515245, c_band hs hW hC]
  by_cases c1 : 0 ≤ z ∧ z ≤ 1
  · simp only [c1, not_true, if_true, if_false, and_self]
    obtain ⟨r, h1, h2⟩ := key 500 1 (bdS w v NL G 0) 0 .null (.int (bdS w v NL G (nI 0))) (by omega)
    refine ⟨r, h1, fun Q => ?_⟩
    have e := mstep 0 0 (-1) .null Q (by omega)
    rw [if_pos hb0] at e
    exact e.trans (h2 Q)
  · simp only [c1, not_true, not_false_iff, if_true, if_false]
    first | exact ⟨_, fun _ => rfl, fun _ => rfl⟩ | exact ⟨_, fun _ => rfl⟩
theorem o_bestPrice (hN : Nw sw h NL G w v) (d z : Int32) : Both (fun Q => EV X mX5_bestPrice 0 0 0 [.ref 0, .int d, .int z, .null, .null, .null, .null, .null] [] (Gb sw) h Q) (fun Q => EV X mX6_bestPrice 0 0 0 [.ref 140, .int d, .int z, .null, .null, .null, .null, .null] [] (Gb sw) h Q) sw h := by
  obtain ⟨hW, hV, hC, hM, hs, hm⟩ := hN
  obtain ⟨⟨n, hn8, hn, -⟩, -⟩ := hV
  have mstep : ∀ {D : Nat}, d = nI D → 1 ≤ D → D ≤ 20 → ∀ (i : Nat) (A B : Int32) (a b : Value) (Q : Option Value → xG → xH → Prop), 1 ≤ i → i ≤ 99 → EV X mX6_bestPrice 0 0 33 [.ref 140, .int d, .int z, .int A, .int B, .int (nI i), a, b] [] (Gb sw) h Q = if B < nI (i * (n - (i - 12) / D)) then EV X mX6_bestPrice 0 0 33 [.ref 140, .int d, .int z, .int (nI i), .int (nI (i * (n - (i - 12) / D))), .int (nI (i + 1)), .int (nI ((i - 12) / D)), .int (nI (i * (n - (i - 12) / D)))] [] (Gb sw) h Q else EV X mX6_bestPrice 0 0 33 [.ref 140, .int d, .int z, .int A, .int B, .int (nI (i + 1)), .int (nI ((i - 12) / D)), .int (nI (i * (n - (i - 12) / D)))] [] (Gb sw) h Q := by
    intro D hd hD1 hD2 i A B a b Q hi1 hi2
    have hd0 : ¬ d = 0 := by
      rw [hd]
      exact nI_ne0 (by omega) (by omega)
    rw [eX6_bestPrice_33]
    simp only [eX6_bestPrice_0, eX6_bestPrice_1, eX6_bestPrice_2, eX6_bestPrice_3, eX6_bestPrice_6, eX6_bestPrice_9, eX6_bestPrice_12, eX6_bestPrice_13, eX6_bestPrice_14, eX6_bestPrice_15, eX6_bestPrice_16, eX6_bestPrice_19, eX6_bestPrice_22, eX6_bestPrice_24, eX6_bestPrice_25, eX6_bestPrice_26, eX6_bestPrice_27, eX6_bestPrice_28, eX6_bestPrice_30, eX6_bestPrice_31, eX6_bestPrice_35, eX6_bestPrice_37, eX6_bestPrice_40, eX6_bestPrice_42, eX6_bestPrice_44, eX6_bestPrice_47, eX6_bestPrice_49, eX6_bestPrice_51, eX6_bestPrice_52, eX6_bestPrice_53, eX6_bestPrice_54, eX6_bestPrice_57, eX6_bestPrice_58, eX6_bestPrice_60, eX6_bestPrice_62, eX6_bestPrice_63, eX6_bestPrice_66, eX6_bestPrice_67, eX6_bestPrice_68, eX6_bestPrice_71, eX6_bestPrice_73, eX6_bestPrice_74, eX6_bestPrice_77, eX6_bestPrice_78, eX6_bestPrice_79, eX6_bestPrice_81, eX6_bestPrice_82, eX6_bestPrice_83, eX6_bestPrice_86, eX6_bestPrice_87, eX6_bestPrice_89, eX6_bestPrice_91, eX6_bestPrice_93, eX6_bestPrice_96, eX6_bestPrice_98, eX6_bestPrice_101, eX6_bestPrice_102, eX6_bestPrice_103, eX6_bestPrice_105, eX6_bestPrice_107, eX6_bestPrice_110, eX6_bestPrice_112, eX6_bestPrice_115, eX6_bestPrice_117, eX6_bestPrice_119, eX6_bestPrice_122, eX6_bestPrice_125, eX6_bestPrice_126, eX6_bestPrice_129, eX6_bestPrice_130, eX6_bestPrice_133, eX6_bestPrice_135, Option.toList_some, Option.toList_none, List.cons_append, List.nil_append, is01_0, is01_1, true_and, nI_1, tc3, ib3, hm.f, hn, hd0, not_false_iff]
    rw [if_neg (show ¬ (100 : Int32) ≤ nI i from nI_ge (b := 100) (by omega) (by omega))]
    have e12 : (nI i ≤ (12 : Int32)) = (i ≤ 12) := le_nI (b := 12) (by omega) (by omega)
    have eaw : ¬ i ≤ 12 → (nI i - 12) / d = nI ((i - 12) / D) := by
      intro q
      have : nI i - (12 : Int32) = nI (i - 12) := pk_sub (b := 12) (by omega)
      rw [this, hd, pk_div (by omega) (by omega) (by omega)]
    have hle : (i - 12) / D ≤ i - 12 := Nat.div_le_self _ _
    have ev : ¬ n ≤ (i - 12) / D → nI i * (nI n - nI ((i - 12) / D)) = nI (i * (n - (i - 12) / D)) := by
      intro q
      rw [pk_sub (by omega), pk_mul]
    have ez : n ≤ (i - 12) / D → nI (i * (n - (i - 12) / D)) = 0 := by
      intro q
      rw [show n - (i - 12) / D = 0 by omega, Nat.mul_zero]
      rfl
    have lele : (nI n ≤ nI ((i - 12) / D)) = (n ≤ (i - 12) / D) := le_nI (by omega) (by omega)
    have fin : ∀ (c : Int32) (p q : Value), (if c ≤ B then (if c ≤ B then EV X mX6_bestPrice 0 0 33 [.ref 140, .int d, .int z, .int A, .int B, .int (nI (i + 1)), p, q] [] (Gb sw) h Q else EV X mX6_bestPrice 0 0 33 [.ref 140, .int d, .int z, .int A, .int c, .int (nI (i + 1)), p, q] [] (Gb sw) h Q) else (if c ≤ B then EV X mX6_bestPrice 0 0 33 [.ref 140, .int d, .int z, .int (nI i), .int B, .int (nI (i + 1)), p, q] [] (Gb sw) h Q else EV X mX6_bestPrice 0 0 33 [.ref 140, .int d, .int z, .int (nI i), .int c, .int (nI (i + 1)), p, q] [] (Gb sw) h Q)) = if B < c then EV X mX6_bestPrice 0 0 33 [.ref 140, .int d, .int z, .int (nI i), .int c, .int (nI (i + 1)), p, q] [] (Gb sw) h Q else EV X mX6_bestPrice 0 0 33 [.ref 140, .int d, .int z, .int A, .int B, .int (nI (i + 1)), p, q] [] (Gb sw) h Q := by
      intro c p q
      by_cases z1 : B < c
      · have z2 : ¬ c ≤ B := by rw [Int32.not_le]; exact z1
        rw [if_neg z2, if_neg z2, if_pos z1]
      · have z2 : c ≤ B := by rw [← Int32.not_lt]; exact z1
        rw [if_pos z2, if_pos z2, if_neg z1]
    by_cases q : i ≤ 12
    · have q0 : (i - 12) / D = 0 := by rw [show i - 12 = 0 by omega, Nat.zero_div]
      simp only [e12, q, if_true]
      rw [q0] at ev ez lele ⊢
      by_cases q2 : n ≤ 0
      · have l2 : nI n ≤ (0 : Int32) := by show nI n ≤ nI 0; rw [lele]; exact q2
        rw [if_pos l2, ez q2]
        exact fin _ _ _
      · have l2 : ¬ nI n ≤ (0 : Int32) := by show ¬ nI n ≤ nI 0; rw [lele]; exact q2
        rw [if_neg l2]
        rw [← ev q2]
        exact fin _ _ _
    · simp only [e12, q, if_false, eaw q, lele]
      by_cases q2 : n ≤ (i - 12) / D
      · rw [if_pos q2, ez q2]
        exact fin _ _ _
      · rw [if_neg q2, ev q2]
        exact fin _ _ _
  have cstep : ∀ {D : Nat}, d = nI D → 1 ≤ D → D ≤ 20 → ∀ (i : Nat) (A B : Int32) (a b : Value) (Q : Option Value → xG → xH → Prop), 2 ≤ i → i ≤ 99 → EV X mX5_bestPrice 0 0 36 [.ref 0, .int d, .int z, .int A, .int B, .int (nI i), a, b] [] (Gb sw) h Q = if B < nI (i * (n - (i - 12) / D)) then EV X mX5_bestPrice 0 0 36 [.ref 0, .int d, .int z, .int (nI i), .int (nI (i * (n - (i - 12) / D))), .int (nI (i + 1)), .int (nI ((i - 12) / D)), .int (nI (i * (n - (i - 12) / D)))] [] (Gb sw) h Q else EV X mX5_bestPrice 0 0 36 [.ref 0, .int d, .int z, .int A, .int B, .int (nI (i + 1)), .int (nI ((i - 12) / D)), .int (nI (i * (n - (i - 12) / D)))] [] (Gb sw) h Q := by
    intro D hd hD1 hD2 i A B a b Q hi1 hi2
    have hd0 : ¬ d = 0 := by
      rw [hd]
      exact nI_ne0 (by omega) (by omega)
    have hle : (i - 12) / D ≤ i - 12 := Nat.div_le_self _ _
    have e1 : (if (0 : Int32) < nI i - 12 then nI i - 12 else 0) / d = nI ((i - 12) / D) := by
      by_cases q : i ≤ 12
      · have q0 : (i - 12) / D = 0 := by rw [show i - 12 = 0 by omega, Nat.zero_div]
        have : ¬ (0 : Int32) < nI i - 12 := by
          rw [fa_lt]
          have : (nI i - nI 12).toInt = (i : Int) - 12 := pk_sub_toInt (by omega) (by omega)
          have e0 : (0 : Int32).toInt = 0 := rfl
          show ¬ _ < (nI i - nI 12).toInt
          omega
        rw [if_neg this, q0, hd]
        exact (pk_div (a := 0) (by omega) (by omega) (by omega)).trans (by rw [Nat.zero_div])
      · have e2 : nI i - (12 : Int32) = nI (i - 12) := pk_sub (b := 12) (by omega)
        rw [e2, if_pos (show (0 : Int32) < nI (i - 12) from nI_lt (a := 0) (by omega) (by omega)), hd, pk_div (by omega) (by omega) (by omega)]
    have hnn : n - (i - 12) / D ≤ 8 := Nat.le_trans (Nat.sub_le _ _) hn8
    have e3 : nI i * (if (0 : Int32) < nI n - nI ((i - 12) / D) then nI n - nI ((i - 12) / D) else 0) = nI (i * (n - (i - 12) / D)) := by
      by_cases q : n ≤ (i - 12) / D
      · have : ¬ (0 : Int32) < nI n - nI ((i - 12) / D) := by
          rw [fa_lt, pk_sub_toInt (by omega) (by omega)]
          have e0 : (0 : Int32).toInt = 0 := rfl
          omega
        rw [if_neg this, show n - (i - 12) / D = 0 by omega, Nat.mul_zero]
        exact Int32.mul_zero
      · rw [pk_sub (by omega), if_pos (show (0 : Int32) < nI (n - (i - 12) / D) from nI_lt (a := 0) (by omega) (by omega)), pk_mul]
    rw [eX5_bestPrice_36]
    simp only [eX5_bestPrice_0, eX5_bestPrice_1, eX5_bestPrice_2, eX5_bestPrice_4, eX5_bestPrice_7, eX5_bestPrice_10, eX5_bestPrice_11, eX5_bestPrice_12, eX5_bestPrice_13, eX5_bestPrice_16, eX5_bestPrice_19, eX5_bestPrice_21, eX5_bestPrice_22, eX5_bestPrice_23, eX5_bestPrice_24, eX5_bestPrice_25, eX5_bestPrice_28, eX5_bestPrice_31, eX5_bestPrice_33, eX5_bestPrice_34, eX5_bestPrice_38, eX5_bestPrice_40, eX5_bestPrice_43, eX5_bestPrice_44, eX5_bestPrice_46, eX5_bestPrice_48, eX5_bestPrice_49, eX5_bestPrice_52, eX5_bestPrice_53, eX5_bestPrice_54, eX5_bestPrice_56, eX5_bestPrice_58, eX5_bestPrice_59, eX5_bestPrice_60, eX5_bestPrice_63, eX5_bestPrice_66, eX5_bestPrice_68, eX5_bestPrice_69, eX5_bestPrice_72, eX5_bestPrice_73, eX5_bestPrice_75, eX5_bestPrice_77, eX5_bestPrice_79, eX5_bestPrice_82, eX5_bestPrice_84, eX5_bestPrice_86, eX5_bestPrice_88, eX5_bestPrice_89, eX5_bestPrice_92, eX5_bestPrice_95, eX5_bestPrice_96, eX5_bestPrice_99, eX5_bestPrice_100, eX5_bestPrice_103, eX5_bestPrice_105, Option.toList_some, Option.toList_none, List.cons_append, List.nil_append, is01_0, is01_1, true_and, nI_1, hs.1, hn, hd0, not_false_iff, e1, e3]
    rw [if_neg (show ¬ (99 : Int32) < nI i from nI_nlt (a := 99) (by omega) (by omega))]
    by_cases z1 : B < nI (i * (n - (i - 12) / D))
    · have z2 : ¬ nI (i * (n - (i - 12) / D)) ≤ B := by rw [Int32.not_le]; exact z1
      rw [if_neg z2, if_pos z1]
    · have z2 : nI (i * (n - (i - 12) / D)) ≤ B := by rw [← Int32.not_lt]; exact z1
      rw [if_pos z2, if_neg z1]
  have key : ∀ {D : Nat}, d = nI D → 1 ≤ D → D ≤ 20 → ∀ (m i : Nat) (A B : Int32) (a b a' b' : Value), 2 ≤ i → i + m = 100 → Both (fun Q => EV X mX5_bestPrice 0 0 36 [.ref 0, .int d, .int z, .int A, .int B, .int (nI i), a, b] [] (Gb sw) h Q) (fun Q => EV X mX6_bestPrice 0 0 33 [.ref 140, .int d, .int z, .int A, .int B, .int (nI i), a', b'] [] (Gb sw) h Q) sw h := by
    intro D hd hD1 hD2 m
    induction m with
    | zero =>
      intro i A B a b a' b' hi1 hi
      refine ⟨if z = 0 then A else B, fun Q => ?_, fun Q => ?_⟩
      · show EV X mX5_bestPrice 0 0 36 _ _ _ _ _ = _
        rw [eX5_bestPrice_36]
        simp only [eX5_bestPrice_0, eX5_bestPrice_1, eX5_bestPrice_2, eX5_bestPrice_4, eX5_bestPrice_7, eX5_bestPrice_10, eX5_bestPrice_11, eX5_bestPrice_12, eX5_bestPrice_13, eX5_bestPrice_16, eX5_bestPrice_19, eX5_bestPrice_21, eX5_bestPrice_22, eX5_bestPrice_23, eX5_bestPrice_24, eX5_bestPrice_25, eX5_bestPrice_28, eX5_bestPrice_31, eX5_bestPrice_33, eX5_bestPrice_34, eX5_bestPrice_38, eX5_bestPrice_40, eX5_bestPrice_43, eX5_bestPrice_44, eX5_bestPrice_46, eX5_bestPrice_48, eX5_bestPrice_49, eX5_bestPrice_52, eX5_bestPrice_53, eX5_bestPrice_54, eX5_bestPrice_56, eX5_bestPrice_58, eX5_bestPrice_59, eX5_bestPrice_60, eX5_bestPrice_63, eX5_bestPrice_66, eX5_bestPrice_68, eX5_bestPrice_69, eX5_bestPrice_72, eX5_bestPrice_73, eX5_bestPrice_75, eX5_bestPrice_77, eX5_bestPrice_79, eX5_bestPrice_82, eX5_bestPrice_84, eX5_bestPrice_86, eX5_bestPrice_88, eX5_bestPrice_89, eX5_bestPrice_92, eX5_bestPrice_95, eX5_bestPrice_96, eX5_bestPrice_99, eX5_bestPrice_100, eX5_bestPrice_103, eX5_bestPrice_105, Option.toList_some, Option.toList_none, List.cons_append, List.nil_append, is01_0, is01_1, true_and]
        rw [if_pos (show (99 : Int32) < nI i from nI_lt (a := 99) (by omega) (by omega))]
        by_cases q : z = 0 <;> simp [q]
      · show EV X mX6_bestPrice 0 0 33 _ _ _ _ _ = _
        rw [eX6_bestPrice_33]
        simp only [eX6_bestPrice_0, eX6_bestPrice_1, eX6_bestPrice_2, eX6_bestPrice_3, eX6_bestPrice_6, eX6_bestPrice_9, eX6_bestPrice_12, eX6_bestPrice_13, eX6_bestPrice_14, eX6_bestPrice_15, eX6_bestPrice_16, eX6_bestPrice_19, eX6_bestPrice_22, eX6_bestPrice_24, eX6_bestPrice_25, eX6_bestPrice_26, eX6_bestPrice_27, eX6_bestPrice_28, eX6_bestPrice_30, eX6_bestPrice_31, eX6_bestPrice_35, eX6_bestPrice_37, eX6_bestPrice_40, eX6_bestPrice_42, eX6_bestPrice_44, eX6_bestPrice_47, eX6_bestPrice_49, eX6_bestPrice_51, eX6_bestPrice_52, eX6_bestPrice_53, eX6_bestPrice_54, eX6_bestPrice_57, eX6_bestPrice_58, eX6_bestPrice_60, eX6_bestPrice_62, eX6_bestPrice_63, eX6_bestPrice_66, eX6_bestPrice_67, eX6_bestPrice_68, eX6_bestPrice_71, eX6_bestPrice_73, eX6_bestPrice_74, eX6_bestPrice_77, eX6_bestPrice_78, eX6_bestPrice_79, eX6_bestPrice_81, eX6_bestPrice_82, eX6_bestPrice_83, eX6_bestPrice_86, eX6_bestPrice_87, eX6_bestPrice_89, eX6_bestPrice_91, eX6_bestPrice_93, eX6_bestPrice_96, eX6_bestPrice_98, eX6_bestPrice_101, eX6_bestPrice_102, eX6_bestPrice_103, eX6_bestPrice_105, eX6_bestPrice_107, eX6_bestPrice_110, eX6_bestPrice_112, eX6_bestPrice_115, eX6_bestPrice_117, eX6_bestPrice_119, eX6_bestPrice_122, eX6_bestPrice_125, eX6_bestPrice_126, eX6_bestPrice_129, eX6_bestPrice_130, eX6_bestPrice_133, eX6_bestPrice_135, Option.toList_some, Option.toList_none, List.cons_append, List.nil_append, is01_0, is01_1, true_and]
        rw [if_pos (show (100 : Int32) ≤ nI i from nI_le (a := 100) (by omega) (by omega))]
        by_cases q : z = 0 <;> simp [q]
    | succ m ih =>
      intro i A B a b a' b' hi1 hi
      by_cases q : B < nI (i * (n - (i - 12) / D))
      · obtain ⟨r, h1, h2⟩ := ih (i + 1) (nI i) (nI (i * (n - (i - 12) / D))) (.int (nI ((i - 12) / D))) (.int (nI (i * (n - (i - 12) / D)))) (.int (nI ((i - 12) / D))) (.int (nI (i * (n - (i - 12) / D)))) (by omega) (by omega)
        refine ⟨r, fun Q => ?_, fun Q => ?_⟩
        · show EV X mX5_bestPrice 0 0 36 _ _ _ _ _ = _
          rw [cstep hd hD1 hD2 i A B a b Q hi1 (by omega), if_pos q]
          exact h1 Q
        · show EV X mX6_bestPrice 0 0 33 _ _ _ _ _ = _
          rw [mstep hd hD1 hD2 i A B a' b' Q (by omega) (by omega), if_pos q]
          exact h2 Q
      · obtain ⟨r, h1, h2⟩ := ih (i + 1) A B (.int (nI ((i - 12) / D))) (.int (nI (i * (n - (i - 12) / D)))) (.int (nI ((i - 12) / D))) (.int (nI (i * (n - (i - 12) / D)))) (by omega) (by omega)
        refine ⟨r, fun Q => ?_, fun Q => ?_⟩
        · show EV X mX5_bestPrice 0 0 36 _ _ _ _ _ = _
          rw [cstep hd hD1 hD2 i A B a b Q hi1 (by omega), if_neg q]
          exact h1 Q
        · show EV X mX6_bestPrice 0 0 33 _ _ _ _ _ = _
          rw [mstep hd hD1 hD2 i A B a' b' Q (by omega) (by omega), if_neg q]
          exact h2 Q
  unfold Both
  simp only [eX5_bestPrice_0, eX5_bestPrice_1, eX5_bestPrice_2, eX5_bestPrice_4, eX5_bestPrice_7, eX5_bestPrice_10, eX5_bestPrice_11, eX5_bestPrice_12, eX5_bestPrice_13, eX5_bestPrice_16, eX5_bestPrice_19, eX5_bestPrice_21, eX5_bestPrice_22, eX5_bestPrice_23, eX5_bestPrice_24, eX5_bestPrice_25, eX5_bestPrice_28, eX5_bestPrice_31, eX5_bestPrice_33, eX5_bestPrice_34, eX5_bestPrice_38, eX5_bestPrice_40, eX5_bestPrice_43, eX5_bestPrice_44, eX5_bestPrice_46, eX5_bestPrice_48, eX5_bestPrice_49, eX5_bestPrice_52, eX5_bestPrice_53, eX5_bestPrice_54, eX5_bestPrice_56, eX5_bestPrice_58, eX5_bestPrice_59, eX5_bestPrice_60, eX5_bestPrice_63, eX5_bestPrice_66, eX5_bestPrice_68, eX5_bestPrice_69, eX5_bestPrice_72, eX5_bestPrice_73, eX5_bestPrice_75, eX5_bestPrice_77, eX5_bestPrice_79, eX5_bestPrice_82, eX5_bestPrice_84, eX5_bestPrice_86, eX5_bestPrice_88, eX5_bestPrice_89, eX5_bestPrice_92, eX5_bestPrice_95, eX5_bestPrice_96, eX5_bestPrice_99, eX5_bestPrice_100, eX5_bestPrice_103, eX5_bestPrice_105, eX6_bestPrice_0, eX6_bestPrice_1, eX6_bestPrice_2, eX6_bestPrice_3, eX6_bestPrice_6, eX6_bestPrice_9, eX6_bestPrice_12, eX6_bestPrice_13, eX6_bestPrice_14, eX6_bestPrice_15, eX6_bestPrice_16, eX6_bestPrice_19, eX6_bestPrice_22, eX6_bestPrice_24, eX6_bestPrice_25, eX6_bestPrice_26, eX6_bestPrice_27, eX6_bestPrice_28, eX6_bestPrice_30, eX6_bestPrice_31, eX6_bestPrice_35, eX6_bestPrice_37, eX6_bestPrice_40, eX6_bestPrice_42, eX6_bestPrice_44, eX6_bestPrice_47, eX6_bestPrice_49, eX6_bestPrice_51, eX6_bestPrice_52, eX6_bestPrice_53, eX6_bestPrice_54, eX6_bestPrice_57, eX6_bestPrice_58, eX6_bestPrice_60, eX6_bestPrice_62, eX6_bestPrice_63, eX6_bestPrice_66, eX6_bestPrice_67, eX6_bestPrice_68, eX6_bestPrice_71, eX6_bestPrice_73, eX6_bestPrice_74, eX6_bestPrice_77, eX6_bestPrice_78, eX6_bestPrice_79, eX6_bestPrice_81, eX6_bestPrice_82, eX6_bestPrice_83, eX6_bestPrice_86, eX6_bestPrice_87, eX6_bestPrice_89, eX6_bestPrice_91, eX6_bestPrice_93, eX6_bestPrice_96, eX6_bestPrice_98, eX6_bestPrice_101, eX6_bestPrice_102, eX6_bestPrice_103, eX6_bestPrice_105, eX6_bestPrice_107, eX6_bestPrice_110, eX6_bestPrice_112, eX6_bestPrice_115, eX6_bestPrice_117, eX6_bestPrice_119, eX6_bestPrice_122, eX6_bestPrice_125, eX6_bestPrice_126, eX6_bestPrice_129, eX6_bestPrice_130, eX6_bestPrice_133, eX6_bestPrice_135, Option.toList_some, Option.toList_none, List.cons_append, List.nil_append, is01_0, is01_1, true_and, r_isOutside, r_in, b01_0, out_in, wl_0, wr_0, wl_1, wr_1, wl_2, wr_2, wl_3, wr_3, wl_20, wr_20, wl_48, wr_48, wl_57, wr_57, wl_60, wr_60, wl_100, wr_100, wl_255, wr_255, wl_500, wr_500, wl_900, wr_900, wl_999, wr_999, wl_12345, wr_12345, wl_999999, wr_999999, wl_99999999, wr_99999999, wl_1000000000, wr_1000000000, wl_1103515245, wr_1103515245, hs.1, hn]
  by_cases c1 : 1 ≤ d ∧ d ≤ 20
  · by_cases c2 : 0 ≤ z ∧ z ≤ 1
    · simp only [c1, c2, not_true, if_true, if_false, and_self]
      obtain ⟨D, hD, hd⟩ := nI_of2 (x := d) (M := 20) (n := 20) rfl (by rw [fa_lt]; have := rg c1 (m := 1) (n := 20) rfl rfl; have e : (0 : Int32).toInt = 0 := rfl; omega) c1.2
      have hD1 : 1 ≤ D := by
        have := c1.1
        rw [hd] at this
        exact (nI_leI (a := 1) (by omega) (by omega)).mp this
      obtain ⟨r, h1, h2⟩ := key hd hD1 hD 98 2 1 (nI n) .null .null (.int (nI ((1 - 12) / D))) (.int (nI (1 * (n - (1 - 12) / D)))) (by omega) (by omega)
      refine ⟨r, h1, fun Q => ?_⟩
      have e := mstep hd hD1 hD 1 (-1) (-1) .null .null Q (by omega) (by omega)
      have hz : (1 - 12) / D = 0 := by rw [show (1 - 12 : Nat) = 0 by omega, Nat.zero_div]
      have hlt : (-1 : Int32) < nI (1 * (n - (1 - 12) / D)) := by
        rw [fa_lt, nI_toInt (by rw [hz]; omega)]
        have e : (-1 : Int32).toInt = -1 := rfl
        omega
      rw [if_pos hlt] at e
      refine e.trans ?_
      have h3 := h2 Q
      have e5 : nI (1 * (n - (1 - 12) / D)) = nI n := by rw [hz, Nat.one_mul, Nat.sub_zero]
      rw [e5] at h3 ⊢
      exact h3
    · simp only [c1, c2, not_true, not_false_iff, if_true, if_false, and_self]
      first | exact ⟨_, fun _ => rfl, fun _ => rfl⟩ | exact ⟨_, fun _ => rfl⟩
  · simp only [c1, not_true, not_false_iff, if_true, if_false]
    first | exact ⟨_, fun _ => rfl, fun _ => rfl⟩ | exact ⟨_, fun _ => rfl⟩
end OPS
