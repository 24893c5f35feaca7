/-! let, best, best price -/
section OPS
variable {X : (Nat → Int32) × Nat} {g : xG} {h : xH} {sw : Bool} {NL G : Nat} {w v : Nat → Int32} {Q : Option Value → xG → xH → Prop}
theorem letC (A n p a : Int32) (h1 : 0 ≤ A.toInt) (h2 : A.toInt ≤ 99999999) (h3 : 0 ≤ n.toInt) (h4 : n.toInt ≤ 500) (h5 : 1 ≤ p.toInt) (h6 : p.toInt ≤ 60) (h7 : 0 ≤ a.toInt) (h8 : a.toInt ≤ 999) : (oldS A (n * p) / 100 = a) = ((A.toInt64 + n.toInt64 * p.toInt64) / 100 = a.toInt64) := by
  obtain ⟨e1, e2, e3, e4⟩ := old64 A n p h1 h2 h3 (by omega) h5 h6
  apply propext
  rw [fa_eq, fa_eq64, Int32.toInt_toInt64, Int32.toInt_div, Int64.toInt_div, e2]
  have c1 : (100 : Int32).toInt = 100 := rfl
  have c2 : (100 : Int64).toInt = 100 := rfl
  have c3 : (99999999 : Int32).toInt = 99999999 := rfl
  rw [c1, c2]
  have hb64 : ((A.toInt + n.toInt * p.toInt).tdiv 100).bmod (2 ^ 64) = (A.toInt + n.toInt * p.toInt).tdiv 100 := by
    rw [Int.tdiv_eq_ediv_of_nonneg (by omega)]
    apply Int.bmod_eq_of_le <;> omega
  rw [hb64]
  have hold : (oldS A (n * p)).toInt = if A.toInt + n.toInt * p.toInt < 99999999 then A.toInt + n.toInt * p.toInt else 99999999 := by
    unfold oldS
    by_cases q : A + n * p < 99999999
    · rw [if_pos q, e1]
      rw [fa_lt, e1, c3] at q
      rw [if_pos q]
    · rw [if_neg q, c3]
      rw [fa_lt, e1, c3] at q
      rw [if_neg q]
  rw [hold]
  have ht : (A.toInt + n.toInt * p.toInt).tdiv 100 = (A.toInt + n.toInt * p.toInt) / 100 := Int.tdiv_eq_ediv_of_nonneg (by omega)
  rw [ht]
  split
  · rw [ht]
    have : ((A.toInt + n.toInt * p.toInt) / 100).bmod (2 ^ 32) = (A.toInt + n.toInt * p.toInt) / 100 := by
      apply Int.bmod_eq_of_le <;> omega
    rw [this]
  · have : ((99999999 : Int).tdiv 100).bmod (2 ^ 32) = 999999 := by decide
    rw [this]
    omega
theorem o_let (hN : Nw sw h NL G w v) (x n a z : Int32) : Both (fun Q => EV X mX5_let 0 0 0 [.ref 0, .int x, .int n, .int a, .int z, .null, .null] [] (Gb sw) h Q) (fun Q => EV X mX6_let 0 0 0 [.ref 140, .int x, .int n, .int a, .int z, .null, .null, .null, .null] [] (Gb sw) h Q) sw h := by
  obtain ⟨hW, hV, hC, hM, hs, hm⟩ := hN
  have hG := hW.2.1
  obtain ⟨E, hE, hw0⟩ := nI_of2 (x := w 0) (M := 900) (n := 900) rfl (by rw [Int32.not_lt]; exact hW.2.2.1.1) hW.2.2.1.2
  have mstep : ∀ {j : Nat}, j < G → 0 ≤ n.toInt → n.toInt ≤ 500 → 0 ≤ a.toInt → a.toInt ≤ 999 → ∀ (i : Nat) (lo hi : Int32) (b : Value) (Q : Option Value → xG → xH → Prop), i ≤ E →
      EV X mX6_let 0 0 58 [.ref 140, .int (nI j), .int n, .int a, .int z, .int lo, .int hi, .int (nI i), b] [] (Gb sw) h Q =
      if oldS (v (28 + j)) (n * pcS w (nI i) NL) / 100 = a then EV X mX6_let 0 0 58 [.ref 140, .int (nI j), .int n, .int a, .int z, .int (if lo < 0 then nI i else lo), .int (nI i), .int (nI (i + 1)), .int 1] [] (Gb sw) h Q
      else EV X mX6_let 0 0 58 [.ref 140, .int (nI j), .int n, .int a, .int z, .int lo, .int hi, .int (nI (i + 1)), .int 0] [] (Gb sw) h Q := by
    intro j hj n0 n1 a0 a1 i lo hi b Q hi
    have hj8 : j < 8 := by omega
    have hag := hV.2.2.2.1 j hj
    have hp := pcS_rng hW (nI i) NL (Nat.le_refl _)
    have eL := letC (v (28 + j)) n (pcS w (nI i) NL) a hag.1 hag.2.1 n0 n1 hp.1 hp.2 a0 a1
    rw [eX6_let_58]
    have n64 : (¬ (100 : Int64) = 0) = True := by decide
    have lgE : ∀ p q : Int64, (lg_cmp p q = 0) = (p = q) := by
      intro p q
      rw [lg_3]
      apply propext
      split
      · rename_i z; rw [fa_lt64] at z; exact ⟨fun q => absurd q (by decide), fun e => by rw [e] at z; omega⟩
      · split
        · rename_i z; exact ⟨fun _ => z, fun _ => rfl⟩
        · rename_i z; exact ⟨fun q => absurd q (by decide), fun e => absurd e z⟩
    simp only [eX6_let_0, eX6_let_1, eX6_let_2, eX6_let_5, eX6_let_8, eX6_let_10, eX6_let_11, eX6_let_12, eX6_let_13, eX6_let_14, eX6_let_17, eX6_let_20, eX6_let_23, eX6_let_24, eX6_let_25, eX6_let_26, eX6_let_29, eX6_let_32, eX6_let_35, eX6_let_37, eX6_let_38, eX6_let_39, eX6_let_40, eX6_let_43, eX6_let_46, eX6_let_48, eX6_let_49, eX6_let_50, eX6_let_52, eX6_let_53, eX6_let_55, eX6_let_56, eX6_let_60, eX6_let_61, eX6_let_64, eX6_let_67, eX6_let_68, eX6_let_71, eX6_let_73, eX6_let_74, eX6_let_75, eX6_let_76, eX6_let_77, eX6_let_78, eX6_let_79, eX6_let_80, eX6_let_82, eX6_let_85, eX6_let_86, eX6_let_87, eX6_let_88, eX6_let_91, eX6_let_92, eX6_let_93, eX6_let_94, eX6_let_95, eX6_let_98, eX6_let_99, eX6_let_102, eX6_let_103, eX6_let_105, eX6_let_107, eX6_let_110, eX6_let_112, eX6_let_115, eX6_let_117, eX6_let_120, eX6_let_122, eX6_let_124, eX6_let_126, eX6_let_129, eX6_let_131, eX6_let_134, eX6_let_136, eX6_let_138, eX6_let_141, eX6_let_144, eX6_let_146, eX6_let_149, eX6_let_151, eX6_let_154, eX6_let_156, Option.toList_some, Option.toList_none, List.cons_append, List.nil_append, is01_0, is01_1, true_and, nI_1, la4, la12, la20, la28, la36, cl8_4 hj8, cl8_12 hj8, cl8_20 hj8, cl8_28 hj8, cl8_36 hj8, ib8_4 hj8, ib8_12 hj8, ib8_20 hj8, ib8_28 hj8, ib8_36 hj8, hm.a j hj, hM.1, hw0, r_speedAt hW.1 hM, n64, lgE, n10, if_false]
    rw [if_neg (nI_nlt (by omega) (by omega))]
    by_cases q0 : oldS (v (28 + j)) (n * pcS w (nI i) NL) / 100 = a
    · have q : ((v (28 + j)).toInt64 + n.toInt64 * (pcS w (nI i) NL).toInt64) / 100 = a.toInt64 := by rw [← eL]; exact q0
      rw [if_pos q, if_pos q0]
      by_cases q2 : lo < 0
      · have q3 : ¬ 0 ≤ lo := by rw [Int32.not_le]; exact q2
        rw [if_neg q3, if_pos q2]
      · have q3 : 0 ≤ lo := by rw [← Int32.not_lt]; exact q2
        rw [if_pos q3, if_neg q2]
    · have q : ¬ ((v (28 + j)).toInt64 + n.toInt64 * (pcS w (nI i) NL).toInt64) / 100 = a.toInt64 := by rw [← eL]; exact q0
      rw [if_neg q, if_neg q0]
      simp
  have mend : ∀ {j : Nat} (lo hi : Int32) (b : Value) (Q : Option Value → xG → xH → Prop), EV X mX6_let 0 0 58 [.ref 140, .int (nI j), .int n, .int a, .int z, .int lo, .int hi, .int (nI (E + 1)), b] [] (Gb sw) h Q = if z = 0 then Q (some (.int lo)) (Gb sw) h else Q (some (.int hi)) (Gb sw) h := by
    intro j lo hi b Q
    rw [eX6_let_58]
    simp only [eX6_let_0, eX6_let_1, eX6_let_2, eX6_let_5, eX6_let_8, eX6_let_10, eX6_let_11, eX6_let_12, eX6_let_13, eX6_let_14, eX6_let_17, eX6_let_20, eX6_let_23, eX6_let_24, eX6_let_25, eX6_let_26, eX6_let_29, eX6_let_32, eX6_let_35, eX6_let_37, eX6_let_38, eX6_let_39, eX6_let_40, eX6_let_43, eX6_let_46, eX6_let_48, eX6_let_49, eX6_let_50, eX6_let_52, eX6_let_53, eX6_let_55, eX6_let_56, eX6_let_60, eX6_let_61, eX6_let_64, eX6_let_67, eX6_let_68, eX6_let_71, eX6_let_73, eX6_let_74, eX6_let_75, eX6_let_76, eX6_let_77, eX6_let_78, eX6_let_79, eX6_let_80, eX6_let_82, eX6_let_85, eX6_let_86, eX6_let_87, eX6_let_88, eX6_let_91, eX6_let_92, eX6_let_93, eX6_let_94, eX6_let_95, eX6_let_98, eX6_let_99, eX6_let_102, eX6_let_103, eX6_let_105, eX6_let_107, eX6_let_110, eX6_let_112, eX6_let_115, eX6_let_117, eX6_let_120, eX6_let_122, eX6_let_124, eX6_let_126, eX6_let_129, eX6_let_131, eX6_let_134, eX6_let_136, eX6_let_138, eX6_let_141, eX6_let_144, eX6_let_146, eX6_let_149, eX6_let_151, eX6_let_154, eX6_let_156, Option.toList_some, Option.toList_none, List.cons_append, List.nil_append, is01_0, is01_1, true_and, hM.1, hw0]
    rw [if_pos (nI_lt (by omega) (by omega))]
  have cstep : ∀ {j : Nat}, j < G → ∀ (i : Nat) (f : Int32) (Q : Option Value → xG → xH → Prop), i ≤ E →
      EV X mX5_let 0 0 55 [.ref 0, .int (nI j), .int n, .int a, .int z, .int f, .int (nI i)] [] (Gb sw) h Q =
      if oldS (v (28 + j)) (n * pcS w (nI i) NL) / 100 = a then (if z = 0 then Q (some (.int (nI i))) (Gb sw) h else EV X mX5_let 0 0 55 [.ref 0, .int (nI j), .int n, .int a, .int z, .int (nI i), .int (nI (i + 1))] [] (Gb sw) h Q)
      else EV X mX5_let 0 0 55 [.ref 0, .int (nI j), .int n, .int a, .int z, .int f, .int (nI (i + 1))] [] (Gb sw) h Q := by
    intro j hj i f Q hi
    have hj8 : j < 8 := by omega
    rw [eX5_let_55]
    simp only [eX5_let_0, eX5_let_1, eX5_let_4, eX5_let_5, eX5_let_8, eX5_let_11, eX5_let_13, eX5_let_14, eX5_let_15, eX5_let_16, eX5_let_19, eX5_let_22, eX5_let_25, eX5_let_26, eX5_let_27, eX5_let_30, eX5_let_33, eX5_let_36, eX5_let_38, eX5_let_39, eX5_let_40, eX5_let_43, eX5_let_46, eX5_let_48, eX5_let_49, eX5_let_50, eX5_let_52, eX5_let_53, eX5_let_57, eX5_let_58, eX5_let_61, eX5_let_64, eX5_let_67, eX5_let_68, eX5_let_71, eX5_let_74, eX5_let_75, eX5_let_76, eX5_let_77, eX5_let_78, eX5_let_81, eX5_let_83, eX5_let_86, eX5_let_87, eX5_let_90, eX5_let_92, eX5_let_93, eX5_let_94, eX5_let_97, eX5_let_99, eX5_let_101, eX5_let_103, eX5_let_106, eX5_let_109, eX5_let_112, eX5_let_115, eX5_let_117, Option.toList_some, Option.toList_none, List.cons_append, List.nil_append, is01_0, is01_1, true_and, nI_1, cl8 hj8, inb8 hj8, Nat.le_refl, pl_P, hs.a j hj, hC.1, hw0, r_paceAt (pl_P sw) hW.1 hC, r_older, nd100]
    rw [if_neg (nI_nlt (by omega) (by omega))]
    rfl
  have cend : ∀ {j : Nat} (f : Int32) (Q : Option Value → xG → xH → Prop), EV X mX5_let 0 0 55 [.ref 0, .int (nI j), .int n, .int a, .int z, .int f, .int (nI (E + 1))] [] (Gb sw) h Q = Q (some (.int f)) (Gb sw) h := by
    intro j f Q
    rw [eX5_let_55]
    simp only [eX5_let_0, eX5_let_1, eX5_let_4, eX5_let_5, eX5_let_8, eX5_let_11, eX5_let_13, eX5_let_14, eX5_let_15, eX5_let_16, eX5_let_19, eX5_let_22, eX5_let_25, eX5_let_26, eX5_let_27, eX5_let_30, eX5_let_33, eX5_let_36, eX5_let_38, eX5_let_39, eX5_let_40, eX5_let_43, eX5_let_46, eX5_let_48, eX5_let_49, eX5_let_50, eX5_let_52, eX5_let_53, eX5_let_57, eX5_let_58, eX5_let_61, eX5_let_64, eX5_let_67, eX5_let_68, eX5_let_71, eX5_let_74, eX5_let_75, eX5_let_76, eX5_let_77, eX5_let_78, eX5_let_81, eX5_let_83, eX5_let_86, eX5_let_87, eX5_let_90, eX5_let_92, eX5_let_93, eX5_let_94, eX5_let_97, eX5_let_99, eX5_let_101, eX5_let_103, eX5_let_106, eX5_let_109, eX5_let_112, eX5_let_115, eX5_let_117, Option.toList_some, Option.toList_none, List.cons_append, List.nil_append, is01_0, is01_1, true_and, pl_P, hC.1, hw0]
    rw [if_pos (nI_lt (by omega) (by omega))]
  have keep : ∀ {j : Nat}, j < G → 0 ≤ n.toInt → n.toInt ≤ 500 → 0 ≤ a.toInt → a.toInt ≤ 999 → z = 0 → ∀ (m i : Nat) (lo hi : Int32) (b : Value) (Q : Option Value → xG → xH → Prop), i + m = E + 1 → ¬ lo < 0 → EV X mX6_let 0 0 58 [.ref 140, .int (nI j), .int n, .int a, .int z, .int lo, .int hi, .int (nI i), b] [] (Gb sw) h Q = Q (some (.int lo)) (Gb sw) h := by
    intro j hj n0 n1 a0 a1 z0 m
    induction m with
    | zero =>
      intro i lo hi b Q hm _
      have e : i = E + 1 := by omega
      rw [e, mend, if_pos z0]
    | succ m ih =>
      intro i lo hi b Q hm hlo
      rw [mstep hj n0 n1 a0 a1 i lo hi b Q (by omega), if_neg hlo]
      split
      · exact ih _ _ _ _ _ (by omega) hlo
      · exact ih _ _ _ _ _ (by omega) hlo
  have key0 : ∀ {j : Nat}, j < G → 0 ≤ n.toInt → n.toInt ≤ 500 → 0 ≤ a.toInt → a.toInt ≤ 999 → z = 0 → ∀ (m i : Nat) (b : Value), i + m = E + 1 → Both (fun Q => EV X mX5_let 0 0 55 [.ref 0, .int (nI j), .int n, .int a, .int z, .int (-1), .int (nI i)] [] (Gb sw) h Q) (fun Q => EV X mX6_let 0 0 58 [.ref 140, .int (nI j), .int n, .int a, .int z, .int (-1), .int (-1), .int (nI i), b] [] (Gb sw) h Q) sw h := by
    intro j hj n0 n1 a0 a1 z0 m
    induction m with
    | zero =>
      intro i b hi
      have e : i = E + 1 := by omega
      exact ⟨-1, fun Q => by show EV X mX5_let 0 0 55 _ _ _ _ _ = _; rw [e, cend], fun Q => by show EV X mX6_let 0 0 58 _ _ _ _ _ = _; rw [e, mend, if_pos z0]⟩
    | succ m ih =>
      intro i b hi
      by_cases q : oldS (v (28 + j)) (n * pcS w (nI i) NL) / 100 = a
      · refine ⟨nI i, fun Q => ?_, fun Q => ?_⟩
        · show EV X mX5_let 0 0 55 _ _ _ _ _ = _
          rw [cstep hj i _ Q (by omega), if_pos q, if_pos z0]
        · show EV X mX6_let 0 0 58 _ _ _ _ _ = _
          rw [mstep hj n0 n1 a0 a1 i _ _ b Q (by omega), if_pos q, if_pos (by decide)]
          exact keep hj n0 n1 a0 a1 z0 m (i + 1) _ _ _ Q (by omega) (nI_pos (by omega))
      · obtain ⟨r, h1, h2⟩ := ih (i + 1) (.int 0) (by omega)
        refine ⟨r, fun Q => ?_, fun Q => ?_⟩
        · show EV X mX5_let 0 0 55 _ _ _ _ _ = _
          rw [cstep hj i _ Q (by omega), if_neg q]
          exact h1 Q
        · show EV X mX6_let 0 0 58 _ _ _ _ _ = _
          rw [mstep hj n0 n1 a0 a1 i _ _ b Q (by omega), if_neg q]
          exact h2 Q
  have key1 : ∀ {j : Nat}, j < G → 0 ≤ n.toInt → n.toInt ≤ 500 → 0 ≤ a.toInt → a.toInt ≤ 999 → ¬ z = 0 → ∀ (m i : Nat) (lo f : Int32) (b : Value), i + m = E + 1 → Both (fun Q => EV X mX5_let 0 0 55 [.ref 0, .int (nI j), .int n, .int a, .int z, .int f, .int (nI i)] [] (Gb sw) h Q) (fun Q => EV X mX6_let 0 0 58 [.ref 140, .int (nI j), .int n, .int a, .int z, .int lo, .int f, .int (nI i), b] [] (Gb sw) h Q) sw h := by
    intro j hj n0 n1 a0 a1 z0 m
    induction m with
    | zero =>
      intro i lo f b hi
      have e : i = E + 1 := by omega
      exact ⟨f, fun Q => by show EV X mX5_let 0 0 55 _ _ _ _ _ = _; rw [e, cend], fun Q => by show EV X mX6_let 0 0 58 _ _ _ _ _ = _; rw [e, mend, if_neg z0]⟩
    | succ m ih =>
      intro i lo f b hi
      by_cases q : oldS (v (28 + j)) (n * pcS w (nI i) NL) / 100 = a
      · obtain ⟨r, h1, h2⟩ := ih (i + 1) (if lo < 0 then nI i else lo) (nI i) (.int 1) (by omega)
        refine ⟨r, fun Q => ?_, fun Q => ?_⟩
        · show EV X mX5_let 0 0 55 _ _ _ _ _ = _
          rw [cstep hj i _ Q (by omega), if_pos q, if_neg z0]
          exact h1 Q
        · show EV X mX6_let 0 0 58 _ _ _ _ _ = _
          rw [mstep hj n0 n1 a0 a1 i _ _ b Q (by omega), if_pos q]
          exact h2 Q
      · obtain ⟨r, h1, h2⟩ := ih (i + 1) lo f (.int 0) (by omega)
        refine ⟨r, fun Q => ?_, fun Q => ?_⟩
        · show EV X mX5_let 0 0 55 _ _ _ _ _ = _
          rw [cstep hj i _ Q (by omega), if_neg q]
          exact h1 Q
        · show EV X mX6_let 0 0 58 _ _ _ _ _ = _
          rw [mstep hj n0 n1 a0 a1 i _ _ b Q (by omega), if_neg q]
          exact h2 Q
  unfold Both
  simp only [eX5_let_0, eX5_let_1, eX5_let_4, eX5_let_5, eX5_let_8, eX5_let_11, eX5_let_13, eX5_let_14, eX5_let_15, eX5_let_16, eX5_let_19, eX5_let_22, eX5_let_25, eX5_let_26, eX5_let_27, eX5_let_30, eX5_let_33, eX5_let_36, eX5_let_38, eX5_let_39, eX5_let_40, eX5_let_43, eX5_let_46, eX5_let_48, eX5_let_49, eX5_let_50, eX5_let_52, eX5_let_53, eX5_let_57, eX5_let_58, eX5_let_61, eX5_let_64, eX5_let_67, eX5_let_68, eX5_let_71, eX5_let_74, eX5_let_75, eX5_let_76, eX5_let_77, eX5_let_78, eX5_let_81, eX5_let_83, eX5_let_86, eX5_let_87, eX5_let_90, eX5_let_92, eX5_let_93, eX5_let_94, eX5_let_97, eX5_let_99, eX5_let_101, eX5_let_103, eX5_let_106, eX5_let_109, eX5_let_112, eX5_let_115, eX5_let_117, eX6_let_0, eX6_let_1, eX6_let_2, eX6_let_5, eX6_let_8, eX6_let_10, eX6_let_11, eX6_let_12, eX6_let_13, eX6_let_14, eX6_let_17, eX6_let_20, eX6_let_23, eX6_let_24, eX6_let_25, eX6_let_26, eX6_let_29, eX6_let_32, eX6_let_35, eX6_let_37, eX6_let_38, eX6_let_39, eX6_let_40, eX6_let_43, eX6_let_46, eX6_let_48, eX6_let_49, eX6_let_50, eX6_let_52, eX6_let_53, eX6_let_55, eX6_let_56, eX6_let_60, eX6_let_61, eX6_let_64, eX6_let_67, eX6_let_68, eX6_let_71, eX6_let_73, eX6_let_74, eX6_let_75, eX6_let_76, eX6_let_77, eX6_let_78, eX6_let_79, eX6_let_80, eX6_let_82, eX6_let_85, eX6_let_86, eX6_let_87, eX6_let_88, eX6_let_91, eX6_let_92, eX6_let_93, eX6_let_94, eX6_let_95, eX6_let_98, eX6_let_99, eX6_let_102, eX6_let_103, eX6_let_105, eX6_let_107, eX6_let_110, eX6_let_112, eX6_let_115, eX6_let_117, eX6_let_120, eX6_let_122, eX6_let_124, eX6_let_126, eX6_let_129, eX6_let_131, eX6_let_134, eX6_let_136, eX6_let_138, eX6_let_141, eX6_let_144, eX6_let_146, eX6_let_149, eX6_let_151, eX6_let_154, eX6_let_156, Option.toList_some, Option.toList_none, List.cons_append, List.nil_append, is01_0, is01_1, true_and, pl_P, c_hasGoer (pl_P sw) hC, m_isGoer hM hG, b01_0, r_isOutside, out_in, r_in, wl_0, wr_0, wl_1, wr_1, wl_2, wr_2, wl_3, wr_3, wl_20, wr_20, wl_48, wr_48, wl_57, wr_57, wl_60, wr_60, wl_100, wr_100, wl_255, wr_255, wl_500, wr_500, wl_900, wr_900, wl_999, wr_999, wl_12345, wr_12345, wl_999999, wr_999999, wl_99999999, wr_99999999, wl_1000000000, wr_1000000000, wl_1103515245, wr_1103515245]
  by_cases c1 : 0 ≤ x ∧ x < nI G
  · obtain ⟨j, hj, rfl⟩ := goE hG c1
    by_cases c2 : 1 ≤ n ∧ n ≤ 500
    · by_cases c3 : 0 ≤ a ∧ a ≤ 999
      · by_cases c4 : 0 ≤ z ∧ z ≤ 1
        · have r2 := rg c2 (m := 1) (n := 500) rfl rfl
          have r3 := rg c3 (m := 0) (n := 999) rfl rfl
          simp only [c1, c2, c3, c4, not_true, if_true, if_false, and_self]
          by_cases z0 : z = 0
          · exact key0 hj (by omega) r2.2 r3.1 r3.2 z0 (E + 1) 0 .null (by omega)
          · exact key1 hj (by omega) r2.2 r3.1 r3.2 z0 (E + 1) 0 (-1) (-1) .null (by omega)
        · simp only [c1, c2, c3, c4, not_true, not_false_iff, if_true, if_false, and_self]
          first | exact ⟨_, fun _ => rfl, fun _ => rfl⟩ | exact ⟨_, fun _ => rfl⟩
      · simp only [c1, c2, c3, not_true, not_false_iff, if_true, if_false, and_self]
        first | exact ⟨_, fun _ => rfl, fun _ => rfl⟩ | exact ⟨_, fun _ => rfl⟩
    · simp only [c1, c2, not_true, not_false_iff, if_true, if_false, and_self]
      first | exact ⟨_, fun _ => rfl, fun _ => rfl⟩ | exact ⟨_, fun _ => rfl⟩
  · simp only [c1, not_true, not_false_iff, if_true, if_false, and_self]
    first | exact ⟨_, fun _ => rfl, fun _ => rfl⟩ | exact ⟨_, fun _ => rfl⟩
end OPS
