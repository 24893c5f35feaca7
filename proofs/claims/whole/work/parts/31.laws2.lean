/-! LAWS, YARD: class and model alike -/
theorem SNr.v {h : xH} (H : SNr h) : ∃ (n : Nat) (sy ss : Nat → Nat) (sm : Nat → Bool), SNv h n sy ss sm ∧ ∀ k, 1 ≤ ss k := by
  obtain ⟨n, sy, ss, sm, hn, a1, a2, a3⟩ := H
  refine ⟨n, sy, fun k => if k < n then ss k else 1, sm, ⟨hn, a1, a2, fun k hk => ?_⟩, fun k => ?_⟩
  · simp only [if_pos hk]
    exact a3 k hk
  · by_cases q : k < n
    · simp only [if_pos q]
      exact (a3 k q).2.2.1
    · simp only [if_neg q]
      omega
theorem Rl.m155 {sw : Bool} {h h' : xH} {NL G : Nat} {w v : Nat → Int32} (H : Rl sw h NL G w v) (e : ∀ c, ¬ c = 155 → h' c = h c) : Rl sw h' NL G w v := by
  obtain ⟨hN, hT, hF, hS, hL, hB, hP, hI, hD⟩ := H
  refine ⟨hN.mv (fun a q1 q2 => ?_) ?_ ?_ ?_ ?_ ?_ (fun a q1 q2 => ?_), hT.mv ?_ ?_ ?_ ?_, hF.mv ?_ ?_, hS.mv ?_ ?_ ?_ ?_ ?_ ?_ ?_ ?_, hL.mv ?_ ?_ ?_ ?_ ?_ ?_, hB.mv ?_ ?_ ?_ ?_ ?_ ?_, hP.mv ?_ ?_ (fun a q1 q2 => ?_) ?_, hI.mv ?_ ?_ (fun a q1 q2 => ?_) ?_, hD.mv ?_ ?_⟩
  all_goals rw [e _ (by omega)]
section LW3
variable {X : (Nat → Int32) × Nat} {g : xG} {h : xH} {Q : Option Value → xG → xH → Prop} {sw : Bool} {n : Nat} {sy ss : Nat → Nat} {sm : Nat → Bool}
theorem m_find0 (H : SNv h n sy ss sm) (hs1 : ∀ k, 1 ≤ ss k) (X : (Nat → Int32) × Nat) (sw : Bool) : ∃ h' : xH, (∀ c, ¬ c = 155 → h' c = h c) ∧ (∀ y, 1 ≤ y → y ≤ 900 → h' 155 y = nI (lawN n sy ss sm y)) ∧ ∀ Q : Option Value → xG → xH → Prop, EV X mX6_findLaws 0 0 0 [.ref 140, .null, .null, .null] [] (Gb sw) h Q = Q none (Gb sw) h' := by
  obtain ⟨h', e1, e2, e3⟩ := m_findLaws (X := X) (sw := sw) H hs1 900 1 .null .null h (by omega) (by omega) (fun _ _ => rfl) (fun y q1 q2 => by omega)
  refine ⟨h', e1, e2, fun Q => ?_⟩
  rw [← e3 Q]
  simp only [eX6_findLaws_0, eX6_findLaws_1, eX6_findLaws_3, eX6_findLaws_6, eX6_findLaws_9, eX6_findLaws_10, eX6_findLaws_11, eX6_findLaws_12, eX6_findLaws_14, eX6_findLaws_16, eX6_findLaws_19, eX6_findLaws_20, eX6_findLaws_21, eX6_findLaws_22, eX6_findLaws_23, eX6_findLaws_26, eX6_findLaws_29, eX6_findLaws_30, eX6_findLaws_33, eX6_findLaws_34, eX6_findLaws_35, eX6_findLaws_36, eX6_findLaws_39, eX6_findLaws_42, eX6_findLaws_43, eX6_findLaws_46, eX6_findLaws_47, eX6_findLaws_48, eX6_findLaws_49, eX6_findLaws_52, eX6_findLaws_55, Option.toList_some, Option.toList_none, List.cons_append, List.nil_append, is01_0, is01_1, true_and]
  rfl
theorem m_least (H : SNv h n sy ss sm) (hs1 : ∀ k, 1 ≤ ss k) {y : Nat} (hy : y ≤ 900) (hl : 0 < lawN n sy ss sm y) (x : Int32) : ∀ m i : Nat, 2 ≤ i → i + m = lpN n sy ss sm y → EV X mX6_laws 0 0 48 [.ref 140, .int x, .int (nI y), .int (nI i)] [] (Gb sw) h Q = Q (some (.int (nI (lpN n sy ss sm y)))) (Gb sw) h := by
  have hf : fitB n sy ss sm y = true ∧ lpN n sy ss sm y ≤ gpN n sy ss sm y := by
    unfold lawN at hl
    by_cases q : fitB n sy ss sm y = true
    · rw [if_pos q] at hl
      exact ⟨q, by omega⟩
    · rw [if_neg q] at hl
      omega
  have h60 : gpN n sy ss sm y ≤ 60 := ((gpN_le hs1 n).mp (Nat.le_refl _)).1
  intro m
  induction m with
  | zero =>
    intro i h2 hi
    have hi : i = lpN n sy ss sm y := hi
    have q : okA n sy ss sm y i = true := (okA_iff hs1 h2 (by omega)).mpr ⟨hf.1, by omega, by omega⟩
    rw [eX6_laws_48]
    simp only [eX6_laws_0, eX6_laws_1, eX6_laws_2, eX6_laws_3, eX6_laws_6, eX6_laws_9, eX6_laws_12, eX6_laws_14, eX6_laws_15, eX6_laws_16, eX6_laws_19, eX6_laws_20, eX6_laws_23, eX6_laws_24, eX6_laws_25, eX6_laws_26, eX6_laws_29, eX6_laws_30, eX6_laws_33, eX6_laws_34, eX6_laws_37, eX6_laws_38, eX6_laws_41, eX6_laws_44, eX6_laws_45, eX6_laws_46, eX6_laws_47, eX6_laws_49, eX6_laws_50, eX6_laws_51, eX6_laws_54, eX6_laws_57, eX6_laws_60, eX6_laws_63, eX6_laws_64, Option.toList_some, Option.toList_none, List.cons_append, List.nil_append, is01_0, is01_1, true_and, m_couldBe H hy (show i ≤ 60 by omega), q, b2_0, Bool.true_eq_false, not_false_iff, if_true, if_false]
    rw [hi]
  | succ m ih =>
    intro i h2 hi
    have q : okA n sy ss sm y i = false := by
      have : ¬ okA n sy ss sm y i = true := fun z => by
        have := ((okA_iff hs1 h2 (by omega)).mp z).2.1
        omega
      simpa using this
    rw [eX6_laws_48]
    simp only [eX6_laws_0, eX6_laws_1, eX6_laws_2, eX6_laws_3, eX6_laws_6, eX6_laws_9, eX6_laws_12, eX6_laws_14, eX6_laws_15, eX6_laws_16, eX6_laws_19, eX6_laws_20, eX6_laws_23, eX6_laws_24, eX6_laws_25, eX6_laws_26, eX6_laws_29, eX6_laws_30, eX6_laws_33, eX6_laws_34, eX6_laws_37, eX6_laws_38, eX6_laws_41, eX6_laws_44, eX6_laws_45, eX6_laws_46, eX6_laws_47, eX6_laws_49, eX6_laws_50, eX6_laws_51, eX6_laws_54, eX6_laws_57, eX6_laws_60, eX6_laws_63, eX6_laws_64, Option.toList_some, Option.toList_none, List.cons_append, List.nil_append, is01_0, is01_1, true_and, m_couldBe H hy (show i ≤ 60 by omega), q, b2_0, not_true, if_true, if_false, nI_1]
    exact ih (i + 1) (by omega) (by omega)
/-! the yard -/
def ydF (S : Nat → Nat) (A t : Nat) (s : Int32 × Nat) : Int32 × Nat := if (if S t < A - S t then A - S t else S t) < s.2 then (nI t, if S t < A - S t then A - S t else S t) else s
def ycF (S : Nat → Nat) (A y : Nat) (s : Int32 × Nat) : Int32 × Nat := if (y + 1) % 10 = 0 then ydF S A (y + 1) s else s
def ymF (S : Nat → Nat) (A i : Nat) (s : Int32 × Nat) : Int32 × Nat := ydF S A (10 * i + 10) s
theorem ydF_a {S : Nat → Nat} {A t T p : Nat} {b : Int32} (hT : S t = T) (h : T < A - T) : ydF S A t (b, p) = if A - T < p then (nI t, A - T) else (b, p) := by
  unfold ydF
  rw [hT, if_pos h]
theorem ydF_b {S : Nat → Nat} {A t T p : Nat} {b : Int32} (hT : S t = T) (h : ¬ T < A - T) : ydF S A t (b, p) = if T < p then (nI t, T) else (b, p) := by
  unfold ydF
  rw [hT, if_neg h]
theorem ycF_y {S : Nat → Nat} {A y : Nat} {s : Int32 × Nat} (h : (y + 1) % 10 = 0) : ycF S A y s = ydF S A (y + 1) s := by
  unfold ycF
  rw [if_pos h]
theorem ycF_n {S : Nat → Nat} {A y : Nat} {s : Int32 × Nat} (h : ¬ (y + 1) % 10 = 0) : ycF S A y s = s := by
  unfold ycF
  rw [if_neg h]
theorem yc_ym (S : Nat → Nat) (A : Nat) : ∀ (m i : Nat) (s : Int32 × Nat), xfold (ycF S A) (10 * i) (10 * m) s = xfold (ymF S A) i m s
  | 0, i, s => rfl
  | m + 1, i, s => by
    have e : ∀ (f : Nat → Int32 × Nat → Int32 × Nat) (j k : Nat) (s : Int32 × Nat), xfold f j (k + 10) s = xfold f (j + 10) k (f (j + 9) (f (j + 8) (f (j + 7) (f (j + 6) (f (j + 5) (f (j + 4) (f (j + 3) (f (j + 2) (f (j + 1) (f j s)))))))))) := fun _ _ _ _ => rfl
    have z : ∀ k s, k < 9 → ycF S A (10 * i + k) s = s := fun k s hk => by
      unfold ycF
      rw [if_neg (by omega)]
    have z0 : ycF S A (10 * i) s = s := z 0 s (by omega)
    rw [show 10 * (m + 1) = 10 * m + 10 by omega, e, z0, z 1 _ (by omega), z 2 _ (by omega), z 3 _ (by omega), z 4 _ (by omega), z 5 _ (by omega), z 6 _ (by omega), z 7 _ (by omega), z 8 _ (by omega)]
    have z9 : ycF S A (10 * i + 9) s = ymF S A i s := by
      unfold ycF ymF
      rw [if_pos (by omega)]
    rw [z9, show 10 * i + 10 = 10 * (i + 1) by omega, yc_ym S A m (i + 1)]
    rfl
theorem sumL_mono {a b : Nat} (h : a ≤ b) : sumL n sy ss sm a ≤ sumL n sy ss sm b := by
  have := fb_sm_mono (fun k => lawN n sy ss sm (k + 1)) a (b - a)
  rw [show a + (b - a) = b by omega] at this
  exact this
theorem c_yard (H : SNv h n sy ss sm) (hs1 : ∀ k, 1 ≤ ss k) : EV X mX0_bestYard 0 0 0 [.ref 132, .null, .null, .null, .null, .null, .null] [] (Gb sw) h Q = Q (some (.int (xfold (ycF (sumL n sy ss sm) (sumL n sy ss sm 900)) 0 900 (-1, sumL n sy ss sm 900)).1)) (Gb sw) h := by
  simp only [eX0_bestYard_0, eX0_bestYard_1, eX0_bestYard_4, eX0_bestYard_5, eX0_bestYard_6, eX0_bestYard_7, eX0_bestYard_8, eX0_bestYard_9, eX0_bestYard_10, eX0_bestYard_12, eX0_bestYard_13, eX0_bestYard_17, eX0_bestYard_20, eX0_bestYard_23, eX0_bestYard_25, eX0_bestYard_26, eX0_bestYard_28, eX0_bestYard_31, eX0_bestYard_32, eX0_bestYard_34, eX0_bestYard_36, eX0_bestYard_37, eX0_bestYard_39, eX0_bestYard_40, eX0_bestYard_43, eX0_bestYard_45, eX0_bestYard_47, eX0_bestYard_49, eX0_bestYard_50, eX0_bestYard_53, eX0_bestYard_55, eX0_bestYard_56, eX0_bestYard_59, eX0_bestYard_61, eX0_bestYard_62, eX0_bestYard_64, eX0_bestYard_65, eX0_bestYard_68, eX0_bestYard_71, eX0_bestYard_72, Option.toList_some, Option.toList_none, List.cons_append, List.nil_append, is01_0, is01_1, true_and, c_countLaws H hs1]
  have hA := sumL_le (n := n) (sy := sy) (sm := sm) hs1 900
  have key : ∀ (m y : Nat) (b : Int32) (p : Nat) (z : Value), y + m = 900 → p ≤ sumL n sy ss sm 900 → EV X mX0_bestYard 0 0 15 [.ref 132, .int (nI (sumL n sy ss sm 900)), .int b, .int (nI p), .int (nI (sumL n sy ss sm y)), .int (nI (y + 1)), z] [] (Gb sw) h Q = Q (some (.int (xfold (ycF (sumL n sy ss sm) (sumL n sy ss sm 900)) y m (b, p)).1)) (Gb sw) h := by
    intro m
    induction m with
    | zero =>
      intro y b p z hy hp
      rw [show y = 900 by omega, eX0_bestYard_15]
      simp only [eX0_bestYard_0, eX0_bestYard_1, eX0_bestYard_4, eX0_bestYard_5, eX0_bestYard_6, eX0_bestYard_7, eX0_bestYard_8, eX0_bestYard_9, eX0_bestYard_10, eX0_bestYard_12, eX0_bestYard_13, eX0_bestYard_17, eX0_bestYard_20, eX0_bestYard_23, eX0_bestYard_25, eX0_bestYard_26, eX0_bestYard_28, eX0_bestYard_31, eX0_bestYard_32, eX0_bestYard_34, eX0_bestYard_36, eX0_bestYard_37, eX0_bestYard_39, eX0_bestYard_40, eX0_bestYard_43, eX0_bestYard_45, eX0_bestYard_47, eX0_bestYard_49, eX0_bestYard_50, eX0_bestYard_53, eX0_bestYard_55, eX0_bestYard_56, eX0_bestYard_59, eX0_bestYard_61, eX0_bestYard_62, eX0_bestYard_64, eX0_bestYard_65, eX0_bestYard_68, eX0_bestYard_71, eX0_bestYard_72, Option.toList_some, Option.toList_none, List.cons_append, List.nil_append, is01_0, is01_1, true_and]
      rw [if_pos (show (900 : Int32) < nI (900 + 1) from nI_lt (a := 900) (by omega) (by omega))]
      rfl
    | succ m ih =>
      intro y b p z hy hp
      have hm := sumL_mono (n := n) (sy := sy) (ss := ss) (sm := sm) (show y + 1 ≤ 900 by omega)
      have es : sumL n sy ss sm (y + 1) = sumL n sy ss sm y + lawN n sy ss sm (y + 1) := fb_sm_succ _ _
      have e1 : nI (sumL n sy ss sm y) + nI (lawN n sy ss sm (y + 1)) = nI (sumL n sy ss sm (y + 1)) := by rw [addI_nI, ← es]
      have e2 : nI (sumL n sy ss sm 900) - nI (sumL n sy ss sm (y + 1)) = nI (sumL n sy ss sm 900 - sumL n sy ss sm (y + 1)) := pk_sub hm
      have e3 : nI (y + 1) - nI (y + 1) / 10 * 10 = nI ((y + 1) % 10) := pk_rem (d := 10) (by omega) (by omega) (by omega)
      have e4 : (nI ((y + 1) % 10) = 0) = ((y + 1) % 10 = 0) := eq_nI (b := 0) (by omega) (by omega)
      have ex : xfold (ycF (sumL n sy ss sm) (sumL n sy ss sm 900)) y (m + 1) (b, p) = xfold (ycF (sumL n sy ss sm) (sumL n sy ss sm 900)) (y + 1) m (ycF (sumL n sy ss sm) (sumL n sy ss sm 900) y (b, p)) := rfl
      rw [ex, eX0_bestYard_15]
      have ih := ih (y + 1)
      generalize hSS : sumL n sy ss sm (y + 1) = T at *
      generalize sumL n sy ss sm 900 = A at *
      have e5 : (nI T < nI (A - T)) = (T < A - T) := lt_nI (by omega) (by omega)
      have e6 : (nI p ≤ nI (A - T)) = (p ≤ A - T) := le_nI (by omega) (by omega)
      have e7 : (nI p ≤ nI T) = (p ≤ T) := le_nI (by omega) (by omega)
      simp only [eX0_bestYard_0, eX0_bestYard_1, eX0_bestYard_4, eX0_bestYard_5, eX0_bestYard_6, eX0_bestYard_7, eX0_bestYard_8, eX0_bestYard_9, eX0_bestYard_10, eX0_bestYard_12, eX0_bestYard_13, eX0_bestYard_17, eX0_bestYard_20, eX0_bestYard_23, eX0_bestYard_25, eX0_bestYard_26, eX0_bestYard_28, eX0_bestYard_31, eX0_bestYard_32, eX0_bestYard_34, eX0_bestYard_36, eX0_bestYard_37, eX0_bestYard_39, eX0_bestYard_40, eX0_bestYard_43, eX0_bestYard_45, eX0_bestYard_47, eX0_bestYard_49, eX0_bestYard_50, eX0_bestYard_53, eX0_bestYard_55, eX0_bestYard_56, eX0_bestYard_59, eX0_bestYard_61, eX0_bestYard_62, eX0_bestYard_64, eX0_bestYard_65, eX0_bestYard_68, eX0_bestYard_71, eX0_bestYard_72, Option.toList_some, Option.toList_none, List.cons_append, List.nil_append, is01_0, is01_1, true_and, c_lawsFrom H hs1 (show y + 1 ≤ 900 by omega), e1, e2, e3, e4, e5, nd10, nI_1]
      rw [if_neg (show ¬ (900 : Int32) < nI (y + 1) from nI_nlt (a := 900) (by omega) (by omega))]
      by_cases q : (y + 1) % 10 = 0
      · rw [ycF_y q]
        simp only [q, if_true, not_true, if_false]
        by_cases q2 : T < A - T
        · rw [ydF_a hSS q2]
          simp only [q2, if_true, e6]
          by_cases q3 : p ≤ A - T
          · rw [if_pos q3, if_neg (by omega)]
            exact ih b p _ (by omega) hp
          · rw [if_neg q3, if_pos (by omega)]
            exact ih (nI (y + 1)) (A - T) _ (by omega) (by omega)
        · rw [ydF_b hSS q2]
          simp only [q2, if_false, e7]
          by_cases q3 : p ≤ T
          · rw [if_pos q3, if_neg (by omega)]
            exact ih b p _ (by omega) hp
          · rw [if_neg q3, if_pos (by omega)]
            exact ih (nI (y + 1)) T _ (by omega) (by omega)
      · rw [ycF_n q]
        simp only [q, if_false, not_false_iff, if_true]
        exact ih b p _ (by omega) hp
  exact key 900 0 (-1) _ .null (by omega) (Nat.le_refl _)
theorem m_yard (hs1 : ∀ k, 1 ≤ ss k) (hy : ∀ y, 1 ≤ y → y ≤ 900 → h 155 y = nI (lawN n sy ss sm y)) : ∀ (m i : Nat) (b : Int32) (p : Nat) (z1 z2 : Value), i + m = 90 → p ≤ sumL n sy ss sm 900 → EV X mX6_yard 0 0 17 [.ref 140, .int (nI (sumL n sy ss sm 900)), .int b, .int (nI p), .int (nI (10 * i + 10)), z1, z2] [] (Gb sw) h Q = Q (some (.int (xfold (ymF (sumL n sy ss sm) (sumL n sy ss sm 900)) i m (b, p)).1)) (Gb sw) h := by
  have hA := sumL_le (n := n) (sy := sy) (sm := sm) hs1 900
  intro m
  induction m with
  | zero =>
    intro i b p z1 z2 hi hp
    rw [show i = 90 by omega, eX6_yard_17]
    simp only [eX6_yard_0, eX6_yard_1, eX6_yard_4, eX6_yard_5, eX6_yard_8, eX6_yard_9, eX6_yard_10, eX6_yard_11, eX6_yard_12, eX6_yard_13, eX6_yard_15, eX6_yard_19, eX6_yard_22, eX6_yard_25, eX6_yard_26, eX6_yard_28, eX6_yard_30, eX6_yard_31, eX6_yard_32, eX6_yard_36, eX6_yard_39, eX6_yard_42, eX6_yard_44, eX6_yard_45, eX6_yard_48, eX6_yard_50, eX6_yard_51, eX6_yard_52, eX6_yard_54, eX6_yard_57, eX6_yard_60, eX6_yard_62, eX6_yard_63, eX6_yard_65, eX6_yard_66, eX6_yard_69, eX6_yard_71, eX6_yard_74, eX6_yard_75, eX6_yard_77, eX6_yard_78, eX6_yard_80, eX6_yard_82, eX6_yard_83, eX6_yard_86, eX6_yard_88, eX6_yard_91, eX6_yard_92, eX6_yard_93, eX6_yard_95, eX6_yard_96, eX6_yard_99, eX6_yard_101, eX6_yard_104, eX6_yard_105, eX6_yard_106, eX6_yard_109, eX6_yard_112, eX6_yard_113, Option.toList_some, Option.toList_none, List.cons_append, List.nil_append, is01_0, is01_1, true_and]
    rw [if_pos (show (900 : Int32) < nI (10 * 90 + 10) from nI_lt (a := 900) (by omega) (by omega))]
    rfl
  | succ m ih =>
    intro i b p z1 z2 hi hp
    have ex : xfold (ymF (sumL n sy ss sm) (sumL n sy ss sm 900)) i (m + 1) (b, p) = xfold (ymF (sumL n sy ss sm) (sumL n sy ss sm 900)) (i + 1) m (ymF (sumL n sy ss sm) (sumL n sy ss sm 900) i (b, p)) := rfl
    have hm := sumL_mono (n := n) (sy := sy) (ss := ss) (sm := sm) (show 10 * i + 10 ≤ 900 by omega)
    have inner : ∀ (q k : Nat), k + q = 900 → 10 * i + 10 ≤ k → EV X mX6_yard 0 0 34 [.ref 140, .int (nI (sumL n sy ss sm 900)), .int b, .int (nI p), .int (nI (10 * i + 10)), .int (nI (sumL n sy ss sm k - sumL n sy ss sm (10 * i + 10))), .int (nI (k + 1))] [] (Gb sw) h Q = EV X mX6_yard 0 0 34 [.ref 140, .int (nI (sumL n sy ss sm 900)), .int b, .int (nI p), .int (nI (10 * i + 10)), .int (nI (sumL n sy ss sm 900 - sumL n sy ss sm (10 * i + 10))), .int (nI 901)] [] (Gb sw) h Q := by
      intro q
      induction q with
      | zero =>
        intro k hk _
        rw [show k = 900 by omega]
      | succ q ihq =>
        intro k hk hl
        have hmk := sumL_mono (n := n) (sy := sy) (ss := ss) (sm := sm) hl
        have es : sumL n sy ss sm (k + 1) = sumL n sy ss sm k + lawN n sy ss sm (k + 1) := fb_sm_succ _ _
        have e1 : nI (sumL n sy ss sm k - sumL n sy ss sm (10 * i + 10)) + nI (lawN n sy ss sm (k + 1)) = nI (sumL n sy ss sm (k + 1) - sumL n sy ss sm (10 * i + 10)) := by
          rw [addI_nI, es]
          congr 1
          omega
        rw [← ihq (k + 1) (by omega) (by omega)]
        conv => lhs; rw [eX6_yard_34]
        simp only [eX6_yard_0, eX6_yard_1, eX6_yard_4, eX6_yard_5, eX6_yard_8, eX6_yard_9, eX6_yard_10, eX6_yard_11, eX6_yard_12, eX6_yard_13, eX6_yard_15, eX6_yard_19, eX6_yard_22, eX6_yard_25, eX6_yard_26, eX6_yard_28, eX6_yard_30, eX6_yard_31, eX6_yard_32, eX6_yard_36, eX6_yard_39, eX6_yard_42, eX6_yard_44, eX6_yard_45, eX6_yard_48, eX6_yard_50, eX6_yard_51, eX6_yard_52, eX6_yard_54, eX6_yard_57, eX6_yard_60, eX6_yard_62, eX6_yard_63, eX6_yard_65, eX6_yard_66, eX6_yard_69, eX6_yard_71, eX6_yard_74, eX6_yard_75, eX6_yard_77, eX6_yard_78, eX6_yard_80, eX6_yard_82, eX6_yard_83, eX6_yard_86, eX6_yard_88, eX6_yard_91, eX6_yard_92, eX6_yard_93, eX6_yard_95, eX6_yard_96, eX6_yard_99, eX6_yard_101, eX6_yard_104, eX6_yard_105, eX6_yard_106, eX6_yard_109, eX6_yard_112, eX6_yard_113, Option.toList_some, Option.toList_none, List.cons_append, List.nil_append, is01_0, is01_1, true_and, hy (k + 1) (by omega) (by omega), cl_nI (show k + 1 < 2147483648 by omega), inb_nIe (show k + 1 < 2147483648 by omega), show k + 1 < 901 by omega, e1, nI_1]
        rw [if_neg (show ¬ (900 : Int32) < nI (k + 1) from nI_nlt (a := 900) (by omega) (by omega))]
    have inner0 := inner (900 - (10 * i + 10)) (10 * i + 10) (by omega) (Nat.le_refl _)
    rw [Nat.sub_self] at inner0
    rw [ex, eX6_yard_17]
    simp only [eX6_yard_0, eX6_yard_1, eX6_yard_4, eX6_yard_5, eX6_yard_8, eX6_yard_9, eX6_yard_10, eX6_yard_11, eX6_yard_12, eX6_yard_13, eX6_yard_15, eX6_yard_19, eX6_yard_22, eX6_yard_25, eX6_yard_26, eX6_yard_28, eX6_yard_30, eX6_yard_31, eX6_yard_32, eX6_yard_36, eX6_yard_39, eX6_yard_42, eX6_yard_44, eX6_yard_45, eX6_yard_48, eX6_yard_50, eX6_yard_51, eX6_yard_52, eX6_yard_54, eX6_yard_57, eX6_yard_60, eX6_yard_62, eX6_yard_63, eX6_yard_65, eX6_yard_66, eX6_yard_69, eX6_yard_71, eX6_yard_74, eX6_yard_75, eX6_yard_77, eX6_yard_78, eX6_yard_80, eX6_yard_82, eX6_yard_83, eX6_yard_86, eX6_yard_88, eX6_yard_91, eX6_yard_92, eX6_yard_93, eX6_yard_95, eX6_yard_96, eX6_yard_99, eX6_yard_101, eX6_yard_104, eX6_yard_105, eX6_yard_106, eX6_yard_109, eX6_yard_112, eX6_yard_113, Option.toList_some, Option.toList_none, List.cons_append, List.nil_append, is01_0, is01_1, true_and, nI_1]
    rw [if_neg (show ¬ (900 : Int32) < nI (10 * i + 10) from nI_nlt (a := 900) (by omega) (by omega))]
    refine inner0.trans ?_
    rw [eX6_yard_34]
    have ey : ∀ S A s, ymF S A i s = ydF S A (10 * i + 10) s := fun _ _ _ => rfl
    rw [ey]
    generalize hT : sumL n sy ss sm (10 * i + 10) = T at *
    generalize sumL n sy ss sm 900 = A at *
    have e2 : nI A - nI (A - T) = nI T := by rw [pk_sub (by omega)]; congr 1; omega
    have e5 : (nI (A - T) ≤ nI T) = (A - T ≤ T) := le_nI (by omega) (by omega)
    have e6 : (nI p ≤ nI (A - T)) = (p ≤ A - T) := le_nI (by omega) (by omega)
    have e7 : (nI p ≤ nI T) = (p ≤ T) := le_nI (by omega) (by omega)
    have e10 : nI (10 * i + 10) + 10 = nI (10 * (i + 1) + 10) := nI_add (10 * i + 10) 10
    simp only [eX6_yard_0, eX6_yard_1, eX6_yard_4, eX6_yard_5, eX6_yard_8, eX6_yard_9, eX6_yard_10, eX6_yard_11, eX6_yard_12, eX6_yard_13, eX6_yard_15, eX6_yard_19, eX6_yard_22, eX6_yard_25, eX6_yard_26, eX6_yard_28, eX6_yard_30, eX6_yard_31, eX6_yard_32, eX6_yard_36, eX6_yard_39, eX6_yard_42, eX6_yard_44, eX6_yard_45, eX6_yard_48, eX6_yard_50, eX6_yard_51, eX6_yard_52, eX6_yard_54, eX6_yard_57, eX6_yard_60, eX6_yard_62, eX6_yard_63, eX6_yard_65, eX6_yard_66, eX6_yard_69, eX6_yard_71, eX6_yard_74, eX6_yard_75, eX6_yard_77, eX6_yard_78, eX6_yard_80, eX6_yard_82, eX6_yard_83, eX6_yard_86, eX6_yard_88, eX6_yard_91, eX6_yard_92, eX6_yard_93, eX6_yard_95, eX6_yard_96, eX6_yard_99, eX6_yard_101, eX6_yard_104, eX6_yard_105, eX6_yard_106, eX6_yard_109, eX6_yard_112, eX6_yard_113, Option.toList_some, Option.toList_none, List.cons_append, List.nil_append, is01_0, is01_1, true_and, e2, e5, e6, e7, e10]
    rw [if_pos (show (900 : Int32) < nI 901 from nI_lt (a := 900) (by omega) (by omega))]
    by_cases q2 : T < A - T
    · rw [if_neg (show ¬ A - T ≤ T by omega), ydF_a hT q2]
      by_cases q3 : p ≤ A - T
      · rw [if_neg (show ¬ A - T < p by omega)]
        simp only [q3, if_true]
        exact ih (i + 1) b p _ _ (by omega) hp
      · rw [if_pos (show A - T < p by omega)]
        simp only [q3, if_false]
        exact ih (i + 1) (nI (10 * i + 10)) (A - T) _ _ (by omega) (by omega)
    · rw [if_pos (show A - T ≤ T by omega), ydF_b hT q2]
      by_cases q3 : p ≤ T
      · rw [if_neg (show ¬ T < p by omega)]
        simp only [q3, if_true]
        exact ih (i + 1) b p _ _ (by omega) hp
      · rw [if_pos (show T < p by omega)]
        simp only [q3, if_false]
        exact ih (i + 1) (nI (10 * i + 10)) T _ _ (by omega) (by omega)
end LW3
section OPS
variable {X : (Nat → Int32) × Nat}
theorem p_yard : OpK X mX5_yard mX6_yard [.ref 0] [.ref 140, .null, .null, .null, .null, .null, .null] := OpK.two fun sw h NL G w v H => by
  obtain ⟨n, sy, ss, sm, hS, hs1⟩ := H.2.2.2.1.v
  obtain ⟨h', e1, e2, e3⟩ := m_find0 hS hs1 X sw
  refine ⟨(xfold (ycF (sumL n sy ss sm) (sumL n sy ss sm 900)) 0 900 (-1, sumL n sy ss sm 900)).1, h, h', fun Q => ?_, fun Q => ?_, NL, G, w, v, H.m155 e1⟩
  · simp only [eX5_yard_0, eX5_yard_1, eX5_yard_4, eX5_yard_7, Option.toList_some, Option.toList_none, List.cons_append, List.nil_append, is01_0, is01_1, true_and, c_yard hS hs1]
  · simp only [eX6_yard_0, eX6_yard_1, eX6_yard_4, eX6_yard_5, eX6_yard_8, eX6_yard_9, eX6_yard_10, eX6_yard_11, eX6_yard_12, eX6_yard_13, eX6_yard_15, eX6_yard_19, eX6_yard_22, eX6_yard_25, eX6_yard_26, eX6_yard_28, eX6_yard_30, eX6_yard_31, eX6_yard_32, eX6_yard_36, eX6_yard_39, eX6_yard_42, eX6_yard_44, eX6_yard_45, eX6_yard_48, eX6_yard_50, eX6_yard_51, eX6_yard_52, eX6_yard_54, eX6_yard_57, eX6_yard_60, eX6_yard_62, eX6_yard_63, eX6_yard_65, eX6_yard_66, eX6_yard_69, eX6_yard_71, eX6_yard_74, eX6_yard_75, eX6_yard_77, eX6_yard_78, eX6_yard_80, eX6_yard_82, eX6_yard_83, eX6_yard_86, eX6_yard_88, eX6_yard_91, eX6_yard_92, eX6_yard_93, eX6_yard_95, eX6_yard_96, eX6_yard_99, eX6_yard_101, eX6_yard_104, eX6_yard_105, eX6_yard_106, eX6_yard_109, eX6_yard_112, eX6_yard_113, Option.toList_some, Option.toList_none, List.cons_append, List.nil_append, is01_0, is01_1, true_and, e3, m_allLaws hs1 e2]
    refine (m_yard hs1 e2 90 0 (-1) _ .null .null (by omega) (Nat.le_refl _)).trans ?_
    rw [← yc_ym (sumL n sy ss sm) (sumL n sy ss sm 900) 90 0]
theorem p_laws (z : Int32) : OpK X mX5_laws mX6_laws [.ref 0, .int z, .null] [.ref 140, .int z, .null, .null] := OpK.two fun sw h NL G w v H => by
  obtain ⟨n, sy, ss, sm, hS, hs1⟩ := H.2.2.2.1.v
  by_cases c : 0 ≤ z ∧ z ≤ 2
  · obtain ⟨h', e1, e2, e3⟩ := m_find0 hS hs1 X sw
    have hS' := hS.mv e1
    have n2 : ∀ k : Nat, k < 900 → ¬ nI k = -1 := fun k hk q => by
      have := congrArg Int32.toInt q
      rw [nI_toInt (by omega)] at this
      have e : (-1 : Int32).toInt = -1 := rfl
      omega
    by_cases z0 : z = 0
    · subst z0
      refine ⟨nI (sumL n sy ss sm 900), h, h', fun Q => ?_, fun Q => ?_, NL, G, w, v, H.m155 e1⟩
      · simp only [eX5_laws_0, eX5_laws_1, eX5_laws_2, eX5_laws_3, eX5_laws_6, eX5_laws_9, eX5_laws_11, eX5_laws_12, eX5_laws_13, eX5_laws_16, eX5_laws_17, eX5_laws_20, eX5_laws_23, eX5_laws_24, eX5_laws_25, eX5_laws_28, eX5_laws_31, eX5_laws_32, eX5_laws_33, eX5_laws_34, eX5_laws_37, eX5_laws_38, eX5_laws_39, eX5_laws_42, eX5_laws_43, eX5_laws_44, eX5_laws_45, eX5_laws_48, eX5_laws_49, eX5_laws_52, Option.toList_some, Option.toList_none, List.cons_append, List.nil_append, is01_0, is01_1, true_and, r_isOutside, b01_0, out_in, c, and_self, if_true, c_countLaws hS hs1]
      · have q : (0 : Int32) < 2 := by decide
        simp only [eX6_laws_0, eX6_laws_1, eX6_laws_2, eX6_laws_3, eX6_laws_6, eX6_laws_9, eX6_laws_12, eX6_laws_14, eX6_laws_15, eX6_laws_16, eX6_laws_19, eX6_laws_20, eX6_laws_23, eX6_laws_24, eX6_laws_25, eX6_laws_26, eX6_laws_29, eX6_laws_30, eX6_laws_33, eX6_laws_34, eX6_laws_37, eX6_laws_38, eX6_laws_41, eX6_laws_44, eX6_laws_45, eX6_laws_46, eX6_laws_47, eX6_laws_49, eX6_laws_50, eX6_laws_51, eX6_laws_54, eX6_laws_57, eX6_laws_60, eX6_laws_63, eX6_laws_64, Option.toList_some, Option.toList_none, List.cons_append, List.nil_append, is01_0, is01_1, true_and, r_in, b01_0, wl_0, wr_0, wl_1, wr_1, wl_2, wr_2, wl_3, wr_3, wl_20, wr_20, wl_48, wr_48, wl_57, wr_57, wl_60, wr_60, wl_100, wr_100, wl_255, wr_255, wl_500, wr_500, wl_900, wr_900, wl_999, wr_999, wl_12345, wr_12345, wl_999999, wr_999999, wl_99999999, wr_99999999, wl_1000000000, wr_1000000000, wl_1103515245, wr_1103515245, c, and_self, not_true, if_true, if_false, e3, m_firstLaw hs1 e2, m_allLaws hs1 e2, q]
    · by_cases z1 : z = 1
      · subst z1
        refine ⟨encO (fstL n sy ss sm), h, h', fun Q => ?_, fun Q => ?_, NL, G, w, v, H.m155 e1⟩
        · simp only [eX5_laws_0, eX5_laws_1, eX5_laws_2, eX5_laws_3, eX5_laws_6, eX5_laws_9, eX5_laws_11, eX5_laws_12, eX5_laws_13, eX5_laws_16, eX5_laws_17, eX5_laws_20, eX5_laws_23, eX5_laws_24, eX5_laws_25, eX5_laws_28, eX5_laws_31, eX5_laws_32, eX5_laws_33, eX5_laws_34, eX5_laws_37, eX5_laws_38, eX5_laws_39, eX5_laws_42, eX5_laws_43, eX5_laws_44, eX5_laws_45, eX5_laws_48, eX5_laws_49, eX5_laws_52, Option.toList_some, Option.toList_none, List.cons_append, List.nil_append, is01_0, is01_1, true_and, r_isOutside, b01_0, out_in, c, and_self, if_true, z0, if_false, c_leastLayer hS hs1]
        · have q : (1 : Int32) < 2 := by decide
          simp only [eX6_laws_0, eX6_laws_1, eX6_laws_2, eX6_laws_3, eX6_laws_6, eX6_laws_9, eX6_laws_12, eX6_laws_14, eX6_laws_15, eX6_laws_16, eX6_laws_19, eX6_laws_20, eX6_laws_23, eX6_laws_24, eX6_laws_25, eX6_laws_26, eX6_laws_29, eX6_laws_30, eX6_laws_33, eX6_laws_34, eX6_laws_37, eX6_laws_38, eX6_laws_41, eX6_laws_44, eX6_laws_45, eX6_laws_46, eX6_laws_47, eX6_laws_49, eX6_laws_50, eX6_laws_51, eX6_laws_54, eX6_laws_57, eX6_laws_60, eX6_laws_63, eX6_laws_64, Option.toList_some, Option.toList_none, List.cons_append, List.nil_append, is01_0, is01_1, true_and, r_in, b01_0, wl_0, wr_0, wl_1, wr_1, wl_2, wr_2, wl_3, wr_3, wl_20, wr_20, wl_48, wr_48, wl_57, wr_57, wl_60, wr_60, wl_100, wr_100, wl_255, wr_255, wl_500, wr_500, wl_900, wr_900, wl_999, wr_999, wl_12345, wr_12345, wl_999999, wr_999999, wl_99999999, wr_99999999, wl_1000000000, wr_1000000000, wl_1103515245, wr_1103515245, c, and_self, not_true, if_true, if_false, e3, m_firstLaw hs1 e2, q, z0, not_false_iff]
      · have hz : z = 2 := by
          have h1 := c.1
          have h2 := c.2
          rw [fa_le] at h1 h2
          rw [fa_eq] at z0 z1 ⊢
          have a0 : (0 : Int32).toInt = 0 := rfl
          have a1 : (1 : Int32).toInt = 1 := rfl
          have a2 : (2 : Int32).toInt = 2 := rfl
          omega
        subst hz
        cases hf : fstL n sy ss sm with
        | none =>
          refine ⟨-1, h, h', fun Q => ?_, fun Q => ?_, NL, G, w, v, H.m155 e1⟩
          · simp only [eX5_laws_0, eX5_laws_1, eX5_laws_2, eX5_laws_3, eX5_laws_6, eX5_laws_9, eX5_laws_11, eX5_laws_12, eX5_laws_13, eX5_laws_16, eX5_laws_17, eX5_laws_20, eX5_laws_23, eX5_laws_24, eX5_laws_25, eX5_laws_28, eX5_laws_31, eX5_laws_32, eX5_laws_33, eX5_laws_34, eX5_laws_37, eX5_laws_38, eX5_laws_39, eX5_laws_42, eX5_laws_43, eX5_laws_44, eX5_laws_45, eX5_laws_48, eX5_laws_49, eX5_laws_52, Option.toList_some, Option.toList_none, List.cons_append, List.nil_append, is01_0, is01_1, true_and, r_isOutside, b01_0, out_in, c, and_self, if_true, z0, z1, if_false, c_leastLayer hS hs1, hf, encO_n]
            first | done | simp
          · have q : ¬ (2 : Int32) < 2 := by decide
            have q2 : ¬ (0 : Int32) ≤ -1 := by decide
            simp only [eX6_laws_0, eX6_laws_1, eX6_laws_2, eX6_laws_3, eX6_laws_6, eX6_laws_9, eX6_laws_12, eX6_laws_14, eX6_laws_15, eX6_laws_16, eX6_laws_19, eX6_laws_20, eX6_laws_23, eX6_laws_24, eX6_laws_25, eX6_laws_26, eX6_laws_29, eX6_laws_30, eX6_laws_33, eX6_laws_34, eX6_laws_37, eX6_laws_38, eX6_laws_41, eX6_laws_44, eX6_laws_45, eX6_laws_46, eX6_laws_47, eX6_laws_49, eX6_laws_50, eX6_laws_51, eX6_laws_54, eX6_laws_57, eX6_laws_60, eX6_laws_63, eX6_laws_64, Option.toList_some, Option.toList_none, List.cons_append, List.nil_append, is01_0, is01_1, true_and, r_in, b01_0, wl_0, wr_0, wl_1, wr_1, wl_2, wr_2, wl_3, wr_3, wl_20, wr_20, wl_48, wr_48, wl_57, wr_57, wl_60, wr_60, wl_100, wr_100, wl_255, wr_255, wl_500, wr_500, wl_900, wr_900, wl_999, wr_999, wl_12345, wr_12345, wl_999999, wr_999999, wl_99999999, wr_99999999, wl_1000000000, wr_1000000000, wl_1103515245, wr_1103515245, c, and_self, not_true, if_true, if_false, e3, m_firstLaw hs1 e2, q, q2, z0, not_false_iff, hf, encO_n]
            first | done | simp
        | some y =>
          obtain ⟨y1, y2, y3, -⟩ := xfind_some hf
          have hl : 0 < lawN n sy ss sm y := by simpa using y3
          refine ⟨nI (lpN n sy ss sm y), h, h', fun Q => ?_, fun Q => ?_, NL, G, w, v, H.m155 e1⟩
          · have q3 : ¬ nI y = -1 := fun q => by
              have := congrArg Int32.toInt q
              rw [nI_toInt (by omega)] at this
              have e : (-1 : Int32).toInt = -1 := rfl
              omega
            simp only [eX5_laws_0, eX5_laws_1, eX5_laws_2, eX5_laws_3, eX5_laws_6, eX5_laws_9, eX5_laws_11, eX5_laws_12, eX5_laws_13, eX5_laws_16, eX5_laws_17, eX5_laws_20, eX5_laws_23, eX5_laws_24, eX5_laws_25, eX5_laws_28, eX5_laws_31, eX5_laws_32, eX5_laws_33, eX5_laws_34, eX5_laws_37, eX5_laws_38, eX5_laws_39, eX5_laws_42, eX5_laws_43, eX5_laws_44, eX5_laws_45, eX5_laws_48, eX5_laws_49, eX5_laws_52, Option.toList_some, Option.toList_none, List.cons_append, List.nil_append, is01_0, is01_1, true_and, r_isOutside, b01_0, out_in, c, and_self, if_true, z0, z1, if_false, c_leastLayer hS hs1, hf, encO_s, q3, not_false_iff, c_leastPace hS (show y ≤ 900 by omega)]
          · have q : ¬ (2 : Int32) < 2 := by decide
            have q2 : (0 : Int32) ≤ nI y := (nI_leI (a := 0) (by omega) (by omega)).mpr (by omega)
            have q4 : ¬ nI y < 0 := by rw [Int32.not_lt]; exact q2
            have h2 : 2 ≤ lpN n sy ss sm y := ((lpN_le n).mp (Nat.le_refl _)).1
            simp only [eX6_laws_0, eX6_laws_1, eX6_laws_2, eX6_laws_3, eX6_laws_6, eX6_laws_9, eX6_laws_12, eX6_laws_14, eX6_laws_15, eX6_laws_16, eX6_laws_19, eX6_laws_20, eX6_laws_23, eX6_laws_24, eX6_laws_25, eX6_laws_26, eX6_laws_29, eX6_laws_30, eX6_laws_33, eX6_laws_34, eX6_laws_37, eX6_laws_38, eX6_laws_41, eX6_laws_44, eX6_laws_45, eX6_laws_46, eX6_laws_47, eX6_laws_49, eX6_laws_50, eX6_laws_51, eX6_laws_54, eX6_laws_57, eX6_laws_60, eX6_laws_63, eX6_laws_64, Option.toList_some, Option.toList_none, List.cons_append, List.nil_append, is01_0, is01_1, true_and, r_in, b01_0, wl_0, wr_0, wl_1, wr_1, wl_2, wr_2, wl_3, wr_3, wl_20, wr_20, wl_48, wr_48, wl_57, wr_57, wl_60, wr_60, wl_100, wr_100, wl_255, wr_255, wl_500, wr_500, wl_900, wr_900, wl_999, wr_999, wl_12345, wr_12345, wl_999999, wr_999999, wl_99999999, wr_99999999, wl_1000000000, wr_1000000000, wl_1103515245, wr_1103515245, c, and_self, not_true, if_true, if_false, e3, m_firstLaw hs1 e2, q, q2, q4, hf, encO_s]
            exact m_least hS' hs1 (by omega) hl 2 (lpN n sy ss sm y - 2) 2 (by omega) (by omega)
  · refine OpK.same H ?_
    unfold Both
    simp only [eX5_laws_0, eX5_laws_1, eX5_laws_2, eX5_laws_3, eX5_laws_6, eX5_laws_9, eX5_laws_11, eX5_laws_12, eX5_laws_13, eX5_laws_16, eX5_laws_17, eX5_laws_20, eX5_laws_23, eX5_laws_24, eX5_laws_25, eX5_laws_28, eX5_laws_31, eX5_laws_32, eX5_laws_33, eX5_laws_34, eX5_laws_37, eX5_laws_38, eX5_laws_39, eX5_laws_42, eX5_laws_43, eX5_laws_44, eX5_laws_45, eX5_laws_48, eX5_laws_49, eX5_laws_52, eX6_laws_0, eX6_laws_1, eX6_laws_2, eX6_laws_3, eX6_laws_6, eX6_laws_9, eX6_laws_12, eX6_laws_14, eX6_laws_15, eX6_laws_16, eX6_laws_19, eX6_laws_20, eX6_laws_23, eX6_laws_24, eX6_laws_25, eX6_laws_26, eX6_laws_29, eX6_laws_30, eX6_laws_33, eX6_laws_34, eX6_laws_37, eX6_laws_38, eX6_laws_41, eX6_laws_44, eX6_laws_45, eX6_laws_46, eX6_laws_47, eX6_laws_49, eX6_laws_50, eX6_laws_51, eX6_laws_54, eX6_laws_57, eX6_laws_60, eX6_laws_63, eX6_laws_64, Option.toList_some, Option.toList_none, List.cons_append, List.nil_append, is01_0, is01_1, true_and, r_isOutside, r_in, b01_0, out_in, wl_0, wr_0, wl_1, wr_1, wl_2, wr_2, wl_3, wr_3, wl_20, wr_20, wl_48, wr_48, wl_57, wr_57, wl_60, wr_60, wl_100, wr_100, wl_255, wr_255, wl_500, wr_500, wl_900, wr_900, wl_999, wr_999, wl_12345, wr_12345, wl_999999, wr_999999, wl_99999999, wr_99999999, wl_1000000000, wr_1000000000, wl_1103515245, wr_1103515245, c, not_true, not_false_iff, if_true, if_false]
    first | exact ⟨_, fun _ => rfl, fun _ => rfl⟩ | exact ⟨_, fun _ => rfl⟩
end OPS
