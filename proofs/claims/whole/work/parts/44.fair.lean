/-! the whole text; a fair -/
section FA
variable {t : Nat → Int32} {n : Nat} {X : (Nat → Int32) × Nat} {sw : Bool}
theorem c_skipX (X : (Nat → Int32) × Nat) (sw : Bool) (hn : n ≤ 240) {h : xH} {x : Nat} (hx : x ≤ 240) (hT : TC h t n) (h2 : h 1 2 = nI x) : ∃ h' : xH, (∀ c, ¬ c = 1 → h' c = h c) ∧ (∀ k, ¬ k = 2 → h' 1 k = h 1 k) ∧ ∀ Q : Option Value → xG → xH → Prop, EV X mX4_skipBlanks 0 0 0 [.ref 1] [] (Gb sw) h Q = Q none (Gb sw) h' := by
  by_cases q : x ≤ n
  · exact ⟨xu h 1 2 (nI (skB t n x)), fun c hc => xun _ _ _ _ _ hc, fun k hk => by rw [xus, xpn _ _ _ _ hk], fun Q => c_skip hn (n - x) x h Q (by omega) hT h2⟩
  · refine ⟨h, fun _ _ => rfl, fun _ _ => rfl, fun Q => ?_⟩
    rw [eX4_skipBlanks_0]
    simp only [eX4_skipBlanks_1, eX4_skipBlanks_4, eX4_skipBlanks_5, eX4_skipBlanks_8, eX4_skipBlanks_11, eX4_skipBlanks_12, eX4_skipBlanks_15, eX4_skipBlanks_16, eX4_skipBlanks_19, eX4_skipBlanks_20, eX4_skipBlanks_22, eX4_skipBlanks_25, eX4_skipBlanks_26, eX4_skipBlanks_27, eX4_skipBlanks_30, eX4_skipBlanks_31, eX4_skipBlanks_32, eX4_skipBlanks_35, eX4_skipBlanks_38, Option.toList_some, Option.toList_none, List.cons_append, List.nil_append, is01_0, is01_1, true_and, hT.1, h2]
    rw [if_pos (nI_le (by omega) (by omega))]
theorem prs (X : (Nat → Int32) × Nat) (sw : Bool) (hn : n ≤ 240) (ht : ∀ k, k < n → 0 ≤ (t k).toInt) {p : Nat} (hp : isP p) : ∀ (r a c NL G : Nat) (w : Nat → Int32), n ≤ a + r → a ≤ n → c ≤ a → (a < n → ¬ t a = 32) → DW NL G w → ∃ (f fp NL' G' : Nat) (w' : Nat → Int32), f ≤ 4 ∧ (f = 0 → DW NL' G' w') ∧
    (∀ h : xH, TC h t n → h 1 2 = nI a → h 1 4 = 0 → DC h p NL G w → ∃ h' : xH, ((∀ c, ¬ c = 1 → ¬ (p ≤ c ∧ c < p + 5) → h' c = h c) ∧ h' 1 1 = h 1 1 ∧ h' 1 5 = (if f = 0 then h 1 5 else nI fp) ∧ (f = 0 → DC h' p NL' G' w')) ∧ ∀ Q : Option Value → xG → xH → Prop, EV X mX4_readInto 0 0 25 [.ref 1, .ref p, .int (nI c)] [] (Gb sw) h Q = Q (some (.int (nI f))) (Gb sw) h') ∧
    (∀ (sw : Bool) (h : xH) (a0 : Nat), a0 ≤ n → skB t n a0 = a → TM h t n → h 140 14 = nI a0 → DM h NL G w → ∃ h' : xH, ((∀ c, ¬ c = 140 → ¬ (147 ≤ c ∧ c < 151) → h' c = h c) ∧ (∀ k, ¬ (13 ≤ k ∧ k ≤ 26) → h' 140 k = h 140 k) ∧ h' 140 13 = (if f = 0 then h 140 13 else nI fp) ∧ (f = 0 → DM h' NL' G' w')) ∧ ∀ Q : Option Value → xG → xH → Prop, EV X mX6_fair 0 0 38 [.ref 140, .int 0] [] (Gb sw) h Q = EV X mX6_fair 0 0 57 [.ref 140, .int (nI f)] [] (Gb sw) h' Q) := by
  have hpr := hp.r
  have done : ∀ (a c NL G : Nat) (w : Nat → Int32), a = n → c ≤ a → DW NL G w → ∃ (f fp NL' G' : Nat) (w' : Nat → Int32), f ≤ 4 ∧ (f = 0 → DW NL' G' w') ∧
    (∀ h : xH, TC h t n → h 1 2 = nI a → h 1 4 = 0 → DC h p NL G w → ∃ h' : xH, ((∀ c, ¬ c = 1 → ¬ (p ≤ c ∧ c < p + 5) → h' c = h c) ∧ h' 1 1 = h 1 1 ∧ h' 1 5 = (if f = 0 then h 1 5 else nI fp) ∧ (f = 0 → DC h' p NL' G' w')) ∧ ∀ Q : Option Value → xG → xH → Prop, EV X mX4_readInto 0 0 25 [.ref 1, .ref p, .int (nI c)] [] (Gb sw) h Q = Q (some (.int (nI f))) (Gb sw) h') ∧
    (∀ (sw : Bool) (h : xH) (a0 : Nat), a0 ≤ n → skB t n a0 = a → TM h t n → h 140 14 = nI a0 → DM h NL G w → ∃ h' : xH, ((∀ c, ¬ c = 140 → ¬ (147 ≤ c ∧ c < 151) → h' c = h c) ∧ (∀ k, ¬ (13 ≤ k ∧ k ≤ 26) → h' 140 k = h 140 k) ∧ h' 140 13 = (if f = 0 then h 140 13 else nI fp) ∧ (f = 0 → DM h' NL' G' w')) ∧ ∀ Q : Option Value → xG → xH → Prop, EV X mX6_fair 0 0 38 [.ref 140, .int 0] [] (Gb sw) h Q = EV X mX6_fair 0 0 57 [.ref 140, .int (nI f)] [] (Gb sw) h' Q) := by
    intro a c NL G w ha hc hW
    subst ha
    refine ⟨0, 0, NL, G, w, by omega, fun _ => hW, fun h hT h2 h4 hD => ⟨h, ⟨fun _ _ _ => rfl, rfl, rfl, fun _ => hD⟩, fun Q => ?_⟩, fun sw h a0 h0 hs hT h14 hD => ?_⟩
    · rw [eX4_readInto_25]
      have z : nI 0 = 0 := rfl
      simp only [eX4_readInto_0, eX4_readInto_1, eX4_readInto_4, eX4_readInto_5, eX4_readInto_6, eX4_readInto_9, eX4_readInto_10, eX4_readInto_11, eX4_readInto_14, eX4_readInto_15, eX4_readInto_16, eX4_readInto_19, eX4_readInto_20, eX4_readInto_23, eX4_readInto_24, eX4_readInto_26, eX4_readInto_29, eX4_readInto_32, eX4_readInto_33, eX4_readInto_36, eX4_readInto_37, eX4_readInto_40, eX4_readInto_43, eX4_readInto_44, eX4_readInto_47, eX4_readInto_50, eX4_readInto_51, eX4_readInto_52, eX4_readInto_55, eX4_readInto_56, eX4_readInto_59, eX4_readInto_62, eX4_readInto_65, eX4_readInto_66, eX4_readInto_69, Option.toList_some, Option.toList_none, List.cons_append, List.nil_append, is01_0, is01_1, true_and, hp, hT.1, h2, h4, Int32.le_refl, if_true, z]
      by_cases q : 240 ≤ nI c <;> simp only [q, if_true, if_false]
    · have hh := fun Q => m_here (X := X) (sw := sw) hn (a - a0) a0 h Q (by omega) hT h14
      rw [hs, if_neg (Nat.lt_irrefl _)] at hh
      refine ⟨xu h 140 14 (nI a), ⟨fun c q1 q2 => xun _ _ _ _ _ q1, fun k hk => by rw [xus, xpn _ _ _ _ (by omega)], by rw [if_pos rfl, xus, xpn _ _ _ _ (by omega)], fun _ => hD.mv (fun k q1 q2 => by rw [xus, xpn _ _ _ _ q2]) (fun c hc => xun _ _ _ _ _ hc)⟩, fun Q => ?_⟩
      rw [eX6_fair_38]
      have z : ¬ (0 : Int32) ≤ -1 := by decide
      have z' : (-1 : Int32) < 0 := by decide
      simp only [eX6_fair_0, eX6_fair_1, eX6_fair_2, eX6_fair_5, eX6_fair_6, eX6_fair_7, eX6_fair_10, eX6_fair_11, eX6_fair_12, eX6_fair_15, eX6_fair_16, eX6_fair_17, eX6_fair_20, eX6_fair_21, eX6_fair_22, eX6_fair_25, eX6_fair_26, eX6_fair_28, eX6_fair_31, eX6_fair_32, eX6_fair_33, eX6_fair_36, eX6_fair_37, eX6_fair_39, eX6_fair_42, eX6_fair_43, eX6_fair_46, eX6_fair_49, eX6_fair_50, eX6_fair_53, eX6_fair_54, eX6_fair_58, eX6_fair_59, eX6_fair_62, eX6_fair_63, eX6_fair_66, eX6_fair_68, eX6_fair_69, eX6_fair_70, eX6_fair_71, eX6_fair_72, eX6_fair_75, eX6_fair_76, eX6_fair_77, eX6_fair_80, eX6_fair_81, eX6_fair_82, eX6_fair_85, eX6_fair_86, eX6_fair_87, eX6_fair_90, eX6_fair_91, eX6_fair_92, eX6_fair_95, eX6_fair_96, eX6_fair_99, eX6_fair_100, eX6_fair_101, eX6_fair_102, eX6_fair_103, eX6_fair_106, eX6_fair_107, eX6_fair_108, eX6_fair_109, eX6_fair_110, eX6_fair_113, Option.toList_some, Option.toList_none, List.cons_append, List.nil_append, is01_0, is01_1, true_and, if_true, not_true, if_false, hh, z, z']
      rfl
  intro r
  induction r with
  | zero =>
    intro a c NL G w hr ha hc hb hW
    exact done a c NL G w (by omega) hc hW
  | succ r ih =>
    intro a c NL G w hr ha hc hb hW
    by_cases han : a = n
    · exact done a c NL G w han hc hW
    · have haln : a < n := by omega
      obtain ⟨f, fp, a', NL1, G1, w1, hf, hD1, hcc, hmm⟩ := clz X sw hn hp haln (hb haln) hW
      obtain ⟨z1, -⟩ := nz hf
      have l240 : ¬ (240 : Int32) ≤ nI c := nI_ge (b := 240) (by omega) (by omega)
      have lat : ¬ nI n ≤ nI a := nI_ge (by omega) (by omega)
      have hta : (0 : Int32) ≤ t a := by rw [fa_le]; exact ht a haln
      have hta' : ¬ t a < 0 := by rw [Int32.not_lt]; exact hta
      have mhere : ∀ (sw : Bool) (h : xH) (a0 : Nat) (Q : Option Value → xG → xH → Prop), a0 ≤ n → skB t n a0 = a → TM h t n → h 140 14 = nI a0 → EV X mX6_here 0 0 0 [.ref 140] [] (Gb sw) h Q = Q (some (.int (t a))) (Gb sw) (xu h 140 14 (nI a)) := fun sw h a0 Q h0 hs hT h14 => by
        have := m_here (X := X) (sw := sw) hn (n - a0) a0 h Q (by omega) hT h14
        rw [hs, if_pos haln] at this
        exact this
      by_cases f0 : f = 0
      · subst f0
        obtain ⟨x1, x2, x3⟩ := hD1 rfl
        obtain ⟨b1, b2, b3⟩ := skB_b (t := t) x2
        obtain ⟨f2, fp2, NL2, G2, w2, hf2, hD2, hcc2, hmm2⟩ := ih (skB t n a') (c + 1) NL1 G1 w1 (by omega) b2 (by omega) b3 x3
        refine ⟨f2, fp2, NL2, G2, w2, hf2, hD2, fun h hT h2 h4 hD => ?_, fun sw h a0 h0 hs hT h14 hD => ?_⟩
        · obtain ⟨h1, ⟨o1, o2, o3, o4, o5⟩, e1⟩ := hcc h hT h2 h4 hD
          obtain ⟨y1, y2, y3⟩ := o4 rfl
          have hT1 : TC h1 t n := hT.mv o2 (o1 2 (by omega) (by omega))
          have sk := fun Q => c_skip (X := X) (sw := sw) hn (n - a') a' h1 Q (by omega) hT1 y2
          obtain ⟨h', ⟨u1, u2, u3, u4⟩, e2⟩ := hcc2 (xu h1 1 2 (nI (skB t n a'))) (hT1.mv (by simp only [xun, xus, xps, xpn, ne_eq, not_false_eq_true, Nat.reduceEqDiff, not_false_iff]) (by simp only [xun, xus, xps, xpn, ne_eq, not_false_eq_true, Nat.reduceEqDiff, not_false_iff])) (by simp only [xun, xus, xps, xpn, ne_eq, not_false_eq_true, Nat.reduceEqDiff, not_false_iff]) (by simp only [xun, xus, xps, xpn, ne_eq, not_false_eq_true, Nat.reduceEqDiff, not_false_iff]; exact o3) (y3.mv (fun c q1 q2 => xun _ _ _ _ _ (by omega)))
          refine ⟨h', ⟨fun c q1 q2 => by rw [u1 c q1 q2, xun _ _ _ _ _ q1, o1 c q1 q2], by rw [u2]; simp only [xun, xus, xps, xpn, ne_eq, not_false_eq_true, Nat.reduceEqDiff, not_false_iff]; exact o2, ?_, u4⟩, fun Q => ?_⟩
          · rw [u3]
            simp only [xun, xus, xps, xpn, ne_eq, not_false_eq_true, Nat.reduceEqDiff, not_false_iff]
            rw [y1]
          · rw [← e2 Q]
            conv => lhs; rw [eX4_readInto_25]
            simp only [eX4_readInto_0, eX4_readInto_1, eX4_readInto_4, eX4_readInto_5, eX4_readInto_6, eX4_readInto_9, eX4_readInto_10, eX4_readInto_11, eX4_readInto_14, eX4_readInto_15, eX4_readInto_16, eX4_readInto_19, eX4_readInto_20, eX4_readInto_23, eX4_readInto_24, eX4_readInto_26, eX4_readInto_29, eX4_readInto_32, eX4_readInto_33, eX4_readInto_36, eX4_readInto_37, eX4_readInto_40, eX4_readInto_43, eX4_readInto_44, eX4_readInto_47, eX4_readInto_50, eX4_readInto_51, eX4_readInto_52, eX4_readInto_55, eX4_readInto_56, eX4_readInto_59, eX4_readInto_62, eX4_readInto_65, eX4_readInto_66, eX4_readInto_69, Option.toList_some, Option.toList_none, List.cons_append, List.nil_append, is01_0, is01_1, true_and, hp, hT.1, h2, h4, l240, lat, if_false, if_true, not_true, e1, sk, nI_1]
        · have hT0 : TM (xu h 140 14 (nI a)) t n := hT.mv (by simp only [xun, xus, xps, xpn, ne_eq, not_false_eq_true, Nat.reduceEqDiff, not_false_iff]) (by simp only [xun, xus, xps, xpn, ne_eq, not_false_eq_true, Nat.reduceEqDiff, not_false_iff])
          obtain ⟨h1, ⟨o1, o2, o3, o4⟩, e1⟩ := hmm sw (xu h 140 14 (nI a)) hT0 (by simp only [xun, xus, xps, xpn, ne_eq, not_false_eq_true, Nat.reduceEqDiff, not_false_iff]) (hD.mv (fun k q1 q2 => by rw [xus, xpn _ _ _ _ q2]) (fun c hc => xun _ _ _ _ _ hc))
          obtain ⟨y1, y2, y3⟩ := o3 rfl
          obtain ⟨h', ⟨u1, u2, u3, u4⟩, e2⟩ := hmm2 sw h1 a' x2 rfl (hT0.mv (o2 12 (by omega)) (o1 146 (by omega) (by omega))) y2 y3
          refine ⟨h', ⟨fun c q1 q2 => by rw [u1 c q1 q2, o1 c q1 q2, xun _ _ _ _ _ q1], fun k hk => by rw [u2 k hk, o2 k hk, xus, xpn _ _ _ _ (by omega)], ?_, u4⟩, fun Q => ?_⟩
          · rw [u3, y1, xus, xpn _ _ _ _ (by omega)]
          · rw [← e2 Q]
            conv => lhs; rw [eX6_fair_38]
            have z : nI 0 = 0 := rfl
            simp only [eX6_fair_0, eX6_fair_1, eX6_fair_2, eX6_fair_5, eX6_fair_6, eX6_fair_7, eX6_fair_10, eX6_fair_11, eX6_fair_12, eX6_fair_15, eX6_fair_16, eX6_fair_17, eX6_fair_20, eX6_fair_21, eX6_fair_22, eX6_fair_25, eX6_fair_26, eX6_fair_28, eX6_fair_31, eX6_fair_32, eX6_fair_33, eX6_fair_36, eX6_fair_37, eX6_fair_39, eX6_fair_42, eX6_fair_43, eX6_fair_46, eX6_fair_49, eX6_fair_50, eX6_fair_53, eX6_fair_54, eX6_fair_58, eX6_fair_59, eX6_fair_62, eX6_fair_63, eX6_fair_66, eX6_fair_68, eX6_fair_69, eX6_fair_70, eX6_fair_71, eX6_fair_72, eX6_fair_75, eX6_fair_76, eX6_fair_77, eX6_fair_80, eX6_fair_81, eX6_fair_82, eX6_fair_85, eX6_fair_86, eX6_fair_87, eX6_fair_90, eX6_fair_91, eX6_fair_92, eX6_fair_95, eX6_fair_96, eX6_fair_99, eX6_fair_100, eX6_fair_101, eX6_fair_102, eX6_fair_103, eX6_fair_106, eX6_fair_107, eX6_fair_108, eX6_fair_109, eX6_fair_110, eX6_fair_113, Option.toList_some, Option.toList_none, List.cons_append, List.nil_append, is01_0, is01_1, true_and, if_true, not_true, if_false, mhere sw h a0 _ h0 hs hT h14, hta, hta', e1, z]
      · refine ⟨f, fp, NL1, G1, w1, hf, fun q => absurd q f0, fun h hT h2 h4 hD => ?_, fun sw h a0 h0 hs hT h14 hD => ?_⟩
        · obtain ⟨h1, ⟨o1, o2, o3, o4, o5⟩, e1⟩ := hcc h hT h2 h4 hD
          obtain ⟨y1, x, y2, y3⟩ := o5 f0
          have hT1 : TC h1 t n := hT.mv o2 (o1 2 (by omega) (by omega))
          obtain ⟨h', v1, v2, v3⟩ := c_skipX X sw hn y2 hT1 y3
          refine ⟨h', ⟨fun c q1 q2 => by rw [v1 c q1, o1 c q1 q2], by rw [v2 1 (by omega), o2], by rw [v2 5 (by omega), y1, if_neg f0], fun q => absurd q f0⟩, fun Q => ?_⟩
          have q4 : h' 1 4 = nI f := by rw [v2 4 (by omega)]; exact o3
          rw [eX4_readInto_25]
          simp only [eX4_readInto_0, eX4_readInto_1, eX4_readInto_4, eX4_readInto_5, eX4_readInto_6, eX4_readInto_9, eX4_readInto_10, eX4_readInto_11, eX4_readInto_14, eX4_readInto_15, eX4_readInto_16, eX4_readInto_19, eX4_readInto_20, eX4_readInto_23, eX4_readInto_24, eX4_readInto_26, eX4_readInto_29, eX4_readInto_32, eX4_readInto_33, eX4_readInto_36, eX4_readInto_37, eX4_readInto_40, eX4_readInto_43, eX4_readInto_44, eX4_readInto_47, eX4_readInto_50, eX4_readInto_51, eX4_readInto_52, eX4_readInto_55, eX4_readInto_56, eX4_readInto_59, eX4_readInto_62, eX4_readInto_65, eX4_readInto_66, eX4_readInto_69, Option.toList_some, Option.toList_none, List.cons_append, List.nil_append, is01_0, is01_1, true_and, hp, hT.1, h2, h4, l240, lat, if_false, if_true, not_true, e1, v3, nI_1]
          rw [eX4_readInto_25]
          simp only [eX4_readInto_0, eX4_readInto_1, eX4_readInto_4, eX4_readInto_5, eX4_readInto_6, eX4_readInto_9, eX4_readInto_10, eX4_readInto_11, eX4_readInto_14, eX4_readInto_15, eX4_readInto_16, eX4_readInto_19, eX4_readInto_20, eX4_readInto_23, eX4_readInto_24, eX4_readInto_26, eX4_readInto_29, eX4_readInto_32, eX4_readInto_33, eX4_readInto_36, eX4_readInto_37, eX4_readInto_40, eX4_readInto_43, eX4_readInto_44, eX4_readInto_47, eX4_readInto_50, eX4_readInto_51, eX4_readInto_52, eX4_readInto_55, eX4_readInto_56, eX4_readInto_59, eX4_readInto_62, eX4_readInto_65, eX4_readInto_66, eX4_readInto_69, Option.toList_some, Option.toList_none, List.cons_append, List.nil_append, is01_0, is01_1, true_and, hp, q4, z1, f0, if_false, not_false_iff, if_true]
          by_cases k1 : 240 ≤ nI (c + 1) <;> by_cases k2 : h' 1 1 ≤ h' 1 2 <;> simp only [k1, k2, if_true, if_false]
        · have hT0 : TM (xu h 140 14 (nI a)) t n := hT.mv (by simp only [xun, xus, xps, xpn, ne_eq, not_false_eq_true, Nat.reduceEqDiff, not_false_iff]) (by simp only [xun, xus, xps, xpn, ne_eq, not_false_eq_true, Nat.reduceEqDiff, not_false_iff])
          obtain ⟨h1, ⟨o1, o2, o3, o4⟩, e1⟩ := hmm sw (xu h 140 14 (nI a)) hT0 (by simp only [xun, xus, xps, xpn, ne_eq, not_false_eq_true, Nat.reduceEqDiff, not_false_iff]) (hD.mv (fun k q1 q2 => by rw [xus, xpn _ _ _ _ q2]) (fun c hc => xun _ _ _ _ _ hc))
          refine ⟨h1, ⟨fun c q1 q2 => by rw [o1 c q1 q2, xun _ _ _ _ _ q1], fun k hk => by rw [o2 k hk, xus, xpn _ _ _ _ (by omega)], by rw [o4 f0, if_neg f0], fun q => absurd q f0⟩, fun Q => ?_⟩
          rw [eX6_fair_38]
          simp only [eX6_fair_0, eX6_fair_1, eX6_fair_2, eX6_fair_5, eX6_fair_6, eX6_fair_7, eX6_fair_10, eX6_fair_11, eX6_fair_12, eX6_fair_15, eX6_fair_16, eX6_fair_17, eX6_fair_20, eX6_fair_21, eX6_fair_22, eX6_fair_25, eX6_fair_26, eX6_fair_28, eX6_fair_31, eX6_fair_32, eX6_fair_33, eX6_fair_36, eX6_fair_37, eX6_fair_39, eX6_fair_42, eX6_fair_43, eX6_fair_46, eX6_fair_49, eX6_fair_50, eX6_fair_53, eX6_fair_54, eX6_fair_58, eX6_fair_59, eX6_fair_62, eX6_fair_63, eX6_fair_66, eX6_fair_68, eX6_fair_69, eX6_fair_70, eX6_fair_71, eX6_fair_72, eX6_fair_75, eX6_fair_76, eX6_fair_77, eX6_fair_80, eX6_fair_81, eX6_fair_82, eX6_fair_85, eX6_fair_86, eX6_fair_87, eX6_fair_90, eX6_fair_91, eX6_fair_92, eX6_fair_95, eX6_fair_96, eX6_fair_99, eX6_fair_100, eX6_fair_101, eX6_fair_102, eX6_fair_103, eX6_fair_106, eX6_fair_107, eX6_fair_108, eX6_fair_109, eX6_fair_110, eX6_fair_113, Option.toList_some, Option.toList_none, List.cons_append, List.nil_append, is01_0, is01_1, true_and, if_true, not_true, if_false, mhere sw h a0 _ h0 hs hT h14, hta, hta', e1]
          rw [eX6_fair_38]
          simp only [eX6_fair_0, eX6_fair_1, eX6_fair_2, eX6_fair_5, eX6_fair_6, eX6_fair_7, eX6_fair_10, eX6_fair_11, eX6_fair_12, eX6_fair_15, eX6_fair_16, eX6_fair_17, eX6_fair_20, eX6_fair_21, eX6_fair_22, eX6_fair_25, eX6_fair_26, eX6_fair_28, eX6_fair_31, eX6_fair_32, eX6_fair_33, eX6_fair_36, eX6_fair_37, eX6_fair_39, eX6_fair_42, eX6_fair_43, eX6_fair_46, eX6_fair_49, eX6_fair_50, eX6_fair_53, eX6_fair_54, eX6_fair_58, eX6_fair_59, eX6_fair_62, eX6_fair_63, eX6_fair_66, eX6_fair_68, eX6_fair_69, eX6_fair_70, eX6_fair_71, eX6_fair_72, eX6_fair_75, eX6_fair_76, eX6_fair_77, eX6_fair_80, eX6_fair_81, eX6_fair_82, eX6_fair_85, eX6_fair_86, eX6_fair_87, eX6_fair_90, eX6_fair_91, eX6_fair_92, eX6_fair_95, eX6_fair_96, eX6_fair_99, eX6_fair_100, eX6_fair_101, eX6_fair_102, eX6_fair_103, eX6_fair_106, eX6_fair_107, eX6_fair_108, eX6_fair_109, eX6_fair_110, eX6_fair_113, Option.toList_some, Option.toList_none, List.cons_append, List.nil_append, is01_0, is01_1, true_and, z1, f0, if_false, not_false_iff, if_true]
end FA
