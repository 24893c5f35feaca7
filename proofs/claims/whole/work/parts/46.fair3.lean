/-! FAIR -/
section FC
variable {X : (Nat → Int32) × Nat}
def w00 : Nat → Int32 := fun t => if t = 2 then 12 else 0
theorem w00_n {t : Nat} (h : ¬ t = 2) : w00 t = 0 := by unfold w00; rw [if_neg h]
theorem DW_00 : DW 0 0 w00 := by
  refine ⟨⟨by omega, by omega, ?_, fun _ => ⟨w00_n (by omega), rfl, rfl⟩, fun q => absurd (w00_n (by omega)) q, fun k hk => by omega, fun k hk => by omega⟩, Or.inl (w00_n (by omega)), fun k hk => by omega, ?_⟩
  · rw [w00_n (by omega)]; decide
  · show 1 ≤ (12 : Int32) ∧ (12 : Int32) ≤ 99
    decide
theorem pl_dr (sw : Bool) : (3 ≤ pl sw ∧ pl sw + 5 ≤ dr sw) ∧ dr sw = 8 ∨ (dr sw = 3 ∧ pl sw = 8) := by cases sw <;> decide
theorem pl_not (sw : Bool) : pl (!sw) = dr sw := by cases sw <;> rfl
theorem p_fair : OpK X mX5_fair mX6_fair [.ref 0, .null, .null, .null] [.ref 140, .null] := by
  intro sw h hR
  obtain ⟨NL0, G0, w0, v0, hN, hT, hF, hS, hL, hB, hP, hI, hD⟩ := hR
  obtain ⟨n, hn, t1, t2, t3⟩ := hT
  have ht : ∀ k, k < n → 0 ≤ (h 2 k).toInt := fun k hk => (t3 k hk).2.1
  have hpr := (dr_P sw).r
  have hpd := pl_dr sw
  obtain ⟨b1, b2, b3⟩ := skB_b (t := h 2) (n := n) (a := 0) (by omega)
  obtain ⟨f, fp, NL, G, w, hf, hDW, hcc, hmm⟩ := prs X sw hn ht (dr_P sw) n (skB (h 2) n 0) 0 0 0 w00 (by omega) b2 (by omega) b3 DW_00
  obtain ⟨z1, z1'⟩ := nz hf
  -- the class reads
  let p := dr sw
  let hA := xu (xu (xu (xu (xu (xu (xu (xu (xu (xu h p 0 0) p 1 0) p 2 0) p 3 0) p 4 12) p 5 0) p 6 0) 1 2 0) 1 4 0) 1 5 (-1)
  have hAo : ∀ c, ¬ c = 1 → ¬ c = p → hA c = h c := fun c q1 q2 => by
    show xu _ _ _ _ _ = _
    rw [xun _ _ _ _ _ q1, xun _ _ _ _ _ q1, xun _ _ _ _ _ q1, xun _ _ _ _ _ q2, xun _ _ _ _ _ q2, xun _ _ _ _ _ q2, xun _ _ _ _ _ q2, xun _ _ _ _ _ q2, xun _ _ _ _ _ q2, xun _ _ _ _ _ q2]
  have p1 : ¬ (1 = p) := by show ¬ 1 = dr sw; omega
  have p2 : ¬ (2 = p) := by show ¬ 2 = dr sw; omega
  have p1' : ¬ (p = 1) := fun q => p1 q.symm
  have hA1 : ∀ k, ¬ k = 2 → ¬ k = 4 → ¬ k = 5 → hA 1 k = h 1 k := fun k q1 q2 q3 => by
    show xu _ _ _ _ _ _ = _
    rw [xus, xpn _ _ _ _ q3, xus, xpn _ _ _ _ q2, xus, xpn _ _ _ _ q1, xun _ _ _ _ _ p1, xun _ _ _ _ _ p1, xun _ _ _ _ _ p1, xun _ _ _ _ _ p1, xun _ _ _ _ _ p1, xun _ _ _ _ _ p1, xun _ _ _ _ _ p1]
  have hA2 : hA 1 2 = nI 0 := by show xu _ _ _ _ _ _ = _; simp only [xun, xus, xps, xpn, ne_eq, not_false_eq_true, Nat.reduceEqDiff, not_false_iff]; rfl
  have hA4 : hA 1 4 = 0 := by show xu _ _ _ _ _ _ = _; simp only [xun, xus, xps, xpn, ne_eq, not_false_eq_true, Nat.reduceEqDiff, not_false_iff]
  have hA5 : hA 1 5 = -1 := by show xu _ _ _ _ _ _ = _; simp only [xun, xus, xps, xpn, ne_eq, not_false_eq_true, Nat.reduceEqDiff, not_false_iff]
  have hTA : TC hA (h 2) n := ⟨(hA1 1 (by omega) (by omega) (by omega)).trans t1, fun k hk => by rw [hAo 2 (by omega) p2]⟩
  have hDA : DC hA p 0 0 w00 := by
    have e : ∀ k, hA p k = xu (xu (xu (xu (xu (xu (xu h p 0 0) p 1 0) p 2 0) p 3 0) p 4 12) p 5 0) p 6 0 p k := fun k => by
      show xu _ _ _ _ _ _ = _
      rw [xun _ _ _ _ _ p1', xun _ _ _ _ _ p1', xun _ _ _ _ _ p1']
    refine ⟨⟨⟨?_, ?_, ?_, ?_, ?_, ?_⟩, fun k hk => by omega, fun k hk => by omega⟩, ?_, fun k hk => by omega⟩
    · rw [e, w00_n (t := 0) (by omega)]; simp only [xun, xus, xps, xpn, ne_eq, not_false_eq_true, Nat.reduceEqDiff, not_false_iff]; rfl
    · rw [e, w00_n (t := 0) (by omega)]; simp only [xun, xus, xps, xpn, ne_eq, not_false_eq_true, Nat.reduceEqDiff, not_false_iff]
    · rw [e, w00_n (t := 1) (by omega)]; simp only [xun, xus, xps, xpn, ne_eq, not_false_eq_true, Nat.reduceEqDiff, not_false_iff]
    · rw [e]; simp only [xun, xus, xps, xpn, ne_eq, not_false_eq_true, Nat.reduceEqDiff, not_false_iff]; rfl
    · rw [e]; simp only [xun, xus, xps, xpn, ne_eq, not_false_eq_true, Nat.reduceEqDiff, not_false_iff]; rfl
    · rw [e]; simp only [xun, xus, xps, xpn, ne_eq, not_false_eq_true, Nat.reduceEqDiff, not_false_iff]; rfl
    · rw [e, w00_n (t := 3) (by omega)]; simp only [xun, xus, xps, xpn, ne_eq, not_false_eq_true, Nat.reduceEqDiff, not_false_iff]
  have sk := fun Q => c_skip (X := X) (sw := sw) hn n 0 hA Q (by omega) hTA hA2
  obtain ⟨hc, ⟨u1, u2, u3, u4⟩, e1⟩ := hcc (xu hA 1 2 (nI (skB (h 2) n 0))) (hTA.mv (by simp only [xun, xus, xps, xpn, ne_eq, not_false_eq_true, Nat.reduceEqDiff, not_false_iff]) (by simp only [xun, xus, xps, xpn, ne_eq, not_false_eq_true, Nat.reduceEqDiff, not_false_iff])) (by simp only [xun, xus, xps, xpn, ne_eq, not_false_eq_true, Nat.reduceEqDiff, not_false_iff]) (by simp only [xun, xus, xps, xpn, ne_eq, not_false_eq_true, Nat.reduceEqDiff, not_false_iff]; exact hA4) (hDA.mv (fun c q1 q2 => xun _ _ _ _ _ (by show ¬ c = 1; have : p = dr sw := rfl; omega)))
  have C1 : ∀ Q : Option Value → xG → xH → Prop, EV X mX4_readInto 0 0 0 [.ref 1, .ref (dr sw), .null] [] (Gb sw) h Q = Q (some (.int (nI f))) (Gb sw) hc := fun Q => by
    rw [← e1 Q]
    simp only [eX4_readInto_0, eX4_readInto_1, eX4_readInto_4, eX4_readInto_5, eX4_readInto_6, eX4_readInto_9, eX4_readInto_10, eX4_readInto_11, eX4_readInto_14, eX4_readInto_15, eX4_readInto_16, eX4_readInto_19, eX4_readInto_20, eX4_readInto_23, eX4_readInto_24, eX4_readInto_26, eX4_readInto_29, eX4_readInto_32, eX4_readInto_33, eX4_readInto_36, eX4_readInto_37, eX4_readInto_40, eX4_readInto_43, eX4_readInto_44, eX4_readInto_47, eX4_readInto_50, eX4_readInto_51, eX4_readInto_52, eX4_readInto_55, eX4_readInto_56, eX4_readInto_59, eX4_readInto_62, eX4_readInto_65, eX4_readInto_66, eX4_readInto_69, eX2_clear_0, eX2_clear_1, eX2_clear_2, eX2_clear_5, eX2_clear_6, eX2_clear_7, eX2_clear_10, eX2_clear_11, eX2_clear_12, eX2_clear_15, eX2_clear_16, eX2_clear_17, eX2_clear_20, eX2_clear_21, eX2_clear_23, eX2_clear_26, eX2_clear_27, eX2_clear_28, eX2_clear_31, eX2_clear_32, eX2_clear_33, eX2_clear_36, Option.toList_some, Option.toList_none, List.cons_append, List.nil_append, is01_0, is01_1, true_and, dr_P sw]
    exact sk _
  have hco : ∀ c, ¬ c = 1 → ¬ (p ≤ c ∧ c < p + 5) → hc c = h c := fun c q1 q2 => by
    rw [u1 c q1 q2, xun _ _ _ _ _ q1, hAo c q1 (by omega)]
  have hc5 : hc 1 5 = if f = 0 then -1 else nI fp := by
    rw [u3]
    simp only [xun, xus, xps, xpn, ne_eq, not_false_eq_true, Nat.reduceEqDiff, not_false_iff]
    rw [hA5]
  -- the model reads
  have mod : ∀ (sw : Bool) (h1 : xH), (∀ c, 140 ≤ c → ¬ c = 161 → h1 c = h c) → ∃ h2 : xH, (∀ c, ¬ c = 140 → ¬ (147 ≤ c ∧ c < 151) → h2 c = h1 c) ∧ (∀ k, ¬ (12 ≤ k ∧ k ≤ 26) → h2 140 k = h 140 k) ∧ h2 140 12 = 0 ∧ h2 140 13 = (if f = 0 then -1 else nI fp) ∧ (f = 0 → DM h2 NL G w) ∧ ∀ Q : Option Value → xG → xH → Prop, EV X mX6_fair 0 0 0 [.ref 140, .null] [] (Gb sw) h1 Q = EV X mX6_fair 0 0 62 [.ref 140, .int (nI f)] [] (Gb sw) h2 Q := fun sw h1 g1 => by
    let hM := xu (xu (xu (xu (xu (xu (xu h1 140 13 (-1)) 140 14 0) 140 17 0) 140 19 0) 140 22 0) 140 25 12) 140 26 0
    have m1 : ∀ c, ¬ c = 140 → hM c = h1 c := fun c q => by
      show xu _ _ _ _ _ = _
      rw [xun _ _ _ _ _ q, xun _ _ _ _ _ q, xun _ _ _ _ _ q, xun _ _ _ _ _ q, xun _ _ _ _ _ q, xun _ _ _ _ _ q, xun _ _ _ _ _ q]
    have m2 : ∀ k, ¬ (13 ≤ k ∧ k ≤ 26) → hM 140 k = h 140 k := fun k q => by
      show xu _ _ _ _ _ _ = _
      rw [xus, xpn _ _ _ _ (by omega), xus, xpn _ _ _ _ (by omega), xus, xpn _ _ _ _ (by omega), xus, xpn _ _ _ _ (by omega), xus, xpn _ _ _ _ (by omega), xus, xpn _ _ _ _ (by omega), xus, xpn _ _ _ _ (by omega), g1 140 (by omega) (by omega)]
    have m13 : hM 140 13 = -1 := by show xu _ _ _ _ _ _ = _; simp only [xun, xus, xps, xpn, ne_eq, not_false_eq_true, Nat.reduceEqDiff, not_false_iff]
    have m14 : hM 140 14 = nI 0 := by show xu _ _ _ _ _ _ = _; simp only [xun, xus, xps, xpn, ne_eq, not_false_eq_true, Nat.reduceEqDiff, not_false_iff]; rfl
    have hTM : TM hM (h 2) n := ⟨(m2 12 (by omega)).trans t2, fun k hk => by rw [m1 146 (by omega), g1 146 (by omega) (by omega)]; exact (t3 k hk).1.symm⟩
    have hDM : DM hM 0 0 w00 := by
      refine ⟨⟨?_, fun q => absurd (w00_n (by omega)) q, ?_, ?_, ?_, ?_⟩, fun k hk => by omega, fun k hk => by omega⟩
      · rw [w00_n (t := 0) (by omega)]; show xu _ _ _ _ _ _ = _; simp only [xun, xus, xps, xpn, ne_eq, not_false_eq_true, Nat.reduceEqDiff, not_false_iff]
      · show xu _ _ _ _ _ _ = _; simp only [xun, xus, xps, xpn, ne_eq, not_false_eq_true, Nat.reduceEqDiff, not_false_iff]; rfl
      · show xu _ _ _ _ _ _ = _; simp only [xun, xus, xps, xpn, ne_eq, not_false_eq_true, Nat.reduceEqDiff, not_false_iff]; rfl
      · show xu _ _ _ _ _ _ = _; simp only [xun, xus, xps, xpn, ne_eq, not_false_eq_true, Nat.reduceEqDiff, not_false_iff]; rfl
      · rw [w00_n (t := 3) (by omega)]; show xu _ _ _ _ _ _ = _; simp only [xun, xus, xps, xpn, ne_eq, not_false_eq_true, Nat.reduceEqDiff, not_false_iff]
    obtain ⟨h2, ⟨o1, o2, o3, o4⟩, e2⟩ := hmm sw hM 0 (by omega) rfl hTM m14 hDM
    refine ⟨xu h2 140 12 0, fun c q1 q2 => by rw [xun _ _ _ _ _ q1, o1 c q1 q2, m1 c q1], fun k hk => by rw [xus, xpn _ _ _ _ (by omega), o2 k (by omega), m2 k (by omega)], by rw [xus, xps], by rw [xus, xpn _ _ _ _ (by omega), o3, m13], fun q => ?_, fun Q => ?_⟩
    · obtain ⟨⟨y1, y2, y3, y4, y5, y6⟩, y7, y8⟩ := o4 q
      refine ⟨⟨?_, ?_, ?_, ?_, ?_, ?_⟩, fun k hk => ?_, fun k hk => ?_⟩
      · rw [xus, xpn _ _ _ _ (by omega)]; exact y1
      · rw [xus, xpn _ _ _ _ (by omega)]; exact y2
      · rw [xus, xpn _ _ _ _ (by omega)]; exact y3
      · rw [xus, xpn _ _ _ _ (by omega)]; exact y4
      · rw [xus, xpn _ _ _ _ (by omega)]; exact y5
      · rw [xus, xpn _ _ _ _ (by omega)]; exact y6
      · rw [xun _ _ _ _ _ (by omega), xun _ _ _ _ _ (by omega)]; exact y7 k hk
      · rw [xun _ _ _ _ _ (by omega), xun _ _ _ _ _ (by omega)]; exact y8 k hk
    · have : EV X mX6_fair 0 0 0 [.ref 140, .null] [] (Gb sw) h1 Q = EV X mX6_fair 0 0 38 [.ref 140, .int 0] [] (Gb sw) hM Q := by
        simp only [eX6_fair_0, eX6_fair_1, eX6_fair_2, eX6_fair_5, eX6_fair_6, eX6_fair_7, eX6_fair_10, eX6_fair_11, eX6_fair_12, eX6_fair_15, eX6_fair_16, eX6_fair_17, eX6_fair_20, eX6_fair_21, eX6_fair_22, eX6_fair_25, eX6_fair_26, eX6_fair_28, eX6_fair_31, eX6_fair_32, eX6_fair_33, eX6_fair_36, eX6_fair_37, eX6_fair_39, eX6_fair_42, eX6_fair_43, eX6_fair_46, eX6_fair_49, eX6_fair_50, eX6_fair_53, eX6_fair_54, eX6_fair_57, eX6_fair_58, eX6_fair_59, eX6_fair_62, eX6_fair_63, eX6_fair_66, eX6_fair_68, eX6_fair_69, eX6_fair_70, eX6_fair_71, eX6_fair_72, eX6_fair_75, eX6_fair_76, eX6_fair_77, eX6_fair_80, eX6_fair_81, eX6_fair_82, eX6_fair_85, eX6_fair_86, eX6_fair_87, eX6_fair_90, eX6_fair_91, eX6_fair_92, eX6_fair_95, eX6_fair_96, eX6_fair_99, eX6_fair_100, eX6_fair_101, eX6_fair_102, eX6_fair_103, eX6_fair_106, eX6_fair_107, eX6_fair_108, eX6_fair_109, eX6_fair_110, eX6_fair_113, Option.toList_some, Option.toList_none, List.cons_append, List.nil_append, is01_0, is01_1, true_and]
        rfl
      rw [this, e2 Q]
      simp only [eX6_fair_57, eX6_fair_58, eX6_fair_59]
  have hpl := (pl_P sw).r
  have hpp : p = dr sw := rfl
  obtain ⟨n1, n2, n3, n4, n5, n6⟩ := hN
  by_cases f0 : f = 0
  · have hW := hDW f0
    have hDC : DC hc p NL G w := u4 f0
    rw [if_pos f0] at hc5
    let hC := xu hc 1 1 0
    have hCo : ∀ c, ¬ c = 1 → hC c = hc c := fun c q => by show xu _ _ _ _ _ = _; rw [xun _ _ _ _ _ q]
    have hC5 : hC 1 5 = -1 := by show xu _ _ _ _ _ _ = _; rw [xus, xpn _ _ _ _ (by omega)]; exact hc5
    have hC1 : hC 1 1 = 0 := by show xu _ _ _ _ _ _ = _; rw [xus, xps]
    have hDC' : DC hC (pl (!sw)) NL G w := by
      rw [pl_not]
      exact hDC.mv (fun c q1 q2 => hCo c (by omega))
    have hG := hW.1.2.1
    obtain ⟨hb, g1, sb, eb⟩ := c_begin X (!sw) (pl_P (!sw)) hDC' hG
    let h1 := xu (xu (xu (xu (xu (xu hb 132 0 0) 132 1 0) 132 2 0) 19 1 0) 131 0 0) 131 1 0
    have k1 : ∀ c, ¬ c = 19 → ¬ c = 131 → ¬ c = 132 → h1 c = hb c := fun c q1 q2 q3 => by
      show xu _ _ _ _ _ = _
      rw [xun _ _ _ _ _ q2, xun _ _ _ _ _ q2, xun _ _ _ _ _ q1, xun _ _ _ _ _ q3, xun _ _ _ _ _ q3, xun _ _ _ _ _ q3]
    have kh : ∀ c, ¬ c = 1 → ¬ (p ≤ c ∧ c < p + 5) → ¬ (13 ≤ c ∧ c < 20) → ¬ c = 131 → ¬ c = 132 → h1 c = h c := fun c q1 q2 q3 q4 q5 => by
      rw [k1 c (by omega) q4 q5, g1 c (by omega), hCo c q1, hco c q1 q2]
    obtain ⟨h2, a1, a2, a3, a4, a5, a6⟩ := mod (!sw) h1 (fun c q1 q2 => kh c (by omega) (by omega) (by omega) (by omega) (by omega))
    obtain ⟨h3, b1', b2', b3', b4', b5'⟩ := m_takeRead X (!sw) hW (a5 f0)
    let h4 := xu (xu (xu (xu (xu (xu h3 140 29 0) 140 34 0) 140 37 0) 140 27 0) 161 0 0) 161 1 0
    have q4 : ∀ c, ¬ c = 140 → ¬ c = 161 → h4 c = h3 c := fun c q1 q2 => by
      show xu _ _ _ _ _ = _
      rw [xun _ _ _ _ _ q2, xun _ _ _ _ _ q2, xun _ _ _ _ _ q1, xun _ _ _ _ _ q1, xun _ _ _ _ _ q1, xun _ _ _ _ _ q1]
    have q5 : ∀ k, ¬ k = 27 → ¬ k = 29 → ¬ k = 34 → ¬ k = 37 → h4 140 k = h3 140 k := fun k y1 y2 y3 y4 => by
      show xu _ _ _ _ _ _ = _
      rw [xun _ _ _ _ _ (by omega), xun _ _ _ _ _ (by omega), xus, xpn _ _ _ _ y1, xus, xpn _ _ _ _ y4, xus, xpn _ _ _ _ y3, xus, xpn _ _ _ _ y2]
    have q6 : ∀ c, c < 140 → h4 c = h1 c := fun c q => by rw [q4 c (by omega) (by omega), b1' c (by omega), a1 c (by omega) (by omega)]
    have z29 : h4 140 29 = 0 := by show xu _ _ _ _ _ _ = _; simp only [xun, xus, xps, xpn, ne_eq, not_false_eq_true, Nat.reduceEqDiff, not_false_iff]
    have z34 : h4 140 34 = 0 := by show xu _ _ _ _ _ _ = _; simp only [xun, xus, xps, xpn, ne_eq, not_false_eq_true, Nat.reduceEqDiff, not_false_iff]
    have z37 : h4 140 37 = 0 := by show xu _ _ _ _ _ _ = _; simp only [xun, xus, xps, xpn, ne_eq, not_false_eq_true, Nat.reduceEqDiff, not_false_iff]
    have z27 : h4 140 27 = 0 := by show xu _ _ _ _ _ _ = _; simp only [xun, xus, xps, xpn, ne_eq, not_false_eq_true, Nat.reduceEqDiff, not_false_iff]
    have z161a : h4 161 0 = 0 := by show xu _ _ _ _ _ _ = _; simp only [xun, xus, xps, xpn, ne_eq, not_false_eq_true, Nat.reduceEqDiff, not_false_iff]
    have z161b : h4 161 1 = 0 := by show xu _ _ _ _ _ _ = _; simp only [xun, xus, xps, xpn, ne_eq, not_false_eq_true, Nat.reduceEqDiff, not_false_iff]
    have z131a : h4 131 0 = 0 := by rw [q6 131 (by omega)]; show xu _ _ _ _ _ _ = _; simp only [xun, xus, xps, xpn, ne_eq, not_false_eq_true, Nat.reduceEqDiff, not_false_iff]
    have z131b : h4 131 1 = 0 := by rw [q6 131 (by omega)]; show xu _ _ _ _ _ _ = _; simp only [xun, xus, xps, xpn, ne_eq, not_false_eq_true, Nat.reduceEqDiff, not_false_iff]
    have z132a : h4 132 0 = 0 := by rw [q6 132 (by omega)]; show xu _ _ _ _ _ _ = _; simp only [xun, xus, xps, xpn, ne_eq, not_false_eq_true, Nat.reduceEqDiff, not_false_iff]
    have z132b : h4 132 1 = 0 := by rw [q6 132 (by omega)]; show xu _ _ _ _ _ _ = _; simp only [xun, xus, xps, xpn, ne_eq, not_false_eq_true, Nat.reduceEqDiff, not_false_iff]
    have z132c : h4 132 2 = 0 := by rw [q6 132 (by omega)]; show xu _ _ _ _ _ _ = _; simp only [xun, xus, xps, xpn, ne_eq, not_false_eq_true, Nat.reduceEqDiff, not_false_iff]
    have z191 : h4 19 1 = 0 := by rw [q6 19 (by omega)]; show xu _ _ _ _ _ _ = _; simp only [xun, xus, xps, xpn, ne_eq, not_false_eq_true, Nat.reduceEqDiff, not_false_iff]
    obtain ⟨cc, xx, -, hxx, -, -, hx2, -⟩ := id hP
    have z192 : h4 19 2 = nI xx := by
      rw [q6 19 (by omega)]
      show xu _ _ _ _ _ _ = _
      simp only [xun, xus, xps, xpn, ne_eq, not_false_eq_true, Nat.reduceEqDiff, not_false_iff]
      rw [g1 19 (by omega), hCo 19 (by omega), hco 19 (by omega) (by omega)]
      exact hx2
    have z : nI 0 = 0 := rfl
    have c20 : ¬ (2 : Int32) ≤ 0 := by decide
    have c21 : ¬ (2 : Int32) ≤ 1 := by decide
    have c22 : (2 : Int32) ≤ 2 := by decide
    have i02 : inb 0 2 = True := by apply eq_true; exact inb_nI (n := 0) (by omega) (by omega)
    have i12 : inb 1 2 = True := by apply eq_true; exact inb_nI (n := 1) (by omega) (by omega)
    have e01 : (0 : Int32) + 1 = 1 := by decide
    have e11 : (1 : Int32) + 1 = 2 := by decide
    have hp6 : h1 (pl (!sw)) 6 = nI G := by
      rw [k1 _ (by rw [pl_not]; omega) (by rw [pl_not]; omega) (by rw [pl_not]; omega), g1 _ (by rw [pl_not]; omega)]
      exact hDC'.1.1.2.2.2.2.2
    refine ⟨nI G, !sw, h1, h4, fun Q hq => ?_, fun Q hq => ?_, NL, G, w, v00 w G, ⟨hW.1, SW.beg hW, ?_, ?_, ?_, ?_⟩, ⟨0, by omega, ?_, ?_, fun k hk => by omega⟩, ?_, ⟨0, fun _ => 0, fun _ => 0, fun _ => true, by omega, z132a, z29, fun k hk => by omega⟩, ⟨0, fun _ => 0, fun _ => 0, by omega, z132b, z34, fun k hk => by omega⟩, ⟨0, fun _ => 0, by omega, z132c, z37, fun k hk => by omega⟩, PSr.zero xx hxx z191 z27 z192, fun i hi => ?_, ?_⟩
    · have hd1 : dr sw < 162 := (dr_P sw).k.2
      have hd2 : pl sw < 162 := (pl_P sw).k.2
      have : EV X mX5_fair 0 0 0 [.ref 0, .null, .null, .null] [] (Gb sw) h Q = Q (some (.int (nI G))) (Gb (!sw)) h1 := by
        have st : EV X mX5_fair 0 0 0 [.ref 0, .null, .null, .null] [] (Gb sw) h Q = EV X mX5_fair 0 0 75 [.ref 0, .int (nI f), .ref (pl sw), .int 0] [] (Gb (!sw)) (xu (xu (xu (xu hb 132 0 0) 132 1 0) 132 2 0) 19 1 0) Q := by
          have nf : nI f = 0 := by rw [f0]; rfl
          simp only [eX5_fair_0, eX5_fair_1, eX5_fair_4, eX5_fair_5, eX5_fair_8, eX5_fair_11, eX5_fair_12, eX5_fair_13, eX5_fair_16, eX5_fair_17, eX5_fair_20, eX5_fair_21, eX5_fair_24, eX5_fair_26, eX5_fair_27, eX5_fair_28, eX5_fair_29, eX5_fair_30, eX5_fair_33, eX5_fair_34, eX5_fair_35, eX5_fair_36, eX5_fair_39, eX5_fair_42, eX5_fair_43, eX5_fair_44, eX5_fair_47, eX5_fair_48, eX5_fair_51, eX5_fair_52, eX5_fair_55, eX5_fair_58, eX5_fair_59, eX5_fair_62, eX5_fair_65, eX5_fair_66, eX5_fair_69, eX5_fair_70, eX5_fair_73, eX5_fair_74, eX5_fair_76, eX5_fair_77, eX5_fair_80, eX5_fair_81, eX5_fair_84, eX5_fair_85, eX5_fair_86, eX5_fair_87, eX5_fair_90, eX5_fair_93, eX5_fair_94, eX5_fair_97, eX5_fair_100, eX0_clear_0, eX0_clear_1, eX0_clear_2, eX0_clear_5, eX0_clear_6, eX0_clear_7, eX0_clear_10, eX0_clear_11, eX0_clear_12, eX0_clear_15, Option.toList_some, Option.toList_none, List.cons_append, List.nil_append, is01_0, is01_1, true_and, C1, nf, if_true, not_true, if_false, hd1, hd2, Gb_swap]
          refine (eb _).trans ?_
          simp only [eX5_fair_0, eX5_fair_1, eX5_fair_4, eX5_fair_5, eX5_fair_8, eX5_fair_11, eX5_fair_12, eX5_fair_13, eX5_fair_16, eX5_fair_17, eX5_fair_20, eX5_fair_21, eX5_fair_24, eX5_fair_26, eX5_fair_27, eX5_fair_28, eX5_fair_29, eX5_fair_30, eX5_fair_33, eX5_fair_34, eX5_fair_35, eX5_fair_36, eX5_fair_39, eX5_fair_42, eX5_fair_43, eX5_fair_44, eX5_fair_47, eX5_fair_48, eX5_fair_51, eX5_fair_52, eX5_fair_55, eX5_fair_58, eX5_fair_59, eX5_fair_62, eX5_fair_65, eX5_fair_66, eX5_fair_69, eX5_fair_70, eX5_fair_73, eX5_fair_74, eX5_fair_76, eX5_fair_77, eX5_fair_80, eX5_fair_81, eX5_fair_84, eX5_fair_85, eX5_fair_86, eX5_fair_87, eX5_fair_90, eX5_fair_93, eX5_fair_94, eX5_fair_97, eX5_fair_100, eX0_clear_0, eX0_clear_1, eX0_clear_2, eX0_clear_5, eX0_clear_6, eX0_clear_7, eX0_clear_10, eX0_clear_11, eX0_clear_12, eX0_clear_15, Option.toList_some, Option.toList_none, List.cons_append, List.nil_append, is01_0, is01_1, true_and]
        rw [st, eX5_fair_75]
        simp only [eX5_fair_0, eX5_fair_1, eX5_fair_4, eX5_fair_5, eX5_fair_8, eX5_fair_11, eX5_fair_12, eX5_fair_13, eX5_fair_16, eX5_fair_17, eX5_fair_20, eX5_fair_21, eX5_fair_24, eX5_fair_26, eX5_fair_27, eX5_fair_28, eX5_fair_29, eX5_fair_30, eX5_fair_33, eX5_fair_34, eX5_fair_35, eX5_fair_36, eX5_fair_39, eX5_fair_42, eX5_fair_43, eX5_fair_44, eX5_fair_47, eX5_fair_48, eX5_fair_51, eX5_fair_52, eX5_fair_55, eX5_fair_58, eX5_fair_59, eX5_fair_62, eX5_fair_65, eX5_fair_66, eX5_fair_69, eX5_fair_70, eX5_fair_73, eX5_fair_74, eX5_fair_76, eX5_fair_77, eX5_fair_80, eX5_fair_81, eX5_fair_84, eX5_fair_85, eX5_fair_86, eX5_fair_87, eX5_fair_90, eX5_fair_93, eX5_fair_94, eX5_fair_97, eX5_fair_100, Option.toList_some, Option.toList_none, List.cons_append, List.nil_append, is01_0, is01_1, true_and, c20, if_false, tc0, i02, e01]
        rw [eX5_fair_75]
        simp only [eX5_fair_0, eX5_fair_1, eX5_fair_4, eX5_fair_5, eX5_fair_8, eX5_fair_11, eX5_fair_12, eX5_fair_13, eX5_fair_16, eX5_fair_17, eX5_fair_20, eX5_fair_21, eX5_fair_24, eX5_fair_26, eX5_fair_27, eX5_fair_28, eX5_fair_29, eX5_fair_30, eX5_fair_33, eX5_fair_34, eX5_fair_35, eX5_fair_36, eX5_fair_39, eX5_fair_42, eX5_fair_43, eX5_fair_44, eX5_fair_47, eX5_fair_48, eX5_fair_51, eX5_fair_52, eX5_fair_55, eX5_fair_58, eX5_fair_59, eX5_fair_62, eX5_fair_65, eX5_fair_66, eX5_fair_69, eX5_fair_70, eX5_fair_73, eX5_fair_74, eX5_fair_76, eX5_fair_77, eX5_fair_80, eX5_fair_81, eX5_fair_84, eX5_fair_85, eX5_fair_86, eX5_fair_87, eX5_fair_90, eX5_fair_93, eX5_fair_94, eX5_fair_97, eX5_fair_100, Option.toList_some, Option.toList_none, List.cons_append, List.nil_append, is01_0, is01_1, true_and, c21, if_false, tc1, i12, e11]
        rw [eX5_fair_75]
        simp only [eX5_fair_0, eX5_fair_1, eX5_fair_4, eX5_fair_5, eX5_fair_8, eX5_fair_11, eX5_fair_12, eX5_fair_13, eX5_fair_16, eX5_fair_17, eX5_fair_20, eX5_fair_21, eX5_fair_24, eX5_fair_26, eX5_fair_27, eX5_fair_28, eX5_fair_29, eX5_fair_30, eX5_fair_33, eX5_fair_34, eX5_fair_35, eX5_fair_36, eX5_fair_39, eX5_fair_42, eX5_fair_43, eX5_fair_44, eX5_fair_47, eX5_fair_48, eX5_fair_51, eX5_fair_52, eX5_fair_55, eX5_fair_58, eX5_fair_59, eX5_fair_62, eX5_fair_65, eX5_fair_66, eX5_fair_69, eX5_fair_70, eX5_fair_73, eX5_fair_74, eX5_fair_76, eX5_fair_77, eX5_fair_80, eX5_fair_81, eX5_fair_84, eX5_fair_85, eX5_fair_86, eX5_fair_87, eX5_fair_90, eX5_fair_93, eX5_fair_94, eX5_fair_97, eX5_fair_100, Option.toList_some, Option.toList_none, List.cons_append, List.nil_append, is01_0, is01_1, true_and, c22, if_true, pl_P]
        rw [← hp6]
      rw [this]; exact hq
    · rw [a6 Q]
      have nf : nI f ≤ 0 := by rw [f0]; decide
      have ib02 : inb 0 2 = True := i02
      simp only [eX6_fair_0, eX6_fair_1, eX6_fair_2, eX6_fair_5, eX6_fair_6, eX6_fair_7, eX6_fair_10, eX6_fair_11, eX6_fair_12, eX6_fair_15, eX6_fair_16, eX6_fair_17, eX6_fair_20, eX6_fair_21, eX6_fair_22, eX6_fair_25, eX6_fair_26, eX6_fair_28, eX6_fair_31, eX6_fair_32, eX6_fair_33, eX6_fair_36, eX6_fair_37, eX6_fair_39, eX6_fair_42, eX6_fair_43, eX6_fair_46, eX6_fair_49, eX6_fair_50, eX6_fair_53, eX6_fair_54, eX6_fair_57, eX6_fair_58, eX6_fair_59, eX6_fair_62, eX6_fair_63, eX6_fair_66, eX6_fair_68, eX6_fair_69, eX6_fair_70, eX6_fair_71, eX6_fair_72, eX6_fair_75, eX6_fair_76, eX6_fair_77, eX6_fair_80, eX6_fair_81, eX6_fair_82, eX6_fair_85, eX6_fair_86, eX6_fair_87, eX6_fair_90, eX6_fair_91, eX6_fair_92, eX6_fair_95, eX6_fair_96, eX6_fair_99, eX6_fair_100, eX6_fair_101, eX6_fair_102, eX6_fair_103, eX6_fair_106, eX6_fair_107, eX6_fair_108, eX6_fair_109, eX6_fair_110, eX6_fair_113, Option.toList_some, Option.toList_none, List.cons_append, List.nil_append, is01_0, is01_1, true_and, nf, if_true, b5', tc0, tc1, i02, i12]
      have e5 : h4 140 5 = nI G := by rw [q5 5 (by omega) (by omega) (by omega) (by omega)]; exact b3'.1.2.2.2.2
      rw [← e5] at hq
      exact hq
    · rw [pl_not]
      have e : ∀ c, p ≤ c → c < p + 5 → h4 c = hc c := fun c y1 y2 => by
        rw [q6 c (by omega), k1 c (by omega) (by omega) (by omega), g1 c (by omega), hCo c (by omega)]
      exact hDC.1.mv (e _ (by omega) (by omega)) (e _ (by omega) (by omega)) (e _ (by omega) (by omega)) (e _ (by omega) (by omega))
    · refine b3'.mv (q5 _ (by omega) (by omega) (by omega) (by omega)) (q5 _ (by omega) (by omega) (by omega) (by omega)) (q5 _ (by omega) (by omega) (by omega) (by omega)) (q5 _ (by omega) (by omega) (by omega) (by omega)) (q5 _ (by omega) (by omega) (by omega) (by omega)) (q4 _ (by omega) (by omega)) (q4 _ (by omega) (by omega)) (q4 _ (by omega) (by omega))
    · have e : ∀ c, 13 ≤ c → c < 19 → h4 c = hb c := fun c y1 y2 => by rw [q6 c (by omega), k1 c (by omega) (by omega) (by omega)]
      exact sb.mv (fun k _ => by rw [e _ (by omega) (by omega)]) (e _ (by omega) (by omega)) (e _ (by omega) (by omega)) (e _ (by omega) (by omega)) (e _ (by omega) (by omega)) (e _ (by omega) (by omega))
    · exact b4'.mv (q4 145 (by omega) (by omega))
    · rw [q6 1 (by omega), k1 1 (by omega) (by omega) (by omega), g1 1 (by omega), hC1]; rfl
    · rw [q5 12 (by omega) (by omega) (by omega) (by omega), b2' 12 (by omega) (by omega) (by omega) (by omega) (by omega), a3]; rfl
    · show h4 1 5 = h4 140 13
      rw [q6 1 (by omega), k1 1 (by omega) (by omega) (by omega), g1 1 (by omega), hC5, q5 13 (by omega) (by omega) (by omega) (by omega), b2' 13 (by omega) (by omega) (by omega) (by omega) (by omega), a4, if_pos f0]
    · rcases (show i = 0 ∨ i = 1 by omega) with rfl | rfl
      · rw [z131a, z161a]; exact ⟨rfl, Or.inl rfl, fun q => absurd q (by decide)⟩
      · rw [z131b, z161b]; exact ⟨rfl, Or.inl rfl, fun q => absurd q (by decide)⟩
    · refine hD.mv ?_ ?_
      · rw [q6 0 (by omega), kh 0 (by omega) (by omega) (by omega) (by omega) (by omega)]
      · rw [q5 10 (by omega) (by omega) (by omega) (by omega), b2' 10 (by omega) (by omega) (by omega) (by omega) (by omega), a2 10 (by omega)]
  · rw [if_neg f0] at hc5
    let h1 := xu hc 1 1 0
    have k1 : ∀ c, ¬ c = 1 → h1 c = hc c := fun c q => by show xu _ _ _ _ _ = _; rw [xun _ _ _ _ _ q]
    have kh : ∀ c, ¬ c = 1 → ¬ (p ≤ c ∧ c < p + 5) → h1 c = h c := fun c q1 q2 => by rw [k1 c q1, hco c q1 q2]
    obtain ⟨h2, a1, a2, a3, a4, a5, a6⟩ := mod sw h1 (fun c q1 q2 => kh c (by omega) (by omega))
    rw [if_neg f0] at a4
    have kk : ∀ c, ¬ c = 1 → ¬ (p ≤ c ∧ c < p + 5) → ¬ c = 140 → ¬ (147 ≤ c ∧ c < 151) → h2 c = h c := fun c q1 q2 q3 q4 => by rw [a1 c q3 q4, kh c q1 q2]
    refine ⟨-10 - nI f, sw, h1, h2, fun Q hq => ?_, fun Q hq => ?_, NL0, G0, w0, v0, ⟨n1, n2, n3.mv ?_ ?_ ?_ ?_, n4.mv (a2 _ (by omega)) (a2 _ (by omega)) (a2 _ (by omega)) (a2 _ (by omega)) (a2 _ (by omega)) ?_ ?_ ?_, n5.mv (fun k _ => ?_) ?_ ?_ ?_ ?_ ?_, n6.mv ?_⟩, ⟨0, by omega, ?_, ?_, fun k hk => by omega⟩, ?_, hS.mv ?_ (a2 _ (by omega)) ?_ ?_ ?_ ?_ ?_ ?_, hL.mv ?_ (a2 _ (by omega)) ?_ ?_ ?_ ?_, hB.mv ?_ (a2 _ (by omega)) ?_ ?_ ?_ ?_, hP.mv ?_ (a2 _ (by omega)) (fun a q1 q2 => ?_) ?_, hI.mv ?_ ?_ (fun a q1 q2 => ?_) ?_, hD.mv ?_ (a2 _ (by omega))⟩
    all_goals first
      | (rw [kk _ (by omega) (by omega) (by omega) (by omega)]; done)
      | skip
    · have : EV X mX5_fair 0 0 0 [.ref 0, .null, .null, .null] [] (Gb sw) h Q = Q (some (.int (-10 - nI f))) (Gb sw) h1 := by
        simp only [eX5_fair_0, eX5_fair_1, eX5_fair_4, eX5_fair_5, eX5_fair_8, eX5_fair_11, eX5_fair_12, eX5_fair_13, eX5_fair_16, eX5_fair_17, eX5_fair_20, eX5_fair_21, eX5_fair_24, eX5_fair_26, eX5_fair_27, eX5_fair_28, eX5_fair_29, eX5_fair_30, eX5_fair_33, eX5_fair_34, eX5_fair_35, eX5_fair_36, eX5_fair_39, eX5_fair_42, eX5_fair_43, eX5_fair_44, eX5_fair_47, eX5_fair_48, eX5_fair_51, eX5_fair_52, eX5_fair_55, eX5_fair_58, eX5_fair_59, eX5_fair_62, eX5_fair_65, eX5_fair_66, eX5_fair_69, eX5_fair_70, eX5_fair_73, eX5_fair_74, eX5_fair_76, eX5_fair_77, eX5_fair_80, eX5_fair_81, eX5_fair_84, eX5_fair_85, eX5_fair_86, eX5_fair_87, eX5_fair_90, eX5_fair_93, eX5_fair_94, eX5_fair_97, eX5_fair_100, Option.toList_some, Option.toList_none, List.cons_append, List.nil_append, is01_0, is01_1, true_and, C1, z1, f0, if_false, not_false_iff, if_true]
        rfl
      rw [this]; exact hq
    · rw [a6 Q]
      simp only [eX6_fair_0, eX6_fair_1, eX6_fair_2, eX6_fair_5, eX6_fair_6, eX6_fair_7, eX6_fair_10, eX6_fair_11, eX6_fair_12, eX6_fair_15, eX6_fair_16, eX6_fair_17, eX6_fair_20, eX6_fair_21, eX6_fair_22, eX6_fair_25, eX6_fair_26, eX6_fair_28, eX6_fair_31, eX6_fair_32, eX6_fair_33, eX6_fair_36, eX6_fair_37, eX6_fair_39, eX6_fair_42, eX6_fair_43, eX6_fair_46, eX6_fair_49, eX6_fair_50, eX6_fair_53, eX6_fair_54, eX6_fair_57, eX6_fair_58, eX6_fair_59, eX6_fair_62, eX6_fair_63, eX6_fair_66, eX6_fair_68, eX6_fair_69, eX6_fair_70, eX6_fair_71, eX6_fair_72, eX6_fair_75, eX6_fair_76, eX6_fair_77, eX6_fair_80, eX6_fair_81, eX6_fair_82, eX6_fair_85, eX6_fair_86, eX6_fair_87, eX6_fair_90, eX6_fair_91, eX6_fair_92, eX6_fair_95, eX6_fair_96, eX6_fair_99, eX6_fair_100, eX6_fair_101, eX6_fair_102, eX6_fair_103, eX6_fair_106, eX6_fair_107, eX6_fair_108, eX6_fair_109, eX6_fair_110, eX6_fair_113, Option.toList_some, Option.toList_none, List.cons_append, List.nil_append, is01_0, is01_1, true_and, z1', f0, if_false, not_false_iff, if_true]
      exact hq
    · rw [a1 1 (by omega) (by omega)]; show xu _ _ _ _ _ _ = _; rw [xus, xps]; rfl
    · rw [a3]; rfl
    · show h2 1 5 = h2 140 13
      rw [a4, a1 1 (by omega) (by omega)]
      show xu _ _ _ _ _ _ = _
      rw [xus, xpn _ _ _ _ (by omega), hc5]
end FC
