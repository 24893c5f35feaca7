/-! the clauses of a text -/
def DC (h : xH) (p NL G : Nat) (w : Nat → Int32) : Prop := PC h p NL G w ∧ h p 1 = w 3 ∧ ∀ k, k < G → h (p + 3) k = w (40 + k)
def DM (h : xH) (NL G : Nat) (w : Nat → Int32) : Prop := (h 140 17 = w 0 ∧ (¬ w 0 = 0 → h 140 18 = w 1) ∧ h 140 19 = nI NL ∧ h 140 22 = nI G ∧ h 140 25 = w 2 ∧ h 140 26 = w 3) ∧ (∀ k, k < NL → h 147 k = w (10 + k) ∧ h 148 k = w (20 + k)) ∧ ∀ k, k < G → h 149 k = w (40 + k) ∧ h 150 k = w (30 + k)
def DW (NL G : Nat) (w : Nat → Int32) : Prop := PW NL G w ∧ (w 3 = 0 ∨ w 3 = 1) ∧ (∀ k, k < G → 0 ≤ w (40 + k) ∧ w (40 + k) ≤ 99) ∧ 1 ≤ w 2 ∧ w 2 ≤ 99
def CO (h h' : xH) (p f fp a' NL' G' : Nat) (w' : Nat → Int32) : Prop := (∀ c, ¬ c = 1 → ¬ (p ≤ c ∧ c < p + 5) → h' c = h c) ∧ h' 1 1 = h 1 1 ∧ h' 1 4 = nI f ∧ (f = 0 → h' 1 5 = h 1 5 ∧ h' 1 2 = nI a' ∧ DC h' p NL' G' w') ∧ (¬ f = 0 → h' 1 5 = nI fp ∧ ∃ x, x ≤ 240 ∧ h' 1 2 = nI x)
def MO (h h' : xH) (g gp a2 NL' G' : Nat) (w' : Nat → Int32) : Prop := (∀ c, ¬ c = 140 → ¬ (147 ≤ c ∧ c < 151) → h' c = h c) ∧ (∀ k, ¬ (13 ≤ k ∧ k ≤ 26) → h' 140 k = h 140 k) ∧ (g = 0 → h' 140 13 = h 140 13 ∧ h' 140 14 = nI a2 ∧ DM h' NL' G' w') ∧ (¬ g = 0 → h' 140 13 = nI gp)
def Body (X : (Nat → Int32) × Nat) (sw : Bool) (t : Nat → Int32) (n p : Nat) (Mc : xM) (ac : List Value) (Mm : xM) (am : List Value) (a NL G : Nat) (w : Nat → Int32) : Prop := ∃ (g gp a2 NL' G' : Nat) (w' : Nat → Int32), g ≤ 4 ∧ (g = 0 → a ≤ a2 ∧ a2 ≤ n ∧ DW NL' G' w') ∧
  (∀ (sw : Bool) (h : xH), TM h t n → h 140 14 = nI a → DM h NL G w → ∃ h' : xH, MO h h' g gp a2 NL' G' w' ∧ ∀ Q : Option Value → xG → xH → Prop, EV X Mm 0 0 0 am [] (Gb sw) h Q = Q (some (.int (nI g))) (Gb sw) h') ∧
  (∀ h : xH, TC h t n → h 1 2 = nI a → h 1 4 = 0 → DC h p NL G w → ∃ h' : xH, CO h h' p (if g = 0 then clF t n a2 else g) (if g = 0 then skB t n a2 else gp) (skB t n a2 + 1) NL' G' w' ∧ ∀ Q : Option Value → xG → xH → Prop, EV X Mc 0 0 0 ac [] (Gb sw) h Q = Q none (Gb sw) h')
theorem DC.mv {h h' : xH} {p NL G : Nat} {w : Nat → Int32} (H : DC h p NL G w) (e : ∀ c, p ≤ c → c < p + 5 → h' c = h c) : DC h' p NL G w := ⟨H.1.mv (e _ (by omega) (by omega)) (e _ (by omega) (by omega)) (e _ (by omega) (by omega)) (e _ (by omega) (by omega)), by rw [e p (by omega) (by omega)]; exact H.2.1, fun k hk => by rw [e (p + 3) (by omega) (by omega)]; exact H.2.2 k hk⟩
section CL
variable {t : Nat → Int32} {n : Nat} {X : (Nat → Int32) × Nat} {sw : Bool}
theorem nm_b {a : Nat} (ha : a ≤ n) : a ≤ skB t n a ∧ skB t n a ≤ nmE t n a ∧ nmE t n a ≤ n := by
  obtain ⟨b1, b2, -⟩ := skB_b (t := t) ha
  obtain ⟨e1, e2, -⟩ := fgB_b (t := t) b2
  exact ⟨b1, e1, e2⟩
theorem nmF_b {a L M : Nat} : nmF t n L M a ≤ 2 ∧ (nmF t n L M a = 0 → L ≤ nmV t n a ∧ nmV t n a ≤ M) := by
  unfold nmF
  split
  · exact ⟨by omega, fun q => by omega⟩
  · split
    · exact ⟨by omega, fun q => by omega⟩
    · rename_i q
      exact ⟨by omega, fun _ => by omega⟩
theorem TC.mv {h h' : xH} (H : TC h t n) (e1 : h' 1 1 = h 1 1) (e2 : h' 2 = h 2) : TC h' t n := ⟨e1.trans H.1, fun k hk => by rw [e2]; exact H.2 k hk⟩
theorem TM.mv {h h' : xH} (H : TM h t n) (e1 : h' 140 12 = h 140 12) (e2 : h' 146 = h 146) : TM h' t n := ⟨e1.trans H.1, fun k hk => by rw [e2]; exact H.2 k hk⟩
theorem nz {f : Nat} (h : f ≤ 4) : ((nI f = 0) = (f = 0)) ∧ ((nI f ≤ 0) = (f = 0)) := by
  refine ⟨eq_nI (b := 0) (by omega) (by omega), ?_⟩
  have : (nI f ≤ 0) = (f ≤ 0) := le_nI (b := 0) (by omega) (by omega)
  rw [this]
  apply propext
  omega
theorem n00 : (nI 0 ≤ 0) = True := by decide
theorem n0e : (nI 0 = 0) = True := by decide
theorem isP.r {p : Nat} (hp : isP p) : 3 ≤ p ∧ p ≤ 8 := by rcases hp with rfl | rfl <;> omega
theorem nI_rg {V L M : Nat} (h1 : L ≤ V) (h2 : V ≤ M) (hM : M < 2147483648) : nI L ≤ nI V ∧ nI V ≤ nI M := ⟨nI_le h1 (by omega), nI_le h2 hM⟩
theorem b_end (X : (Nat → Int32) × Nat) (sw : Bool) (hn : n ≤ 240) {p : Nat} (hp : isP p) {a NL G : Nat} {w : Nat → Int32} (ha : a ≤ n) (hW : DW NL G w) : Body X sw t n p mX4_readEnd [.ref 1, .ref p, .null, .null] mX6_takeFair [.ref 140, .null] a NL G w := by
  have hpr := hp.r
  obtain ⟨m1, m2, m3⟩ := nm_b (t := t) ha
  obtain ⟨m4, m5, m6⟩ := nm_b (t := t) m3
  obtain ⟨F1, F1'⟩ := nmF_b (t := t) (n := n) (a := a) (L := 10) (M := 900)
  obtain ⟨F2, F2'⟩ := nmF_b (t := t) (n := n) (a := nmE t n a) (L := 1) (M := 8)
  obtain ⟨z1, z1'⟩ := nz (f := nmF t n 10 900 a) (by omega)
  obtain ⟨z2, z2'⟩ := nz (f := nmF t n 1 8 (nmE t n a)) (by omega)
  by_cases f1 : nmF t n 10 900 a = 0
  · obtain ⟨v1, v1'⟩ := F1' f1
    by_cases f2 : nmF t n 1 8 (nmE t n a) = 0
    · obtain ⟨v2, v2'⟩ := F2' f2
      have e0 : ∀ x, ¬ x = 0 → ¬ x = 1 → xp (xp w 0 (nI (nmV t n a))) 1 (nI (nmV t n (nmE t n a))) x = w x := fun x q1 q2 => by rw [xpn _ _ _ _ q2, xpn _ _ _ _ q1]
      have w0 : xp (xp w 0 (nI (nmV t n a))) 1 (nI (nmV t n (nmE t n a))) 0 = nI (nmV t n a) := by rw [xpn _ _ _ _ (by omega), xps]
      have w1 : xp (xp w 0 (nI (nmV t n a))) 1 (nI (nmV t n (nmE t n a))) 1 = nI (nmV t n (nmE t n a)) := xps _ _ _
      have w0z : ¬ nI (nmV t n a) = 0 := nI_ne0 (by omega) (by omega)
      refine ⟨0, 0, nmE t n (nmE t n a), NL, G, xp (xp w 0 (nI (nmV t n a))) 1 (nI (nmV t n (nmE t n a))), by omega, fun _ => ⟨by omega, by omega, ?_⟩, fun sw h hT h14 hD => ?_, fun h hT h2 h4 hD => ?_⟩
      · obtain ⟨⟨p1, p2, p3, p4, p5, p6, p7⟩, q1, q2, q3⟩ := hW
        refine ⟨⟨p1, p2, ?_, ?_, ?_, fun k hk => ?_, fun k hk => ?_⟩, ?_, fun k hk => ?_, ?_⟩
        · rw [w0]; exact nI_rg (L := 0) (M := 900) (by omega) (by omega) (by omega)
        · rw [w0]; exact fun z => absurd z w0z
        · intro _
          rw [w1, e0 2 (by omega) (by omega)]
          obtain ⟨r1, r2⟩ := nI_rg v2 v2' (by omega)
          exact ⟨r1, r2, q3.1, q3.2⟩
        · rw [e0 _ (by omega) (by omega), e0 _ (by omega) (by omega)]; exact p6 k hk
        · rw [e0 _ (by omega) (by omega)]; exact p7 k hk
        · rw [e0 _ (by omega) (by omega)]; exact q1
        · rw [e0 _ (by omega) (by omega)]; exact q2 k hk
        · rw [e0 _ (by omega) (by omega)]; exact q3
      · obtain ⟨h1, a1, a2, a3, a4, a5⟩ := m_num X sw hn ha hT h14 10 900 (by omega) (by omega)
        obtain ⟨b1, b2, b3⟩ := a3 f1
        rw [if_pos f1] at a4
        let h2 := xu h1 140 17 (nI (nmV t n a))
        have hT2 : TM h2 t n := hT.mv (by show xu _ _ _ _ _ _ = _; simp only [xun, xus, xps, xpn, ne_eq, not_false_eq_true, Nat.reduceEqDiff, not_false_iff]; exact a2 12 (by omega)) (by show xu _ _ _ _ _ = _; simp only [xun, xus, xps, xpn, ne_eq, not_false_eq_true, Nat.reduceEqDiff, not_false_iff]; exact a1 146 (by omega))
        obtain ⟨h3, c1, c2, c3, c4, c5⟩ := m_num X sw hn m3 hT2 (h := h2) (by show xu _ _ _ _ _ _ = _; simp only [xun, xus, xps, xpn, ne_eq, not_false_eq_true, Nat.reduceEqDiff, not_false_iff]; exact b1) 1 8 (by omega) (by omega)
        obtain ⟨d1, d2, d3⟩ := c3 f2
        rw [if_pos f2] at c4
        have k2 : ∀ k, ¬ k = 17 → h2 140 k = h1 140 k := fun k hk => by show xu _ _ _ _ _ _ = _; rw [xus, xpn _ _ _ _ hk]
        have k17 : h2 140 17 = nI (nmV t n a) := by show xu _ _ _ _ _ _ = _; rw [xus, xps]
        have o2 : ∀ c, ¬ c = 140 → h2 c = h1 c := fun c hc => by show xu _ _ _ _ _ = _; rw [xun _ _ _ _ _ hc]
        have kk : ∀ k, ¬ k = 17 → ¬ (13 ≤ k ∧ k ≤ 16) → h3 140 k = h 140 k := fun k q1 q2 => by rw [c2 k q2, k2 k q1, a2 k q2]
        have oo : ∀ c, ¬ c = 140 → h3 c = h c := fun c hc => by rw [c1 c hc, o2 c hc, a1 c hc]
        refine ⟨xu h3 140 18 (nI (nmV t n (nmE t n a))), ⟨fun c q1 q2 => by rw [xun _ _ _ _ _ q1, oo c q1], fun k hk => by rw [xus, xpn _ _ _ _ (by omega), kk k (by omega) (by omega)], fun _ => ⟨?_, ?_, ⟨?_, ?_, ?_, ?_, ?_, ?_⟩, fun k hk => ?_, fun k hk => ?_⟩, fun q => absurd rfl q⟩, fun Q => ?_⟩
        · rw [xus, xpn _ _ _ _ (by omega), c4, k2 13 (by omega), a4]
        · rw [xus, xpn _ _ _ _ (by omega), d1]
        · rw [xus, xpn _ _ _ _ (by omega), c2 17 (by omega), k17, w0]
        · intro _; rw [xus, xps, w1]
        · rw [xus, xpn _ _ _ _ (by omega), kk 19 (by omega) (by omega)]; exact hD.1.2.2.1
        · rw [xus, xpn _ _ _ _ (by omega), kk 22 (by omega) (by omega)]; exact hD.1.2.2.2.1
        · rw [xus, xpn _ _ _ _ (by omega), kk 25 (by omega) (by omega), e0 _ (by omega) (by omega)]; exact hD.1.2.2.2.2.1
        · rw [xus, xpn _ _ _ _ (by omega), kk 26 (by omega) (by omega), e0 _ (by omega) (by omega)]; exact hD.1.2.2.2.2.2
        · rw [xun _ _ _ _ _ (by omega), xun _ _ _ _ _ (by omega), oo _ (by omega), oo _ (by omega), e0 _ (by omega) (by omega), e0 _ (by omega) (by omega)]; exact hD.2.1 k hk
        · rw [xun _ _ _ _ _ (by omega), xun _ _ _ _ _ (by omega), oo _ (by omega), oo _ (by omega), e0 _ (by omega) (by omega), e0 _ (by omega) (by omega)]; exact hD.2.2 k hk
        · have a5' : ∀ Q : Option Value → xG → xH → Prop, EV X mX6_takeNumber 0 0 0 [.ref 140, .int 10, .int 900, .null] [] (Gb sw) h Q = Q (some (.int (nI (nmF t n 10 900 a)))) (Gb sw) h1 := a5
          have c5' : ∀ Q : Option Value → xG → xH → Prop, EV X mX6_takeNumber 0 0 0 [.ref 140, .int 1, .int 8, .null] [] (Gb sw) (xu h1 140 17 (nI (nmV t n a))) Q = Q (some (.int (nI (nmF t n 1 8 (nmE t n a))))) (Gb sw) h3 := c5
          simp only [eX6_takeFair_0, eX6_takeFair_1, eX6_takeFair_3, eX6_takeFair_6, eX6_takeFair_9, eX6_takeFair_10, eX6_takeFair_11, eX6_takeFair_12, eX6_takeFair_15, eX6_takeFair_18, eX6_takeFair_19, eX6_takeFair_22, eX6_takeFair_23, eX6_takeFair_26, eX6_takeFair_27, eX6_takeFair_28, eX6_takeFair_30, eX6_takeFair_33, eX6_takeFair_34, eX6_takeFair_35, eX6_takeFair_36, eX6_takeFair_39, eX6_takeFair_42, eX6_takeFair_43, Option.toList_some, Option.toList_none, List.cons_append, List.nil_append, is01_0, is01_1, true_and, a5', b2, f1, n00, if_true, c5', d2, f2]
      · obtain ⟨h1, a1, a2, a3, a4, a5, a6, a7⟩ := c_num X sw hn ha hT h2 h4 10 900 (by omega) (by omega)
        rw [f1] at a5
        rw [if_pos f1] at a6
        obtain ⟨h3, c1, c2, c3, c4, c5, c6, c7⟩ := c_num X sw hn m3 (h := h1) (hT.mv a2 (a1 2 (by omega))) a3 a5 1 8 (by omega) (by omega)
        rw [f2] at c5
        rw [if_pos f2] at c6
        obtain ⟨h5, d1, d2, d3, d4, d5, d6⟩ := c_close X sw hn m6 (h := h3) ((hT.mv a2 (a1 2 (by omega))).mv c2 (c1 2 (by omega))) c3 c5
        have a7' : ∀ Q : Option Value → xG → xH → Prop, EV X mX4_readNumber 0 0 0 [.ref 1, .int 10, .int 900, .null, .null] [] (Gb sw) h Q = Q (some (.int (nI (nmV t n a)))) (Gb sw) h1 := a7
        have c7' : ∀ Q : Option Value → xG → xH → Prop, EV X mX4_readNumber 0 0 0 [.ref 1, .int 1, .int 8, .null, .null] [] (Gb sw) h1 Q = Q (some (.int (nI (nmV t n (nmE t n a))))) (Gb sw) h3 := c7
        have oo : ∀ c, ¬ c = 1 → h5 c = h c := fun c hc => by rw [d1 c hc, c1 c hc, a1 c hc]
        rw [if_pos rfl, if_pos rfl]
        by_cases f3 : clF t n (nmE t n (nmE t n a)) = 0
        · rw [f3] at d4 ⊢
          rw [if_pos f3] at d5
          refine ⟨xu (xu (xu h5 p 0 1) p 2 (nI (nmV t n a))) p 3 (nI (nmV t n (nmE t n a))), ⟨fun c q1 q2 => by rw [xun _ _ _ _ _ (by omega), xun _ _ _ _ _ (by omega), xun _ _ _ _ _ (by omega), oo c q1], ?_, ?_, fun _ => ⟨?_, ?_, ⟨⟨?_, ?_, ?_, ?_, ?_, ?_⟩, fun k hk => ?_, fun k hk => ?_⟩, ?_, fun k hk => ?_⟩, fun q => absurd rfl q⟩, fun Q => ?_⟩
          · rw [xun _ _ _ _ _ (by omega), xun _ _ _ _ _ (by omega), xun _ _ _ _ _ (by omega), d2, c2, a2]
          · rw [xun _ _ _ _ _ (by omega), xun _ _ _ _ _ (by omega), xun _ _ _ _ _ (by omega), d4]
          · rw [xun _ _ _ _ _ (by omega), xun _ _ _ _ _ (by omega), xun _ _ _ _ _ (by omega), d5, c6, a6]
          · rw [xun _ _ _ _ _ (by omega), xun _ _ _ _ _ (by omega), xun _ _ _ _ _ (by omega), d3.1 f3]
          · rw [w0]
            simp only [xun, xus, xps, xpn, ne_eq, not_false_eq_true, Nat.reduceEqDiff, not_false_iff]
            unfold b01
            rw [if_pos w0z]
          · rw [w0]; simp only [xun, xus, xps, xpn, ne_eq, not_false_eq_true, Nat.reduceEqDiff, not_false_iff]
          · rw [w1]; simp only [xun, xus, xps, xpn, ne_eq, not_false_eq_true, Nat.reduceEqDiff, not_false_iff]
          · rw [e0 _ (by omega) (by omega)]; simp only [xun, xus, xps, xpn, ne_eq, not_false_eq_true, Nat.reduceEqDiff, not_false_iff]; rw [oo _ (by omega)]; exact hD.1.1.2.2.2.1
          · simp only [xun, xus, xps, xpn, ne_eq, not_false_eq_true, Nat.reduceEqDiff, not_false_iff]; rw [oo _ (by omega)]; exact hD.1.1.2.2.2.2.1
          · simp only [xun, xus, xps, xpn, ne_eq, not_false_eq_true, Nat.reduceEqDiff, not_false_iff]; rw [oo _ (by omega)]; exact hD.1.1.2.2.2.2.2
          · rw [xun _ _ _ _ _ (by omega), xun _ _ _ _ _ (by omega), xun _ _ _ _ _ (by omega), xun _ _ _ _ _ (by omega), xun _ _ _ _ _ (by omega), xun _ _ _ _ _ (by omega), oo _ (by omega), oo _ (by omega), e0 _ (by omega) (by omega), e0 _ (by omega) (by omega)]; exact hD.1.2.1 k hk
          · rw [xun _ _ _ _ _ (by omega), xun _ _ _ _ _ (by omega), xun _ _ _ _ _ (by omega), oo _ (by omega), e0 _ (by omega) (by omega)]; exact hD.1.2.2 k hk
          · rw [e0 _ (by omega) (by omega)]; simp only [xun, xus, xps, xpn, ne_eq, not_false_eq_true, Nat.reduceEqDiff, not_false_iff]; rw [oo _ (by omega)]; exact hD.2.1
          · rw [xun _ _ _ _ _ (by omega), xun _ _ _ _ _ (by omega), xun _ _ _ _ _ (by omega), oo _ (by omega), e0 _ (by omega) (by omega)]; exact hD.2.2 k hk
          · have d4' : h5 1 4 = 0 := d4
            simp only [eX4_readEnd_0, eX4_readEnd_1, eX4_readEnd_3, eX4_readEnd_6, eX4_readEnd_9, eX4_readEnd_10, eX4_readEnd_11, eX4_readEnd_12, eX4_readEnd_14, eX4_readEnd_17, eX4_readEnd_18, eX4_readEnd_19, eX4_readEnd_22, eX4_readEnd_23, eX4_readEnd_26, eX4_readEnd_29, eX4_readEnd_30, eX4_readEnd_31, eX4_readEnd_32, eX4_readEnd_35, eX2_setEnd_0, eX2_setEnd_1, eX2_setEnd_2, eX2_setEnd_5, eX2_setEnd_6, eX2_setEnd_7, eX2_setEnd_10, eX2_setEnd_11, eX2_setEnd_12, eX2_setEnd_15, Option.toList_some, Option.toList_none, List.cons_append, List.nil_append, is01_0, is01_1, true_and, hp, a7', c7', d6, d4', if_true, not_true, if_false]
        · have hc1 : clF t n (nmE t n (nmE t n a)) = 1 := by unfold clF at f3 ⊢; split at f3; exact absurd rfl f3; rename_i q; rw [if_neg q]
          rw [hc1] at d4 d5 ⊢
          rw [if_neg (by omega)] at d5
          refine ⟨h5, ⟨fun c q1 q2 => oo c q1, by rw [d2, c2, a2], d4, fun q => absurd q (by omega), fun _ => ⟨d5, skB t n (nmE t n (nmE t n a)), by have := (skB_b (t := t) m6).2.1; omega, d3.2 f3⟩⟩, fun Q => ?_⟩
          have d4' : ¬ h5 1 4 = 0 := by rw [d4]; decide
          simp only [eX4_readEnd_0, eX4_readEnd_1, eX4_readEnd_3, eX4_readEnd_6, eX4_readEnd_9, eX4_readEnd_10, eX4_readEnd_11, eX4_readEnd_12, eX4_readEnd_14, eX4_readEnd_17, eX4_readEnd_18, eX4_readEnd_19, eX4_readEnd_22, eX4_readEnd_23, eX4_readEnd_26, eX4_readEnd_29, eX4_readEnd_30, eX4_readEnd_31, eX4_readEnd_32, eX4_readEnd_35, eX2_setEnd_0, eX2_setEnd_1, eX2_setEnd_2, eX2_setEnd_5, eX2_setEnd_6, eX2_setEnd_7, eX2_setEnd_10, eX2_setEnd_11, eX2_setEnd_12, eX2_setEnd_15, Option.toList_some, Option.toList_none, List.cons_append, List.nil_append, is01_0, is01_1, true_and, hp, a7', c7', d6, d4', if_true, not_false_iff, if_false]
    · refine ⟨nmF t n 1 8 (nmE t n a), skB t n (nmE t n a), 0, NL, G, w, by omega, fun q => absurd q f2, fun sw h hT h14 hD => ?_, fun h hT h2 h4 hD => ?_⟩
      · obtain ⟨h1, a1, a2, a3, a4, a5⟩ := m_num X sw hn ha hT h14 10 900 (by omega) (by omega)
        obtain ⟨b1, b2, b3⟩ := a3 f1
        let h2 := xu h1 140 17 (nI (nmV t n a))
        have hT2 : TM h2 t n := hT.mv (by show xu _ _ _ _ _ _ = _; simp only [xun, xus, xps, xpn, ne_eq, not_false_eq_true, Nat.reduceEqDiff, not_false_iff]; exact a2 12 (by omega)) (by show xu _ _ _ _ _ = _; simp only [xun, xus, xps, xpn, ne_eq, not_false_eq_true, Nat.reduceEqDiff, not_false_iff]; exact a1 146 (by omega))
        obtain ⟨h3, c1, c2, c3, c4, c5⟩ := m_num X sw hn m3 hT2 (h := h2) (by show xu _ _ _ _ _ _ = _; simp only [xun, xus, xps, xpn, ne_eq, not_false_eq_true, Nat.reduceEqDiff, not_false_iff]; exact b1) 1 8 (by omega) (by omega)
        rw [if_neg f2] at c4
        have k2 : ∀ k, ¬ k = 17 → h2 140 k = h1 140 k := fun k hk => by show xu _ _ _ _ _ _ = _; rw [xus, xpn _ _ _ _ hk]
        have o2 : ∀ c, ¬ c = 140 → h2 c = h1 c := fun c hc => by show xu _ _ _ _ _ = _; rw [xun _ _ _ _ _ hc]
        refine ⟨xu h3 140 18 (h3 140 15), ⟨fun c q1 q2 => by rw [xun _ _ _ _ _ q1, c1 c q1, o2 c q1, a1 c q1], fun k hk => by rw [xus, xpn _ _ _ _ (by omega), c2 k (by omega), k2 k (by omega), a2 k (by omega)], fun q => absurd q f2, fun _ => by rw [xus, xpn _ _ _ _ (by omega), c4]⟩, fun Q => ?_⟩
        have a5' : ∀ Q : Option Value → xG → xH → Prop, EV X mX6_takeNumber 0 0 0 [.ref 140, .int 10, .int 900, .null] [] (Gb sw) h Q = Q (some (.int (nI (nmF t n 10 900 a)))) (Gb sw) h1 := a5
        have c5' : ∀ Q : Option Value → xG → xH → Prop, EV X mX6_takeNumber 0 0 0 [.ref 140, .int 1, .int 8, .null] [] (Gb sw) (xu h1 140 17 (nI (nmV t n a))) Q = Q (some (.int (nI (nmF t n 1 8 (nmE t n a))))) (Gb sw) h3 := c5
        simp only [eX6_takeFair_0, eX6_takeFair_1, eX6_takeFair_3, eX6_takeFair_6, eX6_takeFair_9, eX6_takeFair_10, eX6_takeFair_11, eX6_takeFair_12, eX6_takeFair_15, eX6_takeFair_18, eX6_takeFair_19, eX6_takeFair_22, eX6_takeFair_23, eX6_takeFair_26, eX6_takeFair_27, eX6_takeFair_28, eX6_takeFair_30, eX6_takeFair_33, eX6_takeFair_34, eX6_takeFair_35, eX6_takeFair_36, eX6_takeFair_39, eX6_takeFair_42, eX6_takeFair_43, Option.toList_some, Option.toList_none, List.cons_append, List.nil_append, is01_0, is01_1, true_and, a5', b2, f1, n00, if_true, c5']
      · rw [if_neg f2, if_neg f2]
        obtain ⟨h1, a1, a2, a3, a4, a5, a6, a7⟩ := c_num X sw hn ha hT h2 h4 10 900 (by omega) (by omega)
        rw [f1] at a5
        obtain ⟨h3, c1, c2, c3, c4, c5, c6, c7⟩ := c_num X sw hn m3 (h := h1) (hT.mv a2 (a1 2 (by omega))) a3 a5 1 8 (by omega) (by omega)
        rw [if_neg f2] at c6
        have a7' : ∀ Q : Option Value → xG → xH → Prop, EV X mX4_readNumber 0 0 0 [.ref 1, .int 10, .int 900, .null, .null] [] (Gb sw) h Q = Q (some (.int (nI (nmV t n a)))) (Gb sw) h1 := a7
        have c7' : ∀ Q : Option Value → xG → xH → Prop, EV X mX4_readNumber 0 0 0 [.ref 1, .int 1, .int 8, .null, .null] [] (Gb sw) h1 Q = Q (some (.int (nI (nmV t n (nmE t n a))))) (Gb sw) h3 := c7
        have d4' : ¬ h3 1 4 = 0 := by rw [c5, z2]; exact f2
        refine ⟨h3, ⟨fun c q1 q2 => by rw [c1 c q1, a1 c q1], by rw [c2, a2], c5, fun q => absurd q f2, fun _ => ⟨c6, nmE t n (nmE t n a), by omega, c3⟩⟩, fun Q => ?_⟩
        simp only [eX4_readEnd_0, eX4_readEnd_1, eX4_readEnd_3, eX4_readEnd_6, eX4_readEnd_9, eX4_readEnd_10, eX4_readEnd_11, eX4_readEnd_12, eX4_readEnd_14, eX4_readEnd_17, eX4_readEnd_18, eX4_readEnd_19, eX4_readEnd_22, eX4_readEnd_23, eX4_readEnd_26, eX4_readEnd_29, eX4_readEnd_30, eX4_readEnd_31, eX4_readEnd_32, eX4_readEnd_35, Option.toList_some, Option.toList_none, List.cons_append, List.nil_append, is01_0, is01_1, true_and, hp, a7', c7', c_close2 d4', d4', if_true, not_false_iff, if_false]
  · refine ⟨nmF t n 10 900 a, skB t n a, 0, NL, G, w, by omega, fun q => absurd q f1, fun sw h hT h14 hD => ?_, fun h hT h2 h4 hD => ?_⟩
    · obtain ⟨h1, a1, a2, a3, a4, a5⟩ := m_num X sw hn ha hT h14 10 900 (by omega) (by omega)
      rw [if_neg f1] at a4
      refine ⟨xu (xu h1 140 17 (h1 140 15)) 140 18 (h1 140 15), ⟨fun c q1 q2 => by rw [xun _ _ _ _ _ q1, xun _ _ _ _ _ q1, a1 c q1], fun k hk => by rw [xus, xpn _ _ _ _ (by omega), xus, xpn _ _ _ _ (by omega), a2 k (by omega)], fun q => absurd q f1, fun _ => by rw [xus, xpn _ _ _ _ (by omega), xus, xpn _ _ _ _ (by omega), a4]⟩, fun Q => ?_⟩
      have a5' : ∀ Q : Option Value → xG → xH → Prop, EV X mX6_takeNumber 0 0 0 [.ref 140, .int 10, .int 900, .null] [] (Gb sw) h Q = Q (some (.int (nI (nmF t n 10 900 a)))) (Gb sw) h1 := a5
      simp only [eX6_takeFair_0, eX6_takeFair_1, eX6_takeFair_3, eX6_takeFair_6, eX6_takeFair_9, eX6_takeFair_10, eX6_takeFair_11, eX6_takeFair_12, eX6_takeFair_15, eX6_takeFair_18, eX6_takeFair_19, eX6_takeFair_22, eX6_takeFair_23, eX6_takeFair_26, eX6_takeFair_27, eX6_takeFair_28, eX6_takeFair_30, eX6_takeFair_33, eX6_takeFair_34, eX6_takeFair_35, eX6_takeFair_36, eX6_takeFair_39, eX6_takeFair_42, eX6_takeFair_43, Option.toList_some, Option.toList_none, List.cons_append, List.nil_append, is01_0, is01_1, true_and, a5', z1', f1, if_false, xun, xus, xps, xpn, ne_eq, not_false_eq_true, Nat.reduceEqDiff, not_false_iff]
    · rw [if_neg f1, if_neg f1]
      obtain ⟨h1, a1, a2, a3, a4, a5, a6, a7⟩ := c_num X sw hn ha hT h2 h4 10 900 (by omega) (by omega)
      rw [if_neg f1] at a6
      have a7' : ∀ Q : Option Value → xG → xH → Prop, EV X mX4_readNumber 0 0 0 [.ref 1, .int 10, .int 900, .null, .null] [] (Gb sw) h Q = Q (some (.int (nI (nmV t n a)))) (Gb sw) h1 := a7
      have d4' : ¬ h1 1 4 = 0 := by rw [a5, z1]; exact f1
      refine ⟨h1, ⟨fun c q1 q2 => a1 c q1, a2, a5, fun q => absurd q f1, fun _ => ⟨a6, nmE t n a, by omega, a3⟩⟩, fun Q => ?_⟩
      simp only [eX4_readEnd_0, eX4_readEnd_1, eX4_readEnd_3, eX4_readEnd_6, eX4_readEnd_9, eX4_readEnd_10, eX4_readEnd_11, eX4_readEnd_12, eX4_readEnd_14, eX4_readEnd_17, eX4_readEnd_18, eX4_readEnd_19, eX4_readEnd_22, eX4_readEnd_23, eX4_readEnd_26, eX4_readEnd_29, eX4_readEnd_30, eX4_readEnd_31, eX4_readEnd_32, eX4_readEnd_35, Option.toList_some, Option.toList_none, List.cons_append, List.nil_append, is01_0, is01_1, true_and, hp, a7', c_num2 d4', c_close2 d4', d4', if_true, not_false_iff, if_false]
end CL
