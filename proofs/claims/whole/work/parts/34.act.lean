/-! operations that change the scene -/
theorem Rl.step {sw : Bool} {h h2 : xH} {NL G : Nat} {w v v' : Nat → Int32} (H : Rl sw h NL G w v) (e : ∀ a, ¬ a = 0 → ¬ (13 ≤ a ∧ a < 117) → ¬ a = 140 → ¬ a = 145 → ¬ a = 151 → h2 a = h a) (e140 : ∀ k, ¬ k = 10 → ¬ k = 27 → h2 140 k = h 140 k) (hV : SW w G v') (hs : SC h2 13 G v') (hm : SM h2 145 0 G v') (hP : PSr h2 G w) (hD : SDr h2) : Rl sw h2 NL G w v' := by
  obtain ⟨⟨n1, n2, n3, n4, n5, n6⟩, hT, hF, hS, hL, hB, hP0, hI, hD0⟩ := H
  have hp : 3 ≤ pl sw ∧ pl sw ≤ 8 := by cases sw <;> decide
  refine ⟨⟨n1, hV, n3.mv ?_ ?_ ?_ ?_, n4.mv ?_ ?_ ?_ ?_ ?_ ?_ ?_ ?_, hs, hm⟩, hT.mv ?_ ?_ ?_ ?_, hF.mv ?_ ?_, hS.mv ?_ ?_ ?_ ?_ ?_ ?_ ?_ ?_, hL.mv ?_ ?_ ?_ ?_ ?_ ?_, hB.mv ?_ ?_ ?_ ?_ ?_ ?_, hP, hI.mv ?_ ?_ (fun a q1 q2 => ?_) ?_, hD⟩
  all_goals first
    | (rw [e _ (by omega) (by omega) (by omega) (by omega) (by omega)]; done)
    | (exact e140 _ (by omega) (by omega))
section ACT
variable {X : (Nat → Int32) × Nat} {g : xG} {sw : Bool} {NL G : Nat} {w v : Nat → Int32}
theorem act (X : (Nat → Int32) × Nat) {h : xH} (H : Rl sw h NL G w v) : ∃ hp : xH, Nw sw hp NL G w v ∧ hp 0 = h 0 ∧ hp 140 = h 140 ∧ (∀ Q : Option Value → xG → xH → Prop, EV X mX1_push 0 0 0 [.ref 19, .ref 13] [] (Gb sw) h Q = Q none (Gb sw) hp) ∧ ∀ h1 : xH, (∀ a, ¬ (13 ≤ a ∧ a < 19) → ¬ a = 0 → h1 a = hp a) → ∃ hr : xH, PM hr NL G w ∧ SM hr 145 0 G v ∧ hr 0 = h1 0 ∧ hr 140 10 = h 140 10 ∧ (∀ Q : Option Value → xG → xH → Prop, EV X mX6_remember 0 0 0 [.ref 140, .null] [] (Gb sw) h1 Q = Q none (Gb sw) hr) ∧ ∀ (h2 : xH) (v' : Nat → Int32), (∀ a, ¬ a = 145 → ¬ a = 140 → h2 a = hr a) → (∀ k, ¬ k = 10 → h2 140 k = hr 140 k) → SW w G v' → SC h1 13 G v' → SM h2 145 0 G v' → SDr h2 → Rl sw h2 NL G w v' := by
  obtain ⟨hN, hT, hF, hS, hL, hB, hP, hI, hD⟩ := id H
  obtain ⟨n1, n2, n3, n4, n5, n6⟩ := id hN
  have hpl : 3 ≤ pl sw ∧ pl sw ≤ 8 := by cases sw <;> decide
  obtain ⟨c, x, u, hc, hx, hPc, hPm, hu⟩ := hP.ap
  obtain ⟨hp, f1, hPc', e1⟩ := c_push X sw hc hx n1.2.1 hPc n2 n5
  refine ⟨hp, ?_, f1 0 (by omega), f1 140 (by omega), e1, fun h1 g1 => ?_⟩
  · refine hN.mv (fun a q1 q2 => f1 a (by omega)) ?_ ?_ ?_ ?_ ?_ (fun a q1 q2 => f1 a (by omega))
    all_goals rw [f1 140 (by omega)]
  · have k1 : ∀ a, 140 ≤ a → h1 a = h a := fun a ha => by rw [g1 a (by omega) (by omega), f1 a (by omega)]
    obtain ⟨hr, r1, r2, hPm', e2⟩ := m_remember X sw hc n1.2.1 (hPm.mv (by rw [k1 140 (by omega)]) (k1 151 (by omega))) hu n2 (n6.mv (k1 145 (by omega)))
    have k2 : ∀ k, ¬ k = 27 → hr 140 k = h 140 k := fun k hk => by rw [r2 k hk, k1 140 (by omega)]
    refine ⟨hr, ?_, ?_, r1 0 (by omega) (by omega), k2 10 (by omega), e2, fun h2 v' g2 g3 hV hs hm hD2 => ?_⟩
    · refine n4.mv (k2 _ (by omega)) (k2 _ (by omega)) (k2 _ (by omega)) (k2 _ (by omega)) (k2 _ (by omega)) ?_ ?_ ?_
      all_goals rw [r1 _ (by omega) (by omega), k1 _ (by omega)]
    · exact n6.mv (by rw [r1 _ (by omega) (by omega), k1 _ (by omega)])
    · refine H.step (fun a q1 q2 q3 q4 q5 => ?_) (fun k q1 q2 => ?_) hV ?_ hm ?_ hD2
      · rw [g2 a q4 q3, r1 a q3 q5, g1 a (by omega) q1, f1 a (by omega)]
      · rw [g3 k q1, k2 k q2]
      · have z : ∀ a, a < 140 → h2 a = h1 a := fun a ha => by rw [g2 a (by omega) (by omega), r1 a (by omega) (by omega)]
        exact hs.mv (fun k _ => by rw [z _ (by omega)]) (z _ (by omega)) (z _ (by omega)) (z _ (by omega)) (z _ (by omega)) (z _ (by omega))
      · refine PSr.jn (c := psC c) (x := (x + 1) % 16) (u := psU c u v) (by unfold psC; split <;> omega) (Nat.mod_lt _ (by omega)) (hPc'.mv (fun a q1 q2 => ?_)) (hPm'.mv (g3 27 (by omega)) (g2 151 (by omega) (by omega))) (psU_w hc hu n2)
        rw [g2 a (by omega) (by omega), r1 a (by omega) (by omega), g1 a (by omega) (by omega)]
/-! small changes of a scene -/
theorem SM.set {h : xH} (hs : SM h 145 0 G v) (k : Nat) (y : Int32) (hk : ¬ k = 3) (h20 : ∀ j, j < G → k = 12 + j → y = 3 → h 145 (20 + j) = v (20 + j)) : SM (xu h 145 k y) 145 0 G (xp v k y) := by
  have e : ∀ t, h 145 t = v t → xu h 145 k y 145 t = xp v k y t := fun t ht => by
    rw [xus]
    unfold xp
    split
    · rfl
    · exact ht
  have e3 : xp v k y 3 = v 3 := xpn _ _ _ _ (fun q => hk q.symm)
  refine ⟨⟨e _ hs.f.1, e _ hs.f.2.1, e _ hs.f.2.2.1, e _ hs.f.2.2.2⟩, fun i hi => ?_, fun j hj => ⟨?_, ?_, ?_, fun q => ?_⟩⟩
  · rw [e3] at hi
    rw [Nat.zero_add]
    exact e _ (hs.q i hi)
  · rw [Nat.zero_add]; exact e _ (hs.w j hj)
  · rw [Nat.zero_add]; exact e _ (hs.a j hj)
  · rw [Nat.zero_add]; exact e _ (hs.k j hj)
  · rw [Nat.zero_add]
    apply e
    by_cases q2 : 12 + j = k
    · subst q2
      rw [xps] at q
      exact h20 j hj rfl q
    · rw [xpn _ _ _ _ q2] at q
      exact hs.s j hj q
theorem SM.set3 {h : xH} (hs : SM h 145 0 G v) (y : Int32) (hq : ∀ i, i < y.toNatClampNeg → h 145 (4 + i) = v (4 + i)) : SM (xu h 145 3 y) 145 0 G (xp v 3 y) := by
  have e : ∀ t, h 145 t = v t → xu h 145 3 y 145 t = xp v 3 y t := fun t ht => by
    rw [xus]
    unfold xp
    split
    · rfl
    · exact ht
  have e3 : ∀ t, ¬ t = 3 → xp v 3 y t = v t := fun t ht => xpn _ _ _ _ ht
  refine ⟨⟨e _ hs.f.1, e _ hs.f.2.1, e _ hs.f.2.2.1, e _ hs.f.2.2.2⟩, fun i hi => ?_, fun j hj => ⟨?_, ?_, ?_, fun q => ?_⟩⟩
  · rw [xps] at hi
    rw [Nat.zero_add]
    exact e _ (hq i hi)
  · rw [Nat.zero_add]; exact e _ (hs.w j hj)
  · rw [Nat.zero_add]; exact e _ (hs.a j hj)
  · rw [Nat.zero_add]; exact e _ (hs.k j hj)
  · rw [Nat.zero_add]
    rw [e3 _ (by omega)] at q
    exact e _ (hs.s j hj q)
theorem SC.set0 {h : xH} (hs : SC h 13 G v) (k : Nat) (hk : k < 3) (y : Int32) : SC (xu h 13 k y) 13 G (xp v k y) := by
  have e3 : ∀ t, 3 ≤ t → xp v k y t = v t := fun t ht => xpn _ _ _ _ (by omega)
  have e : ∀ a, ¬ a = 13 → xu h 13 k y a = h a := fun a ha => xun _ _ _ _ _ ha
  have e0 : ∀ t, h 13 t = v t → xu h 13 k y 13 t = xp v k y t := fun t ht => by
    rw [xus]
    unfold xp
    split
    · rfl
    · exact ht
  refine ⟨⟨e0 _ hs.1.1, e0 _ hs.1.2.1, e0 _ hs.1.2.2.1, e0 _ hs.1.2.2.2⟩, fun i hi => ?_, fun j hj => ?_, fun j hj => ⟨?_, ?_, fun q => ?_⟩⟩
  · rw [e3 3 (by omega)] at hi
    rw [e _ (by omega), e3 _ (by omega)]
    exact hs.q i hi
  · rw [e _ (by omega), e3 _ (by omega)]; exact hs.w j hj
  · rw [e _ (by omega), e3 _ (by omega)]; exact hs.a j hj
  · rw [e _ (by omega), e3 _ (by omega)]; exact hs.k j hj
  · rw [e3 _ (by omega)] at q
    rw [e _ (by omega), e3 _ (by omega)]; exact hs.s j hj q
theorem SC.place {h : xH} (hs : SC h 13 G v) (hG : G ≤ 8) (j : Nat) (p : Int32) (hj : j < 8) (hn : (v 3).toNatClampNeg ≤ 8) (h20 : j < G → p = 3 → h 18 j = v (20 + j)) : SC (xu h 17 j p) 13 G (xp v (12 + j) p) := by
  have e3 : ∀ t, ¬ t = 12 + j → xp v (12 + j) p t = v t := fun t ht => xpn _ _ _ _ ht
  have e : ∀ a, ¬ a = 17 → xu h 17 j p a = h a := fun a ha => xun _ _ _ _ _ ha
  refine ⟨⟨?_, ?_, ?_, ?_⟩, fun i hi => ?_, fun i hi => ?_, fun i hi => ⟨?_, ?_, fun q => ?_⟩⟩
  · rw [e _ (by omega), e3 _ (by omega)]; exact hs.1.1
  · rw [e _ (by omega), e3 _ (by omega)]; exact hs.1.2.1
  · rw [e _ (by omega), e3 _ (by omega)]; exact hs.1.2.2.1
  · rw [e _ (by omega), e3 _ (by omega)]; exact hs.1.2.2.2
  · rw [e3 3 (by omega)] at hi
    rw [e _ (by omega), e3 _ (by omega)]
    exact hs.q i hi
  · show xu h 17 j p 17 i = _
    rw [xus]
    by_cases q : i = j
    · rw [q, xps, xps]
    · rw [xpn _ _ _ _ q, e3 _ (by omega)]
      exact hs.w i hi
  · rw [e _ (by omega), e3 _ (by omega)]; exact hs.a i hi
  · rw [e _ (by omega), e3 _ (by omega)]; exact hs.k i hi
  · rw [e _ (by omega), e3 _ (by omega)]
    by_cases q2 : i = j
    · subst q2
      rw [xps] at q
      exact h20 hi q
    · rw [e3 _ (by omega)] at q
      exact hs.s i hi q
theorem SC.h20 {h : xH} (hs : SC h 13 G v) (hG : G ≤ 8) (j : Nat) (y : Int32) (hj : j < 8) (hn : (v 3).toNatClampNeg ≤ 8) : SC (xu h 18 j y) 13 G (xp v (20 + j) y) := by
  have e3 : ∀ t, ¬ t = 20 + j → xp v (20 + j) y t = v t := fun t ht => xpn _ _ _ _ ht
  have e : ∀ a, ¬ a = 18 → xu h 18 j y a = h a := fun a ha => xun _ _ _ _ _ ha
  refine ⟨⟨?_, ?_, ?_, ?_⟩, fun i hi => ?_, fun i hi => ?_, fun i hi => ⟨?_, ?_, fun q => ?_⟩⟩
  · rw [e _ (by omega), e3 _ (by omega)]; exact hs.1.1
  · rw [e _ (by omega), e3 _ (by omega)]; exact hs.1.2.1
  · rw [e _ (by omega), e3 _ (by omega)]; exact hs.1.2.2.1
  · rw [e _ (by omega), e3 _ (by omega)]; exact hs.1.2.2.2
  · rw [e3 3 (by omega)] at hi
    rw [e _ (by omega), e3 _ (by omega)]
    exact hs.q i hi
  · rw [e _ (by omega), e3 _ (by omega)]; exact hs.w i hi
  · rw [e _ (by omega), e3 _ (by omega)]; exact hs.a i hi
  · rw [e _ (by omega), e3 _ (by omega)]; exact hs.k i hi
  · rw [e3 _ (by omega)] at q
    show xu h 18 j y 18 i = _
    rw [xus]
    by_cases q2 : i = j
    · rw [q2, xps, xps]
    · rw [xpn _ _ _ _ q2, e3 _ (by omega)]
      exact hs.s i hi q
theorem xu_comm {α : Type} (h : Nat → Nat → α) {a k a' k' : Nat} (x y : α) (hne : ¬ (a = a' ∧ k = k')) : xu (xu h a k x) a' k' y = xu (xu h a' k' y) a k x := by
  funext b j
  rw [xu_r, xu_r, xu_r, xu_r]
  by_cases q : b = a' ∧ j = k'
  · by_cases q2 : b = a ∧ j = k
    · exact absurd ⟨q2.1.symm.trans q.1, q2.2.symm.trans q.2⟩ hne
    · rw [if_pos q, if_neg q2, if_pos q]
  · by_cases q2 : b = a ∧ j = k
    · rw [if_neg q, if_pos q2, if_pos q2]
    · rw [if_neg q, if_neg q2, if_neg q2, if_neg q]
theorem SW.cong {v' : Nat → Int32} (hV : SW w G v) (hG : G ≤ 8) (e : ∀ t, ¬ (20 ≤ t ∧ t < 28) → v' t = v t) : SW w G v' := by
  obtain ⟨⟨n, n1, n2, n3, n4, n5⟩, h1, h2, h3, h4, h5, h6, h7⟩ := hV
  refine ⟨⟨n, n1, by rw [e 3 (by omega)]; exact n2, fun k hk => ?_, fun k k' hk hk' => ?_, fun q hq => ?_⟩, fun j hj => ?_, fun j q1 q2 => ?_, fun j hj => ?_, ?_, ?_, ?_, ?_⟩
  · obtain ⟨q, q1, q2, q3⟩ := n3 k hk
    exact ⟨q, q1, by rw [e _ (by omega)]; exact q2, by rw [e _ (by omega)]; exact q3⟩
  · rw [e _ (by omega), e _ (by omega)]; exact n4 k k' hk hk'
  · rw [e _ (by omega)]
    intro z
    obtain ⟨k, k1, k2⟩ := n5 q hq z
    exact ⟨k, k1, by rw [e _ (by omega)]; exact k2⟩
  · rw [e _ (by omega)]; exact h1 j hj
  · rw [e _ (by omega)]; exact h2 j q1 q2
  · rw [e _ (by omega), e _ (by omega), e 1 (by omega)]; exact h3 j hj
  · rw [e _ (by omega)]; exact h4
  · rw [e _ (by omega)]; exact h5
  · rw [e _ (by omega)]; exact h6
  · have : fb_ct (fun j => decide (v' (12 + j) = 2)) 8 = fb_ct (fun j => decide (v (12 + j) = 2)) 8 := fb_ct_cong (fun k hk => by rw [e _ (by omega)])
    rw [this]; exact h7
theorem ct_xp (v : Nat → Int32) {j : Nat} (hj : j < 8) (p : Int32) : ctS (xp v (12 + j) p) 2 8 + (if v (12 + j) = 2 then 1 else 0) = ctS v 2 8 + (if p = 2 then 1 else 0) := by
  have := fb_ct_upd (fun k => decide (v (12 + k) = 2)) (decide (p = 2)) hj
  have e : ctS (xp v (12 + j) p) 2 8 = fb_ct (fun k => if k = j then decide (p = 2) else decide (v (12 + k) = 2)) 8 := by
    apply fb_ct_cong
    intro k hk
    by_cases q : k = j
    · rw [q, xps, if_pos rfl]
    · rw [xpn _ _ _ _ (by omega), if_neg q]
  rw [e]
  unfold ctS
  simpa using this
theorem SW.ct (hV : SW w G v) : ctS v 2 8 ≤ (w 1).toNatClampNeg := hV.2.2.2.2.2.2.2
/-- one goer elsewhere, the queue as it was -/
theorem SW.place (hV : SW w G v) (hG : G ≤ 8) {j : Nat} (hj : j < G) {p : Int32} (h1 : ¬ v (12 + j) = 1) (hp : p = 0 ∨ p = 2 ∨ p = 3) (hct : ctS (xp v (12 + j) p) 2 8 ≤ (w 1).toNatClampNeg) : SW w G (xp v (12 + j) p) := by
  obtain ⟨⟨n, n1, n2, n3, n4, n5⟩, a1, a2, a3, a4, a5, a6, a7⟩ := hV
  have e : ∀ t, ¬ t = 12 + j → xp v (12 + j) p t = v t := fun t ht => xpn _ _ _ _ ht
  have hp1 : ¬ p = 1 := by rcases hp with rfl | rfl | rfl <;> decide
  refine ⟨⟨n, n1, by rw [e 3 (by omega)]; exact n2, fun k hk => ?_, fun k k' hk hk' => ?_, fun q hq => ?_⟩, fun i hi => ?_, fun i q1 q2 => ?_, fun i hi => ?_, ?_, ?_, ?_, hct⟩
  · obtain ⟨q, q1, q2, q3⟩ := n3 k hk
    have : ¬ q = j := fun z => h1 (by rw [← z]; exact q3)
    exact ⟨q, q1, by rw [e _ (by omega)]; exact q2, by rw [e _ (by omega)]; exact q3⟩
  · rw [e _ (by omega), e _ (by omega)]; exact n4 k k' hk hk'
  · intro z
    by_cases q2 : q = j
    · rw [q2, xps] at z
      exact absurd z hp1
    · rw [e _ (by omega)] at z
      obtain ⟨k, k1, k2⟩ := n5 q hq z
      exact ⟨k, k1, by rw [e _ (by omega)]; exact k2⟩
  · by_cases q2 : i = j
    · rw [q2, xps]
      rcases hp with q | q | q
      · exact Or.inl q
      · exact Or.inr (Or.inr (Or.inl q))
      · exact Or.inr (Or.inr (Or.inr q))
    · rw [e _ (by omega)]; exact a1 i hi
  · rw [e _ (by omega)]; exact a2 i q1 q2
  · rw [e _ (by omega), e _ (by omega), e 1 (by omega)]; exact a3 i hi
  · rw [e _ (by omega)]; exact a4
  · rw [e _ (by omega)]; exact a5
  · rw [e _ (by omega)]; exact a6
/-- height of the car, hours, got: as they may be -/
theorem SW.set (hV : SW w G v) {k : Nat} {y : Int32} (hk : k = 0 ∨ k = 2) (hG : G ≤ 8) (h0 : k = 0 → 0 ≤ y.toInt ∧ y.toInt ≤ (w 0).toInt) (h2 : k = 2 → 0 ≤ y.toInt ∧ y.toInt ≤ 999999) : SW w G (xp v k y) := by
  obtain ⟨⟨n, n1, n2, n3, n4, n5⟩, a1, a2, a3, a4, a5, a6, a7⟩ := hV
  have e : ∀ t, ¬ t = k → xp v k y t = v t := fun t ht => xpn _ _ _ _ ht
  refine ⟨⟨n, n1, by rw [e 3 (by omega)]; exact n2, fun i hi => ?_, fun i k' hk hk' => ?_, fun q hq => ?_⟩, fun i hi => ?_, fun i q1 q2 => ?_, fun i hi => ?_, ?_, ?_, ?_, ?_⟩
  · obtain ⟨q, q1, q2, q3⟩ := n3 i hi
    exact ⟨q, q1, by rw [e _ (by omega)]; exact q2, by rw [e _ (by omega)]; exact q3⟩
  · rw [e _ (by omega), e _ (by omega)]; exact n4 i k' hk hk'
  · intro z
    rw [e _ (by omega)] at z
    obtain ⟨k, k1, k2⟩ := n5 q hq z
    exact ⟨k, k1, by rw [e _ (by omega)]; exact k2⟩
  · rw [e _ (by omega)]; exact a1 i hi
  · rw [e _ (by omega)]; exact a2 i q1 q2
  · rw [e _ (by omega), e _ (by omega), e 1 (by omega)]; exact a3 i hi
  · rw [e _ (by omega)]; exact a4
  · by_cases q : k = 2
    · subst q
      rw [xps]; exact h2 rfl
    · rw [e _ (by omega)]; exact a5
  · by_cases q : k = 0
    · subst q
      rw [xps]; exact h0 rfl
    · rw [e _ (by omega)]; exact a6
  · have : fb_ct (fun j => decide (xp v k y (12 + j) = 2)) 8 = fb_ct (fun j => decide (v (12 + j) = 2)) 8 := fb_ct_cong (fun k hk => by rw [e _ (by omega)])
    rw [this]; exact a7
theorem SW.n8 (hV : SW w G v) : (v 3).toNatClampNeg ≤ 8 := by
  obtain ⟨n, n1, n2, n3⟩ := hV.n
  omega
theorem PW.room (hW : PW NL G w) {j : Nat} (hj : j < G) : ∃ R : Nat, 1 ≤ R ∧ R ≤ 8 ∧ w 1 = nI R ∧ (w 1).toNatClampNeg = R ∧ ¬ w 0 = 0 := by
  have q : ¬ w 0 = 0 := fun z => by have := (hW.2.2.2.1 z).2.2; omega
  obtain ⟨q1, q2, -⟩ := hW.2.2.2.2.1 q
  obtain ⟨R, r1, r2⟩ := nI_of2 (x := w 1) (M := 8) (n := 8) rfl (by rw [Int32.not_lt]; exact Int32.le_trans (by decide) q1) q2
  refine ⟨R, ?_, r1, r2, by rw [r2]; exact cl_nI (by omega), q⟩
  rw [r2] at q1
  exact (nI_leI (a := 1) (by omega) (by omega)).mp q1
theorem p_car (y : Int32) : OpK X mX5_car mX6_car [.ref 0, .int y, .null] [.ref 140, .int y, .null] := OpK.two fun sw h NL G w v H => by
  obtain ⟨n1, n2, n3, n4, n5, n6⟩ := id H.1
  by_cases c : 0 ≤ y ∧ y ≤ w 0
  · by_cases c2 : y = v 0
    · refine OpK.same H ?_
      unfold Both
      have c3 : v 0 = y := c2.symm
      simp only [eX5_car_0, eX5_car_1, eX5_car_2, eX5_car_3, eX5_car_6, eX5_car_9, eX5_car_12, eX5_car_15, eX5_car_17, eX5_car_18, eX5_car_19, eX5_car_20, eX5_car_23, eX5_car_26, eX5_car_29, eX5_car_31, eX5_car_32, eX5_car_33, eX5_car_36, eX5_car_37, eX5_car_40, eX5_car_43, eX5_car_44, eX5_car_47, eX5_car_50, eX5_car_51, eX5_car_52, eX5_car_55, eX5_car_56, eX5_car_59, eX5_car_60, eX6_car_0, eX6_car_1, eX6_car_2, eX6_car_3, eX6_car_4, eX6_car_7, eX6_car_8, eX6_car_11, eX6_car_14, eX6_car_16, eX6_car_17, eX6_car_18, eX6_car_21, eX6_car_22, eX6_car_23, eX6_car_24, eX6_car_27, eX6_car_29, eX6_car_30, eX6_car_31, eX6_car_34, eX6_car_35, eX6_car_38, eX6_car_39, eX6_car_40, eX6_car_41, eX6_car_42, eX6_car_45, eX6_car_46, eX6_car_47, eX6_car_48, eX6_car_49, Option.toList_some, Option.toList_none, List.cons_append, List.nil_append, is01_0, is01_1, true_and, pl_P, r_isOutside, r_in, b01_0, out_in, wl_0, wr_0, wl_1, wr_1, wl_2, wr_2, wl_3, wr_3, wl_20, wr_20, wl_48, wr_48, wl_57, wr_57, wl_60, wr_60, wl_100, wr_100, wl_255, wr_255, wl_500, wr_500, wl_900, wr_900, wl_999, wr_999, wl_12345, wr_12345, wl_999999, wr_999999, wl_99999999, wr_99999999, wl_1000000000, wr_1000000000, wl_1103515245, wr_1103515245, fa_wide_le, n3.1, n4.1, n5.1, n6.f, tc0, ib0, c, c3, and_self, not_true, if_true, if_false]
      first | exact ⟨_, fun _ => rfl, fun _ => rfl⟩ | exact ⟨_, fun _ => rfl⟩
    · have c3 : ¬ v 0 = y := fun z => c2 z.symm
      obtain ⟨hp, hN, z0, z140, e1, K⟩ := act X H
      obtain ⟨m1, m2, m3, m4, m5, m6⟩ := id hN
      obtain ⟨hr, hM, hm, r0, r140, e2, K2⟩ := K (xu hp 13 0 y) (fun a q1 q2 => xun _ _ _ _ _ (by omega))
      refine ⟨v 0, xu hp 13 0 y, xu hr 145 0 y, fun Q => ?_, fun Q => ?_, NL, G, w, xp v 0 y, K2 _ _ (fun a q1 q2 => xun _ _ _ _ _ q1) (fun k _ => by rw [xun _ _ _ _ _ (by omega)]) ?_ (m5.set0 0 (by omega) y) (hm.set 0 y (by omega) (fun j hj q _ => by omega)) ?_⟩
      · simp only [eX5_car_0, eX5_car_1, eX5_car_2, eX5_car_3, eX5_car_6, eX5_car_9, eX5_car_12, eX5_car_15, eX5_car_17, eX5_car_18, eX5_car_19, eX5_car_20, eX5_car_23, eX5_car_26, eX5_car_29, eX5_car_31, eX5_car_32, eX5_car_33, eX5_car_36, eX5_car_37, eX5_car_40, eX5_car_43, eX5_car_44, eX5_car_47, eX5_car_50, eX5_car_51, eX5_car_52, eX5_car_55, eX5_car_56, eX5_car_59, eX5_car_60, Option.toList_some, Option.toList_none, List.cons_append, List.nil_append, is01_0, is01_1, true_and, pl_P, r_isOutside, b01_0, out_in, n3.1, n5.1, c, c2, and_self, not_true, if_true, if_false, e1, m5.1]
      · have g1 : PM (xu hp 13 0 y) NL G w := by
          refine m4.mv ?_ ?_ ?_ ?_ ?_ ?_ ?_ ?_ <;> simp only [xun, xus, xps, xpn, ne_eq, not_false_eq_true, Nat.reduceEqDiff, not_false_iff]
        have g2 : SM (xu hp 13 0 y) 145 0 G v := m6.mv (by simp only [xun, xus, xps, xpn, ne_eq, not_false_eq_true, Nat.reduceEqDiff, not_false_iff])
        simp only [eX6_car_0, eX6_car_1, eX6_car_2, eX6_car_3, eX6_car_4, eX6_car_7, eX6_car_8, eX6_car_11, eX6_car_14, eX6_car_16, eX6_car_17, eX6_car_18, eX6_car_21, eX6_car_22, eX6_car_23, eX6_car_24, eX6_car_27, eX6_car_29, eX6_car_30, eX6_car_31, eX6_car_34, eX6_car_35, eX6_car_38, eX6_car_39, eX6_car_40, eX6_car_41, eX6_car_42, eX6_car_45, eX6_car_46, eX6_car_47, eX6_car_48, eX6_car_49, Option.toList_some, Option.toList_none, List.cons_append, List.nil_append, is01_0, is01_1, true_and, r_in, b01_0, wl_0, wr_0, wl_1, wr_1, wl_2, wr_2, wl_3, wr_3, wl_20, wr_20, wl_48, wr_48, wl_57, wr_57, wl_60, wr_60, wl_100, wr_100, wl_255, wr_255, wl_500, wr_500, wl_900, wr_900, wl_999, wr_999, wl_12345, wr_12345, wl_999999, wr_999999, wl_99999999, wr_99999999, wl_1000000000, wr_1000000000, wl_1103515245, wr_1103515245, fa_wide_le, g1.1, g2.f, tc0, ib0, c, c3, and_self, not_true, if_true, if_false, e2, hm.f]
      · refine n2.set (Or.inl rfl) n1.2.1 (fun _ => ?_) (fun q => by omega)
        have := c.1
        have := c.2
        rw [fa_le] at *
        exact ⟨by assumption, by assumption⟩
      · refine SDr.mv H.2.2.2.2.2.2.2.2 ?_ ?_
        · rw [xun _ _ _ _ _ (by omega), r0, xun _ _ _ _ _ (by omega), z0]
        · rw [xun _ _ _ _ _ (by omega), r140]
  · refine OpK.same H ?_
    unfold Both
    simp only [eX5_car_0, eX5_car_1, eX5_car_2, eX5_car_3, eX5_car_6, eX5_car_9, eX5_car_12, eX5_car_15, eX5_car_17, eX5_car_18, eX5_car_19, eX5_car_20, eX5_car_23, eX5_car_26, eX5_car_29, eX5_car_31, eX5_car_32, eX5_car_33, eX5_car_36, eX5_car_37, eX5_car_40, eX5_car_43, eX5_car_44, eX5_car_47, eX5_car_50, eX5_car_51, eX5_car_52, eX5_car_55, eX5_car_56, eX5_car_59, eX5_car_60, eX6_car_0, eX6_car_1, eX6_car_2, eX6_car_3, eX6_car_4, eX6_car_7, eX6_car_8, eX6_car_11, eX6_car_14, eX6_car_16, eX6_car_17, eX6_car_18, eX6_car_21, eX6_car_22, eX6_car_23, eX6_car_24, eX6_car_27, eX6_car_29, eX6_car_30, eX6_car_31, eX6_car_34, eX6_car_35, eX6_car_38, eX6_car_39, eX6_car_40, eX6_car_41, eX6_car_42, eX6_car_45, eX6_car_46, eX6_car_47, eX6_car_48, eX6_car_49, Option.toList_some, Option.toList_none, List.cons_append, List.nil_append, is01_0, is01_1, true_and, pl_P, r_isOutside, r_in, b01_0, out_in, wl_0, wr_0, wl_1, wr_1, wl_2, wr_2, wl_3, wr_3, wl_20, wr_20, wl_48, wr_48, wl_57, wr_57, wl_60, wr_60, wl_100, wr_100, wl_255, wr_255, wl_500, wr_500, wl_900, wr_900, wl_999, wr_999, wl_12345, wr_12345, wl_999999, wr_999999, wl_99999999, wr_99999999, wl_1000000000, wr_1000000000, wl_1103515245, wr_1103515245, fa_wide_le, n3.1, n4.1, c, not_true, not_false_iff, if_true, if_false]
    first | exact ⟨_, fun _ => rfl, fun _ => rfl⟩ | exact ⟨_, fun _ => rfl⟩
end ACT
