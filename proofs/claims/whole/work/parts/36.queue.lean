/-! the queue -/
theorem pigeon : ∀ (G n : Nat) (f : Nat → Nat), (∀ k, k < n → f k < G) → (∀ k k', k < n → k' < n → f k = f k' → k = k') → n ≤ G
  | 0, n, f, h, _ => by
    rcases Nat.eq_zero_or_pos n with q | q
    · omega
    · have := h 0 q; omega
  | G + 1, n, f, h, hi => by
    by_cases q : ∃ k0, k0 < n ∧ f k0 = G
    · obtain ⟨k0, k1, k2⟩ := q
      have := pigeon G (n - 1) (fun k => f (if k < k0 then k else k + 1)) (fun k hk => by
        have h1 : (if k < k0 then k else k + 1) < n := by split <;> omega
        have h2 := h _ h1
        have h3 : ¬ f (if k < k0 then k else k + 1) = G := fun z => by
          have := hi _ k0 h1 k1 (z.trans k2.symm)
          split at this <;> omega
        omega) (fun k k' hk hk' e => by
        have := hi _ _ (by split <;> omega) (by split <;> omega) e
        split at this <;> split at this <;> omega)
      omega
    · have := pigeon G n f (fun k hk => by
        have h2 := h k hk
        have h3 : ¬ f k = G := fun z => q ⟨k, hk, z⟩
        omega) hi
      omega
section QU
variable {X : (Nat → Int32) × Nat} {g : xG} {sw : Bool} {NL G : Nat} {w v : Nat → Int32}
/-- what a queue is -/
theorem SW.qu (hV : SW w G v) : ∃ n : Nat, n ≤ 8 ∧ v 3 = nI n ∧ (v 3).toNatClampNeg = n ∧ (∀ k, k < n → ∃ q : Nat, q < G ∧ v (4 + k) = nI q ∧ v (12 + q) = 1) ∧ (∀ k k' : Nat, k < n → k' < n → v (4 + k) = v (4 + k') → k = k') ∧ ∀ q : Nat, q < G → v (12 + q) = 1 → ∃ k, k < n ∧ v (4 + k) = nI q := by
  obtain ⟨⟨n, n1, n2, n3, n4, n5⟩, -⟩ := hV
  exact ⟨n, n1, n2, by rw [n2]; exact cl_nI (by omega), n3, n4, n5⟩
theorem SW.lt8 (hV : SW w G v) (hG : G ≤ 8) {j : Nat} (hj : j < G) (h0 : ¬ v (12 + j) = 1) {n : Nat} (hn : v 3 = nI n) (hn8 : n ≤ 8) : n < 8 := by
  obtain ⟨⟨n', n1, n2, n3, n4, n5⟩, -⟩ := hV
  have : n' = n := (nI_eq (by omega) (by omega)).mp (n2.symm.trans hn)
  subst this
  have hq : ∀ k, k < n' → (v (4 + k)).toNatClampNeg < G ∧ v (4 + k) = nI (v (4 + k)).toNatClampNeg ∧ v (12 + (v (4 + k)).toNatClampNeg) = 1 := fun k hk => by
    obtain ⟨q, q1, q2, q3⟩ := n3 k hk
    have : (v (4 + k)).toNatClampNeg = q := by rw [q2]; exact cl_nI (by omega)
    rw [this]
    exact ⟨q1, q2, q3⟩
  have := pigeon G (n' + 1) (fun k => if k < n' then (v (4 + k)).toNatClampNeg else j) (fun k hk => by
    split
    · rename_i q; exact (hq k q).1
    · exact hj) (fun k k' hk hk' e => by
    by_cases q : k < n'
    · rw [if_pos q] at e
      by_cases q' : k' < n'
      · rw [if_pos q'] at e
        apply n4 k k' q q'
        rw [(hq k q).2.1, (hq k' q').2.1, e]
      · rw [if_neg q'] at e
        exact absurd (by rw [← e]; exact (hq k q).2.2) h0
    · rw [if_neg q] at e
      by_cases q' : k' < n'
      · rw [if_pos q'] at e
        exact absurd (by rw [e]; exact (hq k' q').2.2) h0
      · omega)
  omega
def enV (v : Nat → Int32) (n j : Nat) : Nat → Int32 := xp (xp (xp v (4 + n) (nI j)) 3 (nI (n + 1))) (12 + j) 1
theorem enV_r (v : Nat → Int32) (n j t : Nat) : enV v n j t = if t = 12 + j then 1 else if t = 3 then nI (n + 1) else if t = 4 + n then nI j else v t := rfl
theorem SW.en (hV : SW w G v) (hG : G ≤ 8) {j n : Nat} (hj : j < G) (h0 : v (12 + j) = 0) (hn : v 3 = nI n) (hn8 : n < 8) : SW w G (enV v n j) := by
  have hct : ctS (enV v n j) 2 8 ≤ ctS v 2 8 := by
    apply fb_ct_sub
    intro k hk
    rw [enV_r]
    by_cases q : k = j
    · rw [if_pos (by omega)]; intro z; simp at z
    · rw [if_neg (by omega), if_neg (by omega), if_neg (by omega)]; exact id
  have hct2 := hV.ct
  obtain ⟨⟨n', n1, n2, n3, n4, n5⟩, a1, a2, a3, a4, a5, a6, a7⟩ := hV
  have : n' = n := (nI_eq (by omega) (by omega)).mp (n2.symm.trans hn)
  subst this
  have e : ∀ t, ¬ t = 12 + j → ¬ t = 3 → ¬ t = 4 + n' → enV v n' j t = v t := fun t q1 q2 q3 => by rw [enV_r, if_neg q1, if_neg q2, if_neg q3]
  have ej : enV v n' j (12 + j) = 1 := by rw [enV_r, if_pos rfl]
  have en : enV v n' j (4 + n') = nI j := by rw [enV_r, if_neg (by omega), if_neg (by omega), if_pos rfl]
  refine ⟨⟨n' + 1, by omega, by rw [enV_r, if_neg (by omega), if_pos rfl], fun k hk => ?_, fun k k' hk hk' => ?_, fun q hq => ?_⟩, fun i hi => ?_, fun i q1 q2 => ?_, fun i hi => ?_, ?_, ?_, ?_, Nat.le_trans hct hct2⟩
  · by_cases q : k = n'
    · rw [q, en]
      exact ⟨j, hj, rfl, ej⟩
    · obtain ⟨p, p1, p2, p3⟩ := n3 k (by omega)
      refine ⟨p, p1, by rw [e _ (by omega) (by omega) (by omega)]; exact p2, ?_⟩
      by_cases z : p = j
      · rw [z]; exact ej
      · rw [e _ (by omega) (by omega) (by omega)]; exact p3
  · have hz : ∀ k, k < n' → ¬ v (4 + k) = nI j := fun k hk z => by
      obtain ⟨p, p1, p2, p3⟩ := n3 k hk
      have : p = j := (nI_eq (by omega) (by omega)).mp (p2.symm.trans z)
      rw [this, h0] at p3
      exact absurd p3 (by decide)
    by_cases q : k = n'
    · by_cases q' : k' = n'
      · intro _; omega
      · rw [q, en, e _ (by omega) (by omega) (by omega)]
        intro z
        exact absurd z.symm (hz k' (by omega))
    · by_cases q' : k' = n'
      · rw [q', en, e _ (by omega) (by omega) (by omega)]
        intro z
        exact absurd z (hz k (by omega))
      · rw [e _ (by omega) (by omega) (by omega), e _ (by omega) (by omega) (by omega)]
        exact n4 k k' (by omega) (by omega)
  · by_cases z : q = j
    · intro _
      exact ⟨n', by omega, by rw [en, z]⟩
    · rw [e _ (by omega) (by omega) (by omega)]
      intro y
      obtain ⟨k, k1, k2⟩ := n5 q hq y
      exact ⟨k, by omega, by rw [e _ (by omega) (by omega) (by omega)]; exact k2⟩
  · by_cases z : i = j
    · rw [z, ej]; exact Or.inr (Or.inl rfl)
    · rw [e _ (by omega) (by omega) (by omega)]; exact a1 i hi
  · rw [e _ (by omega) (by omega) (by omega)]; exact a2 i q1 q2
  · rw [e _ (by omega) (by omega) (by omega), e _ (by omega) (by omega) (by omega), e 1 (by omega) (by omega) (by omega)]; exact a3 i hi
  · rw [e _ (by omega) (by omega) (by omega)]; exact a4
  · rw [e _ (by omega) (by omega) (by omega)]; exact a5
  · rw [e _ (by omega) (by omega) (by omega)]; exact a6
theorem c_en {h : xH} (hs : SC h 13 G v) (hG : G ≤ 8) {j n : Nat} (hj : j < G) (hn : v 3 = nI n) (hn8 : n < 8) : ∃ h' : xH, (∀ a, ¬ (13 ≤ a ∧ a < 19) → h' a = h a) ∧ SC h' 13 G (enV v n j) ∧ ∀ Q : Option Value → xG → xH → Prop, EV X mX3_enqueue 0 0 0 [.ref 13, .int (nI j)] [] (Gb sw) h Q = Q none (Gb sw) h' := by
  have hj8 : j < 8 := by omega
  have hcl : (v 3).toNatClampNeg = n := by rw [hn]; exact cl_nI (by omega)
  have e : ∀ t, ¬ t = 12 + j → ¬ t = 3 → ¬ t = 4 + n → enV v n j t = v t := fun t q1 q2 q3 => by rw [enV_r, if_neg q1, if_neg q2, if_neg q3]
  refine ⟨xu (xu (xu h 14 n (nI j)) 13 3 (nI (n + 1))) 17 j 1, fun a ha => by rw [xun _ _ _ _ _ (by omega), xun _ _ _ _ _ (by omega), xun _ _ _ _ _ (by omega)], ⟨⟨?_, ?_, ?_, ?_⟩, fun i hi => ?_, fun i hi => ?_, fun i hi => ⟨?_, ?_, fun q => ?_⟩⟩, fun Q => ?_⟩
  · rw [e _ (by omega) (by omega) (by omega)]; simp only [xun, xus, xps, xpn, ne_eq, not_false_eq_true, Nat.reduceEqDiff, not_false_iff]; exact hs.1.1
  · rw [e _ (by omega) (by omega) (by omega)]; simp only [xun, xus, xps, xpn, ne_eq, not_false_eq_true, Nat.reduceEqDiff, not_false_iff]; exact hs.1.2.1
  · rw [e _ (by omega) (by omega) (by omega)]; simp only [xun, xus, xps, xpn, ne_eq, not_false_eq_true, Nat.reduceEqDiff, not_false_iff]; exact hs.1.2.2.1
  · rw [enV_r, if_neg (by omega), if_pos rfl]; simp only [xun, xus, xps, xpn, ne_eq, not_false_eq_true, Nat.reduceEqDiff, not_false_iff]
  · rw [enV_r, if_neg (by omega), if_pos rfl, cl_nI (by omega)] at hi
    show xu (xu (xu h 14 n (nI j)) 13 3 (nI (n + 1))) 17 j 1 14 i = _
    simp only [xun, xus, xps, xpn, ne_eq, not_false_eq_true, Nat.reduceEqDiff, not_false_iff]
    by_cases q : i = n
    · rw [q, xps, enV_r, if_neg (by omega), if_neg (by omega), if_pos rfl]
    · rw [xpn _ _ _ _ q, e _ (by omega) (by omega) (by omega)]
      exact hs.q i (by omega)
  · show xu (xu (xu h 14 n (nI j)) 13 3 (nI (n + 1))) 17 j 1 17 i = _
    simp only [xun, xus, xps, xpn, ne_eq, not_false_eq_true, Nat.reduceEqDiff, not_false_iff]
    by_cases q : i = j
    · rw [q, xps, enV_r, if_pos rfl]
    · rw [xpn _ _ _ _ q, e _ (by omega) (by omega) (by omega)]
      exact hs.w i hi
  · rw [e _ (by omega) (by omega) (by omega)]
    show xu (xu (xu h 14 n (nI j)) 13 3 (nI (n + 1))) 17 j 1 15 i = _
    simp only [xun, xus, xps, xpn, ne_eq, not_false_eq_true, Nat.reduceEqDiff, not_false_iff]; exact hs.a i hi
  · rw [e _ (by omega) (by omega) (by omega)]
    show xu (xu (xu h 14 n (nI j)) 13 3 (nI (n + 1))) 17 j 1 16 i = _
    simp only [xun, xus, xps, xpn, ne_eq, not_false_eq_true, Nat.reduceEqDiff, not_false_iff]; exact hs.k i hi
  · have z : ¬ i = j := fun z => by rw [z, enV_r, if_pos rfl] at q; exact absurd q (by decide)
    rw [e _ (by omega) (by omega) (by omega)] at q
    rw [e _ (by omega) (by omega) (by omega)]
    show xu (xu (xu h 14 n (nI j)) 13 3 (nI (n + 1))) 17 j 1 18 i = _
    simp only [xun, xus, xps, xpn, ne_eq, not_false_eq_true, Nat.reduceEqDiff, not_false_iff]; exact hs.s i hi q
  · have q1 : ¬ (8 : Int32) ≤ nI n := nI_ge (b := 8) (by omega) (by omega)
    have q1' : nI n < (8 : Int32) := nI_lt (b := 8) (by omega) (by omega)
    simp only [eX3_enqueue_0, eX3_enqueue_1, eX3_enqueue_4, eX3_enqueue_6, eX3_enqueue_9, eX3_enqueue_10, eX3_enqueue_13, eX3_enqueue_14, eX3_enqueue_17, eX3_enqueue_18, eX3_enqueue_19, eX3_enqueue_20, eX3_enqueue_21, eX3_enqueue_24, eX3_enqueue_25, eX3_enqueue_26, eX3_enqueue_29, eX3_enqueue_30, eX3_enqueue_33, eX3_enqueue_34, eX3_enqueue_35, eX3_enqueue_36, Option.toList_some, Option.toList_none, List.cons_append, List.nil_append, is01_0, is01_1, true_and, hs.1, hn, q1, q1', if_false, if_true, cl8 hj8, cl8 hn8, inb8 hj8 (Nat.le_refl 8), inb8 hn8 (Nat.le_refl 8), xun, xus, xps, xpn, ne_eq, not_false_eq_true, Nat.reduceEqDiff, not_false_iff, nI_1]
theorem m_en {h : xH} (hs : SM h 145 0 G v) (hG : G ≤ 8) {j n : Nat} (hj : j < G) (hn : v 3 = nI n) (hn8 : n < 8) : ∃ h' : xH, (∀ a, ¬ a = 145 → h' a = h a) ∧ SM h' 145 0 G (enV v n j) ∧ ∀ Q : Option Value → xG → xH → Prop, EV X mX6_joinNow 0 0 0 [.ref 140, .int (nI j)] [] (Gb sw) h Q = Q none (Gb sw) h' := by
  have hj8 : j < 8 := by omega
  have hcl : (v 3).toNatClampNeg = n := by rw [hn]; exact cl_nI (by omega)
  have s1 := hs.set (4 + n) (nI j) (by omega) (fun i hi q _ => by omega)
  have s2 := s1.set3 (nI (n + 1)) (fun i hi => by
    rw [cl_nI (by omega)] at hi
    rw [xus]
    by_cases q : i = n
    · rw [q, xps, xps]
    · rw [xpn _ _ _ _ (by omega), xpn _ _ _ _ (by omega)]
      exact hs.q i (by omega))
  have s3 := s2.set (12 + j) 1 (by omega) (fun i hi q z => absurd z (by decide))
  refine ⟨xu (xu (xu h 145 (4 + n) (nI j)) 145 3 (nI (n + 1))) 145 (12 + j) 1, fun a ha => by rw [xun _ _ _ _ _ ha, xun _ _ _ _ _ ha, xun _ _ _ _ _ ha], s3, fun Q => ?_⟩
  have e3 : xu h 145 (4 + n) (nI j) 145 3 = nI n := by rw [xus, xpn _ _ _ _ (by omega)]; exact hs.f.2.2.2.trans hn
  simp only [eX6_joinNow_0, eX6_joinNow_1, eX6_joinNow_4, eX6_joinNow_5, eX6_joinNow_6, eX6_joinNow_9, eX6_joinNow_10, eX6_joinNow_11, eX6_joinNow_12, eX6_joinNow_13, eX6_joinNow_14, eX6_joinNow_15, eX6_joinNow_18, eX6_joinNow_19, eX6_joinNow_20, eX6_joinNow_21, eX6_joinNow_22, eX6_joinNow_23, eX6_joinNow_24, eX6_joinNow_25, eX6_joinNow_28, eX6_joinNow_30, eX6_joinNow_31, eX6_joinNow_32, eX6_joinNow_33, eX6_joinNow_34, Option.toList_some, Option.toList_none, List.cons_append, List.nil_append, is01_0, is01_1, true_and, hs.f, hn, tc3, ib3, la4, la12, la20, la28, la36, cl8_4 hj8, cl8_12 hj8, cl8_20 hj8, cl8_28 hj8, cl8_36 hj8, ib8_4 hj8, ib8_12 hj8, ib8_20 hj8, ib8_28 hj8, ib8_36 hj8, cl8_4 hn8, cl8_12 hn8, cl8_20 hn8, cl8_28 hn8, cl8_36 hn8, ib8_4 hn8, ib8_12 hn8, ib8_20 hn8, ib8_28 hn8, ib8_36 hn8, e3, nI_1]
/-! one goes out of the queue -/
def tkV (v : Nat → Int32) (k n : Nat) : Nat → Int32 := fun t => if t = 3 then nI n else if 4 + k ≤ t ∧ t < 4 + n then v (t + 1) else v t
def dqV (v : Nat → Int32) (k n q : Nat) (p : Int32) : Nat → Int32 := xp (tkV v k n) (12 + q) p
theorem dqV_r (v : Nat → Int32) (k n q : Nat) (p : Int32) (t : Nat) : dqV v k n q p t = if t = 12 + q then p else if t = 3 then nI n else if 4 + k ≤ t ∧ t < 4 + n then v (t + 1) else v t := rfl
theorem tk_xp {v : Nat → Int32} {k n q : Nat} {p : Int32} (hn : n < 8) : tkV (xp v (12 + q) p) k n = dqV v k n q p := by
  funext t
  rw [dqV_r]
  unfold tkV
  by_cases h1 : t = 12 + q
  · rw [if_pos h1, if_neg (by omega), if_neg (by omega), h1, xps]
  · rw [if_neg h1]
    by_cases h2 : t = 3
    · rw [if_pos h2, if_pos h2]
    · rw [if_neg h2, if_neg h2]
      by_cases h3 : 4 + k ≤ t ∧ t < 4 + n
      · rw [if_pos h3, if_pos h3, xpn _ _ _ _ (by omega)]
      · rw [if_neg h3, if_neg h3, xpn _ _ _ _ h1]
theorem dq_xp {v : Nat → Int32} {k n q : Nat} {p y : Int32} : dqV (xp v 2 y) k n q p = xp (dqV v k n q p) 2 y := by
  funext t
  rw [dqV_r]
  by_cases h0 : t = 2
  · rw [if_neg (by omega), if_neg (by omega), if_neg (by omega), h0, xps, xps]
  · rw [xpn _ _ _ _ h0, xpn _ _ _ _ h0, dqV_r]
    by_cases h3 : 4 + k ≤ t ∧ t < 4 + n
    · rw [if_pos h3, if_pos h3, xpn _ _ _ _ (by omega)]
    · rw [if_neg h3, if_neg h3]
theorem SW.dq (hV : SW w G v) (hG : G ≤ 8) {k n q : Nat} {p : Int32} (hn : v 3 = nI (n + 1)) (hn8 : n < 8) (hk : k < n + 1) (hq : v (4 + k) = nI q) (hqG : q < G) (hp : p = 0 ∨ p = 2) (hct : ctS (dqV v k n q p) 2 8 ≤ (w 1).toNatClampNeg) : SW w G (dqV v k n q p) := by
  obtain ⟨⟨n', n1, n2, n3, n4, n5⟩, a1, a2, a3, a4, a5, a6, a7⟩ := hV
  have : n' = n + 1 := (nI_eq (by omega) (by omega)).mp (n2.symm.trans hn)
  subst this
  have hp1 : ¬ p = 1 := by rcases hp with rfl | rfl <;> decide
  have e : ∀ t, ¬ t = 12 + q → ¬ t = 3 → ¬ (4 ≤ t ∧ t < 12) → dqV v k n q p t = v t := fun t q1 q2 q3 => by rw [dqV_r, if_neg q1, if_neg q2, if_neg (by omega)]
  have eq' : dqV v k n q p (12 + q) = p := by rw [dqV_r, if_pos rfl]
  have el : ∀ i, i < n → dqV v k n q p (4 + i) = v (4 + (if i < k then i else i + 1)) := fun i hi => by
    rw [dqV_r, if_neg (by omega), if_neg (by omega)]
    by_cases z : i < k
    · rw [if_neg (by omega), if_pos z]
    · rw [if_pos (by omega), if_neg z]
      rfl
  refine ⟨⟨n, by omega, by rw [dqV_r, if_neg (by omega), if_pos rfl], fun i hi => ?_, fun i i' hi hi' => ?_, fun r hr => ?_⟩, fun i hi => ?_, fun i q1 q2 => ?_, fun i hi => ?_, ?_, ?_, ?_, hct⟩
  · obtain ⟨r, r1, r2, r3⟩ := n3 (if i < k then i else i + 1) (by split <;> omega)
    have hne : ¬ r = q := fun z => by
      have := n4 _ k (by split <;> omega) hk (r2.trans (by rw [z]; exact hq.symm))
      split at this <;> omega
    exact ⟨r, r1, by rw [el i hi]; exact r2, by rw [e _ (by omega) (by omega) (by omega)]; exact r3⟩
  · rw [el i hi, el i' hi']
    intro z
    have := n4 _ _ (by split <;> omega) (by split <;> omega) z
    split at this <;> split at this <;> omega
  · by_cases z : r = q
    · rw [z, eq']
      exact fun y => absurd y hp1
    · rw [e _ (by omega) (by omega) (by omega)]
      intro y
      obtain ⟨i, i1, i2⟩ := n5 r hr y
      have hik : ¬ i = k := fun zz => by
        rw [zz, hq] at i2
        exact z ((nI_eq (by omega) (by omega)).mp i2).symm
      by_cases zz : i < k
      · refine ⟨i, by omega, ?_⟩
        rw [el i (by omega), if_pos zz]
        exact i2
      · refine ⟨i - 1, by omega, ?_⟩
        rw [el _ (by omega), if_neg (by omega), show i - 1 + 1 = i by omega]
        exact i2
  · by_cases z : i = q
    · rw [z, eq']
      rcases hp with y | y
      · exact Or.inl y
      · exact Or.inr (Or.inr (Or.inl y))
    · rw [e _ (by omega) (by omega) (by omega)]; exact a1 i hi
  · rw [e _ (by omega) (by omega) (by omega)]; exact a2 i q1 q2
  · rw [e _ (by omega) (by omega) (by omega), e _ (by omega) (by omega) (by omega), e 1 (by omega) (by omega) (by omega)]; exact a3 i hi
  · rw [e _ (by omega) (by omega) (by omega)]; exact a4
  · rw [e _ (by omega) (by omega) (by omega)]; exact a5
  · rw [e _ (by omega) (by omega) (by omega)]; exact a6
theorem ct_dq {k n q : Nat} {p : Int32} (hn8 : n < 8) (hq : q < 8) (h1 : v (12 + q) = 1) : ctS (dqV v k n q p) 2 8 = ctS v 2 8 + (if p = 2 then 1 else 0) := by
  have e : ctS (dqV v k n q p) 2 8 = ctS (xp v (12 + q) p) 2 8 := by
    apply fb_ct_cong
    intro i hi
    rw [dqV_r]
    by_cases z : i = q
    · rw [if_pos (by omega), z, xps]
    · rw [if_neg (by omega), if_neg (by omega), if_neg (by omega), xpn _ _ _ _ (by omega)]
  have := ct_xp v hq p
  rw [h1, if_neg (by decide), Nat.add_zero] at this
  rw [e]
  exact this
theorem c_dq (X : (Nat → Int32) × Nat) (sw : Bool) {h : xH} (hs : SC h 13 G v) (hG : G ≤ 8) {k n q : Nat} {p : Int32} (hn : v 3 = nI (n + 1)) (hn8 : n < 8) (hk : k < n + 1) (hq : v (4 + k) = nI q) (hqG : q < G) (hp : p = 0 ∨ p = 2) : ∃ h' : xH, (∀ a, ¬ (13 ≤ a ∧ a < 19) → h' a = h a) ∧ SC h' 13 G (dqV v k n q p) ∧ ∀ Q : Option Value → xG → xH → Prop, EV X mX3_dequeue 0 0 0 [.ref 13, .int (nI k), .int p, .null] [] (Gb sw) h Q = Q none (Gb sw) h' := by
  have hq8 : q < 8 := by omega
  have hk8 : k < 8 := by omega
  have hcl : (v 3).toNatClampNeg = n + 1 := by rw [hn]; exact cl_nI (by omega)
  have hp3 : ¬ p = 3 := by rcases hp with rfl | rfl <;> decide
  let h1 := xu (xu h 17 q p) 13 3 (nI n)
  have f1 : ∀ a, ¬ a = 13 → ¬ a = 17 → h1 a = h a := fun a q1 q2 => by show xu _ _ _ _ _ = _; rw [xun _ _ _ _ _ q1, xun _ _ _ _ _ q2]
  have f13 : h1 13 3 = nI n := by show xu _ _ _ _ _ _ = _; rw [xus, xps]
  let h2 := cpR h1 14 k 14 (k + 1) (n - k)
  have f2 : ∀ a, ¬ a = 14 → h2 a = h1 a := fun a ha => cpR_o ha
  have e : ∀ t, ¬ t = 12 + q → ¬ t = 3 → ¬ (4 ≤ t ∧ t < 12) → dqV v k n q p t = v t := fun t q1 q2 q3 => by rw [dqV_r, if_neg q1, if_neg q2, if_neg (by omega)]
  refine ⟨h2, fun a ha => by rw [f2 a (by omega), f1 a (by omega) (by omega)], ⟨⟨?_, ?_, ?_, ?_⟩, fun i hi => ?_, fun i hi => ?_, fun i hi => ⟨?_, ?_, fun z => ?_⟩⟩, fun Q => ?_⟩
  · rw [e _ (by omega) (by omega) (by omega), f2 _ (by omega)]
    show xu _ _ _ _ _ _ = _
    simp only [xun, xus, xps, xpn, ne_eq, not_false_eq_true, Nat.reduceEqDiff, not_false_iff]; exact hs.1.1
  · rw [e _ (by omega) (by omega) (by omega), f2 _ (by omega)]
    show xu _ _ _ _ _ _ = _
    simp only [xun, xus, xps, xpn, ne_eq, not_false_eq_true, Nat.reduceEqDiff, not_false_iff]; exact hs.1.2.1
  · rw [e _ (by omega) (by omega) (by omega), f2 _ (by omega)]
    show xu _ _ _ _ _ _ = _
    simp only [xun, xus, xps, xpn, ne_eq, not_false_eq_true, Nat.reduceEqDiff, not_false_iff]; exact hs.1.2.2.1
  · rw [f2 _ (by omega), f13, dqV_r, if_neg (by omega), if_pos rfl]
  · rw [dqV_r, if_neg (by omega), if_pos rfl, cl_nI (by omega)] at hi
    show cpR h1 14 k 14 (k + 1) (n - k) 14 i = _
    rw [dqV_r, if_neg (by omega), if_neg (by omega)]
    by_cases z : i < k
    · rw [cpR_n _ (by omega), if_neg (by omega), f1 14 (by omega) (by omega)]
      exact hs.q i (by omega)
    · have := cpR_i (h := h1) (dst := 14) (off := k) (src := 14) (off2 := k + 1) (N := n - k) (k := i - k) (by omega)
      rw [show k + (i - k) = i by omega, show k + 1 + (i - k) = i + 1 by omega] at this
      rw [this, if_pos (by omega), f1 14 (by omega) (by omega)]
      exact hs.q (i + 1) (by omega)
  · show h2 17 i = _
    rw [f2 17 (by omega)]
    show xu _ _ _ _ _ _ = _
    rw [xun _ _ _ _ _ (by omega), xus]
    by_cases z : i = q
    · rw [z, xps, dqV_r, if_pos rfl]
    · rw [xpn _ _ _ _ z, e _ (by omega) (by omega) (by omega)]
      exact hs.w i hi
  · rw [e _ (by omega) (by omega) (by omega), f2 _ (by omega), f1 _ (by omega) (by omega)]; exact hs.a i hi
  · rw [e _ (by omega) (by omega) (by omega), f2 _ (by omega), f1 _ (by omega) (by omega)]; exact hs.k i hi
  · have z1 : ¬ i = q := fun y => by rw [y, dqV_r, if_pos rfl] at z; exact hp3 z
    rw [e _ (by omega) (by omega) (by omega)] at z
    rw [e _ (by omega) (by omega) (by omega), f2 _ (by omega), f1 _ (by omega) (by omega)]; exact hs.s i hi z
  · have c1 : ¬ nI k < 0 := nI_pos (by omega)
    have c2 : nI k < nI (n + 1) := nI_lt (by omega) (by omega)
    have c2' : ¬ nI (n + 1) ≤ nI k := by rw [Int32.not_le]; exact c2
    have e3 : nI (n + 1) - 1 = nI n := nI_pred n
    have hqk : h 14 k = nI q := (hs.q k (by omega)).trans hq
    simp only [eX3_dequeue_0, eX3_dequeue_1, eX3_dequeue_4, eX3_dequeue_5, eX3_dequeue_6, eX3_dequeue_9, eX3_dequeue_12, eX3_dequeue_13, eX3_dequeue_14, eX3_dequeue_17, eX3_dequeue_18, eX3_dequeue_21, eX3_dequeue_22, eX3_dequeue_23, eX3_dequeue_24, eX3_dequeue_25, eX3_dequeue_26, eX3_dequeue_27, eX3_dequeue_30, eX3_dequeue_31, eX3_dequeue_32, eX3_dequeue_35, eX3_dequeue_36, eX3_dequeue_38, eX3_dequeue_39, eX3_dequeue_42, eX3_dequeue_45, eX3_dequeue_46, eX3_dequeue_49, eX3_dequeue_50, eX3_dequeue_51, eX3_dequeue_54, eX3_dequeue_55, eX3_dequeue_56, eX3_dequeue_57, eX3_dequeue_58, eX3_dequeue_59, eX3_dequeue_62, eX3_dequeue_65, Option.toList_some, Option.toList_none, List.cons_append, List.nil_append, is01_0, is01_1, true_and, hs.1, hn, c1, c2, c2', if_false, if_true, cl8 hk8, inb8 hk8 (Nat.le_refl 8), hqk, cl8 hq8, inb8 hq8 (Nat.le_refl 8), xun _ _ _ _ _ (show ¬ 13 = 17 by decide), e3]
    have key := lp_copy (fun i h => EV X mX3_dequeue 0 0 37 [.ref 13, .int (nI k), .int p, .int (nI (k + i))] [] (Gb sw) h Q) (h0 := h1) (dst := 14) (off := k) (src := 14) (off2 := k + 1) (Or.inr (by omega)) (n - k) (fun i hi => by
      have r1 : cpR h1 14 k 14 (k + 1) i 13 = h1 13 := cpR_o (by omega)
      show EV X mX3_dequeue 0 0 37 _ _ _ _ _ = _
      rw [eX3_dequeue_37]
      have z1 : k + i < 8 := by omega
      have z2 : k + i + 1 < 8 := by omega
      simp only [eX3_dequeue_0, eX3_dequeue_1, eX3_dequeue_4, eX3_dequeue_5, eX3_dequeue_6, eX3_dequeue_9, eX3_dequeue_12, eX3_dequeue_13, eX3_dequeue_14, eX3_dequeue_17, eX3_dequeue_18, eX3_dequeue_21, eX3_dequeue_22, eX3_dequeue_23, eX3_dequeue_24, eX3_dequeue_25, eX3_dequeue_26, eX3_dequeue_27, eX3_dequeue_30, eX3_dequeue_31, eX3_dequeue_32, eX3_dequeue_35, eX3_dequeue_36, eX3_dequeue_38, eX3_dequeue_39, eX3_dequeue_42, eX3_dequeue_45, eX3_dequeue_46, eX3_dequeue_49, eX3_dequeue_50, eX3_dequeue_51, eX3_dequeue_54, eX3_dequeue_55, eX3_dequeue_56, eX3_dequeue_57, eX3_dequeue_58, eX3_dequeue_59, eX3_dequeue_62, eX3_dequeue_65, Option.toList_some, Option.toList_none, List.cons_append, List.nil_append, is01_0, is01_1, true_and, r1, f13, nI_1, cl8 z1, cl8 z2, inb8 z1 (Nat.le_refl 8), inb8 z2 (Nat.le_refl 8)]
      rw [if_neg (nI_ge (by omega) (by omega)), show k + 1 + i = k + i + 1 by omega]
      rfl)
    refine Eq.trans ?_ (key.trans ?_)
    · rfl
    · have r1 : cpR h1 14 k 14 (k + 1) (n - k) 13 = h1 13 := cpR_o (by omega)
      show EV X mX3_dequeue 0 0 37 _ _ _ _ _ = _
      rw [eX3_dequeue_37]
      simp only [eX3_dequeue_0, eX3_dequeue_1, eX3_dequeue_4, eX3_dequeue_5, eX3_dequeue_6, eX3_dequeue_9, eX3_dequeue_12, eX3_dequeue_13, eX3_dequeue_14, eX3_dequeue_17, eX3_dequeue_18, eX3_dequeue_21, eX3_dequeue_22, eX3_dequeue_23, eX3_dequeue_24, eX3_dequeue_25, eX3_dequeue_26, eX3_dequeue_27, eX3_dequeue_30, eX3_dequeue_31, eX3_dequeue_32, eX3_dequeue_35, eX3_dequeue_36, eX3_dequeue_38, eX3_dequeue_39, eX3_dequeue_42, eX3_dequeue_45, eX3_dequeue_46, eX3_dequeue_49, eX3_dequeue_50, eX3_dequeue_51, eX3_dequeue_54, eX3_dequeue_55, eX3_dequeue_56, eX3_dequeue_57, eX3_dequeue_58, eX3_dequeue_59, eX3_dequeue_62, eX3_dequeue_65, Option.toList_some, Option.toList_none, List.cons_append, List.nil_append, is01_0, is01_1, true_and, r1, f13]
      rw [if_pos (nI_le (by omega) (by omega))]
theorem m_tk (X : (Nat → Int32) × Nat) (sw : Bool) {h : xH} (hs : SM h 145 0 G v) (hG : G ≤ 8) {k n : Nat} (hn : v 3 = nI (n + 1)) (hn8 : n < 8) (hk : k < n + 1) : ∃ h' : xH, (∀ a, ¬ a = 145 → h' a = h a) ∧ SM h' 145 0 G (tkV v k n) ∧ ∀ Q : Option Value → xG → xH → Prop, EV X mX6_takeFromLine 0 0 0 [.ref 140, .int (nI k), .null] [] (Gb sw) h Q = Q none (Gb sw) h' := by
  have hcl : (v 3).toNatClampNeg = n + 1 := by rw [hn]; exact cl_nI (by omega)
  let h1 := xu h 145 3 (nI n)
  have f1 : ∀ a, ¬ a = 145 → h1 a = h a := fun a q1 => by show xu _ _ _ _ _ = _; rw [xun _ _ _ _ _ q1]
  have f3 : h1 145 3 = nI n := by show xu _ _ _ _ _ _ = _; rw [xus, xps]
  have f4 : ∀ t, ¬ t = 3 → h1 145 t = h 145 t := fun t ht => by show xu _ _ _ _ _ _ = _; rw [xus, xpn _ _ _ _ ht]
  let hc := cpR h1 145 (4 + k) 145 (4 + k + 1) (n - k)
  have g3 : hc 145 3 = nI n := by show cpR _ _ _ _ _ _ _ _ = _; rw [cpR_n _ (by omega)]; exact f3
  let h2 := xu hc 145 (4 + n) 0
  have e : ∀ t, ¬ t = 3 → ¬ (4 ≤ t ∧ t < 12) → h2 145 t = h 145 t := fun t q1 q2 => by
    show xu _ _ _ _ _ _ = _
    rw [xus, xpn _ _ _ _ (by omega)]
    show cpR _ _ _ _ _ _ _ _ = _
    rw [cpR_n _ (by omega), f4 t q1]
  have ev : ∀ t, ¬ t = 3 → ¬ (4 ≤ t ∧ t < 12) → tkV v k n t = v t := fun t q1 q2 => by unfold tkV; rw [if_neg q1, if_neg (by omega)]
  refine ⟨h2, fun a ha => ?_, ⟨⟨?_, ?_, ?_, ?_⟩, fun i hi => ?_, fun i hi => ⟨?_, ?_, ?_, fun z => ?_⟩⟩, fun Q => ?_⟩
  · show xu _ _ _ _ _ = _
    rw [xun _ _ _ _ _ ha]
    show cpR _ _ _ _ _ _ _ = _
    rw [cpR_o ha, f1 a ha]
  · rw [e _ (by omega) (by omega), ev _ (by omega) (by omega)]; exact hs.f.1
  · rw [e _ (by omega) (by omega), ev _ (by omega) (by omega)]; exact hs.f.2.1
  · rw [e _ (by omega) (by omega), ev _ (by omega) (by omega)]; exact hs.f.2.2.1
  · show xu _ _ _ _ _ _ = _
    rw [xus, xpn _ _ _ _ (by omega)]
    unfold tkV
    rw [if_pos rfl]
    exact g3
  · have e3 : tkV v k n 3 = nI n := by unfold tkV; rw [if_pos rfl]
    rw [e3, cl_nI (by omega)] at hi
    rw [Nat.zero_add]
    show xu _ _ _ _ _ _ = _
    rw [xus, xpn _ _ _ _ (by omega)]
    show cpR _ _ _ _ _ _ _ _ = _
    unfold tkV
    rw [if_neg (by omega)]
    by_cases z : i < k
    · rw [cpR_n _ (by omega), if_neg (by omega), f4 _ (by omega)]
      exact hs.q i (by omega)
    · have := cpR_i (h := h1) (dst := 145) (off := 4 + k) (src := 145) (off2 := 4 + k + 1) (N := n - k) (k := i - k) (by omega)
      rw [show 4 + k + (i - k) = 4 + i by omega, show 4 + k + 1 + (i - k) = 4 + (i + 1) by omega] at this
      rw [this, if_pos (by omega), f4 _ (by omega)]
      exact hs.q (i + 1) (by omega)
  · rw [Nat.zero_add, e _ (by omega) (by omega), ev _ (by omega) (by omega)]; exact hs.w i hi
  · rw [Nat.zero_add, e _ (by omega) (by omega), ev _ (by omega) (by omega)]; exact hs.a i hi
  · rw [Nat.zero_add, e _ (by omega) (by omega), ev _ (by omega) (by omega)]; exact hs.k i hi
  · rw [ev _ (by omega) (by omega)] at z
    rw [Nat.zero_add, e _ (by omega) (by omega), ev _ (by omega) (by omega)]; exact hs.s i hi z
  · have e3 : nI (n + 1) - 1 = nI n := nI_pred n
    simp only [eX6_takeFromLine_0, eX6_takeFromLine_1, eX6_takeFromLine_4, eX6_takeFromLine_5, eX6_takeFromLine_6, eX6_takeFromLine_7, eX6_takeFromLine_8, eX6_takeFromLine_9, eX6_takeFromLine_10, eX6_takeFromLine_11, eX6_takeFromLine_13, eX6_takeFromLine_14, eX6_takeFromLine_17, eX6_takeFromLine_18, eX6_takeFromLine_19, eX6_takeFromLine_22, eX6_takeFromLine_23, eX6_takeFromLine_26, eX6_takeFromLine_27, eX6_takeFromLine_28, eX6_takeFromLine_29, eX6_takeFromLine_30, eX6_takeFromLine_33, eX6_takeFromLine_34, eX6_takeFromLine_35, eX6_takeFromLine_36, eX6_takeFromLine_37, eX6_takeFromLine_38, eX6_takeFromLine_39, eX6_takeFromLine_40, eX6_takeFromLine_43, eX6_takeFromLine_46, eX6_takeFromLine_47, eX6_takeFromLine_50, eX6_takeFromLine_51, eX6_takeFromLine_52, eX6_takeFromLine_55, eX6_takeFromLine_56, eX6_takeFromLine_57, eX6_takeFromLine_58, eX6_takeFromLine_59, eX6_takeFromLine_60, Option.toList_some, Option.toList_none, List.cons_append, List.nil_append, is01_0, is01_1, true_and, hs.f, hn, tc3, ib3, e3]
    have key := lp_copy (fun i h => EV X mX6_takeFromLine 0 0 12 [.ref 140, .int (nI k), .int (nI (k + i))] [] (Gb sw) h Q) (h0 := h1) (dst := 145) (off := 4 + k) (src := 145) (off2 := 4 + k + 1) (Or.inr (by omega)) (n - k) (fun i hi => by
      have r1 : cpR h1 145 (4 + k) 145 (4 + k + 1) i 145 3 = nI n := by rw [cpR_n _ (by omega)]; exact f3
      show EV X mX6_takeFromLine 0 0 12 _ _ _ _ _ = _
      rw [eX6_takeFromLine_12]
      have z1 : k + i < 8 := by omega
      have z2 : k + i + 1 < 8 := by omega
      simp only [eX6_takeFromLine_0, eX6_takeFromLine_1, eX6_takeFromLine_4, eX6_takeFromLine_5, eX6_takeFromLine_6, eX6_takeFromLine_7, eX6_takeFromLine_8, eX6_takeFromLine_9, eX6_takeFromLine_10, eX6_takeFromLine_11, eX6_takeFromLine_13, eX6_takeFromLine_14, eX6_takeFromLine_17, eX6_takeFromLine_18, eX6_takeFromLine_19, eX6_takeFromLine_22, eX6_takeFromLine_23, eX6_takeFromLine_26, eX6_takeFromLine_27, eX6_takeFromLine_28, eX6_takeFromLine_29, eX6_takeFromLine_30, eX6_takeFromLine_33, eX6_takeFromLine_34, eX6_takeFromLine_35, eX6_takeFromLine_36, eX6_takeFromLine_37, eX6_takeFromLine_38, eX6_takeFromLine_39, eX6_takeFromLine_40, eX6_takeFromLine_43, eX6_takeFromLine_46, eX6_takeFromLine_47, eX6_takeFromLine_50, eX6_takeFromLine_51, eX6_takeFromLine_52, eX6_takeFromLine_55, eX6_takeFromLine_56, eX6_takeFromLine_57, eX6_takeFromLine_58, eX6_takeFromLine_59, eX6_takeFromLine_60, Option.toList_some, Option.toList_none, List.cons_append, List.nil_append, is01_0, is01_1, true_and, r1, tc3, ib3, la4, la12, la20, la28, la36, cl8_4 z1, cl8_12 z1, cl8_20 z1, cl8_28 z1, cl8_36 z1, ib8_4 z1, ib8_12 z1, ib8_20 z1, ib8_28 z1, ib8_36 z1, nI_1, show 4 + (k + i) + 1 = 4 + (k + i + 1) from rfl, cl8_4 z2, ib8_4 z2]
      rw [if_neg (nI_ge (by omega) (by omega)), show 4 + k + 1 + i = 4 + (k + i + 1) by omega, show 4 + k + i = 4 + (k + i) by omega]
      rfl)
    refine Eq.trans ?_ (key.trans ?_)
    · rfl
    · have r1 : cpR h1 145 (4 + k) 145 (4 + k + 1) (n - k) 145 3 = nI n := g3
      show EV X mX6_takeFromLine 0 0 12 _ _ _ _ _ = _
      rw [eX6_takeFromLine_12]
      simp only [eX6_takeFromLine_0, eX6_takeFromLine_1, eX6_takeFromLine_4, eX6_takeFromLine_5, eX6_takeFromLine_6, eX6_takeFromLine_7, eX6_takeFromLine_8, eX6_takeFromLine_9, eX6_takeFromLine_10, eX6_takeFromLine_11, eX6_takeFromLine_13, eX6_takeFromLine_14, eX6_takeFromLine_17, eX6_takeFromLine_18, eX6_takeFromLine_19, eX6_takeFromLine_22, eX6_takeFromLine_23, eX6_takeFromLine_26, eX6_takeFromLine_27, eX6_takeFromLine_28, eX6_takeFromLine_29, eX6_takeFromLine_30, eX6_takeFromLine_33, eX6_takeFromLine_34, eX6_takeFromLine_35, eX6_takeFromLine_36, eX6_takeFromLine_37, eX6_takeFromLine_38, eX6_takeFromLine_39, eX6_takeFromLine_40, eX6_takeFromLine_43, eX6_takeFromLine_46, eX6_takeFromLine_47, eX6_takeFromLine_50, eX6_takeFromLine_51, eX6_takeFromLine_52, eX6_takeFromLine_55, eX6_takeFromLine_56, eX6_takeFromLine_57, eX6_takeFromLine_58, eX6_takeFromLine_59, eX6_takeFromLine_60, Option.toList_some, Option.toList_none, List.cons_append, List.nil_append, is01_0, is01_1, true_and, r1, tc3, ib3, la4, la12, la20, la28, la36, cl8_4 hn8, cl8_12 hn8, cl8_20 hn8, cl8_28 hn8, cl8_36 hn8, ib8_4 hn8, ib8_12 hn8, ib8_20 hn8, ib8_28 hn8, ib8_36 hn8]
      rw [if_pos (nI_le (by omega) (by omega))]
theorem p_join (x : Int32) : OpK X mX5_join mX6_join [.ref 0, .int x] [.ref 140, .int x] := OpK.two fun sw h NL G w v H => by
  obtain ⟨n1, n2, n3, n4, n5, n6⟩ := id H.1
  by_cases c : 0 ≤ x ∧ x < nI G
  · obtain ⟨j, hj, rfl⟩ := goE n1.2.1 c
    have hj8 : j < 8 := by have := n1.2.1; omega
    by_cases c1 : v (12 + j) = 0
    · obtain ⟨n, q1, q2, q3⟩ := n2.n
      have hn8 : n < 8 := n2.lt8 n1.2.1 hj (by rw [c1]; decide) q2 q1
      obtain ⟨hp, hN, z0, z140, e1, K⟩ := act X H
      obtain ⟨m1, m2, m3, m4, m5, m6⟩ := id hN
      obtain ⟨h1, g1, hs', k1⟩ := c_en (X := X) (sw := sw) m5 n1.2.1 hj q2 hn8
      obtain ⟨hr, hM, hm, r0, r140, e2, K2⟩ := K h1 (fun a q1 q2 => g1 a q1)
      obtain ⟨h2, g2, hm', k2⟩ := m_en (X := X) (sw := sw) hm n1.2.1 hj q2 hn8
      have en3 : enV v n j 3 = nI (n + 1) := by rw [enV_r, if_neg (by omega), if_pos rfl]
      refine ⟨nI (n + 1), h1, h2, fun Q => ?_, fun Q => ?_, NL, G, w, _, K2 _ _ (fun a q1 q2 => g2 a q1) (fun k _ => by rw [g2 140 (by omega)]) (n2.en n1.2.1 hj c1 q2 hn8) hs' hm' ?_⟩
      · simp only [eX5_join_0, eX5_join_1, eX5_join_4, eX5_join_5, eX5_join_8, eX5_join_11, eX5_join_13, eX5_join_14, eX5_join_15, eX5_join_18, eX5_join_21, eX5_join_22, eX5_join_23, eX5_join_26, eX5_join_28, eX5_join_29, eX5_join_30, eX5_join_33, eX5_join_34, eX5_join_37, eX5_join_40, eX5_join_41, eX5_join_44, eX5_join_45, eX5_join_48, eX5_join_49, eX5_join_52, eX5_join_55, Option.toList_some, Option.toList_none, List.cons_append, List.nil_append, is01_0, is01_1, true_and, pl_P, c_hasGoer (pl_P sw) n3, b01_0, c, and_self, not_true, if_true, if_false, cl8 hj8, inb8 hj8 (Nat.le_refl 8), n5.w j hj8, c1, e1, k1, hs'.1, en3]
      · have p1 : PM h1 NL G w := by
          refine m4.mv ?_ ?_ ?_ ?_ ?_ ?_ ?_ ?_ <;> rw [g1 _ (by omega)]
        have p2 : SM h1 145 0 G v := m6.mv (g1 _ (by omega))
        simp only [eX6_join_0, eX6_join_1, eX6_join_2, eX6_join_5, eX6_join_8, eX6_join_10, eX6_join_11, eX6_join_12, eX6_join_15, eX6_join_17, eX6_join_18, eX6_join_19, eX6_join_20, eX6_join_23, eX6_join_25, eX6_join_26, eX6_join_27, eX6_join_30, eX6_join_31, eX6_join_32, eX6_join_35, eX6_join_36, eX6_join_39, eX6_join_40, eX6_join_41, Option.toList_some, Option.toList_none, List.cons_append, List.nil_append, is01_0, is01_1, true_and, m_isGoer p1 n1.2.1, b01_0, c, and_self, not_true, if_true, if_false, la4, la12, la20, la28, la36, cl8_4 hj8, cl8_12 hj8, cl8_20 hj8, cl8_28 hj8, cl8_36 hj8, ib8_4 hj8, ib8_12 hj8, ib8_20 hj8, ib8_28 hj8, ib8_36 hj8, p2.w j hj, c1, e2, k2, hm'.f, tc3, ib3, en3]
      · refine SDr.mv H.2.2.2.2.2.2.2.2 ?_ ?_
        · rw [g2 0 (by omega), r0, g1 0 (by omega), z0]
        · rw [g2 140 (by omega), r140]
    · refine OpK.same H ?_
      unfold Both
      simp only [eX5_join_0, eX5_join_1, eX5_join_4, eX5_join_5, eX5_join_8, eX5_join_11, eX5_join_13, eX5_join_14, eX5_join_15, eX5_join_18, eX5_join_21, eX5_join_22, eX5_join_23, eX5_join_26, eX5_join_28, eX5_join_29, eX5_join_30, eX5_join_33, eX5_join_34, eX5_join_37, eX5_join_40, eX5_join_41, eX5_join_44, eX5_join_45, eX5_join_48, eX5_join_49, eX5_join_52, eX5_join_55, eX6_join_0, eX6_join_1, eX6_join_2, eX6_join_5, eX6_join_8, eX6_join_10, eX6_join_11, eX6_join_12, eX6_join_15, eX6_join_17, eX6_join_18, eX6_join_19, eX6_join_20, eX6_join_23, eX6_join_25, eX6_join_26, eX6_join_27, eX6_join_30, eX6_join_31, eX6_join_32, eX6_join_35, eX6_join_36, eX6_join_39, eX6_join_40, eX6_join_41, Option.toList_some, Option.toList_none, List.cons_append, List.nil_append, is01_0, is01_1, true_and, pl_P, c_hasGoer (pl_P sw) n3, m_isGoer n4 n1.2.1, b01_0, c, and_self, not_true, if_true, if_false, cl8 hj8, inb8 hj8 (Nat.le_refl 8), la4, la12, la20, la28, la36, cl8_4 hj8, cl8_12 hj8, cl8_20 hj8, cl8_28 hj8, cl8_36 hj8, ib8_4 hj8, ib8_12 hj8, ib8_20 hj8, ib8_28 hj8, ib8_36 hj8, n5.w j hj8, n6.w j hj, c1, not_false_iff]
      first | exact ⟨_, fun _ => rfl, fun _ => rfl⟩ | exact ⟨_, fun _ => rfl⟩
  · refine OpK.same H ?_
    unfold Both
    simp only [eX5_join_0, eX5_join_1, eX5_join_4, eX5_join_5, eX5_join_8, eX5_join_11, eX5_join_13, eX5_join_14, eX5_join_15, eX5_join_18, eX5_join_21, eX5_join_22, eX5_join_23, eX5_join_26, eX5_join_28, eX5_join_29, eX5_join_30, eX5_join_33, eX5_join_34, eX5_join_37, eX5_join_40, eX5_join_41, eX5_join_44, eX5_join_45, eX5_join_48, eX5_join_49, eX5_join_52, eX5_join_55, eX6_join_0, eX6_join_1, eX6_join_2, eX6_join_5, eX6_join_8, eX6_join_10, eX6_join_11, eX6_join_12, eX6_join_15, eX6_join_17, eX6_join_18, eX6_join_19, eX6_join_20, eX6_join_23, eX6_join_25, eX6_join_26, eX6_join_27, eX6_join_30, eX6_join_31, eX6_join_32, eX6_join_35, eX6_join_36, eX6_join_39, eX6_join_40, eX6_join_41, Option.toList_some, Option.toList_none, List.cons_append, List.nil_append, is01_0, is01_1, true_and, pl_P, c_hasGoer (pl_P sw) n3, m_isGoer n4 n1.2.1, b01_0, c, not_true, not_false_iff, if_true, if_false]
    first | exact ⟨_, fun _ => rfl, fun _ => rfl⟩ | exact ⟨_, fun _ => rfl⟩
theorem p_leave (x : Int32) : OpK X mX5_leave mX6_leave [.ref 0, .int x] [.ref 140, .int x] := OpK.two fun sw h NL G w v H => by
  obtain ⟨n1, n2, n3, n4, n5, n6⟩ := id H.1
  by_cases c : 0 ≤ x ∧ x < nI G
  · obtain ⟨j, hj, rfl⟩ := goE n1.2.1 c
    have hj8 : j < 8 := by have := n1.2.1; omega
    by_cases c1 : v (12 + j) = 1
    · obtain ⟨n, q1, q2, q3, q4, q5, q6⟩ := n2.qu
      obtain ⟨k0, k01, k02⟩ := q6 j hj c1
      have hfind : xfind (fun k => decide (v (4 + k) = nI j)) 0 n = some k0 := by
        cases hf : xfind (fun k => decide (v (4 + k) = nI j)) 0 n with
        | none => exact absurd k02 (by have := xfind_none hf k0 (by omega) (by omega); simpa using this)
        | some k =>
          obtain ⟨b1, b2, b3, -⟩ := xfind_some hf
          have b3 : v (4 + k) = nI j := by simpa using b3
          rw [q5 k k0 (by omega) k01 (b3.trans k02.symm)]
      obtain ⟨m, rfl⟩ : ∃ m, n = m + 1 := ⟨n - 1, by omega⟩
      obtain ⟨hp, hN, z0, z140, e1, K⟩ := act X H
      obtain ⟨m1, m2, m3, m4, m5, m6⟩ := id hN
      obtain ⟨h1, g1, hs', k1⟩ := c_dq X sw (p := 0) m5 n1.2.1 q2 (by omega) k01 k02 hj (Or.inl rfl)
      obtain ⟨hr, hM, hm, r0, r140, e2, K2⟩ := K h1 (fun a q1 q2 => g1 a q1)
      obtain ⟨hq, g2, hm', k2⟩ := m_tk X sw hm n1.2.1 q2 (by omega) k01
      have hm2 : SM (xu hq 145 (12 + j) 0) 145 0 G (dqV v k0 m j 0) := hm'.set (12 + j) 0 (by omega) (fun i hi q z => absurd z (by decide))
      have en3 : dqV v k0 m j 0 3 = nI m := by rw [dqV_r, if_neg (by omega), if_pos rfl]
      have hct : ctS (dqV v k0 m j 0) 2 8 ≤ (w 1).toNatClampNeg := by
        rw [ct_dq (by omega) hj8 c1, if_neg (by decide)]
        exact n2.ct
      refine ⟨nI m, h1, xu hq 145 (12 + j) 0, fun Q => ?_, fun Q => ?_, NL, G, w, _, K2 _ _ (fun a q1 q2 => by rw [xun _ _ _ _ _ q1, g2 a q1]) (fun k _ => by rw [xun _ _ _ _ _ (by omega), g2 140 (by omega)]) (n2.dq n1.2.1 q2 (by omega) k01 k02 hj (Or.inl rfl) hct) hs' hm2 ?_⟩
      · simp only [eX5_leave_0, eX5_leave_1, eX5_leave_4, eX5_leave_5, eX5_leave_8, eX5_leave_11, eX5_leave_13, eX5_leave_14, eX5_leave_15, eX5_leave_18, eX5_leave_21, eX5_leave_22, eX5_leave_23, eX5_leave_24, eX5_leave_27, eX5_leave_29, eX5_leave_30, eX5_leave_31, eX5_leave_34, eX5_leave_35, eX5_leave_38, eX5_leave_41, eX5_leave_42, eX5_leave_45, eX5_leave_46, eX5_leave_49, eX5_leave_50, eX5_leave_53, eX5_leave_54, eX5_leave_57, eX5_leave_58, eX5_leave_61, eX5_leave_64, Option.toList_some, Option.toList_none, List.cons_append, List.nil_append, is01_0, is01_1, true_and, pl_P, c_hasGoer (pl_P sw) n3, b01_0, c, and_self, not_true, if_true, if_false, cl8 hj8, inb8 hj8 (Nat.le_refl 8), n5.w j hj8, c1, e1, c_turnOf m5 q2 q1, hfind, encO_s, k1, hs'.1, en3]
      · have p1 : PM h1 NL G w := by
          refine m4.mv ?_ ?_ ?_ ?_ ?_ ?_ ?_ ?_ <;> rw [g1 _ (by omega)]
        have p2 : SM h1 145 0 G v := m6.mv (g1 _ (by omega))
        simp only [eX6_leave_0, eX6_leave_1, eX6_leave_2, eX6_leave_5, eX6_leave_8, eX6_leave_10, eX6_leave_11, eX6_leave_12, eX6_leave_15, eX6_leave_17, eX6_leave_18, eX6_leave_19, eX6_leave_20, eX6_leave_21, eX6_leave_24, eX6_leave_26, eX6_leave_27, eX6_leave_28, eX6_leave_31, eX6_leave_32, eX6_leave_33, eX6_leave_34, eX6_leave_37, eX6_leave_40, eX6_leave_41, eX6_leave_44, eX6_leave_46, eX6_leave_47, eX6_leave_48, eX6_leave_49, eX6_leave_50, eX6_leave_51, eX6_leave_54, eX6_leave_55, eX6_leave_56, Option.toList_some, Option.toList_none, List.cons_append, List.nil_append, is01_0, is01_1, true_and, m_isGoer p1 n1.2.1, b01_0, c, and_self, not_true, if_true, if_false, la4, la12, la20, la28, la36, cl8_4 hj8, cl8_12 hj8, cl8_20 hj8, cl8_28 hj8, cl8_36 hj8, ib8_4 hj8, ib8_12 hj8, ib8_20 hj8, ib8_28 hj8, ib8_36 hj8, p2.w j hj, c1, e2, m_placeOf hm q2 q1, hfind, encO_s, k2, hm2.f, tc3, ib3, en3]
      · refine SDr.mv H.2.2.2.2.2.2.2.2 ?_ ?_
        · rw [xun _ _ _ _ _ (by omega), g2 0 (by omega), r0, g1 0 (by omega), z0]
        · rw [xun _ _ _ _ _ (by omega), g2 140 (by omega), r140]
    · refine OpK.same H ?_
      unfold Both
      simp only [eX5_leave_0, eX5_leave_1, eX5_leave_4, eX5_leave_5, eX5_leave_8, eX5_leave_11, eX5_leave_13, eX5_leave_14, eX5_leave_15, eX5_leave_18, eX5_leave_21, eX5_leave_22, eX5_leave_23, eX5_leave_24, eX5_leave_27, eX5_leave_29, eX5_leave_30, eX5_leave_31, eX5_leave_34, eX5_leave_35, eX5_leave_38, eX5_leave_41, eX5_leave_42, eX5_leave_45, eX5_leave_46, eX5_leave_49, eX5_leave_50, eX5_leave_53, eX5_leave_54, eX5_leave_57, eX5_leave_58, eX5_leave_61, eX5_leave_64, eX6_leave_0, eX6_leave_1, eX6_leave_2, eX6_leave_5, eX6_leave_8, eX6_leave_10, eX6_leave_11, eX6_leave_12, eX6_leave_15, eX6_leave_17, eX6_leave_18, eX6_leave_19, eX6_leave_20, eX6_leave_21, eX6_leave_24, eX6_leave_26, eX6_leave_27, eX6_leave_28, eX6_leave_31, eX6_leave_32, eX6_leave_33, eX6_leave_34, eX6_leave_37, eX6_leave_40, eX6_leave_41, eX6_leave_44, eX6_leave_46, eX6_leave_47, eX6_leave_48, eX6_leave_49, eX6_leave_50, eX6_leave_51, eX6_leave_54, eX6_leave_55, eX6_leave_56, Option.toList_some, Option.toList_none, List.cons_append, List.nil_append, is01_0, is01_1, true_and, pl_P, c_hasGoer (pl_P sw) n3, m_isGoer n4 n1.2.1, b01_0, c, and_self, not_true, if_true, if_false, cl8 hj8, inb8 hj8 (Nat.le_refl 8), la4, la12, la20, la28, la36, cl8_4 hj8, cl8_12 hj8, cl8_20 hj8, cl8_28 hj8, cl8_36 hj8, ib8_4 hj8, ib8_12 hj8, ib8_20 hj8, ib8_28 hj8, ib8_36 hj8, n5.w j hj8, n6.w j hj, c1, not_false_iff]
      first | exact ⟨_, fun _ => rfl, fun _ => rfl⟩ | exact ⟨_, fun _ => rfl⟩
  · refine OpK.same H ?_
    unfold Both
    simp only [eX5_leave_0, eX5_leave_1, eX5_leave_4, eX5_leave_5, eX5_leave_8, eX5_leave_11, eX5_leave_13, eX5_leave_14, eX5_leave_15, eX5_leave_18, eX5_leave_21, eX5_leave_22, eX5_leave_23, eX5_leave_24, eX5_leave_27, eX5_leave_29, eX5_leave_30, eX5_leave_31, eX5_leave_34, eX5_leave_35, eX5_leave_38, eX5_leave_41, eX5_leave_42, eX5_leave_45, eX5_leave_46, eX5_leave_49, eX5_leave_50, eX5_leave_53, eX5_leave_54, eX5_leave_57, eX5_leave_58, eX5_leave_61, eX5_leave_64, eX6_leave_0, eX6_leave_1, eX6_leave_2, eX6_leave_5, eX6_leave_8, eX6_leave_10, eX6_leave_11, eX6_leave_12, eX6_leave_15, eX6_leave_17, eX6_leave_18, eX6_leave_19, eX6_leave_20, eX6_leave_21, eX6_leave_24, eX6_leave_26, eX6_leave_27, eX6_leave_28, eX6_leave_31, eX6_leave_32, eX6_leave_33, eX6_leave_34, eX6_leave_37, eX6_leave_40, eX6_leave_41, eX6_leave_44, eX6_leave_46, eX6_leave_47, eX6_leave_48, eX6_leave_49, eX6_leave_50, eX6_leave_51, eX6_leave_54, eX6_leave_55, eX6_leave_56, Option.toList_some, Option.toList_none, List.cons_append, List.nil_append, is01_0, is01_1, true_and, pl_P, c_hasGoer (pl_P sw) n3, m_isGoer n4 n1.2.1, b01_0, c, not_true, not_false_iff, if_true, if_false]
    first | exact ⟨_, fun _ => rfl, fun _ => rfl⟩ | exact ⟨_, fun _ => rfl⟩
end QU
