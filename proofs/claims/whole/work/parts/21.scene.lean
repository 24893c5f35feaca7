/-! a scene, as class and model have it; pace, age, skill, band -/
def SC (h : xH) (a G : Nat) (v : Nat → Int32) : Prop := (h a 0 = v 0 ∧ h a 1 = v 1 ∧ h a 2 = v 2 ∧ h a 3 = v 3) ∧ (∀ k, k < (v 3).toNatClampNeg → h (a + 1) k = v (4 + k)) ∧ (∀ j, j < 8 → h (a + 4) j = v (12 + j)) ∧ ∀ j, j < G → h (a + 2) j = v (28 + j) ∧ h (a + 3) j = v (36 + j) ∧ (v (12 + j) = 3 → h (a + 5) j = v (20 + j))
def SM (h : xH) (b o G : Nat) (v : Nat → Int32) : Prop := (h b o = v 0 ∧ h b (o + 1) = v 1 ∧ h b (o + 2) = v 2 ∧ h b (o + 3) = v 3) ∧ (∀ k, k < (v 3).toNatClampNeg → h b (o + 4 + k) = v (4 + k)) ∧ ∀ j, j < G → h b (o + 12 + j) = v (12 + j) ∧ h b (o + 28 + j) = v (28 + j) ∧ h b (o + 36 + j) = v (36 + j) ∧ (v (12 + j) = 3 → h b (o + 20 + j) = v (20 + j))
theorem SC.w {h : xH} {G : Nat} {v : Nat → Int32} (hs : SC h 13 G v) : ∀ j, j < 8 → h 17 j = v (12 + j) := hs.2.2.1
theorem SC.a {h : xH} {G : Nat} {v : Nat → Int32} (hs : SC h 13 G v) (j : Nat) (hj : j < G) : h 15 j = v (28 + j) := (hs.2.2.2 j hj).1
theorem SC.k {h : xH} {G : Nat} {v : Nat → Int32} (hs : SC h 13 G v) (j : Nat) (hj : j < G) : h 16 j = v (36 + j) := (hs.2.2.2 j hj).2.1
theorem SC.s {h : xH} {G : Nat} {v : Nat → Int32} (hs : SC h 13 G v) (j : Nat) (hj : j < G) (h3 : v (12 + j) = 3) : h 18 j = v (20 + j) := (hs.2.2.2 j hj).2.2 h3
theorem SC.q {h : xH} {G : Nat} {v : Nat → Int32} (hs : SC h 13 G v) (k : Nat) (hk : k < (v 3).toNatClampNeg) : h 14 k = v (4 + k) := hs.2.1 k hk
theorem SM.f {h : xH} {G : Nat} {v : Nat → Int32} (hs : SM h 145 0 G v) : h 145 0 = v 0 ∧ h 145 1 = v 1 ∧ h 145 2 = v 2 ∧ h 145 3 = v 3 := hs.1
theorem SM.w {h : xH} {G : Nat} {v : Nat → Int32} (hs : SM h 145 0 G v) (j : Nat) (hj : j < G) : h 145 (12 + j) = v (12 + j) := by
  have := (hs.2.2 j hj).1; rwa [Nat.zero_add] at this
theorem SM.a {h : xH} {G : Nat} {v : Nat → Int32} (hs : SM h 145 0 G v) (j : Nat) (hj : j < G) : h 145 (28 + j) = v (28 + j) := by
  have := (hs.2.2 j hj).2.1; rwa [Nat.zero_add] at this
theorem SM.k {h : xH} {G : Nat} {v : Nat → Int32} (hs : SM h 145 0 G v) (j : Nat) (hj : j < G) : h 145 (36 + j) = v (36 + j) := by
  have := (hs.2.2 j hj).2.2.1; rwa [Nat.zero_add] at this
theorem SM.s {h : xH} {G : Nat} {v : Nat → Int32} (hs : SM h 145 0 G v) (j : Nat) (hj : j < G) (h3 : v (12 + j) = 3) : h 145 (20 + j) = v (20 + j) := by
  have := (hs.2.2 j hj).2.2.2 h3; rwa [Nat.zero_add] at this
theorem SM.q {h : xH} {G : Nat} {v : Nat → Int32} (hs : SM h 145 0 G v) (k : Nat) (hk : k < (v 3).toNatClampNeg) : h 145 (4 + k) = v (4 + k) := by
  have := hs.2.1 k hk; rwa [Nat.zero_add] at this
/-- what holds of every scene -/
def SW (w : Nat → Int32) (G : Nat) (v : Nat → Int32) : Prop :=
  (∃ n : Nat, n ≤ 8 ∧ v 3 = nI n ∧ (∀ k, k < n → ∃ q : Nat, q < G ∧ v (4 + k) = nI q ∧ v (12 + q) = 1) ∧ (∀ k k' : Nat, k < n → k' < n → v (4 + k) = v (4 + k') → k = k') ∧ ∀ q : Nat, q < G → v (12 + q) = 1 → ∃ k, k < n ∧ v (4 + k) = nI q) ∧
  (∀ j, j < 8 → v (12 + j) = 0 ∨ v (12 + j) = 1 ∨ v (12 + j) = 2 ∨ v (12 + j) = 3) ∧ (∀ j, G ≤ j → j < 8 → v (12 + j) = 0) ∧
  (∀ j, j < G → 0 ≤ (v (28 + j)).toInt ∧ (v (28 + j)).toInt ≤ 99999999 ∧ 0 ≤ (v (36 + j)).toInt ∧ (v (36 + j)).toInt ≤ 60 * (v 1).toInt) ∧
  (0 ≤ (v 1).toInt ∧ (v 1).toInt ≤ 100499) ∧ (0 ≤ (v 2).toInt ∧ (v 2).toInt ≤ 999999) ∧ (0 ≤ (v 0).toInt ∧ (v 0).toInt ≤ (w 0).toInt) ∧
  fb_ct (fun j => decide (v (12 + j) = 2)) 8 ≤ (w 1).toNatClampNeg
abbrev up (v : Nat → Int32) (j : Nat) : Prop := v (12 + j) = 2 ∨ v (12 + j) = 3
def hgt (v : Nat → Int32) (j : Nat) : Int32 := if v (12 + j) = 2 then v 0 else if v (12 + j) = 3 then v (20 + j) else 0
def pcj (w v : Nat → Int32) (NL j : Nat) : Int32 := pcS w (hgt v j) NL
def oldS (a n : Int32) : Int32 := if a + n < 99999999 then a + n else 99999999
def skS (t k a : Int32) : Int32 := if t = 1 then k / 100 else if t = 2 then (if k / 50 < 40 then k / 50 else 40) else if t = 3 then (if k / 20 ≤ 30 then k / 20 else 30 + (k / 20 - 30) / 2) else if t = 4 then k / 100 + a / 100 / 10 else 0
theorem up_iff {w v : Nat → Int32} {G : Nat} (hW : SW w G v) {j : Nat} (hj : j < 8) : (¬ v (12 + j) < 2) = up v j := by
  apply propext
  unfold up
  rcases hW.2.1 j hj with q | q | q | q <;> rw [q] <;> decide
section SCN
variable {X : (Nat → Int32) × Nat} {g : xG} {h : xH} {Q : Option Value → xG → xH → Prop} {sw : Bool} {NL G : Nat} {w v : Nat → Int32}
theorem c_isUp (hs : SC h 13 G v) {j : Nat} (hj : j < 8) : EV X mX3_isUp 0 0 0 [.ref 13, .int (nI j)] [] (Gb sw) h Q = Q (some (.int (b01 (v (12 + j) = 2 ∨ v (12 + j) = 3)))) (Gb sw) h := by
  rw [r_isUp, inb8 hj (by omega), true_and, cl8 hj]
  simp only [hs.w j hj]
theorem c_heightOf (hs : SC h 13 G v) (hG : G ≤ 8) {j : Nat} (hj : j < G) : EV X mX3_heightOf 0 0 0 [.ref 13, .int (nI j)] [] (Gb sw) h Q = Q (some (.int (hgt v j))) (Gb sw) h := by
  have hj8 : j < 8 := by omega
  rw [r_heightOf, inb8 hj8 (by omega), true_and, cl8 hj8]
  simp only [hs.w j hj8, hs.1]
  unfold hgt
  by_cases q : v (12 + j) = 3
  · rw [hs.s j hj q]
  · simp [q]
theorem m_heightOf (hs : SM h 145 0 G v) (hG : G ≤ 8) {j : Nat} (hj : j < G) : EV X mX6_heightOf 0 0 0 [.ref 140, .int (nI j), .null] [] (Gb sw) h Q = Q (some (.int (hgt v j))) (Gb sw) h := by
  have hj8 : j < 8 := by omega
  rw [r_mheightOf hj8]
  simp only [hs.w j hj, hs.f]
  unfold hgt
  by_cases q : v (12 + j) = 3
  · rw [hs.s j hj q]
  · simp [q]
theorem c_paceOf (hs : SC h 13 G v) (hW : PW NL G w) (hC : PC h (pl sw) NL G w) {j : Nat} (hj : j < G) : EV X mX5_paceOf 0 0 0 [.ref 0, .int (nI j)] [] (Gb sw) h Q = Q (some (.int (pcj w v NL j))) (Gb sw) h := by
  simp only [eX5_paceOf_0, eX5_paceOf_1, eX5_paceOf_4, eX5_paceOf_5, eX5_paceOf_8, eX5_paceOf_9, eX5_paceOf_12, eX5_paceOf_15, Option.toList_some, Option.toList_none, List.cons_append, List.nil_append, is01_0, is01_1, true_and, c_heightOf hs hW.2.1 hj, pl_P, r_paceAt (pl_P sw) hW.1 hC]
  rfl
theorem m_paceOf (hs : SM h 145 0 G v) (hW : PW NL G w) (hV : SW w G v) (hM : PM h NL G w) {j : Nat} (hj : j < G) : EV X mX6_paceOf 0 0 0 [.ref 140, .int (nI j)] [] (Gb sw) h Q = Q (some (.int (pcj w v NL j))) (Gb sw) h := by
  have hj8 : j < 8 := by have := hW.2.1; omega
  simp only [eX6_paceOf_0, eX6_paceOf_1, eX6_paceOf_2, eX6_paceOf_5, eX6_paceOf_8, eX6_paceOf_9, eX6_paceOf_10, eX6_paceOf_11, eX6_paceOf_14, eX6_paceOf_17, eX6_paceOf_20, eX6_paceOf_21, Option.toList_some, Option.toList_none, List.cons_append, List.nil_append, is01_0, is01_1, true_and, r_misUp hj8, b01_0, m_heightOf hs hW.2.1 hj, r_speedAt hW.1 hM, hs.w j hj, Decidable.not_not]
  unfold pcj
  by_cases q : v (12 + j) < 2
  · rw [if_pos q]
    have : hgt v j = 0 := by
      unfold hgt
      rcases hV.2.1 j hj8 with z | z | z | z <;> rw [z] at q ⊢ <;> first | (exact absurd q (by decide)) | (rw [if_neg (by decide), if_neg (by decide)])
    rw [this, pcS_low hW NL (Nat.le_refl _)]
  · rw [if_neg q]
theorem old64 (a n p : Int32) (h1 : 0 ≤ a.toInt) (h2 : a.toInt ≤ 99999999) (h3 : 0 ≤ n.toInt) (h4 : n.toInt ≤ 5000) (h5 : 1 ≤ p.toInt) (h6 : p.toInt ≤ 60) : (a + n * p).toInt = a.toInt + n.toInt * p.toInt ∧ (a.toInt64 + n.toInt64 * p.toInt64).toInt = a.toInt + n.toInt * p.toInt ∧ 0 ≤ n.toInt * p.toInt ∧ n.toInt * p.toInt ≤ 300000 := by
  have hm0 : 0 ≤ n.toInt * p.toInt := Int.mul_nonneg h3 (by omega)
  have hm1 : n.toInt * p.toInt ≤ 300000 := by
    have := Int.mul_le_mul h4 h6 (by omega) (by omega)
    omega
  have e1 : (n * p).toInt = n.toInt * p.toInt := fb_mulI (by omega) (by omega)
  refine ⟨?_, ?_, hm0, hm1⟩
  · rw [fb_addI (by rw [e1]; omega) (by rw [e1]; omega), e1]
  · have e2 : (n.toInt64 * p.toInt64).toInt = n.toInt * p.toInt := by
      rw [Int64.toInt_mul, Int32.toInt_toInt64, Int32.toInt_toInt64]
      apply Int.bmod_eq_of_le <;> omega
    rw [Int64.toInt_add, e2, Int32.toInt_toInt64]
    apply Int.bmod_eq_of_le <;> omega
theorem m_olderBy (hs : SM h 145 0 G v) (hW : PW NL G w) (hV : SW w G v) (hM : PM h NL G w) {j : Nat} (hj : j < G) (n : Int32) (h3 : 0 ≤ n.toInt) (h4 : n.toInt ≤ 5000) : EV X mX6_olderBy 0 0 0 [.ref 140, .int (nI j), .int n, .null, .null] [] (Gb sw) h Q = Q (some (.int (oldS (v (28 + j)) (n * pcj w v NL j)))) (Gb sw) h := by
  have hj8 : j < 8 := by have := hW.2.1; omega
  simp only [eX6_olderBy_0, eX6_olderBy_1, eX6_olderBy_4, eX6_olderBy_6, eX6_olderBy_7, eX6_olderBy_8, eX6_olderBy_9, eX6_olderBy_10, eX6_olderBy_11, eX6_olderBy_12, eX6_olderBy_13, eX6_olderBy_14, eX6_olderBy_17, eX6_olderBy_18, eX6_olderBy_19, eX6_olderBy_20, eX6_olderBy_21, eX6_olderBy_22, eX6_olderBy_25, eX6_olderBy_26, eX6_olderBy_29, eX6_olderBy_30, eX6_olderBy_33, eX6_olderBy_36, eX6_olderBy_37, Option.toList_some, Option.toList_none, List.cons_append, List.nil_append, is01_0, is01_1, true_and, la4, la12, la20, la28, la36, cl8_4 hj8, cl8_12 hj8, cl8_20 hj8, cl8_28 hj8, cl8_36 hj8, ib8_4 hj8, ib8_12 hj8, ib8_20 hj8, ib8_28 hj8, ib8_36 hj8, m_paceOf hs hW hV hM hj, hs.a j hj, lg0, lg1, lg0', lg1']
  have ha := hV.2.2.2.1 j hj
  have hp := pcS_rng hW (hgt v j) NL (Nat.le_refl _)
  obtain ⟨e1, e2, e3, e4⟩ := old64 (v (28 + j)) n (pcj w v NL j) ha.1 ha.2.1 h3 h4 hp.1 hp.2
  unfold oldS
  have e9 : ((99999999 : Int64)).toInt = 99999999 := by decide
  have e8 : ((99999999 : Int32)).toInt = 99999999 := by decide
  by_cases q : v (28 + j) + n * pcj w v NL j < 99999999
  · have q2 : ¬ (99999999 : Int64) ≤ (v (28 + j)).toInt64 + n.toInt64 * (pcj w v NL j).toInt64 := by
      rw [fa_lt, e1, e8] at q
      rw [fa_le64, e2, e9]
      omega
    rw [if_neg q2, if_pos q]
    congr 3
    apply Int32.toInt_inj.mp
    rw [e1, Int64.toInt_toInt32, e2]
    apply Int.bmod_eq_of_le <;> omega
  · have q2 : (99999999 : Int64) ≤ (v (28 + j)).toInt64 + n.toInt64 * (pcj w v NL j).toInt64 := by
      rw [fa_lt, e1, e8] at q
      rw [fa_le64, e2, e9]
      omega
    rw [if_pos q2, if_neg q]
    rfl
theorem c_halved (l x : Int32) : EV X mX5_halvedAbove 0 0 0 [.int l, .int x] [] g h Q = Q (some (.int (if x ≤ l then x else l + (x - l) / 2))) g h := by
  simp only [eX5_halvedAbove_0, eX5_halvedAbove_1, eX5_halvedAbove_2, eX5_halvedAbove_5, eX5_halvedAbove_6, eX5_halvedAbove_7, eX5_halvedAbove_8, eX5_halvedAbove_9, eX5_halvedAbove_10, eX5_halvedAbove_11, eX5_halvedAbove_12, eX5_halvedAbove_15, eX5_halvedAbove_16, Option.toList_some, Option.toList_none, List.cons_append, List.nil_append, is01_0, is01_1, true_and, nd2]
  by_cases q : x ≤ l <;> simp [q]
theorem tab14 {t : Int32} (h1 : ¬ t = 1) (h2 : ¬ t = 2) (h3 : ¬ t = 3) (h4 : ¬ t = 4) : t.toInt < 1 ∨ 4 < t.toInt := by
  rw [fa_eq] at h1 h2 h3 h4
  have e1 : (1 : Int32).toInt = 1 := rfl
  have e2 : (2 : Int32).toInt = 2 := rfl
  have e3 : (3 : Int32).toInt = 3 := rfl
  have e4 : (4 : Int32).toInt = 4 := rfl
  omega
theorem sk1 (k a : Int32) : skS 1 k a = k / 100 := by unfold skS; rw [if_pos rfl]
theorem sk2 (k a : Int32) : skS 2 k a = (if k / 50 < 40 then k / 50 else 40) := by unfold skS; rw [if_neg (by decide : ¬ (2 : Int32) = 1), if_pos rfl]
theorem sk3 (k a : Int32) : skS 3 k a = (if k / 20 ≤ 30 then k / 20 else 30 + (k / 20 - 30) / 2) := by unfold skS; rw [if_neg (by decide : ¬ (3 : Int32) = 1), if_neg (by decide : ¬ (3 : Int32) = 2), if_pos rfl]
theorem sk4 (k a : Int32) : skS 4 k a = k / 100 + a / 100 / 10 := by unfold skS; rw [if_neg (by decide : ¬ (4 : Int32) = 1), if_neg (by decide : ¬ (4 : Int32) = 2), if_neg (by decide : ¬ (4 : Int32) = 3), if_pos rfl]
theorem sk0 {t : Int32} (k a : Int32) (h1 : ¬ t = 1) (h2 : ¬ t = 2) (h3 : ¬ t = 3) (h4 : ¬ t = 4) : skS t k a = 0 := by unfold skS; rw [if_neg h1, if_neg h2, if_neg h3, if_neg h4]
theorem c_skill (t k a : Int32) : EV X mX5_skill 0 0 0 [.int t, .int k, .int a] [] g h Q = Q (some (.int (skS t k a))) g h := by
  simp only [eX5_skill_0]
  by_cases h1 : t = 1
  · subst h1
    simp only [eX5_skill_0, eX5_skill_1_c1, eX5_skill_1_c2, eX5_skill_1_c3, eX5_skill_1_c4, eX5_skill_32, eX5_skill_33, eX5_skill_35, eX5_skill_36, eX5_skill_37, eX5_skill_39, eX5_skill_40, eX5_skill_42, eX5_skill_43, eX5_skill_46, eX5_skill_47, eX5_skill_49, eX5_skill_50, eX5_skill_52, eX5_skill_53, eX5_skill_56, eX5_skill_57, eX5_skill_58, eX5_skill_60, eX5_skill_61, eX5_skill_62, eX5_skill_64, eX5_skill_65, eX5_skill_67, eX5_skill_68, eX5_skill_69, eX5_skill_70, eX5_skill_71, Option.toList_some, Option.toList_none, List.cons_append, List.nil_append, is01_0, is01_1, true_and, nd100, sk1]
  · by_cases h2 : t = 2
    · subst h2
      simp only [eX5_skill_0, eX5_skill_1_c1, eX5_skill_1_c2, eX5_skill_1_c3, eX5_skill_1_c4, eX5_skill_32, eX5_skill_33, eX5_skill_35, eX5_skill_36, eX5_skill_37, eX5_skill_39, eX5_skill_40, eX5_skill_42, eX5_skill_43, eX5_skill_46, eX5_skill_47, eX5_skill_49, eX5_skill_50, eX5_skill_52, eX5_skill_53, eX5_skill_56, eX5_skill_57, eX5_skill_58, eX5_skill_60, eX5_skill_61, eX5_skill_62, eX5_skill_64, eX5_skill_65, eX5_skill_67, eX5_skill_68, eX5_skill_69, eX5_skill_70, eX5_skill_71, Option.toList_some, Option.toList_none, List.cons_append, List.nil_append, is01_0, is01_1, true_and, nd50, sk2]
    · by_cases h3 : t = 3
      · subst h3
        simp only [eX5_skill_0, eX5_skill_1_c1, eX5_skill_1_c2, eX5_skill_1_c3, eX5_skill_1_c4, eX5_skill_32, eX5_skill_33, eX5_skill_35, eX5_skill_36, eX5_skill_37, eX5_skill_39, eX5_skill_40, eX5_skill_42, eX5_skill_43, eX5_skill_46, eX5_skill_47, eX5_skill_49, eX5_skill_50, eX5_skill_52, eX5_skill_53, eX5_skill_56, eX5_skill_57, eX5_skill_58, eX5_skill_60, eX5_skill_61, eX5_skill_62, eX5_skill_64, eX5_skill_65, eX5_skill_67, eX5_skill_68, eX5_skill_69, eX5_skill_70, eX5_skill_71, Option.toList_some, Option.toList_none, List.cons_append, List.nil_append, is01_0, is01_1, true_and, nd20, nd2, c_halved, sk3]
      · by_cases h4 : t = 4
        · subst h4
          simp only [eX5_skill_0, eX5_skill_1_c1, eX5_skill_1_c2, eX5_skill_1_c3, eX5_skill_1_c4, eX5_skill_32, eX5_skill_33, eX5_skill_35, eX5_skill_36, eX5_skill_37, eX5_skill_39, eX5_skill_40, eX5_skill_42, eX5_skill_43, eX5_skill_46, eX5_skill_47, eX5_skill_49, eX5_skill_50, eX5_skill_52, eX5_skill_53, eX5_skill_56, eX5_skill_57, eX5_skill_58, eX5_skill_60, eX5_skill_61, eX5_skill_62, eX5_skill_64, eX5_skill_65, eX5_skill_67, eX5_skill_68, eX5_skill_69, eX5_skill_70, eX5_skill_71, Option.toList_some, Option.toList_none, List.cons_append, List.nil_append, is01_0, is01_1, true_and, nd100, nd10, sk4]
        · rw [eX5_skill_1_d _ _ (tab14 h1 h2 h3 h4), sk0 k a h1 h2 h3 h4]
          simp only [eX5_skill_0, eX5_skill_1_c1, eX5_skill_1_c2, eX5_skill_1_c3, eX5_skill_1_c4, eX5_skill_32, eX5_skill_33, eX5_skill_35, eX5_skill_36, eX5_skill_37, eX5_skill_39, eX5_skill_40, eX5_skill_42, eX5_skill_43, eX5_skill_46, eX5_skill_47, eX5_skill_49, eX5_skill_50, eX5_skill_52, eX5_skill_53, eX5_skill_56, eX5_skill_57, eX5_skill_58, eX5_skill_60, eX5_skill_61, eX5_skill_62, eX5_skill_64, eX5_skill_65, eX5_skill_67, eX5_skill_68, eX5_skill_69, eX5_skill_70, eX5_skill_71, Option.toList_some, Option.toList_none, List.cons_append, List.nil_append, is01_0, is01_1, true_and]
theorem m_skillBy (t k a : Int32) : EV X mX6_skillBy 0 0 0 [.ref 140, .int t, .int k, .int a, .null] [] g h Q = Q (some (.int (skS t k a))) g h := by
  simp only [eX6_skillBy_0, eX6_skillBy_1, eX6_skillBy_3, eX6_skillBy_4, eX6_skillBy_6, eX6_skillBy_7_c1, eX6_skillBy_7_c2, eX6_skillBy_7_c3, eX6_skillBy_7_c4, eX6_skillBy_36, eX6_skillBy_37, eX6_skillBy_39, eX6_skillBy_40, eX6_skillBy_41, eX6_skillBy_42, eX6_skillBy_44, eX6_skillBy_45, eX6_skillBy_47, eX6_skillBy_50, eX6_skillBy_51, eX6_skillBy_53, eX6_skillBy_54, eX6_skillBy_57, eX6_skillBy_59, eX6_skillBy_60, eX6_skillBy_62, eX6_skillBy_64, eX6_skillBy_67, eX6_skillBy_69, eX6_skillBy_71, eX6_skillBy_73, eX6_skillBy_74, eX6_skillBy_75, eX6_skillBy_76, eX6_skillBy_77, eX6_skillBy_80, eX6_skillBy_82, eX6_skillBy_83, eX6_skillBy_84, eX6_skillBy_86, eX6_skillBy_87, eX6_skillBy_88, eX6_skillBy_90, eX6_skillBy_91, eX6_skillBy_93, eX6_skillBy_94, eX6_skillBy_95, eX6_skillBy_96, eX6_skillBy_97, Option.toList_some, Option.toList_none, List.cons_append, List.nil_append, is01_0, is01_1, true_and, nd20]
  by_cases h1 : t = 1
  · subst h1
    simp only [eX6_skillBy_0, eX6_skillBy_1, eX6_skillBy_3, eX6_skillBy_4, eX6_skillBy_6, eX6_skillBy_7_c1, eX6_skillBy_7_c2, eX6_skillBy_7_c3, eX6_skillBy_7_c4, eX6_skillBy_36, eX6_skillBy_37, eX6_skillBy_39, eX6_skillBy_40, eX6_skillBy_41, eX6_skillBy_42, eX6_skillBy_44, eX6_skillBy_45, eX6_skillBy_47, eX6_skillBy_50, eX6_skillBy_51, eX6_skillBy_53, eX6_skillBy_54, eX6_skillBy_57, eX6_skillBy_59, eX6_skillBy_60, eX6_skillBy_62, eX6_skillBy_64, eX6_skillBy_67, eX6_skillBy_69, eX6_skillBy_71, eX6_skillBy_73, eX6_skillBy_74, eX6_skillBy_75, eX6_skillBy_76, eX6_skillBy_77, eX6_skillBy_80, eX6_skillBy_82, eX6_skillBy_83, eX6_skillBy_84, eX6_skillBy_86, eX6_skillBy_87, eX6_skillBy_88, eX6_skillBy_90, eX6_skillBy_91, eX6_skillBy_93, eX6_skillBy_94, eX6_skillBy_95, eX6_skillBy_96, eX6_skillBy_97, Option.toList_some, Option.toList_none, List.cons_append, List.nil_append, is01_0, is01_1, true_and, nd100, sk1]
  · by_cases h2 : t = 2
    · subst h2
      simp only [eX6_skillBy_0, eX6_skillBy_1, eX6_skillBy_3, eX6_skillBy_4, eX6_skillBy_6, eX6_skillBy_7_c1, eX6_skillBy_7_c2, eX6_skillBy_7_c3, eX6_skillBy_7_c4, eX6_skillBy_36, eX6_skillBy_37, eX6_skillBy_39, eX6_skillBy_40, eX6_skillBy_41, eX6_skillBy_42, eX6_skillBy_44, eX6_skillBy_45, eX6_skillBy_47, eX6_skillBy_50, eX6_skillBy_51, eX6_skillBy_53, eX6_skillBy_54, eX6_skillBy_57, eX6_skillBy_59, eX6_skillBy_60, eX6_skillBy_62, eX6_skillBy_64, eX6_skillBy_67, eX6_skillBy_69, eX6_skillBy_71, eX6_skillBy_73, eX6_skillBy_74, eX6_skillBy_75, eX6_skillBy_76, eX6_skillBy_77, eX6_skillBy_80, eX6_skillBy_82, eX6_skillBy_83, eX6_skillBy_84, eX6_skillBy_86, eX6_skillBy_87, eX6_skillBy_88, eX6_skillBy_90, eX6_skillBy_91, eX6_skillBy_93, eX6_skillBy_94, eX6_skillBy_95, eX6_skillBy_96, eX6_skillBy_97, Option.toList_some, Option.toList_none, List.cons_append, List.nil_append, is01_0, is01_1, true_and, nd50, sk2]
      by_cases q : k / 50 < 40
      · have q2 : ¬ 40 ≤ k / 50 := by rw [Int32.not_le]; exact q
        simp [q, q2]
      · have q2 : 40 ≤ k / 50 := by rw [← Int32.not_lt]; exact q
        simp [q, q2]
    · by_cases h3 : t = 3
      · subst h3
        simp only [eX6_skillBy_0, eX6_skillBy_1, eX6_skillBy_3, eX6_skillBy_4, eX6_skillBy_6, eX6_skillBy_7_c1, eX6_skillBy_7_c2, eX6_skillBy_7_c3, eX6_skillBy_7_c4, eX6_skillBy_36, eX6_skillBy_37, eX6_skillBy_39, eX6_skillBy_40, eX6_skillBy_41, eX6_skillBy_42, eX6_skillBy_44, eX6_skillBy_45, eX6_skillBy_47, eX6_skillBy_50, eX6_skillBy_51, eX6_skillBy_53, eX6_skillBy_54, eX6_skillBy_57, eX6_skillBy_59, eX6_skillBy_60, eX6_skillBy_62, eX6_skillBy_64, eX6_skillBy_67, eX6_skillBy_69, eX6_skillBy_71, eX6_skillBy_73, eX6_skillBy_74, eX6_skillBy_75, eX6_skillBy_76, eX6_skillBy_77, eX6_skillBy_80, eX6_skillBy_82, eX6_skillBy_83, eX6_skillBy_84, eX6_skillBy_86, eX6_skillBy_87, eX6_skillBy_88, eX6_skillBy_90, eX6_skillBy_91, eX6_skillBy_93, eX6_skillBy_94, eX6_skillBy_95, eX6_skillBy_96, eX6_skillBy_97, Option.toList_some, Option.toList_none, List.cons_append, List.nil_append, is01_0, is01_1, true_and, nd20, nd2, c_halved, sk3]
        by_cases q : k / 20 ≤ 30 <;> simp [q]
      · by_cases h4 : t = 4
        · subst h4
          simp only [eX6_skillBy_0, eX6_skillBy_1, eX6_skillBy_3, eX6_skillBy_4, eX6_skillBy_6, eX6_skillBy_7_c1, eX6_skillBy_7_c2, eX6_skillBy_7_c3, eX6_skillBy_7_c4, eX6_skillBy_36, eX6_skillBy_37, eX6_skillBy_39, eX6_skillBy_40, eX6_skillBy_41, eX6_skillBy_42, eX6_skillBy_44, eX6_skillBy_45, eX6_skillBy_47, eX6_skillBy_50, eX6_skillBy_51, eX6_skillBy_53, eX6_skillBy_54, eX6_skillBy_57, eX6_skillBy_59, eX6_skillBy_60, eX6_skillBy_62, eX6_skillBy_64, eX6_skillBy_67, eX6_skillBy_69, eX6_skillBy_71, eX6_skillBy_73, eX6_skillBy_74, eX6_skillBy_75, eX6_skillBy_76, eX6_skillBy_77, eX6_skillBy_80, eX6_skillBy_82, eX6_skillBy_83, eX6_skillBy_84, eX6_skillBy_86, eX6_skillBy_87, eX6_skillBy_88, eX6_skillBy_90, eX6_skillBy_91, eX6_skillBy_93, eX6_skillBy_94, eX6_skillBy_95, eX6_skillBy_96, eX6_skillBy_97, Option.toList_some, Option.toList_none, List.cons_append, List.nil_append, is01_0, is01_1, true_and, nd100, nd10, sk4]
        · rw [eX6_skillBy_7_d _ _ (tab14 h1 h2 h3 h4), sk0 k a h1 h2 h3 h4]
          simp only [eX6_skillBy_0, eX6_skillBy_1, eX6_skillBy_3, eX6_skillBy_4, eX6_skillBy_6, eX6_skillBy_7_c1, eX6_skillBy_7_c2, eX6_skillBy_7_c3, eX6_skillBy_7_c4, eX6_skillBy_36, eX6_skillBy_37, eX6_skillBy_39, eX6_skillBy_40, eX6_skillBy_41, eX6_skillBy_42, eX6_skillBy_44, eX6_skillBy_45, eX6_skillBy_47, eX6_skillBy_50, eX6_skillBy_51, eX6_skillBy_53, eX6_skillBy_54, eX6_skillBy_57, eX6_skillBy_59, eX6_skillBy_60, eX6_skillBy_62, eX6_skillBy_64, eX6_skillBy_67, eX6_skillBy_69, eX6_skillBy_71, eX6_skillBy_73, eX6_skillBy_74, eX6_skillBy_75, eX6_skillBy_76, eX6_skillBy_77, eX6_skillBy_80, eX6_skillBy_82, eX6_skillBy_83, eX6_skillBy_84, eX6_skillBy_86, eX6_skillBy_87, eX6_skillBy_88, eX6_skillBy_90, eX6_skillBy_91, eX6_skillBy_93, eX6_skillBy_94, eX6_skillBy_95, eX6_skillBy_96, eX6_skillBy_97, Option.toList_some, Option.toList_none, List.cons_append, List.nil_append, is01_0, is01_1, true_and]
/-- the band behind n hours -/
def bdS (w v : Nat → Int32) (NL G : Nat) (n : Int32) : Int32 := xfold (fun j s => if up v j then s + skS (w (30 + j)) (v (36 + j) + n * pcj w v NL j) (oldS (v (28 + j)) (n * pcj w v NL j)) else s) 0 G 0
theorem c_band (hs : SC h 13 G v) (hW : PW NL G w) (hC : PC h (pl sw) NL G w) (n : Int32) : EV X mX5_bandBehind 0 0 0 [.ref 0, .int n, .null, .null, .null] [] (Gb sw) h Q = Q (some (.int (bdS w v NL G n))) (Gb sw) h := by
  simp only [eX5_bandBehind_0, eX5_bandBehind_1, eX5_bandBehind_2, eX5_bandBehind_3, eX5_bandBehind_5, eX5_bandBehind_6, eX5_bandBehind_9, eX5_bandBehind_12, eX5_bandBehind_15, eX5_bandBehind_16, eX5_bandBehind_19, eX5_bandBehind_20, eX5_bandBehind_23, eX5_bandBehind_26, eX5_bandBehind_27, eX5_bandBehind_28, eX5_bandBehind_29, eX5_bandBehind_32, eX5_bandBehind_33, eX5_bandBehind_35, eX5_bandBehind_36, eX5_bandBehind_37, eX5_bandBehind_40, eX5_bandBehind_43, eX5_bandBehind_44, eX5_bandBehind_45, eX5_bandBehind_46, eX5_bandBehind_49, eX5_bandBehind_52, eX5_bandBehind_53, eX5_bandBehind_54, eX5_bandBehind_56, eX5_bandBehind_57, eX5_bandBehind_58, eX5_bandBehind_61, eX5_bandBehind_64, eX5_bandBehind_65, eX5_bandBehind_66, eX5_bandBehind_68, eX5_bandBehind_71, eX5_bandBehind_74, eX5_bandBehind_75, eX5_bandBehind_76, eX5_bandBehind_79, eX5_bandBehind_82, eX5_bandBehind_83, Option.toList_some, Option.toList_none, List.cons_append, List.nil_append, is01_0, is01_1, true_and]
  have hG := hW.2.1
  have key : ∀ (m i : Nat) (s : Int32) (z : Value), i + m = G → EV X mX5_bandBehind 0 0 4 [.ref 0, .int n, .int s, .int (nI i), z] [] (Gb sw) h Q = Q (some (.int (xfold (fun j s => if up v j then s + skS (w (30 + j)) (v (36 + j) + n * pcj w v NL j) (oldS (v (28 + j)) (n * pcj w v NL j)) else s) i m s))) (Gb sw) h := by
    intro m
    induction m with
    | zero =>
      intro i s z hi
      rw [eX5_bandBehind_4]
      simp only [eX5_bandBehind_0, eX5_bandBehind_1, eX5_bandBehind_2, eX5_bandBehind_3, eX5_bandBehind_5, eX5_bandBehind_6, eX5_bandBehind_9, eX5_bandBehind_12, eX5_bandBehind_15, eX5_bandBehind_16, eX5_bandBehind_19, eX5_bandBehind_20, eX5_bandBehind_23, eX5_bandBehind_26, eX5_bandBehind_27, eX5_bandBehind_28, eX5_bandBehind_29, eX5_bandBehind_32, eX5_bandBehind_33, eX5_bandBehind_35, eX5_bandBehind_36, eX5_bandBehind_37, eX5_bandBehind_40, eX5_bandBehind_43, eX5_bandBehind_44, eX5_bandBehind_45, eX5_bandBehind_46, eX5_bandBehind_49, eX5_bandBehind_52, eX5_bandBehind_53, eX5_bandBehind_54, eX5_bandBehind_56, eX5_bandBehind_57, eX5_bandBehind_58, eX5_bandBehind_61, eX5_bandBehind_64, eX5_bandBehind_65, eX5_bandBehind_66, eX5_bandBehind_68, eX5_bandBehind_71, eX5_bandBehind_74, eX5_bandBehind_75, eX5_bandBehind_76, eX5_bandBehind_79, eX5_bandBehind_82, eX5_bandBehind_83, Option.toList_some, Option.toList_none, List.cons_append, List.nil_append, is01_0, is01_1, true_and, pl_P, hC.1]
      rw [if_pos (nI_le (by omega) (by omega))]
      rfl
    | succ m ih =>
      intro i s z hi
      have hi8 : i < 8 := by omega
      have hiG : i < G := by omega
      rw [eX5_bandBehind_4]
      simp only [eX5_bandBehind_0, eX5_bandBehind_1, eX5_bandBehind_2, eX5_bandBehind_3, eX5_bandBehind_5, eX5_bandBehind_6, eX5_bandBehind_9, eX5_bandBehind_12, eX5_bandBehind_15, eX5_bandBehind_16, eX5_bandBehind_19, eX5_bandBehind_20, eX5_bandBehind_23, eX5_bandBehind_26, eX5_bandBehind_27, eX5_bandBehind_28, eX5_bandBehind_29, eX5_bandBehind_32, eX5_bandBehind_33, eX5_bandBehind_35, eX5_bandBehind_36, eX5_bandBehind_37, eX5_bandBehind_40, eX5_bandBehind_43, eX5_bandBehind_44, eX5_bandBehind_45, eX5_bandBehind_46, eX5_bandBehind_49, eX5_bandBehind_52, eX5_bandBehind_53, eX5_bandBehind_54, eX5_bandBehind_56, eX5_bandBehind_57, eX5_bandBehind_58, eX5_bandBehind_61, eX5_bandBehind_64, eX5_bandBehind_65, eX5_bandBehind_66, eX5_bandBehind_68, eX5_bandBehind_71, eX5_bandBehind_74, eX5_bandBehind_75, eX5_bandBehind_76, eX5_bandBehind_79, eX5_bandBehind_82, eX5_bandBehind_83, Option.toList_some, Option.toList_none, List.cons_append, List.nil_append, is01_0, is01_1, true_and, pl_P, hC.1, c_isUp hs hi8, c_paceOf hs hW hC hiG, b01_0, cl8 hi8, inb8 hi8, hC.2.2 i hiG, hs.a i hiG, hs.k i hiG, r_older, c_skill, nI_1, ih (i + 1) _ _ (by omega : i + 1 + m = G), Nat.le_refl]
      rw [if_neg (nI_ge (by omega) (by omega))]
      by_cases q : up v i
      · rw [if_neg (fun z => z q)]
        refine congrArg (fun z => Q (some (.int (xfold _ (i + 1) m z))) (Gb sw) h) ?_
        exact (if_pos q).symm
      · rw [if_pos q]
        refine congrArg (fun z => Q (some (.int (xfold _ (i + 1) m z))) (Gb sw) h) ?_
        exact (if_neg q).symm
  exact key G 0 0 .null (by omega)
theorem m_band (hs : SM h 145 0 G v) (hW : PW NL G w) (hV : SW w G v) (hM : PM h NL G w) (n : Int32) (h3 : 0 ≤ n.toInt) (h4 : n.toInt ≤ 5000) : EV X mX6_bandBehind 0 0 0 [.ref 140, .int n, .null, .null] [] (Gb sw) h Q = Q (some (.int (bdS w v NL G n))) (Gb sw) h := by
  simp only [eX6_bandBehind_0, eX6_bandBehind_1, eX6_bandBehind_2, eX6_bandBehind_3, eX6_bandBehind_5, eX6_bandBehind_6, eX6_bandBehind_9, eX6_bandBehind_12, eX6_bandBehind_13, eX6_bandBehind_14, eX6_bandBehind_15, eX6_bandBehind_18, eX6_bandBehind_21, eX6_bandBehind_22, eX6_bandBehind_23, eX6_bandBehind_26, eX6_bandBehind_27, eX6_bandBehind_28, eX6_bandBehind_29, eX6_bandBehind_32, eX6_bandBehind_34, eX6_bandBehind_35, eX6_bandBehind_36, eX6_bandBehind_37, eX6_bandBehind_38, eX6_bandBehind_39, eX6_bandBehind_40, eX6_bandBehind_43, eX6_bandBehind_44, eX6_bandBehind_45, eX6_bandBehind_46, eX6_bandBehind_47, eX6_bandBehind_48, eX6_bandBehind_51, eX6_bandBehind_54, eX6_bandBehind_57, eX6_bandBehind_58, eX6_bandBehind_59, eX6_bandBehind_60, eX6_bandBehind_63, eX6_bandBehind_66, eX6_bandBehind_67, Option.toList_some, Option.toList_none, List.cons_append, List.nil_append, is01_0, is01_1, true_and]
  have hG := hW.2.1
  have key : ∀ (m i : Nat) (s : Int32), i + m = G → EV X mX6_bandBehind 0 0 4 [.ref 140, .int n, .int s, .int (nI i)] [] (Gb sw) h Q = Q (some (.int (xfold (fun j s => if up v j then s + skS (w (30 + j)) (v (36 + j) + n * pcj w v NL j) (oldS (v (28 + j)) (n * pcj w v NL j)) else s) i m s))) (Gb sw) h := by
    intro m
    induction m with
    | zero =>
      intro i s hi
      rw [eX6_bandBehind_4]
      simp only [eX6_bandBehind_0, eX6_bandBehind_1, eX6_bandBehind_2, eX6_bandBehind_3, eX6_bandBehind_5, eX6_bandBehind_6, eX6_bandBehind_9, eX6_bandBehind_12, eX6_bandBehind_13, eX6_bandBehind_14, eX6_bandBehind_15, eX6_bandBehind_18, eX6_bandBehind_21, eX6_bandBehind_22, eX6_bandBehind_23, eX6_bandBehind_26, eX6_bandBehind_27, eX6_bandBehind_28, eX6_bandBehind_29, eX6_bandBehind_32, eX6_bandBehind_34, eX6_bandBehind_35, eX6_bandBehind_36, eX6_bandBehind_37, eX6_bandBehind_38, eX6_bandBehind_39, eX6_bandBehind_40, eX6_bandBehind_43, eX6_bandBehind_44, eX6_bandBehind_45, eX6_bandBehind_46, eX6_bandBehind_47, eX6_bandBehind_48, eX6_bandBehind_51, eX6_bandBehind_54, eX6_bandBehind_57, eX6_bandBehind_58, eX6_bandBehind_59, eX6_bandBehind_60, eX6_bandBehind_63, eX6_bandBehind_66, eX6_bandBehind_67, Option.toList_some, Option.toList_none, List.cons_append, List.nil_append, is01_0, is01_1, true_and, hM.1]
      rw [if_pos (nI_le (by omega) (by omega))]
      rfl
    | succ m ih =>
      intro i s hi
      have hi8 : i < 8 := by omega
      have hiG : i < G := by omega
      rw [eX6_bandBehind_4]
      simp only [eX6_bandBehind_0, eX6_bandBehind_1, eX6_bandBehind_2, eX6_bandBehind_3, eX6_bandBehind_5, eX6_bandBehind_6, eX6_bandBehind_9, eX6_bandBehind_12, eX6_bandBehind_13, eX6_bandBehind_14, eX6_bandBehind_15, eX6_bandBehind_18, eX6_bandBehind_21, eX6_bandBehind_22, eX6_bandBehind_23, eX6_bandBehind_26, eX6_bandBehind_27, eX6_bandBehind_28, eX6_bandBehind_29, eX6_bandBehind_32, eX6_bandBehind_34, eX6_bandBehind_35, eX6_bandBehind_36, eX6_bandBehind_37, eX6_bandBehind_38, eX6_bandBehind_39, eX6_bandBehind_40, eX6_bandBehind_43, eX6_bandBehind_44, eX6_bandBehind_45, eX6_bandBehind_46, eX6_bandBehind_47, eX6_bandBehind_48, eX6_bandBehind_51, eX6_bandBehind_54, eX6_bandBehind_57, eX6_bandBehind_58, eX6_bandBehind_59, eX6_bandBehind_60, eX6_bandBehind_63, eX6_bandBehind_66, eX6_bandBehind_67, Option.toList_some, Option.toList_none, List.cons_append, List.nil_append, is01_0, is01_1, true_and, hM.1, r_misUp hi8, m_paceOf hs hW hV hM hiG, m_olderBy hs hW hV hM hiG n h3 h4, b01_0, la4, la12, la20, la28, la36, cl8_4 hi8, cl8_12 hi8, cl8_20 hi8, cl8_28 hi8, cl8_36 hi8, ib8_4 hi8, ib8_12 hi8, ib8_20 hi8, ib8_28 hi8, ib8_36 hi8, cl8 hi8, inb8 hi8, hM.2.2 i hiG, hs.a i hiG, hs.k i hiG, hs.w i hiG, m_skillBy, nI_1, ih (i + 1) _ (by omega : i + 1 + m = G), Nat.le_refl, up_iff hV hi8]
      rw [if_neg (nI_ge (by omega) (by omega))]
      by_cases q : up v i
      · rw [if_neg (fun z => z q)]
        refine congrArg (fun z => Q (some (.int (xfold _ (i + 1) m z))) (Gb sw) h) ?_
        exact (if_pos q).symm
      · rw [if_pos q, Int32.add_zero]
        refine congrArg (fun z => Q (some (.int (xfold _ (i + 1) m z))) (Gb sw) h) ?_
        exact (if_neg q).symm
  exact key G 0 0 (by omega)
end SCN
