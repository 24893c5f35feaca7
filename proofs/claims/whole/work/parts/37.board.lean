/-! boarding, alighting -/
section BO
variable {X : (Nat → Int32) × Nat} {g : xG} {sw : Bool} {NL G : Nat} {w v : Nat → Int32}
def bqV (v : Nat → Int32) (n : Nat) : Nat → Nat → Int32
  | 0 => v
  | i + 1 => dqV (bqV v n i) 0 (n - (i + 1)) (bqV v n i 4).toNatClampNeg 2
theorem bq_inv (hV : SW w G v) (hG : G ≤ 8) {n : Nat} (hn : v 3 = nI n) (hn8 : n ≤ 8) : ∀ i, i ≤ n → ctS v 2 8 + i ≤ (w 1).toNatClampNeg → SW w G (bqV v n i) ∧ bqV v n i 3 = nI (n - i) ∧ ctS (bqV v n i) 2 8 = ctS v 2 8 + i ∧ bqV v n i 2 = v 2
  | 0, _, _ => ⟨hV, hn, rfl, rfl⟩
  | i + 1, h1, h2 => by
    obtain ⟨a1, a2, a3, a4⟩ := bq_inv hV hG hn hn8 i (by omega) (by omega)
    obtain ⟨n', b1, b2, b3, b4, b5, b6⟩ := a1.qu
    have hnn : n' = n - i := (nI_eq (by omega) (by omega)).mp (b2.symm.trans a2)
    obtain ⟨q, q1, q2, q3⟩ := b4 0 (by omega)
    have hq : (bqV v n i 4).toNatClampNeg = q := by
      have : bqV v n i 4 = nI q := q2
      rw [this]; exact cl_nI (by omega)
    have e3 : bqV v n i 3 = nI (n - (i + 1) + 1) := by rw [a2, show n - (i + 1) + 1 = n - i by omega]
    have hct : ctS (dqV (bqV v n i) 0 (n - (i + 1)) q 2) 2 8 = ctS v 2 8 + (i + 1) := by
      rw [ct_dq (by omega) (by omega) q3, a3, if_pos rfl]
      omega
    show SW w G (dqV _ _ _ _ _) ∧ dqV _ _ _ _ _ 3 = _ ∧ ctS (dqV _ _ _ _ _) 2 8 = _ ∧ dqV _ _ _ _ _ 2 = _
    rw [hq]
    refine ⟨a1.dq hG e3 (by omega) (by omega) q2 q1 (Or.inr rfl) (by rw [hct]; exact h2), by rw [dqV_r, if_neg (by omega), if_pos rfl], hct, by rw [dqV_r, if_neg (by omega), if_neg (by omega), if_neg (by omega)]; exact a4⟩
theorem bq_step (hV : SW w G v) (hG : G ≤ 8) {n : Nat} (hn : v 3 = nI n) (hn8 : n ≤ 8) {i : Nat} (h1 : i < n) (h2 : ctS v 2 8 + i ≤ (w 1).toNatClampNeg) : ∃ q, q < G ∧ bqV v n i 4 = nI q ∧ bqV v n i 3 = nI (n - (i + 1) + 1) ∧ bqV v n (i + 1) = dqV (bqV v n i) 0 (n - (i + 1)) q 2 := by
  obtain ⟨a1, a2, a3, a4⟩ := bq_inv hV hG hn hn8 i (by omega) h2
  obtain ⟨n', b1, b2, b3, b4, b5, b6⟩ := a1.qu
  have hnn : n' = n - i := (nI_eq (by omega) (by omega)).mp (b2.symm.trans a2)
  obtain ⟨q, q1, q2, q3⟩ := b4 0 (by omega)
  have hq : (bqV v n i 4).toNatClampNeg = q := by
    have : bqV v n i 4 = nI q := q2
    rw [this]; exact cl_nI (by omega)
  have e3 : bqV v n i 3 = nI (n - (i + 1) + 1) := by rw [a2, show n - (i + 1) + 1 = n - i by omega]
  refine ⟨q, q1, q2, e3, ?_⟩
  show dqV _ _ _ _ _ = _
  rw [hq]
def brM (w v : Nat → Int32) : Nat := if (w 1).toNatClampNeg - ctS v 2 8 < (v 3).toNatClampNeg then (w 1).toNatClampNeg - ctS v 2 8 else (v 3).toNatClampNeg
def brG (w v : Nat → Int32) (i : Nat) : Int32 := nI (if (v 2).toNatClampNeg + i * (w 2).toNatClampNeg < 999999 then (v 2).toNatClampNeg + i * (w 2).toNatClampNeg else 999999)
def brV (w v : Nat → Int32) : Nat → Int32 := xp (bqV v (v 3).toNatClampNeg (brM w v)) 2 (brG w v (brM w v))
theorem nI_t {x : Int32} {M : Nat} (h0 : 0 ≤ x.toInt) (h1 : x.toInt ≤ M) (hM : M < 2147483648) : x = nI x.toNatClampNeg ∧ x.toNatClampNeg ≤ M := by
  obtain ⟨j, j1, j2⟩ := nI_of (x := x) (by rw [fa_lt]; show ¬ x.toInt < 0; omega)
  have : x.toNatClampNeg = j := by rw [j2]; exact cl_nI (by omega)
  rw [this]
  refine ⟨j2, ?_⟩
  rw [j2, nI_toInt (by omega)] at h1
  omega
theorem br_b (hW : PW NL G w) (hV : SW w G v) (hw : ¬ w 0 = 0) : (w 1 = nI (w 1).toNatClampNeg ∧ 1 ≤ (w 1).toNatClampNeg ∧ (w 1).toNatClampNeg ≤ 8) ∧ (w 2 = nI (w 2).toNatClampNeg ∧ (w 2).toNatClampNeg ≤ 99) ∧ (v 2 = nI (v 2).toNatClampNeg ∧ (v 2).toNatClampNeg ≤ 999999) ∧ (v 3 = nI (v 3).toNatClampNeg ∧ (v 3).toNatClampNeg ≤ 8) ∧ ctS v 2 8 ≤ (w 1).toNatClampNeg := by
  obtain ⟨c1, c2, c3, c4⟩ := hW.2.2.2.2.1 hw
  rw [fa_le] at c1 c2 c3 c4
  have e1 : (1 : Int32).toInt = 1 := rfl
  have e8 : (8 : Int32).toInt = 8 := rfl
  have e99 : (99 : Int32).toInt = 99 := rfl
  obtain ⟨r1, r2⟩ := nI_t (x := w 1) (M := 8) (by omega) (by omega) (by omega)
  obtain ⟨p1, p2⟩ := nI_t (x := w 2) (M := 99) (by omega) (by omega) (by omega)
  obtain ⟨g1, g2⟩ := nI_t (x := v 2) (M := 999999) hV.2.2.2.2.2.1.1 hV.2.2.2.2.2.1.2 (by omega)
  obtain ⟨n, n1, n2, n3⟩ := hV.n
  refine ⟨⟨r1, ?_, r2⟩, ⟨p1, p2⟩, ⟨g1, g2⟩, ⟨by rw [n3]; exact n2, by omega⟩, hV.ct⟩
  rw [r1, nI_toInt (by omega)] at c1
  omega
theorem br_m (hct : ctS v 2 8 ≤ (w 1).toNatClampNeg) : brM w v ≤ (v 3).toNatClampNeg ∧ ctS v 2 8 + brM w v ≤ (w 1).toNatClampNeg ∧ (brM w v = (v 3).toNatClampNeg ∨ ctS v 2 8 + brM w v = (w 1).toNatClampNeg) := by
  unfold brM
  split <;> omega
theorem SW.br (hV : SW w G v) (hW : PW NL G w) (hw : ¬ w 0 = 0) : SW w G (brV w v) := by
  obtain ⟨b1, b2, b3, b4, b5⟩ := br_b hW hV hw
  obtain ⟨m1, m2, -⟩ := br_m b5
  obtain ⟨a1, -⟩ := bq_inv hV hW.2.1 b4.1 b4.2 (brM w v) m1 m2
  refine a1.set (Or.inr rfl) hW.2.1 (fun q => by omega) (fun _ => ?_)
  unfold brG
  split
  · rw [nI_toInt (by omega)]; omega
  · rw [nI_toInt (by omega)]; omega
theorem c_fill (X : (Nat → Int32) × Nat) {h : xH} (hs : SC h 13 G v) (hV : SW w G v) (hW : PW NL G w) (hC : PC h (pl sw) NL G w) (hw : ¬ w 0 = 0) : ∃ h' : xH, (∀ a, ¬ (13 ≤ a ∧ a < 19) → h' a = h a) ∧ SC h' 13 G (brV w v) ∧ ∀ Q : Option Value → xG → xH → Prop, EV X mX3_fillCar 0 0 0 [.ref 13, .ref (pl sw), .null, .null] [] (Gb sw) h Q = Q (some (.int (nI (brM w v)))) (Gb sw) h' := by
  obtain ⟨b1, b2, b3, b4, b5⟩ := br_b hW hV hw
  obtain ⟨m1, m2, m3⟩ := br_m b5
  have hpl : 3 ≤ pl sw ∧ pl sw ≤ 8 := by cases sw <;> decide
  have loop : ∀ (r i : Nat) (h1 : xH), i + r = brM w v → (∀ a, ¬ (13 ≤ a ∧ a < 19) → h1 a = h a) → SC h1 13 G (bqV v (v 3).toNatClampNeg i) → ∃ h' : xH, (∀ a, ¬ (13 ≤ a ∧ a < 19) → h' a = h a) ∧ SC h' 13 G (brV w v) ∧ ∀ Q : Option Value → xG → xH → Prop, EV X mX3_fillCar 0 0 23 [.ref 13, .ref (pl sw), .int (nI (brM w v)), .int (nI i)] [] (Gb sw) h1 Q = Q (some (.int (nI (brM w v)))) (Gb sw) h' := by
    intro r
    induction r with
    | zero =>
      intro i h1 hi f1 s1
      have hi : i = brM w v := hi
      subst hi
      obtain ⟨-, -, -, a4⟩ := bq_inv hV hW.2.1 b4.1 b4.2 (brM w v) m1 m2
      refine ⟨xu h1 13 2 (brG w v (brM w v)), fun a ha => by rw [xun _ _ _ _ _ (by omega), f1 a ha], s1.set0 2 (by omega) _, fun Q => ?_⟩
      have hpr : h1 (pl sw) 4 = nI (w 2).toNatClampNeg := by rw [f1 _ (by omega), ← b2.1]; exact hC.1.2.2.2.1
      have hgt : h1 13 2 = nI (v 2).toNatClampNeg := by rw [← b3.1, ← a4]; exact s1.1.2.2.1
      have hmul : nI (v 2).toNatClampNeg + nI (brM w v) * nI (w 2).toNatClampNeg = nI ((v 2).toNatClampNeg + brM w v * (w 2).toNatClampNeg) := by rw [pk_mul, nI_add]
      have hbd : (v 2).toNatClampNeg + brM w v * (w 2).toNatClampNeg < 2147483648 := by
        have : brM w v * (w 2).toNatClampNeg ≤ 8 * 99 := Nat.mul_le_mul (by omega) b2.2
        omega
      have hlt : (nI ((v 2).toNatClampNeg + brM w v * (w 2).toNatClampNeg) < 999999) = ((v 2).toNatClampNeg + brM w v * (w 2).toNatClampNeg < 999999) := lt_nI (b := 999999) hbd (by omega)
      rw [eX3_fillCar_23]
      simp only [eX3_fillCar_0, eX3_fillCar_1, eX3_fillCar_4, eX3_fillCar_5, eX3_fillCar_6, eX3_fillCar_9, eX3_fillCar_10, eX3_fillCar_13, eX3_fillCar_14, eX3_fillCar_17, eX3_fillCar_20, eX3_fillCar_21, eX3_fillCar_22, eX3_fillCar_24, eX3_fillCar_25, eX3_fillCar_28, eX3_fillCar_29, eX3_fillCar_30, eX3_fillCar_31, eX3_fillCar_34, eX3_fillCar_37, eX3_fillCar_40, eX3_fillCar_41, eX3_fillCar_43, eX3_fillCar_44, eX3_fillCar_47, eX3_fillCar_48, eX3_fillCar_49, eX3_fillCar_52, eX3_fillCar_53, eX3_fillCar_54, eX3_fillCar_57, eX3_fillCar_60, eX3_fillCar_61, Option.toList_some, Option.toList_none, List.cons_append, List.nil_append, is01_0, is01_1, true_and, pl_P, hpr, hgt, hmul, hlt]
      rw [if_pos (nI_le (Nat.le_refl _) (by omega))]
      unfold brG
      congr 2
      split <;> rfl
    | succ r ih =>
      intro i h1 hi f1 s1
      obtain ⟨q, q1, q2, q3, q4⟩ := bq_step hV hW.2.1 b4.1 b4.2 (i := i) (by omega) (by omega)
      obtain ⟨h2, f2, s2, e2⟩ := c_dq X sw s1 hW.2.1 (k := 0) q3 (by omega) (by omega) q2 q1 (Or.inr rfl)
      rw [← q4] at s2
      obtain ⟨h', f3, s3, e3⟩ := ih (i + 1) h2 (by omega) (fun a ha => by rw [f2 a ha, f1 a ha]) s2
      refine ⟨h', f3, s3, fun Q => ?_⟩
      rw [← e3 Q]
      conv => lhs; rw [eX3_fillCar_23]
      have e2' : ∀ Q : Option Value → xG → xH → Prop, EV X mX3_dequeue 0 0 0 [.ref 13, .int 0, .int 2, .null] [] (Gb sw) h1 Q = Q none (Gb sw) h2 := e2
      simp only [eX3_fillCar_0, eX3_fillCar_1, eX3_fillCar_4, eX3_fillCar_5, eX3_fillCar_6, eX3_fillCar_9, eX3_fillCar_10, eX3_fillCar_13, eX3_fillCar_14, eX3_fillCar_17, eX3_fillCar_20, eX3_fillCar_21, eX3_fillCar_22, eX3_fillCar_24, eX3_fillCar_25, eX3_fillCar_28, eX3_fillCar_29, eX3_fillCar_30, eX3_fillCar_31, eX3_fillCar_34, eX3_fillCar_37, eX3_fillCar_40, eX3_fillCar_41, eX3_fillCar_43, eX3_fillCar_44, eX3_fillCar_47, eX3_fillCar_48, eX3_fillCar_49, eX3_fillCar_52, eX3_fillCar_53, eX3_fillCar_54, eX3_fillCar_57, eX3_fillCar_60, eX3_fillCar_61, Option.toList_some, Option.toList_none, List.cons_append, List.nil_append, is01_0, is01_1, true_and, pl_P, e2', nI_1]
      rw [if_neg (nI_ge (by omega) (by omega))]
  obtain ⟨h', f1, s1, e1⟩ := loop (brM w v) 0 h (by omega) (fun _ _ => rfl) hs
  refine ⟨h', f1, s1, fun Q => ?_⟩
  rw [← e1 Q]
  have hr : h (pl sw) 3 = nI (w 1).toNatClampNeg := by rw [← b1.1]; exact hC.1.2.2.1
  have hn : h 13 3 = nI (v 3).toNatClampNeg := by rw [← b4.1]; exact hs.1.2.2.2
  have e1 : nI (w 1).toNatClampNeg - nI (ctS v 2 8) = nI ((w 1).toNatClampNeg - ctS v 2 8) := pk_sub b5
  have e2 : (if (0 : Int32) < nI ((w 1).toNatClampNeg - ctS v 2 8) then nI ((w 1).toNatClampNeg - ctS v 2 8) else 0) = nI ((w 1).toNatClampNeg - ctS v 2 8) := by
    split
    · rfl
    · rename_i q
      rw [show (0 : Int32) = nI 0 from rfl] at q
      have : ¬ 0 < (w 1).toNatClampNeg - ctS v 2 8 := fun z => q (nI_lt z (by omega))
      rw [show (w 1).toNatClampNeg - ctS v 2 8 = 0 by omega]
      rfl
  have e3 : (if nI ((w 1).toNatClampNeg - ctS v 2 8) < nI (v 3).toNatClampNeg then nI ((w 1).toNatClampNeg - ctS v 2 8) else nI (v 3).toNatClampNeg) = nI (brM w v) := by
    unfold brM
    have : (nI ((w 1).toNatClampNeg - ctS v 2 8) < nI (v 3).toNatClampNeg) = ((w 1).toNatClampNeg - ctS v 2 8 < (v 3).toNatClampNeg) := lt_nI (by omega) (by omega)
    simp only [this]
    split <;> rfl
  simp only [eX3_fillCar_0, eX3_fillCar_1, eX3_fillCar_4, eX3_fillCar_5, eX3_fillCar_6, eX3_fillCar_9, eX3_fillCar_10, eX3_fillCar_13, eX3_fillCar_14, eX3_fillCar_17, eX3_fillCar_20, eX3_fillCar_21, eX3_fillCar_22, eX3_fillCar_24, eX3_fillCar_25, eX3_fillCar_28, eX3_fillCar_29, eX3_fillCar_30, eX3_fillCar_31, eX3_fillCar_34, eX3_fillCar_37, eX3_fillCar_40, eX3_fillCar_41, eX3_fillCar_43, eX3_fillCar_44, eX3_fillCar_47, eX3_fillCar_48, eX3_fillCar_49, eX3_fillCar_52, eX3_fillCar_53, eX3_fillCar_54, eX3_fillCar_57, eX3_fillCar_60, eX3_fillCar_61, Option.toList_some, Option.toList_none, List.cons_append, List.nil_append, is01_0, is01_1, true_and, pl_P, c_inCar hs, hr, hn, e1, e2, e3]
  rfl
theorem m_board (X : (Nat → Int32) × Nat) (sw : Bool) {h : xH} (hs : SM h 145 0 G v) (hV : SW w G v) (hW : PW NL G w) (hM : PM h NL G w) (hw : ¬ w 0 = 0) : ∃ h' : xH, (∀ a, ¬ a = 145 → h' a = h a) ∧ SM h' 145 0 G (brV w v) ∧ ∀ Q : Option Value → xG → xH → Prop, EV X mX6_boardNow 0 0 0 [.ref 140, .null] [] (Gb sw) h Q = Q (some (.int (nI (brM w v)))) (Gb sw) h' := by
  obtain ⟨b1, b2, b3, b4, b5⟩ := br_b hW hV hw
  obtain ⟨m1, m2, m3⟩ := br_m b5
  have mp : ∀ h1 : xH, (∀ a, ¬ a = 145 → h1 a = h a) → PM h1 NL G w := fun h1 f => by
    refine hM.mv ?_ ?_ ?_ ?_ ?_ ?_ ?_ ?_ <;> rw [f _ (by omega)]
  have loop : ∀ (r i : Nat) (h1 : xH), i + r = brM w v → (∀ a, ¬ a = 145 → h1 a = h a) → SM h1 145 0 G (xp (bqV v (v 3).toNatClampNeg i) 2 (brG w v i)) → ∃ h' : xH, (∀ a, ¬ a = 145 → h' a = h a) ∧ SM h' 145 0 G (brV w v) ∧ ∀ Q : Option Value → xG → xH → Prop, EV X mX6_boardNow 0 0 2 [.ref 140, .int (nI i)] [] (Gb sw) h1 Q = Q (some (.int (nI (brM w v)))) (Gb sw) h' := by
    intro r
    induction r with
    | zero =>
      intro i h1 hi f1 s1
      have hi : i = brM w v := hi
      subst hi
      obtain ⟨a1, a2, a3, a4⟩ := bq_inv hV hW.2.1 b4.1 b4.2 (brM w v) m1 m2
      refine ⟨h1, f1, s1, fun Q => ?_⟩
      have hM1 := mp h1 f1
      have e3 : h1 145 3 = nI ((v 3).toNatClampNeg - brM w v) := by rw [← a2]; exact s1.f.2.2.2.trans (xpn _ _ _ _ (by omega))
      have e1 : h1 140 1 = nI (w 1).toNatClampNeg := by rw [← b1.1]; exact hM1.1.2.1
      have hct : ctS (xp (bqV v (v 3).toNatClampNeg (brM w v)) 2 (brG w v (brM w v))) 2 G = ctS v 2 8 + brM w v := by
        have hh := (hV.br hW hw)
        have := ctS_G hh hW.2.1 (show ¬ (2 : Int32) = 0 by decide)
        unfold brV at this
        rw [← this, ← a3]
        apply fb_ct_cong
        intro k hk
        rw [xpn _ _ _ _ (by omega)]
      rw [eX6_boardNow_2]
      rcases m3 with q | q
      · have z : nI ((v 3).toNatClampNeg - brM w v) ≤ 0 := by rw [q, Nat.sub_self]; decide
        simp only [eX6_boardNow_0, eX6_boardNow_1, eX6_boardNow_3, eX6_boardNow_6, eX6_boardNow_7, eX6_boardNow_8, eX6_boardNow_11, eX6_boardNow_12, eX6_boardNow_13, eX6_boardNow_16, eX6_boardNow_17, eX6_boardNow_20, eX6_boardNow_23, eX6_boardNow_24, eX6_boardNow_27, eX6_boardNow_29, eX6_boardNow_30, eX6_boardNow_33, eX6_boardNow_34, eX6_boardNow_35, eX6_boardNow_36, eX6_boardNow_37, eX6_boardNow_38, eX6_boardNow_39, eX6_boardNow_40, eX6_boardNow_43, eX6_boardNow_44, eX6_boardNow_47, eX6_boardNow_48, eX6_boardNow_49, eX6_boardNow_52, eX6_boardNow_53, eX6_boardNow_54, eX6_boardNow_55, eX6_boardNow_58, eX6_boardNow_59, eX6_boardNow_61, eX6_boardNow_64, eX6_boardNow_65, eX6_boardNow_68, eX6_boardNow_69, eX6_boardNow_70, eX6_boardNow_71, eX6_boardNow_74, eX6_boardNow_75, eX6_boardNow_78, eX6_boardNow_80, eX6_boardNow_81, eX6_boardNow_84, eX6_boardNow_87, eX6_boardNow_88, Option.toList_some, Option.toList_none, List.cons_append, List.nil_append, is01_0, is01_1, true_and, tc3, ib3, e3, z, if_true]
      · have z : nI (w 1).toNatClampNeg ≤ nI (w 1).toNatClampNeg := Int32.le_refl _
        simp only [eX6_boardNow_0, eX6_boardNow_1, eX6_boardNow_3, eX6_boardNow_6, eX6_boardNow_7, eX6_boardNow_8, eX6_boardNow_11, eX6_boardNow_12, eX6_boardNow_13, eX6_boardNow_16, eX6_boardNow_17, eX6_boardNow_20, eX6_boardNow_23, eX6_boardNow_24, eX6_boardNow_27, eX6_boardNow_29, eX6_boardNow_30, eX6_boardNow_33, eX6_boardNow_34, eX6_boardNow_35, eX6_boardNow_36, eX6_boardNow_37, eX6_boardNow_38, eX6_boardNow_39, eX6_boardNow_40, eX6_boardNow_43, eX6_boardNow_44, eX6_boardNow_47, eX6_boardNow_48, eX6_boardNow_49, eX6_boardNow_52, eX6_boardNow_53, eX6_boardNow_54, eX6_boardNow_55, eX6_boardNow_58, eX6_boardNow_59, eX6_boardNow_61, eX6_boardNow_64, eX6_boardNow_65, eX6_boardNow_68, eX6_boardNow_69, eX6_boardNow_70, eX6_boardNow_71, eX6_boardNow_74, eX6_boardNow_75, eX6_boardNow_78, eX6_boardNow_80, eX6_boardNow_81, eX6_boardNow_84, eX6_boardNow_87, eX6_boardNow_88, Option.toList_some, Option.toList_none, List.cons_append, List.nil_append, is01_0, is01_1, true_and, tc3, ib3, e3, m_manyAt s1 hW.2.1 hM1, hct, q, e1, z, if_true]
        by_cases z2 : nI ((v 3).toNatClampNeg - brM w v) ≤ 0 <;> simp only [z2, if_true, if_false]
    | succ r ih =>
      intro i h1 hi f1 s1
      obtain ⟨q, q1, q2, q3, q4⟩ := bq_step hV hW.2.1 b4.1 b4.2 (i := i) (by omega) (by omega)
      obtain ⟨a1, a2, a3, a4⟩ := bq_inv hV hW.2.1 b4.1 b4.2 i (by omega) (by omega)
      have hq8 : q < 8 := by have := hW.2.1; omega
      have hM1 := mp h1 f1
      have e4 : h1 145 4 = nI q := by
        rw [← q2]
        obtain ⟨n', c1, c2, c3⟩ := a1.n
        have c4 : n' = (v 3).toNatClampNeg - (i + 1) + 1 := (nI_eq (by omega) (by omega)).mp (c2.symm.trans q3)
        have := s1.q 0 (by rw [xpn _ _ _ _ (by omega), c3]; omega)
        exact this.trans (xpn _ _ _ _ (by omega))
      have e3 : h1 145 3 = nI ((v 3).toNatClampNeg - i) := by rw [← a2]; exact s1.f.2.2.2.trans (xpn _ _ _ _ (by omega))
      have e1 : h1 140 1 = nI (w 1).toNatClampNeg := by rw [← b1.1]; exact hM1.1.2.1
      have hVi : SW w G (xp (bqV v (v 3).toNatClampNeg i) 2 (brG w v i)) := by
        refine a1.set (Or.inr rfl) hW.2.1 (fun q => by omega) (fun _ => ?_)
        unfold brG
        split
        · rw [nI_toInt (by omega)]; omega
        · rw [nI_toInt (by omega)]; omega
      have hct : ctS (xp (bqV v (v 3).toNatClampNeg i) 2 (brG w v i)) 2 G = ctS v 2 8 + i := by
        have := ctS_G hVi hW.2.1 (show ¬ (2 : Int32) = 0 by decide)
        rw [← this, ← a3]
        apply fb_ct_cong
        intro k hk
        rw [xpn _ _ _ _ (by omega)]
      have s2 := s1.set (12 + q) 2 (by omega) (fun i hi _ z => absurd z (by decide))
      have q3' : xp (xp (bqV v (v 3).toNatClampNeg i) 2 (brG w v i)) (12 + q) 2 3 = nI ((v 3).toNatClampNeg - (i + 1) + 1) := by rw [xpn _ _ _ _ (by omega), xpn _ _ _ _ (by omega)]; exact q3
      obtain ⟨h2, f2, s3, k2⟩ := m_tk X sw s2 hW.2.1 (k := 0) q3' (by omega) (by omega)
      rw [tk_xp (by omega), dq_xp, ← q4] at s3
      have s4 := s3.set 2 (brG w v (i + 1)) (by omega) (fun i hi z _ => by omega)
      have exx : xp (xp (bqV v (v 3).toNatClampNeg (i + 1)) 2 (brG w v i)) 2 (brG w v (i + 1)) = xp (bqV v (v 3).toNatClampNeg (i + 1)) 2 (brG w v (i + 1)) := by
        funext t
        by_cases z : t = 2
        · rw [z, xps, xps]
        · rw [xpn _ _ _ _ z, xpn _ _ _ _ z, xpn _ _ _ _ z]
      rw [exx] at s4
      obtain ⟨h', f3, s5, e5⟩ := ih (i + 1) _ (by omega) (fun a ha => by rw [xun _ _ _ _ _ ha, f2 a ha, xun _ _ _ _ _ ha, f1 a ha]) s4
      refine ⟨h', f3, s5, fun Q => ?_⟩
      rw [← e5 Q]
      have z1 : ¬ nI ((v 3).toNatClampNeg - i) ≤ 0 := nI_nle (by omega) (by omega)
      have z2 : ¬ nI (w 1).toNatClampNeg ≤ nI (ctS v 2 8 + i) := nI_ge (by omega) (by omega)
      have k2' : ∀ Q : Option Value → xG → xH → Prop, EV X mX6_takeFromLine 0 0 0 [.ref 140, .int 0, .null] [] (Gb sw) (xu h1 145 (12 + q) 2) Q = Q none (Gb sw) h2 := k2
      have e6 : h2 145 2 = brG w v i := by have := s3.f.2.2.1; rwa [xps] at this
      have e7 : h2 140 8 = nI (w 2).toNatClampNeg := by
        rw [f2 140 (by omega), xun _ _ _ _ _ (by omega), ← b2.1]
        have := hM1.1.2.2.1
        rw [if_neg hw] at this
        exact this
      have hbd : ∀ k, k ≤ 8 → (v 2).toNatClampNeg + k * (w 2).toNatClampNeg < 2147483648 := fun k hk => by
        have : k * (w 2).toNatClampNeg ≤ 8 * 99 := Nat.mul_le_mul hk b2.2
        omega
      have e8 : (if brG w v i + nI (w 2).toNatClampNeg < 999999 then brG w v i + nI (w 2).toNatClampNeg else 999999) = brG w v (i + 1) := by
        have hb := hbd (i + 1) (by omega)
        have hs : (i + 1) * (w 2).toNatClampNeg = i * (w 2).toNatClampNeg + (w 2).toNatClampNeg := Nat.succ_mul _ _
        unfold brG
        rw [hs] at hb ⊢
        generalize i * (w 2).toNatClampNeg = P at *
        by_cases y : (v 2).toNatClampNeg + P < 999999
        · rw [if_pos y, nI_add]
          have : (nI ((v 2).toNatClampNeg + P + (w 2).toNatClampNeg) < 999999) = ((v 2).toNatClampNeg + P + (w 2).toNatClampNeg < 999999) := lt_nI (b := 999999) (by omega) (by omega)
          simp only [this, show (v 2).toNatClampNeg + (P + (w 2).toNatClampNeg) = (v 2).toNatClampNeg + P + (w 2).toNatClampNeg by omega]
          split <;> rfl
        · rw [if_neg y, nI_add, if_neg (show ¬ nI (999999 + (w 2).toNatClampNeg) < 999999 from nI_nlt (b := 999999) (by omega) (by omega)), if_neg (by omega)]
          rfl
      have e9 : ¬ brG w v i + nI (w 2).toNatClampNeg < 999999 ∨ True := Or.inr trivial
      conv => lhs; rw [eX6_boardNow_2]
      simp only [eX6_boardNow_0, eX6_boardNow_1, eX6_boardNow_3, eX6_boardNow_6, eX6_boardNow_7, eX6_boardNow_8, eX6_boardNow_11, eX6_boardNow_12, eX6_boardNow_13, eX6_boardNow_16, eX6_boardNow_17, eX6_boardNow_20, eX6_boardNow_23, eX6_boardNow_24, eX6_boardNow_27, eX6_boardNow_29, eX6_boardNow_30, eX6_boardNow_33, eX6_boardNow_34, eX6_boardNow_35, eX6_boardNow_36, eX6_boardNow_37, eX6_boardNow_38, eX6_boardNow_39, eX6_boardNow_40, eX6_boardNow_43, eX6_boardNow_44, eX6_boardNow_47, eX6_boardNow_48, eX6_boardNow_49, eX6_boardNow_52, eX6_boardNow_53, eX6_boardNow_54, eX6_boardNow_55, eX6_boardNow_58, eX6_boardNow_59, eX6_boardNow_61, eX6_boardNow_64, eX6_boardNow_65, eX6_boardNow_68, eX6_boardNow_69, eX6_boardNow_70, eX6_boardNow_71, eX6_boardNow_74, eX6_boardNow_75, eX6_boardNow_78, eX6_boardNow_80, eX6_boardNow_81, eX6_boardNow_84, eX6_boardNow_87, eX6_boardNow_88, Option.toList_some, Option.toList_none, List.cons_append, List.nil_append, is01_0, is01_1, true_and, tc3, ib3, tc4, ib4, tc2, ib2, e3, m_manyAt s1 hW.2.1 hM1, hct, e1, z1, z2, if_false, e4, la4, la12, la20, la28, la36, cl8_4 hq8, cl8_12 hq8, cl8_20 hq8, cl8_28 hq8, cl8_36 hq8, ib8_4 hq8, ib8_12 hq8, ib8_20 hq8, ib8_28 hq8, ib8_36 hq8, k2', e6, e7, nI_1]
      rw [← e8]
      by_cases y : brG w v i + nI (w 2).toNatClampNeg < 999999
      · have y2 : ¬ 999999 ≤ brG w v i + nI (w 2).toNatClampNeg := by rw [Int32.not_le]; exact y
        simp only [y, y2, if_true, if_false]
      · have y2 : 999999 ≤ brG w v i + nI (w 2).toNatClampNeg := by rw [← Int32.not_lt]; exact y
        simp only [y, y2, if_true, if_false]
  have hb0 : brG w v 0 = v 2 := by
    unfold brG
    rw [Nat.zero_mul, Nat.add_zero]
    split
    · exact b3.1.symm
    · rw [show 999999 = (v 2).toNatClampNeg by omega]; exact b3.1.symm
  have s0 : SM h 145 0 G (xp (bqV v (v 3).toNatClampNeg 0) 2 (brG w v 0)) := by
    have : xp (bqV v (v 3).toNatClampNeg 0) 2 (brG w v 0) = v := by
      funext t
      by_cases z : t = 2
      · rw [z, xps, hb0]
      · rw [xpn _ _ _ _ z]; rfl
    rw [this]
    exact hs
  obtain ⟨h', f1, s1, e1⟩ := loop (brM w v) 0 h (by omega) (fun _ _ => rfl) s0
  refine ⟨h', f1, s1, fun Q => ?_⟩
  rw [← e1 Q]
  simp only [eX6_boardNow_0, eX6_boardNow_1, eX6_boardNow_3, eX6_boardNow_6, eX6_boardNow_7, eX6_boardNow_8, eX6_boardNow_11, eX6_boardNow_12, eX6_boardNow_13, eX6_boardNow_16, eX6_boardNow_17, eX6_boardNow_20, eX6_boardNow_23, eX6_boardNow_24, eX6_boardNow_27, eX6_boardNow_29, eX6_boardNow_30, eX6_boardNow_33, eX6_boardNow_34, eX6_boardNow_35, eX6_boardNow_36, eX6_boardNow_37, eX6_boardNow_38, eX6_boardNow_39, eX6_boardNow_40, eX6_boardNow_43, eX6_boardNow_44, eX6_boardNow_47, eX6_boardNow_48, eX6_boardNow_49, eX6_boardNow_52, eX6_boardNow_53, eX6_boardNow_54, eX6_boardNow_55, eX6_boardNow_58, eX6_boardNow_59, eX6_boardNow_61, eX6_boardNow_64, eX6_boardNow_65, eX6_boardNow_68, eX6_boardNow_69, eX6_boardNow_70, eX6_boardNow_71, eX6_boardNow_74, eX6_boardNow_75, eX6_boardNow_78, eX6_boardNow_80, eX6_boardNow_81, eX6_boardNow_84, eX6_boardNow_87, eX6_boardNow_88, Option.toList_some, Option.toList_none, List.cons_append, List.nil_append, is01_0, is01_1, true_and]
  rfl
theorem hpos {h : Int32} (h0 : 0 ≤ h.toInt) : (h ≤ 0) = (h = 0) := by
  apply propext
  rw [fa_le, fa_eq]
  have : (0 : Int32).toInt = 0 := rfl
  omega
theorem p_board : OpK X mX5_board mX6_board [.ref 0] [.ref 140] := OpK.two fun sw h NL G w v H => by
  obtain ⟨n1, n2, n3, n4, n5, n6⟩ := id H.1
  have hz := hpos n2.2.2.2.2.2.2.1.1
  by_cases c : w 0 = 0
  · refine OpK.same H ?_
    unfold Both
    simp only [eX5_board_0, eX5_board_1, eX5_board_4, eX5_board_7, eX5_board_10, eX5_board_11, eX5_board_14, eX5_board_17, eX5_board_20, eX5_board_22, eX5_board_23, eX5_board_24, eX5_board_27, eX5_board_28, eX5_board_31, eX5_board_34, eX5_board_35, eX5_board_38, eX5_board_39, eX5_board_42, eX5_board_45, eX6_board_0, eX6_board_1, eX6_board_4, eX6_board_7, eX6_board_8, eX6_board_11, eX6_board_12, eX6_board_13, eX6_board_16, eX6_board_18, eX6_board_19, eX6_board_20, eX6_board_23, eX6_board_24, eX6_board_27, Option.toList_some, Option.toList_none, List.cons_append, List.nil_append, is01_0, is01_1, true_and, pl_P, n3.1, n4.1, b01_0, c, not_true, not_false_iff, if_true, if_false]
    first | exact ⟨_, fun _ => rfl, fun _ => rfl⟩ | exact ⟨_, fun _ => rfl⟩
  · by_cases c1 : v 0 = 0
    · obtain ⟨hp, hN, z0, z140, e1, K⟩ := act X H
      obtain ⟨m1, m2, m3, m4, m5, m6⟩ := id hN
      obtain ⟨h1, g1, hs', k1⟩ := c_fill X m5 m2 m1 m3 c
      obtain ⟨hr, hM, hm, r0, r140, e2, K2⟩ := K h1 (fun a q1 q2 => g1 a q1)
      obtain ⟨h2, g2, hm', k2⟩ := m_board X sw hm m2 m1 hM c
      refine ⟨nI (brM w v), h1, h2, fun Q => ?_, fun Q => ?_, NL, G, w, _, K2 _ _ (fun a q1 q2 => g2 a q1) (fun k _ => by rw [g2 140 (by omega)]) (n2.br n1 c) hs' hm' ?_⟩
      · simp only [eX5_board_0, eX5_board_1, eX5_board_4, eX5_board_7, eX5_board_10, eX5_board_11, eX5_board_14, eX5_board_17, eX5_board_20, eX5_board_22, eX5_board_23, eX5_board_24, eX5_board_27, eX5_board_28, eX5_board_31, eX5_board_34, eX5_board_35, eX5_board_38, eX5_board_39, eX5_board_42, eX5_board_45, Option.toList_some, Option.toList_none, List.cons_append, List.nil_append, is01_0, is01_1, true_and, pl_P, n3.1, n5.1, b01_0, c, c1, not_true, not_false_iff, if_true, if_false, e1, k1]
      · have p1 : PM h1 NL G w := by
          refine m4.mv ?_ ?_ ?_ ?_ ?_ ?_ ?_ ?_ <;> rw [g1 _ (by omega)]
        have p2 : SM h1 145 0 G v := m6.mv (g1 _ (by omega))
        simp only [eX6_board_0, eX6_board_1, eX6_board_4, eX6_board_7, eX6_board_8, eX6_board_11, eX6_board_12, eX6_board_13, eX6_board_16, eX6_board_18, eX6_board_19, eX6_board_20, eX6_board_23, eX6_board_24, eX6_board_27, Option.toList_some, Option.toList_none, List.cons_append, List.nil_append, is01_0, is01_1, true_and, p1.1, p2.f, tc0, ib0, hz, c, c1, Int32.le_refl, not_true, not_false_iff, if_true, if_false, e2, k2]
      · refine SDr.mv H.2.2.2.2.2.2.2.2 ?_ ?_
        · rw [g2 0 (by omega), r0, g1 0 (by omega), z0]
        · rw [g2 140 (by omega), r140]
    · refine OpK.same H ?_
      unfold Both
      simp only [eX5_board_0, eX5_board_1, eX5_board_4, eX5_board_7, eX5_board_10, eX5_board_11, eX5_board_14, eX5_board_17, eX5_board_20, eX5_board_22, eX5_board_23, eX5_board_24, eX5_board_27, eX5_board_28, eX5_board_31, eX5_board_34, eX5_board_35, eX5_board_38, eX5_board_39, eX5_board_42, eX5_board_45, eX6_board_0, eX6_board_1, eX6_board_4, eX6_board_7, eX6_board_8, eX6_board_11, eX6_board_12, eX6_board_13, eX6_board_16, eX6_board_18, eX6_board_19, eX6_board_20, eX6_board_23, eX6_board_24, eX6_board_27, Option.toList_some, Option.toList_none, List.cons_append, List.nil_append, is01_0, is01_1, true_and, pl_P, n3.1, n4.1, n5.1, n6.f, tc0, ib0, hz, b01_0, c, c1, not_true, not_false_iff, if_true, if_false]
      first | exact ⟨_, fun _ => rfl, fun _ => rfl⟩ | exact ⟨_, fun _ => rfl⟩
end BO
