/-! sets, counts, the youngest, places in the queue -/
def Nw (sw : Bool) (h : xH) (NL G : Nat) (w v : Nat → Int32) : Prop := PW NL G w ∧ SW w G v ∧ PC h (pl sw) NL G w ∧ PM h NL G w ∧ SC h 13 G v ∧ SM h 145 0 G v
def stF (v : Nat → Int32) (p : Int32) (j : Nat) (s : Int32) : Int32 := if v (12 + j) = p then s ||| ((1 : Int32) <<< (nI j &&& 31)) else s
def stS (v : Nat → Int32) (p : Int32) (n : Nat) : Int32 := xfold (stF v p) 0 n 0
theorem xfold_id {σ : Type} {f : Nat → σ → σ} : ∀ (n j : Nat) (s : σ), (∀ i s, j ≤ i → i < j + n → f i s = s) → xfold f j n s = s
  | 0, j, s, _ => rfl
  | n + 1, j, s, h => by
    show xfold f (j + 1) n (f j s) = s
    rw [h j s (Nat.le_refl _) (by omega)]
    exact xfold_id n (j + 1) s (fun i s h1 h2 => h i s (by omega) (by omega))
theorem xfold_add {σ : Type} (f : Nat → σ → σ) : ∀ (m n j : Nat) (s : σ), xfold f j (m + n) s = xfold f (j + m) n (xfold f j m s)
  | 0, n, j, s => by simp [xfold]
  | m + 1, n, j, s => by
    rw [Nat.succ_add]
    show xfold f (j + 1) (m + n) (f j s) = xfold f (j + (m + 1)) n (xfold f (j + 1) m (f j s))
    rw [xfold_add f m n (j + 1) (f j s)]
    have e : j + 1 + m = j + (m + 1) := by omega
    rw [e]
theorem stS_G {w v : Nat → Int32} {G : Nat} (hV : SW w G v) (hG : G ≤ 8) {p : Int32} (hp : ¬ p = 0) : stS v p 8 = stS v p G := by
  unfold stS
  have e : 8 = G + (8 - G) := by omega
  rw [e, xfold_add, xfold_id]
  intro i s h1 h2
  unfold stF
  rw [if_neg]
  rw [hV.2.2.1 i (by omega) (by omega)]
  exact fun q => hp q.symm
def ctS (v : Nat → Int32) (p : Int32) (n : Nat) : Nat := fb_ct (fun j => decide (v (12 + j) = p)) n
theorem ctS_G {w v : Nat → Int32} {G : Nat} (hV : SW w G v) (hG : G ≤ 8) {p : Int32} (hp : ¬ p = 0) : ctS v p 8 = ctS v p G := by
  unfold ctS
  have e : 8 = G + (8 - G) := by omega
  rw [e, fb_ct_split]
  have : fb_ct (fun k => decide (v (12 + (G + k)) = p)) (8 - G) = 0 := by
    apply fb_ct_zero.mpr
    intro k hk
    rw [hV.2.2.1 (G + k) (by omega) (by omega)]
    simpa using fun q => hp q.symm
  rw [this, Nat.add_zero]
section RD
variable {X : (Nat → Int32) × Nat} {g : xG} {h : xH} {Q : Option Value → xG → xH → Prop} {sw : Bool} {NL G : Nat} {w v : Nat → Int32}
theorem c_setOf (hs : SC h 13 G v) (p : Int32) : EV X mX3_setOf 0 0 0 [.ref 13, .int p, .null, .null] [] (Gb sw) h Q = Q (some (.int (stS v p 8))) (Gb sw) h := by
  simp only [eX3_setOf_0, eX3_setOf_1, eX3_setOf_2, eX3_setOf_3, eX3_setOf_5, eX3_setOf_7, eX3_setOf_10, eX3_setOf_11, eX3_setOf_14, eX3_setOf_15, eX3_setOf_16, eX3_setOf_17, eX3_setOf_20, eX3_setOf_21, eX3_setOf_22, eX3_setOf_23, eX3_setOf_24, eX3_setOf_25, eX3_setOf_26, eX3_setOf_29, eX3_setOf_32, eX3_setOf_33, Option.toList_some, Option.toList_none, List.cons_append, List.nil_append, is01_0, is01_1, true_and]
  have key := lp_fold (f := stF v p) (fun i (s : Int32) => EV X mX3_setOf 0 0 4 [.ref 13, .int p, .int s, .int (nI i)] [] (Gb sw) h Q) 8 0 0 (fun i s h1 h2 => by
    have hi8 : i < 8 := by omega
    rw [eX3_setOf_4]
    simp only [eX3_setOf_0, eX3_setOf_1, eX3_setOf_2, eX3_setOf_3, eX3_setOf_5, eX3_setOf_7, eX3_setOf_10, eX3_setOf_11, eX3_setOf_14, eX3_setOf_15, eX3_setOf_16, eX3_setOf_17, eX3_setOf_20, eX3_setOf_21, eX3_setOf_22, eX3_setOf_23, eX3_setOf_24, eX3_setOf_25, eX3_setOf_26, eX3_setOf_29, eX3_setOf_32, eX3_setOf_33, Option.toList_some, Option.toList_none, List.cons_append, List.nil_append, is01_0, is01_1, true_and, cl8 hi8, inb8 hi8, Nat.le_refl, hs.w i hi8, nI_1]
    rw [if_neg (show ¬ (8 : Int32) ≤ nI i from nI_ge (b := 8) (by omega) (by omega))]
    unfold stF
    by_cases q : v (12 + i) = p <;> simp [q])
  refine key.trans ?_
  rw [eX3_setOf_4]
  simp only [eX3_setOf_0, eX3_setOf_1, eX3_setOf_2, eX3_setOf_3, eX3_setOf_5, eX3_setOf_7, eX3_setOf_10, eX3_setOf_11, eX3_setOf_14, eX3_setOf_15, eX3_setOf_16, eX3_setOf_17, eX3_setOf_20, eX3_setOf_21, eX3_setOf_22, eX3_setOf_23, eX3_setOf_24, eX3_setOf_25, eX3_setOf_26, eX3_setOf_29, eX3_setOf_32, eX3_setOf_33, Option.toList_some, Option.toList_none, List.cons_append, List.nil_append, is01_0, is01_1, true_and]
  rw [if_pos (show (8 : Int32) ≤ nI (0 + 8) from nI_le (a := 8) (by omega) (by omega))]
  rfl
theorem m_allAt (hs : SM h 145 0 G v) (hG : G ≤ 8) (hM : PM h NL G w) (p : Int32) : EV X mX6_allAt 0 0 0 [.ref 140, .int p, .null, .null] [] (Gb sw) h Q = Q (some (.int (stS v p G))) (Gb sw) h := by
  simp only [eX6_allAt_0, eX6_allAt_1, eX6_allAt_2, eX6_allAt_3, eX6_allAt_5, eX6_allAt_6, eX6_allAt_9, eX6_allAt_12, eX6_allAt_13, eX6_allAt_14, eX6_allAt_17, eX6_allAt_19, eX6_allAt_20, eX6_allAt_21, eX6_allAt_22, eX6_allAt_23, eX6_allAt_26, eX6_allAt_27, eX6_allAt_28, eX6_allAt_29, eX6_allAt_32, eX6_allAt_33, eX6_allAt_34, eX6_allAt_35, eX6_allAt_38, eX6_allAt_41, eX6_allAt_42, Option.toList_some, Option.toList_none, List.cons_append, List.nil_append, is01_0, is01_1, true_and]
  have key := lp_fold (f := stF v p) (fun i (s : Int32) => EV X mX6_allAt 0 0 4 [.ref 140, .int p, .int s, .int (nI i)] [] (Gb sw) h Q) G 0 0 (fun i s h1 h2 => by
    have hi8 : i < 8 := by omega
    rw [eX6_allAt_4]
    simp only [eX6_allAt_0, eX6_allAt_1, eX6_allAt_2, eX6_allAt_3, eX6_allAt_5, eX6_allAt_6, eX6_allAt_9, eX6_allAt_12, eX6_allAt_13, eX6_allAt_14, eX6_allAt_17, eX6_allAt_19, eX6_allAt_20, eX6_allAt_21, eX6_allAt_22, eX6_allAt_23, eX6_allAt_26, eX6_allAt_27, eX6_allAt_28, eX6_allAt_29, eX6_allAt_32, eX6_allAt_33, eX6_allAt_34, eX6_allAt_35, eX6_allAt_38, eX6_allAt_41, eX6_allAt_42, Option.toList_some, Option.toList_none, List.cons_append, List.nil_append, is01_0, is01_1, true_and, la4, la12, la20, la28, la36, cl8_4 hi8, cl8_12 hi8, cl8_20 hi8, cl8_28 hi8, cl8_36 hi8, ib8_4 hi8, ib8_12 hi8, ib8_20 hi8, ib8_28 hi8, ib8_36 hi8, hs.w i (by omega : i < G), nI_1, hM.1]
    rw [if_neg (nI_ge (by omega) (by omega))]
    unfold stF
    by_cases q : v (12 + i) = p
    · simp [q]
    · simp [q, Int32.or_zero])
  refine key.trans ?_
  rw [Nat.zero_add, eX6_allAt_4]
  simp only [eX6_allAt_0, eX6_allAt_1, eX6_allAt_2, eX6_allAt_3, eX6_allAt_5, eX6_allAt_6, eX6_allAt_9, eX6_allAt_12, eX6_allAt_13, eX6_allAt_14, eX6_allAt_17, eX6_allAt_19, eX6_allAt_20, eX6_allAt_21, eX6_allAt_22, eX6_allAt_23, eX6_allAt_26, eX6_allAt_27, eX6_allAt_28, eX6_allAt_29, eX6_allAt_32, eX6_allAt_33, eX6_allAt_34, eX6_allAt_35, eX6_allAt_38, eX6_allAt_41, eX6_allAt_42, Option.toList_some, Option.toList_none, List.cons_append, List.nil_append, is01_0, is01_1, true_and, hM.1]
  rw [if_pos (nI_le (by omega) (by omega))]
  rfl
theorem m_manyAt (hs : SM h 145 0 G v) (hG : G ≤ 8) (hM : PM h NL G w) (p : Int32) : EV X mX6_manyAt 0 0 0 [.ref 140, .int p, .null, .null] [] (Gb sw) h Q = Q (some (.int (nI (ctS v p G)))) (Gb sw) h := by
  simp only [eX6_manyAt_0, eX6_manyAt_1, eX6_manyAt_2, eX6_manyAt_3, eX6_manyAt_5, eX6_manyAt_6, eX6_manyAt_9, eX6_manyAt_12, eX6_manyAt_13, eX6_manyAt_14, eX6_manyAt_17, eX6_manyAt_19, eX6_manyAt_20, eX6_manyAt_21, eX6_manyAt_22, eX6_manyAt_23, eX6_manyAt_26, eX6_manyAt_27, eX6_manyAt_30, eX6_manyAt_31, eX6_manyAt_32, eX6_manyAt_33, eX6_manyAt_36, eX6_manyAt_39, eX6_manyAt_40, Option.toList_some, Option.toList_none, List.cons_append, List.nil_append, is01_0, is01_1, true_and]
  have key : ∀ m i : Nat, i + m = G → EV X mX6_manyAt 0 0 4 [.ref 140, .int p, .int (nI (ctS v p i)), .int (nI i)] [] (Gb sw) h Q = Q (some (.int (nI (ctS v p G)))) (Gb sw) h := by
    intro m
    induction m with
    | zero =>
      intro i hi
      have e : i = G := by omega
      subst e
      rw [eX6_manyAt_4]
      simp only [eX6_manyAt_0, eX6_manyAt_1, eX6_manyAt_2, eX6_manyAt_3, eX6_manyAt_5, eX6_manyAt_6, eX6_manyAt_9, eX6_manyAt_12, eX6_manyAt_13, eX6_manyAt_14, eX6_manyAt_17, eX6_manyAt_19, eX6_manyAt_20, eX6_manyAt_21, eX6_manyAt_22, eX6_manyAt_23, eX6_manyAt_26, eX6_manyAt_27, eX6_manyAt_30, eX6_manyAt_31, eX6_manyAt_32, eX6_manyAt_33, eX6_manyAt_36, eX6_manyAt_39, eX6_manyAt_40, Option.toList_some, Option.toList_none, List.cons_append, List.nil_append, is01_0, is01_1, true_and, hM.1]
      rw [if_pos (nI_le (by omega) (by omega))]
    | succ m ih =>
      intro i hi
      have hi8 : i < 8 := by omega
      have e2 := ih (i + 1) (by omega)
      rw [eX6_manyAt_4]
      simp only [eX6_manyAt_0, eX6_manyAt_1, eX6_manyAt_2, eX6_manyAt_3, eX6_manyAt_5, eX6_manyAt_6, eX6_manyAt_9, eX6_manyAt_12, eX6_manyAt_13, eX6_manyAt_14, eX6_manyAt_17, eX6_manyAt_19, eX6_manyAt_20, eX6_manyAt_21, eX6_manyAt_22, eX6_manyAt_23, eX6_manyAt_26, eX6_manyAt_27, eX6_manyAt_30, eX6_manyAt_31, eX6_manyAt_32, eX6_manyAt_33, eX6_manyAt_36, eX6_manyAt_39, eX6_manyAt_40, Option.toList_some, Option.toList_none, List.cons_append, List.nil_append, is01_0, is01_1, true_and, la4, la12, la20, la28, la36, cl8_4 hi8, cl8_12 hi8, cl8_20 hi8, cl8_28 hi8, cl8_36 hi8, ib8_4 hi8, ib8_12 hi8, ib8_20 hi8, ib8_28 hi8, ib8_36 hi8, hs.w i (by omega : i < G), nI_1, hM.1]
      rw [if_neg (nI_ge (by omega) (by omega))]
      have e1 : ctS v p (i + 1) = ctS v p i + (if v (12 + i) = p then 1 else 0) := by
        unfold ctS
        rw [fb_ct_succ]
        simp
      rw [e1] at e2
      by_cases q : v (12 + i) = p
      · rw [if_pos q] at e2
        simpa [q] using e2
      · rw [if_neg q, Nat.add_zero] at e2
        simpa [q, Int32.add_zero] using e2
  exact key G 0 (by omega)
def bcS (x0 : Int32) : Int32 :=
  let a := x0 - ((x0.toUInt32 >>> (Int32.toUInt32 1 &&& Int32.toUInt32 31)).toInt32 &&& 1431655765)
  let b := (a &&& 858993459) + ((a.toUInt32 >>> (Int32.toUInt32 2 &&& Int32.toUInt32 31)).toInt32 &&& 858993459)
  let c := (b + (b.toUInt32 >>> (Int32.toUInt32 4 &&& Int32.toUInt32 31)).toInt32) &&& 252645135
  let d := c + (c.toUInt32 >>> (Int32.toUInt32 8 &&& Int32.toUInt32 31)).toInt32
  let e := d + (d.toUInt32 >>> (Int32.toUInt32 16 &&& Int32.toUInt32 31)).toInt32
  e &&& 63
theorem c_bitCount (x : Int32) : EV X mJ6_bitCount_0f7a4 0 0 0 [.int x] [] g h Q = Q (some (.int (bcS x))) g h := by
  simp only [eJ6_bitCount_0f7a4_0, eJ6_bitCount_0f7a4_1, eJ6_bitCount_0f7a4_2, eJ6_bitCount_0f7a4_3, eJ6_bitCount_0f7a4_4, eJ6_bitCount_0f7a4_7, eJ6_bitCount_0f7a4_8, eJ6_bitCount_0f7a4_9, eJ6_bitCount_0f7a4_10, eJ6_bitCount_0f7a4_11, eJ6_bitCount_0f7a4_14, eJ6_bitCount_0f7a4_15, eJ6_bitCount_0f7a4_16, eJ6_bitCount_0f7a4_17, eJ6_bitCount_0f7a4_18, eJ6_bitCount_0f7a4_21, eJ6_bitCount_0f7a4_22, eJ6_bitCount_0f7a4_23, eJ6_bitCount_0f7a4_24, eJ6_bitCount_0f7a4_25, eJ6_bitCount_0f7a4_26, eJ6_bitCount_0f7a4_27, eJ6_bitCount_0f7a4_28, eJ6_bitCount_0f7a4_29, eJ6_bitCount_0f7a4_32, eJ6_bitCount_0f7a4_33, eJ6_bitCount_0f7a4_34, eJ6_bitCount_0f7a4_35, eJ6_bitCount_0f7a4_36, eJ6_bitCount_0f7a4_38, eJ6_bitCount_0f7a4_39, eJ6_bitCount_0f7a4_40, eJ6_bitCount_0f7a4_41, eJ6_bitCount_0f7a4_42, eJ6_bitCount_0f7a4_43, eJ6_bitCount_0f7a4_45, eJ6_bitCount_0f7a4_46, eJ6_bitCount_0f7a4_47, eJ6_bitCount_0f7a4_48, eJ6_bitCount_0f7a4_49, eJ6_bitCount_0f7a4_51, eJ6_bitCount_0f7a4_52, Option.toList_some, Option.toList_none, List.cons_append, List.nil_append, is01_0, is01_1, true_and]
  rfl
def st1 (b : Bool) (j : Nat) (s : Int32) : Int32 := if b then s ||| ((1 : Int32) <<< (nI j &&& 31)) else s
def ct1 (b : Bool) (s : Nat) : Nat := s + (if b then 1 else 0)
theorem bc8 : ∀ b0 b1 b2 b3 b4 b5 b6 b7 : Bool, bcS (st1 b7 7 (st1 b6 6 (st1 b5 5 (st1 b4 4 (st1 b3 3 (st1 b2 2 (st1 b1 1 (st1 b0 0 0)))))))) = nI (ct1 b7 (ct1 b6 (ct1 b5 (ct1 b4 (ct1 b3 (ct1 b2 (ct1 b1 (ct1 b0 0)))))))) := by decide +kernel
theorem bc_ct (v : Nat → Int32) (p : Int32) : bcS (stS v p 8) = nI (ctS v p 8) := by
  have e : ∀ j s, stF v p j s = st1 (decide (v (12 + j) = p)) j s := by
    intro j s
    unfold stF st1
    by_cases q : v (12 + j) = p <;> simp [q]
  have e1 : stS v p 8 = st1 (decide (v (12 + 7) = p)) 7 (st1 (decide (v (12 + 6) = p)) 6 (st1 (decide (v (12 + 5) = p)) 5 (st1 (decide (v (12 + 4) = p)) 4 (st1 (decide (v (12 + 3) = p)) 3 (st1 (decide (v (12 + 2) = p)) 2 (st1 (decide (v (12 + 1) = p)) 1 (st1 (decide (v (12 + 0) = p)) 0 0))))))) := by
    rw [← e, ← e, ← e, ← e, ← e, ← e, ← e, ← e]
    rfl
  rw [e1, bc8]
  rfl
theorem c_inCar (hs : SC h 13 G v) : EV X mX3_inCar 0 0 0 [.ref 13] [] (Gb sw) h Q = Q (some (.int (nI (ctS v 2 8)))) (Gb sw) h := by
  simp only [eX3_inCar_0, eX3_inCar_1, eX3_inCar_2, eX3_inCar_5, eX3_inCar_8, Option.toList_some, Option.toList_none, List.cons_append, List.nil_append, is01_0, is01_1, true_and, c_setOf hs, c_bitCount, bc_ct]
/-! the youngest, the oldest -/
def encO : Option Nat → Int32
  | none => -1
  | some k => nI k
theorem encO_n : encO none = -1 := rfl
theorem encO_s (k : Nat) : encO (some k) = nI k := rfl
def agF (v : Nat → Int32) (old : Bool) (j : Nat) : Option Nat → Option Nat
  | none => some j
  | some b => if (if old then v (28 + b) < v (28 + j) else v (28 + j) < v (28 + b)) then some j else some b
def agS (v : Nat → Int32) (old : Bool) (n : Nat) : Option Nat := xfold (agF v old) 0 n none
theorem nI_n1 {k : Nat} (h : k < 2147483648) : ¬ nI k = -1 := by
  intro q
  have := nI_pos (n := k) h
  rw [q] at this
  exact this (by decide)
theorem c_young (hs : SC h 13 G v) (hG : G ≤ 8) (hC : PC h (pl sw) NL G w) : EV X mX5_youngest 0 0 0 [.ref 0, .null, .null] [] (Gb sw) h Q = Q (some (.int (encO (agS v false G)))) (Gb sw) h := by
  simp only [eX5_youngest_0, eX5_youngest_1, eX5_youngest_2, eX5_youngest_3, eX5_youngest_5, eX5_youngest_6, eX5_youngest_9, eX5_youngest_12, eX5_youngest_15, eX5_youngest_16, eX5_youngest_17, eX5_youngest_20, eX5_youngest_21, eX5_youngest_24, eX5_youngest_27, eX5_youngest_28, eX5_youngest_29, eX5_youngest_30, eX5_youngest_33, eX5_youngest_36, eX5_youngest_37, eX5_youngest_38, eX5_youngest_41, eX5_youngest_42, eX5_youngest_43, eX5_youngest_46, eX5_youngest_49, eX5_youngest_50, Option.toList_some, Option.toList_none, List.cons_append, List.nil_append, is01_0, is01_1, true_and]
  have key := (lp_foldI (f := agF v false) (fun i (s : Option Nat) => EV X mX5_youngest 0 0 4 [.ref 0, .int (encO s), .int (nI i)] [] (Gb sw) h Q) (fun _ s => ∀ b, s = some b → b < G) G 0 none (fun b hb => by cases hb) (fun i s h1 h2 hI => by
    have hi8 : i < 8 := by omega
    have hiG : i < G := by omega
    rw [eX5_youngest_4]
    cases s with
    | none =>
      simp only [eX5_youngest_0, eX5_youngest_1, eX5_youngest_2, eX5_youngest_3, eX5_youngest_5, eX5_youngest_6, eX5_youngest_9, eX5_youngest_12, eX5_youngest_15, eX5_youngest_16, eX5_youngest_17, eX5_youngest_20, eX5_youngest_21, eX5_youngest_24, eX5_youngest_27, eX5_youngest_28, eX5_youngest_29, eX5_youngest_30, eX5_youngest_33, eX5_youngest_36, eX5_youngest_37, eX5_youngest_38, eX5_youngest_41, eX5_youngest_42, eX5_youngest_43, eX5_youngest_46, eX5_youngest_49, eX5_youngest_50, Option.toList_some, Option.toList_none, List.cons_append, List.nil_append, is01_0, is01_1, true_and, pl_P, hC.1, encO, nI_1]
      rw [if_neg (nI_ge (by omega) (by omega)), if_pos trivial]
      exact ⟨rfl, fun b hb => by cases hb; exact hiG⟩
    | some b =>
      have hb : b < G := hI b rfl
      have hb8 : b < 8 := by omega
      simp only [eX5_youngest_0, eX5_youngest_1, eX5_youngest_2, eX5_youngest_3, eX5_youngest_5, eX5_youngest_6, eX5_youngest_9, eX5_youngest_12, eX5_youngest_15, eX5_youngest_16, eX5_youngest_17, eX5_youngest_20, eX5_youngest_21, eX5_youngest_24, eX5_youngest_27, eX5_youngest_28, eX5_youngest_29, eX5_youngest_30, eX5_youngest_33, eX5_youngest_36, eX5_youngest_37, eX5_youngest_38, eX5_youngest_41, eX5_youngest_42, eX5_youngest_43, eX5_youngest_46, eX5_youngest_49, eX5_youngest_50, Option.toList_some, Option.toList_none, List.cons_append, List.nil_append, is01_0, is01_1, true_and, pl_P, hC.1, encO, nI_1, cl8 hi8, cl8 hb8, inb8 hi8, inb8 hb8, Nat.le_refl, hs.a i hiG, hs.a b hb]
      rw [if_neg (nI_ge (by omega) (by omega)), if_neg (nI_n1 (by omega))]
      unfold agF
      by_cases q : v (28 + i) < v (28 + b)
      · have q2 : ¬ v (28 + b) ≤ v (28 + i) := by rw [Int32.not_le]; exact q
        simp only [q, q2, if_true, if_false]
        exact ⟨rfl, fun c hc => by cases hc; exact hiG⟩
      · have q2 : v (28 + b) ≤ v (28 + i) := by rw [← Int32.not_lt]; exact q
        simp only [q, q2, if_true, if_false]
        exact ⟨rfl, fun c hc => by cases hc; exact hb⟩)).1
  refine key.trans ?_
  rw [Nat.zero_add, eX5_youngest_4]
  simp only [eX5_youngest_0, eX5_youngest_1, eX5_youngest_2, eX5_youngest_3, eX5_youngest_5, eX5_youngest_6, eX5_youngest_9, eX5_youngest_12, eX5_youngest_15, eX5_youngest_16, eX5_youngest_17, eX5_youngest_20, eX5_youngest_21, eX5_youngest_24, eX5_youngest_27, eX5_youngest_28, eX5_youngest_29, eX5_youngest_30, eX5_youngest_33, eX5_youngest_36, eX5_youngest_37, eX5_youngest_38, eX5_youngest_41, eX5_youngest_42, eX5_youngest_43, eX5_youngest_46, eX5_youngest_49, eX5_youngest_50, Option.toList_some, Option.toList_none, List.cons_append, List.nil_append, is01_0, is01_1, true_and, pl_P, hC.1]
  rw [if_pos (nI_le (by omega) (by omega))]
  rfl
theorem c_oldest (hs : SC h 13 G v) (hG : G ≤ 8) (hC : PC h (pl sw) NL G w) : EV X mX5_oldest 0 0 0 [.ref 0, .null, .null] [] (Gb sw) h Q = Q (some (.int (encO (agS v true G)))) (Gb sw) h := by
  simp only [eX5_oldest_0, eX5_oldest_1, eX5_oldest_2, eX5_oldest_3, eX5_oldest_5, eX5_oldest_6, eX5_oldest_9, eX5_oldest_12, eX5_oldest_15, eX5_oldest_16, eX5_oldest_17, eX5_oldest_20, eX5_oldest_21, eX5_oldest_24, eX5_oldest_27, eX5_oldest_28, eX5_oldest_29, eX5_oldest_30, eX5_oldest_33, eX5_oldest_36, eX5_oldest_37, eX5_oldest_38, eX5_oldest_41, eX5_oldest_42, eX5_oldest_43, eX5_oldest_46, eX5_oldest_49, eX5_oldest_50, Option.toList_some, Option.toList_none, List.cons_append, List.nil_append, is01_0, is01_1, true_and]
  have key := (lp_foldI (f := agF v true) (fun i (s : Option Nat) => EV X mX5_oldest 0 0 4 [.ref 0, .int (encO s), .int (nI i)] [] (Gb sw) h Q) (fun _ s => ∀ b, s = some b → b < G) G 0 none (fun b hb => by cases hb) (fun i s h1 h2 hI => by
    have hi8 : i < 8 := by omega
    have hiG : i < G := by omega
    rw [eX5_oldest_4]
    cases s with
    | none =>
      simp only [eX5_oldest_0, eX5_oldest_1, eX5_oldest_2, eX5_oldest_3, eX5_oldest_5, eX5_oldest_6, eX5_oldest_9, eX5_oldest_12, eX5_oldest_15, eX5_oldest_16, eX5_oldest_17, eX5_oldest_20, eX5_oldest_21, eX5_oldest_24, eX5_oldest_27, eX5_oldest_28, eX5_oldest_29, eX5_oldest_30, eX5_oldest_33, eX5_oldest_36, eX5_oldest_37, eX5_oldest_38, eX5_oldest_41, eX5_oldest_42, eX5_oldest_43, eX5_oldest_46, eX5_oldest_49, eX5_oldest_50, Option.toList_some, Option.toList_none, List.cons_append, List.nil_append, is01_0, is01_1, true_and, pl_P, hC.1, encO, nI_1]
      rw [if_neg (nI_ge (by omega) (by omega)), if_pos trivial]
      exact ⟨rfl, fun b hb => by cases hb; exact hiG⟩
    | some b =>
      have hb : b < G := hI b rfl
      have hb8 : b < 8 := by omega
      simp only [eX5_oldest_0, eX5_oldest_1, eX5_oldest_2, eX5_oldest_3, eX5_oldest_5, eX5_oldest_6, eX5_oldest_9, eX5_oldest_12, eX5_oldest_15, eX5_oldest_16, eX5_oldest_17, eX5_oldest_20, eX5_oldest_21, eX5_oldest_24, eX5_oldest_27, eX5_oldest_28, eX5_oldest_29, eX5_oldest_30, eX5_oldest_33, eX5_oldest_36, eX5_oldest_37, eX5_oldest_38, eX5_oldest_41, eX5_oldest_42, eX5_oldest_43, eX5_oldest_46, eX5_oldest_49, eX5_oldest_50, Option.toList_some, Option.toList_none, List.cons_append, List.nil_append, is01_0, is01_1, true_and, pl_P, hC.1, encO, nI_1, cl8 hi8, cl8 hb8, inb8 hi8, inb8 hb8, Nat.le_refl, hs.a i hiG, hs.a b hb]
      rw [if_neg (nI_ge (by omega) (by omega)), if_neg (nI_n1 (by omega))]
      unfold agF
      by_cases q : v (28 + b) < v (28 + i)
      · have q2 : ¬ v (28 + i) ≤ v (28 + b) := by rw [Int32.not_le]; exact q
        simp only [q, q2, if_true, if_false]
        exact ⟨by trivial, fun c hc => by cases hc; exact hiG⟩
      · have q2 : v (28 + i) ≤ v (28 + b) := by rw [← Int32.not_lt]; exact q
        simp only [q, q2, if_true, if_false]
        exact ⟨by trivial, fun c hc => by cases hc; exact hb⟩)).1
  refine key.trans ?_
  rw [Nat.zero_add, eX5_oldest_4]
  simp only [eX5_oldest_0, eX5_oldest_1, eX5_oldest_2, eX5_oldest_3, eX5_oldest_5, eX5_oldest_6, eX5_oldest_9, eX5_oldest_12, eX5_oldest_15, eX5_oldest_16, eX5_oldest_17, eX5_oldest_20, eX5_oldest_21, eX5_oldest_24, eX5_oldest_27, eX5_oldest_28, eX5_oldest_29, eX5_oldest_30, eX5_oldest_33, eX5_oldest_36, eX5_oldest_37, eX5_oldest_38, eX5_oldest_41, eX5_oldest_42, eX5_oldest_43, eX5_oldest_46, eX5_oldest_49, eX5_oldest_50, Option.toList_some, Option.toList_none, List.cons_append, List.nil_append, is01_0, is01_1, true_and, pl_P, hC.1]
  rw [if_pos (nI_le (by omega) (by omega))]
  rfl
theorem n1lt : ((-1 : Int32) < 0) = True := by decide
theorem n1ge : (0 ≤ (-1 : Int32)) = False := by decide
theorem nIlt0 {k : Nat} (h : k < 2147483648) : (nI k < 0) = False := by
  apply eq_false
  exact nI_pos h
theorem nIge0 {k : Nat} (h : k < 2147483648) : (0 ≤ nI k) = True := by
  apply eq_true
  exact nI_pos' h
theorem m_byAge (hs : SM h 145 0 G v) (hG : G ≤ 8) (hM : PM h NL G w) (old : Bool) (z : Value) : EV X mX6_byAge 0 0 0 [.ref 140, .int (if old then 1 else 0), .null, .null, .null] [] (Gb sw) h Q = Q (some (.int (encO (agS v old G)))) (Gb sw) h := by
  simp only [eX6_byAge_0, eX6_byAge_1, eX6_byAge_2, eX6_byAge_3, eX6_byAge_5, eX6_byAge_6, eX6_byAge_9, eX6_byAge_12, eX6_byAge_13, eX6_byAge_16, eX6_byAge_17, eX6_byAge_20, eX6_byAge_21, eX6_byAge_24, eX6_byAge_26, eX6_byAge_27, eX6_byAge_28, eX6_byAge_29, eX6_byAge_30, eX6_byAge_33, eX6_byAge_35, eX6_byAge_36, eX6_byAge_37, eX6_byAge_38, eX6_byAge_41, eX6_byAge_44, eX6_byAge_45, eX6_byAge_48, eX6_byAge_50, eX6_byAge_51, eX6_byAge_52, eX6_byAge_53, eX6_byAge_54, eX6_byAge_57, eX6_byAge_59, eX6_byAge_60, eX6_byAge_61, eX6_byAge_62, eX6_byAge_65, eX6_byAge_66, eX6_byAge_69, eX6_byAge_70, eX6_byAge_72, eX6_byAge_74, eX6_byAge_77, eX6_byAge_78, eX6_byAge_81, eX6_byAge_82, eX6_byAge_83, eX6_byAge_86, eX6_byAge_89, eX6_byAge_90, Option.toList_some, Option.toList_none, List.cons_append, List.nil_append, is01_0, is01_1, true_and]
  have key : ∀ (m i : Nat) (s : Option Nat) (z : Value), (∀ b, s = some b → b < G) → i + m = G → EV X mX6_byAge 0 0 4 [.ref 140, .int (if old then 1 else 0), .int (encO s), .int (nI i), z] [] (Gb sw) h Q = Q (some (.int (encO (xfold (agF v old) i m s)))) (Gb sw) h := by
    intro m
    induction m with
    | zero =>
      intro i s z hI hi
      rw [eX6_byAge_4]
      simp only [eX6_byAge_0, eX6_byAge_1, eX6_byAge_2, eX6_byAge_3, eX6_byAge_5, eX6_byAge_6, eX6_byAge_9, eX6_byAge_12, eX6_byAge_13, eX6_byAge_16, eX6_byAge_17, eX6_byAge_20, eX6_byAge_21, eX6_byAge_24, eX6_byAge_26, eX6_byAge_27, eX6_byAge_28, eX6_byAge_29, eX6_byAge_30, eX6_byAge_33, eX6_byAge_35, eX6_byAge_36, eX6_byAge_37, eX6_byAge_38, eX6_byAge_41, eX6_byAge_44, eX6_byAge_45, eX6_byAge_48, eX6_byAge_50, eX6_byAge_51, eX6_byAge_52, eX6_byAge_53, eX6_byAge_54, eX6_byAge_57, eX6_byAge_59, eX6_byAge_60, eX6_byAge_61, eX6_byAge_62, eX6_byAge_65, eX6_byAge_66, eX6_byAge_69, eX6_byAge_70, eX6_byAge_72, eX6_byAge_74, eX6_byAge_77, eX6_byAge_78, eX6_byAge_81, eX6_byAge_82, eX6_byAge_83, eX6_byAge_86, eX6_byAge_89, eX6_byAge_90, Option.toList_some, Option.toList_none, List.cons_append, List.nil_append, is01_0, is01_1, true_and, hM.1]
      rw [if_pos (nI_le (by omega) (by omega))]
      rfl
    | succ m ih =>
      intro i s z hI hi
      have hi8 : i < 8 := by omega
      have hiG : i < G := by omega
      rw [eX6_byAge_4]
      show _ = Q (some (.int (encO (xfold (agF v old) (i + 1) m (agF v old i s))))) (Gb sw) h
      cases s with
      | none =>
        have e := ih (i + 1) (some i) (.int 1) (fun b hb => by cases hb; exact hiG) (by omega)
        simp only [eX6_byAge_0, eX6_byAge_1, eX6_byAge_2, eX6_byAge_3, eX6_byAge_5, eX6_byAge_6, eX6_byAge_9, eX6_byAge_12, eX6_byAge_13, eX6_byAge_16, eX6_byAge_17, eX6_byAge_20, eX6_byAge_21, eX6_byAge_24, eX6_byAge_26, eX6_byAge_27, eX6_byAge_28, eX6_byAge_29, eX6_byAge_30, eX6_byAge_33, eX6_byAge_35, eX6_byAge_36, eX6_byAge_37, eX6_byAge_38, eX6_byAge_41, eX6_byAge_44, eX6_byAge_45, eX6_byAge_48, eX6_byAge_50, eX6_byAge_51, eX6_byAge_52, eX6_byAge_53, eX6_byAge_54, eX6_byAge_57, eX6_byAge_59, eX6_byAge_60, eX6_byAge_61, eX6_byAge_62, eX6_byAge_65, eX6_byAge_66, eX6_byAge_69, eX6_byAge_70, eX6_byAge_72, eX6_byAge_74, eX6_byAge_77, eX6_byAge_78, eX6_byAge_81, eX6_byAge_82, eX6_byAge_83, eX6_byAge_86, eX6_byAge_89, eX6_byAge_90, Option.toList_some, Option.toList_none, List.cons_append, List.nil_append, is01_0, is01_1, true_and, hM.1, encO_n, n1lt, n1ge, if_true, if_false, nI_1]
        rw [if_neg (nI_ge (by omega) (by omega)), if_neg (by decide)]
        exact e
      | some b =>
        have hb : b < G := hI b rfl
        have hb8 : b < 8 := by omega
        simp only [eX6_byAge_0, eX6_byAge_1, eX6_byAge_2, eX6_byAge_3, eX6_byAge_5, eX6_byAge_6, eX6_byAge_9, eX6_byAge_12, eX6_byAge_13, eX6_byAge_16, eX6_byAge_17, eX6_byAge_20, eX6_byAge_21, eX6_byAge_24, eX6_byAge_26, eX6_byAge_27, eX6_byAge_28, eX6_byAge_29, eX6_byAge_30, eX6_byAge_33, eX6_byAge_35, eX6_byAge_36, eX6_byAge_37, eX6_byAge_38, eX6_byAge_41, eX6_byAge_44, eX6_byAge_45, eX6_byAge_48, eX6_byAge_50, eX6_byAge_51, eX6_byAge_52, eX6_byAge_53, eX6_byAge_54, eX6_byAge_57, eX6_byAge_59, eX6_byAge_60, eX6_byAge_61, eX6_byAge_62, eX6_byAge_65, eX6_byAge_66, eX6_byAge_69, eX6_byAge_70, eX6_byAge_72, eX6_byAge_74, eX6_byAge_77, eX6_byAge_78, eX6_byAge_81, eX6_byAge_82, eX6_byAge_83, eX6_byAge_86, eX6_byAge_89, eX6_byAge_90, Option.toList_some, Option.toList_none, List.cons_append, List.nil_append, is01_0, is01_1, true_and, hM.1, encO_s, nIlt0 (show b < 2147483648 by omega), nIge0 (show b < 2147483648 by omega), if_true, if_false, nI_1, la4, la12, la20, la28, la36, cl8_4 hi8, cl8_12 hi8, cl8_20 hi8, cl8_28 hi8, cl8_36 hi8, ib8_4 hi8, ib8_12 hi8, ib8_20 hi8, ib8_28 hi8, ib8_36 hi8, cl8_4 hb8, cl8_12 hb8, cl8_20 hb8, cl8_28 hb8, cl8_36 hb8, ib8_4 hb8, ib8_12 hb8, ib8_20 hb8, ib8_28 hb8, ib8_36 hb8, hs.a i hiG, hs.a b hb]
        rw [if_neg (nI_ge (by omega) (by omega))]
        have e1 := fun z => ih (i + 1) (some i) z (fun b hb => by cases hb; exact hiG) (by omega)
        have e2 := fun z => ih (i + 1) (some b) z (fun c hc => by cases hc; exact hb) (by omega)
        have n10 : ¬ (1 : Int32) = 0 := by decide
        cases old with
        | false =>
          rw [if_pos (by decide : (if false = true then (1 : Int32) else 0) = 0)]
          by_cases q : v (28 + i) < v (28 + b)
          · have q2 : ¬ v (28 + b) ≤ v (28 + i) := by rw [Int32.not_le]; exact q
            rw [if_neg q2, if_neg n10, show agF v false i (some b) = some i from if_pos q]
            exact e1 _
          · have q2 : v (28 + b) ≤ v (28 + i) := by rw [← Int32.not_lt]; exact q
            rw [if_pos q2, show agF v false i (some b) = some b from if_neg q]
            exact e2 _
        | true =>
          rw [if_neg (by decide)]
          by_cases q : v (28 + b) < v (28 + i)
          · have q2 : ¬ v (28 + i) ≤ v (28 + b) := by rw [Int32.not_le]; exact q
            rw [if_neg q2, if_neg n10, show agF v true i (some b) = some i from if_pos q]
            exact e1 _
          · have q2 : v (28 + i) ≤ v (28 + b) := by rw [← Int32.not_lt]; exact q
            rw [if_pos q2, show agF v true i (some b) = some b from if_neg q]
            exact e2 _
  exact key G 0 none .null (fun b hb => by cases hb) (by omega)
end RD
