theorem k_out {x : Int32} (c0 : ¬ x = 0) (c1 : ¬ x = 1) (c2 : ¬ x = 2) (c3 : ¬ x = 3) (c4 : ¬ x = 4) (c5 : ¬ x = 5) (c6 : ¬ x = 6) (c7 : ¬ x = 7) (c8 : ¬ x = 8) (c9 : ¬ x = 9) (c10 : ¬ x = 10) (c11 : ¬ x = 11) (c12 : ¬ x = 12) (c13 : ¬ x = 13) (c14 : ¬ x = 14) (c15 : ¬ x = 15) (c16 : ¬ x = 16) (c17 : ¬ x = 17) (c18 : ¬ x = 18) (c19 : ¬ x = 19) (c20 : ¬ x = 20) (c21 : ¬ x = 21) (c22 : ¬ x = 22) (c23 : ¬ x = 23) (c24 : ¬ x = 24) (c25 : ¬ x = 25) (c26 : ¬ x = 26) (c27 : ¬ x = 27) (c28 : ¬ x = 28) (c29 : ¬ x = 29) (c30 : ¬ x = 30) (c31 : ¬ x = 31) (c32 : ¬ x = 32) (c33 : ¬ x = 33) (c34 : ¬ x = 34) (c35 : ¬ x = 35) (c36 : ¬ x = 36) : x.toInt < 0 ∨ 36 < x.toInt := by
  by_cases q : x.toInt < 0 ∨ 36 < x.toInt
  · exact q
  · exfalso
    have e : ∀ n : Int32, x.toInt = n.toInt → x = n := fun n q => Int32.toInt_inj.mp q
    have hb : 0 ≤ x.toInt ∧ x.toInt ≤ 36 := by omega
    have d0 : ¬ x.toInt = 0 := fun q => c0 (e 0 q)
    have d1 : ¬ x.toInt = 1 := fun q => c1 (e 1 q)
    have d2 : ¬ x.toInt = 2 := fun q => c2 (e 2 q)
    have d3 : ¬ x.toInt = 3 := fun q => c3 (e 3 q)
    have d4 : ¬ x.toInt = 4 := fun q => c4 (e 4 q)
    have d5 : ¬ x.toInt = 5 := fun q => c5 (e 5 q)
    have d6 : ¬ x.toInt = 6 := fun q => c6 (e 6 q)
    have d7 : ¬ x.toInt = 7 := fun q => c7 (e 7 q)
    have d8 : ¬ x.toInt = 8 := fun q => c8 (e 8 q)
    have d9 : ¬ x.toInt = 9 := fun q => c9 (e 9 q)
    have d10 : ¬ x.toInt = 10 := fun q => c10 (e 10 q)
    have d11 : ¬ x.toInt = 11 := fun q => c11 (e 11 q)
    have d12 : ¬ x.toInt = 12 := fun q => c12 (e 12 q)
    have d13 : ¬ x.toInt = 13 := fun q => c13 (e 13 q)
    have d14 : ¬ x.toInt = 14 := fun q => c14 (e 14 q)
    have d15 : ¬ x.toInt = 15 := fun q => c15 (e 15 q)
    have d16 : ¬ x.toInt = 16 := fun q => c16 (e 16 q)
    have d17 : ¬ x.toInt = 17 := fun q => c17 (e 17 q)
    have d18 : ¬ x.toInt = 18 := fun q => c18 (e 18 q)
    have d19 : ¬ x.toInt = 19 := fun q => c19 (e 19 q)
    have d20 : ¬ x.toInt = 20 := fun q => c20 (e 20 q)
    have d21 : ¬ x.toInt = 21 := fun q => c21 (e 21 q)
    have d22 : ¬ x.toInt = 22 := fun q => c22 (e 22 q)
    have d23 : ¬ x.toInt = 23 := fun q => c23 (e 23 q)
    have d24 : ¬ x.toInt = 24 := fun q => c24 (e 24 q)
    have d25 : ¬ x.toInt = 25 := fun q => c25 (e 25 q)
    have d26 : ¬ x.toInt = 26 := fun q => c26 (e 26 q)
    have d27 : ¬ x.toInt = 27 := fun q => c27 (e 27 q)
    have d28 : ¬ x.toInt = 28 := fun q => c28 (e 28 q)
    have d29 : ¬ x.toInt = 29 := fun q => c29 (e 29 q)
    have d30 : ¬ x.toInt = 30 := fun q => c30 (e 30 q)
    have d31 : ¬ x.toInt = 31 := fun q => c31 (e 31 q)
    have d32 : ¬ x.toInt = 32 := fun q => c32 (e 32 q)
    have d33 : ¬ x.toInt = 33 := fun q => c33 (e 33 q)
    have d34 : ¬ x.toInt = 34 := fun q => c34 (e 34 q)
    have d35 : ¬ x.toInt = 35 := fun q => c35 (e 35 q)
    have d36 : ¬ x.toInt = 36 := fun q => c36 (e 36 q)
    omega
section SWITCH
variable {xs : Nat → Int32} {L j : Nat} {Q : Option Value → xG → xH → Prop}
theorem k_sw {sw : Bool} {h : xH} (x : Int32) (hL : L ≤ 320) (hj : j + 5 ≤ L) (hR : Rel sw h) (K : ∀ (sw : Bool) (h : xH), Rel sw h → EV (xs, L) mL_law 162 3499 1173 [.ref 1000, .ref 0, .ref 140, .int (nI j)] [] (Gb sw) h Q) : EV (xs, L) mL_law 162 3499 32 [.ref 1000, .ref 0, .ref 140, .int (nI j)] [.int x] (Gb sw) h Q := by
  by_cases c0 : x = 0
  · rw [c0, eL_law_32_c0]; exact kc_0 hL hj hR K
  by_cases c1 : x = 1
  · rw [c1, eL_law_32_c1]; exact kc_1 hL hj hR K
  by_cases c2 : x = 2
  · rw [c2, eL_law_32_c2]; exact kc_2 hL hj hR K
  by_cases c3 : x = 3
  · rw [c3, eL_law_32_c3]; exact kc_3 hL hj hR K
  by_cases c4 : x = 4
  · rw [c4, eL_law_32_c4]; exact kc_4 hL hj hR K
  by_cases c5 : x = 5
  · rw [c5, eL_law_32_c5]; exact kc_5 hL hj hR K
  by_cases c6 : x = 6
  · rw [c6, eL_law_32_c6]; exact kc_6 hL hj hR K
  by_cases c7 : x = 7
  · rw [c7, eL_law_32_c7]; exact kc_7 hL hj hR K
  by_cases c8 : x = 8
  · rw [c8, eL_law_32_c8]; exact kc_8 hL hj hR K
  by_cases c9 : x = 9
  · rw [c9, eL_law_32_c9]; exact kc_9 hL hj hR K
  by_cases c10 : x = 10
  · rw [c10, eL_law_32_c10]; exact kc_10 hL hj hR K
  by_cases c11 : x = 11
  · rw [c11, eL_law_32_c11]; exact kc_11 hL hj hR K
  by_cases c12 : x = 12
  · rw [c12, eL_law_32_c12]; exact kc_12 hL hj hR K
  by_cases c13 : x = 13
  · rw [c13, eL_law_32_c13]; exact kc_13 hL hj hR K
  by_cases c14 : x = 14
  · rw [c14, eL_law_32_c14]; exact kc_14 hL hj hR K
  by_cases c15 : x = 15
  · rw [c15, eL_law_32_c15]; exact kc_15 hL hj hR K
  by_cases c16 : x = 16
  · rw [c16, eL_law_32_c16]; exact kc_16 hL hj hR K
  by_cases c17 : x = 17
  · rw [c17, eL_law_32_c17]; exact kc_17 hL hj hR K
  by_cases c18 : x = 18
  · rw [c18, eL_law_32_c18]; exact kc_18 hL hj hR K
  by_cases c19 : x = 19
  · rw [c19, eL_law_32_c19]; exact kc_19 hL hj hR K
  by_cases c20 : x = 20
  · rw [c20, eL_law_32_c20]; exact kc_20 hL hj hR K
  by_cases c21 : x = 21
  · rw [c21, eL_law_32_c21]; exact kc_21 hL hj hR K
  by_cases c22 : x = 22
  · rw [c22, eL_law_32_c22]; exact kc_22 hL hj hR K
  by_cases c23 : x = 23
  · rw [c23, eL_law_32_c23]; exact kc_23 hL hj hR K
  by_cases c24 : x = 24
  · rw [c24, eL_law_32_c24]; exact kc_24 hL hj hR K
  by_cases c25 : x = 25
  · rw [c25, eL_law_32_c25]; exact kc_25 hL hj hR K
  by_cases c26 : x = 26
  · rw [c26, eL_law_32_c26]; exact kc_26 hL hj hR K
  by_cases c27 : x = 27
  · rw [c27, eL_law_32_c27]; exact kc_27 hL hj hR K
  by_cases c28 : x = 28
  · rw [c28, eL_law_32_c28]; exact kc_28 hL hj hR K
  by_cases c29 : x = 29
  · rw [c29, eL_law_32_c29]; exact kc_29 hL hj hR K
  by_cases c30 : x = 30
  · rw [c30, eL_law_32_c30]; exact kc_30 hL hj hR K
  by_cases c31 : x = 31
  · rw [c31, eL_law_32_c31]; exact kc_31 hL hj hR K
  by_cases c32 : x = 32
  · rw [c32, eL_law_32_c32]; exact kc_32 hL hj hR K
  by_cases c33 : x = 33
  · rw [c33, eL_law_32_c33]; exact kc_33 hL hj hR K
  by_cases c34 : x = 34
  · rw [c34, eL_law_32_c34]; exact kc_34 hL hj hR K
  by_cases c35 : x = 35
  · rw [c35, eL_law_32_c35]; exact kc_35 hL hj hR K
  by_cases c36 : x = 36
  · rw [c36, eL_law_32_c36]; exact kc_36 hL hj hR K
  rw [eL_law_32_d _ _ (k_out c0 c1 c2 c3 c4 c5 c6 c7 c8 c9 c10 c11 c12 c13 c14 c15 c16 c17 c18 c19 c20 c21 c22 c23 c24 c25 c26 c27 c28 c29 c30 c31 c32 c33 c34 c35 c36)]
  exact K _ _ hR
end SWITCH
