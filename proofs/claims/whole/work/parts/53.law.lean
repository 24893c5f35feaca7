/-! the law's loop, and its end -/
theorem k_sub : ∀ L, L < 321 → (Int32.ofNat L - 5).toInt = (L : Int) - 5 := by decide +kernel
theorem k_end {L j : Nat} (hc : ¬ j + 5 ≤ L) (hL : L ≤ 320) (hj : j ≤ 325) : Int32.ofNat L - 5 < nI j := by
  rw [Int32.lt_iff_toInt_lt, k_sub L (by omega), nI_toInt (by omega)]
  omega
theorem k_go {L j : Nat} (hc : j + 5 ≤ L) (hL : L ≤ 320) : ¬ Int32.ofNat L - 5 < nI j := by
  rw [Int32.lt_iff_toInt_lt, k_sub L (by omega), nI_toInt (by omega)]
  omega
section LAWL
variable {xs : Nat → Int32} {L : Nat}
theorem k_loop (hL : L ≤ 320) : ∀ (n j : Nat) (sw : Bool) (h : xH), L + 5 ≤ n + j → j ≤ L + 5 → Rel sw h → EV (xs, L) mL_law 162 3499 18 [.ref 1000, .ref 0, .ref 140, .int (nI j)] [] (Gb sw) h (fun r _ _ => r = some (.int 1)) := by
  intro n
  induction n with
  | zero =>
    intro j sw h h1 h2 hR
    rw [eL_law_18]
    simp only [eL_law_19, eL_law_20, eL_law_21, eL_law_22, eL_law_23]
    rw [if_pos (k_end (by omega) (by omega) (by omega))]
    simp only [eL_law_1179, eL_law_1180, is01_1, true_and]
  | succ n ih =>
    intro j sw h h1 h2 hR
    rw [eL_law_18]
    simp only [eL_law_19, eL_law_20, eL_law_21, eL_law_22, eL_law_23]
    by_cases c : j + 5 ≤ L
    · rw [if_neg (k_go c hL)]
      simp only [eL_law_26, eL_law_27, eL_law_28, eL_law_29, eL_law_31, sc_0 hL c, si_0 hL c, true_and]
      refine k_sw _ hL c hR (fun sw h hR => ?_)
      rw [eL_law_1173, eL_law_1176]
      rw [show nI j + 5 = nI (j + 5) from nI_add j 5]
      exact ih (j + 5) sw h (by omega) (by omega) hR
    · rw [if_pos (k_end (by omega) (by omega) (by omega))]
      simp only [eL_law_1179, eL_law_1180, is01_1, true_and]
end LAWL
theorem law_all (xs : Nat → Int32) {L : Nat} (hL : L ≤ 320) : xLaw xs L := by
  obtain ⟨S, e, hn, hH, hG⟩ := ckO_spec ini_ck
  obtain ⟨s1, s2⟩ := xto_run (xs, L) 18 600 mL_law 0 _ _ _ 0 0 _ e
  have hs : spp S := s1 ⟨Nat.zero_le _, fun _ _ _ => rfl⟩
  have hg := ckG_eq hG hs.2
  obtain ⟨f, r, g', h', hr, hq⟩ := k_loop (xs := xs) hL (L + 5) 0 false S.2.1 (by omega) (by omega) (Rel_0 hH)
  have eS : S = (Gb false, S.2.1, 162) := by rw [← hg, ← hn]
  refine ⟨600 + f, (g', h', 162), ?_⟩
  subst hq
  refine s2 f _ ?_
  show xrun (xs, L) f mL_law 18 [.ref 1000, .ref 0, .ref 140, .int 0] [] S 162 3499 = _
  rw [eS]
  exact hr
