/-! the relation at the start -/
theorem ckO_spec {o : Option (List Value × List Value × xS × Nat × Nat)} (h : ckO o = true) : ∃ S : xS, o = some ([.ref 1000, .ref 0, .ref 140, .int 0], [], S, 162, 3499) ∧ S.2.2 = 162 ∧ ckH S.2.1 = true ∧ ckG S.1 = true := by
  unfold ckO at h
  split at h
  · rename_i a b c d S kc ks
    simp only [Bool.and_eq_true, decide_eq_true_eq] at h
    obtain ⟨⟨⟨⟨⟨⟨⟨⟨rfl, rfl⟩, rfl⟩, rfl⟩, h1⟩, rfl⟩, rfl⟩, h2⟩, h3⟩ := h
    exact ⟨S, rfl, h1, h2, h3⟩
  · cases h
theorem ckH_at {h : xH} (H : ckH h = true) {a k : Nat} {v : Int32} (hm : (a, k, v) ∈ ckL) : h a k = v := of_decide_eq_true (List.all_eq_true.mp H (a, k, v) hm)
theorem ckG_at {g : xG} (H : ckG g = true) {a k : Nat} (ha : a < 162) (hk : k < 45) : g a k = Gb false a k := Nat.eq_of_beq_eq_true (List.all_eq_true.mp (List.all_eq_true.mp H a (List.mem_range.mpr ha)) k (List.mem_range.mpr hk))
theorem xGT_out : ∀ r ∈ xGT, r.length ≤ 45 := by decide +kernel
theorem xGT_len : xGT.length = 162 := by decide +kernel
theorem Gb_out {a k : Nat} (h : 162 ≤ a ∨ 45 ≤ k) : Gb false a k = 0 := by
  unfold Gb
  rw [if_neg (by omega), if_neg (by omega)]
  by_cases ha : a < 162
  · have hk : 45 ≤ k := by omega
    have e : xGT.getD a [] = xGT[a]'(by rw [xGT_len]; exact ha) := by simp [List.getD, xGT_len, ha]
    have hm := xGT_out (xGT.getD a []) (by rw [e]; exact List.getElem_mem _)
    rw [List.getD_eq_getElem?_getD, List.getElem?_eq_none (by omega)]
    rfl
  · have e : xGT.getD a [] = [] := by
      rw [List.getD_eq_getElem?_getD, List.getElem?_eq_none (by rw [xGT_len]; omega)]
      rfl
    rw [e]
    rfl
theorem ckG_eq {g : xG} (H : ckG g = true) (hs : ∀ a k, 162 ≤ a ∨ 45 ≤ k → g a k = 0) : g = Gb false := by
  funext a k
  by_cases q : 162 ≤ a ∨ 45 ≤ k
  · rw [hs a k q, Gb_out q]
  · exact ckG_at H (by omega) (by omega)
theorem Rel_0 {h : xH} (H : ckH h = true) : Rel false h := by
  have z : ∀ {a k : Nat} {v : Int32}, (a, k, v) ∈ ckL → h a k = v := fun hm => ckH_at H hm
  have zz : nI 0 = 0 := nI_0
  have z0 : (0 : Int32).toNatClampNeg = 0 := by decide
  refine ⟨0, 0, w00, fun _ => 0, ⟨DW_00.1, ?_, ?_, ?_, ?_, ?_⟩, ?_, ?_, ?_, ?_, ?_, ?_, ?_, ?_⟩
  · refine ⟨⟨0, by omega, zz.symm, fun k hk => by omega, fun k k' hk => by omega, fun q hq => by omega⟩, fun j hj => Or.inl rfl, fun j _ _ => rfl, fun j hj => by omega, by decide, by decide, ?_, ?_⟩
    · rw [w00_n (by omega)]; decide
    · rw [w00_n (by omega)]; decide
  · refine ⟨⟨?_, ?_, ?_, ?_, ?_, ?_⟩, fun k hk => by omega, fun k hk => by omega⟩
    · rw [w00_n (by omega)]; exact z (by decide)
    · rw [w00_n (by omega)]; exact z (by decide)
    · rw [w00_n (by omega)]; exact z (by decide)
    · exact z (by decide)
    · rw [zz]; exact z (by decide)
    · rw [zz]; exact z (by decide)
  · refine ⟨⟨?_, ?_, ?_, ?_, ?_⟩, fun k hk => by omega, fun k hk => by omega⟩
    · rw [w00_n (by omega)]; exact z (by decide)
    · rw [w00_n (by omega)]; exact z (by decide)
    · rw [w00_n (by omega), if_pos rfl]; exact z (by decide)
    · rw [zz]; exact z (by decide)
    · rw [zz]; exact z (by decide)
  · refine ⟨⟨z (by decide), z (by decide), z (by decide), z (by decide)⟩, fun k hk => ?_, fun j hj => ?_, fun j hj => by omega⟩
    · rw [z0] at hk; omega
    · have : ∀ j, j < 8 → (17, j, (0 : Int32)) ∈ ckL := by decide
      exact z (this j hj)
  · refine ⟨⟨z (by decide), z (by decide), z (by decide), z (by decide)⟩, fun k hk => ?_, fun j hj => by omega⟩
    rw [z0] at hk; omega
  · exact ⟨0, by omega, by rw [zz]; exact z (by decide), by rw [zz]; exact z (by decide), fun k hk => by omega⟩
  · show h 1 5 = h 140 13
    rw [z (a := 1) (k := 5) (v := -1) (by decide), z (a := 140) (k := 13) (v := -1) (by decide)]
  · exact ⟨0, fun _ => 0, fun _ => 0, fun _ => false, by omega, by rw [zz]; exact z (by decide), by rw [zz]; exact z (by decide), fun k hk => by omega⟩
  · exact ⟨0, fun _ => 0, fun _ => 0, by omega, by rw [zz]; exact z (by decide), by rw [zz]; exact z (by decide), fun k hk => by omega⟩
  · exact ⟨0, fun _ => 0, by omega, by rw [zz]; exact z (by decide), by rw [zz]; exact z (by decide), fun k hk => by omega⟩
  · exact ⟨0, 0, by omega, by omega, by rw [zz]; exact z (by decide), by rw [zz]; exact z (by decide), by rw [zz]; exact z (by decide), fun i hi => by omega⟩
  · intro i hi
    have q : ∀ i, i < 2 → (131, i, (0 : Int32)) ∈ ckL ∧ (161, i, (0 : Int32)) ∈ ckL := by decide
    have e1 := z (q i hi).1
    have e2 := z (q i hi).2
    refine ⟨by rw [e1, e2], by rw [e1]; exact Or.inl rfl, fun c => ?_⟩
    rw [e1] at c
    exact absurd c (by decide)
  · refine ⟨?_, ?_⟩
    · rw [z (a := 0) (k := 9) (v := 0) (by decide), z (a := 140) (k := 10) (v := 0) (by decide)]
    · rw [z (a := 0) (k := 9) (v := 0) (by decide)]; decide
