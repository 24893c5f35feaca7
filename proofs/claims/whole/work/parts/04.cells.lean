/-! the abstract cells on the JVM's heap -/
def xv (base b : Nat) : Value → Value
  | .ref a => .ref (if a = 1000 then b else base + a)
  | v => v
def xrf (base g : Nat) : Option Nat := match g with
  | 0 => none
  | j + 1 => some (base + j)
def xfld (base : Nat) (S : xS) (a k : Nat) : Value := if xfk (xk a) k = 2 then va_rf (xrf base (S.1 a k)) else .int (S.2.1 a k)
def xE (base : Nat) (T : ClassId × ClassId × ClassId) (S : xS) (a : Nat) : va_E := if xk a = 7 then .inl (T.1, xz a, .inl (S.2.1 a)) else if xk a = 8 then .inl (T.2.1, xz a, .inl (S.2.1 a)) else if xk a = 9 then .inl (T.2.2, xz a, .inr (.inr (.inr (.inr (fun k => xrf base (S.1 a k)))))) else .inr (xk a, (List.range (xz a)).map (xfld base S a))
def xW (base : Nat) (T : ClassId × ClassId × ClassId) (S : xS) : va_W := (List.range S.2.2).map (fun a => (base + a, xE base T S a))
theorem xW_at {base : Nat} {T : ClassId × ClassId × ClassId} {S : xS} {a : Nat} (h : a < S.2.2) : (xW base T S)[a]? = some (base + a, xE base T S a) := by
  simp [xW, List.getElem?_map, List.getElem?_range h]
theorem xW_in {base : Nat} {T : ClassId × ClassId × ClassId} {S : xS} {k : Nat} {q : Nat × va_E} (h : (xW base T S)[k]? = some q) : k < S.2.2 ∧ q = (base + k, xE base T S k) := by
  have hl : k < S.2.2 := by
    have := (List.getElem?_eq_some_iff.mp h).1
    simpa [xW] using this
  refine ⟨hl, ?_⟩
  rw [xW_at hl] at h
  exact (Option.some.inj h).symm
theorem xW_D {base : Nat} {T : ClassId × ClassId × ClassId} {S : xS} : va_D (fun q => base ≤ q) (xW base T S) := by
  refine ⟨fun i j p q hi hj hpq => ?_, fun k q hk => ?_⟩
  · obtain ⟨-, rfl⟩ := xW_in hi
    obtain ⟨-, rfl⟩ := xW_in hj
    simp only at hpq
    omega
  · obtain ⟨-, rfl⟩ := xW_in hk
    exact Nat.le_add_right _ _
theorem xE_eq {base : Nat} {T : ClassId × ClassId × ClassId} {S S' : xS} {a : Nat} (h1 : S'.1 a = S.1 a) (h2 : S'.2.1 a = S.2.1 a) : xE base T S' a = xE base T S a := by
  have h3 : xfld base S' a = xfld base S a := by
    funext k
    simp only [xfld, h1, h2]
  simp only [xE, h1, h2, h3]
theorem xW_set {base : Nat} {T : ClassId × ClassId × ClassId} {S S' : xS} {a : Nat} (hn : S'.2.2 = S.2.2) (h : ∀ q, q ≠ a → S'.1 q = S.1 q ∧ S'.2.1 q = S.2.1 q) : (xW base T S).set a (base + a, xE base T S' a) = xW base T S' := by
  apply List.ext_getElem?
  intro k
  by_cases hk : k < S.2.2
  · by_cases e : k = a
    · subst e
      rw [List.getElem?_set_self (by simpa [xW] using hk), xW_at (by rw [hn]; exact hk)]
    · rw [List.getElem?_set_ne (Ne.symm e), xW_at hk, xW_at (by rw [hn]; exact hk), xE_eq (h k e).1 (h k e).2]
  · rw [List.getElem?_eq_none (by simpa [xW] using hk), List.getElem?_eq_none (by simpa [xW, hn] using hk)]
theorem xW_push {base : Nat} {T : ClassId × ClassId × ClassId} {S S' : xS} (hn : S'.2.2 = S.2.2 + 1) (h : ∀ q, q < S.2.2 → S'.1 q = S.1 q ∧ S'.2.1 q = S.2.1 q) : xW base T S ++ [(base + S.2.2, xE base T S' S.2.2)] = xW base T S' := by
  unfold xW
  rw [hn, List.range_succ, List.map_append]
  congr 1
  apply List.map_congr_left
  intro q hq
  rw [xE_eq (h q (List.mem_range.mp hq)).1 (h q (List.mem_range.mp hq)).2]
theorem xp_s {α : Type} (f : Nat → α) (k : Nat) (v : α) : xp f k v k = v := if_pos rfl
theorem xp_n {α : Type} (f : Nat → α) {k j : Nat} (v : α) (h : j ≠ k) : xp f k v j = f j := if_neg h
theorem xu_n {α : Type} (f : Nat → Nat → α) {a b : Nat} (k : Nat) (v : α) (h : b ≠ a) : xu f a k v b = f b := if_neg h
theorem xu_s {α : Type} (f : Nat → Nat → α) (a k : Nat) (v : α) : xu f a k v a = xp (f a) k v := if_pos rfl
theorem xlay_ok : ∀ a, a < 162 → (xk a < 7 ∧ xz a = (xCl (xk a)).2.2) ∨ xk a = 7 ∨ xk a = 8 ∨ xk a = 9 := by decide +kernel
theorem xlay_z : ∀ a, a < 162 → xz a ≤ 1000 := by decide +kernel
theorem xfk_ok : ∀ ci, ci < 7 → ∀ k, k < (xCl ci).2.2 → xfk ci k ≤ 2 := by decide +kernel
theorem xE_obj {base : Nat} {T : ClassId × ClassId × ClassId} {S : xS} {a ci : Nat} (h : xk a = ci) (hc : ci < 7) : xE base T S a = .inr (ci, (List.range (xz a)).map (xfld base S a)) := by
  unfold xE
  rw [if_neg (by omega), if_neg (by omega), if_neg (by omega), h]
theorem xE_7 {base : Nat} {T : ClassId × ClassId × ClassId} {S : xS} {a : Nat} (h : xk a = 7) : xE base T S a = .inl (T.1, xz a, .inl (S.2.1 a)) := by
  unfold xE
  rw [if_pos h]
theorem xE_8 {base : Nat} {T : ClassId × ClassId × ClassId} {S : xS} {a : Nat} (h : xk a = 8) : xE base T S a = .inl (T.2.1, xz a, .inl (S.2.1 a)) := by
  unfold xE
  rw [if_neg (by omega), if_pos h]
theorem xE_9 {base : Nat} {T : ClassId × ClassId × ClassId} {S : xS} {a : Nat} (h : xk a = 9) : xE base T S a = .inl (T.2.2, xz a, .inr (.inr (.inr (.inr (fun k => xrf base (S.1 a k)))))) := by
  unfold xE
  rw [if_neg (by omega), if_neg (by omega), if_pos h]
/-! locals -/
def xLR (base b : Nat) (Ls : Array Slot) (ls : List Value) : Prop := Ls.size = ls.length ∧ lv_wf Ls ∧ ∀ (i : Nat) (v : Value), ls[i]? = some v → v ≠ .null → Ls[i]? = some (.val (xv base b v))
def xll (base b : Nat) (ls : List Value) : List (Nat × Value) := (List.range ls.length).filterMap (fun i => if ls.getD i .null = .null then none else some (i, xv base b (ls.getD i .null)))
theorem xLR.has {base b : Nat} {Ls : Array Slot} {ls : List Value} (h : xLR base b Ls ls) : lv_has Ls ls.length (xll base b ls) := by
  refine ⟨h.1, h.2.1, fun q hq => ?_⟩
  obtain ⟨i, hi, hq⟩ := List.mem_filterMap.mp hq
  have hi := List.mem_range.mp hi
  split at hq
  · cases hq
  · rename_i hn
    cases hq
    refine h.2.2 i _ ?_ hn
    rw [List.getD_eq_getElem?_getD, List.getElem?_eq_getElem hi]
    rfl
theorem xll_mem {base b : Nat} {ls : List Value} {i : Nat} {v : Value} (h : ls[i]? = some v) (hn : v ≠ .null) : (i, xv base b v) ∈ xll base b ls := by
  refine List.mem_filterMap.mpr ⟨i, List.mem_range.mpr (List.getElem?_eq_some_iff.mp h).1, ?_⟩
  rw [List.getD_eq_getElem?_getD, h]
  exact if_neg hn
theorem xv_cat (base b : Nat) (v : Value) : (xv base b v).category = v.category := by cases v <;> rfl
theorem xlg_cat {v : Value} (h : xlg v = false) : v.category = 1 := by cases v <;> first | rfl | cases h
theorem xlg_cat' {v : Value} (h : v.category = 2) : xlg v = true := by cases v <;> first | rfl | cases h
theorem xLR.put {base b : Nat} {Ls : Array Slot} {ls : List Value} {i : Nat} {v : Value} (hi : i < ls.length) (h0 : ∀ w, ls[i - 1]? = some w → xlg w = false)
    (h : lv_has Ls ls.length ((i, xv base b v) :: (xll base b ls).filter (fun q => !(q.1 == i) && !(q.1 + 1 == i && q.2.category == 2)))) : xLR base b Ls (ls.set i v) := by
  refine ⟨by rw [List.length_set]; exact h.1, h.2.1, fun j w hj hw => ?_⟩
  by_cases e : j = i
  · subst e
    rw [List.getElem?_set_self hi] at hj
    cases hj
    exact h.2.2 (j, xv base b v) List.mem_cons_self
  · rw [List.getElem?_set_ne (Ne.symm e)] at hj
    refine h.2.2 (j, xv base b w) (List.mem_cons_of_mem _ (List.mem_filter.mpr ⟨xll_mem hj hw, ?_⟩))
    have h1 : (j == i) = false := by simpa using e
    by_cases e2 : j + 1 = i
    · have h2 : xlg w = false := h0 w (by rw [← e2]; simpa using hj)
      have h3 : ((xv base b w).category == 2) = false := by rw [xv_cat, xlg_cat h2]; rfl
      simp only [h1, h3, Bool.and_false, Bool.not_false, Bool.and_self]
    · have h2 : (j + 1 == i) = false := by simpa using e2
      simp only [h1, h2, Bool.false_and, Bool.not_false, Bool.and_self]
theorem xLR.put2 {base b : Nat} {Ls : Array Slot} {ls : List Value} {i : Nat} {x : Int64} (hi : i + 1 < ls.length) (h0 : ∀ w, ls[i - 1]? = some w → xlg w = false)
    (h : lv_has Ls ls.length ((i, Value.long x) :: (xll base b ls).filter (fun q => !(q.1 == i) && (!(q.1 == i + 1) && !(q.1 + 1 == i && q.2.category == 2))))) : xLR base b Ls ((ls.set i (.long x)).set (i + 1) .null) := by
  refine ⟨by rw [List.length_set, List.length_set]; exact h.1, h.2.1, fun j w hj hw => ?_⟩
  by_cases e : j = i + 1
  · subst e
    rw [List.getElem?_set_self (by rw [List.length_set]; exact hi)] at hj
    cases hj
    exact absurd rfl hw
  · rw [List.getElem?_set_ne (Ne.symm e)] at hj
    by_cases e1 : j = i
    · subst e1
      rw [List.getElem?_set_self (by omega)] at hj
      cases hj
      exact h.2.2 (j, Value.long x) List.mem_cons_self
    · rw [List.getElem?_set_ne (Ne.symm e1)] at hj
      refine h.2.2 (j, xv base b w) (List.mem_cons_of_mem _ (List.mem_filter.mpr ⟨xll_mem hj hw, ?_⟩))
      have h1 : (j == i) = false := by simpa using e1
      have h2 : (j == i + 1) = false := by simpa using e
      by_cases e2 : j + 1 = i
      · have h2' : xlg w = false := h0 w (by rw [← e2]; simpa using hj)
        have h3 : ((xv base b w).category == 2) = false := by rw [xv_cat, xlg_cat h2']; rfl
        simp only [h1, h2, h3, Bool.and_false, Bool.not_false, Bool.and_self]
      · have h3 : (j + 1 == i) = false := by simpa using e2
        simp only [h1, h2, h3, Bool.false_and, Bool.not_false, Bool.and_self]
/-- at a method's entry -/
theorem xLR_args (base b : Nat) : ∀ (as : List Value) (pre : List Value) (j : Nat) (v : Value), (pre ++ xfl as)[j]? = some v → v ≠ .null → pre.length ≤ j → (j, xv base b v) ∈ lv_args pre.length (as.map (xv base b))
  | [], pre, j, v, h, _, hj => by
    simp only [xfl, List.flatMap_nil, List.append_nil] at h
    exact absurd (List.getElem?_eq_some_iff.mp h).1 (by omega)
  | a :: as, pre, j, v, h, hn, hj => by
    have hfl : xfl (a :: as) = (if xlg a then [a, .null] else [a]) ++ xfl as := rfl
    rw [hfl, ← List.append_assoc] at h
    by_cases e : j = pre.length
    · subst e
      have hv : v = a := by
        by_cases hl : xlg a = true
        · rw [if_pos hl] at h
          simpa using h.symm
        · rw [if_neg hl] at h
          simpa using h.symm
      subst hv
      exact List.mem_cons_self
    · refine List.mem_cons_of_mem _ ?_
      by_cases hl : xlg a = true
      · rw [if_pos hl] at h
        have hc : (xv base b a).category = 2 := by rw [xv_cat]; cases a <;> first | rfl | cases hl
        rw [if_pos hc]
        have hlen : (pre ++ [a, Value.null]).length = pre.length + 2 := by simp
        rw [← hlen]
        refine xLR_args base b as (pre ++ [a, .null]) j v h hn ?_
        rw [hlen]
        by_cases e2 : j = pre.length + 1
        · subst e2
          simp at h
          exact absurd h.symm hn
        · omega
      · rw [if_neg hl] at h
        have hc : ¬ (xv base b a).category = 2 := by
          rw [xv_cat]
          intro q
          exact hl (xlg_cat' q)
        rw [if_neg hc]
        have hlen : (pre ++ [a]).length = pre.length + 1 := by simp
        rw [← hlen]
        exact xLR_args base b as (pre ++ [a]) j v h hn (by rw [hlen]; omega)
theorem xfl_sl (base b : Nat) : ∀ as : List Value, (lg_sl (as.map (xv base b))).length = (xfl as).length
  | [] => rfl
  | a :: as => by
    have ih := xfl_sl base b as
    have hfl : xfl (a :: as) = (if xlg a then [a, .null] else [a]) ++ xfl as := rfl
    rw [hfl]
    cases a <;> simp [xv, lg_sl, xlg, Value.category] at ih ⊢ <;> omega
theorem xLR_entry (base b : Nat) (as : List Value) (n : Nat) (h : (xfl as).length ≤ n) : xLR base b ((lg_sl (as.map (xv base b)) ++ List.replicate (n - (lg_sl (as.map (xv base b))).length) Slot.unset).toArray) (xent as n) := by
  have hl := lv_entry (as.map (xv base b)) (n := n) (by rw [xfl_sl]; exact h)
  have hlen : (xent as n).length = n := by simp [xent]; omega
  refine ⟨by rw [hlen]; exact hl.1, hl.2.1, fun i v hi hv => ?_⟩
  by_cases e : i < (xfl as).length
  · refine hl.2.2 (i, xv base b v) ?_
    have h1 : (xfl as)[i]? = some v := by
      rw [xent, List.getElem?_append_left e] at hi
      exact hi
    exact xLR_args base b as [] i v (by simpa using h1) hv (Nat.zero_le _)
  · rw [xent, List.getElem?_append_right (by omega)] at hi
    have h1 := List.mem_of_getElem? hi
    exact absurd (List.eq_of_mem_replicate h1) hv
