/-! loops -/
def xfold {σ : Type} (f : Nat → σ → σ) : Nat → Nat → σ → σ
  | _, 0, s => s
  | j, n + 1, s => xfold f (j + 1) n (f j s)
theorem lp_fold {σ : Type} {f : Nat → σ → σ} (F : Nat → σ → Prop) : ∀ (n j : Nat) (s : σ), (∀ i s, j ≤ i → i < j + n → F i s = F (i + 1) (f i s)) → F j s = F (j + n) (xfold f j n s)
  | 0, j, s, _ => rfl
  | n + 1, j, s, h => by
    rw [h j s (Nat.le_refl _) (by omega), lp_fold F n (j + 1) (f j s) (fun i s h1 h2 => h i s (by omega) (by omega))]
    have e : j + 1 + n = j + (n + 1) := by omega
    rw [e]
    rfl
/-- with a property of the state that the step keeps -/
theorem lp_foldI {σ : Type} {f : Nat → σ → σ} (F : Nat → σ → Prop) (I : Nat → σ → Prop) : ∀ (n j : Nat) (s : σ), I j s → (∀ i s, j ≤ i → i < j + n → I i s → F i s = F (i + 1) (f i s) ∧ I (i + 1) (f i s)) → F j s = F (j + n) (xfold f j n s) ∧ I (j + n) (xfold f j n s)
  | 0, j, s, hI, _ => ⟨rfl, hI⟩
  | n + 1, j, s, hI, h => by
    obtain ⟨h1, h2⟩ := h j s (Nat.le_refl _) (by omega) hI
    have := lp_foldI F I n (j + 1) (f j s) h2 (fun i s h1 h2 => h i s (by omega) (by omega))
    have e : j + 1 + n = j + (n + 1) := by omega
    rw [e] at this
    exact ⟨h1.trans this.1, this.2⟩
theorem xfold_succ {σ : Type} (f : Nat → σ → σ) : ∀ (n j : Nat) (s : σ), xfold f j (n + 1) s = f (j + n) (xfold f j n s)
  | 0, j, s => rfl
  | n + 1, j, s => by
    show xfold f (j + 1) (n + 1) (f j s) = f (j + (n + 1)) (xfold f (j + 1) n (f j s))
    rw [xfold_succ f n (j + 1) (f j s)]
    have e : j + 1 + n = j + (n + 1) := by omega
    rw [e]
theorem xfold_cong {σ : Type} {f f' : Nat → σ → σ} : ∀ (n j : Nat) (s : σ), (∀ i s, j ≤ i → i < j + n → f i s = f' i s) → xfold f j n s = xfold f' j n s
  | 0, j, s, _ => rfl
  | n + 1, j, s, h => by
    show xfold f (j + 1) n (f j s) = xfold f' (j + 1) n (f' j s)
    rw [h j s (Nat.le_refl _) (by omega), xfold_cong n (j + 1) (f' j s) (fun i s h1 h2 => h i s (by omega) (by omega))]
theorem xfold_inv {σ : Type} {f : Nat → σ → σ} (I : Nat → σ → Prop) (n j : Nat) (s : σ) (h0 : I j s) (h : ∀ i s, j ≤ i → i < j + n → I i s → I (i + 1) (f i s)) : I (j + n) (xfold f j n s) := (lp_foldI (f := f) (fun _ _ => True) I n j s h0 (fun i s h1 h2 h3 => ⟨rfl, h i s h1 h2 h3⟩)).2
/-- the first index of a kind -/
def xfind (c : Nat → Bool) : Nat → Nat → Option Nat
  | _, 0 => none
  | j, n + 1 => if c j then some j else xfind c (j + 1) n
theorem lp_find {c : Nat → Bool} (F : Nat → Prop) (ex : Nat → Prop) : ∀ (n j : Nat), (∀ i, j ≤ i → i < j + n → F i = if c i = true then ex i else F (i + 1)) → F j = (match xfind c j n with | some k => ex k | none => F (j + n))
  | 0, j, _ => rfl
  | n + 1, j, h => by
    rw [h j (Nat.le_refl _) (by omega)]
    unfold xfind
    by_cases hc : c j = true
    · rw [if_pos hc, if_pos hc]
    · rw [if_neg hc, if_neg hc, lp_find F ex n (j + 1) (fun i h1 h2 => h i (by omega) (by omega))]
      have e : j + 1 + n = j + (n + 1) := by omega
      rw [e]
theorem xfind_cong {c c' : Nat → Bool} : ∀ (n j : Nat), (∀ i, j ≤ i → i < j + n → c i = c' i) → xfind c j n = xfind c' j n
  | 0, j, _ => rfl
  | n + 1, j, h => by
    unfold xfind
    rw [h j (Nat.le_refl _) (by omega), xfind_cong n (j + 1) (fun i h1 h2 => h i (by omega) (by omega))]
theorem xfind_some {c : Nat → Bool} : ∀ {n j k : Nat}, xfind c j n = some k → j ≤ k ∧ k < j + n ∧ c k = true ∧ ∀ i, j ≤ i → i < k → c i = false
  | 0, j, k, h => by cases h
  | n + 1, j, k, h => by
    unfold xfind at h
    by_cases hc : c j = true
    · rw [if_pos hc] at h
      cases h
      exact ⟨Nat.le_refl _, by omega, hc, fun i h1 h2 => by omega⟩
    · rw [if_neg hc] at h
      obtain ⟨h1, h2, h3, h4⟩ := xfind_some h
      refine ⟨by omega, by omega, h3, fun i q1 q2 => ?_⟩
      by_cases e : i = j
      · subst e; simpa using hc
      · exact h4 i (by omega) q2
theorem xfind_none {c : Nat → Bool} : ∀ {n j : Nat}, xfind c j n = none → ∀ i, j ≤ i → i < j + n → c i = false
  | 0, j, h => fun i h1 h2 => by omega
  | n + 1, j, h => by
    unfold xfind at h
    by_cases hc : c j = true
    · rw [if_pos hc] at h; cases h
    · rw [if_neg hc] at h
      intro i q1 q2
      by_cases e : i = j
      · subst e; simpa using hc
      · exact xfind_none h i (by omega) (by omega)
/-! indices -/
theorem nI_lit (n : Nat) : (OfNat.ofNat n : Int32) = nI n := rfl
theorem cl_nI {n : Nat} (h : n < 2147483648) : (nI n).toNatClampNeg = n := nI_clamp h
theorem inb_nI {n N : Nat} (hN : N < 2147483648) : n < N → inb (nI n) N := fun h => nI_in h hN
theorem inb_nIe {n N : Nat} (hn : n < 2147483648) : inb (nI n) N = (n < N) := by
  apply propext
  unfold inb
  rw [nI_clamp hn]
  constructor
  · intro h
    exact Nat.not_le.mp (fun q => h (Or.inr q))
  · intro h q
    rcases q with q | q
    · exact nI_pos hn q
    · omega
theorem le_nI {a b : Nat} (ha : a < 2147483648) (hb : b < 2147483648) : (nI a ≤ nI b) = (a ≤ b) := propext (nI_leI ha hb)
theorem lt_nI {a b : Nat} (ha : a < 2147483648) (hb : b < 2147483648) : (nI a < nI b) = (a < b) := propext (nI_ltI ha hb)
theorem eq_nI {a b : Nat} (ha : a < 2147483648) (hb : b < 2147483648) : (nI a = nI b) = (a = b) := propext (nI_eq ha hb)
theorem addI_nI (a b : Nat) : nI a + nI b = nI (a + b) := nI_add a b
theorem inb_of {x : Int32} {n : Nat} (hn : n < 2147483648) (h : inb x n) : ∃ j : Nat, j < n ∧ x = nI j := vp_in_of h hn
/-- reads through writes -/
theorem xu_r {α : Type} (f : Nat → Nat → α) (a k : Nat) (v : α) (b j : Nat) : xu f a k v b j = if b = a ∧ j = k then v else f b j := by
  unfold xu xp
  by_cases h : b = a
  · subst h
    by_cases h2 : j = k <;> simp [h2]
  · simp [h]
theorem xu_na {α : Type} (f : Nat → Nat → α) {a b : Nat} (k : Nat) (v : α) (j : Nat) (h : ¬ b = a) : xu f a k v b j = f b j := by rw [xu_r, if_neg (fun q => h q.1)]
theorem xu_nk {α : Type} (f : Nat → Nat → α) (a b : Nat) {k j : Nat} (v : α) (h : ¬ j = k) : xu f a k v b j = f b j := by rw [xu_r, if_neg (fun q => h q.2)]
theorem xu_eq {α : Type} (f : Nat → Nat → α) (a k : Nat) (v : α) : xu f a k v a k = v := by rw [xu_r, if_pos ⟨rfl, rfl⟩]
