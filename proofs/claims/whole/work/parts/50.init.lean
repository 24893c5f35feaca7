/-! the start: the two constructors, run by the kernel -/
/-- what the start does not do: look at the script; write a reference far out -/
def xok (M : xM) (i : Instr) (st : List Value) : Bool := match i with
  | .arraylength => false
  | .iaload => false
  | .putfield idx => (match xFl (mO M) idx with | some (_, k) => decide (k < 45) | none => false)
  | .aastore => (match st with | _ :: .int i :: _ => decide (i.toNatClampNeg < 45) | _ => false)
  | _ => true
def xX0 : (Nat → Int32) × Nat := (fun _ => 0, 0)
def xstN (M : xM) (pc : Nat) (ls st : List Value) (S : xS) (kc ks : Nat) : Option xRes := match decode (mB M) pc with
  | .ok (i, len) => (match xok M i st with | true => xsi xX0 M pc ls st S kc ks i len | false => none)
  | .error _ => none
def xrunN : Nat → xM → Nat → List Value → List Value → xS → Nat → Nat → Option (Option Value × xS)
  | 0, _, _, _, _, _, _, _ => none
  | f + 1, M, pc, ls, st, S, kc, ks => match xstN M pc ls st S kc ks with
    | none => none
    | some (.inl r) => some r
    | some (.inr (.inl (pc', ls', st', S', kc', ks'))) => xrunN f M pc' ls' st' S' kc' ks'
    | some (.inr (.inr (N, as, pc', rest, kc', ks'))) => match xrunN f N 0 (xent as (mL N)) [] S 0 0 with
      | none => none
      | some (v, S') => xrunN f M pc' ls (v.toList ++ rest) S' kc' ks'
def xto (stop : Nat) : Nat → xM → Nat → List Value → List Value → xS → Nat → Nat → Option (List Value × List Value × xS × Nat × Nat)
  | 0, _, _, _, _, _, _, _ => none
  | f + 1, M, pc, ls, st, S, kc, ks => match Nat.beq pc stop with
    | true => some (ls, st, S, kc, ks)
    | false => match xstN M pc ls st S kc ks with
      | some (.inr (.inl (pc', ls', st', S', kc', ks'))) => xto stop f M pc' ls' st' S' kc' ks'
      | some (.inr (.inr (N, as, pc', rest, kc', ks'))) => (match xrunN f N 0 (xent as (mL N)) [] S 0 0 with
        | none => none
        | some (v, S') => xto stop f M pc' ls (v.toList ++ rest) S' kc' ks')
      | _ => none
theorem xsi_X {M : xM} {i : Instr} {st : List Value} (X X' : (Nat → Int32) × Nat) {pc : Nat} {ls : List Value} {S : xS} {kc ks len : Nat} (h : xok M i st = true) : xsi X M pc ls st S kc ks i len = xsi X' M pc ls st S kc ks i len := by
  cases i
  all_goals first
    | rfl
    | (cases h; done)
def spp (S : xS) : Prop := S.2.2 ≤ 162 ∧ ∀ a k, 162 ≤ a ∨ 45 ≤ k → S.1 a k = 0
theorem spp.w {S : xS} (H : spp S) {a k v : Nat} {h : xH} (ha : a < S.2.2) (hk : k < 45) : spp (xu S.1 a k v, h, S.2.2) := by
  refine ⟨H.1, fun b j q => ?_⟩
  have := H.1
  show xu S.1 a k v b j = 0
  rw [xu_r, if_neg (by omega)]
  exact H.2 b j q
theorem spp.h {S : xS} (H : spp S) (h : xH) : spp (S.1, h, S.2.2) := H
theorem spp.n {S : xS} (H : spp S) (h : xH) (hn : S.2.2 < 162) : spp (xp S.1 S.2.2 (fun _ => 0), h, S.2.2 + 1) := by
  refine ⟨hn, fun b j q => ?_⟩
  show xp S.1 S.2.2 (fun _ => 0) b j = 0
  unfold xp
  by_cases e : b = S.2.2
  · rw [if_pos e]
  · rw [if_neg e]; exact H.2 b j q
theorem xsi_spp {X : (Nat → Int32) × Nat} {M : xM} {i : Instr} {st : List Value} {pc : Nat} {ls : List Value} {S : xS} {kc ks len : Nat} {pc' : Nat} {ls' st' : List Value} {S' : xS} {kc' ks' : Nat} (hok : xok M i st = true) (H : spp S) (hs : xsi X M pc ls st S kc ks i len = some (.inr (.inl (pc', ls', st', S', kc', ks')))) : spp S' := by
  cases i with
  | putfield idx =>
    simp only [xsi, xI, xN] at hs
    simp only [xok] at hok
    repeat' (split at hs)
    all_goals first
      | (cases hs; done)
      | skip
    all_goals
      simp only [Option.some.injEq, Sum.inr.injEq, Sum.inl.injEq, Prod.mk.injEq] at hs
      obtain ⟨rfl, rfl, rfl, rfl, rfl, rfl⟩ := hs
      rename_i heq hc
      first
        | exact H.h _
        | (rw [heq] at hok
           exact H.w hc.2.1 (of_decide_eq_true hok))
  | aastore =>
    simp only [xsi, xI, xN] at hs
    simp only [xok] at hok
    repeat' (split at hs)
    all_goals first
      | (cases hs; done)
      | skip
    all_goals
      simp only [Option.some.injEq, Sum.inr.injEq, Sum.inl.injEq, Prod.mk.injEq] at hs
      obtain ⟨rfl, rfl, rfl, rfl, rfl, rfl⟩ := hs
      rename_i hc
      exact H.w hc.2.1 (of_decide_eq_true hok)
  | _ =>
    simp only [xsi, xI, xN, xJ, xs1, xcl] at hs
    repeat' (split at hs)
    all_goals first
      | (cases hs; done)
      | (simp only [Option.some.injEq, Sum.inr.injEq, Sum.inl.injEq, Prod.mk.injEq] at hs
         obtain ⟨rfl, rfl, rfl, rfl, rfl, rfl⟩ := hs
         first
           | exact H
           | exact H.h _
           | exact H.n _ (by omega))
theorem xstN_st {M : xM} {pc : Nat} {ls st : List Value} {S : xS} {kc ks : Nat} {q : xRes} (X : (Nat → Int32) × Nat) (h : xstN M pc ls st S kc ks = some q) : ∃ i len, decode (mB M) pc = .ok (i, len) ∧ xok M i st = true ∧ xsi X M pc ls st S kc ks i len = some q ∧ xst X M pc ls st S kc ks = some q := by
  unfold xstN at h
  unfold xst
  split at h
  · rename_i i len hd
    split at h
    · rename_i ho
      rw [xsi_X xX0 X ho] at h
      exact ⟨i, len, hd, ho, h, by rw [hd]; exact h⟩
    · cases h
  · cases h
theorem xrunN_run (X : (Nat → Int32) × Nat) : ∀ (f : Nat) (M : xM) (pc : Nat) (ls st : List Value) (S : xS) (kc ks : Nat) (z : Option Value × xS), xrunN f M pc ls st S kc ks = some z → xrun X f M pc ls st S kc ks = some z ∧ (spp S → spp z.2)
  | 0, M, pc, ls, st, S, kc, ks, z, h => by cases h
  | f + 1, M, pc, ls, st, S, kc, ks, z, h => by
    unfold xrunN at h
    unfold xrun
    split at h
    · cases h
    · rename_i r hx
      obtain ⟨i, len, hd, ho, h1, h2⟩ := xstN_st X hx
      cases h
      rw [h2]
      refine ⟨rfl, fun H => ?_⟩
      rw [(xsi_ret hd h1).2.2.1]
      exact H
    · rename_i pc' ls' st' S' kc' ks' hx
      obtain ⟨i, len, hd, ho, h1, h2⟩ := xstN_st X hx
      obtain ⟨q1, q2⟩ := xrunN_run X f M pc' ls' st' S' kc' ks' z h
      rw [h2]
      exact ⟨q1, fun H => q2 (xsi_spp ho H h1)⟩
    · rename_i N as pc' rest kc' ks' hx
      obtain ⟨i, len, hd, ho, h1, h2⟩ := xstN_st X hx
      split at h
      · cases h
      · rename_i v S' hw
        obtain ⟨p1, p2⟩ := xrunN_run X f N 0 (xent as (mL N)) [] S 0 0 (v, S') hw
        obtain ⟨q1, q2⟩ := xrunN_run X f M pc' ls (v.toList ++ rest) S' kc' ks' z h
        rw [h2]
        simp only
        rw [p1]
        exact ⟨q1, fun H => q2 (p2 H)⟩
theorem xto_run (X : (Nat → Int32) × Nat) (stop : Nat) : ∀ (f : Nat) (M : xM) (pc : Nat) (ls st : List Value) (S : xS) (kc ks : Nat) (r : List Value × List Value × xS × Nat × Nat), xto stop f M pc ls st S kc ks = some r → (spp S → spp r.2.2.1) ∧ ∀ f' z, xrun X f' M stop r.1 r.2.1 r.2.2.1 r.2.2.2.1 r.2.2.2.2 = some z → xrun X (f + f') M pc ls st S kc ks = some z
  | 0, M, pc, ls, st, S, kc, ks, r, h => by cases h
  | f + 1, M, pc, ls, st, S, kc, ks, r, h => by
    unfold xto at h
    split at h
    · rename_i hb
      cases h
      have e : pc = stop := Nat.eq_of_beq_eq_true hb
      subst e
      exact ⟨fun H => H, fun f' z hz => xrun_le (by omega) hz⟩
    · split at h
      · rename_i pc' ls' st' S' kc' ks' hx
        obtain ⟨i, len, hd, ho, h1, h2⟩ := xstN_st X hx
        obtain ⟨q1, q2⟩ := xto_run X stop f M pc' ls' st' S' kc' ks' r h
        refine ⟨fun H => q1 (xsi_spp ho H h1), fun f' z hz => ?_⟩
        have e : f + 1 + f' = (f + f') + 1 := by omega
        rw [e]
        unfold xrun
        rw [h2]
        exact q2 f' z hz
      · rename_i N as pc' rest kc' ks' hx
        obtain ⟨i, len, hd, ho, h1, h2⟩ := xstN_st X hx
        split at h
        · cases h
        · rename_i v S' hw
          obtain ⟨p1, p2⟩ := xrunN_run X f N 0 (xent as (mL N)) [] S 0 0 (v, S') hw
          obtain ⟨q1, q2⟩ := xto_run X stop f M pc' ls (v.toList ++ rest) S' kc' ks' r h
          refine ⟨fun H => q1 (p2 H), fun f' z hz => ?_⟩
          have e : f + 1 + f' = (f + f') + 1 := by omega
          rw [e]
          unfold xrun
          rw [h2]
          simp only
          rw [xrun_le (Nat.le_add_right f f') p1]
          exact q2 f' z hz
      · cases h
