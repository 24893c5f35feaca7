/-! what a method comes to, as a rewriting: EV M .. Q: from here the method returns, with Q -/
def EV (X : (Nat → Int32) × Nat) (M : xM) (kc ks pc : Nat) (ls st : List Value) (g : xG) (h : xH) (Q : Option Value → xG → xH → Prop) : Prop :=
  ∃ (f : Nat) (r : Option Value) (g' : xG) (h' : xH), xrun X f M pc ls st (g, h, 162) kc ks = some (r, (g', h', 162)) ∧ Q r g' h'
theorem xrun_mono {X : (Nat → Int32) × Nat} : ∀ (f : Nat) (M : xM) (pc : Nat) (ls st : List Value) (S : xS) (kc ks : Nat) (z : Option Value × xS), xrun X f M pc ls st S kc ks = some z → xrun X (f + 1) M pc ls st S kc ks = some z
  | 0, M, pc, ls, st, S, kc, ks, z, h => by cases h
  | f + 1, M, pc, ls, st, S, kc, ks, z, h => by
    unfold xrun at h ⊢
    cases hx : xst X M pc ls st S kc ks with
    | none => rw [hx] at h; cases h
    | some q =>
      rw [hx] at h
      match q, h with
      | .inl q, h => exact h
      | .inr (.inl q), h => exact xrun_mono f _ _ _ _ _ _ _ _ h
      | .inr (.inr q), h =>
        simp only at h ⊢
        cases hc : xrun X f q.1 0 (xent q.2.1 (mL q.1)) [] S 0 0 with
        | none => rw [hc] at h; cases h
        | some w =>
          rw [hc] at h
          rw [xrun_mono f _ _ _ _ _ _ _ _ hc]
          exact xrun_mono f _ _ _ _ _ _ _ _ h
theorem xrun_le {X : (Nat → Int32) × Nat} {M : xM} {pc : Nat} {ls st : List Value} {S : xS} {kc ks : Nat} {z : Option Value × xS} {f k : Nat} (hk : f ≤ k) (h : xrun X f M pc ls st S kc ks = some z) : xrun X k M pc ls st S kc ks = some z := by
  induction hk with
  | refl => exact h
  | step _ ih => exact xrun_mono _ _ _ _ _ _ _ _ _ ih
section EVS
variable {X : (Nat → Int32) × Nat} {M : xM} {kc ks pc : Nat} {ls st : List Value} {g : xG} {h : xH} {Q : Option Value → xG → xH → Prop}
theorem EV.step {pc' : Nat} {ls' st' : List Value} {g' : xG} {h' : xH} (hs : xst X M pc ls st (g, h, 162) kc ks = some (.inr (.inl (pc', ls', st', (g', h', 162), kc, ks)))) : EV X M kc ks pc ls st g h Q = EV X M kc ks pc' ls' st' g' h' Q := by
  apply propext
  constructor
  · rintro ⟨f, r, g2, h2, hr, hq⟩
    cases f with
    | zero => cases hr
    | succ f =>
      unfold xrun at hr
      rw [hs] at hr
      exact ⟨f, r, g2, h2, hr, hq⟩
  · rintro ⟨f, r, g2, h2, hr, hq⟩
    refine ⟨f + 1, r, g2, h2, ?_, hq⟩
    unfold xrun
    rw [hs]
    exact hr
theorem EV.fail (hs : xst X M pc ls st (g, h, 162) kc ks = none) : EV X M kc ks pc ls st g h Q = False := by
  apply propext
  constructor
  · rintro ⟨f, r, g2, h2, hr, hq⟩
    cases f with
    | zero => cases hr
    | succ f =>
      unfold xrun at hr
      rw [hs] at hr
      cases hr
  · exact False.elim
theorem EV.ret {r : Option Value} (hs : xst X M pc ls st (g, h, 162) kc ks = some (.inl (r, (g, h, 162)))) : EV X M kc ks pc ls st g h Q = Q r g h := by
  apply propext
  constructor
  · rintro ⟨f, r, g2, h2, hr, hq⟩
    cases f with
    | zero => cases hr
    | succ f =>
      unfold xrun at hr
      rw [hs] at hr
      cases hr
      exact hq
  · intro hq
    refine ⟨1, r, g, h, ?_, hq⟩
    unfold xrun
    rw [hs]
theorem xS_eta (S : xS) (hn : S.2.2 = 162) : S = (S.1, S.2.1, 162) := by
  obtain ⟨a, b, c⟩ := S
  simp only at hn
  rw [hn]
/-- no method that makes nothing changes the number of cells -/
theorem xst_n {S : xS} {pc' : Nat} {ls' st' : List Value} {S' : xS} {kc' ks' : Nat} (hc : mC M ≤ kc) (hs : xst X M pc ls st S kc ks = some (.inr (.inl (pc', ls', st', S', kc', ks')))) : S'.2.2 = S.2.2 ∧ kc' = kc := by
  unfold xst at hs
  split at hs
  · rename_i i len hd
    cases i
    all_goals
      simp only [xsi, xI, xN, xJ, xs1, xcl] at hs
      repeat' (split at hs)
      all_goals first
        | (cases hs; done)
        | (simp only [Option.some.injEq, Sum.inr.injEq, Sum.inl.injEq, Prod.mk.injEq] at hs
           obtain ⟨rfl, rfl, rfl, rfl, rfl, rfl⟩ := hs
           first | exact ⟨rfl, rfl⟩ | omega)
  · cases hs
theorem xst_c {S : xS} {N : xM} {as : List Value} {pc' : Nat} {rest : List Value} {kc' ks' : Nat} (hs : xst X M pc ls st S kc ks = some (.inr (.inr (N, as, pc', rest, kc', ks')))) : kc' = kc + mC N ∧ kc + mC N ≤ mC M := by
  unfold xst at hs
  split at hs
  · rename_i i len hd
    cases i
    all_goals
      simp only [xsi, xI, xN, xJ, xs1, xcl] at hs
      repeat' (split at hs)
      all_goals first
        | (cases hs; done)
        | (rename_i hf
           simp only [Option.some.injEq, Sum.inr.injEq, Sum.inl.injEq, Prod.mk.injEq] at hs
           obtain ⟨rfl, rfl, rfl, rfl, rfl, rfl⟩ := hs
           exact ⟨rfl, (xfit_spec hf).2.2.1⟩)
  · cases hs
theorem xrun_n : ∀ (f : Nat) (M : xM) (pc : Nat) (ls st : List Value) (S : xS) (kc ks : Nat) (r : Option Value) (S' : xS), mC M = 0 → kc = 0 → xrun X f M pc ls st S kc ks = some (r, S') → S'.2.2 = S.2.2
  | 0, M, pc, ls, st, S, kc, ks, r, S', _, _, h => by cases h
  | f + 1, M, pc, ls, st, S, kc, ks, r, S', hM, hk, h => by
    unfold xrun at h
    cases hx : xst X M pc ls st S kc ks with
    | none => rw [hx] at h; cases h
    | some q =>
      rw [hx] at h
      match q, h, hx with
      | .inl q, h, hx =>
        simp only [Option.some.injEq] at h
        subst h
        unfold xst at hx
        split at hx
        · rename_i i len hd
          have e0 : S' = S := (xsi_ret hd hx).2.2.1
          rw [e0]
        · cases hx
      | .inr (.inl (pc', ls', st', S1, kc', ks')), h, hx =>
        obtain ⟨h1, h2⟩ := xst_n (by omega) hx
        rw [xrun_n f M pc' ls' st' S1 kc' ks' r S' hM (by omega) h, h1]
      | .inr (.inr (N, as, pc', rest, kc', ks')), h, hx =>
        obtain ⟨h1, h2⟩ := xst_c hx
        simp only at h
        split at h
        · cases h
        · rename_i w hw
          have e1 := xrun_n f N 0 _ [] S 0 0 w.1 w.2 (by omega) rfl hw
          rw [xrun_n f M pc' ls _ w.2 kc' ks' r S' hM (by omega) h, e1]
theorem EV.call {N : xM} {as : List Value} {pc' : Nat} {rest : List Value} (hs : xst X M pc ls st (g, h, 162) kc ks = some (.inr (.inr (N, as, pc', rest, kc, ks)))) (hN : mC N = 0) : EV X M kc ks pc ls st g h Q = EV X N 0 0 0 (xent as (mL N)) [] g h (fun r g' h' => EV X M kc ks pc' ls (r.toList ++ rest) g' h' Q) := by
  apply propext
  constructor
  · rintro ⟨f, r, g2, h2, hr, hq⟩
    cases f with
    | zero => cases hr
    | succ f =>
      unfold xrun at hr
      rw [hs] at hr
      simp only at hr
      split at hr
      · cases hr
      · rename_i w hw
        have e1 := xrun_n f N 0 _ [] _ 0 0 w.1 w.2 hN rfl hw
        have e2 := xS_eta w.2 e1
        refine ⟨f, w.1, w.2.1, w.2.2.1, ?_, f, r, g2, h2, ?_, hq⟩
        · rw [← e2]; exact hw
        · rw [← e2]; exact hr
  · rintro ⟨f1, r1, g1, h1, hr1, f, r, g2, h2, hr, hq⟩
    refine ⟨(f1 + f) + 1, r, g2, h2, ?_, hq⟩
    unfold xrun
    rw [hs]
    simp only
    rw [xrun_le (Nat.le_add_right f1 f) hr1]
    exact xrun_le (Nat.le_add_left f f1) hr
end EVS
