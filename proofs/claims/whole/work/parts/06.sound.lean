/-! soundness: next steps -/
theorem xv_i (base b : Nat) (x : Int32) : xv base b (.int x) = .int x := rfl
theorem xv_l (base b : Nat) (x : Int64) : xv base b (.long x) = .long x := rfl
theorem xv_r {base b a : Nat} (h : a ≠ 1000) : xv base b (.ref a) = .ref (base + a) := by
  show Value.ref (if a = 1000 then b else base + a) = _
  rw [if_neg h]
theorem xv_s (base b : Nat) : xv base b (.ref 1000) = .ref b := rfl
theorem xlgI (x : Int32) : xlg (.int x) = false := rfl
theorem xlt {a n : Nat} (h : a < n) (hn : n ≤ 162) : a ≠ 1000 := by omega
theorem xlt2 {a n : Nat} (h : a < n) (hn : n ≤ 162) : a < 162 := by omega
theorem xgo {len k : Nat} {r : Option xRes} {z : xRes} (h : xI len k r = some z) : len = k ∧ r = some z := xI_some h
theorem xfs_set {base : Nat} {S S' : xS} {a k n : Nat} {v : Value} (hk : k < n) (hv : xfld base S' a k = v) (ho : ∀ j, j ≠ k → xfld base S' a j = xfld base S a j) : ((List.range n).map (xfld base S a)).set k v = (List.range n).map (xfld base S' a) := by
  apply List.ext_getElem?
  intro j
  by_cases hj : j < n
  · by_cases e : j = k
    · subst e
      rw [List.getElem?_set_self (by simpa using hj), List.getElem?_map, List.getElem?_range hj, ← hv]
      rfl
    · rw [List.getElem?_set_ne (Ne.symm e), List.getElem?_map, List.getElem?_map, List.getElem?_range hj]
      simp only [Option.map_some, ho j e]
  · rw [List.getElem?_eq_none (by simpa using hj), List.getElem?_eq_none (by simpa using hj)]
set_option maxHeartbeats 4000000 in
set_option maxRecDepth 100000 in
theorem xstep {p : Program} {l : Launch} {e : Env} {R : Room} {s : State} {m : MethodId} {args : Array Value} {below : List Frame} {meth : Method} {c : Code} {Q : State → Prop} {base b L : Nat} {xs : Nat → Int32} {D : va_G} {T : ClassId × ClassId × ClassId} {M : xM}
    (C : xCx p s m args meth c R base b L xs D T M) {pc : Nat} {ls st : List Value} {S : xS} {kc ks : Nat} {i : Instr} {len : Nat} (hd : decode (mB M) pc = .ok (i, len)) {pc' : Nat} {ls' st' : List Value} {S' : xS} {kc' ks' : Nat} (h : xsi (xs, L) M pc ls st S kc ks i len = some (.inr (.inl (pc', ls', st', S', kc', ks'))))
    {H : Heap} {locs : List Loc} {Ls : Array Slot} (hl : xLR base b Ls ls) (hlen : ls.length = mL M) (hg : mG M = true ∨ ∀ v ∈ ls, xlg v = false) (hH : xHR base T D S H) (hS : va_S (xA base) s.heap H locs)
    (K : ∀ (H' : Heap) (locs' : List Loc) (Ls' : Array Slot), xLR base b Ls' ls' → ls'.length = mL M → (mG M = true ∨ ∀ v ∈ ls', xlg v = false) → xHR base T D S' H' → va_S (xA base) s.heap H' locs' → W p l e R s m args below meth c H' locs' kc' ks' Q (F0 m pc' Ls' (st'.map (xv base b)))) : W p l e R s m args below meth c H locs kc ks Q (F0 m pc Ls (st.map (xv base b))) := by
  obtain ⟨hx, hb, hml, hown, hts, hname, ⟨hRf, hRl, hRc, hRs⟩, hK, ⟨hX, hbb, hbs⟩, hAO, hNw⟩ := C
  have hD : va_D (xA base) (xW base T S) := xW_D
  obtain ⟨hHs, hP, hn⟩ := hH
  have hbA : ¬ xA base b := Nat.not_le.mpr hbb
  have hbl : b < s.heap.size := Nat.lt_of_lt_of_le hbb hbs
  -- a store of one slot
  have st1 : ∀ {i : Nat} {v : Value} {pc1 : Nat} {r : List Value}, xs1 M i v pc1 ls r S kc ks = some (.inr (.inl (pc', ls', st', S', kc', ks'))) → xlg v = false → i < ls.length ∧ pc' = pc1 ∧ ls' = ls.set i v ∧ st' = r ∧ S' = S ∧ kc' = kc ∧ ks' = ks ∧ ls'.length = mL M ∧ (mG M = true ∨ ∀ v ∈ ls', xlg v = false) ∧
      ∀ Ls' : Array Slot, lv_has Ls' ls.length ((i, xv base b v) :: (xll base b ls).filter (fun q => !(q.1 == i) && !(q.1 + 1 == i && q.2.category == 2))) → xLR base b Ls' ls' := by
    intro i v pc1 r h hv
    unfold xs1 at h
    split at h
    · rename_i hc
      simp only [xN, Option.some.injEq, Sum.inr.injEq, Sum.inl.injEq, Prod.mk.injEq] at h
      obtain ⟨rfl, rfl, rfl, rfl, rfl, rfl⟩ := h
      refine ⟨hc.1, rfl, rfl, rfl, rfl, rfl, rfl, by rw [List.length_set]; exact hlen, ?_, fun Ls' hh => ?_⟩
      · rcases hg with hg | hg
        · exact Or.inl hg
        · refine Or.inr fun w hw => ?_
          rcases List.mem_or_eq_of_mem_set hw with hw | rfl
          · exact hg w hw
          · exact hv
      · refine xLR.put hc.1 (fun w hw => ?_) hh
        rcases hc.2 with q | q
        · rcases hg with hg | hg
          · rw [hg] at q; cases q
          · exact hg w (List.mem_of_getElem? hw)
        · rw [List.getD_eq_getElem?_getD, hw] at q
          exact q
    · cases h
  cases i with
  | iconst n =>
    replace h := xgo h
    obtain ⟨rfl, h⟩ := h
    simp only [xN, Option.some.injEq, Sum.inr.injEq, Sum.inl.injEq, Prod.mk.injEq] at h
    obtain ⟨rfl, rfl, rfl, rfl, rfl, rfl⟩ := h
    exact lv_iconst hx hb hd rfl (K _ _ _ hl hlen hg ⟨hHs, hP, hn⟩ hS)
  | bipush n =>
    replace h := xgo h
    obtain ⟨rfl, h⟩ := h
    simp only [xN, Option.some.injEq, Sum.inr.injEq, Sum.inl.injEq, Prod.mk.injEq] at h
    obtain ⟨rfl, rfl, rfl, rfl, rfl, rfl⟩ := h
    exact lv_bipush hx hb hd rfl (K _ _ _ hl hlen hg ⟨hHs, hP, hn⟩ hS)
  | sipush n =>
    replace h := xgo h
    obtain ⟨rfl, h⟩ := h
    simp only [xN, Option.some.injEq, Sum.inr.injEq, Sum.inl.injEq, Prod.mk.injEq] at h
    obtain ⟨rfl, rfl, rfl, rfl, rfl, rfl⟩ := h
    exact lv_sipush hx hb hd rfl (K _ _ _ hl hlen hg ⟨hHs, hP, hn⟩ hS)
  | lconst n =>
    replace h := xgo h
    obtain ⟨rfl, h⟩ := h
    simp only [xN, Option.some.injEq, Sum.inr.injEq, Sum.inl.injEq, Prod.mk.injEq] at h
    obtain ⟨rfl, rfl, rfl, rfl, rfl, rfl⟩ := h
    exact lv_lconst hx hb hd rfl (K _ _ _ hl hlen hg ⟨hHs, hP, hn⟩ hS)
  | ldc n =>
    replace h := xgo h
    obtain ⟨rfl, h⟩ := h
    split at h
    · rename_i v hv
      simp only [xN, Option.some.injEq, Sum.inr.injEq, Sum.inl.injEq, Prod.mk.injEq] at h
      obtain ⟨rfl, rfl, rfl, rfl, rfl, rfl⟩ := h
      exact lv_ldc hx hb hown (hts _ (xCT_ok _ (xCo_spec hv))) hd (K _ _ _ hl hlen hg ⟨hHs, hP, hn⟩ hS)
    · cases h
  | ldc_w n =>
    replace h := xgo h
    obtain ⟨rfl, h⟩ := h
    split at h
    · rename_i v hv
      simp only [xN, Option.some.injEq, Sum.inr.injEq, Sum.inl.injEq, Prod.mk.injEq] at h
      obtain ⟨rfl, rfl, rfl, rfl, rfl, rfl⟩ := h
      exact lv_ldcw hx hb hown (hts _ (xCT_ok _ (xCo_spec hv))) hd (K _ _ _ hl hlen hg ⟨hHs, hP, hn⟩ hS)
    · cases h
  | ldc2_w n =>
    replace h := xgo h
    obtain ⟨rfl, h⟩ := h
    split at h
    · rename_i v hv
      simp only [xN, Option.some.injEq, Sum.inr.injEq, Sum.inl.injEq, Prod.mk.injEq] at h
      obtain ⟨rfl, rfl, rfl, rfl, rfl, rfl⟩ := h
      exact lv_ldc2 hx hb hown (hts _ (xLT_ok _ (xCoL_spec hv))) hd (K _ _ _ hl hlen hg ⟨hHs, hP, hn⟩ hS)
    · cases h
  | iload_n n =>
    replace h := xgo h
    obtain ⟨rfl, h⟩ := h
    split at h
    · rename_i v hv
      simp only [xN, Option.some.injEq, Sum.inr.injEq, Sum.inl.injEq, Prod.mk.injEq] at h
      obtain ⟨rfl, rfl, rfl, rfl, rfl, rfl⟩ := h
      exact lv_iload_n hx hb hd rfl (hl.2.2 _ _ hv (fun q => by cases q)) (K _ _ _ hl hlen hg ⟨hHs, hP, hn⟩ hS)
    · cases h
  | iload n =>
    replace h := xgo h
    obtain ⟨rfl, h⟩ := h
    split at h
    · rename_i v hv
      simp only [xN, Option.some.injEq, Sum.inr.injEq, Sum.inl.injEq, Prod.mk.injEq] at h
      obtain ⟨rfl, rfl, rfl, rfl, rfl, rfl⟩ := h
      exact lv_iload hx hb hd (hl.2.2 _ _ hv (fun q => by cases q)) (K _ _ _ hl hlen hg ⟨hHs, hP, hn⟩ hS)
    · cases h
  | lload_n n =>
    replace h := xgo h
    obtain ⟨rfl, h⟩ := h
    split at h
    · rename_i v hv
      simp only [xN, Option.some.injEq, Sum.inr.injEq, Sum.inl.injEq, Prod.mk.injEq] at h
      obtain ⟨rfl, rfl, rfl, rfl, rfl, rfl⟩ := h
      exact lv_lload_n hx hb hd rfl (hl.2.2 _ _ hv (fun q => by cases q)) (K _ _ _ hl hlen hg ⟨hHs, hP, hn⟩ hS)
    · cases h
  | lload n =>
    replace h := xgo h
    obtain ⟨rfl, h⟩ := h
    split at h
    · rename_i v hv
      simp only [xN, Option.some.injEq, Sum.inr.injEq, Sum.inl.injEq, Prod.mk.injEq] at h
      obtain ⟨rfl, rfl, rfl, rfl, rfl, rfl⟩ := h
      exact lv_lload hx hb hd (hl.2.2 _ _ hv (fun q => by cases q)) (K _ _ _ hl hlen hg ⟨hHs, hP, hn⟩ hS)
    · cases h
  | aload_n n =>
    replace h := xgo h
    obtain ⟨rfl, h⟩ := h
    split at h
    · rename_i v hv
      simp only [xN, Option.some.injEq, Sum.inr.injEq, Sum.inl.injEq, Prod.mk.injEq] at h
      obtain ⟨rfl, rfl, rfl, rfl, rfl, rfl⟩ := h
      exact lv_aload_n hx hb hd rfl (hl.2.2 _ _ hv (fun q => by cases q)) (K _ _ _ hl hlen hg ⟨hHs, hP, hn⟩ hS)
    · cases h
  | istore_n n =>
    replace h := xgo h
    obtain ⟨rfl, h⟩ := h
    split at h
    · obtain ⟨hi, rfl, rfl, rfl, rfl, rfl, rfl, h2, h3, h4⟩ := st1 h rfl
      exact lv_istore_n hx hb hd rfl hl.has hi rfl (fun Ls' hh => K _ _ _ (h4 _ hh) h2 h3 ⟨hHs, hP, hn⟩ hS)
    · cases h
  | istore n =>
    replace h := xgo h
    obtain ⟨rfl, h⟩ := h
    split at h
    · obtain ⟨hi, rfl, rfl, rfl, rfl, rfl, rfl, h2, h3, h4⟩ := st1 h rfl
      exact lv_istore hx hb hd hl.has hi rfl (fun Ls' hh => K _ _ _ (h4 _ hh) h2 h3 ⟨hHs, hP, hn⟩ hS)
    · cases h
  | astore_n n =>
    replace h := xgo h
    obtain ⟨rfl, h⟩ := h
    split at h
    · obtain ⟨hi, rfl, rfl, rfl, rfl, rfl, rfl, h2, h3, h4⟩ := st1 h rfl
      exact lv_astore_n hx hb hd rfl hl.has hi rfl (fun Ls' hh => K _ _ _ (h4 _ hh) h2 h3 ⟨hHs, hP, hn⟩ hS)
    · cases h
  | lstore_n n =>
    replace h := xgo h
    obtain ⟨rfl, h⟩ := h
    split at h
    · split at h
      · rename_i hc
        simp only [xN, Option.some.injEq, Sum.inr.injEq, Sum.inl.injEq, Prod.mk.injEq] at h
        obtain ⟨rfl, rfl, rfl, rfl, rfl, rfl⟩ := h
        refine lv_lstore_n hx hb hd rfl hl.has hc.1 rfl (fun Ls' hh => K _ _ _ (xLR.put2 hc.1 (fun w hw => ?_) hh) (by rw [List.length_set, List.length_set]; exact hlen) (Or.inl hc.2.1) ⟨hHs, hP, hn⟩ hS)
        have q := hc.2.2
        rw [List.getD_eq_getElem?_getD, hw] at q
        exact q
      · cases h
    · cases h
  | iinc k n =>
    replace h := xgo h
    obtain ⟨rfl, h⟩ := h
    split at h
    · rename_i v hv
      obtain ⟨hi, rfl, rfl, rfl, rfl, rfl, rfl, h2, h3, h4⟩ := st1 h rfl
      obtain ⟨q, hq⟩ := List.getElem?_of_mem (xll_mem (base := base) (b := b) hv (fun q => by cases q))
      exact lv_iinc hx hb hd hl.has hq rfl hi rfl (fun Ls' hh => K _ _ _ (h4 _ hh) h2 h3 ⟨hHs, hP, hn⟩ hS)
    · cases h
  | iadd =>
    replace h := xgo h
    obtain ⟨rfl, h⟩ := h
    split at h
    · simp only [xN, Option.some.injEq, Sum.inr.injEq, Sum.inl.injEq, Prod.mk.injEq] at h
      obtain ⟨rfl, rfl, rfl, rfl, rfl, rfl⟩ := h
      exact lv_iadd hx hb hd (K _ _ _ hl hlen hg ⟨hHs, hP, hn⟩ hS)
    · cases h
  | isub =>
    replace h := xgo h
    obtain ⟨rfl, h⟩ := h
    split at h
    · simp only [xN, Option.some.injEq, Sum.inr.injEq, Sum.inl.injEq, Prod.mk.injEq] at h
      obtain ⟨rfl, rfl, rfl, rfl, rfl, rfl⟩ := h
      exact lv_isub hx hb hd (K _ _ _ hl hlen hg ⟨hHs, hP, hn⟩ hS)
    · cases h
  | imul =>
    replace h := xgo h
    obtain ⟨rfl, h⟩ := h
    split at h
    · simp only [xN, Option.some.injEq, Sum.inr.injEq, Sum.inl.injEq, Prod.mk.injEq] at h
      obtain ⟨rfl, rfl, rfl, rfl, rfl, rfl⟩ := h
      exact lv_imul hx hb hd (K _ _ _ hl hlen hg ⟨hHs, hP, hn⟩ hS)
    · cases h
  | iand =>
    replace h := xgo h
    obtain ⟨rfl, h⟩ := h
    split at h
    · simp only [xN, Option.some.injEq, Sum.inr.injEq, Sum.inl.injEq, Prod.mk.injEq] at h
      obtain ⟨rfl, rfl, rfl, rfl, rfl, rfl⟩ := h
      exact lv_iand hx hb hd (K _ _ _ hl hlen hg ⟨hHs, hP, hn⟩ hS)
    · cases h
  | ior =>
    replace h := xgo h
    obtain ⟨rfl, h⟩ := h
    split at h
    · simp only [xN, Option.some.injEq, Sum.inr.injEq, Sum.inl.injEq, Prod.mk.injEq] at h
      obtain ⟨rfl, rfl, rfl, rfl, rfl, rfl⟩ := h
      exact lv_ior hx hb hd (K _ _ _ hl hlen hg ⟨hHs, hP, hn⟩ hS)
    · cases h
  | ishl =>
    replace h := xgo h
    obtain ⟨rfl, h⟩ := h
    split at h
    · simp only [xN, Option.some.injEq, Sum.inr.injEq, Sum.inl.injEq, Prod.mk.injEq] at h
      obtain ⟨rfl, rfl, rfl, rfl, rfl, rfl⟩ := h
      exact lv_ishl hx hb hd (K _ _ _ hl hlen hg ⟨hHs, hP, hn⟩ hS)
    · cases h
  | iushr =>
    replace h := xgo h
    obtain ⟨rfl, h⟩ := h
    split at h
    · simp only [xN, Option.some.injEq, Sum.inr.injEq, Sum.inl.injEq, Prod.mk.injEq] at h
      obtain ⟨rfl, rfl, rfl, rfl, rfl, rfl⟩ := h
      exact lv_iushr hx hb hd rfl (K _ _ _ hl hlen hg ⟨hHs, hP, hn⟩ hS)
    · cases h
  | idiv =>
    replace h := xgo h
    obtain ⟨rfl, h⟩ := h
    split at h
    · split at h
      · cases h
      · rename_i hne
        simp only [xN, Option.some.injEq, Sum.inr.injEq, Sum.inl.injEq, Prod.mk.injEq] at h
        obtain ⟨rfl, rfl, rfl, rfl, rfl, rfl⟩ := h
        exact lv_idiv hx hb hd hne (K _ _ _ hl hlen hg ⟨hHs, hP, hn⟩ hS)
    · cases h
  | irem =>
    replace h := xgo h
    obtain ⟨rfl, h⟩ := h
    split at h
    · split at h
      · cases h
      · rename_i hne
        simp only [xN, Option.some.injEq, Sum.inr.injEq, Sum.inl.injEq, Prod.mk.injEq] at h
        obtain ⟨rfl, rfl, rfl, rfl, rfl, rfl⟩ := h
        exact lv_irem hx hb hd hne (K _ _ _ hl hlen hg ⟨hHs, hP, hn⟩ hS)
    · cases h
  | ladd =>
    replace h := xgo h
    obtain ⟨rfl, h⟩ := h
    split at h
    · simp only [xN, Option.some.injEq, Sum.inr.injEq, Sum.inl.injEq, Prod.mk.injEq] at h
      obtain ⟨rfl, rfl, rfl, rfl, rfl, rfl⟩ := h
      exact lv_ladd hx hb hd (K _ _ _ hl hlen hg ⟨hHs, hP, hn⟩ hS)
    · cases h
  | lmul =>
    replace h := xgo h
    obtain ⟨rfl, h⟩ := h
    split at h
    · simp only [xN, Option.some.injEq, Sum.inr.injEq, Sum.inl.injEq, Prod.mk.injEq] at h
      obtain ⟨rfl, rfl, rfl, rfl, rfl, rfl⟩ := h
      exact lv_lmul hx hb hd (K _ _ _ hl hlen hg ⟨hHs, hP, hn⟩ hS)
    · cases h
  | ldiv =>
    replace h := xgo h
    obtain ⟨rfl, h⟩ := h
    split at h
    · split at h
      · cases h
      · rename_i hne
        simp only [xN, Option.some.injEq, Sum.inr.injEq, Sum.inl.injEq, Prod.mk.injEq] at h
        obtain ⟨rfl, rfl, rfl, rfl, rfl, rfl⟩ := h
        exact lv_ldiv hx hb hd hne (K _ _ _ hl hlen hg ⟨hHs, hP, hn⟩ hS)
    · cases h
  | lrem =>
    replace h := xgo h
    obtain ⟨rfl, h⟩ := h
    split at h
    · split at h
      · cases h
      · rename_i hne
        simp only [xN, Option.some.injEq, Sum.inr.injEq, Sum.inl.injEq, Prod.mk.injEq] at h
        obtain ⟨rfl, rfl, rfl, rfl, rfl, rfl⟩ := h
        exact lv_lrem hx hb hd hne (K _ _ _ hl hlen hg ⟨hHs, hP, hn⟩ hS)
    · cases h
  | lcmp =>
    replace h := xgo h
    obtain ⟨rfl, h⟩ := h
    split at h
    · simp only [xN, Option.some.injEq, Sum.inr.injEq, Sum.inl.injEq, Prod.mk.injEq] at h
      obtain ⟨rfl, rfl, rfl, rfl, rfl, rfl⟩ := h
      exact W.lcmp hx hb hd (K _ _ _ hl hlen hg ⟨hHs, hP, hn⟩ hS)
    · cases h
  | i2l =>
    replace h := xgo h
    obtain ⟨rfl, h⟩ := h
    split at h
    · simp only [xN, Option.some.injEq, Sum.inr.injEq, Sum.inl.injEq, Prod.mk.injEq] at h
      obtain ⟨rfl, rfl, rfl, rfl, rfl, rfl⟩ := h
      exact lv_i2l hx hb hd rfl (K _ _ _ hl hlen hg ⟨hHs, hP, hn⟩ hS)
    · cases h
  | l2i =>
    replace h := xgo h
    obtain ⟨rfl, h⟩ := h
    split at h
    · simp only [xN, Option.some.injEq, Sum.inr.injEq, Sum.inl.injEq, Prod.mk.injEq] at h
      obtain ⟨rfl, rfl, rfl, rfl, rfl, rfl⟩ := h
      exact lv_l2i hx hb hd rfl (K _ _ _ hl hlen hg ⟨hHs, hP, hn⟩ hS)
    · cases h
  | dup =>
    replace h := xgo h
    obtain ⟨rfl, h⟩ := h
    split at h
    · split at h
      · rename_i hv
        simp only [xN, Option.some.injEq, Sum.inr.injEq, Sum.inl.injEq, Prod.mk.injEq] at h
        obtain ⟨rfl, rfl, rfl, rfl, rfl, rfl⟩ := h
        exact lv_dup hx hb hd (by rw [xv_cat]; exact xlg_cat hv) (K _ _ _ hl hlen hg ⟨hHs, hP, hn⟩ hS)
      · cases h
    · cases h
  | pop =>
    replace h := xgo h
    obtain ⟨rfl, h⟩ := h
    split at h
    · split at h
      · rename_i hv
        simp only [xN, Option.some.injEq, Sum.inr.injEq, Sum.inl.injEq, Prod.mk.injEq] at h
        obtain ⟨rfl, rfl, rfl, rfl, rfl, rfl⟩ := h
        exact lv_pop hx hb hd (by rw [xv_cat]; exact xlg_cat hv) (K _ _ _ hl hlen hg ⟨hHs, hP, hn⟩ hS)
      · cases h
    · cases h
  | dup2 =>
    replace h := xgo h
    obtain ⟨rfl, h⟩ := h
    split at h
    · split at h
      · rename_i hv
        simp only [xN, Option.some.injEq, Sum.inr.injEq, Sum.inl.injEq, Prod.mk.injEq] at h
        obtain ⟨rfl, rfl, rfl, rfl, rfl, rfl⟩ := h
        exact lv_dup2_11 hx hb hd (by rw [xv_cat]; exact xlg_cat hv.1) (by rw [xv_cat]; exact xlg_cat hv.2) (K _ _ _ hl hlen hg ⟨hHs, hP, hn⟩ hS)
      · cases h
    · cases h
  | goto off =>
    replace h := xgo h
    obtain ⟨rfl, h⟩ := h
    unfold xJ at h
    split at h
    · rename_i h0
      simp only [xN, Option.some.injEq, Sum.inr.injEq, Sum.inl.injEq, Prod.mk.injEq] at h
      obtain ⟨rfl, rfl, rfl, rfl, rfl, rfl⟩ := h
      exact lv_goto hx hb hd (Int.toNat_of_nonneg h0).symm (K _ _ _ hl hlen hg ⟨hHs, hP, hn⟩ hS)
    · cases h
  | ifCond cd off =>
    replace h := xgo h
    obtain ⟨rfl, h⟩ := h
    split at h
    · split at h
      · rename_i h0
        refine xw_if hx hb hd (Int.toNat_of_nonneg h0).symm (fun q => ?_) (fun q => ?_)
        · rw [if_pos q] at h
          simp only [xN, Option.some.injEq, Sum.inr.injEq, Sum.inl.injEq, Prod.mk.injEq] at h
          obtain ⟨rfl, rfl, rfl, rfl, rfl, rfl⟩ := h
          exact K _ _ _ hl hlen hg ⟨hHs, hP, hn⟩ hS
        · rw [if_neg (by rw [q]; decide)] at h
          simp only [xN, Option.some.injEq, Sum.inr.injEq, Sum.inl.injEq, Prod.mk.injEq] at h
          obtain ⟨rfl, rfl, rfl, rfl, rfl, rfl⟩ := h
          exact K _ _ _ hl hlen hg ⟨hHs, hP, hn⟩ hS
      · cases h
    · cases h
  | if_icmp cd off =>
    replace h := xgo h
    obtain ⟨rfl, h⟩ := h
    split at h
    · split at h
      · rename_i h0
        refine xw_icmp hx hb hd (Int.toNat_of_nonneg h0).symm (fun q => ?_) (fun q => ?_)
        · rw [if_pos q] at h
          simp only [xN, Option.some.injEq, Sum.inr.injEq, Sum.inl.injEq, Prod.mk.injEq] at h
          obtain ⟨rfl, rfl, rfl, rfl, rfl, rfl⟩ := h
          exact K _ _ _ hl hlen hg ⟨hHs, hP, hn⟩ hS
        · rw [if_neg (by rw [q]; decide)] at h
          simp only [xN, Option.some.injEq, Sum.inr.injEq, Sum.inl.injEq, Prod.mk.injEq] at h
          obtain ⟨rfl, rfl, rfl, rfl, rfl, rfl⟩ := h
          exact K _ _ _ hl hlen hg ⟨hHs, hP, hn⟩ hS
      · cases h
    · cases h
  | tableswitch d lo hi offs =>
    simp only [xsi] at h
    split at h
    · split at h
      · rename_i hc
        unfold xJ at h
        split at h
        · rename_i h0
          simp only [xN, Option.some.injEq, Sum.inr.injEq, Sum.inl.injEq, Prod.mk.injEq] at h
          obtain ⟨rfl, rfl, rfl, rfl, rfl, rfl⟩ := h
          exact lv_tableOut hx hb hd hc (Int.toNat_of_nonneg h0).symm (K _ _ _ hl hlen hg ⟨hHs, hP, hn⟩ hS)
        · cases h
      · rename_i hc
        split at h
        · rename_i off ho
          unfold xJ at h
          split at h
          · rename_i h0
            simp only [xN, Option.some.injEq, Sum.inr.injEq, Sum.inl.injEq, Prod.mk.injEq] at h
            obtain ⟨rfl, rfl, rfl, rfl, rfl, rfl⟩ := h
            exact lv_tableIn hx hb hd (fun q => hc (Or.inl q)) (fun q => hc (Or.inr q)) ho (Int.toNat_of_nonneg h0).symm (K _ _ _ hl hlen hg ⟨hHs, hP, hn⟩ hS)
          · cases h
        · cases h
    · cases h
  | lookupswitch d ps =>
    simp only [xsi] at h
    split at h
    · split at h
      · rename_i hc
        unfold xJ at h
        split at h
        · rename_i h0
          simp only [xN, Option.some.injEq, Sum.inr.injEq, Sum.inl.injEq, Prod.mk.injEq] at h
          obtain ⟨rfl, rfl, rfl, rfl, rfl, rfl⟩ := h
          exact lv_lookup hx hb hd hc rfl (Int.toNat_of_nonneg h0).symm (K _ _ _ hl hlen hg ⟨hHs, hP, hn⟩ hS)
        · cases h
      · cases h
    · cases h
  | getfield idx =>
    replace h := xgo h
    obtain ⟨rfl, h⟩ := h
    split at h
    · rename_i ci k a r hf
      split at h
      · rename_i hc
        have haS : a < S.2.2 := hc.2
        have haN : a ≠ 1000 := xlt haS hn
        split at h
        · rename_i v hv
          simp only [xN, Option.some.injEq, Sum.inr.injEq, Sum.inl.injEq, Prod.mk.injEq] at h
          obtain ⟨rfl, rfl, rfl, rfl, rfl, rfl⟩ := h
          have hm := xFl_spec hf
          obtain ⟨hci, hk⟩ : ci < 7 ∧ k < (xCl ci).2.2 := xFT_k _ hm
          have hz : xz a = (xCl ci).2.2 := by
            rcases xlay_ok a (xlt2 haS hn) with q | q
            · rw [q.2, hc.1]
            · have q1 := hc.1; omega
          have hv2 : xv base b v = xfld base S a k := by
            unfold xgf at hv
            unfold xfld
            rw [hc.1]
            split at hv
            · rename_i h2
              rw [if_pos h2]
              split at hv
              · cases hv
              · rename_i j hj
                split at hv
                · cases hv
                · rename_i h3
                  cases hv
                  rw [xv_r h3]
                  rw [hj]
                  rfl
            · rename_i h2
              rw [if_neg h2]
              cases hv
              rfl
          have he : (xW base T S)[a]? = some (base + a, .inr (ci, (List.range (xz a)).map (xfld base S a))) := by
            rw [xW_at hc.2, xE_obj hc.1 hci]
          have K1 := K _ _ _ hl hlen hg ⟨hHs, hP, hn⟩ hS
          simp only [List.map_cons, hv2] at K1
          simp only [List.map_cons, xv_r haN]
          exact va_get (D := D) (own := xO (mO M)) (ref := (xT ci k).1) (C := (xCl ci).1) (T := (xCl ci).2.1) (N := (xCl ci).2.2) hx hb hts (xCl_in ci hci) hown hK hP a he (xO_cl ci hci).2 k hk (hts _ (xFT_ok _ hm)) (fun _ q => q) (v := xfld base S a k) (by rw [List.getElem?_map, List.getElem?_range (by omega)]; rfl) hd K1
        · cases h
      · cases h
    · cases h
  | putfield idx =>
    replace h := xgo h
    obtain ⟨rfl, h⟩ := h
    split at h
    · rename_i ci k x a r hf
      split at h
      · rename_i hc
        simp only [xN, Option.some.injEq, Sum.inr.injEq, Sum.inl.injEq, Prod.mk.injEq] at h
        obtain ⟨rfl, rfl, rfl, rfl, rfl, rfl⟩ := h
        have haS : a < S.2.2 := hc.2.1
        have haN : a ≠ 1000 := xlt haS hn
        have hm := xFl_spec hf
        obtain ⟨hci, hk⟩ : ci < 7 ∧ k < (xCl ci).2.2 := xFT_k _ hm
        have hz : xz a = (xCl ci).2.2 := by
          rcases xlay_ok a (xlt2 haS hn) with q | q
          · rw [q.2, hc.1]
          · have q1 := hc.1; omega
        have he : (xW base T S)[a]? = some (base + a, .inr (ci, (List.range (xz a)).map (xfld base S a))) := by
          rw [xW_at hc.2.1, xE_obj hc.1 hci]
        have hty : narrow (xty ci k) (.int x) = .int x ∧ fits (xty ci k) (.int x) = true := by
          rcases hc.2.2.2 with q | ⟨q, q2⟩
          · unfold xfk at q
            split at q <;> first | (rename_i h5; rw [h5]; exact ⟨rfl, rfl⟩) | cases q
          · unfold xfk at q
            split at q <;> first | (rename_i h5; rw [h5]; rcases q2 with rfl | rfl <;> exact ⟨by decide, by decide⟩) | cases q
        have hne : ¬ xfk (xk a) k = 2 := by rw [hc.1]; rcases hc.2.2.2 with q | q <;> omega
        have hset := xfs_set (base := base) (S := S) (S' := (S.1, xu S.2.1 a k x, S.2.2)) (a := a) (k := k) (n := xz a) (v := .int x) (by omega) (by
            show (if xfk (xk a) k = 2 then _ else Value.int (xu S.2.1 a k x a k)) = _
            rw [if_neg hne, xu_s, xp_s]) (fun j hj => by
            show (if xfk (xk a) j = 2 then va_rf (xrf base (S.1 a j)) else Value.int (xu S.2.1 a k x a j)) = (if xfk (xk a) j = 2 then va_rf (xrf base (S.1 a j)) else Value.int (S.2.1 a j))
            rw [xu_s, xp_n _ _ hj])
        simp only [List.map_cons, xv_r haN, xv_i]
        refine xa_put (D := D) (own := xO (mO M)) (C := (xCl ci).1) (T := (xCl ci).2.1) (N := (xCl ci).2.2) hx hb hts (xCl_in ci hci) (xty ci) (xCl_ty ci hci) (xCl_nm ci hci) hown hK hP hD hS a he (xO_cl ci hci).2 k hk (hts _ (xFT_ok _ hm)) ?_ (xCl_ty ci hci k hk) hty.1 hty.2 (by simp; omega) hd (fun H1 locs1 z1 hP1 hS1 => ?_)
        · rcases hc.2.2.1 with q | ⟨q1, q2⟩
          · exact Or.inl q
          · refine Or.inr ⟨hname q1, ?_⟩
            rw [← q2]
            have : ∀ ci, ci < 7 → ∀ k, k < (xCl ci).2.2 → (xT ci k).1 = xO ci := by decide +kernel
            exact this ci hci k hk
        · refine K _ _ _ hl hlen hg ⟨by rw [z1]; exact hHs, ?_, hn⟩ hS1
          rw [hset] at hP1
          have hE : xE base T (S.1, xu S.2.1 a k x, S.2.2) a = .inr (ci, (List.range (xz a)).map (xfld base (S.1, xu S.2.1 a k x, S.2.2) a)) := xE_obj hc.1 hci
          rw [← hE, xW_set (S := S) (S' := (S.1, xu S.2.1 a k x, S.2.2)) rfl (fun q hq => ⟨rfl, xu_n _ _ _ hq⟩)] at hP1
          exact hP1
      · cases h
    · rename_i ci k j a r hf
      split at h
      · rename_i hc
        simp only [xN, Option.some.injEq, Sum.inr.injEq, Sum.inl.injEq, Prod.mk.injEq] at h
        obtain ⟨rfl, rfl, rfl, rfl, rfl, rfl⟩ := h
        have haS : a < S.2.2 := hc.2.1
        have haN : a ≠ 1000 := xlt haS hn
        have hm := xFl_spec hf
        obtain ⟨hci, hk⟩ : ci < 7 ∧ k < (xCl ci).2.2 := xFT_k _ hm
        have hz : xz a = (xCl ci).2.2 := by
          rcases xlay_ok a (xlt2 haS hn) with q | q
          · rw [q.2, hc.1]
          · have q1 := hc.1; omega
        have he : (xW base T S)[a]? = some (base + a, .inr (ci, (List.range (xz a)).map (xfld base S a))) := by
          rw [xW_at hc.2.1, xE_obj hc.1 hci]
        have hty : narrow (xty ci k) (.ref (base + j)) = .ref (base + j) ∧ fits (xty ci k) (.ref (base + j)) = true := by
          have q := hc.2.2.2.1
          unfold xfk at q
          split at q <;> first | (rename_i h5; rw [h5]; exact ⟨rfl, rfl⟩) | cases q
        have hne : xfk (xk a) k = 2 := by rw [hc.1]; exact hc.2.2.2.1
        have hset := xfs_set (base := base) (S := S) (S' := (xu S.1 a k (j + 1), S.2.1, S.2.2)) (a := a) (k := k) (n := xz a) (v := .ref (base + j)) (by omega) (by
            show (if xfk (xk a) k = 2 then va_rf (xrf base (xu S.1 a k (j + 1) a k)) else _) = _
            rw [if_pos hne, xu_s, xp_s]
            rfl) (fun i hi => by
            show (if xfk (xk a) i = 2 then va_rf (xrf base (xu S.1 a k (j + 1) a i)) else Value.int (S.2.1 a i)) = (if xfk (xk a) i = 2 then va_rf (xrf base (S.1 a i)) else Value.int (S.2.1 a i))
            rw [xu_s, xp_n _ _ hi])
        simp only [List.map_cons, xv_r haN, xv_r (xlt hc.2.2.2.2 hn)]
        refine xa_put (D := D) (own := xO (mO M)) (C := (xCl ci).1) (T := (xCl ci).2.1) (N := (xCl ci).2.2) hx hb hts (xCl_in ci hci) (xty ci) (xCl_ty ci hci) (xCl_nm ci hci) hown hK hP hD hS a he (xO_cl ci hci).2 k hk (hts _ (xFT_ok _ hm)) ?_ (xCl_ty ci hci k hk) hty.1 hty.2 (by simp; omega) hd (fun H1 locs1 z1 hP1 hS1 => ?_)
        · rcases hc.2.2.1 with q | ⟨q1, q2⟩
          · exact Or.inl q
          · refine Or.inr ⟨hname q1, ?_⟩
            rw [← q2]
            have : ∀ ci, ci < 7 → ∀ k, k < (xCl ci).2.2 → (xT ci k).1 = xO ci := by decide +kernel
            exact this ci hci k hk
        · refine K _ _ _ hl hlen hg ⟨by rw [z1]; exact hHs, ?_, hn⟩ hS1
          rw [hset] at hP1
          have hE : xE base T (xu S.1 a k (j + 1), S.2.1, S.2.2) a = .inr (ci, (List.range (xz a)).map (xfld base (xu S.1 a k (j + 1), S.2.1, S.2.2) a)) := xE_obj hc.1 hci
          rw [← hE, xW_set (S := S) (S' := (xu S.1 a k (j + 1), S.2.1, S.2.2)) rfl (fun q hq => ⟨xu_n _ _ _ hq, rfl⟩)] at hP1
          exact hP1
      · cases h
    · cases h
  | iaload =>
    replace h := xgo h
    obtain ⟨rfl, h⟩ := h
    split at h
    · rename_i i a r
      split at h
      · rename_i ha
        subst ha
        split at h
        · cases h
        · rename_i hc
          simp only [xN, Option.some.injEq, Sum.inr.injEq, Sum.inl.injEq, Prod.mk.injEq] at h
          obtain ⟨rfl, rfl, rfl, rfl, rfl, rfl⟩ := h
          exact va_sld hx hb hX hbl hbA hS hc hd (K _ _ _ hl hlen hg ⟨hHs, hP, hn⟩ hS)
      · split at h
        · rename_i hc
          simp only [xN, Option.some.injEq, Sum.inr.injEq, Sum.inl.injEq, Prod.mk.injEq] at h
          obtain ⟨rfl, rfl, rfl, rfl, rfl, rfl⟩ := h
          simp only [List.map_cons, xv_r (xlt hc.2.1 hn), xv_i]
          exact va_iald hx hb hK hP a 0 (by rw [xW_at hc.2.1, xE_7 hc.1]) rfl hc.2.2 hd (K _ _ _ hl hlen hg ⟨hHs, hP, hn⟩ hS)
        · cases h
    · cases h
  | baload =>
    replace h := xgo h
    obtain ⟨rfl, h⟩ := h
    split at h
    · rename_i i a r
      split at h
      · rename_i hc
        simp only [xN, Option.some.injEq, Sum.inr.injEq, Sum.inl.injEq, Prod.mk.injEq] at h
        obtain ⟨rfl, rfl, rfl, rfl, rfl, rfl⟩ := h
        simp only [List.map_cons, xv_r (xlt hc.2.1 hn), xv_i]
        exact va_zald hx hb hK hP a 1 (by rw [xW_at hc.2.1, xE_8 hc.1]) rfl hc.2.2 hd (K _ _ _ hl hlen hg ⟨hHs, hP, hn⟩ hS)
      · cases h
    · cases h
  | aaload =>
    replace h := xgo h
    obtain ⟨rfl, h⟩ := h
    split at h
    · rename_i i a r
      split at h
      · rename_i hc
        split at h
        · cases h
        · rename_i j hj
          split at h
          · cases h
          · rename_i h3
            simp only [xN, Option.some.injEq, Sum.inr.injEq, Sum.inl.injEq, Prod.mk.injEq] at h
            obtain ⟨rfl, rfl, rfl, rfl, rfl, rfl⟩ := h
            simp only [List.map_cons, xv_r (xlt hc.2.1 hn), xv_i]
            refine va_aldq hx hb hK hP a 2 (by rw [xW_at hc.2.1, xE_9 hc.1]) rfl hc.2.2 hd ?_
            have K1 := K _ _ _ hl hlen hg ⟨hHs, hP, hn⟩ hS
            simp only [List.map_cons, xv_r h3] at K1
            simp only [hj]
            exact K1
      · cases h
    · cases h
  | iastore =>
    replace h := xgo h
    obtain ⟨rfl, h⟩ := h
    split at h
    · rename_i x i a r
      split at h
      · rename_i hc
        simp only [xN, Option.some.injEq, Sum.inr.injEq, Sum.inl.injEq, Prod.mk.injEq] at h
        obtain ⟨rfl, rfl, rfl, rfl, rfl, rfl⟩ := h
        simp only [List.map_cons, xv_r (xlt hc.2.1 hn), xv_i]
        refine xa_iast hx hb hK hP hD hS a 0 (by rw [xW_at hc.2.1, xE_7 hc.1]) rfl hc.2.2 hd (fun H1 locs1 z1 hP1 hS1 => ?_)
        refine K _ _ _ hl hlen hg ⟨by rw [z1]; exact hHs, ?_, hn⟩ hS1
        have hE : xE base T (S.1, xu S.2.1 a i.toNatClampNeg x, S.2.2) a = .inl (T.1, xz a, .inl (xp (S.2.1 a) i.toNatClampNeg x)) := by rw [xE_7 hc.1]; show Sum.inl (T.1, xz a, Sum.inl (xu S.2.1 a i.toNatClampNeg x a)) = _; rw [xu_s]
        rw [← hE, xW_set (S := S) (S' := (S.1, xu S.2.1 a i.toNatClampNeg x, S.2.2)) rfl (fun q hq => ⟨rfl, xu_n _ _ _ hq⟩)] at hP1
        exact hP1
      · cases h
    · cases h
  | bastore =>
    replace h := xgo h
    obtain ⟨rfl, h⟩ := h
    split at h
    · rename_i x i a r
      split at h
      · rename_i hc
        simp only [xN, Option.some.injEq, Sum.inr.injEq, Sum.inl.injEq, Prod.mk.injEq] at h
        obtain ⟨rfl, rfl, rfl, rfl, rfl, rfl⟩ := h
        simp only [List.map_cons, xv_r (xlt hc.2.1 hn), xv_i]
        refine xa_zast hx hb hK hP hD hS a 1 (by rw [xW_at hc.2.1, xE_8 hc.1]) rfl hc.2.2.1 hc.2.2.2 hd (fun H1 locs1 z1 hP1 hS1 => ?_)
        refine K _ _ _ hl hlen hg ⟨by rw [z1]; exact hHs, ?_, hn⟩ hS1
        have hE : xE base T (S.1, xu S.2.1 a i.toNatClampNeg x, S.2.2) a = .inl (T.2.1, xz a, .inl (xp (S.2.1 a) i.toNatClampNeg x)) := by rw [xE_8 hc.1]; show Sum.inl (T.2.1, xz a, Sum.inl (xu S.2.1 a i.toNatClampNeg x a)) = _; rw [xu_s]
        rw [← hE, xW_set (S := S) (S' := (S.1, xu S.2.1 a i.toNatClampNeg x, S.2.2)) rfl (fun q hq => ⟨rfl, xu_n _ _ _ hq⟩)] at hP1
        exact hP1
      · cases h
    · cases h
  | aastore =>
    replace h := xgo h
    obtain ⟨rfl, h⟩ := h
    split at h
    · rename_i v i a r
      split at h
      · rename_i hc
        simp only [xN, Option.some.injEq, Sum.inr.injEq, Sum.inl.injEq, Prod.mk.injEq] at h
        obtain ⟨rfl, rfl, rfl, rfl, rfl, rfl⟩ := h
        simp only [List.map_cons, xv_r (xlt hc.2.1 hn), xv_r (xlt hc.2.2.2.2 hn), xv_i]
        refine xa_astq hx hb hK hP hD hS a 2 v 3 (r := xCl 3) (by rw [xW_at hc.2.1, xE_9 hc.1]) rfl (by rw [xW_at hc.2.2.2.2, xE_obj hc.2.2.2.1 (by omega)]) (xO_cl 3 (by omega)).2 hc.2.2.1 hd (fun H1 locs1 z1 hP1 hS1 => ?_)
        refine K _ _ _ hl hlen hg ⟨by rw [z1]; exact hHs, ?_, hn⟩ hS1
        have hE : xE base T (xu S.1 a i.toNatClampNeg (v + 1), S.2.1, S.2.2) a = .inl (T.2.2, xz a, .inr (.inr (.inr (.inr (xp (fun k => xrf base (S.1 a k)) i.toNatClampNeg (some (base + v))))))) := by
          rw [xE_9 hc.1]
          congr 7
          funext k
          show xrf base (xu S.1 a i.toNatClampNeg (v + 1) a k) = _
          rw [xu_s]
          by_cases q : k = i.toNatClampNeg
          · subst q
            rw [xp_s, xp_s]
            rfl
          · rw [xp_n _ _ q, xp_n _ _ q]
        rw [← hE, xW_set (S := S) (S' := (xu S.1 a i.toNatClampNeg (v + 1), S.2.1, S.2.2)) rfl (fun q hq => ⟨xu_n _ _ _ hq, rfl⟩)] at hP1
        exact hP1
      · cases h
    · cases h
  | arraylength =>
    replace h := xgo h
    obtain ⟨rfl, h⟩ := h
    split at h
    · rename_i a r
      split at h
      · rename_i ha
        subst ha
        simp only [xN, Option.some.injEq, Sum.inr.injEq, Sum.inl.injEq, Prod.mk.injEq] at h
        obtain ⟨rfl, rfl, rfl, rfl, rfl, rfl⟩ := h
        exact va_slen hx hb hX hbl hbA hS hd (K _ _ _ hl hlen hg ⟨hHs, hP, hn⟩ hS)
      · cases h
    · cases h
  | new idx =>
    replace h := xgo h
    obtain ⟨rfl, h⟩ := h
    split at h
    · rename_i ci hf
      split at h
      · rename_i hc
        simp only [xN, Option.some.injEq, Sum.inr.injEq, Sum.inl.injEq, Prod.mk.injEq] at h
        obtain ⟨rfl, rfl, rfl, rfl, rfl, rfl⟩ := h
        have hm := xNl_spec hf
        have hci := xNT_k _ hm
        have hz : xz S.2.2 = (xCl ci).2.2 := by
          rcases xlay_ok S.2.2 (by omega) with q | q
          · rw [q.2, hc.1]
          · simp only at hci; rw [hc.1] at q; omega
        have hE : xE base T (xp S.1 S.2.2 (fun _ => 0), xp S.2.1 S.2.2 (fun _ => 0), S.2.2 + 1) S.2.2 = .inr (ci, (List.range (xz S.2.2)).map (xfld base (xp S.1 S.2.2 (fun _ => 0), xp S.2.1 S.2.2 (fun _ => 0), S.2.2 + 1) S.2.2)) := xE_obj hc.1 hci
        have hslots : ks + (xCl ci).2.2 ≤ R.slots := by rw [hRs, ← hz]; exact hc.2.2.2
        refine xa_new (D := D) (own := xO (mO M)) (C := (xCl ci).1) (T := (xCl ci).2.1) (N := (xCl ci).2.2) (ci := ci) (fs := (List.range (xz S.2.2)).map (xfld base (xp S.1 S.2.2 (fun _ => 0), xp S.2.1 S.2.2 (fun _ => 0), S.2.2 + 1) S.2.2)) hx hb hts (xCl_in ci hci) (xty ci) (xCl_ty ci hci) hown (hts _ (xNT_ok _ hm)) (hts _ (xCl_inst ci hci)) (hts _ (xCl_ini ci hci)) hK hP hS (xO_cl ci hci).2 ?_ (by rw [hRc]; exact hc.2.2.1) hslots hd (fun H1 z1 hP1 hS1 => ?_)
        · intro j hj
          have hj2 := xfk_ok ci hci j hj
          have e1 : vp_V ((List.range (xz S.2.2)).map (xfld base (xp S.1 S.2.2 (fun _ => 0), xp S.2.1 S.2.2 (fun _ => 0), S.2.2 + 1) S.2.2)) j = xfld base (xp S.1 S.2.2 (fun _ => 0), xp S.2.1 S.2.2 (fun _ => 0), S.2.2 + 1) S.2.2 j := by
            unfold vp_V
            rw [List.getD_eq_getElem?_getD, List.getElem?_map, List.getElem?_range (by omega)]
            rfl
          rw [e1]
          show _ = (if xfk (xk S.2.2) j = 2 then va_rf (xrf base (xp S.1 S.2.2 (fun _ => 0) S.2.2 j)) else Value.int (xp S.2.1 S.2.2 (fun _ => 0) S.2.2 j))
          rw [hc.1, xp_s, xp_s]
          unfold xfk at hj2 ⊢
          split at hj2 <;> first | (rename_i h5; rw [h5]; rfl) | (exact absurd hj2 (by decide))
        · rw [hHs, ← hE, xW_push (S := S) (S' := (xp S.1 S.2.2 (fun _ => 0), xp S.2.1 S.2.2 (fun _ => 0), S.2.2 + 1)) rfl (fun q hq => ⟨xp_n _ _ (Nat.ne_of_lt hq), xp_n _ _ (Nat.ne_of_lt hq)⟩)] at hP1
          have K1 := K H1 locs Ls hl hlen hg ⟨by rw [z1, hHs]; rfl, hP1, hc.2.1⟩ hS1
          simp only [List.map_cons, xv_r (show S.2.2 ≠ 1000 by omega)] at K1
          rw [hHs, ← hz]
          exact K1
      · cases h
    · cases h
  | newarray ty =>
    replace h := xgo h
    obtain ⟨rfl, h⟩ := h
    split at h
    · rename_i x r
      split at h
      · rename_i hc
        simp only [xN, Option.some.injEq, Sum.inr.injEq, Sum.inl.injEq, Prod.mk.injEq] at h
        obtain ⟨rfl, rfl, rfl, rfl, rfl, rfl⟩ := h
        have hz := xlay_z S.2.2 hc.2.1
        have hbig : ∀ k, k ≤ 1000 → k * 4 ≤ 536870912 := fun k hk => by omega
        have hbig1 : ∀ k, k ≤ 1000 → k * 1 ≤ 536870912 := fun k hk => by omega
        obtain ⟨h1, h2, h3, h4, h5, h6⟩ := hc
        rcases h1 with ⟨hty, hk⟩ | ⟨hty, hk⟩
        · have hcA : s.vm.findClass ("[" ++ (newarray.typeOf ty).toString) = some T.1 := by rw [hty]; exact (hK.2 0 _ rfl).2
          refine xa_newa (D := D) hx hb (by rw [hty]; exact hts _ xw_ai) hcA hP hS (N' := xz S.2.2) (a0 := (xz S.2.2, .inl (fun _ => 0))) (fun cA => by rw [hty]; rfl) h3 h4 (by rw [hty]; exact hbig _ hz) (by rw [hRc]; exact h5) (by rw [hRs]; exact h6) hd (fun H1 z1 hP1 hS1 => ?_)
          have hE : xE base T (xp S.1 S.2.2 (fun _ => 0), xp S.2.1 S.2.2 (fun _ => 0), S.2.2 + 1) S.2.2 = .inl (T.1, xz S.2.2, .inl (fun _ => 0)) := by
            rw [xE_7 hk]
            show Sum.inl (T.1, xz S.2.2, Sum.inl (xp S.2.1 S.2.2 (fun _ => 0) S.2.2)) = _
            rw [xp_s]
          rw [hHs, ← hE, xW_push (S := S) (S' := (xp S.1 S.2.2 (fun _ => 0), xp S.2.1 S.2.2 (fun _ => 0), S.2.2 + 1)) rfl (fun q hq => ⟨xp_n _ _ (Nat.ne_of_lt hq), xp_n _ _ (Nat.ne_of_lt hq)⟩)] at hP1
          have K1 := K H1 locs Ls hl hlen hg ⟨by rw [z1, hHs]; rfl, hP1, h2⟩ hS1
          simp only [List.map_cons, xv_r (show S.2.2 ≠ 1000 by omega)] at K1
          rw [hHs]
          exact K1
        · have hcA : s.vm.findClass ("[" ++ (newarray.typeOf ty).toString) = some T.2.1 := by rw [hty]; exact (hK.2 1 _ rfl).2
          refine xa_newa (D := D) hx hb (by rw [hty]; exact hts _ xw_az) hcA hP hS (N' := xz S.2.2) (a0 := (xz S.2.2, .inl (fun _ => 0))) (fun cA => by rw [hty]; rfl) h3 h4 (by rw [hty]; exact hbig1 _ hz) (by rw [hRc]; exact h5) (by rw [hRs]; exact h6) hd (fun H1 z1 hP1 hS1 => ?_)
          have hE : xE base T (xp S.1 S.2.2 (fun _ => 0), xp S.2.1 S.2.2 (fun _ => 0), S.2.2 + 1) S.2.2 = .inl (T.2.1, xz S.2.2, .inl (fun _ => 0)) := by
            rw [xE_8 hk]
            show Sum.inl (T.2.1, xz S.2.2, Sum.inl (xp S.2.1 S.2.2 (fun _ => 0) S.2.2)) = _
            rw [xp_s]
          rw [hHs, ← hE, xW_push (S := S) (S' := (xp S.1 S.2.2 (fun _ => 0), xp S.2.1 S.2.2 (fun _ => 0), S.2.2 + 1)) rfl (fun q hq => ⟨xp_n _ _ (Nat.ne_of_lt hq), xp_n _ _ (Nat.ne_of_lt hq)⟩)] at hP1
          have K1 := K H1 locs Ls hl hlen hg ⟨by rw [z1, hHs]; rfl, hP1, h2⟩ hS1
          simp only [List.map_cons, xv_r (show S.2.2 ≠ 1000 by omega)] at K1
          rw [hHs]
          exact K1
      · cases h
    · cases h
  | anewarray idx =>
    replace h := xgo h
    obtain ⟨rfl, h⟩ := h
    split at h
    · rename_i ci x r hf
      split at h
      · rename_i hc
        simp only [xN, Option.some.injEq, Sum.inr.injEq, Sum.inl.injEq, Prod.mk.injEq] at h
        obtain ⟨rfl, rfl, rfl, rfl, rfl, rfl⟩ := h
        obtain ⟨rfl, hk, h2, h3, h4, h5, h6⟩ := hc
        have hm := xNl_spec hf
        have hz := xlay_z S.2.2 h2
        have hcA : s.vm.findClass ("[" ++ (FieldType.object RX3).toString) = some T.2.2 := by
          obtain ⟨kA, comp, q1, q2, q3, q4⟩ := (hK.2 2 _ rfl).2
          exact q4
        refine xa_newq (D := D) (own := xO (mO M)) (C := RX3) hx hb hown (hts _ (xNT_ok _ hm)) hAO hcA hP hS (N' := xz S.2.2) h3 h4 (by omega) (by rw [hRc]; exact h5) (by rw [hRs]; exact h6) hd (fun H1 z1 hP1 hS1 => ?_)
        have hE : xE base T (xp S.1 S.2.2 (fun _ => 0), xp S.2.1 S.2.2 (fun _ => 0), S.2.2 + 1) S.2.2 = .inl (T.2.2, xz S.2.2, .inr (.inr (.inr (.inr (fun _ => none))))) := by
          rw [xE_9 hk]
          congr 7
          funext k
          show xrf base (xp S.1 S.2.2 (fun _ => 0) S.2.2 k) = _
          rw [xp_s]
          rfl
        rw [hHs, ← hE, xW_push (S := S) (S' := (xp S.1 S.2.2 (fun _ => 0), xp S.2.1 S.2.2 (fun _ => 0), S.2.2 + 1)) rfl (fun q hq => ⟨xp_n _ _ (Nat.ne_of_lt hq), xp_n _ _ (Nat.ne_of_lt hq)⟩)] at hP1
        have K1 := K H1 locs Ls hl hlen hg ⟨by rw [z1, hHs]; rfl, hP1, h2⟩ hS1
        simp only [List.map_cons, xv_r (show S.2.2 ≠ 1000 by omega)] at K1
        rw [hHs]
        exact K1
      · cases h
    · cases h
  | invokestatic idx =>
    replace h := xgo h
    obtain ⟨rfl, h⟩ := h
    split at h
    · rename_i mi nst hf
      have hm := xMl_spec hf
      split at h
      · rename_i hmi
        subst hmi
        split at h
        · split at h
          · rename_i y x r hc
            simp only [xN, Option.some.injEq, Sum.inr.injEq, Sum.inl.injEq, Prod.mk.injEq] at h
            obtain ⟨rfl, rfl, rfl, rfl, rfl, rfl⟩ := h
            obtain ⟨rfl, h1, h2, h3, h4⟩ := hc
            refine va_mmax hx hb (by rw [hml, hl.1, hlen]) hown (hts _ (xLk_ok _ hm rfl)) (hts _ xw_mmaxs) (hts _ xw_mi) (hts _ xw_mmaxc) (by omega) ?_ (by omega) (by omega) hd (K _ _ _ hl hlen hg ⟨hHs, hP, hn⟩ hS)
            rw [List.map_map, hRl]
            have e1 : ((fun v : Value => v.category) ∘ xv base b) = xc2 := by
              funext v
              exact xv_cat base b v
            rw [e1]
            exact h2
          · cases h
        · cases h
      · split at h
        · rename_i hmi
          subst hmi
          split at h
          · split at h
            · rename_i y x r hc
              simp only [xN, Option.some.injEq, Sum.inr.injEq, Sum.inl.injEq, Prod.mk.injEq] at h
              obtain ⟨rfl, rfl, rfl, rfl, rfl, rfl⟩ := h
              obtain ⟨rfl, h1, h2, h3, h4⟩ := hc
              refine va_mmin hx hb (by rw [hml, hl.1, hlen]) hown (hts _ (xLk_ok _ hm rfl)) (hts _ xw_mmins) (hts _ xw_mi) (hts _ xw_mminc) (by omega) ?_ (by omega) (by omega) hd (K _ _ _ hl hlen hg ⟨hHs, hP, hn⟩ hS)
              rw [List.map_map, hRl]
              have e1 : ((fun v : Value => v.category) ∘ xv base b) = xc2 := by
                funext v
                exact xv_cat base b v
              rw [e1]
              exact h2
            · cases h
          · cases h
        · split at h
          · cases h
          · split at h
            · split at h
              · unfold xcl at h
                split at h <;> cases h
              · cases h
            · cases h
    · cases h
  | invokevirtual idx =>
    replace h := xgo h
    obtain ⟨rfl, h⟩ := h
    split at h
    · split at h
      · cases h
      · split at h
        · split at h
          · split at h
            · unfold xcl at h
              split at h <;> cases h
            · cases h
          · cases h
        · cases h
    · cases h
  | invokespecial idx =>
    replace h := xgo h
    obtain ⟨rfl, h⟩ := h
    split at h
    · rename_i mi nst hf
      have hm := xMl_spec hf
      split at h
      · rename_i hmi
        subst hmi
        split at h
        · split at h
          · rename_i a r hc
            simp only [xN, Option.some.injEq, Sum.inr.injEq, Sum.inl.injEq, Prod.mk.injEq] at h
            obtain ⟨rfl, rfl, rfl, rfl, rfl, rfl⟩ := h
            obtain ⟨rfl, h1, h2⟩ := hc
            refine W.objInit hx hb hown (hts _ (xLk_ok _ hm rfl)) (hts _ xw_oi) (hts _ xw_oc) rfl (by show Ls.size = _; rw [hml, hl.1, hlen]) rfl hd (by omega) ?_ (K _ _ _ hl hlen hg ⟨hHs, hP, hn⟩ hS)
            rw [List.map_map, hRl]
            have e1 : ((fun v : Value => v.category) ∘ xv base b) = xc2 := by
              funext v
              exact xv_cat base b v
            rw [e1]
            show 2 * 0 + _ + 12 ≤ _
            omega
          · cases h
        · cases h
      · split at h
        · cases h
        · split at h
          · split at h
            · split at h
              · unfold xcl at h
                split at h <;> cases h
              · cases h
            · cases h
          · cases h
    · cases h
  | ireturn =>
    replace h := xgo h
    obtain ⟨rfl, h⟩ := h
    split at h
    · split at h <;> cases h
    · cases h
  | return_ =>
    replace h := xgo h
    obtain ⟨rfl, h⟩ := h
    split at h
    · split at h <;> cases h
    · cases h
  | _ => cases h
