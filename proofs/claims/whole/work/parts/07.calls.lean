/-! soundness: returns, calls, whole runs -/
def xroom (M : xM) : Room := { frames := mF M, cells := mC M, slots := mS M, locals := mW M }
def xU (base b L : Nat) (xs : Nat → Int32) (D : va_G) (T : ClassId × ClassId × ClassId) (S : xS) (U : State) : Prop :=
  xHR base T D S U.heap ∧ va_K D vwCl (xtys T) U ∧ (va_X b L xs U U.heap ∧ b < base ∧ base ≤ U.heap.size) ∧ va_AO RX3 U ∧ ∀ w ∈ xNs, va_Nw w U
def xRt (M : xM) (r : Option Value) (pc : Nat) : Prop := (r = none ∧ decode (mB M) pc = .ok (.return_, 1) ∧ mR M = none) ∨ ∃ x : Int32, r = some (.int x) ∧ decode (mB M) pc = .ok (.ireturn, 1) ∧ (mR M = some .int ∨ (mR M = some .boolean ∧ (x = 0 ∨ x = 1)))
def xSnd (l : Launch) (base b L : Nat) (xs : Nat → Int32) (D : va_G) (T : ClassId × ClassId × ClassId) (f : Nat) : Prop :=
  ∀ (M : xM) (pc : Nat) (ls st : List Value) (S : xS) (kc ks : Nat) (r : Option Value) (S' : xS), xrun (xs, L) f M pc ls st S kc ks = some (r, S') →
  ∀ {p : Program} {e : Env} {R : Room} {s : State} {m : MethodId} {args : Array Value} {below : List Frame} {meth : Method} {c : Code} {Q : State → Prop} {H : Heap} {locs : List Loc} {Ls : Array Slot},
    xCx p s m args meth c R base b L xs D T M → xLR base b Ls ls → ls.length = mL M → (mG M = true ∨ ∀ v ∈ ls, xlg v = false) → xHR base T D S H → va_S (xA base) s.heap H locs →
    (∀ (pc1 : Nat) (H1 : Heap) (locs1 : List Loc) (Ls1 : Array Slot), xRt M r pc1 → xHR base T D S' H1 → va_S (xA base) s.heap H1 locs1 → W p l e R s m args below meth c H1 locs1 (mC M) (mS M) Q (F0 m pc1 Ls1 (r.toList.map (xv base b)))) →
    W p l e R s m args below meth c H locs kc ks Q (F0 m pc Ls (st.map (xv base b)))
set_option maxHeartbeats 4000000 in
theorem xsi_ret {X : (Nat → Int32) × Nat} {M : xM} {pc : Nat} {ls st : List Value} {S : xS} {kc ks : Nat} {i : Instr} {len : Nat} {z : Option Value × xS} (hd : decode (mB M) pc = .ok (i, len)) (h : xsi X M pc ls st S kc ks i len = some (.inl z)) : xRt M z.1 pc ∧ st = z.1.toList ∧ z.2 = S ∧ kc ≤ mC M ∧ ks ≤ mS M := by
  cases i with
  | ireturn =>
    replace h := xI_some h
    obtain ⟨rfl, h⟩ := h
    split at h
    · split at h
      · rename_i v hc
        cases h
        exact ⟨Or.inr ⟨v, rfl, hd, hc.2.2⟩, rfl, rfl, hc.1, hc.2.1⟩
      · cases h
    · cases h
  | return_ =>
    replace h := xI_some h
    obtain ⟨rfl, h⟩ := h
    split at h
    · split at h
      · rename_i hc
        cases h
        exact ⟨Or.inl ⟨rfl, hd, hc.2.2⟩, rfl, rfl, hc.1, hc.2.1⟩
      · cases h
    · cases h
  | _ =>
    simp only [xsi, xI, xN, xJ, xs1, xcl] at h
    repeat' (split at h)
    all_goals cases h
theorem xfit_spec {M N : xM} {as rest : List Value} {kc ks : Nat} (h : xfit M N as rest kc ks = true) : mF N + 1 ≤ mF M ∧ 8 + (mL N + 11) + mW N ≤ mW M ∧ kc + mC N ≤ mC M ∧ ks + mS N ≤ mS M ∧ (rest.map xc2).sum ≤ 8 ∧ (mG N = true ∨ ∀ v ∈ as, xlg v = false) ∧ (xfl as).length ≤ mL N := by
  unfold xfit at h
  simp only [Bool.and_eq_true, decide_eq_true_eq, Bool.or_eq_true, List.all_eq_true, Bool.not_eq_true'] at h
  obtain ⟨⟨⟨⟨⟨⟨h1, h2⟩, h3⟩, h4⟩, h5⟩, h6⟩, h7⟩ := h
  exact ⟨h1, h2, h3, h4, h5, h6, h7⟩
theorem xent_len {as : List Value} {n : Nat} (h : (xfl as).length ≤ n) : (xent as n).length = n := by
  simp [xent]
  omega
theorem xent_lg {as : List Value} {n : Nat} (h : ∀ v ∈ as, xlg v = false) : ∀ v ∈ xent as n, xlg v = false := by
  intro v hv
  rcases List.mem_append.mp hv with hv | hv
  · obtain ⟨w, hw, hv⟩ := List.mem_flatMap.mp hv
    rw [if_neg (by rw [h w hw]; decide)] at hv
    rw [List.mem_singleton.mp hv]
    exact h w hw
  · rw [List.eq_of_mem_replicate hv]
    rfl
theorem xNs_form : ∀ w ∈ xNs, ∃ (a : String) (i : Nat) (x : MethodName) (h : String), w = .methodLinkNest a i x h := by
  intro w hw
  have e : xNs = [.methodLinkNest RX4 103 yX5_isOutside RX5, .methodLinkNest RX3 87 yX5_older RX5] := by decide +kernel
  rw [e] at hw
  simp only [List.mem_cons, List.not_mem_nil, or_false] at hw
  rcases hw with rfl | rfl <;> exact ⟨_, _, _, _, rfl⟩
theorem xU_warm {base b L : Nat} {xs : Nat → Int32} {D : va_G} {T : ClassId × ClassId × ClassId} {S : xS} {s U : State} (hW : s.WarmedH U.vm) (hH : xHR base T D S U.heap) (hK : va_K D vwCl (xtys T) s) (hX : va_X b L xs s U.heap) (hbb : b < base) (hAO : va_AO RX3 s) (hNw : ∀ w ∈ xNs, va_Nw w s) : xU base b L xs D T S U := by
  refine ⟨hH, va_K.moved hW.alike hK, ⟨va_X.moved hW.alike hX, hbb, by rw [hH.1]; exact Nat.le_add_right _ _⟩, va_AO.moved hW.alike hAO, fun w hw => ?_⟩
  obtain ⟨a, i, x, h, rfl⟩ := xNs_form w hw
  exact va_Nw.warmM hW (hNw _ hw)
theorem xU_blind {base b L : Nat} {xs : Nat → Int32} {D : va_G} {T : ClassId × ClassId × ClassId} {S : xS} {av : List Value} : FrameBlind (va_Pc av (xU base b L xs D T S)) := by
  intro a U g mk q
  obtain ⟨q0, qH, qK, ⟨qX, qb, qs⟩, qA, qN⟩ := q
  refine ⟨q0, qH, va_K.moved (u := U) (U := U.calling g mk a) (Vm.Alike.refl U.vm) qK, ⟨va_X.moved (u := U) (U := U.calling g mk a) (Vm.Alike.refl U.vm) qX, qb, qs⟩, va_AO.moved (u := U) (U := U.calling g mk a) (Vm.Alike.refl U.vm) qA, fun w hw => ?_⟩
  obtain ⟨a1, i, x, h, rfl⟩ := xNs_form w hw
  exact va_Nw.same (u := U) (U := U.calling g mk a) rfl rfl (qN _ hw)
abbrev xQc (base b : Nat) (D : va_G) (T : ClassId × ClassId × ClassId) (r : Option Value) (S : xS) : Array Value → State → Outcome → State → Prop := fun _ st oc t => oc = .returned (r.map (xv base b)) ∧ xHR base T D S t.heap ∧ va_F (xA base) st t
theorem xgood (N : xM) (hN : N ∈ xMT) : GoodIn xwt (xMc1 N :: xwt) := by
  intro w hw
  rcases List.mem_cons.mp hw with rfl | hw
  · exact ⟨xMT_c1 N hN, Or.inl rfl⟩
  · exact ⟨hw, good_of_word (xwt_good w hw).2⟩
theorem xMd_spec {N : xM} (hN : N ∈ xMT) : plainName (mY N).cls = true ∧ (mY N).cls ≠ "java/lang/invoke/MethodHandle" ∧ (mY N).cls ≠ "java/lang/invoke/VarHandle" ∧ (parseMethodDescriptor (mY N).desc).map (fun d => d.parameters.length) = some (mN N) ∧ (mY N).cls = xO (mO N) ∧ (mK N = 1 → mO N < 7) ∧ (mK N = 2 → (mY N).name = "<init>" ∧ mR N = none) := by
  have h := xMT_d N hN
  unfold xMd at h
  simp only [Bool.and_eq_true, decide_eq_true_eq, Bool.or_eq_true] at h
  obtain ⟨⟨⟨⟨⟨⟨h1, h2⟩, h3⟩, h4⟩, h5⟩, h6⟩, h7⟩ := h
  exact ⟨h1, h2, h3, h4, h5, fun q => h6.resolve_left (fun z => z q), fun q => h7.resolve_left (fun z => z q)⟩
/-- a run of the abstract machine is a contract -/
theorem xmet {l : Launch} {base b L : Nat} {xs : Nat → Int32} {D : va_G} {T : ClassId × ClassId × ClassId} {f : Nat} (ih : xSnd l base b L xs D T f) {N : xM} (hN : N ∈ xMT) {as : List Value} {S : xS} {r : Option Value} {S' : xS} (hr : xrun (xs, L) f N 0 (xent as (mL N)) [] S 0 0 = some (r, S')) (hg : mG N = true ∨ ∀ v ∈ as, xlg v = false) (hl : (xfl as).length ≤ mL N) :
    Met l (mY N) (xMc1 N :: xwt) (xroom N) (va_Pc (as.map (xv base b)) (xU base b L xs D T S)) (xQc base b D T r S') (mC N) (mS N) (xA base) := by
  refine Met.ofW (cc := mB N) (maxL := mL N) (ret := mR N) (xMd_spec hN).1 rfl ?_
  intro p e s m args below meth c s₁ B hml hv
  obtain ⟨rfl, hH, hK, ⟨hX, hbb, hbs⟩, hAO, hNw⟩ := hv
  have hts0 := atoms_spec (ws := xMc1 N :: xwt) B.pre
  have hown : s.vm.findClass (xO (mO N)) = some m.cls := by
    rw [← (xMd_spec hN).2.2.2.2.1]
    exact findClass_of_methodNamed B.named
  have hlocks := B.notSynchronized
  have hrt := B.returns
  have hname : meth.name = (mY N).name := (name_of_methodNamed B.named B.method).1
  have C : xCx p s m (as.map (xv base b)).toArray meth c (headSpec (xMc1 N :: xwt) (xroom N)).room base b L xs D T N := ⟨B.exec, B.bytes, hml, hown, fun w hw => hts0 w (List.mem_cons_of_mem _ hw), fun q => hname.trans q, ⟨rfl, rfl, rfl, rfl⟩, hK, ⟨hX, hbb, hbs⟩, hAO, hNw⟩
  rw [lg_entry_eq]
  refine ih N 0 (xent as (mL N)) [] S 0 0 r S' hr C (xLR_entry base b as (mL N) hl) (xent_len hl) (hg.imp id xent_lg) hH va_S.rf (fun pc1 H1 locs1 Ls1 hRt hH1 hS1 => ?_)
  have hq : ∀ t : State, t.heap = H1 → s.WarmedH t.vm → xQc base b D T r S' (as.map (xv base b)).toArray s (.returned (r.map (xv base b))) t := fun t ht hW => ⟨rfl, by rw [ht]; exact hH1, hS1.F ht⟩
  rcases hRt with ⟨rfl, hd1, hR1⟩ | ⟨x, rfl, hd1, hR1⟩
  · exact W.vret B.exec B.bytes (by rw [hrt]; exact hR1) hq hS1.2.2 hd1
  · rcases hR1 with hR1 | ⟨hR1, hx⟩
    · exact W.iret B.exec B.bytes (by rw [hrt]; exact hR1) hq hS1.2.2 hd1
    · exact W.zret (ty := .boolean) B.exec B.bytes (by rw [hrt]; exact hR1) (by rcases hx with rfl | rfl <;> decide) hq hS1.2.2 hd1
theorem xback {p : Program} {l : Launch} {e : Env} {R : Room} {s : State} {m : MethodId} {args : Array Value} {below : List Frame} {meth : Method} {c : Code} {H : Heap} {locs : List Loc} {cells slots mc ms : Nat} {Q : State → Prop} {pc : Nat} {Ls : Array Slot} {rest st0 : List Value} {base b : Nat} {D : va_G} {T : ClassId × ClassId × ClassId} {r : Option Value} {S' : xS} {a : Array Value}
    (hr : va_Run p l e R s m args below meth c H locs cells slots mc ms (F0 m pc Ls st0) rest (xQc base b D T r S' a) (xA base)) (hS : va_S (xA base) s.heap H locs)
    (kk : ∀ (H1 : Heap) (locs1 : List Loc), xHR base T D S' H1 → va_S (xA base) s.heap H1 locs1 → W p l e R s m args below meth c H1 locs1 (cells + mc) (slots + ms) Q (F0 m (pc + 3) Ls ((r.map (xv base b)).toList ++ rest))) : W p l e R s m args below meth c H locs cells slots Q (F0 m pc Ls st0) := by
  intro T0 hT X
  obtain ⟨v, st₀, t, T', L, h0, X', hL, e1, e2, ⟨hv, hH, hz, hk⟩, st⟩ := hr T0 hT X
  cases hv
  rw [h0] at hz hk
  obtain ⟨t2, a1, b1⟩ := kk T'.heap (locs ++ L) (by rw [e1]; exact hH)
    ⟨Nat.le_trans hS.1 (by rw [e1]; exact hz), fun q h1 h2 => by rw [e1, hk q (Nat.lt_of_lt_of_le h1 hS.1) h2]; exact hS.2.1 q h1 h2, fun q hq => by
      rcases List.mem_append.mp hq with h | h
      · exact hS.2.2 q h
      · exact hL q h⟩ T' rfl X'
  exact ⟨t2, st t2 a1, b1⟩
theorem xstk {st : List Value} {n : Nat} {f : Value → Value} : st.map f = (((st.take n).reverse).map f).reverse ++ (st.drop n).map f := by
  rw [← List.map_reverse, List.reverse_reverse, ← List.map_append, List.take_append_drop]
set_option maxHeartbeats 4000000 in
theorem xcalls {p : Program} {l : Launch} {e : Env} {R : Room} {s : State} {m : MethodId} {args : Array Value} {below : List Frame} {meth : Method} {c : Code} {Q : State → Prop} {base b L : Nat} {xs : Nat → Int32} {D : va_G} {T : ClassId × ClassId × ClassId} {M : xM} {f : Nat} (ih : xSnd l base b L xs D T f)
    (C : xCx p s m args meth c R base b L xs D T M) {pc : Nat} {ls st : List Value} {S : xS} {kc ks : Nat} {i : Instr} {len : Nat} (hd : decode (mB M) pc = .ok (i, len)) {N : xM} {as : List Value} {pc' : Nat} {rest : List Value} {kc' ks' : Nat} (h : xsi (xs, L) M pc ls st S kc ks i len = some (.inr (.inr (N, as, pc', rest, kc', ks'))))
    {r : Option Value} {S' : xS} (hrun : xrun (xs, L) f N 0 (xent as (mL N)) [] S 0 0 = some (r, S'))
    {H : Heap} {locs : List Loc} {Ls : Array Slot} (hl : xLR base b Ls ls) (hlen : ls.length = mL M) (hH : xHR base T D S H) (hS : va_S (xA base) s.heap H locs)
    (K : ∀ (H' : Heap) (locs' : List Loc), xHR base T D S' H' → va_S (xA base) s.heap H' locs' → W p l e R s m args below meth c H' locs' kc' ks' Q (F0 m pc' Ls ((r.toList ++ rest).map (xv base b)))) : W p l e R s m args below meth c H locs kc ks Q (F0 m pc Ls (st.map (xv base b))) := by
  obtain ⟨hx, hb, hml, hown, hts, hname, ⟨hRf, hRl, hRc, hRs⟩, hK, ⟨hX, hbb, hbs⟩, hAO, hNw⟩ := C
  have hXH : va_X b L xs s H := hX.kept (hS.2.1 b (Nat.lt_of_lt_of_le hbb hbs) (Nat.not_le.mpr hbb))
  have hU : ∀ U : State, U.heap = H → s.WarmedH U.vm → xU base b L xs D T S U := fun U hU hW => xU_warm hW (by rw [hU]; exact hH) hK (by rw [hU]; exact hXH) hbb hAO hNw
  have fin : ∀ (r1 : List Value), rest = r1 → (r.map (xv base b)).toList ++ r1.map (xv base b) = (r.toList ++ rest).map (xv base b) := by
    intro r1 h1
    subst h1
    cases r <;> simp
  have hsum : ∀ r1 : List Value, (r1.map xc2).sum ≤ 8 → ((r1.map (xv base b)).map fun v => v.category).sum ≤ 8 := by
    intro r1 h1
    rw [List.map_map]
    have e1 : ((fun v : Value => v.category) ∘ xv base b) = xc2 := by
      funext v
      exact xv_cat base b v
    rw [e1]
    exact h1
  cases i with
  | invokestatic idx =>
    replace h := xI_some h
    obtain ⟨rfl, h⟩ := h
    split at h
    · rename_i mi nst hf
      have hm := xMl_spec hf
      split at h
      · split at h
        · split at h <;> cases h
        · cases h
      · split at h
        · split at h
          · split at h <;> cases h
          · cases h
        · split at h
          · cases h
          · rename_i n1 n2 n3
            split at h
            · rename_i N1 hN1
              split at h
              · rename_i hc
                unfold xcl at h
                split at h
                · rename_i hfit
                  simp only [Option.some.injEq, Sum.inr.injEq, Prod.mk.injEq] at h
                  obtain ⟨rfl, rfl, rfl, rfl, rfl, rfl⟩ := h
                  obtain ⟨f1, f2, f3, f4, f5, f6, f7⟩ := xfit_spec hfit
                  have hmem : N1 ∈ xMT := List.mem_of_getElem? hN1
                  obtain ⟨d1, d2, d3, d4, d5, d6, d7⟩ := xMd_spec hmem
                  have hM := xmet ih hmem hrun f6 f7
                  have hst : (Cond.static (mY N1)).before args s = true := by
                    have q := xMT_c3 N1 hmem
                    unfold xMc3 at q
                    rw [if_pos hc.1] at q
                    exact hts _ q
                  have hini : (Cond.initialized (mY N1).cls).before args s = true := hts _ (xMT_c2 N1 hmem)
                  have hnth : (xMT[mi]?).getD mL_law = N1 := by rw [hN1]; rfl
                  rw [xstk (n := mN N1)]
                  by_cases hz : nst = 0
                  · have hlk : (Cond.methodLink (xO (mO M)) idx (mY N1)).before args s = true := by
                      have q := xLk_ok _ hm hz
                      unfold xLc at q
                      rw [if_neg n3, if_neg n1, if_neg n2, if_pos hz, hnth] at q
                      exact hts _ q
                    refine xback (va_runS (Ts := xwt) (nL := mL M) (n := mN N1) (mc := mC N1) (ms := mS N1) (As := ((st.take (mN N1)).reverse).map (xv base b)) (rest := (st.drop (mN N1)).map (xv base b)) ⟨hx, hb, hml, hown, hts⟩ hM ⟨callB_of (mN N1) hts (xgood N1 hmem) rfl rfl rfl hini hlk ⟨d2, d3, d4⟩ ⟨by rw [hRf]; exact f1, by rw [hRl]; exact f2⟩, hst⟩ ⟨xU_blind, fun U h1 h2 => ⟨rfl, hU U h1 h2⟩⟩ rfl (by simp; omega) (by rw [← hlen]; exact hl.1) rfl (lv_room (hsum _ f5)) hd ⟨by rw [hRc]; exact f3, by rw [hRs]; exact f4⟩) hS (fun H1 locs1 q1 q2 => ?_)
                    rw [fin _ rfl]
                    exact K H1 locs1 q1 q2
                  · have hlk : va_Nw (.methodLinkNest (xO (mO M)) idx (mY N1) RX5) s := by
                      have q : xLc (mO M, idx, mi, nst) ∈ xNs := List.mem_map_of_mem (List.mem_filter.mpr ⟨hm, by simp [hz]⟩)
                      have q2 := hNw _ q
                      unfold xLc at q2
                      rw [if_neg n3, if_neg n1, if_neg n2, if_neg hz, hnth] at q2
                      exact q2
                    refine xback (va_runSN (Ts := xwt) (nL := mL M) (n := mN N1) (mc := mC N1) (ms := mS N1) (As := ((st.take (mN N1)).reverse).map (xv base b)) (rest := (st.drop (mN N1)).map (xv base b)) ⟨hx, hb, hml, hown, hts⟩ hM ⟨va_cnB (mN N1) hts (xgood N1 hmem) rfl rfl rfl hlk hini ⟨d2, d3, d4⟩ ⟨by rw [hRf]; exact f1, by rw [hRl]; exact f2⟩, hst, trivial⟩ ⟨xU_blind, fun U h1 h2 => ⟨rfl, hU U h1 h2⟩⟩ rfl (by simp; omega) (by rw [← hlen]; exact hl.1) rfl (lv_room (hsum _ f5)) hd ⟨by rw [hRc]; exact f3, by rw [hRs]; exact f4⟩) hS (fun H1 locs1 q1 q2 => ?_)
                    rw [fin _ rfl]
                    exact K H1 locs1 q1 q2
                · cases h
              · cases h
            · cases h
    · cases h
  | invokevirtual idx =>
    replace h := xI_some h
    obtain ⟨rfl, h⟩ := h
    split at h
    · rename_i mi nst hf
      have hm := xMl_spec hf
      split at h
      · cases h
      · rename_i n1
        split at h
        · rename_i N1 hN1
          split at h
          · rename_i a r1 hdrop
            split at h
            · rename_i hc
              unfold xcl at h
              split at h
              · rename_i hfit
                simp only [Option.some.injEq, Sum.inr.injEq, Prod.mk.injEq] at h
                obtain ⟨rfl, rfl, rfl, rfl, rfl, rfl⟩ := h
                obtain ⟨f1, f2, f3, f4, f5, f6, f7⟩ := xfit_spec hfit
                obtain ⟨hz, hk, hle, hka, haS⟩ := hc
                have hmem : N1 ∈ xMT := List.mem_of_getElem? hN1
                obtain ⟨d1, d2, d3, d4, d5, d6, d7⟩ := xMd_spec hmem
                have hM := xmet ih hmem hrun f6 f7
                have hst : (Cond.instanceMethod (mY N1)).before args s = true := by
                  have q := xMT_c3 N1 hmem
                  unfold xMc3 at q
                  rw [if_neg (by rw [hk]; decide)] at q
                  exact hts _ q
                have hsel : (Cond.selects (mY N1).cls (mY N1) (mY N1)).before args s = true := by
                  have q := xMT_c4 N1 hmem
                  unfold xMc4 at q
                  rw [if_pos hk] at q
                  exact hts _ q
                have hini : (Cond.initialized (mY N1).cls).before args s = true := hts _ (xMT_c2 N1 hmem)
                have hnth : (xMT[mi]?).getD mL_law = N1 := by rw [hN1]; rfl
                have haN : a ≠ 1000 := xlt haS hH.2.2
                have hci := d6 hk
                have hlk : (Cond.methodLink (xO (mO M)) idx (mY N1)).before args s = true := by
                  have q := xLk_ok _ hm hz
                  unfold xLc at q
                  rw [if_neg (fun q => n1 (Or.inl q)), if_neg (fun q => n1 (Or.inr (Or.inl q))), if_neg (fun q => n1 (Or.inr (Or.inr q))), if_pos hz, hnth] at q
                  exact hts _ q
                have hcls : (mY N1).cls = (xCl (mO N1)).1 := d5.trans (xO_cl (mO N1) hci).1
                rw [xstk (n := mN N1), hdrop]
                simp only [List.map_cons, xv_r haN]
                simp only [List.map_cons, xv_r haN] at hM
                refine xback (va_runV (Ts := xwt) (nL := mL M) (n := mN N1) (mc := mC N1) (ms := mS N1) (C := (mY N1).cls) (b := base + a) (As := ((st.take (mN N1)).reverse).map (xv base b)) (rest := r1.map (xv base b)) ⟨hx, hb, hml, hown, hts⟩ hM ⟨callB_of (mN N1) hts (xgood N1 hmem) rfl rfl rfl hini hlk ⟨d2, d3, d4⟩ ⟨by rw [hRf]; exact f1, by rw [hRl]; exact f2⟩, hst, hsel⟩ ⟨xU_blind, by rw [hcls]; exact va_recv hK hH.2.1 (xO_cl (mO N1) hci).2 (by rw [xW_at haS, xE_obj hka hci]), fun U h1 h2 => ⟨rfl, hU U h1 h2⟩⟩ rfl (by simp; omega) (by rw [← hlen]; exact hl.1) rfl (lv_room (hsum _ f5)) hd ⟨by rw [hRc]; exact f3, by rw [hRs]; exact f4⟩) hS (fun H1 locs1 q1 q2 => ?_)
                rw [fin _ rfl]
                exact K H1 locs1 q1 q2
              · cases h
            · cases h
          · cases h
        · cases h
    · cases h
  | invokespecial idx =>
    replace h := xI_some h
    obtain ⟨rfl, h⟩ := h
    split at h
    · rename_i mi nst hf
      have hm := xMl_spec hf
      split at h
      · split at h
        · split at h <;> cases h
        · cases h
      · rename_i n0
        split at h
        · cases h
        · rename_i n1
          split at h
          · rename_i N1 hN1
            split at h
            · rename_i a r1 hdrop
              split at h
              · rename_i hc
                unfold xcl at h
                split at h
                · rename_i hfit
                  simp only [Option.some.injEq, Sum.inr.injEq, Prod.mk.injEq] at h
                  obtain ⟨rfl, rfl, rfl, rfl, rfl, rfl⟩ := h
                  obtain ⟨f1, f2, f3, f4, f5, f6, f7⟩ := xfit_spec hfit
                  obtain ⟨hz, hk, hle⟩ := hc
                  have hmem : N1 ∈ xMT := List.mem_of_getElem? hN1
                  obtain ⟨d1, d2, d3, d4, d5, d6, d7⟩ := xMd_spec hmem
                  have hM := xmet ih hmem hrun f6 f7
                  obtain ⟨hinit, hret⟩ := d7 hk
                  have hst : (Cond.instanceMethod (mY N1)).before args s = true := by
                    have q := xMT_c3 N1 hmem
                    unfold xMc3 at q
                    rw [if_neg (by rw [hk]; decide)] at q
                    exact hts _ q
                  have hini : (Cond.initialized (mY N1).cls).before args s = true := hts _ (xMT_c2 N1 hmem)
                  have hnth : (xMT[mi]?).getD mL_law = N1 := by rw [hN1]; rfl
                  have hlk : (Cond.methodLink (xO (mO M)) idx (mY N1)).before args s = true := by
                    have q := xLk_ok _ hm hz
                    unfold xLc at q
                    rw [if_neg n0, if_neg (fun q => n1 (Or.inl q)), if_neg (fun q => n1 (Or.inr q)), if_pos hz, hnth] at q
                    exact hts _ q
                  rw [xstk (n := mN N1), hdrop]
                  simp only [List.map_cons] at hM ⊢
                  generalize hva : xv base b (.ref a) = va at hM ⊢
                  obtain ⟨a1, rfl⟩ : ∃ a1, va = .ref a1 := ⟨_, hva.symm⟩
                  have hw1 : xMc1 N1 :: xwt = Cond.code (mY N1) (mB N1) (mL N1) none :: xwt := by
                    unfold xMc1
                    rw [hret]
                  refine xback (va_runI (Ts := xwt) (nL := mL M) (n := mN N1) (mc := mC N1) (ms := mS N1) (b := a1) (As := ((st.take (mN N1)).reverse).map (xv base b)) (rest := r1.map (xv base b)) ⟨hx, hb, hml, hown, hts⟩ hM ⟨callB_of (mN N1) hts (xgood N1 hmem) hw1 rfl rfl hini hlk ⟨d2, d3, d4⟩ ⟨by rw [hRf]; exact f1, by rw [hRl]; exact f2⟩, hinit, hst⟩ ⟨xU_blind, fun U h1 h2 => ⟨rfl, hU U h1 h2⟩⟩ rfl (by simp; omega) (by rw [← hlen]; exact hl.1) rfl (lv_room (hsum _ f5)) hd ⟨by rw [hRc]; exact f3, by rw [hRs]; exact f4⟩) hS (fun H1 locs1 q1 q2 => ?_)
                  rw [fin _ rfl]
                  exact K H1 locs1 q1 q2
                · cases h
              · cases h
            · cases h
          · cases h
    · cases h
  | _ =>
    simp only [xsi, xI, xN, xJ, xs1, xcl] at h
    repeat' (split at h)
    all_goals cases h
theorem xsound (l : Launch) (base b L : Nat) (xs : Nat → Int32) (D : va_G) (T : ClassId × ClassId × ClassId) : ∀ f, xSnd l base b L xs D T f := by
  intro f
  induction f with
  | zero => intro M pc ls st S kc ks r S' h; cases h
  | succ f ih =>
    intro M pc ls st S kc ks r S' h p e R s m args below meth c Q H locs Ls C hl hlen hg hH hS hret
    unfold xrun at h
    cases hx : xst (xs, L) M pc ls st S kc ks with
    | none => rw [hx] at h; cases h
    | some z =>
      rw [hx] at h
      unfold xst at hx
      cases hd : decode (mB M) pc with
      | error q => rw [hd] at hx; cases hx
      | ok q =>
        obtain ⟨i, len⟩ := q
        rw [hd] at hx
        simp only at hx
        match z, h, hx with
        | .inl z, h, hx =>
          simp only [Option.some.injEq] at h
          subst h
          obtain ⟨h1, h2, h3, h4, h5⟩ := xsi_ret hd hx
          simp only at h1 h2 h3
          subst h3
          rw [h2]
          exact W.widen h4 h5 (hret pc H locs Ls h1 hH hS)
        | .inr (.inl (pc', ls', st', S1, kc', ks')), h, hx =>
          exact xstep C hd hx hl hlen hg hH hS (fun H' locs' Ls' a1 a2 a3 a4 a5 => ih M pc' ls' st' S1 kc' ks' r S' h C a1 a2 a3 a4 a5 hret)
        | .inr (.inr (N, as, pc', rest, kc', ks')), h, hx =>
          simp only at h
          split at h
          · cases h
          · rename_i q hq
            exact xcalls ih C hd hx hq hl hlen hH hS (fun H' locs' a4 a5 => ih M pc' ls (q.1.toList ++ rest) q.2 kc' ks' r S' h C hl hlen hg a4 a5 hret)
