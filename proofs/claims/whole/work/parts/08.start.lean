/-! THE CLAIM OUT OF ONE WALK OF THE LAW'S BODY. Your part is whole_start (and what it stands on); all else here is the same for every law, but numbers. -/
def R_law : String := "CaptiveCarLaw"
def lw_P (b : Addr) (xs : List Int32) (args : Array Value) (s : State) : Prop := args = #[.ref b] ∧ s.IntsAt b xs ∧ xs.length ≤ 320 ∧ (Jvm.Cond.and given_1 narrow_1).before args s = true
def lw_Q (_ : Array Value) (s : State) (o : Outcome) (t : State) : Prop := o = .returned (some (.int 1)) ∧ Framed s o t [] 600000 7302250
def lw_Z (below : List Frame) (a : Array Value) (s : State) : State → Prop := fun t => ∃ o, t.status = .running ∧ Ended t below o ∧ lw_Q a s o t
/-- the law's own end, with 1 on the stack, nothing written that was there before, its room as the claim has it -/
theorem lw_ret {p : Program} {l : Launch} {e : Env} {s : State} {m : MethodId} {below : List Frame} {meth : Method} {c : Code} {b : Nat} (hx : p.tables.exec = Jvm.exec) (hb : c.code = code) (hr : meth.sig.returnType = ret) (hlocks : meth.locks = false) {pc : Nat} {H : Heap} {ls : Array Slot} (hdg : decode code pc = .ok (.ireturn, 1)) : W p l e room_1 s m #[Value.ref b] below meth c H [] 600000 7302250 (lw_Z below #[Value.ref b] s) (F0 m pc ls [.int 1]) := by
  intro T hT X
  obtain ⟨fs, hret, hrun, hended, hW, hframe⟩ := X.leave (v := some (.int 1)) (hlocks := hlocks) (fun h => by rw [hr] at h; cases h)
  have hmeth' : T.vm.method? m = some meth := X.method'
  refine ⟨T.setFrames fs, ?_, .returned (some (.int 1)), hrun, hended, rfl, ⟨_, rfl⟩, hW, hframe⟩
  jvm_step X.here [X.here.top, hx, hb, hdg, hmeth', hr, ret, narrow_b1]
  (try refine ⟨rfl, ?_⟩); (try refine ⟨rfl, ?_⟩)
  first | (intro acts; rw [hret _ acts rfl rfl rfl]) | rw [hret _ _ rfl rfl rfl]
  exact Steps.refl _
/-- what holds at the law's entry: the machine, the code, the tables' words (any of lw_tbl by 'hts w (by decide +kernel)'), the script of L ints xs at the cell b, what the Statement gives of the start (any of its parts by flat_of_before) -/
def lw_At (p : Program) (s : State) (m : MethodId) (meth : Method) (c : Code) (b L : Nat) (xs : Nat → Int32) : Prop :=
  p.tables.exec = Jvm.exec ∧ c.code = code ∧ meth.sig.returnType = ret ∧ c.maxLocals = 4 ∧ s.vm.findClass R_law = some m.cls ∧ (∀ w ∈ lw_tbl, w.before #[Value.ref b] s = true) ∧ va_X b L xs s s.heap ∧ b < s.heap.size ∧ meth.locks = false ∧ (Jvm.Cond.and given_1 narrow_1).before #[Value.ref b] s = true
/-- the abstract machine comes through the law with 1 -/
def xLaw (xs : Nat → Int32) (L : Nat) : Prop := ∃ (f : Nat) (S' : xS), xrun (xs, L) f mL_law 0 [.ref 1000, .null, .null, .null] [] (fun _ _ => 0, fun _ _ => 0, 0) 0 0 = some (some (.int 1), S')
set_option maxHeartbeats 4000000 in
set_option maxRecDepth 100000 in
theorem whole_of {p : Program} {e : Env} {s : State} {m : MethodId} {below : List Frame} {meth : Method} {c : Code} (l : Launch) {b L : Nat} {xs : Nat → Int32} (hlaw : xLaw xs L) (C0 : lw_At p s m meth c b L xs) : W p l e room_1 s m #[Value.ref b] below meth c s.heap [] 0 0 (lw_Z below #[Value.ref b] s) (entryFrame m ([Value.ref b] : List Value).toArray 4) := by
  obtain ⟨hx, hb, hr, hml, hown, hts, hX, hbl, hlocks, hgv⟩ := C0
  obtain ⟨f, S', hrun⟩ := hlaw
  have hts1 : ∀ w ∈ xwt, w.before #[Value.ref b] s = true := fun w hw => hts w (xwt_good w hw).1
  have hKn : ∀ ci, ci < 7 → ∃ (cC : ClassId) (iS : Nat → Nat), u_Kn s (xCl ci).1 (xCl ci).2.1 (xCl ci).2.2 cC iS := fun ci hci => u_known hts1 (xCl_in ci hci) (hts1 _ (xCl_inst ci hci))
  obtain ⟨dC, dI, hKc⟩ : ∃ (dC : Nat → ClassId) (dI : Nat → Nat → Nat), ∀ (k : Nat) (q : vw_C), vwCl[k]? = some q → u_Kn s q.1 q.2.1 q.2.2 (dC k) (dI k) := by
    obtain ⟨c0, i0, h0⟩ := hKn 0 (by omega)
    obtain ⟨c1, i1, h1⟩ := hKn 1 (by omega)
    obtain ⟨c2, i2, h2⟩ := hKn 2 (by omega)
    obtain ⟨c3, i3, h3⟩ := hKn 3 (by omega)
    obtain ⟨c4, i4, h4⟩ := hKn 4 (by omega)
    obtain ⟨c5, i5, h5⟩ := hKn 5 (by omega)
    obtain ⟨c6, i6, h6⟩ := hKn 6 (by omega)
    refine ⟨fun k => if k = 0 then c0 else if k = 1 then c1 else if k = 2 then c2 else if k = 3 then c3 else if k = 4 then c4 else if k = 5 then c5 else c6, fun k => if k = 0 then i0 else if k = 1 then i1 else if k = 2 then i2 else if k = 3 then i3 else if k = 4 then i4 else if k = 5 then i5 else i6, ?_⟩
    intro k q hq
    match k, hq with
    | 0, hq => cases hq; exact h0
    | 1, hq => cases hq; exact h1
    | 2, hq => cases hq; exact h2
    | 3, hq => cases hq; exact h3
    | 4, hq => cases hq; exact h4
    | 5, hq => cases hq; exact h5
    | 6, hq => cases hq; exact h6
    | k + 7, hq => simp [vwCl] at hq
  obtain ⟨cI, kI, pI, a1, a2, a3⟩ := Cond.arrayClass_spec (hts _ (xwt_good _ xw_ai).1)
  obtain ⟨cZ, kZ, pZ, z1, z2, z3⟩ := Cond.arrayClass_spec (hts _ (xwt_good _ xw_az).1)
  obtain ⟨comp, cS, kS, s1, s2, s3, s4, s5⟩ := Cond.arrayOver_spec (hts _ xw_as)
  have hK : va_K (dC, dI) vwCl (xtys (cI, cZ, cS)) s := by
    refine ⟨hKc, fun k q hq => ?_⟩
    match k, hq with
    | 0, hq => cases hq; exact ⟨fun n z => ⟨fun k h => (by cases h), kI, a2, pI, a3⟩, a1⟩
    | 1, hq => cases hq; exact ⟨fun n z => ⟨fun k h => (by cases h), kZ, z2, pZ, z3⟩, z1⟩
    | 2, hq => cases hq; exact ⟨fun n z => ⟨fun k h => (by cases h), kS, s3, comp, s4⟩, kS, comp, s3, s4, s1, s5⟩
    | k + 3, hq => simp [xtys] at hq
  have C : xCx p s m #[Value.ref b] meth c room_1 s.heap.size b L xs (dC, dI) (cI, cZ, cS) mL_law := by
    refine ⟨hx, hb, hml, hown, hts1, fun q => absurd q (by decide +kernel), ⟨rfl, rfl, rfl, rfl⟩, hK, ⟨hX, hbl, Nat.le_refl _⟩, va_AO.of (hts _ xw_as), fun w hw => ?_⟩
    have h1 := hts w (xNs_mem w hw)
    obtain ⟨a, i, x, h, rfl⟩ := xNs_form w hw
    exact va_Nw.of rfl h1
  rw [lg_entry_eq]
  have hLR : xLR s.heap.size b ((lg_sl ([Value.ref b]) ++ List.replicate (4 - (lg_sl ([Value.ref b])).length) Slot.unset).toArray) [.ref 1000, .null, .null, .null] := xLR_entry s.heap.size b [.ref 1000] 4 (by decide)
  refine xsound l s.heap.size b L xs (dC, dI) (cI, cZ, cS) f mL_law 0 [.ref 1000, .null, .null, .null] [] (fun _ _ => 0, fun _ _ => 0, 0) 0 0 _ S' hrun C hLR rfl (Or.inr (fun v hv => ?_)) ⟨rfl, fun k q h => by simp [xW] at h, by decide⟩ va_S.rf (fun pc1 H1 locs1 Ls1 hRt hH1 hS1 => ?_)
  · simp only [List.mem_cons, List.not_mem_nil, or_false] at hv
    rcases hv with rfl | rfl | rfl | rfl <;> rfl
  · rcases hRt with ⟨q, -, -⟩ | ⟨x, q, hd1, -⟩
    · cases q
    · exact va_forget hS1.2.2 (lw_ret hx hb hr hlocks hd1)
