/-! copies of rows and scenes -/
def cpR (h : xH) (dst off src off2 N : Nat) : xH := fun c t => if c = dst ∧ off ≤ t ∧ t < off + N then h src (off2 + (t - off)) else h c t
theorem cpR_o {h : xH} {dst off src off2 N c : Nat} (hc : ¬ c = dst) : cpR h dst off src off2 N c = h c := by
  funext t
  unfold cpR
  rw [if_neg (fun q => hc q.1)]
theorem cpR_i {h : xH} {dst off src off2 N k : Nat} (hk : k < N) : cpR h dst off src off2 N dst (off + k) = h src (off2 + k) := by
  unfold cpR
  rw [if_pos ⟨rfl, by omega, by omega⟩, show off + k - off = k by omega]
theorem cpR_n {h : xH} {dst off src off2 N t : Nat} (c : Nat) (ht : ¬ (off ≤ t ∧ t < off + N)) : cpR h dst off src off2 N c t = h c t := by
  unfold cpR
  rw [if_neg (fun q => ht q.2)]
theorem cpR_0 {h : xH} {dst off src off2 : Nat} : cpR h dst off src off2 0 = h := by
  funext c t
  exact cpR_n c (by omega)
theorem cpR_s {h : xH} {dst off src off2 N : Nat} : xu (cpR h dst off src off2 N) dst (off + N) (h src (off2 + N)) = cpR h dst off src off2 (N + 1) := by
  funext c t
  rw [xu_r]
  unfold cpR
  by_cases q : c = dst
  · by_cases q2 : t = off + N
    · rw [if_pos ⟨q, q2⟩, if_pos ⟨q, by omega, by omega⟩, q2, show off + N - off = N by omega]
    · rw [if_neg (fun z => q2 z.2)]
      by_cases q3 : off ≤ t ∧ t < off + N
      · rw [if_pos ⟨q, q3⟩, if_pos ⟨q, by omega, by omega⟩]
      · rw [if_neg (fun z => q3 z.2), if_neg (fun z => by omega)]
  · rw [if_neg (fun z => q z.1), if_neg (fun z => q z.1), if_neg (fun z => q z.1)]
theorem lp_copy (F : Nat → xH → Prop) {h0 : xH} {dst off src off2 : Nat} (hd : ¬ src = dst ∨ off ≤ off2) (N : Nat) (hs : ∀ i, i < N → F i (cpR h0 dst off src off2 i) = F (i + 1) (xu (cpR h0 dst off src off2 i) dst (off + i) (cpR h0 dst off src off2 i src (off2 + i)))) : F 0 h0 = F N (cpR h0 dst off src off2 N) := by
  have : ∀ n, n ≤ N → F 0 h0 = F n (cpR h0 dst off src off2 n) := by
    intro n
    induction n with
    | zero => intro _; rw [cpR_0]
    | succ n ih =>
      intro hn
      have e : cpR h0 dst off src off2 n src (off2 + n) = h0 src (off2 + n) := by
        rcases hd with q | q
        · rw [cpR_o q]
        · exact cpR_n _ (by omega)
      rw [ih (by omega), hs n (by omega), e, cpR_s]
  exact this N (Nat.le_refl _)
theorem isSc.dis {a b : Nat} (ha : isSc a) (hb : isSc b) (h : ¬ a = b) : a + 5 < b ∨ b + 5 < a := (by decide +kernel : ∀ a ∈ scL, ∀ b ∈ scL, ¬ a = b → (a + 5 < b ∨ b + 5 < a)) a ha b hb h
section CP
variable {X : (Nat → Int32) × Nat} {sw : Bool} {NL G : Nat} {w v : Nat → Int32}
/-- a scene copied -/
def CpS (h h' : xH) (a b : Nat) : Prop := (∀ c, ¬ (a ≤ c ∧ c ≤ a + 5) → h' c = h c) ∧ (∀ k, k < 4 → h' a k = h b k) ∧ ∀ r, 1 ≤ r → r ≤ 5 → ∀ j, j < 8 → h' (a + r) j = h (b + r) j
theorem c_copy (X : (Nat → Int32) × Nat) (sw : Bool) {h : xH} {a b : Nat} (ha : isSc a) (hb : isSc b) (hab : ¬ a = b) : ∃ h' : xH, CpS h h' a b ∧ ∀ Q : Option Value → xG → xH → Prop, EV X mX3_copyFrom 0 0 0 [.ref a, .ref b, .null] [] (Gb sw) h Q = Q none (Gb sw) h' := by
  have hd := ha.dis hb hab
  have hba : ¬ b = a := fun q => hab q.symm
  have loop : ∀ (h0 : xH) (m i : Nat) (h : xH), i + m = 8 → (∀ c, ¬ (a + 1 ≤ c ∧ c ≤ a + 5) → h c = h0 c) → (∀ r, 1 ≤ r → r ≤ 5 → ∀ j, j < i → h (a + r) j = h0 (b + r) j) → ∃ h' : xH, (∀ c, ¬ (a + 1 ≤ c ∧ c ≤ a + 5) → h' c = h0 c) ∧ (∀ r, 1 ≤ r → r ≤ 5 → ∀ j, j < 8 → h' (a + r) j = h0 (b + r) j) ∧ ∀ Q : Option Value → xG → xH → Prop, EV X mX3_copyFrom 0 0 34 [.ref a, .ref b, .int (nI i)] [] (Gb sw) h Q = Q none (Gb sw) h' := by
    intro h0 m
    induction m with
    | zero =>
      intro i h hi h1 h2
      refine ⟨h, h1, fun r r1 r2 j hj => h2 r r1 r2 j (by omega), fun Q => ?_⟩
      rw [eX3_copyFrom_34]
      simp only [eX3_copyFrom_0, eX3_copyFrom_1, eX3_copyFrom_2, eX3_copyFrom_5, eX3_copyFrom_8, eX3_copyFrom_9, eX3_copyFrom_10, eX3_copyFrom_13, eX3_copyFrom_16, eX3_copyFrom_17, eX3_copyFrom_18, eX3_copyFrom_21, eX3_copyFrom_24, eX3_copyFrom_25, eX3_copyFrom_26, eX3_copyFrom_29, eX3_copyFrom_32, eX3_copyFrom_33, eX3_copyFrom_35, eX3_copyFrom_37, eX3_copyFrom_40, eX3_copyFrom_41, eX3_copyFrom_44, eX3_copyFrom_45, eX3_copyFrom_46, eX3_copyFrom_49, eX3_copyFrom_50, eX3_copyFrom_51, eX3_copyFrom_52, eX3_copyFrom_53, eX3_copyFrom_56, eX3_copyFrom_57, eX3_copyFrom_58, eX3_copyFrom_61, eX3_copyFrom_62, eX3_copyFrom_63, eX3_copyFrom_64, eX3_copyFrom_65, eX3_copyFrom_68, eX3_copyFrom_69, eX3_copyFrom_70, eX3_copyFrom_73, eX3_copyFrom_74, eX3_copyFrom_75, eX3_copyFrom_76, eX3_copyFrom_77, eX3_copyFrom_80, eX3_copyFrom_81, eX3_copyFrom_82, eX3_copyFrom_85, eX3_copyFrom_86, eX3_copyFrom_87, eX3_copyFrom_88, eX3_copyFrom_89, eX3_copyFrom_92, eX3_copyFrom_93, eX3_copyFrom_94, eX3_copyFrom_97, eX3_copyFrom_98, eX3_copyFrom_99, eX3_copyFrom_100, eX3_copyFrom_103, eX3_copyFrom_106, Option.toList_some, Option.toList_none, List.cons_append, List.nil_append, is01_0, is01_1, true_and, ha, hb]
      rw [if_pos (show (8 : Int32) ≤ nI i from nI_le (a := 8) (by omega) (by omega))]
    | succ m ih =>
      intro i h hi h1 h2
      have hi8 : i < 8 := by omega
      have d21 : ¬ b + 2 = a + 1 := by omega
      have d31 : ¬ b + 3 = a + 1 := by omega
      have d32 : ¬ b + 3 = a + 2 := by omega
      have d41 : ¬ b + 4 = a + 1 := by omega
      have d42 : ¬ b + 4 = a + 2 := by omega
      have d43 : ¬ b + 4 = a + 3 := by omega
      have d51 : ¬ b + 5 = a + 1 := by omega
      have d52 : ¬ b + 5 = a + 2 := by omega
      have d53 : ¬ b + 5 = a + 3 := by omega
      have d54 : ¬ b + 5 = a + 4 := by omega
      have e : ∀ r, r ≤ 5 → h (b + r) = h0 (b + r) := fun r hr => h1 _ (by omega)
      obtain ⟨h', q1, q2, q3⟩ := ih (i + 1) (xu (xu (xu (xu (xu h (a + 1) i (h (b + 1) i)) (a + 2) i (h (b + 2) i)) (a + 3) i (h (b + 3) i)) (a + 4) i (h (b + 4) i)) (a + 5) i (h (b + 5) i)) (by omega) (fun c hc => by
        rw [xun _ _ _ _ _ (by omega), xun _ _ _ _ _ (by omega), xun _ _ _ _ _ (by omega), xun _ _ _ _ _ (by omega), xun _ _ _ _ _ (by omega)]
        exact h1 c hc) (fun r r1 r2 j hj => by
        rw [← e r r2]
        by_cases q : j = i
        · subst q
          rcases (show r = 1 ∨ r = 2 ∨ r = 3 ∨ r = 4 ∨ r = 5 by omega) with rfl | rfl | rfl | rfl | rfl <;> simp [xu_r]
        · simp only [xu_r, q, and_false, if_false]
          rw [e r r2]
          exact h2 r r1 r2 j (by omega))
      refine ⟨h', q1, q2, fun Q => ?_⟩
      rw [← q3 Q]
      conv => lhs; rw [eX3_copyFrom_34]
      simp only [eX3_copyFrom_0, eX3_copyFrom_1, eX3_copyFrom_2, eX3_copyFrom_5, eX3_copyFrom_8, eX3_copyFrom_9, eX3_copyFrom_10, eX3_copyFrom_13, eX3_copyFrom_16, eX3_copyFrom_17, eX3_copyFrom_18, eX3_copyFrom_21, eX3_copyFrom_24, eX3_copyFrom_25, eX3_copyFrom_26, eX3_copyFrom_29, eX3_copyFrom_32, eX3_copyFrom_33, eX3_copyFrom_35, eX3_copyFrom_37, eX3_copyFrom_40, eX3_copyFrom_41, eX3_copyFrom_44, eX3_copyFrom_45, eX3_copyFrom_46, eX3_copyFrom_49, eX3_copyFrom_50, eX3_copyFrom_51, eX3_copyFrom_52, eX3_copyFrom_53, eX3_copyFrom_56, eX3_copyFrom_57, eX3_copyFrom_58, eX3_copyFrom_61, eX3_copyFrom_62, eX3_copyFrom_63, eX3_copyFrom_64, eX3_copyFrom_65, eX3_copyFrom_68, eX3_copyFrom_69, eX3_copyFrom_70, eX3_copyFrom_73, eX3_copyFrom_74, eX3_copyFrom_75, eX3_copyFrom_76, eX3_copyFrom_77, eX3_copyFrom_80, eX3_copyFrom_81, eX3_copyFrom_82, eX3_copyFrom_85, eX3_copyFrom_86, eX3_copyFrom_87, eX3_copyFrom_88, eX3_copyFrom_89, eX3_copyFrom_92, eX3_copyFrom_93, eX3_copyFrom_94, eX3_copyFrom_97, eX3_copyFrom_98, eX3_copyFrom_99, eX3_copyFrom_100, eX3_copyFrom_103, eX3_copyFrom_106, Option.toList_some, Option.toList_none, List.cons_append, List.nil_append, is01_0, is01_1, true_and, ha, hb, cl8 hi8, inb8 hi8, Nat.le_refl, nI_1, xun _ _ _ _ _ d21, xun _ _ _ _ _ d31, xun _ _ _ _ _ d32, xun _ _ _ _ _ d41, xun _ _ _ _ _ d42, xun _ _ _ _ _ d43, xun _ _ _ _ _ d51, xun _ _ _ _ _ d52, xun _ _ _ _ _ d53, xun _ _ _ _ _ d54]
      rw [if_neg (show ¬ (8 : Int32) ≤ nI i from nI_ge (b := 8) (by omega) (by omega))]
  obtain ⟨h', q1, q2, q3⟩ := loop (xu (xu (xu (xu h a 0 (h b 0)) a 1 (h b 1)) a 2 (h b 2)) a 3 (h b 3)) 8 0 _ (by omega) (fun _ _ => rfl) (fun r r1 r2 j hj => by omega)
  refine ⟨h', ⟨fun c hc => ?_, fun k hk => ?_, fun r r1 r2 j hj => ?_⟩, fun Q => ?_⟩
  · rw [q1 c (by omega), xun _ _ _ _ _ (by omega), xun _ _ _ _ _ (by omega), xun _ _ _ _ _ (by omega), xun _ _ _ _ _ (by omega)]
  · rw [q1 a (by omega)]
    rcases (show k = 0 ∨ k = 1 ∨ k = 2 ∨ k = 3 by omega) with rfl | rfl | rfl | rfl <;> simp [xu_r]
  · rw [q2 r r1 r2 j hj, xun _ _ _ _ _ (by omega), xun _ _ _ _ _ (by omega), xun _ _ _ _ _ (by omega), xun _ _ _ _ _ (by omega)]
  · rw [← q3 Q]
    simp only [eX3_copyFrom_0, eX3_copyFrom_1, eX3_copyFrom_2, eX3_copyFrom_5, eX3_copyFrom_8, eX3_copyFrom_9, eX3_copyFrom_10, eX3_copyFrom_13, eX3_copyFrom_16, eX3_copyFrom_17, eX3_copyFrom_18, eX3_copyFrom_21, eX3_copyFrom_24, eX3_copyFrom_25, eX3_copyFrom_26, eX3_copyFrom_29, eX3_copyFrom_32, eX3_copyFrom_33, eX3_copyFrom_35, eX3_copyFrom_37, eX3_copyFrom_40, eX3_copyFrom_41, eX3_copyFrom_44, eX3_copyFrom_45, eX3_copyFrom_46, eX3_copyFrom_49, eX3_copyFrom_50, eX3_copyFrom_51, eX3_copyFrom_52, eX3_copyFrom_53, eX3_copyFrom_56, eX3_copyFrom_57, eX3_copyFrom_58, eX3_copyFrom_61, eX3_copyFrom_62, eX3_copyFrom_63, eX3_copyFrom_64, eX3_copyFrom_65, eX3_copyFrom_68, eX3_copyFrom_69, eX3_copyFrom_70, eX3_copyFrom_73, eX3_copyFrom_74, eX3_copyFrom_75, eX3_copyFrom_76, eX3_copyFrom_77, eX3_copyFrom_80, eX3_copyFrom_81, eX3_copyFrom_82, eX3_copyFrom_85, eX3_copyFrom_86, eX3_copyFrom_87, eX3_copyFrom_88, eX3_copyFrom_89, eX3_copyFrom_92, eX3_copyFrom_93, eX3_copyFrom_94, eX3_copyFrom_97, eX3_copyFrom_98, eX3_copyFrom_99, eX3_copyFrom_100, eX3_copyFrom_103, eX3_copyFrom_106, Option.toList_some, Option.toList_none, List.cons_append, List.nil_append, is01_0, is01_1, true_and, ha, hb, xun _ _ _ _ _ hba]
    rfl
theorem SW.n {w v : Nat → Int32} {G : Nat} (hV : SW w G v) : ∃ n : Nat, n ≤ 8 ∧ v 3 = nI n ∧ (v 3).toNatClampNeg = n := by
  obtain ⟨⟨n, h1, h2, -⟩, -⟩ := hV
  exact ⟨n, h1, h2, by rw [h2]; exact cl_nI (by omega)⟩
theorem CpS.sc {h h' : xH} {a b : Nat} (H : CpS h h' a b) (hG : G ≤ 8) (hV : SW w G v) (hs : SC h b G v) : SC h' a G v := by
  obtain ⟨-, c1, c2⟩ := H
  obtain ⟨n, n1, n2, n3⟩ := hV.n
  obtain ⟨⟨f0, f1, f2, f3⟩, q, p, r⟩ := hs
  refine ⟨⟨?_, ?_, ?_, ?_⟩, fun k hk => ?_, fun j hj => ?_, fun j hj => ⟨?_, ?_, fun q3 => ?_⟩⟩
  · rw [c1 0 (by omega)]; exact f0
  · rw [c1 1 (by omega)]; exact f1
  · rw [c1 2 (by omega)]; exact f2
  · rw [c1 3 (by omega)]; exact f3
  · rw [c2 1 (by omega) (by omega) k (by omega)]; exact q k hk
  · rw [c2 4 (by omega) (by omega) j hj]; exact p j hj
  · rw [c2 2 (by omega) (by omega) j (by omega)]; exact (r j hj).1
  · rw [c2 3 (by omega) (by omega) j (by omega)]; exact (r j hj).2.1
  · rw [c2 5 (by omega) (by omega) j (by omega)]; exact (r j hj).2.2 q3
theorem SM.cp {h h' : xH} {b o b' o' : Nat} (hG : G ≤ 8) (hV : SW w G v) (hs : SM h b o G v) (e : ∀ k, k < 44 → h' b' (o' + k) = h b (o + k)) : SM h' b' o' G v := by
  obtain ⟨n, n1, n2, n3⟩ := hV.n
  obtain ⟨⟨f0, f1, f2, f3⟩, q, r⟩ := hs
  have e' : ∀ c k, c + k < 44 → h' b' (o' + c + k) = h b (o + c + k) := fun c k hk => by
    rw [Nat.add_assoc, Nat.add_assoc]; exact e _ hk
  refine ⟨⟨?_, ?_, ?_, ?_⟩, fun k hk => ?_, fun j hj => ⟨?_, ?_, ?_, fun q3 => ?_⟩⟩
  · have := e 0 (by omega); rw [Nat.add_zero, Nat.add_zero] at this; rw [this]; exact f0
  · rw [e 1 (by omega)]; exact f1
  · rw [e 2 (by omega)]; exact f2
  · rw [e 3 (by omega)]; exact f3
  · rw [e' 4 k (by omega)]; exact q k hk
  · rw [e' 12 j (by omega)]; exact (r j hj).1
  · rw [e' 28 j (by omega)]; exact (r j hj).2.1
  · rw [e' 36 j (by omega)]; exact (r j hj).2.2.1
  · rw [e' 20 j (by omega)]; exact (r j hj).2.2.2 q3
/-! the past, class and model apart -/
def PSc (h : xH) (G c x : Nat) (u : Nat → Nat → Int32) : Prop := h 19 1 = nI c ∧ h 19 2 = nI x ∧ ∀ i, i < c → SC h (21 + 6 * ((x + 16 - c + i) % 16)) G (u i)
def PSm (h : xH) (G c : Nat) (u : Nat → Nat → Int32) : Prop := h 140 27 = nI c ∧ ∀ i, i < c → SM h 151 (44 * i) G (u i)
theorem PSr.ap {h : xH} (H : PSr h G w) : ∃ (c x : Nat) (u : Nat → Nat → Int32), c ≤ 16 ∧ x < 16 ∧ PSc h G c x u ∧ PSm h G c u ∧ ∀ i, i < c → SW w G (u i) := by
  obtain ⟨c, x, h1, h2, h3, h4, h5, h6⟩ := H
  refine ⟨c, x, fun i => if q : i < c then (h6 i q).choose else fun _ => 0, h1, h2, ⟨h3, h5, fun i hi => ?_⟩, ⟨h4, fun i hi => ?_⟩, fun i hi => ?_⟩
  · simp only [dif_pos hi]; exact (h6 i hi).choose_spec.2.1
  · simp only [dif_pos hi]; exact (h6 i hi).choose_spec.2.2
  · simp only [dif_pos hi]; exact (h6 i hi).choose_spec.1
theorem PSr.jn {h : xH} {c x : Nat} {u : Nat → Nat → Int32} (h1 : c ≤ 16) (h2 : x < 16) (hc : PSc h G c x u) (hm : PSm h G c u) (hw : ∀ i, i < c → SW w G (u i)) : PSr h G w := ⟨c, x, h1, h2, hc.1, hm.1, hc.2.1, fun i hi => ⟨u i, hw i hi, hc.2.2 i hi, hm.2 i hi⟩⟩
theorem PSc.mv {h h' : xH} {c x : Nat} {u : Nat → Nat → Int32} (H : PSc h G c x u) (e : ∀ a, 19 ≤ a → a < 117 → h' a = h a) : PSc h' G c x u := by
  obtain ⟨h1, h2, h3⟩ := H
  refine ⟨by rw [e 19 (by omega) (by omega)]; exact h1, by rw [e 19 (by omega) (by omega)]; exact h2, fun i hi => ?_⟩
  have hm : (x + 16 - c + i) % 16 < 16 := Nat.mod_lt _ (by omega)
  exact (h3 i hi).mv (fun k _ => by rw [e _ (by omega) (by omega)]) (e _ (by omega) (by omega)) (e _ (by omega) (by omega)) (e _ (by omega) (by omega)) (e _ (by omega) (by omega)) (e _ (by omega) (by omega))
theorem PSm.mv {h h' : xH} {c : Nat} {u : Nat → Nat → Int32} (H : PSm h G c u) (e1 : h' 140 27 = h 140 27) (e2 : h' 151 = h 151) : PSm h' G c u := ⟨by rw [e1]; exact H.1, fun i hi => (H.2 i hi).mv e2⟩
def psU (c : Nat) (u : Nat → Nat → Int32) (v : Nat → Int32) : Nat → Nat → Int32 := fun i => if i < (if c = 16 then 15 else c) then u (if c = 16 then i + 1 else i) else v
def psC (c : Nat) : Nat := if c = 16 then 16 else c + 1
theorem psU_w {c : Nat} {u : Nat → Nat → Int32} (h1 : c ≤ 16) (hw : ∀ i, i < c → SW w G (u i)) (hV : SW w G v) : ∀ i, i < psC c → SW w G (psU c u v i) := by
  intro i hi
  unfold psU
  by_cases q : c = 16
  · simp only [q, if_true]
    split
    · exact hw _ (by omega)
    · exact hV
  · simp only [q, if_false]
    split
    · rename_i q2; exact hw _ q2
    · exact hV
theorem c_push (X : (Nat → Int32) × Nat) (sw : Bool) {h : xH} {c x : Nat} {u : Nat → Nat → Int32} (hc : c ≤ 16) (hx : x < 16) (hG : G ≤ 8) (hP : PSc h G c x u) (hV : SW w G v) (hs : SC h 13 G v) : ∃ h' : xH, (∀ a, ¬ (19 ≤ a ∧ a < 117) → h' a = h a) ∧ PSc h' G (psC c) ((x + 1) % 16) (psU c u v) ∧ ∀ Q : Option Value → xG → xH → Prop, EV X mX1_push 0 0 0 [.ref 19, .ref 13] [] (Gb sw) h Q = Q none (Gb sw) h' := by
  obtain ⟨p1, p2, p3⟩ := hP
  obtain ⟨h1, C1, e1⟩ := c_copy X sw (h := h) (sc_past x hx) sc_now (by omega)
  have hcl : (nI x).toNatClampNeg = x := cl_nI (by omega)
  have hin : inb (nI x) 16 = True := by rw [inb_nIe (by omega)]; apply eq_true; omega
  have r1 : h1 19 = h 19 := C1.1 19 (by omega)
  have em : nI x + 1 - (nI x + 1) / 16 * 16 = nI ((x + 1) % 16) := by
    rw [nI_1]
    exact pk_rem (d := 16) (by omega) (by omega) (by omega)
  have ec : (if (16 : Int32) < nI c + 1 then (16 : Int32) else nI c + 1) = nI (psC c) := by
    unfold psC
    rw [nI_1]
    by_cases q : c = 16
    · rw [if_pos q, q, if_pos (by decide)]
      rfl
    · rw [if_neg q, if_neg (show ¬ (16 : Int32) < nI (c + 1) from nI_nlt (a := 16) (by omega) (by omega))]
  have ec' : (if nI c + 1 < (16 : Int32) then nI c + 1 else (16 : Int32)) = nI (psC c) := by
    unfold psC
    rw [nI_1]
    by_cases q : c = 16
    · rw [if_pos q, q, if_neg (by decide)]
      rfl
    · rw [if_neg q]
      by_cases q2 : c = 15
      · rw [q2, if_neg (by decide)]
        rfl
      · rw [if_pos (show nI (c + 1) < (16 : Int32) from nI_lt (b := 16) (by omega) (by omega))]
  refine ⟨xu (xu h1 19 2 (nI ((x + 1) % 16))) 19 1 (nI (psC c)), fun a ha => ?_, ⟨by simp only [xun, xus, xps, xpn, ne_eq, not_false_eq_true, Nat.reduceEqDiff, not_false_iff], by simp only [xun, xus, xps, xpn, ne_eq, not_false_eq_true, Nat.reduceEqDiff, not_false_iff], fun i hi => ?_⟩, fun Q => ?_⟩
  · rw [xun _ _ _ _ _ (by omega), xun _ _ _ _ _ (by omega)]
    exact C1.1 a (by omega)
  · have hfr : ∀ a : Nat, ¬ a = 19 → xu (xu h1 19 2 (nI ((x + 1) % 16))) 19 1 (nI (psC c)) a = h1 a := fun a ha => by rw [xun _ _ _ _ _ ha, xun _ _ _ _ _ ha]
    generalize xu (xu h1 19 2 (nI ((x + 1) % 16))) 19 1 (nI (psC c)) = h2 at hfr ⊢
    unfold psU
    unfold psC at hi ⊢
    by_cases q : i < (if c = 16 then 15 else c)
    · rw [if_pos q]
      have hj : (if c = 16 then i + 1 else i) < c := by split <;> split at q <;> omega
      have ei : ((x + 1) % 16 + 16 - (if c = 16 then 16 else c + 1) + i) % 16 = (x + 16 - c + (if c = 16 then i + 1 else i)) % 16 := by split <;> split at q <;> omega
      rw [ei]
      have hne : ¬ (x + 16 - c + (if c = 16 then i + 1 else i)) % 16 = x := by split <;> split at q <;> omega
      have hm : (x + 16 - c + (if c = 16 then i + 1 else i)) % 16 < 16 := Nat.mod_lt _ (by omega)
      have := p3 _ hj
      generalize (x + 16 - c + (if c = 16 then i + 1 else i)) % 16 = y at *
      exact this.mv (fun k _ => by rw [hfr _ (by omega), C1.1 _ (by omega)]) (by rw [hfr _ (by omega), C1.1 _ (by omega)]) (by rw [hfr _ (by omega), C1.1 _ (by omega)]) (by rw [hfr _ (by omega), C1.1 _ (by omega)]) (by rw [hfr _ (by omega), C1.1 _ (by omega)]) (by rw [hfr _ (by omega), C1.1 _ (by omega)])
    · rw [if_neg q]
      have ei : ((x + 1) % 16 + 16 - (if c = 16 then 16 else c + 1) + i) % 16 = x := by split <;> split at q <;> split at hi <;> omega
      rw [ei]
      exact (C1.sc hG hV hs).mv (fun k _ => by rw [hfr _ (by omega)]) (hfr _ (by omega)) (hfr _ (by omega)) (hfr _ (by omega)) (hfr _ (by omega)) (hfr _ (by omega))
  · simp only [eX1_push_0, eX1_push_1, eX1_push_4, eX1_push_5, eX1_push_8, eX1_push_9, eX1_push_10, eX1_push_13, eX1_push_14, eX1_push_15, eX1_push_18, eX1_push_19, eX1_push_20, eX1_push_22, eX1_push_23, eX1_push_26, eX1_push_27, eX1_push_29, eX1_push_30, eX1_push_33, eX1_push_34, eX1_push_35, eX1_push_38, eX1_push_41, Option.toList_some, Option.toList_none, List.cons_append, List.nil_append, is01_0, is01_1, true_and, p2, hcl, hin, sc_past x hx, e1, r1, nd16, em, p1, ec, ec', xun, xus, xps, xpn, ne_eq, not_false_eq_true, Nat.reduceEqDiff, not_false_iff]
/-- the model remembers -/
theorem m_remember (X : (Nat → Int32) × Nat) (sw : Bool) {h : xH} {c : Nat} {u : Nat → Nat → Int32} (hc : c ≤ 16) (hG : G ≤ 8) (hP : PSm h G c u) (hu : ∀ i, i < c → SW w G (u i)) (hV : SW w G v) (hs : SM h 145 0 G v) : ∃ h' : xH, (∀ a, ¬ a = 140 → ¬ a = 151 → h' a = h a) ∧ (∀ k, ¬ k = 27 → h' 140 k = h 140 k) ∧ PSm h' G (psC c) (psU c u v) ∧ ∀ Q : Option Value → xG → xH → Prop, EV X mX6_remember 0 0 0 [.ref 140, .null] [] (Gb sw) h Q = Q none (Gb sw) h' := by
  obtain ⟨p1, p2⟩ := hP
  have second : ∀ (h : xH) (d : Nat), d < 16 → h 140 27 = nI d → ∀ Q : Option Value → xG → xH → Prop, EV X mX6_remember 0 0 52 [.ref 140, .int 0] [] (Gb sw) h Q = Q none (Gb sw) (xu (cpR h 151 (44 * d) 145 0 44) 140 27 (nI (d + 1))) := by
    intro h d hd he Q
    refine (lp_copy (fun i h => EV X mX6_remember 0 0 52 [.ref 140, .int (nI i)] [] (Gb sw) h Q) (h0 := h) (dst := 151) (off := 44 * d) (src := 145) (off2 := 0) (Or.inl (by omega)) 44 (fun i hi => ?_)).trans ?_
    · have e1 : cpR h 151 (44 * d) 145 0 i 140 = h 140 := cpR_o (by omega)
      have e2 : (44 : Int32) * nI d + nI i = nI (44 * d + i) := by
        have := pk_mul 44 d
        rw [← nI_add, ← this]
        rfl
      show EV X mX6_remember 0 0 52 _ _ _ _ _ = _
      rw [eX6_remember_52]
      simp only [eX6_remember_0, eX6_remember_1, eX6_remember_4, eX6_remember_6, eX6_remember_9, eX6_remember_11, eX6_remember_13, eX6_remember_16, eX6_remember_19, eX6_remember_20, eX6_remember_23, eX6_remember_24, eX6_remember_26, eX6_remember_27, eX6_remember_28, eX6_remember_31, eX6_remember_32, eX6_remember_33, eX6_remember_34, eX6_remember_37, eX6_remember_40, eX6_remember_41, eX6_remember_42, eX6_remember_45, eX6_remember_46, eX6_remember_47, eX6_remember_50, eX6_remember_51, eX6_remember_53, eX6_remember_55, eX6_remember_58, eX6_remember_59, eX6_remember_62, eX6_remember_64, eX6_remember_65, eX6_remember_68, eX6_remember_69, eX6_remember_70, eX6_remember_71, eX6_remember_72, eX6_remember_75, eX6_remember_76, eX6_remember_77, eX6_remember_78, eX6_remember_81, eX6_remember_84, eX6_remember_85, eX6_remember_86, eX6_remember_89, eX6_remember_90, eX6_remember_91, eX6_remember_94, Option.toList_some, Option.toList_none, List.cons_append, List.nil_append, is01_0, is01_1, true_and, e1, he, e2, nI_1, cl_nI (show i < 2147483648 by omega), inb_nIe (show i < 2147483648 by omega), cl_nI (show 44 * d + i < 2147483648 by omega), inb_nIe (show 44 * d + i < 2147483648 by omega), show i < 44 by omega, show 44 * d + i < 704 by omega, Nat.zero_add]
      rw [if_neg (show ¬ (44 : Int32) ≤ nI i from nI_ge (b := 44) (by omega) (by omega))]
    · have e1 : cpR h 151 (44 * d) 145 0 44 140 = h 140 := cpR_o (by omega)
      show EV X mX6_remember 0 0 52 _ _ _ _ _ = _
      rw [eX6_remember_52]
      simp only [eX6_remember_0, eX6_remember_1, eX6_remember_4, eX6_remember_6, eX6_remember_9, eX6_remember_11, eX6_remember_13, eX6_remember_16, eX6_remember_19, eX6_remember_20, eX6_remember_23, eX6_remember_24, eX6_remember_26, eX6_remember_27, eX6_remember_28, eX6_remember_31, eX6_remember_32, eX6_remember_33, eX6_remember_34, eX6_remember_37, eX6_remember_40, eX6_remember_41, eX6_remember_42, eX6_remember_45, eX6_remember_46, eX6_remember_47, eX6_remember_50, eX6_remember_51, eX6_remember_53, eX6_remember_55, eX6_remember_58, eX6_remember_59, eX6_remember_62, eX6_remember_64, eX6_remember_65, eX6_remember_68, eX6_remember_69, eX6_remember_70, eX6_remember_71, eX6_remember_72, eX6_remember_75, eX6_remember_76, eX6_remember_77, eX6_remember_78, eX6_remember_81, eX6_remember_84, eX6_remember_85, eX6_remember_86, eX6_remember_89, eX6_remember_90, eX6_remember_91, eX6_remember_94, Option.toList_some, Option.toList_none, List.cons_append, List.nil_append, is01_0, is01_1, true_and, e1, he, nI_1]
      rw [if_pos (show (44 : Int32) ≤ nI 44 by decide)]
  by_cases q : c = 16
  · subst q
    let h1 := xu (cpR h 151 0 151 44 660) 140 27 (nI 15)
    have f1 : ∀ a, ¬ a = 140 → ¬ a = 151 → h1 a = h a := fun a q1 q2 => by show xu _ _ _ _ _ = _; rw [xun _ _ _ _ _ q1, cpR_o q2]
    have f2 : h1 140 27 = nI 15 := by show xu _ _ _ _ _ _ = _; rw [xus, xps]
    have f3 : ∀ k, ¬ k = 27 → h1 140 k = h 140 k := fun k hk => by show xu _ _ _ _ _ _ = _; rw [xus, xpn _ _ _ _ hk, cpR_o (by omega)]
    have f4 : ∀ k, k < 660 → h1 151 k = h 151 (44 + k) := fun k hk => by
      show xu _ _ _ _ _ _ = _
      rw [xun _ _ _ _ _ (by omega)]
      have := cpR_i (h := h) (dst := 151) (off := 0) (src := 151) (off2 := 44) hk
      rw [Nat.zero_add] at this
      exact this
    refine ⟨xu (cpR h1 151 (44 * 15) 145 0 44) 140 27 (nI 16), fun a q1 q2 => ?_, fun k hk => ?_, ⟨by rw [xus, xps]; rfl, fun i hi => ?_⟩, fun Q => ?_⟩
    · rw [xun _ _ _ _ _ q1, cpR_o q2]; exact f1 a q1 q2
    · rw [xus, xpn _ _ _ _ hk, cpR_o (by omega)]; exact f3 k hk
    · have hr : xu (cpR h1 151 (44 * 15) 145 0 44) 140 27 (nI 16) 151 = cpR h1 151 (44 * 15) 145 0 44 151 := xun _ _ _ _ _ (by omega)
      unfold psU
      unfold psC at hi
      by_cases q2 : i < 15
      · rw [if_pos rfl, if_pos q2, if_pos rfl]
        refine (p2 (i + 1) (by omega)).cp hG (hu _ (by omega)) (fun k hk => ?_)
        rw [hr, cpR_n _ (by omega), f4 _ (by omega)]
        congr 1
        omega
      · rw [if_pos rfl, if_neg q2]
        have : i = 15 := by rw [if_pos rfl] at hi; omega
        subst this
        refine hs.cp hG hV (fun k hk => ?_)
        rw [hr, cpR_i hk, f1 145 (by omega) (by omega)]
    · have e16 : h 140 27 = 16 := p1
      simp only [eX6_remember_0, eX6_remember_1, eX6_remember_4, eX6_remember_6, eX6_remember_9, eX6_remember_11, eX6_remember_13, eX6_remember_16, eX6_remember_19, eX6_remember_20, eX6_remember_23, eX6_remember_24, eX6_remember_26, eX6_remember_27, eX6_remember_28, eX6_remember_31, eX6_remember_32, eX6_remember_33, eX6_remember_34, eX6_remember_37, eX6_remember_40, eX6_remember_41, eX6_remember_42, eX6_remember_45, eX6_remember_46, eX6_remember_47, eX6_remember_50, eX6_remember_51, eX6_remember_53, eX6_remember_55, eX6_remember_58, eX6_remember_59, eX6_remember_62, eX6_remember_64, eX6_remember_65, eX6_remember_68, eX6_remember_69, eX6_remember_70, eX6_remember_71, eX6_remember_72, eX6_remember_75, eX6_remember_76, eX6_remember_77, eX6_remember_78, eX6_remember_81, eX6_remember_84, eX6_remember_85, eX6_remember_86, eX6_remember_89, eX6_remember_90, eX6_remember_91, eX6_remember_94, Option.toList_some, Option.toList_none, List.cons_append, List.nil_append, is01_0, is01_1, true_and, e16, if_true, not_true, if_false]
      have key := lp_copy (fun i h => EV X mX6_remember 0 0 12 [.ref 140, .int (nI (44 + i))] [] (Gb sw) h Q) (h0 := h) (dst := 151) (off := 0) (src := 151) (off2 := 44) (Or.inr (by omega)) 660 (fun i hi => by
        show EV X mX6_remember 0 0 12 _ _ _ _ _ = _
        have e2 : nI (44 + i) - 44 = nI i := by
          have := pk_sub (a := 44 + i) (b := 44) (by omega)
          rw [show 44 + i - 44 = i by omega] at this
          exact this
        rw [eX6_remember_12]
        simp only [eX6_remember_0, eX6_remember_1, eX6_remember_4, eX6_remember_6, eX6_remember_9, eX6_remember_11, eX6_remember_13, eX6_remember_16, eX6_remember_19, eX6_remember_20, eX6_remember_23, eX6_remember_24, eX6_remember_26, eX6_remember_27, eX6_remember_28, eX6_remember_31, eX6_remember_32, eX6_remember_33, eX6_remember_34, eX6_remember_37, eX6_remember_40, eX6_remember_41, eX6_remember_42, eX6_remember_45, eX6_remember_46, eX6_remember_47, eX6_remember_50, eX6_remember_51, eX6_remember_53, eX6_remember_55, eX6_remember_58, eX6_remember_59, eX6_remember_62, eX6_remember_64, eX6_remember_65, eX6_remember_68, eX6_remember_69, eX6_remember_70, eX6_remember_71, eX6_remember_72, eX6_remember_75, eX6_remember_76, eX6_remember_77, eX6_remember_78, eX6_remember_81, eX6_remember_84, eX6_remember_85, eX6_remember_86, eX6_remember_89, eX6_remember_90, eX6_remember_91, eX6_remember_94, Option.toList_some, Option.toList_none, List.cons_append, List.nil_append, is01_0, is01_1, true_and, e2, nI_1, cl_nI (show i < 2147483648 by omega), inb_nIe (show i < 2147483648 by omega), cl_nI (show 44 + i < 2147483648 by omega), inb_nIe (show 44 + i < 2147483648 by omega), show i < 704 by omega, show 44 + i < 704 by omega, Nat.zero_add]
        rw [if_neg (show ¬ (704 : Int32) ≤ nI (44 + i) from nI_ge (b := 704) (by omega) (by omega))]
        rfl)
      refine Eq.trans ?_ (key.trans ?_)
      · rfl
      · have e1 : cpR h 151 0 151 44 660 140 = h 140 := cpR_o (by omega)
        show EV X mX6_remember 0 0 12 _ _ _ _ _ = _
        rw [eX6_remember_12]
        simp only [eX6_remember_0, eX6_remember_1, eX6_remember_4, eX6_remember_6, eX6_remember_9, eX6_remember_11, eX6_remember_13, eX6_remember_16, eX6_remember_19, eX6_remember_20, eX6_remember_23, eX6_remember_24, eX6_remember_26, eX6_remember_27, eX6_remember_28, eX6_remember_31, eX6_remember_32, eX6_remember_33, eX6_remember_34, eX6_remember_37, eX6_remember_40, eX6_remember_41, eX6_remember_42, eX6_remember_45, eX6_remember_46, eX6_remember_47, eX6_remember_50, eX6_remember_51, eX6_remember_53, eX6_remember_55, eX6_remember_58, eX6_remember_59, eX6_remember_62, eX6_remember_64, eX6_remember_65, eX6_remember_68, eX6_remember_69, eX6_remember_70, eX6_remember_71, eX6_remember_72, eX6_remember_75, eX6_remember_76, eX6_remember_77, eX6_remember_78, eX6_remember_81, eX6_remember_84, eX6_remember_85, eX6_remember_86, eX6_remember_89, eX6_remember_90, eX6_remember_91, eX6_remember_94, Option.toList_some, Option.toList_none, List.cons_append, List.nil_append, is01_0, is01_1, true_and, e1, e16]
        rw [if_pos (show (704 : Int32) ≤ nI (44 + 660) by decide)]
        exact second h1 15 (by omega) f2 Q
  · refine ⟨xu (cpR h 151 (44 * c) 145 0 44) 140 27 (nI (c + 1)), fun a q1 q2 => ?_, fun k hk => ?_, ⟨?_, fun i hi => ?_⟩, fun Q => ?_⟩
    · rw [xun _ _ _ _ _ q1, cpR_o q2]
    · rw [xus, xpn _ _ _ _ hk, cpR_o (by omega)]
    · rw [xus, xps]; unfold psC; rw [if_neg q]
    · have hr : xu (cpR h 151 (44 * c) 145 0 44) 140 27 (nI (c + 1)) 151 = cpR h 151 (44 * c) 145 0 44 151 := xun _ _ _ _ _ (by omega)
      unfold psU
      unfold psC at hi
      rw [if_neg q] at hi
      by_cases q2 : i < c
      · rw [if_neg q, if_pos q2, if_neg q]
        refine (p2 i q2).cp hG (hu _ q2) (fun k hk => ?_)
        rw [hr, cpR_n _ (by omega)]
      · rw [if_neg q, if_neg q2]
        have : i = c := by omega
        subst this
        refine hs.cp hG hV (fun k hk => ?_)
        rw [hr, cpR_i hk]
    · have e16 : ¬ nI c = 16 := fun z => q ((nI_eq (b := 16) (by omega) (by omega)).mp z)
      simp only [eX6_remember_0, eX6_remember_1, eX6_remember_4, eX6_remember_6, eX6_remember_9, eX6_remember_11, eX6_remember_13, eX6_remember_16, eX6_remember_19, eX6_remember_20, eX6_remember_23, eX6_remember_24, eX6_remember_26, eX6_remember_27, eX6_remember_28, eX6_remember_31, eX6_remember_32, eX6_remember_33, eX6_remember_34, eX6_remember_37, eX6_remember_40, eX6_remember_41, eX6_remember_42, eX6_remember_45, eX6_remember_46, eX6_remember_47, eX6_remember_50, eX6_remember_51, eX6_remember_53, eX6_remember_55, eX6_remember_58, eX6_remember_59, eX6_remember_62, eX6_remember_64, eX6_remember_65, eX6_remember_68, eX6_remember_69, eX6_remember_70, eX6_remember_71, eX6_remember_72, eX6_remember_75, eX6_remember_76, eX6_remember_77, eX6_remember_78, eX6_remember_81, eX6_remember_84, eX6_remember_85, eX6_remember_86, eX6_remember_89, eX6_remember_90, eX6_remember_91, eX6_remember_94, Option.toList_some, Option.toList_none, List.cons_append, List.nil_append, is01_0, is01_1, true_and, p1, e16, if_false, not_false_iff, if_true]
      exact second h c (by omega) p1 Q
end CP
