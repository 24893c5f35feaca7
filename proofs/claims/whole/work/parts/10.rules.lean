/-! the instructions as rewritings -/
def inb (i : Int32) (n : Nat) : Prop := ¬ (i < 0 ∨ n ≤ i.toNatClampNeg)
def is01 (x : Int32) : Prop := x = 0 ∨ x = 1
section ER
variable {X : (Nat → Int32) × Nat} {M : xM} {kc ks pc : Nat} {ls st : List Value} {g : xG} {h : xH} {Q : Option Value → xG → xH → Prop}
theorem xst_of {S : xS} {i : Instr} {len : Nat} (hd : decode (mB M) pc = .ok (i, len)) : xst X M pc ls st S kc ks = xsi X M pc ls st S kc ks i len := by
  unfold xst
  rw [hd]
theorem E_iconst {n : Int} (v : Int32) (hd : decode (mB M) pc = .ok (.iconst n, 1)) (hv : Int32.ofInt n = v) : EV X M kc ks pc ls st g h Q = EV X M kc ks (pc + 1) ls (.int v :: st) g h Q := by
  subst hv; exact EV.step ((xst_of hd).trans rfl)
theorem E_bipush {n : Int} (v : Int32) (hd : decode (mB M) pc = .ok (.bipush n, 2)) (hv : (Int8.ofInt n).toInt32 = v) : EV X M kc ks pc ls st g h Q = EV X M kc ks (pc + 2) ls (.int v :: st) g h Q := by
  subst hv; exact EV.step ((xst_of hd).trans rfl)
theorem E_sipush {n : Int} (v : Int32) (hd : decode (mB M) pc = .ok (.sipush n, 3)) (hv : (Int16.ofInt n).toInt32 = v) : EV X M kc ks pc ls st g h Q = EV X M kc ks (pc + 3) ls (.int v :: st) g h Q := by
  subst hv; exact EV.step ((xst_of hd).trans rfl)
theorem E_lconst {n : Fin 2} (v : Int64) (hd : decode (mB M) pc = .ok (.lconst n, 1)) (hv : Int64.ofNat (n : Nat) = v) : EV X M kc ks pc ls st g h Q = EV X M kc ks (pc + 1) ls (.long v :: st) g h Q := by
  subst hv; exact EV.step ((xst_of hd).trans rfl)
theorem E_ldc {k : Nat} (v : Int32) (hd : decode (mB M) pc = .ok (.ldc k, 2)) (hv : xCo (mO M) k = some v) : EV X M kc ks pc ls st g h Q = EV X M kc ks (pc + 2) ls (.int v :: st) g h Q :=
  EV.step ((xst_of hd).trans (by simp only [xsi, xI, ↓reduceIte, hv]; rfl))
theorem E_ldcw {k : Nat} (v : Int32) (hd : decode (mB M) pc = .ok (.ldc_w k, 3)) (hv : xCo (mO M) k = some v) : EV X M kc ks pc ls st g h Q = EV X M kc ks (pc + 3) ls (.int v :: st) g h Q :=
  EV.step ((xst_of hd).trans (by simp only [xsi, xI, ↓reduceIte, hv]; rfl))
theorem E_ldc2 {k : Nat} (v : Int64) (hd : decode (mB M) pc = .ok (.ldc2_w k, 3)) (hv : xCoL (mO M) k = some v) : EV X M kc ks pc ls st g h Q = EV X M kc ks (pc + 3) ls (.long v :: st) g h Q :=
  EV.step ((xst_of hd).trans (by simp only [xsi, xI, ↓reduceIte, hv]; rfl))
theorem E_iload_n {k : Fin 4} {x : Int32} (hd : decode (mB M) pc = .ok (.iload_n k, 1)) (hv : ls[(k : Nat)]? = some (.int x)) : EV X M kc ks pc ls st g h Q = EV X M kc ks (pc + 1) ls (.int x :: st) g h Q :=
  EV.step ((xst_of hd).trans (by simp only [xsi, xI, ↓reduceIte, hv]; rfl))
theorem E_iload {k : Nat} {x : Int32} (hd : decode (mB M) pc = .ok (.iload k, 2)) (hv : ls[k]? = some (.int x)) : EV X M kc ks pc ls st g h Q = EV X M kc ks (pc + 2) ls (.int x :: st) g h Q :=
  EV.step ((xst_of hd).trans (by simp only [xsi, xI, ↓reduceIte, hv]; rfl))
theorem E_lload_n {k : Fin 4} {x : Int64} (hd : decode (mB M) pc = .ok (.lload_n k, 1)) (hv : ls[(k : Nat)]? = some (.long x)) : EV X M kc ks pc ls st g h Q = EV X M kc ks (pc + 1) ls (.long x :: st) g h Q :=
  EV.step ((xst_of hd).trans (by simp only [xsi, xI, ↓reduceIte, hv]; rfl))
theorem E_lload {k : Nat} {x : Int64} (hd : decode (mB M) pc = .ok (.lload k, 2)) (hv : ls[k]? = some (.long x)) : EV X M kc ks pc ls st g h Q = EV X M kc ks (pc + 2) ls (.long x :: st) g h Q :=
  EV.step ((xst_of hd).trans (by simp only [xsi, xI, ↓reduceIte, hv]; rfl))
theorem E_aload_n {k : Fin 4} {x : Nat} (hd : decode (mB M) pc = .ok (.aload_n k, 1)) (hv : ls[(k : Nat)]? = some (.ref x)) : EV X M kc ks pc ls st g h Q = EV X M kc ks (pc + 1) ls (.ref x :: st) g h Q :=
  EV.step ((xst_of hd).trans (by simp only [xsi, xI, ↓reduceIte, hv]; rfl))
theorem xs1_ok {i : Nat} {v : Value} {r : List Value} {S : xS} (hi : i < ls.length) (hg : mG M = false ∨ xlg (ls.getD (i - 1) .null) = false) : xs1 M i v pc ls r S kc ks = some (.inr (.inl (pc, ls.set i v, r, S, kc, ks))) := by
  unfold xs1
  rw [if_pos ⟨hi, hg⟩]
  rfl
theorem E_istore_n {k : Fin 4} {x : Int32} {ls' : List Value} (hd : decode (mB M) pc = .ok (.istore_n k, 1)) (hi : (k : Nat) < ls.length) (hg : mG M = false ∨ xlg (ls.getD ((k : Nat) - 1) .null) = false) (hl : ls.set (k : Nat) (.int x) = ls') : EV X M kc ks pc ls (.int x :: st) g h Q = EV X M kc ks (pc + 1) ls' st g h Q := by
  subst hl
  exact EV.step ((xst_of hd).trans (xs1_ok hi hg))
theorem E_istore {k : Nat} {x : Int32} {ls' : List Value} (hd : decode (mB M) pc = .ok (.istore k, 2)) (hi : k < ls.length) (hg : mG M = false ∨ xlg (ls.getD (k - 1) .null) = false) (hl : ls.set k (.int x) = ls') : EV X M kc ks pc ls (.int x :: st) g h Q = EV X M kc ks (pc + 2) ls' st g h Q := by
  subst hl
  exact EV.step ((xst_of hd).trans (xs1_ok hi hg))
theorem E_astore_n {k : Fin 4} {x : Nat} {ls' : List Value} (hd : decode (mB M) pc = .ok (.astore_n k, 1)) (hi : (k : Nat) < ls.length) (hg : mG M = false ∨ xlg (ls.getD ((k : Nat) - 1) .null) = false) (hl : ls.set (k : Nat) (.ref x) = ls') : EV X M kc ks pc ls (.ref x :: st) g h Q = EV X M kc ks (pc + 1) ls' st g h Q := by
  subst hl
  exact EV.step ((xst_of hd).trans (xs1_ok hi hg))
theorem E_lstore_n {k : Fin 4} {x : Int64} {ls' : List Value} (hd : decode (mB M) pc = .ok (.lstore_n k, 1)) (hi : (k : Nat) + 1 < ls.length) (hM : mG M = true) (hg : xlg (ls.getD ((k : Nat) - 1) .null) = false) (hl : (ls.set (k : Nat) (.long x)).set ((k : Nat) + 1) .null = ls') : EV X M kc ks pc ls (.long x :: st) g h Q = EV X M kc ks (pc + 1) ls' st g h Q := by
  subst hl
  exact EV.step ((xst_of hd).trans (by simp only [xsi, xI, ↓reduceIte]; rw [if_pos ⟨hi, hM, hg⟩]; rfl))
theorem E_iinc {k : Nat} {n : Int} (v : Int32) {x : Int32} {ls' : List Value} (hd : decode (mB M) pc = .ok (.iinc k n, 3)) (hx : ls[k]? = some (.int x)) (hg : mG M = false ∨ xlg (ls.getD (k - 1) .null) = false) (hv : Int32.ofInt n = v) (hl : ls.set k (.int (x + v)) = ls') : EV X M kc ks pc ls st g h Q = EV X M kc ks (pc + 3) ls' st g h Q := by
  subst hv; subst hl
  exact EV.step ((xst_of hd).trans (by simp only [xsi, xI, ↓reduceIte, hx]; exact xs1_ok (List.getElem?_eq_some_iff.mp hx).1 hg))
theorem E_iadd {x y : Int32} (hd : decode (mB M) pc = .ok (.iadd, 1)) : EV X M kc ks pc ls (.int y :: .int x :: st) g h Q = EV X M kc ks (pc + 1) ls (.int (x + y) :: st) g h Q := EV.step ((xst_of hd).trans rfl)
theorem E_isub {x y : Int32} (hd : decode (mB M) pc = .ok (.isub, 1)) : EV X M kc ks pc ls (.int y :: .int x :: st) g h Q = EV X M kc ks (pc + 1) ls (.int (x - y) :: st) g h Q := EV.step ((xst_of hd).trans rfl)
theorem E_imul {x y : Int32} (hd : decode (mB M) pc = .ok (.imul, 1)) : EV X M kc ks pc ls (.int y :: .int x :: st) g h Q = EV X M kc ks (pc + 1) ls (.int (x * y) :: st) g h Q := EV.step ((xst_of hd).trans rfl)
theorem E_iand {x y : Int32} (hd : decode (mB M) pc = .ok (.iand, 1)) : EV X M kc ks pc ls (.int y :: .int x :: st) g h Q = EV X M kc ks (pc + 1) ls (.int (x &&& y) :: st) g h Q := EV.step ((xst_of hd).trans rfl)
theorem E_ior {x y : Int32} (hd : decode (mB M) pc = .ok (.ior, 1)) : EV X M kc ks pc ls (.int y :: .int x :: st) g h Q = EV X M kc ks (pc + 1) ls (.int (x ||| y) :: st) g h Q := EV.step ((xst_of hd).trans rfl)
theorem E_ishl {x y : Int32} (hd : decode (mB M) pc = .ok (.ishl, 1)) : EV X M kc ks pc ls (.int y :: .int x :: st) g h Q = EV X M kc ks (pc + 1) ls (.int (x <<< (y &&& 31)) :: st) g h Q := EV.step ((xst_of hd).trans rfl)
theorem E_iushr {x y : Int32} (hd : decode (mB M) pc = .ok (.iushr, 1)) : EV X M kc ks pc ls (.int y :: .int x :: st) g h Q = EV X M kc ks (pc + 1) ls (.int (x.toUInt32 >>> (y.toUInt32 &&& Int32.toUInt32 31)).toInt32 :: st) g h Q := EV.step ((xst_of hd).trans rfl)
theorem E_ladd {x y : Int64} (hd : decode (mB M) pc = .ok (.ladd, 1)) : EV X M kc ks pc ls (.long y :: .long x :: st) g h Q = EV X M kc ks (pc + 1) ls (.long (x + y) :: st) g h Q := EV.step ((xst_of hd).trans rfl)
theorem E_lmul {x y : Int64} (hd : decode (mB M) pc = .ok (.lmul, 1)) : EV X M kc ks pc ls (.long y :: .long x :: st) g h Q = EV X M kc ks (pc + 1) ls (.long (x * y) :: st) g h Q := EV.step ((xst_of hd).trans rfl)
theorem E_lcmp {x y : Int64} (hd : decode (mB M) pc = .ok (.lcmp, 1)) : EV X M kc ks pc ls (.long y :: .long x :: st) g h Q = EV X M kc ks (pc + 1) ls (.int (lg_cmp x y) :: st) g h Q := EV.step ((xst_of hd).trans rfl)
theorem E_i2l {x : Int32} (hd : decode (mB M) pc = .ok (.i2l, 1)) : EV X M kc ks pc ls (.int x :: st) g h Q = EV X M kc ks (pc + 1) ls (.long x.toInt64 :: st) g h Q := EV.step ((xst_of hd).trans rfl)
theorem E_l2i {x : Int64} (hd : decode (mB M) pc = .ok (.l2i, 1)) : EV X M kc ks pc ls (.long x :: st) g h Q = EV X M kc ks (pc + 1) ls (.int x.toInt32 :: st) g h Q := EV.step ((xst_of hd).trans rfl)
theorem andEV {c : Prop} {z : Option xRes} {A B : Prop} (h1 : c → A = B) (h2 : ¬ c → A = False) : A = (c ∧ B) := by
  by_cases hc : c
  · rw [h1 hc]; simp [hc]
  · rw [h2 hc]; simp [hc]
theorem E_idiv {x y : Int32} (hd : decode (mB M) pc = .ok (.idiv, 1)) : EV X M kc ks pc ls (.int y :: .int x :: st) g h Q = (¬ y = 0 ∧ EV X M kc ks (pc + 1) ls (.int (x / y) :: st) g h Q) := by
  refine andEV (z := none) (fun hc => EV.step ((xst_of hd).trans ?_)) (fun hc => EV.fail ((xst_of hd).trans ?_))
  · simp only [xsi, xI, ↓reduceIte]; rw [if_neg hc]; rfl
  · simp only [xsi, xI, ↓reduceIte]; rw [if_pos (Classical.not_not.mp hc)]
theorem E_irem {x y : Int32} (hd : decode (mB M) pc = .ok (.irem, 1)) : EV X M kc ks pc ls (.int y :: .int x :: st) g h Q = (¬ y = 0 ∧ EV X M kc ks (pc + 1) ls (.int (x - x / y * y) :: st) g h Q) := by
  refine andEV (z := none) (fun hc => EV.step ((xst_of hd).trans ?_)) (fun hc => EV.fail ((xst_of hd).trans ?_))
  · simp only [xsi, xI, ↓reduceIte]; rw [if_neg hc]; rfl
  · simp only [xsi, xI, ↓reduceIte]; rw [if_pos (Classical.not_not.mp hc)]
theorem E_ldiv {x y : Int64} (hd : decode (mB M) pc = .ok (.ldiv, 1)) : EV X M kc ks pc ls (.long y :: .long x :: st) g h Q = (¬ y = 0 ∧ EV X M kc ks (pc + 1) ls (.long (x / y) :: st) g h Q) := by
  refine andEV (z := none) (fun hc => EV.step ((xst_of hd).trans ?_)) (fun hc => EV.fail ((xst_of hd).trans ?_))
  · simp only [xsi, xI, ↓reduceIte]; rw [if_neg hc]; rfl
  · simp only [xsi, xI, ↓reduceIte]; rw [if_pos (Classical.not_not.mp hc)]
theorem E_lrem {x y : Int64} (hd : decode (mB M) pc = .ok (.lrem, 1)) : EV X M kc ks pc ls (.long y :: .long x :: st) g h Q = (¬ y = 0 ∧ EV X M kc ks (pc + 1) ls (.long (x - x / y * y) :: st) g h Q) := by
  refine andEV (z := none) (fun hc => EV.step ((xst_of hd).trans ?_)) (fun hc => EV.fail ((xst_of hd).trans ?_))
  · simp only [xsi, xI, ↓reduceIte]; rw [if_neg hc]; rfl
  · simp only [xsi, xI, ↓reduceIte]; rw [if_pos (Classical.not_not.mp hc)]
theorem E_dup {v : Value} (hd : decode (mB M) pc = .ok (.dup, 1)) (hv : xlg v = false) : EV X M kc ks pc ls (v :: st) g h Q = EV X M kc ks (pc + 1) ls (v :: v :: st) g h Q := EV.step ((xst_of hd).trans (by simp only [xsi, xI, ↓reduceIte]; rw [if_pos hv]; rfl))
theorem E_pop {v : Value} (hd : decode (mB M) pc = .ok (.pop, 1)) (hv : xlg v = false) : EV X M kc ks pc ls (v :: st) g h Q = EV X M kc ks (pc + 1) ls st g h Q := EV.step ((xst_of hd).trans (by simp only [xsi, xI, ↓reduceIte]; rw [if_pos hv]; rfl))
theorem E_dup2 {v w : Value} (hd : decode (mB M) pc = .ok (.dup2, 1)) (hv : xlg v = false) (hw : xlg w = false) : EV X M kc ks pc ls (v :: w :: st) g h Q = EV X M kc ks (pc + 1) ls (v :: w :: v :: w :: st) g h Q := EV.step ((xst_of hd).trans (by simp only [xsi, xI, ↓reduceIte]; rw [if_pos ⟨hv, hw⟩]; rfl))
theorem E_goto {off : Int} (t : Nat) (hd : decode (mB M) pc = .ok (.goto off, 3)) (ht : (pc : Int) + off = (t : Int)) : EV X M kc ks pc ls st g h Q = EV X M kc ks t ls st g h Q := by
  refine EV.step ((xst_of hd).trans ?_)
  simp only [xsi, xI, ↓reduceIte, xJ]
  rw [ht, if_pos (by omega)]
  rfl
theorem E_br {c : Prop} [Decidable c] {b : Bool} {off : Int} (t n : Nat) {ls' st' : List Value} (hb : b = decide c) (ht : (pc : Int) + off = (t : Int))
    (hs : xst X M pc ls st (g, h, 162) kc ks = if 0 ≤ (pc : Int) + off then (if b = true then xN ((pc : Int) + off).toNat ls' st' (g, h, 162) kc ks else xN n ls' st' (g, h, 162) kc ks) else none) : EV X M kc ks pc ls st g h Q = if c then EV X M kc ks t ls' st' g h Q else EV X M kc ks n ls' st' g h Q := by
  rw [ht, if_pos (by omega)] at hs
  by_cases hc : c
  · rw [if_pos hc]
    rw [hb, if_pos (by simpa using hc)] at hs
    exact EV.step hs
  · rw [if_neg hc]
    rw [hb, if_neg (by simpa using hc)] at hs
    exact EV.step hs
theorem E_ifeq {x : Int32} {off : Int} (t : Nat) (hd : decode (mB M) pc = .ok (.ifCond .eq off, 3)) (ht : (pc : Int) + off = (t : Int)) : EV X M kc ks pc ls (.int x :: st) g h Q = if x = 0 then EV X M kc ks t ls st g h Q else EV X M kc ks (pc + 3) ls st g h Q := E_br t (pc + 3) rfl ht ((xst_of hd).trans rfl)
theorem E_ifne {x : Int32} {off : Int} (t : Nat) (hd : decode (mB M) pc = .ok (.ifCond .ne off, 3)) (ht : (pc : Int) + off = (t : Int)) : EV X M kc ks pc ls (.int x :: st) g h Q = if x = 0 then EV X M kc ks (pc + 3) ls st g h Q else EV X M kc ks t ls st g h Q := by
  rw [E_br (c := ¬ x = 0) t (pc + 3) rfl ht ((xst_of hd).trans rfl)]
  by_cases q : x = 0 <;> simp [q]
theorem E_iflt {x : Int32} {off : Int} (t : Nat) (hd : decode (mB M) pc = .ok (.ifCond .lt off, 3)) (ht : (pc : Int) + off = (t : Int)) : EV X M kc ks pc ls (.int x :: st) g h Q = if x < 0 then EV X M kc ks t ls st g h Q else EV X M kc ks (pc + 3) ls st g h Q := E_br t (pc + 3) rfl ht ((xst_of hd).trans rfl)
theorem E_ifge {x : Int32} {off : Int} (t : Nat) (hd : decode (mB M) pc = .ok (.ifCond .ge off, 3)) (ht : (pc : Int) + off = (t : Int)) : EV X M kc ks pc ls (.int x :: st) g h Q = if 0 ≤ x then EV X M kc ks t ls st g h Q else EV X M kc ks (pc + 3) ls st g h Q := E_br t (pc + 3) rfl ht ((xst_of hd).trans rfl)
theorem E_ifgt {x : Int32} {off : Int} (t : Nat) (hd : decode (mB M) pc = .ok (.ifCond .gt off, 3)) (ht : (pc : Int) + off = (t : Int)) : EV X M kc ks pc ls (.int x :: st) g h Q = if 0 < x then EV X M kc ks t ls st g h Q else EV X M kc ks (pc + 3) ls st g h Q := E_br t (pc + 3) rfl ht ((xst_of hd).trans rfl)
theorem E_ifle {x : Int32} {off : Int} (t : Nat) (hd : decode (mB M) pc = .ok (.ifCond .le off, 3)) (ht : (pc : Int) + off = (t : Int)) : EV X M kc ks pc ls (.int x :: st) g h Q = if x ≤ 0 then EV X M kc ks t ls st g h Q else EV X M kc ks (pc + 3) ls st g h Q := E_br t (pc + 3) rfl ht ((xst_of hd).trans rfl)
theorem E_icmpeq {x y : Int32} {off : Int} (t : Nat) (hd : decode (mB M) pc = .ok (.if_icmp .eq off, 3)) (ht : (pc : Int) + off = (t : Int)) : EV X M kc ks pc ls (.int y :: .int x :: st) g h Q = if x = y then EV X M kc ks t ls st g h Q else EV X M kc ks (pc + 3) ls st g h Q := E_br t (pc + 3) rfl ht ((xst_of hd).trans rfl)
theorem E_icmpne {x y : Int32} {off : Int} (t : Nat) (hd : decode (mB M) pc = .ok (.if_icmp .ne off, 3)) (ht : (pc : Int) + off = (t : Int)) : EV X M kc ks pc ls (.int y :: .int x :: st) g h Q = if x = y then EV X M kc ks (pc + 3) ls st g h Q else EV X M kc ks t ls st g h Q := by
  rw [E_br (c := ¬ x = y) t (pc + 3) rfl ht ((xst_of hd).trans rfl)]
  by_cases q : x = y <;> simp [q]
theorem E_icmplt {x y : Int32} {off : Int} (t : Nat) (hd : decode (mB M) pc = .ok (.if_icmp .lt off, 3)) (ht : (pc : Int) + off = (t : Int)) : EV X M kc ks pc ls (.int y :: .int x :: st) g h Q = if x < y then EV X M kc ks t ls st g h Q else EV X M kc ks (pc + 3) ls st g h Q := E_br t (pc + 3) rfl ht ((xst_of hd).trans rfl)
theorem E_icmpge {x y : Int32} {off : Int} (t : Nat) (hd : decode (mB M) pc = .ok (.if_icmp .ge off, 3)) (ht : (pc : Int) + off = (t : Int)) : EV X M kc ks pc ls (.int y :: .int x :: st) g h Q = if y ≤ x then EV X M kc ks t ls st g h Q else EV X M kc ks (pc + 3) ls st g h Q := E_br t (pc + 3) rfl ht ((xst_of hd).trans rfl)
theorem E_icmpgt {x y : Int32} {off : Int} (t : Nat) (hd : decode (mB M) pc = .ok (.if_icmp .gt off, 3)) (ht : (pc : Int) + off = (t : Int)) : EV X M kc ks pc ls (.int y :: .int x :: st) g h Q = if y < x then EV X M kc ks t ls st g h Q else EV X M kc ks (pc + 3) ls st g h Q := E_br t (pc + 3) rfl ht ((xst_of hd).trans rfl)
theorem E_icmple {x y : Int32} {off : Int} (t : Nat) (hd : decode (mB M) pc = .ok (.if_icmp .le off, 3)) (ht : (pc : Int) + off = (t : Int)) : EV X M kc ks pc ls (.int y :: .int x :: st) g h Q = if x ≤ y then EV X M kc ks t ls st g h Q else EV X M kc ks (pc + 3) ls st g h Q := E_br t (pc + 3) rfl ht ((xst_of hd).trans rfl)
theorem E_tabo {x : Int32} {d lo hi : Int} {offs : Array Int} {len : Nat} (t : Nat) (hd : decode (mB M) pc = .ok (.tableswitch d lo hi offs, len)) (hc : x.toInt < lo ∨ hi < x.toInt) (ht : (pc : Int) + d = (t : Int)) : EV X M kc ks pc ls (.int x :: st) g h Q = EV X M kc ks t ls st g h Q := by
  refine EV.step ((xst_of hd).trans ?_)
  simp only [xsi, xJ]
  rw [if_pos hc, ht, if_pos (by omega)]
  rfl
theorem E_tabi {x : Int32} {d lo hi : Int} {offs : Array Int} {len : Nat} {off : Int} (t : Nat) (hd : decode (mB M) pc = .ok (.tableswitch d lo hi offs, len)) (hc : ¬ (x.toInt < lo ∨ hi < x.toInt)) (ho : offs[(x.toInt - lo).toNat]? = some off) (ht : (pc : Int) + off = (t : Int)) : EV X M kc ks pc ls (.int x :: st) g h Q = EV X M kc ks t ls st g h Q := by
  refine EV.step ((xst_of hd).trans ?_)
  simp only [xsi, xJ]
  rw [if_neg hc, ho]
  simp only
  rw [ht, if_pos (by omega)]
  rfl
theorem E_lookup {x : Int32} {d : Int} {ps : Array (Int × Int)} {len : Nat} {off : Int} (t : Nat) (hd : decode (mB M) pc = .ok (.lookupswitch d ps, len)) (hp : (ps.toList.zip (ps.toList.drop 1)).all (fun (a, next) => a.1 < next.1) = true) (ho : Op.lookupswitch.offset ps.toList d x.toInt = off) (ht : (pc : Int) + off = (t : Int)) : EV X M kc ks pc ls (.int x :: st) g h Q = EV X M kc ks t ls st g h Q := by
  refine EV.step ((xst_of hd).trans ?_)
  simp only [xsi, xJ]
  rw [if_pos hp, ho, ht, if_pos (by omega)]
  rfl
theorem E_geti {idx ci k a : Nat} (hd : decode (mB M) pc = .ok (.getfield idx, 3)) (hf : xFl (mO M) idx = some (ci, k)) (hk : ¬ xfk ci k = 2) (ha : xk a = ci ∧ a < 162) : EV X M kc ks pc ls (.ref a :: st) g h Q = EV X M kc ks (pc + 3) ls (.int (h a k) :: st) g h Q := by
  refine EV.step ((xst_of hd).trans ?_)
  simp only [xsi, xI, ↓reduceIte, hf]
  rw [if_pos ha]
  simp only [xgf]
  rw [if_neg hk]
  rfl
theorem E_getr {idx ci k a j : Nat} (hd : decode (mB M) pc = .ok (.getfield idx, 3)) (hf : xFl (mO M) idx = some (ci, k)) (hk : xfk ci k = 2) (ha : xk a = ci ∧ a < 162) (hg : g a k = j + 1) (hj : ¬ j = 1000) : EV X M kc ks pc ls (.ref a :: st) g h Q = EV X M kc ks (pc + 3) ls (.ref j :: st) g h Q := by
  refine EV.step ((xst_of hd).trans ?_)
  simp only [xsi, xI, ↓reduceIte, hf]
  rw [if_pos ha]
  simp only [xgf]
  rw [if_pos hk, hg]
  simp only
  rw [if_neg hj]
  rfl
theorem E_puti {idx ci k a : Nat} {x : Int32} (hd : decode (mB M) pc = .ok (.putfield idx, 3)) (hf : xFl (mO M) idx = some (ci, k)) (hk : xfk ci k = 0) (hfin : (xT ci k).2.2.2 = false) (ha : xk a = ci ∧ a < 162) : EV X M kc ks pc ls (.int x :: .ref a :: st) g h Q = EV X M kc ks (pc + 3) ls st g (xu h a k x) Q := by
  refine EV.step ((xst_of hd).trans ?_)
  simp only [xsi, xI, ↓reduceIte, hf]
  rw [if_pos ⟨ha.1, ha.2, Or.inl hfin, Or.inl hk⟩]
  rfl
theorem E_putz {idx ci k a : Nat} {x : Int32} (hd : decode (mB M) pc = .ok (.putfield idx, 3)) (hf : xFl (mO M) idx = some (ci, k)) (hk : xfk ci k = 1) (hx : is01 x) (hfin : (xT ci k).2.2.2 = false) (ha : xk a = ci ∧ a < 162) : EV X M kc ks pc ls (.int x :: .ref a :: st) g h Q = EV X M kc ks (pc + 3) ls st g (xu h a k x) Q := by
  refine EV.step ((xst_of hd).trans ?_)
  simp only [xsi, xI, ↓reduceIte, hf]
  rw [if_pos ⟨ha.1, ha.2, Or.inl hfin, Or.inr ⟨hk, hx⟩⟩]
  rfl
theorem E_putr {idx ci k a j : Nat} (hd : decode (mB M) pc = .ok (.putfield idx, 3)) (hf : xFl (mO M) idx = some (ci, k)) (hk : xfk ci k = 2) (hfin : (xT ci k).2.2.2 = false) (ha : xk a = ci ∧ a < 162) (hj : j < 162) : EV X M kc ks pc ls (.ref j :: .ref a :: st) g h Q = EV X M kc ks (pc + 3) ls st (xu g a k (j + 1)) h Q := by
  refine EV.step ((xst_of hd).trans ?_)
  simp only [xsi, xI, ↓reduceIte, hf]
  rw [if_pos ⟨ha.1, ha.2, Or.inl hfin, hk, hj⟩]
  rfl
theorem E_iald {a n : Nat} {i : Int32} (hd : decode (mB M) pc = .ok (.iaload, 1)) (ha : xk a = 7 ∧ a < 162) (hn : xz a = n) : EV X M kc ks pc ls (.int i :: .ref a :: st) g h Q = (inb i n ∧ EV X M kc ks (pc + 1) ls (.int (h a i.toNatClampNeg) :: st) g h Q) := by
  subst hn
  have h1 : ¬ a = 1000 := xlt ha.2 (Nat.le_refl _)
  refine andEV (z := none) (fun hc => EV.step ((xst_of hd).trans ?_)) (fun hc => EV.fail ((xst_of hd).trans ?_))
  · simp only [xsi, xI, ↓reduceIte]; rw [if_neg h1, if_pos ⟨ha.1, ha.2, hc⟩]; rfl
  · simp only [xsi, xI, ↓reduceIte]; rw [if_neg h1, if_neg (fun q => hc q.2.2)]
theorem E_iscr {i : Int32} (hd : decode (mB M) pc = .ok (.iaload, 1)) : EV X M kc ks pc ls (.int i :: .ref 1000 :: st) g h Q = (inb i X.2 ∧ EV X M kc ks (pc + 1) ls (.int (X.1 i.toNatClampNeg) :: st) g h Q) := by
  refine andEV (z := none) (fun hc => EV.step ((xst_of hd).trans ?_)) (fun hc => EV.fail ((xst_of hd).trans ?_))
  · simp only [xsi, xI, ↓reduceIte]; rw [if_neg hc]; rfl
  · simp only [xsi, xI, ↓reduceIte]; rw [if_pos (Classical.not_not.mp hc)]
theorem E_lscr (hd : decode (mB M) pc = .ok (.arraylength, 1)) : EV X M kc ks pc ls (.ref 1000 :: st) g h Q = EV X M kc ks (pc + 1) ls (.int (Int32.ofNat X.2) :: st) g h Q := EV.step ((xst_of hd).trans rfl)
theorem E_bald {a n : Nat} {i : Int32} (hd : decode (mB M) pc = .ok (.baload, 1)) (ha : xk a = 8 ∧ a < 162) (hn : xz a = n) : EV X M kc ks pc ls (.int i :: .ref a :: st) g h Q = (inb i n ∧ EV X M kc ks (pc + 1) ls (.int (h a i.toNatClampNeg) :: st) g h Q) := by
  subst hn
  refine andEV (z := none) (fun hc => EV.step ((xst_of hd).trans ?_)) (fun hc => EV.fail ((xst_of hd).trans ?_))
  · simp only [xsi, xI, ↓reduceIte]; rw [if_pos ⟨ha.1, ha.2, hc⟩]; rfl
  · simp only [xsi, xI, ↓reduceIte]; rw [if_neg (fun q => hc q.2.2)]
theorem E_aald {a n j : Nat} {i : Int32} (hd : decode (mB M) pc = .ok (.aaload, 1)) (ha : xk a = 9 ∧ a < 162) (hn : xz a = n) (hi : inb i n) (hg : g a i.toNatClampNeg = j + 1) (hj : ¬ j = 1000) : EV X M kc ks pc ls (.int i :: .ref a :: st) g h Q = EV X M kc ks (pc + 1) ls (.ref j :: st) g h Q := by
  subst hn
  refine EV.step ((xst_of hd).trans ?_)
  simp only [xsi, xI, ↓reduceIte]
  rw [if_pos ⟨ha.1, ha.2, hi⟩, hg]
  simp only
  rw [if_neg hj]
  rfl
theorem E_iast {a n : Nat} {i x : Int32} (hd : decode (mB M) pc = .ok (.iastore, 1)) (ha : xk a = 7 ∧ a < 162) (hn : xz a = n) : EV X M kc ks pc ls (.int x :: .int i :: .ref a :: st) g h Q = (inb i n ∧ EV X M kc ks (pc + 1) ls st g (xu h a i.toNatClampNeg x) Q) := by
  subst hn
  refine andEV (z := none) (fun hc => EV.step ((xst_of hd).trans ?_)) (fun hc => EV.fail ((xst_of hd).trans ?_))
  · simp only [xsi, xI, ↓reduceIte]; rw [if_pos ⟨ha.1, ha.2, hc⟩]; rfl
  · simp only [xsi, xI, ↓reduceIte]; rw [if_neg (fun q => hc q.2.2)]
theorem E_bast {a n : Nat} {i x : Int32} (hd : decode (mB M) pc = .ok (.bastore, 1)) (ha : xk a = 8 ∧ a < 162) (hn : xz a = n) : EV X M kc ks pc ls (.int x :: .int i :: .ref a :: st) g h Q = (inb i n ∧ is01 x ∧ EV X M kc ks (pc + 1) ls st g (xu h a i.toNatClampNeg x) Q) := by
  subst hn
  rw [← and_assoc]
  refine andEV (z := none) (fun hc => EV.step ((xst_of hd).trans ?_)) (fun hc => EV.fail ((xst_of hd).trans ?_))
  · simp only [xsi, xI, ↓reduceIte]; rw [if_pos ⟨ha.1, ha.2, hc⟩]; rfl
  · simp only [xsi, xI, ↓reduceIte]; rw [if_neg (fun q => hc q.2.2)]
theorem E_max {idx : Nat} {x y : Int32} (hd : decode (mB M) pc = .ok (.invokestatic idx, 3)) (hf : xMl (mO M) idx = some (1001, 0)) (hr : 1 ≤ mF M ∧ (st.map xc2).sum + 13 ≤ mW M ∧ kc ≤ mC M ∧ ks ≤ mS M) : EV X M kc ks pc ls (.int y :: .int x :: st) g h Q = EV X M kc ks (pc + 3) ls (.int (if x < y then y else x) :: st) g h Q := by
  refine EV.step ((xst_of hd).trans ?_)
  simp only [xsi, xI, ↓reduceIte, hf, true_and]
  rw [if_pos hr]
  rfl
theorem E_min {idx : Nat} {x y : Int32} (hd : decode (mB M) pc = .ok (.invokestatic idx, 3)) (hf : xMl (mO M) idx = some (1002, 0)) (hr : 1 ≤ mF M ∧ (st.map xc2).sum + 13 ≤ mW M ∧ kc ≤ mC M ∧ ks ≤ mS M) : EV X M kc ks pc ls (.int y :: .int x :: st) g h Q = EV X M kc ks (pc + 3) ls (.int (if y < x then y else x) :: st) g h Q := by
  refine EV.step ((xst_of hd).trans ?_)
  simp only [xsi, xI, ↓reduceIte, hf, true_and, Nat.reduceEqDiff]
  rw [if_pos hr]
  rfl
theorem E_calls {idx mi nst : Nat} {N : xM} {as rest as' : List Value} (hd : decode (mB M) pc = .ok (.invokestatic idx, 3)) (hf : xMl (mO M) idx = some (mi, nst)) (hmi : mi < 1000) (hN : xMT[mi]? = some N) (hk : mK N = 0 ∧ mN N ≤ st.length) (has : (st.take (mN N)).reverse = as) (hrest : st.drop (mN N) = rest) (hfit : xfit M N as rest kc ks = true) (hc : mC N = 0 ∧ mS N = 0) (hen : xent as (mL N) = as') :
    EV X M kc ks pc ls st g h Q = EV X N 0 0 0 as' [] g h (fun r g' h' => EV X M kc ks (pc + 3) ls (r.toList ++ rest) g' h' Q) := by
  subst has; subst hrest; subst hen
  refine EV.call ((xst_of hd).trans ?_) hc.1
  simp only [xsi, xI, ↓reduceIte, hf]
  rw [if_neg (by omega), if_neg (by omega), if_neg (by omega), hN]
  simp only
  rw [if_pos hk, xcl, if_pos hfit, hc.1, hc.2]
  rfl
theorem E_callv {idx mi a : Nat} {N : xM} {as rest as' : List Value} (hd : decode (mB M) pc = .ok (.invokevirtual idx, 3)) (hf : xMl (mO M) idx = some (mi, 0)) (hmi : mi < 1000) (hN : xMT[mi]? = some N) (hdr : st.drop (mN N) = .ref a :: rest) (hk : mK N = 1 ∧ mN N ≤ st.length ∧ xk a = mO N ∧ a < 162) (has : (st.take (mN N)).reverse = as) (hfit : xfit M N (.ref a :: as) rest kc ks = true) (hc : mC N = 0 ∧ mS N = 0) (hen : xent (.ref a :: as) (mL N) = as') :
    EV X M kc ks pc ls st g h Q = EV X N 0 0 0 as' [] g h (fun r g' h' => EV X M kc ks (pc + 3) ls (r.toList ++ rest) g' h' Q) := by
  subst has; subst hen
  refine EV.call ((xst_of hd).trans ?_) hc.1
  simp only [xsi, xI, ↓reduceIte, hf]
  rw [if_neg (by omega), hN]
  simp only
  rw [hdr]
  simp only [true_and]
  rw [if_pos hk, xcl, if_pos hfit, hc.1, hc.2]
  rfl
theorem E_ireti {v : Int32} (hd : decode (mB M) pc = .ok (.ireturn, 1)) (hr : mR M = some .int) (hk : kc ≤ mC M ∧ ks ≤ mS M) : EV X M kc ks pc ls [.int v] g h Q = Q (some (.int v)) g h := by
  refine EV.ret ((xst_of hd).trans ?_)
  simp only [xsi, xI, ↓reduceIte]
  rw [if_pos ⟨hk.1, hk.2, Or.inl hr⟩]
theorem E_iretz {v : Int32} (hd : decode (mB M) pc = .ok (.ireturn, 1)) (hr : mR M = some .boolean) (hk : kc ≤ mC M ∧ ks ≤ mS M) : EV X M kc ks pc ls [.int v] g h Q = (is01 v ∧ Q (some (.int v)) g h) := by
  refine andEV (z := none) (fun hc => EV.ret ((xst_of hd).trans ?_)) (fun hc => EV.fail ((xst_of hd).trans ?_))
  · simp only [xsi, xI, ↓reduceIte]; rw [if_pos ⟨hk.1, hk.2, Or.inr ⟨hr, hc⟩⟩]
  · simp only [xsi, xI, ↓reduceIte]; rw [if_neg (fun q => hc (by rcases q.2.2 with z | z; rw [hr] at z; cases z; exact z.2))]
theorem E_ret (hd : decode (mB M) pc = .ok (.return_, 1)) (hr : mR M = none) (hk : kc ≤ mC M ∧ ks ≤ mS M) : EV X M kc ks pc ls [] g h Q = Q none g h := by
  refine EV.ret ((xst_of hd).trans ?_)
  simp only [xsi, xI, ↓reduceIte]
  rw [if_pos ⟨hk.1, hk.2, hr⟩]
end ER
