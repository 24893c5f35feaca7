/-! the law, from its loop on -/
theorem dL_law_546 : decode cL_law 546 = .ok (.ireturn, 1) := by decide +kernel
theorem eL_law_546 {X : (Nat → Int32) × Nat} {g : xG} {h : xH} {Q : Option Value → xG → xH → Prop} (ls : List Value) {x : Int32} : EV X mL_law 162 3499 546 ls [.int x] g h Q = (is01 x ∧ Q (some (.int x)) g h) := E_iretz dL_law_546 rfl ⟨by decide, by decide⟩
theorem dL_law_547 : decode cL_law 547 = .ok (.aload_n 1, 1) := by decide +kernel
theorem eL_law_547 {X : (Nat → Int32) × Nat} {g : xG} {h : xH} {Q : Option Value → xG → xH → Prop} {v0 v2 v3 : Value} {x : Nat}(st : List Value) : EV X mL_law 162 3499 547 [v0, .ref x, v2, v3] st g h Q = EV X mL_law 162 3499 548 [v0, .ref x, v2, v3] (.ref x :: st) g h Q := E_aload_n dL_law_547 rfl
theorem dL_law_548 : decode cL_law 548 = .ok (.aload_n 0, 1) := by decide +kernel
theorem eL_law_548 {X : (Nat → Int32) × Nat} {g : xG} {h : xH} {Q : Option Value → xG → xH → Prop} {v1 v2 v3 : Value} {x : Nat}(st : List Value) : EV X mL_law 162 3499 548 [.ref x, v1, v2, v3] st g h Q = EV X mL_law 162 3499 549 [.ref x, v1, v2, v3] (.ref x :: st) g h Q := E_aload_n dL_law_548 rfl
theorem dL_law_549 : decode cL_law 549 = .ok (.iload_n 3, 1) := by decide +kernel
theorem eL_law_549 {X : (Nat → Int32) × Nat} {g : xG} {h : xH} {Q : Option Value → xG → xH → Prop} {v0 v1 v2 : Value} {x : Int32}(st : List Value) : EV X mL_law 162 3499 549 [v0, v1, v2, .int x] st g h Q = EV X mL_law 162 3499 550 [v0, v1, v2, .int x] (.int x :: st) g h Q := E_iload_n dL_law_549 rfl
theorem dL_law_550 : decode cL_law 550 = .ok (.iconst 1, 1) := by decide +kernel
theorem eL_law_550 {X : (Nat → Int32) × Nat} {g : xG} {h : xH} {Q : Option Value → xG → xH → Prop} (ls : List Value)(st : List Value) : EV X mL_law 162 3499 550 ls st g h Q = EV X mL_law 162 3499 551 ls (.int 1 :: st) g h Q := E_iconst (1) dL_law_550 (by decide)
theorem dL_law_551 : decode cL_law 551 = .ok (.iadd, 1) := by decide +kernel
theorem eL_law_551 {X : (Nat → Int32) × Nat} {g : xG} {h : xH} {Q : Option Value → xG → xH → Prop} (ls : List Value)(st : List Value) {x y : Int32} : EV X mL_law 162 3499 551 ls (.int y :: .int x :: st) g h Q = EV X mL_law 162 3499 552 ls (.int (x + y) :: st) g h Q := E_iadd dL_law_551
theorem dL_law_552 : decode cL_law 552 = .ok (.iaload, 1) := by decide +kernel
theorem eL_law_552 {X : (Nat → Int32) × Nat} {g : xG} {h : xH} {Q : Option Value → xG → xH → Prop} (ls : List Value)(st : List Value) {i : Int32} : EV X mL_law 162 3499 552 ls (.int i :: .ref 1000 :: st) g h Q = (inb i X.2 ∧ EV X mL_law 162 3499 553 ls (.int (X.1 i.toNatClampNeg) :: st) g h Q) := E_iscr dL_law_552
theorem dL_law_553 : decode cL_law 553 = .ok (.aload_n 0, 1) := by decide +kernel
theorem eL_law_553 {X : (Nat → Int32) × Nat} {g : xG} {h : xH} {Q : Option Value → xG → xH → Prop} {v1 v2 v3 : Value} {x : Nat}(st : List Value) : EV X mL_law 162 3499 553 [.ref x, v1, v2, v3] st g h Q = EV X mL_law 162 3499 554 [.ref x, v1, v2, v3] (.ref x :: st) g h Q := E_aload_n dL_law_553 rfl
theorem dL_law_554 : decode cL_law 554 = .ok (.iload_n 3, 1) := by decide +kernel
theorem eL_law_554 {X : (Nat → Int32) × Nat} {g : xG} {h : xH} {Q : Option Value → xG → xH → Prop} {v0 v1 v2 : Value} {x : Int32}(st : List Value) : EV X mL_law 162 3499 554 [v0, v1, v2, .int x] st g h Q = EV X mL_law 162 3499 555 [v0, v1, v2, .int x] (.int x :: st) g h Q := E_iload_n dL_law_554 rfl
theorem dL_law_555 : decode cL_law 555 = .ok (.iconst 2, 1) := by decide +kernel
theorem eL_law_555 {X : (Nat → Int32) × Nat} {g : xG} {h : xH} {Q : Option Value → xG → xH → Prop} (ls : List Value)(st : List Value) : EV X mL_law 162 3499 555 ls st g h Q = EV X mL_law 162 3499 556 ls (.int 2 :: st) g h Q := E_iconst (2) dL_law_555 (by decide)
theorem dL_law_556 : decode cL_law 556 = .ok (.iadd, 1) := by decide +kernel
theorem eL_law_556 {X : (Nat → Int32) × Nat} {g : xG} {h : xH} {Q : Option Value → xG → xH → Prop} (ls : List Value)(st : List Value) {x y : Int32} : EV X mL_law 162 3499 556 ls (.int y :: .int x :: st) g h Q = EV X mL_law 162 3499 557 ls (.int (x + y) :: st) g h Q := E_iadd dL_law_556
theorem dL_law_557 : decode cL_law 557 = .ok (.iaload, 1) := by decide +kernel
theorem eL_law_557 {X : (Nat → Int32) × Nat} {g : xG} {h : xH} {Q : Option Value → xG → xH → Prop} (ls : List Value)(st : List Value) {i : Int32} : EV X mL_law 162 3499 557 ls (.int i :: .ref 1000 :: st) g h Q = (inb i X.2 ∧ EV X mL_law 162 3499 558 ls (.int (X.1 i.toNatClampNeg) :: st) g h Q) := E_iscr dL_law_557
theorem dL_law_558 : decode cL_law 558 = .ok (.invokevirtual 84, 3) := by decide +kernel
theorem eL_law_558 {X : (Nat → Int32) × Nat} {g : xG} {h : xH} {Q : Option Value → xG → xH → Prop} (ls : List Value){a0 : Int32} {a1 : Int32} : EV X mL_law 162 3499 558 ls (.int a1 :: .int a0 :: .ref 0 :: []) g h Q = EV X mX5_age 0 0 0 [.ref 0, .int a0, .int a1] [] g h (fun r g h => EV X mL_law 162 3499 561 ls (r.toList ++ ([])) g h Q) := E_callv (mi := 72) dL_law_558 (by decide +kernel) (by decide) rfl rfl ⟨rfl, Nat.le_of_ble_eq_true rfl, by decide, by decide⟩ rfl rfl ⟨rfl, rfl⟩ rfl
theorem dL_law_561 : decode cL_law 561 = .ok (.aload_n 2, 1) := by decide +kernel
theorem eL_law_561 {X : (Nat → Int32) × Nat} {g : xG} {h : xH} {Q : Option Value → xG → xH → Prop} {v0 v1 v3 : Value} {x : Nat}(st : List Value) : EV X mL_law 162 3499 561 [v0, v1, .ref x, v3] st g h Q = EV X mL_law 162 3499 562 [v0, v1, .ref x, v3] (.ref x :: st) g h Q := E_aload_n dL_law_561 rfl
theorem dL_law_562 : decode cL_law 562 = .ok (.aload_n 0, 1) := by decide +kernel
theorem eL_law_562 {X : (Nat → Int32) × Nat} {g : xG} {h : xH} {Q : Option Value → xG → xH → Prop} {v1 v2 v3 : Value} {x : Nat}(st : List Value) : EV X mL_law 162 3499 562 [.ref x, v1, v2, v3] st g h Q = EV X mL_law 162 3499 563 [.ref x, v1, v2, v3] (.ref x :: st) g h Q := E_aload_n dL_law_562 rfl
theorem dL_law_563 : decode cL_law 563 = .ok (.iload_n 3, 1) := by decide +kernel
theorem eL_law_563 {X : (Nat → Int32) × Nat} {g : xG} {h : xH} {Q : Option Value → xG → xH → Prop} {v0 v1 v2 : Value} {x : Int32}(st : List Value) : EV X mL_law 162 3499 563 [v0, v1, v2, .int x] st g h Q = EV X mL_law 162 3499 564 [v0, v1, v2, .int x] (.int x :: st) g h Q := E_iload_n dL_law_563 rfl
theorem dL_law_564 : decode cL_law 564 = .ok (.iconst 1, 1) := by decide +kernel
theorem eL_law_564 {X : (Nat → Int32) × Nat} {g : xG} {h : xH} {Q : Option Value → xG → xH → Prop} (ls : List Value)(st : List Value) : EV X mL_law 162 3499 564 ls st g h Q = EV X mL_law 162 3499 565 ls (.int 1 :: st) g h Q := E_iconst (1) dL_law_564 (by decide)
theorem dL_law_565 : decode cL_law 565 = .ok (.iadd, 1) := by decide +kernel
theorem eL_law_565 {X : (Nat → Int32) × Nat} {g : xG} {h : xH} {Q : Option Value → xG → xH → Prop} (ls : List Value)(st : List Value) {x y : Int32} : EV X mL_law 162 3499 565 ls (.int y :: .int x :: st) g h Q = EV X mL_law 162 3499 566 ls (.int (x + y) :: st) g h Q := E_iadd dL_law_565
theorem dL_law_566 : decode cL_law 566 = .ok (.iaload, 1) := by decide +kernel
theorem eL_law_566 {X : (Nat → Int32) × Nat} {g : xG} {h : xH} {Q : Option Value → xG → xH → Prop} (ls : List Value)(st : List Value) {i : Int32} : EV X mL_law 162 3499 566 ls (.int i :: .ref 1000 :: st) g h Q = (inb i X.2 ∧ EV X mL_law 162 3499 567 ls (.int (X.1 i.toNatClampNeg) :: st) g h Q) := E_iscr dL_law_566
theorem dL_law_567 : decode cL_law 567 = .ok (.aload_n 0, 1) := by decide +kernel
theorem eL_law_567 {X : (Nat → Int32) × Nat} {g : xG} {h : xH} {Q : Option Value → xG → xH → Prop} {v1 v2 v3 : Value} {x : Nat}(st : List Value) : EV X mL_law 162 3499 567 [.ref x, v1, v2, v3] st g h Q = EV X mL_law 162 3499 568 [.ref x, v1, v2, v3] (.ref x :: st) g h Q := E_aload_n dL_law_567 rfl
theorem dL_law_568 : decode cL_law 568 = .ok (.iload_n 3, 1) := by decide +kernel
theorem eL_law_568 {X : (Nat → Int32) × Nat} {g : xG} {h : xH} {Q : Option Value → xG → xH → Prop} {v0 v1 v2 : Value} {x : Int32}(st : List Value) : EV X mL_law 162 3499 568 [v0, v1, v2, .int x] st g h Q = EV X mL_law 162 3499 569 [v0, v1, v2, .int x] (.int x :: st) g h Q := E_iload_n dL_law_568 rfl
theorem dL_law_569 : decode cL_law 569 = .ok (.iconst 2, 1) := by decide +kernel
theorem eL_law_569 {X : (Nat → Int32) × Nat} {g : xG} {h : xH} {Q : Option Value → xG → xH → Prop} (ls : List Value)(st : List Value) : EV X mL_law 162 3499 569 ls st g h Q = EV X mL_law 162 3499 570 ls (.int 2 :: st) g h Q := E_iconst (2) dL_law_569 (by decide)
theorem dL_law_570 : decode cL_law 570 = .ok (.iadd, 1) := by decide +kernel
theorem eL_law_570 {X : (Nat → Int32) × Nat} {g : xG} {h : xH} {Q : Option Value → xG → xH → Prop} (ls : List Value)(st : List Value) {x y : Int32} : EV X mL_law 162 3499 570 ls (.int y :: .int x :: st) g h Q = EV X mL_law 162 3499 571 ls (.int (x + y) :: st) g h Q := E_iadd dL_law_570
theorem dL_law_571 : decode cL_law 571 = .ok (.iaload, 1) := by decide +kernel
theorem eL_law_571 {X : (Nat → Int32) × Nat} {g : xG} {h : xH} {Q : Option Value → xG → xH → Prop} (ls : List Value)(st : List Value) {i : Int32} : EV X mL_law 162 3499 571 ls (.int i :: .ref 1000 :: st) g h Q = (inb i X.2 ∧ EV X mL_law 162 3499 572 ls (.int (X.1 i.toNatClampNeg) :: st) g h Q) := E_iscr dL_law_571
theorem dL_law_572 : decode cL_law 572 = .ok (.invokevirtual 87, 3) := by decide +kernel
theorem eL_law_572 {X : (Nat → Int32) × Nat} {g : xG} {h : xH} {Q : Option Value → xG → xH → Prop} (ls : List Value){a0 : Int32} {a1 : Int32} {x0 : Int32} : EV X mL_law 162 3499 572 ls (.int a1 :: .int a0 :: .ref 140 :: .int x0 :: []) g h Q = EV X mX6_age 0 0 0 [.ref 140, .int a0, .int a1] [] g h (fun r g h => EV X mL_law 162 3499 575 ls (r.toList ++ (.int x0 :: [])) g h Q) := E_callv (mi := 157) dL_law_572 (by decide +kernel) (by decide) rfl rfl ⟨rfl, Nat.le_of_ble_eq_true rfl, by decide, by decide⟩ rfl rfl ⟨rfl, rfl⟩ rfl
theorem dL_law_575 : decode cL_law 575 = .ok (.if_icmp .eq 598, 3) := by decide +kernel
theorem eL_law_575 {X : (Nat → Int32) × Nat} {g : xG} {h : xH} {Q : Option Value → xG → xH → Prop} (ls : List Value)(st : List Value) {x y : Int32} : EV X mL_law 162 3499 575 ls (.int y :: .int x :: st) g h Q = if x = y then EV X mL_law 162 3499 1173 ls st g h Q else EV X mL_law 162 3499 578 ls st g h Q := E_icmpeq 1173 dL_law_575 (by decide)
theorem dL_law_578 : decode cL_law 578 = .ok (.iconst 0, 1) := by decide +kernel
theorem eL_law_578 {X : (Nat → Int32) × Nat} {g : xG} {h : xH} {Q : Option Value → xG → xH → Prop} (ls : List Value)(st : List Value) : EV X mL_law 162 3499 578 ls st g h Q = EV X mL_law 162 3499 579 ls (.int 0 :: st) g h Q := E_iconst (0) dL_law_578 (by decide)
theorem dL_law_579 : decode cL_law 579 = .ok (.ireturn, 1) := by decide +kernel
theorem eL_law_579 {X : (Nat → Int32) × Nat} {g : xG} {h : xH} {Q : Option Value → xG → xH → Prop} (ls : List Value) {x : Int32} : EV X mL_law 162 3499 579 ls [.int x] g h Q = (is01 x ∧ Q (some (.int x)) g h) := E_iretz dL_law_579 rfl ⟨by decide, by decide⟩
theorem dL_law_580 : decode cL_law 580 = .ok (.aload_n 1, 1) := by decide +kernel
theorem eL_law_580 {X : (Nat → Int32) × Nat} {g : xG} {h : xH} {Q : Option Value → xG → xH → Prop} {v0 v2 v3 : Value} {x : Nat}(st : List Value) : EV X mL_law 162 3499 580 [v0, .ref x, v2, v3] st g h Q = EV X mL_law 162 3499 581 [v0, .ref x, v2, v3] (.ref x :: st) g h Q := E_aload_n dL_law_580 rfl
theorem dL_law_581 : decode cL_law 581 = .ok (.aload_n 0, 1) := by decide +kernel
theorem eL_law_581 {X : (Nat → Int32) × Nat} {g : xG} {h : xH} {Q : Option Value → xG → xH → Prop} {v1 v2 v3 : Value} {x : Nat}(st : List Value) : EV X mL_law 162 3499 581 [.ref x, v1, v2, v3] st g h Q = EV X mL_law 162 3499 582 [.ref x, v1, v2, v3] (.ref x :: st) g h Q := E_aload_n dL_law_581 rfl
theorem dL_law_582 : decode cL_law 582 = .ok (.iload_n 3, 1) := by decide +kernel
theorem eL_law_582 {X : (Nat → Int32) × Nat} {g : xG} {h : xH} {Q : Option Value → xG → xH → Prop} {v0 v1 v2 : Value} {x : Int32}(st : List Value) : EV X mL_law 162 3499 582 [v0, v1, v2, .int x] st g h Q = EV X mL_law 162 3499 583 [v0, v1, v2, .int x] (.int x :: st) g h Q := E_iload_n dL_law_582 rfl
theorem dL_law_583 : decode cL_law 583 = .ok (.iconst 1, 1) := by decide +kernel
theorem eL_law_583 {X : (Nat → Int32) × Nat} {g : xG} {h : xH} {Q : Option Value → xG → xH → Prop} (ls : List Value)(st : List Value) : EV X mL_law 162 3499 583 ls st g h Q = EV X mL_law 162 3499 584 ls (.int 1 :: st) g h Q := E_iconst (1) dL_law_583 (by decide)
theorem dL_law_584 : decode cL_law 584 = .ok (.iadd, 1) := by decide +kernel
theorem eL_law_584 {X : (Nat → Int32) × Nat} {g : xG} {h : xH} {Q : Option Value → xG → xH → Prop} (ls : List Value)(st : List Value) {x y : Int32} : EV X mL_law 162 3499 584 ls (.int y :: .int x :: st) g h Q = EV X mL_law 162 3499 585 ls (.int (x + y) :: st) g h Q := E_iadd dL_law_584
theorem dL_law_585 : decode cL_law 585 = .ok (.iaload, 1) := by decide +kernel
theorem eL_law_585 {X : (Nat → Int32) × Nat} {g : xG} {h : xH} {Q : Option Value → xG → xH → Prop} (ls : List Value)(st : List Value) {i : Int32} : EV X mL_law 162 3499 585 ls (.int i :: .ref 1000 :: st) g h Q = (inb i X.2 ∧ EV X mL_law 162 3499 586 ls (.int (X.1 i.toNatClampNeg) :: st) g h Q) := E_iscr dL_law_585
theorem dL_law_586 : decode cL_law 586 = .ok (.aload_n 0, 1) := by decide +kernel
theorem eL_law_586 {X : (Nat → Int32) × Nat} {g : xG} {h : xH} {Q : Option Value → xG → xH → Prop} {v1 v2 v3 : Value} {x : Nat}(st : List Value) : EV X mL_law 162 3499 586 [.ref x, v1, v2, v3] st g h Q = EV X mL_law 162 3499 587 [.ref x, v1, v2, v3] (.ref x :: st) g h Q := E_aload_n dL_law_586 rfl
theorem dL_law_587 : decode cL_law 587 = .ok (.iload_n 3, 1) := by decide +kernel
theorem eL_law_587 {X : (Nat → Int32) × Nat} {g : xG} {h : xH} {Q : Option Value → xG → xH → Prop} {v0 v1 v2 : Value} {x : Int32}(st : List Value) : EV X mL_law 162 3499 587 [v0, v1, v2, .int x] st g h Q = EV X mL_law 162 3499 588 [v0, v1, v2, .int x] (.int x :: st) g h Q := E_iload_n dL_law_587 rfl
theorem dL_law_588 : decode cL_law 588 = .ok (.iconst 2, 1) := by decide +kernel
theorem eL_law_588 {X : (Nat → Int32) × Nat} {g : xG} {h : xH} {Q : Option Value → xG → xH → Prop} (ls : List Value)(st : List Value) : EV X mL_law 162 3499 588 ls st g h Q = EV X mL_law 162 3499 589 ls (.int 2 :: st) g h Q := E_iconst (2) dL_law_588 (by decide)
theorem dL_law_589 : decode cL_law 589 = .ok (.iadd, 1) := by decide +kernel
theorem eL_law_589 {X : (Nat → Int32) × Nat} {g : xG} {h : xH} {Q : Option Value → xG → xH → Prop} (ls : List Value)(st : List Value) {x y : Int32} : EV X mL_law 162 3499 589 ls (.int y :: .int x :: st) g h Q = EV X mL_law 162 3499 590 ls (.int (x + y) :: st) g h Q := E_iadd dL_law_589
theorem dL_law_590 : decode cL_law 590 = .ok (.iaload, 1) := by decide +kernel
theorem eL_law_590 {X : (Nat → Int32) × Nat} {g : xG} {h : xH} {Q : Option Value → xG → xH → Prop} (ls : List Value)(st : List Value) {i : Int32} : EV X mL_law 162 3499 590 ls (.int i :: .ref 1000 :: st) g h Q = (inb i X.2 ∧ EV X mL_law 162 3499 591 ls (.int (X.1 i.toNatClampNeg) :: st) g h Q) := E_iscr dL_law_590
theorem dL_law_591 : decode cL_law 591 = .ok (.aload_n 0, 1) := by decide +kernel
theorem eL_law_591 {X : (Nat → Int32) × Nat} {g : xG} {h : xH} {Q : Option Value → xG → xH → Prop} {v1 v2 v3 : Value} {x : Nat}(st : List Value) : EV X mL_law 162 3499 591 [.ref x, v1, v2, v3] st g h Q = EV X mL_law 162 3499 592 [.ref x, v1, v2, v3] (.ref x :: st) g h Q := E_aload_n dL_law_591 rfl
theorem dL_law_592 : decode cL_law 592 = .ok (.iload_n 3, 1) := by decide +kernel
theorem eL_law_592 {X : (Nat → Int32) × Nat} {g : xG} {h : xH} {Q : Option Value → xG → xH → Prop} {v0 v1 v2 : Value} {x : Int32}(st : List Value) : EV X mL_law 162 3499 592 [v0, v1, v2, .int x] st g h Q = EV X mL_law 162 3499 593 [v0, v1, v2, .int x] (.int x :: st) g h Q := E_iload_n dL_law_592 rfl
theorem dL_law_593 : decode cL_law 593 = .ok (.iconst 3, 1) := by decide +kernel
theorem eL_law_593 {X : (Nat → Int32) × Nat} {g : xG} {h : xH} {Q : Option Value → xG → xH → Prop} (ls : List Value)(st : List Value) : EV X mL_law 162 3499 593 ls st g h Q = EV X mL_law 162 3499 594 ls (.int 3 :: st) g h Q := E_iconst (3) dL_law_593 (by decide)
theorem dL_law_594 : decode cL_law 594 = .ok (.iadd, 1) := by decide +kernel
theorem eL_law_594 {X : (Nat → Int32) × Nat} {g : xG} {h : xH} {Q : Option Value → xG → xH → Prop} (ls : List Value)(st : List Value) {x y : Int32} : EV X mL_law 162 3499 594 ls (.int y :: .int x :: st) g h Q = EV X mL_law 162 3499 595 ls (.int (x + y) :: st) g h Q := E_iadd dL_law_594
theorem dL_law_595 : decode cL_law 595 = .ok (.iaload, 1) := by decide +kernel
theorem eL_law_595 {X : (Nat → Int32) × Nat} {g : xG} {h : xH} {Q : Option Value → xG → xH → Prop} (ls : List Value)(st : List Value) {i : Int32} : EV X mL_law 162 3499 595 ls (.int i :: .ref 1000 :: st) g h Q = (inb i X.2 ∧ EV X mL_law 162 3499 596 ls (.int (X.1 i.toNatClampNeg) :: st) g h Q) := E_iscr dL_law_595
theorem dL_law_596 : decode cL_law 596 = .ok (.aload_n 0, 1) := by decide +kernel
theorem eL_law_596 {X : (Nat → Int32) × Nat} {g : xG} {h : xH} {Q : Option Value → xG → xH → Prop} {v1 v2 v3 : Value} {x : Nat}(st : List Value) : EV X mL_law 162 3499 596 [.ref x, v1, v2, v3] st g h Q = EV X mL_law 162 3499 597 [.ref x, v1, v2, v3] (.ref x :: st) g h Q := E_aload_n dL_law_596 rfl
theorem dL_law_597 : decode cL_law 597 = .ok (.iload_n 3, 1) := by decide +kernel
theorem eL_law_597 {X : (Nat → Int32) × Nat} {g : xG} {h : xH} {Q : Option Value → xG → xH → Prop} {v0 v1 v2 : Value} {x : Int32}(st : List Value) : EV X mL_law 162 3499 597 [v0, v1, v2, .int x] st g h Q = EV X mL_law 162 3499 598 [v0, v1, v2, .int x] (.int x :: st) g h Q := E_iload_n dL_law_597 rfl
theorem dL_law_598 : decode cL_law 598 = .ok (.iconst 4, 1) := by decide +kernel
theorem eL_law_598 {X : (Nat → Int32) × Nat} {g : xG} {h : xH} {Q : Option Value → xG → xH → Prop} (ls : List Value)(st : List Value) : EV X mL_law 162 3499 598 ls st g h Q = EV X mL_law 162 3499 599 ls (.int 4 :: st) g h Q := E_iconst (4) dL_law_598 (by decide)
theorem dL_law_599 : decode cL_law 599 = .ok (.iadd, 1) := by decide +kernel
theorem eL_law_599 {X : (Nat → Int32) × Nat} {g : xG} {h : xH} {Q : Option Value → xG → xH → Prop} (ls : List Value)(st : List Value) {x y : Int32} : EV X mL_law 162 3499 599 ls (.int y :: .int x :: st) g h Q = EV X mL_law 162 3499 600 ls (.int (x + y) :: st) g h Q := E_iadd dL_law_599
theorem dL_law_600 : decode cL_law 600 = .ok (.iaload, 1) := by decide +kernel
theorem eL_law_600 {X : (Nat → Int32) × Nat} {g : xG} {h : xH} {Q : Option Value → xG → xH → Prop} (ls : List Value)(st : List Value) {i : Int32} : EV X mL_law 162 3499 600 ls (.int i :: .ref 1000 :: st) g h Q = (inb i X.2 ∧ EV X mL_law 162 3499 601 ls (.int (X.1 i.toNatClampNeg) :: st) g h Q) := E_iscr dL_law_600
theorem dL_law_601 : decode cL_law 601 = .ok (.invokevirtual 88, 3) := by decide +kernel
theorem eL_law_601 {X : (Nat → Int32) × Nat} {g : xG} {h : xH} {Q : Option Value → xG → xH → Prop} (ls : List Value){a0 : Int32} {a1 : Int32} {a2 : Int32} {a3 : Int32} : EV X mL_law 162 3499 601 ls (.int a3 :: .int a2 :: .int a1 :: .int a0 :: .ref 0 :: []) g h Q = EV X mX5_let 0 0 0 [.ref 0, .int a0, .int a1, .int a2, .int a3, .null, .null] [] g h (fun r g h => EV X mL_law 162 3499 604 ls (r.toList ++ ([])) g h Q) := E_callv (mi := 73) dL_law_601 (by decide +kernel) (by decide) rfl rfl ⟨rfl, Nat.le_of_ble_eq_true rfl, by decide, by decide⟩ rfl rfl ⟨rfl, rfl⟩ rfl
theorem dL_law_604 : decode cL_law 604 = .ok (.aload_n 2, 1) := by decide +kernel
theorem eL_law_604 {X : (Nat → Int32) × Nat} {g : xG} {h : xH} {Q : Option Value → xG → xH → Prop} {v0 v1 v3 : Value} {x : Nat}(st : List Value) : EV X mL_law 162 3499 604 [v0, v1, .ref x, v3] st g h Q = EV X mL_law 162 3499 605 [v0, v1, .ref x, v3] (.ref x :: st) g h Q := E_aload_n dL_law_604 rfl
theorem dL_law_605 : decode cL_law 605 = .ok (.aload_n 0, 1) := by decide +kernel
theorem eL_law_605 {X : (Nat → Int32) × Nat} {g : xG} {h : xH} {Q : Option Value → xG → xH → Prop} {v1 v2 v3 : Value} {x : Nat}(st : List Value) : EV X mL_law 162 3499 605 [.ref x, v1, v2, v3] st g h Q = EV X mL_law 162 3499 606 [.ref x, v1, v2, v3] (.ref x :: st) g h Q := E_aload_n dL_law_605 rfl
theorem dL_law_606 : decode cL_law 606 = .ok (.iload_n 3, 1) := by decide +kernel
theorem eL_law_606 {X : (Nat → Int32) × Nat} {g : xG} {h : xH} {Q : Option Value → xG → xH → Prop} {v0 v1 v2 : Value} {x : Int32}(st : List Value) : EV X mL_law 162 3499 606 [v0, v1, v2, .int x] st g h Q = EV X mL_law 162 3499 607 [v0, v1, v2, .int x] (.int x :: st) g h Q := E_iload_n dL_law_606 rfl
theorem dL_law_607 : decode cL_law 607 = .ok (.iconst 1, 1) := by decide +kernel
theorem eL_law_607 {X : (Nat → Int32) × Nat} {g : xG} {h : xH} {Q : Option Value → xG → xH → Prop} (ls : List Value)(st : List Value) : EV X mL_law 162 3499 607 ls st g h Q = EV X mL_law 162 3499 608 ls (.int 1 :: st) g h Q := E_iconst (1) dL_law_607 (by decide)
theorem dL_law_608 : decode cL_law 608 = .ok (.iadd, 1) := by decide +kernel
theorem eL_law_608 {X : (Nat → Int32) × Nat} {g : xG} {h : xH} {Q : Option Value → xG → xH → Prop} (ls : List Value)(st : List Value) {x y : Int32} : EV X mL_law 162 3499 608 ls (.int y :: .int x :: st) g h Q = EV X mL_law 162 3499 609 ls (.int (x + y) :: st) g h Q := E_iadd dL_law_608
theorem dL_law_609 : decode cL_law 609 = .ok (.iaload, 1) := by decide +kernel
theorem eL_law_609 {X : (Nat → Int32) × Nat} {g : xG} {h : xH} {Q : Option Value → xG → xH → Prop} (ls : List Value)(st : List Value) {i : Int32} : EV X mL_law 162 3499 609 ls (.int i :: .ref 1000 :: st) g h Q = (inb i X.2 ∧ EV X mL_law 162 3499 610 ls (.int (X.1 i.toNatClampNeg) :: st) g h Q) := E_iscr dL_law_609
theorem dL_law_610 : decode cL_law 610 = .ok (.aload_n 0, 1) := by decide +kernel
theorem eL_law_610 {X : (Nat → Int32) × Nat} {g : xG} {h : xH} {Q : Option Value → xG → xH → Prop} {v1 v2 v3 : Value} {x : Nat}(st : List Value) : EV X mL_law 162 3499 610 [.ref x, v1, v2, v3] st g h Q = EV X mL_law 162 3499 611 [.ref x, v1, v2, v3] (.ref x :: st) g h Q := E_aload_n dL_law_610 rfl
theorem dL_law_611 : decode cL_law 611 = .ok (.iload_n 3, 1) := by decide +kernel
theorem eL_law_611 {X : (Nat → Int32) × Nat} {g : xG} {h : xH} {Q : Option Value → xG → xH → Prop} {v0 v1 v2 : Value} {x : Int32}(st : List Value) : EV X mL_law 162 3499 611 [v0, v1, v2, .int x] st g h Q = EV X mL_law 162 3499 612 [v0, v1, v2, .int x] (.int x :: st) g h Q := E_iload_n dL_law_611 rfl
theorem dL_law_612 : decode cL_law 612 = .ok (.iconst 2, 1) := by decide +kernel
theorem eL_law_612 {X : (Nat → Int32) × Nat} {g : xG} {h : xH} {Q : Option Value → xG → xH → Prop} (ls : List Value)(st : List Value) : EV X mL_law 162 3499 612 ls st g h Q = EV X mL_law 162 3499 613 ls (.int 2 :: st) g h Q := E_iconst (2) dL_law_612 (by decide)
theorem dL_law_613 : decode cL_law 613 = .ok (.iadd, 1) := by decide +kernel
theorem eL_law_613 {X : (Nat → Int32) × Nat} {g : xG} {h : xH} {Q : Option Value → xG → xH → Prop} (ls : List Value)(st : List Value) {x y : Int32} : EV X mL_law 162 3499 613 ls (.int y :: .int x :: st) g h Q = EV X mL_law 162 3499 614 ls (.int (x + y) :: st) g h Q := E_iadd dL_law_613
theorem dL_law_614 : decode cL_law 614 = .ok (.iaload, 1) := by decide +kernel
theorem eL_law_614 {X : (Nat → Int32) × Nat} {g : xG} {h : xH} {Q : Option Value → xG → xH → Prop} (ls : List Value)(st : List Value) {i : Int32} : EV X mL_law 162 3499 614 ls (.int i :: .ref 1000 :: st) g h Q = (inb i X.2 ∧ EV X mL_law 162 3499 615 ls (.int (X.1 i.toNatClampNeg) :: st) g h Q) := E_iscr dL_law_614
theorem dL_law_615 : decode cL_law 615 = .ok (.aload_n 0, 1) := by decide +kernel
theorem eL_law_615 {X : (Nat → Int32) × Nat} {g : xG} {h : xH} {Q : Option Value → xG → xH → Prop} {v1 v2 v3 : Value} {x : Nat}(st : List Value) : EV X mL_law 162 3499 615 [.ref x, v1, v2, v3] st g h Q = EV X mL_law 162 3499 616 [.ref x, v1, v2, v3] (.ref x :: st) g h Q := E_aload_n dL_law_615 rfl
theorem dL_law_616 : decode cL_law 616 = .ok (.iload_n 3, 1) := by decide +kernel
theorem eL_law_616 {X : (Nat → Int32) × Nat} {g : xG} {h : xH} {Q : Option Value → xG → xH → Prop} {v0 v1 v2 : Value} {x : Int32}(st : List Value) : EV X mL_law 162 3499 616 [v0, v1, v2, .int x] st g h Q = EV X mL_law 162 3499 617 [v0, v1, v2, .int x] (.int x :: st) g h Q := E_iload_n dL_law_616 rfl
theorem dL_law_617 : decode cL_law 617 = .ok (.iconst 3, 1) := by decide +kernel
theorem eL_law_617 {X : (Nat → Int32) × Nat} {g : xG} {h : xH} {Q : Option Value → xG → xH → Prop} (ls : List Value)(st : List Value) : EV X mL_law 162 3499 617 ls st g h Q = EV X mL_law 162 3499 618 ls (.int 3 :: st) g h Q := E_iconst (3) dL_law_617 (by decide)
theorem dL_law_618 : decode cL_law 618 = .ok (.iadd, 1) := by decide +kernel
theorem eL_law_618 {X : (Nat → Int32) × Nat} {g : xG} {h : xH} {Q : Option Value → xG → xH → Prop} (ls : List Value)(st : List Value) {x y : Int32} : EV X mL_law 162 3499 618 ls (.int y :: .int x :: st) g h Q = EV X mL_law 162 3499 619 ls (.int (x + y) :: st) g h Q := E_iadd dL_law_618
theorem dL_law_619 : decode cL_law 619 = .ok (.iaload, 1) := by decide +kernel
theorem eL_law_619 {X : (Nat → Int32) × Nat} {g : xG} {h : xH} {Q : Option Value → xG → xH → Prop} (ls : List Value)(st : List Value) {i : Int32} : EV X mL_law 162 3499 619 ls (.int i :: .ref 1000 :: st) g h Q = (inb i X.2 ∧ EV X mL_law 162 3499 620 ls (.int (X.1 i.toNatClampNeg) :: st) g h Q) := E_iscr dL_law_619
theorem dL_law_620 : decode cL_law 620 = .ok (.aload_n 0, 1) := by decide +kernel
theorem eL_law_620 {X : (Nat → Int32) × Nat} {g : xG} {h : xH} {Q : Option Value → xG → xH → Prop} {v1 v2 v3 : Value} {x : Nat}(st : List Value) : EV X mL_law 162 3499 620 [.ref x, v1, v2, v3] st g h Q = EV X mL_law 162 3499 621 [.ref x, v1, v2, v3] (.ref x :: st) g h Q := E_aload_n dL_law_620 rfl
theorem dL_law_621 : decode cL_law 621 = .ok (.iload_n 3, 1) := by decide +kernel
theorem eL_law_621 {X : (Nat → Int32) × Nat} {g : xG} {h : xH} {Q : Option Value → xG → xH → Prop} {v0 v1 v2 : Value} {x : Int32}(st : List Value) : EV X mL_law 162 3499 621 [v0, v1, v2, .int x] st g h Q = EV X mL_law 162 3499 622 [v0, v1, v2, .int x] (.int x :: st) g h Q := E_iload_n dL_law_621 rfl
theorem dL_law_622 : decode cL_law 622 = .ok (.iconst 4, 1) := by decide +kernel
theorem eL_law_622 {X : (Nat → Int32) × Nat} {g : xG} {h : xH} {Q : Option Value → xG → xH → Prop} (ls : List Value)(st : List Value) : EV X mL_law 162 3499 622 ls st g h Q = EV X mL_law 162 3499 623 ls (.int 4 :: st) g h Q := E_iconst (4) dL_law_622 (by decide)
theorem dL_law_623 : decode cL_law 623 = .ok (.iadd, 1) := by decide +kernel
theorem eL_law_623 {X : (Nat → Int32) × Nat} {g : xG} {h : xH} {Q : Option Value → xG → xH → Prop} (ls : List Value)(st : List Value) {x y : Int32} : EV X mL_law 162 3499 623 ls (.int y :: .int x :: st) g h Q = EV X mL_law 162 3499 624 ls (.int (x + y) :: st) g h Q := E_iadd dL_law_623
theorem dL_law_624 : decode cL_law 624 = .ok (.iaload, 1) := by decide +kernel
theorem eL_law_624 {X : (Nat → Int32) × Nat} {g : xG} {h : xH} {Q : Option Value → xG → xH → Prop} (ls : List Value)(st : List Value) {i : Int32} : EV X mL_law 162 3499 624 ls (.int i :: .ref 1000 :: st) g h Q = (inb i X.2 ∧ EV X mL_law 162 3499 625 ls (.int (X.1 i.toNatClampNeg) :: st) g h Q) := E_iscr dL_law_624
theorem dL_law_625 : decode cL_law 625 = .ok (.invokevirtual 92, 3) := by decide +kernel
theorem eL_law_625 {X : (Nat → Int32) × Nat} {g : xG} {h : xH} {Q : Option Value → xG → xH → Prop} (ls : List Value){a0 : Int32} {a1 : Int32} {a2 : Int32} {a3 : Int32} {x0 : Int32} : EV X mL_law 162 3499 625 ls (.int a3 :: .int a2 :: .int a1 :: .int a0 :: .ref 140 :: .int x0 :: []) g h Q = EV X mX6_let 0 0 0 [.ref 140, .int a0, .int a1, .int a2, .int a3, .null, .null, .null, .null] [] g h (fun r g h => EV X mL_law 162 3499 628 ls (r.toList ++ (.int x0 :: [])) g h Q) := E_callv (mi := 158) dL_law_625 (by decide +kernel) (by decide) rfl rfl ⟨rfl, Nat.le_of_ble_eq_true rfl, by decide, by decide⟩ rfl rfl ⟨rfl, rfl⟩ rfl
theorem dL_law_628 : decode cL_law 628 = .ok (.if_icmp .eq 545, 3) := by decide +kernel
theorem eL_law_628 {X : (Nat → Int32) × Nat} {g : xG} {h : xH} {Q : Option Value → xG → xH → Prop} (ls : List Value)(st : List Value) {x y : Int32} : EV X mL_law 162 3499 628 ls (.int y :: .int x :: st) g h Q = if x = y then EV X mL_law 162 3499 1173 ls st g h Q else EV X mL_law 162 3499 631 ls st g h Q := E_icmpeq 1173 dL_law_628 (by decide)
theorem dL_law_631 : decode cL_law 631 = .ok (.iconst 0, 1) := by decide +kernel
theorem eL_law_631 {X : (Nat → Int32) × Nat} {g : xG} {h : xH} {Q : Option Value → xG → xH → Prop} (ls : List Value)(st : List Value) : EV X mL_law 162 3499 631 ls st g h Q = EV X mL_law 162 3499 632 ls (.int 0 :: st) g h Q := E_iconst (0) dL_law_631 (by decide)
theorem dL_law_632 : decode cL_law 632 = .ok (.ireturn, 1) := by decide +kernel
theorem eL_law_632 {X : (Nat → Int32) × Nat} {g : xG} {h : xH} {Q : Option Value → xG → xH → Prop} (ls : List Value) {x : Int32} : EV X mL_law 162 3499 632 ls [.int x] g h Q = (is01 x ∧ Q (some (.int x)) g h) := E_iretz dL_law_632 rfl ⟨by decide, by decide⟩
theorem dL_law_633 : decode cL_law 633 = .ok (.aload_n 1, 1) := by decide +kernel
theorem eL_law_633 {X : (Nat → Int32) × Nat} {g : xG} {h : xH} {Q : Option Value → xG → xH → Prop} {v0 v2 v3 : Value} {x : Nat}(st : List Value) : EV X mL_law 162 3499 633 [v0, .ref x, v2, v3] st g h Q = EV X mL_law 162 3499 634 [v0, .ref x, v2, v3] (.ref x :: st) g h Q := E_aload_n dL_law_633 rfl
theorem dL_law_634 : decode cL_law 634 = .ok (.aload_n 0, 1) := by decide +kernel
theorem eL_law_634 {X : (Nat → Int32) × Nat} {g : xG} {h : xH} {Q : Option Value → xG → xH → Prop} {v1 v2 v3 : Value} {x : Nat}(st : List Value) : EV X mL_law 162 3499 634 [.ref x, v1, v2, v3] st g h Q = EV X mL_law 162 3499 635 [.ref x, v1, v2, v3] (.ref x :: st) g h Q := E_aload_n dL_law_634 rfl
theorem dL_law_635 : decode cL_law 635 = .ok (.iload_n 3, 1) := by decide +kernel
theorem eL_law_635 {X : (Nat → Int32) × Nat} {g : xG} {h : xH} {Q : Option Value → xG → xH → Prop} {v0 v1 v2 : Value} {x : Int32}(st : List Value) : EV X mL_law 162 3499 635 [v0, v1, v2, .int x] st g h Q = EV X mL_law 162 3499 636 [v0, v1, v2, .int x] (.int x :: st) g h Q := E_iload_n dL_law_635 rfl
theorem dL_law_636 : decode cL_law 636 = .ok (.iconst 1, 1) := by decide +kernel
theorem eL_law_636 {X : (Nat → Int32) × Nat} {g : xG} {h : xH} {Q : Option Value → xG → xH → Prop} (ls : List Value)(st : List Value) : EV X mL_law 162 3499 636 ls st g h Q = EV X mL_law 162 3499 637 ls (.int 1 :: st) g h Q := E_iconst (1) dL_law_636 (by decide)
theorem dL_law_637 : decode cL_law 637 = .ok (.iadd, 1) := by decide +kernel
theorem eL_law_637 {X : (Nat → Int32) × Nat} {g : xG} {h : xH} {Q : Option Value → xG → xH → Prop} (ls : List Value)(st : List Value) {x y : Int32} : EV X mL_law 162 3499 637 ls (.int y :: .int x :: st) g h Q = EV X mL_law 162 3499 638 ls (.int (x + y) :: st) g h Q := E_iadd dL_law_637
theorem dL_law_638 : decode cL_law 638 = .ok (.iaload, 1) := by decide +kernel
theorem eL_law_638 {X : (Nat → Int32) × Nat} {g : xG} {h : xH} {Q : Option Value → xG → xH → Prop} (ls : List Value)(st : List Value) {i : Int32} : EV X mL_law 162 3499 638 ls (.int i :: .ref 1000 :: st) g h Q = (inb i X.2 ∧ EV X mL_law 162 3499 639 ls (.int (X.1 i.toNatClampNeg) :: st) g h Q) := E_iscr dL_law_638
theorem dL_law_639 : decode cL_law 639 = .ok (.aload_n 0, 1) := by decide +kernel
theorem eL_law_639 {X : (Nat → Int32) × Nat} {g : xG} {h : xH} {Q : Option Value → xG → xH → Prop} {v1 v2 v3 : Value} {x : Nat}(st : List Value) : EV X mL_law 162 3499 639 [.ref x, v1, v2, v3] st g h Q = EV X mL_law 162 3499 640 [.ref x, v1, v2, v3] (.ref x :: st) g h Q := E_aload_n dL_law_639 rfl
theorem dL_law_640 : decode cL_law 640 = .ok (.iload_n 3, 1) := by decide +kernel
theorem eL_law_640 {X : (Nat → Int32) × Nat} {g : xG} {h : xH} {Q : Option Value → xG → xH → Prop} {v0 v1 v2 : Value} {x : Int32}(st : List Value) : EV X mL_law 162 3499 640 [v0, v1, v2, .int x] st g h Q = EV X mL_law 162 3499 641 [v0, v1, v2, .int x] (.int x :: st) g h Q := E_iload_n dL_law_640 rfl
theorem dL_law_641 : decode cL_law 641 = .ok (.iconst 2, 1) := by decide +kernel
theorem eL_law_641 {X : (Nat → Int32) × Nat} {g : xG} {h : xH} {Q : Option Value → xG → xH → Prop} (ls : List Value)(st : List Value) : EV X mL_law 162 3499 641 ls st g h Q = EV X mL_law 162 3499 642 ls (.int 2 :: st) g h Q := E_iconst (2) dL_law_641 (by decide)
theorem dL_law_642 : decode cL_law 642 = .ok (.iadd, 1) := by decide +kernel
theorem eL_law_642 {X : (Nat → Int32) × Nat} {g : xG} {h : xH} {Q : Option Value → xG → xH → Prop} (ls : List Value)(st : List Value) {x y : Int32} : EV X mL_law 162 3499 642 ls (.int y :: .int x :: st) g h Q = EV X mL_law 162 3499 643 ls (.int (x + y) :: st) g h Q := E_iadd dL_law_642
theorem dL_law_643 : decode cL_law 643 = .ok (.iaload, 1) := by decide +kernel
theorem eL_law_643 {X : (Nat → Int32) × Nat} {g : xG} {h : xH} {Q : Option Value → xG → xH → Prop} (ls : List Value)(st : List Value) {i : Int32} : EV X mL_law 162 3499 643 ls (.int i :: .ref 1000 :: st) g h Q = (inb i X.2 ∧ EV X mL_law 162 3499 644 ls (.int (X.1 i.toNatClampNeg) :: st) g h Q) := E_iscr dL_law_643
theorem dL_law_644 : decode cL_law 644 = .ok (.aload_n 0, 1) := by decide +kernel
theorem eL_law_644 {X : (Nat → Int32) × Nat} {g : xG} {h : xH} {Q : Option Value → xG → xH → Prop} {v1 v2 v3 : Value} {x : Nat}(st : List Value) : EV X mL_law 162 3499 644 [.ref x, v1, v2, v3] st g h Q = EV X mL_law 162 3499 645 [.ref x, v1, v2, v3] (.ref x :: st) g h Q := E_aload_n dL_law_644 rfl
theorem dL_law_645 : decode cL_law 645 = .ok (.iload_n 3, 1) := by decide +kernel
theorem eL_law_645 {X : (Nat → Int32) × Nat} {g : xG} {h : xH} {Q : Option Value → xG → xH → Prop} {v0 v1 v2 : Value} {x : Int32}(st : List Value) : EV X mL_law 162 3499 645 [v0, v1, v2, .int x] st g h Q = EV X mL_law 162 3499 646 [v0, v1, v2, .int x] (.int x :: st) g h Q := E_iload_n dL_law_645 rfl
theorem dL_law_646 : decode cL_law 646 = .ok (.iconst 3, 1) := by decide +kernel
theorem eL_law_646 {X : (Nat → Int32) × Nat} {g : xG} {h : xH} {Q : Option Value → xG → xH → Prop} (ls : List Value)(st : List Value) : EV X mL_law 162 3499 646 ls st g h Q = EV X mL_law 162 3499 647 ls (.int 3 :: st) g h Q := E_iconst (3) dL_law_646 (by decide)
theorem dL_law_647 : decode cL_law 647 = .ok (.iadd, 1) := by decide +kernel
theorem eL_law_647 {X : (Nat → Int32) × Nat} {g : xG} {h : xH} {Q : Option Value → xG → xH → Prop} (ls : List Value)(st : List Value) {x y : Int32} : EV X mL_law 162 3499 647 ls (.int y :: .int x :: st) g h Q = EV X mL_law 162 3499 648 ls (.int (x + y) :: st) g h Q := E_iadd dL_law_647
theorem dL_law_648 : decode cL_law 648 = .ok (.iaload, 1) := by decide +kernel
theorem eL_law_648 {X : (Nat → Int32) × Nat} {g : xG} {h : xH} {Q : Option Value → xG → xH → Prop} (ls : List Value)(st : List Value) {i : Int32} : EV X mL_law 162 3499 648 ls (.int i :: .ref 1000 :: st) g h Q = (inb i X.2 ∧ EV X mL_law 162 3499 649 ls (.int (X.1 i.toNatClampNeg) :: st) g h Q) := E_iscr dL_law_648
theorem dL_law_649 : decode cL_law 649 = .ok (.invokevirtual 93, 3) := by decide +kernel
theorem eL_law_649 {X : (Nat → Int32) × Nat} {g : xG} {h : xH} {Q : Option Value → xG → xH → Prop} (ls : List Value){a0 : Int32} {a1 : Int32} {a2 : Int32} : EV X mL_law 162 3499 649 ls (.int a2 :: .int a1 :: .int a0 :: .ref 0 :: []) g h Q = EV X mX5_same 0 0 0 [.ref 0, .int a0, .int a1, .int a2, .null, .null, .null, .null] [] g h (fun r g h => EV X mL_law 162 3499 652 ls (r.toList ++ ([])) g h Q) := E_callv (mi := 74) dL_law_649 (by decide +kernel) (by decide) rfl rfl ⟨rfl, Nat.le_of_ble_eq_true rfl, by decide, by decide⟩ rfl rfl ⟨rfl, rfl⟩ rfl
theorem dL_law_652 : decode cL_law 652 = .ok (.aload_n 2, 1) := by decide +kernel
theorem eL_law_652 {X : (Nat → Int32) × Nat} {g : xG} {h : xH} {Q : Option Value → xG → xH → Prop} {v0 v1 v3 : Value} {x : Nat}(st : List Value) : EV X mL_law 162 3499 652 [v0, v1, .ref x, v3] st g h Q = EV X mL_law 162 3499 653 [v0, v1, .ref x, v3] (.ref x :: st) g h Q := E_aload_n dL_law_652 rfl
theorem dL_law_653 : decode cL_law 653 = .ok (.aload_n 0, 1) := by decide +kernel
theorem eL_law_653 {X : (Nat → Int32) × Nat} {g : xG} {h : xH} {Q : Option Value → xG → xH → Prop} {v1 v2 v3 : Value} {x : Nat}(st : List Value) : EV X mL_law 162 3499 653 [.ref x, v1, v2, v3] st g h Q = EV X mL_law 162 3499 654 [.ref x, v1, v2, v3] (.ref x :: st) g h Q := E_aload_n dL_law_653 rfl
theorem dL_law_654 : decode cL_law 654 = .ok (.iload_n 3, 1) := by decide +kernel
theorem eL_law_654 {X : (Nat → Int32) × Nat} {g : xG} {h : xH} {Q : Option Value → xG → xH → Prop} {v0 v1 v2 : Value} {x : Int32}(st : List Value) : EV X mL_law 162 3499 654 [v0, v1, v2, .int x] st g h Q = EV X mL_law 162 3499 655 [v0, v1, v2, .int x] (.int x :: st) g h Q := E_iload_n dL_law_654 rfl
theorem dL_law_655 : decode cL_law 655 = .ok (.iconst 1, 1) := by decide +kernel
theorem eL_law_655 {X : (Nat → Int32) × Nat} {g : xG} {h : xH} {Q : Option Value → xG → xH → Prop} (ls : List Value)(st : List Value) : EV X mL_law 162 3499 655 ls st g h Q = EV X mL_law 162 3499 656 ls (.int 1 :: st) g h Q := E_iconst (1) dL_law_655 (by decide)
theorem dL_law_656 : decode cL_law 656 = .ok (.iadd, 1) := by decide +kernel
theorem eL_law_656 {X : (Nat → Int32) × Nat} {g : xG} {h : xH} {Q : Option Value → xG → xH → Prop} (ls : List Value)(st : List Value) {x y : Int32} : EV X mL_law 162 3499 656 ls (.int y :: .int x :: st) g h Q = EV X mL_law 162 3499 657 ls (.int (x + y) :: st) g h Q := E_iadd dL_law_656
theorem dL_law_657 : decode cL_law 657 = .ok (.iaload, 1) := by decide +kernel
theorem eL_law_657 {X : (Nat → Int32) × Nat} {g : xG} {h : xH} {Q : Option Value → xG → xH → Prop} (ls : List Value)(st : List Value) {i : Int32} : EV X mL_law 162 3499 657 ls (.int i :: .ref 1000 :: st) g h Q = (inb i X.2 ∧ EV X mL_law 162 3499 658 ls (.int (X.1 i.toNatClampNeg) :: st) g h Q) := E_iscr dL_law_657
theorem dL_law_658 : decode cL_law 658 = .ok (.aload_n 0, 1) := by decide +kernel
theorem eL_law_658 {X : (Nat → Int32) × Nat} {g : xG} {h : xH} {Q : Option Value → xG → xH → Prop} {v1 v2 v3 : Value} {x : Nat}(st : List Value) : EV X mL_law 162 3499 658 [.ref x, v1, v2, v3] st g h Q = EV X mL_law 162 3499 659 [.ref x, v1, v2, v3] (.ref x :: st) g h Q := E_aload_n dL_law_658 rfl
theorem dL_law_659 : decode cL_law 659 = .ok (.iload_n 3, 1) := by decide +kernel
theorem eL_law_659 {X : (Nat → Int32) × Nat} {g : xG} {h : xH} {Q : Option Value → xG → xH → Prop} {v0 v1 v2 : Value} {x : Int32}(st : List Value) : EV X mL_law 162 3499 659 [v0, v1, v2, .int x] st g h Q = EV X mL_law 162 3499 660 [v0, v1, v2, .int x] (.int x :: st) g h Q := E_iload_n dL_law_659 rfl
theorem dL_law_660 : decode cL_law 660 = .ok (.iconst 2, 1) := by decide +kernel
theorem eL_law_660 {X : (Nat → Int32) × Nat} {g : xG} {h : xH} {Q : Option Value → xG → xH → Prop} (ls : List Value)(st : List Value) : EV X mL_law 162 3499 660 ls st g h Q = EV X mL_law 162 3499 661 ls (.int 2 :: st) g h Q := E_iconst (2) dL_law_660 (by decide)
theorem dL_law_661 : decode cL_law 661 = .ok (.iadd, 1) := by decide +kernel
theorem eL_law_661 {X : (Nat → Int32) × Nat} {g : xG} {h : xH} {Q : Option Value → xG → xH → Prop} (ls : List Value)(st : List Value) {x y : Int32} : EV X mL_law 162 3499 661 ls (.int y :: .int x :: st) g h Q = EV X mL_law 162 3499 662 ls (.int (x + y) :: st) g h Q := E_iadd dL_law_661
theorem dL_law_662 : decode cL_law 662 = .ok (.iaload, 1) := by decide +kernel
theorem eL_law_662 {X : (Nat → Int32) × Nat} {g : xG} {h : xH} {Q : Option Value → xG → xH → Prop} (ls : List Value)(st : List Value) {i : Int32} : EV X mL_law 162 3499 662 ls (.int i :: .ref 1000 :: st) g h Q = (inb i X.2 ∧ EV X mL_law 162 3499 663 ls (.int (X.1 i.toNatClampNeg) :: st) g h Q) := E_iscr dL_law_662
theorem dL_law_663 : decode cL_law 663 = .ok (.aload_n 0, 1) := by decide +kernel
theorem eL_law_663 {X : (Nat → Int32) × Nat} {g : xG} {h : xH} {Q : Option Value → xG → xH → Prop} {v1 v2 v3 : Value} {x : Nat}(st : List Value) : EV X mL_law 162 3499 663 [.ref x, v1, v2, v3] st g h Q = EV X mL_law 162 3499 664 [.ref x, v1, v2, v3] (.ref x :: st) g h Q := E_aload_n dL_law_663 rfl
theorem dL_law_664 : decode cL_law 664 = .ok (.iload_n 3, 1) := by decide +kernel
theorem eL_law_664 {X : (Nat → Int32) × Nat} {g : xG} {h : xH} {Q : Option Value → xG → xH → Prop} {v0 v1 v2 : Value} {x : Int32}(st : List Value) : EV X mL_law 162 3499 664 [v0, v1, v2, .int x] st g h Q = EV X mL_law 162 3499 665 [v0, v1, v2, .int x] (.int x :: st) g h Q := E_iload_n dL_law_664 rfl
theorem dL_law_665 : decode cL_law 665 = .ok (.iconst 3, 1) := by decide +kernel
theorem eL_law_665 {X : (Nat → Int32) × Nat} {g : xG} {h : xH} {Q : Option Value → xG → xH → Prop} (ls : List Value)(st : List Value) : EV X mL_law 162 3499 665 ls st g h Q = EV X mL_law 162 3499 666 ls (.int 3 :: st) g h Q := E_iconst (3) dL_law_665 (by decide)
theorem dL_law_666 : decode cL_law 666 = .ok (.iadd, 1) := by decide +kernel
theorem eL_law_666 {X : (Nat → Int32) × Nat} {g : xG} {h : xH} {Q : Option Value → xG → xH → Prop} (ls : List Value)(st : List Value) {x y : Int32} : EV X mL_law 162 3499 666 ls (.int y :: .int x :: st) g h Q = EV X mL_law 162 3499 667 ls (.int (x + y) :: st) g h Q := E_iadd dL_law_666
theorem dL_law_667 : decode cL_law 667 = .ok (.iaload, 1) := by decide +kernel
theorem eL_law_667 {X : (Nat → Int32) × Nat} {g : xG} {h : xH} {Q : Option Value → xG → xH → Prop} (ls : List Value)(st : List Value) {i : Int32} : EV X mL_law 162 3499 667 ls (.int i :: .ref 1000 :: st) g h Q = (inb i X.2 ∧ EV X mL_law 162 3499 668 ls (.int (X.1 i.toNatClampNeg) :: st) g h Q) := E_iscr dL_law_667
theorem dL_law_668 : decode cL_law 668 = .ok (.invokevirtual 97, 3) := by decide +kernel
theorem eL_law_668 {X : (Nat → Int32) × Nat} {g : xG} {h : xH} {Q : Option Value → xG → xH → Prop} (ls : List Value){a0 : Int32} {a1 : Int32} {a2 : Int32} {x0 : Int32} : EV X mL_law 162 3499 668 ls (.int a2 :: .int a1 :: .int a0 :: .ref 140 :: .int x0 :: []) g h Q = EV X mX6_same 0 0 0 [.ref 140, .int a0, .int a1, .int a2, .null, .null, .null] [] g h (fun r g h => EV X mL_law 162 3499 671 ls (r.toList ++ (.int x0 :: [])) g h Q) := E_callv (mi := 159) dL_law_668 (by decide +kernel) (by decide) rfl rfl ⟨rfl, Nat.le_of_ble_eq_true rfl, by decide, by decide⟩ rfl rfl ⟨rfl, rfl⟩ rfl
theorem dL_law_671 : decode cL_law 671 = .ok (.if_icmp .eq 502, 3) := by decide +kernel
theorem eL_law_671 {X : (Nat → Int32) × Nat} {g : xG} {h : xH} {Q : Option Value → xG → xH → Prop} (ls : List Value)(st : List Value) {x y : Int32} : EV X mL_law 162 3499 671 ls (.int y :: .int x :: st) g h Q = if x = y then EV X mL_law 162 3499 1173 ls st g h Q else EV X mL_law 162 3499 674 ls st g h Q := E_icmpeq 1173 dL_law_671 (by decide)
theorem dL_law_674 : decode cL_law 674 = .ok (.iconst 0, 1) := by decide +kernel
theorem eL_law_674 {X : (Nat → Int32) × Nat} {g : xG} {h : xH} {Q : Option Value → xG → xH → Prop} (ls : List Value)(st : List Value) : EV X mL_law 162 3499 674 ls st g h Q = EV X mL_law 162 3499 675 ls (.int 0 :: st) g h Q := E_iconst (0) dL_law_674 (by decide)
theorem dL_law_675 : decode cL_law 675 = .ok (.ireturn, 1) := by decide +kernel
theorem eL_law_675 {X : (Nat → Int32) × Nat} {g : xG} {h : xH} {Q : Option Value → xG → xH → Prop} (ls : List Value) {x : Int32} : EV X mL_law 162 3499 675 ls [.int x] g h Q = (is01 x ∧ Q (some (.int x)) g h) := E_iretz dL_law_675 rfl ⟨by decide, by decide⟩
theorem dL_law_676 : decode cL_law 676 = .ok (.aload_n 1, 1) := by decide +kernel
theorem eL_law_676 {X : (Nat → Int32) × Nat} {g : xG} {h : xH} {Q : Option Value → xG → xH → Prop} {v0 v2 v3 : Value} {x : Nat}(st : List Value) : EV X mL_law 162 3499 676 [v0, .ref x, v2, v3] st g h Q = EV X mL_law 162 3499 677 [v0, .ref x, v2, v3] (.ref x :: st) g h Q := E_aload_n dL_law_676 rfl
theorem dL_law_677 : decode cL_law 677 = .ok (.aload_n 0, 1) := by decide +kernel
theorem eL_law_677 {X : (Nat → Int32) × Nat} {g : xG} {h : xH} {Q : Option Value → xG → xH → Prop} {v1 v2 v3 : Value} {x : Nat}(st : List Value) : EV X mL_law 162 3499 677 [.ref x, v1, v2, v3] st g h Q = EV X mL_law 162 3499 678 [.ref x, v1, v2, v3] (.ref x :: st) g h Q := E_aload_n dL_law_677 rfl
theorem dL_law_678 : decode cL_law 678 = .ok (.iload_n 3, 1) := by decide +kernel
theorem eL_law_678 {X : (Nat → Int32) × Nat} {g : xG} {h : xH} {Q : Option Value → xG → xH → Prop} {v0 v1 v2 : Value} {x : Int32}(st : List Value) : EV X mL_law 162 3499 678 [v0, v1, v2, .int x] st g h Q = EV X mL_law 162 3499 679 [v0, v1, v2, .int x] (.int x :: st) g h Q := E_iload_n dL_law_678 rfl
theorem dL_law_679 : decode cL_law 679 = .ok (.iconst 1, 1) := by decide +kernel
theorem eL_law_679 {X : (Nat → Int32) × Nat} {g : xG} {h : xH} {Q : Option Value → xG → xH → Prop} (ls : List Value)(st : List Value) : EV X mL_law 162 3499 679 ls st g h Q = EV X mL_law 162 3499 680 ls (.int 1 :: st) g h Q := E_iconst (1) dL_law_679 (by decide)
theorem dL_law_680 : decode cL_law 680 = .ok (.iadd, 1) := by decide +kernel
theorem eL_law_680 {X : (Nat → Int32) × Nat} {g : xG} {h : xH} {Q : Option Value → xG → xH → Prop} (ls : List Value)(st : List Value) {x y : Int32} : EV X mL_law 162 3499 680 ls (.int y :: .int x :: st) g h Q = EV X mL_law 162 3499 681 ls (.int (x + y) :: st) g h Q := E_iadd dL_law_680
theorem dL_law_681 : decode cL_law 681 = .ok (.iaload, 1) := by decide +kernel
theorem eL_law_681 {X : (Nat → Int32) × Nat} {g : xG} {h : xH} {Q : Option Value → xG → xH → Prop} (ls : List Value)(st : List Value) {i : Int32} : EV X mL_law 162 3499 681 ls (.int i :: .ref 1000 :: st) g h Q = (inb i X.2 ∧ EV X mL_law 162 3499 682 ls (.int (X.1 i.toNatClampNeg) :: st) g h Q) := E_iscr dL_law_681
theorem dL_law_682 : decode cL_law 682 = .ok (.invokevirtual 98, 3) := by decide +kernel
theorem eL_law_682 {X : (Nat → Int32) × Nat} {g : xG} {h : xH} {Q : Option Value → xG → xH → Prop} (ls : List Value){a0 : Int32} : EV X mL_law 162 3499 682 ls (.int a0 :: .ref 0 :: []) g h Q = EV X mX5_waits 0 0 0 [.ref 0, .int a0, .null] [] g h (fun r g h => EV X mL_law 162 3499 685 ls (r.toList ++ ([])) g h Q) := E_callv (mi := 75) dL_law_682 (by decide +kernel) (by decide) rfl rfl ⟨rfl, Nat.le_of_ble_eq_true rfl, by decide, by decide⟩ rfl rfl ⟨rfl, rfl⟩ rfl
theorem dL_law_685 : decode cL_law 685 = .ok (.aload_n 2, 1) := by decide +kernel
theorem eL_law_685 {X : (Nat → Int32) × Nat} {g : xG} {h : xH} {Q : Option Value → xG → xH → Prop} {v0 v1 v3 : Value} {x : Nat}(st : List Value) : EV X mL_law 162 3499 685 [v0, v1, .ref x, v3] st g h Q = EV X mL_law 162 3499 686 [v0, v1, .ref x, v3] (.ref x :: st) g h Q := E_aload_n dL_law_685 rfl
theorem dL_law_686 : decode cL_law 686 = .ok (.aload_n 0, 1) := by decide +kernel
theorem eL_law_686 {X : (Nat → Int32) × Nat} {g : xG} {h : xH} {Q : Option Value → xG → xH → Prop} {v1 v2 v3 : Value} {x : Nat}(st : List Value) : EV X mL_law 162 3499 686 [.ref x, v1, v2, v3] st g h Q = EV X mL_law 162 3499 687 [.ref x, v1, v2, v3] (.ref x :: st) g h Q := E_aload_n dL_law_686 rfl
theorem dL_law_687 : decode cL_law 687 = .ok (.iload_n 3, 1) := by decide +kernel
theorem eL_law_687 {X : (Nat → Int32) × Nat} {g : xG} {h : xH} {Q : Option Value → xG → xH → Prop} {v0 v1 v2 : Value} {x : Int32}(st : List Value) : EV X mL_law 162 3499 687 [v0, v1, v2, .int x] st g h Q = EV X mL_law 162 3499 688 [v0, v1, v2, .int x] (.int x :: st) g h Q := E_iload_n dL_law_687 rfl
theorem dL_law_688 : decode cL_law 688 = .ok (.iconst 1, 1) := by decide +kernel
theorem eL_law_688 {X : (Nat → Int32) × Nat} {g : xG} {h : xH} {Q : Option Value → xG → xH → Prop} (ls : List Value)(st : List Value) : EV X mL_law 162 3499 688 ls st g h Q = EV X mL_law 162 3499 689 ls (.int 1 :: st) g h Q := E_iconst (1) dL_law_688 (by decide)
theorem dL_law_689 : decode cL_law 689 = .ok (.iadd, 1) := by decide +kernel
theorem eL_law_689 {X : (Nat → Int32) × Nat} {g : xG} {h : xH} {Q : Option Value → xG → xH → Prop} (ls : List Value)(st : List Value) {x y : Int32} : EV X mL_law 162 3499 689 ls (.int y :: .int x :: st) g h Q = EV X mL_law 162 3499 690 ls (.int (x + y) :: st) g h Q := E_iadd dL_law_689
theorem dL_law_690 : decode cL_law 690 = .ok (.iaload, 1) := by decide +kernel
theorem eL_law_690 {X : (Nat → Int32) × Nat} {g : xG} {h : xH} {Q : Option Value → xG → xH → Prop} (ls : List Value)(st : List Value) {i : Int32} : EV X mL_law 162 3499 690 ls (.int i :: .ref 1000 :: st) g h Q = (inb i X.2 ∧ EV X mL_law 162 3499 691 ls (.int (X.1 i.toNatClampNeg) :: st) g h Q) := E_iscr dL_law_690
theorem dL_law_691 : decode cL_law 691 = .ok (.invokevirtual 101, 3) := by decide +kernel
theorem eL_law_691 {X : (Nat → Int32) × Nat} {g : xG} {h : xH} {Q : Option Value → xG → xH → Prop} (ls : List Value){a0 : Int32} {x0 : Int32} : EV X mL_law 162 3499 691 ls (.int a0 :: .ref 140 :: .int x0 :: []) g h Q = EV X mX6_waits 0 0 0 [.ref 140, .int a0, .null] [] g h (fun r g h => EV X mL_law 162 3499 694 ls (r.toList ++ (.int x0 :: [])) g h Q) := E_callv (mi := 160) dL_law_691 (by decide +kernel) (by decide) rfl rfl ⟨rfl, Nat.le_of_ble_eq_true rfl, by decide, by decide⟩ rfl rfl ⟨rfl, rfl⟩ rfl
theorem dL_law_694 : decode cL_law 694 = .ok (.if_icmp .eq 479, 3) := by decide +kernel
theorem eL_law_694 {X : (Nat → Int32) × Nat} {g : xG} {h : xH} {Q : Option Value → xG → xH → Prop} (ls : List Value)(st : List Value) {x y : Int32} : EV X mL_law 162 3499 694 ls (.int y :: .int x :: st) g h Q = if x = y then EV X mL_law 162 3499 1173 ls st g h Q else EV X mL_law 162 3499 697 ls st g h Q := E_icmpeq 1173 dL_law_694 (by decide)
theorem dL_law_697 : decode cL_law 697 = .ok (.iconst 0, 1) := by decide +kernel
theorem eL_law_697 {X : (Nat → Int32) × Nat} {g : xG} {h : xH} {Q : Option Value → xG → xH → Prop} (ls : List Value)(st : List Value) : EV X mL_law 162 3499 697 ls st g h Q = EV X mL_law 162 3499 698 ls (.int 0 :: st) g h Q := E_iconst (0) dL_law_697 (by decide)
theorem dL_law_698 : decode cL_law 698 = .ok (.ireturn, 1) := by decide +kernel
theorem eL_law_698 {X : (Nat → Int32) × Nat} {g : xG} {h : xH} {Q : Option Value → xG → xH → Prop} (ls : List Value) {x : Int32} : EV X mL_law 162 3499 698 ls [.int x] g h Q = (is01 x ∧ Q (some (.int x)) g h) := E_iretz dL_law_698 rfl ⟨by decide, by decide⟩
theorem dL_law_699 : decode cL_law 699 = .ok (.aload_n 1, 1) := by decide +kernel
theorem eL_law_699 {X : (Nat → Int32) × Nat} {g : xG} {h : xH} {Q : Option Value → xG → xH → Prop} {v0 v2 v3 : Value} {x : Nat}(st : List Value) : EV X mL_law 162 3499 699 [v0, .ref x, v2, v3] st g h Q = EV X mL_law 162 3499 700 [v0, .ref x, v2, v3] (.ref x :: st) g h Q := E_aload_n dL_law_699 rfl
