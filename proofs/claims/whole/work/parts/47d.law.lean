/-! the law, from its loop on -/
theorem dL_law_700 : decode cL_law 700 = .ok (.aload_n 0, 1) := by decide +kernel
theorem eL_law_700 {X : (Nat → Int32) × Nat} {g : xG} {h : xH} {Q : Option Value → xG → xH → Prop} {v1 v2 v3 : Value} {x : Nat}(st : List Value) : EV X mL_law 162 3499 700 [.ref x, v1, v2, v3] st g h Q = EV X mL_law 162 3499 701 [.ref x, v1, v2, v3] (.ref x :: st) g h Q := E_aload_n dL_law_700 rfl
theorem dL_law_701 : decode cL_law 701 = .ok (.iload_n 3, 1) := by decide +kernel
theorem eL_law_701 {X : (Nat → Int32) × Nat} {g : xG} {h : xH} {Q : Option Value → xG → xH → Prop} {v0 v1 v2 : Value} {x : Int32}(st : List Value) : EV X mL_law 162 3499 701 [v0, v1, v2, .int x] st g h Q = EV X mL_law 162 3499 702 [v0, v1, v2, .int x] (.int x :: st) g h Q := E_iload_n dL_law_701 rfl
theorem dL_law_702 : decode cL_law 702 = .ok (.iconst 1, 1) := by decide +kernel
theorem eL_law_702 {X : (Nat → Int32) × Nat} {g : xG} {h : xH} {Q : Option Value → xG → xH → Prop} (ls : List Value)(st : List Value) : EV X mL_law 162 3499 702 ls st g h Q = EV X mL_law 162 3499 703 ls (.int 1 :: st) g h Q := E_iconst (1) dL_law_702 (by decide)
theorem dL_law_703 : decode cL_law 703 = .ok (.iadd, 1) := by decide +kernel
theorem eL_law_703 {X : (Nat → Int32) × Nat} {g : xG} {h : xH} {Q : Option Value → xG → xH → Prop} (ls : List Value)(st : List Value) {x y : Int32} : EV X mL_law 162 3499 703 ls (.int y :: .int x :: st) g h Q = EV X mL_law 162 3499 704 ls (.int (x + y) :: st) g h Q := E_iadd dL_law_703
theorem dL_law_704 : decode cL_law 704 = .ok (.iaload, 1) := by decide +kernel
theorem eL_law_704 {X : (Nat → Int32) × Nat} {g : xG} {h : xH} {Q : Option Value → xG → xH → Prop} (ls : List Value)(st : List Value) {i : Int32} : EV X mL_law 162 3499 704 ls (.int i :: .ref 1000 :: st) g h Q = (inb i X.2 ∧ EV X mL_law 162 3499 705 ls (.int (X.1 i.toNatClampNeg) :: st) g h Q) := E_iscr dL_law_704
theorem dL_law_705 : decode cL_law 705 = .ok (.invokevirtual 102, 3) := by decide +kernel
theorem eL_law_705 {X : (Nat → Int32) × Nat} {g : xG} {h : xH} {Q : Option Value → xG → xH → Prop} (ls : List Value){a0 : Int32} : EV X mL_law 162 3499 705 ls (.int a0 :: .ref 0 :: []) g h Q = EV X mX5_best 0 0 0 [.ref 0, .int a0, .null, .null, .null, .null] [] g h (fun r g h => EV X mL_law 162 3499 708 ls (r.toList ++ ([])) g h Q) := E_callv (mi := 76) dL_law_705 (by decide +kernel) (by decide) rfl rfl ⟨rfl, Nat.le_of_ble_eq_true rfl, by decide, by decide⟩ rfl rfl ⟨rfl, rfl⟩ rfl
theorem dL_law_708 : decode cL_law 708 = .ok (.aload_n 2, 1) := by decide +kernel
theorem eL_law_708 {X : (Nat → Int32) × Nat} {g : xG} {h : xH} {Q : Option Value → xG → xH → Prop} {v0 v1 v3 : Value} {x : Nat}(st : List Value) : EV X mL_law 162 3499 708 [v0, v1, .ref x, v3] st g h Q = EV X mL_law 162 3499 709 [v0, v1, .ref x, v3] (.ref x :: st) g h Q := E_aload_n dL_law_708 rfl
theorem dL_law_709 : decode cL_law 709 = .ok (.aload_n 0, 1) := by decide +kernel
theorem eL_law_709 {X : (Nat → Int32) × Nat} {g : xG} {h : xH} {Q : Option Value → xG → xH → Prop} {v1 v2 v3 : Value} {x : Nat}(st : List Value) : EV X mL_law 162 3499 709 [.ref x, v1, v2, v3] st g h Q = EV X mL_law 162 3499 710 [.ref x, v1, v2, v3] (.ref x :: st) g h Q := E_aload_n dL_law_709 rfl
theorem dL_law_710 : decode cL_law 710 = .ok (.iload_n 3, 1) := by decide +kernel
theorem eL_law_710 {X : (Nat → Int32) × Nat} {g : xG} {h : xH} {Q : Option Value → xG → xH → Prop} {v0 v1 v2 : Value} {x : Int32}(st : List Value) : EV X mL_law 162 3499 710 [v0, v1, v2, .int x] st g h Q = EV X mL_law 162 3499 711 [v0, v1, v2, .int x] (.int x :: st) g h Q := E_iload_n dL_law_710 rfl
theorem dL_law_711 : decode cL_law 711 = .ok (.iconst 1, 1) := by decide +kernel
theorem eL_law_711 {X : (Nat → Int32) × Nat} {g : xG} {h : xH} {Q : Option Value → xG → xH → Prop} (ls : List Value)(st : List Value) : EV X mL_law 162 3499 711 ls st g h Q = EV X mL_law 162 3499 712 ls (.int 1 :: st) g h Q := E_iconst (1) dL_law_711 (by decide)
theorem dL_law_712 : decode cL_law 712 = .ok (.iadd, 1) := by decide +kernel
theorem eL_law_712 {X : (Nat → Int32) × Nat} {g : xG} {h : xH} {Q : Option Value → xG → xH → Prop} (ls : List Value)(st : List Value) {x y : Int32} : EV X mL_law 162 3499 712 ls (.int y :: .int x :: st) g h Q = EV X mL_law 162 3499 713 ls (.int (x + y) :: st) g h Q := E_iadd dL_law_712
theorem dL_law_713 : decode cL_law 713 = .ok (.iaload, 1) := by decide +kernel
theorem eL_law_713 {X : (Nat → Int32) × Nat} {g : xG} {h : xH} {Q : Option Value → xG → xH → Prop} (ls : List Value)(st : List Value) {i : Int32} : EV X mL_law 162 3499 713 ls (.int i :: .ref 1000 :: st) g h Q = (inb i X.2 ∧ EV X mL_law 162 3499 714 ls (.int (X.1 i.toNatClampNeg) :: st) g h Q) := E_iscr dL_law_713
theorem dL_law_714 : decode cL_law 714 = .ok (.invokevirtual 105, 3) := by decide +kernel
theorem eL_law_714 {X : (Nat → Int32) × Nat} {g : xG} {h : xH} {Q : Option Value → xG → xH → Prop} (ls : List Value){a0 : Int32} {x0 : Int32} : EV X mL_law 162 3499 714 ls (.int a0 :: .ref 140 :: .int x0 :: []) g h Q = EV X mX6_best 0 0 0 [.ref 140, .int a0, .null, .null, .null, .null] [] g h (fun r g h => EV X mL_law 162 3499 717 ls (r.toList ++ (.int x0 :: [])) g h Q) := E_callv (mi := 161) dL_law_714 (by decide +kernel) (by decide) rfl rfl ⟨rfl, Nat.le_of_ble_eq_true rfl, by decide, by decide⟩ rfl rfl ⟨rfl, rfl⟩ rfl
theorem dL_law_717 : decode cL_law 717 = .ok (.if_icmp .eq 456, 3) := by decide +kernel
theorem eL_law_717 {X : (Nat → Int32) × Nat} {g : xG} {h : xH} {Q : Option Value → xG → xH → Prop} (ls : List Value)(st : List Value) {x y : Int32} : EV X mL_law 162 3499 717 ls (.int y :: .int x :: st) g h Q = if x = y then EV X mL_law 162 3499 1173 ls st g h Q else EV X mL_law 162 3499 720 ls st g h Q := E_icmpeq 1173 dL_law_717 (by decide)
theorem dL_law_720 : decode cL_law 720 = .ok (.iconst 0, 1) := by decide +kernel
theorem eL_law_720 {X : (Nat → Int32) × Nat} {g : xG} {h : xH} {Q : Option Value → xG → xH → Prop} (ls : List Value)(st : List Value) : EV X mL_law 162 3499 720 ls st g h Q = EV X mL_law 162 3499 721 ls (.int 0 :: st) g h Q := E_iconst (0) dL_law_720 (by decide)
theorem dL_law_721 : decode cL_law 721 = .ok (.ireturn, 1) := by decide +kernel
theorem eL_law_721 {X : (Nat → Int32) × Nat} {g : xG} {h : xH} {Q : Option Value → xG → xH → Prop} (ls : List Value) {x : Int32} : EV X mL_law 162 3499 721 ls [.int x] g h Q = (is01 x ∧ Q (some (.int x)) g h) := E_iretz dL_law_721 rfl ⟨by decide, by decide⟩
theorem dL_law_722 : decode cL_law 722 = .ok (.aload_n 1, 1) := by decide +kernel
theorem eL_law_722 {X : (Nat → Int32) × Nat} {g : xG} {h : xH} {Q : Option Value → xG → xH → Prop} {v0 v2 v3 : Value} {x : Nat}(st : List Value) : EV X mL_law 162 3499 722 [v0, .ref x, v2, v3] st g h Q = EV X mL_law 162 3499 723 [v0, .ref x, v2, v3] (.ref x :: st) g h Q := E_aload_n dL_law_722 rfl
theorem dL_law_723 : decode cL_law 723 = .ok (.aload_n 0, 1) := by decide +kernel
theorem eL_law_723 {X : (Nat → Int32) × Nat} {g : xG} {h : xH} {Q : Option Value → xG → xH → Prop} {v1 v2 v3 : Value} {x : Nat}(st : List Value) : EV X mL_law 162 3499 723 [.ref x, v1, v2, v3] st g h Q = EV X mL_law 162 3499 724 [.ref x, v1, v2, v3] (.ref x :: st) g h Q := E_aload_n dL_law_723 rfl
theorem dL_law_724 : decode cL_law 724 = .ok (.iload_n 3, 1) := by decide +kernel
theorem eL_law_724 {X : (Nat → Int32) × Nat} {g : xG} {h : xH} {Q : Option Value → xG → xH → Prop} {v0 v1 v2 : Value} {x : Int32}(st : List Value) : EV X mL_law 162 3499 724 [v0, v1, v2, .int x] st g h Q = EV X mL_law 162 3499 725 [v0, v1, v2, .int x] (.int x :: st) g h Q := E_iload_n dL_law_724 rfl
theorem dL_law_725 : decode cL_law 725 = .ok (.iconst 1, 1) := by decide +kernel
theorem eL_law_725 {X : (Nat → Int32) × Nat} {g : xG} {h : xH} {Q : Option Value → xG → xH → Prop} (ls : List Value)(st : List Value) : EV X mL_law 162 3499 725 ls st g h Q = EV X mL_law 162 3499 726 ls (.int 1 :: st) g h Q := E_iconst (1) dL_law_725 (by decide)
theorem dL_law_726 : decode cL_law 726 = .ok (.iadd, 1) := by decide +kernel
theorem eL_law_726 {X : (Nat → Int32) × Nat} {g : xG} {h : xH} {Q : Option Value → xG → xH → Prop} (ls : List Value)(st : List Value) {x y : Int32} : EV X mL_law 162 3499 726 ls (.int y :: .int x :: st) g h Q = EV X mL_law 162 3499 727 ls (.int (x + y) :: st) g h Q := E_iadd dL_law_726
theorem dL_law_727 : decode cL_law 727 = .ok (.iaload, 1) := by decide +kernel
theorem eL_law_727 {X : (Nat → Int32) × Nat} {g : xG} {h : xH} {Q : Option Value → xG → xH → Prop} (ls : List Value)(st : List Value) {i : Int32} : EV X mL_law 162 3499 727 ls (.int i :: .ref 1000 :: st) g h Q = (inb i X.2 ∧ EV X mL_law 162 3499 728 ls (.int (X.1 i.toNatClampNeg) :: st) g h Q) := E_iscr dL_law_727
theorem dL_law_728 : decode cL_law 728 = .ok (.aload_n 0, 1) := by decide +kernel
theorem eL_law_728 {X : (Nat → Int32) × Nat} {g : xG} {h : xH} {Q : Option Value → xG → xH → Prop} {v1 v2 v3 : Value} {x : Nat}(st : List Value) : EV X mL_law 162 3499 728 [.ref x, v1, v2, v3] st g h Q = EV X mL_law 162 3499 729 [.ref x, v1, v2, v3] (.ref x :: st) g h Q := E_aload_n dL_law_728 rfl
theorem dL_law_729 : decode cL_law 729 = .ok (.iload_n 3, 1) := by decide +kernel
theorem eL_law_729 {X : (Nat → Int32) × Nat} {g : xG} {h : xH} {Q : Option Value → xG → xH → Prop} {v0 v1 v2 : Value} {x : Int32}(st : List Value) : EV X mL_law 162 3499 729 [v0, v1, v2, .int x] st g h Q = EV X mL_law 162 3499 730 [v0, v1, v2, .int x] (.int x :: st) g h Q := E_iload_n dL_law_729 rfl
theorem dL_law_730 : decode cL_law 730 = .ok (.iconst 2, 1) := by decide +kernel
theorem eL_law_730 {X : (Nat → Int32) × Nat} {g : xG} {h : xH} {Q : Option Value → xG → xH → Prop} (ls : List Value)(st : List Value) : EV X mL_law 162 3499 730 ls st g h Q = EV X mL_law 162 3499 731 ls (.int 2 :: st) g h Q := E_iconst (2) dL_law_730 (by decide)
theorem dL_law_731 : decode cL_law 731 = .ok (.iadd, 1) := by decide +kernel
theorem eL_law_731 {X : (Nat → Int32) × Nat} {g : xG} {h : xH} {Q : Option Value → xG → xH → Prop} (ls : List Value)(st : List Value) {x y : Int32} : EV X mL_law 162 3499 731 ls (.int y :: .int x :: st) g h Q = EV X mL_law 162 3499 732 ls (.int (x + y) :: st) g h Q := E_iadd dL_law_731
theorem dL_law_732 : decode cL_law 732 = .ok (.iaload, 1) := by decide +kernel
theorem eL_law_732 {X : (Nat → Int32) × Nat} {g : xG} {h : xH} {Q : Option Value → xG → xH → Prop} (ls : List Value)(st : List Value) {i : Int32} : EV X mL_law 162 3499 732 ls (.int i :: .ref 1000 :: st) g h Q = (inb i X.2 ∧ EV X mL_law 162 3499 733 ls (.int (X.1 i.toNatClampNeg) :: st) g h Q) := E_iscr dL_law_732
theorem dL_law_733 : decode cL_law 733 = .ok (.aload_n 0, 1) := by decide +kernel
theorem eL_law_733 {X : (Nat → Int32) × Nat} {g : xG} {h : xH} {Q : Option Value → xG → xH → Prop} {v1 v2 v3 : Value} {x : Nat}(st : List Value) : EV X mL_law 162 3499 733 [.ref x, v1, v2, v3] st g h Q = EV X mL_law 162 3499 734 [.ref x, v1, v2, v3] (.ref x :: st) g h Q := E_aload_n dL_law_733 rfl
theorem dL_law_734 : decode cL_law 734 = .ok (.iload_n 3, 1) := by decide +kernel
theorem eL_law_734 {X : (Nat → Int32) × Nat} {g : xG} {h : xH} {Q : Option Value → xG → xH → Prop} {v0 v1 v2 : Value} {x : Int32}(st : List Value) : EV X mL_law 162 3499 734 [v0, v1, v2, .int x] st g h Q = EV X mL_law 162 3499 735 [v0, v1, v2, .int x] (.int x :: st) g h Q := E_iload_n dL_law_734 rfl
theorem dL_law_735 : decode cL_law 735 = .ok (.iconst 3, 1) := by decide +kernel
theorem eL_law_735 {X : (Nat → Int32) × Nat} {g : xG} {h : xH} {Q : Option Value → xG → xH → Prop} (ls : List Value)(st : List Value) : EV X mL_law 162 3499 735 ls st g h Q = EV X mL_law 162 3499 736 ls (.int 3 :: st) g h Q := E_iconst (3) dL_law_735 (by decide)
theorem dL_law_736 : decode cL_law 736 = .ok (.iadd, 1) := by decide +kernel
theorem eL_law_736 {X : (Nat → Int32) × Nat} {g : xG} {h : xH} {Q : Option Value → xG → xH → Prop} (ls : List Value)(st : List Value) {x y : Int32} : EV X mL_law 162 3499 736 ls (.int y :: .int x :: st) g h Q = EV X mL_law 162 3499 737 ls (.int (x + y) :: st) g h Q := E_iadd dL_law_736
theorem dL_law_737 : decode cL_law 737 = .ok (.iaload, 1) := by decide +kernel
theorem eL_law_737 {X : (Nat → Int32) × Nat} {g : xG} {h : xH} {Q : Option Value → xG → xH → Prop} (ls : List Value)(st : List Value) {i : Int32} : EV X mL_law 162 3499 737 ls (.int i :: .ref 1000 :: st) g h Q = (inb i X.2 ∧ EV X mL_law 162 3499 738 ls (.int (X.1 i.toNatClampNeg) :: st) g h Q) := E_iscr dL_law_737
theorem dL_law_738 : decode cL_law 738 = .ok (.aload_n 0, 1) := by decide +kernel
theorem eL_law_738 {X : (Nat → Int32) × Nat} {g : xG} {h : xH} {Q : Option Value → xG → xH → Prop} {v1 v2 v3 : Value} {x : Nat}(st : List Value) : EV X mL_law 162 3499 738 [.ref x, v1, v2, v3] st g h Q = EV X mL_law 162 3499 739 [.ref x, v1, v2, v3] (.ref x :: st) g h Q := E_aload_n dL_law_738 rfl
theorem dL_law_739 : decode cL_law 739 = .ok (.iload_n 3, 1) := by decide +kernel
theorem eL_law_739 {X : (Nat → Int32) × Nat} {g : xG} {h : xH} {Q : Option Value → xG → xH → Prop} {v0 v1 v2 : Value} {x : Int32}(st : List Value) : EV X mL_law 162 3499 739 [v0, v1, v2, .int x] st g h Q = EV X mL_law 162 3499 740 [v0, v1, v2, .int x] (.int x :: st) g h Q := E_iload_n dL_law_739 rfl
theorem dL_law_740 : decode cL_law 740 = .ok (.iconst 4, 1) := by decide +kernel
theorem eL_law_740 {X : (Nat → Int32) × Nat} {g : xG} {h : xH} {Q : Option Value → xG → xH → Prop} (ls : List Value)(st : List Value) : EV X mL_law 162 3499 740 ls st g h Q = EV X mL_law 162 3499 741 ls (.int 4 :: st) g h Q := E_iconst (4) dL_law_740 (by decide)
theorem dL_law_741 : decode cL_law 741 = .ok (.iadd, 1) := by decide +kernel
theorem eL_law_741 {X : (Nat → Int32) × Nat} {g : xG} {h : xH} {Q : Option Value → xG → xH → Prop} (ls : List Value)(st : List Value) {x y : Int32} : EV X mL_law 162 3499 741 ls (.int y :: .int x :: st) g h Q = EV X mL_law 162 3499 742 ls (.int (x + y) :: st) g h Q := E_iadd dL_law_741
theorem dL_law_742 : decode cL_law 742 = .ok (.iaload, 1) := by decide +kernel
theorem eL_law_742 {X : (Nat → Int32) × Nat} {g : xG} {h : xH} {Q : Option Value → xG → xH → Prop} (ls : List Value)(st : List Value) {i : Int32} : EV X mL_law 162 3499 742 ls (.int i :: .ref 1000 :: st) g h Q = (inb i X.2 ∧ EV X mL_law 162 3499 743 ls (.int (X.1 i.toNatClampNeg) :: st) g h Q) := E_iscr dL_law_742
theorem dL_law_743 : decode cL_law 743 = .ok (.invokevirtual 106, 3) := by decide +kernel
theorem eL_law_743 {X : (Nat → Int32) × Nat} {g : xG} {h : xH} {Q : Option Value → xG → xH → Prop} (ls : List Value){a0 : Int32} {a1 : Int32} {a2 : Int32} {a3 : Int32} : EV X mL_law 162 3499 743 ls (.int a3 :: .int a2 :: .int a1 :: .int a0 :: .ref 0 :: []) g h Q = EV X mX5_was 0 0 0 [.ref 0, .int a0, .int a1, .int a2, .int a3, .null, .null, .null, .null] [] g h (fun r g h => EV X mL_law 162 3499 746 ls (r.toList ++ ([])) g h Q) := E_callv (mi := 77) dL_law_743 (by decide +kernel) (by decide) rfl rfl ⟨rfl, Nat.le_of_ble_eq_true rfl, by decide, by decide⟩ rfl rfl ⟨rfl, rfl⟩ rfl
theorem dL_law_746 : decode cL_law 746 = .ok (.aload_n 2, 1) := by decide +kernel
theorem eL_law_746 {X : (Nat → Int32) × Nat} {g : xG} {h : xH} {Q : Option Value → xG → xH → Prop} {v0 v1 v3 : Value} {x : Nat}(st : List Value) : EV X mL_law 162 3499 746 [v0, v1, .ref x, v3] st g h Q = EV X mL_law 162 3499 747 [v0, v1, .ref x, v3] (.ref x :: st) g h Q := E_aload_n dL_law_746 rfl
theorem dL_law_747 : decode cL_law 747 = .ok (.aload_n 0, 1) := by decide +kernel
theorem eL_law_747 {X : (Nat → Int32) × Nat} {g : xG} {h : xH} {Q : Option Value → xG → xH → Prop} {v1 v2 v3 : Value} {x : Nat}(st : List Value) : EV X mL_law 162 3499 747 [.ref x, v1, v2, v3] st g h Q = EV X mL_law 162 3499 748 [.ref x, v1, v2, v3] (.ref x :: st) g h Q := E_aload_n dL_law_747 rfl
theorem dL_law_748 : decode cL_law 748 = .ok (.iload_n 3, 1) := by decide +kernel
theorem eL_law_748 {X : (Nat → Int32) × Nat} {g : xG} {h : xH} {Q : Option Value → xG → xH → Prop} {v0 v1 v2 : Value} {x : Int32}(st : List Value) : EV X mL_law 162 3499 748 [v0, v1, v2, .int x] st g h Q = EV X mL_law 162 3499 749 [v0, v1, v2, .int x] (.int x :: st) g h Q := E_iload_n dL_law_748 rfl
theorem dL_law_749 : decode cL_law 749 = .ok (.iconst 1, 1) := by decide +kernel
theorem eL_law_749 {X : (Nat → Int32) × Nat} {g : xG} {h : xH} {Q : Option Value → xG → xH → Prop} (ls : List Value)(st : List Value) : EV X mL_law 162 3499 749 ls st g h Q = EV X mL_law 162 3499 750 ls (.int 1 :: st) g h Q := E_iconst (1) dL_law_749 (by decide)
theorem dL_law_750 : decode cL_law 750 = .ok (.iadd, 1) := by decide +kernel
theorem eL_law_750 {X : (Nat → Int32) × Nat} {g : xG} {h : xH} {Q : Option Value → xG → xH → Prop} (ls : List Value)(st : List Value) {x y : Int32} : EV X mL_law 162 3499 750 ls (.int y :: .int x :: st) g h Q = EV X mL_law 162 3499 751 ls (.int (x + y) :: st) g h Q := E_iadd dL_law_750
theorem dL_law_751 : decode cL_law 751 = .ok (.iaload, 1) := by decide +kernel
theorem eL_law_751 {X : (Nat → Int32) × Nat} {g : xG} {h : xH} {Q : Option Value → xG → xH → Prop} (ls : List Value)(st : List Value) {i : Int32} : EV X mL_law 162 3499 751 ls (.int i :: .ref 1000 :: st) g h Q = (inb i X.2 ∧ EV X mL_law 162 3499 752 ls (.int (X.1 i.toNatClampNeg) :: st) g h Q) := E_iscr dL_law_751
theorem dL_law_752 : decode cL_law 752 = .ok (.aload_n 0, 1) := by decide +kernel
theorem eL_law_752 {X : (Nat → Int32) × Nat} {g : xG} {h : xH} {Q : Option Value → xG → xH → Prop} {v1 v2 v3 : Value} {x : Nat}(st : List Value) : EV X mL_law 162 3499 752 [.ref x, v1, v2, v3] st g h Q = EV X mL_law 162 3499 753 [.ref x, v1, v2, v3] (.ref x :: st) g h Q := E_aload_n dL_law_752 rfl
theorem dL_law_753 : decode cL_law 753 = .ok (.iload_n 3, 1) := by decide +kernel
theorem eL_law_753 {X : (Nat → Int32) × Nat} {g : xG} {h : xH} {Q : Option Value → xG → xH → Prop} {v0 v1 v2 : Value} {x : Int32}(st : List Value) : EV X mL_law 162 3499 753 [v0, v1, v2, .int x] st g h Q = EV X mL_law 162 3499 754 [v0, v1, v2, .int x] (.int x :: st) g h Q := E_iload_n dL_law_753 rfl
theorem dL_law_754 : decode cL_law 754 = .ok (.iconst 2, 1) := by decide +kernel
theorem eL_law_754 {X : (Nat → Int32) × Nat} {g : xG} {h : xH} {Q : Option Value → xG → xH → Prop} (ls : List Value)(st : List Value) : EV X mL_law 162 3499 754 ls st g h Q = EV X mL_law 162 3499 755 ls (.int 2 :: st) g h Q := E_iconst (2) dL_law_754 (by decide)
theorem dL_law_755 : decode cL_law 755 = .ok (.iadd, 1) := by decide +kernel
theorem eL_law_755 {X : (Nat → Int32) × Nat} {g : xG} {h : xH} {Q : Option Value → xG → xH → Prop} (ls : List Value)(st : List Value) {x y : Int32} : EV X mL_law 162 3499 755 ls (.int y :: .int x :: st) g h Q = EV X mL_law 162 3499 756 ls (.int (x + y) :: st) g h Q := E_iadd dL_law_755
theorem dL_law_756 : decode cL_law 756 = .ok (.iaload, 1) := by decide +kernel
theorem eL_law_756 {X : (Nat → Int32) × Nat} {g : xG} {h : xH} {Q : Option Value → xG → xH → Prop} (ls : List Value)(st : List Value) {i : Int32} : EV X mL_law 162 3499 756 ls (.int i :: .ref 1000 :: st) g h Q = (inb i X.2 ∧ EV X mL_law 162 3499 757 ls (.int (X.1 i.toNatClampNeg) :: st) g h Q) := E_iscr dL_law_756
theorem dL_law_757 : decode cL_law 757 = .ok (.aload_n 0, 1) := by decide +kernel
theorem eL_law_757 {X : (Nat → Int32) × Nat} {g : xG} {h : xH} {Q : Option Value → xG → xH → Prop} {v1 v2 v3 : Value} {x : Nat}(st : List Value) : EV X mL_law 162 3499 757 [.ref x, v1, v2, v3] st g h Q = EV X mL_law 162 3499 758 [.ref x, v1, v2, v3] (.ref x :: st) g h Q := E_aload_n dL_law_757 rfl
theorem dL_law_758 : decode cL_law 758 = .ok (.iload_n 3, 1) := by decide +kernel
theorem eL_law_758 {X : (Nat → Int32) × Nat} {g : xG} {h : xH} {Q : Option Value → xG → xH → Prop} {v0 v1 v2 : Value} {x : Int32}(st : List Value) : EV X mL_law 162 3499 758 [v0, v1, v2, .int x] st g h Q = EV X mL_law 162 3499 759 [v0, v1, v2, .int x] (.int x :: st) g h Q := E_iload_n dL_law_758 rfl
theorem dL_law_759 : decode cL_law 759 = .ok (.iconst 3, 1) := by decide +kernel
theorem eL_law_759 {X : (Nat → Int32) × Nat} {g : xG} {h : xH} {Q : Option Value → xG → xH → Prop} (ls : List Value)(st : List Value) : EV X mL_law 162 3499 759 ls st g h Q = EV X mL_law 162 3499 760 ls (.int 3 :: st) g h Q := E_iconst (3) dL_law_759 (by decide)
theorem dL_law_760 : decode cL_law 760 = .ok (.iadd, 1) := by decide +kernel
theorem eL_law_760 {X : (Nat → Int32) × Nat} {g : xG} {h : xH} {Q : Option Value → xG → xH → Prop} (ls : List Value)(st : List Value) {x y : Int32} : EV X mL_law 162 3499 760 ls (.int y :: .int x :: st) g h Q = EV X mL_law 162 3499 761 ls (.int (x + y) :: st) g h Q := E_iadd dL_law_760
theorem dL_law_761 : decode cL_law 761 = .ok (.iaload, 1) := by decide +kernel
theorem eL_law_761 {X : (Nat → Int32) × Nat} {g : xG} {h : xH} {Q : Option Value → xG → xH → Prop} (ls : List Value)(st : List Value) {i : Int32} : EV X mL_law 162 3499 761 ls (.int i :: .ref 1000 :: st) g h Q = (inb i X.2 ∧ EV X mL_law 162 3499 762 ls (.int (X.1 i.toNatClampNeg) :: st) g h Q) := E_iscr dL_law_761
theorem dL_law_762 : decode cL_law 762 = .ok (.aload_n 0, 1) := by decide +kernel
theorem eL_law_762 {X : (Nat → Int32) × Nat} {g : xG} {h : xH} {Q : Option Value → xG → xH → Prop} {v1 v2 v3 : Value} {x : Nat}(st : List Value) : EV X mL_law 162 3499 762 [.ref x, v1, v2, v3] st g h Q = EV X mL_law 162 3499 763 [.ref x, v1, v2, v3] (.ref x :: st) g h Q := E_aload_n dL_law_762 rfl
theorem dL_law_763 : decode cL_law 763 = .ok (.iload_n 3, 1) := by decide +kernel
theorem eL_law_763 {X : (Nat → Int32) × Nat} {g : xG} {h : xH} {Q : Option Value → xG → xH → Prop} {v0 v1 v2 : Value} {x : Int32}(st : List Value) : EV X mL_law 162 3499 763 [v0, v1, v2, .int x] st g h Q = EV X mL_law 162 3499 764 [v0, v1, v2, .int x] (.int x :: st) g h Q := E_iload_n dL_law_763 rfl
theorem dL_law_764 : decode cL_law 764 = .ok (.iconst 4, 1) := by decide +kernel
theorem eL_law_764 {X : (Nat → Int32) × Nat} {g : xG} {h : xH} {Q : Option Value → xG → xH → Prop} (ls : List Value)(st : List Value) : EV X mL_law 162 3499 764 ls st g h Q = EV X mL_law 162 3499 765 ls (.int 4 :: st) g h Q := E_iconst (4) dL_law_764 (by decide)
theorem dL_law_765 : decode cL_law 765 = .ok (.iadd, 1) := by decide +kernel
theorem eL_law_765 {X : (Nat → Int32) × Nat} {g : xG} {h : xH} {Q : Option Value → xG → xH → Prop} (ls : List Value)(st : List Value) {x y : Int32} : EV X mL_law 162 3499 765 ls (.int y :: .int x :: st) g h Q = EV X mL_law 162 3499 766 ls (.int (x + y) :: st) g h Q := E_iadd dL_law_765
theorem dL_law_766 : decode cL_law 766 = .ok (.iaload, 1) := by decide +kernel
theorem eL_law_766 {X : (Nat → Int32) × Nat} {g : xG} {h : xH} {Q : Option Value → xG → xH → Prop} (ls : List Value)(st : List Value) {i : Int32} : EV X mL_law 162 3499 766 ls (.int i :: .ref 1000 :: st) g h Q = (inb i X.2 ∧ EV X mL_law 162 3499 767 ls (.int (X.1 i.toNatClampNeg) :: st) g h Q) := E_iscr dL_law_766
theorem dL_law_767 : decode cL_law 767 = .ok (.invokevirtual 109, 3) := by decide +kernel
theorem eL_law_767 {X : (Nat → Int32) × Nat} {g : xG} {h : xH} {Q : Option Value → xG → xH → Prop} (ls : List Value){a0 : Int32} {a1 : Int32} {a2 : Int32} {a3 : Int32} {x0 : Int32} : EV X mL_law 162 3499 767 ls (.int a3 :: .int a2 :: .int a1 :: .int a0 :: .ref 140 :: .int x0 :: []) g h Q = EV X mX6_was 0 0 0 [.ref 140, .int a0, .int a1, .int a2, .int a3, .null, .null, .null, .null, .null] [] g h (fun r g h => EV X mL_law 162 3499 770 ls (r.toList ++ (.int x0 :: [])) g h Q) := E_callv (mi := 162) dL_law_767 (by decide +kernel) (by decide) rfl rfl ⟨rfl, Nat.le_of_ble_eq_true rfl, by decide, by decide⟩ rfl rfl ⟨rfl, rfl⟩ rfl
theorem dL_law_770 : decode cL_law 770 = .ok (.if_icmp .eq 403, 3) := by decide +kernel
theorem eL_law_770 {X : (Nat → Int32) × Nat} {g : xG} {h : xH} {Q : Option Value → xG → xH → Prop} (ls : List Value)(st : List Value) {x y : Int32} : EV X mL_law 162 3499 770 ls (.int y :: .int x :: st) g h Q = if x = y then EV X mL_law 162 3499 1173 ls st g h Q else EV X mL_law 162 3499 773 ls st g h Q := E_icmpeq 1173 dL_law_770 (by decide)
theorem dL_law_773 : decode cL_law 773 = .ok (.iconst 0, 1) := by decide +kernel
theorem eL_law_773 {X : (Nat → Int32) × Nat} {g : xG} {h : xH} {Q : Option Value → xG → xH → Prop} (ls : List Value)(st : List Value) : EV X mL_law 162 3499 773 ls st g h Q = EV X mL_law 162 3499 774 ls (.int 0 :: st) g h Q := E_iconst (0) dL_law_773 (by decide)
theorem dL_law_774 : decode cL_law 774 = .ok (.ireturn, 1) := by decide +kernel
theorem eL_law_774 {X : (Nat → Int32) × Nat} {g : xG} {h : xH} {Q : Option Value → xG → xH → Prop} (ls : List Value) {x : Int32} : EV X mL_law 162 3499 774 ls [.int x] g h Q = (is01 x ∧ Q (some (.int x)) g h) := E_iretz dL_law_774 rfl ⟨by decide, by decide⟩
theorem dL_law_775 : decode cL_law 775 = .ok (.aload_n 1, 1) := by decide +kernel
theorem eL_law_775 {X : (Nat → Int32) × Nat} {g : xG} {h : xH} {Q : Option Value → xG → xH → Prop} {v0 v2 v3 : Value} {x : Nat}(st : List Value) : EV X mL_law 162 3499 775 [v0, .ref x, v2, v3] st g h Q = EV X mL_law 162 3499 776 [v0, .ref x, v2, v3] (.ref x :: st) g h Q := E_aload_n dL_law_775 rfl
theorem dL_law_776 : decode cL_law 776 = .ok (.aload_n 0, 1) := by decide +kernel
theorem eL_law_776 {X : (Nat → Int32) × Nat} {g : xG} {h : xH} {Q : Option Value → xG → xH → Prop} {v1 v2 v3 : Value} {x : Nat}(st : List Value) : EV X mL_law 162 3499 776 [.ref x, v1, v2, v3] st g h Q = EV X mL_law 162 3499 777 [.ref x, v1, v2, v3] (.ref x :: st) g h Q := E_aload_n dL_law_776 rfl
theorem dL_law_777 : decode cL_law 777 = .ok (.iload_n 3, 1) := by decide +kernel
theorem eL_law_777 {X : (Nat → Int32) × Nat} {g : xG} {h : xH} {Q : Option Value → xG → xH → Prop} {v0 v1 v2 : Value} {x : Int32}(st : List Value) : EV X mL_law 162 3499 777 [v0, v1, v2, .int x] st g h Q = EV X mL_law 162 3499 778 [v0, v1, v2, .int x] (.int x :: st) g h Q := E_iload_n dL_law_777 rfl
theorem dL_law_778 : decode cL_law 778 = .ok (.iconst 1, 1) := by decide +kernel
theorem eL_law_778 {X : (Nat → Int32) × Nat} {g : xG} {h : xH} {Q : Option Value → xG → xH → Prop} (ls : List Value)(st : List Value) : EV X mL_law 162 3499 778 ls st g h Q = EV X mL_law 162 3499 779 ls (.int 1 :: st) g h Q := E_iconst (1) dL_law_778 (by decide)
theorem dL_law_779 : decode cL_law 779 = .ok (.iadd, 1) := by decide +kernel
theorem eL_law_779 {X : (Nat → Int32) × Nat} {g : xG} {h : xH} {Q : Option Value → xG → xH → Prop} (ls : List Value)(st : List Value) {x y : Int32} : EV X mL_law 162 3499 779 ls (.int y :: .int x :: st) g h Q = EV X mL_law 162 3499 780 ls (.int (x + y) :: st) g h Q := E_iadd dL_law_779
theorem dL_law_780 : decode cL_law 780 = .ok (.iaload, 1) := by decide +kernel
theorem eL_law_780 {X : (Nat → Int32) × Nat} {g : xG} {h : xH} {Q : Option Value → xG → xH → Prop} (ls : List Value)(st : List Value) {i : Int32} : EV X mL_law 162 3499 780 ls (.int i :: .ref 1000 :: st) g h Q = (inb i X.2 ∧ EV X mL_law 162 3499 781 ls (.int (X.1 i.toNatClampNeg) :: st) g h Q) := E_iscr dL_law_780
theorem dL_law_781 : decode cL_law 781 = .ok (.aload_n 0, 1) := by decide +kernel
theorem eL_law_781 {X : (Nat → Int32) × Nat} {g : xG} {h : xH} {Q : Option Value → xG → xH → Prop} {v1 v2 v3 : Value} {x : Nat}(st : List Value) : EV X mL_law 162 3499 781 [.ref x, v1, v2, v3] st g h Q = EV X mL_law 162 3499 782 [.ref x, v1, v2, v3] (.ref x :: st) g h Q := E_aload_n dL_law_781 rfl
theorem dL_law_782 : decode cL_law 782 = .ok (.iload_n 3, 1) := by decide +kernel
theorem eL_law_782 {X : (Nat → Int32) × Nat} {g : xG} {h : xH} {Q : Option Value → xG → xH → Prop} {v0 v1 v2 : Value} {x : Int32}(st : List Value) : EV X mL_law 162 3499 782 [v0, v1, v2, .int x] st g h Q = EV X mL_law 162 3499 783 [v0, v1, v2, .int x] (.int x :: st) g h Q := E_iload_n dL_law_782 rfl
theorem dL_law_783 : decode cL_law 783 = .ok (.iconst 2, 1) := by decide +kernel
theorem eL_law_783 {X : (Nat → Int32) × Nat} {g : xG} {h : xH} {Q : Option Value → xG → xH → Prop} (ls : List Value)(st : List Value) : EV X mL_law 162 3499 783 ls st g h Q = EV X mL_law 162 3499 784 ls (.int 2 :: st) g h Q := E_iconst (2) dL_law_783 (by decide)
theorem dL_law_784 : decode cL_law 784 = .ok (.iadd, 1) := by decide +kernel
theorem eL_law_784 {X : (Nat → Int32) × Nat} {g : xG} {h : xH} {Q : Option Value → xG → xH → Prop} (ls : List Value)(st : List Value) {x y : Int32} : EV X mL_law 162 3499 784 ls (.int y :: .int x :: st) g h Q = EV X mL_law 162 3499 785 ls (.int (x + y) :: st) g h Q := E_iadd dL_law_784
theorem dL_law_785 : decode cL_law 785 = .ok (.iaload, 1) := by decide +kernel
theorem eL_law_785 {X : (Nat → Int32) × Nat} {g : xG} {h : xH} {Q : Option Value → xG → xH → Prop} (ls : List Value)(st : List Value) {i : Int32} : EV X mL_law 162 3499 785 ls (.int i :: .ref 1000 :: st) g h Q = (inb i X.2 ∧ EV X mL_law 162 3499 786 ls (.int (X.1 i.toNatClampNeg) :: st) g h Q) := E_iscr dL_law_785
theorem dL_law_786 : decode cL_law 786 = .ok (.aload_n 0, 1) := by decide +kernel
theorem eL_law_786 {X : (Nat → Int32) × Nat} {g : xG} {h : xH} {Q : Option Value → xG → xH → Prop} {v1 v2 v3 : Value} {x : Nat}(st : List Value) : EV X mL_law 162 3499 786 [.ref x, v1, v2, v3] st g h Q = EV X mL_law 162 3499 787 [.ref x, v1, v2, v3] (.ref x :: st) g h Q := E_aload_n dL_law_786 rfl
theorem dL_law_787 : decode cL_law 787 = .ok (.iload_n 3, 1) := by decide +kernel
theorem eL_law_787 {X : (Nat → Int32) × Nat} {g : xG} {h : xH} {Q : Option Value → xG → xH → Prop} {v0 v1 v2 : Value} {x : Int32}(st : List Value) : EV X mL_law 162 3499 787 [v0, v1, v2, .int x] st g h Q = EV X mL_law 162 3499 788 [v0, v1, v2, .int x] (.int x :: st) g h Q := E_iload_n dL_law_787 rfl
theorem dL_law_788 : decode cL_law 788 = .ok (.iconst 3, 1) := by decide +kernel
theorem eL_law_788 {X : (Nat → Int32) × Nat} {g : xG} {h : xH} {Q : Option Value → xG → xH → Prop} (ls : List Value)(st : List Value) : EV X mL_law 162 3499 788 ls st g h Q = EV X mL_law 162 3499 789 ls (.int 3 :: st) g h Q := E_iconst (3) dL_law_788 (by decide)
theorem dL_law_789 : decode cL_law 789 = .ok (.iadd, 1) := by decide +kernel
theorem eL_law_789 {X : (Nat → Int32) × Nat} {g : xG} {h : xH} {Q : Option Value → xG → xH → Prop} (ls : List Value)(st : List Value) {x y : Int32} : EV X mL_law 162 3499 789 ls (.int y :: .int x :: st) g h Q = EV X mL_law 162 3499 790 ls (.int (x + y) :: st) g h Q := E_iadd dL_law_789
theorem dL_law_790 : decode cL_law 790 = .ok (.iaload, 1) := by decide +kernel
theorem eL_law_790 {X : (Nat → Int32) × Nat} {g : xG} {h : xH} {Q : Option Value → xG → xH → Prop} (ls : List Value)(st : List Value) {i : Int32} : EV X mL_law 162 3499 790 ls (.int i :: .ref 1000 :: st) g h Q = (inb i X.2 ∧ EV X mL_law 162 3499 791 ls (.int (X.1 i.toNatClampNeg) :: st) g h Q) := E_iscr dL_law_790
theorem dL_law_791 : decode cL_law 791 = .ok (.aload_n 0, 1) := by decide +kernel
theorem eL_law_791 {X : (Nat → Int32) × Nat} {g : xG} {h : xH} {Q : Option Value → xG → xH → Prop} {v1 v2 v3 : Value} {x : Nat}(st : List Value) : EV X mL_law 162 3499 791 [.ref x, v1, v2, v3] st g h Q = EV X mL_law 162 3499 792 [.ref x, v1, v2, v3] (.ref x :: st) g h Q := E_aload_n dL_law_791 rfl
theorem dL_law_792 : decode cL_law 792 = .ok (.iload_n 3, 1) := by decide +kernel
theorem eL_law_792 {X : (Nat → Int32) × Nat} {g : xG} {h : xH} {Q : Option Value → xG → xH → Prop} {v0 v1 v2 : Value} {x : Int32}(st : List Value) : EV X mL_law 162 3499 792 [v0, v1, v2, .int x] st g h Q = EV X mL_law 162 3499 793 [v0, v1, v2, .int x] (.int x :: st) g h Q := E_iload_n dL_law_792 rfl
theorem dL_law_793 : decode cL_law 793 = .ok (.iconst 4, 1) := by decide +kernel
theorem eL_law_793 {X : (Nat → Int32) × Nat} {g : xG} {h : xH} {Q : Option Value → xG → xH → Prop} (ls : List Value)(st : List Value) : EV X mL_law 162 3499 793 ls st g h Q = EV X mL_law 162 3499 794 ls (.int 4 :: st) g h Q := E_iconst (4) dL_law_793 (by decide)
theorem dL_law_794 : decode cL_law 794 = .ok (.iadd, 1) := by decide +kernel
theorem eL_law_794 {X : (Nat → Int32) × Nat} {g : xG} {h : xH} {Q : Option Value → xG → xH → Prop} (ls : List Value)(st : List Value) {x y : Int32} : EV X mL_law 162 3499 794 ls (.int y :: .int x :: st) g h Q = EV X mL_law 162 3499 795 ls (.int (x + y) :: st) g h Q := E_iadd dL_law_794
theorem dL_law_795 : decode cL_law 795 = .ok (.iaload, 1) := by decide +kernel
theorem eL_law_795 {X : (Nat → Int32) × Nat} {g : xG} {h : xH} {Q : Option Value → xG → xH → Prop} (ls : List Value)(st : List Value) {i : Int32} : EV X mL_law 162 3499 795 ls (.int i :: .ref 1000 :: st) g h Q = (inb i X.2 ∧ EV X mL_law 162 3499 796 ls (.int (X.1 i.toNatClampNeg) :: st) g h Q) := E_iscr dL_law_795
theorem dL_law_796 : decode cL_law 796 = .ok (.invokevirtual 110, 3) := by decide +kernel
theorem eL_law_796 {X : (Nat → Int32) × Nat} {g : xG} {h : xH} {Q : Option Value → xG → xH → Prop} (ls : List Value){a0 : Int32} {a1 : Int32} {a2 : Int32} {a3 : Int32} : EV X mL_law 162 3499 796 ls (.int a3 :: .int a2 :: .int a1 :: .int a0 :: .ref 0 :: []) g h Q = EV X mX5_meet 0 0 0 [.ref 0, .int a0, .int a1, .int a2, .int a3, .null, .null] [] g h (fun r g h => EV X mL_law 162 3499 799 ls (r.toList ++ ([])) g h Q) := E_callv (mi := 78) dL_law_796 (by decide +kernel) (by decide) rfl rfl ⟨rfl, Nat.le_of_ble_eq_true rfl, by decide, by decide⟩ rfl rfl ⟨rfl, rfl⟩ rfl
theorem dL_law_799 : decode cL_law 799 = .ok (.aload_n 2, 1) := by decide +kernel
theorem eL_law_799 {X : (Nat → Int32) × Nat} {g : xG} {h : xH} {Q : Option Value → xG → xH → Prop} {v0 v1 v3 : Value} {x : Nat}(st : List Value) : EV X mL_law 162 3499 799 [v0, v1, .ref x, v3] st g h Q = EV X mL_law 162 3499 800 [v0, v1, .ref x, v3] (.ref x :: st) g h Q := E_aload_n dL_law_799 rfl
theorem dL_law_800 : decode cL_law 800 = .ok (.aload_n 0, 1) := by decide +kernel
theorem eL_law_800 {X : (Nat → Int32) × Nat} {g : xG} {h : xH} {Q : Option Value → xG → xH → Prop} {v1 v2 v3 : Value} {x : Nat}(st : List Value) : EV X mL_law 162 3499 800 [.ref x, v1, v2, v3] st g h Q = EV X mL_law 162 3499 801 [.ref x, v1, v2, v3] (.ref x :: st) g h Q := E_aload_n dL_law_800 rfl
theorem dL_law_801 : decode cL_law 801 = .ok (.iload_n 3, 1) := by decide +kernel
theorem eL_law_801 {X : (Nat → Int32) × Nat} {g : xG} {h : xH} {Q : Option Value → xG → xH → Prop} {v0 v1 v2 : Value} {x : Int32}(st : List Value) : EV X mL_law 162 3499 801 [v0, v1, v2, .int x] st g h Q = EV X mL_law 162 3499 802 [v0, v1, v2, .int x] (.int x :: st) g h Q := E_iload_n dL_law_801 rfl
theorem dL_law_802 : decode cL_law 802 = .ok (.iconst 1, 1) := by decide +kernel
theorem eL_law_802 {X : (Nat → Int32) × Nat} {g : xG} {h : xH} {Q : Option Value → xG → xH → Prop} (ls : List Value)(st : List Value) : EV X mL_law 162 3499 802 ls st g h Q = EV X mL_law 162 3499 803 ls (.int 1 :: st) g h Q := E_iconst (1) dL_law_802 (by decide)
theorem dL_law_803 : decode cL_law 803 = .ok (.iadd, 1) := by decide +kernel
theorem eL_law_803 {X : (Nat → Int32) × Nat} {g : xG} {h : xH} {Q : Option Value → xG → xH → Prop} (ls : List Value)(st : List Value) {x y : Int32} : EV X mL_law 162 3499 803 ls (.int y :: .int x :: st) g h Q = EV X mL_law 162 3499 804 ls (.int (x + y) :: st) g h Q := E_iadd dL_law_803
theorem dL_law_804 : decode cL_law 804 = .ok (.iaload, 1) := by decide +kernel
theorem eL_law_804 {X : (Nat → Int32) × Nat} {g : xG} {h : xH} {Q : Option Value → xG → xH → Prop} (ls : List Value)(st : List Value) {i : Int32} : EV X mL_law 162 3499 804 ls (.int i :: .ref 1000 :: st) g h Q = (inb i X.2 ∧ EV X mL_law 162 3499 805 ls (.int (X.1 i.toNatClampNeg) :: st) g h Q) := E_iscr dL_law_804
theorem dL_law_805 : decode cL_law 805 = .ok (.aload_n 0, 1) := by decide +kernel
theorem eL_law_805 {X : (Nat → Int32) × Nat} {g : xG} {h : xH} {Q : Option Value → xG → xH → Prop} {v1 v2 v3 : Value} {x : Nat}(st : List Value) : EV X mL_law 162 3499 805 [.ref x, v1, v2, v3] st g h Q = EV X mL_law 162 3499 806 [.ref x, v1, v2, v3] (.ref x :: st) g h Q := E_aload_n dL_law_805 rfl
theorem dL_law_806 : decode cL_law 806 = .ok (.iload_n 3, 1) := by decide +kernel
theorem eL_law_806 {X : (Nat → Int32) × Nat} {g : xG} {h : xH} {Q : Option Value → xG → xH → Prop} {v0 v1 v2 : Value} {x : Int32}(st : List Value) : EV X mL_law 162 3499 806 [v0, v1, v2, .int x] st g h Q = EV X mL_law 162 3499 807 [v0, v1, v2, .int x] (.int x :: st) g h Q := E_iload_n dL_law_806 rfl
theorem dL_law_807 : decode cL_law 807 = .ok (.iconst 2, 1) := by decide +kernel
theorem eL_law_807 {X : (Nat → Int32) × Nat} {g : xG} {h : xH} {Q : Option Value → xG → xH → Prop} (ls : List Value)(st : List Value) : EV X mL_law 162 3499 807 ls st g h Q = EV X mL_law 162 3499 808 ls (.int 2 :: st) g h Q := E_iconst (2) dL_law_807 (by decide)
theorem dL_law_808 : decode cL_law 808 = .ok (.iadd, 1) := by decide +kernel
theorem eL_law_808 {X : (Nat → Int32) × Nat} {g : xG} {h : xH} {Q : Option Value → xG → xH → Prop} (ls : List Value)(st : List Value) {x y : Int32} : EV X mL_law 162 3499 808 ls (.int y :: .int x :: st) g h Q = EV X mL_law 162 3499 809 ls (.int (x + y) :: st) g h Q := E_iadd dL_law_808
theorem dL_law_809 : decode cL_law 809 = .ok (.iaload, 1) := by decide +kernel
theorem eL_law_809 {X : (Nat → Int32) × Nat} {g : xG} {h : xH} {Q : Option Value → xG → xH → Prop} (ls : List Value)(st : List Value) {i : Int32} : EV X mL_law 162 3499 809 ls (.int i :: .ref 1000 :: st) g h Q = (inb i X.2 ∧ EV X mL_law 162 3499 810 ls (.int (X.1 i.toNatClampNeg) :: st) g h Q) := E_iscr dL_law_809
theorem dL_law_810 : decode cL_law 810 = .ok (.aload_n 0, 1) := by decide +kernel
theorem eL_law_810 {X : (Nat → Int32) × Nat} {g : xG} {h : xH} {Q : Option Value → xG → xH → Prop} {v1 v2 v3 : Value} {x : Nat}(st : List Value) : EV X mL_law 162 3499 810 [.ref x, v1, v2, v3] st g h Q = EV X mL_law 162 3499 811 [.ref x, v1, v2, v3] (.ref x :: st) g h Q := E_aload_n dL_law_810 rfl
theorem dL_law_811 : decode cL_law 811 = .ok (.iload_n 3, 1) := by decide +kernel
theorem eL_law_811 {X : (Nat → Int32) × Nat} {g : xG} {h : xH} {Q : Option Value → xG → xH → Prop} {v0 v1 v2 : Value} {x : Int32}(st : List Value) : EV X mL_law 162 3499 811 [v0, v1, v2, .int x] st g h Q = EV X mL_law 162 3499 812 [v0, v1, v2, .int x] (.int x :: st) g h Q := E_iload_n dL_law_811 rfl
theorem dL_law_812 : decode cL_law 812 = .ok (.iconst 3, 1) := by decide +kernel
theorem eL_law_812 {X : (Nat → Int32) × Nat} {g : xG} {h : xH} {Q : Option Value → xG → xH → Prop} (ls : List Value)(st : List Value) : EV X mL_law 162 3499 812 ls st g h Q = EV X mL_law 162 3499 813 ls (.int 3 :: st) g h Q := E_iconst (3) dL_law_812 (by decide)
theorem dL_law_813 : decode cL_law 813 = .ok (.iadd, 1) := by decide +kernel
theorem eL_law_813 {X : (Nat → Int32) × Nat} {g : xG} {h : xH} {Q : Option Value → xG → xH → Prop} (ls : List Value)(st : List Value) {x y : Int32} : EV X mL_law 162 3499 813 ls (.int y :: .int x :: st) g h Q = EV X mL_law 162 3499 814 ls (.int (x + y) :: st) g h Q := E_iadd dL_law_813
theorem dL_law_814 : decode cL_law 814 = .ok (.iaload, 1) := by decide +kernel
theorem eL_law_814 {X : (Nat → Int32) × Nat} {g : xG} {h : xH} {Q : Option Value → xG → xH → Prop} (ls : List Value)(st : List Value) {i : Int32} : EV X mL_law 162 3499 814 ls (.int i :: .ref 1000 :: st) g h Q = (inb i X.2 ∧ EV X mL_law 162 3499 815 ls (.int (X.1 i.toNatClampNeg) :: st) g h Q) := E_iscr dL_law_814
theorem dL_law_815 : decode cL_law 815 = .ok (.aload_n 0, 1) := by decide +kernel
theorem eL_law_815 {X : (Nat → Int32) × Nat} {g : xG} {h : xH} {Q : Option Value → xG → xH → Prop} {v1 v2 v3 : Value} {x : Nat}(st : List Value) : EV X mL_law 162 3499 815 [.ref x, v1, v2, v3] st g h Q = EV X mL_law 162 3499 816 [.ref x, v1, v2, v3] (.ref x :: st) g h Q := E_aload_n dL_law_815 rfl
theorem dL_law_816 : decode cL_law 816 = .ok (.iload_n 3, 1) := by decide +kernel
theorem eL_law_816 {X : (Nat → Int32) × Nat} {g : xG} {h : xH} {Q : Option Value → xG → xH → Prop} {v0 v1 v2 : Value} {x : Int32}(st : List Value) : EV X mL_law 162 3499 816 [v0, v1, v2, .int x] st g h Q = EV X mL_law 162 3499 817 [v0, v1, v2, .int x] (.int x :: st) g h Q := E_iload_n dL_law_816 rfl
theorem dL_law_817 : decode cL_law 817 = .ok (.iconst 4, 1) := by decide +kernel
theorem eL_law_817 {X : (Nat → Int32) × Nat} {g : xG} {h : xH} {Q : Option Value → xG → xH → Prop} (ls : List Value)(st : List Value) : EV X mL_law 162 3499 817 ls st g h Q = EV X mL_law 162 3499 818 ls (.int 4 :: st) g h Q := E_iconst (4) dL_law_817 (by decide)
theorem dL_law_818 : decode cL_law 818 = .ok (.iadd, 1) := by decide +kernel
theorem eL_law_818 {X : (Nat → Int32) × Nat} {g : xG} {h : xH} {Q : Option Value → xG → xH → Prop} (ls : List Value)(st : List Value) {x y : Int32} : EV X mL_law 162 3499 818 ls (.int y :: .int x :: st) g h Q = EV X mL_law 162 3499 819 ls (.int (x + y) :: st) g h Q := E_iadd dL_law_818
theorem dL_law_819 : decode cL_law 819 = .ok (.iaload, 1) := by decide +kernel
theorem eL_law_819 {X : (Nat → Int32) × Nat} {g : xG} {h : xH} {Q : Option Value → xG → xH → Prop} (ls : List Value)(st : List Value) {i : Int32} : EV X mL_law 162 3499 819 ls (.int i :: .ref 1000 :: st) g h Q = (inb i X.2 ∧ EV X mL_law 162 3499 820 ls (.int (X.1 i.toNatClampNeg) :: st) g h Q) := E_iscr dL_law_819
theorem dL_law_820 : decode cL_law 820 = .ok (.invokevirtual 113, 3) := by decide +kernel
theorem eL_law_820 {X : (Nat → Int32) × Nat} {g : xG} {h : xH} {Q : Option Value → xG → xH → Prop} (ls : List Value){a0 : Int32} {a1 : Int32} {a2 : Int32} {a3 : Int32} {x0 : Int32} : EV X mL_law 162 3499 820 ls (.int a3 :: .int a2 :: .int a1 :: .int a0 :: .ref 140 :: .int x0 :: []) g h Q = EV X mX6_meet 0 0 0 [.ref 140, .int a0, .int a1, .int a2, .int a3, .null, .null] [] g h (fun r g h => EV X mL_law 162 3499 823 ls (r.toList ++ (.int x0 :: [])) g h Q) := E_callv (mi := 163) dL_law_820 (by decide +kernel) (by decide) rfl rfl ⟨rfl, Nat.le_of_ble_eq_true rfl, by decide, by decide⟩ rfl rfl ⟨rfl, rfl⟩ rfl
theorem dL_law_823 : decode cL_law 823 = .ok (.if_icmp .eq 350, 3) := by decide +kernel
theorem eL_law_823 {X : (Nat → Int32) × Nat} {g : xG} {h : xH} {Q : Option Value → xG → xH → Prop} (ls : List Value)(st : List Value) {x y : Int32} : EV X mL_law 162 3499 823 ls (.int y :: .int x :: st) g h Q = if x = y then EV X mL_law 162 3499 1173 ls st g h Q else EV X mL_law 162 3499 826 ls st g h Q := E_icmpeq 1173 dL_law_823 (by decide)
theorem dL_law_826 : decode cL_law 826 = .ok (.iconst 0, 1) := by decide +kernel
theorem eL_law_826 {X : (Nat → Int32) × Nat} {g : xG} {h : xH} {Q : Option Value → xG → xH → Prop} (ls : List Value)(st : List Value) : EV X mL_law 162 3499 826 ls st g h Q = EV X mL_law 162 3499 827 ls (.int 0 :: st) g h Q := E_iconst (0) dL_law_826 (by decide)
theorem dL_law_827 : decode cL_law 827 = .ok (.ireturn, 1) := by decide +kernel
theorem eL_law_827 {X : (Nat → Int32) × Nat} {g : xG} {h : xH} {Q : Option Value → xG → xH → Prop} (ls : List Value) {x : Int32} : EV X mL_law 162 3499 827 ls [.int x] g h Q = (is01 x ∧ Q (some (.int x)) g h) := E_iretz dL_law_827 rfl ⟨by decide, by decide⟩
theorem dL_law_828 : decode cL_law 828 = .ok (.aload_n 1, 1) := by decide +kernel
theorem eL_law_828 {X : (Nat → Int32) × Nat} {g : xG} {h : xH} {Q : Option Value → xG → xH → Prop} {v0 v2 v3 : Value} {x : Nat}(st : List Value) : EV X mL_law 162 3499 828 [v0, .ref x, v2, v3] st g h Q = EV X mL_law 162 3499 829 [v0, .ref x, v2, v3] (.ref x :: st) g h Q := E_aload_n dL_law_828 rfl
theorem dL_law_829 : decode cL_law 829 = .ok (.aload_n 0, 1) := by decide +kernel
theorem eL_law_829 {X : (Nat → Int32) × Nat} {g : xG} {h : xH} {Q : Option Value → xG → xH → Prop} {v1 v2 v3 : Value} {x : Nat}(st : List Value) : EV X mL_law 162 3499 829 [.ref x, v1, v2, v3] st g h Q = EV X mL_law 162 3499 830 [.ref x, v1, v2, v3] (.ref x :: st) g h Q := E_aload_n dL_law_829 rfl
theorem dL_law_830 : decode cL_law 830 = .ok (.iload_n 3, 1) := by decide +kernel
theorem eL_law_830 {X : (Nat → Int32) × Nat} {g : xG} {h : xH} {Q : Option Value → xG → xH → Prop} {v0 v1 v2 : Value} {x : Int32}(st : List Value) : EV X mL_law 162 3499 830 [v0, v1, v2, .int x] st g h Q = EV X mL_law 162 3499 831 [v0, v1, v2, .int x] (.int x :: st) g h Q := E_iload_n dL_law_830 rfl
theorem dL_law_831 : decode cL_law 831 = .ok (.iconst 1, 1) := by decide +kernel
theorem eL_law_831 {X : (Nat → Int32) × Nat} {g : xG} {h : xH} {Q : Option Value → xG → xH → Prop} (ls : List Value)(st : List Value) : EV X mL_law 162 3499 831 ls st g h Q = EV X mL_law 162 3499 832 ls (.int 1 :: st) g h Q := E_iconst (1) dL_law_831 (by decide)
theorem dL_law_832 : decode cL_law 832 = .ok (.iadd, 1) := by decide +kernel
theorem eL_law_832 {X : (Nat → Int32) × Nat} {g : xG} {h : xH} {Q : Option Value → xG → xH → Prop} (ls : List Value)(st : List Value) {x y : Int32} : EV X mL_law 162 3499 832 ls (.int y :: .int x :: st) g h Q = EV X mL_law 162 3499 833 ls (.int (x + y) :: st) g h Q := E_iadd dL_law_832
theorem dL_law_833 : decode cL_law 833 = .ok (.iaload, 1) := by decide +kernel
theorem eL_law_833 {X : (Nat → Int32) × Nat} {g : xG} {h : xH} {Q : Option Value → xG → xH → Prop} (ls : List Value)(st : List Value) {i : Int32} : EV X mL_law 162 3499 833 ls (.int i :: .ref 1000 :: st) g h Q = (inb i X.2 ∧ EV X mL_law 162 3499 834 ls (.int (X.1 i.toNatClampNeg) :: st) g h Q) := E_iscr dL_law_833
theorem dL_law_834 : decode cL_law 834 = .ok (.aload_n 0, 1) := by decide +kernel
theorem eL_law_834 {X : (Nat → Int32) × Nat} {g : xG} {h : xH} {Q : Option Value → xG → xH → Prop} {v1 v2 v3 : Value} {x : Nat}(st : List Value) : EV X mL_law 162 3499 834 [.ref x, v1, v2, v3] st g h Q = EV X mL_law 162 3499 835 [.ref x, v1, v2, v3] (.ref x :: st) g h Q := E_aload_n dL_law_834 rfl
theorem dL_law_835 : decode cL_law 835 = .ok (.iload_n 3, 1) := by decide +kernel
theorem eL_law_835 {X : (Nat → Int32) × Nat} {g : xG} {h : xH} {Q : Option Value → xG → xH → Prop} {v0 v1 v2 : Value} {x : Int32}(st : List Value) : EV X mL_law 162 3499 835 [v0, v1, v2, .int x] st g h Q = EV X mL_law 162 3499 836 [v0, v1, v2, .int x] (.int x :: st) g h Q := E_iload_n dL_law_835 rfl
theorem dL_law_836 : decode cL_law 836 = .ok (.iconst 2, 1) := by decide +kernel
theorem eL_law_836 {X : (Nat → Int32) × Nat} {g : xG} {h : xH} {Q : Option Value → xG → xH → Prop} (ls : List Value)(st : List Value) : EV X mL_law 162 3499 836 ls st g h Q = EV X mL_law 162 3499 837 ls (.int 2 :: st) g h Q := E_iconst (2) dL_law_836 (by decide)
theorem dL_law_837 : decode cL_law 837 = .ok (.iadd, 1) := by decide +kernel
theorem eL_law_837 {X : (Nat → Int32) × Nat} {g : xG} {h : xH} {Q : Option Value → xG → xH → Prop} (ls : List Value)(st : List Value) {x y : Int32} : EV X mL_law 162 3499 837 ls (.int y :: .int x :: st) g h Q = EV X mL_law 162 3499 838 ls (.int (x + y) :: st) g h Q := E_iadd dL_law_837
theorem dL_law_838 : decode cL_law 838 = .ok (.iaload, 1) := by decide +kernel
theorem eL_law_838 {X : (Nat → Int32) × Nat} {g : xG} {h : xH} {Q : Option Value → xG → xH → Prop} (ls : List Value)(st : List Value) {i : Int32} : EV X mL_law 162 3499 838 ls (.int i :: .ref 1000 :: st) g h Q = (inb i X.2 ∧ EV X mL_law 162 3499 839 ls (.int (X.1 i.toNatClampNeg) :: st) g h Q) := E_iscr dL_law_838
theorem dL_law_839 : decode cL_law 839 = .ok (.invokevirtual 114, 3) := by decide +kernel
theorem eL_law_839 {X : (Nat → Int32) × Nat} {g : xG} {h : xH} {Q : Option Value → xG → xH → Prop} (ls : List Value){a0 : Int32} {a1 : Int32} : EV X mL_law 162 3499 839 ls (.int a1 :: .int a0 :: .ref 0 :: []) g h Q = EV X mX5_bestPrice 0 0 0 [.ref 0, .int a0, .int a1, .null, .null, .null, .null, .null] [] g h (fun r g h => EV X mL_law 162 3499 842 ls (r.toList ++ ([])) g h Q) := E_callv (mi := 79) dL_law_839 (by decide +kernel) (by decide) rfl rfl ⟨rfl, Nat.le_of_ble_eq_true rfl, by decide, by decide⟩ rfl rfl ⟨rfl, rfl⟩ rfl
theorem dL_law_842 : decode cL_law 842 = .ok (.aload_n 2, 1) := by decide +kernel
theorem eL_law_842 {X : (Nat → Int32) × Nat} {g : xG} {h : xH} {Q : Option Value → xG → xH → Prop} {v0 v1 v3 : Value} {x : Nat}(st : List Value) : EV X mL_law 162 3499 842 [v0, v1, .ref x, v3] st g h Q = EV X mL_law 162 3499 843 [v0, v1, .ref x, v3] (.ref x :: st) g h Q := E_aload_n dL_law_842 rfl
theorem dL_law_843 : decode cL_law 843 = .ok (.aload_n 0, 1) := by decide +kernel
theorem eL_law_843 {X : (Nat → Int32) × Nat} {g : xG} {h : xH} {Q : Option Value → xG → xH → Prop} {v1 v2 v3 : Value} {x : Nat}(st : List Value) : EV X mL_law 162 3499 843 [.ref x, v1, v2, v3] st g h Q = EV X mL_law 162 3499 844 [.ref x, v1, v2, v3] (.ref x :: st) g h Q := E_aload_n dL_law_843 rfl
theorem dL_law_844 : decode cL_law 844 = .ok (.iload_n 3, 1) := by decide +kernel
theorem eL_law_844 {X : (Nat → Int32) × Nat} {g : xG} {h : xH} {Q : Option Value → xG → xH → Prop} {v0 v1 v2 : Value} {x : Int32}(st : List Value) : EV X mL_law 162 3499 844 [v0, v1, v2, .int x] st g h Q = EV X mL_law 162 3499 845 [v0, v1, v2, .int x] (.int x :: st) g h Q := E_iload_n dL_law_844 rfl
theorem dL_law_845 : decode cL_law 845 = .ok (.iconst 1, 1) := by decide +kernel
theorem eL_law_845 {X : (Nat → Int32) × Nat} {g : xG} {h : xH} {Q : Option Value → xG → xH → Prop} (ls : List Value)(st : List Value) : EV X mL_law 162 3499 845 ls st g h Q = EV X mL_law 162 3499 846 ls (.int 1 :: st) g h Q := E_iconst (1) dL_law_845 (by decide)
theorem dL_law_846 : decode cL_law 846 = .ok (.iadd, 1) := by decide +kernel
theorem eL_law_846 {X : (Nat → Int32) × Nat} {g : xG} {h : xH} {Q : Option Value → xG → xH → Prop} (ls : List Value)(st : List Value) {x y : Int32} : EV X mL_law 162 3499 846 ls (.int y :: .int x :: st) g h Q = EV X mL_law 162 3499 847 ls (.int (x + y) :: st) g h Q := E_iadd dL_law_846
theorem dL_law_847 : decode cL_law 847 = .ok (.iaload, 1) := by decide +kernel
theorem eL_law_847 {X : (Nat → Int32) × Nat} {g : xG} {h : xH} {Q : Option Value → xG → xH → Prop} (ls : List Value)(st : List Value) {i : Int32} : EV X mL_law 162 3499 847 ls (.int i :: .ref 1000 :: st) g h Q = (inb i X.2 ∧ EV X mL_law 162 3499 848 ls (.int (X.1 i.toNatClampNeg) :: st) g h Q) := E_iscr dL_law_847
theorem dL_law_848 : decode cL_law 848 = .ok (.aload_n 0, 1) := by decide +kernel
theorem eL_law_848 {X : (Nat → Int32) × Nat} {g : xG} {h : xH} {Q : Option Value → xG → xH → Prop} {v1 v2 v3 : Value} {x : Nat}(st : List Value) : EV X mL_law 162 3499 848 [.ref x, v1, v2, v3] st g h Q = EV X mL_law 162 3499 849 [.ref x, v1, v2, v3] (.ref x :: st) g h Q := E_aload_n dL_law_848 rfl
theorem dL_law_849 : decode cL_law 849 = .ok (.iload_n 3, 1) := by decide +kernel
theorem eL_law_849 {X : (Nat → Int32) × Nat} {g : xG} {h : xH} {Q : Option Value → xG → xH → Prop} {v0 v1 v2 : Value} {x : Int32}(st : List Value) : EV X mL_law 162 3499 849 [v0, v1, v2, .int x] st g h Q = EV X mL_law 162 3499 850 [v0, v1, v2, .int x] (.int x :: st) g h Q := E_iload_n dL_law_849 rfl
