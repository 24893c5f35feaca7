/-! the law, from its loop on -/
theorem dL_law_850 : decode cL_law 850 = .ok (.iconst 2, 1) := by decide +kernel
theorem eL_law_850 {X : (Nat → Int32) × Nat} {g : xG} {h : xH} {Q : Option Value → xG → xH → Prop} (ls : List Value)(st : List Value) : EV X mL_law 162 3499 850 ls st g h Q = EV X mL_law 162 3499 851 ls (.int 2 :: st) g h Q := E_iconst (2) dL_law_850 (by decide)
theorem dL_law_851 : decode cL_law 851 = .ok (.iadd, 1) := by decide +kernel
theorem eL_law_851 {X : (Nat → Int32) × Nat} {g : xG} {h : xH} {Q : Option Value → xG → xH → Prop} (ls : List Value)(st : List Value) {x y : Int32} : EV X mL_law 162 3499 851 ls (.int y :: .int x :: st) g h Q = EV X mL_law 162 3499 852 ls (.int (x + y) :: st) g h Q := E_iadd dL_law_851
theorem dL_law_852 : decode cL_law 852 = .ok (.iaload, 1) := by decide +kernel
theorem eL_law_852 {X : (Nat → Int32) × Nat} {g : xG} {h : xH} {Q : Option Value → xG → xH → Prop} (ls : List Value)(st : List Value) {i : Int32} : EV X mL_law 162 3499 852 ls (.int i :: .ref 1000 :: st) g h Q = (inb i X.2 ∧ EV X mL_law 162 3499 853 ls (.int (X.1 i.toNatClampNeg) :: st) g h Q) := E_iscr dL_law_852
theorem dL_law_853 : decode cL_law 853 = .ok (.invokevirtual 117, 3) := by decide +kernel
theorem eL_law_853 {X : (Nat → Int32) × Nat} {g : xG} {h : xH} {Q : Option Value → xG → xH → Prop} (ls : List Value){a0 : Int32} {a1 : Int32} {x0 : Int32} : EV X mL_law 162 3499 853 ls (.int a1 :: .int a0 :: .ref 140 :: .int x0 :: []) g h Q = EV X mX6_bestPrice 0 0 0 [.ref 140, .int a0, .int a1, .null, .null, .null, .null, .null] [] g h (fun r g h => EV X mL_law 162 3499 856 ls (r.toList ++ (.int x0 :: [])) g h Q) := E_callv (mi := 164) dL_law_853 (by decide +kernel) (by decide) rfl rfl ⟨rfl, Nat.le_of_ble_eq_true rfl, by decide, by decide⟩ rfl rfl ⟨rfl, rfl⟩ rfl
theorem dL_law_856 : decode cL_law 856 = .ok (.if_icmp .eq 317, 3) := by decide +kernel
theorem eL_law_856 {X : (Nat → Int32) × Nat} {g : xG} {h : xH} {Q : Option Value → xG → xH → Prop} (ls : List Value)(st : List Value) {x y : Int32} : EV X mL_law 162 3499 856 ls (.int y :: .int x :: st) g h Q = if x = y then EV X mL_law 162 3499 1173 ls st g h Q else EV X mL_law 162 3499 859 ls st g h Q := E_icmpeq 1173 dL_law_856 (by decide)
theorem dL_law_859 : decode cL_law 859 = .ok (.iconst 0, 1) := by decide +kernel
theorem eL_law_859 {X : (Nat → Int32) × Nat} {g : xG} {h : xH} {Q : Option Value → xG → xH → Prop} (ls : List Value)(st : List Value) : EV X mL_law 162 3499 859 ls st g h Q = EV X mL_law 162 3499 860 ls (.int 0 :: st) g h Q := E_iconst (0) dL_law_859 (by decide)
theorem dL_law_860 : decode cL_law 860 = .ok (.ireturn, 1) := by decide +kernel
theorem eL_law_860 {X : (Nat → Int32) × Nat} {g : xG} {h : xH} {Q : Option Value → xG → xH → Prop} (ls : List Value) {x : Int32} : EV X mL_law 162 3499 860 ls [.int x] g h Q = (is01 x ∧ Q (some (.int x)) g h) := E_iretz dL_law_860 rfl ⟨by decide, by decide⟩
theorem dL_law_861 : decode cL_law 861 = .ok (.aload_n 1, 1) := by decide +kernel
theorem eL_law_861 {X : (Nat → Int32) × Nat} {g : xG} {h : xH} {Q : Option Value → xG → xH → Prop} {v0 v2 v3 : Value} {x : Nat}(st : List Value) : EV X mL_law 162 3499 861 [v0, .ref x, v2, v3] st g h Q = EV X mL_law 162 3499 862 [v0, .ref x, v2, v3] (.ref x :: st) g h Q := E_aload_n dL_law_861 rfl
theorem dL_law_862 : decode cL_law 862 = .ok (.aload_n 0, 1) := by decide +kernel
theorem eL_law_862 {X : (Nat → Int32) × Nat} {g : xG} {h : xH} {Q : Option Value → xG → xH → Prop} {v1 v2 v3 : Value} {x : Nat}(st : List Value) : EV X mL_law 162 3499 862 [.ref x, v1, v2, v3] st g h Q = EV X mL_law 162 3499 863 [.ref x, v1, v2, v3] (.ref x :: st) g h Q := E_aload_n dL_law_862 rfl
theorem dL_law_863 : decode cL_law 863 = .ok (.iload_n 3, 1) := by decide +kernel
theorem eL_law_863 {X : (Nat → Int32) × Nat} {g : xG} {h : xH} {Q : Option Value → xG → xH → Prop} {v0 v1 v2 : Value} {x : Int32}(st : List Value) : EV X mL_law 162 3499 863 [v0, v1, v2, .int x] st g h Q = EV X mL_law 162 3499 864 [v0, v1, v2, .int x] (.int x :: st) g h Q := E_iload_n dL_law_863 rfl
theorem dL_law_864 : decode cL_law 864 = .ok (.iconst 1, 1) := by decide +kernel
theorem eL_law_864 {X : (Nat → Int32) × Nat} {g : xG} {h : xH} {Q : Option Value → xG → xH → Prop} (ls : List Value)(st : List Value) : EV X mL_law 162 3499 864 ls st g h Q = EV X mL_law 162 3499 865 ls (.int 1 :: st) g h Q := E_iconst (1) dL_law_864 (by decide)
theorem dL_law_865 : decode cL_law 865 = .ok (.iadd, 1) := by decide +kernel
theorem eL_law_865 {X : (Nat → Int32) × Nat} {g : xG} {h : xH} {Q : Option Value → xG → xH → Prop} (ls : List Value)(st : List Value) {x y : Int32} : EV X mL_law 162 3499 865 ls (.int y :: .int x :: st) g h Q = EV X mL_law 162 3499 866 ls (.int (x + y) :: st) g h Q := E_iadd dL_law_865
theorem dL_law_866 : decode cL_law 866 = .ok (.iaload, 1) := by decide +kernel
theorem eL_law_866 {X : (Nat → Int32) × Nat} {g : xG} {h : xH} {Q : Option Value → xG → xH → Prop} (ls : List Value)(st : List Value) {i : Int32} : EV X mL_law 162 3499 866 ls (.int i :: .ref 1000 :: st) g h Q = (inb i X.2 ∧ EV X mL_law 162 3499 867 ls (.int (X.1 i.toNatClampNeg) :: st) g h Q) := E_iscr dL_law_866
theorem dL_law_867 : decode cL_law 867 = .ok (.aload_n 0, 1) := by decide +kernel
theorem eL_law_867 {X : (Nat → Int32) × Nat} {g : xG} {h : xH} {Q : Option Value → xG → xH → Prop} {v1 v2 v3 : Value} {x : Nat}(st : List Value) : EV X mL_law 162 3499 867 [.ref x, v1, v2, v3] st g h Q = EV X mL_law 162 3499 868 [.ref x, v1, v2, v3] (.ref x :: st) g h Q := E_aload_n dL_law_867 rfl
theorem dL_law_868 : decode cL_law 868 = .ok (.iload_n 3, 1) := by decide +kernel
theorem eL_law_868 {X : (Nat → Int32) × Nat} {g : xG} {h : xH} {Q : Option Value → xG → xH → Prop} {v0 v1 v2 : Value} {x : Int32}(st : List Value) : EV X mL_law 162 3499 868 [v0, v1, v2, .int x] st g h Q = EV X mL_law 162 3499 869 [v0, v1, v2, .int x] (.int x :: st) g h Q := E_iload_n dL_law_868 rfl
theorem dL_law_869 : decode cL_law 869 = .ok (.iconst 2, 1) := by decide +kernel
theorem eL_law_869 {X : (Nat → Int32) × Nat} {g : xG} {h : xH} {Q : Option Value → xG → xH → Prop} (ls : List Value)(st : List Value) : EV X mL_law 162 3499 869 ls st g h Q = EV X mL_law 162 3499 870 ls (.int 2 :: st) g h Q := E_iconst (2) dL_law_869 (by decide)
theorem dL_law_870 : decode cL_law 870 = .ok (.iadd, 1) := by decide +kernel
theorem eL_law_870 {X : (Nat → Int32) × Nat} {g : xG} {h : xH} {Q : Option Value → xG → xH → Prop} (ls : List Value)(st : List Value) {x y : Int32} : EV X mL_law 162 3499 870 ls (.int y :: .int x :: st) g h Q = EV X mL_law 162 3499 871 ls (.int (x + y) :: st) g h Q := E_iadd dL_law_870
theorem dL_law_871 : decode cL_law 871 = .ok (.iaload, 1) := by decide +kernel
theorem eL_law_871 {X : (Nat → Int32) × Nat} {g : xG} {h : xH} {Q : Option Value → xG → xH → Prop} (ls : List Value)(st : List Value) {i : Int32} : EV X mL_law 162 3499 871 ls (.int i :: .ref 1000 :: st) g h Q = (inb i X.2 ∧ EV X mL_law 162 3499 872 ls (.int (X.1 i.toNatClampNeg) :: st) g h Q) := E_iscr dL_law_871
theorem dL_law_872 : decode cL_law 872 = .ok (.invokevirtual 118, 3) := by decide +kernel
theorem eL_law_872 {X : (Nat → Int32) × Nat} {g : xG} {h : xH} {Q : Option Value → xG → xH → Prop} (ls : List Value){a0 : Int32} {a1 : Int32} : EV X mL_law 162 3499 872 ls (.int a1 :: .int a0 :: .ref 0 :: []) g h Q = EV X mX5_wind 0 0 0 [.ref 0, .int a0, .int a1, .null, .null, .null] [] g h (fun r g h => EV X mL_law 162 3499 875 ls (r.toList ++ ([])) g h Q) := E_callv (mi := 80) dL_law_872 (by decide +kernel) (by decide) rfl rfl ⟨rfl, Nat.le_of_ble_eq_true rfl, by decide, by decide⟩ rfl rfl ⟨rfl, rfl⟩ rfl
theorem dL_law_875 : decode cL_law 875 = .ok (.aload_n 2, 1) := by decide +kernel
theorem eL_law_875 {X : (Nat → Int32) × Nat} {g : xG} {h : xH} {Q : Option Value → xG → xH → Prop} {v0 v1 v3 : Value} {x : Nat}(st : List Value) : EV X mL_law 162 3499 875 [v0, v1, .ref x, v3] st g h Q = EV X mL_law 162 3499 876 [v0, v1, .ref x, v3] (.ref x :: st) g h Q := E_aload_n dL_law_875 rfl
theorem dL_law_876 : decode cL_law 876 = .ok (.aload_n 0, 1) := by decide +kernel
theorem eL_law_876 {X : (Nat → Int32) × Nat} {g : xG} {h : xH} {Q : Option Value → xG → xH → Prop} {v1 v2 v3 : Value} {x : Nat}(st : List Value) : EV X mL_law 162 3499 876 [.ref x, v1, v2, v3] st g h Q = EV X mL_law 162 3499 877 [.ref x, v1, v2, v3] (.ref x :: st) g h Q := E_aload_n dL_law_876 rfl
theorem dL_law_877 : decode cL_law 877 = .ok (.iload_n 3, 1) := by decide +kernel
theorem eL_law_877 {X : (Nat → Int32) × Nat} {g : xG} {h : xH} {Q : Option Value → xG → xH → Prop} {v0 v1 v2 : Value} {x : Int32}(st : List Value) : EV X mL_law 162 3499 877 [v0, v1, v2, .int x] st g h Q = EV X mL_law 162 3499 878 [v0, v1, v2, .int x] (.int x :: st) g h Q := E_iload_n dL_law_877 rfl
theorem dL_law_878 : decode cL_law 878 = .ok (.iconst 1, 1) := by decide +kernel
theorem eL_law_878 {X : (Nat → Int32) × Nat} {g : xG} {h : xH} {Q : Option Value → xG → xH → Prop} (ls : List Value)(st : List Value) : EV X mL_law 162 3499 878 ls st g h Q = EV X mL_law 162 3499 879 ls (.int 1 :: st) g h Q := E_iconst (1) dL_law_878 (by decide)
theorem dL_law_879 : decode cL_law 879 = .ok (.iadd, 1) := by decide +kernel
theorem eL_law_879 {X : (Nat → Int32) × Nat} {g : xG} {h : xH} {Q : Option Value → xG → xH → Prop} (ls : List Value)(st : List Value) {x y : Int32} : EV X mL_law 162 3499 879 ls (.int y :: .int x :: st) g h Q = EV X mL_law 162 3499 880 ls (.int (x + y) :: st) g h Q := E_iadd dL_law_879
theorem dL_law_880 : decode cL_law 880 = .ok (.iaload, 1) := by decide +kernel
theorem eL_law_880 {X : (Nat → Int32) × Nat} {g : xG} {h : xH} {Q : Option Value → xG → xH → Prop} (ls : List Value)(st : List Value) {i : Int32} : EV X mL_law 162 3499 880 ls (.int i :: .ref 1000 :: st) g h Q = (inb i X.2 ∧ EV X mL_law 162 3499 881 ls (.int (X.1 i.toNatClampNeg) :: st) g h Q) := E_iscr dL_law_880
theorem dL_law_881 : decode cL_law 881 = .ok (.aload_n 0, 1) := by decide +kernel
theorem eL_law_881 {X : (Nat → Int32) × Nat} {g : xG} {h : xH} {Q : Option Value → xG → xH → Prop} {v1 v2 v3 : Value} {x : Nat}(st : List Value) : EV X mL_law 162 3499 881 [.ref x, v1, v2, v3] st g h Q = EV X mL_law 162 3499 882 [.ref x, v1, v2, v3] (.ref x :: st) g h Q := E_aload_n dL_law_881 rfl
theorem dL_law_882 : decode cL_law 882 = .ok (.iload_n 3, 1) := by decide +kernel
theorem eL_law_882 {X : (Nat → Int32) × Nat} {g : xG} {h : xH} {Q : Option Value → xG → xH → Prop} {v0 v1 v2 : Value} {x : Int32}(st : List Value) : EV X mL_law 162 3499 882 [v0, v1, v2, .int x] st g h Q = EV X mL_law 162 3499 883 [v0, v1, v2, .int x] (.int x :: st) g h Q := E_iload_n dL_law_882 rfl
theorem dL_law_883 : decode cL_law 883 = .ok (.iconst 2, 1) := by decide +kernel
theorem eL_law_883 {X : (Nat → Int32) × Nat} {g : xG} {h : xH} {Q : Option Value → xG → xH → Prop} (ls : List Value)(st : List Value) : EV X mL_law 162 3499 883 ls st g h Q = EV X mL_law 162 3499 884 ls (.int 2 :: st) g h Q := E_iconst (2) dL_law_883 (by decide)
theorem dL_law_884 : decode cL_law 884 = .ok (.iadd, 1) := by decide +kernel
theorem eL_law_884 {X : (Nat → Int32) × Nat} {g : xG} {h : xH} {Q : Option Value → xG → xH → Prop} (ls : List Value)(st : List Value) {x y : Int32} : EV X mL_law 162 3499 884 ls (.int y :: .int x :: st) g h Q = EV X mL_law 162 3499 885 ls (.int (x + y) :: st) g h Q := E_iadd dL_law_884
theorem dL_law_885 : decode cL_law 885 = .ok (.iaload, 1) := by decide +kernel
theorem eL_law_885 {X : (Nat → Int32) × Nat} {g : xG} {h : xH} {Q : Option Value → xG → xH → Prop} (ls : List Value)(st : List Value) {i : Int32} : EV X mL_law 162 3499 885 ls (.int i :: .ref 1000 :: st) g h Q = (inb i X.2 ∧ EV X mL_law 162 3499 886 ls (.int (X.1 i.toNatClampNeg) :: st) g h Q) := E_iscr dL_law_885
theorem dL_law_886 : decode cL_law 886 = .ok (.invokevirtual 121, 3) := by decide +kernel
theorem eL_law_886 {X : (Nat → Int32) × Nat} {g : xG} {h : xH} {Q : Option Value → xG → xH → Prop} (ls : List Value){a0 : Int32} {a1 : Int32} {x0 : Int32} : EV X mL_law 162 3499 886 ls (.int a1 :: .int a0 :: .ref 140 :: .int x0 :: []) g h Q = EV X mX6_wind 0 0 0 [.ref 140, .int a0, .int a1, .null, .null, .null] [] g h (fun r g h => EV X mL_law 162 3499 889 ls (r.toList ++ (.int x0 :: [])) g h Q) := E_callv (mi := 165) dL_law_886 (by decide +kernel) (by decide) rfl rfl ⟨rfl, Nat.le_of_ble_eq_true rfl, by decide, by decide⟩ rfl rfl ⟨rfl, rfl⟩ rfl
theorem dL_law_889 : decode cL_law 889 = .ok (.if_icmp .eq 284, 3) := by decide +kernel
theorem eL_law_889 {X : (Nat → Int32) × Nat} {g : xG} {h : xH} {Q : Option Value → xG → xH → Prop} (ls : List Value)(st : List Value) {x y : Int32} : EV X mL_law 162 3499 889 ls (.int y :: .int x :: st) g h Q = if x = y then EV X mL_law 162 3499 1173 ls st g h Q else EV X mL_law 162 3499 892 ls st g h Q := E_icmpeq 1173 dL_law_889 (by decide)
theorem dL_law_892 : decode cL_law 892 = .ok (.iconst 0, 1) := by decide +kernel
theorem eL_law_892 {X : (Nat → Int32) × Nat} {g : xG} {h : xH} {Q : Option Value → xG → xH → Prop} (ls : List Value)(st : List Value) : EV X mL_law 162 3499 892 ls st g h Q = EV X mL_law 162 3499 893 ls (.int 0 :: st) g h Q := E_iconst (0) dL_law_892 (by decide)
theorem dL_law_893 : decode cL_law 893 = .ok (.ireturn, 1) := by decide +kernel
theorem eL_law_893 {X : (Nat → Int32) × Nat} {g : xG} {h : xH} {Q : Option Value → xG → xH → Prop} (ls : List Value) {x : Int32} : EV X mL_law 162 3499 893 ls [.int x] g h Q = (is01 x ∧ Q (some (.int x)) g h) := E_iretz dL_law_893 rfl ⟨by decide, by decide⟩
theorem dL_law_894 : decode cL_law 894 = .ok (.aload_n 1, 1) := by decide +kernel
theorem eL_law_894 {X : (Nat → Int32) × Nat} {g : xG} {h : xH} {Q : Option Value → xG → xH → Prop} {v0 v2 v3 : Value} {x : Nat}(st : List Value) : EV X mL_law 162 3499 894 [v0, .ref x, v2, v3] st g h Q = EV X mL_law 162 3499 895 [v0, .ref x, v2, v3] (.ref x :: st) g h Q := E_aload_n dL_law_894 rfl
theorem dL_law_895 : decode cL_law 895 = .ok (.aload_n 0, 1) := by decide +kernel
theorem eL_law_895 {X : (Nat → Int32) × Nat} {g : xG} {h : xH} {Q : Option Value → xG → xH → Prop} {v1 v2 v3 : Value} {x : Nat}(st : List Value) : EV X mL_law 162 3499 895 [.ref x, v1, v2, v3] st g h Q = EV X mL_law 162 3499 896 [.ref x, v1, v2, v3] (.ref x :: st) g h Q := E_aload_n dL_law_895 rfl
theorem dL_law_896 : decode cL_law 896 = .ok (.iload_n 3, 1) := by decide +kernel
theorem eL_law_896 {X : (Nat → Int32) × Nat} {g : xG} {h : xH} {Q : Option Value → xG → xH → Prop} {v0 v1 v2 : Value} {x : Int32}(st : List Value) : EV X mL_law 162 3499 896 [v0, v1, v2, .int x] st g h Q = EV X mL_law 162 3499 897 [v0, v1, v2, .int x] (.int x :: st) g h Q := E_iload_n dL_law_896 rfl
theorem dL_law_897 : decode cL_law 897 = .ok (.iconst 1, 1) := by decide +kernel
theorem eL_law_897 {X : (Nat → Int32) × Nat} {g : xG} {h : xH} {Q : Option Value → xG → xH → Prop} (ls : List Value)(st : List Value) : EV X mL_law 162 3499 897 ls st g h Q = EV X mL_law 162 3499 898 ls (.int 1 :: st) g h Q := E_iconst (1) dL_law_897 (by decide)
theorem dL_law_898 : decode cL_law 898 = .ok (.iadd, 1) := by decide +kernel
theorem eL_law_898 {X : (Nat → Int32) × Nat} {g : xG} {h : xH} {Q : Option Value → xG → xH → Prop} (ls : List Value)(st : List Value) {x y : Int32} : EV X mL_law 162 3499 898 ls (.int y :: .int x :: st) g h Q = EV X mL_law 162 3499 899 ls (.int (x + y) :: st) g h Q := E_iadd dL_law_898
theorem dL_law_899 : decode cL_law 899 = .ok (.iaload, 1) := by decide +kernel
theorem eL_law_899 {X : (Nat → Int32) × Nat} {g : xG} {h : xH} {Q : Option Value → xG → xH → Prop} (ls : List Value)(st : List Value) {i : Int32} : EV X mL_law 162 3499 899 ls (.int i :: .ref 1000 :: st) g h Q = (inb i X.2 ∧ EV X mL_law 162 3499 900 ls (.int (X.1 i.toNatClampNeg) :: st) g h Q) := E_iscr dL_law_899
theorem dL_law_900 : decode cL_law 900 = .ok (.aload_n 0, 1) := by decide +kernel
theorem eL_law_900 {X : (Nat → Int32) × Nat} {g : xG} {h : xH} {Q : Option Value → xG → xH → Prop} {v1 v2 v3 : Value} {x : Nat}(st : List Value) : EV X mL_law 162 3499 900 [.ref x, v1, v2, v3] st g h Q = EV X mL_law 162 3499 901 [.ref x, v1, v2, v3] (.ref x :: st) g h Q := E_aload_n dL_law_900 rfl
theorem dL_law_901 : decode cL_law 901 = .ok (.iload_n 3, 1) := by decide +kernel
theorem eL_law_901 {X : (Nat → Int32) × Nat} {g : xG} {h : xH} {Q : Option Value → xG → xH → Prop} {v0 v1 v2 : Value} {x : Int32}(st : List Value) : EV X mL_law 162 3499 901 [v0, v1, v2, .int x] st g h Q = EV X mL_law 162 3499 902 [v0, v1, v2, .int x] (.int x :: st) g h Q := E_iload_n dL_law_901 rfl
theorem dL_law_902 : decode cL_law 902 = .ok (.iconst 2, 1) := by decide +kernel
theorem eL_law_902 {X : (Nat → Int32) × Nat} {g : xG} {h : xH} {Q : Option Value → xG → xH → Prop} (ls : List Value)(st : List Value) : EV X mL_law 162 3499 902 ls st g h Q = EV X mL_law 162 3499 903 ls (.int 2 :: st) g h Q := E_iconst (2) dL_law_902 (by decide)
theorem dL_law_903 : decode cL_law 903 = .ok (.iadd, 1) := by decide +kernel
theorem eL_law_903 {X : (Nat → Int32) × Nat} {g : xG} {h : xH} {Q : Option Value → xG → xH → Prop} (ls : List Value)(st : List Value) {x y : Int32} : EV X mL_law 162 3499 903 ls (.int y :: .int x :: st) g h Q = EV X mL_law 162 3499 904 ls (.int (x + y) :: st) g h Q := E_iadd dL_law_903
theorem dL_law_904 : decode cL_law 904 = .ok (.iaload, 1) := by decide +kernel
theorem eL_law_904 {X : (Nat → Int32) × Nat} {g : xG} {h : xH} {Q : Option Value → xG → xH → Prop} (ls : List Value)(st : List Value) {i : Int32} : EV X mL_law 162 3499 904 ls (.int i :: .ref 1000 :: st) g h Q = (inb i X.2 ∧ EV X mL_law 162 3499 905 ls (.int (X.1 i.toNatClampNeg) :: st) g h Q) := E_iscr dL_law_904
theorem dL_law_905 : decode cL_law 905 = .ok (.aload_n 0, 1) := by decide +kernel
theorem eL_law_905 {X : (Nat → Int32) × Nat} {g : xG} {h : xH} {Q : Option Value → xG → xH → Prop} {v1 v2 v3 : Value} {x : Nat}(st : List Value) : EV X mL_law 162 3499 905 [.ref x, v1, v2, v3] st g h Q = EV X mL_law 162 3499 906 [.ref x, v1, v2, v3] (.ref x :: st) g h Q := E_aload_n dL_law_905 rfl
theorem dL_law_906 : decode cL_law 906 = .ok (.iload_n 3, 1) := by decide +kernel
theorem eL_law_906 {X : (Nat → Int32) × Nat} {g : xG} {h : xH} {Q : Option Value → xG → xH → Prop} {v0 v1 v2 : Value} {x : Int32}(st : List Value) : EV X mL_law 162 3499 906 [v0, v1, v2, .int x] st g h Q = EV X mL_law 162 3499 907 [v0, v1, v2, .int x] (.int x :: st) g h Q := E_iload_n dL_law_906 rfl
theorem dL_law_907 : decode cL_law 907 = .ok (.iconst 3, 1) := by decide +kernel
theorem eL_law_907 {X : (Nat → Int32) × Nat} {g : xG} {h : xH} {Q : Option Value → xG → xH → Prop} (ls : List Value)(st : List Value) : EV X mL_law 162 3499 907 ls st g h Q = EV X mL_law 162 3499 908 ls (.int 3 :: st) g h Q := E_iconst (3) dL_law_907 (by decide)
theorem dL_law_908 : decode cL_law 908 = .ok (.iadd, 1) := by decide +kernel
theorem eL_law_908 {X : (Nat → Int32) × Nat} {g : xG} {h : xH} {Q : Option Value → xG → xH → Prop} (ls : List Value)(st : List Value) {x y : Int32} : EV X mL_law 162 3499 908 ls (.int y :: .int x :: st) g h Q = EV X mL_law 162 3499 909 ls (.int (x + y) :: st) g h Q := E_iadd dL_law_908
theorem dL_law_909 : decode cL_law 909 = .ok (.iaload, 1) := by decide +kernel
theorem eL_law_909 {X : (Nat → Int32) × Nat} {g : xG} {h : xH} {Q : Option Value → xG → xH → Prop} (ls : List Value)(st : List Value) {i : Int32} : EV X mL_law 162 3499 909 ls (.int i :: .ref 1000 :: st) g h Q = (inb i X.2 ∧ EV X mL_law 162 3499 910 ls (.int (X.1 i.toNatClampNeg) :: st) g h Q) := E_iscr dL_law_909
theorem dL_law_910 : decode cL_law 910 = .ok (.ifCond .eq 7, 3) := by decide +kernel
theorem eL_law_910 {X : (Nat → Int32) × Nat} {g : xG} {h : xH} {Q : Option Value → xG → xH → Prop} (ls : List Value)(st : List Value) {x : Int32} : EV X mL_law 162 3499 910 ls (.int x :: st) g h Q = if x = 0 then EV X mL_law 162 3499 917 ls st g h Q else EV X mL_law 162 3499 913 ls st g h Q := E_ifeq 917 dL_law_910 (by decide)
theorem dL_law_913 : decode cL_law 913 = .ok (.iconst 1, 1) := by decide +kernel
theorem eL_law_913 {X : (Nat → Int32) × Nat} {g : xG} {h : xH} {Q : Option Value → xG → xH → Prop} (ls : List Value)(st : List Value) : EV X mL_law 162 3499 913 ls st g h Q = EV X mL_law 162 3499 914 ls (.int 1 :: st) g h Q := E_iconst (1) dL_law_913 (by decide)
theorem dL_law_914 : decode cL_law 914 = .ok (.goto 4, 3) := by decide +kernel
theorem eL_law_914 {X : (Nat → Int32) × Nat} {g : xG} {h : xH} {Q : Option Value → xG → xH → Prop} (ls : List Value)(st : List Value) : EV X mL_law 162 3499 914 ls st g h Q = EV X mL_law 162 3499 918 ls st g h Q := E_goto 918 dL_law_914 (by decide)
theorem dL_law_917 : decode cL_law 917 = .ok (.iconst 0, 1) := by decide +kernel
theorem eL_law_917 {X : (Nat → Int32) × Nat} {g : xG} {h : xH} {Q : Option Value → xG → xH → Prop} (ls : List Value)(st : List Value) : EV X mL_law 162 3499 917 ls st g h Q = EV X mL_law 162 3499 918 ls (.int 0 :: st) g h Q := E_iconst (0) dL_law_917 (by decide)
theorem dL_law_918 : decode cL_law 918 = .ok (.invokevirtual 122, 3) := by decide +kernel
theorem eL_law_918 {X : (Nat → Int32) × Nat} {g : xG} {h : xH} {Q : Option Value → xG → xH → Prop} (ls : List Value){a0 : Int32} {a1 : Int32} {a2 : Int32} : EV X mL_law 162 3499 918 ls (.int a2 :: .int a1 :: .int a0 :: .ref 0 :: []) g h Q = EV X mX5_see 0 0 0 [.ref 0, .int a0, .int a1, .int a2] [] g h (fun r g h => EV X mL_law 162 3499 921 ls (r.toList ++ ([])) g h Q) := E_callv (mi := 81) dL_law_918 (by decide +kernel) (by decide) rfl rfl ⟨rfl, Nat.le_of_ble_eq_true rfl, by decide, by decide⟩ rfl rfl ⟨rfl, rfl⟩ rfl
theorem dL_law_921 : decode cL_law 921 = .ok (.aload_n 2, 1) := by decide +kernel
theorem eL_law_921 {X : (Nat → Int32) × Nat} {g : xG} {h : xH} {Q : Option Value → xG → xH → Prop} {v0 v1 v3 : Value} {x : Nat}(st : List Value) : EV X mL_law 162 3499 921 [v0, v1, .ref x, v3] st g h Q = EV X mL_law 162 3499 922 [v0, v1, .ref x, v3] (.ref x :: st) g h Q := E_aload_n dL_law_921 rfl
theorem dL_law_922 : decode cL_law 922 = .ok (.aload_n 0, 1) := by decide +kernel
theorem eL_law_922 {X : (Nat → Int32) × Nat} {g : xG} {h : xH} {Q : Option Value → xG → xH → Prop} {v1 v2 v3 : Value} {x : Nat}(st : List Value) : EV X mL_law 162 3499 922 [.ref x, v1, v2, v3] st g h Q = EV X mL_law 162 3499 923 [.ref x, v1, v2, v3] (.ref x :: st) g h Q := E_aload_n dL_law_922 rfl
theorem dL_law_923 : decode cL_law 923 = .ok (.iload_n 3, 1) := by decide +kernel
theorem eL_law_923 {X : (Nat → Int32) × Nat} {g : xG} {h : xH} {Q : Option Value → xG → xH → Prop} {v0 v1 v2 : Value} {x : Int32}(st : List Value) : EV X mL_law 162 3499 923 [v0, v1, v2, .int x] st g h Q = EV X mL_law 162 3499 924 [v0, v1, v2, .int x] (.int x :: st) g h Q := E_iload_n dL_law_923 rfl
theorem dL_law_924 : decode cL_law 924 = .ok (.iconst 1, 1) := by decide +kernel
theorem eL_law_924 {X : (Nat → Int32) × Nat} {g : xG} {h : xH} {Q : Option Value → xG → xH → Prop} (ls : List Value)(st : List Value) : EV X mL_law 162 3499 924 ls st g h Q = EV X mL_law 162 3499 925 ls (.int 1 :: st) g h Q := E_iconst (1) dL_law_924 (by decide)
theorem dL_law_925 : decode cL_law 925 = .ok (.iadd, 1) := by decide +kernel
theorem eL_law_925 {X : (Nat → Int32) × Nat} {g : xG} {h : xH} {Q : Option Value → xG → xH → Prop} (ls : List Value)(st : List Value) {x y : Int32} : EV X mL_law 162 3499 925 ls (.int y :: .int x :: st) g h Q = EV X mL_law 162 3499 926 ls (.int (x + y) :: st) g h Q := E_iadd dL_law_925
theorem dL_law_926 : decode cL_law 926 = .ok (.iaload, 1) := by decide +kernel
theorem eL_law_926 {X : (Nat → Int32) × Nat} {g : xG} {h : xH} {Q : Option Value → xG → xH → Prop} (ls : List Value)(st : List Value) {i : Int32} : EV X mL_law 162 3499 926 ls (.int i :: .ref 1000 :: st) g h Q = (inb i X.2 ∧ EV X mL_law 162 3499 927 ls (.int (X.1 i.toNatClampNeg) :: st) g h Q) := E_iscr dL_law_926
theorem dL_law_927 : decode cL_law 927 = .ok (.aload_n 0, 1) := by decide +kernel
theorem eL_law_927 {X : (Nat → Int32) × Nat} {g : xG} {h : xH} {Q : Option Value → xG → xH → Prop} {v1 v2 v3 : Value} {x : Nat}(st : List Value) : EV X mL_law 162 3499 927 [.ref x, v1, v2, v3] st g h Q = EV X mL_law 162 3499 928 [.ref x, v1, v2, v3] (.ref x :: st) g h Q := E_aload_n dL_law_927 rfl
theorem dL_law_928 : decode cL_law 928 = .ok (.iload_n 3, 1) := by decide +kernel
theorem eL_law_928 {X : (Nat → Int32) × Nat} {g : xG} {h : xH} {Q : Option Value → xG → xH → Prop} {v0 v1 v2 : Value} {x : Int32}(st : List Value) : EV X mL_law 162 3499 928 [v0, v1, v2, .int x] st g h Q = EV X mL_law 162 3499 929 [v0, v1, v2, .int x] (.int x :: st) g h Q := E_iload_n dL_law_928 rfl
theorem dL_law_929 : decode cL_law 929 = .ok (.iconst 2, 1) := by decide +kernel
theorem eL_law_929 {X : (Nat → Int32) × Nat} {g : xG} {h : xH} {Q : Option Value → xG → xH → Prop} (ls : List Value)(st : List Value) : EV X mL_law 162 3499 929 ls st g h Q = EV X mL_law 162 3499 930 ls (.int 2 :: st) g h Q := E_iconst (2) dL_law_929 (by decide)
theorem dL_law_930 : decode cL_law 930 = .ok (.iadd, 1) := by decide +kernel
theorem eL_law_930 {X : (Nat → Int32) × Nat} {g : xG} {h : xH} {Q : Option Value → xG → xH → Prop} (ls : List Value)(st : List Value) {x y : Int32} : EV X mL_law 162 3499 930 ls (.int y :: .int x :: st) g h Q = EV X mL_law 162 3499 931 ls (.int (x + y) :: st) g h Q := E_iadd dL_law_930
theorem dL_law_931 : decode cL_law 931 = .ok (.iaload, 1) := by decide +kernel
theorem eL_law_931 {X : (Nat → Int32) × Nat} {g : xG} {h : xH} {Q : Option Value → xG → xH → Prop} (ls : List Value)(st : List Value) {i : Int32} : EV X mL_law 162 3499 931 ls (.int i :: .ref 1000 :: st) g h Q = (inb i X.2 ∧ EV X mL_law 162 3499 932 ls (.int (X.1 i.toNatClampNeg) :: st) g h Q) := E_iscr dL_law_931
theorem dL_law_932 : decode cL_law 932 = .ok (.aload_n 0, 1) := by decide +kernel
theorem eL_law_932 {X : (Nat → Int32) × Nat} {g : xG} {h : xH} {Q : Option Value → xG → xH → Prop} {v1 v2 v3 : Value} {x : Nat}(st : List Value) : EV X mL_law 162 3499 932 [.ref x, v1, v2, v3] st g h Q = EV X mL_law 162 3499 933 [.ref x, v1, v2, v3] (.ref x :: st) g h Q := E_aload_n dL_law_932 rfl
theorem dL_law_933 : decode cL_law 933 = .ok (.iload_n 3, 1) := by decide +kernel
theorem eL_law_933 {X : (Nat → Int32) × Nat} {g : xG} {h : xH} {Q : Option Value → xG → xH → Prop} {v0 v1 v2 : Value} {x : Int32}(st : List Value) : EV X mL_law 162 3499 933 [v0, v1, v2, .int x] st g h Q = EV X mL_law 162 3499 934 [v0, v1, v2, .int x] (.int x :: st) g h Q := E_iload_n dL_law_933 rfl
theorem dL_law_934 : decode cL_law 934 = .ok (.iconst 3, 1) := by decide +kernel
theorem eL_law_934 {X : (Nat → Int32) × Nat} {g : xG} {h : xH} {Q : Option Value → xG → xH → Prop} (ls : List Value)(st : List Value) : EV X mL_law 162 3499 934 ls st g h Q = EV X mL_law 162 3499 935 ls (.int 3 :: st) g h Q := E_iconst (3) dL_law_934 (by decide)
theorem dL_law_935 : decode cL_law 935 = .ok (.iadd, 1) := by decide +kernel
theorem eL_law_935 {X : (Nat → Int32) × Nat} {g : xG} {h : xH} {Q : Option Value → xG → xH → Prop} (ls : List Value)(st : List Value) {x y : Int32} : EV X mL_law 162 3499 935 ls (.int y :: .int x :: st) g h Q = EV X mL_law 162 3499 936 ls (.int (x + y) :: st) g h Q := E_iadd dL_law_935
theorem dL_law_936 : decode cL_law 936 = .ok (.iaload, 1) := by decide +kernel
theorem eL_law_936 {X : (Nat → Int32) × Nat} {g : xG} {h : xH} {Q : Option Value → xG → xH → Prop} (ls : List Value)(st : List Value) {i : Int32} : EV X mL_law 162 3499 936 ls (.int i :: .ref 1000 :: st) g h Q = (inb i X.2 ∧ EV X mL_law 162 3499 937 ls (.int (X.1 i.toNatClampNeg) :: st) g h Q) := E_iscr dL_law_936
theorem dL_law_937 : decode cL_law 937 = .ok (.ifCond .eq 7, 3) := by decide +kernel
theorem eL_law_937 {X : (Nat → Int32) × Nat} {g : xG} {h : xH} {Q : Option Value → xG → xH → Prop} (ls : List Value)(st : List Value) {x : Int32} : EV X mL_law 162 3499 937 ls (.int x :: st) g h Q = if x = 0 then EV X mL_law 162 3499 944 ls st g h Q else EV X mL_law 162 3499 940 ls st g h Q := E_ifeq 944 dL_law_937 (by decide)
theorem dL_law_940 : decode cL_law 940 = .ok (.iconst 1, 1) := by decide +kernel
theorem eL_law_940 {X : (Nat → Int32) × Nat} {g : xG} {h : xH} {Q : Option Value → xG → xH → Prop} (ls : List Value)(st : List Value) : EV X mL_law 162 3499 940 ls st g h Q = EV X mL_law 162 3499 941 ls (.int 1 :: st) g h Q := E_iconst (1) dL_law_940 (by decide)
theorem dL_law_941 : decode cL_law 941 = .ok (.goto 4, 3) := by decide +kernel
theorem eL_law_941 {X : (Nat → Int32) × Nat} {g : xG} {h : xH} {Q : Option Value → xG → xH → Prop} (ls : List Value)(st : List Value) : EV X mL_law 162 3499 941 ls st g h Q = EV X mL_law 162 3499 945 ls st g h Q := E_goto 945 dL_law_941 (by decide)
theorem dL_law_944 : decode cL_law 944 = .ok (.iconst 0, 1) := by decide +kernel
theorem eL_law_944 {X : (Nat → Int32) × Nat} {g : xG} {h : xH} {Q : Option Value → xG → xH → Prop} (ls : List Value)(st : List Value) : EV X mL_law 162 3499 944 ls st g h Q = EV X mL_law 162 3499 945 ls (.int 0 :: st) g h Q := E_iconst (0) dL_law_944 (by decide)
theorem dL_law_945 : decode cL_law 945 = .ok (.invokevirtual 126, 3) := by decide +kernel
theorem eL_law_945 {X : (Nat → Int32) × Nat} {g : xG} {h : xH} {Q : Option Value → xG → xH → Prop} (ls : List Value){a0 : Int32} {a1 : Int32} {a2 : Int32} {x0 : Int32} : EV X mL_law 162 3499 945 ls (.int a2 :: .int a1 :: .int a0 :: .ref 140 :: .int x0 :: []) g h Q = EV X mX6_see 0 0 0 [.ref 140, .int a0, .int a1, .int a2] [] g h (fun r g h => EV X mL_law 162 3499 948 ls (r.toList ++ (.int x0 :: [])) g h Q) := E_callv (mi := 166) dL_law_945 (by decide +kernel) (by decide) rfl rfl ⟨rfl, Nat.le_of_ble_eq_true rfl, by decide, by decide⟩ rfl rfl ⟨rfl, rfl⟩ rfl
theorem dL_law_948 : decode cL_law 948 = .ok (.if_icmp .eq 225, 3) := by decide +kernel
theorem eL_law_948 {X : (Nat → Int32) × Nat} {g : xG} {h : xH} {Q : Option Value → xG → xH → Prop} (ls : List Value)(st : List Value) {x y : Int32} : EV X mL_law 162 3499 948 ls (.int y :: .int x :: st) g h Q = if x = y then EV X mL_law 162 3499 1173 ls st g h Q else EV X mL_law 162 3499 951 ls st g h Q := E_icmpeq 1173 dL_law_948 (by decide)
theorem dL_law_951 : decode cL_law 951 = .ok (.iconst 0, 1) := by decide +kernel
theorem eL_law_951 {X : (Nat → Int32) × Nat} {g : xG} {h : xH} {Q : Option Value → xG → xH → Prop} (ls : List Value)(st : List Value) : EV X mL_law 162 3499 951 ls st g h Q = EV X mL_law 162 3499 952 ls (.int 0 :: st) g h Q := E_iconst (0) dL_law_951 (by decide)
theorem dL_law_952 : decode cL_law 952 = .ok (.ireturn, 1) := by decide +kernel
theorem eL_law_952 {X : (Nat → Int32) × Nat} {g : xG} {h : xH} {Q : Option Value → xG → xH → Prop} (ls : List Value) {x : Int32} : EV X mL_law 162 3499 952 ls [.int x] g h Q = (is01 x ∧ Q (some (.int x)) g h) := E_iretz dL_law_952 rfl ⟨by decide, by decide⟩
theorem dL_law_953 : decode cL_law 953 = .ok (.aload_n 1, 1) := by decide +kernel
theorem eL_law_953 {X : (Nat → Int32) × Nat} {g : xG} {h : xH} {Q : Option Value → xG → xH → Prop} {v0 v2 v3 : Value} {x : Nat}(st : List Value) : EV X mL_law 162 3499 953 [v0, .ref x, v2, v3] st g h Q = EV X mL_law 162 3499 954 [v0, .ref x, v2, v3] (.ref x :: st) g h Q := E_aload_n dL_law_953 rfl
theorem dL_law_954 : decode cL_law 954 = .ok (.aload_n 0, 1) := by decide +kernel
theorem eL_law_954 {X : (Nat → Int32) × Nat} {g : xG} {h : xH} {Q : Option Value → xG → xH → Prop} {v1 v2 v3 : Value} {x : Nat}(st : List Value) : EV X mL_law 162 3499 954 [.ref x, v1, v2, v3] st g h Q = EV X mL_law 162 3499 955 [.ref x, v1, v2, v3] (.ref x :: st) g h Q := E_aload_n dL_law_954 rfl
theorem dL_law_955 : decode cL_law 955 = .ok (.iload_n 3, 1) := by decide +kernel
theorem eL_law_955 {X : (Nat → Int32) × Nat} {g : xG} {h : xH} {Q : Option Value → xG → xH → Prop} {v0 v1 v2 : Value} {x : Int32}(st : List Value) : EV X mL_law 162 3499 955 [v0, v1, v2, .int x] st g h Q = EV X mL_law 162 3499 956 [v0, v1, v2, .int x] (.int x :: st) g h Q := E_iload_n dL_law_955 rfl
theorem dL_law_956 : decode cL_law 956 = .ok (.iconst 1, 1) := by decide +kernel
theorem eL_law_956 {X : (Nat → Int32) × Nat} {g : xG} {h : xH} {Q : Option Value → xG → xH → Prop} (ls : List Value)(st : List Value) : EV X mL_law 162 3499 956 ls st g h Q = EV X mL_law 162 3499 957 ls (.int 1 :: st) g h Q := E_iconst (1) dL_law_956 (by decide)
theorem dL_law_957 : decode cL_law 957 = .ok (.iadd, 1) := by decide +kernel
theorem eL_law_957 {X : (Nat → Int32) × Nat} {g : xG} {h : xH} {Q : Option Value → xG → xH → Prop} (ls : List Value)(st : List Value) {x y : Int32} : EV X mL_law 162 3499 957 ls (.int y :: .int x :: st) g h Q = EV X mL_law 162 3499 958 ls (.int (x + y) :: st) g h Q := E_iadd dL_law_957
theorem dL_law_958 : decode cL_law 958 = .ok (.iaload, 1) := by decide +kernel
theorem eL_law_958 {X : (Nat → Int32) × Nat} {g : xG} {h : xH} {Q : Option Value → xG → xH → Prop} (ls : List Value)(st : List Value) {i : Int32} : EV X mL_law 162 3499 958 ls (.int i :: .ref 1000 :: st) g h Q = (inb i X.2 ∧ EV X mL_law 162 3499 959 ls (.int (X.1 i.toNatClampNeg) :: st) g h Q) := E_iscr dL_law_958
theorem dL_law_959 : decode cL_law 959 = .ok (.invokevirtual 127, 3) := by decide +kernel
theorem eL_law_959 {X : (Nat → Int32) × Nat} {g : xG} {h : xH} {Q : Option Value → xG → xH → Prop} (ls : List Value){a0 : Int32} : EV X mL_law 162 3499 959 ls (.int a0 :: .ref 0 :: []) g h Q = EV X mX5_laws 0 0 0 [.ref 0, .int a0, .null] [] g h (fun r g h => EV X mL_law 162 3499 962 ls (r.toList ++ ([])) g h Q) := E_callv (mi := 83) dL_law_959 (by decide +kernel) (by decide) rfl rfl ⟨rfl, Nat.le_of_ble_eq_true rfl, by decide, by decide⟩ rfl rfl ⟨rfl, rfl⟩ rfl
theorem dL_law_962 : decode cL_law 962 = .ok (.aload_n 2, 1) := by decide +kernel
theorem eL_law_962 {X : (Nat → Int32) × Nat} {g : xG} {h : xH} {Q : Option Value → xG → xH → Prop} {v0 v1 v3 : Value} {x : Nat}(st : List Value) : EV X mL_law 162 3499 962 [v0, v1, .ref x, v3] st g h Q = EV X mL_law 162 3499 963 [v0, v1, .ref x, v3] (.ref x :: st) g h Q := E_aload_n dL_law_962 rfl
theorem dL_law_963 : decode cL_law 963 = .ok (.aload_n 0, 1) := by decide +kernel
theorem eL_law_963 {X : (Nat → Int32) × Nat} {g : xG} {h : xH} {Q : Option Value → xG → xH → Prop} {v1 v2 v3 : Value} {x : Nat}(st : List Value) : EV X mL_law 162 3499 963 [.ref x, v1, v2, v3] st g h Q = EV X mL_law 162 3499 964 [.ref x, v1, v2, v3] (.ref x :: st) g h Q := E_aload_n dL_law_963 rfl
theorem dL_law_964 : decode cL_law 964 = .ok (.iload_n 3, 1) := by decide +kernel
theorem eL_law_964 {X : (Nat → Int32) × Nat} {g : xG} {h : xH} {Q : Option Value → xG → xH → Prop} {v0 v1 v2 : Value} {x : Int32}(st : List Value) : EV X mL_law 162 3499 964 [v0, v1, v2, .int x] st g h Q = EV X mL_law 162 3499 965 [v0, v1, v2, .int x] (.int x :: st) g h Q := E_iload_n dL_law_964 rfl
theorem dL_law_965 : decode cL_law 965 = .ok (.iconst 1, 1) := by decide +kernel
theorem eL_law_965 {X : (Nat → Int32) × Nat} {g : xG} {h : xH} {Q : Option Value → xG → xH → Prop} (ls : List Value)(st : List Value) : EV X mL_law 162 3499 965 ls st g h Q = EV X mL_law 162 3499 966 ls (.int 1 :: st) g h Q := E_iconst (1) dL_law_965 (by decide)
theorem dL_law_966 : decode cL_law 966 = .ok (.iadd, 1) := by decide +kernel
theorem eL_law_966 {X : (Nat → Int32) × Nat} {g : xG} {h : xH} {Q : Option Value → xG → xH → Prop} (ls : List Value)(st : List Value) {x y : Int32} : EV X mL_law 162 3499 966 ls (.int y :: .int x :: st) g h Q = EV X mL_law 162 3499 967 ls (.int (x + y) :: st) g h Q := E_iadd dL_law_966
theorem dL_law_967 : decode cL_law 967 = .ok (.iaload, 1) := by decide +kernel
theorem eL_law_967 {X : (Nat → Int32) × Nat} {g : xG} {h : xH} {Q : Option Value → xG → xH → Prop} (ls : List Value)(st : List Value) {i : Int32} : EV X mL_law 162 3499 967 ls (.int i :: .ref 1000 :: st) g h Q = (inb i X.2 ∧ EV X mL_law 162 3499 968 ls (.int (X.1 i.toNatClampNeg) :: st) g h Q) := E_iscr dL_law_967
theorem dL_law_968 : decode cL_law 968 = .ok (.invokevirtual 130, 3) := by decide +kernel
theorem eL_law_968 {X : (Nat → Int32) × Nat} {g : xG} {h : xH} {Q : Option Value → xG → xH → Prop} (ls : List Value){a0 : Int32} {x0 : Int32} : EV X mL_law 162 3499 968 ls (.int a0 :: .ref 140 :: .int x0 :: []) g h Q = EV X mX6_laws 0 0 0 [.ref 140, .int a0, .null, .null] [] g h (fun r g h => EV X mL_law 162 3499 971 ls (r.toList ++ (.int x0 :: [])) g h Q) := E_callv (mi := 167) dL_law_968 (by decide +kernel) (by decide) rfl rfl ⟨rfl, Nat.le_of_ble_eq_true rfl, by decide, by decide⟩ rfl rfl ⟨rfl, rfl⟩ rfl
theorem dL_law_971 : decode cL_law 971 = .ok (.if_icmp .eq 202, 3) := by decide +kernel
theorem eL_law_971 {X : (Nat → Int32) × Nat} {g : xG} {h : xH} {Q : Option Value → xG → xH → Prop} (ls : List Value)(st : List Value) {x y : Int32} : EV X mL_law 162 3499 971 ls (.int y :: .int x :: st) g h Q = if x = y then EV X mL_law 162 3499 1173 ls st g h Q else EV X mL_law 162 3499 974 ls st g h Q := E_icmpeq 1173 dL_law_971 (by decide)
theorem dL_law_974 : decode cL_law 974 = .ok (.iconst 0, 1) := by decide +kernel
theorem eL_law_974 {X : (Nat → Int32) × Nat} {g : xG} {h : xH} {Q : Option Value → xG → xH → Prop} (ls : List Value)(st : List Value) : EV X mL_law 162 3499 974 ls st g h Q = EV X mL_law 162 3499 975 ls (.int 0 :: st) g h Q := E_iconst (0) dL_law_974 (by decide)
theorem dL_law_975 : decode cL_law 975 = .ok (.ireturn, 1) := by decide +kernel
theorem eL_law_975 {X : (Nat → Int32) × Nat} {g : xG} {h : xH} {Q : Option Value → xG → xH → Prop} (ls : List Value) {x : Int32} : EV X mL_law 162 3499 975 ls [.int x] g h Q = (is01 x ∧ Q (some (.int x)) g h) := E_iretz dL_law_975 rfl ⟨by decide, by decide⟩
theorem dL_law_976 : decode cL_law 976 = .ok (.aload_n 1, 1) := by decide +kernel
theorem eL_law_976 {X : (Nat → Int32) × Nat} {g : xG} {h : xH} {Q : Option Value → xG → xH → Prop} {v0 v2 v3 : Value} {x : Nat}(st : List Value) : EV X mL_law 162 3499 976 [v0, .ref x, v2, v3] st g h Q = EV X mL_law 162 3499 977 [v0, .ref x, v2, v3] (.ref x :: st) g h Q := E_aload_n dL_law_976 rfl
theorem dL_law_977 : decode cL_law 977 = .ok (.invokevirtual 131, 3) := by decide +kernel
theorem eL_law_977 {X : (Nat → Int32) × Nat} {g : xG} {h : xH} {Q : Option Value → xG → xH → Prop} (ls : List Value) : EV X mL_law 162 3499 977 ls (.ref 0 :: []) g h Q = EV X mX5_yard 0 0 0 [.ref 0] [] g h (fun r g h => EV X mL_law 162 3499 980 ls (r.toList ++ ([])) g h Q) := E_callv (mi := 90) dL_law_977 (by decide +kernel) (by decide) rfl rfl ⟨rfl, Nat.le_of_ble_eq_true rfl, by decide, by decide⟩ rfl rfl ⟨rfl, rfl⟩ rfl
theorem dL_law_980 : decode cL_law 980 = .ok (.aload_n 2, 1) := by decide +kernel
theorem eL_law_980 {X : (Nat → Int32) × Nat} {g : xG} {h : xH} {Q : Option Value → xG → xH → Prop} {v0 v1 v3 : Value} {x : Nat}(st : List Value) : EV X mL_law 162 3499 980 [v0, v1, .ref x, v3] st g h Q = EV X mL_law 162 3499 981 [v0, v1, .ref x, v3] (.ref x :: st) g h Q := E_aload_n dL_law_980 rfl
theorem dL_law_981 : decode cL_law 981 = .ok (.invokevirtual 134, 3) := by decide +kernel
theorem eL_law_981 {X : (Nat → Int32) × Nat} {g : xG} {h : xH} {Q : Option Value → xG → xH → Prop} (ls : List Value){x0 : Int32} : EV X mL_law 162 3499 981 ls (.ref 140 :: .int x0 :: []) g h Q = EV X mX6_yard 0 0 0 [.ref 140, .null, .null, .null, .null, .null, .null] [] g h (fun r g h => EV X mL_law 162 3499 984 ls (r.toList ++ (.int x0 :: [])) g h Q) := E_callv (mi := 172) dL_law_981 (by decide +kernel) (by decide) rfl rfl ⟨rfl, Nat.le_of_ble_eq_true rfl, by decide, by decide⟩ rfl rfl ⟨rfl, rfl⟩ rfl
theorem dL_law_984 : decode cL_law 984 = .ok (.if_icmp .eq 189, 3) := by decide +kernel
theorem eL_law_984 {X : (Nat → Int32) × Nat} {g : xG} {h : xH} {Q : Option Value → xG → xH → Prop} (ls : List Value)(st : List Value) {x y : Int32} : EV X mL_law 162 3499 984 ls (.int y :: .int x :: st) g h Q = if x = y then EV X mL_law 162 3499 1173 ls st g h Q else EV X mL_law 162 3499 987 ls st g h Q := E_icmpeq 1173 dL_law_984 (by decide)
theorem dL_law_987 : decode cL_law 987 = .ok (.iconst 0, 1) := by decide +kernel
theorem eL_law_987 {X : (Nat → Int32) × Nat} {g : xG} {h : xH} {Q : Option Value → xG → xH → Prop} (ls : List Value)(st : List Value) : EV X mL_law 162 3499 987 ls st g h Q = EV X mL_law 162 3499 988 ls (.int 0 :: st) g h Q := E_iconst (0) dL_law_987 (by decide)
theorem dL_law_988 : decode cL_law 988 = .ok (.ireturn, 1) := by decide +kernel
theorem eL_law_988 {X : (Nat → Int32) × Nat} {g : xG} {h : xH} {Q : Option Value → xG → xH → Prop} (ls : List Value) {x : Int32} : EV X mL_law 162 3499 988 ls [.int x] g h Q = (is01 x ∧ Q (some (.int x)) g h) := E_iretz dL_law_988 rfl ⟨by decide, by decide⟩
theorem dL_law_989 : decode cL_law 989 = .ok (.aload_n 1, 1) := by decide +kernel
theorem eL_law_989 {X : (Nat → Int32) × Nat} {g : xG} {h : xH} {Q : Option Value → xG → xH → Prop} {v0 v2 v3 : Value} {x : Nat}(st : List Value) : EV X mL_law 162 3499 989 [v0, .ref x, v2, v3] st g h Q = EV X mL_law 162 3499 990 [v0, .ref x, v2, v3] (.ref x :: st) g h Q := E_aload_n dL_law_989 rfl
theorem dL_law_990 : decode cL_law 990 = .ok (.aload_n 0, 1) := by decide +kernel
theorem eL_law_990 {X : (Nat → Int32) × Nat} {g : xG} {h : xH} {Q : Option Value → xG → xH → Prop} {v1 v2 v3 : Value} {x : Nat}(st : List Value) : EV X mL_law 162 3499 990 [.ref x, v1, v2, v3] st g h Q = EV X mL_law 162 3499 991 [.ref x, v1, v2, v3] (.ref x :: st) g h Q := E_aload_n dL_law_990 rfl
theorem dL_law_991 : decode cL_law 991 = .ok (.iload_n 3, 1) := by decide +kernel
theorem eL_law_991 {X : (Nat → Int32) × Nat} {g : xG} {h : xH} {Q : Option Value → xG → xH → Prop} {v0 v1 v2 : Value} {x : Int32}(st : List Value) : EV X mL_law 162 3499 991 [v0, v1, v2, .int x] st g h Q = EV X mL_law 162 3499 992 [v0, v1, v2, .int x] (.int x :: st) g h Q := E_iload_n dL_law_991 rfl
theorem dL_law_992 : decode cL_law 992 = .ok (.iconst 1, 1) := by decide +kernel
theorem eL_law_992 {X : (Nat → Int32) × Nat} {g : xG} {h : xH} {Q : Option Value → xG → xH → Prop} (ls : List Value)(st : List Value) : EV X mL_law 162 3499 992 ls st g h Q = EV X mL_law 162 3499 993 ls (.int 1 :: st) g h Q := E_iconst (1) dL_law_992 (by decide)
theorem dL_law_993 : decode cL_law 993 = .ok (.iadd, 1) := by decide +kernel
theorem eL_law_993 {X : (Nat → Int32) × Nat} {g : xG} {h : xH} {Q : Option Value → xG → xH → Prop} (ls : List Value)(st : List Value) {x y : Int32} : EV X mL_law 162 3499 993 ls (.int y :: .int x :: st) g h Q = EV X mL_law 162 3499 994 ls (.int (x + y) :: st) g h Q := E_iadd dL_law_993
theorem dL_law_994 : decode cL_law 994 = .ok (.iaload, 1) := by decide +kernel
theorem eL_law_994 {X : (Nat → Int32) × Nat} {g : xG} {h : xH} {Q : Option Value → xG → xH → Prop} (ls : List Value)(st : List Value) {i : Int32} : EV X mL_law 162 3499 994 ls (.int i :: .ref 1000 :: st) g h Q = (inb i X.2 ∧ EV X mL_law 162 3499 995 ls (.int (X.1 i.toNatClampNeg) :: st) g h Q) := E_iscr dL_law_994
theorem dL_law_995 : decode cL_law 995 = .ok (.aload_n 0, 1) := by decide +kernel
theorem eL_law_995 {X : (Nat → Int32) × Nat} {g : xG} {h : xH} {Q : Option Value → xG → xH → Prop} {v1 v2 v3 : Value} {x : Nat}(st : List Value) : EV X mL_law 162 3499 995 [.ref x, v1, v2, v3] st g h Q = EV X mL_law 162 3499 996 [.ref x, v1, v2, v3] (.ref x :: st) g h Q := E_aload_n dL_law_995 rfl
theorem dL_law_996 : decode cL_law 996 = .ok (.iload_n 3, 1) := by decide +kernel
theorem eL_law_996 {X : (Nat → Int32) × Nat} {g : xG} {h : xH} {Q : Option Value → xG → xH → Prop} {v0 v1 v2 : Value} {x : Int32}(st : List Value) : EV X mL_law 162 3499 996 [v0, v1, v2, .int x] st g h Q = EV X mL_law 162 3499 997 [v0, v1, v2, .int x] (.int x :: st) g h Q := E_iload_n dL_law_996 rfl
theorem dL_law_997 : decode cL_law 997 = .ok (.iconst 2, 1) := by decide +kernel
theorem eL_law_997 {X : (Nat → Int32) × Nat} {g : xG} {h : xH} {Q : Option Value → xG → xH → Prop} (ls : List Value)(st : List Value) : EV X mL_law 162 3499 997 ls st g h Q = EV X mL_law 162 3499 998 ls (.int 2 :: st) g h Q := E_iconst (2) dL_law_997 (by decide)
theorem dL_law_998 : decode cL_law 998 = .ok (.iadd, 1) := by decide +kernel
theorem eL_law_998 {X : (Nat → Int32) × Nat} {g : xG} {h : xH} {Q : Option Value → xG → xH → Prop} (ls : List Value)(st : List Value) {x y : Int32} : EV X mL_law 162 3499 998 ls (.int y :: .int x :: st) g h Q = EV X mL_law 162 3499 999 ls (.int (x + y) :: st) g h Q := E_iadd dL_law_998
theorem dL_law_999 : decode cL_law 999 = .ok (.iaload, 1) := by decide +kernel
theorem eL_law_999 {X : (Nat → Int32) × Nat} {g : xG} {h : xH} {Q : Option Value → xG → xH → Prop} (ls : List Value)(st : List Value) {i : Int32} : EV X mL_law 162 3499 999 ls (.int i :: .ref 1000 :: st) g h Q = (inb i X.2 ∧ EV X mL_law 162 3499 1000 ls (.int (X.1 i.toNatClampNeg) :: st) g h Q) := E_iscr dL_law_999
theorem dL_law_1000 : decode cL_law 1000 = .ok (.invokevirtual 135, 3) := by decide +kernel
theorem eL_law_1000 {X : (Nat → Int32) × Nat} {g : xG} {h : xH} {Q : Option Value → xG → xH → Prop} (ls : List Value){a0 : Int32} {a1 : Int32} : EV X mL_law 162 3499 1000 ls (.int a1 :: .int a0 :: .ref 0 :: []) g h Q = EV X mX5_feel 0 0 0 [.ref 0, .int a0, .int a1] [] g h (fun r g h => EV X mL_law 162 3499 1003 ls (r.toList ++ ([])) g h Q) := E_callv (mi := 92) dL_law_1000 (by decide +kernel) (by decide) rfl rfl ⟨rfl, Nat.le_of_ble_eq_true rfl, by decide, by decide⟩ rfl rfl ⟨rfl, rfl⟩ rfl
theorem dL_law_1003 : decode cL_law 1003 = .ok (.aload_n 2, 1) := by decide +kernel
theorem eL_law_1003 {X : (Nat → Int32) × Nat} {g : xG} {h : xH} {Q : Option Value → xG → xH → Prop} {v0 v1 v3 : Value} {x : Nat}(st : List Value) : EV X mL_law 162 3499 1003 [v0, v1, .ref x, v3] st g h Q = EV X mL_law 162 3499 1004 [v0, v1, .ref x, v3] (.ref x :: st) g h Q := E_aload_n dL_law_1003 rfl
theorem dL_law_1004 : decode cL_law 1004 = .ok (.aload_n 0, 1) := by decide +kernel
theorem eL_law_1004 {X : (Nat → Int32) × Nat} {g : xG} {h : xH} {Q : Option Value → xG → xH → Prop} {v1 v2 v3 : Value} {x : Nat}(st : List Value) : EV X mL_law 162 3499 1004 [.ref x, v1, v2, v3] st g h Q = EV X mL_law 162 3499 1005 [.ref x, v1, v2, v3] (.ref x :: st) g h Q := E_aload_n dL_law_1004 rfl
theorem dL_law_1005 : decode cL_law 1005 = .ok (.iload_n 3, 1) := by decide +kernel
theorem eL_law_1005 {X : (Nat → Int32) × Nat} {g : xG} {h : xH} {Q : Option Value → xG → xH → Prop} {v0 v1 v2 : Value} {x : Int32}(st : List Value) : EV X mL_law 162 3499 1005 [v0, v1, v2, .int x] st g h Q = EV X mL_law 162 3499 1006 [v0, v1, v2, .int x] (.int x :: st) g h Q := E_iload_n dL_law_1005 rfl
theorem dL_law_1006 : decode cL_law 1006 = .ok (.iconst 1, 1) := by decide +kernel
theorem eL_law_1006 {X : (Nat → Int32) × Nat} {g : xG} {h : xH} {Q : Option Value → xG → xH → Prop} (ls : List Value)(st : List Value) : EV X mL_law 162 3499 1006 ls st g h Q = EV X mL_law 162 3499 1007 ls (.int 1 :: st) g h Q := E_iconst (1) dL_law_1006 (by decide)
theorem dL_law_1007 : decode cL_law 1007 = .ok (.iadd, 1) := by decide +kernel
theorem eL_law_1007 {X : (Nat → Int32) × Nat} {g : xG} {h : xH} {Q : Option Value → xG → xH → Prop} (ls : List Value)(st : List Value) {x y : Int32} : EV X mL_law 162 3499 1007 ls (.int y :: .int x :: st) g h Q = EV X mL_law 162 3499 1008 ls (.int (x + y) :: st) g h Q := E_iadd dL_law_1007
theorem dL_law_1008 : decode cL_law 1008 = .ok (.iaload, 1) := by decide +kernel
theorem eL_law_1008 {X : (Nat → Int32) × Nat} {g : xG} {h : xH} {Q : Option Value → xG → xH → Prop} (ls : List Value)(st : List Value) {i : Int32} : EV X mL_law 162 3499 1008 ls (.int i :: .ref 1000 :: st) g h Q = (inb i X.2 ∧ EV X mL_law 162 3499 1009 ls (.int (X.1 i.toNatClampNeg) :: st) g h Q) := E_iscr dL_law_1008
theorem dL_law_1009 : decode cL_law 1009 = .ok (.aload_n 0, 1) := by decide +kernel
theorem eL_law_1009 {X : (Nat → Int32) × Nat} {g : xG} {h : xH} {Q : Option Value → xG → xH → Prop} {v1 v2 v3 : Value} {x : Nat}(st : List Value) : EV X mL_law 162 3499 1009 [.ref x, v1, v2, v3] st g h Q = EV X mL_law 162 3499 1010 [.ref x, v1, v2, v3] (.ref x :: st) g h Q := E_aload_n dL_law_1009 rfl
theorem dL_law_1010 : decode cL_law 1010 = .ok (.iload_n 3, 1) := by decide +kernel
theorem eL_law_1010 {X : (Nat → Int32) × Nat} {g : xG} {h : xH} {Q : Option Value → xG → xH → Prop} {v0 v1 v2 : Value} {x : Int32}(st : List Value) : EV X mL_law 162 3499 1010 [v0, v1, v2, .int x] st g h Q = EV X mL_law 162 3499 1011 [v0, v1, v2, .int x] (.int x :: st) g h Q := E_iload_n dL_law_1010 rfl
theorem dL_law_1011 : decode cL_law 1011 = .ok (.iconst 2, 1) := by decide +kernel
theorem eL_law_1011 {X : (Nat → Int32) × Nat} {g : xG} {h : xH} {Q : Option Value → xG → xH → Prop} (ls : List Value)(st : List Value) : EV X mL_law 162 3499 1011 ls st g h Q = EV X mL_law 162 3499 1012 ls (.int 2 :: st) g h Q := E_iconst (2) dL_law_1011 (by decide)
theorem dL_law_1012 : decode cL_law 1012 = .ok (.iadd, 1) := by decide +kernel
theorem eL_law_1012 {X : (Nat → Int32) × Nat} {g : xG} {h : xH} {Q : Option Value → xG → xH → Prop} (ls : List Value)(st : List Value) {x y : Int32} : EV X mL_law 162 3499 1012 ls (.int y :: .int x :: st) g h Q = EV X mL_law 162 3499 1013 ls (.int (x + y) :: st) g h Q := E_iadd dL_law_1012
theorem dL_law_1013 : decode cL_law 1013 = .ok (.iaload, 1) := by decide +kernel
theorem eL_law_1013 {X : (Nat → Int32) × Nat} {g : xG} {h : xH} {Q : Option Value → xG → xH → Prop} (ls : List Value)(st : List Value) {i : Int32} : EV X mL_law 162 3499 1013 ls (.int i :: .ref 1000 :: st) g h Q = (inb i X.2 ∧ EV X mL_law 162 3499 1014 ls (.int (X.1 i.toNatClampNeg) :: st) g h Q) := E_iscr dL_law_1013
theorem dL_law_1014 : decode cL_law 1014 = .ok (.invokevirtual 138, 3) := by decide +kernel
theorem eL_law_1014 {X : (Nat → Int32) × Nat} {g : xG} {h : xH} {Q : Option Value → xG → xH → Prop} (ls : List Value){a0 : Int32} {a1 : Int32} {x0 : Int32} : EV X mL_law 162 3499 1014 ls (.int a1 :: .int a0 :: .ref 140 :: .int x0 :: []) g h Q = EV X mX6_feel 0 0 0 [.ref 140, .int a0, .int a1] [] g h (fun r g h => EV X mL_law 162 3499 1017 ls (r.toList ++ (.int x0 :: [])) g h Q) := E_callv (mi := 173) dL_law_1014 (by decide +kernel) (by decide) rfl rfl ⟨rfl, Nat.le_of_ble_eq_true rfl, by decide, by decide⟩ rfl rfl ⟨rfl, rfl⟩ rfl
theorem dL_law_1017 : decode cL_law 1017 = .ok (.if_icmp .eq 156, 3) := by decide +kernel
theorem eL_law_1017 {X : (Nat → Int32) × Nat} {g : xG} {h : xH} {Q : Option Value → xG → xH → Prop} (ls : List Value)(st : List Value) {x y : Int32} : EV X mL_law 162 3499 1017 ls (.int y :: .int x :: st) g h Q = if x = y then EV X mL_law 162 3499 1173 ls st g h Q else EV X mL_law 162 3499 1020 ls st g h Q := E_icmpeq 1173 dL_law_1017 (by decide)
theorem dL_law_1020 : decode cL_law 1020 = .ok (.iconst 0, 1) := by decide +kernel
theorem eL_law_1020 {X : (Nat → Int32) × Nat} {g : xG} {h : xH} {Q : Option Value → xG → xH → Prop} (ls : List Value)(st : List Value) : EV X mL_law 162 3499 1020 ls st g h Q = EV X mL_law 162 3499 1021 ls (.int 0 :: st) g h Q := E_iconst (0) dL_law_1020 (by decide)
theorem dL_law_1021 : decode cL_law 1021 = .ok (.ireturn, 1) := by decide +kernel
theorem eL_law_1021 {X : (Nat → Int32) × Nat} {g : xG} {h : xH} {Q : Option Value → xG → xH → Prop} (ls : List Value) {x : Int32} : EV X mL_law 162 3499 1021 ls [.int x] g h Q = (is01 x ∧ Q (some (.int x)) g h) := E_iretz dL_law_1021 rfl ⟨by decide, by decide⟩
