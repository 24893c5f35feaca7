/-! what the constructors leave -/
def ckL : List (Nat × Nat × Int32) := [(3, 0, 0), (3, 2, 0), (3, 3, 0), (3, 4, 12), (3, 5, 0), (3, 6, 0), (140, 0, 0), (140, 1, 0), (140, 8, 0), (140, 2, 0), (140, 5, 0), (13, 0, 0), (13, 1, 0), (13, 2, 0), (13, 3, 0), (17, 0, 0), (17, 1, 0), (17, 2, 0), (17, 3, 0), (17, 4, 0), (17, 5, 0), (17, 6, 0), (17, 7, 0), (145, 0, 0), (145, 1, 0), (145, 2, 0), (145, 3, 0), (1, 1, 0), (140, 12, 0), (1, 5, -1), (140, 13, -1), (132, 0, 0), (140, 29, 0), (132, 1, 0), (140, 34, 0), (132, 2, 0), (140, 37, 0), (19, 1, 0), (140, 27, 0), (19, 2, 0), (131, 0, 0), (131, 1, 0), (161, 0, 0), (161, 1, 0), (0, 9, 0), (140, 10, 0)]
def ckH (h : xH) : Bool := ckL.all (fun e => decide (h e.1 e.2.1 = e.2.2))
def ckG (g : xG) : Bool := (List.range 162).all (fun a => (List.range 45).all (fun k => Nat.beq (g a k) (Gb false a k)))
def ckO (o : Option (List Value × List Value × xS × Nat × Nat)) : Bool := match o with
  | some ([.ref a, .ref b, .ref c, .int d], [], S, kc, ks) => decide (a = 1000) && decide (b = 0) && decide (c = 140) && decide (d = 0) && decide (S.2.2 = 162) && decide (kc = 162) && decide (ks = 3499) && ckH S.2.1 && ckG S.1
  | _ => false
def xini : Option (List Value × List Value × xS × Nat × Nat) := xto 18 600 mL_law 0 [.ref 1000, .null, .null, .null] [] (fun _ _ => 0, fun _ _ => 0, 0) 0 0
theorem ini_ck : ckO xini = true := by decide +kernel
