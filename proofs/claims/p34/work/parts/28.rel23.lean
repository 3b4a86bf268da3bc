section
set_option maxHeartbeats 4000000 in
set_option maxRecDepth 100000 in
theorem r_X11_init (l : Launch) (g : he_G) (m0 : Nat)  : he_V l yX11_init wsX11_init 1 22 321 16677 g [.ref m0] [(m0, .inr (10, [.int 0, .int 0, .int 0, .int 0, .int 0, .int 0, .int 0, .int 0, .null, .null, .null, .null, .null, .null, .int 0, .null, .null, .null, .null, .null, .null, .null, .null, .int 0, .int 0, .int 0, .int 0, .int 0, .int 0, .null, .null, .null, .null, .int 0, .null]))] (fun (u : (Nat → Nat) × List Nat × (Nat → Nat) × (Nat → Nat → Int32) × (Nat → Nat → Nat) × (Nat → Int32)) => (∀ i, i < 6 → (u.2.2.2.2.1 1) i ∈ u.2.1 ∧ u.2.2.1 ((u.2.2.2.2.1 1) i) = 2 ∧ True) ∧ (∀ i, i < 6 → (u.2.2.2.2.1 2) i ∈ u.2.1 ∧ u.2.2.1 ((u.2.2.2.2.1 2) i) = 2 ∧ True) ∧ (∀ i, i < 7 → (u.2.2.2.2.1 3) i ∈ u.2.1 ∧ u.2.2.1 ((u.2.2.2.2.1 3) i) = 7 ∧ True) ∧ (∀ i, i < 7 → (u.2.2.2.2.1 4) i ∈ u.2.1 ∧ u.2.2.1 ((u.2.2.2.2.1 4) i) = 36 ∧ True) ∧ (∀ i, i < 121 → (u.2.2.2.2.1 5) i ∈ u.2.1 ∧ u.2.2.1 ((u.2.2.2.2.1 5) i) = 25 ∧ True) ∧ (∀ i, i < 120 → (u.2.2.2.2.1 6) i ∈ u.2.1 ∧ u.2.2.1 ((u.2.2.2.2.1 6) i) = 6 ∧ True) ∧ (∀ i, i < 4 → (u.2.2.2.2.1 7) i ∈ u.2.1 ∧ u.2.2.1 ((u.2.2.2.2.1 7) i) = 2 ∧ True) ∧ (∀ i, i < 12 → (u.2.2.2.2.1 8) i ∈ u.2.1 ∧ u.2.2.1 ((u.2.2.2.2.1 8) i) = 2 ∧ True) ∧ (∀ i, i < 2 → (u.2.2.2.2.1 9) i ∈ u.2.1 ∧ u.2.2.1 ((u.2.2.2.2.1 9) i) = 12 ∧ True) ∧ (∀ i, i < 3 → (u.2.2.2.2.1 10) i ∈ u.2.1 ∧ u.2.2.1 ((u.2.2.2.2.1 10) i) = 3850 ∧ True) ∧ (∀ i, i < 13 → (u.2.2.2.2.1 11) i ∈ u.2.1 ∧ u.2.2.1 ((u.2.2.2.2.1 11) i) = 3 ∧ True) ∧ (∀ i j, i < 6 → j < 6 → (u.2.2.2.2.1 1) i ≠ (u.2.2.2.2.1 2) j) ∧ (∀ i j, i < 6 → j < 7 → (u.2.2.2.2.1 1) i ≠ (u.2.2.2.2.1 3) j) ∧ (∀ i j, i < 6 → j < 7 → (u.2.2.2.2.1 1) i ≠ (u.2.2.2.2.1 4) j) ∧ (∀ i j, i < 6 → j < 121 → (u.2.2.2.2.1 1) i ≠ (u.2.2.2.2.1 5) j) ∧ (∀ i j, i < 6 → j < 120 → (u.2.2.2.2.1 1) i ≠ (u.2.2.2.2.1 6) j) ∧ (∀ i j, i < 6 → j < 4 → (u.2.2.2.2.1 1) i ≠ (u.2.2.2.2.1 7) j) ∧ (∀ i j, i < 6 → j < 12 → (u.2.2.2.2.1 1) i ≠ (u.2.2.2.2.1 8) j) ∧ (∀ i j, i < 6 → j < 2 → (u.2.2.2.2.1 1) i ≠ (u.2.2.2.2.1 9) j) ∧ (∀ i j, i < 6 → j < 3 → (u.2.2.2.2.1 1) i ≠ (u.2.2.2.2.1 10) j) ∧ (∀ i j, i < 6 → j < 13 → (u.2.2.2.2.1 1) i ≠ (u.2.2.2.2.1 11) j) ∧ (∀ i j, i < 6 → j < 7 → (u.2.2.2.2.1 2) i ≠ (u.2.2.2.2.1 3) j) ∧ (∀ i j, i < 6 → j < 7 → (u.2.2.2.2.1 2) i ≠ (u.2.2.2.2.1 4) j) ∧ (∀ i j, i < 6 → j < 121 → (u.2.2.2.2.1 2) i ≠ (u.2.2.2.2.1 5) j) ∧ (∀ i j, i < 6 → j < 120 → (u.2.2.2.2.1 2) i ≠ (u.2.2.2.2.1 6) j) ∧ (∀ i j, i < 6 → j < 4 → (u.2.2.2.2.1 2) i ≠ (u.2.2.2.2.1 7) j) ∧ (∀ i j, i < 6 → j < 12 → (u.2.2.2.2.1 2) i ≠ (u.2.2.2.2.1 8) j) ∧ (∀ i j, i < 6 → j < 2 → (u.2.2.2.2.1 2) i ≠ (u.2.2.2.2.1 9) j) ∧ (∀ i j, i < 6 → j < 3 → (u.2.2.2.2.1 2) i ≠ (u.2.2.2.2.1 10) j) ∧ (∀ i j, i < 6 → j < 13 → (u.2.2.2.2.1 2) i ≠ (u.2.2.2.2.1 11) j) ∧ (∀ i j, i < 7 → j < 7 → (u.2.2.2.2.1 3) i ≠ (u.2.2.2.2.1 4) j) ∧ (∀ i j, i < 7 → j < 121 → (u.2.2.2.2.1 3) i ≠ (u.2.2.2.2.1 5) j) ∧ (∀ i j, i < 7 → j < 120 → (u.2.2.2.2.1 3) i ≠ (u.2.2.2.2.1 6) j) ∧ (∀ i j, i < 7 → j < 4 → (u.2.2.2.2.1 3) i ≠ (u.2.2.2.2.1 7) j) ∧ (∀ i j, i < 7 → j < 12 → (u.2.2.2.2.1 3) i ≠ (u.2.2.2.2.1 8) j) ∧ (∀ i j, i < 7 → j < 2 → (u.2.2.2.2.1 3) i ≠ (u.2.2.2.2.1 9) j) ∧ (∀ i j, i < 7 → j < 3 → (u.2.2.2.2.1 3) i ≠ (u.2.2.2.2.1 10) j) ∧ (∀ i j, i < 7 → j < 13 → (u.2.2.2.2.1 3) i ≠ (u.2.2.2.2.1 11) j) ∧ (∀ i j, i < 7 → j < 121 → (u.2.2.2.2.1 4) i ≠ (u.2.2.2.2.1 5) j) ∧ (∀ i j, i < 7 → j < 120 → (u.2.2.2.2.1 4) i ≠ (u.2.2.2.2.1 6) j) ∧ (∀ i j, i < 7 → j < 4 → (u.2.2.2.2.1 4) i ≠ (u.2.2.2.2.1 7) j) ∧ (∀ i j, i < 7 → j < 12 → (u.2.2.2.2.1 4) i ≠ (u.2.2.2.2.1 8) j) ∧ (∀ i j, i < 7 → j < 2 → (u.2.2.2.2.1 4) i ≠ (u.2.2.2.2.1 9) j) ∧ (∀ i j, i < 7 → j < 3 → (u.2.2.2.2.1 4) i ≠ (u.2.2.2.2.1 10) j) ∧ (∀ i j, i < 7 → j < 13 → (u.2.2.2.2.1 4) i ≠ (u.2.2.2.2.1 11) j) ∧ (∀ i j, i < 121 → j < 120 → (u.2.2.2.2.1 5) i ≠ (u.2.2.2.2.1 6) j) ∧ (∀ i j, i < 121 → j < 4 → (u.2.2.2.2.1 5) i ≠ (u.2.2.2.2.1 7) j) ∧ (∀ i j, i < 121 → j < 12 → (u.2.2.2.2.1 5) i ≠ (u.2.2.2.2.1 8) j) ∧ (∀ i j, i < 121 → j < 2 → (u.2.2.2.2.1 5) i ≠ (u.2.2.2.2.1 9) j) ∧ (∀ i j, i < 121 → j < 3 → (u.2.2.2.2.1 5) i ≠ (u.2.2.2.2.1 10) j) ∧ (∀ i j, i < 121 → j < 13 → (u.2.2.2.2.1 5) i ≠ (u.2.2.2.2.1 11) j) ∧ (∀ i j, i < 120 → j < 4 → (u.2.2.2.2.1 6) i ≠ (u.2.2.2.2.1 7) j) ∧ (∀ i j, i < 120 → j < 12 → (u.2.2.2.2.1 6) i ≠ (u.2.2.2.2.1 8) j) ∧ (∀ i j, i < 120 → j < 2 → (u.2.2.2.2.1 6) i ≠ (u.2.2.2.2.1 9) j) ∧ (∀ i j, i < 120 → j < 3 → (u.2.2.2.2.1 6) i ≠ (u.2.2.2.2.1 10) j) ∧ (∀ i j, i < 120 → j < 13 → (u.2.2.2.2.1 6) i ≠ (u.2.2.2.2.1 11) j) ∧ (∀ i j, i < 4 → j < 12 → (u.2.2.2.2.1 7) i ≠ (u.2.2.2.2.1 8) j) ∧ (∀ i j, i < 4 → j < 2 → (u.2.2.2.2.1 7) i ≠ (u.2.2.2.2.1 9) j) ∧ (∀ i j, i < 4 → j < 3 → (u.2.2.2.2.1 7) i ≠ (u.2.2.2.2.1 10) j) ∧ (∀ i j, i < 4 → j < 13 → (u.2.2.2.2.1 7) i ≠ (u.2.2.2.2.1 11) j) ∧ (∀ i j, i < 12 → j < 2 → (u.2.2.2.2.1 8) i ≠ (u.2.2.2.2.1 9) j) ∧ (∀ i j, i < 12 → j < 3 → (u.2.2.2.2.1 8) i ≠ (u.2.2.2.2.1 10) j) ∧ (∀ i j, i < 12 → j < 13 → (u.2.2.2.2.1 8) i ≠ (u.2.2.2.2.1 11) j) ∧ (∀ i j, i < 2 → j < 3 → (u.2.2.2.2.1 9) i ≠ (u.2.2.2.2.1 10) j) ∧ (∀ i j, i < 2 → j < 13 → (u.2.2.2.2.1 9) i ≠ (u.2.2.2.2.1 11) j) ∧ (∀ i j, i < 3 → j < 13 → (u.2.2.2.2.1 10) i ≠ (u.2.2.2.2.1 11) j) ∧ (∀ a b, a < 6 → b < 6 → (u.2.2.2.2.1 1) a = (u.2.2.2.2.1 1) b → a = b) ∧ (∀ a b, a < 6 → b < 6 → (u.2.2.2.2.1 2) a = (u.2.2.2.2.1 2) b → a = b) ∧ (∀ a b, a < 7 → b < 7 → (u.2.2.2.2.1 3) a = (u.2.2.2.2.1 3) b → a = b) ∧ (∀ a b, a < 7 → b < 7 → (u.2.2.2.2.1 4) a = (u.2.2.2.2.1 4) b → a = b) ∧ (∀ a b, a < 121 → b < 121 → (u.2.2.2.2.1 5) a = (u.2.2.2.2.1 5) b → a = b) ∧ (∀ a b, a < 120 → b < 120 → (u.2.2.2.2.1 6) a = (u.2.2.2.2.1 6) b → a = b) ∧ (∀ a b, a < 4 → b < 4 → (u.2.2.2.2.1 7) a = (u.2.2.2.2.1 7) b → a = b) ∧ (∀ a b, a < 12 → b < 12 → (u.2.2.2.2.1 8) a = (u.2.2.2.2.1 8) b → a = b) ∧ (∀ a b, a < 2 → b < 2 → (u.2.2.2.2.1 9) a = (u.2.2.2.2.1 9) b → a = b) ∧ (∀ a b, a < 3 → b < 3 → (u.2.2.2.2.1 10) a = (u.2.2.2.2.1 10) b → a = b) ∧ (∀ a b, a < 13 → b < 13 → (u.2.2.2.2.1 11) a = (u.2.2.2.2.1 11) b → a = b) ∧ u.2.2.2.2.2 10 = -1 ∧ u.2.2.2.2.2 24 = 0 ∧ rNew (u.2.2.2.2.1 7) (u.2.2.2.2.1 9) u.2.2.2.1 ∧ (∀ i, i < 24 → u.2.2.2.2.2 i = bgA 0 tnA (fun _ => 0) i)) (fun (u : (Nat → Nat) × List Nat × (Nat → Nat) × (Nat → Nat → Int32) × (Nat → Nat → Nat) × (Nat → Int32)) => [(oX11 m0 0 0 0 (-1) 0 0 0 0 (u.1 0) (u.1 1) (u.1 2) (u.1 3) (u.1 4) (u.1 5) 0 (u.1 6) (u.1 7) (u.1 8) (u.1 9) (u.1 10) (u.1 11) (u.1 12) (u.1 13) 0 1 1 0 0 0 (u.1 14) (u.1 15) (u.1 16) (u.1 17) 0 (u.1 18)), (aI g (u.1 0) 500 (fun _ => 0)), (aI g (u.1 1) 3 (fun _ => 0)), (aI g (u.1 2) 25 (tnF (fun _ => 0))), (aI g (u.1 3) 25 (flF (tnF (fun _ => 0)) (fun _ => 0) 25)), (aI g (u.1 6) 7 (fun _ => 0)), (aI g (u.1 7) 36 (fun _ => 0)), (aI g (u.1 10) 25 u.2.2.2.2.2), (aI g (u.1 11) 25 (fun _ => 0)), (aM g (u.1 4) 6 (he_ro 6 (u.2.2.2.2.1 1))), (aM g (u.1 5) 6 (he_ro 6 (u.2.2.2.2.1 2))), (aM g (u.1 8) 7 (he_ro 7 (u.2.2.2.2.1 3))), (aM g (u.1 9) 7 (he_ro 7 (u.2.2.2.2.1 4))), (aM g (u.1 12) 121 (he_ro 121 (u.2.2.2.2.1 5))), (aM g (u.1 13) 120 (he_ro 120 (u.2.2.2.2.1 6))), (aM g (u.1 14) 4 (he_ro 4 (u.2.2.2.2.1 7))), (aM g (u.1 15) 12 (he_ro 12 (u.2.2.2.2.1 8))), (aM g (u.1 16) 2 (he_ro 2 (u.2.2.2.2.1 9))), (aM g (u.1 17) 3 (he_ro 3 (u.2.2.2.2.1 10))), (aM g (u.1 18) 13 (he_ro 13 (u.2.2.2.2.1 11)))] ++ he_pl g u.2.1 u.2.2.1 u.2.2.2.1) := by
  refine he_begin (l := l) (g := g) (y := yX11_init) (wl := wsX11_init) (fr := 1) (lo := 22) (mc := 321) (ms := 16677) (av := [.ref m0]) (ws := [(m0, .inr (10, [.int 0, .int 0, .int 0, .int 0, .int 0, .int 0, .int 0, .int 0, .null, .null, .null, .null, .null, .null, .int 0, .null, .null, .null, .null, .null, .null, .null, .null, .int 0, .int 0, .int 0, .int 0, .int 0, .int 0, .null, .null, .null, .null, .int 0, .null]))]) (cc := cX11_init) (maxL := 1) (ret := none) (fun A => va_Qv (fun (u : (Nat → Nat) × List Nat × (Nat → Nat) × (Nat → Nat → Int32) × (Nat → Nat → Nat) × (Nat → Int32)) => (∀ i, i < 6 → (u.2.2.2.2.1 1) i ∈ u.2.1 ∧ u.2.2.1 ((u.2.2.2.2.1 1) i) = 2 ∧ True) ∧ (∀ i, i < 6 → (u.2.2.2.2.1 2) i ∈ u.2.1 ∧ u.2.2.1 ((u.2.2.2.2.1 2) i) = 2 ∧ True) ∧ (∀ i, i < 7 → (u.2.2.2.2.1 3) i ∈ u.2.1 ∧ u.2.2.1 ((u.2.2.2.2.1 3) i) = 7 ∧ True) ∧ (∀ i, i < 7 → (u.2.2.2.2.1 4) i ∈ u.2.1 ∧ u.2.2.1 ((u.2.2.2.2.1 4) i) = 36 ∧ True) ∧ (∀ i, i < 121 → (u.2.2.2.2.1 5) i ∈ u.2.1 ∧ u.2.2.1 ((u.2.2.2.2.1 5) i) = 25 ∧ True) ∧ (∀ i, i < 120 → (u.2.2.2.2.1 6) i ∈ u.2.1 ∧ u.2.2.1 ((u.2.2.2.2.1 6) i) = 6 ∧ True) ∧ (∀ i, i < 4 → (u.2.2.2.2.1 7) i ∈ u.2.1 ∧ u.2.2.1 ((u.2.2.2.2.1 7) i) = 2 ∧ True) ∧ (∀ i, i < 12 → (u.2.2.2.2.1 8) i ∈ u.2.1 ∧ u.2.2.1 ((u.2.2.2.2.1 8) i) = 2 ∧ True) ∧ (∀ i, i < 2 → (u.2.2.2.2.1 9) i ∈ u.2.1 ∧ u.2.2.1 ((u.2.2.2.2.1 9) i) = 12 ∧ True) ∧ (∀ i, i < 3 → (u.2.2.2.2.1 10) i ∈ u.2.1 ∧ u.2.2.1 ((u.2.2.2.2.1 10) i) = 3850 ∧ True) ∧ (∀ i, i < 13 → (u.2.2.2.2.1 11) i ∈ u.2.1 ∧ u.2.2.1 ((u.2.2.2.2.1 11) i) = 3 ∧ True) ∧ (∀ i j, i < 6 → j < 6 → (u.2.2.2.2.1 1) i ≠ (u.2.2.2.2.1 2) j) ∧ (∀ i j, i < 6 → j < 7 → (u.2.2.2.2.1 1) i ≠ (u.2.2.2.2.1 3) j) ∧ (∀ i j, i < 6 → j < 7 → (u.2.2.2.2.1 1) i ≠ (u.2.2.2.2.1 4) j) ∧ (∀ i j, i < 6 → j < 121 → (u.2.2.2.2.1 1) i ≠ (u.2.2.2.2.1 5) j) ∧ (∀ i j, i < 6 → j < 120 → (u.2.2.2.2.1 1) i ≠ (u.2.2.2.2.1 6) j) ∧ (∀ i j, i < 6 → j < 4 → (u.2.2.2.2.1 1) i ≠ (u.2.2.2.2.1 7) j) ∧ (∀ i j, i < 6 → j < 12 → (u.2.2.2.2.1 1) i ≠ (u.2.2.2.2.1 8) j) ∧ (∀ i j, i < 6 → j < 2 → (u.2.2.2.2.1 1) i ≠ (u.2.2.2.2.1 9) j) ∧ (∀ i j, i < 6 → j < 3 → (u.2.2.2.2.1 1) i ≠ (u.2.2.2.2.1 10) j) ∧ (∀ i j, i < 6 → j < 13 → (u.2.2.2.2.1 1) i ≠ (u.2.2.2.2.1 11) j) ∧ (∀ i j, i < 6 → j < 7 → (u.2.2.2.2.1 2) i ≠ (u.2.2.2.2.1 3) j) ∧ (∀ i j, i < 6 → j < 7 → (u.2.2.2.2.1 2) i ≠ (u.2.2.2.2.1 4) j) ∧ (∀ i j, i < 6 → j < 121 → (u.2.2.2.2.1 2) i ≠ (u.2.2.2.2.1 5) j) ∧ (∀ i j, i < 6 → j < 120 → (u.2.2.2.2.1 2) i ≠ (u.2.2.2.2.1 6) j) ∧ (∀ i j, i < 6 → j < 4 → (u.2.2.2.2.1 2) i ≠ (u.2.2.2.2.1 7) j) ∧ (∀ i j, i < 6 → j < 12 → (u.2.2.2.2.1 2) i ≠ (u.2.2.2.2.1 8) j) ∧ (∀ i j, i < 6 → j < 2 → (u.2.2.2.2.1 2) i ≠ (u.2.2.2.2.1 9) j) ∧ (∀ i j, i < 6 → j < 3 → (u.2.2.2.2.1 2) i ≠ (u.2.2.2.2.1 10) j) ∧ (∀ i j, i < 6 → j < 13 → (u.2.2.2.2.1 2) i ≠ (u.2.2.2.2.1 11) j) ∧ (∀ i j, i < 7 → j < 7 → (u.2.2.2.2.1 3) i ≠ (u.2.2.2.2.1 4) j) ∧ (∀ i j, i < 7 → j < 121 → (u.2.2.2.2.1 3) i ≠ (u.2.2.2.2.1 5) j) ∧ (∀ i j, i < 7 → j < 120 → (u.2.2.2.2.1 3) i ≠ (u.2.2.2.2.1 6) j) ∧ (∀ i j, i < 7 → j < 4 → (u.2.2.2.2.1 3) i ≠ (u.2.2.2.2.1 7) j) ∧ (∀ i j, i < 7 → j < 12 → (u.2.2.2.2.1 3) i ≠ (u.2.2.2.2.1 8) j) ∧ (∀ i j, i < 7 → j < 2 → (u.2.2.2.2.1 3) i ≠ (u.2.2.2.2.1 9) j) ∧ (∀ i j, i < 7 → j < 3 → (u.2.2.2.2.1 3) i ≠ (u.2.2.2.2.1 10) j) ∧ (∀ i j, i < 7 → j < 13 → (u.2.2.2.2.1 3) i ≠ (u.2.2.2.2.1 11) j) ∧ (∀ i j, i < 7 → j < 121 → (u.2.2.2.2.1 4) i ≠ (u.2.2.2.2.1 5) j) ∧ (∀ i j, i < 7 → j < 120 → (u.2.2.2.2.1 4) i ≠ (u.2.2.2.2.1 6) j) ∧ (∀ i j, i < 7 → j < 4 → (u.2.2.2.2.1 4) i ≠ (u.2.2.2.2.1 7) j) ∧ (∀ i j, i < 7 → j < 12 → (u.2.2.2.2.1 4) i ≠ (u.2.2.2.2.1 8) j) ∧ (∀ i j, i < 7 → j < 2 → (u.2.2.2.2.1 4) i ≠ (u.2.2.2.2.1 9) j) ∧ (∀ i j, i < 7 → j < 3 → (u.2.2.2.2.1 4) i ≠ (u.2.2.2.2.1 10) j) ∧ (∀ i j, i < 7 → j < 13 → (u.2.2.2.2.1 4) i ≠ (u.2.2.2.2.1 11) j) ∧ (∀ i j, i < 121 → j < 120 → (u.2.2.2.2.1 5) i ≠ (u.2.2.2.2.1 6) j) ∧ (∀ i j, i < 121 → j < 4 → (u.2.2.2.2.1 5) i ≠ (u.2.2.2.2.1 7) j) ∧ (∀ i j, i < 121 → j < 12 → (u.2.2.2.2.1 5) i ≠ (u.2.2.2.2.1 8) j) ∧ (∀ i j, i < 121 → j < 2 → (u.2.2.2.2.1 5) i ≠ (u.2.2.2.2.1 9) j) ∧ (∀ i j, i < 121 → j < 3 → (u.2.2.2.2.1 5) i ≠ (u.2.2.2.2.1 10) j) ∧ (∀ i j, i < 121 → j < 13 → (u.2.2.2.2.1 5) i ≠ (u.2.2.2.2.1 11) j) ∧ (∀ i j, i < 120 → j < 4 → (u.2.2.2.2.1 6) i ≠ (u.2.2.2.2.1 7) j) ∧ (∀ i j, i < 120 → j < 12 → (u.2.2.2.2.1 6) i ≠ (u.2.2.2.2.1 8) j) ∧ (∀ i j, i < 120 → j < 2 → (u.2.2.2.2.1 6) i ≠ (u.2.2.2.2.1 9) j) ∧ (∀ i j, i < 120 → j < 3 → (u.2.2.2.2.1 6) i ≠ (u.2.2.2.2.1 10) j) ∧ (∀ i j, i < 120 → j < 13 → (u.2.2.2.2.1 6) i ≠ (u.2.2.2.2.1 11) j) ∧ (∀ i j, i < 4 → j < 12 → (u.2.2.2.2.1 7) i ≠ (u.2.2.2.2.1 8) j) ∧ (∀ i j, i < 4 → j < 2 → (u.2.2.2.2.1 7) i ≠ (u.2.2.2.2.1 9) j) ∧ (∀ i j, i < 4 → j < 3 → (u.2.2.2.2.1 7) i ≠ (u.2.2.2.2.1 10) j) ∧ (∀ i j, i < 4 → j < 13 → (u.2.2.2.2.1 7) i ≠ (u.2.2.2.2.1 11) j) ∧ (∀ i j, i < 12 → j < 2 → (u.2.2.2.2.1 8) i ≠ (u.2.2.2.2.1 9) j) ∧ (∀ i j, i < 12 → j < 3 → (u.2.2.2.2.1 8) i ≠ (u.2.2.2.2.1 10) j) ∧ (∀ i j, i < 12 → j < 13 → (u.2.2.2.2.1 8) i ≠ (u.2.2.2.2.1 11) j) ∧ (∀ i j, i < 2 → j < 3 → (u.2.2.2.2.1 9) i ≠ (u.2.2.2.2.1 10) j) ∧ (∀ i j, i < 2 → j < 13 → (u.2.2.2.2.1 9) i ≠ (u.2.2.2.2.1 11) j) ∧ (∀ i j, i < 3 → j < 13 → (u.2.2.2.2.1 10) i ≠ (u.2.2.2.2.1 11) j) ∧ (∀ a b, a < 6 → b < 6 → (u.2.2.2.2.1 1) a = (u.2.2.2.2.1 1) b → a = b) ∧ (∀ a b, a < 6 → b < 6 → (u.2.2.2.2.1 2) a = (u.2.2.2.2.1 2) b → a = b) ∧ (∀ a b, a < 7 → b < 7 → (u.2.2.2.2.1 3) a = (u.2.2.2.2.1 3) b → a = b) ∧ (∀ a b, a < 7 → b < 7 → (u.2.2.2.2.1 4) a = (u.2.2.2.2.1 4) b → a = b) ∧ (∀ a b, a < 121 → b < 121 → (u.2.2.2.2.1 5) a = (u.2.2.2.2.1 5) b → a = b) ∧ (∀ a b, a < 120 → b < 120 → (u.2.2.2.2.1 6) a = (u.2.2.2.2.1 6) b → a = b) ∧ (∀ a b, a < 4 → b < 4 → (u.2.2.2.2.1 7) a = (u.2.2.2.2.1 7) b → a = b) ∧ (∀ a b, a < 12 → b < 12 → (u.2.2.2.2.1 8) a = (u.2.2.2.2.1 8) b → a = b) ∧ (∀ a b, a < 2 → b < 2 → (u.2.2.2.2.1 9) a = (u.2.2.2.2.1 9) b → a = b) ∧ (∀ a b, a < 3 → b < 3 → (u.2.2.2.2.1 10) a = (u.2.2.2.2.1 10) b → a = b) ∧ (∀ a b, a < 13 → b < 13 → (u.2.2.2.2.1 11) a = (u.2.2.2.2.1 11) b → a = b) ∧ u.2.2.2.2.2 10 = -1 ∧ u.2.2.2.2.2 24 = 0 ∧ rNew (u.2.2.2.2.1 7) (u.2.2.2.2.1 9) u.2.2.2.1 ∧ (∀ i, i < 24 → u.2.2.2.2.2 i = bgA 0 tnA (fun _ => 0) i)) (fun u t => he_post g A ((fun (u : (Nat → Nat) × List Nat × (Nat → Nat) × (Nat → Nat → Int32) × (Nat → Nat → Nat) × (Nat → Int32)) => [(oX11 m0 0 0 0 (-1) 0 0 0 0 (u.1 0) (u.1 1) (u.1 2) (u.1 3) (u.1 4) (u.1 5) 0 (u.1 6) (u.1 7) (u.1 8) (u.1 9) (u.1 10) (u.1 11) (u.1 12) (u.1 13) 0 1 1 0 0 0 (u.1 14) (u.1 15) (u.1 16) (u.1 17) 0 (u.1 18)), (aI g (u.1 0) 500 (fun _ => 0)), (aI g (u.1 1) 3 (fun _ => 0)), (aI g (u.1 2) 25 (tnF (fun _ => 0))), (aI g (u.1 3) 25 (flF (tnF (fun _ => 0)) (fun _ => 0) 25)), (aI g (u.1 6) 7 (fun _ => 0)), (aI g (u.1 7) 36 (fun _ => 0)), (aI g (u.1 10) 25 u.2.2.2.2.2), (aI g (u.1 11) 25 (fun _ => 0)), (aM g (u.1 4) 6 (he_ro 6 (u.2.2.2.2.1 1))), (aM g (u.1 5) 6 (he_ro 6 (u.2.2.2.2.1 2))), (aM g (u.1 8) 7 (he_ro 7 (u.2.2.2.2.1 3))), (aM g (u.1 9) 7 (he_ro 7 (u.2.2.2.2.1 4))), (aM g (u.1 12) 121 (he_ro 121 (u.2.2.2.2.1 5))), (aM g (u.1 13) 120 (he_ro 120 (u.2.2.2.2.1 6))), (aM g (u.1 14) 4 (he_ro 4 (u.2.2.2.2.1 7))), (aM g (u.1 15) 12 (he_ro 12 (u.2.2.2.2.1 8))), (aM g (u.1 16) 2 (he_ro 2 (u.2.2.2.2.1 9))), (aM g (u.1 17) 3 (he_ro 3 (u.2.2.2.2.1 10))), (aM g (u.1 18) 13 (he_ro 13 (u.2.2.2.2.1 11)))] ++ he_pl g u.2.1 u.2.2.1 u.2.2.2.1) u) t) A) (by decide) rfl (Nat.le_of_ble_eq_true rfl) ?_
  intro p e s m args below meth c A ls H locs Q hQ hB
  obtain ⟨hx, hb, hr, hml, hown, hts, hlk, hin, hP, hK, hD, hS, hA, hE, hl⟩ := hB
  have hl : lv_has ls 1 [(0, .ref m0)] := hl
  have oi1 := hts (.methodLink RX11 1 objectInit) (iwoX11_init (k := 0) rfl)
  have oim := hts (.instanceMethod objectInit) (iwoX11_init (k := 1) rfl)
  have oic := hts (.code objectInit ⟨#[0xb1]⟩ 1 none) (iwoX11_init (k := 2) rfl)
  have f9 := hts (.fieldLink RX11 9 "HiredEnemyModel" "place" "I") (iwoX11_init (k := 3) rfl)
  have inX11 : ∀ w ∈ wsX110, w ∈ wsX11_init := innX11_init_X11
  have harr_int := hts (.arrayClass .int) (iwoX11_init (k := 4) rfl)
  have f13 := hts (.fieldLink RX11 13 "HiredEnemyModel" "fed" "[I") (iwoX11_init (k := 5) rfl)
  have f17 := hts (.fieldLink RX11 17 "HiredEnemyModel" "refused" "[I") (iwoX11_init (k := 6) rfl)
  have f20 := hts (.fieldLink RX11 20 "HiredEnemyModel" "readTold" "[I") (iwoX11_init (k := 7) rfl)
  have f23 := hts (.fieldLink RX11 23 "HiredEnemyModel" "told" "[I") (iwoX11_init (k := 8) rfl)
  have cl26 := hts (.classLink RX11 26 "[[I") (iwoX11_init (k := 9) rfl)
  have f28 := hts (.fieldLink RX11 28 "HiredEnemyModel" "readWall" "[[I") (iwoX11_init (k := 10) rfl)
  have f31 := hts (.fieldLink RX11 31 "HiredEnemyModel" "wall" "[[I") (iwoX11_init (k := 11) rfl)
  have f34 := hts (.fieldLink RX11 34 "HiredEnemyModel" "readContract" "[I") (iwoX11_init (k := 12) rfl)
  have f37 := hts (.fieldLink RX11 37 "HiredEnemyModel" "readBreach" "[I") (iwoX11_init (k := 13) rfl)
  have f40 := hts (.fieldLink RX11 40 "HiredEnemyModel" "contract" "[[I") (iwoX11_init (k := 14) rfl)
  have f43 := hts (.fieldLink RX11 43 "HiredEnemyModel" "breach" "[[I") (iwoX11_init (k := 15) rfl)
  have f46 := hts (.fieldLink RX11 46 "HiredEnemyModel" "s" "[I") (iwoX11_init (k := 16) rfl)
  have f49 := hts (.fieldLink RX11 49 "HiredEnemyModel" "aside" "[I") (iwoX11_init (k := 17) rfl)
  have f52 := hts (.fieldLink RX11 52 "HiredEnemyModel" "gone" "[[I") (iwoX11_init (k := 18) rfl)
  have f55 := hts (.fieldLink RX11 55 "HiredEnemyModel" "shot" "[[I") (iwoX11_init (k := 19) rfl)
  have f58 := hts (.fieldLink RX11 58 "HiredEnemyModel" "oddsA" "I") (iwoX11_init (k := 20) rfl)
  have f61 := hts (.fieldLink RX11 61 "HiredEnemyModel" "oddsB" "I") (iwoX11_init (k := 21) rfl)
  have f64 := hts (.fieldLink RX11 64 "HiredEnemyModel" "kind" "[[I") (iwoX11_init (k := 22) rfl)
  have f67 := hts (.fieldLink RX11 67 "HiredEnemyModel" "thing" "[[I") (iwoX11_init (k := 23) rfl)
  have f70 := hts (.fieldLink RX11 70 "HiredEnemyModel" "offered" "[[I") (iwoX11_init (k := 24) rfl)
  have f73 := hts (.fieldLink RX11 73 "HiredEnemyModel" "kept" "[[I") (iwoX11_init (k := 25) rfl)
  have f76 := hts (.fieldLink RX11 76 "HiredEnemyModel" "rest" "[[I") (iwoX11_init (k := 26) rfl)
  refine lv_aload_n hx hb dX11_init_0 rfl (lv_at hl 0 rfl) ?_
  refine W.objInit hx hb hown oi1 oim oic rfl (by rw [hml]; exact hl.1) rfl dX11_init_1 (Nat.le_of_ble_eq_true rfl) (Nat.le_of_ble_eq_true rfl) ?_
  refine W.eq (g2 := F0 m 4 ls []) rfl ?_
  refine lv_aload_n hx hb dX11_init_4 rfl (lv_at hl 0 rfl) ?_
  refine lv_iconst (v := (-1)) hx hb dX11_init_5 (by decide) ?_
  refine va_put (v := .int (-1)) (ty := .int) (T := TX11) (N := 35) hx hb hts inX11 tyX11 tyX11_ok nmX11 hown hK hP hD hS 0 rfl rfl 3 (by decide) f9 (fun _ h9 => h9) rfl (by decide +kernel) rfl rfl (Nat.le_of_ble_eq_true rfl) dX11_init_6 (fun H locs hP hD hS => ?_)
  have hP : va_P g.1 vwCl [(m0, .inr (10, [.int 0, .int 0, .int 0, .int (-1), .int 0, .int 0, .int 0, .int 0, .null, .null, .null, .null, .null, .null, .int 0, .null, .null, .null, .null, .null, .null, .null, .null, .int 0, .int 0, .int 0, .int 0, .int 0, .int 0, .null, .null, .null, .null, .int 0, .null]))] H := hP
  have hD : va_D A [(m0, .inr (10, [.int 0, .int 0, .int 0, .int (-1), .int 0, .int 0, .int 0, .int 0, .null, .null, .null, .null, .null, .null, .int 0, .null, .null, .null, .null, .null, .null, .null, .null, .int 0, .int 0, .int 0, .int 0, .int 0, .int 0, .null, .null, .null, .null, .int 0, .null]))] := hD
  refine lv_aload_n hx hb dX11_init_9 rfl (lv_at hl 0 rfl) ?_
  refine lv_sipush (v := 500) hx hb dX11_init_10 (by decide) ?_
  refine he_newi hx hb harr_int hK hP hD hS hA 500 (by decide) (by decide) (by decide) (Nat.le_of_ble_eq_true rfl) (Nat.le_of_ble_eq_true rfl) dX11_init_13 (fun q_1 H hP hD hS => ?_)
  have hP : va_P g.1 vwCl [(m0, .inr (10, [.int 0, .int 0, .int 0, .int (-1), .int 0, .int 0, .int 0, .int 0, .null, .null, .null, .null, .null, .null, .int 0, .null, .null, .null, .null, .null, .null, .null, .null, .int 0, .int 0, .int 0, .int 0, .int 0, .int 0, .null, .null, .null, .null, .int 0, .null])), (aI g q_1 500 (fun _ => 0))] H := hP
  have hD : va_D A [(m0, .inr (10, [.int 0, .int 0, .int 0, .int (-1), .int 0, .int 0, .int 0, .int 0, .null, .null, .null, .null, .null, .null, .int 0, .null, .null, .null, .null, .null, .null, .null, .null, .int 0, .int 0, .int 0, .int 0, .int 0, .int 0, .null, .null, .null, .null, .int 0, .null])), (aI g q_1 500 (fun _ => 0))] := hD
  refine W.widen (k := 1) (n := 500) (Nat.le_of_ble_eq_true rfl) (Nat.le_of_ble_eq_true rfl) ?_
  refine va_putF (v := .ref q_1) (ty := tyX11 8) (T := TX11) (N := 35) hx hb hts inX11 tyX11 tyX11_ok nmX11 hown hK hP hD hS 0 rfl rfl 8 (by decide) f13 (fun _ h9 => h9) rfl hin rfl (by decide +kernel) rfl rfl (Nat.le_of_ble_eq_true rfl) dX11_init_15 (fun H locs hP hD hS => ?_)
  have hP : va_P g.1 vwCl [(m0, .inr (10, [.int 0, .int 0, .int 0, .int (-1), .int 0, .int 0, .int 0, .int 0, .ref q_1, .null, .null, .null, .null, .null, .int 0, .null, .null, .null, .null, .null, .null, .null, .null, .int 0, .int 0, .int 0, .int 0, .int 0, .int 0, .null, .null, .null, .null, .int 0, .null])), (aI g q_1 500 (fun _ => 0))] H := hP
  have hD : va_D A [(m0, .inr (10, [.int 0, .int 0, .int 0, .int (-1), .int 0, .int 0, .int 0, .int 0, .ref q_1, .null, .null, .null, .null, .null, .int 0, .null, .null, .null, .null, .null, .null, .null, .null, .int 0, .int 0, .int 0, .int 0, .int 0, .int 0, .null, .null, .null, .null, .int 0, .null])), (aI g q_1 500 (fun _ => 0))] := hD
  refine lv_aload_n hx hb dX11_init_18 rfl (lv_at hl 0 rfl) ?_
  refine lv_iconst (v := 3) hx hb dX11_init_19 (by decide) ?_
  refine he_newi hx hb harr_int hK hP hD hS hA 3 (by decide) (by decide) (by decide) (Nat.le_of_ble_eq_true rfl) (Nat.le_of_ble_eq_true rfl) dX11_init_20 (fun q_2 H hP hD hS => ?_)
  have hP : va_P g.1 vwCl [(m0, .inr (10, [.int 0, .int 0, .int 0, .int (-1), .int 0, .int 0, .int 0, .int 0, .ref q_1, .null, .null, .null, .null, .null, .int 0, .null, .null, .null, .null, .null, .null, .null, .null, .int 0, .int 0, .int 0, .int 0, .int 0, .int 0, .null, .null, .null, .null, .int 0, .null])), (aI g q_1 500 (fun _ => 0)), (aI g q_2 3 (fun _ => 0))] H := hP
  have hD : va_D A [(m0, .inr (10, [.int 0, .int 0, .int 0, .int (-1), .int 0, .int 0, .int 0, .int 0, .ref q_1, .null, .null, .null, .null, .null, .int 0, .null, .null, .null, .null, .null, .null, .null, .null, .int 0, .int 0, .int 0, .int 0, .int 0, .int 0, .null, .null, .null, .null, .int 0, .null])), (aI g q_1 500 (fun _ => 0)), (aI g q_2 3 (fun _ => 0))] := hD
  refine W.widen (k := 2) (n := 503) (Nat.le_of_ble_eq_true rfl) (Nat.le_of_ble_eq_true rfl) ?_
  refine va_putF (v := .ref q_2) (ty := tyX11 9) (T := TX11) (N := 35) hx hb hts inX11 tyX11 tyX11_ok nmX11 hown hK hP hD hS 0 rfl rfl 9 (by decide) f17 (fun _ h9 => h9) rfl hin rfl (by decide +kernel) rfl rfl (Nat.le_of_ble_eq_true rfl) dX11_init_22 (fun H locs hP hD hS => ?_)
  have hP : va_P g.1 vwCl [(m0, .inr (10, [.int 0, .int 0, .int 0, .int (-1), .int 0, .int 0, .int 0, .int 0, .ref q_1, .ref q_2, .null, .null, .null, .null, .int 0, .null, .null, .null, .null, .null, .null, .null, .null, .int 0, .int 0, .int 0, .int 0, .int 0, .int 0, .null, .null, .null, .null, .int 0, .null])), (aI g q_1 500 (fun _ => 0)), (aI g q_2 3 (fun _ => 0))] H := hP
  have hD : va_D A [(m0, .inr (10, [.int 0, .int 0, .int 0, .int (-1), .int 0, .int 0, .int 0, .int 0, .ref q_1, .ref q_2, .null, .null, .null, .null, .int 0, .null, .null, .null, .null, .null, .null, .null, .null, .int 0, .int 0, .int 0, .int 0, .int 0, .int 0, .null, .null, .null, .null, .int 0, .null])), (aI g q_1 500 (fun _ => 0)), (aI g q_2 3 (fun _ => 0))] := hD
  refine lv_aload_n hx hb dX11_init_25 rfl (lv_at hl 0 rfl) ?_
  refine lv_bipush (v := 25) hx hb dX11_init_26 (by decide) ?_
  refine he_newi hx hb harr_int hK hP hD hS hA 25 (by decide) (by decide) (by decide) (Nat.le_of_ble_eq_true rfl) (Nat.le_of_ble_eq_true rfl) dX11_init_28 (fun q_3 H hP hD hS => ?_)
  have hP : va_P g.1 vwCl [(m0, .inr (10, [.int 0, .int 0, .int 0, .int (-1), .int 0, .int 0, .int 0, .int 0, .ref q_1, .ref q_2, .null, .null, .null, .null, .int 0, .null, .null, .null, .null, .null, .null, .null, .null, .int 0, .int 0, .int 0, .int 0, .int 0, .int 0, .null, .null, .null, .null, .int 0, .null])), (aI g q_1 500 (fun _ => 0)), (aI g q_2 3 (fun _ => 0)), (aI g q_3 25 (fun _ => 0))] H := hP
  have hD : va_D A [(m0, .inr (10, [.int 0, .int 0, .int 0, .int (-1), .int 0, .int 0, .int 0, .int 0, .ref q_1, .ref q_2, .null, .null, .null, .null, .int 0, .null, .null, .null, .null, .null, .null, .null, .null, .int 0, .int 0, .int 0, .int 0, .int 0, .int 0, .null, .null, .null, .null, .int 0, .null])), (aI g q_1 500 (fun _ => 0)), (aI g q_2 3 (fun _ => 0)), (aI g q_3 25 (fun _ => 0))] := hD
  refine W.widen (k := 3) (n := 528) (Nat.le_of_ble_eq_true rfl) (Nat.le_of_ble_eq_true rfl) ?_
  refine va_putF (v := .ref q_3) (ty := tyX11 10) (T := TX11) (N := 35) hx hb hts inX11 tyX11 tyX11_ok nmX11 hown hK hP hD hS 0 rfl rfl 10 (by decide) f20 (fun _ h9 => h9) rfl hin rfl (by decide +kernel) rfl rfl (Nat.le_of_ble_eq_true rfl) dX11_init_30 (fun H locs hP hD hS => ?_)
  have hP : va_P g.1 vwCl [(m0, .inr (10, [.int 0, .int 0, .int 0, .int (-1), .int 0, .int 0, .int 0, .int 0, .ref q_1, .ref q_2, .ref q_3, .null, .null, .null, .int 0, .null, .null, .null, .null, .null, .null, .null, .null, .int 0, .int 0, .int 0, .int 0, .int 0, .int 0, .null, .null, .null, .null, .int 0, .null])), (aI g q_1 500 (fun _ => 0)), (aI g q_2 3 (fun _ => 0)), (aI g q_3 25 (fun _ => 0))] H := hP
  have hD : va_D A [(m0, .inr (10, [.int 0, .int 0, .int 0, .int (-1), .int 0, .int 0, .int 0, .int 0, .ref q_1, .ref q_2, .ref q_3, .null, .null, .null, .int 0, .null, .null, .null, .null, .null, .null, .null, .null, .int 0, .int 0, .int 0, .int 0, .int 0, .int 0, .null, .null, .null, .null, .int 0, .null])), (aI g q_1 500 (fun _ => 0)), (aI g q_2 3 (fun _ => 0)), (aI g q_3 25 (fun _ => 0))] := hD
  refine lv_aload_n hx hb dX11_init_33 rfl (lv_at hl 0 rfl) ?_
  refine lv_bipush (v := 25) hx hb dX11_init_34 (by decide) ?_
  refine he_newi hx hb harr_int hK hP hD hS hA 25 (by decide) (by decide) (by decide) (Nat.le_of_ble_eq_true rfl) (Nat.le_of_ble_eq_true rfl) dX11_init_36 (fun q_4 H hP hD hS => ?_)
  have hP : va_P g.1 vwCl [(m0, .inr (10, [.int 0, .int 0, .int 0, .int (-1), .int 0, .int 0, .int 0, .int 0, .ref q_1, .ref q_2, .ref q_3, .null, .null, .null, .int 0, .null, .null, .null, .null, .null, .null, .null, .null, .int 0, .int 0, .int 0, .int 0, .int 0, .int 0, .null, .null, .null, .null, .int 0, .null])), (aI g q_1 500 (fun _ => 0)), (aI g q_2 3 (fun _ => 0)), (aI g q_3 25 (fun _ => 0)), (aI g q_4 25 (fun _ => 0))] H := hP
  have hD : va_D A [(m0, .inr (10, [.int 0, .int 0, .int 0, .int (-1), .int 0, .int 0, .int 0, .int 0, .ref q_1, .ref q_2, .ref q_3, .null, .null, .null, .int 0, .null, .null, .null, .null, .null, .null, .null, .null, .int 0, .int 0, .int 0, .int 0, .int 0, .int 0, .null, .null, .null, .null, .int 0, .null])), (aI g q_1 500 (fun _ => 0)), (aI g q_2 3 (fun _ => 0)), (aI g q_3 25 (fun _ => 0)), (aI g q_4 25 (fun _ => 0))] := hD
  refine W.widen (k := 4) (n := 553) (Nat.le_of_ble_eq_true rfl) (Nat.le_of_ble_eq_true rfl) ?_
  refine va_putF (v := .ref q_4) (ty := tyX11 11) (T := TX11) (N := 35) hx hb hts inX11 tyX11 tyX11_ok nmX11 hown hK hP hD hS 0 rfl rfl 11 (by decide) f23 (fun _ h9 => h9) rfl hin rfl (by decide +kernel) rfl rfl (Nat.le_of_ble_eq_true rfl) dX11_init_38 (fun H locs hP hD hS => ?_)
  have hP : va_P g.1 vwCl [(m0, .inr (10, [.int 0, .int 0, .int 0, .int (-1), .int 0, .int 0, .int 0, .int 0, .ref q_1, .ref q_2, .ref q_3, .ref q_4, .null, .null, .int 0, .null, .null, .null, .null, .null, .null, .null, .null, .int 0, .int 0, .int 0, .int 0, .int 0, .int 0, .null, .null, .null, .null, .int 0, .null])), (aI g q_1 500 (fun _ => 0)), (aI g q_2 3 (fun _ => 0)), (aI g q_3 25 (fun _ => 0)), (aI g q_4 25 (fun _ => 0))] H := hP
  have hD : va_D A [(m0, .inr (10, [.int 0, .int 0, .int 0, .int (-1), .int 0, .int 0, .int 0, .int 0, .ref q_1, .ref q_2, .ref q_3, .ref q_4, .null, .null, .int 0, .null, .null, .null, .null, .null, .null, .null, .null, .int 0, .int 0, .int 0, .int 0, .int 0, .int 0, .null, .null, .null, .null, .int 0, .null])), (aI g q_1 500 (fun _ => 0)), (aI g q_2 3 (fun _ => 0)), (aI g q_3 25 (fun _ => 0)), (aI g q_4 25 (fun _ => 0))] := hD
  refine lv_aload_n hx hb dX11_init_41 rfl (lv_at hl 0 rfl) ?_
  refine lv_bipush (v := 6) hx hb dX11_init_42 (by decide) ?_
  refine lv_iconst (v := 2) hx hb dX11_init_44 (by decide) ?_
  have hP : va_P g.1 vwCl ([(m0, .inr (10, [.int 0, .int 0, .int 0, .int (-1), .int 0, .int 0, .int 0, .int 0, .ref q_1, .ref q_2, .ref q_3, .ref q_4, .null, .null, .int 0, .null, .null, .null, .null, .null, .null, .null, .null, .int 0, .int 0, .int 0, .int 0, .int 0, .int 0, .null, .null, .null, .null, .int 0, .null])), (aI g q_1 500 (fun _ => 0)), (aI g q_2 3 (fun _ => 0)), (aI g q_3 25 (fun _ => 0)), (aI g q_4 25 (fun _ => 0))] ++ he_pl g [] (fun _ => 0) (fun _ _ => 0)) H := hP
  have hD : va_D A ([(m0, .inr (10, [.int 0, .int 0, .int 0, .int (-1), .int 0, .int 0, .int 0, .int 0, .ref q_1, .ref q_2, .ref q_3, .ref q_4, .null, .null, .int 0, .null, .null, .null, .null, .null, .null, .null, .null, .int 0, .int 0, .int 0, .int 0, .int 0, .int 0, .null, .null, .null, .null, .int 0, .null])), (aI g q_1 500 (fun _ => 0)), (aI g q_2 3 (fun _ => 0)), (aI g q_3 25 (fun _ => 0)), (aI g q_4 25 (fun _ => 0))] ++ he_pl g [] (fun _ => 0) (fun _ _ => 0)) := hD
  refine he_mna hx hb hown cl26 hE.over.2.2 harr_int hK hP hD hS hA 6 2 (by decide) (by decide) (by decide) (by decide) (by decide) (by decide) (by decide) (Nat.le_of_ble_eq_true rfl) (Nat.le_of_ble_eq_true rfl) dX11_init_45 (fun q_5 r1 L1 ln1 M1 H k9 F_r1 N_r1 J_r1 hP hD hS => ?_)
  have hP : va_P g.1 vwCl ([(m0, .inr (10, [.int 0, .int 0, .int 0, .int (-1), .int 0, .int 0, .int 0, .int 0, .ref q_1, .ref q_2, .ref q_3, .ref q_4, .null, .null, .int 0, .null, .null, .null, .null, .null, .null, .null, .null, .int 0, .int 0, .int 0, .int 0, .int 0, .int 0, .null, .null, .null, .null, .int 0, .null])), (aI g q_1 500 (fun _ => 0)), (aI g q_2 3 (fun _ => 0)), (aI g q_3 25 (fun _ => 0)), (aI g q_4 25 (fun _ => 0)), (aM g q_5 6 (he_ro 6 r1))] ++ he_pl g L1 ln1 M1) H := hP
  have hD : va_D A ([(m0, .inr (10, [.int 0, .int 0, .int 0, .int (-1), .int 0, .int 0, .int 0, .int 0, .ref q_1, .ref q_2, .ref q_3, .ref q_4, .null, .null, .int 0, .null, .null, .null, .null, .null, .null, .null, .null, .int 0, .int 0, .int 0, .int 0, .int 0, .int 0, .null, .null, .null, .null, .int 0, .null])), (aI g q_1 500 (fun _ => 0)), (aI g q_2 3 (fun _ => 0)), (aI g q_3 25 (fun _ => 0)), (aI g q_4 25 (fun _ => 0)), (aM g q_5 6 (he_ro 6 r1))] ++ he_pl g L1 ln1 M1) := hD
  have K_r1 : ∀ i, i < 6 → r1 i ∈ L1 := fun i hi => (F_r1 i hi).1
  refine W.widen (k := 11) (n := 571) (Nat.le_of_ble_eq_true rfl) (Nat.le_of_ble_eq_true rfl) ?_
  refine va_putF (v := .ref q_5) (ty := tyX11 12) (T := TX11) (N := 35) hx hb hts inX11 tyX11 tyX11_ok nmX11 hown hK hP hD hS 0 rfl rfl 12 (by decide) f28 (fun _ h9 => h9) rfl hin rfl (by decide +kernel) rfl rfl (Nat.le_of_ble_eq_true rfl) dX11_init_49 (fun H locs hP hD hS => ?_)
  have hP : va_P g.1 vwCl ([(m0, .inr (10, [.int 0, .int 0, .int 0, .int (-1), .int 0, .int 0, .int 0, .int 0, .ref q_1, .ref q_2, .ref q_3, .ref q_4, .ref q_5, .null, .int 0, .null, .null, .null, .null, .null, .null, .null, .null, .int 0, .int 0, .int 0, .int 0, .int 0, .int 0, .null, .null, .null, .null, .int 0, .null])), (aI g q_1 500 (fun _ => 0)), (aI g q_2 3 (fun _ => 0)), (aI g q_3 25 (fun _ => 0)), (aI g q_4 25 (fun _ => 0)), (aM g q_5 6 (he_ro 6 r1))] ++ he_pl g L1 ln1 M1) H := hP
  have hD : va_D A ([(m0, .inr (10, [.int 0, .int 0, .int 0, .int (-1), .int 0, .int 0, .int 0, .int 0, .ref q_1, .ref q_2, .ref q_3, .ref q_4, .ref q_5, .null, .int 0, .null, .null, .null, .null, .null, .null, .null, .null, .int 0, .int 0, .int 0, .int 0, .int 0, .int 0, .null, .null, .null, .null, .int 0, .null])), (aI g q_1 500 (fun _ => 0)), (aI g q_2 3 (fun _ => 0)), (aI g q_3 25 (fun _ => 0)), (aI g q_4 25 (fun _ => 0)), (aM g q_5 6 (he_ro 6 r1))] ++ he_pl g L1 ln1 M1) := hD
  refine lv_aload_n hx hb dX11_init_52 rfl (lv_at hl 0 rfl) ?_
  refine lv_bipush (v := 6) hx hb dX11_init_53 (by decide) ?_
  refine lv_iconst (v := 2) hx hb dX11_init_55 (by decide) ?_
  refine he_mna hx hb hown cl26 hE.over.2.2 harr_int hK hP hD hS hA 6 2 (by decide) (by decide) (by decide) (by decide) (by decide) (by decide) (by decide) (Nat.le_of_ble_eq_true rfl) (Nat.le_of_ble_eq_true rfl) dX11_init_56 (fun q_6 r2 L2 ln2 M2 H k9 F_r2 N_r2 J_r2 hP hD hS => ?_)
  have hP : va_P g.1 vwCl ([(m0, .inr (10, [.int 0, .int 0, .int 0, .int (-1), .int 0, .int 0, .int 0, .int 0, .ref q_1, .ref q_2, .ref q_3, .ref q_4, .ref q_5, .null, .int 0, .null, .null, .null, .null, .null, .null, .null, .null, .int 0, .int 0, .int 0, .int 0, .int 0, .int 0, .null, .null, .null, .null, .int 0, .null])), (aI g q_1 500 (fun _ => 0)), (aI g q_2 3 (fun _ => 0)), (aI g q_3 25 (fun _ => 0)), (aI g q_4 25 (fun _ => 0)), (aM g q_5 6 (he_ro 6 r1)), (aM g q_6 6 (he_ro 6 r2))] ++ he_pl g L2 ln2 M2) H := hP
  have hD : va_D A ([(m0, .inr (10, [.int 0, .int 0, .int 0, .int (-1), .int 0, .int 0, .int 0, .int 0, .ref q_1, .ref q_2, .ref q_3, .ref q_4, .ref q_5, .null, .int 0, .null, .null, .null, .null, .null, .null, .null, .null, .int 0, .int 0, .int 0, .int 0, .int 0, .int 0, .null, .null, .null, .null, .int 0, .null])), (aI g q_1 500 (fun _ => 0)), (aI g q_2 3 (fun _ => 0)), (aI g q_3 25 (fun _ => 0)), (aI g q_4 25 (fun _ => 0)), (aM g q_5 6 (he_ro 6 r1)), (aM g q_6 6 (he_ro 6 r2))] ++ he_pl g L2 ln2 M2) := hD
  have F_r1 : ∀ i, i < 6 → r1 i ∈ L2 ∧ ln2 (r1 i) = 2 ∧ M2 (r1 i) = fun _ => 0 := fun i hi => he_lift k9 (F_r1 i hi)
  have D_r1_r2 : ∀ i j, i < 6 → j < 6 → r1 i ≠ r2 j := fun i j hi hj h9 => N_r2 j hj (by rw [← h9]; exact K_r1 i hi)
  have K_r1 : ∀ i, i < 6 → r1 i ∈ L2 := fun i hi => (F_r1 i hi).1
  have K_r2 : ∀ i, i < 6 → r2 i ∈ L2 := fun i hi => (F_r2 i hi).1
  refine W.widen (k := 18) (n := 589) (Nat.le_of_ble_eq_true rfl) (Nat.le_of_ble_eq_true rfl) ?_
  refine va_putF (v := .ref q_6) (ty := tyX11 13) (T := TX11) (N := 35) hx hb hts inX11 tyX11 tyX11_ok nmX11 hown hK hP hD hS 0 rfl rfl 13 (by decide) f31 (fun _ h9 => h9) rfl hin rfl (by decide +kernel) rfl rfl (Nat.le_of_ble_eq_true rfl) dX11_init_60 (fun H locs hP hD hS => ?_)
  have hP : va_P g.1 vwCl ([(m0, .inr (10, [.int 0, .int 0, .int 0, .int (-1), .int 0, .int 0, .int 0, .int 0, .ref q_1, .ref q_2, .ref q_3, .ref q_4, .ref q_5, .ref q_6, .int 0, .null, .null, .null, .null, .null, .null, .null, .null, .int 0, .int 0, .int 0, .int 0, .int 0, .int 0, .null, .null, .null, .null, .int 0, .null])), (aI g q_1 500 (fun _ => 0)), (aI g q_2 3 (fun _ => 0)), (aI g q_3 25 (fun _ => 0)), (aI g q_4 25 (fun _ => 0)), (aM g q_5 6 (he_ro 6 r1)), (aM g q_6 6 (he_ro 6 r2))] ++ he_pl g L2 ln2 M2) H := hP
  have hD : va_D A ([(m0, .inr (10, [.int 0, .int 0, .int 0, .int (-1), .int 0, .int 0, .int 0, .int 0, .ref q_1, .ref q_2, .ref q_3, .ref q_4, .ref q_5, .ref q_6, .int 0, .null, .null, .null, .null, .null, .null, .null, .null, .int 0, .int 0, .int 0, .int 0, .int 0, .int 0, .null, .null, .null, .null, .int 0, .null])), (aI g q_1 500 (fun _ => 0)), (aI g q_2 3 (fun _ => 0)), (aI g q_3 25 (fun _ => 0)), (aI g q_4 25 (fun _ => 0)), (aM g q_5 6 (he_ro 6 r1)), (aM g q_6 6 (he_ro 6 r2))] ++ he_pl g L2 ln2 M2) := hD
  refine lv_aload_n hx hb dX11_init_63 rfl (lv_at hl 0 rfl) ?_
  refine lv_bipush (v := 7) hx hb dX11_init_64 (by decide) ?_
  refine he_newi hx hb harr_int hK hP hD hS hA 7 (by decide) (by decide) (by decide) (Nat.le_of_ble_eq_true rfl) (Nat.le_of_ble_eq_true rfl) dX11_init_66 (fun q_7 H hP hD hS => ?_)
  have hP := va_P.swap hP
  have hD := va_D.swap hD
  have hP : va_P g.1 vwCl ([(m0, .inr (10, [.int 0, .int 0, .int 0, .int (-1), .int 0, .int 0, .int 0, .int 0, .ref q_1, .ref q_2, .ref q_3, .ref q_4, .ref q_5, .ref q_6, .int 0, .null, .null, .null, .null, .null, .null, .null, .null, .int 0, .int 0, .int 0, .int 0, .int 0, .int 0, .null, .null, .null, .null, .int 0, .null])), (aI g q_1 500 (fun _ => 0)), (aI g q_2 3 (fun _ => 0)), (aI g q_3 25 (fun _ => 0)), (aI g q_4 25 (fun _ => 0)), (aM g q_5 6 (he_ro 6 r1)), (aM g q_6 6 (he_ro 6 r2)), (aI g q_7 7 (fun _ => 0))] ++ he_pl g L2 ln2 M2) H := hP
  have hD : va_D A ([(m0, .inr (10, [.int 0, .int 0, .int 0, .int (-1), .int 0, .int 0, .int 0, .int 0, .ref q_1, .ref q_2, .ref q_3, .ref q_4, .ref q_5, .ref q_6, .int 0, .null, .null, .null, .null, .null, .null, .null, .null, .int 0, .int 0, .int 0, .int 0, .int 0, .int 0, .null, .null, .null, .null, .int 0, .null])), (aI g q_1 500 (fun _ => 0)), (aI g q_2 3 (fun _ => 0)), (aI g q_3 25 (fun _ => 0)), (aI g q_4 25 (fun _ => 0)), (aM g q_5 6 (he_ro 6 r1)), (aM g q_6 6 (he_ro 6 r2)), (aI g q_7 7 (fun _ => 0))] ++ he_pl g L2 ln2 M2) := hD
  refine W.widen (k := 19) (n := 596) (Nat.le_of_ble_eq_true rfl) (Nat.le_of_ble_eq_true rfl) ?_
  refine va_putF (v := .ref q_7) (ty := tyX11 15) (T := TX11) (N := 35) hx hb hts inX11 tyX11 tyX11_ok nmX11 hown hK hP hD hS 0 rfl rfl 15 (by decide) f34 (fun _ h9 => h9) rfl hin rfl (by decide +kernel) rfl rfl (Nat.le_of_ble_eq_true rfl) dX11_init_68 (fun H locs hP hD hS => ?_)
  have hP : va_P g.1 vwCl ([(m0, .inr (10, [.int 0, .int 0, .int 0, .int (-1), .int 0, .int 0, .int 0, .int 0, .ref q_1, .ref q_2, .ref q_3, .ref q_4, .ref q_5, .ref q_6, .int 0, .ref q_7, .null, .null, .null, .null, .null, .null, .null, .int 0, .int 0, .int 0, .int 0, .int 0, .int 0, .null, .null, .null, .null, .int 0, .null])), (aI g q_1 500 (fun _ => 0)), (aI g q_2 3 (fun _ => 0)), (aI g q_3 25 (fun _ => 0)), (aI g q_4 25 (fun _ => 0)), (aM g q_5 6 (he_ro 6 r1)), (aM g q_6 6 (he_ro 6 r2)), (aI g q_7 7 (fun _ => 0))] ++ he_pl g L2 ln2 M2) H := hP
  have hD : va_D A ([(m0, .inr (10, [.int 0, .int 0, .int 0, .int (-1), .int 0, .int 0, .int 0, .int 0, .ref q_1, .ref q_2, .ref q_3, .ref q_4, .ref q_5, .ref q_6, .int 0, .ref q_7, .null, .null, .null, .null, .null, .null, .null, .int 0, .int 0, .int 0, .int 0, .int 0, .int 0, .null, .null, .null, .null, .int 0, .null])), (aI g q_1 500 (fun _ => 0)), (aI g q_2 3 (fun _ => 0)), (aI g q_3 25 (fun _ => 0)), (aI g q_4 25 (fun _ => 0)), (aM g q_5 6 (he_ro 6 r1)), (aM g q_6 6 (he_ro 6 r2)), (aI g q_7 7 (fun _ => 0))] ++ he_pl g L2 ln2 M2) := hD
  refine lv_aload_n hx hb dX11_init_71 rfl (lv_at hl 0 rfl) ?_
  refine lv_bipush (v := 36) hx hb dX11_init_72 (by decide) ?_
  refine he_newi hx hb harr_int hK hP hD hS hA 36 (by decide) (by decide) (by decide) (Nat.le_of_ble_eq_true rfl) (Nat.le_of_ble_eq_true rfl) dX11_init_74 (fun q_8 H hP hD hS => ?_)
  have hP := va_P.swap hP
  have hD := va_D.swap hD
  have hP : va_P g.1 vwCl ([(m0, .inr (10, [.int 0, .int 0, .int 0, .int (-1), .int 0, .int 0, .int 0, .int 0, .ref q_1, .ref q_2, .ref q_3, .ref q_4, .ref q_5, .ref q_6, .int 0, .ref q_7, .null, .null, .null, .null, .null, .null, .null, .int 0, .int 0, .int 0, .int 0, .int 0, .int 0, .null, .null, .null, .null, .int 0, .null])), (aI g q_1 500 (fun _ => 0)), (aI g q_2 3 (fun _ => 0)), (aI g q_3 25 (fun _ => 0)), (aI g q_4 25 (fun _ => 0)), (aM g q_5 6 (he_ro 6 r1)), (aM g q_6 6 (he_ro 6 r2)), (aI g q_7 7 (fun _ => 0)), (aI g q_8 36 (fun _ => 0))] ++ he_pl g L2 ln2 M2) H := hP
  have hD : va_D A ([(m0, .inr (10, [.int 0, .int 0, .int 0, .int (-1), .int 0, .int 0, .int 0, .int 0, .ref q_1, .ref q_2, .ref q_3, .ref q_4, .ref q_5, .ref q_6, .int 0, .ref q_7, .null, .null, .null, .null, .null, .null, .null, .int 0, .int 0, .int 0, .int 0, .int 0, .int 0, .null, .null, .null, .null, .int 0, .null])), (aI g q_1 500 (fun _ => 0)), (aI g q_2 3 (fun _ => 0)), (aI g q_3 25 (fun _ => 0)), (aI g q_4 25 (fun _ => 0)), (aM g q_5 6 (he_ro 6 r1)), (aM g q_6 6 (he_ro 6 r2)), (aI g q_7 7 (fun _ => 0)), (aI g q_8 36 (fun _ => 0))] ++ he_pl g L2 ln2 M2) := hD
  refine W.widen (k := 20) (n := 632) (Nat.le_of_ble_eq_true rfl) (Nat.le_of_ble_eq_true rfl) ?_
  refine va_putF (v := .ref q_8) (ty := tyX11 16) (T := TX11) (N := 35) hx hb hts inX11 tyX11 tyX11_ok nmX11 hown hK hP hD hS 0 rfl rfl 16 (by decide) f37 (fun _ h9 => h9) rfl hin rfl (by decide +kernel) rfl rfl (Nat.le_of_ble_eq_true rfl) dX11_init_76 (fun H locs hP hD hS => ?_)
  have hP : va_P g.1 vwCl ([(m0, .inr (10, [.int 0, .int 0, .int 0, .int (-1), .int 0, .int 0, .int 0, .int 0, .ref q_1, .ref q_2, .ref q_3, .ref q_4, .ref q_5, .ref q_6, .int 0, .ref q_7, .ref q_8, .null, .null, .null, .null, .null, .null, .int 0, .int 0, .int 0, .int 0, .int 0, .int 0, .null, .null, .null, .null, .int 0, .null])), (aI g q_1 500 (fun _ => 0)), (aI g q_2 3 (fun _ => 0)), (aI g q_3 25 (fun _ => 0)), (aI g q_4 25 (fun _ => 0)), (aM g q_5 6 (he_ro 6 r1)), (aM g q_6 6 (he_ro 6 r2)), (aI g q_7 7 (fun _ => 0)), (aI g q_8 36 (fun _ => 0))] ++ he_pl g L2 ln2 M2) H := hP
  have hD : va_D A ([(m0, .inr (10, [.int 0, .int 0, .int 0, .int (-1), .int 0, .int 0, .int 0, .int 0, .ref q_1, .ref q_2, .ref q_3, .ref q_4, .ref q_5, .ref q_6, .int 0, .ref q_7, .ref q_8, .null, .null, .null, .null, .null, .null, .int 0, .int 0, .int 0, .int 0, .int 0, .int 0, .null, .null, .null, .null, .int 0, .null])), (aI g q_1 500 (fun _ => 0)), (aI g q_2 3 (fun _ => 0)), (aI g q_3 25 (fun _ => 0)), (aI g q_4 25 (fun _ => 0)), (aM g q_5 6 (he_ro 6 r1)), (aM g q_6 6 (he_ro 6 r2)), (aI g q_7 7 (fun _ => 0)), (aI g q_8 36 (fun _ => 0))] ++ he_pl g L2 ln2 M2) := hD
  refine lv_aload_n hx hb dX11_init_79 rfl (lv_at hl 0 rfl) ?_
  refine lv_bipush (v := 7) hx hb dX11_init_80 (by decide) ?_
  refine lv_bipush (v := 7) hx hb dX11_init_82 (by decide) ?_
  refine he_mna hx hb hown cl26 hE.over.2.2 harr_int hK hP hD hS hA 7 7 (by decide) (by decide) (by decide) (by decide) (by decide) (by decide) (by decide) (Nat.le_of_ble_eq_true rfl) (Nat.le_of_ble_eq_true rfl) dX11_init_84 (fun q_9 r3 L3 ln3 M3 H k9 F_r3 N_r3 J_r3 hP hD hS => ?_)
  have hP : va_P g.1 vwCl ([(m0, .inr (10, [.int 0, .int 0, .int 0, .int (-1), .int 0, .int 0, .int 0, .int 0, .ref q_1, .ref q_2, .ref q_3, .ref q_4, .ref q_5, .ref q_6, .int 0, .ref q_7, .ref q_8, .null, .null, .null, .null, .null, .null, .int 0, .int 0, .int 0, .int 0, .int 0, .int 0, .null, .null, .null, .null, .int 0, .null])), (aI g q_1 500 (fun _ => 0)), (aI g q_2 3 (fun _ => 0)), (aI g q_3 25 (fun _ => 0)), (aI g q_4 25 (fun _ => 0)), (aM g q_5 6 (he_ro 6 r1)), (aM g q_6 6 (he_ro 6 r2)), (aI g q_7 7 (fun _ => 0)), (aI g q_8 36 (fun _ => 0)), (aM g q_9 7 (he_ro 7 r3))] ++ he_pl g L3 ln3 M3) H := hP
  have hD : va_D A ([(m0, .inr (10, [.int 0, .int 0, .int 0, .int (-1), .int 0, .int 0, .int 0, .int 0, .ref q_1, .ref q_2, .ref q_3, .ref q_4, .ref q_5, .ref q_6, .int 0, .ref q_7, .ref q_8, .null, .null, .null, .null, .null, .null, .int 0, .int 0, .int 0, .int 0, .int 0, .int 0, .null, .null, .null, .null, .int 0, .null])), (aI g q_1 500 (fun _ => 0)), (aI g q_2 3 (fun _ => 0)), (aI g q_3 25 (fun _ => 0)), (aI g q_4 25 (fun _ => 0)), (aM g q_5 6 (he_ro 6 r1)), (aM g q_6 6 (he_ro 6 r2)), (aI g q_7 7 (fun _ => 0)), (aI g q_8 36 (fun _ => 0)), (aM g q_9 7 (he_ro 7 r3))] ++ he_pl g L3 ln3 M3) := hD
  have F_r1 : ∀ i, i < 6 → r1 i ∈ L3 ∧ ln3 (r1 i) = 2 ∧ M3 (r1 i) = fun _ => 0 := fun i hi => he_lift k9 (F_r1 i hi)
  have F_r2 : ∀ i, i < 6 → r2 i ∈ L3 ∧ ln3 (r2 i) = 2 ∧ M3 (r2 i) = fun _ => 0 := fun i hi => he_lift k9 (F_r2 i hi)
  have D_r1_r3 : ∀ i j, i < 6 → j < 7 → r1 i ≠ r3 j := fun i j hi hj h9 => N_r3 j hj (by rw [← h9]; exact K_r1 i hi)
  have D_r2_r3 : ∀ i j, i < 6 → j < 7 → r2 i ≠ r3 j := fun i j hi hj h9 => N_r3 j hj (by rw [← h9]; exact K_r2 i hi)
  have K_r1 : ∀ i, i < 6 → r1 i ∈ L3 := fun i hi => (F_r1 i hi).1
  have K_r2 : ∀ i, i < 6 → r2 i ∈ L3 := fun i hi => (F_r2 i hi).1
  have K_r3 : ∀ i, i < 7 → r3 i ∈ L3 := fun i hi => (F_r3 i hi).1
  refine W.widen (k := 28) (n := 688) (Nat.le_of_ble_eq_true rfl) (Nat.le_of_ble_eq_true rfl) ?_
  refine va_putF (v := .ref q_9) (ty := tyX11 17) (T := TX11) (N := 35) hx hb hts inX11 tyX11 tyX11_ok nmX11 hown hK hP hD hS 0 rfl rfl 17 (by decide) f40 (fun _ h9 => h9) rfl hin rfl (by decide +kernel) rfl rfl (Nat.le_of_ble_eq_true rfl) dX11_init_88 (fun H locs hP hD hS => ?_)
  have hP : va_P g.1 vwCl ([(m0, .inr (10, [.int 0, .int 0, .int 0, .int (-1), .int 0, .int 0, .int 0, .int 0, .ref q_1, .ref q_2, .ref q_3, .ref q_4, .ref q_5, .ref q_6, .int 0, .ref q_7, .ref q_8, .ref q_9, .null, .null, .null, .null, .null, .int 0, .int 0, .int 0, .int 0, .int 0, .int 0, .null, .null, .null, .null, .int 0, .null])), (aI g q_1 500 (fun _ => 0)), (aI g q_2 3 (fun _ => 0)), (aI g q_3 25 (fun _ => 0)), (aI g q_4 25 (fun _ => 0)), (aM g q_5 6 (he_ro 6 r1)), (aM g q_6 6 (he_ro 6 r2)), (aI g q_7 7 (fun _ => 0)), (aI g q_8 36 (fun _ => 0)), (aM g q_9 7 (he_ro 7 r3))] ++ he_pl g L3 ln3 M3) H := hP
  have hD : va_D A ([(m0, .inr (10, [.int 0, .int 0, .int 0, .int (-1), .int 0, .int 0, .int 0, .int 0, .ref q_1, .ref q_2, .ref q_3, .ref q_4, .ref q_5, .ref q_6, .int 0, .ref q_7, .ref q_8, .ref q_9, .null, .null, .null, .null, .null, .int 0, .int 0, .int 0, .int 0, .int 0, .int 0, .null, .null, .null, .null, .int 0, .null])), (aI g q_1 500 (fun _ => 0)), (aI g q_2 3 (fun _ => 0)), (aI g q_3 25 (fun _ => 0)), (aI g q_4 25 (fun _ => 0)), (aM g q_5 6 (he_ro 6 r1)), (aM g q_6 6 (he_ro 6 r2)), (aI g q_7 7 (fun _ => 0)), (aI g q_8 36 (fun _ => 0)), (aM g q_9 7 (he_ro 7 r3))] ++ he_pl g L3 ln3 M3) := hD
  refine lv_aload_n hx hb dX11_init_91 rfl (lv_at hl 0 rfl) ?_
  refine lv_bipush (v := 7) hx hb dX11_init_92 (by decide) ?_
  refine lv_bipush (v := 36) hx hb dX11_init_94 (by decide) ?_
  refine he_mna hx hb hown cl26 hE.over.2.2 harr_int hK hP hD hS hA 7 36 (by decide) (by decide) (by decide) (by decide) (by decide) (by decide) (by decide) (Nat.le_of_ble_eq_true rfl) (Nat.le_of_ble_eq_true rfl) dX11_init_96 (fun q_10 r4 L4 ln4 M4 H k9 F_r4 N_r4 J_r4 hP hD hS => ?_)
  have hP : va_P g.1 vwCl ([(m0, .inr (10, [.int 0, .int 0, .int 0, .int (-1), .int 0, .int 0, .int 0, .int 0, .ref q_1, .ref q_2, .ref q_3, .ref q_4, .ref q_5, .ref q_6, .int 0, .ref q_7, .ref q_8, .ref q_9, .null, .null, .null, .null, .null, .int 0, .int 0, .int 0, .int 0, .int 0, .int 0, .null, .null, .null, .null, .int 0, .null])), (aI g q_1 500 (fun _ => 0)), (aI g q_2 3 (fun _ => 0)), (aI g q_3 25 (fun _ => 0)), (aI g q_4 25 (fun _ => 0)), (aM g q_5 6 (he_ro 6 r1)), (aM g q_6 6 (he_ro 6 r2)), (aI g q_7 7 (fun _ => 0)), (aI g q_8 36 (fun _ => 0)), (aM g q_9 7 (he_ro 7 r3)), (aM g q_10 7 (he_ro 7 r4))] ++ he_pl g L4 ln4 M4) H := hP
  have hD : va_D A ([(m0, .inr (10, [.int 0, .int 0, .int 0, .int (-1), .int 0, .int 0, .int 0, .int 0, .ref q_1, .ref q_2, .ref q_3, .ref q_4, .ref q_5, .ref q_6, .int 0, .ref q_7, .ref q_8, .ref q_9, .null, .null, .null, .null, .null, .int 0, .int 0, .int 0, .int 0, .int 0, .int 0, .null, .null, .null, .null, .int 0, .null])), (aI g q_1 500 (fun _ => 0)), (aI g q_2 3 (fun _ => 0)), (aI g q_3 25 (fun _ => 0)), (aI g q_4 25 (fun _ => 0)), (aM g q_5 6 (he_ro 6 r1)), (aM g q_6 6 (he_ro 6 r2)), (aI g q_7 7 (fun _ => 0)), (aI g q_8 36 (fun _ => 0)), (aM g q_9 7 (he_ro 7 r3)), (aM g q_10 7 (he_ro 7 r4))] ++ he_pl g L4 ln4 M4) := hD
  have F_r1 : ∀ i, i < 6 → r1 i ∈ L4 ∧ ln4 (r1 i) = 2 ∧ M4 (r1 i) = fun _ => 0 := fun i hi => he_lift k9 (F_r1 i hi)
  have F_r2 : ∀ i, i < 6 → r2 i ∈ L4 ∧ ln4 (r2 i) = 2 ∧ M4 (r2 i) = fun _ => 0 := fun i hi => he_lift k9 (F_r2 i hi)
  have F_r3 : ∀ i, i < 7 → r3 i ∈ L4 ∧ ln4 (r3 i) = 7 ∧ M4 (r3 i) = fun _ => 0 := fun i hi => he_lift k9 (F_r3 i hi)
  have D_r1_r4 : ∀ i j, i < 6 → j < 7 → r1 i ≠ r4 j := fun i j hi hj h9 => N_r4 j hj (by rw [← h9]; exact K_r1 i hi)
  have D_r2_r4 : ∀ i j, i < 6 → j < 7 → r2 i ≠ r4 j := fun i j hi hj h9 => N_r4 j hj (by rw [← h9]; exact K_r2 i hi)
  have D_r3_r4 : ∀ i j, i < 7 → j < 7 → r3 i ≠ r4 j := fun i j hi hj h9 => N_r4 j hj (by rw [← h9]; exact K_r3 i hi)
  have K_r1 : ∀ i, i < 6 → r1 i ∈ L4 := fun i hi => (F_r1 i hi).1
  have K_r2 : ∀ i, i < 6 → r2 i ∈ L4 := fun i hi => (F_r2 i hi).1
  have K_r3 : ∀ i, i < 7 → r3 i ∈ L4 := fun i hi => (F_r3 i hi).1
  have K_r4 : ∀ i, i < 7 → r4 i ∈ L4 := fun i hi => (F_r4 i hi).1
  refine W.widen (k := 36) (n := 947) (Nat.le_of_ble_eq_true rfl) (Nat.le_of_ble_eq_true rfl) ?_
  refine va_putF (v := .ref q_10) (ty := tyX11 18) (T := TX11) (N := 35) hx hb hts inX11 tyX11 tyX11_ok nmX11 hown hK hP hD hS 0 rfl rfl 18 (by decide) f43 (fun _ h9 => h9) rfl hin rfl (by decide +kernel) rfl rfl (Nat.le_of_ble_eq_true rfl) dX11_init_100 (fun H locs hP hD hS => ?_)
  have hP : va_P g.1 vwCl ([(m0, .inr (10, [.int 0, .int 0, .int 0, .int (-1), .int 0, .int 0, .int 0, .int 0, .ref q_1, .ref q_2, .ref q_3, .ref q_4, .ref q_5, .ref q_6, .int 0, .ref q_7, .ref q_8, .ref q_9, .ref q_10, .null, .null, .null, .null, .int 0, .int 0, .int 0, .int 0, .int 0, .int 0, .null, .null, .null, .null, .int 0, .null])), (aI g q_1 500 (fun _ => 0)), (aI g q_2 3 (fun _ => 0)), (aI g q_3 25 (fun _ => 0)), (aI g q_4 25 (fun _ => 0)), (aM g q_5 6 (he_ro 6 r1)), (aM g q_6 6 (he_ro 6 r2)), (aI g q_7 7 (fun _ => 0)), (aI g q_8 36 (fun _ => 0)), (aM g q_9 7 (he_ro 7 r3)), (aM g q_10 7 (he_ro 7 r4))] ++ he_pl g L4 ln4 M4) H := hP
  have hD : va_D A ([(m0, .inr (10, [.int 0, .int 0, .int 0, .int (-1), .int 0, .int 0, .int 0, .int 0, .ref q_1, .ref q_2, .ref q_3, .ref q_4, .ref q_5, .ref q_6, .int 0, .ref q_7, .ref q_8, .ref q_9, .ref q_10, .null, .null, .null, .null, .int 0, .int 0, .int 0, .int 0, .int 0, .int 0, .null, .null, .null, .null, .int 0, .null])), (aI g q_1 500 (fun _ => 0)), (aI g q_2 3 (fun _ => 0)), (aI g q_3 25 (fun _ => 0)), (aI g q_4 25 (fun _ => 0)), (aM g q_5 6 (he_ro 6 r1)), (aM g q_6 6 (he_ro 6 r2)), (aI g q_7 7 (fun _ => 0)), (aI g q_8 36 (fun _ => 0)), (aM g q_9 7 (he_ro 7 r3)), (aM g q_10 7 (he_ro 7 r4))] ++ he_pl g L4 ln4 M4) := hD
  refine lv_aload_n hx hb dX11_init_103 rfl (lv_at hl 0 rfl) ?_
  refine lv_bipush (v := 25) hx hb dX11_init_104 (by decide) ?_
  refine he_newi hx hb harr_int hK hP hD hS hA 25 (by decide) (by decide) (by decide) (Nat.le_of_ble_eq_true rfl) (Nat.le_of_ble_eq_true rfl) dX11_init_106 (fun q_11 H hP hD hS => ?_)
  have hP := va_P.swap hP
  have hD := va_D.swap hD
  have hP : va_P g.1 vwCl ([(m0, .inr (10, [.int 0, .int 0, .int 0, .int (-1), .int 0, .int 0, .int 0, .int 0, .ref q_1, .ref q_2, .ref q_3, .ref q_4, .ref q_5, .ref q_6, .int 0, .ref q_7, .ref q_8, .ref q_9, .ref q_10, .null, .null, .null, .null, .int 0, .int 0, .int 0, .int 0, .int 0, .int 0, .null, .null, .null, .null, .int 0, .null])), (aI g q_1 500 (fun _ => 0)), (aI g q_2 3 (fun _ => 0)), (aI g q_3 25 (fun _ => 0)), (aI g q_4 25 (fun _ => 0)), (aM g q_5 6 (he_ro 6 r1)), (aM g q_6 6 (he_ro 6 r2)), (aI g q_7 7 (fun _ => 0)), (aI g q_8 36 (fun _ => 0)), (aM g q_9 7 (he_ro 7 r3)), (aM g q_10 7 (he_ro 7 r4)), (aI g q_11 25 (fun _ => 0))] ++ he_pl g L4 ln4 M4) H := hP
  have hD : va_D A ([(m0, .inr (10, [.int 0, .int 0, .int 0, .int (-1), .int 0, .int 0, .int 0, .int 0, .ref q_1, .ref q_2, .ref q_3, .ref q_4, .ref q_5, .ref q_6, .int 0, .ref q_7, .ref q_8, .ref q_9, .ref q_10, .null, .null, .null, .null, .int 0, .int 0, .int 0, .int 0, .int 0, .int 0, .null, .null, .null, .null, .int 0, .null])), (aI g q_1 500 (fun _ => 0)), (aI g q_2 3 (fun _ => 0)), (aI g q_3 25 (fun _ => 0)), (aI g q_4 25 (fun _ => 0)), (aM g q_5 6 (he_ro 6 r1)), (aM g q_6 6 (he_ro 6 r2)), (aI g q_7 7 (fun _ => 0)), (aI g q_8 36 (fun _ => 0)), (aM g q_9 7 (he_ro 7 r3)), (aM g q_10 7 (he_ro 7 r4)), (aI g q_11 25 (fun _ => 0))] ++ he_pl g L4 ln4 M4) := hD
  refine W.widen (k := 37) (n := 972) (Nat.le_of_ble_eq_true rfl) (Nat.le_of_ble_eq_true rfl) ?_
  refine va_putF (v := .ref q_11) (ty := tyX11 19) (T := TX11) (N := 35) hx hb hts inX11 tyX11 tyX11_ok nmX11 hown hK hP hD hS 0 rfl rfl 19 (by decide) f46 (fun _ h9 => h9) rfl hin rfl (by decide +kernel) rfl rfl (Nat.le_of_ble_eq_true rfl) dX11_init_108 (fun H locs hP hD hS => ?_)
  have hP : va_P g.1 vwCl ([(m0, .inr (10, [.int 0, .int 0, .int 0, .int (-1), .int 0, .int 0, .int 0, .int 0, .ref q_1, .ref q_2, .ref q_3, .ref q_4, .ref q_5, .ref q_6, .int 0, .ref q_7, .ref q_8, .ref q_9, .ref q_10, .ref q_11, .null, .null, .null, .int 0, .int 0, .int 0, .int 0, .int 0, .int 0, .null, .null, .null, .null, .int 0, .null])), (aI g q_1 500 (fun _ => 0)), (aI g q_2 3 (fun _ => 0)), (aI g q_3 25 (fun _ => 0)), (aI g q_4 25 (fun _ => 0)), (aM g q_5 6 (he_ro 6 r1)), (aM g q_6 6 (he_ro 6 r2)), (aI g q_7 7 (fun _ => 0)), (aI g q_8 36 (fun _ => 0)), (aM g q_9 7 (he_ro 7 r3)), (aM g q_10 7 (he_ro 7 r4)), (aI g q_11 25 (fun _ => 0))] ++ he_pl g L4 ln4 M4) H := hP
  have hD : va_D A ([(m0, .inr (10, [.int 0, .int 0, .int 0, .int (-1), .int 0, .int 0, .int 0, .int 0, .ref q_1, .ref q_2, .ref q_3, .ref q_4, .ref q_5, .ref q_6, .int 0, .ref q_7, .ref q_8, .ref q_9, .ref q_10, .ref q_11, .null, .null, .null, .int 0, .int 0, .int 0, .int 0, .int 0, .int 0, .null, .null, .null, .null, .int 0, .null])), (aI g q_1 500 (fun _ => 0)), (aI g q_2 3 (fun _ => 0)), (aI g q_3 25 (fun _ => 0)), (aI g q_4 25 (fun _ => 0)), (aM g q_5 6 (he_ro 6 r1)), (aM g q_6 6 (he_ro 6 r2)), (aI g q_7 7 (fun _ => 0)), (aI g q_8 36 (fun _ => 0)), (aM g q_9 7 (he_ro 7 r3)), (aM g q_10 7 (he_ro 7 r4)), (aI g q_11 25 (fun _ => 0))] ++ he_pl g L4 ln4 M4) := hD
  refine lv_aload_n hx hb dX11_init_111 rfl (lv_at hl 0 rfl) ?_
  refine lv_bipush (v := 25) hx hb dX11_init_112 (by decide) ?_
  refine he_newi hx hb harr_int hK hP hD hS hA 25 (by decide) (by decide) (by decide) (Nat.le_of_ble_eq_true rfl) (Nat.le_of_ble_eq_true rfl) dX11_init_114 (fun q_12 H hP hD hS => ?_)
  have hP := va_P.swap hP
  have hD := va_D.swap hD
  have hP : va_P g.1 vwCl ([(m0, .inr (10, [.int 0, .int 0, .int 0, .int (-1), .int 0, .int 0, .int 0, .int 0, .ref q_1, .ref q_2, .ref q_3, .ref q_4, .ref q_5, .ref q_6, .int 0, .ref q_7, .ref q_8, .ref q_9, .ref q_10, .ref q_11, .null, .null, .null, .int 0, .int 0, .int 0, .int 0, .int 0, .int 0, .null, .null, .null, .null, .int 0, .null])), (aI g q_1 500 (fun _ => 0)), (aI g q_2 3 (fun _ => 0)), (aI g q_3 25 (fun _ => 0)), (aI g q_4 25 (fun _ => 0)), (aM g q_5 6 (he_ro 6 r1)), (aM g q_6 6 (he_ro 6 r2)), (aI g q_7 7 (fun _ => 0)), (aI g q_8 36 (fun _ => 0)), (aM g q_9 7 (he_ro 7 r3)), (aM g q_10 7 (he_ro 7 r4)), (aI g q_11 25 (fun _ => 0)), (aI g q_12 25 (fun _ => 0))] ++ he_pl g L4 ln4 M4) H := hP
  have hD : va_D A ([(m0, .inr (10, [.int 0, .int 0, .int 0, .int (-1), .int 0, .int 0, .int 0, .int 0, .ref q_1, .ref q_2, .ref q_3, .ref q_4, .ref q_5, .ref q_6, .int 0, .ref q_7, .ref q_8, .ref q_9, .ref q_10, .ref q_11, .null, .null, .null, .int 0, .int 0, .int 0, .int 0, .int 0, .int 0, .null, .null, .null, .null, .int 0, .null])), (aI g q_1 500 (fun _ => 0)), (aI g q_2 3 (fun _ => 0)), (aI g q_3 25 (fun _ => 0)), (aI g q_4 25 (fun _ => 0)), (aM g q_5 6 (he_ro 6 r1)), (aM g q_6 6 (he_ro 6 r2)), (aI g q_7 7 (fun _ => 0)), (aI g q_8 36 (fun _ => 0)), (aM g q_9 7 (he_ro 7 r3)), (aM g q_10 7 (he_ro 7 r4)), (aI g q_11 25 (fun _ => 0)), (aI g q_12 25 (fun _ => 0))] ++ he_pl g L4 ln4 M4) := hD
  refine W.widen (k := 38) (n := 997) (Nat.le_of_ble_eq_true rfl) (Nat.le_of_ble_eq_true rfl) ?_
  refine va_putF (v := .ref q_12) (ty := tyX11 20) (T := TX11) (N := 35) hx hb hts inX11 tyX11 tyX11_ok nmX11 hown hK hP hD hS 0 rfl rfl 20 (by decide) f49 (fun _ h9 => h9) rfl hin rfl (by decide +kernel) rfl rfl (Nat.le_of_ble_eq_true rfl) dX11_init_116 (fun H locs hP hD hS => ?_)
  have hP : va_P g.1 vwCl ([(m0, .inr (10, [.int 0, .int 0, .int 0, .int (-1), .int 0, .int 0, .int 0, .int 0, .ref q_1, .ref q_2, .ref q_3, .ref q_4, .ref q_5, .ref q_6, .int 0, .ref q_7, .ref q_8, .ref q_9, .ref q_10, .ref q_11, .ref q_12, .null, .null, .int 0, .int 0, .int 0, .int 0, .int 0, .int 0, .null, .null, .null, .null, .int 0, .null])), (aI g q_1 500 (fun _ => 0)), (aI g q_2 3 (fun _ => 0)), (aI g q_3 25 (fun _ => 0)), (aI g q_4 25 (fun _ => 0)), (aM g q_5 6 (he_ro 6 r1)), (aM g q_6 6 (he_ro 6 r2)), (aI g q_7 7 (fun _ => 0)), (aI g q_8 36 (fun _ => 0)), (aM g q_9 7 (he_ro 7 r3)), (aM g q_10 7 (he_ro 7 r4)), (aI g q_11 25 (fun _ => 0)), (aI g q_12 25 (fun _ => 0))] ++ he_pl g L4 ln4 M4) H := hP
  have hD : va_D A ([(m0, .inr (10, [.int 0, .int 0, .int 0, .int (-1), .int 0, .int 0, .int 0, .int 0, .ref q_1, .ref q_2, .ref q_3, .ref q_4, .ref q_5, .ref q_6, .int 0, .ref q_7, .ref q_8, .ref q_9, .ref q_10, .ref q_11, .ref q_12, .null, .null, .int 0, .int 0, .int 0, .int 0, .int 0, .int 0, .null, .null, .null, .null, .int 0, .null])), (aI g q_1 500 (fun _ => 0)), (aI g q_2 3 (fun _ => 0)), (aI g q_3 25 (fun _ => 0)), (aI g q_4 25 (fun _ => 0)), (aM g q_5 6 (he_ro 6 r1)), (aM g q_6 6 (he_ro 6 r2)), (aI g q_7 7 (fun _ => 0)), (aI g q_8 36 (fun _ => 0)), (aM g q_9 7 (he_ro 7 r3)), (aM g q_10 7 (he_ro 7 r4)), (aI g q_11 25 (fun _ => 0)), (aI g q_12 25 (fun _ => 0))] ++ he_pl g L4 ln4 M4) := hD
  refine lv_aload_n hx hb dX11_init_119 rfl (lv_at hl 0 rfl) ?_
  refine lv_bipush (v := 121) hx hb dX11_init_120 (by decide) ?_
  refine lv_bipush (v := 25) hx hb dX11_init_122 (by decide) ?_
  refine he_mna hx hb hown cl26 hE.over.2.2 harr_int hK hP hD hS hA 121 25 (by decide) (by decide) (by decide) (by decide) (by decide) (by decide) (by decide) (Nat.le_of_ble_eq_true rfl) (Nat.le_of_ble_eq_true rfl) dX11_init_124 (fun q_13 r5 L5 ln5 M5 H k9 F_r5 N_r5 J_r5 hP hD hS => ?_)
  have hP : va_P g.1 vwCl ([(m0, .inr (10, [.int 0, .int 0, .int 0, .int (-1), .int 0, .int 0, .int 0, .int 0, .ref q_1, .ref q_2, .ref q_3, .ref q_4, .ref q_5, .ref q_6, .int 0, .ref q_7, .ref q_8, .ref q_9, .ref q_10, .ref q_11, .ref q_12, .null, .null, .int 0, .int 0, .int 0, .int 0, .int 0, .int 0, .null, .null, .null, .null, .int 0, .null])), (aI g q_1 500 (fun _ => 0)), (aI g q_2 3 (fun _ => 0)), (aI g q_3 25 (fun _ => 0)), (aI g q_4 25 (fun _ => 0)), (aM g q_5 6 (he_ro 6 r1)), (aM g q_6 6 (he_ro 6 r2)), (aI g q_7 7 (fun _ => 0)), (aI g q_8 36 (fun _ => 0)), (aM g q_9 7 (he_ro 7 r3)), (aM g q_10 7 (he_ro 7 r4)), (aI g q_11 25 (fun _ => 0)), (aI g q_12 25 (fun _ => 0)), (aM g q_13 121 (he_ro 121 r5))] ++ he_pl g L5 ln5 M5) H := hP
  have hD : va_D A ([(m0, .inr (10, [.int 0, .int 0, .int 0, .int (-1), .int 0, .int 0, .int 0, .int 0, .ref q_1, .ref q_2, .ref q_3, .ref q_4, .ref q_5, .ref q_6, .int 0, .ref q_7, .ref q_8, .ref q_9, .ref q_10, .ref q_11, .ref q_12, .null, .null, .int 0, .int 0, .int 0, .int 0, .int 0, .int 0, .null, .null, .null, .null, .int 0, .null])), (aI g q_1 500 (fun _ => 0)), (aI g q_2 3 (fun _ => 0)), (aI g q_3 25 (fun _ => 0)), (aI g q_4 25 (fun _ => 0)), (aM g q_5 6 (he_ro 6 r1)), (aM g q_6 6 (he_ro 6 r2)), (aI g q_7 7 (fun _ => 0)), (aI g q_8 36 (fun _ => 0)), (aM g q_9 7 (he_ro 7 r3)), (aM g q_10 7 (he_ro 7 r4)), (aI g q_11 25 (fun _ => 0)), (aI g q_12 25 (fun _ => 0)), (aM g q_13 121 (he_ro 121 r5))] ++ he_pl g L5 ln5 M5) := hD
  have F_r1 : ∀ i, i < 6 → r1 i ∈ L5 ∧ ln5 (r1 i) = 2 ∧ M5 (r1 i) = fun _ => 0 := fun i hi => he_lift k9 (F_r1 i hi)
  have F_r2 : ∀ i, i < 6 → r2 i ∈ L5 ∧ ln5 (r2 i) = 2 ∧ M5 (r2 i) = fun _ => 0 := fun i hi => he_lift k9 (F_r2 i hi)
  have F_r3 : ∀ i, i < 7 → r3 i ∈ L5 ∧ ln5 (r3 i) = 7 ∧ M5 (r3 i) = fun _ => 0 := fun i hi => he_lift k9 (F_r3 i hi)
  have F_r4 : ∀ i, i < 7 → r4 i ∈ L5 ∧ ln5 (r4 i) = 36 ∧ M5 (r4 i) = fun _ => 0 := fun i hi => he_lift k9 (F_r4 i hi)
  have D_r1_r5 : ∀ i j, i < 6 → j < 121 → r1 i ≠ r5 j := fun i j hi hj h9 => N_r5 j hj (by rw [← h9]; exact K_r1 i hi)
  have D_r2_r5 : ∀ i j, i < 6 → j < 121 → r2 i ≠ r5 j := fun i j hi hj h9 => N_r5 j hj (by rw [← h9]; exact K_r2 i hi)
  have D_r3_r5 : ∀ i j, i < 7 → j < 121 → r3 i ≠ r5 j := fun i j hi hj h9 => N_r5 j hj (by rw [← h9]; exact K_r3 i hi)
  have D_r4_r5 : ∀ i j, i < 7 → j < 121 → r4 i ≠ r5 j := fun i j hi hj h9 => N_r5 j hj (by rw [← h9]; exact K_r4 i hi)
  have K_r1 : ∀ i, i < 6 → r1 i ∈ L5 := fun i hi => (F_r1 i hi).1
  have K_r2 : ∀ i, i < 6 → r2 i ∈ L5 := fun i hi => (F_r2 i hi).1
  have K_r3 : ∀ i, i < 7 → r3 i ∈ L5 := fun i hi => (F_r3 i hi).1
  have K_r4 : ∀ i, i < 7 → r4 i ∈ L5 := fun i hi => (F_r4 i hi).1
  have K_r5 : ∀ i, i < 121 → r5 i ∈ L5 := fun i hi => (F_r5 i hi).1
  refine W.widen (k := 160) (n := 4143) (Nat.le_of_ble_eq_true rfl) (Nat.le_of_ble_eq_true rfl) ?_
  refine va_putF (v := .ref q_13) (ty := tyX11 21) (T := TX11) (N := 35) hx hb hts inX11 tyX11 tyX11_ok nmX11 hown hK hP hD hS 0 rfl rfl 21 (by decide) f52 (fun _ h9 => h9) rfl hin rfl (by decide +kernel) rfl rfl (Nat.le_of_ble_eq_true rfl) dX11_init_128 (fun H locs hP hD hS => ?_)
  have hP : va_P g.1 vwCl ([(m0, .inr (10, [.int 0, .int 0, .int 0, .int (-1), .int 0, .int 0, .int 0, .int 0, .ref q_1, .ref q_2, .ref q_3, .ref q_4, .ref q_5, .ref q_6, .int 0, .ref q_7, .ref q_8, .ref q_9, .ref q_10, .ref q_11, .ref q_12, .ref q_13, .null, .int 0, .int 0, .int 0, .int 0, .int 0, .int 0, .null, .null, .null, .null, .int 0, .null])), (aI g q_1 500 (fun _ => 0)), (aI g q_2 3 (fun _ => 0)), (aI g q_3 25 (fun _ => 0)), (aI g q_4 25 (fun _ => 0)), (aM g q_5 6 (he_ro 6 r1)), (aM g q_6 6 (he_ro 6 r2)), (aI g q_7 7 (fun _ => 0)), (aI g q_8 36 (fun _ => 0)), (aM g q_9 7 (he_ro 7 r3)), (aM g q_10 7 (he_ro 7 r4)), (aI g q_11 25 (fun _ => 0)), (aI g q_12 25 (fun _ => 0)), (aM g q_13 121 (he_ro 121 r5))] ++ he_pl g L5 ln5 M5) H := hP
  have hD : va_D A ([(m0, .inr (10, [.int 0, .int 0, .int 0, .int (-1), .int 0, .int 0, .int 0, .int 0, .ref q_1, .ref q_2, .ref q_3, .ref q_4, .ref q_5, .ref q_6, .int 0, .ref q_7, .ref q_8, .ref q_9, .ref q_10, .ref q_11, .ref q_12, .ref q_13, .null, .int 0, .int 0, .int 0, .int 0, .int 0, .int 0, .null, .null, .null, .null, .int 0, .null])), (aI g q_1 500 (fun _ => 0)), (aI g q_2 3 (fun _ => 0)), (aI g q_3 25 (fun _ => 0)), (aI g q_4 25 (fun _ => 0)), (aM g q_5 6 (he_ro 6 r1)), (aM g q_6 6 (he_ro 6 r2)), (aI g q_7 7 (fun _ => 0)), (aI g q_8 36 (fun _ => 0)), (aM g q_9 7 (he_ro 7 r3)), (aM g q_10 7 (he_ro 7 r4)), (aI g q_11 25 (fun _ => 0)), (aI g q_12 25 (fun _ => 0)), (aM g q_13 121 (he_ro 121 r5))] ++ he_pl g L5 ln5 M5) := hD
  refine lv_aload_n hx hb dX11_init_131 rfl (lv_at hl 0 rfl) ?_
  refine lv_bipush (v := 120) hx hb dX11_init_132 (by decide) ?_
  refine lv_bipush (v := 6) hx hb dX11_init_134 (by decide) ?_
  refine he_mna hx hb hown cl26 hE.over.2.2 harr_int hK hP hD hS hA 120 6 (by decide) (by decide) (by decide) (by decide) (by decide) (by decide) (by decide) (Nat.le_of_ble_eq_true rfl) (Nat.le_of_ble_eq_true rfl) dX11_init_136 (fun q_14 r6 L6 ln6 M6 H k9 F_r6 N_r6 J_r6 hP hD hS => ?_)
  have hP : va_P g.1 vwCl ([(m0, .inr (10, [.int 0, .int 0, .int 0, .int (-1), .int 0, .int 0, .int 0, .int 0, .ref q_1, .ref q_2, .ref q_3, .ref q_4, .ref q_5, .ref q_6, .int 0, .ref q_7, .ref q_8, .ref q_9, .ref q_10, .ref q_11, .ref q_12, .ref q_13, .null, .int 0, .int 0, .int 0, .int 0, .int 0, .int 0, .null, .null, .null, .null, .int 0, .null])), (aI g q_1 500 (fun _ => 0)), (aI g q_2 3 (fun _ => 0)), (aI g q_3 25 (fun _ => 0)), (aI g q_4 25 (fun _ => 0)), (aM g q_5 6 (he_ro 6 r1)), (aM g q_6 6 (he_ro 6 r2)), (aI g q_7 7 (fun _ => 0)), (aI g q_8 36 (fun _ => 0)), (aM g q_9 7 (he_ro 7 r3)), (aM g q_10 7 (he_ro 7 r4)), (aI g q_11 25 (fun _ => 0)), (aI g q_12 25 (fun _ => 0)), (aM g q_13 121 (he_ro 121 r5)), (aM g q_14 120 (he_ro 120 r6))] ++ he_pl g L6 ln6 M6) H := hP
  have hD : va_D A ([(m0, .inr (10, [.int 0, .int 0, .int 0, .int (-1), .int 0, .int 0, .int 0, .int 0, .ref q_1, .ref q_2, .ref q_3, .ref q_4, .ref q_5, .ref q_6, .int 0, .ref q_7, .ref q_8, .ref q_9, .ref q_10, .ref q_11, .ref q_12, .ref q_13, .null, .int 0, .int 0, .int 0, .int 0, .int 0, .int 0, .null, .null, .null, .null, .int 0, .null])), (aI g q_1 500 (fun _ => 0)), (aI g q_2 3 (fun _ => 0)), (aI g q_3 25 (fun _ => 0)), (aI g q_4 25 (fun _ => 0)), (aM g q_5 6 (he_ro 6 r1)), (aM g q_6 6 (he_ro 6 r2)), (aI g q_7 7 (fun _ => 0)), (aI g q_8 36 (fun _ => 0)), (aM g q_9 7 (he_ro 7 r3)), (aM g q_10 7 (he_ro 7 r4)), (aI g q_11 25 (fun _ => 0)), (aI g q_12 25 (fun _ => 0)), (aM g q_13 121 (he_ro 121 r5)), (aM g q_14 120 (he_ro 120 r6))] ++ he_pl g L6 ln6 M6) := hD
  have F_r1 : ∀ i, i < 6 → r1 i ∈ L6 ∧ ln6 (r1 i) = 2 ∧ M6 (r1 i) = fun _ => 0 := fun i hi => he_lift k9 (F_r1 i hi)
  have F_r2 : ∀ i, i < 6 → r2 i ∈ L6 ∧ ln6 (r2 i) = 2 ∧ M6 (r2 i) = fun _ => 0 := fun i hi => he_lift k9 (F_r2 i hi)
  have F_r3 : ∀ i, i < 7 → r3 i ∈ L6 ∧ ln6 (r3 i) = 7 ∧ M6 (r3 i) = fun _ => 0 := fun i hi => he_lift k9 (F_r3 i hi)
  have F_r4 : ∀ i, i < 7 → r4 i ∈ L6 ∧ ln6 (r4 i) = 36 ∧ M6 (r4 i) = fun _ => 0 := fun i hi => he_lift k9 (F_r4 i hi)
  have F_r5 : ∀ i, i < 121 → r5 i ∈ L6 ∧ ln6 (r5 i) = 25 ∧ M6 (r5 i) = fun _ => 0 := fun i hi => he_lift k9 (F_r5 i hi)
  have D_r1_r6 : ∀ i j, i < 6 → j < 120 → r1 i ≠ r6 j := fun i j hi hj h9 => N_r6 j hj (by rw [← h9]; exact K_r1 i hi)
  have D_r2_r6 : ∀ i j, i < 6 → j < 120 → r2 i ≠ r6 j := fun i j hi hj h9 => N_r6 j hj (by rw [← h9]; exact K_r2 i hi)
  have D_r3_r6 : ∀ i j, i < 7 → j < 120 → r3 i ≠ r6 j := fun i j hi hj h9 => N_r6 j hj (by rw [← h9]; exact K_r3 i hi)
  have D_r4_r6 : ∀ i j, i < 7 → j < 120 → r4 i ≠ r6 j := fun i j hi hj h9 => N_r6 j hj (by rw [← h9]; exact K_r4 i hi)
  have D_r5_r6 : ∀ i j, i < 121 → j < 120 → r5 i ≠ r6 j := fun i j hi hj h9 => N_r6 j hj (by rw [← h9]; exact K_r5 i hi)
  have K_r1 : ∀ i, i < 6 → r1 i ∈ L6 := fun i hi => (F_r1 i hi).1
  have K_r2 : ∀ i, i < 6 → r2 i ∈ L6 := fun i hi => (F_r2 i hi).1
  have K_r3 : ∀ i, i < 7 → r3 i ∈ L6 := fun i hi => (F_r3 i hi).1
  have K_r4 : ∀ i, i < 7 → r4 i ∈ L6 := fun i hi => (F_r4 i hi).1
  have K_r5 : ∀ i, i < 121 → r5 i ∈ L6 := fun i hi => (F_r5 i hi).1
  have K_r6 : ∀ i, i < 120 → r6 i ∈ L6 := fun i hi => (F_r6 i hi).1
  refine W.widen (k := 281) (n := 4983) (Nat.le_of_ble_eq_true rfl) (Nat.le_of_ble_eq_true rfl) ?_
  refine va_putF (v := .ref q_14) (ty := tyX11 22) (T := TX11) (N := 35) hx hb hts inX11 tyX11 tyX11_ok nmX11 hown hK hP hD hS 0 rfl rfl 22 (by decide) f55 (fun _ h9 => h9) rfl hin rfl (by decide +kernel) rfl rfl (Nat.le_of_ble_eq_true rfl) dX11_init_140 (fun H locs hP hD hS => ?_)
  have hP : va_P g.1 vwCl ([(m0, .inr (10, [.int 0, .int 0, .int 0, .int (-1), .int 0, .int 0, .int 0, .int 0, .ref q_1, .ref q_2, .ref q_3, .ref q_4, .ref q_5, .ref q_6, .int 0, .ref q_7, .ref q_8, .ref q_9, .ref q_10, .ref q_11, .ref q_12, .ref q_13, .ref q_14, .int 0, .int 0, .int 0, .int 0, .int 0, .int 0, .null, .null, .null, .null, .int 0, .null])), (aI g q_1 500 (fun _ => 0)), (aI g q_2 3 (fun _ => 0)), (aI g q_3 25 (fun _ => 0)), (aI g q_4 25 (fun _ => 0)), (aM g q_5 6 (he_ro 6 r1)), (aM g q_6 6 (he_ro 6 r2)), (aI g q_7 7 (fun _ => 0)), (aI g q_8 36 (fun _ => 0)), (aM g q_9 7 (he_ro 7 r3)), (aM g q_10 7 (he_ro 7 r4)), (aI g q_11 25 (fun _ => 0)), (aI g q_12 25 (fun _ => 0)), (aM g q_13 121 (he_ro 121 r5)), (aM g q_14 120 (he_ro 120 r6))] ++ he_pl g L6 ln6 M6) H := hP
  have hD : va_D A ([(m0, .inr (10, [.int 0, .int 0, .int 0, .int (-1), .int 0, .int 0, .int 0, .int 0, .ref q_1, .ref q_2, .ref q_3, .ref q_4, .ref q_5, .ref q_6, .int 0, .ref q_7, .ref q_8, .ref q_9, .ref q_10, .ref q_11, .ref q_12, .ref q_13, .ref q_14, .int 0, .int 0, .int 0, .int 0, .int 0, .int 0, .null, .null, .null, .null, .int 0, .null])), (aI g q_1 500 (fun _ => 0)), (aI g q_2 3 (fun _ => 0)), (aI g q_3 25 (fun _ => 0)), (aI g q_4 25 (fun _ => 0)), (aM g q_5 6 (he_ro 6 r1)), (aM g q_6 6 (he_ro 6 r2)), (aI g q_7 7 (fun _ => 0)), (aI g q_8 36 (fun _ => 0)), (aM g q_9 7 (he_ro 7 r3)), (aM g q_10 7 (he_ro 7 r4)), (aI g q_11 25 (fun _ => 0)), (aI g q_12 25 (fun _ => 0)), (aM g q_13 121 (he_ro 121 r5)), (aM g q_14 120 (he_ro 120 r6))] ++ he_pl g L6 ln6 M6) := hD
  refine lv_aload_n hx hb dX11_init_143 rfl (lv_at hl 0 rfl) ?_
  refine lv_iconst (v := 1) hx hb dX11_init_144 (by decide) ?_
  refine va_put (v := .int 1) (ty := .int) (T := TX11) (N := 35) hx hb hts inX11 tyX11 tyX11_ok nmX11 hown hK hP hD hS 0 rfl rfl 24 (by decide) f58 (fun _ h9 => h9) rfl (by decide +kernel) rfl rfl (Nat.le_of_ble_eq_true rfl) dX11_init_145 (fun H locs hP hD hS => ?_)
  have hP : va_P g.1 vwCl ([(m0, .inr (10, [.int 0, .int 0, .int 0, .int (-1), .int 0, .int 0, .int 0, .int 0, .ref q_1, .ref q_2, .ref q_3, .ref q_4, .ref q_5, .ref q_6, .int 0, .ref q_7, .ref q_8, .ref q_9, .ref q_10, .ref q_11, .ref q_12, .ref q_13, .ref q_14, .int 0, .int 1, .int 0, .int 0, .int 0, .int 0, .null, .null, .null, .null, .int 0, .null])), (aI g q_1 500 (fun _ => 0)), (aI g q_2 3 (fun _ => 0)), (aI g q_3 25 (fun _ => 0)), (aI g q_4 25 (fun _ => 0)), (aM g q_5 6 (he_ro 6 r1)), (aM g q_6 6 (he_ro 6 r2)), (aI g q_7 7 (fun _ => 0)), (aI g q_8 36 (fun _ => 0)), (aM g q_9 7 (he_ro 7 r3)), (aM g q_10 7 (he_ro 7 r4)), (aI g q_11 25 (fun _ => 0)), (aI g q_12 25 (fun _ => 0)), (aM g q_13 121 (he_ro 121 r5)), (aM g q_14 120 (he_ro 120 r6))] ++ he_pl g L6 ln6 M6) H := hP
  have hD : va_D A ([(m0, .inr (10, [.int 0, .int 0, .int 0, .int (-1), .int 0, .int 0, .int 0, .int 0, .ref q_1, .ref q_2, .ref q_3, .ref q_4, .ref q_5, .ref q_6, .int 0, .ref q_7, .ref q_8, .ref q_9, .ref q_10, .ref q_11, .ref q_12, .ref q_13, .ref q_14, .int 0, .int 1, .int 0, .int 0, .int 0, .int 0, .null, .null, .null, .null, .int 0, .null])), (aI g q_1 500 (fun _ => 0)), (aI g q_2 3 (fun _ => 0)), (aI g q_3 25 (fun _ => 0)), (aI g q_4 25 (fun _ => 0)), (aM g q_5 6 (he_ro 6 r1)), (aM g q_6 6 (he_ro 6 r2)), (aI g q_7 7 (fun _ => 0)), (aI g q_8 36 (fun _ => 0)), (aM g q_9 7 (he_ro 7 r3)), (aM g q_10 7 (he_ro 7 r4)), (aI g q_11 25 (fun _ => 0)), (aI g q_12 25 (fun _ => 0)), (aM g q_13 121 (he_ro 121 r5)), (aM g q_14 120 (he_ro 120 r6))] ++ he_pl g L6 ln6 M6) := hD
  refine lv_aload_n hx hb dX11_init_148 rfl (lv_at hl 0 rfl) ?_
  refine lv_iconst (v := 1) hx hb dX11_init_149 (by decide) ?_
  refine va_put (v := .int 1) (ty := .int) (T := TX11) (N := 35) hx hb hts inX11 tyX11 tyX11_ok nmX11 hown hK hP hD hS 0 rfl rfl 25 (by decide) f61 (fun _ h9 => h9) rfl (by decide +kernel) rfl rfl (Nat.le_of_ble_eq_true rfl) dX11_init_150 (fun H locs hP hD hS => ?_)
  have hP : va_P g.1 vwCl ([(m0, .inr (10, [.int 0, .int 0, .int 0, .int (-1), .int 0, .int 0, .int 0, .int 0, .ref q_1, .ref q_2, .ref q_3, .ref q_4, .ref q_5, .ref q_6, .int 0, .ref q_7, .ref q_8, .ref q_9, .ref q_10, .ref q_11, .ref q_12, .ref q_13, .ref q_14, .int 0, .int 1, .int 1, .int 0, .int 0, .int 0, .null, .null, .null, .null, .int 0, .null])), (aI g q_1 500 (fun _ => 0)), (aI g q_2 3 (fun _ => 0)), (aI g q_3 25 (fun _ => 0)), (aI g q_4 25 (fun _ => 0)), (aM g q_5 6 (he_ro 6 r1)), (aM g q_6 6 (he_ro 6 r2)), (aI g q_7 7 (fun _ => 0)), (aI g q_8 36 (fun _ => 0)), (aM g q_9 7 (he_ro 7 r3)), (aM g q_10 7 (he_ro 7 r4)), (aI g q_11 25 (fun _ => 0)), (aI g q_12 25 (fun _ => 0)), (aM g q_13 121 (he_ro 121 r5)), (aM g q_14 120 (he_ro 120 r6))] ++ he_pl g L6 ln6 M6) H := hP
  have hD : va_D A ([(m0, .inr (10, [.int 0, .int 0, .int 0, .int (-1), .int 0, .int 0, .int 0, .int 0, .ref q_1, .ref q_2, .ref q_3, .ref q_4, .ref q_5, .ref q_6, .int 0, .ref q_7, .ref q_8, .ref q_9, .ref q_10, .ref q_11, .ref q_12, .ref q_13, .ref q_14, .int 0, .int 1, .int 1, .int 0, .int 0, .int 0, .null, .null, .null, .null, .int 0, .null])), (aI g q_1 500 (fun _ => 0)), (aI g q_2 3 (fun _ => 0)), (aI g q_3 25 (fun _ => 0)), (aI g q_4 25 (fun _ => 0)), (aM g q_5 6 (he_ro 6 r1)), (aM g q_6 6 (he_ro 6 r2)), (aI g q_7 7 (fun _ => 0)), (aI g q_8 36 (fun _ => 0)), (aM g q_9 7 (he_ro 7 r3)), (aM g q_10 7 (he_ro 7 r4)), (aI g q_11 25 (fun _ => 0)), (aI g q_12 25 (fun _ => 0)), (aM g q_13 121 (he_ro 121 r5)), (aM g q_14 120 (he_ro 120 r6))] ++ he_pl g L6 ln6 M6) := hD
  refine lv_aload_n hx hb dX11_init_153 rfl (lv_at hl 0 rfl) ?_
  refine lv_iconst (v := 4) hx hb dX11_init_154 (by decide) ?_
  refine lv_iconst (v := 2) hx hb dX11_init_155 (by decide) ?_
  refine he_mna hx hb hown cl26 hE.over.2.2 harr_int hK hP hD hS hA 4 2 (by decide) (by decide) (by decide) (by decide) (by decide) (by decide) (by decide) (Nat.le_of_ble_eq_true rfl) (Nat.le_of_ble_eq_true rfl) dX11_init_156 (fun q_15 r7 L7 ln7 M7 H k9 F_r7 N_r7 J_r7 hP hD hS => ?_)
  have hP : va_P g.1 vwCl ([(m0, .inr (10, [.int 0, .int 0, .int 0, .int (-1), .int 0, .int 0, .int 0, .int 0, .ref q_1, .ref q_2, .ref q_3, .ref q_4, .ref q_5, .ref q_6, .int 0, .ref q_7, .ref q_8, .ref q_9, .ref q_10, .ref q_11, .ref q_12, .ref q_13, .ref q_14, .int 0, .int 1, .int 1, .int 0, .int 0, .int 0, .null, .null, .null, .null, .int 0, .null])), (aI g q_1 500 (fun _ => 0)), (aI g q_2 3 (fun _ => 0)), (aI g q_3 25 (fun _ => 0)), (aI g q_4 25 (fun _ => 0)), (aM g q_5 6 (he_ro 6 r1)), (aM g q_6 6 (he_ro 6 r2)), (aI g q_7 7 (fun _ => 0)), (aI g q_8 36 (fun _ => 0)), (aM g q_9 7 (he_ro 7 r3)), (aM g q_10 7 (he_ro 7 r4)), (aI g q_11 25 (fun _ => 0)), (aI g q_12 25 (fun _ => 0)), (aM g q_13 121 (he_ro 121 r5)), (aM g q_14 120 (he_ro 120 r6)), (aM g q_15 4 (he_ro 4 r7))] ++ he_pl g L7 ln7 M7) H := hP
  have hD : va_D A ([(m0, .inr (10, [.int 0, .int 0, .int 0, .int (-1), .int 0, .int 0, .int 0, .int 0, .ref q_1, .ref q_2, .ref q_3, .ref q_4, .ref q_5, .ref q_6, .int 0, .ref q_7, .ref q_8, .ref q_9, .ref q_10, .ref q_11, .ref q_12, .ref q_13, .ref q_14, .int 0, .int 1, .int 1, .int 0, .int 0, .int 0, .null, .null, .null, .null, .int 0, .null])), (aI g q_1 500 (fun _ => 0)), (aI g q_2 3 (fun _ => 0)), (aI g q_3 25 (fun _ => 0)), (aI g q_4 25 (fun _ => 0)), (aM g q_5 6 (he_ro 6 r1)), (aM g q_6 6 (he_ro 6 r2)), (aI g q_7 7 (fun _ => 0)), (aI g q_8 36 (fun _ => 0)), (aM g q_9 7 (he_ro 7 r3)), (aM g q_10 7 (he_ro 7 r4)), (aI g q_11 25 (fun _ => 0)), (aI g q_12 25 (fun _ => 0)), (aM g q_13 121 (he_ro 121 r5)), (aM g q_14 120 (he_ro 120 r6)), (aM g q_15 4 (he_ro 4 r7))] ++ he_pl g L7 ln7 M7) := hD
  have F_r1 : ∀ i, i < 6 → r1 i ∈ L7 ∧ ln7 (r1 i) = 2 ∧ M7 (r1 i) = fun _ => 0 := fun i hi => he_lift k9 (F_r1 i hi)
  have F_r2 : ∀ i, i < 6 → r2 i ∈ L7 ∧ ln7 (r2 i) = 2 ∧ M7 (r2 i) = fun _ => 0 := fun i hi => he_lift k9 (F_r2 i hi)
  have F_r3 : ∀ i, i < 7 → r3 i ∈ L7 ∧ ln7 (r3 i) = 7 ∧ M7 (r3 i) = fun _ => 0 := fun i hi => he_lift k9 (F_r3 i hi)
  have F_r4 : ∀ i, i < 7 → r4 i ∈ L7 ∧ ln7 (r4 i) = 36 ∧ M7 (r4 i) = fun _ => 0 := fun i hi => he_lift k9 (F_r4 i hi)
  have F_r5 : ∀ i, i < 121 → r5 i ∈ L7 ∧ ln7 (r5 i) = 25 ∧ M7 (r5 i) = fun _ => 0 := fun i hi => he_lift k9 (F_r5 i hi)
  have F_r6 : ∀ i, i < 120 → r6 i ∈ L7 ∧ ln7 (r6 i) = 6 ∧ M7 (r6 i) = fun _ => 0 := fun i hi => he_lift k9 (F_r6 i hi)
  have D_r1_r7 : ∀ i j, i < 6 → j < 4 → r1 i ≠ r7 j := fun i j hi hj h9 => N_r7 j hj (by rw [← h9]; exact K_r1 i hi)
  have D_r2_r7 : ∀ i j, i < 6 → j < 4 → r2 i ≠ r7 j := fun i j hi hj h9 => N_r7 j hj (by rw [← h9]; exact K_r2 i hi)
  have D_r3_r7 : ∀ i j, i < 7 → j < 4 → r3 i ≠ r7 j := fun i j hi hj h9 => N_r7 j hj (by rw [← h9]; exact K_r3 i hi)
  have D_r4_r7 : ∀ i j, i < 7 → j < 4 → r4 i ≠ r7 j := fun i j hi hj h9 => N_r7 j hj (by rw [← h9]; exact K_r4 i hi)
  have D_r5_r7 : ∀ i j, i < 121 → j < 4 → r5 i ≠ r7 j := fun i j hi hj h9 => N_r7 j hj (by rw [← h9]; exact K_r5 i hi)
  have D_r6_r7 : ∀ i j, i < 120 → j < 4 → r6 i ≠ r7 j := fun i j hi hj h9 => N_r7 j hj (by rw [← h9]; exact K_r6 i hi)
  have K_r1 : ∀ i, i < 6 → r1 i ∈ L7 := fun i hi => (F_r1 i hi).1
  have K_r2 : ∀ i, i < 6 → r2 i ∈ L7 := fun i hi => (F_r2 i hi).1
  have K_r3 : ∀ i, i < 7 → r3 i ∈ L7 := fun i hi => (F_r3 i hi).1
  have K_r4 : ∀ i, i < 7 → r4 i ∈ L7 := fun i hi => (F_r4 i hi).1
  have K_r5 : ∀ i, i < 121 → r5 i ∈ L7 := fun i hi => (F_r5 i hi).1
  have K_r6 : ∀ i, i < 120 → r6 i ∈ L7 := fun i hi => (F_r6 i hi).1
  have K_r7 : ∀ i, i < 4 → r7 i ∈ L7 := fun i hi => (F_r7 i hi).1
  refine W.widen (k := 286) (n := 4995) (Nat.le_of_ble_eq_true rfl) (Nat.le_of_ble_eq_true rfl) ?_
  refine va_putF (v := .ref q_15) (ty := tyX11 29) (T := TX11) (N := 35) hx hb hts inX11 tyX11 tyX11_ok nmX11 hown hK hP hD hS 0 rfl rfl 29 (by decide) f64 (fun _ h9 => h9) rfl hin rfl (by decide +kernel) rfl rfl (Nat.le_of_ble_eq_true rfl) dX11_init_160 (fun H locs hP hD hS => ?_)
  have hP : va_P g.1 vwCl ([(m0, .inr (10, [.int 0, .int 0, .int 0, .int (-1), .int 0, .int 0, .int 0, .int 0, .ref q_1, .ref q_2, .ref q_3, .ref q_4, .ref q_5, .ref q_6, .int 0, .ref q_7, .ref q_8, .ref q_9, .ref q_10, .ref q_11, .ref q_12, .ref q_13, .ref q_14, .int 0, .int 1, .int 1, .int 0, .int 0, .int 0, .ref q_15, .null, .null, .null, .int 0, .null])), (aI g q_1 500 (fun _ => 0)), (aI g q_2 3 (fun _ => 0)), (aI g q_3 25 (fun _ => 0)), (aI g q_4 25 (fun _ => 0)), (aM g q_5 6 (he_ro 6 r1)), (aM g q_6 6 (he_ro 6 r2)), (aI g q_7 7 (fun _ => 0)), (aI g q_8 36 (fun _ => 0)), (aM g q_9 7 (he_ro 7 r3)), (aM g q_10 7 (he_ro 7 r4)), (aI g q_11 25 (fun _ => 0)), (aI g q_12 25 (fun _ => 0)), (aM g q_13 121 (he_ro 121 r5)), (aM g q_14 120 (he_ro 120 r6)), (aM g q_15 4 (he_ro 4 r7))] ++ he_pl g L7 ln7 M7) H := hP
  have hD : va_D A ([(m0, .inr (10, [.int 0, .int 0, .int 0, .int (-1), .int 0, .int 0, .int 0, .int 0, .ref q_1, .ref q_2, .ref q_3, .ref q_4, .ref q_5, .ref q_6, .int 0, .ref q_7, .ref q_8, .ref q_9, .ref q_10, .ref q_11, .ref q_12, .ref q_13, .ref q_14, .int 0, .int 1, .int 1, .int 0, .int 0, .int 0, .ref q_15, .null, .null, .null, .int 0, .null])), (aI g q_1 500 (fun _ => 0)), (aI g q_2 3 (fun _ => 0)), (aI g q_3 25 (fun _ => 0)), (aI g q_4 25 (fun _ => 0)), (aM g q_5 6 (he_ro 6 r1)), (aM g q_6 6 (he_ro 6 r2)), (aI g q_7 7 (fun _ => 0)), (aI g q_8 36 (fun _ => 0)), (aM g q_9 7 (he_ro 7 r3)), (aM g q_10 7 (he_ro 7 r4)), (aI g q_11 25 (fun _ => 0)), (aI g q_12 25 (fun _ => 0)), (aM g q_13 121 (he_ro 121 r5)), (aM g q_14 120 (he_ro 120 r6)), (aM g q_15 4 (he_ro 4 r7))] ++ he_pl g L7 ln7 M7) := hD
  refine lv_aload_n hx hb dX11_init_163 rfl (lv_at hl 0 rfl) ?_
  refine lv_bipush (v := 12) hx hb dX11_init_164 (by decide) ?_
  refine lv_iconst (v := 2) hx hb dX11_init_166 (by decide) ?_
  refine he_mna hx hb hown cl26 hE.over.2.2 harr_int hK hP hD hS hA 12 2 (by decide) (by decide) (by decide) (by decide) (by decide) (by decide) (by decide) (Nat.le_of_ble_eq_true rfl) (Nat.le_of_ble_eq_true rfl) dX11_init_167 (fun q_16 r8 L8 ln8 M8 H k9 F_r8 N_r8 J_r8 hP hD hS => ?_)
  have hP : va_P g.1 vwCl ([(m0, .inr (10, [.int 0, .int 0, .int 0, .int (-1), .int 0, .int 0, .int 0, .int 0, .ref q_1, .ref q_2, .ref q_3, .ref q_4, .ref q_5, .ref q_6, .int 0, .ref q_7, .ref q_8, .ref q_9, .ref q_10, .ref q_11, .ref q_12, .ref q_13, .ref q_14, .int 0, .int 1, .int 1, .int 0, .int 0, .int 0, .ref q_15, .null, .null, .null, .int 0, .null])), (aI g q_1 500 (fun _ => 0)), (aI g q_2 3 (fun _ => 0)), (aI g q_3 25 (fun _ => 0)), (aI g q_4 25 (fun _ => 0)), (aM g q_5 6 (he_ro 6 r1)), (aM g q_6 6 (he_ro 6 r2)), (aI g q_7 7 (fun _ => 0)), (aI g q_8 36 (fun _ => 0)), (aM g q_9 7 (he_ro 7 r3)), (aM g q_10 7 (he_ro 7 r4)), (aI g q_11 25 (fun _ => 0)), (aI g q_12 25 (fun _ => 0)), (aM g q_13 121 (he_ro 121 r5)), (aM g q_14 120 (he_ro 120 r6)), (aM g q_15 4 (he_ro 4 r7)), (aM g q_16 12 (he_ro 12 r8))] ++ he_pl g L8 ln8 M8) H := hP
  have hD : va_D A ([(m0, .inr (10, [.int 0, .int 0, .int 0, .int (-1), .int 0, .int 0, .int 0, .int 0, .ref q_1, .ref q_2, .ref q_3, .ref q_4, .ref q_5, .ref q_6, .int 0, .ref q_7, .ref q_8, .ref q_9, .ref q_10, .ref q_11, .ref q_12, .ref q_13, .ref q_14, .int 0, .int 1, .int 1, .int 0, .int 0, .int 0, .ref q_15, .null, .null, .null, .int 0, .null])), (aI g q_1 500 (fun _ => 0)), (aI g q_2 3 (fun _ => 0)), (aI g q_3 25 (fun _ => 0)), (aI g q_4 25 (fun _ => 0)), (aM g q_5 6 (he_ro 6 r1)), (aM g q_6 6 (he_ro 6 r2)), (aI g q_7 7 (fun _ => 0)), (aI g q_8 36 (fun _ => 0)), (aM g q_9 7 (he_ro 7 r3)), (aM g q_10 7 (he_ro 7 r4)), (aI g q_11 25 (fun _ => 0)), (aI g q_12 25 (fun _ => 0)), (aM g q_13 121 (he_ro 121 r5)), (aM g q_14 120 (he_ro 120 r6)), (aM g q_15 4 (he_ro 4 r7)), (aM g q_16 12 (he_ro 12 r8))] ++ he_pl g L8 ln8 M8) := hD
  have F_r1 : ∀ i, i < 6 → r1 i ∈ L8 ∧ ln8 (r1 i) = 2 ∧ M8 (r1 i) = fun _ => 0 := fun i hi => he_lift k9 (F_r1 i hi)
  have F_r2 : ∀ i, i < 6 → r2 i ∈ L8 ∧ ln8 (r2 i) = 2 ∧ M8 (r2 i) = fun _ => 0 := fun i hi => he_lift k9 (F_r2 i hi)
  have F_r3 : ∀ i, i < 7 → r3 i ∈ L8 ∧ ln8 (r3 i) = 7 ∧ M8 (r3 i) = fun _ => 0 := fun i hi => he_lift k9 (F_r3 i hi)
  have F_r4 : ∀ i, i < 7 → r4 i ∈ L8 ∧ ln8 (r4 i) = 36 ∧ M8 (r4 i) = fun _ => 0 := fun i hi => he_lift k9 (F_r4 i hi)
  have F_r5 : ∀ i, i < 121 → r5 i ∈ L8 ∧ ln8 (r5 i) = 25 ∧ M8 (r5 i) = fun _ => 0 := fun i hi => he_lift k9 (F_r5 i hi)
  have F_r6 : ∀ i, i < 120 → r6 i ∈ L8 ∧ ln8 (r6 i) = 6 ∧ M8 (r6 i) = fun _ => 0 := fun i hi => he_lift k9 (F_r6 i hi)
  have F_r7 : ∀ i, i < 4 → r7 i ∈ L8 ∧ ln8 (r7 i) = 2 ∧ M8 (r7 i) = fun _ => 0 := fun i hi => he_lift k9 (F_r7 i hi)
  have D_r1_r8 : ∀ i j, i < 6 → j < 12 → r1 i ≠ r8 j := fun i j hi hj h9 => N_r8 j hj (by rw [← h9]; exact K_r1 i hi)
  have D_r2_r8 : ∀ i j, i < 6 → j < 12 → r2 i ≠ r8 j := fun i j hi hj h9 => N_r8 j hj (by rw [← h9]; exact K_r2 i hi)
  have D_r3_r8 : ∀ i j, i < 7 → j < 12 → r3 i ≠ r8 j := fun i j hi hj h9 => N_r8 j hj (by rw [← h9]; exact K_r3 i hi)
  have D_r4_r8 : ∀ i j, i < 7 → j < 12 → r4 i ≠ r8 j := fun i j hi hj h9 => N_r8 j hj (by rw [← h9]; exact K_r4 i hi)
  have D_r5_r8 : ∀ i j, i < 121 → j < 12 → r5 i ≠ r8 j := fun i j hi hj h9 => N_r8 j hj (by rw [← h9]; exact K_r5 i hi)
  have D_r6_r8 : ∀ i j, i < 120 → j < 12 → r6 i ≠ r8 j := fun i j hi hj h9 => N_r8 j hj (by rw [← h9]; exact K_r6 i hi)
  have D_r7_r8 : ∀ i j, i < 4 → j < 12 → r7 i ≠ r8 j := fun i j hi hj h9 => N_r8 j hj (by rw [← h9]; exact K_r7 i hi)
  have K_r1 : ∀ i, i < 6 → r1 i ∈ L8 := fun i hi => (F_r1 i hi).1
  have K_r2 : ∀ i, i < 6 → r2 i ∈ L8 := fun i hi => (F_r2 i hi).1
  have K_r3 : ∀ i, i < 7 → r3 i ∈ L8 := fun i hi => (F_r3 i hi).1
  have K_r4 : ∀ i, i < 7 → r4 i ∈ L8 := fun i hi => (F_r4 i hi).1
  have K_r5 : ∀ i, i < 121 → r5 i ∈ L8 := fun i hi => (F_r5 i hi).1
  have K_r6 : ∀ i, i < 120 → r6 i ∈ L8 := fun i hi => (F_r6 i hi).1
  have K_r7 : ∀ i, i < 4 → r7 i ∈ L8 := fun i hi => (F_r7 i hi).1
  have K_r8 : ∀ i, i < 12 → r8 i ∈ L8 := fun i hi => (F_r8 i hi).1
  refine W.widen (k := 299) (n := 5031) (Nat.le_of_ble_eq_true rfl) (Nat.le_of_ble_eq_true rfl) ?_
  refine va_putF (v := .ref q_16) (ty := tyX11 30) (T := TX11) (N := 35) hx hb hts inX11 tyX11 tyX11_ok nmX11 hown hK hP hD hS 0 rfl rfl 30 (by decide) f67 (fun _ h9 => h9) rfl hin rfl (by decide +kernel) rfl rfl (Nat.le_of_ble_eq_true rfl) dX11_init_171 (fun H locs hP hD hS => ?_)
  have hP : va_P g.1 vwCl ([(m0, .inr (10, [.int 0, .int 0, .int 0, .int (-1), .int 0, .int 0, .int 0, .int 0, .ref q_1, .ref q_2, .ref q_3, .ref q_4, .ref q_5, .ref q_6, .int 0, .ref q_7, .ref q_8, .ref q_9, .ref q_10, .ref q_11, .ref q_12, .ref q_13, .ref q_14, .int 0, .int 1, .int 1, .int 0, .int 0, .int 0, .ref q_15, .ref q_16, .null, .null, .int 0, .null])), (aI g q_1 500 (fun _ => 0)), (aI g q_2 3 (fun _ => 0)), (aI g q_3 25 (fun _ => 0)), (aI g q_4 25 (fun _ => 0)), (aM g q_5 6 (he_ro 6 r1)), (aM g q_6 6 (he_ro 6 r2)), (aI g q_7 7 (fun _ => 0)), (aI g q_8 36 (fun _ => 0)), (aM g q_9 7 (he_ro 7 r3)), (aM g q_10 7 (he_ro 7 r4)), (aI g q_11 25 (fun _ => 0)), (aI g q_12 25 (fun _ => 0)), (aM g q_13 121 (he_ro 121 r5)), (aM g q_14 120 (he_ro 120 r6)), (aM g q_15 4 (he_ro 4 r7)), (aM g q_16 12 (he_ro 12 r8))] ++ he_pl g L8 ln8 M8) H := hP
  have hD : va_D A ([(m0, .inr (10, [.int 0, .int 0, .int 0, .int (-1), .int 0, .int 0, .int 0, .int 0, .ref q_1, .ref q_2, .ref q_3, .ref q_4, .ref q_5, .ref q_6, .int 0, .ref q_7, .ref q_8, .ref q_9, .ref q_10, .ref q_11, .ref q_12, .ref q_13, .ref q_14, .int 0, .int 1, .int 1, .int 0, .int 0, .int 0, .ref q_15, .ref q_16, .null, .null, .int 0, .null])), (aI g q_1 500 (fun _ => 0)), (aI g q_2 3 (fun _ => 0)), (aI g q_3 25 (fun _ => 0)), (aI g q_4 25 (fun _ => 0)), (aM g q_5 6 (he_ro 6 r1)), (aM g q_6 6 (he_ro 6 r2)), (aI g q_7 7 (fun _ => 0)), (aI g q_8 36 (fun _ => 0)), (aM g q_9 7 (he_ro 7 r3)), (aM g q_10 7 (he_ro 7 r4)), (aI g q_11 25 (fun _ => 0)), (aI g q_12 25 (fun _ => 0)), (aM g q_13 121 (he_ro 121 r5)), (aM g q_14 120 (he_ro 120 r6)), (aM g q_15 4 (he_ro 4 r7)), (aM g q_16 12 (he_ro 12 r8))] ++ he_pl g L8 ln8 M8) := hD
  refine lv_aload_n hx hb dX11_init_174 rfl (lv_at hl 0 rfl) ?_
  refine lv_iconst (v := 2) hx hb dX11_init_175 (by decide) ?_
  refine lv_bipush (v := 12) hx hb dX11_init_176 (by decide) ?_
  refine he_mna hx hb hown cl26 hE.over.2.2 harr_int hK hP hD hS hA 2 12 (by decide) (by decide) (by decide) (by decide) (by decide) (by decide) (by decide) (Nat.le_of_ble_eq_true rfl) (Nat.le_of_ble_eq_true rfl) dX11_init_178 (fun q_17 r9 L9 ln9 M9 H k9 F_r9 N_r9 J_r9 hP hD hS => ?_)
  have hP : va_P g.1 vwCl ([(m0, .inr (10, [.int 0, .int 0, .int 0, .int (-1), .int 0, .int 0, .int 0, .int 0, .ref q_1, .ref q_2, .ref q_3, .ref q_4, .ref q_5, .ref q_6, .int 0, .ref q_7, .ref q_8, .ref q_9, .ref q_10, .ref q_11, .ref q_12, .ref q_13, .ref q_14, .int 0, .int 1, .int 1, .int 0, .int 0, .int 0, .ref q_15, .ref q_16, .null, .null, .int 0, .null])), (aI g q_1 500 (fun _ => 0)), (aI g q_2 3 (fun _ => 0)), (aI g q_3 25 (fun _ => 0)), (aI g q_4 25 (fun _ => 0)), (aM g q_5 6 (he_ro 6 r1)), (aM g q_6 6 (he_ro 6 r2)), (aI g q_7 7 (fun _ => 0)), (aI g q_8 36 (fun _ => 0)), (aM g q_9 7 (he_ro 7 r3)), (aM g q_10 7 (he_ro 7 r4)), (aI g q_11 25 (fun _ => 0)), (aI g q_12 25 (fun _ => 0)), (aM g q_13 121 (he_ro 121 r5)), (aM g q_14 120 (he_ro 120 r6)), (aM g q_15 4 (he_ro 4 r7)), (aM g q_16 12 (he_ro 12 r8)), (aM g q_17 2 (he_ro 2 r9))] ++ he_pl g L9 ln9 M9) H := hP
  have hD : va_D A ([(m0, .inr (10, [.int 0, .int 0, .int 0, .int (-1), .int 0, .int 0, .int 0, .int 0, .ref q_1, .ref q_2, .ref q_3, .ref q_4, .ref q_5, .ref q_6, .int 0, .ref q_7, .ref q_8, .ref q_9, .ref q_10, .ref q_11, .ref q_12, .ref q_13, .ref q_14, .int 0, .int 1, .int 1, .int 0, .int 0, .int 0, .ref q_15, .ref q_16, .null, .null, .int 0, .null])), (aI g q_1 500 (fun _ => 0)), (aI g q_2 3 (fun _ => 0)), (aI g q_3 25 (fun _ => 0)), (aI g q_4 25 (fun _ => 0)), (aM g q_5 6 (he_ro 6 r1)), (aM g q_6 6 (he_ro 6 r2)), (aI g q_7 7 (fun _ => 0)), (aI g q_8 36 (fun _ => 0)), (aM g q_9 7 (he_ro 7 r3)), (aM g q_10 7 (he_ro 7 r4)), (aI g q_11 25 (fun _ => 0)), (aI g q_12 25 (fun _ => 0)), (aM g q_13 121 (he_ro 121 r5)), (aM g q_14 120 (he_ro 120 r6)), (aM g q_15 4 (he_ro 4 r7)), (aM g q_16 12 (he_ro 12 r8)), (aM g q_17 2 (he_ro 2 r9))] ++ he_pl g L9 ln9 M9) := hD
  have F_r1 : ∀ i, i < 6 → r1 i ∈ L9 ∧ ln9 (r1 i) = 2 ∧ M9 (r1 i) = fun _ => 0 := fun i hi => he_lift k9 (F_r1 i hi)
  have F_r2 : ∀ i, i < 6 → r2 i ∈ L9 ∧ ln9 (r2 i) = 2 ∧ M9 (r2 i) = fun _ => 0 := fun i hi => he_lift k9 (F_r2 i hi)
  have F_r3 : ∀ i, i < 7 → r3 i ∈ L9 ∧ ln9 (r3 i) = 7 ∧ M9 (r3 i) = fun _ => 0 := fun i hi => he_lift k9 (F_r3 i hi)
  have F_r4 : ∀ i, i < 7 → r4 i ∈ L9 ∧ ln9 (r4 i) = 36 ∧ M9 (r4 i) = fun _ => 0 := fun i hi => he_lift k9 (F_r4 i hi)
  have F_r5 : ∀ i, i < 121 → r5 i ∈ L9 ∧ ln9 (r5 i) = 25 ∧ M9 (r5 i) = fun _ => 0 := fun i hi => he_lift k9 (F_r5 i hi)
  have F_r6 : ∀ i, i < 120 → r6 i ∈ L9 ∧ ln9 (r6 i) = 6 ∧ M9 (r6 i) = fun _ => 0 := fun i hi => he_lift k9 (F_r6 i hi)
  have F_r7 : ∀ i, i < 4 → r7 i ∈ L9 ∧ ln9 (r7 i) = 2 ∧ M9 (r7 i) = fun _ => 0 := fun i hi => he_lift k9 (F_r7 i hi)
  have F_r8 : ∀ i, i < 12 → r8 i ∈ L9 ∧ ln9 (r8 i) = 2 ∧ M9 (r8 i) = fun _ => 0 := fun i hi => he_lift k9 (F_r8 i hi)
  have D_r1_r9 : ∀ i j, i < 6 → j < 2 → r1 i ≠ r9 j := fun i j hi hj h9 => N_r9 j hj (by rw [← h9]; exact K_r1 i hi)
  have D_r2_r9 : ∀ i j, i < 6 → j < 2 → r2 i ≠ r9 j := fun i j hi hj h9 => N_r9 j hj (by rw [← h9]; exact K_r2 i hi)
  have D_r3_r9 : ∀ i j, i < 7 → j < 2 → r3 i ≠ r9 j := fun i j hi hj h9 => N_r9 j hj (by rw [← h9]; exact K_r3 i hi)
  have D_r4_r9 : ∀ i j, i < 7 → j < 2 → r4 i ≠ r9 j := fun i j hi hj h9 => N_r9 j hj (by rw [← h9]; exact K_r4 i hi)
  have D_r5_r9 : ∀ i j, i < 121 → j < 2 → r5 i ≠ r9 j := fun i j hi hj h9 => N_r9 j hj (by rw [← h9]; exact K_r5 i hi)
  have D_r6_r9 : ∀ i j, i < 120 → j < 2 → r6 i ≠ r9 j := fun i j hi hj h9 => N_r9 j hj (by rw [← h9]; exact K_r6 i hi)
  have D_r7_r9 : ∀ i j, i < 4 → j < 2 → r7 i ≠ r9 j := fun i j hi hj h9 => N_r9 j hj (by rw [← h9]; exact K_r7 i hi)
  have D_r8_r9 : ∀ i j, i < 12 → j < 2 → r8 i ≠ r9 j := fun i j hi hj h9 => N_r9 j hj (by rw [← h9]; exact K_r8 i hi)
  have K_r1 : ∀ i, i < 6 → r1 i ∈ L9 := fun i hi => (F_r1 i hi).1
  have K_r2 : ∀ i, i < 6 → r2 i ∈ L9 := fun i hi => (F_r2 i hi).1
  have K_r3 : ∀ i, i < 7 → r3 i ∈ L9 := fun i hi => (F_r3 i hi).1
  have K_r4 : ∀ i, i < 7 → r4 i ∈ L9 := fun i hi => (F_r4 i hi).1
  have K_r5 : ∀ i, i < 121 → r5 i ∈ L9 := fun i hi => (F_r5 i hi).1
  have K_r6 : ∀ i, i < 120 → r6 i ∈ L9 := fun i hi => (F_r6 i hi).1
  have K_r7 : ∀ i, i < 4 → r7 i ∈ L9 := fun i hi => (F_r7 i hi).1
  have K_r8 : ∀ i, i < 12 → r8 i ∈ L9 := fun i hi => (F_r8 i hi).1
  have K_r9 : ∀ i, i < 2 → r9 i ∈ L9 := fun i hi => (F_r9 i hi).1
  refine W.widen (k := 302) (n := 5057) (Nat.le_of_ble_eq_true rfl) (Nat.le_of_ble_eq_true rfl) ?_
  refine va_putF (v := .ref q_17) (ty := tyX11 31) (T := TX11) (N := 35) hx hb hts inX11 tyX11 tyX11_ok nmX11 hown hK hP hD hS 0 rfl rfl 31 (by decide) f70 (fun _ h9 => h9) rfl hin rfl (by decide +kernel) rfl rfl (Nat.le_of_ble_eq_true rfl) dX11_init_182 (fun H locs hP hD hS => ?_)
  have hP : va_P g.1 vwCl ([(m0, .inr (10, [.int 0, .int 0, .int 0, .int (-1), .int 0, .int 0, .int 0, .int 0, .ref q_1, .ref q_2, .ref q_3, .ref q_4, .ref q_5, .ref q_6, .int 0, .ref q_7, .ref q_8, .ref q_9, .ref q_10, .ref q_11, .ref q_12, .ref q_13, .ref q_14, .int 0, .int 1, .int 1, .int 0, .int 0, .int 0, .ref q_15, .ref q_16, .ref q_17, .null, .int 0, .null])), (aI g q_1 500 (fun _ => 0)), (aI g q_2 3 (fun _ => 0)), (aI g q_3 25 (fun _ => 0)), (aI g q_4 25 (fun _ => 0)), (aM g q_5 6 (he_ro 6 r1)), (aM g q_6 6 (he_ro 6 r2)), (aI g q_7 7 (fun _ => 0)), (aI g q_8 36 (fun _ => 0)), (aM g q_9 7 (he_ro 7 r3)), (aM g q_10 7 (he_ro 7 r4)), (aI g q_11 25 (fun _ => 0)), (aI g q_12 25 (fun _ => 0)), (aM g q_13 121 (he_ro 121 r5)), (aM g q_14 120 (he_ro 120 r6)), (aM g q_15 4 (he_ro 4 r7)), (aM g q_16 12 (he_ro 12 r8)), (aM g q_17 2 (he_ro 2 r9))] ++ he_pl g L9 ln9 M9) H := hP
  have hD : va_D A ([(m0, .inr (10, [.int 0, .int 0, .int 0, .int (-1), .int 0, .int 0, .int 0, .int 0, .ref q_1, .ref q_2, .ref q_3, .ref q_4, .ref q_5, .ref q_6, .int 0, .ref q_7, .ref q_8, .ref q_9, .ref q_10, .ref q_11, .ref q_12, .ref q_13, .ref q_14, .int 0, .int 1, .int 1, .int 0, .int 0, .int 0, .ref q_15, .ref q_16, .ref q_17, .null, .int 0, .null])), (aI g q_1 500 (fun _ => 0)), (aI g q_2 3 (fun _ => 0)), (aI g q_3 25 (fun _ => 0)), (aI g q_4 25 (fun _ => 0)), (aM g q_5 6 (he_ro 6 r1)), (aM g q_6 6 (he_ro 6 r2)), (aI g q_7 7 (fun _ => 0)), (aI g q_8 36 (fun _ => 0)), (aM g q_9 7 (he_ro 7 r3)), (aM g q_10 7 (he_ro 7 r4)), (aI g q_11 25 (fun _ => 0)), (aI g q_12 25 (fun _ => 0)), (aM g q_13 121 (he_ro 121 r5)), (aM g q_14 120 (he_ro 120 r6)), (aM g q_15 4 (he_ro 4 r7)), (aM g q_16 12 (he_ro 12 r8)), (aM g q_17 2 (he_ro 2 r9))] ++ he_pl g L9 ln9 M9) := hD
  refine lv_aload_n hx hb dX11_init_185 rfl (lv_at hl 0 rfl) ?_
  refine lv_iconst (v := 3) hx hb dX11_init_186 (by decide) ?_
  refine lv_sipush (v := 3850) hx hb dX11_init_187 (by decide) ?_
  refine he_mna hx hb hown cl26 hE.over.2.2 harr_int hK hP hD hS hA 3 3850 (by decide) (by decide) (by decide) (by decide) (by decide) (by decide) (by decide) (Nat.le_of_ble_eq_true rfl) (Nat.le_of_ble_eq_true rfl) dX11_init_190 (fun q_18 r10 L10 ln10 M10 H k9 F_r10 N_r10 J_r10 hP hD hS => ?_)
  have hP : va_P g.1 vwCl ([(m0, .inr (10, [.int 0, .int 0, .int 0, .int (-1), .int 0, .int 0, .int 0, .int 0, .ref q_1, .ref q_2, .ref q_3, .ref q_4, .ref q_5, .ref q_6, .int 0, .ref q_7, .ref q_8, .ref q_9, .ref q_10, .ref q_11, .ref q_12, .ref q_13, .ref q_14, .int 0, .int 1, .int 1, .int 0, .int 0, .int 0, .ref q_15, .ref q_16, .ref q_17, .null, .int 0, .null])), (aI g q_1 500 (fun _ => 0)), (aI g q_2 3 (fun _ => 0)), (aI g q_3 25 (fun _ => 0)), (aI g q_4 25 (fun _ => 0)), (aM g q_5 6 (he_ro 6 r1)), (aM g q_6 6 (he_ro 6 r2)), (aI g q_7 7 (fun _ => 0)), (aI g q_8 36 (fun _ => 0)), (aM g q_9 7 (he_ro 7 r3)), (aM g q_10 7 (he_ro 7 r4)), (aI g q_11 25 (fun _ => 0)), (aI g q_12 25 (fun _ => 0)), (aM g q_13 121 (he_ro 121 r5)), (aM g q_14 120 (he_ro 120 r6)), (aM g q_15 4 (he_ro 4 r7)), (aM g q_16 12 (he_ro 12 r8)), (aM g q_17 2 (he_ro 2 r9)), (aM g q_18 3 (he_ro 3 r10))] ++ he_pl g L10 ln10 M10) H := hP
  have hD : va_D A ([(m0, .inr (10, [.int 0, .int 0, .int 0, .int (-1), .int 0, .int 0, .int 0, .int 0, .ref q_1, .ref q_2, .ref q_3, .ref q_4, .ref q_5, .ref q_6, .int 0, .ref q_7, .ref q_8, .ref q_9, .ref q_10, .ref q_11, .ref q_12, .ref q_13, .ref q_14, .int 0, .int 1, .int 1, .int 0, .int 0, .int 0, .ref q_15, .ref q_16, .ref q_17, .null, .int 0, .null])), (aI g q_1 500 (fun _ => 0)), (aI g q_2 3 (fun _ => 0)), (aI g q_3 25 (fun _ => 0)), (aI g q_4 25 (fun _ => 0)), (aM g q_5 6 (he_ro 6 r1)), (aM g q_6 6 (he_ro 6 r2)), (aI g q_7 7 (fun _ => 0)), (aI g q_8 36 (fun _ => 0)), (aM g q_9 7 (he_ro 7 r3)), (aM g q_10 7 (he_ro 7 r4)), (aI g q_11 25 (fun _ => 0)), (aI g q_12 25 (fun _ => 0)), (aM g q_13 121 (he_ro 121 r5)), (aM g q_14 120 (he_ro 120 r6)), (aM g q_15 4 (he_ro 4 r7)), (aM g q_16 12 (he_ro 12 r8)), (aM g q_17 2 (he_ro 2 r9)), (aM g q_18 3 (he_ro 3 r10))] ++ he_pl g L10 ln10 M10) := hD
  have F_r1 : ∀ i, i < 6 → r1 i ∈ L10 ∧ ln10 (r1 i) = 2 ∧ M10 (r1 i) = fun _ => 0 := fun i hi => he_lift k9 (F_r1 i hi)
  have F_r2 : ∀ i, i < 6 → r2 i ∈ L10 ∧ ln10 (r2 i) = 2 ∧ M10 (r2 i) = fun _ => 0 := fun i hi => he_lift k9 (F_r2 i hi)
  have F_r3 : ∀ i, i < 7 → r3 i ∈ L10 ∧ ln10 (r3 i) = 7 ∧ M10 (r3 i) = fun _ => 0 := fun i hi => he_lift k9 (F_r3 i hi)
  have F_r4 : ∀ i, i < 7 → r4 i ∈ L10 ∧ ln10 (r4 i) = 36 ∧ M10 (r4 i) = fun _ => 0 := fun i hi => he_lift k9 (F_r4 i hi)
  have F_r5 : ∀ i, i < 121 → r5 i ∈ L10 ∧ ln10 (r5 i) = 25 ∧ M10 (r5 i) = fun _ => 0 := fun i hi => he_lift k9 (F_r5 i hi)
  have F_r6 : ∀ i, i < 120 → r6 i ∈ L10 ∧ ln10 (r6 i) = 6 ∧ M10 (r6 i) = fun _ => 0 := fun i hi => he_lift k9 (F_r6 i hi)
  have F_r7 : ∀ i, i < 4 → r7 i ∈ L10 ∧ ln10 (r7 i) = 2 ∧ M10 (r7 i) = fun _ => 0 := fun i hi => he_lift k9 (F_r7 i hi)
  have F_r8 : ∀ i, i < 12 → r8 i ∈ L10 ∧ ln10 (r8 i) = 2 ∧ M10 (r8 i) = fun _ => 0 := fun i hi => he_lift k9 (F_r8 i hi)
  have F_r9 : ∀ i, i < 2 → r9 i ∈ L10 ∧ ln10 (r9 i) = 12 ∧ M10 (r9 i) = fun _ => 0 := fun i hi => he_lift k9 (F_r9 i hi)
  have D_r1_r10 : ∀ i j, i < 6 → j < 3 → r1 i ≠ r10 j := fun i j hi hj h9 => N_r10 j hj (by rw [← h9]; exact K_r1 i hi)
  have D_r2_r10 : ∀ i j, i < 6 → j < 3 → r2 i ≠ r10 j := fun i j hi hj h9 => N_r10 j hj (by rw [← h9]; exact K_r2 i hi)
  have D_r3_r10 : ∀ i j, i < 7 → j < 3 → r3 i ≠ r10 j := fun i j hi hj h9 => N_r10 j hj (by rw [← h9]; exact K_r3 i hi)
  have D_r4_r10 : ∀ i j, i < 7 → j < 3 → r4 i ≠ r10 j := fun i j hi hj h9 => N_r10 j hj (by rw [← h9]; exact K_r4 i hi)
  have D_r5_r10 : ∀ i j, i < 121 → j < 3 → r5 i ≠ r10 j := fun i j hi hj h9 => N_r10 j hj (by rw [← h9]; exact K_r5 i hi)
  have D_r6_r10 : ∀ i j, i < 120 → j < 3 → r6 i ≠ r10 j := fun i j hi hj h9 => N_r10 j hj (by rw [← h9]; exact K_r6 i hi)
  have D_r7_r10 : ∀ i j, i < 4 → j < 3 → r7 i ≠ r10 j := fun i j hi hj h9 => N_r10 j hj (by rw [← h9]; exact K_r7 i hi)
  have D_r8_r10 : ∀ i j, i < 12 → j < 3 → r8 i ≠ r10 j := fun i j hi hj h9 => N_r10 j hj (by rw [← h9]; exact K_r8 i hi)
  have D_r9_r10 : ∀ i j, i < 2 → j < 3 → r9 i ≠ r10 j := fun i j hi hj h9 => N_r10 j hj (by rw [← h9]; exact K_r9 i hi)
  have K_r1 : ∀ i, i < 6 → r1 i ∈ L10 := fun i hi => (F_r1 i hi).1
  have K_r2 : ∀ i, i < 6 → r2 i ∈ L10 := fun i hi => (F_r2 i hi).1
  have K_r3 : ∀ i, i < 7 → r3 i ∈ L10 := fun i hi => (F_r3 i hi).1
  have K_r4 : ∀ i, i < 7 → r4 i ∈ L10 := fun i hi => (F_r4 i hi).1
  have K_r5 : ∀ i, i < 121 → r5 i ∈ L10 := fun i hi => (F_r5 i hi).1
  have K_r6 : ∀ i, i < 120 → r6 i ∈ L10 := fun i hi => (F_r6 i hi).1
  have K_r7 : ∀ i, i < 4 → r7 i ∈ L10 := fun i hi => (F_r7 i hi).1
  have K_r8 : ∀ i, i < 12 → r8 i ∈ L10 := fun i hi => (F_r8 i hi).1
  have K_r9 : ∀ i, i < 2 → r9 i ∈ L10 := fun i hi => (F_r9 i hi).1
  have K_r10 : ∀ i, i < 3 → r10 i ∈ L10 := fun i hi => (F_r10 i hi).1
  refine W.widen (k := 306) (n := 16610) (Nat.le_of_ble_eq_true rfl) (Nat.le_of_ble_eq_true rfl) ?_
  refine va_putF (v := .ref q_18) (ty := tyX11 32) (T := TX11) (N := 35) hx hb hts inX11 tyX11 tyX11_ok nmX11 hown hK hP hD hS 0 rfl rfl 32 (by decide) f73 (fun _ h9 => h9) rfl hin rfl (by decide +kernel) rfl rfl (Nat.le_of_ble_eq_true rfl) dX11_init_194 (fun H locs hP hD hS => ?_)
  have hP : va_P g.1 vwCl ([(m0, .inr (10, [.int 0, .int 0, .int 0, .int (-1), .int 0, .int 0, .int 0, .int 0, .ref q_1, .ref q_2, .ref q_3, .ref q_4, .ref q_5, .ref q_6, .int 0, .ref q_7, .ref q_8, .ref q_9, .ref q_10, .ref q_11, .ref q_12, .ref q_13, .ref q_14, .int 0, .int 1, .int 1, .int 0, .int 0, .int 0, .ref q_15, .ref q_16, .ref q_17, .ref q_18, .int 0, .null])), (aI g q_1 500 (fun _ => 0)), (aI g q_2 3 (fun _ => 0)), (aI g q_3 25 (fun _ => 0)), (aI g q_4 25 (fun _ => 0)), (aM g q_5 6 (he_ro 6 r1)), (aM g q_6 6 (he_ro 6 r2)), (aI g q_7 7 (fun _ => 0)), (aI g q_8 36 (fun _ => 0)), (aM g q_9 7 (he_ro 7 r3)), (aM g q_10 7 (he_ro 7 r4)), (aI g q_11 25 (fun _ => 0)), (aI g q_12 25 (fun _ => 0)), (aM g q_13 121 (he_ro 121 r5)), (aM g q_14 120 (he_ro 120 r6)), (aM g q_15 4 (he_ro 4 r7)), (aM g q_16 12 (he_ro 12 r8)), (aM g q_17 2 (he_ro 2 r9)), (aM g q_18 3 (he_ro 3 r10))] ++ he_pl g L10 ln10 M10) H := hP
  have hD : va_D A ([(m0, .inr (10, [.int 0, .int 0, .int 0, .int (-1), .int 0, .int 0, .int 0, .int 0, .ref q_1, .ref q_2, .ref q_3, .ref q_4, .ref q_5, .ref q_6, .int 0, .ref q_7, .ref q_8, .ref q_9, .ref q_10, .ref q_11, .ref q_12, .ref q_13, .ref q_14, .int 0, .int 1, .int 1, .int 0, .int 0, .int 0, .ref q_15, .ref q_16, .ref q_17, .ref q_18, .int 0, .null])), (aI g q_1 500 (fun _ => 0)), (aI g q_2 3 (fun _ => 0)), (aI g q_3 25 (fun _ => 0)), (aI g q_4 25 (fun _ => 0)), (aM g q_5 6 (he_ro 6 r1)), (aM g q_6 6 (he_ro 6 r2)), (aI g q_7 7 (fun _ => 0)), (aI g q_8 36 (fun _ => 0)), (aM g q_9 7 (he_ro 7 r3)), (aM g q_10 7 (he_ro 7 r4)), (aI g q_11 25 (fun _ => 0)), (aI g q_12 25 (fun _ => 0)), (aM g q_13 121 (he_ro 121 r5)), (aM g q_14 120 (he_ro 120 r6)), (aM g q_15 4 (he_ro 4 r7)), (aM g q_16 12 (he_ro 12 r8)), (aM g q_17 2 (he_ro 2 r9)), (aM g q_18 3 (he_ro 3 r10))] ++ he_pl g L10 ln10 M10) := hD
  refine lv_aload_n hx hb dX11_init_197 rfl (lv_at hl 0 rfl) ?_
  refine lv_bipush (v := 13) hx hb dX11_init_198 (by decide) ?_
  refine lv_iconst (v := 3) hx hb dX11_init_200 (by decide) ?_
  refine he_mna hx hb hown cl26 hE.over.2.2 harr_int hK hP hD hS hA 13 3 (by decide) (by decide) (by decide) (by decide) (by decide) (by decide) (by decide) (Nat.le_of_ble_eq_true rfl) (Nat.le_of_ble_eq_true rfl) dX11_init_201 (fun q_19 r11 L11 ln11 M11 H k9 F_r11 N_r11 J_r11 hP hD hS => ?_)
  have hP : va_P g.1 vwCl ([(m0, .inr (10, [.int 0, .int 0, .int 0, .int (-1), .int 0, .int 0, .int 0, .int 0, .ref q_1, .ref q_2, .ref q_3, .ref q_4, .ref q_5, .ref q_6, .int 0, .ref q_7, .ref q_8, .ref q_9, .ref q_10, .ref q_11, .ref q_12, .ref q_13, .ref q_14, .int 0, .int 1, .int 1, .int 0, .int 0, .int 0, .ref q_15, .ref q_16, .ref q_17, .ref q_18, .int 0, .null])), (aI g q_1 500 (fun _ => 0)), (aI g q_2 3 (fun _ => 0)), (aI g q_3 25 (fun _ => 0)), (aI g q_4 25 (fun _ => 0)), (aM g q_5 6 (he_ro 6 r1)), (aM g q_6 6 (he_ro 6 r2)), (aI g q_7 7 (fun _ => 0)), (aI g q_8 36 (fun _ => 0)), (aM g q_9 7 (he_ro 7 r3)), (aM g q_10 7 (he_ro 7 r4)), (aI g q_11 25 (fun _ => 0)), (aI g q_12 25 (fun _ => 0)), (aM g q_13 121 (he_ro 121 r5)), (aM g q_14 120 (he_ro 120 r6)), (aM g q_15 4 (he_ro 4 r7)), (aM g q_16 12 (he_ro 12 r8)), (aM g q_17 2 (he_ro 2 r9)), (aM g q_18 3 (he_ro 3 r10)), (aM g q_19 13 (he_ro 13 r11))] ++ he_pl g L11 ln11 M11) H := hP
  have hD : va_D A ([(m0, .inr (10, [.int 0, .int 0, .int 0, .int (-1), .int 0, .int 0, .int 0, .int 0, .ref q_1, .ref q_2, .ref q_3, .ref q_4, .ref q_5, .ref q_6, .int 0, .ref q_7, .ref q_8, .ref q_9, .ref q_10, .ref q_11, .ref q_12, .ref q_13, .ref q_14, .int 0, .int 1, .int 1, .int 0, .int 0, .int 0, .ref q_15, .ref q_16, .ref q_17, .ref q_18, .int 0, .null])), (aI g q_1 500 (fun _ => 0)), (aI g q_2 3 (fun _ => 0)), (aI g q_3 25 (fun _ => 0)), (aI g q_4 25 (fun _ => 0)), (aM g q_5 6 (he_ro 6 r1)), (aM g q_6 6 (he_ro 6 r2)), (aI g q_7 7 (fun _ => 0)), (aI g q_8 36 (fun _ => 0)), (aM g q_9 7 (he_ro 7 r3)), (aM g q_10 7 (he_ro 7 r4)), (aI g q_11 25 (fun _ => 0)), (aI g q_12 25 (fun _ => 0)), (aM g q_13 121 (he_ro 121 r5)), (aM g q_14 120 (he_ro 120 r6)), (aM g q_15 4 (he_ro 4 r7)), (aM g q_16 12 (he_ro 12 r8)), (aM g q_17 2 (he_ro 2 r9)), (aM g q_18 3 (he_ro 3 r10)), (aM g q_19 13 (he_ro 13 r11))] ++ he_pl g L11 ln11 M11) := hD
  have F_r1 : ∀ i, i < 6 → r1 i ∈ L11 ∧ ln11 (r1 i) = 2 ∧ M11 (r1 i) = fun _ => 0 := fun i hi => he_lift k9 (F_r1 i hi)
  have F_r2 : ∀ i, i < 6 → r2 i ∈ L11 ∧ ln11 (r2 i) = 2 ∧ M11 (r2 i) = fun _ => 0 := fun i hi => he_lift k9 (F_r2 i hi)
  have F_r3 : ∀ i, i < 7 → r3 i ∈ L11 ∧ ln11 (r3 i) = 7 ∧ M11 (r3 i) = fun _ => 0 := fun i hi => he_lift k9 (F_r3 i hi)
  have F_r4 : ∀ i, i < 7 → r4 i ∈ L11 ∧ ln11 (r4 i) = 36 ∧ M11 (r4 i) = fun _ => 0 := fun i hi => he_lift k9 (F_r4 i hi)
  have F_r5 : ∀ i, i < 121 → r5 i ∈ L11 ∧ ln11 (r5 i) = 25 ∧ M11 (r5 i) = fun _ => 0 := fun i hi => he_lift k9 (F_r5 i hi)
  have F_r6 : ∀ i, i < 120 → r6 i ∈ L11 ∧ ln11 (r6 i) = 6 ∧ M11 (r6 i) = fun _ => 0 := fun i hi => he_lift k9 (F_r6 i hi)
  have F_r7 : ∀ i, i < 4 → r7 i ∈ L11 ∧ ln11 (r7 i) = 2 ∧ M11 (r7 i) = fun _ => 0 := fun i hi => he_lift k9 (F_r7 i hi)
  have F_r8 : ∀ i, i < 12 → r8 i ∈ L11 ∧ ln11 (r8 i) = 2 ∧ M11 (r8 i) = fun _ => 0 := fun i hi => he_lift k9 (F_r8 i hi)
  have F_r9 : ∀ i, i < 2 → r9 i ∈ L11 ∧ ln11 (r9 i) = 12 ∧ M11 (r9 i) = fun _ => 0 := fun i hi => he_lift k9 (F_r9 i hi)
  have F_r10 : ∀ i, i < 3 → r10 i ∈ L11 ∧ ln11 (r10 i) = 3850 ∧ M11 (r10 i) = fun _ => 0 := fun i hi => he_lift k9 (F_r10 i hi)
  have D_r1_r11 : ∀ i j, i < 6 → j < 13 → r1 i ≠ r11 j := fun i j hi hj h9 => N_r11 j hj (by rw [← h9]; exact K_r1 i hi)
  have D_r2_r11 : ∀ i j, i < 6 → j < 13 → r2 i ≠ r11 j := fun i j hi hj h9 => N_r11 j hj (by rw [← h9]; exact K_r2 i hi)
  have D_r3_r11 : ∀ i j, i < 7 → j < 13 → r3 i ≠ r11 j := fun i j hi hj h9 => N_r11 j hj (by rw [← h9]; exact K_r3 i hi)
  have D_r4_r11 : ∀ i j, i < 7 → j < 13 → r4 i ≠ r11 j := fun i j hi hj h9 => N_r11 j hj (by rw [← h9]; exact K_r4 i hi)
  have D_r5_r11 : ∀ i j, i < 121 → j < 13 → r5 i ≠ r11 j := fun i j hi hj h9 => N_r11 j hj (by rw [← h9]; exact K_r5 i hi)
  have D_r6_r11 : ∀ i j, i < 120 → j < 13 → r6 i ≠ r11 j := fun i j hi hj h9 => N_r11 j hj (by rw [← h9]; exact K_r6 i hi)
  have D_r7_r11 : ∀ i j, i < 4 → j < 13 → r7 i ≠ r11 j := fun i j hi hj h9 => N_r11 j hj (by rw [← h9]; exact K_r7 i hi)
  have D_r8_r11 : ∀ i j, i < 12 → j < 13 → r8 i ≠ r11 j := fun i j hi hj h9 => N_r11 j hj (by rw [← h9]; exact K_r8 i hi)
  have D_r9_r11 : ∀ i j, i < 2 → j < 13 → r9 i ≠ r11 j := fun i j hi hj h9 => N_r11 j hj (by rw [← h9]; exact K_r9 i hi)
  have D_r10_r11 : ∀ i j, i < 3 → j < 13 → r10 i ≠ r11 j := fun i j hi hj h9 => N_r11 j hj (by rw [← h9]; exact K_r10 i hi)
  have K_r1 : ∀ i, i < 6 → r1 i ∈ L11 := fun i hi => (F_r1 i hi).1
  have K_r2 : ∀ i, i < 6 → r2 i ∈ L11 := fun i hi => (F_r2 i hi).1
  have K_r3 : ∀ i, i < 7 → r3 i ∈ L11 := fun i hi => (F_r3 i hi).1
  have K_r4 : ∀ i, i < 7 → r4 i ∈ L11 := fun i hi => (F_r4 i hi).1
  have K_r5 : ∀ i, i < 121 → r5 i ∈ L11 := fun i hi => (F_r5 i hi).1
  have K_r6 : ∀ i, i < 120 → r6 i ∈ L11 := fun i hi => (F_r6 i hi).1
  have K_r7 : ∀ i, i < 4 → r7 i ∈ L11 := fun i hi => (F_r7 i hi).1
  have K_r8 : ∀ i, i < 12 → r8 i ∈ L11 := fun i hi => (F_r8 i hi).1
  have K_r9 : ∀ i, i < 2 → r9 i ∈ L11 := fun i hi => (F_r9 i hi).1
  have K_r10 : ∀ i, i < 3 → r10 i ∈ L11 := fun i hi => (F_r10 i hi).1
  have K_r11 : ∀ i, i < 13 → r11 i ∈ L11 := fun i hi => (F_r11 i hi).1
  refine W.widen (k := 320) (n := 16662) (Nat.le_of_ble_eq_true rfl) (Nat.le_of_ble_eq_true rfl) ?_
  refine va_putF (v := .ref q_19) (ty := tyX11 34) (T := TX11) (N := 35) hx hb hts inX11 tyX11 tyX11_ok nmX11 hown hK hP hD hS 0 rfl rfl 34 (by decide) f76 (fun _ h9 => h9) rfl hin rfl (by decide +kernel) rfl rfl (Nat.le_of_ble_eq_true rfl) dX11_init_205 (fun H locs hP hD hS => ?_)
  have hP : va_P g.1 vwCl ([(oX11 m0 0 0 0 (-1) 0 0 0 0 q_1 q_2 q_3 q_4 q_5 q_6 0 q_7 q_8 q_9 q_10 q_11 q_12 q_13 q_14 0 1 1 0 0 0 q_15 q_16 q_17 q_18 0 q_19), (aI g q_1 500 (fun _ => 0)), (aI g q_2 3 (fun _ => 0)), (aI g q_3 25 (fun _ => 0)), (aI g q_4 25 (fun _ => 0)), (aM g q_5 6 (he_ro 6 r1)), (aM g q_6 6 (he_ro 6 r2)), (aI g q_7 7 (fun _ => 0)), (aI g q_8 36 (fun _ => 0)), (aM g q_9 7 (he_ro 7 r3)), (aM g q_10 7 (he_ro 7 r4)), (aI g q_11 25 (fun _ => 0)), (aI g q_12 25 (fun _ => 0)), (aM g q_13 121 (he_ro 121 r5)), (aM g q_14 120 (he_ro 120 r6)), (aM g q_15 4 (he_ro 4 r7)), (aM g q_16 12 (he_ro 12 r8)), (aM g q_17 2 (he_ro 2 r9)), (aM g q_18 3 (he_ro 3 r10)), (aM g q_19 13 (he_ro 13 r11))] ++ he_pl g L11 ln11 M11) H := hP
  have hD : va_D A ([(oX11 m0 0 0 0 (-1) 0 0 0 0 q_1 q_2 q_3 q_4 q_5 q_6 0 q_7 q_8 q_9 q_10 q_11 q_12 q_13 q_14 0 1 1 0 0 0 q_15 q_16 q_17 q_18 0 q_19), (aI g q_1 500 (fun _ => 0)), (aI g q_2 3 (fun _ => 0)), (aI g q_3 25 (fun _ => 0)), (aI g q_4 25 (fun _ => 0)), (aM g q_5 6 (he_ro 6 r1)), (aM g q_6 6 (he_ro 6 r2)), (aI g q_7 7 (fun _ => 0)), (aI g q_8 36 (fun _ => 0)), (aM g q_9 7 (he_ro 7 r3)), (aM g q_10 7 (he_ro 7 r4)), (aI g q_11 25 (fun _ => 0)), (aI g q_12 25 (fun _ => 0)), (aM g q_13 121 (he_ro 121 r5)), (aM g q_14 120 (he_ro 120 r6)), (aM g q_15 4 (he_ro 4 r7)), (aM g q_16 12 (he_ro 12 r8)), (aM g q_17 2 (he_ro 2 r9)), (aM g q_18 3 (he_ro 3 r10)), (aM g q_19 13 (he_ro 13 r11))] ++ he_pl g L11 ln11 M11) := hD
  refine lv_aload_n hx hb dX11_init_208 rfl (lv_at hl 0 rfl) ?_
  refine he_cv (wc := [(oX11 m0 0 0 0 (-1) 0 0 0 0 q_1 q_2 q_3 q_4 q_5 q_6 0 q_7 q_8 q_9 q_10 q_11 q_12 q_13 q_14 0 1 1 0 0 0 q_15 q_16 q_17 q_18 0 q_19), (aI g q_3 25 (fun _ => 0))]) (wr := ([(aI g q_1 500 (fun _ => 0)), (aI g q_2 3 (fun _ => 0)), (aI g q_4 25 (fun _ => 0)), (aM g q_5 6 (he_ro 6 r1)), (aM g q_6 6 (he_ro 6 r2)), (aI g q_7 7 (fun _ => 0)), (aI g q_8 36 (fun _ => 0)), (aM g q_9 7 (he_ro 7 r3)), (aM g q_10 7 (he_ro 7 r4)), (aI g q_11 25 (fun _ => 0)), (aI g q_12 25 (fun _ => 0)), (aM g q_13 121 (he_ro 121 r5)), (aM g q_14 120 (he_ro 120 r6)), (aM g q_15 4 (he_ro 4 r7)), (aM g q_16 12 (he_ro 12 r8)), (aM g q_17 2 (he_ro 2 r9)), (aM g q_18 3 (he_ro 3 r10)), (aM g q_19 13 (he_ro 13 r11))] ++ (he_pl g L11 ln11 M11))) (va_runV (As := []) (rest := []) ⟨hx, hb, hml, hown, hts⟩ (c_X11_tellsNothing l g m0 q_1 q_2 q_3 q_4 q_5 q_6 q_7 q_8 q_9 q_10 q_11 q_12 q_13 q_14 q_15 q_16 q_17 q_18 q_19 0 0 (-1) 0 0 0 0 0 0 1 1 0 0 0 0 0 (fun _ => 0) H.size) (cwV 0 hts gX11_init_X11_tellsNothing rfl rfl rfl (by decide +kernel) ⟨Nat.le_of_ble_eq_true rfl, Nat.le_of_ble_eq_true rfl⟩) (he_preV (wc := [(oX11 m0 0 0 0 (-1) 0 0 0 0 q_1 q_2 q_3 q_4 q_5 q_6 0 q_7 q_8 q_9 q_10 q_11 q_12 q_13 q_14 0 1 1 0 0 0 q_15 q_16 q_17 q_18 0 q_19), (aI g q_3 25 (fun _ => 0))]) hK hP hD hS hA hE [0, 3] rfl rfl 0 rfl rfl) rfl rfl hl.1 rfl (lv_room (Nat.le_of_ble_eq_true rfl)) dX11_init_209 ⟨(Nat.le_of_ble_eq_true rfl), (Nat.le_of_ble_eq_true rfl)⟩) hP hD hS hA [0, 3] (he_is [1, 2, 4, 5, 6, 7, 8, 9, 10, 11, 12, 13, 14, 15, 16, 17, 18, 19] [(oX11 m0 0 0 0 (-1) 0 0 0 0 q_1 q_2 q_3 q_4 q_5 q_6 0 q_7 q_8 q_9 q_10 q_11 q_12 q_13 q_14 0 1 1 0 0 0 q_15 q_16 q_17 q_18 0 q_19), (aI g q_1 500 (fun _ => 0)), (aI g q_2 3 (fun _ => 0)), (aI g q_3 25 (fun _ => 0)), (aI g q_4 25 (fun _ => 0)), (aM g q_5 6 (he_ro 6 r1)), (aM g q_6 6 (he_ro 6 r2)), (aI g q_7 7 (fun _ => 0)), (aI g q_8 36 (fun _ => 0)), (aM g q_9 7 (he_ro 7 r3)), (aM g q_10 7 (he_ro 7 r4)), (aI g q_11 25 (fun _ => 0)), (aI g q_12 25 (fun _ => 0)), (aM g q_13 121 (he_ro 121 r5)), (aM g q_14 120 (he_ro 120 r6)), (aM g q_15 4 (he_ro 4 r7)), (aM g q_16 12 (he_ro 12 r8)), (aM g q_17 2 (he_ro 2 r9)), (aM g q_18 3 (he_ro 3 r10)), (aM g q_19 13 (he_ro 13 r11))] (he_pl g L11 ln11 M11)) rfl (he_ixP rfl) (he_ndP rfl rfl) (he_disN (by decide) rfl) (fun u_21 H locs h_22 hP hD hS => ?_)
  have hP := va_P.swap hP
  have hD := va_D.swap hD
  have hP : va_P g.1 vwCl ([(aI g q_1 500 (fun _ => 0)), (aI g q_2 3 (fun _ => 0)), (aI g q_4 25 (fun _ => 0)), (aM g q_5 6 (he_ro 6 r1)), (aM g q_6 6 (he_ro 6 r2)), (aI g q_7 7 (fun _ => 0)), (aI g q_8 36 (fun _ => 0)), (aM g q_9 7 (he_ro 7 r3)), (aM g q_10 7 (he_ro 7 r4)), (aI g q_11 25 (fun _ => 0)), (aI g q_12 25 (fun _ => 0)), (aM g q_13 121 (he_ro 121 r5)), (aM g q_14 120 (he_ro 120 r6)), (aM g q_15 4 (he_ro 4 r7)), (aM g q_16 12 (he_ro 12 r8)), (aM g q_17 2 (he_ro 2 r9)), (aM g q_18 3 (he_ro 3 r10)), (aM g q_19 13 (he_ro 13 r11)), (oX11 m0 0 0 0 (-1) 0 0 0 0 q_1 q_2 q_3 q_4 q_5 q_6 0 q_7 q_8 q_9 q_10 q_11 q_12 q_13 q_14 0 1 1 0 0 0 q_15 q_16 q_17 q_18 0 q_19), (aI g q_3 25 (tnF (fun _ => 0)))] ++ he_pl g L11 ln11 M11) H := hP
  have hD : va_D A ([(aI g q_1 500 (fun _ => 0)), (aI g q_2 3 (fun _ => 0)), (aI g q_4 25 (fun _ => 0)), (aM g q_5 6 (he_ro 6 r1)), (aM g q_6 6 (he_ro 6 r2)), (aI g q_7 7 (fun _ => 0)), (aI g q_8 36 (fun _ => 0)), (aM g q_9 7 (he_ro 7 r3)), (aM g q_10 7 (he_ro 7 r4)), (aI g q_11 25 (fun _ => 0)), (aI g q_12 25 (fun _ => 0)), (aM g q_13 121 (he_ro 121 r5)), (aM g q_14 120 (he_ro 120 r6)), (aM g q_15 4 (he_ro 4 r7)), (aM g q_16 12 (he_ro 12 r8)), (aM g q_17 2 (he_ro 2 r9)), (aM g q_18 3 (he_ro 3 r10)), (aM g q_19 13 (he_ro 13 r11)), (oX11 m0 0 0 0 (-1) 0 0 0 0 q_1 q_2 q_3 q_4 q_5 q_6 0 q_7 q_8 q_9 q_10 q_11 q_12 q_13 q_14 0 1 1 0 0 0 q_15 q_16 q_17 q_18 0 q_19), (aI g q_3 25 (tnF (fun _ => 0)))] ++ he_pl g L11 ln11 M11) := hD
  refine W.widen (k := 321) (n := 16677) (Nat.le_of_ble_eq_true rfl) (Nat.le_of_ble_eq_true rfl) ?_
  refine lv_aload_n hx hb dX11_init_212 rfl (lv_at hl 0 rfl) ?_
  refine he_cv (wc := ([(oX11 m0 0 0 0 (-1) 0 0 0 0 q_1 q_2 q_3 q_4 q_5 q_6 0 q_7 q_8 q_9 q_10 q_11 q_12 q_13 q_14 0 1 1 0 0 0 q_15 q_16 q_17 q_18 0 q_19), (aI g q_3 25 (tnF (fun _ => 0))), (aI g q_4 25 (fun _ => 0)), (aI g q_11 25 (fun _ => 0)), (aM g q_5 6 (he_ro 6 r1)), (aM g q_6 6 (he_ro 6 r2)), (aM g q_14 120 (he_ro 120 r6)), (aM g q_15 4 (he_ro 4 r7)), (aM g q_17 2 (he_ro 2 r9))] ++ (he_pl g L11 ln11 M11))) (wr := [(aI g q_1 500 (fun _ => 0)), (aI g q_2 3 (fun _ => 0)), (aI g q_7 7 (fun _ => 0)), (aI g q_8 36 (fun _ => 0)), (aM g q_9 7 (he_ro 7 r3)), (aM g q_10 7 (he_ro 7 r4)), (aI g q_12 25 (fun _ => 0)), (aM g q_13 121 (he_ro 121 r5)), (aM g q_16 12 (he_ro 12 r8)), (aM g q_18 3 (he_ro 3 r10)), (aM g q_19 13 (he_ro 13 r11))]) (va_runV (As := []) (rest := []) ⟨hx, hb, hml, hown, hts⟩ (r_X11_stands0 l g m0 q_1 q_2 q_3 q_4 q_5 q_6 q_7 q_8 q_9 q_10 q_11 q_12 q_13 q_14 q_15 q_16 q_17 q_18 q_19 0 0 (-1) 0 0 0 0 0 0 1 1 0 0 0 0 0 (tnF (fun _ => 0)) (fun _ => 0) (fun _ => 0) 0 L11 ln11 M11 r1 r2 r6 r7 r9 (fun i hi => ⟨(F_r1 i hi).1, (F_r1 i hi).2.1, trivial⟩) (fun i hi => ⟨(F_r2 i hi).1, (F_r2 i hi).2.1, trivial⟩) (fun i hi => ⟨(F_r6 i hi).1, (F_r6 i hi).2.1, trivial⟩) (fun i hi => ⟨(F_r7 i hi).1, (F_r7 i hi).2.1, trivial⟩) (fun i hi => ⟨(F_r9 i hi).1, (F_r9 i hi).2.1, trivial⟩) J_r2 J_r7 J_r9 D_r1_r2 D_r2_r6 D_r2_r7 D_r2_r9 D_r7_r9 (tn_0 _) (by decide) H.size) (cwV 0 hts gX11_init_X11_stands0 rfl rfl rfl (by decide +kernel) ⟨Nat.le_of_ble_eq_true rfl, Nat.le_of_ble_eq_true rfl⟩) (he_preV (wc := ([(oX11 m0 0 0 0 (-1) 0 0 0 0 q_1 q_2 q_3 q_4 q_5 q_6 0 q_7 q_8 q_9 q_10 q_11 q_12 q_13 q_14 0 1 1 0 0 0 q_15 q_16 q_17 q_18 0 q_19), (aI g q_3 25 (tnF (fun _ => 0))), (aI g q_4 25 (fun _ => 0)), (aI g q_11 25 (fun _ => 0)), (aM g q_5 6 (he_ro 6 r1)), (aM g q_6 6 (he_ro 6 r2)), (aM g q_14 120 (he_ro 120 r6)), (aM g q_15 4 (he_ro 4 r7)), (aM g q_17 2 (he_ro 2 r9))] ++ (he_pl g L11 ln11 M11))) hK hP hD hS hA hE (he_is [18, 19, 2, 9, 3, 4, 12, 13, 15] [(aI g q_1 500 (fun _ => 0)), (aI g q_2 3 (fun _ => 0)), (aI g q_4 25 (fun _ => 0)), (aM g q_5 6 (he_ro 6 r1)), (aM g q_6 6 (he_ro 6 r2)), (aI g q_7 7 (fun _ => 0)), (aI g q_8 36 (fun _ => 0)), (aM g q_9 7 (he_ro 7 r3)), (aM g q_10 7 (he_ro 7 r4)), (aI g q_11 25 (fun _ => 0)), (aI g q_12 25 (fun _ => 0)), (aM g q_13 121 (he_ro 121 r5)), (aM g q_14 120 (he_ro 120 r6)), (aM g q_15 4 (he_ro 4 r7)), (aM g q_16 12 (he_ro 12 r8)), (aM g q_17 2 (he_ro 2 r9)), (aM g q_18 3 (he_ro 3 r10)), (aM g q_19 13 (he_ro 13 r11)), (oX11 m0 0 0 0 (-1) 0 0 0 0 q_1 q_2 q_3 q_4 q_5 q_6 0 q_7 q_8 q_9 q_10 q_11 q_12 q_13 q_14 0 1 1 0 0 0 q_15 q_16 q_17 q_18 0 q_19), (aI g q_3 25 (tnF (fun _ => 0)))] (he_pl g L11 ln11 M11)) (he_ixP rfl) (he_ndP rfl rfl) 18 rfl rfl) rfl rfl hl.1 rfl (lv_room (Nat.le_of_ble_eq_true rfl)) dX11_init_213 ⟨(Nat.le_of_ble_eq_true rfl), (Nat.le_of_ble_eq_true rfl)⟩) hP hD hS hA (he_is [18, 19, 2, 9, 3, 4, 12, 13, 15] [(aI g q_1 500 (fun _ => 0)), (aI g q_2 3 (fun _ => 0)), (aI g q_4 25 (fun _ => 0)), (aM g q_5 6 (he_ro 6 r1)), (aM g q_6 6 (he_ro 6 r2)), (aI g q_7 7 (fun _ => 0)), (aI g q_8 36 (fun _ => 0)), (aM g q_9 7 (he_ro 7 r3)), (aM g q_10 7 (he_ro 7 r4)), (aI g q_11 25 (fun _ => 0)), (aI g q_12 25 (fun _ => 0)), (aM g q_13 121 (he_ro 121 r5)), (aM g q_14 120 (he_ro 120 r6)), (aM g q_15 4 (he_ro 4 r7)), (aM g q_16 12 (he_ro 12 r8)), (aM g q_17 2 (he_ro 2 r9)), (aM g q_18 3 (he_ro 3 r10)), (aM g q_19 13 (he_ro 13 r11)), (oX11 m0 0 0 0 (-1) 0 0 0 0 q_1 q_2 q_3 q_4 q_5 q_6 0 q_7 q_8 q_9 q_10 q_11 q_12 q_13 q_14 0 1 1 0 0 0 q_15 q_16 q_17 q_18 0 q_19), (aI g q_3 25 (tnF (fun _ => 0)))] (he_pl g L11 ln11 M11)) [0, 1, 5, 6, 7, 8, 10, 11, 14, 16, 17] (he_ixP rfl) rfl rfl (he_disP (by decide) rfl) (fun u_24 H locs h_25 hP hD hS => ?_)
  obtain ⟨uf_26, Mu_27⟩ := u_24
  try dsimp only at h_25
  obtain ⟨hf_28, hf_29, hf_30, hf_31, hf_32⟩ := h_25
  have hP : va_P g.1 vwCl ([(aI g q_1 500 (fun _ => 0)), (aI g q_2 3 (fun _ => 0)), (aI g q_7 7 (fun _ => 0)), (aI g q_8 36 (fun _ => 0)), (aM g q_9 7 (he_ro 7 r3)), (aM g q_10 7 (he_ro 7 r4)), (aI g q_12 25 (fun _ => 0)), (aM g q_13 121 (he_ro 121 r5)), (aM g q_16 12 (he_ro 12 r8)), (aM g q_18 3 (he_ro 3 r10)), (aM g q_19 13 (he_ro 13 r11)), (oX11 m0 0 0 0 (-1) 0 0 0 0 q_1 q_2 q_3 q_4 q_5 q_6 0 q_7 q_8 q_9 q_10 q_11 q_12 q_13 q_14 0 1 1 0 0 0 q_15 q_16 q_17 q_18 0 q_19), (aI g q_3 25 (tnF (fun _ => 0))), (aI g q_4 25 (flF (tnF (fun _ => 0)) (fun _ => 0) 25)), (aI g q_11 25 uf_26), (aM g q_5 6 (he_ro 6 r1)), (aM g q_6 6 (he_ro 6 r2)), (aM g q_14 120 (he_ro 120 r6)), (aM g q_15 4 (he_ro 4 r7)), (aM g q_17 2 (he_ro 2 r9))] ++ he_pl g L11 ln11 Mu_27) H := hP
  have hD : va_D A ([(aI g q_1 500 (fun _ => 0)), (aI g q_2 3 (fun _ => 0)), (aI g q_7 7 (fun _ => 0)), (aI g q_8 36 (fun _ => 0)), (aM g q_9 7 (he_ro 7 r3)), (aM g q_10 7 (he_ro 7 r4)), (aI g q_12 25 (fun _ => 0)), (aM g q_13 121 (he_ro 121 r5)), (aM g q_16 12 (he_ro 12 r8)), (aM g q_18 3 (he_ro 3 r10)), (aM g q_19 13 (he_ro 13 r11)), (oX11 m0 0 0 0 (-1) 0 0 0 0 q_1 q_2 q_3 q_4 q_5 q_6 0 q_7 q_8 q_9 q_10 q_11 q_12 q_13 q_14 0 1 1 0 0 0 q_15 q_16 q_17 q_18 0 q_19), (aI g q_3 25 (tnF (fun _ => 0))), (aI g q_4 25 (flF (tnF (fun _ => 0)) (fun _ => 0) 25)), (aI g q_11 25 uf_26), (aM g q_5 6 (he_ro 6 r1)), (aM g q_6 6 (he_ro 6 r2)), (aM g q_14 120 (he_ro 120 r6)), (aM g q_15 4 (he_ro 4 r7)), (aM g q_17 2 (he_ro 2 r9))] ++ he_pl g L11 ln11 Mu_27) := hD
  have hP := he_Psub (X := [(aI g q_1 500 (fun _ => 0)), (aI g q_2 3 (fun _ => 0)), (aI g q_7 7 (fun _ => 0)), (aI g q_8 36 (fun _ => 0)), (aM g q_9 7 (he_ro 7 r3)), (aM g q_10 7 (he_ro 7 r4)), (aI g q_12 25 (fun _ => 0)), (aM g q_13 121 (he_ro 121 r5)), (aM g q_16 12 (he_ro 12 r8)), (aM g q_18 3 (he_ro 3 r10)), (aM g q_19 13 (he_ro 13 r11)), (oX11 m0 0 0 0 (-1) 0 0 0 0 q_1 q_2 q_3 q_4 q_5 q_6 0 q_7 q_8 q_9 q_10 q_11 q_12 q_13 q_14 0 1 1 0 0 0 q_15 q_16 q_17 q_18 0 q_19), (aI g q_3 25 (tnF (fun _ => 0))), (aI g q_4 25 (flF (tnF (fun _ => 0)) (fun _ => 0) 25)), (aI g q_11 25 uf_26), (aM g q_5 6 (he_ro 6 r1)), (aM g q_6 6 (he_ro 6 r2)), (aM g q_14 120 (he_ro 120 r6)), (aM g q_15 4 (he_ro 4 r7)), (aM g q_17 2 (he_ro 2 r9))]) (X2 := [(oX11 m0 0 0 0 (-1) 0 0 0 0 q_1 q_2 q_3 q_4 q_5 q_6 0 q_7 q_8 q_9 q_10 q_11 q_12 q_13 q_14 0 1 1 0 0 0 q_15 q_16 q_17 q_18 0 q_19), (aI g q_1 500 (fun _ => 0)), (aI g q_2 3 (fun _ => 0)), (aI g q_3 25 (tnF (fun _ => 0))), (aI g q_4 25 (flF (tnF (fun _ => 0)) (fun _ => 0) 25)), (aI g q_7 7 (fun _ => 0)), (aI g q_8 36 (fun _ => 0)), (aI g q_11 25 uf_26), (aI g q_12 25 (fun _ => 0)), (aM g q_5 6 (he_ro 6 r1)), (aM g q_6 6 (he_ro 6 r2)), (aM g q_9 7 (he_ro 7 r3)), (aM g q_10 7 (he_ro 7 r4)), (aM g q_13 121 (he_ro 121 r5)), (aM g q_14 120 (he_ro 120 r6)), (aM g q_15 4 (he_ro 4 r7)), (aM g q_16 12 (he_ro 12 r8)), (aM g q_17 2 (he_ro 2 r9)), (aM g q_18 3 (he_ro 3 r10)), (aM g q_19 13 (he_ro 13 r11))]) (P := (he_pl g L11 ln11 Mu_27)) hP [11, 0, 1, 12, 13, 2, 3, 14, 6, 15, 16, 4, 5, 7, 17, 18, 8, 19, 9, 10] rfl
  have hD := he_Dsub (X := [(aI g q_1 500 (fun _ => 0)), (aI g q_2 3 (fun _ => 0)), (aI g q_7 7 (fun _ => 0)), (aI g q_8 36 (fun _ => 0)), (aM g q_9 7 (he_ro 7 r3)), (aM g q_10 7 (he_ro 7 r4)), (aI g q_12 25 (fun _ => 0)), (aM g q_13 121 (he_ro 121 r5)), (aM g q_16 12 (he_ro 12 r8)), (aM g q_18 3 (he_ro 3 r10)), (aM g q_19 13 (he_ro 13 r11)), (oX11 m0 0 0 0 (-1) 0 0 0 0 q_1 q_2 q_3 q_4 q_5 q_6 0 q_7 q_8 q_9 q_10 q_11 q_12 q_13 q_14 0 1 1 0 0 0 q_15 q_16 q_17 q_18 0 q_19), (aI g q_3 25 (tnF (fun _ => 0))), (aI g q_4 25 (flF (tnF (fun _ => 0)) (fun _ => 0) 25)), (aI g q_11 25 uf_26), (aM g q_5 6 (he_ro 6 r1)), (aM g q_6 6 (he_ro 6 r2)), (aM g q_14 120 (he_ro 120 r6)), (aM g q_15 4 (he_ro 4 r7)), (aM g q_17 2 (he_ro 2 r9))]) (X2 := [(oX11 m0 0 0 0 (-1) 0 0 0 0 q_1 q_2 q_3 q_4 q_5 q_6 0 q_7 q_8 q_9 q_10 q_11 q_12 q_13 q_14 0 1 1 0 0 0 q_15 q_16 q_17 q_18 0 q_19), (aI g q_1 500 (fun _ => 0)), (aI g q_2 3 (fun _ => 0)), (aI g q_3 25 (tnF (fun _ => 0))), (aI g q_4 25 (flF (tnF (fun _ => 0)) (fun _ => 0) 25)), (aI g q_7 7 (fun _ => 0)), (aI g q_8 36 (fun _ => 0)), (aI g q_11 25 uf_26), (aI g q_12 25 (fun _ => 0)), (aM g q_5 6 (he_ro 6 r1)), (aM g q_6 6 (he_ro 6 r2)), (aM g q_9 7 (he_ro 7 r3)), (aM g q_10 7 (he_ro 7 r4)), (aM g q_13 121 (he_ro 121 r5)), (aM g q_14 120 (he_ro 120 r6)), (aM g q_15 4 (he_ro 4 r7)), (aM g q_16 12 (he_ro 12 r8)), (aM g q_17 2 (he_ro 2 r9)), (aM g q_18 3 (he_ro 3 r10)), (aM g q_19 13 (he_ro 13 r11))]) (P := (he_pl g L11 ln11 Mu_27)) hD [11, 0, 1, 12, 13, 2, 3, 14, 6, 15, 16, 4, 5, 7, 17, 18, 8, 19, 9, 10] rfl rfl rfl
  exact he_rv hQ hx hb hr hlk hP hD hS dX11_init_216 (Nat.le_of_ble_eq_true rfl) (Nat.le_of_ble_eq_true rfl) ((fun k => [q_1, q_2, q_3, q_4, q_5, q_6, q_7, q_8, q_9, q_10, q_11, q_12, q_13, q_14, q_15, q_16, q_17, q_18, q_19].getD k 0, L11, ln11, Mu_27, fun k => [r1, r2, r3, r4, r5, r6, r7, r8, r9, r10, r11].getD (k - 1) r1, uf_26)) (rfl) (by (try dsimp only); exact ⟨fun i hi => ⟨(F_r1 i hi).1, (F_r1 i hi).2.1, trivial⟩, fun i hi => ⟨(F_r2 i hi).1, (F_r2 i hi).2.1, trivial⟩, fun i hi => ⟨(F_r3 i hi).1, (F_r3 i hi).2.1, trivial⟩, fun i hi => ⟨(F_r4 i hi).1, (F_r4 i hi).2.1, trivial⟩, fun i hi => ⟨(F_r5 i hi).1, (F_r5 i hi).2.1, trivial⟩, fun i hi => ⟨(F_r6 i hi).1, (F_r6 i hi).2.1, trivial⟩, fun i hi => ⟨(F_r7 i hi).1, (F_r7 i hi).2.1, trivial⟩, fun i hi => ⟨(F_r8 i hi).1, (F_r8 i hi).2.1, trivial⟩, fun i hi => ⟨(F_r9 i hi).1, (F_r9 i hi).2.1, trivial⟩, fun i hi => ⟨(F_r10 i hi).1, (F_r10 i hi).2.1, trivial⟩, fun i hi => ⟨(F_r11 i hi).1, (F_r11 i hi).2.1, trivial⟩, D_r1_r2, D_r1_r3, D_r1_r4, D_r1_r5, D_r1_r6, D_r1_r7, D_r1_r8, D_r1_r9, D_r1_r10, D_r1_r11, D_r2_r3, D_r2_r4, D_r2_r5, D_r2_r6, D_r2_r7, D_r2_r8, D_r2_r9, D_r2_r10, D_r2_r11, D_r3_r4, D_r3_r5, D_r3_r6, D_r3_r7, D_r3_r8, D_r3_r9, D_r3_r10, D_r3_r11, D_r4_r5, D_r4_r6, D_r4_r7, D_r4_r8, D_r4_r9, D_r4_r10, D_r4_r11, D_r5_r6, D_r5_r7, D_r5_r8, D_r5_r9, D_r5_r10, D_r5_r11, D_r6_r7, D_r6_r8, D_r6_r9, D_r6_r10, D_r6_r11, D_r7_r8, D_r7_r9, D_r7_r10, D_r7_r11, D_r8_r9, D_r8_r10, D_r8_r11, D_r9_r10, D_r9_r11, D_r10_r11, J_r1, J_r2, J_r3, J_r4, J_r5, J_r6, J_r7, J_r8, J_r9, J_r10, J_r11, hf_28, hf_29, hf_30, fun i hi => by rw [hf_31]; exact bg_sb (by (try dsimp only); decide) (fun i h1 h2 => tn_A _ i h1 h2) (fun k hk => absurd hk (Nat.not_lt_zero k)) i hi⟩)
end
section
theorem sv_s {o : Nat → Nat → Nat} {m la wo : Nat} (hla : la = svN o m) (hfw : fwN (rsN o (12 - m)) la (bestN (rsN o (12 - m)) la 3) 3 0 = fwN (rsN o (12 - m)) la (bestN (rsN o (12 - m)) la 3) (3 - wo) wo) (hwo : wo < 3) (h1 : ¬ mfF la wo = 0) (h2 : rsN o (12 - m) wo = bestN (rsN o (12 - m)) la 3) : wo = svN o (m + 1) := by
  rw [svN, ← hla]
  exact (fw_y hfw hwo h1 h2).symm
set_option maxHeartbeats 4000000 in
set_option maxRecDepth 100000 in
theorem r_X11_serves (l : Launch) (g : he_G) (m0 : Nat) (fd : Nat) (rfm : Nat) (rt_ : Nat) (to_ : Nat) (rw_ : Nat) (wa : Nat) (rk : Nat) (rb : Nat) (cn : Nat) (br : Nat) (sm : Nat) (as_ : Nat) (go : Nat) (sh_ : Nat) (ki : Nat) (tg : Nat) (of_ : Nat) (kp : Nat) (rs : Nat) (ta : Int32) (sz_ : Int32) (pl : Int32) (at_ : Int32) (fa : Int32) (fw : Int32) (cs : Int32) (ct : Int32) (ir : Int32) (oa : Int32) (ob : Int32) (th : Int32) (ig : Int32) (sp_ : Int32) (sf : Int32) (tw : Int32) (L : List Nat) (ln : Nat → Nat) (M : Nat → Nat → Int32) (r9 : Nat → Nat) (r11 : Nat → Nat) (o : Nat → Nat → Nat) (n : Nat) (F_r9 : ∀ i, i < 2 → r9 i ∈ L ∧ ln (r9 i) = 12 ∧ True) (F_r11 : ∀ i, i < 13 → r11 i ∈ L ∧ ln (r11 i) = 3 ∧ True) (D_r9_r11 : ∀ i j, i < 2 → j < 13 → r9 i ≠ r11 j) (J_r11 : ∀ a b, a < 13 → b < 13 → r11 a = r11 b → a = b) (ho : oOk r9 o M) (hob : ∀ d m, o d m ≤ 999) (hn : n ≤ 11) : he_I l yX11_serves wsX11_serves 3 67 0 0 g [.ref m0, .int (nI n)] ([(oX11 m0 tw ta sz_ pl at_ fa fw cs fd rfm rt_ to_ rw_ wa ct rk rb cn br sm as_ go sh_ ir oa ob th ig sp_ ki tg of_ kp sf rs), (aM g of_ 2 (he_ro 2 r9)), (aM g rs 13 (he_ro 13 r11))] ++ he_pl g L ln M) (fun (r : Int32) (u : Nat → Nat → Int32) => r = nI (svN o (n + 1)) ∧ mEx r11 13 M u) (fun (u : Nat → Nat → Int32) => [(oX11 m0 0 ta sz_ pl at_ fa fw cs fd rfm rt_ to_ rw_ wa ct rk rb cn br sm as_ go sh_ ir oa ob th ig sp_ ki tg of_ kp sf rs), (aM g of_ 2 (he_ro 2 r9)), (aM g rs 13 (he_ro 13 r11))] ++ he_pl g L ln u) := by
  refine he_begin (l := l) (g := g) (y := yX11_serves) (wl := wsX11_serves) (fr := 3) (lo := 67) (mc := 0) (ms := 0) (av := [.ref m0, .int (nI n)]) (ws := ([(oX11 m0 tw ta sz_ pl at_ fa fw cs fd rfm rt_ to_ rw_ wa ct rk rb cn br sm as_ go sh_ ir oa ob th ig sp_ ki tg of_ kp sf rs), (aM g of_ 2 (he_ro 2 r9)), (aM g rs 13 (he_ro 13 r11))] ++ he_pl g L ln M)) (cc := cX11_serves) (maxL := 6) (ret := (some .int)) (fun A => va_Qi (fun (r : Int32) (u : Nat → Nat → Int32) => r = nI (svN o (n + 1)) ∧ mEx r11 13 M u) (fun u t => he_post g A ((fun (u : Nat → Nat → Int32) => [(oX11 m0 0 ta sz_ pl at_ fa fw cs fd rfm rt_ to_ rw_ wa ct rk rb cn br sm as_ go sh_ ir oa ob th ig sp_ ki tg of_ kp sf rs), (aM g of_ 2 (he_ro 2 r9)), (aM g rs 13 (he_ro 13 r11))] ++ he_pl g L ln u) u) t) A) (by decide) rfl (Nat.le_of_ble_eq_true rfl) ?_
  intro p e s m args below meth c A ls H locs Q hQ hB
  obtain ⟨hx, hb, hr, hml, hown, hts, hlk, hin, hP, hK, hD, hS, hA, hE, hl⟩ := hB
  have hl : lv_has ls 6 [(0, .ref m0), (1, .int (nI n))] := hl
  have f85 := hts (.fieldLink RX11 85 "HiredEnemyModel" "thrown" "I") (iwoX11_serves (k := 0) rfl)
  have inX11 : ∀ w ∈ wsX110, w ∈ wsX11_serves := innX11_serves_X11
  have f76 := hts (.fieldLink RX11 76 "HiredEnemyModel" "rest" "[[I") (iwoX11_serves (k := 1) rfl)
  have f70 := hts (.fieldLink RX11 70 "HiredEnemyModel" "offered" "[[I") (iwoX11_serves (k := 2) rfl)
  refine lv_aload_n hx hb dX11_serves_0 rfl (lv_at hl 0 rfl) ?_
  refine lv_iconst (v := 0) hx hb dX11_serves_1 (by decide) ?_
  refine va_put (v := .int 0) (ty := .int) (T := TX11) (N := 35) hx hb hts inX11 tyX11 tyX11_ok nmX11 hown hK hP hD hS 0 rfl rfl 0 (by decide) f85 (fun _ h9 => h9) rfl (by decide +kernel) rfl rfl (Nat.le_of_ble_eq_true rfl) dX11_serves_2 (fun H locs hP hD hS => ?_)
  have hP : va_P g.1 vwCl ([(oX11 m0 0 ta sz_ pl at_ fa fw cs fd rfm rt_ to_ rw_ wa ct rk rb cn br sm as_ go sh_ ir oa ob th ig sp_ ki tg of_ kp sf rs), (aM g of_ 2 (he_ro 2 r9)), (aM g rs 13 (he_ro 13 r11))] ++ he_pl g L ln M) H := hP
  have hD : va_D A ([(oX11 m0 0 ta sz_ pl at_ fa fw cs fd rfm rt_ to_ rw_ wa ct rk rb cn br sm as_ go sh_ ir oa ob th ig sp_ ki tg of_ kp sf rs), (aM g of_ 2 (he_ro 2 r9)), (aM g rs 13 (he_ro 13 r11))] ++ he_pl g L ln M) := hD
  refine lv_aload_n hx hb dX11_serves_5 rfl (lv_at hl 0 rfl) ?_
  refine lv_iload_n hx hb dX11_serves_6 rfl (lv_at hl 1 rfl) ?_
  refine lv_iconst (v := 0) hx hb dX11_serves_7 (by decide) ?_
  refine lv_bipush (v := 11) hx hb dX11_serves_8 (by decide) ?_
  refine he_ci (wc := []) (wr := ([(oX11 m0 0 ta sz_ pl at_ fa fw cs fd rfm rt_ to_ rw_ wa ct rk rb cn br sm as_ go sh_ ir oa ob th ig sp_ ki tg of_ kp sf rs), (aM g of_ 2 (he_ro 2 r9)), (aM g rs 13 (he_ro 13 r11))] ++ (he_pl g L ln M))) (va_runS (As := [.int (nI n), .int 0, .int 11]) (rest := [.ref m0]) ⟨hx, hb, hml, hown, hts⟩ (c_X11_in l g (nI n) 0 11 H.size) (va_cwS 3 hts gX11_serves_X11_in rfl rfl rfl (by decide +kernel) ⟨Nat.le_of_ble_eq_true rfl, Nat.le_of_ble_eq_true rfl⟩) (he_preS (wc := []) hK hP hD hS hA hE [] rfl rfl) rfl rfl hl.1 rfl (lv_room (Nat.le_of_ble_eq_true rfl)) dX11_serves_10 ⟨(Nat.le_of_ble_eq_true rfl), (Nat.le_of_ble_eq_true rfl)⟩) hP hD hS hA [] (he_is [0, 1, 2] [(oX11 m0 0 ta sz_ pl at_ fa fw cs fd rfm rt_ to_ rw_ wa ct rk rb cn br sm as_ go sh_ ir oa ob th ig sp_ ki tg of_ kp sf rs), (aM g of_ 2 (he_ro 2 r9)), (aM g rs 13 (he_ro 13 r11))] (he_pl g L ln M)) rfl (he_ixP rfl) (he_ndP rfl rfl) (he_disN (by decide) rfl) (fun r_1 u_2 H locs h_3 hP hD hS => ?_)
  have hP := va_P.swap hP
  have hD := va_D.swap hD
  subst h_3
  have hP : va_P g.1 vwCl ([(oX11 m0 0 ta sz_ pl at_ fa fw cs fd rfm rt_ to_ rw_ wa ct rk rb cn br sm as_ go sh_ ir oa ob th ig sp_ ki tg of_ kp sf rs), (aM g of_ 2 (he_ro 2 r9)), (aM g rs 13 (he_ro 13 r11))] ++ he_pl g L ln M) H := hP
  have hD : va_D A ([(oX11 m0 0 ta sz_ pl at_ fa fw cs fd rfm rt_ to_ rw_ wa ct rk rb cn br sm as_ go sh_ ir oa ob th ig sp_ ki tg of_ kp sf rs), (aM g of_ 2 (he_ro 2 r9)), (aM g rs 13 (he_ro 13 r11))] ++ he_pl g L ln M) := hD
  refine he_top (1) (he_within_in (a0 := 0) (B := 11) rfl rfl (by omega) (by omega) (by decide)) ?_
  refine lv_if_ne (tgt := 20) hx hb dX11_serves_13 (by decide) (fun c_4 => ?_) (fun c_4 => ?_)
  · refine lv_iconst (v := 0) hx hb dX11_serves_20 (by decide) ?_
    refine lv_iconst (v := 1) hx hb dX11_serves_21 (by decide) ?_
    refine lv_iconst (v := 2) hx hb dX11_serves_22 (by decide) ?_
    refine he_ci (wc := [(oX11 m0 0 ta sz_ pl at_ fa fw cs fd rfm rt_ to_ rw_ wa ct rk rb cn br sm as_ go sh_ ir oa ob th ig sp_ ki tg of_ kp sf rs)]) (wr := ([(aM g of_ 2 (he_ro 2 r9)), (aM g rs 13 (he_ro 13 r11))] ++ (he_pl g L ln M))) (va_runV (As := [.int 0, .int 1, .int 2]) (rest := []) ⟨hx, hb, hml, hown, hts⟩ (c_X11_bad0 l g m0 fd rfm rt_ to_ rw_ wa rk rb cn br sm as_ go sh_ ki tg of_ kp rs ta sz_ pl at_ fa fw cs ct ir oa ob th ig sp_ sf 1 2 H.size) (cwV 3 hts gX11_serves_X11_bad rfl rfl rfl (by decide +kernel) ⟨Nat.le_of_ble_eq_true rfl, Nat.le_of_ble_eq_true rfl⟩) (he_preV (wc := [(oX11 m0 0 ta sz_ pl at_ fa fw cs fd rfm rt_ to_ rw_ wa ct rk rb cn br sm as_ go sh_ ir oa ob th ig sp_ ki tg of_ kp sf rs)]) hK hP hD hS hA hE [0] rfl rfl 0 rfl rfl) rfl rfl hl.1 rfl (lv_room (Nat.le_of_ble_eq_true rfl)) dX11_serves_23 ⟨(Nat.le_of_ble_eq_true rfl), (Nat.le_of_ble_eq_true rfl)⟩) hP hD hS hA [0] (he_is [1, 2] [(oX11 m0 0 ta sz_ pl at_ fa fw cs fd rfm rt_ to_ rw_ wa ct rk rb cn br sm as_ go sh_ ir oa ob th ig sp_ ki tg of_ kp sf rs), (aM g of_ 2 (he_ro 2 r9)), (aM g rs 13 (he_ro 13 r11))] (he_pl g L ln M)) rfl (he_ixP rfl) (he_ndP rfl rfl) (he_disN (by decide) rfl) (fun r_5 u_6 H locs h_7 hP hD hS => ?_)
    have hP := va_P.swap hP
    have hD := va_D.swap hD
    subst h_7
    have hP : va_P g.1 vwCl ([(aM g of_ 2 (he_ro 2 r9)), (aM g rs 13 (he_ro 13 r11)), (oX11 m0 0 ta sz_ pl at_ fa fw cs fd rfm rt_ to_ rw_ wa ct rk rb cn br sm as_ go sh_ ir oa ob th ig sp_ ki tg of_ kp sf rs)] ++ he_pl g L ln M) H := hP
    have hD : va_D A ([(aM g of_ 2 (he_ro 2 r9)), (aM g rs 13 (he_ro 13 r11)), (oX11 m0 0 ta sz_ pl at_ fa fw cs fd rfm rt_ to_ rw_ wa ct rk rb cn br sm as_ go sh_ ir oa ob th ig sp_ ki tg of_ kp sf rs)] ++ he_pl g L ln M) := hD
    refine lv_if_eq (tgt := 31) hx hb dX11_serves_26 (by decide) (fun c_8 => ?_) (fun c_8 => ?_)
    · refine lv_aload_n hx hb dX11_serves_31 rfl (lv_at hl 0 rfl) ?_
      refine he_ci (wc := ([(oX11 m0 0 ta sz_ pl at_ fa fw cs fd rfm rt_ to_ rw_ wa ct rk rb cn br sm as_ go sh_ ir oa ob th ig sp_ ki tg of_ kp sf rs), (aM g of_ 2 (he_ro 2 r9)), (aM g rs 13 (he_ro 13 r11))] ++ (he_pl g L ln M))) (wr := []) (va_runV (As := []) (rest := []) ⟨hx, hb, hml, hown, hts⟩ (h_X11_mostNow l g m0 fd rfm rt_ to_ rw_ wa rk rb cn br sm as_ go sh_ ki tg of_ kp rs ta sz_ pl at_ fa fw cs ct ir oa ob th ig sp_ sf 0 L ln M r9 r11 o (by first | assumption | decide | omega) (by first | assumption | decide | omega) (by first | assumption | decide | omega) (by first | assumption | decide | omega) (by first | assumption | decide | omega) (by first | assumption | decide | omega) H.size) (cwV 0 hts gX11_serves_X11_mostNow rfl rfl rfl (by decide +kernel) ⟨Nat.le_of_ble_eq_true rfl, Nat.le_of_ble_eq_true rfl⟩) (he_preV (wc := ([(oX11 m0 0 ta sz_ pl at_ fa fw cs fd rfm rt_ to_ rw_ wa ct rk rb cn br sm as_ go sh_ ir oa ob th ig sp_ ki tg of_ kp sf rs), (aM g of_ 2 (he_ro 2 r9)), (aM g rs 13 (he_ro 13 r11))] ++ (he_pl g L ln M))) hK hP hD hS hA hE (he_is [2, 0, 1] [(aM g of_ 2 (he_ro 2 r9)), (aM g rs 13 (he_ro 13 r11)), (oX11 m0 0 ta sz_ pl at_ fa fw cs fd rfm rt_ to_ rw_ wa ct rk rb cn br sm as_ go sh_ ir oa ob th ig sp_ ki tg of_ kp sf rs)] (he_pl g L ln M)) (he_ixP rfl) (he_ndP rfl rfl) 2 rfl rfl) rfl rfl hl.1 rfl (lv_room (Nat.le_of_ble_eq_true rfl)) dX11_serves_32 ⟨(Nat.le_of_ble_eq_true rfl), (Nat.le_of_ble_eq_true rfl)⟩) hP hD hS hA (he_is [2, 0, 1] [(aM g of_ 2 (he_ro 2 r9)), (aM g rs 13 (he_ro 13 r11)), (oX11 m0 0 ta sz_ pl at_ fa fw cs fd rfm rt_ to_ rw_ wa ct rk rb cn br sm as_ go sh_ ir oa ob th ig sp_ ki tg of_ kp sf rs)] (he_pl g L ln M)) [] (he_ixP rfl) rfl rfl (he_disP (by decide) rfl) (fun r_9 u_10 H locs h_11 hP hD hS => ?_)
      obtain ⟨Mu_12, rfl⟩ : ∃ z, z = u_10 := ⟨_, rfl⟩
      try dsimp only at h_11
      obtain ⟨rfl, hf_13, hf_14⟩ := h_11
      have hP : va_P g.1 vwCl ([(oX11 m0 0 ta sz_ pl at_ fa fw cs fd rfm rt_ to_ rw_ wa ct rk rb cn br sm as_ go sh_ ir oa ob th ig sp_ ki tg of_ kp sf rs), (aM g of_ 2 (he_ro 2 r9)), (aM g rs 13 (he_ro 13 r11))] ++ he_pl g L ln Mu_12) H := hP
      have hD : va_D A ([(oX11 m0 0 ta sz_ pl at_ fa fw cs fd rfm rt_ to_ rw_ wa ct rk rb cn br sm as_ go sh_ ir oa ob th ig sp_ ki tg of_ kp sf rs), (aM g of_ 2 (he_ro 2 r9)), (aM g rs 13 (he_ro 13 r11))] ++ he_pl g L ln Mu_12) := hD
      have hrs := hf_13
      have HX := hf_14
      refine lv_istore_n (lv' := [(2, .int (nI (bestN (rsN o 12) 0 3))), (0, .ref m0), (1, .int (nI n))]) hx hb dX11_serves_35 rfl hl (by decide) rfl (fun ls hl => ?_)
      refine lv_iconst (v := 0) hx hb dX11_serves_36 (by decide) ?_
      refine lv_istore_n (lv' := [(3, .int 0), (2, .int (nI (bestN (rsN o 12) 0 3))), (0, .ref m0), (1, .int (nI n))]) hx hb dX11_serves_37 rfl hl (by decide) rfl (fun ls hl => ?_)
      refine lv_iconst (v := 0) hx hb dX11_serves_38 (by decide) ?_
      refine lv_istore (lv' := [(4, .int 0), (3, .int 0), (2, .int (nI (bestN (rsN o 12) 0 3))), (0, .ref m0), (1, .int (nI n))]) hx hb dX11_serves_39 hl (by decide) rfl (fun ls hl => ?_)
      refine lv_iconst (v := 0) hx hb dX11_serves_41 (by decide) ?_
      refine lv_istore (lv' := [(5, .int 0), (4, .int 0), (3, .int 0), (2, .int (nI (bestN (rsN o 12) 0 3))), (0, .ref m0), (1, .int (nI n))]) hx hb dX11_serves_42 hl (by decide) rfl (fun ls hl => ?_)
      have loop44 : ∀ (n9 : Nat) (mi : Nat) (la : Nat) (wh : Nat), n + 1 - mi < n9 → (mi ≤ n + 1) → (la < 3) → (la = svN o mi ∧ wh = svN o mi) → ∀ (H : Heap) (locs : List Loc) (ls : Array Slot), va_P g.1 vwCl ([(oX11 m0 0 ta sz_ pl at_ fa fw cs fd rfm rt_ to_ rw_ wa ct rk rb cn br sm as_ go sh_ ir oa ob th ig sp_ ki tg of_ kp sf rs), (aM g of_ 2 (he_ro 2 r9)), (aM g rs 13 (he_ro 13 r11))] ++ he_pl g L ln Mu_12) H → va_D A ([(oX11 m0 0 ta sz_ pl at_ fa fw cs fd rfm rt_ to_ rw_ wa ct rk rb cn br sm as_ go sh_ ir oa ob th ig sp_ ki tg of_ kp sf rs), (aM g of_ 2 (he_ro 2 r9)), (aM g rs 13 (he_ro 13 r11))] ++ he_pl g L ln Mu_12) → va_S A s.heap H locs → lv_has ls 6 [(0, .ref m0), (1, .int (nI n)), (2, .int (nI (bestN (rsN o (12 - mi)) la 3))), (3, .int (nI la)), (4, .int (nI wh)), (5, .int (nI mi))] → W p l e (he_room 3 67 0 0) s m args below meth c H locs 0 0 Q (F0 m 44 ls []) := by
        intro n9
        induction n9 with
        | zero => intro mi la wh hm9; exact absurd hm9 (Nat.not_lt_zero _)
        | succ n9 ih44 =>
          intro mi la wh hm9 hm hla hsv H locs ls hP hD hS hl
          refine lv_iload hx hb dX11_serves_44 (lv_at hl 5 rfl) ?_
          refine lv_iload_n hx hb dX11_serves_46 rfl (lv_at hl 1 rfl) ?_
          refine lv_icmp_gt (tgt := 115) hx hb dX11_serves_47 (by decide) (fun c_15 => ?_) (fun c_15 => ?_)
          · have k_16 : n < mi := (he_clt (a := n) (b := mi) rfl rfl (by omega) (by omega)).mp c_15
            refine lv_iload hx hb dX11_serves_115 (lv_at hl 4 rfl) ?_
            exact he_ri hQ hx hb hr hlk hP hD hS dX11_serves_117 (Nat.le_of_ble_eq_true rfl) (Nat.le_of_ble_eq_true rfl) (Mu_12) (rfl) (⟨by rw [hsv.2, show mi = n + 1 by omega], HX⟩)
          · have k_17 : ¬ (n < mi) := fun h9 => c_15 ((he_clt (a := n) (b := mi) rfl rfl (by omega) (by omega)).mpr h9)
            obtain ⟨ex, hex1, hex2, hex3⟩ := best_ex (rsN o (12 - mi)) la hla
            refine lv_iconst (v := 0) hx hb dX11_serves_50 (by decide) ?_
            refine lv_istore (lv' := [(4, .int 0), (0, .ref m0), (1, .int (nI n)), (2, .int (nI (bestN (rsN o (12 - mi)) la 3))), (3, .int (nI la)), (5, .int (nI mi))]) hx hb dX11_serves_51 hl (by decide) rfl (fun ls hl => ?_)
            have loop53 : ∀ (n9 : Nat) (wo : Nat), 3 - wo < n9 → (wo ≤ ex) → (fwN (rsN o (12 - mi)) la (bestN (rsN o (12 - mi)) la 3) 3 0 = fwN (rsN o (12 - mi)) la (bestN (rsN o (12 - mi)) la 3) (3 - wo) wo) → ∀ (H : Heap) (locs : List Loc) (ls : Array Slot), va_P g.1 vwCl ([(oX11 m0 0 ta sz_ pl at_ fa fw cs fd rfm rt_ to_ rw_ wa ct rk rb cn br sm as_ go sh_ ir oa ob th ig sp_ ki tg of_ kp sf rs), (aM g of_ 2 (he_ro 2 r9)), (aM g rs 13 (he_ro 13 r11))] ++ he_pl g L ln Mu_12) H → va_D A ([(oX11 m0 0 ta sz_ pl at_ fa fw cs fd rfm rt_ to_ rw_ wa ct rk rb cn br sm as_ go sh_ ir oa ob th ig sp_ ki tg of_ kp sf rs), (aM g of_ 2 (he_ro 2 r9)), (aM g rs 13 (he_ro 13 r11))] ++ he_pl g L ln Mu_12) → va_S A s.heap H locs → lv_has ls 6 [(0, .ref m0), (1, .int (nI n)), (2, .int (nI (bestN (rsN o (12 - mi)) la 3))), (3, .int (nI la)), (4, .int (nI wo)), (5, .int (nI mi))] → W p l e (he_room 3 67 0 0) s m args below meth c H locs 0 0 Q (F0 m 53 ls []) := by
              intro n9
              induction n9 with
              | zero => intro wo hm9; exact absurd hm9 (Nat.not_lt_zero _)
              | succ n9 ih53 =>
                intro wo hm9 hwo hfw H locs ls hP hD hS hl
                refine lv_iload_n hx hb dX11_serves_53 rfl (lv_at hl 3 rfl) ?_
                refine lv_iload hx hb dX11_serves_54 (lv_at hl 4 rfl) ?_
                refine he_ci (wc := []) (wr := ([(oX11 m0 0 ta sz_ pl at_ fa fw cs fd rfm rt_ to_ rw_ wa ct rk rb cn br sm as_ go sh_ ir oa ob th ig sp_ ki tg of_ kp sf rs), (aM g of_ 2 (he_ro 2 r9)), (aM g rs 13 (he_ro 13 r11))] ++ (he_pl g L ln Mu_12))) (va_runS (As := [.int (nI la), .int (nI wo)]) (rest := []) ⟨hx, hb, hml, hown, hts⟩ (c_X11_mayServe l g la wo (by first | assumption | decide | omega) (by first | assumption | decide | omega) H.size) (va_cwS 2 hts gX11_serves_X11_mayServe rfl rfl rfl (by decide +kernel) ⟨Nat.le_of_ble_eq_true rfl, Nat.le_of_ble_eq_true rfl⟩) (he_preS (wc := []) hK hP hD hS hA hE [] rfl rfl) rfl rfl hl.1 rfl (lv_room (Nat.le_of_ble_eq_true rfl)) dX11_serves_56 ⟨(Nat.le_of_ble_eq_true rfl), (Nat.le_of_ble_eq_true rfl)⟩) hP hD hS hA [] (he_is [0, 1, 2] [(oX11 m0 0 ta sz_ pl at_ fa fw cs fd rfm rt_ to_ rw_ wa ct rk rb cn br sm as_ go sh_ ir oa ob th ig sp_ ki tg of_ kp sf rs), (aM g of_ 2 (he_ro 2 r9)), (aM g rs 13 (he_ro 13 r11))] (he_pl g L ln Mu_12)) rfl (he_ixP rfl) (he_ndP rfl rfl) (he_disN (by decide) rfl) (fun r_18 u_19 H locs h_20 hP hD hS => ?_)
                have hP := va_P.swap hP
                have hD := va_D.swap hD
                subst h_20
                have hP : va_P g.1 vwCl ([(oX11 m0 0 ta sz_ pl at_ fa fw cs fd rfm rt_ to_ rw_ wa ct rk rb cn br sm as_ go sh_ ir oa ob th ig sp_ ki tg of_ kp sf rs), (aM g of_ 2 (he_ro 2 r9)), (aM g rs 13 (he_ro 13 r11))] ++ he_pl g L ln Mu_12) H := hP
                have hD : va_D A ([(oX11 m0 0 ta sz_ pl at_ fa fw cs fd rfm rt_ to_ rw_ wa ct rk rb cn br sm as_ go sh_ ir oa ob th ig sp_ ki tg of_ kp sf rs), (aM g of_ 2 (he_ro 2 r9)), (aM g rs 13 (he_ro 13 r11))] ++ he_pl g L ln Mu_12) := hD
                refine lv_if_eq (tgt := 76) hx hb dX11_serves_59 (by decide) (fun c_21 => ?_) (fun c_21 => ?_)
                · have hne : wo ≠ ex := fun h9 => hex2 (by rw [← h9]; exact c_21)
                  refine lv_iinc (v := nI (wo + 1)) (lv' := [(4, .int (nI (wo + 1))), (0, .ref m0), (1, .int (nI n)), (2, .int (nI (bestN (rsN o (12 - mi)) la 3))), (3, .int (nI la)), (5, .int (nI mi))]) hx hb dX11_serves_76 hl (k := 4) rfl (nI_1 wo) (by decide) rfl (fun ls hl => ?_)
                  refine lv_goto (tgt := 53) hx hb dX11_serves_79 (by decide) ?_
                  exact ih53 (wo + 1) (by omega) (by omega) (fw_n hfw (by omega) (Or.inl c_21)) _ _ _ hP hD hS (lv_sub hl [1, 2, 3, 4, 0, 5] rfl)
                · refine lv_aload_n hx hb dX11_serves_62 rfl (lv_at hl 0 rfl) ?_
                  refine va_get (v := .ref rs) (T := TX11) (N := 35) hx hb hts inX11 hown hK hP 0 rfl rfl 34 (by decide) f76 (fun _ h9 => h9) rfl dX11_serves_63 ?_
                  refine lv_iload hx hb dX11_serves_66 (lv_at hl 5 rfl) ?_
                  refine he_aldm hx hb hK hP 2 rfl (mi) rfl (by first | assumption | decide | omega) (by decide) dX11_serves_68 ?_
                  refine lv_iload hx hb dX11_serves_69 (lv_at hl 4 rfl) ?_
                  refine he_pald hx hb hK hP (F_r11 mi (by first | assumption | decide | omega)).1 (wo) rfl (by rw [(F_r11 mi (by first | assumption | decide | omega)).2.1]; exact (by first | assumption | decide | omega)) (by rw [(F_r11 mi (by first | assumption | decide | omega)).2.1]; decide) (nI (rsN o (12 - mi) wo)) (rs_m hrs (by omega) (by omega)) dX11_serves_71 ?_
                  refine lv_iload_n hx hb dX11_serves_72 rfl (lv_at hl 2 rfl) ?_
                  refine lv_icmp_eq (tgt := 82) hx hb dX11_serves_73 (by decide) (fun c_22 => ?_) (fun c_22 => ?_)
                  · refine lv_iload_n hx hb dX11_serves_82 rfl (lv_at hl 2 rfl) ?_
                    refine lv_iload hx hb dX11_serves_83 (lv_at hl 4 rfl) ?_
                    refine lv_if_ne (tgt := 92) hx hb dX11_serves_85 (by decide) (fun c_23 => ?_) (fun c_23 => ?_)
                    · have k_24 : ¬ (wo = 0) := fun h9 => c_23 ((he_ceq (a := wo) (b := 0) rfl (by decide) (by omega) (by omega)).mpr h9)
                      refine lv_aload_n hx hb dX11_serves_92 rfl (lv_at hl 0 rfl) ?_
                      refine va_get (v := .ref of_) (T := TX11) (N := 35) hx hb hts inX11 hown hK hP 0 rfl rfl 31 (by decide) f70 (fun _ h9 => h9) rfl dX11_serves_93 ?_
                      refine lv_iload hx hb dX11_serves_96 (lv_at hl 4 rfl) ?_
                      refine lv_iconst (v := 1) hx hb dX11_serves_98 (by decide) ?_
                      refine lv_isub hx hb dX11_serves_99 ?_
                      refine he_top (nI (wo - 1)) (pk_sub (b := 1) (by omega)) ?_
                      refine he_aldm hx hb hK hP 1 rfl (wo - 1) rfl (by first | assumption | decide | omega) (by decide) dX11_serves_100 ?_
                      refine lv_iload hx hb dX11_serves_101 (lv_at hl 5 rfl) ?_
                      refine he_pald hx hb hK hP (F_r9 (wo - 1) (by first | assumption | decide | omega)).1 (mi) rfl (by rw [(F_r9 (wo - 1) (by first | assumption | decide | omega)).2.1]; exact (by first | assumption | decide | omega)) (by rw [(F_r9 (wo - 1) (by first | assumption | decide | omega)).2.1]; decide) (nI (o (wo - 1) mi)) (by rw [HX _ (fun i hi => D_r9_r11 (wo - 1) i (by omega) hi)]; exact ho (wo - 1) (by omega) mi (by omega)) dX11_serves_103 ?_
                      refine lv_isub hx hb dX11_serves_104 ?_
                      refine he_top (nI (bestN (rsN o (12 - (mi + 1))) wo 3)) (by have h8 := sv_next (o := o) (w := wo) (m := mi) (by omega); rw [if_neg (by omega)] at h8; rw [← c_22]; exact h8) ?_
                      refine lv_istore_n (lv' := [(2, .int (nI (bestN (rsN o (12 - (mi + 1))) wo 3))), (0, .ref m0), (1, .int (nI n)), (3, .int (nI la)), (4, .int (nI wo)), (5, .int (nI mi))]) hx hb dX11_serves_105 rfl hl (by decide) rfl (fun ls hl => ?_)
                      refine lv_iload hx hb dX11_serves_106 (lv_at hl 4 rfl) ?_
                      refine lv_istore_n (lv' := [(3, .int (nI wo)), (2, .int (nI (bestN (rsN o (12 - (mi + 1))) wo 3))), (0, .ref m0), (1, .int (nI n)), (4, .int (nI wo)), (5, .int (nI mi))]) hx hb dX11_serves_108 rfl hl (by decide) rfl (fun ls hl => ?_)
                      refine lv_iinc (v := nI (mi + 1)) (lv' := [(5, .int (nI (mi + 1))), (3, .int (nI wo)), (2, .int (nI (bestN (rsN o (12 - (mi + 1))) wo 3))), (0, .ref m0), (1, .int (nI n)), (4, .int (nI wo))]) hx hb dX11_serves_109 hl (k := 5) rfl (nI_1 mi) (by decide) rfl (fun ls hl => ?_)
                      refine lv_goto (tgt := 44) hx hb dX11_serves_112 (by decide) ?_
                      exact ih44 (mi + 1) wo wo (by omega) (by omega) (by omega) ⟨(sv_s hsv.1 hfw (by omega) c_21 (nI_j (rsN_b hob wo) (bsN_b hob (by decide)) c_22)), (sv_s hsv.1 hfw (by omega) c_21 (nI_j (rsN_b hob wo) (bsN_b hob (by decide)) c_22))⟩ _ _ _ hP hD hS (lv_sub hl [3, 4, 2, 1, 5, 0] rfl)
                    · have k_25 : wo = 0 := (he_ceq (a := wo) (b := 0) rfl (by decide) (by omega) (by omega)).mp c_23
                      refine lv_iconst (v := 0) hx hb dX11_serves_88 (by decide) ?_
                      refine lv_goto (tgt := 104) hx hb dX11_serves_89 (by decide) ?_
                      refine lv_isub hx hb dX11_serves_104 ?_
                      refine he_top (nI (bestN (rsN o (12 - (mi + 1))) wo 3)) (by have h8 := sv_next (o := o) (w := wo) (m := mi) (by omega); rw [if_pos (by omega)] at h8; rw [← c_22]; exact h8) ?_
                      refine lv_istore_n (lv' := [(2, .int (nI (bestN (rsN o (12 - (mi + 1))) wo 3))), (0, .ref m0), (1, .int (nI n)), (3, .int (nI la)), (4, .int (nI wo)), (5, .int (nI mi))]) hx hb dX11_serves_105 rfl hl (by decide) rfl (fun ls hl => ?_)
                      refine lv_iload hx hb dX11_serves_106 (lv_at hl 4 rfl) ?_
                      refine lv_istore_n (lv' := [(3, .int (nI wo)), (2, .int (nI (bestN (rsN o (12 - (mi + 1))) wo 3))), (0, .ref m0), (1, .int (nI n)), (4, .int (nI wo)), (5, .int (nI mi))]) hx hb dX11_serves_108 rfl hl (by decide) rfl (fun ls hl => ?_)
                      refine lv_iinc (v := nI (mi + 1)) (lv' := [(5, .int (nI (mi + 1))), (3, .int (nI wo)), (2, .int (nI (bestN (rsN o (12 - (mi + 1))) wo 3))), (0, .ref m0), (1, .int (nI n)), (4, .int (nI wo))]) hx hb dX11_serves_109 hl (k := 5) rfl (nI_1 mi) (by decide) rfl (fun ls hl => ?_)
                      refine lv_goto (tgt := 44) hx hb dX11_serves_112 (by decide) ?_
                      exact ih44 (mi + 1) wo wo (by omega) (by omega) (by omega) ⟨(sv_s hsv.1 hfw (by omega) c_21 (nI_j (rsN_b hob wo) (bsN_b hob (by decide)) c_22)), (sv_s hsv.1 hfw (by omega) c_21 (nI_j (rsN_b hob wo) (bsN_b hob (by decide)) c_22))⟩ _ _ _ hP hD hS (lv_sub hl [3, 4, 2, 1, 5, 0] rfl)
                  · have hne : wo ≠ ex := fun h9 => c_22 (by rw [h9, hex3])
                    refine lv_iinc (v := nI (wo + 1)) (lv' := [(4, .int (nI (wo + 1))), (0, .ref m0), (1, .int (nI n)), (2, .int (nI (bestN (rsN o (12 - mi)) la 3))), (3, .int (nI la)), (5, .int (nI mi))]) hx hb dX11_serves_76 hl (k := 4) rfl (nI_1 wo) (by decide) rfl (fun ls hl => ?_)
                    refine lv_goto (tgt := 53) hx hb dX11_serves_79 (by decide) ?_
                    exact ih53 (wo + 1) (by omega) (by omega) (fw_n hfw (by omega) (Or.inr (fun h9 => c_22 (by rw [h9])))) _ _ _ hP hD hS (lv_sub hl [1, 2, 3, 4, 0, 5] rfl)
            exact loop53 ((3 - 0) + 1) 0 (Nat.lt_succ_self _) (Nat.zero_le _) rfl _ _ _ hP hD hS (lv_sub hl [1, 2, 3, 4, 0, 5] rfl)
      exact loop44 ((n + 1 - 0) + 1) 0 0 0 (Nat.lt_succ_self _) (Nat.zero_le _) (by decide) ⟨rfl, rfl⟩ _ _ _ hP hD hS (lv_sub hl [4, 5, 3, 2, 1, 0] rfl)
    · exact absurd (by decide) c_8
  · exact absurd c_4 (by decide)
end
section
/-! a battle in earnest, counted in both ways (DRAFT, untried): rows of three digits against sets of walls -/
def bt (s k : Nat) : Bool := s / 2 ^ k % 2 == 1
def s3 (f : Nat → Nat) : Nat := f 0 + f 1 + f 2
def dgt (row k : Nat) : Nat := if k = 0 then row / 49 else if k = 1 then row / 7 % 7 else row % 7
def puB (row n A : Nat) : Bool := (bt A 0 || dgt row 0 == 0) && (bt A 1 || dgt row 1 == 0) && (bt A 2 || dgt row 2 == 0) && (dgt row 0 + dgt row 1 + dgt row 2 == n || A == 0)
def fal (W : Nat → Nat) (A : Nat) (e p : Nat → Nat) : Nat := s3 (fun k => if bt A k = true ∧ p k + W k / 25 < e k then W k else 0)
def wor (W : Nat → Nat) (s : Nat) : Nat := s3 (fun k => if bt s k = true then W k else 0)
def nee (W p : Nat → Nat) (s : Nat) : Nat := s3 (fun k => if bt s k = true then p k + W k / 25 + 1 else 0)
def hol (W e : Nat → Nat) (s : Nat) : Nat := s3 (fun k => if bt s k = true then e k - W k / 25 else 0)
def msk (f : Nat → Bool) : Nat := (if f 0 then 1 else 0) + (if f 1 then 2 else 0) + (if f 2 then 4 else 0)
theorem msk_lt (f : Nat → Bool) : msk f < 8 := by
  unfold msk
  cases f 0 <;> cases f 1 <;> cases f 2 <;> decide
theorem bt_msk0 (f : Nat → Bool) : bt (msk f) 0 = f 0 := by
  unfold msk
  cases f 0 <;> cases f 1 <;> cases f 2 <;> decide
theorem bt_msk1 (f : Nat → Bool) : bt (msk f) 1 = f 1 := by
  unfold msk
  cases f 0 <;> cases f 1 <;> cases f 2 <;> decide
theorem bt_msk2 (f : Nat → Bool) : bt (msk f) 2 = f 2 := by
  unfold msk
  cases f 0 <;> cases f 1 <;> cases f 2 <;> decide
theorem s3_le {f g : Nat → Nat} (h0 : f 0 ≤ g 0) (h1 : f 1 ≤ g 1) (h2 : f 2 ≤ g 2) : s3 f ≤ s3 g := by
  unfold s3
  omega
theorem s3_e {f g : Nat → Nat} (h0 : f 0 = g 0) (h1 : f 1 = g 1) (h2 : f 2 = g 2) : s3 f = s3 g := by
  unfold s3
  omega
/-- the most over those below n -/
def mxF (P : Nat → Bool) (v : Nat → Nat) : Nat → Nat
  | 0 => 0
  | n + 1 => if P n = true ∧ mxF P v n < v n then v n else mxF P v n
theorem mx_ge {P : Nat → Bool} {v : Nat → Nat} : ∀ N n, n < N → P n = true → v n ≤ mxF P v N
  | 0, n, h, _ => absurd h (Nat.not_lt_zero n)
  | N + 1, n, h, hp => by
    rw [mxF]
    by_cases e : n = N
    · subst e
      split
      · exact Nat.le_refl _
      · rename_i c
        exact Nat.le_of_not_lt (fun h9 => c ⟨hp, h9⟩)
    · have := mx_ge (P := P) (v := v) N n (by omega) hp
      split
      · rename_i c
        omega
      · exact this
theorem mx_le {P : Nat → Bool} {v : Nat → Nat} {B : Nat} : ∀ N, (∀ n, n < N → P n = true → v n ≤ B) → mxF P v N ≤ B
  | 0, _ => Nat.zero_le _
  | N + 1, h => by
    rw [mxF]
    split
    · rename_i c
      exact h N (by omega) c.1
    · exact mx_le N (fun n hn hp => h n (by omega) hp)
/-- the least over those below n, if there is one -/
def mnO (P : Nat → Bool) (v : Nat → Nat) : Nat → Option Nat
  | 0 => none
  | n + 1 => if P n = true then (match mnO P v n with
    | none => some (v n)
    | some b => if v n < b then some (v n) else some b) else mnO P v n
theorem mn_is {P : Nat → Bool} {v : Nat → Nat} {B : Nat} : ∀ N, (∀ n, n < N → P n = true → B ≤ v n) → (∃ n, n < N ∧ P n = true ∧ v n ≤ B) → mnO P v N = some B
  | 0, _, h => by obtain ⟨n, h, -⟩ := h; exact absurd h (Nat.not_lt_zero n)
  | N + 1, h, hx => by
    have ih := mn_is (P := P) (v := v) (B := B) N (fun n hn hp => h n (by omega) hp)
    rw [mnO]
    by_cases c : ∃ n, n < N ∧ P n = true ∧ v n ≤ B
    · rw [ih c]
      split
      · rename_i hp
        have := h N (by omega) hp
        show (if v N < B then some (v N) else some B) = some B
        rw [if_neg (by omega)]
      · rfl
    · obtain ⟨n, h1, h2, h3⟩ := hx
      have e : n = N := by
        apply Decidable.byContradiction
        intro h9
        exact c ⟨n, by omega, h2, h3⟩
      subst e
      have hv : v n = B := Nat.le_antisymm h3 (h n (by omega) h2)
      rw [if_pos h2]
      have key : ∀ M, M ≤ n → mnO P v M = none ∨ ∃ b, mnO P v M = some b ∧ B < b := by
        intro M
        induction M with
        | zero => intro _; exact Or.inl rfl
        | succ M ihM =>
          intro hM
          have hb : P M = true → B < v M := fun hp => Nat.lt_of_not_le (fun h9 => c ⟨M, by omega, hp, h9⟩)
          rw [mnO]
          by_cases hp : P M = true
          · rw [if_pos hp]
            rcases ihM (by omega) with e | ⟨b, e, hb2⟩
            · rw [e]; exact Or.inr ⟨v M, rfl, hb hp⟩
            · rw [e]
              by_cases hq : v M < b
              · exact Or.inr ⟨v M, if_pos hq, hb hp⟩
              · exact Or.inr ⟨b, if_neg hq, hb2⟩
          · rw [if_neg hp]
            exact ihM (by omega)
      rcases key n (Nat.le_refl n) with e | ⟨b, e, hb2⟩
      · rw [e]; show some (v n) = some B; rw [hv]
      · rw [e]
        show (if v n < b then some (v n) else some b) = some B
        rw [if_pos (by omega), hv]
/-- a row out of three digits -/
def rwD (e : Nat → Nat) : Nat := 49 * e 0 + 7 * e 1 + e 2
theorem dgt_rw {e : Nat → Nat} (h0 : e 0 ≤ 6) (h1 : e 1 ≤ 6) (h2 : e 2 ≤ 6) : dgt (rwD e) 0 = e 0 ∧ dgt (rwD e) 1 = e 1 ∧ dgt (rwD e) 2 = e 2 ∧ rwD e < 343 := by
  unfold dgt rwD
  refine ⟨?_, ?_, ?_, by omega⟩
  · rw [if_pos rfl]; omega
  · rw [if_neg (by decide), if_pos rfl]; omega
  · rw [if_neg (by decide), if_neg (by decide)]; omega
theorem pu_iff {row n A : Nat} (hA : A ≠ 0) : puB row n A = true ↔ (bt A 0 = false → dgt row 0 = 0) ∧ (bt A 1 = false → dgt row 1 = 0) ∧ (bt A 2 = false → dgt row 2 = 0) ∧ dgt row 0 + dgt row 1 + dgt row 2 = n := by
  unfold puB
  cases bt A 0 <;> cases bt A 1 <;> cases bt A 2 <;> simp [hA] <;> omega
/-- some wall of the set -/
theorem bt_ex {A : Nat} (h8 : A < 8) (hA : A ≠ 0) : bt A 0 = true ∨ (bt A 0 = false ∧ bt A 1 = true) ∨ (bt A 0 = false ∧ bt A 1 = false ∧ bt A 2 = true) := by
  rcases (show A = 1 ∨ A = 2 ∨ A = 3 ∨ A = 4 ∨ A = 5 ∨ A = 6 ∨ A = 7 by omega) with rfl | rfl | rfl | rfl | rfl | rfl | rfl <;> decide
def subB (s A : Nat) : Bool := (!bt s 0 || bt A 0) && (!bt s 1 || bt A 1) && (!bt s 2 || bt A 2)
theorem sub_0 {s A : Nat} (h : subB s A = true) (c : bt s 0 = true) : bt A 0 = true := by
  unfold subB at h
  rw [c] at h
  cases hb : bt A 0
  · rw [hb] at h; simp at h
  · rfl
theorem sub_1 {s A : Nat} (h : subB s A = true) (c : bt s 1 = true) : bt A 1 = true := by
  unfold subB at h
  rw [c] at h
  cases hb : bt A 1
  · rw [hb] at h; simp at h
  · rfl
theorem sub_2 {s A : Nat} (h : subB s A = true) (c : bt s 2 = true) : bt A 2 = true := by
  unfold subB at h
  rw [c] at h
  cases hb : bt A 2
  · rw [hb] at h; simp at h
  · rfl
section BA
variable {W p e : Nat → Nat} {A a d s : Nat}
theorem sub_and {f : Nat → Bool} : subB (msk (fun k => bt A k && f k)) A = true := by
  unfold subB
  rw [bt_msk0, bt_msk1, bt_msk2]
  cases bt A 0 <;> cases bt A 1 <;> cases bt A 2 <;> simp
theorem fell_row (hA : A ≠ 0) (ha : a ≤ 6) (hsub : subB s A = true) (e : Nat → Nat) (hsum : e 0 + e 1 + e 2 = a) (z0 : bt A 0 = false → e 0 = 0) (z1 : bt A 1 = false → e 1 = 0) (z2 : bt A 2 = false → e 2 = 0) (g0 : (if bt s 0 = true then p 0 + W 0 / 25 + 1 else 0) ≤ e 0) (g1 : (if bt s 1 = true then p 1 + W 1 / 25 + 1 else 0) ≤ e 1) (g2 : (if bt s 2 = true then p 2 + W 2 / 25 + 1 else 0) ≤ e 2) : wor W s ≤ mxF (fun r => puB r a A) (fun r => fal W A (dgt r) p) 343 := by
  obtain ⟨d0, d1, d2, hr⟩ := dgt_rw (e := e) (by omega) (by omega) (by omega)
  have hp : puB (rwD e) a A = true := (pu_iff hA).mpr ⟨fun h => by rw [d0]; exact z0 h, fun h => by rw [d1]; exact z1 h, fun h => by rw [d2]; exact z2 h, by rw [d0, d1, d2]; exact hsum⟩
  refine Nat.le_trans ?_ (mx_ge (P := fun r => puB r a A) (v := fun r => fal W A (dgt r) p) 343 (rwD e) hr hp)
  show wor W s ≤ fal W A (dgt (rwD e)) p
  unfold wor fal
  refine s3_le ?_ ?_ ?_
  · try dsimp only
    by_cases c : bt s 0 = true
    · rw [if_pos c] at g0
      rw [if_pos c, if_pos ⟨sub_0 hsub c, by rw [d0]; omega⟩]
      exact Nat.le_refl _
    · rw [if_neg c]; exact Nat.zero_le _
  · try dsimp only
    by_cases c : bt s 1 = true
    · rw [if_pos c] at g1
      rw [if_pos c, if_pos ⟨sub_1 hsub c, by rw [d1]; omega⟩]
      exact Nat.le_refl _
    · rw [if_neg c]; exact Nat.zero_le _
  · try dsimp only
    by_cases c : bt s 2 = true
    · rw [if_pos c] at g2
      rw [if_pos c, if_pos ⟨sub_2 hsub c, by rw [d2]; omega⟩]
      exact Nat.le_refl _
    · rw [if_neg c]; exact Nat.zero_le _
/-- what falls at the worst: over the enemy's rows, over the sets that he can fell -/
theorem fell_max (h8 : A < 8) (hA : A ≠ 0) (ha : a ≤ 6) : mxF (fun r => puB r a A) (fun r => fal W A (dgt r) p) 343 = mxF (fun s => subB s A && decide (nee W p s ≤ a)) (wor W) 8 := by
  apply Nat.le_antisymm
  · refine mx_le 343 (fun r hr hp => ?_)
    try dsimp only at hp ⊢
    obtain ⟨z0, z1, z2, hs⟩ := (pu_iff hA).mp hp
    have hsub : subB (msk (fun k => bt A k && decide (p k + W k / 25 < dgt r k))) A = true := sub_and
    have b0 := bt_msk0 (fun k => bt A k && decide (p k + W k / 25 < dgt r k))
    have b1 := bt_msk1 (fun k => bt A k && decide (p k + W k / 25 < dgt r k))
    have b2 := bt_msk2 (fun k => bt A k && decide (p k + W k / 25 < dgt r k))
    have hl := msk_lt (fun k => bt A k && decide (p k + W k / 25 < dgt r k))
    generalize msk (fun k => bt A k && decide (p k + W k / 25 < dgt r k)) = S at hsub b0 b1 b2 hl
    have e : fal W A (dgt r) p = wor W S := by
      unfold fal wor
      refine s3_e ?_ ?_ ?_
      · simp only [b0, Bool.and_eq_true, decide_eq_true_eq]
      · simp only [b1, Bool.and_eq_true, decide_eq_true_eq]
      · simp only [b2, Bool.and_eq_true, decide_eq_true_eq]
    have hn : nee W p S ≤ a := by
      rw [← hs]
      show nee W p S ≤ s3 (dgt r)
      unfold nee
      refine s3_le ?_ ?_ ?_
      · simp only [b0, Bool.and_eq_true, decide_eq_true_eq]
        split <;> omega
      · simp only [b1, Bool.and_eq_true, decide_eq_true_eq]
        split <;> omega
      · simp only [b2, Bool.and_eq_true, decide_eq_true_eq]
        split <;> omega
    rw [e]
    exact mx_ge (P := fun s => subB s A && decide (nee W p s ≤ a)) (v := wor W) 8 S hl (by simp [hsub, hn])
  · refine mx_le 8 (fun s hs hp => ?_)
    have hsub : subB s A = true := (Bool.and_eq_true _ _ ▸ hp).1
    have hn : nee W p s ≤ a := of_decide_eq_true (Bool.and_eq_true _ _ ▸ hp).2
    have hn9 : (if bt s 0 = true then p 0 + W 0 / 25 + 1 else 0) + (if bt s 1 = true then p 1 + W 1 / 25 + 1 else 0) + (if bt s 2 = true then p 2 + W 2 / 25 + 1 else 0) ≤ a := hn
    have y0 : bt A 0 = false → (if bt s 0 = true then p 0 + W 0 / 25 + 1 else 0) = 0 := fun h => if_neg (fun c => by rw [sub_0 hsub c] at h; exact absurd h (by decide))
    have y1 : bt A 1 = false → (if bt s 1 = true then p 1 + W 1 / 25 + 1 else 0) = 0 := fun h => if_neg (fun c => by rw [sub_1 hsub c] at h; exact absurd h (by decide))
    have y2 : bt A 2 = false → (if bt s 2 = true then p 2 + W 2 / 25 + 1 else 0) = 0 := fun h => if_neg (fun c => by rw [sub_2 hsub c] at h; exact absurd h (by decide))
    have main : ∀ k0 k1 k2 : Nat, (if bt s 0 = true then p 0 + W 0 / 25 + 1 else 0) + k0 + ((if bt s 1 = true then p 1 + W 1 / 25 + 1 else 0) + k1) + ((if bt s 2 = true then p 2 + W 2 / 25 + 1 else 0) + k2) = a → (bt A 0 = false → k0 = 0) → (bt A 1 = false → k1 = 0) → (bt A 2 = false → k2 = 0) → wor W s ≤ mxF (fun r => puB r a A) (fun r => fal W A (dgt r) p) 343 := by
      intro k0 k1 k2 hk x0 x1 x2
      exact fell_row hA ha hsub (fun k => if k = 0 then (if bt s 0 = true then p 0 + W 0 / 25 + 1 else 0) + k0 else if k = 1 then (if bt s 1 = true then p 1 + W 1 / 25 + 1 else 0) + k1 else (if bt s 2 = true then p 2 + W 2 / 25 + 1 else 0) + k2) hk
        (fun h => by show (if bt s 0 = true then p 0 + W 0 / 25 + 1 else 0) + k0 = 0; rw [y0 h, x0 h]) (fun h => by show (if bt s 1 = true then p 1 + W 1 / 25 + 1 else 0) + k1 = 0; rw [y1 h, x1 h]) (fun h => by show (if bt s 2 = true then p 2 + W 2 / 25 + 1 else 0) + k2 = 0; rw [y2 h, x2 h])
        (Nat.le_add_right _ _) (Nat.le_add_right _ _) (Nat.le_add_right _ _)
    generalize (if bt s 0 = true then p 0 + W 0 / 25 + 1 else 0) = n0 at hn9 main
    generalize (if bt s 1 = true then p 1 + W 1 / 25 + 1 else 0) = n1 at hn9 main
    generalize (if bt s 2 = true then p 2 + W 2 / 25 + 1 else 0) = n2 at hn9 main
    rcases bt_ex h8 hA with c | ⟨c, c1⟩ | ⟨c, c1, c2⟩
    · exact main (a - (n0 + n1 + n2)) 0 0 (by omega) (fun h => absurd (h.symm.trans c) (by decide)) (fun _ => rfl) (fun _ => rfl)
    · exact main 0 (a - (n0 + n1 + n2)) 0 (by omega) (fun _ => rfl) (fun h => absurd (h.symm.trans c1) (by decide)) (fun _ => rfl)
    · exact main 0 0 (a - (n0 + n1 + n2)) (by omega) (fun _ => rfl) (fun _ => rfl) (fun h => absurd (h.symm.trans c2) (by decide))
/-- what holds, and what falls: all together -/
theorem fal_hold (W : Nat → Nat) (A : Nat) (e p : Nat → Nat) : fal W A e p + wor W (msk (fun k => bt A k && decide (e k ≤ p k + W k / 25))) = wor W A := by
  have b0 := bt_msk0 (fun k => bt A k && decide (e k ≤ p k + W k / 25))
  have b1 := bt_msk1 (fun k => bt A k && decide (e k ≤ p k + W k / 25))
  have b2 := bt_msk2 (fun k => bt A k && decide (e k ≤ p k + W k / 25))
  generalize msk (fun k => bt A k && decide (e k ≤ p k + W k / 25)) = S at b0 b1 b2
  unfold fal wor s3
  simp only [b0, b1, b2, Bool.and_eq_true, decide_eq_true_eq]
  have key : ∀ (k : Nat), (if bt A k = true ∧ p k + W k / 25 < e k then W k else 0) + (if bt A k = true ∧ e k ≤ p k + W k / 25 then W k else 0) = if bt A k = true then W k else 0 := by
    intro k
    by_cases c : bt A k = true
    · by_cases c2 : e k ≤ p k + W k / 25
      · have n1 : ¬ (bt A k = true ∧ p k + W k / 25 < e k) := fun h => absurd h.2 (by omega)
        simp only [if_neg n1, if_pos (And.intro c c2), if_pos c, Nat.zero_add]
      · have c3 : p k + W k / 25 < e k := by omega
        have n2 : ¬ (bt A k = true ∧ e k ≤ p k + W k / 25) := fun h => c2 h.2
        simp only [if_pos (And.intro c c3), if_neg n2, if_pos c, Nat.add_zero]
    · have n1 : ¬ (bt A k = true ∧ p k + W k / 25 < e k) := fun h => c h.1
      have n2 : ¬ (bt A k = true ∧ e k ≤ p k + W k / 25) := fun h => c h.1
      simp only [if_neg n1, if_neg n2, if_neg c, Nat.add_zero]
  have k0 := key 0
  have k1 := key 1
  have k2 := key 2
  omega
end BA
theorem mx_at {P : Nat → Bool} {v : Nat → Nat} : ∀ N, mxF P v N = 0 ∨ ∃ n, n < N ∧ P n = true ∧ v n = mxF P v N
  | 0 => Or.inl rfl
  | N + 1 => by
    rw [mxF]
    split
    · rename_i c
      exact Or.inr ⟨N, by omega, c.1, rfl⟩
    · rcases mx_at (P := P) (v := v) N with h | ⟨n, h1, h2, h3⟩
      · exact Or.inl h
      · exact Or.inr ⟨n, by omega, h2, h3⟩
section BB
variable {W e : Nat → Nat} {A d s : Nat}
theorem hold_row (hA : A ≠ 0) (hd : d ≤ 6) (hsub : subB s A = true) (p : Nat → Nat) (hsum : p 0 + p 1 + p 2 = d) (z0 : bt A 0 = false → p 0 = 0) (z1 : bt A 1 = false → p 1 = 0) (z2 : bt A 2 = false → p 2 = 0) (g0 : (if bt s 0 = true then e 0 - W 0 / 25 else 0) ≤ p 0) (g1 : (if bt s 1 = true then e 1 - W 1 / 25 else 0) ≤ p 1) (g2 : (if bt s 2 = true then e 2 - W 2 / 25 else 0) ≤ p 2) : ∃ r, r < 343 ∧ puB r d A = true ∧ fal W A e (dgt r) ≤ wor W A - wor W s := by
  obtain ⟨d0, d1, d2, hr⟩ := dgt_rw (e := p) (by omega) (by omega) (by omega)
  refine ⟨rwD p, hr, (pu_iff hA).mpr ⟨fun h => by rw [d0]; exact z0 h, fun h => by rw [d1]; exact z1 h, fun h => by rw [d2]; exact z2 h, by rw [d0, d1, d2]; exact hsum⟩, ?_⟩
  have hf := fal_hold W A e (dgt (rwD p))
  have b0 := bt_msk0 (fun k => bt A k && decide (e k ≤ dgt (rwD p) k + W k / 25))
  have b1 := bt_msk1 (fun k => bt A k && decide (e k ≤ dgt (rwD p) k + W k / 25))
  have b2 := bt_msk2 (fun k => bt A k && decide (e k ≤ dgt (rwD p) k + W k / 25))
  generalize msk (fun k => bt A k && decide (e k ≤ dgt (rwD p) k + W k / 25)) = S at hf b0 b1 b2
  have hw : wor W s ≤ wor W S := by
    unfold wor
    refine s3_le ?_ ?_ ?_
    · try dsimp only
      by_cases c : bt s 0 = true
      · rw [if_pos c] at g0
        have hb : bt S 0 = true := by rw [b0, sub_0 hsub c, d0]; exact decide_eq_true (by omega)
        rw [if_pos c, if_pos hb]; exact Nat.le_refl _
      · rw [if_neg c]; exact Nat.zero_le _
    · try dsimp only
      by_cases c : bt s 1 = true
      · rw [if_pos c] at g1
        have hb : bt S 1 = true := by rw [b1, sub_1 hsub c, d1]; exact decide_eq_true (by omega)
        rw [if_pos c, if_pos hb]; exact Nat.le_refl _
      · rw [if_neg c]; exact Nat.zero_le _
    · try dsimp only
      by_cases c : bt s 2 = true
      · rw [if_pos c] at g2
        have hb : bt S 2 = true := by rw [b2, sub_2 hsub c, d2]; exact decide_eq_true (by omega)
        rw [if_pos c, if_pos hb]; exact Nat.le_refl _
      · rw [if_neg c]; exact Nat.zero_le _
  omega
/-- what falls at the least: over the duke's rows, over the sets that he can hold -/
theorem hold_min (h8 : A < 8) (hA : A ≠ 0) (hd : d ≤ 6) : mnO (fun r => puB r d A) (fun r => fal W A e (dgt r)) 343 = some (wor W A - mxF (fun s => subB s A && decide (hol W e s ≤ d)) (wor W) 8) := by
  apply mn_is 343
  · intro r hr hp
    try dsimp only at hp ⊢
    obtain ⟨z0, z1, z2, hs⟩ := (pu_iff hA).mp hp
    have hf := fal_hold W A e (dgt r)
    have hsub : subB (msk (fun k => bt A k && decide (e k ≤ dgt r k + W k / 25))) A = true := sub_and
    have b0 := bt_msk0 (fun k => bt A k && decide (e k ≤ dgt r k + W k / 25))
    have b1 := bt_msk1 (fun k => bt A k && decide (e k ≤ dgt r k + W k / 25))
    have b2 := bt_msk2 (fun k => bt A k && decide (e k ≤ dgt r k + W k / 25))
    have hl := msk_lt (fun k => bt A k && decide (e k ≤ dgt r k + W k / 25))
    generalize msk (fun k => bt A k && decide (e k ≤ dgt r k + W k / 25)) = S at hf hsub b0 b1 b2 hl
    have hn : hol W e S ≤ d := by
      rw [← hs]
      show hol W e S ≤ s3 (dgt r)
      unfold hol
      refine s3_le ?_ ?_ ?_
      · simp only [b0, Bool.and_eq_true, decide_eq_true_eq]
        split <;> omega
      · simp only [b1, Bool.and_eq_true, decide_eq_true_eq]
        split <;> omega
      · simp only [b2, Bool.and_eq_true, decide_eq_true_eq]
        split <;> omega
    have := mx_ge (P := fun s => subB s A && decide (hol W e s ≤ d)) (v := wor W) 8 S hl (by simp [hsub, hn])
    omega
  · have hex : ∃ s, s < 8 ∧ (subB s A && decide (hol W e s ≤ d)) = true ∧ wor W s = mxF (fun s => subB s A && decide (hol W e s ≤ d)) (wor W) 8 := by
      rcases mx_at (P := fun s => subB s A && decide (hol W e s ≤ d)) (v := wor W) 8 with h | h
      · refine ⟨0, by decide, ?_, h.symm ▸ rfl⟩
        have h1 : subB 0 A = true := rfl
        have h2 : hol W e 0 = 0 := rfl
        show (subB 0 A && decide (hol W e 0 ≤ d)) = true
        rw [h1, Bool.true_and]
        exact decide_eq_true (p := hol W e 0 ≤ d) (by rw [h2]; exact Nat.zero_le d)
      · exact h
    obtain ⟨s, hs, hp, hv⟩ := hex
    rw [← hv]
    have hsub : subB s A = true := (Bool.and_eq_true _ _ ▸ hp).1
    have hn : hol W e s ≤ d := of_decide_eq_true (Bool.and_eq_true _ _ ▸ hp).2
    have hn9 : (if bt s 0 = true then e 0 - W 0 / 25 else 0) + (if bt s 1 = true then e 1 - W 1 / 25 else 0) + (if bt s 2 = true then e 2 - W 2 / 25 else 0) ≤ d := hn
    have y0 : bt A 0 = false → (if bt s 0 = true then e 0 - W 0 / 25 else 0) = 0 := fun h => if_neg (fun c => by rw [sub_0 hsub c] at h; exact absurd h (by decide))
    have y1 : bt A 1 = false → (if bt s 1 = true then e 1 - W 1 / 25 else 0) = 0 := fun h => if_neg (fun c => by rw [sub_1 hsub c] at h; exact absurd h (by decide))
    have y2 : bt A 2 = false → (if bt s 2 = true then e 2 - W 2 / 25 else 0) = 0 := fun h => if_neg (fun c => by rw [sub_2 hsub c] at h; exact absurd h (by decide))
    have main : ∀ k0 k1 k2 : Nat, (if bt s 0 = true then e 0 - W 0 / 25 else 0) + k0 + ((if bt s 1 = true then e 1 - W 1 / 25 else 0) + k1) + ((if bt s 2 = true then e 2 - W 2 / 25 else 0) + k2) = d → (bt A 0 = false → k0 = 0) → (bt A 1 = false → k1 = 0) → (bt A 2 = false → k2 = 0) → ∃ r, r < 343 ∧ puB r d A = true ∧ fal W A e (dgt r) ≤ wor W A - wor W s := by
      intro k0 k1 k2 hk x0 x1 x2
      exact hold_row hA hd hsub (fun k => if k = 0 then (if bt s 0 = true then e 0 - W 0 / 25 else 0) + k0 else if k = 1 then (if bt s 1 = true then e 1 - W 1 / 25 else 0) + k1 else (if bt s 2 = true then e 2 - W 2 / 25 else 0) + k2) hk
        (fun h => by show (if bt s 0 = true then e 0 - W 0 / 25 else 0) + k0 = 0; rw [y0 h, x0 h]) (fun h => by show (if bt s 1 = true then e 1 - W 1 / 25 else 0) + k1 = 0; rw [y1 h, x1 h]) (fun h => by show (if bt s 2 = true then e 2 - W 2 / 25 else 0) + k2 = 0; rw [y2 h, x2 h])
        (Nat.le_add_right _ _) (Nat.le_add_right _ _) (Nat.le_add_right _ _)
    generalize (if bt s 0 = true then e 0 - W 0 / 25 else 0) = n0 at hn9 main
    generalize (if bt s 1 = true then e 1 - W 1 / 25 else 0) = n1 at hn9 main
    generalize (if bt s 2 = true then e 2 - W 2 / 25 else 0) = n2 at hn9 main
    rcases bt_ex h8 hA with c | ⟨c, c1⟩ | ⟨c, c1, c2⟩
    · exact main (d - (n0 + n1 + n2)) 0 0 (by omega) (fun h => absurd (h.symm.trans c) (by decide)) (fun _ => rfl) (fun _ => rfl)
    · exact main 0 (d - (n0 + n1 + n2)) 0 (by omega) (fun _ => rfl) (fun h => absurd (h.symm.trans c1) (by decide)) (fun _ => rfl)
    · exact main 0 0 (d - (n0 + n1 + n2)) (by omega) (fun _ => rfl) (fun _ => rfl) (fun h => absurd (h.symm.trans c2) (by decide))
end BB
/-! the order in which the two sides try the duke's (the enemy's) men: the same -/
/-- the class's way: x, then y, the rest z -/
def clL (n A : Nat) : List Nat := (List.range (n + 1)).flatMap (fun x => ((List.range (n + 1 - x)).map (fun y => 49 * x + 7 * y + (n - x - y))).filter (fun r => puB r n A))
theorem cl_rows : ∀ n, n < 7 → ∀ A, A < 8 → A ≠ 0 → (List.range 343).filter (fun r => puB r n A) = clL n A := by decide +kernel
end
section
/-! sums by places, folds over the rows in their order -/
def sP (f : Nat → Nat) : Nat → Nat
  | 0 => 0
  | k + 1 => sP f k + f k
theorem sP_3 (f : Nat → Nat) : sP f 3 = s3 f := by
  show 0 + f 0 + f 1 + f 2 = f 0 + f 1 + f 2
  rw [Nat.zero_add]
theorem sP_y {f : Nat → Nat} {j a v : Nat} (h : a = sP f j) (hv : f j = v) : a + v = sP f (j + 1) := by
  rw [sP, hv, h]
theorem sP_n {f : Nat → Nat} {j a : Nat} (h : a = sP f j) (hv : f j = 0) : a = sP f (j + 1) := by
  rw [sP, hv, Nat.add_zero]
  exact h
theorem sP_e {f : Nat → Nat} {j a : Nat} (h : a = sP f j) (h1 : j ≤ 3) (h2 : ¬ j < 3) : a = s3 f := by
  have e : j = 3 := by omega
  rw [h, e]
  exact sP_3 f
/-- bits as numbers -/
def bI (an k : Nat) : Int32 := if bt an k = true then 1 else 0
theorem bI_e : ∀ an, an < 8 → ∀ k, k < 3 → ((nI an >>> (nI k &&& 31)) &&& 1) = bI an k := by decide +kernel
theorem bI_1 {an k : Nat} (h : bI an k = 1) : bt an k = true := by
  unfold bI at h
  split at h
  · assumption
  · exact absurd h (by decide)
theorem bI_n1 {an k : Nat} (h : ¬ bI an k = 1) : ¬ bt an k = true := fun h9 => h (by unfold bI; rw [if_pos h9])
theorem bI_n0 {an k : Nat} (h : ¬ bI an k = 0) : bt an k = true := by
  unfold bI at h
  split at h
  · assumption
  · exact absurd rfl h
theorem bI_0 {an k : Nat} (h : bI an k = 0) : ¬ bt an k = true := fun h9 => by
  unfold bI at h
  rw [if_pos h9] at h
  exact absurd h (by decide)
theorem sb_iff : ∀ s, s < 8 → ∀ an, an < 8 → ((nI s &&& (nI an ^^^ (-1))) = 0 ↔ subB s an = true) := by decide +kernel
theorem sub_k {s an k : Nat} (h : subB s an = true) (hk : k < 3) (c : bt s k = true) : bt an k = true := by
  rcases (show k = 0 ∨ k = 1 ∨ k = 2 by omega) with rfl | rfl | rfl
  · exact sub_0 h c
  · exact sub_1 h c
  · exact sub_2 h c
theorem sub_all : ∀ v, v ≤ 3 → ∀ s, s ≤ allN v → subB s (allN v) = true := by decide +kernel
theorem sub_beh : ∀ v, v ≤ 3 → ∀ s, s < 8 → allN v < s → subB s (allN v) = false := by decide +kernel
theorem bt_all : ∀ v, v ≤ 3 → ∀ k, k < 3 → bt (allN v) k = true → k < v := by decide +kernel
theorem bt_alY : ∀ v, v ≤ 3 → ∀ k, k < v → bt (allN v) k = true := by decide +kernel
/-- all but one -/
def rmN (an k : Nat) : Nat := if bt an k = true then an - 2 ^ k else an
theorem rm_e : ∀ an, an < 8 → ∀ k, k < 3 → (nI an &&& (((1 : Int32) <<< (nI k &&& 31)) ^^^ (-1))) = nI (rmN an k) := by decide +kernel
theorem rm_lt : ∀ an, an < 8 → ∀ k, k < 3 → rmN an k < 8 := by decide +kernel
theorem rm_sub : ∀ an, an < 8 → ∀ k, k < 3 → ∀ i, i < 3 → bt (rmN an k) i = true → bt an i = true := by decide +kernel
theorem or_e : ∀ k, k < 3 → ∀ x, x < 2 ^ k → (nI x ||| ((1 : Int32) <<< (nI k &&& 31))) = nI (x + 2 ^ k) := by decide +kernel
theorem mx_sub : ∀ a, a < 7 → ∀ b, b < 4 → (if (0 : Int32) < nI a - nI b then nI a - nI b else 0) = nI (a - b) := by decide +kernel
theorem mx_if {a b : Nat} (ha : a < 2147483648) (hb : b < 2147483648) : (if nI a < nI b then nI b else nI a) = nI (if a < b then b else a) := by
  by_cases c : a < b
  · rw [if_pos c, if_pos ((nI_ltI ha hb).mpr c)]
  · rw [if_neg c, if_neg (fun h9 => c ((nI_ltI ha hb).mp h9))]
theorem dgD : ∀ r, r < 343 → nI r / 49 = nI (r / 49) := by decide +kernel
theorem dgE : ∀ r, r < 343 → (nI r / 7) - (nI r / 7) / 7 * 7 = nI (r / 7 % 7) := by decide +kernel
theorem dgF : ∀ r, r < 343 → nI r - nI r / 7 * 7 = nI (r % 7) := by decide +kernel
theorem w25 : ∀ a, a < 100 → nI a / 25 = nI (a / 25) := by decide +kernel
theorem dgt_le {r : Nat} (h : r < 343) (k : Nat) : dgt r k ≤ 6 := by
  unfold dgt
  split
  · omega
  · split <;> omega
/-- men stand at walls of the set alone -/
def plB (an : Nat) (ef : Nat → Nat) : Bool := (bt an 0 || ef 0 == 0) && (bt an 1 || ef 1 == 0) && (bt an 2 || ef 2 == 0)
def plI (an : Nat) (ef : Nat → Nat) : Int32 := if plB an ef = true then 1 else 0
theorem pl_t {an : Nat} {ef : Nat → Nat} (h : ∀ k, k < 3 → bt an k = true ∨ ef k = 0) : plI an ef = 1 := by
  unfold plI plB
  rw [if_pos]
  have h0 := h 0 (by decide)
  have h1 := h 1 (by decide)
  have h2 := h 2 (by decide)
  simp only [Bool.and_eq_true, Bool.or_eq_true, beq_iff_eq]
  exact ⟨⟨h0, h1⟩, h2⟩
theorem pl_f {an k : Nat} {ef : Nat → Nat} (hk : k < 3) (h1 : ¬ bt an k = true) (h2 : ¬ ef k = 0) : plI an ef = 0 := by
  unfold plI plB
  rw [if_neg]
  simp only [Bool.and_eq_true, Bool.or_eq_true, beq_iff_eq]
  rintro ⟨⟨a0, a1⟩, a2⟩
  rcases (show k = 0 ∨ k = 1 ∨ k = 2 by omega) with rfl | rfl | rfl
  · exact a0.elim h1 h2
  · exact a1.elim h1 h2
  · exact a2.elim h1 h2
theorem pl_s {an j : Nat} {ef : Nat → Nat} (h : ∀ k, k < j → bt an k = true ∨ ef k = 0) (hj : bt an j = true ∨ ef j = 0) : ∀ k, k < j + 1 → bt an k = true ∨ ef k = 0 := by
  intro k hk
  by_cases e : k = j
  · rw [e]; exact hj
  · exact h k (by omega)
theorem pl_pu {an n row : Nat} (hs : dgt row 0 + dgt row 1 + dgt row 2 = n) : puB row n an = plB an (dgt row) := by
  unfold puB plB
  have : (dgt row 0 + dgt row 1 + dgt row 2 == n) = true := beq_iff_eq.mpr hs
  rw [this, Bool.true_or, Bool.and_true]
theorem pu_y {an n row : Nat} (hs : dgt row 0 + dgt row 1 + dgt row 2 = n) (h : ¬ plI an (dgt row) = 0) : puB row n an = true := by
  rw [pl_pu hs]
  unfold plI at h
  split at h
  · assumption
  · exact absurd rfl h
theorem pu_n {an n row : Nat} (hs : dgt row 0 + dgt row 1 + dgt row 2 = n) (h : plI an (dgt row) = 0) : ¬ puB row n an = true := by
  rw [pl_pu hs]
  intro h9
  unfold plI at h
  rw [if_pos h9] at h
  exact absurd h (by decide)
/-- the row of three numbers of men -/
theorem rw3 {d x y : Nat} (hd : d ≤ 6) (hx : x ≤ d) (hy : y ≤ d - x) : dgt (49 * x + 7 * y + (d - x - y)) 0 = x ∧ dgt (49 * x + 7 * y + (d - x - y)) 1 = y ∧ dgt (49 * x + 7 * y + (d - x - y)) 2 = d - x - y ∧ 49 * x + 7 * y + (d - x - y) < 343 ∧ dgt (49 * x + 7 * y + (d - x - y)) 0 + dgt (49 * x + 7 * y + (d - x - y)) 1 + dgt (49 * x + 7 * y + (d - x - y)) 2 = d := by
  have e0 : dgt (49 * x + 7 * y + (d - x - y)) 0 = x := by unfold dgt; rw [if_pos rfl]; omega
  have e1 : dgt (49 * x + 7 * y + (d - x - y)) 1 = y := by unfold dgt; rw [if_neg (by decide), if_pos rfl, show (49 * x + 7 * y + (d - x - y)) / 7 = 7 * x + y by omega]; omega
  have e2 : dgt (49 * x + 7 * y + (d - x - y)) 2 = d - x - y := by unfold dgt; rw [if_neg (by decide), if_neg (by decide)]; omega
  exact ⟨e0, e1, e2, by omega, by rw [e0, e1, e2]; omega⟩
/-- digits to the base 10 -/
def dsN (ef : Nat → Nat) : Nat → Nat
  | 0 => 0
  | k + 1 => dsN ef k * 10 + ef k
theorem ds_0 : ∀ v, dsN (dgt 0) v = 0
  | 0 => rfl
  | k + 1 => by
    rw [dsN, ds_0 k]
    unfold dgt
    split
    · rfl
    · split <;> rfl
/-- folds over the class's way -/
def inL (d an x n : Nat) : List Nat := ((List.range n).map (fun y => 49 * x + 7 * y + (d - x - y))).filter (fun r => puB r d an)
def preL (d an n : Nat) : List Nat := (List.range n).flatMap (fun x => inL d an x (d + 1 - x))
def qF {B : Type} (f : B → Nat → B) (o : B) (d an x y : Nat) : B := (inL d an x y).foldl f ((preL d an x).foldl f o)
theorem qF_0 {B : Type} (f : B → Nat → B) (o : B) (d an : Nat) : qF f o d an 0 0 = o := rfl
theorem qF_x {B : Type} (f : B → Nat → B) (o : B) (d an x : Nat) : qF f o d an (x + 1) 0 = qF f o d an x (d + 1 - x) := by
  have e : preL d an (x + 1) = preL d an x ++ inL d an x (d + 1 - x) := by
    unfold preL
    rw [List.range_succ, List.flatMap_append, List.flatMap_singleton]
  show (preL d an (x + 1)).foldl f o = _
  rw [e, List.foldl_append]
  rfl
theorem qF_y {B : Type} (f : B → Nat → B) (o : B) (d an x y : Nat) : qF f o d an x (y + 1) = if puB (49 * x + 7 * y + (d - x - y)) d an = true then f (qF f o d an x y) (49 * x + 7 * y + (d - x - y)) else qF f o d an x y := by
  have e : inL d an x (y + 1) = inL d an x y ++ (if puB (49 * x + 7 * y + (d - x - y)) d an = true then [49 * x + 7 * y + (d - x - y)] else []) := by
    unfold inL
    rw [List.range_succ, List.map_append, List.filter_append]
    congr 1
    by_cases c : puB (49 * x + 7 * y + (d - x - y)) d an = true
    · rw [if_pos c]
      show List.filter _ [49 * x + 7 * y + (d - x - y)] = _
      rw [List.filter_cons_of_pos (by exact c), List.filter_nil]
    · rw [if_neg c]
      show List.filter _ [49 * x + 7 * y + (d - x - y)] = _
      rw [List.filter_cons_of_neg (by exact c), List.filter_nil]
  unfold qF
  rw [e, List.foldl_append]
  split
  · rfl
  · rfl
theorem qF_yy {B : Type} {f : B → Nat → B} {o : B} {d an x y : Nat} (h : puB (49 * x + 7 * y + (d - x - y)) d an = true) : qF f o d an x (y + 1) = f (qF f o d an x y) (49 * x + 7 * y + (d - x - y)) := by rw [qF_y, if_pos h]
theorem qF_yn {B : Type} {f : B → Nat → B} {o : B} {d an x y : Nat} (h : ¬ puB (49 * x + 7 * y + (d - x - y)) d an = true) : qF f o d an x (y + 1) = qF f o d an x y := by rw [qF_y, if_neg h]
/-- the first with the least -/
def stF (v : Nat → Nat) (o : Option (Nat × Nat)) (r : Nat) : Option (Nat × Nat) :=
  match o with
  | none => some (v r, r)
  | some x => if v r < x.1 then some (v r, r) else some x
def leI (o : Option (Nat × Nat)) : Int32 :=
  match o with
  | none => -1
  | some x => nI x.1
def leN (o : Option (Nat × Nat)) : Nat :=
  match o with
  | none => 0
  | some x => x.1
def roN (o : Option (Nat × Nat)) : Nat :=
  match o with
  | none => 0
  | some x => x.2
def boO (B : Nat) (o : Option (Nat × Nat)) : Prop := ∀ x, o = some x → x.1 ≤ B
theorem bo_n {B : Nat} : boO B none := fun x h => by cases h
theorem bo_s {B : Nat} {v : Nat → Nat} {o : Option (Nat × Nat)} {r : Nat} (h : boO B o) (hv : v r ≤ B) : boO B (stF v o r) := by
  intro x hx
  unfold stF at hx
  cases o with
  | none => cases hx; exact hv
  | some q =>
    have hq := h q rfl
    revert hx
    show (if v r < q.1 then some (v r, r) else some q) = some x → _
    split
    · intro hx; cases hx; exact hv
    · intro hx; cases hx; exact hq
theorem st_y {B : Nat} {v : Nat → Nat} {o : Option (Nat × Nat)} {r : Nat} (hb : boO B o) (hB : B < 2147483648) (hv : v r < 2147483648) (h : leI o = -1 ∨ ¬ leI o ≤ nI (v r)) : stF v o r = some (v r, r) := by
  cases o with
  | none => rfl
  | some q =>
    have hq : q.1 < 2147483648 := Nat.lt_of_le_of_lt (hb q rfl) hB
    show (if v r < q.1 then some (v r, r) else some q) = _
    rw [if_pos]
    rcases h with h | h
    · exact absurd h (nI_nm1 hq)
    · exact Nat.lt_of_not_le (fun h9 => h ((nI_leI hq hv).mpr h9))
theorem st_n {B : Nat} {v : Nat → Nat} {o : Option (Nat × Nat)} {r : Nat} (hb : boO B o) (hB : B < 2147483648) (hv : v r < 2147483648) (h1 : ¬ leI o = -1) (h2 : leI o ≤ nI (v r)) : stF v o r = o := by
  cases o with
  | none => exact absurd rfl h1
  | some q =>
    have hq : q.1 < 2147483648 := Nat.lt_of_le_of_lt (hb q rfl) hB
    show (if v r < q.1 then some (v r, r) else some q) = _
    rw [if_neg]
    have := (nI_leI hq hv).mp h2
    omega
theorem le_top {B : Nat} {o : Option (Nat × Nat)} (hb : boO B o) (hB : B < 2147483648) : (if leI o < 0 then 0 else leI o) = nI (leN o) := by
  cases o with
  | none => decide
  | some q =>
    have hq : q.1 < 2147483648 := Nat.lt_of_le_of_lt (hb q rfl) hB
    show (if nI q.1 < 0 then 0 else nI q.1) = nI q.1
    rw [if_neg (nI_pos hq)]
theorem leN_le {B : Nat} {o : Option (Nat × Nat)} (hb : boO B o) : leN o ≤ B := by
  cases o with
  | none => exact Nat.zero_le _
  | some q => exact hb q rfl
theorem bo_fold {B : Nat} {v : Nat → Nat} (hv : ∀ r, v r ≤ B) : ∀ (L : List Nat) (o : Option (Nat × Nat)), boO B o → boO B (L.foldl (stF v) o)
  | [], _, h => h
  | r :: L, o, h => bo_fold hv L _ (bo_s h (hv r))
/-- the most -/
def mxS (u : Nat → Nat) (m r : Nat) : Nat := if m < u r then u r else m
theorem mxF_y {P : Nat → Bool} {v : Nat → Nat} {j m : Nat} (h : m = mxF P v j) (hp : P j = true) : (if m < v j then v j else m) = mxF P v (j + 1) := by
  rw [mxF, h]
  by_cases c : mxF P v j < v j
  · rw [if_pos c, if_pos ⟨hp, c⟩]
  · rw [if_neg c, if_neg (fun h9 => c h9.2)]
theorem mxF_n {P : Nat → Bool} {v : Nat → Nat} {j m : Nat} (h : m = mxF P v j) (hp : ¬ P j = true) : m = mxF P v (j + 1) := by
  rw [mxF, if_neg (fun h9 => hp h9.1)]
  exact h
theorem mxF_ext {P : Nat → Bool} {v : Nat → Nat} {n : Nat} : ∀ k, (∀ i, n ≤ i → i < n + k → ¬ P i = true) → mxF P v (n + k) = mxF P v n
  | 0, _ => rfl
  | k + 1, h => by
    show mxF P v ((n + k) + 1) = _
    rw [mxF, if_neg (fun h9 => h (n + k) (by omega) (by omega) h9.1)]
    exact mxF_ext k (fun i h1 h2 => h i h1 (by omega))
theorem pS_y {s an x a : Nat} (h1 : subB s an = true) (h2 : x ≤ a) : (subB s an && decide (x ≤ a)) = true := by rw [h1, Bool.true_and]; exact decide_eq_true h2
theorem pS_n1 {s an x a : Nat} (h1 : ¬ subB s an = true) : ¬ (subB s an && decide (x ≤ a)) = true := fun h => h1 ((Bool.and_eq_true _ _ ▸ h).1)
theorem pS_n2 {s an x a : Nat} (h2 : ¬ x ≤ a) : ¬ (subB s an && decide (x ≤ a)) = true := fun h => h2 (of_decide_eq_true (Bool.and_eq_true _ _ ▸ h).2)
/-- what the class counts: at the worst where the duke's stand; at the least where the enemy's stand -/
def vS (Wr : Nat → Nat) (an a : Nat) (ef : Nat → Nat) : Nat := mxF (fun s => subB s an && decide (nee Wr ef s ≤ a)) (wor Wr) 8
def uS (Wr : Nat → Nat) (an a : Nat) (ef : Nat → Nat) : Nat := wor Wr an - mxF (fun s => subB s an && decide (hol Wr ef s ≤ a)) (wor Wr) 8
theorem wor_le {Wr : Nat → Nat} (hW : ∀ k, Wr k ≤ 99) (s : Nat) : wor Wr s ≤ 297 := by
  have h0 := hW 0
  have h1 := hW 1
  have h2 := hW 2
  unfold wor s3
  try dsimp only
  split <;> split <;> split <;> omega
theorem vS_le {Wr : Nat → Nat} (hW : ∀ k, Wr k ≤ 99) (an a : Nat) (ef : Nat → Nat) : vS Wr an a ef ≤ 297 := mx_le 8 (fun s _ _ => wor_le hW s)
theorem uS_le {Wr : Nat → Nat} (hW : ∀ k, Wr k ≤ 99) (an a : Nat) (ef : Nat → Nat) : uS Wr an a ef ≤ 297 := by
  have := wor_le hW an
  unfold uS
  omega
theorem wor_sub {Wr : Nat → Nat} {s an : Nat} (h : subB s an = true) : wor Wr s ≤ wor Wr an := by
  unfold wor
  refine s3_le ?_ ?_ ?_
  · try dsimp only
    by_cases c : bt s 0 = true
    · rw [if_pos c, if_pos (sub_0 h c)]; exact Nat.le_refl _
    · rw [if_neg c]; exact Nat.zero_le _
  · try dsimp only
    by_cases c : bt s 1 = true
    · rw [if_pos c, if_pos (sub_1 h c)]; exact Nat.le_refl _
    · rw [if_neg c]; exact Nat.zero_le _
  · try dsimp only
    by_cases c : bt s 2 = true
    · rw [if_pos c, if_pos (sub_2 h c)]; exact Nat.le_refl _
    · rw [if_neg c]; exact Nat.zero_le _
theorem nee_le {Wr ef : Nat → Nat} {s : Nat} (hW : ∀ k, Wr k ≤ 99) (he : ∀ k, ef k ≤ 6) : nee Wr ef s ≤ 30 := by
  have h0 := hW 0
  have h1 := hW 1
  have h2 := hW 2
  have e0 := he 0
  have e1 := he 1
  have e2 := he 2
  unfold nee s3
  try dsimp only
  split <;> split <;> split <;> omega
theorem hol_le {Wr ef : Nat → Nat} {s : Nat} (he : ∀ k, ef k ≤ 6) : hol Wr ef s ≤ 18 := by
  have e0 := he 0
  have e1 := he 1
  have e2 := he 2
  unfold hol s3
  try dsimp only
  split <;> split <;> split <;> omega
/-- SAFE and SURE as the class goes through the ways -/
def foC (Wr : Nat → Nat) (an a d : Nat) : Option (Nat × Nat) := (clL d an).foldl (stF (fun r => vS Wr an a (dgt r))) none
def moC (Wr : Nat → Nat) (an a d : Nat) : Nat := (clL a an).foldl (mxS (fun r => uS Wr an d (dgt r))) 0
theorem fo_bo {Wr : Nat → Nat} (hW : ∀ k, Wr k ≤ 99) (an a d : Nat) : boO 297 (foC Wr an a d) := bo_fold (fun r => vS_le hW an a (dgt r)) _ _ bo_n
/-- for show: walls without which it is the same -/
def shC (Wr : Nat → Nat) (v a d : Nat) : Nat → Nat
  | 0 => 0
  | k + 1 => shC Wr v a d k + (if leN (foC Wr (rmN (allN v) k) a d) = leN (foC Wr (allN v) a d) then 2 ^ k else 0)
theorem shC_lt {Wr : Nat → Nat} {v a d : Nat} : ∀ k, shC Wr v a d k < 2 ^ k
  | 0 => by rw [shC]; decide
  | k + 1 => by
    have := shC_lt (Wr := Wr) (v := v) (a := a) (d := d) k
    rw [shC, Nat.pow_succ]
    split <;> omega
theorem shC_y {Wr : Nat → Nat} {v a d j x : Nat} (h : x = shC Wr v a d j) (he : leN (foC Wr (rmN (allN v) j) a d) = leN (foC Wr (allN v) a d)) : x + 2 ^ j = shC Wr v a d (j + 1) := by rw [shC, if_pos he, h]
theorem shC_n {Wr : Nat → Nat} {v a d j x : Nat} (h : x = shC Wr v a d j) (he : ¬ leN (foC Wr (rmN (allN v) j) a d) = leN (foC Wr (allN v) a d)) : x = shC Wr v a d (j + 1) := by rw [shC, if_neg he, Nat.add_zero]; exact h
/-! the reference: over all rows -/
def sfO (P : Nat → Bool) (v : Nat → Nat) : Nat → Option (Nat × Nat)
  | 0 => none
  | j + 1 => if P j = true then stF v (sfO P v j) j else sfO P v j
theorem sfO_f (P : Nat → Bool) (v : Nat → Nat) : ∀ n, sfO P v n = ((List.range n).filter P).foldl (stF v) none
  | 0 => rfl
  | n + 1 => by
    rw [sfO, sfO_f P v n, List.range_succ, List.filter_append]
    by_cases c : P n = true
    · rw [if_pos c, List.filter_cons_of_pos c, List.filter_nil, List.foldl_append]; rfl
    · rw [if_neg c, List.filter_cons_of_neg c, List.filter_nil, List.append_nil]
theorem mxF_f (P : Nat → Bool) (u : Nat → Nat) : ∀ n, mxF P u n = ((List.range n).filter P).foldl (mxS u) 0
  | 0 => rfl
  | n + 1 => by
    rw [mxF, mxF_f P u n, List.range_succ, List.filter_append]
    by_cases c : P n = true
    · rw [List.filter_cons_of_pos c, List.filter_nil, List.foldl_append]
      show _ = mxS u _ n
      unfold mxS
      split
      · rename_i h; rw [if_pos h.2]
      · rename_i h; rw [if_neg (fun h9 => h ⟨c, h9⟩)]
    · rw [if_neg (fun h9 => c h9.1), List.filter_cons_of_neg c, List.filter_nil, List.append_nil]
theorem bo_sf {B : Nat} {P : Nat → Bool} {v : Nat → Nat} (hv : ∀ r, v r ≤ B) : ∀ n, boO B (sfO P v n)
  | 0 => bo_n
  | n + 1 => by
    rw [sfO]
    split
    · exact bo_s (bo_sf hv n) (hv n)
    · exact bo_sf hv n
def vD (Wr : Nat → Nat) (an a q : Nat) : Nat := mxF (fun r => puB r a an) (fun r => fal Wr an (dgt r) (dgt q)) 343
theorem fal_le {Wr e p : Nat → Nat} {an : Nat} (hW : ∀ k, Wr k ≤ 99) : fal Wr an e p ≤ 297 := by
  have h0 := hW 0
  have h1 := hW 1
  have h2 := hW 2
  unfold fal s3
  try dsimp only
  split <;> split <;> split <;> omega
theorem vD_le {Wr : Nat → Nat} (hW : ∀ k, Wr k ≤ 99) (an a q : Nat) : vD Wr an a q ≤ 297 := mx_le 343 (fun r _ _ => fal_le hW)
theorem cl_ne : ∀ n, n < 7 → ∀ A, A < 8 → A ≠ 0 → clL n A ≠ [] := by decide +kernel
theorem rows_0 : ∀ n, n < 7 → (List.range 343).filter (fun r => puB r n 0) = [0] := by decide +kernel
theorem cl_0 : ∀ n, n < 7 → clL n 0 = if n = 0 then [0] else [] := by decide +kernel
theorem bt_z (k : Nat) : bt 0 k = false := by unfold bt; rw [Nat.zero_div]; rfl
theorem fold_1 (v : Nat → Nat) : [0].foldl (stF v) none = some (v 0, 0) := rfl
theorem fold_m (u : Nat → Nat) (m : Nat) : [0].foldl (mxS u) m = mxS u m 0 := rfl
theorem leI_s (x : Nat × Nat) : leI (some x) = nI x.1 := rfl
theorem leN_s (x : Nat × Nat) : leN (some x) = x.1 := rfl
theorem leN_0 : leN none = 0 := rfl
theorem roN_0 : roN none = 0 := rfl
theorem roN_s (x : Nat × Nat) : roN (some x) = x.2 := rfl
theorem fal_0 (Wr e p : Nat → Nat) : fal Wr 0 e p = 0 := by
  unfold fal s3
  simp [bt_z]
theorem wor_0 (Wr : Nat → Nat) : wor Wr 0 = 0 := by
  unfold wor s3
  simp [bt_z]
theorem fold_ne {v : Nat → Nat} : ∀ (L : List Nat) (o : Option (Nat × Nat)), (o ≠ none ∨ L ≠ []) → L.foldl (stF v) o ≠ none
  | [], o, h => h.resolve_right (fun h9 => h9 rfl)
  | r :: L, o, _ => by
    refine fold_ne L (stF v o r) (Or.inl ?_)
    unfold stF
    cases o with
    | none => intro h; cases h
    | some q =>
      show (if v r < q.1 then some (v r, r) else some q) ≠ none
      split <;> (intro h; cases h)
/-- SAFE: the same by both -/
theorem safe_eq {Wr : Nat → Nat} {an a d : Nat} (h8 : an < 8) (ha : a ≤ 6) (hd : d ≤ 6) : leI (sfO (fun r => puB r d an) (vD Wr an a) 343) = nI (leN (foC Wr an a d)) ∧ roN (sfO (fun r => puB r d an) (vD Wr an a) 343) = roN (foC Wr an a d) := by
  rw [sfO_f]
  by_cases e : an = 0
  · subst e
    rw [rows_0 d (by omega)]
    have hv : vD Wr 0 a 0 = 0 := Nat.le_zero.mp (mx_le 343 (fun r _ _ => by rw [fal_0]; exact Nat.le_refl 0))
    have hS : vS Wr 0 a (dgt 0) = 0 := Nat.le_zero.mp (mx_le 8 (fun s hs hp => by
      have := wor_sub (Wr := Wr) (Bool.and_eq_true _ _ ▸ hp).1
      rw [wor_0] at this
      exact this))
    unfold foC
    rw [cl_0 d (by omega)]
    by_cases c : d = 0
    · simp only [if_pos c, fold_1, leI_s, leN_s, roN_s, hv, hS, and_self]
    · simp only [if_neg c, fold_1, List.foldl_nil, leI_s, roN_s, hv, leN_0, roN_0, and_self]
  · rw [cl_rows d (by omega) an h8 e]
    have hv : vD Wr an a = fun r => vS Wr an a (dgt r) := funext (fun q => fell_max h8 e ha)
    rw [hv]
    show leI (foC Wr an a d) = _ ∧ _
    refine ⟨?_, rfl⟩
    have hne : foC Wr an a d ≠ none := fold_ne _ _ (Or.inr (cl_ne d (by omega) an h8 e))
    revert hne
    cases foC Wr an a d with
    | none => intro h; exact absurd rfl h
    | some q => intro _; rfl
/-- the least of the duke's ways against one of the enemy's -/
def uD (Wr : Nat → Nat) (an d q : Nat) : Nat := (mnO (fun r => puB r d an) (fun r => fal Wr an (dgt q) (dgt r)) 343).getD 0
def mnI (o : Option Nat) : Int32 :=
  match o with
  | none => -1
  | some x => nI x
def bnO (B : Nat) (o : Option Nat) : Prop := ∀ x, o = some x → x ≤ B
theorem bn_n {B : Nat} {P : Nat → Bool} {v : Nat → Nat} (hv : ∀ r, v r ≤ B) : ∀ n, bnO B (mnO P v n)
  | 0 => fun x h => by cases h
  | n + 1 => by
    have ih := bn_n (P := P) hv n
    rw [mnO]
    split
    · revert ih
      cases mnO P v n with
      | none => intro _ x h; cases h; exact hv n
      | some b =>
        intro ih x
        show (if v n < b then some (v n) else some b) = some x → _
        have hb := ih b rfl
        split
        · intro h; cases h; exact hv n
        · intro h; cases h; exact hb
    · exact ih
theorem mn_y {B : Nat} {P : Nat → Bool} {v : Nat → Nat} {n : Nat} (hb : bnO B (mnO P v n)) (hB : B < 2147483648) (hv : v n < 2147483648) (hp : P n = true) (h : mnI (mnO P v n) = -1 ∨ ¬ mnI (mnO P v n) ≤ nI (v n)) : nI (v n) = mnI (mnO P v (n + 1)) := by
  rw [mnO, if_pos hp]
  revert hb h
  cases mnO P v n with
  | none => intro _ _; rfl
  | some b =>
    intro hb h
    have hq : b < 2147483648 := Nat.lt_of_le_of_lt (hb b rfl) hB
    show _ = mnI (if v n < b then some (v n) else some b)
    rw [if_pos]
    · rfl
    · rcases h with h | h
      · exact absurd h (nI_nm1 hq)
      · exact Nat.lt_of_not_le (fun h9 => h ((nI_leI hq hv).mpr h9))
theorem mn_n {B : Nat} {P : Nat → Bool} {v : Nat → Nat} {n : Nat} (hb : bnO B (mnO P v n)) (hB : B < 2147483648) (hv : v n < 2147483648) (h1 : ¬ mnI (mnO P v n) = -1) (h2 : mnI (mnO P v n) ≤ nI (v n)) : mnI (mnO P v n) = mnI (mnO P v (n + 1)) := by
  rw [mnO]
  split
  · revert hb h1 h2
    cases mnO P v n with
    | none => intro _ h1 _; exact absurd rfl h1
    | some b =>
      intro hb _ h2
      have hq : b < 2147483648 := Nat.lt_of_le_of_lt (hb b rfl) hB
      have := (nI_leI hq hv).mp h2
      show _ = mnI (if v n < b then some (v n) else some b)
      rw [if_neg (by omega)]
  · rfl
theorem mn_p {P : Nat → Bool} {v : Nat → Nat} {n : Nat} (hp : ¬ P n = true) : mnI (mnO P v n) = mnI (mnO P v (n + 1)) := by rw [mnO, if_neg hp]
theorem mn_0 {Wr : Nat → Nat} {d q : Nat} (hd : d ≤ 6) : mnO (fun r => puB r d 0) (fun r => fal Wr 0 (dgt q) (dgt r)) 343 = some 0 := by
  refine mn_is 343 (fun n _ _ => Nat.zero_le _) ⟨0, by decide, ?_, ?_⟩
  · show puB 0 d 0 = true
    unfold puB
    rw [show (0 == 0) = true from rfl, Bool.or_true, Bool.and_true]
    decide
  · show fal Wr 0 _ _ ≤ 0
    rw [fal_0]
    exact Nat.le_refl 0
theorem mn_s {Wr : Nat → Nat} {an d q : Nat} (h8 : an < 8) (hd : d ≤ 6) : mnO (fun r => puB r d an) (fun r => fal Wr an (dgt q) (dgt r)) 343 = some (uD Wr an d q) := by
  unfold uD
  by_cases e : an = 0
  · subst e; rw [mn_0 hd]; rfl
  · rw [hold_min h8 e hd]; rfl
theorem uD_le {Wr : Nat → Nat} (hW : ∀ k, Wr k ≤ 99) {an d q : Nat} : uD Wr an d q ≤ 297 := by
  unfold uD
  have h := bn_n (P := fun r => puB r d an) (v := fun r => fal Wr an (dgt q) (dgt r)) (B := 297) (fun r => fal_le hW) 343
  revert h
  cases mnO (fun r => puB r d an) (fun r => fal Wr an (dgt q) (dgt r)) 343 with
  | none => intro _; exact Nat.zero_le _
  | some b => intro h; exact h b rfl
/-- SURE: the same by both -/
theorem sure_eq {Wr : Nat → Nat} {an a d : Nat} (h8 : an < 8) (ha : a ≤ 6) (hd : d ≤ 6) : mxF (fun r => puB r a an) (uD Wr an d) 343 = moC Wr an a d := by
  by_cases e : an = 0
  · subst e
    have h1 : mxF (fun r => puB r a 0) (uD Wr 0 d) 343 = 0 := Nat.le_zero.mp (mx_le 343 (fun r _ _ => by unfold uD; rw [mn_0 hd]; exact Nat.le_refl 0))
    rw [h1]
    unfold moC
    rw [cl_0 a (by omega)]
    by_cases c : a = 0
    · have hu0 : uS Wr 0 d (dgt 0) = 0 := by unfold uS; rw [wor_0]; omega
      rw [if_pos c, fold_m]
      unfold mxS
      show 0 = if 0 < uS Wr 0 d (dgt 0) then uS Wr 0 d (dgt 0) else 0
      rw [hu0]
      rfl
    · rw [if_neg c]; rfl
  · rw [mxF_f, cl_rows a (by omega) an h8 e]
    have hu : uD Wr an d = fun r => uS Wr an d (dgt r) := funext (fun q => by unfold uD; rw [hold_min h8 e hd]; rfl)
    rw [hu]
    rfl
end
