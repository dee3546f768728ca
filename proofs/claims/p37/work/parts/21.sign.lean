set_option maxHeartbeats 2000000 in
set_option maxRecDepth 20000 in
theorem c_X9_takeSign (l : Launch) (D : va_G) (cy : Nat → ClassId) (B N : Nat) (M : MM) (hN : 210 ≤ N) (hI : Iv M) (h1 : M.1 2 3 < M.1 2 2) : CV l D cy B N 8 yX9_takeSign cX9_takeSign 2 none [rv B 2] M (fun M' => Iv M' ∧ Fr (fun a b => (a = 2 ∧ 3 ≤ b ∧ b ≤ 4)) M M' ∧ (M'.1 2 4 ≠ 2)) := sorry
