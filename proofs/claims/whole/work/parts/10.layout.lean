/-! ===== where the objects lie: each beside those that its constructor makes ===== -/
def LayR (S : St) (r : Nat) : Prop := S.1 r = some (4, 0) ∧ (S.2.1 r 0 = .ref (r + 1) ∧ S.2.1 r 1 = .ref (r + 2) ∧ S.2.1 r 2 = .ref (r + 3) ∧ S.2.1 r 3 = .ref (r + 4)) ∧ S.1 (r + 1) = some (20, 10) ∧ S.1 (r + 2) = some (20, 10) ∧ S.1 (r + 3) = some (20, 10) ∧ S.1 (r + 4) = some (20, 10)
theorem LayR.s {S : St} {r : Nat} (h : LayR S r) : S.1 r = some (4, 0) := h.1
theorem LayR.g0 {S : St} {r : Nat} (h : LayR S r) : S.2.1 r 0 = .ref (r + 1) := h.2.1.1
theorem LayR.g1 {S : St} {r : Nat} (h : LayR S r) : S.2.1 r 1 = .ref (r + 2) := h.2.1.2.1
theorem LayR.g2 {S : St} {r : Nat} (h : LayR S r) : S.2.1 r 2 = .ref (r + 3) := h.2.1.2.2.1
theorem LayR.g3 {S : St} {r : Nat} (h : LayR S r) : S.2.1 r 3 = .ref (r + 4) := h.2.1.2.2.2
theorem LayR.c0 {S : St} {r : Nat} (h : LayR S r) : S.1 (r + 1) = some (20, 10) := h.2.2.1
theorem LayR.c1 {S : St} {r : Nat} (h : LayR S r) : S.1 (r + 2) = some (20, 10) := h.2.2.2.1
theorem LayR.c2 {S : St} {r : Nat} (h : LayR S r) : S.1 (r + 3) = some (20, 10) := h.2.2.2.2.1
theorem LayR.c3 {S : St} {r : Nat} (h : LayR S r) : S.1 (r + 4) = some (20, 10) := h.2.2.2.2.2
def LayB (S : St) (b : Nat) : Prop := S.1 b = some (0, 0) ∧ (S.2.1 b 0 = .ref (b + 1) ∧ S.2.1 b 1 = .ref (b + 2) ∧ S.2.1 b 2 = .ref (b + 3)) ∧ S.1 (b + 1) = some (20, 30) ∧ S.1 (b + 2) = some (20, 30) ∧ S.1 (b + 3) = some (20, 6)
theorem LayB.s {S : St} {b : Nat} (h : LayB S b) : S.1 b = some (0, 0) := h.1
theorem LayB.g0 {S : St} {b : Nat} (h : LayB S b) : S.2.1 b 0 = .ref (b + 1) := h.2.1.1
theorem LayB.g1 {S : St} {b : Nat} (h : LayB S b) : S.2.1 b 1 = .ref (b + 2) := h.2.1.2.1
theorem LayB.g2 {S : St} {b : Nat} (h : LayB S b) : S.2.1 b 2 = .ref (b + 3) := h.2.1.2.2
theorem LayB.c0 {S : St} {b : Nat} (h : LayB S b) : S.1 (b + 1) = some (20, 30) := h.2.2.1
theorem LayB.c1 {S : St} {b : Nat} (h : LayB S b) : S.1 (b + 2) = some (20, 30) := h.2.2.2.1
theorem LayB.c2 {S : St} {b : Nat} (h : LayB S b) : S.1 (b + 3) = some (20, 6) := h.2.2.2.2
def LayV (S : St) (v : Nat) : Prop := S.1 v = some (8, 0) ∧ (S.2.1 v 0 = .ref (v + 1) ∧ S.2.1 v 1 = .ref (v + 6) ∧ S.2.1 v 2 = .ref (v + 10)) ∧ LayR S (v + 1) ∧ LayB S (v + 6) ∧ S.1 (v + 10) = some (24, 3)
theorem LayV.s {S : St} {v : Nat} (h : LayV S v) : S.1 v = some (8, 0) := h.1
theorem LayV.g0 {S : St} {v : Nat} (h : LayV S v) : S.2.1 v 0 = .ref (v + 1) := h.2.1.1
theorem LayV.g1 {S : St} {v : Nat} (h : LayV S v) : S.2.1 v 1 = .ref (v + 6) := h.2.1.2.1
theorem LayV.g2 {S : St} {v : Nat} (h : LayV S v) : S.2.1 v 2 = .ref (v + 10) := h.2.1.2.2
theorem LayV.c0 {S : St} {v : Nat} (h : LayV S v) : LayR S (v + 1) := h.2.2.1
theorem LayV.c1 {S : St} {v : Nat} (h : LayV S v) : LayB S (v + 6) := h.2.2.2.1
theorem LayV.c2 {S : St} {v : Nat} (h : LayV S v) : S.1 (v + 10) = some (24, 3) := h.2.2.2.2
def LaySh (S : St) (a : Nat) : Prop := S.1 a = some (5, 0) ∧ S.2.1 a 0 = .ref (a + 1) ∧ S.1 (a + 1) = some (20, 24)
theorem LaySh.s {S : St} {a : Nat} (h : LaySh S a) : S.1 a = some (5, 0) := h.1
theorem LaySh.g0 {S : St} {a : Nat} (h : LaySh S a) : S.2.1 a 0 = .ref (a + 1) := h.2.1
theorem LaySh.c0 {S : St} {a : Nat} (h : LaySh S a) : S.1 (a + 1) = some (20, 24) := h.2.2
def LaySl (S : St) (a : Nat) : Prop := S.1 a = some (6, 0) ∧ S.2.1 a 0 = .ref (a + 1) ∧ LaySh S (a + 1)
theorem LaySl.s {S : St} {a : Nat} (h : LaySl S a) : S.1 a = some (6, 0) := h.1
theorem LaySl.g0 {S : St} {a : Nat} (h : LaySl S a) : S.2.1 a 0 = .ref (a + 1) := h.2.1
theorem LaySl.c0 {S : St} {a : Nat} (h : LaySl S a) : LaySh S (a + 1) := h.2.2
def LayT (S : St) (a : Nat) : Prop := S.1 a = some (7, 0) ∧ S.2.1 a 0 = .ref (a + 1) ∧ S.1 (a + 1) = some (20, 96)
theorem LayT.s {S : St} {a : Nat} (h : LayT S a) : S.1 a = some (7, 0) := h.1
theorem LayT.g0 {S : St} {a : Nat} (h : LayT S a) : S.2.1 a 0 = .ref (a + 1) := h.2.1
theorem LayT.c0 {S : St} {a : Nat} (h : LayT S a) : S.1 (a + 1) = some (20, 96) := h.2.2
