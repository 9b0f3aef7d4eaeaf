/-! P by value: for so many lines and such a reserve, as a function of a thousand loads and what comes over; the check, in one pass -/
def f_1_0 (a b : Nat) : Nat := (fun r => (fun w1 => (fun s1 => Nat.div (Nat.mul 1000 w1) s1) (Nat.add 1000000 w1)) (Nat.div (Nat.mul 1000000 r) 1000)) (Nat.add a b)
theorem f_1_0_eq (A b : Nat) : f_1_0 (1000 * A) b = pPn 1 A 0 b := by
  have a1 : ∀ x y : Nat, Nat.add x y = x + y := fun _ _ => rfl
  have a2 : ∀ x y : Nat, Nat.mul x y = x * y := fun _ _ => rfl
  have a3 : ∀ x y : Nat, Nat.div x y = x / y := fun _ _ => rfl
  simp [f_1_0, pPn, wt, cm, sW, a1, a2, a3]
def f_2_0 (a b : Nat) : Nat := (fun r => (fun w1 => (fun s1 => (fun w2 => (fun s2 => Nat.div (Nat.mul 1000 w2) s2) (Nat.add s1 w2)) (Nat.div (Nat.mul w1 r) 2000)) (Nat.add 1000000 w1)) (Nat.div (Nat.mul 1000000 r) 1000)) (Nat.add a b)
theorem f_2_0_eq (A b : Nat) : f_2_0 (1000 * A) b = pPn 2 A 0 b := by
  have a1 : ∀ x y : Nat, Nat.add x y = x + y := fun _ _ => rfl
  have a2 : ∀ x y : Nat, Nat.mul x y = x * y := fun _ _ => rfl
  have a3 : ∀ x y : Nat, Nat.div x y = x / y := fun _ _ => rfl
  simp [f_2_0, pPn, wt, cm, sW, a1, a2, a3]
def f_2_1 (a b : Nat) : Nat := (fun r => (fun w1 => (fun s1 => (fun w2 => (fun s2 => Nat.div (Nat.mul 1000 w2) s2) (Nat.add s1 w2)) (Nat.div (Nat.mul w1 a) 2000)) (Nat.add 1000000 w1)) (Nat.div (Nat.mul 1000000 r) 1000)) (Nat.add a b)
theorem f_2_1_eq (A b : Nat) : f_2_1 (1000 * A) b = pPn 2 A 1 b := by
  have a1 : ∀ x y : Nat, Nat.add x y = x + y := fun _ _ => rfl
  have a2 : ∀ x y : Nat, Nat.mul x y = x * y := fun _ _ => rfl
  have a3 : ∀ x y : Nat, Nat.div x y = x / y := fun _ _ => rfl
  simp [f_2_1, pPn, wt, cm, sW, a1, a2, a3]
def f_3_0 (a b : Nat) : Nat := (fun r => (fun w1 => (fun s1 => (fun w2 => (fun s2 => (fun w3 => (fun s3 => Nat.div (Nat.mul 1000 w3) s3) (Nat.add s2 w3)) (Nat.div (Nat.mul w2 r) 3000)) (Nat.add s1 w2)) (Nat.div (Nat.mul w1 r) 2000)) (Nat.add 1000000 w1)) (Nat.div (Nat.mul 1000000 r) 1000)) (Nat.add a b)
theorem f_3_0_eq (A b : Nat) : f_3_0 (1000 * A) b = pPn 3 A 0 b := by
  have a1 : ∀ x y : Nat, Nat.add x y = x + y := fun _ _ => rfl
  have a2 : ∀ x y : Nat, Nat.mul x y = x * y := fun _ _ => rfl
  have a3 : ∀ x y : Nat, Nat.div x y = x / y := fun _ _ => rfl
  simp [f_3_0, pPn, wt, cm, sW, a1, a2, a3]
def f_3_1 (a b : Nat) : Nat := (fun r => (fun w1 => (fun s1 => (fun w2 => (fun s2 => (fun w3 => (fun s3 => Nat.div (Nat.mul 1000 w3) s3) (Nat.add s2 w3)) (Nat.div (Nat.mul w2 a) 3000)) (Nat.add s1 w2)) (Nat.div (Nat.mul w1 r) 2000)) (Nat.add 1000000 w1)) (Nat.div (Nat.mul 1000000 r) 1000)) (Nat.add a b)
theorem f_3_1_eq (A b : Nat) : f_3_1 (1000 * A) b = pPn 3 A 1 b := by
  have a1 : ∀ x y : Nat, Nat.add x y = x + y := fun _ _ => rfl
  have a2 : ∀ x y : Nat, Nat.mul x y = x * y := fun _ _ => rfl
  have a3 : ∀ x y : Nat, Nat.div x y = x / y := fun _ _ => rfl
  simp [f_3_1, pPn, wt, cm, sW, a1, a2, a3]
def f_3_2 (a b : Nat) : Nat := (fun r => (fun w1 => (fun s1 => (fun w2 => (fun s2 => (fun w3 => (fun s3 => Nat.div (Nat.mul 1000 w3) s3) (Nat.add s2 w3)) (Nat.div (Nat.mul w2 a) 3000)) (Nat.add s1 w2)) (Nat.div (Nat.mul w1 a) 2000)) (Nat.add 1000000 w1)) (Nat.div (Nat.mul 1000000 r) 1000)) (Nat.add a b)
theorem f_3_2_eq (A b : Nat) : f_3_2 (1000 * A) b = pPn 3 A 2 b := by
  have a1 : ∀ x y : Nat, Nat.add x y = x + y := fun _ _ => rfl
  have a2 : ∀ x y : Nat, Nat.mul x y = x * y := fun _ _ => rfl
  have a3 : ∀ x y : Nat, Nat.div x y = x / y := fun _ _ => rfl
  simp [f_3_2, pPn, wt, cm, sW, a1, a2, a3]
def f_4_0 (a b : Nat) : Nat := (fun r => (fun w1 => (fun s1 => (fun w2 => (fun s2 => (fun w3 => (fun s3 => (fun w4 => (fun s4 => Nat.div (Nat.mul 1000 w4) s4) (Nat.add s3 w4)) (Nat.div (Nat.mul w3 r) 4000)) (Nat.add s2 w3)) (Nat.div (Nat.mul w2 r) 3000)) (Nat.add s1 w2)) (Nat.div (Nat.mul w1 r) 2000)) (Nat.add 1000000 w1)) (Nat.div (Nat.mul 1000000 r) 1000)) (Nat.add a b)
theorem f_4_0_eq (A b : Nat) : f_4_0 (1000 * A) b = pPn 4 A 0 b := by
  have a1 : ∀ x y : Nat, Nat.add x y = x + y := fun _ _ => rfl
  have a2 : ∀ x y : Nat, Nat.mul x y = x * y := fun _ _ => rfl
  have a3 : ∀ x y : Nat, Nat.div x y = x / y := fun _ _ => rfl
  simp [f_4_0, pPn, wt, cm, sW, a1, a2, a3]
def f_4_1 (a b : Nat) : Nat := (fun r => (fun w1 => (fun s1 => (fun w2 => (fun s2 => (fun w3 => (fun s3 => (fun w4 => (fun s4 => Nat.div (Nat.mul 1000 w4) s4) (Nat.add s3 w4)) (Nat.div (Nat.mul w3 a) 4000)) (Nat.add s2 w3)) (Nat.div (Nat.mul w2 r) 3000)) (Nat.add s1 w2)) (Nat.div (Nat.mul w1 r) 2000)) (Nat.add 1000000 w1)) (Nat.div (Nat.mul 1000000 r) 1000)) (Nat.add a b)
theorem f_4_1_eq (A b : Nat) : f_4_1 (1000 * A) b = pPn 4 A 1 b := by
  have a1 : ∀ x y : Nat, Nat.add x y = x + y := fun _ _ => rfl
  have a2 : ∀ x y : Nat, Nat.mul x y = x * y := fun _ _ => rfl
  have a3 : ∀ x y : Nat, Nat.div x y = x / y := fun _ _ => rfl
  simp [f_4_1, pPn, wt, cm, sW, a1, a2, a3]
def f_4_2 (a b : Nat) : Nat := (fun r => (fun w1 => (fun s1 => (fun w2 => (fun s2 => (fun w3 => (fun s3 => (fun w4 => (fun s4 => Nat.div (Nat.mul 1000 w4) s4) (Nat.add s3 w4)) (Nat.div (Nat.mul w3 a) 4000)) (Nat.add s2 w3)) (Nat.div (Nat.mul w2 a) 3000)) (Nat.add s1 w2)) (Nat.div (Nat.mul w1 r) 2000)) (Nat.add 1000000 w1)) (Nat.div (Nat.mul 1000000 r) 1000)) (Nat.add a b)
theorem f_4_2_eq (A b : Nat) : f_4_2 (1000 * A) b = pPn 4 A 2 b := by
  have a1 : ∀ x y : Nat, Nat.add x y = x + y := fun _ _ => rfl
  have a2 : ∀ x y : Nat, Nat.mul x y = x * y := fun _ _ => rfl
  have a3 : ∀ x y : Nat, Nat.div x y = x / y := fun _ _ => rfl
  simp [f_4_2, pPn, wt, cm, sW, a1, a2, a3]
def f_4_3 (a b : Nat) : Nat := (fun r => (fun w1 => (fun s1 => (fun w2 => (fun s2 => (fun w3 => (fun s3 => (fun w4 => (fun s4 => Nat.div (Nat.mul 1000 w4) s4) (Nat.add s3 w4)) (Nat.div (Nat.mul w3 a) 4000)) (Nat.add s2 w3)) (Nat.div (Nat.mul w2 a) 3000)) (Nat.add s1 w2)) (Nat.div (Nat.mul w1 a) 2000)) (Nat.add 1000000 w1)) (Nat.div (Nat.mul 1000000 r) 1000)) (Nat.add a b)
theorem f_4_3_eq (A b : Nat) : f_4_3 (1000 * A) b = pPn 4 A 3 b := by
  have a1 : ∀ x y : Nat, Nat.add x y = x + y := fun _ _ => rfl
  have a2 : ∀ x y : Nat, Nat.mul x y = x * y := fun _ _ => rfl
  have a3 : ∀ x y : Nat, Nat.div x y = x / y := fun _ _ => rfl
  simp [f_4_3, pPn, wt, cm, sW, a1, a2, a3]
def f_5_0 (a b : Nat) : Nat := (fun r => (fun w1 => (fun s1 => (fun w2 => (fun s2 => (fun w3 => (fun s3 => (fun w4 => (fun s4 => (fun w5 => (fun s5 => Nat.div (Nat.mul 1000 w5) s5) (Nat.add s4 w5)) (Nat.div (Nat.mul w4 r) 5000)) (Nat.add s3 w4)) (Nat.div (Nat.mul w3 r) 4000)) (Nat.add s2 w3)) (Nat.div (Nat.mul w2 r) 3000)) (Nat.add s1 w2)) (Nat.div (Nat.mul w1 r) 2000)) (Nat.add 1000000 w1)) (Nat.div (Nat.mul 1000000 r) 1000)) (Nat.add a b)
theorem f_5_0_eq (A b : Nat) : f_5_0 (1000 * A) b = pPn 5 A 0 b := by
  have a1 : ∀ x y : Nat, Nat.add x y = x + y := fun _ _ => rfl
  have a2 : ∀ x y : Nat, Nat.mul x y = x * y := fun _ _ => rfl
  have a3 : ∀ x y : Nat, Nat.div x y = x / y := fun _ _ => rfl
  simp [f_5_0, pPn, wt, cm, sW, a1, a2, a3]
def f_5_1 (a b : Nat) : Nat := (fun r => (fun w1 => (fun s1 => (fun w2 => (fun s2 => (fun w3 => (fun s3 => (fun w4 => (fun s4 => (fun w5 => (fun s5 => Nat.div (Nat.mul 1000 w5) s5) (Nat.add s4 w5)) (Nat.div (Nat.mul w4 a) 5000)) (Nat.add s3 w4)) (Nat.div (Nat.mul w3 r) 4000)) (Nat.add s2 w3)) (Nat.div (Nat.mul w2 r) 3000)) (Nat.add s1 w2)) (Nat.div (Nat.mul w1 r) 2000)) (Nat.add 1000000 w1)) (Nat.div (Nat.mul 1000000 r) 1000)) (Nat.add a b)
theorem f_5_1_eq (A b : Nat) : f_5_1 (1000 * A) b = pPn 5 A 1 b := by
  have a1 : ∀ x y : Nat, Nat.add x y = x + y := fun _ _ => rfl
  have a2 : ∀ x y : Nat, Nat.mul x y = x * y := fun _ _ => rfl
  have a3 : ∀ x y : Nat, Nat.div x y = x / y := fun _ _ => rfl
  simp [f_5_1, pPn, wt, cm, sW, a1, a2, a3]
def f_5_2 (a b : Nat) : Nat := (fun r => (fun w1 => (fun s1 => (fun w2 => (fun s2 => (fun w3 => (fun s3 => (fun w4 => (fun s4 => (fun w5 => (fun s5 => Nat.div (Nat.mul 1000 w5) s5) (Nat.add s4 w5)) (Nat.div (Nat.mul w4 a) 5000)) (Nat.add s3 w4)) (Nat.div (Nat.mul w3 a) 4000)) (Nat.add s2 w3)) (Nat.div (Nat.mul w2 r) 3000)) (Nat.add s1 w2)) (Nat.div (Nat.mul w1 r) 2000)) (Nat.add 1000000 w1)) (Nat.div (Nat.mul 1000000 r) 1000)) (Nat.add a b)
theorem f_5_2_eq (A b : Nat) : f_5_2 (1000 * A) b = pPn 5 A 2 b := by
  have a1 : ∀ x y : Nat, Nat.add x y = x + y := fun _ _ => rfl
  have a2 : ∀ x y : Nat, Nat.mul x y = x * y := fun _ _ => rfl
  have a3 : ∀ x y : Nat, Nat.div x y = x / y := fun _ _ => rfl
  simp [f_5_2, pPn, wt, cm, sW, a1, a2, a3]
def f_5_3 (a b : Nat) : Nat := (fun r => (fun w1 => (fun s1 => (fun w2 => (fun s2 => (fun w3 => (fun s3 => (fun w4 => (fun s4 => (fun w5 => (fun s5 => Nat.div (Nat.mul 1000 w5) s5) (Nat.add s4 w5)) (Nat.div (Nat.mul w4 a) 5000)) (Nat.add s3 w4)) (Nat.div (Nat.mul w3 a) 4000)) (Nat.add s2 w3)) (Nat.div (Nat.mul w2 a) 3000)) (Nat.add s1 w2)) (Nat.div (Nat.mul w1 r) 2000)) (Nat.add 1000000 w1)) (Nat.div (Nat.mul 1000000 r) 1000)) (Nat.add a b)
theorem f_5_3_eq (A b : Nat) : f_5_3 (1000 * A) b = pPn 5 A 3 b := by
  have a1 : ∀ x y : Nat, Nat.add x y = x + y := fun _ _ => rfl
  have a2 : ∀ x y : Nat, Nat.mul x y = x * y := fun _ _ => rfl
  have a3 : ∀ x y : Nat, Nat.div x y = x / y := fun _ _ => rfl
  simp [f_5_3, pPn, wt, cm, sW, a1, a2, a3]
def f_5_4 (a b : Nat) : Nat := (fun r => (fun w1 => (fun s1 => (fun w2 => (fun s2 => (fun w3 => (fun s3 => (fun w4 => (fun s4 => (fun w5 => (fun s5 => Nat.div (Nat.mul 1000 w5) s5) (Nat.add s4 w5)) (Nat.div (Nat.mul w4 a) 5000)) (Nat.add s3 w4)) (Nat.div (Nat.mul w3 a) 4000)) (Nat.add s2 w3)) (Nat.div (Nat.mul w2 a) 3000)) (Nat.add s1 w2)) (Nat.div (Nat.mul w1 a) 2000)) (Nat.add 1000000 w1)) (Nat.div (Nat.mul 1000000 r) 1000)) (Nat.add a b)
theorem f_5_4_eq (A b : Nat) : f_5_4 (1000 * A) b = pPn 5 A 4 b := by
  have a1 : ∀ x y : Nat, Nat.add x y = x + y := fun _ _ => rfl
  have a2 : ∀ x y : Nat, Nat.mul x y = x * y := fun _ _ => rfl
  have a3 : ∀ x y : Nat, Nat.div x y = x / y := fun _ _ => rfl
  simp [f_5_4, pPn, wt, cm, sW, a1, a2, a3]
def f_6_0 (a b : Nat) : Nat := (fun r => (fun w1 => (fun s1 => (fun w2 => (fun s2 => (fun w3 => (fun s3 => (fun w4 => (fun s4 => (fun w5 => (fun s5 => (fun w6 => (fun s6 => Nat.div (Nat.mul 1000 w6) s6) (Nat.add s5 w6)) (Nat.div (Nat.mul w5 r) 6000)) (Nat.add s4 w5)) (Nat.div (Nat.mul w4 r) 5000)) (Nat.add s3 w4)) (Nat.div (Nat.mul w3 r) 4000)) (Nat.add s2 w3)) (Nat.div (Nat.mul w2 r) 3000)) (Nat.add s1 w2)) (Nat.div (Nat.mul w1 r) 2000)) (Nat.add 1000000 w1)) (Nat.div (Nat.mul 1000000 r) 1000)) (Nat.add a b)
theorem f_6_0_eq (A b : Nat) : f_6_0 (1000 * A) b = pPn 6 A 0 b := by
  have a1 : ∀ x y : Nat, Nat.add x y = x + y := fun _ _ => rfl
  have a2 : ∀ x y : Nat, Nat.mul x y = x * y := fun _ _ => rfl
  have a3 : ∀ x y : Nat, Nat.div x y = x / y := fun _ _ => rfl
  simp [f_6_0, pPn, wt, cm, sW, a1, a2, a3]
def f_6_1 (a b : Nat) : Nat := (fun r => (fun w1 => (fun s1 => (fun w2 => (fun s2 => (fun w3 => (fun s3 => (fun w4 => (fun s4 => (fun w5 => (fun s5 => (fun w6 => (fun s6 => Nat.div (Nat.mul 1000 w6) s6) (Nat.add s5 w6)) (Nat.div (Nat.mul w5 a) 6000)) (Nat.add s4 w5)) (Nat.div (Nat.mul w4 r) 5000)) (Nat.add s3 w4)) (Nat.div (Nat.mul w3 r) 4000)) (Nat.add s2 w3)) (Nat.div (Nat.mul w2 r) 3000)) (Nat.add s1 w2)) (Nat.div (Nat.mul w1 r) 2000)) (Nat.add 1000000 w1)) (Nat.div (Nat.mul 1000000 r) 1000)) (Nat.add a b)
theorem f_6_1_eq (A b : Nat) : f_6_1 (1000 * A) b = pPn 6 A 1 b := by
  have a1 : ∀ x y : Nat, Nat.add x y = x + y := fun _ _ => rfl
  have a2 : ∀ x y : Nat, Nat.mul x y = x * y := fun _ _ => rfl
  have a3 : ∀ x y : Nat, Nat.div x y = x / y := fun _ _ => rfl
  simp [f_6_1, pPn, wt, cm, sW, a1, a2, a3]
def f_6_2 (a b : Nat) : Nat := (fun r => (fun w1 => (fun s1 => (fun w2 => (fun s2 => (fun w3 => (fun s3 => (fun w4 => (fun s4 => (fun w5 => (fun s5 => (fun w6 => (fun s6 => Nat.div (Nat.mul 1000 w6) s6) (Nat.add s5 w6)) (Nat.div (Nat.mul w5 a) 6000)) (Nat.add s4 w5)) (Nat.div (Nat.mul w4 a) 5000)) (Nat.add s3 w4)) (Nat.div (Nat.mul w3 r) 4000)) (Nat.add s2 w3)) (Nat.div (Nat.mul w2 r) 3000)) (Nat.add s1 w2)) (Nat.div (Nat.mul w1 r) 2000)) (Nat.add 1000000 w1)) (Nat.div (Nat.mul 1000000 r) 1000)) (Nat.add a b)
theorem f_6_2_eq (A b : Nat) : f_6_2 (1000 * A) b = pPn 6 A 2 b := by
  have a1 : ∀ x y : Nat, Nat.add x y = x + y := fun _ _ => rfl
  have a2 : ∀ x y : Nat, Nat.mul x y = x * y := fun _ _ => rfl
  have a3 : ∀ x y : Nat, Nat.div x y = x / y := fun _ _ => rfl
  simp [f_6_2, pPn, wt, cm, sW, a1, a2, a3]
def f_6_3 (a b : Nat) : Nat := (fun r => (fun w1 => (fun s1 => (fun w2 => (fun s2 => (fun w3 => (fun s3 => (fun w4 => (fun s4 => (fun w5 => (fun s5 => (fun w6 => (fun s6 => Nat.div (Nat.mul 1000 w6) s6) (Nat.add s5 w6)) (Nat.div (Nat.mul w5 a) 6000)) (Nat.add s4 w5)) (Nat.div (Nat.mul w4 a) 5000)) (Nat.add s3 w4)) (Nat.div (Nat.mul w3 a) 4000)) (Nat.add s2 w3)) (Nat.div (Nat.mul w2 r) 3000)) (Nat.add s1 w2)) (Nat.div (Nat.mul w1 r) 2000)) (Nat.add 1000000 w1)) (Nat.div (Nat.mul 1000000 r) 1000)) (Nat.add a b)
theorem f_6_3_eq (A b : Nat) : f_6_3 (1000 * A) b = pPn 6 A 3 b := by
  have a1 : ∀ x y : Nat, Nat.add x y = x + y := fun _ _ => rfl
  have a2 : ∀ x y : Nat, Nat.mul x y = x * y := fun _ _ => rfl
  have a3 : ∀ x y : Nat, Nat.div x y = x / y := fun _ _ => rfl
  simp [f_6_3, pPn, wt, cm, sW, a1, a2, a3]
def f_6_4 (a b : Nat) : Nat := (fun r => (fun w1 => (fun s1 => (fun w2 => (fun s2 => (fun w3 => (fun s3 => (fun w4 => (fun s4 => (fun w5 => (fun s5 => (fun w6 => (fun s6 => Nat.div (Nat.mul 1000 w6) s6) (Nat.add s5 w6)) (Nat.div (Nat.mul w5 a) 6000)) (Nat.add s4 w5)) (Nat.div (Nat.mul w4 a) 5000)) (Nat.add s3 w4)) (Nat.div (Nat.mul w3 a) 4000)) (Nat.add s2 w3)) (Nat.div (Nat.mul w2 a) 3000)) (Nat.add s1 w2)) (Nat.div (Nat.mul w1 r) 2000)) (Nat.add 1000000 w1)) (Nat.div (Nat.mul 1000000 r) 1000)) (Nat.add a b)
theorem f_6_4_eq (A b : Nat) : f_6_4 (1000 * A) b = pPn 6 A 4 b := by
  have a1 : ∀ x y : Nat, Nat.add x y = x + y := fun _ _ => rfl
  have a2 : ∀ x y : Nat, Nat.mul x y = x * y := fun _ _ => rfl
  have a3 : ∀ x y : Nat, Nat.div x y = x / y := fun _ _ => rfl
  simp [f_6_4, pPn, wt, cm, sW, a1, a2, a3]
def f_6_5 (a b : Nat) : Nat := (fun r => (fun w1 => (fun s1 => (fun w2 => (fun s2 => (fun w3 => (fun s3 => (fun w4 => (fun s4 => (fun w5 => (fun s5 => (fun w6 => (fun s6 => Nat.div (Nat.mul 1000 w6) s6) (Nat.add s5 w6)) (Nat.div (Nat.mul w5 a) 6000)) (Nat.add s4 w5)) (Nat.div (Nat.mul w4 a) 5000)) (Nat.add s3 w4)) (Nat.div (Nat.mul w3 a) 4000)) (Nat.add s2 w3)) (Nat.div (Nat.mul w2 a) 3000)) (Nat.add s1 w2)) (Nat.div (Nat.mul w1 a) 2000)) (Nat.add 1000000 w1)) (Nat.div (Nat.mul 1000000 r) 1000)) (Nat.add a b)
theorem f_6_5_eq (A b : Nat) : f_6_5 (1000 * A) b = pPn 6 A 5 b := by
  have a1 : ∀ x y : Nat, Nat.add x y = x + y := fun _ _ => rfl
  have a2 : ∀ x y : Nat, Nat.mul x y = x * y := fun _ _ => rfl
  have a3 : ∀ x y : Nat, Nat.div x y = x / y := fun _ _ => rfl
  simp [f_6_5, pPn, wt, cm, sW, a1, a2, a3]
/-- n values up to 18000: P is p ahead of them, lb (14 more than where) was its last rise -/
noncomputable def ckF (f : Nat → Nat) (g n : Nat) : Nat → Nat → Bool := Nat.rec (motive := fun _ => Nat → Nat → Bool) (fun _ _ => true) (fun n' ih p lb => (fun b => (fun q => Bool.rec (motive := fun _ => Bool) (Bool.rec (motive := fun _ => Bool) false (Bool.rec (motive := fun _ => Bool) false (ih (Nat.succ p) (Nat.add b 14)) (Nat.ble (Nat.add lb g) (Nat.add b 14))) (Nat.beq q (Nat.succ p))) (ih p lb) (Nat.beq q p)) (f b)) (Nat.sub 18000 n')) n
theorem ckF_succ (f : Nat → Nat) (g n p lb : Nat) (h : ckF f g (n + 1) p lb = true) : (f (18000 - n) = p ∧ ckF f g n p lb = true) ∨ (f (18000 - n) = p + 1 ∧ lb + g ≤ 18000 - n + 14 ∧ ckF f g n (p + 1) (18000 - n + 14) = true) := by
  have h0 : Bool.rec (motive := fun _ => Bool) (Bool.rec (motive := fun _ => Bool) false (Bool.rec (motive := fun _ => Bool) false (ckF f g n (p + 1) (18000 - n + 14)) (Nat.ble (lb + g) (18000 - n + 14))) (Nat.beq (f (18000 - n)) (p + 1))) (ckF f g n p lb) (Nat.beq (f (18000 - n)) p) = true := h
  clear h
  cases h1 : Nat.beq (f (18000 - n)) p with
  | true =>
    rw [h1] at h0
    exact Or.inl ⟨Nat.eq_of_beq_eq_true h1, h0⟩
  | false =>
    rw [h1] at h0
    cases h2 : Nat.beq (f (18000 - n)) (p + 1) with
    | false => rw [h2] at h0; exact absurd h0 (by intro z; cases z)
    | true =>
      rw [h2] at h0
      cases h3 : Nat.ble (lb + g) (18000 - n + 14) with
      | false => rw [h3] at h0; exact absurd h0 (by intro z; cases z)
      | true =>
        rw [h3] at h0
        exact Or.inr ⟨Nat.eq_of_beq_eq_true h2, Nat.le_of_ble_eq_true h3, h0⟩
/-- what a check says -/
theorem ckF_says (f : Nat → Nat) (g : Nat) : ∀ (n p lb : Nat), n ≤ 18001 → ckF f g n p lb = true → (∀ y, 18001 - n ≤ y → y ≤ 18000 → p ≤ f y ∧ (f y = p ∨ lb + g * (f y - p) ≤ y + 14) ∧ (f y = p ∨ (18001 - n) + g * (f y - p) ≤ y + g)) ∧ ∀ x y, 18001 - n ≤ x → x ≤ y → y ≤ 18000 → f x ≤ f y ∧ (f y = f x ∨ x + 1 + g * (f y - f x) ≤ y + g)
  | 0, p, lb, _, _ => ⟨fun y h1 h2 => by omega, fun x y h1 h2 h3 => by omega⟩
  | n + 1, p, lb, hn, h => by
    have e0 : 18001 - (n + 1) = 18000 - n := by omega
    have e1 : 18001 - n = 18000 - n + 1 := by omega
    rw [e0]
    generalize hb : 18000 - n = b at e1
    rcases ckF_succ f g n p lb h with ⟨hf, hc⟩ | ⟨hf, hl, hc⟩
    · rw [hb] at hf
      obtain ⟨i1, i2⟩ := ckF_says f g n p lb (by omega) hc
      rw [e1] at i1 i2
      refine ⟨fun y h1 h2 => ?_, fun x y h1 h2 h3 => ?_⟩
      · by_cases e : y = b
        · subst e; exact ⟨Nat.le_of_eq hf.symm, Or.inl hf, Or.inl hf⟩
        · obtain ⟨j1, j2, j3⟩ := i1 y (by omega) h2
          exact ⟨j1, j2, j3.imp id (fun z => by omega)⟩
      · by_cases e : x = b
        · subst e
          by_cases e2 : y = x
          · subst e2; exact ⟨Nat.le_refl _, Or.inl rfl⟩
          · obtain ⟨j1, j2, j3⟩ := i1 y (by omega) h3
            rw [hf]
            exact ⟨j1, j3⟩
        · exact i2 x y (by omega) h2 h3
    · rw [hb] at hf hl hc
      obtain ⟨i1, i2⟩ := ckF_says f g n (p + 1) (b + 14) (by omega) hc
      rw [e1] at i1 i2
      have key : ∀ y, b + 1 ≤ y → y ≤ 18000 → p + 1 ≤ f y ∧ b + g * (f y - (p + 1)) ≤ y := fun y h1 h2 => by
        obtain ⟨j1, j2, j3⟩ := i1 y h1 h2
        refine ⟨j1, ?_⟩
        rcases j2 with z | z
        · rw [z, Nat.sub_self, Nat.mul_zero]; omega
        · omega
      have up : ∀ y, p + 1 ≤ f y → g * (f y - p) = g * (f y - (p + 1)) + g := fun y h1 => by
        rw [show f y - p = (f y - (p + 1)) + 1 by omega, Nat.mul_succ]
      refine ⟨fun y h1 h2 => ?_, fun x y h1 h2 h3 => ?_⟩
      · by_cases e : y = b
        · subst e
          have h5 := up y (by omega)
          rw [show f y - (p + 1) = 0 by omega, Nat.mul_zero] at h5
          exact ⟨by omega, Or.inr (by omega), Or.inr (by omega)⟩
        · obtain ⟨j1, j2⟩ := key y (by omega) h2
          have h5 := up y j1
          exact ⟨by omega, Or.inr (by omega), Or.inr (by omega)⟩
      · by_cases e : x = b
        · subst e
          by_cases e2 : y = x
          · subst e2; exact ⟨Nat.le_refl _, Or.inl rfl⟩
          · obtain ⟨j1, j2, j3⟩ := i1 y (by omega) h3
            rw [hf]
            exact ⟨j1, j3⟩
        · exact i2 x y (by omega) h2 h3
/-- P never falls, and its rises lie at least g apart -/
def gap (f : Nat → Nat) (g : Nat) : Prop := ∀ x y, x ≤ y → y ≤ 18000 → f x ≤ f y ∧ g * (f y - f x) + 1 ≤ y - x + g
theorem gap_of {f : Nat → Nat} {g : Nat} (hg : 1 ≤ g) (h : ckF f g 18001 (f 0) 0 = true) : gap f g := fun x y h1 h2 => by
  obtain ⟨j1, j2⟩ := (ckF_says f g 18001 (f 0) 0 (Nat.le_refl _) h).2 x y (by omega) h1 h2
  refine ⟨j1, ?_⟩
  rcases j2 with z | z
  · rw [z, Nat.sub_self, Nat.mul_zero]; omega
  · omega
