/-! TrunkReserveModel: what goes over, and its spread -/
def ovM (N A : Nat) : Int64 × Int64 := bcm (lN (A * wt (fct N) 1 N A 0 0 N)) (lN (sW (wt (fct N) 1 N A 0 0) (N + 1)))
def cdB : Nat → Int64 → Int64 → Bool
  | 0, _, y => decide (y = 0)
  | n + 1, x, y => decide (y = 0) || cdB n y (x - x / y * y)
theorem cdB_E : ∀ (n : Nat) (x y : Int64), cdB n x y = true → cdE n x y
  | 0, _, _, h => of_decide_eq_true h
  | n + 1, x, y, h => by
    unfold cdB at h
    rw [Bool.or_eq_true] at h
    exact h.imp of_decide_eq_true (cdB_E n _ _)
def ovC (N A : Nat) (m d : Int64) : Bool :=
  (fun u => (fun ab => (fun one two => (fun X Y => cdB 100 m u && (cdB 100 ab d && (decide (¬ one = 0) && (decide (¬ two = 0) && (cdB 100 X Y && (decide (¬ cd64 100 X Y = 0) && decide (spr m d (nI N) (nI A) = (X / cd64 100 X Y, Y / cd64 100 X Y))))))))
    (m / one * (ab / two)) (d * (d / two) * (u / one))) (cd64 100 m u) (cd64 100 ab d)) ((d - m) * u + (nI A).toInt64 * d * d)) ((nI N + 1 - nI A).toInt64 * d + m)
theorem ov_all : ∀ N, N < 7 → ∀ A, A < 7 → N = 0 ∨ ovC N A (ovM N A).1 (ovM N A).2 = true := by decide +kernel
theorem ov_ok {N A : Nat} (n1 : 1 ≤ N) (n6 : N ≤ 6) (a6 : A ≤ 6) {m d u ab one two X Y : Int64} (hm : m = (ovM N A).1) (hd : d = (ovM N A).2) (hu : u = (nI N + 1 - nI A).toInt64 * d + m) (hab : ab = (d - m) * u + (nI A).toInt64 * d * d) (h1 : one = cd64 100 m u) (h2 : two = cd64 100 ab d) (hX : X = m / one * (ab / two)) (hY : Y = d * (d / two) * (u / one)) : cdE 100 m u ∧ cdE 100 ab d ∧ ¬ one = 0 ∧ ¬ two = 0 ∧ cdE 100 X Y ∧ ¬ cd64 100 X Y = 0 ∧ spr m d (nI N) (nI A) = (X / cd64 100 X Y, Y / cd64 100 X Y) := by
  have h := (ov_all N (by omega) A (by omega)).resolve_left (by omega)
  rw [← hm, ← hd] at h
  unfold ovC at h
  dsimp only at h
  rw [← hu, ← hab, ← h1, ← h2, ← hX, ← hY] at h
  simp only [Bool.and_eq_true] at h
  obtain ⟨q1, q2, q3, q4, q5, q6, q7⟩ := h
  exact ⟨cdB_E _ _ _ q1, cdB_E _ _ _ q2, of_decide_eq_true q3, of_decide_eq_true q4, cdB_E _ _ _ q5, of_decide_eq_true q6, of_decide_eq_true q7⟩
