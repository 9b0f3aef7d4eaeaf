/-! P by value: an evaluator, and its check in one pass -/
def wS (A B : Nat) : Nat → Nat → Nat → Nat → Nat → Nat × Nat
  | 0, _, w, s, _ => (w, s)
  | n + 1, k, w, s, r => Nat.rec (motive := fun _ => Nat × Nat) (wS A B n (k + 1) 0 (s + 0) (r - 1)) (fun w' _ => wS A B n (k + 1) (w' + 1) (s + (w' + 1)) (r - 1)) (w * (1000 * A + Nat.rec (motive := fun _ => Nat) 0 (fun _ _ => B) r) / (1000 * k))
theorem rec_at {α : Type} (f : Nat → α) (x : Nat) : Nat.rec (motive := fun _ => α) (f 0) (fun w' _ => f (w' + 1)) x = f x := by cases x <;> rfl
theorem rec_r (B r : Nat) : (Nat.rec (motive := fun _ => Nat) 0 (fun _ _ => B) r : Nat) = if 0 < r then B else 0 := by
  cases r with
  | zero => rfl
  | succ r => rw [if_pos (Nat.succ_pos r)]
theorem wS_eq (N A R B : Nat) : ∀ (n j : Nat), wS A B n (j + 1) (wt 1000000 1000 N A R B j) (sW (wt 1000000 1000 N A R B) (j + 1)) (N - R - j) = (wt 1000000 1000 N A R B (j + n), sW (wt 1000000 1000 N A R B) (j + n + 1))
  | 0, j => rfl
  | n + 1, j => by
    have hv : wt 1000000 1000 N A R B j * (1000 * A + Nat.rec (motive := fun _ => Nat) 0 (fun _ _ => B) (N - R - j)) / (1000 * (j + 1)) = wt 1000000 1000 N A R B (j + 1) := by
      rw [rec_r]
      conv => rhs; unfold wt cm
      by_cases h : R < N - j
      · rw [if_pos h, if_pos (by omega)]
      · rw [if_neg h, if_neg (by omega)]
    unfold wS
    rw [hv, rec_at (fun x => wS A B n (j + 1 + 1) x (sW (wt 1000000 1000 N A R B) (j + 1) + x) (N - R - j - 1)), show N - R - j - 1 = N - R - (j + 1) by omega]
    have ih := wS_eq N A R B n (j + 1)
    rw [show j + (n + 1) = j + 1 + n by omega]
    exact ih
def pV (N A R b : Nat) : Nat := (fun q : Nat × Nat => 1000 * q.1 / q.2) (wS A b N 1 1000000 1000000 (N - R))
theorem pV_eq (N A R b : Nat) : pV N A R b = pPn N A R b := by
  have h := wS_eq N A R b N 0
  unfold pV pPn
  rw [show sW (wt 1000000 1000 N A R b) (0 + 1) = 1000000 from Nat.zero_add 1000000, show N - R - 0 = N - R by omega, Nat.zero_add, Nat.zero_add] at h
  rw [show wS A b N 1 1000000 1000000 (N - R) = _ from h]
/-- n values from b on: P is p there at first, gp steps behind its last rise -/
def ckP (N A R : Nat) : Nat → Nat → Nat → Nat → Bool
  | 0, _, _, _ => true
  | n + 1, b, p, gp => Nat.rec (motive := fun _ => Bool) (Nat.beq p 0 && ckP N A R n (b + 1) 0 (gp + 1)) (fun q' _ => cond (Nat.beq (q' + 1) p) (ckP N A R n (b + 1) (q' + 1) (gp + 1)) (Nat.beq q' p && (Nat.ble (2 * A + 2) gp && ckP N A R n (b + 1) (q' + 1) 1))) (pV N A R b)
set_option maxRecDepth 1000000 in
theorem ck_1_1_0 : ckP 1 1 0 18001 0 (pV 1 1 0 0) 14 = true := by decide +kernel
