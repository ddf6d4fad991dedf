/-! numbers by their digits: dg B i X is the i-th digit of X to the base B -/
def dg (B i X : Nat) : Nat := X / B ^ i % B
theorem dg_lt {B : Nat} (hB : 0 < B) (i X : Nat) : dg B i X < B := Nat.mod_lt _ hB
theorem dg_0 (B i : Nat) : dg B i 0 = 0 := by unfold dg; rw [Nat.zero_div, Nat.zero_mod]
theorem dg_big {B i X : Nat} (h : X < B ^ i) : dg B i X = 0 := by unfold dg; rw [Nat.div_eq_of_lt h, Nat.zero_mod]
theorem dg_pw {B i n X : Nat} (hB : 0 < B) (hX : X < B ^ n) (h : n ≤ i) : dg B i X = 0 := dg_big (Nat.lt_of_lt_of_le hX (Nat.pow_le_pow_right hB h))
theorem dg_mod (B i X : Nat) : X % B ^ (i + 1) = X % B ^ i + B ^ i * dg B i X := Nat.mod_pow_succ
theorem dg_split {B : Nat} (i Z T : Nat) (hB : 0 < B) : dg B i (Z + B ^ (i + 1) * T) = Z / B ^ i % B := by
  unfold dg
  rw [Nat.pow_succ, Nat.mul_assoc, Nat.add_mul_div_left _ _ (Nat.pow_pos hB), Nat.add_mul_mod_self_left]
/-- one step of 'P plus f times Y, moved by sh places' : what stands below the place i+1 -/
def dgZ (B P f Y sh i : Nat) : Nat := P % B ^ (sh + i) + f * (B ^ sh * (Y % B ^ i))
theorem dgZ_0 (B P f Y sh : Nat) (hB : 0 < B) : dgZ B P f Y sh 0 / B ^ (sh + 0) = 0 := by
  unfold dgZ
  rw [Nat.pow_zero, Nat.mod_one, Nat.mul_zero, Nat.mul_zero, Nat.add_zero, Nat.add_zero]
  exact Nat.div_eq_of_lt (Nat.mod_lt _ (Nat.pow_pos hB))
theorem dgZ_succ (B P f Y sh i : Nat) : dgZ B P f Y sh (i + 1) = dgZ B P f Y sh i + B ^ (sh + i) * (dg B (sh + i) P + f * dg B i Y) := by
  unfold dgZ
  rw [show sh + (i + 1) = (sh + i) + 1 from rfl, dg_mod B (sh + i) P, dg_mod B i Y]
  have h1 : f * (B ^ sh * (Y % B ^ i + B ^ i * dg B i Y)) = f * (B ^ sh * (Y % B ^ i)) + B ^ (sh + i) * (f * dg B i Y) := by
    rw [Nat.mul_add, Nat.mul_add, Nat.pow_add]
    congr 1
    rw [← Nat.mul_assoc (B ^ sh), Nat.mul_left_comm]
  rw [h1, Nat.mul_add]
  omega
theorem dgZ_sum {B : Nat} (hB : 0 < B) (P f Y sh i : Nat) : dg B i Y * f + dg B (sh + i) P + dgZ B P f Y sh i / B ^ (sh + i) = dgZ B P f Y sh (i + 1) / B ^ (sh + i) := by
  rw [dgZ_succ, Nat.add_mul_div_left _ _ (Nat.pow_pos hB), Nat.mul_comm (dg B i Y) f]
  omega
theorem dgZ_carry {B : Nat} (P f Y sh i : Nat) : dgZ B P f Y sh (i + 1) / B ^ (sh + i) / B = dgZ B P f Y sh (i + 1) / B ^ (sh + (i + 1)) := by
  rw [Nat.div_div_eq_div_mul, ← Nat.pow_succ]
  rfl
theorem dgZ_all (B P f Y sh i : Nat) : P + f * (B ^ sh * Y) = dgZ B P f Y sh i + B ^ (sh + i) * (P / B ^ (sh + i) + f * (Y / B ^ i)) := by
  unfold dgZ
  have h1 : f * (B ^ sh * Y) = f * (B ^ sh * (Y % B ^ i)) + B ^ (sh + i) * (f * (Y / B ^ i)) := by
    have h2 : f * (B ^ sh * Y) = f * (B ^ sh * (Y % B ^ i + B ^ i * (Y / B ^ i))) := by rw [Nat.mod_add_div]
    rw [h2, Nat.mul_add, Nat.mul_add, Nat.pow_add]
    congr 1
    rw [← Nat.mul_assoc (B ^ sh), Nat.mul_left_comm]
  have h3 := Nat.mod_add_div P (B ^ (sh + i))
  rw [h1, Nat.mul_add]
  omega
theorem dgZ_dg {B : Nat} (hB : 0 < B) (P f Y sh i : Nat) : dgZ B P f Y sh (i + 1) / B ^ (sh + i) % B = dg B (sh + i) (P + f * (B ^ sh * Y)) := by
  rw [dgZ_all B P f Y sh (i + 1)]
  exact (dg_split (sh + i) _ _ hB).symm
/-- the carry stays at most the factor -/
theorem dgZ_le {B : Nat} (hB : 0 < B) (P f Y sh i : Nat) : dgZ B P f Y sh i / B ^ (sh + i) ≤ f := by
  have h0 : 0 < B ^ (sh + i) := Nat.pow_pos hB
  have h1 : P % B ^ (sh + i) < B ^ (sh + i) := Nat.mod_lt _ h0
  have h2 : B ^ sh * (Y % B ^ i) ≤ B ^ (sh + i) := by
    rw [Nat.pow_add]
    exact Nat.mul_le_mul_left _ (Nat.le_of_lt (Nat.mod_lt _ (Nat.pow_pos hB)))
  have h3 : f * (B ^ sh * (Y % B ^ i)) ≤ f * B ^ (sh + i) := Nat.mul_le_mul_left _ h2
  have h4 : dgZ B P f Y sh i < (f + 1) * B ^ (sh + i) := by
    unfold dgZ
    rw [Nat.succ_mul]
    omega
  exact Nat.le_of_lt_succ ((Nat.div_lt_iff_lt_mul h0).mpr h4)
/-- digits below a place are kept -/
theorem dgZ_low {B : Nat} (hB : 0 < B) (P f Y sh j : Nat) (h : j < sh) : dg B j (P + f * (B ^ sh * Y)) = dg B j P := by
  have h1 : P + f * (B ^ sh * Y) = P + B ^ (j + 1) * (f * (B ^ (sh - (j + 1)) * Y)) := by
    congr 1
    rw [show B ^ sh = B ^ (j + 1) * B ^ (sh - (j + 1)) by rw [← Nat.pow_add]; congr 1; omega]
    rw [Nat.mul_assoc, Nat.mul_left_comm]
  rw [h1, dg_split _ _ _ hB]
  rfl
/-- a product by its factors' digits: one more digit of X -/
theorem dg_prod (B X Y i : Nat) : X % B ^ (i + 1) * Y = X % B ^ i * Y + dg B i X * (B ^ i * Y) := by
  rw [dg_mod, Nat.add_mul]
  congr 1
  rw [Nat.mul_comm (B ^ i), Nat.mul_assoc]
/-- two digits are one of the squared base -/
theorem dg_two (B i X : Nat) : dg (B * B) i X = dg B (2 * i) X + B * dg B (2 * i + 1) X := by
  unfold dg
  rw [show (B * B) ^ i = B ^ (2 * i) by rw [← Nat.pow_two, ← Nat.pow_mul], Nat.mod_mul, Nat.pow_succ, Nat.div_div_eq_div_mul]
theorem dg_div (B i X : Nat) : X / B ^ i = B * (X / B ^ (i + 1)) + dg B i X := by
  unfold dg
  rw [Nat.pow_succ, ← Nat.div_div_eq_div_mul]
  exact (Nat.div_add_mod _ _).symm
theorem dg_eq {B i X Y : Nat} (h : X / B ^ (i + 1) = Y / B ^ (i + 1)) (hd : dg B i X = dg B i Y) : X / B ^ i = Y / B ^ i := by
  rw [dg_div B i X, dg_div B i Y, h, hd]
theorem dg_less {B i X Y : Nat} (h : X / B ^ (i + 1) = Y / B ^ (i + 1)) (hd : dg B i X < dg B i Y) : X < Y := by
  have h1 : X / B ^ i < Y / B ^ i := by
    rw [dg_div B i X, dg_div B i Y, h]
    omega
  rcases Nat.lt_or_ge X Y with h2 | h2
  · exact h2
  · exact absurd (Nat.div_le_div_right (c := B ^ i) h2) (by omega)
theorem dg_top {B n X Y : Nat} (hX : X < B ^ n) (hY : Y < B ^ n) : X / B ^ n = Y / B ^ n := by rw [Nat.div_eq_of_lt hX, Nat.div_eq_of_lt hY]
/-- times a factor: the case without a move, of nothing -/
def dgM (B f X i : Nat) : Nat := f * (X % B ^ i)
theorem dgM_Z (B f X i : Nat) : dgM B f X i = dgZ B 0 f X 0 i := by
  unfold dgM dgZ
  rw [Nat.zero_mod, Nat.zero_add, Nat.pow_zero, Nat.one_mul]
theorem dgM_0 (B f X : Nat) : dgM B f X 0 / B ^ 0 = 0 := by
  unfold dgM
  rw [Nat.pow_zero, Nat.mod_one, Nat.mul_zero]
theorem dgM_sum {B : Nat} (hB : 0 < B) (f X i : Nat) : dg B i X * f + dgM B f X i / B ^ i = dgM B f X (i + 1) / B ^ i := by
  have h := dgZ_sum hB 0 f X 0 i
  rw [← dgM_Z, ← dgM_Z, dg_0, Nat.zero_add, Nat.add_zero] at h
  exact h
theorem dgM_carry (B f X i : Nat) : dgM B f X (i + 1) / B ^ i / B = dgM B f X (i + 1) / B ^ (i + 1) := by
  rw [Nat.div_div_eq_div_mul, ← Nat.pow_succ]
theorem dgM_dg {B : Nat} (hB : 0 < B) (f X i : Nat) : dgM B f X (i + 1) / B ^ i % B = dg B i (f * X) := by
  have h := dgZ_dg hB 0 f X 0 i
  rw [← dgM_Z, Nat.zero_add, Nat.zero_add, Nat.pow_zero, Nat.one_mul] at h
  exact h
theorem dgM_le {B : Nat} (hB : 0 < B) (f X i : Nat) : dgM B f X i / B ^ i ≤ f := by
  have h := dgZ_le hB 0 f X 0 i
  rw [← dgM_Z, Nat.zero_add] at h
  exact h
/-- Euclid's steps that are enough -/
def sgFu : Nat → Nat → Nat → Prop
  | 0, _, r => r = 0
  | n + 1, d, r => r = 0 ∨ sgFu n r (d % r)
theorem sgFu_0 : ∀ (n d : Nat), sgFu n d 0
  | 0, _ => rfl
  | _ + 1, _ => Or.inl rfl
theorem sgFu_pw : ∀ (k d r : Nat), r < 2 ^ k → r ≤ d → sgFu (2 * k) d r
  | 0, d, r, h, _ => by
    have h0 : r = 0 := by simp at h; exact h
    exact h0
  | k + 1, d, r, h, hd => by
    show r = 0 ∨ sgFu (2 * k + 1) r (d % r)
    by_cases h0 : r = 0
    · exact Or.inl h0
    · right
      have h1 : d % r < r := Nat.mod_lt _ (by omega)
      show d % r = 0 ∨ sgFu (2 * k) (d % r) (r % (d % r))
      by_cases h2 : d % r = 0
      · exact Or.inl h2
      · right
        have h3 : r % (d % r) < d % r := Nat.mod_lt _ (by omega)
        have h4 : d % r + r % (d % r) ≤ r := by
          have h5 := Nat.mod_add_div r (d % r)
          have h6 : 1 ≤ r / (d % r) := (Nat.le_div_iff_mul_le (by omega)).mpr (by omega)
          have h7 : d % r * 1 ≤ d % r * (r / (d % r)) := Nat.mul_le_mul_left _ h6
          omega
        refine sgFu_pw k _ _ ?_ (Nat.le_of_lt h3)
        rw [Nat.pow_succ] at h
        omega
theorem sgFu_mono : ∀ (n k d r : Nat), sgFu n d r → sgFu (n + k) d r
  | 0, k, d, r, h => by
    have h0 : r = 0 := h
    subst h0
    exact sgFu_0 _ _
  | n + 1, k, d, r, h => by
    rw [show n + 1 + k = (n + k) + 1 by omega]
    rcases h with h | h
    · exact Or.inl h
    · exact Or.inr (sgFu_mono n k _ _ h)
theorem sgFu_1000 (d r : Nat) (h : r < 2 ^ 31) : sgFu 1000 d r := by
  show r = 0 ∨ sgFu 999 r (d % r)
  by_cases h0 : r = 0
  · exact Or.inl h0
  · right
    have h1 : d % r < r := Nat.mod_lt _ (by omega)
    exact sgFu_mono 62 937 _ _ (sgFu_pw 31 _ _ (Nat.lt_trans h1 h) (Nat.le_of_lt h1))
