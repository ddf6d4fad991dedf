/-! the document's state and counts, as numbers -/
/-- the symbol of sentence s at place j - 2: begin (6), its words, end (5) -/
def sgSy (ln : Nat → Nat) (wd : Nat → Nat → Nat) (s j : Nat) : Nat := if j < 2 then 6 else if j - 2 < ln s then wd s (j - 2) else 5
/-- the event (x, y, z) is of the row (a, b, c) of k symbols -/
def sgM (k a b c x y z : Nat) : Bool := decide (z = c) && ((decide (k < 2) || decide (y = b)) && (decide (k < 3) || decide (x = a)))
def sgR1 (ln : Nat → Nat) (wd : Nat → Nat → Nat) (k a b c s : Nat) : Nat → Nat
  | 0 => 0
  | n + 1 => sgR1 ln wd k a b c s n + (if sgM k a b c (sgSy ln wd s n) (sgSy ln wd s (n + 1)) (sgSy ln wd s (n + 2)) = true then 1 else 0)
def sgRaw (ln : Nat → Nat) (wd : Nat → Nat → Nat) (k a b c : Nat) : Nat → Nat
  | 0 => 0
  | n + 1 => sgRaw ln wd k a b c n + sgR1 ln wd k a b c n (ln n + 1)
/-- how many different symbols stand before -/
def sgBef (rw : Nat → Nat → Nat → Nat → Nat) (k b c : Nat) : Nat → Nat
  | 0 => 0
  | n + 1 => sgBef rw k b c n + (if 0 < (if k = 1 then rw 2 0 n c else rw 3 n b c) then 1 else 0)
def sgC (rw : Nat → Nat → Nat → Nat → Nat) (ord k a b c : Nat) : Nat := if ord < k then 0 else if k = ord then rw k a b c else sgBef rw k b c 7
def sgTot (rw : Nat → Nat → Nat → Nat → Nat) (ord k a b : Nat) : Nat → Nat
  | 0 => 0
  | n + 1 => sgTot rw ord k a b n + sgC rw ord k a b n
def sgKin (rw : Nat → Nat → Nat → Nat → Nat) (ord k a b : Nat) : Nat → Nat
  | 0 => 0
  | n + 1 => sgKin rw ord k a b n + (if 0 < sgC rw ord k a b n then 1 else 0)
/-- the count of the g-th row of k symbols -/
def sgCg (rw : Nat → Nat → Nat → Nat → Nat) (ord k g : Nat) : Nat := sgC rw ord k (g / 49) (g / 7 % 7) (g % 7)
def sgG (rw : Nat → Nat → Nat → Nat → Nat) (ord k : Nat) : Nat → Nat
  | 0 => 0
  | n + 1 => sgG rw ord k n + (if 0 < sgCg rw ord k n then 1 else 0)
/-- the i-th row with a count, among f rows from g on, n such before -/
def sgFd (rw : Nat → Nat → Nat → Nat → Nat) (ord k : Nat) (i : Int32) : Nat → Nat → Nat → Int32
  | 0, _, _ => -1
  | f + 1, g, n => if 0 < sgCg rw ord k g then (if nI n = i then nI g else sgFd rw ord k i f (g + 1) (n + 1)) else sgFd rw ord k i f (g + 1) n
def sgAll (k : Nat) : Nat := if k = 1 then 7 else if k = 2 then 49 else 343
def sgCx (k a b : Nat) : Nat := if k = 1 then 0 else if k = 2 then b else a * 7 + b
/-- rows of one and of two symbols don't look at what stands farther off -/
def sgFlat (rw : Nat → Nat → Nat → Nat → Nat) : Prop := (∀ a b c, rw 1 a b c = rw 1 0 0 c) ∧ ∀ a b c, rw 2 a b c = rw 2 0 b c
theorem sgM_1 (a b c x y z : Nat) : sgM 1 a b c x y z = sgM 1 0 0 c x y z := rfl
theorem sgM_2 (a b c x y z : Nat) : sgM 2 a b c x y z = sgM 2 0 b c x y z := rfl
theorem sgR1_1 (ln : Nat → Nat) (wd : Nat → Nat → Nat) (a b c s : Nat) : ∀ n, sgR1 ln wd 1 a b c s n = sgR1 ln wd 1 0 0 c s n
  | 0 => rfl
  | n + 1 => by unfold sgR1; rw [sgR1_1 ln wd a b c s n, sgM_1 a b c]
theorem sgR1_2 (ln : Nat → Nat) (wd : Nat → Nat → Nat) (a b c s : Nat) : ∀ n, sgR1 ln wd 2 a b c s n = sgR1 ln wd 2 0 b c s n
  | 0 => rfl
  | n + 1 => by unfold sgR1; rw [sgR1_2 ln wd a b c s n, sgM_2 a b c]
theorem sgRaw_flat (ln : Nat → Nat) (wd : Nat → Nat → Nat) (n : Nat) : sgFlat (fun k a b c => sgRaw ln wd k a b c n) := by
  refine ⟨fun a b c => ?_, fun a b c => ?_⟩
  · show sgRaw ln wd 1 a b c n = sgRaw ln wd 1 0 0 c n
    induction n with
    | zero => rfl
    | succ n ih => unfold sgRaw; rw [ih, sgR1_1 ln wd a b c]
  · show sgRaw ln wd 2 a b c n = sgRaw ln wd 2 0 b c n
    induction n with
    | zero => rfl
    | succ n ih => unfold sgRaw; rw [ih, sgR1_2 ln wd a b c]
theorem sgSy_congr {ln ln' : Nat → Nat} {wd wd' : Nat → Nat → Nat} {s : Nat} (h1 : ln' s = ln s) (h2 : ∀ j, j < ln s → wd' s j = wd s j) (j : Nat) : sgSy ln' wd' s j = sgSy ln wd s j := by
  unfold sgSy
  rw [h1]
  split
  · rfl
  · split
    · rename_i h; exact h2 _ h
    · rfl
theorem sgR1_congr {ln ln' : Nat → Nat} {wd wd' : Nat → Nat → Nat} {s : Nat} (h1 : ln' s = ln s) (h2 : ∀ j, j < ln s → wd' s j = wd s j) (k a b c : Nat) : ∀ n, sgR1 ln' wd' k a b c s n = sgR1 ln wd k a b c s n
  | 0 => rfl
  | n + 1 => by unfold sgR1; rw [sgR1_congr h1 h2 k a b c n, sgSy_congr h1 h2, sgSy_congr h1 h2, sgSy_congr h1 h2]
theorem sgRaw_congr {ln ln' : Nat → Nat} {wd wd' : Nat → Nat → Nat} (k a b c : Nat) : ∀ n, (∀ s, s < n → ln' s = ln s) → (∀ s j, s < n → j < ln s → wd' s j = wd s j) → sgRaw ln' wd' k a b c n = sgRaw ln wd k a b c n
  | 0, _, _ => rfl
  | n + 1, h1, h2 => by
    unfold sgRaw
    rw [sgRaw_congr k a b c n (fun s hs => h1 s (by omega)) (fun s j hs hj => h2 s j (by omega) hj), h1 n (by omega), sgR1_congr (h1 n (by omega)) (fun j hj => h2 n j (by omega) hj)]
/-- words are 0 to 4, sentences of at most 8 -/
def sgOk (ln : Nat → Nat) (wd : Nat → Nat → Nat) (n : Nat) : Prop := ∀ s, s < n → ln s ≤ 8 ∧ ∀ j, j < ln s → wd s j < 5
theorem sgSy_lt {ln : Nat → Nat} {wd : Nat → Nat → Nat} {s : Nat} (h : ∀ j, j < ln s → wd s j < 5) (j : Nat) : sgSy ln wd s j < 7 := by
  unfold sgSy
  split
  · omega
  · split
    · rename_i hj; have := h _ hj; omega
    · omega
theorem sgSy_lt6 {ln : Nat → Nat} {wd : Nat → Nat → Nat} {s : Nat} (h : ∀ j, j < ln s → wd s j < 5) (j : Nat) : sgSy ln wd s (j + 2) < 6 := by
  unfold sgSy
  rw [if_neg (by omega)]
  split
  · rename_i hj; have := h _ hj; omega
  · omega
/-- each event is of at most one row -/
def sgSum (f : Nat → Nat) : Nat → Nat
  | 0 => 0
  | n + 1 => sgSum f n + f n
theorem sgSum_le1 (k a b x y z : Nat) : ∀ n, sgSum (fun c => if sgM k a b c x y z = true then 1 else 0) n ≤ 1 ∧ (n ≤ z → sgSum (fun c => if sgM k a b c x y z = true then 1 else 0) n = 0)
  | 0 => ⟨Nat.zero_le _, fun _ => rfl⟩
  | n + 1 => by
    obtain ⟨h1, h2⟩ := sgSum_le1 k a b x y z n
    unfold sgSum
    by_cases hz : z = n
    · have h3 := h2 (by omega)
      rw [h3]
      refine ⟨?_, fun h => by omega⟩
      split <;> omega
    · have h4 : sgM k a b n x y z = false := by unfold sgM; simp [hz]
      simp only [h4]
      refine ⟨by simpa using h1, fun h => by have := h2 (by omega); simpa using this⟩
theorem sgSum_add (f g : Nat → Nat) : ∀ n, sgSum (fun c => f c + g c) n = sgSum f n + sgSum g n
  | 0 => rfl
  | n + 1 => by unfold sgSum; rw [sgSum_add f g n]; omega
theorem sgSum_0 : ∀ n, sgSum (fun _ => 0) n = 0
  | 0 => rfl
  | n + 1 => by unfold sgSum; rw [sgSum_0 n]
theorem sgSum_R1 (ln : Nat → Nat) (wd : Nat → Nat → Nat) (k a b s n : Nat) : ∀ i, sgSum (fun c => sgR1 ln wd k a b c s i) n ≤ i
  | 0 => by show sgSum (fun _ => 0) n ≤ 0; rw [sgSum_0]; exact Nat.le_refl _
  | i + 1 => by
    have h1 := sgSum_R1 ln wd k a b s n i
    have h2 := (sgSum_le1 k a b (sgSy ln wd s i) (sgSy ln wd s (i + 1)) (sgSy ln wd s (i + 2)) n).1
    show sgSum (fun c => sgR1 ln wd k a b c s i + _) n ≤ i + 1
    rw [sgSum_add]
    omega
theorem sgSum_Raw {ln : Nat → Nat} {wd : Nat → Nat → Nat} (k a b n : Nat) : ∀ t, (∀ s, s < t → ln s ≤ 8) → sgSum (fun c => sgRaw ln wd k a b c t) n ≤ 9 * t
  | 0, _ => by show sgSum (fun _ => 0) n ≤ 0; rw [sgSum_0]; exact Nat.le_refl _
  | t + 1, h => by
    have h1 := sgSum_Raw k a b n t (fun s hs => h s (by omega)) (ln := ln) (wd := wd)
    have h2 := sgSum_R1 ln wd k a b t n (ln t + 1)
    have h3 := h t (by omega)
    show sgSum (fun c => sgRaw ln wd k a b c t + _) n ≤ _
    rw [sgSum_add]
    omega
theorem sgSum_one (f : Nat → Nat) : ∀ (n c : Nat), c < n → f c ≤ sgSum f n
  | 0, c, h => by omega
  | n + 1, c, h => by
    unfold sgSum
    by_cases hc : c = n
    · subst hc; omega
    · have := sgSum_one f n c (by omega); omega
/-- what bounds the counts need of rw -/
def sgBd (rw : Nat → Nat → Nat → Nat → Nat) : Prop := ∀ k a b n, sgSum (fun c => rw k a b c) n ≤ 72
theorem sgRaw_bd {ln : Nat → Nat} {wd : Nat → Nat → Nat} {n : Nat} (hn : n ≤ 8) (h : ∀ s, s < n → ln s ≤ 8) : sgBd (fun k a b c => sgRaw ln wd k a b c n) := fun k a b t => by
  have := sgSum_Raw (wd := wd) k a b t n h
  show sgSum (fun c => sgRaw ln wd k a b c n) t ≤ 72
  omega
theorem sgRw_le {rw : Nat → Nat → Nat → Nat → Nat} (h : sgBd rw) (k a b c : Nat) : rw k a b c ≤ 72 := Nat.le_trans (sgSum_one (fun c => rw k a b c) (c + 1) c (Nat.lt_succ_self _)) (h k a b (c + 1))
theorem ite1_le (P : Prop) [Decidable P] : (if P then 1 else 0) ≤ 1 := by split <;> omega
theorem sgBef_le (rw : Nat → Nat → Nat → Nat → Nat) (k b c : Nat) : ∀ n, sgBef rw k b c n ≤ n
  | 0 => Nat.le_refl _
  | n + 1 => by
    have h1 := sgBef_le rw k b c n
    have h2 := ite1_le (0 < (if k = 1 then rw 2 0 n c else rw 3 n b c))
    show sgBef rw k b c n + (if 0 < (if k = 1 then rw 2 0 n c else rw 3 n b c) then 1 else 0) ≤ n + 1
    exact Nat.add_le_add h1 h2
theorem sgC_le {rw : Nat → Nat → Nat → Nat → Nat} (h : sgBd rw) (ord k a b c : Nat) : sgC rw ord k a b c ≤ 72 := by
  unfold sgC
  split
  · omega
  · split
    · exact sgRw_le h k a b c
    · have := sgBef_le rw k b c 7; omega
theorem sgTot_sum (rw : Nat → Nat → Nat → Nat → Nat) (ord k a b : Nat) : ∀ n, sgTot rw ord k a b n = sgSum (fun c => sgC rw ord k a b c) n
  | 0 => rfl
  | n + 1 => by unfold sgTot sgSum; rw [sgTot_sum rw ord k a b n]
theorem sgSum_le {f : Nat → Nat} {M : Nat} (h : ∀ c, f c ≤ M) : ∀ n, sgSum f n ≤ M * n
  | 0 => Nat.zero_le _
  | n + 1 => by
    have h1 := sgSum_le h n
    have h2 := h n
    unfold sgSum
    rw [Nat.mul_succ]
    omega
theorem sgTot_le {rw : Nat → Nat → Nat → Nat → Nat} (h : sgBd rw) (ord k a b : Nat) {n : Nat} (hn : n ≤ 6) : sgTot rw ord k a b n ≤ 72 := by
  rw [sgTot_sum]
  by_cases h1 : k = ord
  · subst h1
    have e : (fun c => sgC rw k k a b c) = fun c => rw k a b c := by
      funext c
      unfold sgC
      rw [if_neg (Nat.lt_irrefl _), if_pos rfl]
    rw [e]
    exact h k a b n
  · have h2 : ∀ c, sgC rw ord k a b c ≤ 7 := by
      intro c
      unfold sgC
      split
      · omega
      · first | exact sgBef_le rw k b c 7 | (rw [if_neg h1]; exact sgBef_le rw k b c 7)
    have h3 : sgSum (fun c => sgC rw ord k a b c) n ≤ 7 * n := sgSum_le h2 n
    omega
theorem sgKin_le (rw : Nat → Nat → Nat → Nat → Nat) (ord k a b : Nat) : ∀ n, sgKin rw ord k a b n ≤ n
  | 0 => Nat.le_refl _
  | n + 1 => by
    have := sgKin_le rw ord k a b n
    unfold sgKin
    split <;> omega
theorem sgKin_pos (rw : Nat → Nat → Nat → Nat → Nat) (ord k a b : Nat) : ∀ n, 0 < sgTot rw ord k a b n → 0 < sgKin rw ord k a b n
  | 0, h => h
  | n + 1, h => by
    unfold sgTot at h
    unfold sgKin
    by_cases h1 : 0 < sgC rw ord k a b n
    · rw [if_pos h1]; omega
    · have := sgKin_pos rw ord k a b n (by omega); omega
theorem sgG_le (rw : Nat → Nat → Nat → Nat → Nat) (ord k : Nat) : ∀ n, sgG rw ord k n ≤ n
  | 0 => Nat.le_refl _
  | n + 1 => by
    have := sgG_le rw ord k n
    unfold sgG
    split <;> omega
/-- the row of a context and a word -/
theorem sgCg_cx {rw : Nat → Nat → Nat → Nat → Nat} (hf : sgFlat rw) (ord : Nat) {k a b c : Nat} (hk : 1 ≤ k) (hk3 : k ≤ 3) (ho : ord ≤ 3) (ha : a < 7) (hb : b < 7) (hc : c < 7) : sgCg rw ord k (sgCx k a b * 7 + c) = sgC rw ord k a b c := by
  have h3 : k = 1 ∨ k = 2 ∨ k = 3 := by omega
  rcases h3 with rfl | rfl | rfl
  · have e0 : sgCx 1 a b * 7 + c = c := by unfold sgCx; simp
    unfold sgCg
    rw [e0, show c / 49 = 0 by omega, show c / 7 % 7 = 0 by omega, show c % 7 = c by omega]
    unfold sgC
    split
    · rfl
    · split
      · exact (hf.1 a b c).symm
      · have : ∀ n, sgBef rw 1 0 c n = sgBef rw 1 b c n := by
          intro n
          induction n with
          | zero => rfl
          | succ n ih => unfold sgBef; rw [ih]; simp
        exact this 7
  · have e0 : sgCx 2 a b * 7 + c = b * 7 + c := by unfold sgCx; simp
    unfold sgCg
    rw [e0, show (b * 7 + c) / 49 = 0 by omega, show (b * 7 + c) / 7 % 7 = b by omega, show (b * 7 + c) % 7 = c by omega]
    unfold sgC
    split
    · rfl
    · split
      · exact (hf.2 a b c).symm
      · rfl
  · have e0 : sgCx 3 a b * 7 + c = a * 49 + b * 7 + c := by unfold sgCx; simp; omega
    unfold sgCg
    rw [e0, show (a * 49 + b * 7 + c) / 49 = a by omega, show (a * 49 + b * 7 + c) / 7 % 7 = b by omega, show (a * 49 + b * 7 + c) % 7 = c by omega]
theorem sgCx_lt {k a b c : Nat} (hk : 1 ≤ k) (hk3 : k ≤ 3) (ha : a < 7) (hb : b < 7) (hc : c < 7) : sgCx k a b * 7 + c < sgAll k := by
  have h3 : k = 1 ∨ k = 2 ∨ k = 3 := by omega
  rcases h3 with rfl | rfl | rfl <;> simp [sgCx, sgAll] <;> omega
/-- the chance, level by level: T totals, K kinds, N counts, e eighths -/
def sgOU (T K N e : Nat → Nat) : Nat → Nat × Nat
  | 0 => (1, 6)
  | k + 1 => if T (k + 1) = 0 then sgOU T K N e k else ((8 * N (k + 1) - e (k + 1)) * (sgOU T K N e k).2 + e (k + 1) * K (k + 1) * (sgOU T K N e k).1, 8 * T (k + 1) * (sgOU T K N e k).2)
def sgLv (T K N e : Nat → Nat) : Prop := ∀ k, T k ≤ 72 ∧ K k ≤ 6 ∧ N k ≤ 72 ∧ (0 < T k → 0 < K k) ∧ ((1 ≤ k ∧ k ≤ 3) → 1 ≤ e k ∧ e k ≤ 8)
theorem sgOU_pos {T K N e : Nat → Nat} (h : sgLv T K N e) : ∀ k, k ≤ 3 → 1 ≤ (sgOU T K N e k).1 ∧ 1 ≤ (sgOU T K N e k).2
  | 0, _ => ⟨Nat.le_refl _, by show 1 ≤ 6; omega⟩
  | k + 1, hk => by
    obtain ⟨h1, h2⟩ := sgOU_pos h k (by omega)
    unfold sgOU
    split
    · exact ⟨h1, h2⟩
    · rename_i hT
      obtain ⟨-, -, -, hK, he⟩ := h (k + 1)
      have hK := hK (by omega)
      have he := he ⟨by omega, hk⟩
      refine ⟨?_, ?_⟩
      · show 1 ≤ _ + _
        have : 0 < e (k + 1) * K (k + 1) * (sgOU T K N e k).1 := Nat.mul_pos (Nat.mul_pos (by omega) hK) (by omega)
        omega
      · show 0 < 8 * T (k + 1) * (sgOU T K N e k).2
        exact Nat.mul_pos (Nat.mul_pos (by omega) (by omega)) (by omega)
theorem sgOU_step {T K N e : Nat → Nat} (h : sgLv T K N e) {k u o : Nat} (hk : k + 1 ≤ 3) (h2 : (sgOU T K N e k).2 ≤ u) (h1 : (sgOU T K N e k).1 ≤ o) : (sgOU T K N e (k + 1)).2 ≤ 576 * u ∧ (sgOU T K N e (k + 1)).1 ≤ 576 * u + 48 * o := by
  obtain ⟨hT, hK, hN, -, he⟩ := h (k + 1)
  have he := he ⟨by omega, hk⟩
  unfold sgOU
  split
  · exact ⟨by omega, by omega⟩
  · refine ⟨?_, ?_⟩
    · show 8 * T (k + 1) * (sgOU T K N e k).2 ≤ 576 * u
      exact Nat.mul_le_mul (by omega) h2
    · show (8 * N (k + 1) - e (k + 1)) * (sgOU T K N e k).2 + e (k + 1) * K (k + 1) * (sgOU T K N e k).1 ≤ 576 * u + 48 * o
      have a1 : (8 * N (k + 1) - e (k + 1)) * (sgOU T K N e k).2 ≤ 576 * u := Nat.mul_le_mul (by omega) h2
      have a2 : e (k + 1) * K (k + 1) ≤ 8 * 6 := Nat.mul_le_mul he.2 hK
      have a3 : e (k + 1) * K (k + 1) * (sgOU T K N e k).1 ≤ 48 * o := Nat.mul_le_mul a2 h1
      omega
theorem sgOU_lt {T K N e : Nat → Nat} (h : sgLv T K N e) (k : Nat) (hk : k ≤ 3) : (sgOU T K N e k).1 < 2 ^ 31 ∧ (sgOU T K N e k).2 < 2 ^ 31 := by
  have b0 : (sgOU T K N e 0).2 ≤ 6 ∧ (sgOU T K N e 0).1 ≤ 1 := ⟨Nat.le_refl _, Nat.le_refl _⟩
  have h3 : k = 0 ∨ k = 1 ∨ k = 2 ∨ k = 3 := by omega
  rcases h3 with rfl | rfl | rfl | rfl
  · omega
  · have b1 := sgOU_step h (k := 0) (by omega) b0.1 b0.2
    simp only [Nat.zero_add] at b1
    omega
  · have b1 := sgOU_step h (k := 0) (by omega) b0.1 b0.2
    have b2 := sgOU_step h (k := 1) (by omega) b1.1 b1.2
    simp only [Nat.zero_add, Nat.reduceAdd] at b2
    omega
  · have b1 := sgOU_step h (k := 0) (by omega) b0.1 b0.2
    have b2 := sgOU_step h (k := 1) (by omega) b1.1 b1.2
    have b3 := sgOU_step h (k := 2) (by omega) b2.1 b2.2
    simp only [Nat.zero_add, Nat.reduceAdd] at b3
    omega
theorem sgLv_of {rw : Nat → Nat → Nat → Nat → Nat} (h : sgBd rw) (ord a b w : Nat) {e : Nat → Nat} (he : ∀ k, 1 ≤ k → k ≤ 3 → 1 ≤ e k ∧ e k ≤ 8) : sgLv (fun k => sgTot rw ord k a b 6) (fun k => sgKin rw ord k a b 6) (fun k => sgC rw ord k a b w) e := fun k =>
  ⟨sgTot_le h ord k a b (Nat.le_refl _), sgKin_le rw ord k a b 6, sgC_le h ord k a b w, sgKin_pos rw ord k a b 6, fun hk => he k hk.1 hk.2⟩
/-- the chance of w behind a, b, not reduced; then reduced -/
def sgOUw (rw : Nat → Nat → Nat → Nat → Nat) (ord : Nat) (e : Nat → Nat) (a b w k : Nat) : Nat × Nat := sgOU (fun k => sgTot rw ord k a b 6) (fun k => sgKin rw ord k a b 6) (fun k => sgC rw ord k a b w) e k
def sgO (rw : Nat → Nat → Nat → Nat → Nat) (ord : Nat) (e : Nat → Nat) (a b w : Nat) : Nat := (sgOUw rw ord e a b w ord).1 / Nat.gcd (sgOUw rw ord e a b w ord).1 (sgOUw rw ord e a b w ord).2
def sgU (rw : Nat → Nat → Nat → Nat → Nat) (ord : Nat) (e : Nat → Nat) (a b w : Nat) : Nat := (sgOUw rw ord e a b w ord).2 / Nat.gcd (sgOUw rw ord e a b w ord).1 (sgOUw rw ord e a b w ord).2
def sgE (e : Nat → Nat) : Prop := ∀ k, 1 ≤ k → k ≤ 3 → 1 ≤ e k ∧ e k ≤ 8
theorem sgO_bd {rw : Nat → Nat → Nat → Nat → Nat} (h : sgBd rw) {ord : Nat} (ho : ord ≤ 3) {e : Nat → Nat} (he : sgE e) (a b w : Nat) : 1 ≤ sgO rw ord e a b w ∧ sgO rw ord e a b w < 2 ^ 31 ∧ 1 ≤ sgU rw ord e a b w ∧ sgU rw ord e a b w < 2 ^ 31 := by
  have hl := sgLv_of h ord a b w he
  obtain ⟨p1, p2⟩ := sgOU_pos hl ord ho
  obtain ⟨l1, l2⟩ := sgOU_lt hl ord ho
  unfold sgO sgU sgOUw
  generalize (sgOU (fun k => sgTot rw ord k a b 6) (fun k => sgKin rw ord k a b 6) (fun k => sgC rw ord k a b w) e ord).1 = o at p1 l1 ⊢
  generalize (sgOU (fun k => sgTot rw ord k a b 6) (fun k => sgKin rw ord k a b 6) (fun k => sgC rw ord k a b w) e ord).2 = u at p2 l2 ⊢
  have hg : 0 < Nat.gcd o u := Nat.gcd_pos_of_pos_left _ (by omega)
  refine ⟨?_, ?_, ?_, ?_⟩
  · exact Nat.div_pos (Nat.le_of_dvd (by omega) (Nat.gcd_dvd_left o u)) hg
  · exact Nat.lt_of_le_of_lt (Nat.div_le_self _ _) l1
  · exact Nat.div_pos (Nat.le_of_dvd (by omega) (Nat.gcd_dvd_right o u)) hg
  · exact Nat.lt_of_le_of_lt (Nat.div_le_self _ _) l2
/-- the likeliest, from w on, f words to go -/
def sgLk (o u : Nat → Nat) : Nat → Nat → Nat → Nat → Nat → Nat
  | 0, _, best, _, _ => best
  | f + 1, w, best, bo, bu => if bo * u w < o w * bu then sgLk o u f (w + 1) w (o w) (u w) else sgLk o u f (w + 1) best bo bu
theorem sgLk_start {o u : Nat → Nat} (h : 1 ≤ o 0) (f : Nat) : sgLk o u (f + 1) 0 0 0 1 = sgLk o u f 1 0 (o 0) (u 0) := by
  show (if 0 * u 0 < o 0 * 1 then _ else _) = _
  rw [if_pos (by rw [Nat.zero_mul, Nat.mul_one]; omega)]
/-- products along a sentence -/
def sgPr (o : Nat → Nat → Nat → Nat) (sy : Nat → Nat) : Nat → Nat
  | 0 => 1
  | n + 1 => o (sy n) (sy (n + 1)) (sy (n + 2)) * sgPr o sy n
theorem sgPr_lt {o : Nat → Nat → Nat → Nat} {sy : Nat → Nat} (h : ∀ a b w, o a b w < 2 ^ 31) : ∀ n, sgPr o sy n ≤ (2 ^ 31) ^ n
  | 0 => Nat.le_refl _
  | n + 1 => by
    have h1 := sgPr_lt h n (sy := sy)
    have h2 := Nat.le_of_lt (h (sy n) (sy (n + 1)) (sy (n + 2)))
    show _ * _ ≤ _
    rw [Nat.pow_succ, Nat.mul_comm ((2 ^ 31) ^ n)]
    exact Nat.mul_le_mul h2 h1
theorem sgPr_9 {o : Nat → Nat → Nat → Nat} {sy : Nat → Nat} (h : ∀ a b w, o a b w < 2 ^ 31) {n : Nat} (hn : n ≤ 9) : sgPr o sy n < 4294967296 ^ 9 := by
  have h1 := sgPr_lt h n (sy := sy)
  have h2 : (2 ^ 31) ^ n ≤ (2 ^ 31) ^ 9 := Nat.pow_le_pow_right (by omega) hn
  have h3 : (2 ^ 31) ^ 9 < 4294967296 ^ 9 := by decide +kernel
  omega
/-! events one by one, as the reference keeps them; counts set forth, as the class keeps them -/
def evS (fw fb ff : Nat → Nat) (k a b c : Nat) : Nat → Nat
  | 0 => 0
  | n + 1 => evS fw fb ff k a b c n + (if sgM k a b c (ff n) (fb n) (fw n) = true then 1 else 0)
def upN (f : Nat → Nat) (i x : Nat) : Nat → Nat := fun j => if j = i then x else f j
theorem upN_s (f : Nat → Nat) (i x : Nat) : upN f i x i = x := if_pos rfl
theorem upN_n {f : Nat → Nat} {i x j : Nat} (h : j ≠ i) : upN f i x j = f j := if_neg h
theorem evS_congr {fw fb ff fw' fb' ff' : Nat → Nat} (k a b c : Nat) : ∀ n, (∀ j, j < n → fw' j = fw j ∧ fb' j = fb j ∧ ff' j = ff j) → evS fw' fb' ff' k a b c n = evS fw fb ff k a b c n
  | 0, _ => rfl
  | n + 1, h => by
    obtain ⟨h1, h2, h3⟩ := h n (Nat.lt_succ_self _)
    unfold evS
    rw [evS_congr k a b c n (fun j hj => h j (by omega)), h1, h2, h3]
theorem evS_put (fw fb ff : Nat → Nat) (k a b c n x y z : Nat) : evS (upN fw n z) (upN fb n y) (upN ff n x) k a b c (n + 1) = evS fw fb ff k a b c n + (if sgM k a b c x y z = true then 1 else 0) := by
  show evS (upN fw n z) (upN fb n y) (upN ff n x) k a b c n + (if sgM k a b c (upN ff n x n) (upN fb n y n) (upN fw n z n) = true then 1 else 0) = _
  rw [upN_s, upN_s, upN_s, evS_congr (fw := fw) (fb := fb) (ff := ff) k a b c n (fun j hj => ⟨upN_n (by omega), upN_n (by omega), upN_n (by omega)⟩)]
theorem evS_le (fw fb ff : Nat → Nat) (k a b c : Nat) : ∀ n, evS fw fb ff k a b c n ≤ n
  | 0 => Nat.le_refl _
  | n + 1 => by
    have := evS_le fw fb ff k a b c n
    unfold evS
    split <;> omega
theorem sgM_row1 {r x y z : Nat} (hr : r < 7) (hz : z < 7) : sgM 1 (r / 49) (r / 7 % 7) (r % 7) x y z = decide (r = z) := by
  unfold sgM
  rw [show r % 7 = r by omega]
  by_cases h : z = r
  · simp [h]
  · simp [h, show ¬ r = z from fun q => h q.symm]
theorem sgM_row2 {r x y z : Nat} (hr : r < 49) (hy : y < 7) (hz : z < 7) : sgM 2 (r / 49) (r / 7 % 7) (r % 7) x y z = decide (r = y * 7 + z) := by
  unfold sgM
  by_cases h : r = y * 7 + z
  · rw [show r % 7 = z by omega, show r / 7 % 7 = y by omega]
    simp [h]
  · have h2 : ¬ (z = r % 7 ∧ y = r / 7 % 7) := by omega
    by_cases h3 : z = r % 7
    · have h4 : ¬ y = r / 7 % 7 := fun q => h2 ⟨h3, q⟩
      simp [h, h4]
    · simp [h, h3]
theorem sgM_row3 {r x y z : Nat} (hr : r < 343) (hx : x < 7) (hy : y < 7) (hz : z < 7) : sgM 3 (r / 49) (r / 7 % 7) (r % 7) x y z = decide (r = (x * 7 + y) * 7 + z) := by
  unfold sgM
  by_cases h : r = (x * 7 + y) * 7 + z
  · rw [show r % 7 = z by omega, show r / 7 % 7 = y by omega, show r / 49 = x by omega]
    simp [h]
  · have h2 : ¬ (z = r % 7 ∧ y = r / 7 % 7 ∧ x = r / 49) := by omega
    by_cases h3 : z = r % 7
    · by_cases h4 : y = r / 7 % 7
      · have h5 : ¬ x = r / 49 := fun q => h2 ⟨h3, h4, q⟩
        simp [h, h5]
      · simp [h, h4]
    · simp [h, h3]
theorem sg_addE {f g : Nat → Int32} {dl : Int32} {n z : Nat} {c c' : Nat → Nat} (hf : ∀ r, r < n → f r = g r + dl * nI (c r)) (hm : ∀ r, r < n → c' r = c r + (if r = z then 1 else 0)) : ∀ r, r < n → upd f z (f z + dl) r = g r + dl * nI (c' r) := by
  intro r hr
  unfold upd
  by_cases h : r = z
  · subst h
    rw [if_pos rfl, hf r hr, hm r hr, if_pos rfl, nI_succ, Int32.mul_add, Int32.mul_one, Int32.add_assoc]
  · rw [if_neg h, hf r hr, hm r hr, if_neg h, Nat.add_zero]
theorem sg_plus (a b : Nat) : nI a + 1 * nI b = nI (a + b) := by rw [Int32.one_mul, nI_add]
theorem sg_minus (a b : Nat) : nI (a + b) + (-1) * nI b = nI a := by rw [← nI_add, Int32.neg_mul, Int32.one_mul, ← Int32.sub_eq_add_neg, Int32.add_sub_cancel]
/-- the class's three tables hold the counts of all rows -/
def sgHold (rw : Nat → Nat → Nat → Nat → Nat) (f1 f2 f3 : Nat → Int32) : Prop := (∀ r, r < 7 → f1 r = nI (rw 1 (r / 49) (r / 7 % 7) (r % 7))) ∧ (∀ r, r < 49 → f2 r = nI (rw 2 (r / 49) (r / 7 % 7) (r % 7))) ∧ ∀ r, r < 343 → f3 r = nI (rw 3 (r / 49) (r / 7 % 7) (r % 7))
