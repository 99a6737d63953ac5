/-! Numbers as rows of decimal digits, the lowest first. -/
def dg (N : Nat) : Nat → Int32 := fun i => iI ((N / 10 ^ i % 10 : Nat) : Int)
theorem dg_at (N i : Nat) : dg N i = iI ((N / 10 ^ i % 10 : Nat) : Int) := rfl
theorem dg_zero (i : Nat) : dg 0 i = iI 0 := by
  unfold dg
  rw [Nat.zero_div]
  rfl
theorem tq10 (N i : Nat) : N / 10 ^ (i + 1) = N / 10 ^ i / 10 := by
  rw [Nat.pow_succ, Nat.div_div_eq_div_mul]
theorem tqz (N : Nat) : N / 10 ^ 0 = N := by rw [Nat.pow_zero, Nat.div_one]
theorem p10 (i : Nat) : 0 < 10 ^ i := Nat.pow_pos (by omega)
theorem p10s (i : Nat) : 10 ^ (i + 1) = 10 * 10 ^ i := by rw [Nat.pow_succ, Nat.mul_comm]
theorem p10le {a b : Nat} (h : a ≤ b) : 10 ^ a ≤ 10 ^ b := Nat.pow_le_pow_right (by omega) h
theorem p10lt {a b : Nat} (h : a < b) : 10 ^ a < 10 ^ b := Nat.pow_lt_pow_right (by omega) h
theorem p10add (a b : Nat) : 10 ^ (a + b) = 10 ^ a * 10 ^ b := Nat.pow_add 10 a b
theorem q_lt {N i : Nat} (h : N < 10 ^ i) : N / 10 ^ i = 0 := Nat.div_eq_of_lt h
theorem q_lt' {N i j : Nat} (h : N < 10 ^ i) (hij : i ≤ j) : N / 10 ^ j = 0 := Nat.div_eq_of_lt (Nat.lt_of_lt_of_le h (p10le hij))
/-- zero digits from s on: the number is below 10^s -/
theorem lt_of_digits {N s e : Nat} (he : N < 10 ^ e) (hs : s ≤ e) (h : ∀ j, s ≤ j → j < e → N / 10 ^ j % 10 = 0) : N < 10 ^ s := by
  have key : ∀ d, d ≤ e - s → N / 10 ^ (e - d) = 0 := by
    intro d
    induction d with
    | zero => intro _; exact q_lt he
    | succ d ih =>
      intro hd
      have h1 := ih (by omega)
      have h2 : e - d = (e - (d + 1)) + 1 := by omega
      rw [h2, tq10] at h1
      have h3 := h (e - (d + 1)) (by omega) (by omega)
      omega
  have h1 := key (e - s) (Nat.le_refl _)
  have h2 : e - (e - s) = s := by omega
  rw [h2] at h1
  exact (Nat.div_eq_zero_iff_lt (p10 s)).mp h1
/-- how many digits a number has; none for zero -/
def tnd : Nat → Nat → Nat
  | 0, _ => 0
  | f + 1, N => if N = 0 then 0 else tnd f (N / 10) + 1
def tnds (N : Nat) : Nat := tnd N N
theorem tnd_lt : ∀ (f N : Nat), N ≤ f → N < 10 ^ tnd f N ∧ (0 < N → 0 < tnd f N ∧ 10 ^ (tnd f N - 1) ≤ N) := by
  intro f
  induction f with
  | zero =>
    intro N h
    have : N = 0 := by omega
    subst this
    exact ⟨by decide, fun h => absurd h (by omega)⟩
  | succ f ih =>
    intro N h
    unfold tnd
    by_cases h0 : N = 0
    · rw [if_pos h0]; subst h0; exact ⟨by decide, fun h => absurd h (by omega)⟩
    · rw [if_neg h0]
      obtain ⟨h1, h2⟩ := ih (N / 10) (by omega)
      refine ⟨by rw [p10s]; omega, fun _ => ⟨by omega, ?_⟩⟩
      rw [Nat.add_sub_cancel]
      by_cases h3 : N / 10 = 0
      · rw [h3]
        have : tnd f 0 = 0 := by cases f with
          | zero => rfl
          | succ f => unfold tnd; rw [if_pos rfl]
        rw [this, Nat.pow_zero]; omega
      · obtain ⟨h4, h5⟩ := h2 (by omega)
        have h6 : tnd f (N / 10) = (tnd f (N / 10) - 1) + 1 := by omega
        rw [h6, p10s]
        omega
theorem tnds_lt (N : Nat) : N < 10 ^ tnds N := (tnd_lt N N (Nat.le_refl _)).1
theorem tnds_pos {N : Nat} (h : 0 < N) : 0 < tnds N := ((tnd_lt N N (Nat.le_refl _)).2 h).1
theorem tnds_le {N : Nat} (h : 0 < N) : 10 ^ (tnds N - 1) ≤ N := ((tnd_lt N N (Nat.le_refl _)).2 h).2
theorem tnds_zero : tnds 0 = 0 := rfl
theorem tnds_eq {N s : Nat} (h1 : N < 10 ^ s) (h2 : s = 0 ∨ 10 ^ (s - 1) ≤ N) : tnds N = s := by
  rcases h2 with h2 | h2
  · subst h2
    have : N = 0 := by rw [Nat.pow_zero] at h1; omega
    subst this; rfl
  · have hN : 0 < N := Nat.lt_of_lt_of_le (p10 _) h2
    have a1 := tnds_lt N
    have a2 := tnds_le hN
    have a3 := tnds_pos hN
    by_cases h3 : tnds N < s
    · have := p10le (a := tnds N) (b := s - 1) (by omega)
      omega
    · by_cases h4 : s < tnds N
      · have := p10le (a := s) (b := tnds N - 1) (by omega)
        omega
      · omega
theorem tnds_mono {N e : Nat} (h : N < 10 ^ e) : tnds N ≤ e := by
  by_cases h0 : N = 0
  · subst h0; rw [tnds_zero]; omega
  · by_cases h1 : e < tnds N
    · have a2 := tnds_le (N := N) (by omega)
      have := p10le (a := e) (b := tnds N - 1) (by omega)
      omega
    · omega
theorem tnds_gt {N e : Nat} (h : 10 ^ e ≤ N) : e < tnds N := by
  by_cases h1 : e < tnds N
  · exact h1
  · have := tnds_lt N
    have := p10le (a := tnds N) (b := e) (by omega)
    omega
/-- a digit row scanned from below -/
theorem tnds_scan {N s e : Nat} (he : N < 10 ^ e) (hs : s ≤ e) (h : ∀ j, s ≤ j → j < e → N / 10 ^ j % 10 = 0) (hd : s = 0 ∨ N / 10 ^ (s - 1) % 10 ≠ 0) : tnds N = s := by
  refine tnds_eq (lt_of_digits he hs h) ?_
  rcases hd with hd | hd
  · exact Or.inl hd
  · refine Or.inr ?_
    by_cases h1 : N < 10 ^ (s - 1)
    · rw [q_lt h1] at hd; exact absurd rfl hd
    · omega
theorem mulp_hi {N k j : Nat} (h : k ≤ j) : N * 10 ^ k / 10 ^ j = N / 10 ^ (j - k) := by
  have : 10 ^ j = 10 ^ k * 10 ^ (j - k) := by rw [← p10add]; congr 1; omega
  rw [this, Nat.mul_comm N, Nat.mul_div_mul_left _ _ (p10 k)]
theorem mulp_lo {N k j : Nat} (h : j < k) : N * 10 ^ k / 10 ^ j % 10 = 0 := by
  have : 10 ^ k = 10 ^ j * (10 * 10 ^ (k - j - 1)) := by rw [← p10s, ← p10add]; congr 1; omega
  rw [this, ← Nat.mul_assoc, Nat.mul_comm N, Nat.mul_assoc, Nat.mul_div_cancel_left _ (p10 j), ← Nat.mul_assoc, Nat.mul_comm N, Nat.mul_assoc, Nat.mul_mod_right]
theorem dg_shift (N k j : Nat) : dg (N * 10 ^ k) j = if k ≤ j then dg N (j - k) else iI 0 := by
  unfold dg
  split
  · next h => rw [mulp_hi h]
  · next h => rw [mulp_lo (by omega)]; rfl
theorem r32_dg (N i : Nat) : r32 ((N / 10 ^ i % 10 : Nat) : Int) := by
  have : N / 10 ^ i % 10 < 10 := Nat.mod_lt _ (by omega)
  constructor <;> omega
theorem r32_nat {j : Nat} (h : j < 2147483648) : r32 (j : Int) := by constructor <;> omega
/-- a number of a given length is told by its digits -/
theorem dg_inj {N M e : Nat} (hN : N < 10 ^ e) (hM : M < 10 ^ e) (h : ∀ j, j < e → N / 10 ^ j % 10 = M / 10 ^ j % 10) : N = M := by
  have key : ∀ d, d ≤ e → N / 10 ^ (e - d) = M / 10 ^ (e - d) := by
    intro d
    induction d with
    | zero => intro _; rw [Nat.sub_zero, q_lt hN, q_lt hM]
    | succ d ih =>
      intro hd
      have h1 := ih (by omega)
      have h2 : e - d = (e - (d + 1)) + 1 := by omega
      rw [h2, tq10, tq10] at h1
      have h3 := h (e - (d + 1)) (by omega)
      omega
  have h1 := key e (Nat.le_refl _)
  rw [Nat.sub_self, tqz, tqz] at h1
  exact h1
def cmpN (a b : Nat) : Int := if a < b then -1 else if a = b then 0 else 1
theorem cmpN_r (a b : Nat) : r32 (cmpN a b) := by unfold cmpN; split <;> (try split) <;> constructor <;> omega
theorem cmpN_ge {a b : Nat} : 0 ≤ cmpN a b ↔ b ≤ a := by unfold cmpN; split <;> (try split) <;> omega
theorem cmpN_gt {a b : Nat} : 0 < cmpN a b ↔ b < a := by unfold cmpN; split <;> (try split) <;> omega
theorem cmpN_le {a b : Nat} : cmpN a b ≤ 0 ↔ a ≤ b := by unfold cmpN; split <;> (try split) <;> omega
theorem cmpN_eq {a b : Nat} : cmpN a b = 0 ↔ a = b := by unfold cmpN; split <;> (try split) <;> omega
theorem lt_of_q {N M : Nat} (i : Nat) (h : N / 10 ^ i < M / 10 ^ i) : N < M := by
  by_cases h1 : M ≤ N
  · have := Nat.div_le_div_right (c := 10 ^ i) h1
    omega
  · omega
/-! Steps of loops over rows. -/
theorem lo_upd {g F : Nat → Int32} {i : Nat} {z : Int} (h : ∀ j, j < i → g j = F j) (hz : iI z = F i) : ∀ j, j < i + 1 → upd g i (iI z) j = F j := by
  intro j hj
  unfold upd
  by_cases e : j = i
  · rw [if_pos e, hz, e]
  · rw [if_neg e]; exact h j (by omega)
theorem hi_upd {g F : Nat → Int32} {i : Nat} {z : Int} (h : ∀ j, i ≤ j → g j = F j) : ∀ j, i + 1 ≤ j → upd g i (iI z) j = F j := by
  intro j hj
  unfold upd
  rw [if_neg (by omega)]
  exact h j (by omega)
theorem dlo_upd {g F : Nat → Int32} {m : Nat} {z : Int} (h : ∀ j, j < m + 1 → g j = F j) : ∀ j, j < m → upd g m (iI z) j = F j := by
  intro j hj
  unfold upd
  rw [if_neg (by omega)]
  exact h j (by omega)
theorem dhi_upd {g F : Nat → Int32} {m : Nat} {z : Int} (h : ∀ j, m + 1 ≤ j → g j = F j) (hz : iI z = F m) : ∀ j, m ≤ j → upd g m (iI z) j = F j := by
  intro j hj
  unfold upd
  by_cases e : j = m
  · rw [if_pos e, hz, e]
  · rw [if_neg e]; exact h j (by omega)
theorem dhi_updN {g F : Nat → Int32} {m N : Nat} {z : Int} (h : ∀ j, m + 1 ≤ j → j < N → g j = F j) (hz : iI z = F m) : ∀ j, m ≤ j → j < N → upd g m (iI z) j = F j := by
  intro j hj hN
  unfold upd
  by_cases e : j = m
  · rw [if_pos e, hz, e]
  · rw [if_neg e]; exact h j (by omega) hN
theorem inc_dig {N M i c : Nat} (hc : (N + M) / 10 ^ i = N / 10 ^ i + M / 10 ^ i + c) : (N + M) / 10 ^ i % 10 = (N / 10 ^ i % 10 + M / 10 ^ i % 10 + c) % 10 := by omega
theorem inc_step {N M i c : Nat} (hc : (N + M) / 10 ^ i = N / 10 ^ i + M / 10 ^ i + c) : (N + M) / 10 ^ (i + 1) = N / 10 ^ (i + 1) + M / 10 ^ (i + 1) + (N / 10 ^ i % 10 + M / 10 ^ i % 10 + c) / 10 := by
  rw [tq10, tq10, tq10]; omega
theorem dec_dig {N M i b : Nat} (hc : (N - M) / 10 ^ i + M / 10 ^ i + b = N / 10 ^ i) (hb : b ≤ 1) :
    (((N - M) / 10 ^ i % 10 : Nat) : Int) = (if ((N / 10 ^ i % 10 : Nat) : Int) - ((M / 10 ^ i % 10 : Nat) : Int) - (b : Int) < 0 then ((N / 10 ^ i % 10 : Nat) : Int) - ((M / 10 ^ i % 10 : Nat) : Int) - (b : Int) + 10 else ((N / 10 ^ i % 10 : Nat) : Int) - ((M / 10 ^ i % 10 : Nat) : Int) - (b : Int)) := by
  split <;> omega
theorem dec_step {N M i b b' : Nat} (hc : (N - M) / 10 ^ i + M / 10 ^ i + b = N / 10 ^ i) (hb : b ≤ 1) (hb' : (b' = 1 ∧ ((N / 10 ^ i % 10 : Nat) : Int) - ((M / 10 ^ i % 10 : Nat) : Int) - (b : Int) < 0) ∨ (b' = 0 ∧ 0 ≤ ((N / 10 ^ i % 10 : Nat) : Int) - ((M / 10 ^ i % 10 : Nat) : Int) - (b : Int))) : (N - M) / 10 ^ (i + 1) + M / 10 ^ (i + 1) + b' = N / 10 ^ (i + 1) := by
  rw [tq10, tq10, tq10]
  rcases hb' with ⟨h1, h2⟩ | ⟨h1, h2⟩ <;> omega
theorem tm10 (r : Int) : -10 < r.tmod 10 ∧ r.tmod 10 < 10 ∧ (r.tmod 10).natAbs = r.natAbs % 10 ∧ (r.tdiv 10).natAbs = r.natAbs / 10 := by
  have h1 := Int.natAbs_tmod r 10
  have h2 := Int.natAbs_tdiv r 10
  have h3 : (10 : Int).natAbs = 10 := rfl
  rw [h3] at h1 h2
  refine ⟨?_, ?_, h1, h2⟩ <;> omega
/-! Digits that change by one place; long division. -/
theorem tqadd (N a b : Nat) : N / 10 ^ (a + b) = N / 10 ^ a / 10 ^ b := by rw [p10add, Nat.div_div_eq_div_mul]
theorem tbump_hi {N m j : Nat} (h : N / 10 ^ m % 10 + 1 < 10) (hj : m < j) : (N + 10 ^ m) / 10 ^ j = N / 10 ^ j := by
  have e : j = m + (1 + (j - m - 1)) := by omega
  have h1 : (N + 10 ^ m) / 10 ^ m = N / 10 ^ m + 1 := Nat.add_div_right _ (p10 m)
  rw [e, tqadd, tqadd, tqadd N, tqadd (N / 10 ^ m), h1]
  have h2 : (N / 10 ^ m + 1) / 10 ^ 1 = N / 10 ^ m / 10 ^ 1 := by rw [Nat.pow_one]; omega
  rw [h2]
theorem tbump_lo {N m j : Nat} (hj : j < m) : (N + 10 ^ m) / 10 ^ j % 10 = N / 10 ^ j % 10 := by
  have e : 10 ^ m = 10 ^ j * (10 * 10 ^ (m - j - 1)) := by rw [← p10s, ← p10add]; congr 1; omega
  rw [e, Nat.add_mul_div_left _ _ (p10 j)]
  omega
theorem dg_bump {N m t : Nat} (ht : N / 10 ^ m % 10 = t) (h : t + 1 < 10) : ∀ j, upd (dg N) m (iI ((t + 1 : Nat) : Int)) j = dg (N + 10 ^ m) j := by
  intro j
  unfold upd
  by_cases e : j = m
  · subst e
    rw [if_pos rfl, dg_at]
    have h1 : (N + 10 ^ j) / 10 ^ j = N / 10 ^ j + 1 := Nat.add_div_right _ (p10 j)
    rw [h1]
    congr 1
    omega
  · rw [if_neg e, dg_at, dg_at]
    by_cases h1 : j < m
    · rw [tbump_lo h1]
    · rw [tbump_hi (by omega) (by omega)]
theorem dg_unit {R a : Nat} (ha : a < 10) : ∀ j, upd (dg (R * 10 ^ 1)) 0 (iI (a : Int)) j = dg (R * 10 + a) j := by
  intro j
  unfold upd
  by_cases e : j = 0
  · subst e
    rw [if_pos rfl, dg_at, tqz]
    congr 1
    omega
  · rw [if_neg e, dg_at, dg_at]
    have h1 : j = 1 + (j - 1) := by omega
    rw [h1, tqadd, tqadd (R * 10 + a), Nat.pow_one]
    have h2 : R * 10 / 10 = (R * 10 + a) / 10 := by omega
    rw [h2]
theorem tquo {N D m t r : Nat} (hD : 0 < D) (hr : r < D) (h : t * D + r = (N / 10 ^ (m + 1) % D) * 10 + N / 10 ^ m % 10) : N / 10 ^ m / D = 10 * (N / 10 ^ (m + 1) / D) + t ∧ N / 10 ^ m % D = r := by
  have h1 := Nat.div_add_mod (N / 10 ^ (m + 1)) D
  have h2 : N / 10 ^ m = 10 * (N / 10 ^ (m + 1)) + N / 10 ^ m % 10 := by rw [tq10]; omega
  refine (Nat.div_mod_unique hD).mpr ⟨?_, hr⟩
  generalize N / 10 ^ (m + 1) / D = Q at *
  generalize N / 10 ^ (m + 1) % D = R at *
  generalize N / 10 ^ (m + 1) = A at *
  generalize N / 10 ^ m % 10 = a at *
  rw [h2]
  have h3 : D * (10 * Q + t) = 10 * (D * Q) + t * D := by rw [Nat.mul_add, Nat.mul_left_comm, Nat.mul_comm D t]
  omega
theorem tdig_t {Q t k : Nat} (h : t ≤ 9) : (Q * 10 ^ (k + 1) + t * 10 ^ k) / 10 ^ k % 10 = t := by
  have e : Q * 10 ^ (k + 1) + t * 10 ^ k = (Q * 10 + t) * 10 ^ k := by rw [p10s, Nat.add_mul, Nat.mul_assoc]
  rw [e, Nat.mul_div_cancel _ (p10 k)]
  omega
theorem tdig_s {Q t k : Nat} : Q * 10 ^ (k + 1) + (t + 1) * 10 ^ k = Q * 10 ^ (k + 1) + t * 10 ^ k + 10 ^ k := by rw [Nat.add_mul, Nat.one_mul, Nat.add_assoc]
theorem tdig_e {Q t k : Nat} : Q * 10 ^ (k + 1) + t * 10 ^ k = (10 * Q + t) * 10 ^ k := by rw [p10s, Nat.add_mul, ← Nat.mul_assoc, Nat.mul_comm Q 10]
