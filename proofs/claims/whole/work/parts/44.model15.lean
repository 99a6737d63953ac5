/-! Reading: a state is whether it still goes (ok) and where it stands. -/
def rdE (tx : Nat → Int) (sz : Nat) (c : Int) (s : Bool × Nat) : Bool × Nat := if s.1 = true ∧ s.2 < sz ∧ tx s.2 = c then (true, s.2 + 1) else (false, s.2)
def rdK (tx : Nat → Int) (sz m : Nat) (s : Bool × Nat) : Nat := if s.1 = true then dct tx sz m s.2 else 0
def rdD (tx : Nat → Int) (sz l m : Nat) (s : Bool × Nat) : Bool × Nat := (s.1 && decide (l ≤ rdK tx sz m s), s.2 + rdK tx sz m s)
def rdG (tx : Nat → Int) (sz : Nat) : Nat → Bool × Nat → Bool × Nat
  | 0, s => s
  | f + 1, s => if s.1 = true ∧ s.2 < sz ∧ tx s.2 = 44 then rdG tx sz f (rdD tx sz 3 3 (true, s.2 + 1)) else s
def rdW (tx : Nat → Int) (sz : Nat) (g : Bool) (s : Bool × Nat) : Bool × Nat := if g = true then rdG tx sz 48 (rdD tx sz 1 3 s) else rdD tx sz 1 48 s
def rdP (tx : Nat → Int) (sz : Nat) (s : Bool × Nat) : Bool × Nat := if s.1 = true ∧ s.2 < sz ∧ tx s.2 = 46 then rdD tx sz 1 10 (true, s.2 + 1) else s
def rdPk (tx : Nat → Int) (sz : Nat) (s : Bool × Nat) : Nat := if s.1 = true ∧ s.2 < sz ∧ tx s.2 = 46 then dct tx sz 10 (s.2 + 1) else 0
def rdB (tx : Nat → Int) (sz : Nat) (g : Bool) (s : Bool × Nat) : Bool × Nat := rdP tx sz (rdW tx sz g s)
def rdBe (tx : Nat → Int) (sz : Nat) (g : Bool) (s : Bool × Nat) : Nat := rdPk tx sz (rdW tx sz g s)
def tval (tx : Nat → Int) (s : Nat) : Nat → Nat
  | 0 => 0
  | n + 1 => if tx (s + n) = 44 then tval tx s n else tval tx s n * 10 + (tx (s + n) - 48).toNat
def rdBn (tx : Nat → Int) (sz : Nat) (g : Bool) (s : Bool × Nat) : Nat := tval tx s.2 ((rdW tx sz g s).2 - s.2) * 10 ^ rdBe tx sz g s + tval tx ((rdW tx sz g s).2 + 1) (rdBe tx sz g s)
def rdSg (st : Int) : Int := if 4 ≤ st then 40 else 45
def rdO (tx : Nat → Int) (sz : Nat) (st : Int) (s : Bool × Nat) : Bool := s.1 && decide (s.2 < sz ∧ tx s.2 = rdSg st)
def rdN0 (tx : Nat → Int) (sz : Nat) (st : Int) (s : Bool × Nat) : Bool × Nat := (s.1, s.2 + (rdO tx sz st s).toNat)
def rdN (tx : Nat → Int) (sz : Nat) (st : Int) (s : Bool × Nat) : Bool × Nat := if rdO tx sz st s = true ∧ 4 ≤ st then rdE tx sz 41 (rdB tx sz (decide (st % 2 = 1)) (rdN0 tx sz st s)) else rdB tx sz (decide (st % 2 = 1)) (rdN0 tx sz st s)
def rdC (tx : Nat → Int) (sz : Nat) (s : Bool × Nat) : Bool × Nat := if s.1 = true ∧ s.2 < sz ∧ 65 ≤ tx s.2 ∧ tx s.2 ≤ 70 then rdE tx sz (tx s.2) (rdE tx sz (tx s.2) (rdE tx sz (tx s.2) s)) else (false, s.2)
theorem rdE_f {tx : Nat → Int} {sz a : Nat} {c : Int} : rdE tx sz c (false, a) = (false, a) := by unfold rdE; rw [if_neg (fun e => by cases e.1)]
theorem rdE_1 {tx : Nat → Int} {sz a : Nat} {c : Int} (h : a < sz ∧ tx a = c) : rdE tx sz c (true, a) = (true, a + 1) := by unfold rdE; rw [if_pos ⟨rfl, h⟩]
theorem rdE_0 {tx : Nat → Int} {sz a : Nat} {c : Int} (h : ¬ (a < sz ∧ tx a = c)) : rdE tx sz c (true, a) = (false, a) := by unfold rdE; rw [if_neg (fun e => h e.2)]
theorem rdK_f {tx : Nat → Int} {sz m a : Nat} : rdK tx sz m (false, a) = 0 := rfl
theorem rdK_t {tx : Nat → Int} {sz m a : Nat} : rdK tx sz m (true, a) = dct tx sz m a := rfl
theorem rdD_f {tx : Nat → Int} {sz l m a : Nat} : rdD tx sz l m (false, a) = (false, a) := rfl
theorem rdG_f {tx : Nat → Int} {sz f a : Nat} : rdG tx sz f (false, a) = (false, a) := by
  cases f with
  | zero => rfl
  | succ f => show (if false = true ∧ _ then _ else _) = _; rw [if_neg (fun e => by cases e.1)]
theorem rdW_f {tx : Nat → Int} {sz a : Nat} {g : Bool} : rdW tx sz g (false, a) = (false, a) := by
  unfold rdW
  split
  · rw [rdD_f, rdG_f]
  · rfl
theorem rdP_f {tx : Nat → Int} {sz a : Nat} : rdP tx sz (false, a) = (false, a) := by unfold rdP; rw [if_neg (fun e => by cases e.1)]
theorem rdB_f {tx : Nat → Int} {sz a : Nat} {g : Bool} : rdB tx sz g (false, a) = (false, a) := by unfold rdB; rw [rdW_f, rdP_f]
theorem rdN_f {tx : Nat → Int} {sz a : Nat} {st : Int} : rdN tx sz st (false, a) = (false, a) := by
  unfold rdN
  rw [if_neg (fun e => by cases e.1)]
  show rdB tx sz _ (false, a + 0) = _
  rw [rdB_f]
  rfl
theorem rdC_f {tx : Nat → Int} {sz a : Nat} : rdC tx sz (false, a) = (false, a) := by unfold rdC; rw [if_neg (fun e => by cases e.1)]
theorem dct_le (tx : Nat → Int) (sz : Nat) : ∀ m a, dct tx sz m a ≤ m ∧ (a ≤ sz → a + dct tx sz m a ≤ sz) := by
  intro m
  induction m with
  | zero => intro a; exact ⟨Nat.le_refl _, fun h => h⟩
  | succ m ih =>
    intro a
    by_cases h : a < sz ∧ 48 ≤ tx a ∧ tx a ≤ 57
    · have := ih (a + 1)
      rw [dct_1 h]
      exact ⟨by omega, fun _ => by have := this.2 (by omega); omega⟩
    · rw [dct_0 h]
      exact ⟨by omega, fun h => h⟩
theorem dct_dig (tx : Nat → Int) (sz : Nat) : ∀ m a j, j < dct tx sz m a → a + j < sz ∧ 48 ≤ tx (a + j) ∧ tx (a + j) ≤ 57 := by
  intro m
  induction m with
  | zero => intro a j h; exact absurd h (by show ¬ _ < 0; omega)
  | succ m ih =>
    intro a j h
    by_cases hc : a < sz ∧ 48 ≤ tx a ∧ tx a ≤ 57
    · rw [dct_1 hc] at h
      cases j with
      | zero => exact hc
      | succ j => have := ih (a + 1) j (by omega); rw [show a + 1 + j = a + (j + 1) by omega] at this; exact this
    · rw [dct_0 hc] at h; omega
theorem rdK_le (tx : Nat → Int) (sz m : Nat) (s : Bool × Nat) : rdK tx sz m s ≤ m ∧ (s.2 ≤ sz → s.2 + rdK tx sz m s ≤ sz) := by
  unfold rdK
  split
  · exact dct_le tx sz m s.2
  · exact ⟨by omega, fun h => h⟩
theorem rdE_le {tx : Nat → Int} {sz : Nat} {c : Int} {s : Bool × Nat} (h : s.2 ≤ sz) : (rdE tx sz c s).2 ≤ sz ∧ s.2 ≤ (rdE tx sz c s).2 := by
  unfold rdE
  split
  · next e => exact ⟨by show s.2 + 1 ≤ sz; omega, by show s.2 ≤ s.2 + 1; omega⟩
  · exact ⟨h, Nat.le_refl _⟩
theorem rdD_le {tx : Nat → Int} {sz l m : Nat} {s : Bool × Nat} (h : s.2 ≤ sz) : (rdD tx sz l m s).2 ≤ sz ∧ s.2 ≤ (rdD tx sz l m s).2 := ⟨(rdK_le tx sz m s).2 h, Nat.le_add_right _ _⟩
theorem rdG_le {tx : Nat → Int} {sz : Nat} : ∀ (f : Nat) (s : Bool × Nat), s.2 ≤ sz → (rdG tx sz f s).2 ≤ sz ∧ s.2 ≤ (rdG tx sz f s).2 := by
  intro f
  induction f with
  | zero => intro s h; exact ⟨h, Nat.le_refl _⟩
  | succ f ih =>
    intro s h
    show (if _ then rdG tx sz f _ else s).2 ≤ sz ∧ s.2 ≤ (if _ then rdG tx sz f _ else s).2
    split
    · next e =>
      have h1 := rdD_le (tx := tx) (sz := sz) (l := 3) (m := 3) (s := (true, s.2 + 1)) (by show s.2 + 1 ≤ sz; omega)
      have h2 := ih _ h1.1
      have h3 : s.2 + 1 ≤ (rdD tx sz 3 3 (true, s.2 + 1)).2 := h1.2
      exact ⟨h2.1, by omega⟩
    · exact ⟨h, Nat.le_refl _⟩
theorem rdW_le {tx : Nat → Int} {sz : Nat} {g : Bool} {s : Bool × Nat} (h : s.2 ≤ sz) : (rdW tx sz g s).2 ≤ sz ∧ s.2 ≤ (rdW tx sz g s).2 := by
  unfold rdW
  split
  · have h1 := rdD_le (tx := tx) (l := 1) (m := 3) h
    have h2 := rdG_le (tx := tx) 48 _ h1.1
    exact ⟨h2.1, by omega⟩
  · exact rdD_le h
theorem rdP_le {tx : Nat → Int} {sz : Nat} {s : Bool × Nat} (h : s.2 ≤ sz) : (rdP tx sz s).2 ≤ sz ∧ s.2 ≤ (rdP tx sz s).2 := by
  unfold rdP
  split
  · next e =>
    have h1 := rdD_le (tx := tx) (sz := sz) (l := 1) (m := 10) (s := (true, s.2 + 1)) (by show s.2 + 1 ≤ sz; omega)
    have h3 : s.2 + 1 ≤ (rdD tx sz 1 10 (true, s.2 + 1)).2 := h1.2
    exact ⟨h1.1, by omega⟩
  · exact ⟨h, Nat.le_refl _⟩
theorem rdB_le {tx : Nat → Int} {sz : Nat} {g : Bool} {s : Bool × Nat} (h : s.2 ≤ sz) : (rdB tx sz g s).2 ≤ sz ∧ s.2 ≤ (rdB tx sz g s).2 := by
  have h1 := rdW_le (tx := tx) (g := g) h
  have h2 := rdP_le (tx := tx) h1.1
  unfold rdB
  exact ⟨h2.1, by omega⟩
theorem rdN0_le {tx : Nat → Int} {sz : Nat} {st : Int} {s : Bool × Nat} (h : s.2 ≤ sz) : (rdN0 tx sz st s).2 ≤ sz := by
  unfold rdN0 rdO
  show s.2 + _ ≤ sz
  by_cases e : s.2 < sz ∧ tx s.2 = rdSg st
  · rw [decide_eq_true e]; have := Bool.toNat_le (s.1 && true); omega
  · rw [decide_eq_false e, Bool.and_false]; exact h
theorem rdN_le {tx : Nat → Int} {sz : Nat} {st : Int} {s : Bool × Nat} (h : s.2 ≤ sz) : (rdN tx sz st s).2 ≤ sz := by
  have h1 := rdB_le (tx := tx) (g := decide (st % 2 = 1)) (rdN0_le (tx := tx) (st := st) h)
  unfold rdN
  split
  · exact (rdE_le h1.1).1
  · exact h1.1
theorem rdC_le {tx : Nat → Int} {sz : Nat} {s : Bool × Nat} (h : s.2 ≤ sz) : (rdC tx sz s).2 ≤ sz := by
  unfold rdC
  split
  · exact (rdE_le (rdE_le (rdE_le h).1).1).1
  · exact h
/-- how many digits, commas aside -/
def tcnt (tx : Nat → Int) (s : Nat) : Nat → Nat
  | 0 => 0
  | n + 1 => if tx (s + n) = 44 then tcnt tx s n else tcnt tx s n + 1
theorem tcnt_le (tx : Nat → Int) (s : Nat) : ∀ n, tcnt tx s n ≤ n := by
  intro n
  induction n with
  | zero => exact Nat.le_refl _
  | succ n ih =>
    have e1 : tcnt tx s (n + 1) = if tx (s + n) = 44 then tcnt tx s n else tcnt tx s n + 1 := rfl
    rw [e1]
    split <;> omega
def okc (tx : Nat → Int) (s n : Nat) : Prop := ∀ j, j < n → tx (s + j) = 44 ∨ (48 ≤ tx (s + j) ∧ tx (s + j) ≤ 57)
theorem tval_lt (tx : Nat → Int) (s : Nat) : ∀ n, okc tx s n → tval tx s n < 10 ^ tcnt tx s n := by
  intro n
  induction n with
  | zero => intro _; exact Nat.one_pos
  | succ n ih =>
    intro h
    have h1 := ih (fun j hj => h j (by omega))
    have h2 := h n (by omega)
    show (if _ then _ else _) < 10 ^ (if _ then _ else _)
    by_cases e : tx (s + n) = 44
    · rw [if_pos e, if_pos e]; exact h1
    · rw [if_neg e, if_neg e, Nat.pow_succ]
      have h3 : (tx (s + n) - 48).toNat ≤ 9 := by omega
      omega
/-- from the left -/
theorem tval_l (tx : Nat → Int) (s : Nat) : ∀ n, tval tx s (n + 1) = (if tx s = 44 then 0 else (tx s - 48).toNat * 10 ^ tcnt tx (s + 1) n) + tval tx (s + 1) n ∧ tcnt tx s (n + 1) = (if tx s = 44 then 0 else 1) + tcnt tx (s + 1) n := by
  intro n
  induction n with
  | zero =>
    show (if tx (s + 0) = 44 then 0 else 0 * 10 + (tx (s + 0) - 48).toNat) = (if tx s = 44 then 0 else (tx s - 48).toNat * 10 ^ 0) + 0 ∧ (if tx (s + 0) = 44 then 0 else 0 + 1) = _ + 0
    rw [Nat.add_zero, Nat.pow_zero]
    by_cases e : tx s = 44
    · rw [if_pos e, if_pos e, if_pos e]; exact ⟨rfl, rfl⟩
    · rw [if_neg e, if_neg e, if_neg e]; exact ⟨by omega, rfl⟩
  | succ n ih =>
    have e1 : tval tx s (n + 1 + 1) = if tx (s + (n + 1)) = 44 then tval tx s (n + 1) else tval tx s (n + 1) * 10 + (tx (s + (n + 1)) - 48).toNat := rfl
    have e2 : tcnt tx s (n + 1 + 1) = if tx (s + (n + 1)) = 44 then tcnt tx s (n + 1) else tcnt tx s (n + 1) + 1 := rfl
    have e3 : tval tx (s + 1) (n + 1) = if tx (s + 1 + n) = 44 then tval tx (s + 1) n else tval tx (s + 1) n * 10 + (tx (s + 1 + n) - 48).toNat := rfl
    have e4 : tcnt tx (s + 1) (n + 1) = if tx (s + 1 + n) = 44 then tcnt tx (s + 1) n else tcnt tx (s + 1) n + 1 := rfl
    rw [e1, e2, e3, e4, ih.1, ih.2, show s + (n + 1) = s + 1 + n by omega]
    by_cases e : tx (s + 1 + n) = 44
    · rw [if_pos e, if_pos e, if_pos e, if_pos e]; exact ⟨rfl, rfl⟩
    · rw [if_neg e, if_neg e, if_neg e, if_neg e]
      by_cases e5 : tx s = 44
      · rw [if_pos e5, if_pos e5, if_pos e5]; exact ⟨by omega, by omega⟩
      · rw [if_neg e5, if_neg e5, if_neg e5, Nat.pow_succ, Nat.add_mul, ← Nat.mul_assoc]; exact ⟨by omega, by omega⟩
/-- a run of digits behind -/
theorem tval_add (tx : Nat → Int) (s n : Nat) : ∀ k, (∀ j, j < k → 48 ≤ tx (s + n + j)) → tval tx s (n + k) = tval tx s n * 10 ^ k + tval tx (s + n) k := by
  intro k
  induction k with
  | zero => intro _; show tval tx s n = tval tx s n * 10 ^ 0 + 0; rw [Nat.pow_zero]; omega
  | succ k ih =>
    intro h
    have h1 := ih (fun j hj => h j (by omega))
    have h2 := h k (by omega)
    have e1 : tval tx s (n + (k + 1)) = if tx (s + (n + k)) = 44 then tval tx s (n + k) else tval tx s (n + k) * 10 + (tx (s + (n + k)) - 48).toNat := rfl
    have e2 : tval tx (s + n) (k + 1) = if tx (s + n + k) = 44 then tval tx (s + n) k else tval tx (s + n) k * 10 + (tx (s + n + k) - 48).toNat := rfl
    rw [e1, e2, ← Nat.add_assoc, if_neg (by omega), if_neg (by omega), h1, Nat.pow_succ, Nat.add_mul, Nat.mul_assoc]
    omega
theorem tval_c (tx : Nat → Int) (s n : Nat) (h : tx (s + n) = 44) : tval tx s (n + 1) = tval tx s n := by
  show (if _ then _ else _) = _
  rw [if_pos h]
theorem tval_d (tx : Nat → Int) (s n : Nat) (h : 48 ≤ tx (s + n)) : tval tx s (n + 1) = tval tx s n * 10 + (tx (s + n) - 48).toNat := by
  show (if _ then _ else _) = _
  rw [if_neg (by omega)]
theorem tval_k (tx : Nat → Int) (s : Nat) : ∀ k, (∀ j, j < k → 48 ≤ tx (s + j) ∧ tx (s + j) ≤ 57) → tval tx s k < 10 ^ k := by
  intro k
  induction k with
  | zero => intro _; exact Nat.one_pos
  | succ k ih =>
    intro h
    have h1 := ih (fun j hj => h j (by omega))
    have h2 := h k (by omega)
    rw [tval_d _ _ _ h2.1, Nat.pow_succ]
    omega
/-- a digit put where there is none -/
theorem dgu {M p d : Nat} (h : M / 10 ^ p % 10 = 0) (hd : d < 10) : ∀ j, upd (dg M) p (iI ((d : Nat) : Int)) j = dg (M + d * 10 ^ p) j := by
  intro j
  by_cases e : j = p
  · subst e
    rw [upd_s, dg_at, Nat.add_mul_div_right _ _ (p10 j)]
    congr 2
    omega
  · rw [upd_n e]
    rcases Nat.lt_or_gt_of_ne e with h1 | h1
    · rw [dg_at, dg_at, tlow h1]
    · obtain ⟨i, rfl⟩ : ∃ i, j = (p + 1) + i := ⟨j - (p + 1), by omega⟩
      rw [dg_at, dg_at, p10add (p + 1) i, ← Nat.div_div_eq_div_mul, ← Nat.div_div_eq_div_mul, tq10, tq10, Nat.add_mul_div_right _ _ (p10 p)]
      rw [show (M / 10 ^ p + d) / 10 = M / 10 ^ p / 10 by omega]
/-! The reference's reading. -/
def wrz (ok : Bool) (a : Nat) : Int := if ok = true then -1 else (a : Int)
theorem wrz_c (ok : Bool) (a : Nat) : (bz ok = 1 ∧ wrz ok a = -1) ∨ (bz ok = 0 ∧ wrz ok a = (a : Int)) := by cases ok <;> simp [bz, wrz]
theorem wrz_t (a : Nat) : wrz true a = -1 := rfl
theorem wrz_f (a : Nat) : wrz false a = (a : Int) := rfl
theorem bdp_1 {ok : Bool} {p : Prop} [Decidable p] (h : bz ok = 1) (hp : p) : 1 = bz (ok && decide p) := by rw [bz_1.mp h, decide_eq_true hp]; rfl
theorem bdp_0 {ok : Bool} {p : Prop} [Decidable p] (h : bz ok = 0 ∨ ¬ p) : 0 = bz (ok && decide p) := by
  rcases h with h | h
  · rw [bz_0.mp h]; rfl
  · rw [decide_eq_false h, Bool.and_false]; rfl
theorem bdp_ne {ok : Bool} {p : Prop} [Decidable p] (h : ¬ bz (ok && decide p) = 0) : bz ok = 1 ∧ p := by
  cases ok
  · exact absurd rfl h
  · exact ⟨rfl, bzd_ne (by rw [Bool.true_and] at h; exact h)⟩
theorem bdp_z {ok : Bool} {p : Prop} [Decidable p] (h : bz (ok && decide p) = 0) : bz ok = 0 ∨ ¬ p := by
  cases ok
  · exact Or.inl rfl
  · exact Or.inr (bzd_z (by rw [Bool.true_and] at h; exact h))
theorem rdE_y {tx : Nat → Int} {sz a : Nat} {c : Int} {ok : Bool} (h : bz ok = 1 ∧ (a < sz ∧ tx a = c)) : rdE tx sz c (ok, a) = (true, a + 1) := by rw [bz_1.mp h.1]; exact rdE_1 h.2
theorem rdE_n {tx : Nat → Int} {sz a : Nat} {c : Int} {ok : Bool} (h : bz ok = 0 ∨ ¬ (a < sz ∧ tx a = c)) : rdE tx sz c (ok, a) = (false, a) := by
  cases ok
  · exact rdE_f
  · exact rdE_0 (h.resolve_left (by decide))
def RDk (rd : Nat → Int32) (N q : Nat) : Prop := N < 10 ^ q ∧ ∀ i, i < q → rd i = iI ((N / 10 ^ (q - 1 - i) % 10 : Nat) : Int)
theorem RDk_0 {rd : Nat → Int32} : RDk rd 0 0 := ⟨Nat.one_pos, fun i hi => absurd hi (by omega)⟩
theorem RDk_s {rd : Nat → Int32} {N q : Nat} {z : Int} (h : RDk rd N q) (hz : 48 ≤ z ∧ z ≤ 57) : RDk (upd rd q (iI (z - 48))) (N * 10 + (z - 48).toNat) (q + 1) := by
  refine ⟨by rw [Nat.pow_succ]; have := h.1; omega, fun i hi => ?_⟩
  by_cases e : i = q
  · subst e
    rw [upd_s, show i + 1 - 1 - i = 0 by omega, Nat.pow_zero, Nat.div_one]
    congr 1
    omega
  · rw [upd_n e, h.2 i (by omega), show q + 1 - 1 - i = (q - 1 - i) + 1 by omega, Nat.pow_succ, Nat.mul_comm (10 ^ (q - 1 - i)) 10, ← Nat.div_div_eq_div_mul]
    rw [show (N * 10 + (z - 48).toNat) / 10 = N by omega]
theorem rdK_d {tx : Nat → Int} {sz m a : Nat} {ok : Bool} {j : Nat} (h : j < rdK tx sz m (ok, a)) : 48 ≤ tx (a + j) ∧ tx (a + j) ≤ 57 := by
  cases ok
  · exact absurd h (by show ¬ _ < 0; omega)
  · exact (dct_dig tx sz m a j h).2
theorem rdD_y {tx : Nat → Int} {sz l m a : Nat} {ok : Bool} (h : l ≤ rdK tx sz m (ok, a)) : (ok, a + rdK tx sz m (ok, a)) = rdD tx sz l m (ok, a) := by
  unfold rdD
  rw [decide_eq_true h, Bool.and_true]
theorem rdD_n {tx : Nat → Int} {sz l m a : Nat} {ok : Bool} (h : ¬ l ≤ rdK tx sz m (ok, a)) : (false, a + rdK tx sz m (ok, a)) = rdD tx sz l m (ok, a) := by
  unfold rdD
  rw [decide_eq_false h, Bool.and_false]
theorem rdC_y {tx : Nat → Int} {sz a : Nat} {ok : Bool} (h : bz ok = 1 ∧ a < sz ∧ 65 ≤ tx a ∧ tx a ≤ 70) : rdC tx sz (ok, a) = rdE tx sz (tx a) (rdE tx sz (tx a) (rdE tx sz (tx a) (ok, a))) := by
  unfold rdC
  rw [if_pos ⟨bz_1.mp h.1, h.2⟩]
theorem rdC_n {tx : Nat → Int} {sz a : Nat} {ok : Bool} (h : ¬ (bz ok = 1 ∧ a < sz ∧ 65 ≤ tx a ∧ tx a ≤ 70)) : rdC tx sz (ok, a) = (false, a) := by
  unfold rdC
  rw [if_neg (fun e => h ⟨bz_1.mpr e.1, e.2⟩)]
theorem rdC_ok {tx : Nat → Int} {sz a : Nat} {ok : Bool} (h : (rdC tx sz (ok, a)).1 = true) : bz ok = 1 ∧ a < sz ∧ 65 ≤ tx a ∧ tx a ≤ 70 := by
  by_cases e : bz ok = 1 ∧ a < sz ∧ 65 ≤ tx a ∧ tx a ≤ 70
  · exact e
  · rw [rdC_n e] at h; cases h
theorem rdG_s {tx : Nat → Int} {sz f b : Nat} (h : b < sz ∧ tx b = 44) : rdG tx sz (f + 1) (true, b) = rdG tx sz f (rdD tx sz 3 3 (true, b + 1)) := by
  show (if true = true ∧ b < sz ∧ tx b = 44 then rdG tx sz f (rdD tx sz 3 3 (true, b + 1)) else (true, b)) = _
  rw [if_pos ⟨rfl, h⟩]
theorem rdG_e {tx : Nat → Int} {sz f b : Nat} {o : Bool} (h : bz o = 0 ∨ ¬ (b < sz ∧ tx b = 44)) : rdG tx sz f (o, b) = (o, b) := by
  cases f with
  | zero => rfl
  | succ f =>
    show (if o = true ∧ b < sz ∧ tx b = 44 then rdG tx sz f (rdD tx sz 3 3 (true, b + 1)) else (o, b)) = _
    rw [if_neg (fun e => by rcases h with h | h; (rw [e.1] at h; cases h); exact h e.2)]
theorem rdP_y {tx : Nat → Int} {sz b : Nat} {o : Bool} (h : bz o = 1 ∧ (b < sz ∧ tx b = 46)) : rdP tx sz (o, b) = rdD tx sz 1 10 (true, b + 1) ∧ rdPk tx sz (o, b) = dct tx sz 10 (b + 1) := by
  unfold rdP rdPk
  rw [if_pos ⟨bz_1.mp h.1, h.2⟩, if_pos ⟨bz_1.mp h.1, h.2⟩]
  exact ⟨rfl, rfl⟩
theorem rdP_n {tx : Nat → Int} {sz b : Nat} {o : Bool} (h : bz o = 0 ∨ ¬ (b < sz ∧ tx b = 46)) : rdP tx sz (o, b) = (o, b) ∧ rdPk tx sz (o, b) = 0 := by
  have h1 : ¬ (o = true ∧ b < sz ∧ tx b = 46) := fun e => by rcases h with h | h; (rw [e.1] at h; cases h); exact h e.2
  unfold rdP rdPk
  rw [if_neg h1, if_neg h1]
  exact ⟨rfl, rfl⟩
/-- a comma, then digits -/
theorem tval_g {tx : Nat → Int} {a b K : Nat} (hab : a ≤ b) (h : tx b = 44) (hd : ∀ j, j < K → 48 ≤ tx (b + 1 + j)) : tval tx a (b - a) * 10 ^ K + tval tx (b + 1) K = tval tx a (b + 1 + K - a) := by
  have e1 : tval tx a (b + 1 - a) = tval tx a (b - a) := by
    rw [show b + 1 - a = (b - a) + 1 by omega]
    exact tval_c _ _ _ (by rw [show a + (b - a) = b by omega]; exact h)
  rw [show b + 1 + K - a = (b + 1 - a) + K by omega, tval_add tx a (b + 1 - a) K (by rw [show a + (b + 1 - a) = b + 1 by omega]; exact hd), e1, show a + (b + 1 - a) = b + 1 by omega]
set_option maxHeartbeats 4000000 in
set_option maxRecDepth 100000 in
/-- sees -/
theorem c_X4_sees (E : TEn) (hE : EnvOk E) (h : Nat) (p s m : Int) (qcurrency qisWide qnegative qkept qratios qtext qnum qbase qden qquo qrem qother qunits qparts qover qgiven qread : Nat) (cI : ClassId) (sz a : Nat) (ok : Bool) (dc : Nat) (be rc rn : Int) (tx : Nat → Int) (htx : ∀ j, r32 (tx j)) (hs : sz ≤ 48) (ha : a ≤ sz) (ch : Int) (hch : r32 ch) : Cti vwCl E yX4_sees wsX4_sees (rmn 0 0) [.ref h, .int (iI ch)] [(h, .inr (4, MF p s m qcurrency qisWide qnegative qkept qratios qtext qnum qbase qden qquo qrem qother qunits qparts qover qgiven qread ((sz : Nat) : Int) ((a : Nat) : Int) (wrz ok a) ((dc : Nat) : Int) be rc rn)), (qtext, .inl (cI, 48, .inl (fun j => iI (tx j))))] [(cI, .int)] (fun (z : Int) (_ : Unit) => z = bz (ok && decide (a < sz ∧ tx a = ch))) (fun _ => [(h, .inr (4, MF p s m qcurrency qisWide qnegative qkept qratios qtext qnum qbase qden qquo qrem qother qunits qparts qover qgiven qread ((sz : Nat) : Int) ((a : Nat) : Int) (wrz ok a) ((dc : Nat) : Int) be rc rn)), (qtext, .inl (cI, 48, .inl (fun j => iI (tx j))))]) := by
  refine enteri (by decide) (Nat.le_of_ble_eq_true rfl) ?_
  intro X O hK hin2 hret
  show TGo X [(h, .inr (4, MF p s m qcurrency qisWide qnegative qkept qratios qtext qnum qbase qden qquo qrem qother qunits qparts qover qgiven qread ((sz : Nat) : Int) ((a : Nat) : Int) (wrz ok a) ((dc : Nat) : Int) be rc rn)), (qtext, .inl (cI, 48, .inl (fun j => iI (tx j))))] 0 0 0 [(0, .ref h), (1, .int (iI ch))] []
  have hw := wrz_c ok a
  have hta := htx a
  refine go_aload_n O dX4_sees_0 rfl 0 rfl 1 rfl ?_
  refine go_get O hK dX4_sees_1 hinX4 0 rfl rfl 21 (by decide) flX4_180 rfl 4 rfl ?_
  refine go_if_ge O dX4_sees_4 35 (by decide) 7 rfl (by omega) (fun h4 => ?_) (fun h4 => ?_)
  · refine go_iconst O dX4_sees_35 36 rfl ?_
    exact hret _ _ _ () dX4_sees_36 rfl (bdp_0 (by omega))
  · refine go_aload_n O dX4_sees_7 rfl 0 rfl 8 rfl ?_
    refine go_get O hK dX4_sees_8 hinX4 0 rfl rfl 20 (by decide) flX4_183 rfl 11 rfl ?_
    refine go_aload_n O dX4_sees_11 rfl 0 rfl 12 rfl ?_
    refine go_get O hK dX4_sees_12 hinX4 0 rfl rfl 9 (by decide) flX4_166 rfl 15 rfl ?_
    refine go_icmp_ge O dX4_sees_15 35 (by decide) 18 rfl (by omega) (by omega) (fun h15 => ?_) (fun h15 => ?_)
    · refine go_iconst O dX4_sees_35 36 rfl ?_
      exact hret _ _ _ () dX4_sees_36 rfl (bdp_0 (by omega))
    · refine go_aload_n O dX4_sees_18 rfl 0 rfl 19 rfl ?_
      refine go_get O hK dX4_sees_19 hinX4 0 rfl rfl 8 (by decide) flX4_26 rfl 22 rfl ?_
      refine go_aload_n O dX4_sees_22 rfl 0 rfl 23 rfl ?_
      refine go_get O hK dX4_sees_23 hinX4 0 rfl rfl 20 (by decide) flX4_183 rfl 26 rfl ?_
      refine go_iald O hK dX4_sees_26 1 0 rfl rfl a rfl (by omega) (by omega) (tx a) rfl 27 rfl ?_
      refine go_iload_n O dX4_sees_27 rfl 1 rfl 28 rfl ?_
      refine go_icmp_ne O dX4_sees_28 35 (by decide) 31 rfl (by omega) (by omega) (fun h28 => ?_) (fun h28 => ?_)
      · refine go_iconst O dX4_sees_35 36 rfl ?_
        exact hret _ _ _ () dX4_sees_36 rfl (bdp_0 (by omega))
      · refine go_iconst O dX4_sees_31 32 rfl ?_
        refine go_goto O dX4_sees_32 36 (by decide) ?_
        exact hret _ _ _ () dX4_sees_36 rfl (bdp_1 (by omega) (by omega))
set_option maxHeartbeats 4000000 in
set_option maxRecDepth 100000 in
/-- seesDigit -/
theorem c_X4_seesDigit (E : TEn) (hE : EnvOk E) (h : Nat) (p s m : Int) (qcurrency qisWide qnegative qkept qratios qtext qnum qbase qden qquo qrem qother qunits qparts qover qgiven qread : Nat) (cI : ClassId) (sz a : Nat) (ok : Bool) (dc : Nat) (be rc rn : Int) (tx : Nat → Int) (htx : ∀ j, r32 (tx j)) (hs : sz ≤ 48) (ha : a ≤ sz) : Cti vwCl E yX4_seesDigit wsX4_seesDigit (rmn 0 0) [.ref h] [(h, .inr (4, MF p s m qcurrency qisWide qnegative qkept qratios qtext qnum qbase qden qquo qrem qother qunits qparts qover qgiven qread ((sz : Nat) : Int) ((a : Nat) : Int) (wrz ok a) ((dc : Nat) : Int) be rc rn)), (qtext, .inl (cI, 48, .inl (fun j => iI (tx j))))] [(cI, .int)] (fun (z : Int) (_ : Unit) => z = bz (ok && decide (a < sz ∧ 48 ≤ tx a ∧ tx a ≤ 57))) (fun _ => [(h, .inr (4, MF p s m qcurrency qisWide qnegative qkept qratios qtext qnum qbase qden qquo qrem qother qunits qparts qover qgiven qread ((sz : Nat) : Int) ((a : Nat) : Int) (wrz ok a) ((dc : Nat) : Int) be rc rn)), (qtext, .inl (cI, 48, .inl (fun j => iI (tx j))))]) := by
  refine enteri (by decide) (Nat.le_of_ble_eq_true rfl) ?_
  intro X O hK hin2 hret
  show TGo X [(h, .inr (4, MF p s m qcurrency qisWide qnegative qkept qratios qtext qnum qbase qden qquo qrem qother qunits qparts qover qgiven qread ((sz : Nat) : Int) ((a : Nat) : Int) (wrz ok a) ((dc : Nat) : Int) be rc rn)), (qtext, .inl (cI, 48, .inl (fun j => iI (tx j))))] 0 0 0 [(0, .ref h)] []
  have hw := wrz_c ok a
  have hta := htx a
  refine go_aload_n O dX4_seesDigit_0 rfl 0 rfl 1 rfl ?_
  refine go_get O hK dX4_seesDigit_1 hinX4 0 rfl rfl 21 (by decide) flX4_180 rfl 4 rfl ?_
  refine go_if_ge O dX4_seesDigit_4 50 (by decide) 7 rfl (by omega) (fun h4 => ?_) (fun h4 => ?_)
  · refine go_iconst O dX4_seesDigit_50 51 rfl ?_
    exact hret _ _ _ () dX4_seesDigit_51 rfl (bdp_0 (by omega))
  · refine go_aload_n O dX4_seesDigit_7 rfl 0 rfl 8 rfl ?_
    refine go_get O hK dX4_seesDigit_8 hinX4 0 rfl rfl 20 (by decide) flX4_183 rfl 11 rfl ?_
    refine go_aload_n O dX4_seesDigit_11 rfl 0 rfl 12 rfl ?_
    refine go_get O hK dX4_seesDigit_12 hinX4 0 rfl rfl 9 (by decide) flX4_166 rfl 15 rfl ?_
    refine go_icmp_ge O dX4_seesDigit_15 50 (by decide) 18 rfl (by omega) (by omega) (fun h15 => ?_) (fun h15 => ?_)
    · refine go_iconst O dX4_seesDigit_50 51 rfl ?_
      exact hret _ _ _ () dX4_seesDigit_51 rfl (bdp_0 (by omega))
    · refine go_aload_n O dX4_seesDigit_18 rfl 0 rfl 19 rfl ?_
      refine go_get O hK dX4_seesDigit_19 hinX4 0 rfl rfl 8 (by decide) flX4_26 rfl 22 rfl ?_
      refine go_aload_n O dX4_seesDigit_22 rfl 0 rfl 23 rfl ?_
      refine go_get O hK dX4_seesDigit_23 hinX4 0 rfl rfl 20 (by decide) flX4_183 rfl 26 rfl ?_
      refine go_iald O hK dX4_seesDigit_26 1 0 rfl rfl a rfl (by omega) (by omega) (tx a) rfl 27 rfl ?_
      refine go_bipush O dX4_seesDigit_27 (by decide) 29 rfl ?_
      refine go_icmp_lt O dX4_seesDigit_29 50 (by decide) 32 rfl (by omega) (by omega) (fun h29 => ?_) (fun h29 => ?_)
      · refine go_iconst O dX4_seesDigit_50 51 rfl ?_
        exact hret _ _ _ () dX4_seesDigit_51 rfl (bdp_0 (by omega))
      · refine go_aload_n O dX4_seesDigit_32 rfl 0 rfl 33 rfl ?_
        refine go_get O hK dX4_seesDigit_33 hinX4 0 rfl rfl 8 (by decide) flX4_26 rfl 36 rfl ?_
        refine go_aload_n O dX4_seesDigit_36 rfl 0 rfl 37 rfl ?_
        refine go_get O hK dX4_seesDigit_37 hinX4 0 rfl rfl 20 (by decide) flX4_183 rfl 40 rfl ?_
        refine go_iald O hK dX4_seesDigit_40 1 0 rfl rfl a rfl (by omega) (by omega) (tx a) rfl 41 rfl ?_
        refine go_bipush O dX4_seesDigit_41 (by decide) 43 rfl ?_
        refine go_icmp_gt O dX4_seesDigit_43 50 (by decide) 46 rfl (by omega) (by omega) (fun h43 => ?_) (fun h43 => ?_)
        · refine go_iconst O dX4_seesDigit_50 51 rfl ?_
          exact hret _ _ _ () dX4_seesDigit_51 rfl (bdp_0 (by omega))
        · refine go_iconst O dX4_seesDigit_46 47 rfl ?_
          refine go_goto O dX4_seesDigit_47 51 (by decide) ?_
          exact hret _ _ _ () dX4_seesDigit_51 rfl (bdp_1 (by omega) (by omega))
set_option maxHeartbeats 4000000 in
set_option maxRecDepth 100000 in
/-- fail -/
theorem c_X4_fail (E : TEn) (hE : EnvOk E) (h : Nat) (p s m : Int) (qcurrency qisWide qnegative qkept qratios qtext qnum qbase qden qquo qrem qother qunits qparts qover qgiven qread : Nat) (cI : ClassId) (sz a : Nat) (ok : Bool) (dc : Nat) (be rc rn : Int) (tx : Nat → Int) (htx : ∀ j, r32 (tx j)) (hs : sz ≤ 48) (ha : a ≤ sz) : Ctv vwCl E yX4_fail wsX4_fail (rmn 0 0) [.ref h] [(h, .inr (4, MF p s m qcurrency qisWide qnegative qkept qratios qtext qnum qbase qden qquo qrem qother qunits qparts qover qgiven qread ((sz : Nat) : Int) ((a : Nat) : Int) (wrz ok a) ((dc : Nat) : Int) be rc rn)), (qtext, .inl (cI, 48, .inl (fun j => iI (tx j))))] [(cI, .int)] (fun _ : Unit => True) (fun _ => [(h, .inr (4, MF p s m qcurrency qisWide qnegative qkept qratios qtext qnum qbase qden qquo qrem qother qunits qparts qover qgiven qread ((sz : Nat) : Int) ((a : Nat) : Int) (wrz false a) ((dc : Nat) : Int) be rc rn)), (qtext, .inl (cI, 48, .inl (fun j => iI (tx j))))]) := by
  refine enterv (by decide) (Nat.le_of_ble_eq_true rfl) ?_
  intro X O hK hin2 hret
  show TGo X [(h, .inr (4, MF p s m qcurrency qisWide qnegative qkept qratios qtext qnum qbase qden qquo qrem qother qunits qparts qover qgiven qread ((sz : Nat) : Int) ((a : Nat) : Int) (wrz ok a) ((dc : Nat) : Int) be rc rn)), (qtext, .inl (cI, 48, .inl (fun j => iI (tx j))))] 0 0 0 [(0, .ref h)] []
  have hw := wrz_c ok a
  have hwf := wrz_f a
  refine go_aload_n O dX4_fail_0 rfl 0 rfl 1 rfl ?_
  refine go_aload_n O dX4_fail_1 rfl 0 rfl 2 rfl ?_
  refine go_get O hK dX4_fail_2 hinX4 0 rfl rfl 21 (by decide) flX4_180 rfl 5 rfl ?_
  refine go_if_ge O dX4_fail_5 15 (by decide) 8 rfl (by omega) (fun h5 => ?_) (fun h5 => ?_)
  · refine go_aload_n O dX4_fail_15 rfl 0 rfl 16 rfl ?_
    refine go_get O hK dX4_fail_16 hinX4 0 rfl rfl 21 (by decide) flX4_180 rfl 19 rfl ?_
    refine TGo.topi (y := wrz false a) (by omega) ?_
    refine go_put O hK dX4_fail_19 hinX4 tyX4 tyX4_ok nmX4 0 rfl rfl 21 (by decide) flX4_180 rfl rfl rfl rfl (Nat.le_of_ble_eq_true rfl) [(h, .inr (4, MF p s m qcurrency qisWide qnegative qkept qratios qtext qnum qbase qden qquo qrem qother qunits qparts qover qgiven qread ((sz : Nat) : Int) ((a : Nat) : Int) (wrz false a) ((dc : Nat) : Int) be rc rn)), (qtext, .inl (cI, 48, .inl (fun j => iI (tx j))))] rfl 22 rfl ?_
    exact hret _ _ () dX4_fail_22 trivial
  · refine go_aload_n O dX4_fail_8 rfl 0 rfl 9 rfl ?_
    refine go_get O hK dX4_fail_9 hinX4 0 rfl rfl 20 (by decide) flX4_183 rfl 12 rfl ?_
    refine go_goto O dX4_fail_12 19 (by decide) ?_
    refine TGo.topi (y := wrz false a) (by omega) ?_
    refine go_put O hK dX4_fail_19 hinX4 tyX4 tyX4_ok nmX4 0 rfl rfl 21 (by decide) flX4_180 rfl rfl rfl rfl (Nat.le_of_ble_eq_true rfl) [(h, .inr (4, MF p s m qcurrency qisWide qnegative qkept qratios qtext qnum qbase qden qquo qrem qother qunits qparts qover qgiven qread ((sz : Nat) : Int) ((a : Nat) : Int) (wrz false a) ((dc : Nat) : Int) be rc rn)), (qtext, .inl (cI, 48, .inl (fun j => iI (tx j))))] rfl 22 rfl ?_
    exact hret _ _ () dX4_fail_22 trivial
set_option maxHeartbeats 4000000 in
set_option maxRecDepth 100000 in
/-- expect -/
theorem c_X4_expect (E : TEn) (hE : EnvOk E) (h : Nat) (p s m : Int) (qcurrency qisWide qnegative qkept qratios qtext qnum qbase qden qquo qrem qother qunits qparts qover qgiven qread : Nat) (cI : ClassId) (sz a : Nat) (ok : Bool) (dc : Nat) (be rc rn : Int) (tx : Nat → Int) (htx : ∀ j, r32 (tx j)) (hs : sz ≤ 48) (ha : a ≤ sz) (ch : Int) (hch : r32 ch) : Ctv vwCl E yX4_expect wsX4_expect (rmn 1 21) [.ref h, .int (iI ch)] [(h, .inr (4, MF p s m qcurrency qisWide qnegative qkept qratios qtext qnum qbase qden qquo qrem qother qunits qparts qover qgiven qread ((sz : Nat) : Int) ((a : Nat) : Int) (wrz ok a) ((dc : Nat) : Int) be rc rn)), (qtext, .inl (cI, 48, .inl (fun j => iI (tx j))))] [(cI, .int)] (fun (u : Bool × Nat) => u = rdE tx sz ch (ok, a)) (fun u => [(h, .inr (4, MF p s m qcurrency qisWide qnegative qkept qratios qtext qnum qbase qden qquo qrem qother qunits qparts qover qgiven qread ((sz : Nat) : Int) ((u.2 : Nat) : Int) (wrz u.1 u.2) ((dc : Nat) : Int) be rc rn)), (qtext, .inl (cI, 48, .inl (fun j => iI (tx j))))]) := by
  refine enterv (by decide) (Nat.le_of_ble_eq_true rfl) ?_
  intro X O hK hin2 hret
  show TGo X [(h, .inr (4, MF p s m qcurrency qisWide qnegative qkept qratios qtext qnum qbase qden qquo qrem qother qunits qparts qover qgiven qread ((sz : Nat) : Int) ((a : Nat) : Int) (wrz ok a) ((dc : Nat) : Int) be rc rn)), (qtext, .inl (cI, 48, .inl (fun j => iI (tx j))))] 0 0 0 [(0, .ref h), (1, .int (iI ch))] []
  have hw := wrz_c ok a
  refine go_aload_n O dX4_expect_0 rfl 0 rfl 1 rfl ?_
  refine go_iload_n O dX4_expect_1 rfl 1 rfl 2 rfl ?_
  refine go_calliV (As := [.int (iI ch)]) (rest := []) (wr := []) O hK hE (c_X4_sees E hE h p s m qcurrency qisWide qnegative qkept qratios qtext qnum qbase qden qquo qrem qother qunits qparts qover qgiven qread cI sz a ok dc be rc rn tx htx hs ha ch (by omega)) mlX4_186 imX4_sees seX4_sees inX4 cdX4_sees 1 (by decide +kernel) ⟨Nat.le_of_ble_eq_true rfl, Nat.le_of_ble_eq_true rfl⟩ 0 rfl rfl [0] rfl [0, 1] rfl (by decide) [] rfl (by decide) (by decide) rfl rfl (Nat.le_of_ble_eq_true rfl) ⟨Nat.zero_le _, Nat.zero_le _⟩ dX4_expect_2 5 rfl (fun z u hu => ?_)
  subst hu
  show TGo X [(h, .inr (4, MF p s m qcurrency qisWide qnegative qkept qratios qtext qnum qbase qden qquo qrem qother qunits qparts qover qgiven qread ((sz : Nat) : Int) ((a : Nat) : Int) (wrz ok a) ((dc : Nat) : Int) be rc rn)), (qtext, .inl (cI, 48, .inl (fun j => iI (tx j))))] 0 0 5 [(0, .ref h), (1, .int (iI ch))] [.int (iI (bz (ok && decide (a < sz ∧ tx a = ch))))]
  refine go_if_eq O dX4_expect_5 21 (by decide) 8 rfl (bz_r _) (fun h5 => ?_) (fun h5 => ?_)
  · refine go_aload_n O dX4_expect_21 rfl 0 rfl 22 rfl ?_
    refine go_callvV (As := []) (rest := []) (wr := []) O hK hE (c_X4_fail E hE h p s m qcurrency qisWide qnegative qkept qratios qtext qnum qbase qden qquo qrem qother qunits qparts qover qgiven qread cI sz a ok dc be rc rn tx htx hs ha) mlX4_190 imX4_fail seX4_fail inX4 cdX4_fail 0 (by decide +kernel) ⟨Nat.le_of_ble_eq_true rfl, Nat.le_of_ble_eq_true rfl⟩ 0 rfl rfl [0] rfl [0, 1] rfl (by decide) [] rfl (by decide) (by decide) rfl rfl (Nat.le_of_ble_eq_true rfl) ⟨Nat.zero_le _, Nat.zero_le _⟩ dX4_expect_22 25 rfl (fun u hu => ?_)
    show TGo X [(h, .inr (4, MF p s m qcurrency qisWide qnegative qkept qratios qtext qnum qbase qden qquo qrem qother qunits qparts qover qgiven qread ((sz : Nat) : Int) ((a : Nat) : Int) (wrz false a) ((dc : Nat) : Int) be rc rn)), (qtext, .inl (cI, 48, .inl (fun j => iI (tx j))))] 0 0 25 [(0, .ref h), (1, .int (iI ch))] []
    exact hret _ _ (false, a) dX4_expect_25 (rdE_n (bdp_z h5)).symm
  · have hyes := bdp_ne h5
    refine go_aload_n O dX4_expect_8 rfl 0 rfl 9 rfl ?_
    refine go_dup O dX4_expect_9 rfl 10 rfl ?_
    refine go_get O hK dX4_expect_10 hinX4 0 rfl rfl 20 (by decide) flX4_183 rfl 13 rfl ?_
    refine go_iconst O dX4_expect_13 14 rfl ?_
    refine go_iadd O dX4_expect_14 ((a + 1 : Nat) : Int) (by omega) 15 rfl ?_
    refine go_put O hK dX4_expect_15 hinX4 tyX4 tyX4_ok nmX4 0 rfl rfl 20 (by decide) flX4_183 rfl rfl rfl rfl (Nat.le_of_ble_eq_true rfl) [(h, .inr (4, MF p s m qcurrency qisWide qnegative qkept qratios qtext qnum qbase qden qquo qrem qother qunits qparts qover qgiven qread ((sz : Nat) : Int) ((a + 1 : Nat) : Int) (wrz ok a) ((dc : Nat) : Int) be rc rn)), (qtext, .inl (cI, 48, .inl (fun j => iI (tx j))))] rfl 18 rfl ?_
    rw [show wrz ok a = wrz true (a + 1) by rw [wrz_t]; omega]
    show TGo X [(h, .inr (4, MF p s m qcurrency qisWide qnegative qkept qratios qtext qnum qbase qden qquo qrem qother qunits qparts qover qgiven qread ((sz : Nat) : Int) ((a + 1 : Nat) : Int) (wrz true (a + 1)) ((dc : Nat) : Int) be rc rn)), (qtext, .inl (cI, 48, .inl (fun j => iI (tx j))))] 0 0 18 [(0, .ref h), (1, .int (iI ch))] []
    refine go_goto O dX4_expect_18 25 (by decide) ?_
    exact hret _ _ (true, a + 1) dX4_expect_25 (rdE_y hyes).symm
set_option maxHeartbeats 4000000 in
set_option maxRecDepth 100000 in
/-- digitsUpTo -/
theorem c_X4_digitsUpTo (E : TEn) (hE : EnvOk E) (h : Nat) (p s m : Int) (qcurrency qisWide qnegative qkept qratios qtext qnum qbase qden qquo qrem qother qunits qparts qover qgiven qread : Nat) (cI : ClassId) (sz a : Nat) (ok : Bool) (dc : Nat) (be rc rn : Int) (tx : Nat → Int) (htx : ∀ j, r32 (tx j)) (hs : sz ≤ 48) (ha : a ≤ sz) (rd : Nat → Int32) (NN : Nat) (hdc : dc ≤ a) (hRD0 : RDk rd NN dc) (mo : Nat) (hmo : mo ≤ 48) : Cti vwCl E yX4_digitsUpTo wsX4_digitsUpTo (rmn 1 20) [.ref h, .int (iI ((mo : Nat) : Int))] [(h, .inr (4, MF p s m qcurrency qisWide qnegative qkept qratios qtext qnum qbase qden qquo qrem qother qunits qparts qover qgiven qread ((sz : Nat) : Int) ((a : Nat) : Int) (wrz ok a) ((dc : Nat) : Int) be rc rn)), (qtext, .inl (cI, 48, .inl (fun j => iI (tx j)))), (qread, .inl (cI, 48, .inl rd))] [(cI, .int)] (fun (z : Int) (u : Nat × Nat × (Nat → Int32)) => z = ((rdK tx sz mo (ok, a) : Nat) : Int) ∧ u.1 = a + rdK tx sz mo (ok, a) ∧ u.2.1 = dc + rdK tx sz mo (ok, a) ∧ RDk u.2.2 (NN * 10 ^ (rdK tx sz mo (ok, a)) + tval tx a (rdK tx sz mo (ok, a))) (dc + rdK tx sz mo (ok, a))) (fun u => [(h, .inr (4, MF p s m qcurrency qisWide qnegative qkept qratios qtext qnum qbase qden qquo qrem qother qunits qparts qover qgiven qread ((sz : Nat) : Int) ((u.1 : Nat) : Int) (wrz ok u.1) ((u.2.1 : Nat) : Int) be rc rn)), (qtext, .inl (cI, 48, .inl (fun j => iI (tx j)))), (qread, .inl (cI, 48, .inl u.2.2))]) := by
  refine enteri (by decide) (Nat.le_of_ble_eq_true rfl) ?_
  intro X O hK hin2 hret
  show TGo X [(h, .inr (4, MF p s m qcurrency qisWide qnegative qkept qratios qtext qnum qbase qden qquo qrem qother qunits qparts qover qgiven qread ((sz : Nat) : Int) ((a : Nat) : Int) (wrz ok a) ((dc : Nat) : Int) be rc rn)), (qtext, .inl (cI, 48, .inl (fun j => iI (tx j)))), (qread, .inl (cI, 48, .inl rd))] 0 0 0 [(0, .ref h), (1, .int (iI ((mo : Nat) : Int)))] []
  have bo := bz_01 ok
  have lp : ∀ (c : Nat) (i : Nat) (x : Int) (b q : Nat) (g : Nat → Int32) (N1 : Nat), c + i = mo + 1 → i ≤ mo → x = (i : Int) → b = a + i → q = dc + i → b ≤ sz → q ≤ b → (bz ok = 1 ∨ i = 0) → RDk g N1 q → N1 = NN * 10 ^ i + tval tx a i → rdK tx sz mo (ok, a) = i + rdK tx sz (mo - i) (ok, b) → TGo X [(h, .inr (4, MF p s m qcurrency qisWide qnegative qkept qratios qtext qnum qbase qden qquo qrem qother qunits qparts qover qgiven qread ((sz : Nat) : Int) ((b : Nat) : Int) (wrz ok b) ((q : Nat) : Int) be rc rn)), (qtext, .inl (cI, 48, .inl (fun j => iI (tx j)))), (qread, .inl (cI, 48, .inl g))] 0 0 2 [(2, .int (iI x)), (0, .ref h), (1, .int (iI ((mo : Nat) : Int)))] [] := by
    intro c
    induction c with
    | zero => intro i x b q g N1 h1 h2 hx hb hq0 hbs hqb hoi hRD hN hk; omega
    | succ c ih =>
      intro i x b q g N1 h1 h2 hx hb hq0 hbs hqb hoi hRD hN hk
      refine go_iload_n O dX4_digitsUpTo_2 rfl 0 rfl 3 rfl ?_
      refine go_iload_n O dX4_digitsUpTo_3 rfl 2 rfl 4 rfl ?_
      refine go_icmp_ge O dX4_digitsUpTo_4 61 (by decide) 7 rfl (by omega) (by omega) (fun h4 => ?_) (fun h4 => ?_)
      · have hd0 : rdK tx sz (mo - i) (ok, b) = 0 := (by rw [show mo - i = 0 by omega]; cases ok <;> rfl)
        have hi : i = rdK tx sz mo (ok, a) := by omega
        refine go_iload_n O dX4_digitsUpTo_61 rfl 0 rfl 62 rfl ?_
        exact hret _ _ _ (b, q, g) dX4_digitsUpTo_62 rfl ⟨by omega, by show b = _; omega, by show q = _; omega, by rw [← hi]; rw [hq0] at hRD; rw [← hN]; exact hRD⟩
      · refine go_aload_n O dX4_digitsUpTo_7 rfl 1 rfl 8 rfl ?_
        refine go_calliV (As := []) (rest := []) (wr := [(qread, .inl (cI, 48, .inl g))]) O hK hE (c_X4_seesDigit E hE h p s m qcurrency qisWide qnegative qkept qratios qtext qnum qbase qden qquo qrem qother qunits qparts qover qgiven qread cI sz b ok q be rc rn tx htx hs (by omega)) mlX4_193 imX4_seesDigit seX4_seesDigit inX4 cdX4_seesDigit 0 (by decide +kernel) ⟨Nat.le_of_ble_eq_true rfl, Nat.le_of_ble_eq_true rfl⟩ 0 rfl rfl [0] rfl [0, 1] rfl (by decide) [2] rfl (by decide) (by decide) rfl rfl (Nat.le_of_ble_eq_true rfl) ⟨Nat.zero_le _, Nat.zero_le _⟩ dX4_digitsUpTo_8 11 rfl (fun z u hu => ?_)
        subst hu
        show TGo X [(qread, .inl (cI, 48, .inl g)), (h, .inr (4, MF p s m qcurrency qisWide qnegative qkept qratios qtext qnum qbase qden qquo qrem qother qunits qparts qover qgiven qread ((sz : Nat) : Int) ((b : Nat) : Int) (wrz ok b) ((q : Nat) : Int) be rc rn)), (qtext, .inl (cI, 48, .inl (fun j => iI (tx j))))] 0 0 11 [(2, .int (iI x)), (0, .ref h), (1, .int (iI ((mo : Nat) : Int)))] [.int (iI (bz (ok && decide (b < sz ∧ 48 ≤ tx b ∧ tx b ≤ 57))))]
        refine TGo.sub (ws' := [(h, .inr (4, MF p s m qcurrency qisWide qnegative qkept qratios qtext qnum qbase qden qquo qrem qother qunits qparts qover qgiven qread ((sz : Nat) : Int) ((b : Nat) : Int) (wrz ok b) ((q : Nat) : Int) be rc rn)), (qtext, .inl (cI, 48, .inl (fun j => iI (tx j)))), (qread, .inl (cI, 48, .inl g))]) [1, 2, 0] (by decide) rfl ?_
        refine go_if_eq O dX4_digitsUpTo_11 61 (by decide) 14 rfl (bz_r _) (fun h11 => ?_) (fun h11 => ?_)
        · have hd0 : rdK tx sz (mo - i) (ok, b) = 0 := (by rcases bdp_z h11 with e | e; (rw [bz_0.mp e]; rfl); (cases ok; rfl; exact dct_0 e))
          have hi : i = rdK tx sz mo (ok, a) := by omega
          refine go_iload_n O dX4_digitsUpTo_61 rfl 0 rfl 62 rfl ?_
          exact hret _ _ _ (b, q, g) dX4_digitsUpTo_62 rfl ⟨by omega, by show b = _; omega, by show q = _; omega, by rw [← hi]; rw [hq0] at hRD; rw [← hN]; exact hRD⟩
        · have hyes := bdp_ne h11
          have hb48 : b < sz ∧ 48 ≤ tx b ∧ tx b ≤ 57 := hyes.2
          refine go_aload_n O dX4_digitsUpTo_14 rfl 1 rfl 15 rfl ?_
          refine go_get O hK dX4_digitsUpTo_15 hinX4 0 rfl rfl 22 (by decide) flX4_59 rfl 18 rfl ?_
          refine go_aload_n O dX4_digitsUpTo_18 rfl 1 rfl 19 rfl ?_
          refine go_get O hK dX4_digitsUpTo_19 hinX4 0 rfl rfl 23 (by decide) flX4_197 rfl 22 rfl ?_
          refine go_aload_n O dX4_digitsUpTo_22 rfl 1 rfl 23 rfl ?_
          refine go_get O hK dX4_digitsUpTo_23 hinX4 0 rfl rfl 8 (by decide) flX4_26 rfl 26 rfl ?_
          refine go_aload_n O dX4_digitsUpTo_26 rfl 1 rfl 27 rfl ?_
          refine go_get O hK dX4_digitsUpTo_27 hinX4 0 rfl rfl 20 (by decide) flX4_183 rfl 30 rfl ?_
          refine go_iald O hK dX4_digitsUpTo_30 1 0 rfl rfl b rfl (by omega) (by omega) (tx b) rfl 31 rfl ?_
          refine go_bipush O dX4_digitsUpTo_31 (by decide) 33 rfl ?_
          refine go_isub O dX4_digitsUpTo_33 ((tx b) - 48) rfl 34 rfl ?_
          refine go_iast O hK dX4_digitsUpTo_34 2 0 rfl rfl q rfl (by omega) (by omega) (upd g q (iI ((tx b) - 48))) (fun _ _ => rfl) [(h, .inr (4, MF p s m qcurrency qisWide qnegative qkept qratios qtext qnum qbase qden qquo qrem qother qunits qparts qover qgiven qread ((sz : Nat) : Int) ((b : Nat) : Int) (wrz ok b) ((q : Nat) : Int) be rc rn)), (qtext, .inl (cI, 48, .inl (fun j => iI (tx j)))), (qread, .inl (cI, 48, .inl (upd g q (iI ((tx b) - 48)))))] rfl 35 rfl ?_
          refine go_aload_n O dX4_digitsUpTo_35 rfl 1 rfl 36 rfl ?_
          refine go_dup O dX4_digitsUpTo_36 rfl 37 rfl ?_
          refine go_get O hK dX4_digitsUpTo_37 hinX4 0 rfl rfl 23 (by decide) flX4_197 rfl 40 rfl ?_
          refine go_iconst O dX4_digitsUpTo_40 41 rfl ?_
          refine go_iadd O dX4_digitsUpTo_41 ((q + 1 : Nat) : Int) (by omega) 42 rfl ?_
          refine go_put O hK dX4_digitsUpTo_42 hinX4 tyX4 tyX4_ok nmX4 0 rfl rfl 23 (by decide) flX4_197 rfl rfl rfl rfl (Nat.le_of_ble_eq_true rfl) [(h, .inr (4, MF p s m qcurrency qisWide qnegative qkept qratios qtext qnum qbase qden qquo qrem qother qunits qparts qover qgiven qread ((sz : Nat) : Int) ((b : Nat) : Int) (wrz ok b) ((q + 1 : Nat) : Int) be rc rn)), (qtext, .inl (cI, 48, .inl (fun j => iI (tx j)))), (qread, .inl (cI, 48, .inl (upd g q (iI ((tx b) - 48)))))] rfl 45 rfl ?_
          refine go_aload_n O dX4_digitsUpTo_45 rfl 1 rfl 46 rfl ?_
          refine go_dup O dX4_digitsUpTo_46 rfl 47 rfl ?_
          refine go_get O hK dX4_digitsUpTo_47 hinX4 0 rfl rfl 20 (by decide) flX4_183 rfl 50 rfl ?_
          refine go_iconst O dX4_digitsUpTo_50 51 rfl ?_
          refine go_iadd O dX4_digitsUpTo_51 ((b + 1 : Nat) : Int) (by omega) 52 rfl ?_
          refine go_put O hK dX4_digitsUpTo_52 hinX4 tyX4 tyX4_ok nmX4 0 rfl rfl 20 (by decide) flX4_183 rfl rfl rfl rfl (Nat.le_of_ble_eq_true rfl) [(h, .inr (4, MF p s m qcurrency qisWide qnegative qkept qratios qtext qnum qbase qden qquo qrem qother qunits qparts qover qgiven qread ((sz : Nat) : Int) ((b + 1 : Nat) : Int) (wrz ok b) ((q + 1 : Nat) : Int) be rc rn)), (qtext, .inl (cI, 48, .inl (fun j => iI (tx j)))), (qread, .inl (cI, 48, .inl (upd g q (iI ((tx b) - 48)))))] rfl 55 rfl ?_
          refine go_iinc O dX4_digitsUpTo_55 0 rfl ((i + 1 : Nat) : Int) (by omega) (by decide) [(2, .int (iI ((i + 1 : Nat) : Int))), (0, .ref h), (1, .int (iI ((mo : Nat) : Int)))] rfl 58 rfl ?_
          refine go_goto O dX4_digitsUpTo_58 2 (by decide) ?_
          rw [show wrz ok b = wrz ok (b + 1) by have e1 := wrz_c ok b; have e2 := wrz_c ok (b + 1); omega]
          refine TGo.lsub (lv' := [(2, .int (iI ((i + 1 : Nat) : Int))), (0, .ref h), (1, .int (iI ((mo : Nat) : Int)))]) [0, 1, 2] rfl ?_
          exact ih (i + 1) _ (b + 1) (q + 1) _ (N1 * 10 + (tx b - 48).toNat) (by omega) (by omega) rfl (by omega) (by omega) (by omega) (by omega) (by omega) (RDk_s hRD hb48.2) (by rw [hN, show tval tx a (i + 1) = tval tx a i * 10 + (tx (a + i) - 48).toNat from tval_d _ _ _ (by rw [← hb]; omega), ← hb, Nat.pow_succ, Nat.add_mul, Nat.mul_assoc]; omega) (by rw [bz_1.mp hyes.1] at hk ⊢; have e := dct_1 (tx := tx) (sz := sz) (m := mo - (i + 1)) (a := b) hb48; rw [show mo - (i + 1) + 1 = mo - i by omega] at e; simp only [rdK_t] at hk ⊢; omega)
  refine go_iconst O dX4_digitsUpTo_0 1 rfl ?_
  refine go_istore_n O dX4_digitsUpTo_1 rfl (by decide) [(2, .int (iI 0)), (0, .ref h), (1, .int (iI ((mo : Nat) : Int)))] rfl 2 rfl ?_
  refine TGo.lsub (lv' := [(2, .int (iI 0)), (0, .ref h), (1, .int (iI ((mo : Nat) : Int)))]) [0, 1, 2] rfl ?_
  exact lp (mo + 1) 0 _ a dc rd NN (by omega) (by omega) rfl rfl rfl ha hdc (Or.inr rfl) hRD0 (by rw [Nat.pow_zero]; show NN = NN * 1 + 0; omega) (by rw [Nat.sub_zero, Nat.zero_add])
set_option maxHeartbeats 4000000 in
set_option maxRecDepth 100000 in
/-- need -/
theorem c_X4_need (E : TEn) (hE : EnvOk E) (h : Nat) (p s m : Int) (qcurrency qisWide qnegative qkept qratios qtext qnum qbase qden qquo qrem qother qunits qparts qover qgiven qread : Nat) (cI : ClassId) (sz a : Nat) (ok : Bool) (dc : Nat) (be rc rn : Int) (tx : Nat → Int) (htx : ∀ j, r32 (tx j)) (hs : sz ≤ 48) (ha : a ≤ sz) (rd : Nat → Int32) (NN : Nat) (hdc : dc ≤ a) (hRD0 : RDk rd NN dc) (l mo : Nat) (hl : l ≤ 48) (hmo : mo ≤ 48) : Ctv vwCl E yX4_need wsX4_need (rmn 2 42) [.ref h, .int (iI ((l : Nat) : Int)), .int (iI ((mo : Nat) : Int))] [(h, .inr (4, MF p s m qcurrency qisWide qnegative qkept qratios qtext qnum qbase qden qquo qrem qother qunits qparts qover qgiven qread ((sz : Nat) : Int) ((a : Nat) : Int) (wrz ok a) ((dc : Nat) : Int) be rc rn)), (qtext, .inl (cI, 48, .inl (fun j => iI (tx j)))), (qread, .inl (cI, 48, .inl rd))] [(cI, .int)] (fun (u : (Bool × Nat) × Nat × (Nat → Int32)) => u.1 = rdD tx sz l mo (ok, a) ∧ u.2.1 = dc + rdK tx sz mo (ok, a) ∧ RDk u.2.2 (NN * 10 ^ (rdK tx sz mo (ok, a)) + tval tx a (rdK tx sz mo (ok, a))) (dc + rdK tx sz mo (ok, a))) (fun u => [(h, .inr (4, MF p s m qcurrency qisWide qnegative qkept qratios qtext qnum qbase qden qquo qrem qother qunits qparts qover qgiven qread ((sz : Nat) : Int) ((u.1.2 : Nat) : Int) (wrz u.1.1 u.1.2) ((u.2.1 : Nat) : Int) be rc rn)), (qtext, .inl (cI, 48, .inl (fun j => iI (tx j)))), (qread, .inl (cI, 48, .inl u.2.2))]) := by
  refine enterv (by decide) (Nat.le_of_ble_eq_true rfl) ?_
  intro X O hK hin2 hret
  show TGo X [(h, .inr (4, MF p s m qcurrency qisWide qnegative qkept qratios qtext qnum qbase qden qquo qrem qother qunits qparts qover qgiven qread ((sz : Nat) : Int) ((a : Nat) : Int) (wrz ok a) ((dc : Nat) : Int) be rc rn)), (qtext, .inl (cI, 48, .inl (fun j => iI (tx j)))), (qread, .inl (cI, 48, .inl rd))] 0 0 0 [(0, .ref h), (1, .int (iI ((l : Nat) : Int))), (2, .int (iI ((mo : Nat) : Int)))] []
  refine go_aload_n O dX4_need_0 rfl 0 rfl 1 rfl ?_
  refine go_iload_n O dX4_need_1 rfl 2 rfl 2 rfl ?_
  refine go_calliV (As := [.int (iI ((mo : Nat) : Int))]) (rest := []) (wr := []) O hK hE (c_X4_digitsUpTo E hE h p s m qcurrency qisWide qnegative qkept qratios qtext qnum qbase qden qquo qrem qother qunits qparts qover qgiven qread cI sz a ok dc be rc rn tx htx hs ha rd NN hdc hRD0 mo hmo) mlX4_200 imX4_digitsUpTo seX4_digitsUpTo inX4 cdX4_digitsUpTo 1 (by decide +kernel) ⟨Nat.le_of_ble_eq_true rfl, Nat.le_of_ble_eq_true rfl⟩ 0 rfl rfl [0] rfl [0, 1, 2] rfl (by decide) [] rfl (by decide) (by decide) rfl rfl (Nat.le_of_ble_eq_true rfl) ⟨Nat.zero_le _, Nat.zero_le _⟩ dX4_need_2 5 rfl (fun z u hu => ?_)
  obtain ⟨b2, q2, rd2⟩ := u
  obtain ⟨rfl, hb2, hq2, hRD2⟩ := hu
  replace hb2 : b2 = a + rdK tx sz mo (ok, a) := hb2
  replace hq2 : q2 = dc + rdK tx sz mo (ok, a) := hq2
  have hKk := rdK_le tx sz mo (ok, a)
  have hK2 := hKk.2 ha
  replace hK2 : a + rdK tx sz mo (ok, a) ≤ sz := hK2
  show TGo X [(h, .inr (4, MF p s m qcurrency qisWide qnegative qkept qratios qtext qnum qbase qden qquo qrem qother qunits qparts qover qgiven qread ((sz : Nat) : Int) ((b2 : Nat) : Int) (wrz ok b2) ((q2 : Nat) : Int) be rc rn)), (qtext, .inl (cI, 48, .inl (fun j => iI (tx j)))), (qread, .inl (cI, 48, .inl rd2))] 0 0 5 [(0, .ref h), (1, .int (iI ((l : Nat) : Int))), (2, .int (iI ((mo : Nat) : Int)))] [.int (iI ((rdK tx sz mo (ok, a) : Nat) : Int))]
  refine go_iload_n O dX4_need_5 rfl 1 rfl 6 rfl ?_
  refine go_icmp_ge O dX4_need_6 13 (by decide) 9 rfl (by omega) (by omega) (fun h6 => ?_) (fun h6 => ?_)
  · exact hret _ _ ((ok, b2), q2, rd2) dX4_need_13 ⟨by rw [hb2]; exact rdD_y (by omega), hq2, hRD2⟩
  · refine go_aload_n O dX4_need_9 rfl 0 rfl 10 rfl ?_
    refine go_callvV (As := []) (rest := []) (wr := [(qread, .inl (cI, 48, .inl rd2))]) O hK hE (c_X4_fail E hE h p s m qcurrency qisWide qnegative qkept qratios qtext qnum qbase qden qquo qrem qother qunits qparts qover qgiven qread cI sz b2 ok q2 be rc rn tx htx hs (by omega)) mlX4_190 imX4_fail seX4_fail inX4 cdX4_fail 0 (by decide +kernel) ⟨Nat.le_of_ble_eq_true rfl, Nat.le_of_ble_eq_true rfl⟩ 0 rfl rfl [0] rfl [0, 1] rfl (by decide) [2] rfl (by decide) (by decide) rfl rfl (Nat.le_of_ble_eq_true rfl) ⟨Nat.zero_le _, Nat.zero_le _⟩ dX4_need_10 13 rfl (fun u hu => ?_)
    show TGo X [(qread, .inl (cI, 48, .inl rd2)), (h, .inr (4, MF p s m qcurrency qisWide qnegative qkept qratios qtext qnum qbase qden qquo qrem qother qunits qparts qover qgiven qread ((sz : Nat) : Int) ((b2 : Nat) : Int) (wrz false b2) ((q2 : Nat) : Int) be rc rn)), (qtext, .inl (cI, 48, .inl (fun j => iI (tx j))))] 0 0 13 [(0, .ref h), (1, .int (iI ((l : Nat) : Int))), (2, .int (iI ((mo : Nat) : Int)))] []
    refine TGo.sub (ws' := [(h, .inr (4, MF p s m qcurrency qisWide qnegative qkept qratios qtext qnum qbase qden qquo qrem qother qunits qparts qover qgiven qread ((sz : Nat) : Int) ((b2 : Nat) : Int) (wrz false b2) ((q2 : Nat) : Int) be rc rn)), (qtext, .inl (cI, 48, .inl (fun j => iI (tx j)))), (qread, .inl (cI, 48, .inl rd2))]) [1, 2, 0] (by decide) rfl ?_
    exact hret _ _ ((false, b2), q2, rd2) dX4_need_13 ⟨by rw [hb2]; exact rdD_n (by omega), hq2, hRD2⟩
set_option maxHeartbeats 4000000 in
set_option maxRecDepth 100000 in
/-- readCode -/
theorem c_X4_readCode (E : TEn) (hE : EnvOk E) (h : Nat) (p s m : Int) (qcurrency qisWide qnegative qkept qratios qtext qnum qbase qden qquo qrem qother qunits qparts qover qgiven qread : Nat) (cI : ClassId) (sz a : Nat) (ok : Bool) (dc : Nat) (be rc rn : Int) (tx : Nat → Int) (htx : ∀ j, r32 (tx j)) (hs : sz ≤ 48) (ha : a ≤ sz) : Ctv vwCl E yX4_readCode wsX4_readCode (rmn 2 42) [.ref h] [(h, .inr (4, MF p s m qcurrency qisWide qnegative qkept qratios qtext qnum qbase qden qquo qrem qother qunits qparts qover qgiven qread ((sz : Nat) : Int) ((a : Nat) : Int) (wrz ok a) ((dc : Nat) : Int) be rc rn)), (qtext, .inl (cI, 48, .inl (fun j => iI (tx j))))] [(cI, .int)] (fun (u : (Bool × Nat) × Int) => u.1 = rdC tx sz (ok, a) ∧ (u.1.1 = true → u.2 = tx a - 65)) (fun u => [(h, .inr (4, MF p s m qcurrency qisWide qnegative qkept qratios qtext qnum qbase qden qquo qrem qother qunits qparts qover qgiven qread ((sz : Nat) : Int) ((u.1.2 : Nat) : Int) (wrz u.1.1 u.1.2) ((dc : Nat) : Int) be u.2 rn)), (qtext, .inl (cI, 48, .inl (fun j => iI (tx j))))]) := by
  refine enterv (by decide) (Nat.le_of_ble_eq_true rfl) ?_
  intro X O hK hin2 hret
  show TGo X [(h, .inr (4, MF p s m qcurrency qisWide qnegative qkept qratios qtext qnum qbase qden qquo qrem qother qunits qparts qover qgiven qread ((sz : Nat) : Int) ((a : Nat) : Int) (wrz ok a) ((dc : Nat) : Int) be rc rn)), (qtext, .inl (cI, 48, .inl (fun j => iI (tx j))))] 0 0 0 [(0, .ref h)] []
  have hw := wrz_c ok a
  have hta := htx a
  refine go_aload_n O dX4_readCode_0 rfl 0 rfl 1 rfl ?_
  refine go_get O hK dX4_readCode_1 hinX4 0 rfl rfl 21 (by decide) flX4_180 rfl 4 rfl ?_
  refine go_if_ge O dX4_readCode_4 50 (by decide) 7 rfl (by omega) (fun h4 => ?_) (fun h4 => ?_)
  · refine go_iconst O dX4_readCode_50 51 rfl ?_
    refine go_istore_n O dX4_readCode_51 rfl (by decide) [(1, .int (iI 0)), (0, .ref h)] rfl 52 rfl ?_
    refine go_iload_n O dX4_readCode_52 rfl 0 rfl 53 rfl ?_
    refine go_if_ne O dX4_readCode_53 61 (by decide) 56 rfl (by omega) (fun h53 => by omega) (fun h53 => ?_)
    refine go_aload_n O dX4_readCode_56 rfl 1 rfl 57 rfl ?_
    refine go_callvV (As := []) (rest := []) (wr := []) O hK hE (c_X4_fail E hE h p s m qcurrency qisWide qnegative qkept qratios qtext qnum qbase qden qquo qrem qother qunits qparts qover qgiven qread cI sz a ok dc be rc rn tx htx hs ha) mlX4_190 imX4_fail seX4_fail inX4 cdX4_fail 0 (by decide +kernel) ⟨Nat.le_of_ble_eq_true rfl, Nat.le_of_ble_eq_true rfl⟩ 0 rfl rfl [0] rfl [0, 1] rfl (by decide) [] rfl (by decide) (by decide) rfl rfl (Nat.le_of_ble_eq_true rfl) ⟨Nat.zero_le _, Nat.zero_le _⟩ dX4_readCode_57 60 rfl (fun u hu => ?_)
    show TGo X [(h, .inr (4, MF p s m qcurrency qisWide qnegative qkept qratios qtext qnum qbase qden qquo qrem qother qunits qparts qover qgiven qread ((sz : Nat) : Int) ((a : Nat) : Int) (wrz false a) ((dc : Nat) : Int) be rc rn)), (qtext, .inl (cI, 48, .inl (fun j => iI (tx j))))] 0 0 60 [(1, .int (iI 0)), (0, .ref h)] []
    exact hret _ _ ((false, a), rc) dX4_readCode_60 ⟨(rdC_n (by omega)).symm, fun e => by cases e⟩
  · refine go_aload_n O dX4_readCode_7 rfl 0 rfl 8 rfl ?_
    refine go_get O hK dX4_readCode_8 hinX4 0 rfl rfl 20 (by decide) flX4_183 rfl 11 rfl ?_
    refine go_aload_n O dX4_readCode_11 rfl 0 rfl 12 rfl ?_
    refine go_get O hK dX4_readCode_12 hinX4 0 rfl rfl 9 (by decide) flX4_166 rfl 15 rfl ?_
    refine go_icmp_ge O dX4_readCode_15 50 (by decide) 18 rfl (by omega) (by omega) (fun h15 => ?_) (fun h15 => ?_)
    · refine go_iconst O dX4_readCode_50 51 rfl ?_
      refine go_istore_n O dX4_readCode_51 rfl (by decide) [(1, .int (iI 0)), (0, .ref h)] rfl 52 rfl ?_
      refine go_iload_n O dX4_readCode_52 rfl 0 rfl 53 rfl ?_
      refine go_if_ne O dX4_readCode_53 61 (by decide) 56 rfl (by omega) (fun h53 => by omega) (fun h53 => ?_)
      refine go_aload_n O dX4_readCode_56 rfl 1 rfl 57 rfl ?_
      refine go_callvV (As := []) (rest := []) (wr := []) O hK hE (c_X4_fail E hE h p s m qcurrency qisWide qnegative qkept qratios qtext qnum qbase qden qquo qrem qother qunits qparts qover qgiven qread cI sz a ok dc be rc rn tx htx hs ha) mlX4_190 imX4_fail seX4_fail inX4 cdX4_fail 0 (by decide +kernel) ⟨Nat.le_of_ble_eq_true rfl, Nat.le_of_ble_eq_true rfl⟩ 0 rfl rfl [0] rfl [0, 1] rfl (by decide) [] rfl (by decide) (by decide) rfl rfl (Nat.le_of_ble_eq_true rfl) ⟨Nat.zero_le _, Nat.zero_le _⟩ dX4_readCode_57 60 rfl (fun u hu => ?_)
      show TGo X [(h, .inr (4, MF p s m qcurrency qisWide qnegative qkept qratios qtext qnum qbase qden qquo qrem qother qunits qparts qover qgiven qread ((sz : Nat) : Int) ((a : Nat) : Int) (wrz false a) ((dc : Nat) : Int) be rc rn)), (qtext, .inl (cI, 48, .inl (fun j => iI (tx j))))] 0 0 60 [(1, .int (iI 0)), (0, .ref h)] []
      exact hret _ _ ((false, a), rc) dX4_readCode_60 ⟨(rdC_n (by omega)).symm, fun e => by cases e⟩
    · refine go_aload_n O dX4_readCode_18 rfl 0 rfl 19 rfl ?_
      refine go_get O hK dX4_readCode_19 hinX4 0 rfl rfl 8 (by decide) flX4_26 rfl 22 rfl ?_
      refine go_aload_n O dX4_readCode_22 rfl 0 rfl 23 rfl ?_
      refine go_get O hK dX4_readCode_23 hinX4 0 rfl rfl 20 (by decide) flX4_183 rfl 26 rfl ?_
      refine go_iald O hK dX4_readCode_26 1 0 rfl rfl a rfl (by omega) (by omega) (tx a) rfl 27 rfl ?_
      refine go_bipush O dX4_readCode_27 (by decide) 29 rfl ?_
      refine go_icmp_lt O dX4_readCode_29 50 (by decide) 32 rfl (by omega) (by omega) (fun h29 => ?_) (fun h29 => ?_)
      · refine go_iconst O dX4_readCode_50 51 rfl ?_
        refine go_istore_n O dX4_readCode_51 rfl (by decide) [(1, .int (iI 0)), (0, .ref h)] rfl 52 rfl ?_
        refine go_iload_n O dX4_readCode_52 rfl 0 rfl 53 rfl ?_
        refine go_if_ne O dX4_readCode_53 61 (by decide) 56 rfl (by omega) (fun h53 => by omega) (fun h53 => ?_)
        refine go_aload_n O dX4_readCode_56 rfl 1 rfl 57 rfl ?_
        refine go_callvV (As := []) (rest := []) (wr := []) O hK hE (c_X4_fail E hE h p s m qcurrency qisWide qnegative qkept qratios qtext qnum qbase qden qquo qrem qother qunits qparts qover qgiven qread cI sz a ok dc be rc rn tx htx hs ha) mlX4_190 imX4_fail seX4_fail inX4 cdX4_fail 0 (by decide +kernel) ⟨Nat.le_of_ble_eq_true rfl, Nat.le_of_ble_eq_true rfl⟩ 0 rfl rfl [0] rfl [0, 1] rfl (by decide) [] rfl (by decide) (by decide) rfl rfl (Nat.le_of_ble_eq_true rfl) ⟨Nat.zero_le _, Nat.zero_le _⟩ dX4_readCode_57 60 rfl (fun u hu => ?_)
        show TGo X [(h, .inr (4, MF p s m qcurrency qisWide qnegative qkept qratios qtext qnum qbase qden qquo qrem qother qunits qparts qover qgiven qread ((sz : Nat) : Int) ((a : Nat) : Int) (wrz false a) ((dc : Nat) : Int) be rc rn)), (qtext, .inl (cI, 48, .inl (fun j => iI (tx j))))] 0 0 60 [(1, .int (iI 0)), (0, .ref h)] []
        exact hret _ _ ((false, a), rc) dX4_readCode_60 ⟨(rdC_n (by omega)).symm, fun e => by cases e⟩
      · refine go_aload_n O dX4_readCode_32 rfl 0 rfl 33 rfl ?_
        refine go_get O hK dX4_readCode_33 hinX4 0 rfl rfl 8 (by decide) flX4_26 rfl 36 rfl ?_
        refine go_aload_n O dX4_readCode_36 rfl 0 rfl 37 rfl ?_
        refine go_get O hK dX4_readCode_37 hinX4 0 rfl rfl 20 (by decide) flX4_183 rfl 40 rfl ?_
        refine go_iald O hK dX4_readCode_40 1 0 rfl rfl a rfl (by omega) (by omega) (tx a) rfl 41 rfl ?_
        refine go_bipush O dX4_readCode_41 (by decide) 43 rfl ?_
        refine go_icmp_gt O dX4_readCode_43 50 (by decide) 46 rfl (by omega) (by omega) (fun h43 => ?_) (fun h43 => ?_)
        · refine go_iconst O dX4_readCode_50 51 rfl ?_
          refine go_istore_n O dX4_readCode_51 rfl (by decide) [(1, .int (iI 0)), (0, .ref h)] rfl 52 rfl ?_
          refine go_iload_n O dX4_readCode_52 rfl 0 rfl 53 rfl ?_
          refine go_if_ne O dX4_readCode_53 61 (by decide) 56 rfl (by omega) (fun h53 => by omega) (fun h53 => ?_)
          refine go_aload_n O dX4_readCode_56 rfl 1 rfl 57 rfl ?_
          refine go_callvV (As := []) (rest := []) (wr := []) O hK hE (c_X4_fail E hE h p s m qcurrency qisWide qnegative qkept qratios qtext qnum qbase qden qquo qrem qother qunits qparts qover qgiven qread cI sz a ok dc be rc rn tx htx hs ha) mlX4_190 imX4_fail seX4_fail inX4 cdX4_fail 0 (by decide +kernel) ⟨Nat.le_of_ble_eq_true rfl, Nat.le_of_ble_eq_true rfl⟩ 0 rfl rfl [0] rfl [0, 1] rfl (by decide) [] rfl (by decide) (by decide) rfl rfl (Nat.le_of_ble_eq_true rfl) ⟨Nat.zero_le _, Nat.zero_le _⟩ dX4_readCode_57 60 rfl (fun u hu => ?_)
          show TGo X [(h, .inr (4, MF p s m qcurrency qisWide qnegative qkept qratios qtext qnum qbase qden qquo qrem qother qunits qparts qover qgiven qread ((sz : Nat) : Int) ((a : Nat) : Int) (wrz false a) ((dc : Nat) : Int) be rc rn)), (qtext, .inl (cI, 48, .inl (fun j => iI (tx j))))] 0 0 60 [(1, .int (iI 0)), (0, .ref h)] []
          exact hret _ _ ((false, a), rc) dX4_readCode_60 ⟨(rdC_n (by omega)).symm, fun e => by cases e⟩
        · refine go_iconst O dX4_readCode_46 47 rfl ?_
          refine go_goto O dX4_readCode_47 51 (by decide) ?_
          refine go_istore_n O dX4_readCode_51 rfl (by decide) [(1, .int (iI 1)), (0, .ref h)] rfl 52 rfl ?_
          refine go_iload_n O dX4_readCode_52 rfl 0 rfl 53 rfl ?_
          refine go_if_ne O dX4_readCode_53 61 (by decide) 56 rfl (by omega) (fun h53 => ?_) (fun h53 => by omega)
          refine go_aload_n O dX4_readCode_61 rfl 1 rfl 62 rfl ?_
          refine go_get O hK dX4_readCode_62 hinX4 0 rfl rfl 8 (by decide) flX4_26 rfl 65 rfl ?_
          refine go_aload_n O dX4_readCode_65 rfl 1 rfl 66 rfl ?_
          refine go_get O hK dX4_readCode_66 hinX4 0 rfl rfl 20 (by decide) flX4_183 rfl 69 rfl ?_
          refine go_iald O hK dX4_readCode_69 1 0 rfl rfl a rfl (by omega) (by omega) (tx a) rfl 70 rfl ?_
          refine go_istore_n O dX4_readCode_70 rfl (by decide) [(2, .int (iI (tx a))), (1, .int (iI 1)), (0, .ref h)] rfl 71 rfl ?_
          refine go_aload_n O dX4_readCode_71 rfl 2 rfl 72 rfl ?_
          refine go_iload_n O dX4_readCode_72 rfl 0 rfl 73 rfl ?_
          refine go_bipush O dX4_readCode_73 (by decide) 75 rfl ?_
          refine go_isub O dX4_readCode_75 ((tx a) - 65) rfl 76 rfl ?_
          refine go_put O hK dX4_readCode_76 hinX4 tyX4 tyX4_ok nmX4 0 rfl rfl 25 (by decide) flX4_203 rfl rfl rfl rfl (Nat.le_of_ble_eq_true rfl) [(h, .inr (4, MF p s m qcurrency qisWide qnegative qkept qratios qtext qnum qbase qden qquo qrem qother qunits qparts qover qgiven qread ((sz : Nat) : Int) ((a : Nat) : Int) (wrz ok a) ((dc : Nat) : Int) be ((tx a) - 65) rn)), (qtext, .inl (cI, 48, .inl (fun j => iI (tx j))))] rfl 79 rfl ?_
          refine go_aload_n O dX4_readCode_79 rfl 2 rfl 80 rfl ?_
          refine go_iload_n O dX4_readCode_80 rfl 0 rfl 81 rfl ?_
          refine go_callvV (As := [.int (iI (tx a))]) (rest := []) (wr := []) O hK hE (c_X4_expect E hE h p s m qcurrency qisWide qnegative qkept qratios qtext qnum qbase qden qquo qrem qother qunits qparts qover qgiven qread cI sz a ok dc be ((tx a - 65)) rn tx htx hs ha (tx a) (by omega)) mlX4_206 imX4_expect seX4_expect inX4 cdX4_expect 1 (by decide +kernel) ⟨Nat.le_of_ble_eq_true rfl, Nat.le_of_ble_eq_true rfl⟩ 0 rfl rfl [0] rfl [0, 1] rfl (by decide) [] rfl (by decide) (by decide) rfl rfl (Nat.le_of_ble_eq_true rfl) ⟨Nat.zero_le _, Nat.zero_le _⟩ dX4_readCode_81 84 rfl (fun u hu => ?_)
          obtain ⟨o1, b1⟩ := u
          have h1e := hu
          have h1el := rdE_le (tx := tx) (sz := sz) (c := (tx a)) (s := (ok, a)) ha
          rw [← h1e] at h1el
          replace h1el : b1 ≤ sz ∧ a ≤ b1 := h1el
          show TGo X [(h, .inr (4, MF p s m qcurrency qisWide qnegative qkept qratios qtext qnum qbase qden qquo qrem qother qunits qparts qover qgiven qread ((sz : Nat) : Int) ((b1 : Nat) : Int) (wrz o1 b1) ((dc : Nat) : Int) be ((tx a) - 65) rn)), (qtext, .inl (cI, 48, .inl (fun j => iI (tx j))))] 0 0 84 [(2, .int (iI (tx a))), (1, .int (iI 1)), (0, .ref h)] []
          refine go_aload_n O dX4_readCode_84 rfl 2 rfl 85 rfl ?_
          refine go_iload_n O dX4_readCode_85 rfl 0 rfl 86 rfl ?_
          refine go_callvV (As := [.int (iI (tx a))]) (rest := []) (wr := []) O hK hE (c_X4_expect E hE h p s m qcurrency qisWide qnegative qkept qratios qtext qnum qbase qden qquo qrem qother qunits qparts qover qgiven qread cI sz b1 o1 dc be ((tx a - 65)) rn tx htx hs h1el.1 (tx a) (by omega)) mlX4_206 imX4_expect seX4_expect inX4 cdX4_expect 1 (by decide +kernel) ⟨Nat.le_of_ble_eq_true rfl, Nat.le_of_ble_eq_true rfl⟩ 0 rfl rfl [0] rfl [0, 1] rfl (by decide) [] rfl (by decide) (by decide) rfl rfl (Nat.le_of_ble_eq_true rfl) ⟨Nat.zero_le _, Nat.zero_le _⟩ dX4_readCode_86 89 rfl (fun u hu => ?_)
          obtain ⟨o2, b2⟩ := u
          have h2e := hu
          have h2el := rdE_le (tx := tx) (sz := sz) (c := (tx a)) (s := (o1, b1)) h1el.1
          rw [← h2e] at h2el
          replace h2el : b2 ≤ sz ∧ b1 ≤ b2 := h2el
          show TGo X [(h, .inr (4, MF p s m qcurrency qisWide qnegative qkept qratios qtext qnum qbase qden qquo qrem qother qunits qparts qover qgiven qread ((sz : Nat) : Int) ((b2 : Nat) : Int) (wrz o2 b2) ((dc : Nat) : Int) be ((tx a) - 65) rn)), (qtext, .inl (cI, 48, .inl (fun j => iI (tx j))))] 0 0 89 [(2, .int (iI (tx a))), (1, .int (iI 1)), (0, .ref h)] []
          refine go_aload_n O dX4_readCode_89 rfl 2 rfl 90 rfl ?_
          refine go_iload_n O dX4_readCode_90 rfl 0 rfl 91 rfl ?_
          refine go_callvV (As := [.int (iI (tx a))]) (rest := []) (wr := []) O hK hE (c_X4_expect E hE h p s m qcurrency qisWide qnegative qkept qratios qtext qnum qbase qden qquo qrem qother qunits qparts qover qgiven qread cI sz b2 o2 dc be ((tx a - 65)) rn tx htx hs h2el.1 (tx a) (by omega)) mlX4_206 imX4_expect seX4_expect inX4 cdX4_expect 1 (by decide +kernel) ⟨Nat.le_of_ble_eq_true rfl, Nat.le_of_ble_eq_true rfl⟩ 0 rfl rfl [0] rfl [0, 1] rfl (by decide) [] rfl (by decide) (by decide) rfl rfl (Nat.le_of_ble_eq_true rfl) ⟨Nat.zero_le _, Nat.zero_le _⟩ dX4_readCode_91 94 rfl (fun u hu => ?_)
          obtain ⟨o3, b3⟩ := u
          have h3e := hu
          have h3el := rdE_le (tx := tx) (sz := sz) (c := (tx a)) (s := (o2, b2)) h2el.1
          rw [← h3e] at h3el
          replace h3el : b3 ≤ sz ∧ b2 ≤ b3 := h3el
          show TGo X [(h, .inr (4, MF p s m qcurrency qisWide qnegative qkept qratios qtext qnum qbase qden qquo qrem qother qunits qparts qover qgiven qread ((sz : Nat) : Int) ((b3 : Nat) : Int) (wrz o3 b3) ((dc : Nat) : Int) be ((tx a) - 65) rn)), (qtext, .inl (cI, 48, .inl (fun j => iI (tx j))))] 0 0 94 [(2, .int (iI (tx a))), (1, .int (iI 1)), (0, .ref h)] []
          exact hret _ _ ((o3, b3), tx a - 65) dX4_readCode_94 ⟨by rw [rdC_y (by omega), ← h1e, ← h2e]; exact h3e, fun _ => rfl⟩
set_option maxHeartbeats 4000000 in
set_option maxRecDepth 100000 in
/-- readBody -/
theorem c_X4_readBody (E : TEn) (hE : EnvOk E) (h : Nat) (p s m : Int) (qcurrency qisWide qnegative qkept qratios qtext qnum qbase qden qquo qrem qother qunits qparts qover qgiven qread : Nat) (cI : ClassId) (sz a : Nat) (ok : Bool) (dc : Nat) (be rc rn : Int) (tx : Nat → Int) (htx : ∀ j, r32 (tx j)) (hs : sz ≤ 48) (ha : a ≤ sz) (rd : Nat → Int32) (g : Bool) (hdc0 : dc = 0) (hbe : be = 0) : Ctv vwCl E yX4_readBody wsX4_readBody (rmn 3 64) [.ref h, .int (iI (bz g))] [(h, .inr (4, MF p s m qcurrency qisWide qnegative qkept qratios qtext qnum qbase qden qquo qrem qother qunits qparts qover qgiven qread ((sz : Nat) : Int) ((a : Nat) : Int) (wrz ok a) ((dc : Nat) : Int) be rc rn)), (qtext, .inl (cI, 48, .inl (fun j => iI (tx j)))), (qread, .inl (cI, 48, .inl rd))] [(cI, .int)] (fun (u : (Bool × Nat) × Nat × (Nat → Int32) × Nat × Int) => u.1 = rdB tx sz g (ok, a) ∧ u.2.1 ≤ u.1.2 ∧ RDk u.2.2.1 u.2.2.2.1 u.2.1 ∧ (u.1.1 = true → u.2.2.2.1 = rdBn tx sz g (ok, a) ∧ u.2.2.2.2 = ((rdBe tx sz g (ok, a) : Nat) : Int))) (fun u => [(h, .inr (4, MF p s m qcurrency qisWide qnegative qkept qratios qtext qnum qbase qden qquo qrem qother qunits qparts qover qgiven qread ((sz : Nat) : Int) ((u.1.2 : Nat) : Int) (wrz u.1.1 u.1.2) ((u.2.1 : Nat) : Int) u.2.2.2.2 rc rn)), (qtext, .inl (cI, 48, .inl (fun j => iI (tx j)))), (qread, .inl (cI, 48, .inl u.2.2.1))]) := by
  refine enterv (by decide) (Nat.le_of_ble_eq_true rfl) ?_
  intro X O hK hin2 hret
  show TGo X [(h, .inr (4, MF p s m qcurrency qisWide qnegative qkept qratios qtext qnum qbase qden qquo qrem qother qunits qparts qover qgiven qread ((sz : Nat) : Int) ((a : Nat) : Int) (wrz ok a) ((dc : Nat) : Int) be rc rn)), (qtext, .inl (cI, 48, .inl (fun j => iI (tx j)))), (qread, .inl (cI, 48, .inl rd))] 0 0 0 [(0, .ref h), (1, .int (iI (bz g)))] []
  have bg := bz_01 g
  obtain ⟨R, hR⟩ : ∃ y, y = rdW tx sz g (ok, a) := ⟨_, rfl⟩
  have hgm : (if g = true then 3 else 48) ≤ 48 := by split <;> omega
  have lp : ∀ (c : Nat) (f : Nat) (o : Bool) (b q : Nat) (rd1 : Nat → Int32) (N1 : Nat), c = f + 1 → sz ≤ b + f → (a ≤ b ∧ b ≤ sz) → q ≤ b → RDk rd1 N1 q → (bz o = 1 → N1 = tval tx a (b - a)) → (if g = true then rdG tx sz f (o, b) else (o, b)) = R → TGo X [(h, .inr (4, MF p s m qcurrency qisWide qnegative qkept qratios qtext qnum qbase qden qquo qrem qother qunits qparts qover qgiven qread ((sz : Nat) : Int) ((b : Nat) : Int) (wrz o b) ((q : Nat) : Int) be rc rn)), (qtext, .inl (cI, 48, .inl (fun j => iI (tx j)))), (qread, .inl (cI, 48, .inl rd1))] 0 0 15 [(0, .ref h), (1, .int (iI (bz g)))] [] := by
    intro c
    induction c with
    | zero => intro f o b q rd1 N1 h1 h2 hab hq hRD hN hG; omega
    | succ c ih =>
      intro f o b q rd1 N1 h1 h2 hab hq hRD hN hG
      refine go_iload_n O dX4_readBody_15 rfl 1 rfl 16 rfl ?_
      refine go_if_eq O dX4_readBody_16 47 (by decide) 19 rfl (by omega) (fun h16 => ?_) (fun h16 => ?_)
      · have hRo : R = (o, b) := (by rw [← hG, if_neg (by rw [bz_0.mp h16]; decide)])
        refine go_aload_n O dX4_readBody_47 rfl 0 rfl 48 rfl ?_
        refine go_bipush O dX4_readBody_48 (by decide) 50 rfl ?_
        refine go_calliV (As := [.int (iI 46)]) (rest := []) (wr := [(qread, .inl (cI, 48, .inl rd1))]) O hK hE (c_X4_sees E hE h p s m qcurrency qisWide qnegative qkept qratios qtext qnum qbase qden qquo qrem qother qunits qparts qover qgiven qread cI sz b o q be rc rn tx htx hs hab.2 46 (by omega)) mlX4_186 imX4_sees seX4_sees inX4 cdX4_sees 1 (by decide +kernel) ⟨Nat.le_of_ble_eq_true rfl, Nat.le_of_ble_eq_true rfl⟩ 0 rfl rfl [0] rfl [0, 1] rfl (by decide) [2] rfl (by decide) (by decide) rfl rfl (Nat.le_of_ble_eq_true rfl) ⟨Nat.zero_le _, Nat.zero_le _⟩ dX4_readBody_50 53 rfl (fun z u hu => ?_)
        subst hu
        show TGo X [(qread, .inl (cI, 48, .inl rd1)), (h, .inr (4, MF p s m qcurrency qisWide qnegative qkept qratios qtext qnum qbase qden qquo qrem qother qunits qparts qover qgiven qread ((sz : Nat) : Int) ((b : Nat) : Int) (wrz o b) ((q : Nat) : Int) be rc rn)), (qtext, .inl (cI, 48, .inl (fun j => iI (tx j))))] 0 0 53 [(0, .ref h), (1, .int (iI (bz g)))] [.int (iI (bz (o && decide (b < sz ∧ tx b = 46))))]
        refine TGo.sub (ws' := [(h, .inr (4, MF p s m qcurrency qisWide qnegative qkept qratios qtext qnum qbase qden qquo qrem qother qunits qparts qover qgiven qread ((sz : Nat) : Int) ((b : Nat) : Int) (wrz o b) ((q : Nat) : Int) be rc rn)), (qtext, .inl (cI, 48, .inl (fun j => iI (tx j)))), (qread, .inl (cI, 48, .inl rd1))]) [1, 2, 0] (by decide) rfl ?_
        refine go_if_eq O dX4_readBody_53 88 (by decide) 56 rfl (bz_r _) (fun h53 => ?_) (fun h53 => ?_)
        · have hnot := bdp_z h53
          have hP := rdP_n hnot
          have hB : rdB tx sz g (ok, a) = (o, b) := by unfold rdB; rw [← hR, hRo, hP.1]
          have hBe : rdBe tx sz g (ok, a) = 0 := by unfold rdBe; rw [← hR, hRo, hP.2]
          exact hret _ _ ((o, b), q, rd1, N1, be) dX4_readBody_88 ⟨hB.symm, hq, hRD, fun e => ⟨by unfold rdBn; rw [hBe, ← hR, hRo, Nat.pow_zero]; show N1 = tval tx a (b - a) * 1 + 0; rw [← hN (bz_1.mpr e)]; omega, by rw [hBe, hbe]; rfl⟩⟩
        · have hsee := bdp_ne h53
          have eo : o = true := bz_1.mp hsee.1
          subst eo
          have ew : wrz true b = wrz true (b + 1) := rfl
          refine go_aload_n O dX4_readBody_56 rfl 0 rfl 57 rfl ?_
          refine go_dup O dX4_readBody_57 rfl 58 rfl ?_
          refine go_get O hK dX4_readBody_58 hinX4 0 rfl rfl 20 (by decide) flX4_183 rfl 61 rfl ?_
          refine go_iconst O dX4_readBody_61 62 rfl ?_
          refine go_iadd O dX4_readBody_62 ((b + 1 : Nat) : Int) (by omega) 63 rfl ?_
          refine go_put O hK dX4_readBody_63 hinX4 tyX4 tyX4_ok nmX4 0 rfl rfl 20 (by decide) flX4_183 rfl rfl rfl rfl (Nat.le_of_ble_eq_true rfl) [(h, .inr (4, MF p s m qcurrency qisWide qnegative qkept qratios qtext qnum qbase qden qquo qrem qother qunits qparts qover qgiven qread ((sz : Nat) : Int) ((b + 1 : Nat) : Int) (wrz true b) ((q : Nat) : Int) be rc rn)), (qtext, .inl (cI, 48, .inl (fun j => iI (tx j)))), (qread, .inl (cI, 48, .inl rd1))] rfl 66 rfl ?_
          rw [ew]
          show TGo X [(h, .inr (4, MF p s m qcurrency qisWide qnegative qkept qratios qtext qnum qbase qden qquo qrem qother qunits qparts qover qgiven qread ((sz : Nat) : Int) ((b + 1 : Nat) : Int) (wrz true (b + 1)) ((q : Nat) : Int) be rc rn)), (qtext, .inl (cI, 48, .inl (fun j => iI (tx j)))), (qread, .inl (cI, 48, .inl rd1))] 0 0 66 [(0, .ref h), (1, .int (iI (bz g)))] []
          refine go_aload_n O dX4_readBody_66 rfl 0 rfl 67 rfl ?_
          refine go_get O hK dX4_readBody_67 hinX4 0 rfl rfl 23 (by decide) flX4_197 rfl 70 rfl ?_
          refine go_istore_n O dX4_readBody_70 rfl (by decide) [(2, .int (iI ((q : Nat) : Int))), (0, .ref h), (1, .int (iI (bz g)))] rfl 71 rfl ?_
          refine go_aload_n O dX4_readBody_71 rfl 1 rfl 72 rfl ?_
          refine go_iconst O dX4_readBody_72 73 rfl ?_
          refine go_bipush O dX4_readBody_73 (by decide) 75 rfl ?_
          refine go_callvV (As := [.int (iI 1), .int (iI 10)]) (rest := []) (wr := []) O hK hE (c_X4_need E hE h p s m qcurrency qisWide qnegative qkept qratios qtext qnum qbase qden qquo qrem qother qunits qparts qover qgiven qread cI sz (b + 1) true q be rc rn tx htx hs (by omega) rd1 N1 (by omega) hRD 1 10 (by omega) (by omega)) mlX4_209 imX4_need seX4_need inX4 cdX4_need 2 (by decide +kernel) ⟨Nat.le_of_ble_eq_true rfl, Nat.le_of_ble_eq_true rfl⟩ 0 rfl rfl [0] rfl [0, 1, 2] rfl (by decide) [] rfl (by decide) (by decide) rfl rfl (Nat.le_of_ble_eq_true rfl) ⟨Nat.zero_le _, Nat.zero_le _⟩ dX4_readBody_75 78 rfl (fun u hu => ?_)
          obtain ⟨⟨o4, b4⟩, q4, rd4⟩ := u
          obtain ⟨h4, h4q, h4r⟩ := hu
          replace h4 : (o4, b4) = rdD tx sz 1 10 (true, b + 1) := h4
          replace h4q : q4 = q + rdK tx sz 10 (true, b + 1) := h4q
          have h4l := rdK_le tx sz 10 (true, b + 1)
          have h4s := h4l.2 (by omega)
          replace h4s : b + 1 + rdK tx sz 10 (true, b + 1) ≤ sz := h4s
          have h4a : b4 = b + 1 + rdK tx sz 10 (true, b + 1) := congrArg Prod.snd h4
          have h4d : ∀ j, j < rdK tx sz 10 (true, b + 1) → 48 ≤ tx (b + 1 + j) := fun j hj => (rdK_d hj).1
          show TGo X [(h, .inr (4, MF p s m qcurrency qisWide qnegative qkept qratios qtext qnum qbase qden qquo qrem qother qunits qparts qover qgiven qread ((sz : Nat) : Int) ((b4 : Nat) : Int) (wrz o4 b4) ((q4 : Nat) : Int) be rc rn)), (qtext, .inl (cI, 48, .inl (fun j => iI (tx j)))), (qread, .inl (cI, 48, .inl rd4))] 0 0 78 [(2, .int (iI ((q : Nat) : Int))), (0, .ref h), (1, .int (iI (bz g)))] []
          have h4r2 : RDk rd4 (N1 * 10 ^ rdK tx sz 10 (true, b + 1) + tval tx (b + 1) (rdK tx sz 10 (true, b + 1))) q4 := by rw [h4q]; exact h4r
          refine go_aload_n O dX4_readBody_78 rfl 1 rfl 79 rfl ?_
          refine go_aload_n O dX4_readBody_79 rfl 1 rfl 80 rfl ?_
          refine go_get O hK dX4_readBody_80 hinX4 0 rfl rfl 23 (by decide) flX4_197 rfl 83 rfl ?_
          refine go_iload_n O dX4_readBody_83 rfl 0 rfl 84 rfl ?_
          refine go_isub O dX4_readBody_84 ((rdK tx sz 10 (true, b + 1) : Nat) : Int) (by omega) 85 rfl ?_
          refine go_put O hK dX4_readBody_85 hinX4 tyX4 tyX4_ok nmX4 0 rfl rfl 24 (by decide) flX4_212 rfl rfl rfl rfl (Nat.le_of_ble_eq_true rfl) [(h, .inr (4, MF p s m qcurrency qisWide qnegative qkept qratios qtext qnum qbase qden qquo qrem qother qunits qparts qover qgiven qread ((sz : Nat) : Int) ((b4 : Nat) : Int) (wrz o4 b4) ((q4 : Nat) : Int) ((rdK tx sz 10 (true, b + 1) : Nat) : Int) rc rn)), (qtext, .inl (cI, 48, .inl (fun j => iI (tx j)))), (qread, .inl (cI, 48, .inl rd4))] rfl 88 rfl ?_
          have hP := rdP_y hsee
          have hB : rdB tx sz g (ok, a) = (o4, b4) := by unfold rdB; rw [← hR, hRo, hP.1]; exact h4.symm
          have hBe : rdBe tx sz g (ok, a) = rdK tx sz 10 (true, b + 1) := by unfold rdBe; rw [← hR, hRo, hP.2]; rfl
          exact hret _ _ ((o4, b4), q4, rd4, _, ((rdK tx sz 10 (true, b + 1) : Nat) : Int)) dX4_readBody_88 ⟨hB.symm, by show q4 ≤ b4; omega, h4r2, fun _ => ⟨by unfold rdBn; rw [hBe, ← hR, hRo]; show _ = tval tx a (b - a) * _ + _; rw [← hN hsee.1], by rw [hBe]⟩⟩
      · refine go_aload_n O dX4_readBody_19 rfl 0 rfl 20 rfl ?_
        refine go_bipush O dX4_readBody_20 (by decide) 22 rfl ?_
        refine go_calliV (As := [.int (iI 44)]) (rest := []) (wr := [(qread, .inl (cI, 48, .inl rd1))]) O hK hE (c_X4_sees E hE h p s m qcurrency qisWide qnegative qkept qratios qtext qnum qbase qden qquo qrem qother qunits qparts qover qgiven qread cI sz b o q be rc rn tx htx hs hab.2 44 (by omega)) mlX4_186 imX4_sees seX4_sees inX4 cdX4_sees 1 (by decide +kernel) ⟨Nat.le_of_ble_eq_true rfl, Nat.le_of_ble_eq_true rfl⟩ 0 rfl rfl [0] rfl [0, 1] rfl (by decide) [2] rfl (by decide) (by decide) rfl rfl (Nat.le_of_ble_eq_true rfl) ⟨Nat.zero_le _, Nat.zero_le _⟩ dX4_readBody_22 25 rfl (fun z u hu => ?_)
        subst hu
        show TGo X [(qread, .inl (cI, 48, .inl rd1)), (h, .inr (4, MF p s m qcurrency qisWide qnegative qkept qratios qtext qnum qbase qden qquo qrem qother qunits qparts qover qgiven qread ((sz : Nat) : Int) ((b : Nat) : Int) (wrz o b) ((q : Nat) : Int) be rc rn)), (qtext, .inl (cI, 48, .inl (fun j => iI (tx j))))] 0 0 25 [(0, .ref h), (1, .int (iI (bz g)))] [.int (iI (bz (o && decide (b < sz ∧ tx b = 44))))]
        refine TGo.sub (ws' := [(h, .inr (4, MF p s m qcurrency qisWide qnegative qkept qratios qtext qnum qbase qden qquo qrem qother qunits qparts qover qgiven qread ((sz : Nat) : Int) ((b : Nat) : Int) (wrz o b) ((q : Nat) : Int) be rc rn)), (qtext, .inl (cI, 48, .inl (fun j => iI (tx j)))), (qread, .inl (cI, 48, .inl rd1))]) [1, 2, 0] (by decide) rfl ?_
        refine go_if_eq O dX4_readBody_25 47 (by decide) 28 rfl (bz_r _) (fun h25 => ?_) (fun h25 => ?_)
        · have hRo : R = (o, b) := (by rw [← hG, if_pos (bz_ne h16), rdG_e (bdp_z h25)])
          refine go_aload_n O dX4_readBody_47 rfl 0 rfl 48 rfl ?_
          refine go_bipush O dX4_readBody_48 (by decide) 50 rfl ?_
          refine go_calliV (As := [.int (iI 46)]) (rest := []) (wr := [(qread, .inl (cI, 48, .inl rd1))]) O hK hE (c_X4_sees E hE h p s m qcurrency qisWide qnegative qkept qratios qtext qnum qbase qden qquo qrem qother qunits qparts qover qgiven qread cI sz b o q be rc rn tx htx hs hab.2 46 (by omega)) mlX4_186 imX4_sees seX4_sees inX4 cdX4_sees 1 (by decide +kernel) ⟨Nat.le_of_ble_eq_true rfl, Nat.le_of_ble_eq_true rfl⟩ 0 rfl rfl [0] rfl [0, 1] rfl (by decide) [2] rfl (by decide) (by decide) rfl rfl (Nat.le_of_ble_eq_true rfl) ⟨Nat.zero_le _, Nat.zero_le _⟩ dX4_readBody_50 53 rfl (fun z u hu => ?_)
          subst hu
          show TGo X [(qread, .inl (cI, 48, .inl rd1)), (h, .inr (4, MF p s m qcurrency qisWide qnegative qkept qratios qtext qnum qbase qden qquo qrem qother qunits qparts qover qgiven qread ((sz : Nat) : Int) ((b : Nat) : Int) (wrz o b) ((q : Nat) : Int) be rc rn)), (qtext, .inl (cI, 48, .inl (fun j => iI (tx j))))] 0 0 53 [(0, .ref h), (1, .int (iI (bz g)))] [.int (iI (bz (o && decide (b < sz ∧ tx b = 46))))]
          refine TGo.sub (ws' := [(h, .inr (4, MF p s m qcurrency qisWide qnegative qkept qratios qtext qnum qbase qden qquo qrem qother qunits qparts qover qgiven qread ((sz : Nat) : Int) ((b : Nat) : Int) (wrz o b) ((q : Nat) : Int) be rc rn)), (qtext, .inl (cI, 48, .inl (fun j => iI (tx j)))), (qread, .inl (cI, 48, .inl rd1))]) [1, 2, 0] (by decide) rfl ?_
          refine go_if_eq O dX4_readBody_53 88 (by decide) 56 rfl (bz_r _) (fun h53 => ?_) (fun h53 => ?_)
          · have hnot := bdp_z h53
            have hP := rdP_n hnot
            have hB : rdB tx sz g (ok, a) = (o, b) := by unfold rdB; rw [← hR, hRo, hP.1]
            have hBe : rdBe tx sz g (ok, a) = 0 := by unfold rdBe; rw [← hR, hRo, hP.2]
            exact hret _ _ ((o, b), q, rd1, N1, be) dX4_readBody_88 ⟨hB.symm, hq, hRD, fun e => ⟨by unfold rdBn; rw [hBe, ← hR, hRo, Nat.pow_zero]; show N1 = tval tx a (b - a) * 1 + 0; rw [← hN (bz_1.mpr e)]; omega, by rw [hBe, hbe]; rfl⟩⟩
          · have hsee := bdp_ne h53
            have eo : o = true := bz_1.mp hsee.1
            subst eo
            have ew : wrz true b = wrz true (b + 1) := rfl
            refine go_aload_n O dX4_readBody_56 rfl 0 rfl 57 rfl ?_
            refine go_dup O dX4_readBody_57 rfl 58 rfl ?_
            refine go_get O hK dX4_readBody_58 hinX4 0 rfl rfl 20 (by decide) flX4_183 rfl 61 rfl ?_
            refine go_iconst O dX4_readBody_61 62 rfl ?_
            refine go_iadd O dX4_readBody_62 ((b + 1 : Nat) : Int) (by omega) 63 rfl ?_
            refine go_put O hK dX4_readBody_63 hinX4 tyX4 tyX4_ok nmX4 0 rfl rfl 20 (by decide) flX4_183 rfl rfl rfl rfl (Nat.le_of_ble_eq_true rfl) [(h, .inr (4, MF p s m qcurrency qisWide qnegative qkept qratios qtext qnum qbase qden qquo qrem qother qunits qparts qover qgiven qread ((sz : Nat) : Int) ((b + 1 : Nat) : Int) (wrz true b) ((q : Nat) : Int) be rc rn)), (qtext, .inl (cI, 48, .inl (fun j => iI (tx j)))), (qread, .inl (cI, 48, .inl rd1))] rfl 66 rfl ?_
            rw [ew]
            show TGo X [(h, .inr (4, MF p s m qcurrency qisWide qnegative qkept qratios qtext qnum qbase qden qquo qrem qother qunits qparts qover qgiven qread ((sz : Nat) : Int) ((b + 1 : Nat) : Int) (wrz true (b + 1)) ((q : Nat) : Int) be rc rn)), (qtext, .inl (cI, 48, .inl (fun j => iI (tx j)))), (qread, .inl (cI, 48, .inl rd1))] 0 0 66 [(0, .ref h), (1, .int (iI (bz g)))] []
            refine go_aload_n O dX4_readBody_66 rfl 0 rfl 67 rfl ?_
            refine go_get O hK dX4_readBody_67 hinX4 0 rfl rfl 23 (by decide) flX4_197 rfl 70 rfl ?_
            refine go_istore_n O dX4_readBody_70 rfl (by decide) [(2, .int (iI ((q : Nat) : Int))), (0, .ref h), (1, .int (iI (bz g)))] rfl 71 rfl ?_
            refine go_aload_n O dX4_readBody_71 rfl 1 rfl 72 rfl ?_
            refine go_iconst O dX4_readBody_72 73 rfl ?_
            refine go_bipush O dX4_readBody_73 (by decide) 75 rfl ?_
            refine go_callvV (As := [.int (iI 1), .int (iI 10)]) (rest := []) (wr := []) O hK hE (c_X4_need E hE h p s m qcurrency qisWide qnegative qkept qratios qtext qnum qbase qden qquo qrem qother qunits qparts qover qgiven qread cI sz (b + 1) true q be rc rn tx htx hs (by omega) rd1 N1 (by omega) hRD 1 10 (by omega) (by omega)) mlX4_209 imX4_need seX4_need inX4 cdX4_need 2 (by decide +kernel) ⟨Nat.le_of_ble_eq_true rfl, Nat.le_of_ble_eq_true rfl⟩ 0 rfl rfl [0] rfl [0, 1, 2] rfl (by decide) [] rfl (by decide) (by decide) rfl rfl (Nat.le_of_ble_eq_true rfl) ⟨Nat.zero_le _, Nat.zero_le _⟩ dX4_readBody_75 78 rfl (fun u hu => ?_)
            obtain ⟨⟨o4, b4⟩, q4, rd4⟩ := u
            obtain ⟨h4, h4q, h4r⟩ := hu
            replace h4 : (o4, b4) = rdD tx sz 1 10 (true, b + 1) := h4
            replace h4q : q4 = q + rdK tx sz 10 (true, b + 1) := h4q
            have h4l := rdK_le tx sz 10 (true, b + 1)
            have h4s := h4l.2 (by omega)
            replace h4s : b + 1 + rdK tx sz 10 (true, b + 1) ≤ sz := h4s
            have h4a : b4 = b + 1 + rdK tx sz 10 (true, b + 1) := congrArg Prod.snd h4
            have h4d : ∀ j, j < rdK tx sz 10 (true, b + 1) → 48 ≤ tx (b + 1 + j) := fun j hj => (rdK_d hj).1
            show TGo X [(h, .inr (4, MF p s m qcurrency qisWide qnegative qkept qratios qtext qnum qbase qden qquo qrem qother qunits qparts qover qgiven qread ((sz : Nat) : Int) ((b4 : Nat) : Int) (wrz o4 b4) ((q4 : Nat) : Int) be rc rn)), (qtext, .inl (cI, 48, .inl (fun j => iI (tx j)))), (qread, .inl (cI, 48, .inl rd4))] 0 0 78 [(2, .int (iI ((q : Nat) : Int))), (0, .ref h), (1, .int (iI (bz g)))] []
            have h4r2 : RDk rd4 (N1 * 10 ^ rdK tx sz 10 (true, b + 1) + tval tx (b + 1) (rdK tx sz 10 (true, b + 1))) q4 := by rw [h4q]; exact h4r
            refine go_aload_n O dX4_readBody_78 rfl 1 rfl 79 rfl ?_
            refine go_aload_n O dX4_readBody_79 rfl 1 rfl 80 rfl ?_
            refine go_get O hK dX4_readBody_80 hinX4 0 rfl rfl 23 (by decide) flX4_197 rfl 83 rfl ?_
            refine go_iload_n O dX4_readBody_83 rfl 0 rfl 84 rfl ?_
            refine go_isub O dX4_readBody_84 ((rdK tx sz 10 (true, b + 1) : Nat) : Int) (by omega) 85 rfl ?_
            refine go_put O hK dX4_readBody_85 hinX4 tyX4 tyX4_ok nmX4 0 rfl rfl 24 (by decide) flX4_212 rfl rfl rfl rfl (Nat.le_of_ble_eq_true rfl) [(h, .inr (4, MF p s m qcurrency qisWide qnegative qkept qratios qtext qnum qbase qden qquo qrem qother qunits qparts qover qgiven qread ((sz : Nat) : Int) ((b4 : Nat) : Int) (wrz o4 b4) ((q4 : Nat) : Int) ((rdK tx sz 10 (true, b + 1) : Nat) : Int) rc rn)), (qtext, .inl (cI, 48, .inl (fun j => iI (tx j)))), (qread, .inl (cI, 48, .inl rd4))] rfl 88 rfl ?_
            have hP := rdP_y hsee
            have hB : rdB tx sz g (ok, a) = (o4, b4) := by unfold rdB; rw [← hR, hRo, hP.1]; exact h4.symm
            have hBe : rdBe tx sz g (ok, a) = rdK tx sz 10 (true, b + 1) := by unfold rdBe; rw [← hR, hRo, hP.2]; rfl
            exact hret _ _ ((o4, b4), q4, rd4, _, ((rdK tx sz 10 (true, b + 1) : Nat) : Int)) dX4_readBody_88 ⟨hB.symm, by show q4 ≤ b4; omega, h4r2, fun _ => ⟨by unfold rdBn; rw [hBe, ← hR, hRo]; show _ = tval tx a (b - a) * _ + _; rw [← hN hsee.1], by rw [hBe]⟩⟩
        · have hyes := bdp_ne h25
          obtain ⟨f2, rfl⟩ : ∃ f2, f = f2 + 1 := ⟨f - 1, by omega⟩
          have eo : o = true := bz_1.mp hyes.1
          subst eo
          have ew : wrz true b = wrz true (b + 1) := rfl
          refine go_aload_n O dX4_readBody_28 rfl 0 rfl 29 rfl ?_
          refine go_dup O dX4_readBody_29 rfl 30 rfl ?_
          refine go_get O hK dX4_readBody_30 hinX4 0 rfl rfl 20 (by decide) flX4_183 rfl 33 rfl ?_
          refine go_iconst O dX4_readBody_33 34 rfl ?_
          refine go_iadd O dX4_readBody_34 ((b + 1 : Nat) : Int) (by omega) 35 rfl ?_
          refine go_put O hK dX4_readBody_35 hinX4 tyX4 tyX4_ok nmX4 0 rfl rfl 20 (by decide) flX4_183 rfl rfl rfl rfl (Nat.le_of_ble_eq_true rfl) [(h, .inr (4, MF p s m qcurrency qisWide qnegative qkept qratios qtext qnum qbase qden qquo qrem qother qunits qparts qover qgiven qread ((sz : Nat) : Int) ((b + 1 : Nat) : Int) (wrz true b) ((q : Nat) : Int) be rc rn)), (qtext, .inl (cI, 48, .inl (fun j => iI (tx j)))), (qread, .inl (cI, 48, .inl rd1))] rfl 38 rfl ?_
          rw [ew]
          show TGo X [(h, .inr (4, MF p s m qcurrency qisWide qnegative qkept qratios qtext qnum qbase qden qquo qrem qother qunits qparts qover qgiven qread ((sz : Nat) : Int) ((b + 1 : Nat) : Int) (wrz true (b + 1)) ((q : Nat) : Int) be rc rn)), (qtext, .inl (cI, 48, .inl (fun j => iI (tx j)))), (qread, .inl (cI, 48, .inl rd1))] 0 0 38 [(0, .ref h), (1, .int (iI (bz g)))] []
          refine go_aload_n O dX4_readBody_38 rfl 0 rfl 39 rfl ?_
          refine go_iconst O dX4_readBody_39 40 rfl ?_
          refine go_iconst O dX4_readBody_40 41 rfl ?_
          refine go_callvV (As := [.int (iI 3), .int (iI 3)]) (rest := []) (wr := []) O hK hE (c_X4_need E hE h p s m qcurrency qisWide qnegative qkept qratios qtext qnum qbase qden qquo qrem qother qunits qparts qover qgiven qread cI sz (b + 1) true q be rc rn tx htx hs (by omega) rd1 N1 (by omega) hRD 3 3 (by omega) (by omega)) mlX4_209 imX4_need seX4_need inX4 cdX4_need 2 (by decide +kernel) ⟨Nat.le_of_ble_eq_true rfl, Nat.le_of_ble_eq_true rfl⟩ 0 rfl rfl [0] rfl [0, 1, 2] rfl (by decide) [] rfl (by decide) (by decide) rfl rfl (Nat.le_of_ble_eq_true rfl) ⟨Nat.zero_le _, Nat.zero_le _⟩ dX4_readBody_41 44 rfl (fun u hu => ?_)
          obtain ⟨⟨o3, b3⟩, q3, rd3⟩ := u
          obtain ⟨h3, h3q, h3r⟩ := hu
          replace h3 : (o3, b3) = rdD tx sz 3 3 (true, b + 1) := h3
          replace h3q : q3 = q + rdK tx sz 3 (true, b + 1) := h3q
          have h3l := rdK_le tx sz 3 (true, b + 1)
          have h3s := h3l.2 (by omega)
          replace h3s : b + 1 + rdK tx sz 3 (true, b + 1) ≤ sz := h3s
          have h3a : b3 = b + 1 + rdK tx sz 3 (true, b + 1) := congrArg Prod.snd h3
          have h3d : ∀ j, j < rdK tx sz 3 (true, b + 1) → 48 ≤ tx (b + 1 + j) := fun j hj => (rdK_d hj).1
          show TGo X [(h, .inr (4, MF p s m qcurrency qisWide qnegative qkept qratios qtext qnum qbase qden qquo qrem qother qunits qparts qover qgiven qread ((sz : Nat) : Int) ((b3 : Nat) : Int) (wrz o3 b3) ((q3 : Nat) : Int) be rc rn)), (qtext, .inl (cI, 48, .inl (fun j => iI (tx j)))), (qread, .inl (cI, 48, .inl rd3))] 0 0 44 [(0, .ref h), (1, .int (iI (bz g)))] []
          have h3r' : RDk rd3 (N1 * 10 ^ rdK tx sz 3 (true, b + 1) + tval tx (b + 1) (rdK tx sz 3 (true, b + 1))) q3 := by rw [h3q]; exact h3r
          refine go_goto O dX4_readBody_44 15 (by decide) ?_
          refine TGo.lsub (lv' := [(0, .ref h), (1, .int (iI (bz g)))]) [0, 1] rfl ?_
          exact ih f2 o3 b3 q3 rd3 _ (by omega) (by omega) ⟨by omega, by omega⟩ (by omega) h3r' (fun _ => by rw [hN rfl]; have e := tval_g (a := a) (K := rdK tx sz 3 (true, b + 1)) (by omega) hyes.2.2 h3d; rw [e, h3a]) (by rw [← hG, if_pos (bz_ne h16), if_pos (bz_ne h16), rdG_s hyes.2, h3])
  refine go_aload_n O dX4_readBody_0 rfl 0 rfl 1 rfl ?_
  refine go_iconst O dX4_readBody_1 2 rfl ?_
  refine go_iload_n O dX4_readBody_2 rfl 1 rfl 3 rfl ?_
  refine go_if_eq O dX4_readBody_3 10 (by decide) 6 rfl (by omega) (fun h3 => ?_) (fun h3 => ?_)
  · refine go_bipush O dX4_readBody_10 (by decide) 12 rfl ?_
    refine TGo.topi (y := (((if g = true then 3 else 48) : Nat) : Int)) (by rw [if_neg (by rw [bz_0.mp h3]; decide)]; rfl) ?_
    refine go_callvV (As := [.int (iI 1), .int (iI (((if g = true then 3 else 48) : Nat) : Int))]) (rest := []) (wr := []) O hK hE (c_X4_need E hE h p s m qcurrency qisWide qnegative qkept qratios qtext qnum qbase qden qquo qrem qother qunits qparts qover qgiven qread cI sz a ok dc be rc rn tx htx hs ha rd 0 (by omega) (by rw [hdc0]; exact RDk_0) 1 ((if g = true then 3 else 48)) (by omega) hgm) mlX4_209 imX4_need seX4_need inX4 cdX4_need 2 (by decide +kernel) ⟨Nat.le_of_ble_eq_true rfl, Nat.le_of_ble_eq_true rfl⟩ 0 rfl rfl [0] rfl [0, 1, 2] rfl (by decide) [] rfl (by decide) (by decide) rfl rfl (Nat.le_of_ble_eq_true rfl) ⟨Nat.zero_le _, Nat.zero_le _⟩ dX4_readBody_12 15 rfl (fun u hu => ?_)
    obtain ⟨⟨o1, b1⟩, q1, rd1⟩ := u
    obtain ⟨h1, h1q, h1r⟩ := hu
    replace h1 : (o1, b1) = rdD tx sz 1 ((if g = true then 3 else 48)) (ok, a) := h1
    replace h1q : q1 = dc + rdK tx sz ((if g = true then 3 else 48)) (ok, a) := h1q
    have h1l := rdK_le tx sz ((if g = true then 3 else 48)) (ok, a)
    have h1s := h1l.2 ha
    replace h1s : a + rdK tx sz ((if g = true then 3 else 48)) (ok, a) ≤ sz := h1s
    have h1a : b1 = a + rdK tx sz ((if g = true then 3 else 48)) (ok, a) := congrArg Prod.snd h1
    have h1d : ∀ j, j < rdK tx sz ((if g = true then 3 else 48)) (ok, a) → 48 ≤ tx (a + j) := fun j hj => (rdK_d hj).1
    show TGo X [(h, .inr (4, MF p s m qcurrency qisWide qnegative qkept qratios qtext qnum qbase qden qquo qrem qother qunits qparts qover qgiven qread ((sz : Nat) : Int) ((b1 : Nat) : Int) (wrz o1 b1) ((q1 : Nat) : Int) be rc rn)), (qtext, .inl (cI, 48, .inl (fun j => iI (tx j)))), (qread, .inl (cI, 48, .inl rd1))] 0 0 15 [(0, .ref h), (1, .int (iI (bz g)))] []
    refine TGo.lsub (lv' := [(0, .ref h), (1, .int (iI (bz g)))]) [0, 1] rfl ?_
    exact lp 49 48 o1 b1 q1 rd1 _ rfl (by omega) ⟨by omega, by omega⟩ (by omega) (by rw [h1q]; exact h1r) (fun _ => by rw [h1a, Nat.add_sub_cancel_left, Nat.zero_mul, Nat.zero_add]) (by rw [hR, h1]; unfold rdW; rw [if_neg (by rw [bz_0.mp h3]; decide), if_neg (by rw [bz_0.mp h3]; decide), if_neg (by rw [bz_0.mp h3]; decide)])
  · refine go_iconst O dX4_readBody_6 7 rfl ?_
    refine go_goto O dX4_readBody_7 12 (by decide) ?_
    refine TGo.topi (y := (((if g = true then 3 else 48) : Nat) : Int)) (by rw [if_pos (bz_ne h3)]; rfl) ?_
    refine go_callvV (As := [.int (iI 1), .int (iI (((if g = true then 3 else 48) : Nat) : Int))]) (rest := []) (wr := []) O hK hE (c_X4_need E hE h p s m qcurrency qisWide qnegative qkept qratios qtext qnum qbase qden qquo qrem qother qunits qparts qover qgiven qread cI sz a ok dc be rc rn tx htx hs ha rd 0 (by omega) (by rw [hdc0]; exact RDk_0) 1 ((if g = true then 3 else 48)) (by omega) hgm) mlX4_209 imX4_need seX4_need inX4 cdX4_need 2 (by decide +kernel) ⟨Nat.le_of_ble_eq_true rfl, Nat.le_of_ble_eq_true rfl⟩ 0 rfl rfl [0] rfl [0, 1, 2] rfl (by decide) [] rfl (by decide) (by decide) rfl rfl (Nat.le_of_ble_eq_true rfl) ⟨Nat.zero_le _, Nat.zero_le _⟩ dX4_readBody_12 15 rfl (fun u hu => ?_)
    obtain ⟨⟨o1, b1⟩, q1, rd1⟩ := u
    obtain ⟨h1, h1q, h1r⟩ := hu
    replace h1 : (o1, b1) = rdD tx sz 1 ((if g = true then 3 else 48)) (ok, a) := h1
    replace h1q : q1 = dc + rdK tx sz ((if g = true then 3 else 48)) (ok, a) := h1q
    have h1l := rdK_le tx sz ((if g = true then 3 else 48)) (ok, a)
    have h1s := h1l.2 ha
    replace h1s : a + rdK tx sz ((if g = true then 3 else 48)) (ok, a) ≤ sz := h1s
    have h1a : b1 = a + rdK tx sz ((if g = true then 3 else 48)) (ok, a) := congrArg Prod.snd h1
    have h1d : ∀ j, j < rdK tx sz ((if g = true then 3 else 48)) (ok, a) → 48 ≤ tx (a + j) := fun j hj => (rdK_d hj).1
    show TGo X [(h, .inr (4, MF p s m qcurrency qisWide qnegative qkept qratios qtext qnum qbase qden qquo qrem qother qunits qparts qover qgiven qread ((sz : Nat) : Int) ((b1 : Nat) : Int) (wrz o1 b1) ((q1 : Nat) : Int) be rc rn)), (qtext, .inl (cI, 48, .inl (fun j => iI (tx j)))), (qread, .inl (cI, 48, .inl rd1))] 0 0 15 [(0, .ref h), (1, .int (iI (bz g)))] []
    refine TGo.lsub (lv' := [(0, .ref h), (1, .int (iI (bz g)))]) [0, 1] rfl ?_
    exact lp 49 48 o1 b1 q1 rd1 _ rfl (by omega) ⟨by omega, by omega⟩ (by omega) (by rw [h1q]; exact h1r) (fun _ => by rw [h1a, Nat.add_sub_cancel_left, Nat.zero_mul, Nat.zero_add]) (by rw [hR, h1]; unfold rdW; rw [if_pos (bz_ne h3), if_pos (bz_ne h3), if_pos (bz_ne h3)])
