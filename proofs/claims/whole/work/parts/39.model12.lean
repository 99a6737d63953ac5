/-! Shares: sums, counts, the order in which the units that are left are given out. -/
def tsm (f : Nat → Nat) : Nat → Nat
  | 0 => 0
  | n + 1 => tsm f n + f n
def tct (p : Nat → Bool) : Nat → Nat
  | 0 => 0
  | n + 1 => tct p n + (p n).toNat
def tbf (o : Nat → Nat) (j i : Nat) : Bool := decide (o i < o j ∨ (o j = o i ∧ j < i))
def trk (o : Nat → Nat) (n i : Nat) : Nat := tct (fun j => tbf o j i) n
theorem tbf_iff {o : Nat → Nat} {j i : Nat} : tbf o j i = true ↔ (o i < o j ∨ (o j = o i ∧ j < i)) := by unfold tbf; exact decide_eq_true_iff
theorem tct_le {p g : Nat → Bool} {n : Nat} (h : ∀ j, j < n → g j = true → p j = true) : tct g n ≤ tct p n := by
  induction n with
  | zero => exact Nat.le_refl _
  | succ n ih =>
    have h1 := ih (fun j hj => h j (by omega))
    have h2 := h n (by omega)
    show tct g n + (g n).toNat ≤ tct p n + (p n).toNat
    cases hg : g n
    · show tct g n + 0 ≤ _; omega
    · rw [h2 hg]; show tct g n + 1 ≤ tct p n + 1; omega
theorem tct_lt {p g : Nat → Bool} {n i : Nat} (h : ∀ j, j < n → p j = true → g j = true) (hi : i < n) (h1 : g i = true) (h2 : p i = false) : tct p n < tct g n := by
  induction n with
  | zero => omega
  | succ n ih =>
    show tct p n + (p n).toNat < tct g n + (g n).toNat
    by_cases e : i = n
    · subst e
      have h3 := tct_le (p := g) (g := p) (n := i) (fun j hj => h j (by omega))
      rw [h1, h2]
      show tct p i + 0 < tct g i + 1
      omega
    · have h3 := ih (fun j hj => h j (by omega)) (by omega)
      have h4 := h n (by omega)
      cases hp : p n
      · show tct p n + 0 < _; omega
      · rw [h4 hp]; show tct p n + 1 < tct g n + 1; omega
theorem tct_all {g : Nat → Bool} {n : Nat} (h : ∀ j, j < n → g j = true) : tct g n = n := by
  induction n with
  | zero => rfl
  | succ n ih =>
    show tct g n + (g n).toNat = n + 1
    rw [ih (fun j hj => h j (by omega)), h n (by omega)]; rfl
theorem tct_none {g : Nat → Bool} {n : Nat} (h : ∀ j, j < n → g j = false) : tct g n = 0 := by
  induction n with
  | zero => rfl
  | succ n ih =>
    show tct g n + (g n).toNat = 0
    rw [ih (fun j hj => h j (by omega)), h n (by omega)]; rfl
def gup (g : Nat → Bool) (b : Nat) : Nat → Bool := fun j => if j = b then true else g j
theorem tct_up {g : Nat → Bool} {n b : Nat} (hb : b < n) (hg : g b = false) : tct (gup g b) n = tct g n + 1 := by
  induction n with
  | zero => omega
  | succ n ih =>
    show tct (gup g b) n + (gup g b n).toNat = tct g n + (g n).toNat + 1
    by_cases e : b = n
    · subst e
      have h1 : tct (gup g b) b = tct g b := by
        have h2 : ∀ m, m ≤ b → tct (gup g b) m = tct g m := by
          intro m
          induction m with
          | zero => intro _; rfl
          | succ m ih2 =>
            intro hm
            show tct (gup g b) m + (gup g b m).toNat = tct g m + (g m).toNat
            rw [ih2 (by omega)]
            unfold gup
            rw [if_neg (by omega)]
        exact h2 b (Nat.le_refl _)
      rw [h1, hg]
      unfold gup
      rw [if_pos rfl]
      rfl
    · rw [ih (by omega)]
      have h3 : gup g b n = g n := by unfold gup; rw [if_neg (by omega)]
      rw [h3]
      omega
def SelOk (o : Nat → Nat) (n k : Nat) (g : Nat → Bool) : Prop := tct g n = k ∧ ∀ i j, i < n → j < n → g i = true → g j = false → tbf o i j = true
theorem Sel_0 {o : Nat → Nat} {n : Nat} : SelOk o n 0 (fun _ => false) := ⟨tct_none (fun _ _ => rfl), fun i j _ _ h => by cases h⟩
theorem Sel_end {o : Nat → Nat} {n k i : Nat} {g : Nat → Bool} (h : SelOk o n k g) (hi : i < n) : g i = decide (trk o n i < k) := by
  cases hg : g i
  · refine (decide_eq_false ?_).symm
    have h1 := tct_le (p := fun j => tbf o j i) (g := g) (n := n) (fun j hj e => h.2 j i hj hi e hg)
    have h2 := h.1
    unfold trk
    omega
  · refine (decide_eq_true ?_).symm
    have h2 := h.1
    rw [← h2]
    refine tct_lt (i := i) (fun j hj e => ?_) hi hg ?_
    · cases hj2 : g j
      · have h3 := tbf_iff.mp (h.2 i j hi hj hg hj2)
        have h4 := tbf_iff.mp e
        omega
      · rfl
    · refine Bool.eq_false_iff.mpr (fun e => ?_)
      have h4 := tbf_iff.mp e
      omega
def Bst (o : Nat → Nat) (g : Nat → Bool) (i : Nat) (x : Int) : Prop := (x = -1 ∧ ∀ j, j < i → g j = true) ∨ (∃ b : Nat, x = (b : Int) ∧ b < i ∧ g b = false ∧ ∀ j, j < i → g j = false → j ≠ b → tbf o b j = true)
theorem Bst_0 {o : Nat → Nat} {g : Nat → Bool} : Bst o g 0 (-1) := Or.inl ⟨rfl, fun j hj => absurd hj (by omega)⟩
theorem Bst_keep {o : Nat → Nat} {g : Nat → Bool} {i : Nat} {x : Int} (h : Bst o g i x) (hg : g i = true) : Bst o g (i + 1) x := by
  rcases h with ⟨h1, h2⟩ | ⟨b, h1, h2, h3, h4⟩
  · refine Or.inl ⟨h1, fun j hj => ?_⟩
    by_cases e : j = i
    · rw [e]; exact hg
    · exact h2 j (by omega)
  · refine Or.inr ⟨b, h1, by omega, h3, fun j hj hj2 hj3 => ?_⟩
    by_cases e : j = i
    · rw [e, hg] at hj2; cases hj2
    · exact h4 j (by omega) hj2 hj3
theorem Bst_new {o : Nat → Nat} {g : Nat → Bool} {i : Nat} {x : Int} (h : Bst o g i x) (hg : g i = false) (hx : x < 0 ∨ ∃ b : Nat, x = (b : Int) ∧ o b < o i) : Bst o g (i + 1) (i : Int) := by
  refine Or.inr ⟨i, rfl, by omega, hg, fun j hj hj2 hj3 => ?_⟩
  rcases h with ⟨h1, h2⟩ | ⟨b, h1, h2, h3, h4⟩
  · have := h2 j (by omega)
    rw [this] at hj2; cases hj2
  · rcases hx with hx | ⟨b', hb', hx⟩
    · omega
    · have eb : b' = b := by omega
      subst eb
      by_cases e : j = b'
      · rw [e]; exact tbf_iff.mpr (Or.inl hx)
      · have h5 := tbf_iff.mp (h4 j (by omega) hj2 e)
        exact tbf_iff.mpr (Or.inl (by omega))
theorem Bst_stay {o : Nat → Nat} {g : Nat → Bool} {i b : Nat} (h : Bst o g i (b : Int)) (hg : g i = false) (hx : o i ≤ o b) : Bst o g (i + 1) (b : Int) := by
  rcases h with ⟨h1, h2⟩ | ⟨b', h1, h2, h3, h4⟩
  · omega
  · have eb : b' = b := by omega
    subst eb
    refine Or.inr ⟨b', rfl, by omega, h3, fun j hj hj2 hj3 => ?_⟩
    by_cases e : j = i
    · rw [e]; exact tbf_iff.mpr (by omega)
    · exact h4 j (by omega) hj2 hj3
theorem Bst_end {o : Nat → Nat} {g : Nat → Bool} {n k : Nat} {x : Int} (h : Bst o g n x) (hs : SelOk o n k g) (hk : k < n) : ∃ b : Nat, x = (b : Int) ∧ b < n ∧ SelOk o n (k + 1) (gup g b) := by
  rcases h with ⟨h1, h2⟩ | ⟨b, h1, h2, h3, h4⟩
  · have := tct_all h2
    have := hs.1
    omega
  · refine ⟨b, h1, h2, by rw [tct_up h2 h3, hs.1], fun i j hi hj e1 e2 => ?_⟩
    have hjb : j ≠ b := by
      intro e
      unfold gup at e2
      rw [if_pos e] at e2
      cases e2
    have hj2 : g j = false := by
      unfold gup at e2
      rw [if_neg hjb] at e2
      exact e2
    by_cases e : i = b
    · rw [e]; exact h4 j hj hj2 hjb
    · unfold gup at e1
      rw [if_neg e] at e1
      exact hs.2 i j hi hj e1 hj2
theorem tsm_mul (U : Nat) (w : Nat → Nat) (n : Nat) : tsm (fun i => U * w i) n = U * tsm w n := by
  induction n with
  | zero => rfl
  | succ n ih => show tsm (fun i => U * w i) n + U * w n = U * (tsm w n + w n); rw [ih, Nat.mul_add]
theorem tsm_dm (f : Nat → Nat) (a n : Nat) : tsm f n = a * tsm (fun i => f i / a) n + tsm (fun i => f i % a) n := by
  induction n with
  | zero => rfl
  | succ n ih =>
    show tsm f n + f n = a * (tsm (fun i => f i / a) n + f n / a) + (tsm (fun i => f i % a) n + f n % a)
    have h := Nat.div_add_mod (f n) a
    rw [ih, Nat.mul_add]
    omega
theorem tsm_le {f : Nat → Nat} {n m : Nat} (h : n ≤ m) : tsm f n ≤ tsm f m := by
  induction m with
  | zero => have e : n = 0 := by omega
            subst e; exact Nat.le_refl _
  | succ m ih =>
    by_cases e : n = m + 1
    · subst e; exact Nat.le_refl _
    · have := ih (by omega)
      show _ ≤ tsm f m + f m
      omega
theorem tsm_i {f : Nat → Nat} {n i : Nat} (h : i < n) : f i ≤ tsm f n := by
  have := tsm_le (f := f) (n := i + 1) (m := n) h
  have e : tsm f (i + 1) = tsm f i + f i := rfl
  omega
theorem tsm_lt {f : Nat → Nat} {a n : Nat} (hn : 0 < n) (h : ∀ i, i < n → f i < a) : tsm f n < n * a := by
  induction n with
  | zero => omega
  | succ n ih =>
    have h1 := h n (by omega)
    show tsm f n + f n < (n + 1) * a
    rw [Nat.succ_mul]
    by_cases e : n = 0
    · subst e; show 0 + f 0 < 0 * a + a; omega
    · have := ih (by omega) (fun i hi => h i (by omega))
      omega
theorem tsm_bd {f : Nat → Nat} {a n : Nat} (h : ∀ i, i < n → f i ≤ a) : tsm f n ≤ n * a := by
  induction n with
  | zero => show 0 ≤ _; omega
  | succ n ih =>
    have h1 := h n (by omega)
    have := ih (fun i hi => h i (by omega))
    show tsm f n + f n ≤ (n + 1) * a
    rw [Nat.succ_mul]
    omega
/-- what is left: the rest of the parts, by the remainders -/
theorem tsm_left {U n a : Nat} {w : Nat → Nat} (hw : tsm w n = a) (ha : 0 < a) (hn : 0 < n) : tsm (fun i => U * w i / a) n ≤ U ∧ U - tsm (fun i => U * w i / a) n = tsm (fun i => U * w i % a) n / a ∧ tsm (fun i => U * w i % a) n / a < n := by
  have h1 := tsm_dm (fun i => U * w i) a n
  rw [tsm_mul, hw] at h1
  have h2 := tsm_lt (f := fun i => U * w i % a) (a := a) hn (fun i _ => Nat.mod_lt _ ha)
  have h3 : tsm (fun i => U * w i / a) n ≤ U := by
    refine Nat.le_of_mul_le_mul_left (c := a) ?_ ha
    rw [Nat.mul_comm a U]
    omega
  obtain ⟨d, hd⟩ : ∃ d, U = tsm (fun i => U * w i / a) n + d := ⟨U - tsm (fun i => U * w i / a) n, by omega⟩
  have h4 : tsm (fun i => U * w i % a) n = a * d := by
    have h5 : U * a = a * tsm (fun i => U * w i / a) n + a * d := by rw [← Nat.mul_add, ← hd, Nat.mul_comm]
    omega
  rw [h4] at h2 ⊢
  rw [Nat.mul_div_cancel_left _ ha]
  refine ⟨h3, by omega, ?_⟩
  rw [Nat.mul_comm n a] at h2
  exact Nat.lt_of_mul_lt_mul_left h2
/-- part i with its unit -/
def tshr (w : Nat → Nat) (n U i : Nat) : Nat := U * w i / tsm w n + (decide (trk (fun i => U * w i % tsm w n) n i < tsm (fun i => U * w i % tsm w n) n / tsm w n)).toNat
theorem tshr_le {w : Nat → Nat} {n U i : Nat} (ha : 0 < tsm w n) (hi : i < n) : tshr w n U i ≤ U := by
  obtain ⟨h1, h2, h3⟩ := tsm_left (U := U) (w := w) (n := n) rfl ha (by omega)
  have h4 := tsm_i (f := fun i => U * w i / tsm w n) hi
  have h4' : U * w i / tsm w n ≤ tsm (fun i => U * w i / tsm w n) n := h4
  unfold tshr
  by_cases e : trk (fun i => U * w i % tsm w n) n i < tsm (fun i => U * w i % tsm w n) n / tsm w n
  · rw [decide_eq_true e]
    show _ + 1 ≤ U
    omega
  · rw [decide_eq_false e]
    show _ + 0 ≤ U
    omega
/-! allocate as a function of the registers and the ratios. -/
def RaOk (ra : Nat → Int) : Prop := ∀ j, 0 ≤ ra j ∧ ra j ≤ 1000000
def wra (ra : Nat → Int) : Nat → Nat := fun i => (ra i).natAbs
def aP (ra : Nat → Int) (al U : Nat) : Nat → Nat := fun i => U * (ra i).natAbs / al
def aO (ra : Nat → Int) (al U : Nat) : Nat → Nat := fun i => U * (ra i).natAbs % al
def ralc (reg : Rg) (t n : Nat) (c : Int) (w ng : Bool) (D : Nat) (sh : Nat → Nat) : Rg := fun j => if t ≤ j ∧ j < t + n then some (c, w, ng && decide (0 < sh (j - t) * D), sh (j - t) * D) else reg j
theorem ralc_0 {reg : Rg} {t : Nat} {c : Int} {w ng : Bool} {D : Nat} {sh : Nat → Nat} : ralc reg t 0 c w ng D sh = reg := by funext j; unfold ralc; rw [if_neg (by omega)]
theorem ralc_s {reg : Rg} {t i : Nat} {c : Int} {w ng : Bool} {D : Nat} {sh : Nat → Nat} : rset (ralc reg t i c w ng D sh) (t + i) (some (c, w, ng && decide (0 < sh i * D), sh i * D)) = ralc reg t (i + 1) c w ng D sh := by
  funext j
  unfold rset ralc
  by_cases e : j = t + i
  · subst e
    rw [if_pos rfl, if_pos (by omega), Nat.add_sub_cancel_left]
  · rw [if_neg e]
    by_cases e2 : t ≤ j ∧ j < t + i
    · rw [if_pos e2, if_pos (by omega)]
    · rw [if_neg e2, if_neg (by omega)]
theorem ralc_out {reg : Rg} {t n j : Nat} {c : Int} {w ng : Bool} {D : Nat} {sh : Nat → Nat} (h : ¬ (t ≤ j ∧ j < t + n)) : ralc reg t n c w ng D sh j = reg j := by unfold ralc; rw [if_neg h]
def spAll (reg : Rg) (ra : Nat → Int) (a t n : Int) : Int × Rg :=
  if (0 ≤ a ∧ a < 8) ∧ (0 ≤ t ∧ t < 8) ∧ (1 ≤ n ∧ n ≤ 8 - t) ∧ ¬ (t ≤ a ∧ a < t + n) ∧ tsm (wra ra) n.toNat ≠ 0 then
    match reg a.toNat with
    | none => (-11, reg)
    | some (c, w, ng, V) => if V % (1 * 10 ^ (10 - tdig c)) = 0 then (0, ralc reg t.toNat n.toNat c w ng (10 ^ (10 - tdig c)) (tshr (wra ra) n.toNat (V / (1 * 10 ^ (10 - tdig c))))) else (-16, reg)
  else (-15, reg)
theorem spAll_bad {reg : Rg} {ra : Nat → Int} {a t n : Int} (h : ¬ ((0 ≤ a ∧ a < 8) ∧ (0 ≤ t ∧ t < 8) ∧ (1 ≤ n ∧ n ≤ 8 - t) ∧ ¬ (t ≤ a ∧ a < t + n) ∧ tsm (wra ra) n.toNat ≠ 0)) : spAll reg ra a t n = (-15, reg) := by unfold spAll; rw [if_neg h]
theorem spAll_b0 {reg : Rg} {ra : Nat → Int} {a t n : Int} (h : ¬ ((0 ≤ a ∧ a < 8) ∧ (0 ≤ t ∧ t < 8) ∧ (1 ≤ n ∧ n ≤ 8 - t) ∧ ¬ (t ≤ a ∧ a < t + n))) : spAll reg ra a t n = (-15, reg) := spAll_bad (fun e => h ⟨e.1, e.2.1, e.2.2.1, e.2.2.2.1⟩)
theorem spAll_z {reg : Rg} {ra : Nat → Int} {a t : Int} {ν : Nat} (h : tsm (wra ra) ν = 0) : spAll reg ra a t (ν : Int) = (-15, reg) := spAll_bad (fun e => e.2.2.2.2 h)
theorem spAll_no {reg : Rg} {ra : Nat → Int} {α τ ν : Nat} (h : α < 8 ∧ τ < 8 ∧ 1 ≤ ν ∧ ν + τ ≤ 8 ∧ ¬ (τ ≤ α ∧ α < τ + ν)) (hz : tsm (wra ra) ν ≠ 0) (hq : reg α = none) : spAll reg ra (α : Int) (τ : Int) (ν : Int) = (-11, reg) := by
  unfold spAll; rw [if_pos ⟨by omega, by omega, by omega, by omega, hz⟩, show (α : Int).toNat = α from rfl, hq]
theorem spAll_x {reg : Rg} {ra : Nat → Int} {α τ ν V : Nat} {c : Int} {w ng : Bool} (h : α < 8 ∧ τ < 8 ∧ 1 ≤ ν ∧ ν + τ ≤ 8 ∧ ¬ (τ ≤ α ∧ α < τ + ν)) (hz : tsm (wra ra) ν ≠ 0) (hq : reg α = some (c, w, ng, V)) (hx : ¬ V % (1 * 10 ^ (10 - tdig c)) = 0) : spAll reg ra (α : Int) (τ : Int) (ν : Int) = (-16, reg) := by
  unfold spAll; rw [if_pos ⟨by omega, by omega, by omega, by omega, hz⟩, show (α : Int).toNat = α from rfl, hq]
  exact if_neg hx
theorem spAll_ok {reg : Rg} {ra : Nat → Int} {α τ ν V : Nat} {c : Int} {w ng : Bool} (h : α < 8 ∧ τ < 8 ∧ 1 ≤ ν ∧ ν + τ ≤ 8 ∧ ¬ (τ ≤ α ∧ α < τ + ν)) (hz : tsm (wra ra) ν ≠ 0) (hq : reg α = some (c, w, ng, V)) (hx : V % (1 * 10 ^ (10 - tdig c)) = 0) : spAll reg ra (α : Int) (τ : Int) (ν : Int) = (0, ralc reg τ ν c w ng (10 ^ (10 - tdig c)) (tshr (wra ra) ν (V / (1 * 10 ^ (10 - tdig c))))) := by
  unfold spAll; rw [if_pos ⟨by omega, by omega, by omega, by omega, hz⟩, show (α : Int).toNat = α from rfl, hq]
  exact if_pos hx
theorem wra_le {ra : Nat → Int} (h : RaOk ra) (i : Nat) : wra ra i ≤ 1000000 := by have := h i; unfold wra; omega
theorem tsw_le {ra : Nat → Int} {n : Nat} (h : RaOk ra) : tsm (wra ra) n ≤ n * 1000000 := tsm_bd (fun i _ => wra_le h i)
theorem tD1_bd (c : Int) : 0 < 1 * 10 ^ (10 - tdig c) ∧ 1 * 10 ^ (10 - tdig c) ≤ 10 ^ 10 := ⟨Nat.mul_pos (by omega) (p10 _), by rw [Nat.one_mul]; exact p10le (by omega)⟩
theorem cut_bd {ra : Nat → Int} {U i : Nat} (h : RaOk ra) (hU : U < 10 ^ 36) : tnds U + tnds (ra i).natAbs ≤ 80 ∧ U * (ra i).natAbs < 10 ^ 43 := by
  have h1 := wra_le h i
  have h1' : (ra i).natAbs ≤ 1000000 := h1
  have h2 := tnds_mono hU
  have h3 := tnds_mono (N := (ra i).natAbs) (e := 7) (by omega)
  have h4 := Nat.mul_le_mul (Nat.le_of_lt hU) h1'
  exact ⟨by omega, by omega⟩
theorem aP_bd {ra : Nat → Int} {al U i : Nat} (hal : 0 < al) (hi : (ra i).natAbs ≤ al) : aP ra al U i ≤ U := by
  unfold aP
  exact Nat.div_le_of_le_mul (by rw [Nat.mul_comm al]; exact Nat.mul_le_mul_left _ hi)
theorem aO_lt {ra : Nat → Int} {al U i : Nat} (hal : 0 < al) : aO ra al U i < al := Nat.mod_lt _ hal
theorem mod9 {N : Nat} (h : N < 10 ^ 9) : N % 10 ^ 9 = N := Nat.mod_eq_of_lt h
/-- the rows of the parts -/
def PRw (ra : Nat → Int) (al U n : Nat) (PF : Nat → Int32) : Prop := ∀ i, i < n → ∀ j, j < 40 → PF (40 * i + j) = dg (aP ra al U i) j
theorem PRw_s {ra : Nat → Int} {al U i : Nat} {PF PF' : Nat → Int32} (h : PRw ra al U i PF) (h1 : ∀ j, j < 40 → PF' (40 * i + j) = dg (aP ra al U i) j) (h2 : ∀ j, ¬ (40 * i ≤ j ∧ j < 40 * i + 40) → PF' j = PF j) : PRw ra al U (i + 1) PF' := by
  intro k hk j hj
  by_cases e : k = i
  · subst e; exact h1 j hj
  · rw [h2 _ (by omega)]; exact h k (by omega) j hj
def ORw (F : Nat → Int) (n : Nat) (f : Nat → Int32) : Prop := ∀ i, i < n → f i = iI (F i)
theorem ORw_s {F : Nat → Int} {i : Nat} {f : Nat → Int32} {z : Int} (h : ORw F i f) (hz : z = F i) : ORw F (i + 1) (upd f i (iI z)) := by
  intro k hk
  by_cases e : k = i
  · subst e; rw [upd_s, hz]
  · rw [upd_n e]; exact h k (by omega)
theorem ORw_up {g : Nat → Bool} {n b : Nat} {f : Nat → Int32} (h : ORw (fun i => bz (g i)) n f) : ORw (fun i => bz (gup g b i)) n (upd f b (iI 1)) := by
  intro k hk
  unfold gup
  by_cases e : k = b
  · subst e; rw [upd_s]; show _ = iI (bz (if k = k then true else g k)); rw [if_pos rfl]; rfl
  · rw [upd_n e]; show _ = iI (bz (if k = b then true else g k)); rw [if_neg e]; exact h k hk
theorem left_eq {ra : Nat → Int} {U n al : Nat} (hw : tsm (wra ra) n = al) (ha : 0 < al) (hn : 0 < n) : tsm (aP ra al U) n ≤ U ∧ U - tsm (aP ra al U) n = tsm (aO ra al U) n / al ∧ tsm (aO ra al U) n / al < n := tsm_left (U := U) (w := wra ra) hw ha hn
theorem shr_eq {ra : Nat → Int} {U n al i : Nat} (hw : al = tsm (wra ra) n) : aP ra al U i + (decide (trk (aO ra al U) n i < tsm (aO ra al U) n / al)).toNat = tshr (wra ra) n U i := by subst hw; rfl
theorem shr_bd {ra : Nat → Int} {V n i : Nat} {c : Int} (ha : 0 < tsm (wra ra) n) (hi : i < n) (hV : V < 10 ^ 36) : tshr (wra ra) n (V / (1 * 10 ^ (10 - tdig c))) i * 10 ^ (10 - tdig c) < 10 ^ 36 := by
  have h1 := tshr_le (U := V / (1 * 10 ^ (10 - tdig c))) ha hi
  have h2 := Nat.mul_le_mul_right (10 ^ (10 - tdig c)) h1
  have h3 := Nat.div_mul_le_self V (10 ^ (10 - tdig c))
  rw [Nat.one_mul] at h2
  rw [Nat.one_mul]
  omega
set_option maxHeartbeats 4000000 in
set_option maxRecDepth 100000 in
/-- small: the lowest nine digits -/
theorem c_X4_small (E : TEn) (hE : EnvOk E) (q : Nat) (cI : ClassId) (N : Nat) : Cti vwCl E yX4_small wsX4_small (rmn 0 0) [.ref q] [(q, .inl (cI, 80, .inl (dg N)))] [(cI, .int)] (fun (z : Int) (_ : Unit) => z = ((N % 10 ^ 9 : Nat) : Int)) (fun _ => [(q, .inl (cI, 80, .inl (dg N)))]) := by
  refine enteri (by decide) (Nat.le_of_ble_eq_true rfl) ?_
  intro X O hK hin2 hret
  show TGo X [(q, .inl (cI, 80, .inl (dg N)))] 0 0 0 [(0, .ref q)] []
  have lp : ∀ (c : Nat) (i : Nat) (x : Int) (v : Nat), c = i + 1 → i ≤ 9 → x = (i : Int) - 1 → v = N / 10 ^ i % 10 ^ (9 - i) → TGo X [(q, .inl (cI, 80, .inl (dg N)))] 0 0 5 [(1, .int (iI ((v : Nat) : Int))), (2, .int (iI x)), (0, .ref q)] [] := by
    intro c
    induction c with
    | zero => intro i x v h1 h2 hx hv; omega
    | succ c ih =>
      intro i x v h1 h2 hx hv
      refine go_iload_n O dX4_small_5 rfl 1 rfl 6 rfl ?_
      refine go_if_lt O dX4_small_6 24 (by decide) 9 rfl (by omega) (fun h6 => ?_) (fun h6 => ?_)
      · refine go_iload_n O dX4_small_24 rfl 0 rfl 25 rfl ?_
        exact hret _ _ _ () dX4_small_25 rfl (by have e : i = 0 := (by omega); subst e; rw [hv, tqz])
      · obtain ⟨k, rfl⟩ : ∃ k, i = k + 1 := ⟨i - 1, by omega⟩
        refine go_bipush O dX4_small_9 (by decide) 11 rfl ?_
        refine go_iload_n O dX4_small_11 rfl 0 rfl 12 rfl ?_
        refine go_imul O dX4_small_12 ((10 * (v) : Nat) : Int) (by omega) 13 rfl ?_
        refine go_aload_n O dX4_small_13 rfl 2 rfl 14 rfl ?_
        refine go_iload_n O dX4_small_14 rfl 1 rfl 15 rfl ?_
        refine go_iald O hK dX4_small_15 0 0 rfl rfl k (by omega) (by omega) (by omega) ((N / 10 ^ k % 10 : Nat) : Int) rfl 16 rfl ?_
        refine go_iadd O dX4_small_16 ((10 * (v) + N / 10 ^ k % 10 : Nat) : Int) (Int.natCast_add _ _).symm 17 rfl ?_
        refine go_istore_n O dX4_small_17 rfl (by decide) [(1, .int (iI ((10 * (v) + N / 10 ^ k % 10 : Nat) : Int))), (2, .int (iI x)), (0, .ref q)] rfl 18 rfl ?_
        refine go_iinc O dX4_small_18 1 rfl (x - 1) (by omega) (by decide) [(2, .int (iI (x - 1))), (1, .int (iI ((10 * (v) + N / 10 ^ k % 10 : Nat) : Int))), (0, .ref q)] rfl 21 rfl ?_
        refine go_goto O dX4_small_21 5 (by decide) ?_
        refine TGo.lsub (lv' := [(1, .int (iI ((10 * (v) + N / 10 ^ k % 10 : Nat) : Int))), (2, .int (iI (x - 1))), (0, .ref q)]) [1, 0, 2] rfl ?_
        exact ih k _ _ (by omega) (by omega) (by omega) (by rw [show 9 - k = (9 - (k + 1)) + 1 by omega, tmod10s, ← tq10, hv])
  refine go_iconst O dX4_small_0 1 rfl ?_
  refine go_istore_n O dX4_small_1 rfl (by decide) [(1, .int (iI 0)), (0, .ref q)] rfl 2 rfl ?_
  refine go_bipush O dX4_small_2 (by decide) 4 rfl ?_
  refine go_istore_n O dX4_small_4 rfl (by decide) [(2, .int (iI 8)), (1, .int (iI 0)), (0, .ref q)] rfl 5 rfl ?_
  refine TGo.lsub (lv' := [(1, .int (iI 0)), (2, .int (iI 8)), (0, .ref q)]) [1, 0, 2] rfl ?_
  exact lp 10 9 _ 0 rfl (by omega) (by omega) (by rw [Nat.sub_self, Nat.pow_zero, Nat.mod_one])
set_option maxHeartbeats 4000000 in
set_option maxRecDepth 100000 in
/-- cut -/
theorem c_X4_cut (E : TEn) (hE : EnvOk E) (h : Nat) (fs : List Value) {qother qratios qunits qnum qden qquo qrem qparts qover qgiven : Nat} (f_other : fs[15]? = some (.ref qother)) (f_ratios : fs[7]? = some (.ref qratios)) (f_units : fs[16]? = some (.ref qunits)) (f_num : fs[10]? = some (.ref qnum)) (f_den : fs[12]? = some (.ref qden)) (f_quo : fs[13]? = some (.ref qquo)) (f_rem : fs[14]? = some (.ref qrem)) (f_parts : fs[17]? = some (.ref qparts)) (f_over : fs[18]? = some (.ref qover)) (f_given : fs[19]? = some (.ref qgiven)) (cI cZ : ClassId) (fo fnum fd fq fr PF ov gv : Nat → Int32) (ra : Nat → Int) (hRa : RaOk ra) (ι al U : Nat) (hι : ι < 8) (hal : 0 < al ∧ al ≤ 8000000) (hU : U < 10 ^ 36) : Ctv vwCl E yX4_cut wsX4_cut (rmn 2 50) [.ref h, .int (iI ((ι : Nat) : Int)), .int (iI ((al : Nat) : Int))] [(h, .inr (4, fs)), (qother, .inl (cI, 80, .inl fo)), (qratios, .inl (cI, 8, .inl (fun j => iI (ra j)))), (qunits, .inl (cI, 80, .inl (dg U))), (qnum, .inl (cI, 80, .inl fnum)), (qden, .inl (cI, 80, .inl fd)), (qquo, .inl (cI, 80, .inl fq)), (qrem, .inl (cI, 80, .inl fr)), (qparts, .inl (cI, 320, .inl PF)), (qover, .inl (cI, 8, .inl ov)), (qgiven, .inl (cZ, 8, .inl gv))] [(cI, .int), (cZ, .boolean)] (fun (u : Nat → Int32) => (∀ j, j < 40 → u (40 * ι + j) = dg (aP ra al U ι) j) ∧ (∀ j, ¬ (40 * ι ≤ j ∧ j < 40 * ι + 40) → u j = PF j)) (fun u => [(h, .inr (4, fs)), (qother, .inl (cI, 80, .inl (dg (ra ι).natAbs))), (qratios, .inl (cI, 8, .inl (fun j => iI (ra j)))), (qunits, .inl (cI, 80, .inl (dg U))), (qnum, .inl (cI, 80, .inl (dg (U * (ra ι).natAbs)))), (qden, .inl (cI, 80, .inl (dg al))), (qquo, .inl (cI, 80, .inl (dg (aP ra al U ι)))), (qrem, .inl (cI, 80, .inl (dg (aO ra al U ι)))), (qparts, .inl (cI, 320, .inl u)), (qover, .inl (cI, 8, .inl (upd ov ι (iI ((aO ra al U ι : Nat) : Int))))), (qgiven, .inl (cZ, 8, .inl (upd gv ι (iI 0))))]) := by
  refine enterv (by decide) (Nat.le_of_ble_eq_true rfl) ?_
  intro X O hK hin2 hret
  show TGo X [(h, .inr (4, fs)), (qother, .inl (cI, 80, .inl fo)), (qratios, .inl (cI, 8, .inl (fun j => iI (ra j)))), (qunits, .inl (cI, 80, .inl (dg U))), (qnum, .inl (cI, 80, .inl fnum)), (qden, .inl (cI, 80, .inl fd)), (qquo, .inl (cI, 80, .inl fq)), (qrem, .inl (cI, 80, .inl fr)), (qparts, .inl (cI, 320, .inl PF)), (qover, .inl (cI, 8, .inl ov)), (qgiven, .inl (cZ, 8, .inl gv))] 0 0 0 [(0, .ref h), (1, .int (iI ((ι : Nat) : Int))), (2, .int (iI ((al : Nat) : Int)))] []
  have hbd := cut_bd (i := ι) hRa hU
  have hrai := hRa ι
  have hO := aO_lt (ra := ra) (U := U) (i := ι) hal.1
  have lp : ∀ (c : Nat) (i : Nat) (x : Int) (g : Nat → Int32), c + i = 41 → i ≤ 40 → x = (i : Int) → (∀ j, j < i → g (40 * ι + j) = dg (aP ra al U ι) j) → (∀ j, ¬ (40 * ι ≤ j ∧ j < 40 * ι + 40) → g j = PF j) → TGo X [(h, .inr (4, fs)), (qother, .inl (cI, 80, .inl (dg (ra ι).natAbs))), (qratios, .inl (cI, 8, .inl (fun j => iI (ra j)))), (qunits, .inl (cI, 80, .inl (dg U))), (qnum, .inl (cI, 80, .inl (dg (U * (ra ι).natAbs)))), (qden, .inl (cI, 80, .inl (dg al))), (qquo, .inl (cI, 80, .inl (dg (aP ra al U ι)))), (qrem, .inl (cI, 80, .inl (dg (aO ra al U ι)))), (qparts, .inl (cI, 320, .inl g)), (qover, .inl (cI, 8, .inl ov)), (qgiven, .inl (cZ, 8, .inl gv))] 0 0 41 [(3, .int (iI x)), (0, .ref h), (1, .int (iI ((ι : Nat) : Int))), (2, .int (iI ((al : Nat) : Int)))] [] := by
    intro c
    induction c with
    | zero => intro i x g h1 h2 hx hlo hot; omega
    | succ c ih =>
      intro i x g h1 h2 hx hlo hot
      refine go_iload_n O dX4_cut_41 rfl 0 rfl 42 rfl ?_
      refine go_bipush O dX4_cut_42 (by decide) 44 rfl ?_
      refine go_icmp_ge O dX4_cut_44 70 (by decide) 47 rfl (by omega) (by omega) (fun h44 => ?_) (fun h44 => ?_)
      · refine go_aload_n O dX4_cut_70 rfl 1 rfl 71 rfl ?_
        refine go_get O hK dX4_cut_71 hinX4 0 rfl rfl 18 (by decide) flX4_53 f_over 74 rfl ?_
        refine go_iload_n O dX4_cut_74 rfl 2 rfl 75 rfl ?_
        refine go_aload_n O dX4_cut_75 rfl 1 rfl 76 rfl ?_
        refine go_get O hK dX4_cut_76 hinX4 0 rfl rfl 14 (by decide) flX4_41 f_rem 79 rfl ?_
        refine go_calliS (rest := [.int (iI ((ι : Nat) : Int)), .ref qover]) (wr := [(h, .inr (4, fs)), (qother, .inl (cI, 80, .inl (dg (ra ι).natAbs))), (qratios, .inl (cI, 8, .inl (fun j => iI (ra j)))), (qunits, .inl (cI, 80, .inl (dg U))), (qnum, .inl (cI, 80, .inl (dg (U * (ra ι).natAbs)))), (qden, .inl (cI, 80, .inl (dg al))), (qquo, .inl (cI, 80, .inl (dg (aP ra al U ι)))), (qparts, .inl (cI, 320, .inl g)), (qover, .inl (cI, 8, .inl ov)), (qgiven, .inl (cZ, 8, .inl gv))]) O hK hE (c_X4_small E hE qrem cI (aO ra al U ι)) mlX4_150 smX4_small inX4 cdX4_small 1 (by decide +kernel) ⟨Nat.le_of_ble_eq_true rfl, Nat.le_of_ble_eq_true rfl⟩ [0] rfl [7] rfl (by decide) [0, 1, 2, 3, 4, 5, 6, 8, 9, 10] rfl (by decide) (by decide) rfl rfl (Nat.le_of_ble_eq_true rfl) ⟨Nat.zero_le _, Nat.zero_le _⟩ dX4_cut_79 82 rfl (fun z u hu => ?_)
        rw [mod9 (by omega)] at hu
        subst hu
        show TGo X [(h, .inr (4, fs)), (qother, .inl (cI, 80, .inl (dg (ra ι).natAbs))), (qratios, .inl (cI, 8, .inl (fun j => iI (ra j)))), (qunits, .inl (cI, 80, .inl (dg U))), (qnum, .inl (cI, 80, .inl (dg (U * (ra ι).natAbs)))), (qden, .inl (cI, 80, .inl (dg al))), (qquo, .inl (cI, 80, .inl (dg (aP ra al U ι)))), (qparts, .inl (cI, 320, .inl g)), (qover, .inl (cI, 8, .inl ov)), (qgiven, .inl (cZ, 8, .inl gv)), (qrem, .inl (cI, 80, .inl (dg (aO ra al U ι))))] 0 0 82 [(3, .int (iI x)), (0, .ref h), (1, .int (iI ((ι : Nat) : Int))), (2, .int (iI ((al : Nat) : Int)))] [.int (iI ((aO ra al U ι : Nat) : Int)), .int (iI ((ι : Nat) : Int)), .ref qover]
        refine TGo.sub (ws' := [(h, .inr (4, fs)), (qother, .inl (cI, 80, .inl (dg (ra ι).natAbs))), (qratios, .inl (cI, 8, .inl (fun j => iI (ra j)))), (qunits, .inl (cI, 80, .inl (dg U))), (qnum, .inl (cI, 80, .inl (dg (U * (ra ι).natAbs)))), (qden, .inl (cI, 80, .inl (dg al))), (qquo, .inl (cI, 80, .inl (dg (aP ra al U ι)))), (qrem, .inl (cI, 80, .inl (dg (aO ra al U ι)))), (qparts, .inl (cI, 320, .inl g)), (qover, .inl (cI, 8, .inl ov)), (qgiven, .inl (cZ, 8, .inl gv))]) [0, 1, 2, 3, 4, 5, 6, 10, 7, 8, 9] (by decide) rfl ?_
        refine go_iast O hK dX4_cut_82 9 0 rfl rfl ι rfl (by omega) (by omega) (upd ov ι (iI ((aO ra al U ι : Nat) : Int))) (fun _ _ => rfl) [(h, .inr (4, fs)), (qother, .inl (cI, 80, .inl (dg (ra ι).natAbs))), (qratios, .inl (cI, 8, .inl (fun j => iI (ra j)))), (qunits, .inl (cI, 80, .inl (dg U))), (qnum, .inl (cI, 80, .inl (dg (U * (ra ι).natAbs)))), (qden, .inl (cI, 80, .inl (dg al))), (qquo, .inl (cI, 80, .inl (dg (aP ra al U ι)))), (qrem, .inl (cI, 80, .inl (dg (aO ra al U ι)))), (qparts, .inl (cI, 320, .inl g)), (qover, .inl (cI, 8, .inl (upd ov ι (iI ((aO ra al U ι : Nat) : Int))))), (qgiven, .inl (cZ, 8, .inl gv))] rfl 83 rfl ?_
        refine go_aload_n O dX4_cut_83 rfl 1 rfl 84 rfl ?_
        refine go_get O hK dX4_cut_84 hinX4 0 rfl rfl 19 (by decide) flX4_56 f_given 87 rfl ?_
        refine go_iload_n O dX4_cut_87 rfl 2 rfl 88 rfl ?_
        refine go_iconst O dX4_cut_88 89 rfl ?_
        refine go_zast O hK dX4_cut_89 10 1 rfl rfl ι rfl (by omega) (by omega) rfl (upd gv ι (iI 0)) (fun _ _ => rfl) [(h, .inr (4, fs)), (qother, .inl (cI, 80, .inl (dg (ra ι).natAbs))), (qratios, .inl (cI, 8, .inl (fun j => iI (ra j)))), (qunits, .inl (cI, 80, .inl (dg U))), (qnum, .inl (cI, 80, .inl (dg (U * (ra ι).natAbs)))), (qden, .inl (cI, 80, .inl (dg al))), (qquo, .inl (cI, 80, .inl (dg (aP ra al U ι)))), (qrem, .inl (cI, 80, .inl (dg (aO ra al U ι)))), (qparts, .inl (cI, 320, .inl g)), (qover, .inl (cI, 8, .inl (upd ov ι (iI ((aO ra al U ι : Nat) : Int))))), (qgiven, .inl (cZ, 8, .inl (upd gv ι (iI 0))))] rfl 90 rfl ?_
        exact hret _ _ g dX4_cut_90 ⟨fun j hj => hlo j (by omega), hot⟩
      · refine go_aload_n O dX4_cut_47 rfl 1 rfl 48 rfl ?_
        refine go_get O hK dX4_cut_48 hinX4 0 rfl rfl 17 (by decide) flX4_50 f_parts 51 rfl ?_
        refine go_bipush O dX4_cut_51 (by decide) 53 rfl ?_
        refine go_iload_n O dX4_cut_53 rfl 2 rfl 54 rfl ?_
        refine go_imul O dX4_cut_54 ((40 * (ι) : Nat) : Int) (by omega) 55 rfl ?_
        refine go_iload_n O dX4_cut_55 rfl 0 rfl 56 rfl ?_
        refine go_iadd O dX4_cut_56 ((40 * ι + i : Nat) : Int) (by omega) 57 rfl ?_
        refine go_aload_n O dX4_cut_57 rfl 1 rfl 58 rfl ?_
        refine go_get O hK dX4_cut_58 hinX4 0 rfl rfl 13 (by decide) flX4_38 f_quo 61 rfl ?_
        refine go_iload_n O dX4_cut_61 rfl 0 rfl 62 rfl ?_
        refine go_iald O hK dX4_cut_62 6 0 rfl rfl i hx (by omega) (by omega) ((((aP ra al U ι)) / 10 ^ i % 10 : Nat) : Int) rfl 63 rfl ?_
        refine go_iast O hK dX4_cut_63 8 0 rfl rfl (40 * ι + i) rfl (by omega) (by omega) (upd g (40 * ι + i) (iI ((((aP ra al U ι)) / 10 ^ i % 10 : Nat) : Int))) (fun _ _ => rfl) [(h, .inr (4, fs)), (qother, .inl (cI, 80, .inl (dg (ra ι).natAbs))), (qratios, .inl (cI, 8, .inl (fun j => iI (ra j)))), (qunits, .inl (cI, 80, .inl (dg U))), (qnum, .inl (cI, 80, .inl (dg (U * (ra ι).natAbs)))), (qden, .inl (cI, 80, .inl (dg al))), (qquo, .inl (cI, 80, .inl (dg (aP ra al U ι)))), (qrem, .inl (cI, 80, .inl (dg (aO ra al U ι)))), (qparts, .inl (cI, 320, .inl (upd g (40 * ι + i) (iI ((((aP ra al U ι)) / 10 ^ i % 10 : Nat) : Int))))), (qover, .inl (cI, 8, .inl ov)), (qgiven, .inl (cZ, 8, .inl gv))] rfl 64 rfl ?_
        refine go_iinc O dX4_cut_64 0 rfl ((i + 1 : Nat) : Int) (by omega) (by decide) [(3, .int (iI ((i + 1 : Nat) : Int))), (0, .ref h), (1, .int (iI ((ι : Nat) : Int))), (2, .int (iI ((al : Nat) : Int)))] rfl 67 rfl ?_
        refine go_goto O dX4_cut_67 41 (by decide) ?_
        refine TGo.lsub (lv' := [(3, .int (iI ((i + 1 : Nat) : Int))), (0, .ref h), (1, .int (iI ((ι : Nat) : Int))), (2, .int (iI ((al : Nat) : Int)))]) [0, 1, 2, 3] rfl ?_
        exact ih (i + 1) _ _ (by omega) (by omega) (by omega) (keep_lo hlo) (keep_ot (by omega) hot)
  refine go_aload_n O dX4_cut_0 rfl 0 rfl 1 rfl ?_
  refine go_get O hK dX4_cut_1 hinX4 0 rfl rfl 15 (by decide) flX4_44 f_other 4 rfl ?_
  refine go_aload_n O dX4_cut_4 rfl 0 rfl 5 rfl ?_
  refine go_get O hK dX4_cut_5 hinX4 0 rfl rfl 7 (by decide) flX4_23 f_ratios 8 rfl ?_
  refine go_iload_n O dX4_cut_8 rfl 1 rfl 9 rfl ?_
  refine go_iald O hK dX4_cut_9 2 0 rfl rfl ι rfl (by omega) (by omega) (ra ι) rfl 10 rfl ?_
  refine go_i2l O dX4_cut_10 (by omega) 11 rfl ?_
  refine go_callvS (rest := []) (wr := [(h, .inr (4, fs)), (qratios, .inl (cI, 8, .inl (fun j => iI (ra j)))), (qunits, .inl (cI, 80, .inl (dg U))), (qnum, .inl (cI, 80, .inl fnum)), (qden, .inl (cI, 80, .inl fd)), (qquo, .inl (cI, 80, .inl fq)), (qrem, .inl (cI, 80, .inl fr)), (qparts, .inl (cI, 320, .inl PF)), (qover, .inl (cI, 8, .inl ov)), (qgiven, .inl (cZ, 8, .inl gv))]) O hK hE (c_X4_load E hE qother cI fo (ra ι) (by omega)) mlX4_100 smX4_load inX4 cdX4_load 2 (by decide +kernel) ⟨Nat.le_of_ble_eq_true rfl, Nat.le_of_ble_eq_true rfl⟩ [0] rfl [1] rfl (by decide) [0, 2, 3, 4, 5, 6, 7, 8, 9, 10] rfl (by decide) (by decide) rfl rfl (Nat.le_of_ble_eq_true rfl) ⟨Nat.zero_le _, Nat.zero_le _⟩ dX4_cut_11 14 rfl (fun u hu => ?_)
  show TGo X [(h, .inr (4, fs)), (qratios, .inl (cI, 8, .inl (fun j => iI (ra j)))), (qunits, .inl (cI, 80, .inl (dg U))), (qnum, .inl (cI, 80, .inl fnum)), (qden, .inl (cI, 80, .inl fd)), (qquo, .inl (cI, 80, .inl fq)), (qrem, .inl (cI, 80, .inl fr)), (qparts, .inl (cI, 320, .inl PF)), (qover, .inl (cI, 8, .inl ov)), (qgiven, .inl (cZ, 8, .inl gv)), (qother, .inl (cI, 80, .inl (dg (ra ι).natAbs)))] 0 0 14 [(0, .ref h), (1, .int (iI ((ι : Nat) : Int))), (2, .int (iI ((al : Nat) : Int)))] []
  refine TGo.sub (ws' := [(h, .inr (4, fs)), (qother, .inl (cI, 80, .inl (dg (ra ι).natAbs))), (qratios, .inl (cI, 8, .inl (fun j => iI (ra j)))), (qunits, .inl (cI, 80, .inl (dg U))), (qnum, .inl (cI, 80, .inl fnum)), (qden, .inl (cI, 80, .inl fd)), (qquo, .inl (cI, 80, .inl fq)), (qrem, .inl (cI, 80, .inl fr)), (qparts, .inl (cI, 320, .inl PF)), (qover, .inl (cI, 8, .inl ov)), (qgiven, .inl (cZ, 8, .inl gv))]) [0, 10, 1, 2, 3, 4, 5, 6, 7, 8, 9] (by decide) rfl ?_
  refine go_aload_n O dX4_cut_14 rfl 0 rfl 15 rfl ?_
  refine go_aload_n O dX4_cut_15 rfl 0 rfl 16 rfl ?_
  refine go_get O hK dX4_cut_16 hinX4 0 rfl rfl 16 (by decide) flX4_47 f_units 19 rfl ?_
  refine go_aload_n O dX4_cut_19 rfl 0 rfl 20 rfl ?_
  refine go_get O hK dX4_cut_20 hinX4 0 rfl rfl 15 (by decide) flX4_44 f_other 23 rfl ?_
  refine go_callvV (As := [.ref qunits, .ref qother]) (rest := []) (wr := [(qratios, .inl (cI, 8, .inl (fun j => iI (ra j)))), (qden, .inl (cI, 80, .inl fd)), (qquo, .inl (cI, 80, .inl fq)), (qrem, .inl (cI, 80, .inl fr)), (qparts, .inl (cI, 320, .inl PF)), (qover, .inl (cI, 8, .inl ov)), (qgiven, .inl (cZ, 8, .inl gv))]) O hK hE (c_X4_product E hE h fs f_num qunits qother cI U (ra ι).natAbs fnum hbd.1 (by omega)) mlX4_138 imX4_product seX4_product inX4 cdX4_product 2 (by decide +kernel) ⟨Nat.le_of_ble_eq_true rfl, Nat.le_of_ble_eq_true rfl⟩ 0 rfl rfl [0] rfl [0, 4, 3, 1] rfl (by decide) [2, 5, 6, 7, 8, 9, 10] rfl (by decide) (by decide) rfl rfl (Nat.le_of_ble_eq_true rfl) ⟨Nat.zero_le _, Nat.zero_le _⟩ dX4_cut_23 26 rfl (fun u hu => ?_)
  show TGo X [(qratios, .inl (cI, 8, .inl (fun j => iI (ra j)))), (qden, .inl (cI, 80, .inl fd)), (qquo, .inl (cI, 80, .inl fq)), (qrem, .inl (cI, 80, .inl fr)), (qparts, .inl (cI, 320, .inl PF)), (qover, .inl (cI, 8, .inl ov)), (qgiven, .inl (cZ, 8, .inl gv)), (h, .inr (4, fs)), (qnum, .inl (cI, 80, .inl (dg (U * (ra ι).natAbs)))), (qunits, .inl (cI, 80, .inl (dg U))), (qother, .inl (cI, 80, .inl (dg (ra ι).natAbs)))] 0 0 26 [(0, .ref h), (1, .int (iI ((ι : Nat) : Int))), (2, .int (iI ((al : Nat) : Int)))] []
  refine TGo.sub (ws' := [(h, .inr (4, fs)), (qother, .inl (cI, 80, .inl (dg (ra ι).natAbs))), (qratios, .inl (cI, 8, .inl (fun j => iI (ra j)))), (qunits, .inl (cI, 80, .inl (dg U))), (qnum, .inl (cI, 80, .inl (dg (U * (ra ι).natAbs)))), (qden, .inl (cI, 80, .inl fd)), (qquo, .inl (cI, 80, .inl fq)), (qrem, .inl (cI, 80, .inl fr)), (qparts, .inl (cI, 320, .inl PF)), (qover, .inl (cI, 8, .inl ov)), (qgiven, .inl (cZ, 8, .inl gv))]) [7, 10, 0, 9, 8, 1, 2, 3, 4, 5, 6] (by decide) rfl ?_
  refine go_aload_n O dX4_cut_26 rfl 0 rfl 27 rfl ?_
  refine go_get O hK dX4_cut_27 hinX4 0 rfl rfl 12 (by decide) flX4_35 f_den 30 rfl ?_
  refine go_iload_n O dX4_cut_30 rfl 2 rfl 31 rfl ?_
  refine go_i2l O dX4_cut_31 (by omega) 32 rfl ?_
  refine go_callvS (rest := []) (wr := [(h, .inr (4, fs)), (qother, .inl (cI, 80, .inl (dg (ra ι).natAbs))), (qratios, .inl (cI, 8, .inl (fun j => iI (ra j)))), (qunits, .inl (cI, 80, .inl (dg U))), (qnum, .inl (cI, 80, .inl (dg (U * (ra ι).natAbs)))), (qquo, .inl (cI, 80, .inl fq)), (qrem, .inl (cI, 80, .inl fr)), (qparts, .inl (cI, 320, .inl PF)), (qover, .inl (cI, 8, .inl ov)), (qgiven, .inl (cZ, 8, .inl gv))]) O hK hE (c_X4_load E hE qden cI fd ((al : Nat) : Int) (by omega)) mlX4_100 smX4_load inX4 cdX4_load 2 (by decide +kernel) ⟨Nat.le_of_ble_eq_true rfl, Nat.le_of_ble_eq_true rfl⟩ [0] rfl [5] rfl (by decide) [0, 1, 2, 3, 4, 6, 7, 8, 9, 10] rfl (by decide) (by decide) rfl rfl (Nat.le_of_ble_eq_true rfl) ⟨Nat.zero_le _, Nat.zero_le _⟩ dX4_cut_32 35 rfl (fun u hu => ?_)
  show TGo X [(h, .inr (4, fs)), (qother, .inl (cI, 80, .inl (dg (ra ι).natAbs))), (qratios, .inl (cI, 8, .inl (fun j => iI (ra j)))), (qunits, .inl (cI, 80, .inl (dg U))), (qnum, .inl (cI, 80, .inl (dg (U * (ra ι).natAbs)))), (qquo, .inl (cI, 80, .inl fq)), (qrem, .inl (cI, 80, .inl fr)), (qparts, .inl (cI, 320, .inl PF)), (qover, .inl (cI, 8, .inl ov)), (qgiven, .inl (cZ, 8, .inl gv)), (qden, .inl (cI, 80, .inl (dg al)))] 0 0 35 [(0, .ref h), (1, .int (iI ((ι : Nat) : Int))), (2, .int (iI ((al : Nat) : Int)))] []
  refine TGo.sub (ws' := [(h, .inr (4, fs)), (qother, .inl (cI, 80, .inl (dg (ra ι).natAbs))), (qratios, .inl (cI, 8, .inl (fun j => iI (ra j)))), (qunits, .inl (cI, 80, .inl (dg U))), (qnum, .inl (cI, 80, .inl (dg (U * (ra ι).natAbs)))), (qden, .inl (cI, 80, .inl (dg al))), (qquo, .inl (cI, 80, .inl fq)), (qrem, .inl (cI, 80, .inl fr)), (qparts, .inl (cI, 320, .inl PF)), (qover, .inl (cI, 8, .inl ov)), (qgiven, .inl (cZ, 8, .inl gv))]) [0, 1, 2, 3, 4, 10, 5, 6, 7, 8, 9] (by decide) rfl ?_
  refine go_aload_n O dX4_cut_35 rfl 0 rfl 36 rfl ?_
  refine go_callvV (As := []) (rest := []) (wr := [(qother, .inl (cI, 80, .inl (dg (ra ι).natAbs))), (qratios, .inl (cI, 8, .inl (fun j => iI (ra j)))), (qunits, .inl (cI, 80, .inl (dg U))), (qparts, .inl (cI, 320, .inl PF)), (qover, .inl (cI, 8, .inl ov)), (qgiven, .inl (cZ, 8, .inl gv))]) O hK hE (c_X4_quotient E hE h fs f_num f_den f_quo f_rem cI (U * (ra ι).natAbs) al fq fr (by omega) hal.1 (by omega)) mlX4_108 imX4_quotient seX4_quotient inX4 cdX4_quotient 0 (by decide +kernel) ⟨Nat.le_of_ble_eq_true rfl, Nat.le_of_ble_eq_true rfl⟩ 0 rfl rfl [0] rfl [0, 4, 5, 6, 7] rfl (by decide) [1, 2, 3, 8, 9, 10] rfl (by decide) (by decide) rfl rfl (Nat.le_of_ble_eq_true rfl) ⟨Nat.zero_le _, Nat.zero_le _⟩ dX4_cut_36 39 rfl (fun u hu => ?_)
  show TGo X [(qother, .inl (cI, 80, .inl (dg (ra ι).natAbs))), (qratios, .inl (cI, 8, .inl (fun j => iI (ra j)))), (qunits, .inl (cI, 80, .inl (dg U))), (qparts, .inl (cI, 320, .inl PF)), (qover, .inl (cI, 8, .inl ov)), (qgiven, .inl (cZ, 8, .inl gv)), (h, .inr (4, fs)), (qnum, .inl (cI, 80, .inl (dg (U * (ra ι).natAbs)))), (qden, .inl (cI, 80, .inl (dg al))), (qquo, .inl (cI, 80, .inl (dg (aP ra al U ι)))), (qrem, .inl (cI, 80, .inl (dg (aO ra al U ι))))] 0 0 39 [(0, .ref h), (1, .int (iI ((ι : Nat) : Int))), (2, .int (iI ((al : Nat) : Int)))] []
  refine TGo.sub (ws' := [(h, .inr (4, fs)), (qother, .inl (cI, 80, .inl (dg (ra ι).natAbs))), (qratios, .inl (cI, 8, .inl (fun j => iI (ra j)))), (qunits, .inl (cI, 80, .inl (dg U))), (qnum, .inl (cI, 80, .inl (dg (U * (ra ι).natAbs)))), (qden, .inl (cI, 80, .inl (dg al))), (qquo, .inl (cI, 80, .inl (dg (aP ra al U ι)))), (qrem, .inl (cI, 80, .inl (dg (aO ra al U ι)))), (qparts, .inl (cI, 320, .inl PF)), (qover, .inl (cI, 8, .inl ov)), (qgiven, .inl (cZ, 8, .inl gv))]) [6, 0, 1, 2, 7, 8, 9, 10, 3, 4, 5] (by decide) rfl ?_
  refine go_iconst O dX4_cut_39 40 rfl ?_
  refine go_istore_n O dX4_cut_40 rfl (by decide) [(3, .int (iI 0)), (0, .ref h), (1, .int (iI ((ι : Nat) : Int))), (2, .int (iI ((al : Nat) : Int)))] rfl 41 rfl ?_
  refine TGo.lsub (lv' := [(3, .int (iI 0)), (0, .ref h), (1, .int (iI ((ι : Nat) : Int))), (2, .int (iI ((al : Nat) : Int)))]) [0, 1, 2, 3] rfl ?_
  exact lp 41 0 _ _ (by omega) (by omega) (by omega) (fun j a => absurd a (by omega)) (fun _ _ => rfl)
set_option maxHeartbeats 4000000 in
set_option maxRecDepth 100000 in
/-- left -/
theorem c_X4_left (E : TEn) (hE : EnvOk E) (h : Nat) (fs : List Value) {qunits qrem qother qparts : Nat} (f_units : fs[16]? = some (.ref qunits)) (f_rem : fs[14]? = some (.ref qrem)) (f_other : fs[15]? = some (.ref qother)) (f_parts : fs[17]? = some (.ref qparts)) (cI : ClassId) (fr fo PF : Nat → Int32) (ra : Nat → Int) (ν al U : Nat) (hw : tsm (wra ra) ν = al) (hal : 0 < al) (hν1 : 0 < ν) (hν8 : ν ≤ 8) (hPR : PRw ra al U ν PF) (hPb : ∀ i, i < ν → aP ra al U i < 10 ^ 40) : Cti vwCl E yX4_left wsX4_left (rmn 1 24) [.ref h, .int (iI ((ν : Nat) : Int))] [(h, .inr (4, fs)), (qunits, .inl (cI, 80, .inl (dg U))), (qrem, .inl (cI, 80, .inl fr)), (qother, .inl (cI, 80, .inl fo)), (qparts, .inl (cI, 320, .inl PF))] [(cI, .int)] (fun (z : Int) (u : (Nat → Int32) × (Nat → Int32)) => z = (((U - tsm (aP ra al U) ν) % 10 ^ 9 : Nat) : Int)) (fun u => [(h, .inr (4, fs)), (qunits, .inl (cI, 80, .inl (dg U))), (qrem, .inl (cI, 80, .inl u.1)), (qother, .inl (cI, 80, .inl u.2)), (qparts, .inl (cI, 320, .inl PF))]) := by
  refine enteri (by decide) (Nat.le_of_ble_eq_true rfl) ?_
  intro X O hK hin2 hret
  show TGo X [(h, .inr (4, fs)), (qunits, .inl (cI, 80, .inl (dg U))), (qrem, .inl (cI, 80, .inl fr)), (qother, .inl (cI, 80, .inl fo)), (qparts, .inl (cI, 320, .inl PF))] 0 0 0 [(0, .ref h), (1, .int (iI ((ν : Nat) : Int)))] []
  have hle := (left_eq (U := U) hw hal hν1).1
  have li : ∀ (c : Nat) (k : Nat) (x : Int) (i : Nat) (y : Int) (g : Nat → Int32), c + k = 41 → k ≤ 40 → x = (k : Int) → i < ν → y = (i : Int) → (∀ j, j < k → g j = dg (aP ra al U i) j) → (∀ j, k ≤ j → g j = iI 0) → (∀ fo : Nat → Int32, TGo X [(h, .inr (4, fs)), (qunits, .inl (cI, 80, .inl (dg U))), (qrem, .inl (cI, 80, .inl (dg (U - tsm (aP ra al U) (i + 1))))), (qother, .inl (cI, 80, .inl fo)), (qparts, .inl (cI, 320, .inl PF))] 0 0 13 [(2, .int (iI ((i + 1 : Nat) : Int))), (0, .ref h), (1, .int (iI ((ν : Nat) : Int)))] []) → TGo X [(h, .inr (4, fs)), (qunits, .inl (cI, 80, .inl (dg U))), (qrem, .inl (cI, 80, .inl (dg (U - tsm (aP ra al U) i)))), (qother, .inl (cI, 80, .inl g)), (qparts, .inl (cI, 320, .inl PF))] 0 0 27 [(3, .int (iI x)), (2, .int (iI y)), (0, .ref h), (1, .int (iI ((ν : Nat) : Int)))] [] := by
    intro c
    induction c with
    | zero => intro k x i y g h1 h2 hx hi hy hlo hhi hnext; omega
    | succ c ih =>
      intro k x i y g h1 h2 hx hi hy hlo hhi hnext
      refine go_iload_n O dX4_left_27 rfl 0 rfl 28 rfl ?_
      refine go_bipush O dX4_left_28 (by decide) 30 rfl ?_
      refine go_icmp_ge O dX4_left_30 56 (by decide) 33 rfl (by omega) (by omega) (fun h30 => ?_) (fun h30 => ?_)
      · refine TGo.arr 3 rfl (dg (aP ra al U i)) (fun j hj => if a : j < k then hlo j a else (by rw [hhi j (by omega), dg_at, q_lt' (i := 40) (hPb i hi) (by omega)]; rfl)) (ws' := [(h, .inr (4, fs)), (qunits, .inl (cI, 80, .inl (dg U))), (qrem, .inl (cI, 80, .inl (dg (U - tsm (aP ra al U) i)))), (qother, .inl (cI, 80, .inl (dg (aP ra al U i)))), (qparts, .inl (cI, 320, .inl PF))]) rfl ?_
        refine go_aload_n O dX4_left_56 rfl 2 rfl 57 rfl ?_
        refine go_get O hK dX4_left_57 hinX4 0 rfl rfl 14 (by decide) flX4_41 f_rem 60 rfl ?_
        refine go_aload_n O dX4_left_60 rfl 2 rfl 61 rfl ?_
        refine go_get O hK dX4_left_61 hinX4 0 rfl rfl 15 (by decide) flX4_44 f_other 64 rfl ?_
        refine go_callvS (rest := []) (wr := [(h, .inr (4, fs)), (qunits, .inl (cI, 80, .inl (dg U))), (qparts, .inl (cI, 320, .inl PF))]) O hK hE (c_X4_decrease E hE qrem qother cI (U - tsm (aP ra al U) i) (aP ra al U i) (by have e1 := tsm_le (f := aP ra al U) (n := i + 1) (m := ν) (by omega); have e2 : tsm (aP ra al U) (i + 1) = tsm (aP ra al U) i + aP ra al U i := rfl; omega)) mlX4_90 smX4_decrease inX4 cdX4_decrease 2 (by decide +kernel) ⟨Nat.le_of_ble_eq_true rfl, Nat.le_of_ble_eq_true rfl⟩ [0] rfl [2, 3] rfl (by decide) [0, 1, 4] rfl (by decide) (by decide) rfl rfl (Nat.le_of_ble_eq_true rfl) ⟨Nat.zero_le _, Nat.zero_le _⟩ dX4_left_64 67 rfl (fun u hu => ?_)
        show TGo X [(h, .inr (4, fs)), (qunits, .inl (cI, 80, .inl (dg U))), (qparts, .inl (cI, 320, .inl PF)), (qrem, .inl (cI, 80, .inl (dg (U - tsm (aP ra al U) i - aP ra al U i)))), (qother, .inl (cI, 80, .inl (dg (aP ra al U i))))] 0 0 67 [(3, .int (iI x)), (2, .int (iI y)), (0, .ref h), (1, .int (iI ((ν : Nat) : Int)))] []
        refine TGo.sub (ws' := [(h, .inr (4, fs)), (qunits, .inl (cI, 80, .inl (dg U))), (qrem, .inl (cI, 80, .inl (dg (U - tsm (aP ra al U) i - aP ra al U i)))), (qother, .inl (cI, 80, .inl (dg (aP ra al U i)))), (qparts, .inl (cI, 320, .inl PF))]) [0, 1, 3, 4, 2] (by decide) rfl ?_
        refine go_iinc O dX4_left_67 1 rfl ((i + 1 : Nat) : Int) (by omega) (by decide) [(2, .int (iI ((i + 1 : Nat) : Int))), (3, .int (iI x)), (0, .ref h), (1, .int (iI ((ν : Nat) : Int)))] rfl 70 rfl ?_
        refine go_goto O dX4_left_70 13 (by decide) ?_
        refine TGo.lsub (lv' := [(2, .int (iI ((i + 1 : Nat) : Int))), (0, .ref h), (1, .int (iI ((ν : Nat) : Int)))]) [0, 2, 3] rfl ?_
        rw [Nat.sub_sub]
        exact hnext _
      · refine go_aload_n O dX4_left_33 rfl 2 rfl 34 rfl ?_
        refine go_get O hK dX4_left_34 hinX4 0 rfl rfl 15 (by decide) flX4_44 f_other 37 rfl ?_
        refine go_iload_n O dX4_left_37 rfl 0 rfl 38 rfl ?_
        refine go_aload_n O dX4_left_38 rfl 2 rfl 39 rfl ?_
        refine go_get O hK dX4_left_39 hinX4 0 rfl rfl 17 (by decide) flX4_50 f_parts 42 rfl ?_
        refine go_bipush O dX4_left_42 (by decide) 44 rfl ?_
        refine go_iload_n O dX4_left_44 rfl 1 rfl 45 rfl ?_
        refine go_imul O dX4_left_45 ((40 * i : Nat) : Int) (by omega) 46 rfl ?_
        refine go_iload_n O dX4_left_46 rfl 0 rfl 47 rfl ?_
        refine go_iadd O dX4_left_47 ((40 * i + k : Nat) : Int) (by omega) 48 rfl ?_
        refine go_iald O hK dX4_left_48 4 0 rfl rfl (40 * i + k) rfl (by omega) (by omega) ((aP ra al U i / 10 ^ k % 10 : Nat) : Int) (hPR i (by omega) k (by omega)) 49 rfl ?_
        refine go_iast O hK dX4_left_49 3 0 rfl rfl k hx (by omega) (by omega) (upd g k (iI ((aP ra al U i / 10 ^ k % 10 : Nat) : Int))) (fun _ _ => rfl) [(h, .inr (4, fs)), (qunits, .inl (cI, 80, .inl (dg U))), (qrem, .inl (cI, 80, .inl (dg (U - tsm (aP ra al U) i)))), (qother, .inl (cI, 80, .inl (upd g k (iI ((aP ra al U i / 10 ^ k % 10 : Nat) : Int))))), (qparts, .inl (cI, 320, .inl PF))] rfl 50 rfl ?_
        refine go_iinc O dX4_left_50 0 rfl ((k + 1 : Nat) : Int) (by omega) (by decide) [(3, .int (iI ((k + 1 : Nat) : Int))), (2, .int (iI y)), (0, .ref h), (1, .int (iI ((ν : Nat) : Int)))] rfl 53 rfl ?_
        refine go_goto O dX4_left_53 27 (by decide) ?_
        refine TGo.lsub (lv' := [(3, .int (iI ((k + 1 : Nat) : Int))), (2, .int (iI y)), (0, .ref h), (1, .int (iI ((ν : Nat) : Int)))]) [0, 1, 2, 3] rfl ?_
        exact ih k.succ _ i y _ (by omega) (by omega) (by omega) hi hy (lo_upd hlo rfl) (hi_upd hhi) hnext
  have lo : ∀ (c : Nat) (i : Nat) (y : Int) (fo : Nat → Int32), c + i = ν + 1 → i ≤ ν → y = (i : Int) → TGo X [(h, .inr (4, fs)), (qunits, .inl (cI, 80, .inl (dg U))), (qrem, .inl (cI, 80, .inl (dg (U - tsm (aP ra al U) i)))), (qother, .inl (cI, 80, .inl fo)), (qparts, .inl (cI, 320, .inl PF))] 0 0 13 [(2, .int (iI y)), (0, .ref h), (1, .int (iI ((ν : Nat) : Int)))] [] := by
    intro c
    induction c with
    | zero => intro i y fo h1 h2 hy; omega
    | succ c ih =>
      intro i y fo h1 h2 hy
      refine go_iload_n O dX4_left_13 rfl 0 rfl 14 rfl ?_
      refine go_iload_n O dX4_left_14 rfl 2 rfl 15 rfl ?_
      refine go_icmp_ge O dX4_left_15 73 (by decide) 18 rfl (by omega) (by omega) (fun h15 => ?_) (fun h15 => ?_)
      · have ei : i = ν := by omega
        refine go_aload_n O dX4_left_73 rfl 1 rfl 74 rfl ?_
        refine go_get O hK dX4_left_74 hinX4 0 rfl rfl 14 (by decide) flX4_41 f_rem 77 rfl ?_
        refine go_calliS (rest := []) (wr := [(h, .inr (4, fs)), (qunits, .inl (cI, 80, .inl (dg U))), (qother, .inl (cI, 80, .inl fo)), (qparts, .inl (cI, 320, .inl PF))]) O hK hE (c_X4_small E hE qrem cI (U - tsm (aP ra al U) i)) mlX4_150 smX4_small inX4 cdX4_small 1 (by decide +kernel) ⟨Nat.le_of_ble_eq_true rfl, Nat.le_of_ble_eq_true rfl⟩ [0] rfl [2] rfl (by decide) [0, 1, 3, 4] rfl (by decide) (by decide) rfl rfl (Nat.le_of_ble_eq_true rfl) ⟨Nat.zero_le _, Nat.zero_le _⟩ dX4_left_77 80 rfl (fun z u hu => ?_)
        subst hu
        show TGo X [(h, .inr (4, fs)), (qunits, .inl (cI, 80, .inl (dg U))), (qother, .inl (cI, 80, .inl fo)), (qparts, .inl (cI, 320, .inl PF)), (qrem, .inl (cI, 80, .inl (dg (U - tsm (aP ra al U) i))))] 0 0 80 [(2, .int (iI y)), (0, .ref h), (1, .int (iI ((ν : Nat) : Int)))] [.int (iI (((U - tsm (aP ra al U) i) % 10 ^ 9 : Nat) : Int))]
        refine TGo.sub (ws' := [(h, .inr (4, fs)), (qunits, .inl (cI, 80, .inl (dg U))), (qrem, .inl (cI, 80, .inl (dg (U - tsm (aP ra al U) i)))), (qother, .inl (cI, 80, .inl fo)), (qparts, .inl (cI, 320, .inl PF))]) [0, 1, 4, 2, 3] (by decide) rfl ?_
        exact hret _ _ _ (dg (U - tsm (aP ra al U) i), fo) dX4_left_80 rfl (by rw [ei])
      · refine go_aload_n O dX4_left_18 rfl 1 rfl 19 rfl ?_
        refine go_get O hK dX4_left_19 hinX4 0 rfl rfl 15 (by decide) flX4_44 f_other 22 rfl ?_
        refine go_callvS (rest := []) (wr := [(h, .inr (4, fs)), (qunits, .inl (cI, 80, .inl (dg U))), (qrem, .inl (cI, 80, .inl (dg (U - tsm (aP ra al U) i)))), (qparts, .inl (cI, 320, .inl PF))]) O hK hE (c_X4_clear E hE qother cI fo) mlX4_72 smX4_clear inX4 cdX4_clear 1 (by decide +kernel) ⟨Nat.le_of_ble_eq_true rfl, Nat.le_of_ble_eq_true rfl⟩ [0] rfl [3] rfl (by decide) [0, 1, 2, 4] rfl (by decide) (by decide) rfl rfl (Nat.le_of_ble_eq_true rfl) ⟨Nat.zero_le _, Nat.zero_le _⟩ dX4_left_22 25 rfl (fun u hu => ?_)
        show TGo X [(h, .inr (4, fs)), (qunits, .inl (cI, 80, .inl (dg U))), (qrem, .inl (cI, 80, .inl (dg (U - tsm (aP ra al U) i)))), (qparts, .inl (cI, 320, .inl PF)), (qother, .inl (cI, 80, .inl (dg 0)))] 0 0 25 [(2, .int (iI y)), (0, .ref h), (1, .int (iI ((ν : Nat) : Int)))] []
        refine TGo.sub (ws' := [(h, .inr (4, fs)), (qunits, .inl (cI, 80, .inl (dg U))), (qrem, .inl (cI, 80, .inl (dg (U - tsm (aP ra al U) i)))), (qother, .inl (cI, 80, .inl (dg 0))), (qparts, .inl (cI, 320, .inl PF))]) [0, 1, 2, 4, 3] (by decide) rfl ?_
        refine go_iconst O dX4_left_25 26 rfl ?_
        refine go_istore_n O dX4_left_26 rfl (by decide) [(3, .int (iI 0)), (2, .int (iI y)), (0, .ref h), (1, .int (iI ((ν : Nat) : Int)))] rfl 27 rfl ?_
        refine TGo.lsub (lv' := [(3, .int (iI 0)), (2, .int (iI y)), (0, .ref h), (1, .int (iI ((ν : Nat) : Int)))]) [0, 1, 2, 3] rfl ?_
        exact li 41 0 _ i y _ (by omega) (by omega) (by omega) (by omega) hy (fun j a => absurd a (by omega)) (fun j _ => dg_zero j) (fun fo => ih (i + 1) _ fo (by omega) (by omega) rfl)
  refine go_aload_n O dX4_left_0 rfl 0 rfl 1 rfl ?_
  refine go_get O hK dX4_left_1 hinX4 0 rfl rfl 16 (by decide) flX4_47 f_units 4 rfl ?_
  refine go_aload_n O dX4_left_4 rfl 0 rfl 5 rfl ?_
  refine go_get O hK dX4_left_5 hinX4 0 rfl rfl 14 (by decide) flX4_41 f_rem 8 rfl ?_
  refine go_callvS (rest := []) (wr := [(h, .inr (4, fs)), (qother, .inl (cI, 80, .inl fo)), (qparts, .inl (cI, 320, .inl PF))]) O hK hE (c_X4_copy E hE qunits qrem cI (dg U) fr) mlX4_94 smX4_copy inX4 cdX4_copy 2 (by decide +kernel) ⟨Nat.le_of_ble_eq_true rfl, Nat.le_of_ble_eq_true rfl⟩ [0] rfl [1, 2] rfl (by decide) [0, 3, 4] rfl (by decide) (by decide) rfl rfl (Nat.le_of_ble_eq_true rfl) ⟨Nat.zero_le _, Nat.zero_le _⟩ dX4_left_8 11 rfl (fun u hu => ?_)
  show TGo X [(h, .inr (4, fs)), (qother, .inl (cI, 80, .inl fo)), (qparts, .inl (cI, 320, .inl PF)), (qunits, .inl (cI, 80, .inl (dg U))), (qrem, .inl (cI, 80, .inl (dg U)))] 0 0 11 [(0, .ref h), (1, .int (iI ((ν : Nat) : Int)))] []
  refine TGo.sub (ws' := [(h, .inr (4, fs)), (qunits, .inl (cI, 80, .inl (dg U))), (qrem, .inl (cI, 80, .inl (dg U))), (qother, .inl (cI, 80, .inl fo)), (qparts, .inl (cI, 320, .inl PF))]) [0, 3, 4, 1, 2] (by decide) rfl ?_
  refine go_iconst O dX4_left_11 12 rfl ?_
  refine go_istore_n O dX4_left_12 rfl (by decide) [(2, .int (iI 0)), (0, .ref h), (1, .int (iI ((ν : Nat) : Int)))] rfl 13 rfl ?_
  refine TGo.lsub (lv' := [(2, .int (iI 0)), (0, .ref h), (1, .int (iI ((ν : Nat) : Int)))]) [0, 1, 2] rfl ?_
  exact lo (ν + 1) 0 _ _ (by omega) (by omega) rfl
set_option maxHeartbeats 4000000 in
set_option maxRecDepth 100000 in
/-- part -/
theorem c_X4_part (E : TEn) (hE : EnvOk E) (h : Nat) (fs : List Value) {qquo qparts qgiven qother qnum : Nat} (f_quo : fs[13]? = some (.ref qquo)) (f_parts : fs[17]? = some (.ref qparts)) (f_given : fs[19]? = some (.ref qgiven)) (f_other : fs[15]? = some (.ref qother)) (f_num : fs[10]? = some (.ref qnum)) (cI cZ : ClassId) (fq PF gv fo fnum : Nat → Int32) (ι κ V : Nat) (gb : Bool) (hι : ι < 8) (hκ : κ ≤ 10) (hV : V < 10 ^ 40) (hPV : ∀ j, j < 40 → PF (40 * ι + j) = dg V j) (hgb : gv ι = iI (bz gb)) : Ctv vwCl E yX4_part wsX4_part (rmn 2 47) [.ref h, .int (iI ((ι : Nat) : Int)), .int (iI ((κ : Nat) : Int))] [(h, .inr (4, fs)), (qquo, .inl (cI, 80, .inl fq)), (qparts, .inl (cI, 320, .inl PF)), (qgiven, .inl (cZ, 8, .inl gv)), (qother, .inl (cI, 80, .inl fo)), (qnum, .inl (cI, 80, .inl fnum))] [(cI, .int), (cZ, .boolean)] (fun (_ : (Nat → Int32) × (Nat → Int32)) => True) (fun u => [(h, .inr (4, fs)), (qquo, .inl (cI, 80, .inl u.1)), (qparts, .inl (cI, 320, .inl PF)), (qgiven, .inl (cZ, 8, .inl gv)), (qother, .inl (cI, 80, .inl u.2)), (qnum, .inl (cI, 80, .inl (dg ((V + gb.toNat) * 10 ^ κ))))]) := by
  refine enterv (by decide) (Nat.le_of_ble_eq_true rfl) ?_
  intro X O hK hin2 hret
  show TGo X [(h, .inr (4, fs)), (qquo, .inl (cI, 80, .inl fq)), (qparts, .inl (cI, 320, .inl PF)), (qgiven, .inl (cZ, 8, .inl gv)), (qother, .inl (cI, 80, .inl fo)), (qnum, .inl (cI, 80, .inl fnum))] 0 0 0 [(0, .ref h), (1, .int (iI ((ι : Nat) : Int))), (2, .int (iI ((κ : Nat) : Int)))] []
  have bg := bz_01 gb
  have lp : ∀ (c : Nat) (i : Nat) (x : Int) (g : Nat → Int32), c + i = 41 → i ≤ 40 → x = (i : Int) → (∀ j, j < i → g j = dg V j) → (∀ j, i ≤ j → g j = iI 0) → TGo X [(h, .inr (4, fs)), (qquo, .inl (cI, 80, .inl g)), (qparts, .inl (cI, 320, .inl PF)), (qgiven, .inl (cZ, 8, .inl gv)), (qother, .inl (cI, 80, .inl fo)), (qnum, .inl (cI, 80, .inl fnum))] 0 0 9 [(3, .int (iI x)), (0, .ref h), (1, .int (iI ((ι : Nat) : Int))), (2, .int (iI ((κ : Nat) : Int)))] [] := by
    intro c
    induction c with
    | zero => intro i x g h1 h2 hx hlo hhi; omega
    | succ c ih =>
      intro i x g h1 h2 hx hlo hhi
      refine go_iload_n O dX4_part_9 rfl 0 rfl 10 rfl ?_
      refine go_bipush O dX4_part_10 (by decide) 12 rfl ?_
      refine go_icmp_ge O dX4_part_12 38 (by decide) 15 rfl (by omega) (by omega) (fun h12 => ?_) (fun h12 => ?_)
      · refine TGo.arr 1 rfl (dg V) (fun j hj => if a : j < i then hlo j a else (by rw [hhi j (by omega), dg_at, q_lt' (i := 40) hV (by omega)]; rfl)) (ws' := [(h, .inr (4, fs)), (qquo, .inl (cI, 80, .inl (dg V))), (qparts, .inl (cI, 320, .inl PF)), (qgiven, .inl (cZ, 8, .inl gv)), (qother, .inl (cI, 80, .inl fo)), (qnum, .inl (cI, 80, .inl fnum))]) rfl ?_
        refine go_aload_n O dX4_part_38 rfl 1 rfl 39 rfl ?_
        refine go_get O hK dX4_part_39 hinX4 0 rfl rfl 19 (by decide) flX4_56 f_given 42 rfl ?_
        refine go_iload_n O dX4_part_42 rfl 2 rfl 43 rfl ?_
        refine go_zald O hK dX4_part_43 3 1 rfl rfl ι rfl (by omega) (by omega) (bz gb) hgb 44 rfl ?_
        refine go_if_eq O dX4_part_44 66 (by decide) 47 rfl (by omega) (fun h44 => ?_) (fun h44 => ?_)
        · have eg : gb = false := bz_0.mp h44
          subst eg
          show TGo X [(h, .inr (4, fs)), (qquo, .inl (cI, 80, .inl (dg (V + false.toNat)))), (qparts, .inl (cI, 320, .inl PF)), (qgiven, .inl (cZ, 8, .inl gv)), (qother, .inl (cI, 80, .inl fo)), (qnum, .inl (cI, 80, .inl fnum))] 0 0 66 [(3, .int (iI x)), (0, .ref h), (1, .int (iI ((ι : Nat) : Int))), (2, .int (iI ((κ : Nat) : Int)))] []
          refine go_aload_n O dX4_part_66 rfl 1 rfl 67 rfl ?_
          refine go_get O hK dX4_part_67 hinX4 0 rfl rfl 13 (by decide) flX4_38 f_quo 70 rfl ?_
          refine go_aload_n O dX4_part_70 rfl 1 rfl 71 rfl ?_
          refine go_get O hK dX4_part_71 hinX4 0 rfl rfl 10 (by decide) flX4_29 f_num 74 rfl ?_
          refine go_callvS (rest := []) (wr := [(h, .inr (4, fs)), (qparts, .inl (cI, 320, .inl PF)), (qgiven, .inl (cZ, 8, .inl gv)), (qother, .inl (cI, 80, .inl fo))]) O hK hE (c_X4_copy E hE qquo qnum cI (dg (V + false.toNat)) fnum) mlX4_94 smX4_copy inX4 cdX4_copy 2 (by decide +kernel) ⟨Nat.le_of_ble_eq_true rfl, Nat.le_of_ble_eq_true rfl⟩ [0] rfl [1, 5] rfl (by decide) [0, 2, 3, 4] rfl (by decide) (by decide) rfl rfl (Nat.le_of_ble_eq_true rfl) ⟨Nat.zero_le _, Nat.zero_le _⟩ dX4_part_74 77 rfl (fun u hu => ?_)
          show TGo X [(h, .inr (4, fs)), (qparts, .inl (cI, 320, .inl PF)), (qgiven, .inl (cZ, 8, .inl gv)), (qother, .inl (cI, 80, .inl fo)), (qquo, .inl (cI, 80, .inl (dg (V + false.toNat)))), (qnum, .inl (cI, 80, .inl (dg (V + false.toNat))))] 0 0 77 [(3, .int (iI x)), (0, .ref h), (1, .int (iI ((ι : Nat) : Int))), (2, .int (iI ((κ : Nat) : Int)))] []
          refine TGo.sub (ws' := [(h, .inr (4, fs)), (qquo, .inl (cI, 80, .inl (dg (V + false.toNat)))), (qparts, .inl (cI, 320, .inl PF)), (qgiven, .inl (cZ, 8, .inl gv)), (qother, .inl (cI, 80, .inl fo)), (qnum, .inl (cI, 80, .inl (dg (V + false.toNat))))]) [0, 4, 1, 2, 3, 5] (by decide) rfl ?_
          refine go_aload_n O dX4_part_77 rfl 1 rfl 78 rfl ?_
          refine go_get O hK dX4_part_78 hinX4 0 rfl rfl 10 (by decide) flX4_29 f_num 81 rfl ?_
          refine go_iload_n O dX4_part_81 rfl 3 rfl 82 rfl ?_
          refine go_callvS (rest := []) (wr := [(h, .inr (4, fs)), (qquo, .inl (cI, 80, .inl (dg (V + false.toNat)))), (qparts, .inl (cI, 320, .inl PF)), (qgiven, .inl (cZ, 8, .inl gv)), (qother, .inl (cI, 80, .inl fo))]) O hK hE (c_X4_shift E hE qnum cI (V + false.toNat) κ (by omega)) mlX4_82 smX4_shift inX4 cdX4_shift 2 (by decide +kernel) ⟨Nat.le_of_ble_eq_true rfl, Nat.le_of_ble_eq_true rfl⟩ [0] rfl [5] rfl (by decide) [0, 1, 2, 3, 4] rfl (by decide) (by decide) rfl rfl (Nat.le_of_ble_eq_true rfl) ⟨Nat.zero_le _, Nat.zero_le _⟩ dX4_part_82 85 rfl (fun u hu => ?_)
          show TGo X [(h, .inr (4, fs)), (qquo, .inl (cI, 80, .inl (dg (V + false.toNat)))), (qparts, .inl (cI, 320, .inl PF)), (qgiven, .inl (cZ, 8, .inl gv)), (qother, .inl (cI, 80, .inl fo)), (qnum, .inl (cI, 80, .inl (dg ((V + false.toNat) * 10 ^ κ))))] 0 0 85 [(3, .int (iI x)), (0, .ref h), (1, .int (iI ((ι : Nat) : Int))), (2, .int (iI ((κ : Nat) : Int)))] []
          exact hret _ _ (dg (V + false.toNat), fo) dX4_part_85 trivial
        · refine go_aload_n O dX4_part_47 rfl 1 rfl 48 rfl ?_
          refine go_get O hK dX4_part_48 hinX4 0 rfl rfl 15 (by decide) flX4_44 f_other 51 rfl ?_
          refine go_lconst O dX4_part_51 1 rfl 52 rfl ?_
          refine go_callvS (rest := []) (wr := [(h, .inr (4, fs)), (qquo, .inl (cI, 80, .inl (dg V))), (qparts, .inl (cI, 320, .inl PF)), (qgiven, .inl (cZ, 8, .inl gv)), (qnum, .inl (cI, 80, .inl fnum))]) O hK hE (c_X4_load E hE qother cI fo 1 (by omega)) mlX4_100 smX4_load inX4 cdX4_load 2 (by decide +kernel) ⟨Nat.le_of_ble_eq_true rfl, Nat.le_of_ble_eq_true rfl⟩ [0] rfl [4] rfl (by decide) [0, 1, 2, 3, 5] rfl (by decide) (by decide) rfl rfl (Nat.le_of_ble_eq_true rfl) ⟨Nat.zero_le _, Nat.zero_le _⟩ dX4_part_52 55 rfl (fun u hu => ?_)
          show TGo X [(h, .inr (4, fs)), (qquo, .inl (cI, 80, .inl (dg V))), (qparts, .inl (cI, 320, .inl PF)), (qgiven, .inl (cZ, 8, .inl gv)), (qnum, .inl (cI, 80, .inl fnum)), (qother, .inl (cI, 80, .inl (dg (Int.natAbs 1))))] 0 0 55 [(3, .int (iI x)), (0, .ref h), (1, .int (iI ((ι : Nat) : Int))), (2, .int (iI ((κ : Nat) : Int)))] []
          refine TGo.sub (ws' := [(h, .inr (4, fs)), (qquo, .inl (cI, 80, .inl (dg V))), (qparts, .inl (cI, 320, .inl PF)), (qgiven, .inl (cZ, 8, .inl gv)), (qother, .inl (cI, 80, .inl (dg (Int.natAbs 1)))), (qnum, .inl (cI, 80, .inl fnum))]) [0, 1, 2, 3, 5, 4] (by decide) rfl ?_
          refine go_aload_n O dX4_part_55 rfl 1 rfl 56 rfl ?_
          refine go_get O hK dX4_part_56 hinX4 0 rfl rfl 13 (by decide) flX4_38 f_quo 59 rfl ?_
          refine go_aload_n O dX4_part_59 rfl 1 rfl 60 rfl ?_
          refine go_get O hK dX4_part_60 hinX4 0 rfl rfl 15 (by decide) flX4_44 f_other 63 rfl ?_
          refine go_callvS (rest := []) (wr := [(h, .inr (4, fs)), (qparts, .inl (cI, 320, .inl PF)), (qgiven, .inl (cZ, 8, .inl gv)), (qnum, .inl (cI, 80, .inl fnum))]) O hK hE (c_X4_increase E hE qquo qother cI V (Int.natAbs 1)) mlX4_97 smX4_increase inX4 cdX4_increase 2 (by decide +kernel) ⟨Nat.le_of_ble_eq_true rfl, Nat.le_of_ble_eq_true rfl⟩ [0] rfl [1, 4] rfl (by decide) [0, 2, 3, 5] rfl (by decide) (by decide) rfl rfl (Nat.le_of_ble_eq_true rfl) ⟨Nat.zero_le _, Nat.zero_le _⟩ dX4_part_63 66 rfl (fun u hu => ?_)
          show TGo X [(h, .inr (4, fs)), (qparts, .inl (cI, 320, .inl PF)), (qgiven, .inl (cZ, 8, .inl gv)), (qnum, .inl (cI, 80, .inl fnum)), (qquo, .inl (cI, 80, .inl (dg (V + Int.natAbs 1)))), (qother, .inl (cI, 80, .inl (dg (Int.natAbs 1))))] 0 0 66 [(3, .int (iI x)), (0, .ref h), (1, .int (iI ((ι : Nat) : Int))), (2, .int (iI ((κ : Nat) : Int)))] []
          refine TGo.sub (ws' := [(h, .inr (4, fs)), (qquo, .inl (cI, 80, .inl (dg (V + Int.natAbs 1)))), (qparts, .inl (cI, 320, .inl PF)), (qgiven, .inl (cZ, 8, .inl gv)), (qother, .inl (cI, 80, .inl (dg (Int.natAbs 1)))), (qnum, .inl (cI, 80, .inl fnum))]) [0, 4, 1, 2, 5, 3] (by decide) rfl ?_
          have eg : gb = true := bz_ne h44
          subst eg
          show TGo X [(h, .inr (4, fs)), (qquo, .inl (cI, 80, .inl (dg (V + true.toNat)))), (qparts, .inl (cI, 320, .inl PF)), (qgiven, .inl (cZ, 8, .inl gv)), (qother, .inl (cI, 80, .inl (dg (Int.natAbs 1)))), (qnum, .inl (cI, 80, .inl fnum))] 0 0 66 [(3, .int (iI x)), (0, .ref h), (1, .int (iI ((ι : Nat) : Int))), (2, .int (iI ((κ : Nat) : Int)))] []
          refine go_aload_n O dX4_part_66 rfl 1 rfl 67 rfl ?_
          refine go_get O hK dX4_part_67 hinX4 0 rfl rfl 13 (by decide) flX4_38 f_quo 70 rfl ?_
          refine go_aload_n O dX4_part_70 rfl 1 rfl 71 rfl ?_
          refine go_get O hK dX4_part_71 hinX4 0 rfl rfl 10 (by decide) flX4_29 f_num 74 rfl ?_
          refine go_callvS (rest := []) (wr := [(h, .inr (4, fs)), (qparts, .inl (cI, 320, .inl PF)), (qgiven, .inl (cZ, 8, .inl gv)), (qother, .inl (cI, 80, .inl (dg (Int.natAbs 1))))]) O hK hE (c_X4_copy E hE qquo qnum cI (dg (V + true.toNat)) fnum) mlX4_94 smX4_copy inX4 cdX4_copy 2 (by decide +kernel) ⟨Nat.le_of_ble_eq_true rfl, Nat.le_of_ble_eq_true rfl⟩ [0] rfl [1, 5] rfl (by decide) [0, 2, 3, 4] rfl (by decide) (by decide) rfl rfl (Nat.le_of_ble_eq_true rfl) ⟨Nat.zero_le _, Nat.zero_le _⟩ dX4_part_74 77 rfl (fun u hu => ?_)
          show TGo X [(h, .inr (4, fs)), (qparts, .inl (cI, 320, .inl PF)), (qgiven, .inl (cZ, 8, .inl gv)), (qother, .inl (cI, 80, .inl (dg (Int.natAbs 1)))), (qquo, .inl (cI, 80, .inl (dg (V + true.toNat)))), (qnum, .inl (cI, 80, .inl (dg (V + true.toNat))))] 0 0 77 [(3, .int (iI x)), (0, .ref h), (1, .int (iI ((ι : Nat) : Int))), (2, .int (iI ((κ : Nat) : Int)))] []
          refine TGo.sub (ws' := [(h, .inr (4, fs)), (qquo, .inl (cI, 80, .inl (dg (V + true.toNat)))), (qparts, .inl (cI, 320, .inl PF)), (qgiven, .inl (cZ, 8, .inl gv)), (qother, .inl (cI, 80, .inl (dg (Int.natAbs 1)))), (qnum, .inl (cI, 80, .inl (dg (V + true.toNat))))]) [0, 4, 1, 2, 3, 5] (by decide) rfl ?_
          refine go_aload_n O dX4_part_77 rfl 1 rfl 78 rfl ?_
          refine go_get O hK dX4_part_78 hinX4 0 rfl rfl 10 (by decide) flX4_29 f_num 81 rfl ?_
          refine go_iload_n O dX4_part_81 rfl 3 rfl 82 rfl ?_
          refine go_callvS (rest := []) (wr := [(h, .inr (4, fs)), (qquo, .inl (cI, 80, .inl (dg (V + true.toNat)))), (qparts, .inl (cI, 320, .inl PF)), (qgiven, .inl (cZ, 8, .inl gv)), (qother, .inl (cI, 80, .inl (dg (Int.natAbs 1))))]) O hK hE (c_X4_shift E hE qnum cI (V + true.toNat) κ (by omega)) mlX4_82 smX4_shift inX4 cdX4_shift 2 (by decide +kernel) ⟨Nat.le_of_ble_eq_true rfl, Nat.le_of_ble_eq_true rfl⟩ [0] rfl [5] rfl (by decide) [0, 1, 2, 3, 4] rfl (by decide) (by decide) rfl rfl (Nat.le_of_ble_eq_true rfl) ⟨Nat.zero_le _, Nat.zero_le _⟩ dX4_part_82 85 rfl (fun u hu => ?_)
          show TGo X [(h, .inr (4, fs)), (qquo, .inl (cI, 80, .inl (dg (V + true.toNat)))), (qparts, .inl (cI, 320, .inl PF)), (qgiven, .inl (cZ, 8, .inl gv)), (qother, .inl (cI, 80, .inl (dg (Int.natAbs 1)))), (qnum, .inl (cI, 80, .inl (dg ((V + true.toNat) * 10 ^ κ))))] 0 0 85 [(3, .int (iI x)), (0, .ref h), (1, .int (iI ((ι : Nat) : Int))), (2, .int (iI ((κ : Nat) : Int)))] []
          exact hret _ _ (dg (V + true.toNat), dg (Int.natAbs 1)) dX4_part_85 trivial
      · refine go_aload_n O dX4_part_15 rfl 1 rfl 16 rfl ?_
        refine go_get O hK dX4_part_16 hinX4 0 rfl rfl 13 (by decide) flX4_38 f_quo 19 rfl ?_
        refine go_iload_n O dX4_part_19 rfl 0 rfl 20 rfl ?_
        refine go_aload_n O dX4_part_20 rfl 1 rfl 21 rfl ?_
        refine go_get O hK dX4_part_21 hinX4 0 rfl rfl 17 (by decide) flX4_50 f_parts 24 rfl ?_
        refine go_bipush O dX4_part_24 (by decide) 26 rfl ?_
        refine go_iload_n O dX4_part_26 rfl 2 rfl 27 rfl ?_
        refine go_imul O dX4_part_27 ((40 * (ι) : Nat) : Int) (by omega) 28 rfl ?_
        refine go_iload_n O dX4_part_28 rfl 0 rfl 29 rfl ?_
        refine go_iadd O dX4_part_29 ((40 * ι + i : Nat) : Int) (by omega) 30 rfl ?_
        refine go_iald O hK dX4_part_30 2 0 rfl rfl (40 * ι + i) rfl (by omega) (by omega) ((V / 10 ^ i % 10 : Nat) : Int) (hPV i (by omega)) 31 rfl ?_
        refine go_iast O hK dX4_part_31 1 0 rfl rfl i hx (by omega) (by omega) (upd g i (iI ((V / 10 ^ i % 10 : Nat) : Int))) (fun _ _ => rfl) [(h, .inr (4, fs)), (qquo, .inl (cI, 80, .inl (upd g i (iI ((V / 10 ^ i % 10 : Nat) : Int))))), (qparts, .inl (cI, 320, .inl PF)), (qgiven, .inl (cZ, 8, .inl gv)), (qother, .inl (cI, 80, .inl fo)), (qnum, .inl (cI, 80, .inl fnum))] rfl 32 rfl ?_
        refine go_iinc O dX4_part_32 0 rfl ((i + 1 : Nat) : Int) (by omega) (by decide) [(3, .int (iI ((i + 1 : Nat) : Int))), (0, .ref h), (1, .int (iI ((ι : Nat) : Int))), (2, .int (iI ((κ : Nat) : Int)))] rfl 35 rfl ?_
        refine go_goto O dX4_part_35 9 (by decide) ?_
        refine TGo.lsub (lv' := [(3, .int (iI ((i + 1 : Nat) : Int))), (0, .ref h), (1, .int (iI ((ι : Nat) : Int))), (2, .int (iI ((κ : Nat) : Int)))]) [0, 1, 2, 3] rfl ?_
        exact ih (i + 1) _ _ (by omega) (by omega) (by omega) (lo_upd hlo rfl) (hi_upd hhi)
  refine go_aload_n O dX4_part_0 rfl 0 rfl 1 rfl ?_
  refine go_get O hK dX4_part_1 hinX4 0 rfl rfl 13 (by decide) flX4_38 f_quo 4 rfl ?_
  refine go_callvS (rest := []) (wr := [(h, .inr (4, fs)), (qparts, .inl (cI, 320, .inl PF)), (qgiven, .inl (cZ, 8, .inl gv)), (qother, .inl (cI, 80, .inl fo)), (qnum, .inl (cI, 80, .inl fnum))]) O hK hE (c_X4_clear E hE qquo cI fq) mlX4_72 smX4_clear inX4 cdX4_clear 1 (by decide +kernel) ⟨Nat.le_of_ble_eq_true rfl, Nat.le_of_ble_eq_true rfl⟩ [0] rfl [1] rfl (by decide) [0, 2, 3, 4, 5] rfl (by decide) (by decide) rfl rfl (Nat.le_of_ble_eq_true rfl) ⟨Nat.zero_le _, Nat.zero_le _⟩ dX4_part_4 7 rfl (fun u hu => ?_)
  show TGo X [(h, .inr (4, fs)), (qparts, .inl (cI, 320, .inl PF)), (qgiven, .inl (cZ, 8, .inl gv)), (qother, .inl (cI, 80, .inl fo)), (qnum, .inl (cI, 80, .inl fnum)), (qquo, .inl (cI, 80, .inl (dg 0)))] 0 0 7 [(0, .ref h), (1, .int (iI ((ι : Nat) : Int))), (2, .int (iI ((κ : Nat) : Int)))] []
  refine TGo.sub (ws' := [(h, .inr (4, fs)), (qquo, .inl (cI, 80, .inl (dg 0))), (qparts, .inl (cI, 320, .inl PF)), (qgiven, .inl (cZ, 8, .inl gv)), (qother, .inl (cI, 80, .inl fo)), (qnum, .inl (cI, 80, .inl fnum))]) [0, 5, 1, 2, 3, 4] (by decide) rfl ?_
  refine go_iconst O dX4_part_7 8 rfl ?_
  refine go_istore_n O dX4_part_8 rfl (by decide) [(3, .int (iI 0)), (0, .ref h), (1, .int (iI ((ι : Nat) : Int))), (2, .int (iI ((κ : Nat) : Int)))] rfl 9 rfl ?_
  refine TGo.lsub (lv' := [(3, .int (iI 0)), (0, .ref h), (1, .int (iI ((ι : Nat) : Int))), (2, .int (iI ((κ : Nat) : Int)))]) [0, 1, 2, 3] rfl ?_
  exact lp 41 0 _ _ (by omega) (by omega) (by omega) (fun j a => absurd a (by omega)) (fun j _ => dg_zero j)
