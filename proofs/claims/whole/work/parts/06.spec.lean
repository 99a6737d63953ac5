/-! What the two sides keep: rounding, and the settling of an exact result num / den (in steps of 10^-10). -/
/-- does a quotient q with the remainder r of d go one up? -/
def awy (mode : Int) (minus : Bool) (q r d : Nat) : Bool :=
  !decide (r = 0) && (decide (mode = 0) || (decide (mode = 2) && !minus) || (decide (mode = 3) && minus) || (decide (mode = 4) && decide (d ≤ 2 * r)) || (decide (mode = 5) && decide (d < 2 * r)) || (decide (mode = 6) && (decide (d < 2 * r) || (decide (d ≤ 2 * r) && decide (q % 2 = 1)))))
theorem awy_congr {m : Int} {b : Bool} {q r d r' d' : Nat} (h0 : r = 0 ↔ r' = 0) (h1 : d ≤ 2 * r ↔ d' ≤ 2 * r') (h2 : d < 2 * r ↔ d' < 2 * r') : awy m b q r d = awy m b q r' d' := by
  unfold awy
  rw [decide_eq_decide.mpr h0, decide_eq_decide.mpr h1, decide_eq_decide.mpr h2]
theorem awy_zero (m : Int) (b : Bool) (q d : Nat) : awy m b q 0 d = false := by
  unfold awy
  rw [decide_eq_true (rfl : (0 : Nat) = 0)]
  rfl
def trnd (mode : Int) (minus : Bool) (q r d : Nat) : Nat := if awy mode minus q r d = true then q + 1 else q
theorem trnd_le (m : Int) (b : Bool) (q r d : Nat) : trnd m b q r d ≤ q + 1 := by unfold trnd; split <;> omega
theorem trnd_ge (m : Int) (b : Bool) (q r d : Nat) : q ≤ trnd m b q r d := by unfold trnd; split <;> omega
/-- how many of the ten digits behind the point are rounded away -/
def tstp (p s w : Nat) : Nat := if s + w ≤ p then 10 - s else 10 + w - p
def tlim (minus : Bool) : Nat := if minus = true then 9223372036854775808 else 9223372036854775807
def tstl (p s : Nat) (m : Int) (wide minus : Bool) (num den : Nat) : Option Nat :=
  if wide = true then
    (if 26 < tnds (num / (den * 10 ^ 10)) then none else
      (fun t => (fun q => if q < 10 ^ 36 then some q else none) (trnd m minus (num / (den * 10 ^ t)) (num % (den * 10 ^ t)) (den * 10 ^ t) * 10 ^ t)) (tstp p s (tnds (num / (den * 10 ^ 10)))))
  else if num % den = 0 ∧ num / den % 10 ^ 5 = 0 ∧ num / den ≤ tlim minus * 10 ^ 5 then some (num / den) else none
/-- the same from the row of 20 digits behind the point, W, which goes on (g) or not -/
def tkeep (p s : Nat) (m : Int) (wide minus : Bool) (W : Nat) (g : Bool) : Option Nat :=
  if wide = true then
    (fun t => (fun V => if V < 10 ^ 46 then some (V / 10 ^ 10) else none) (trnd m minus (W / 10 ^ t) (2 * (W % 10 ^ t) + g.toNat) (2 * 10 ^ t) * 10 ^ t)) (10 + tstp p s (tnds W - 20))
  else if g = false ∧ W % 10 ^ 15 = 0 ∧ W / 10 ^ 15 ≤ tlim minus then some (W / 10 ^ 10) else none
theorem tV_mod {V den T : Nat} (hd : 0 < den) : V % (den * T) = V / den % T * den + V % den := by
  rw [Nat.mod_mul, Nat.mul_comm den, Nat.add_comm]
theorem tnds_q {W : Nat} : tnds (W / 10 ^ 20) = tnds W - 20 := by
  by_cases h : W < 10 ^ 20
  · rw [q_lt h, tnds_zero]
    have := tnds_mono h
    omega
  · have hW : 0 < W := by have := p10 20; omega
    have h1 := tnds_lt W
    have h2 := tnds_le hW
    have h3 := tnds_gt (N := W) (e := 20) (by omega)
    refine tnds_eq ?_ (Or.inr ?_)
    · refine (Nat.div_lt_iff_lt_mul (p10 20)).mpr ?_
      rw [← p10add]
      have e : tnds W - 20 + 20 = tnds W := by omega
      rw [e]; exact h1
    · refine (Nat.le_div_iff_mul_le (p10 20)).mpr ?_
      rw [← p10add]
      have e : tnds W - 20 - 1 + 20 = tnds W - 1 := by omega
      rw [e]; exact h2
theorem tnum_q {num den t : Nat} : num * 10 ^ 10 / den / 10 ^ (10 + t) = num / (den * 10 ^ t) := by
  rw [Nat.div_div_eq_div_mul, p10add, ← Nat.mul_assoc, Nat.mul_comm den (10 ^ 10), Nat.mul_assoc, Nat.mul_comm num, Nat.mul_div_mul_left _ _ (p10 10)]
theorem tnum_r {num den t : Nat} (hd : 0 < den) : num % (den * 10 ^ t) * 10 ^ 10 = num * 10 ^ 10 / den % 10 ^ (10 + t) * den + num * 10 ^ 10 % den := by
  rw [← tV_mod hd, p10add, ← Nat.mul_assoc, Nat.mul_comm den (10 ^ 10), Nat.mul_assoc, Nat.mul_comm num, Nat.mul_mod_mul_left, Nat.mul_comm]
theorem tawy_eq {m : Int} {b : Bool} {q num den t : Nat} (hd : 0 < den) : awy m b q (num % (den * 10 ^ t)) (den * 10 ^ t) = awy m b q (2 * (num * 10 ^ 10 / den % 10 ^ (10 + t)) + (decide (num * 10 ^ 10 % den ≠ 0)).toNat) (2 * 10 ^ (10 + t)) := by
  have hr := tnum_r (num := num) (t := t) hd
  have hf : num * 10 ^ 10 % den < den := Nat.mod_lt _ hd
  have hT : den * 10 ^ t * 10 ^ 10 = den * (2 * (5 * 10 ^ (9 + t))) := by
    have e : 10 ^ (10 + t) = 10 * 10 ^ (9 + t) := by rw [← p10s]; congr 1; omega
    rw [Nat.mul_assoc, ← p10add, Nat.add_comm t, e]
    congr 1
    omega
  have hT2 : 10 ^ (10 + t) = 2 * (5 * 10 ^ (9 + t)) := by
    have e : 10 ^ (10 + t) = 10 * 10 ^ (9 + t) := by rw [← p10s]; congr 1; omega
    omega
  rw [hT2]
  rw [hT2] at hr
  generalize num * 10 ^ 10 / den % (2 * (5 * 10 ^ (9 + t))) = R at *
  generalize num * 10 ^ 10 % den = f at *
  generalize 5 * 10 ^ (9 + t) = h at *
  generalize num % (den * 10 ^ t) = r at *
  generalize den * 10 ^ t = d at *
  have hg : (decide (f ≠ 0)).toNat = if f = 0 then 0 else 1 := by by_cases h0 : f = 0 <;> simp [h0]
  rw [hg]
  have hdh : d * 10 ^ 10 = 2 * (den * h) := by rw [hT, Nat.mul_left_comm]
  have key : (R < h → 2 * r < d) ∧ (h < R → d < 2 * r) ∧ (R = h → (f = 0 → 2 * r = d) ∧ (f ≠ 0 → d < 2 * r)) := by
    refine ⟨fun a => ?_, fun a => ?_, fun a => ⟨fun e => ?_, fun e => ?_⟩⟩
    · have h1 : (R + 1) * den ≤ h * den := Nat.mul_le_mul_right _ a
      rw [Nat.add_mul, Nat.one_mul, Nat.mul_comm h den] at h1
      omega
    · have h1 : (h + 1) * den ≤ R * den := Nat.mul_le_mul_right _ a
      rw [Nat.add_mul, Nat.one_mul, Nat.mul_comm h den] at h1
      omega
    · subst a; rw [Nat.mul_comm R den] at hr; omega
    · subst a; rw [Nat.mul_comm R den] at hr; omega
  have k0 : r = 0 ↔ R = 0 ∧ f = 0 := by
    constructor
    · intro e
      subst e
      have h1 : R * den = 0 ∧ f = 0 := by omega
      rcases Nat.mul_eq_zero.mp h1.1 with h2 | h2
      · exact ⟨h2, h1.2⟩
      · omega
    · intro e
      rw [e.1, e.2] at hr
      omega
  obtain ⟨k1, k2, k3⟩ := key
  by_cases c1 : R < h
  · have := k1 c1
    refine awy_congr ?_ ?_ ?_ <;> split <;> omega
  · by_cases c2 : h < R
    · have := k2 c2
      refine awy_congr ?_ ?_ ?_ <;> split <;> omega
    · have c3 : R = h := by omega
      obtain ⟨k4, k5⟩ := k3 c3
      by_cases c4 : f = 0
      · have := k4 c4
        rw [if_pos c4]
        refine awy_congr ?_ ?_ ?_ <;> omega
      · have := k5 c4
        rw [if_neg c4]
        refine awy_congr ?_ ?_ ?_ <;> omega
theorem tstp_le {p s w : Nat} (hp : 19 ≤ p) (hs : s ≤ 10) (hw : w ≤ 26) : tstp p s w ≤ 17 := by unfold tstp; split <;> omega
theorem tstl_keep {p s : Nat} {m : Int} {wide minus : Bool} {num den : Nat} (hp : 19 ≤ p) (hp2 : p ≤ 30) (hs : 5 ≤ s) (hs2 : s ≤ 10) (hd : 0 < den) :
    tstl p s m wide minus num den = tkeep p s m wide minus (num * 10 ^ 10 / den) (decide (num * 10 ^ 10 % den ≠ 0)) := by
  unfold tstl tkeep
  by_cases hw : wide = true
  · rw [if_pos hw, if_pos hw]
    have e1 : num / (den * 10 ^ 10) = num * 10 ^ 10 / den / 10 ^ 20 := (tnum_q (t := 10)).symm
    rw [e1, tnds_q]
    generalize hW : tnds (num * 10 ^ 10 / den) - 20 = w
    generalize ht : tstp p s w = t
    have e2 : trnd m minus (num / (den * 10 ^ t)) (num % (den * 10 ^ t)) (den * 10 ^ t) = trnd m minus (num * 10 ^ 10 / den / 10 ^ (10 + t)) (2 * (num * 10 ^ 10 / den % 10 ^ (10 + t)) + (decide (num * 10 ^ 10 % den ≠ 0)).toNat) (2 * 10 ^ (10 + t)) := by
      unfold trnd
      rw [← tnum_q (t := t), tawy_eq hd]
    have hge : num * 10 ^ 10 / den / 10 ^ (10 + t) ≤ trnd m minus (num * 10 ^ 10 / den / 10 ^ (10 + t)) (2 * (num * 10 ^ 10 / den % 10 ^ (10 + t)) + (decide (num * 10 ^ 10 % den ≠ 0)).toNat) (2 * 10 ^ (10 + t)) := trnd_ge ..
    by_cases h26 : 26 < w
    · rw [if_pos h26]
      show none = if _ < 10 ^ 46 then _ else _
      rw [if_neg]
      intro hlt
      have hpos : 0 < num * 10 ^ 10 / den := by
        rcases Nat.eq_zero_or_pos (num * 10 ^ 10 / den) with h0 | h0
        · rw [h0, tnds_zero] at hW; omega
        · exact h0
      have h1 := tnds_le hpos
      have h2 : tnds (num * 10 ^ 10 / den) = w + 20 := by omega
      rw [h2] at h1
      have h3 : t = 10 + w - p := by rw [← ht]; unfold tstp; rw [if_neg (by omega)]
      have h4 : 10 ^ (w + 20 - 1) = 10 ^ (w + 9 - t) * 10 ^ (10 + t) := by rw [← p10add]; congr 1; omega
      rw [h4] at h1
      have h5 : 10 ^ (w + 9 - t) ≤ num * 10 ^ 10 / den / 10 ^ (10 + t) := (Nat.le_div_iff_mul_le (p10 _)).mpr h1
      have h6 := Nat.mul_le_mul_right (10 ^ (10 + t)) (Nat.le_trans h5 hge)
      rw [← h4] at h6
      have h7 := p10le (a := 46) (b := w + 20 - 1) (by omega)
      omega
    · rw [if_neg h26]
      dsimp only
      rw [e2]
      generalize trnd m minus (num * 10 ^ 10 / den / 10 ^ (10 + t)) (2 * (num * 10 ^ 10 / den % 10 ^ (10 + t)) + (decide (num * 10 ^ 10 % den ≠ 0)).toNat) (2 * 10 ^ (10 + t)) = q
      have e3 : q * 10 ^ (10 + t) = q * 10 ^ t * 10 ^ 10 := by rw [Nat.mul_assoc, ← p10add, Nat.add_comm t]
      show (if q * 10 ^ t < 10 ^ 36 then some (q * 10 ^ t) else none) = if q * 10 ^ (10 + t) < 10 ^ 46 then some (q * 10 ^ (10 + t) / 10 ^ 10) else none
      rw [e3, Nat.mul_div_cancel _ (p10 10)]
      by_cases h3 : q * 10 ^ t < 10 ^ 36
      · rw [if_pos h3, if_pos (by have := p10add 36 10; omega)]
      · rw [if_neg h3, if_neg (by have := p10add 36 10; omega)]
  · rw [if_neg hw, if_neg hw]
    have key : (num % den = 0 ∧ num / den % 10 ^ 5 = 0) ↔ (num * 10 ^ 10 % den = 0 ∧ num * 10 ^ 10 / den % 10 ^ 15 = 0) := by
      have e0 : num * 10 ^ 10 % (den * 10 ^ 15) = num % (den * 10 ^ 5) * 10 ^ 10 := by
        have : den * 10 ^ 15 = den * 10 ^ 5 * 10 ^ 10 := by rw [Nat.mul_assoc, ← p10add]
        rw [this, Nat.mul_mod_mul_right]
      have e1 := tV_mod (V := num * 10 ^ 10) (T := 10 ^ 15) hd
      have e2 := tV_mod (V := num) (T := 10 ^ 5) hd
      rw [e0] at e1
      rw [e2] at e1
      constructor
      · intro ⟨a, b⟩
        rw [a, b, Nat.zero_mul, Nat.zero_add, Nat.zero_mul] at e1
        have h1 : num * 10 ^ 10 % den = 0 ∧ num * 10 ^ 10 / den % 10 ^ 15 * den = 0 := by omega
        rcases Nat.mul_eq_zero.mp h1.2 with h2 | h2
        · exact ⟨h1.1, h2⟩
        · omega
      · intro ⟨a, b⟩
        rw [a, b, Nat.zero_mul, Nat.zero_add] at e1
        have h0 : num / den % 10 ^ 5 * den + num % den = 0 := by omega
        have h1 : num % den = 0 ∧ num / den % 10 ^ 5 * den = 0 := by omega
        rcases Nat.mul_eq_zero.mp h1.2 with h2 | h2
        · exact ⟨h1.1, h2⟩
        · omega
    have hx : num % den = 0 → num * 10 ^ 10 / den = num / den * 10 ^ 10 := by
      intro a
      have h1 := Nat.div_add_mod num den
      rw [a, Nat.add_zero] at h1
      conv => lhs; rw [← h1]
      rw [Nat.mul_assoc, Nat.mul_div_cancel_left _ hd]
    by_cases c : num % den = 0 ∧ num / den % 10 ^ 5 = 0
    · have c2 := key.mp c
      have h1 := hx c.1
      have e3 : num * 10 ^ 10 / den / 10 ^ 15 = num / den / 10 ^ 5 := by
        have : 10 ^ 15 = 10 ^ 5 * 10 ^ 10 := by rw [← p10add]
        rw [h1, this, Nat.mul_div_mul_right _ _ (p10 10)]
      have e4 : num * 10 ^ 10 / den / 10 ^ 10 = num / den := by rw [h1, Nat.mul_div_cancel _ (p10 10)]
      have e5 : decide (num * 10 ^ 10 % den ≠ 0) = false := by rw [c2.1]; rfl
      rw [e3, e4, e5]
      have h5 := Nat.div_add_mod (num / den) (10 ^ 5)
      rw [c.2] at h5
      by_cases c3 : num / den ≤ tlim minus * 10 ^ 5
      · rw [if_pos ⟨c.1, c.2, c3⟩, if_pos ⟨rfl, c2.2, by omega⟩]
      · rw [if_neg (fun z => c3 z.2.2), if_neg (fun z => c3 (by have := z.2.2; omega))]
    · rw [if_neg (fun z => c ⟨z.1, z.2.1⟩), if_neg]
      intro z
      refine c (key.mpr ⟨?_, z.2.1⟩)
      have := z.1
      by_cases h0 : num * 10 ^ 10 % den = 0
      · exact h0
      · rw [decide_eq_true h0] at this; cases this
