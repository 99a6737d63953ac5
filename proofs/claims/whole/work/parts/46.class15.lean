/-! The class's reading. -/
def rdEn (tx : Nat → Int) (sz : Nat) (c : Int) : Nat → Bool × Nat → Bool × Nat
  | 0, s => s
  | n + 1, s => rdEn tx sz c n (rdE tx sz c s)
theorem rdEn_f {tx : Nat → Int} {sz b : Nat} {c : Int} : ∀ n, rdEn tx sz c n (false, b) = (false, b) := by
  intro n
  induction n with
  | zero => rfl
  | succ n ih => show rdEn tx sz c n (rdE tx sz c (false, b)) = _; rw [rdE_f, ih]
theorem okc_add {tx : Nat → Int} {a n k : Nat} (h : okc tx a n) (hk : ∀ j, j < k → tx (a + n + j) = 44 ∨ (48 ≤ tx (a + n + j) ∧ tx (a + n + j) ≤ 57)) : okc tx a (n + k) := by
  intro j hj
  by_cases e : j < n
  · exact h j e
  · have := hk (j - n) (by omega)
    rw [show a + n + (j - n) = a + j by omega] at this
    exact this
theorem rdG_okc {tx : Nat → Int} {sz a : Nat} : ∀ (f : Nat) (s : Bool × Nat), a ≤ s.2 → okc tx a (s.2 - a) → okc tx a ((rdG tx sz f s).2 - a) := by
  intro f
  induction f with
  | zero => intro s _ h; exact h
  | succ f ih =>
    intro s h1 h2
    show okc tx a ((if s.1 = true ∧ s.2 < sz ∧ tx s.2 = 44 then rdG tx sz f (rdD tx sz 3 3 (true, s.2 + 1)) else s).2 - a)
    by_cases e : s.1 = true ∧ s.2 < sz ∧ tx s.2 = 44
    · rw [if_pos e]
      refine ih _ ?_ ?_
      · show a ≤ s.2 + 1 + _; omega
      · show okc tx a (s.2 + 1 + dct tx sz 3 (s.2 + 1) - a)
        rw [show s.2 + 1 + dct tx sz 3 (s.2 + 1) - a = (s.2 - a) + (1 + dct tx sz 3 (s.2 + 1)) by omega]
        refine okc_add h2 ?_
        intro j hj
        rw [show a + (s.2 - a) + j = s.2 + j by omega]
        cases j with
        | zero => exact Or.inl e.2.2
        | succ j =>
          have := dct_dig tx sz 3 (s.2 + 1) j (by omega)
          rw [show s.2 + 1 + j = s.2 + (j + 1) by omega] at this
          exact Or.inr this.2
    · rw [if_neg e]; exact h2
theorem rdW_okc {tx : Nat → Int} {sz a : Nat} {g : Bool} : okc tx a ((rdW tx sz g (true, a)).2 - a) := by
  have h : ∀ l m, okc tx a ((rdD tx sz l m (true, a)).2 - a) := by
    intro l m
    show okc tx a (a + dct tx sz m a - a)
    rw [Nat.add_sub_cancel_left]
    intro j hj
    exact Or.inr (dct_dig tx sz m a j hj).2
  unfold rdW
  split
  · exact rdG_okc 48 _ (Nat.le_add_right _ _) (h 1 3)
  · exact h 1 48
theorem tk_c {tx : Nat → Int} {s n : Nat} (h : tx s = 44) : tval tx s (n + 1) = tval tx (s + 1) n ∧ tcnt tx s (n + 1) = tcnt tx (s + 1) n := by
  have e := tval_l tx s n
  rw [if_pos h, if_pos h, Nat.zero_add, Nat.zero_add] at e
  exact e
theorem tk_d {tx : Nat → Int} {s n : Nat} (h : tx s ≠ 44) : tval tx s (n + 1) = (tx s - 48).toNat * 10 ^ tcnt tx (s + 1) n + tval tx (s + 1) n ∧ tcnt tx s (n + 1) = 1 + tcnt tx (s + 1) n := by
  have e := tval_l tx s n
  rw [if_neg h, if_neg h] at e
  exact e
theorem tk_z {tx : Nat → Int} {s n : Nat} (h : okc tx s n) : tval tx s n * 10 ^ 20 / 10 ^ (20 + tcnt tx s n) % 10 = 0 := by
  have h1 := tval_lt tx s n h
  rw [Nat.add_comm 20, p10add, Nat.mul_div_mul_right _ _ (p10 20), Nat.div_eq_of_lt h1]
theorem tk_n {tx : Nat → Int} {s n : Nat} (h : tx s ≠ 44) : tval tx (s + 1) n * 10 ^ 20 + (tx s - 48).toNat * 10 ^ (20 + tcnt tx (s + 1) n) = tval tx s (n + 1) * 10 ^ 20 := by
  rw [(tk_d h).1, Nat.add_mul, Nat.mul_assoc, ← p10add, Nat.add_comm 20, Nat.add_comm]
theorem fr_z {N F i : Nat} (hi : i < 10) : (N * 10 ^ 20 + F * 10 ^ (20 - i)) / 10 ^ (19 - i) % 10 = 0 := by
  have e1 : 10 ^ 20 = 10 ^ i * (10 * 10 ^ (19 - i)) := by rw [← p10s, ← p10add]; congr 1; omega
  have e2 : 10 ^ (20 - i) = 10 * 10 ^ (19 - i) := by rw [← p10s]; congr 1; omega
  rw [e1, e2, ← Nat.mul_assoc, ← Nat.mul_assoc, ← Nat.mul_assoc, ← Nat.add_mul, Nat.mul_div_cancel _ (p10 _)]
  omega
theorem fr_n {N F d i : Nat} (hi : i < 10) : N * 10 ^ 20 + F * 10 ^ (20 - i) + d * 10 ^ (19 - i) = N * 10 ^ 20 + (F * 10 + d) * 10 ^ (20 - (i + 1)) := by
  have e2 : 10 ^ (20 - i) = 10 * 10 ^ (19 - i) := by rw [← p10s]; congr 1; omega
  rw [e2, show 20 - (i + 1) = 19 - i by omega, Nat.add_mul, ← Nat.mul_assoc, Nat.add_assoc]
theorem fr_e {N F k : Nat} (hk : k ≤ 10) : N * 10 ^ 20 + F * 10 ^ (20 - k) = (N * 10 ^ k + F) * 10 ^ (20 - k) := by
  have e : 10 ^ 20 = 10 ^ k * 10 ^ (20 - k) := by rw [← p10add]; congr 1; omega
  rw [Nat.add_mul, Nat.mul_assoc, ← e]
theorem fr_bd {N F k : Nat} (hN : N < 10 ^ 48) (hF : F < 10 ^ k) (hk : k ≤ 10) : N * 10 ^ 20 + F * 10 ^ (20 - k) < 10 ^ 70 := by
  have h1 := Nat.mul_lt_mul_of_pos_right hF (p10 (20 - k))
  rw [← p10add, show k + (20 - k) = 20 by omega] at h1
  omega
theorem tv48 {tx : Nat → Int} {s n : Nat} (h : okc tx s n) (hn : n ≤ 48) : tval tx s n < 10 ^ 48 := by
  have h1 := tval_lt tx s n h
  have h2 := p10le (a := tcnt tx s n) (b := 48) (by have := tcnt_le tx s n; omega)
  omega
theorem rdO_y {tx : Nat → Int} {sz a : Nat} {st : Int} (h : a < sz ∧ tx a = rdSg st) : rdO tx sz st (true, a) = true := by
  show (true && decide (a < sz ∧ tx a = rdSg st)) = true
  rw [decide_eq_true h]; rfl
theorem rdO_n {tx : Nat → Int} {sz a : Nat} {st : Int} (h : ¬ (a < sz ∧ tx a = rdSg st)) : rdO tx sz st (true, a) = false := by
  show (true && decide (a < sz ∧ tx a = rdSg st)) = false
  rw [decide_eq_false h]; rfl
set_option maxHeartbeats 4000000 in
set_option maxRecDepth 100000 in
/-- Text.skipCode -/
theorem c_X1_skipCode (E : TEn) (hE : EnvOk E) (ht ql : Nat) (cI : ClassId) (tx : Nat → Int) (htx : ∀ j, r32 (tx j)) (sz ta : Nat) (tc : Int) (hpos : ∀ j, 0 ≤ tx j) (hs : sz ≤ 48) (hta : ta ≤ sz) : Cti vwCl E yX1_skipCode wsX1_skipCode (rmn 1 21) [.ref ht] [(ht, .inr (1, [.ref ql, .int (iI ((sz : Nat) : Int)), .int (iI ((ta : Nat) : Int)), .int (iI tc)])), (ql, .inl (cI, 48, .inl (fun j => iI (tx j))))] [(cI, .int)] (fun (z : Int) (u : Nat × Int) => z = bz (rdC tx sz (true, ta)).1 ∧ u.1 = (rdC tx sz (true, ta)).2 ∧ ((rdC tx sz (true, ta)).1 = true → u.2 = tx ta - 65)) (fun u => [(ht, .inr (1, [.ref ql, .int (iI ((sz : Nat) : Int)), .int (iI ((u.1 : Nat) : Int)), .int (iI u.2)])), (ql, .inl (cI, 48, .inl (fun j => iI (tx j))))]) := by
  refine enteri (by decide) (Nat.le_of_ble_eq_true rfl) ?_
  intro X O hK hin2 hret
  show TGo X [(ht, .inr (1, [.ref ql, .int (iI ((sz : Nat) : Int)), .int (iI ((ta : Nat) : Int)), .int (iI tc)])), (ql, .inl (cI, 48, .inl (fun j => iI (tx j))))] 0 0 0 [(0, .ref ht)] []
  have hta9 := htx ta
  have hta8 := hpos ta
  have lp : ∀ (c : Nat) (i : Nat) (x : Int) (b : Nat), c + i = 4 → i ≤ 3 → x = (i : Int) → b ≤ sz → (ta < sz ∧ 65 ≤ tx ta ∧ tx ta ≤ 70) → rdEn tx sz (tx ta) (3 - i) (true, b) = rdC tx sz (true, ta) → TGo X [(ht, .inr (1, [.ref ql, .int (iI ((sz : Nat) : Int)), .int (iI ((b : Nat) : Int)), .int (iI ((tx ta - 65)))])), (ql, .inl (cI, 48, .inl (fun j => iI (tx j))))] 0 0 51 [(1, .int (iI x)), (0, .ref ht)] [] := by
    intro c
    induction c with
    | zero => intro i x b h1 h2 hx hb hcd hF; omega
    | succ c ih =>
      intro i x b h1 h2 hx hb hcd hF
      refine go_iload_n O dX1_skipCode_51 rfl 0 rfl 52 rfl ?_
      refine go_iconst O dX1_skipCode_52 53 rfl ?_
      refine go_icmp_ge O dX1_skipCode_53 78 (by decide) 56 rfl (by omega) (by omega) (fun h53 => ?_) (fun h53 => ?_)
      · refine go_iconst O dX1_skipCode_78 79 rfl ?_
        have hR : rdC tx sz (true, ta) = (true, b) := by rw [← hF, show 3 - i = 0 by omega]; rfl
        exact hret _ _ _ (b, (tx ta - 65)) dX1_skipCode_79 rfl ⟨by rw [hR]; rfl, by rw [hR], fun _ => rfl⟩
      · refine go_aload_n O dX1_skipCode_56 rfl 1 rfl 57 rfl ?_
        refine go_bipush O dX1_skipCode_57 (by decide) 59 rfl ?_
        refine go_aload_n O dX1_skipCode_59 rfl 1 rfl 60 rfl ?_
        refine go_get O hK dX1_skipCode_60 hinX1 0 rfl rfl 3 (by decide) flX1_26 rfl 63 rfl ?_
        refine go_iadd O dX1_skipCode_63 (tx ta) (by omega) 64 rfl ?_
        refine go_calliV (As := [.int (iI (tx ta))]) (rest := []) (wr := []) O hK hE (c_X1_skip E hE ht ql cI tx htx sz b ((tx ta - 65)) (tx ta) (by omega) hs (by omega)) mlX1_29 imX1_skip seX1_skip inX1 cdX1_skip 1 (by decide +kernel) ⟨Nat.le_of_ble_eq_true rfl, Nat.le_of_ble_eq_true rfl⟩ 0 rfl rfl [0] rfl [0, 1] rfl (by decide) [] rfl (by decide) (by decide) rfl rfl (Nat.le_of_ble_eq_true rfl) ⟨Nat.zero_le _, Nat.zero_le _⟩ dX1_skipCode_64 67 rfl (fun z u hu => ?_)
        obtain ⟨b2, rfl⟩ : ∃ y, y = u := ⟨_, rfl⟩
        obtain ⟨zds, rfl⟩ : ∃ y, y = z := ⟨_, rfl⟩
        have ds := hu
        have dsr : 0 ≤ zds ∧ zds ≤ 1 := by rcases ds with e | e <;> omega
        show TGo X [(ht, .inr (1, [.ref ql, .int (iI ((sz : Nat) : Int)), .int (iI ((b2 : Nat) : Int)), .int (iI ((tx ta - 65)))])), (ql, .inl (cI, 48, .inl (fun j => iI (tx j))))] 0 0 67 [(1, .int (iI x)), (0, .ref ht)] [.int (iI zds)]
        refine go_if_ne O dX1_skipCode_67 72 (by decide) 70 rfl (by omega) (fun h67 => ?_) (fun h67 => ?_)
        · refine go_iinc O dX1_skipCode_72 0 rfl ((i + 1 : Nat) : Int) (by omega) (by decide) [(1, .int (iI ((i + 1 : Nat) : Int))), (0, .ref ht)] rfl 75 rfl ?_
          refine go_goto O dX1_skipCode_75 51 (by decide) ?_
          obtain ⟨_, hc1, hc2⟩ := ds.resolve_right (fun e => by omega)
          subst hc2
          refine TGo.lsub (lv' := [(1, .int (iI ((i + 1 : Nat) : Int))), (0, .ref ht)]) [0, 1] rfl ?_
          exact ih (i + 1) _ (b + 1) (by omega) (by omega) (by omega) (by omega) hcd (by rw [← hF, show 3 - i = (3 - (i + 1)) + 1 by omega]; show rdEn tx sz (tx ta) (3 - (i + 1)) (true, b + 1) = rdEn tx sz (tx ta) (3 - (i + 1)) (rdE tx sz (tx ta) (true, b)); rw [rdE_1 hc1])
        · obtain ⟨_, hc1, hc2⟩ := ds.resolve_left (fun e => by omega)
          have hR : rdC tx sz (true, ta) = (false, b) := by rw [← hF, show 3 - i = (3 - (i + 1)) + 1 by omega]; show rdEn tx sz (tx ta) (3 - (i + 1)) (rdE tx sz (tx ta) (true, b)) = _; rw [rdE_0 hc1, rdEn_f]
          refine go_iconst O dX1_skipCode_70 71 rfl ?_
          exact hret _ _ _ (b2, (tx ta - 65)) dX1_skipCode_71 rfl ⟨by rw [hR]; rfl, by rw [hR]; exact hc2, fun _ => rfl⟩
  refine go_aload_n O dX1_skipCode_0 rfl 0 rfl 1 rfl ?_
  refine go_aload_n O dX1_skipCode_1 rfl 0 rfl 2 rfl ?_
  refine go_get O hK dX1_skipCode_2 hinX1 0 rfl rfl 2 (by decide) flX1_23 rfl 5 rfl ?_
  refine go_aload_n O dX1_skipCode_5 rfl 0 rfl 6 rfl ?_
  refine go_get O hK dX1_skipCode_6 hinX1 0 rfl rfl 1 (by decide) flX1_15 rfl 9 rfl ?_
  refine go_icmp_ge O dX1_skipCode_9 27 (by decide) 12 rfl (by omega) (by omega) (fun h9 => ?_) (fun h9 => ?_)
  · refine go_iconst O dX1_skipCode_27 28 rfl ?_
    refine go_put O hK dX1_skipCode_28 hinX1 tyX1 tyX1_ok nmX1 0 rfl rfl 3 (by decide) flX1_26 rfl rfl rfl rfl (Nat.le_of_ble_eq_true rfl) [(ht, .inr (1, [.ref ql, .int (iI ((sz : Nat) : Int)), .int (iI ((ta : Nat) : Int)), .int (iI (-1))])), (ql, .inl (cI, 48, .inl (fun j => iI (tx j))))] rfl 31 rfl ?_
    refine go_aload_n O dX1_skipCode_31 rfl 0 rfl 32 rfl ?_
    refine go_get O hK dX1_skipCode_32 hinX1 0 rfl rfl 3 (by decide) flX1_26 rfl 35 rfl ?_
    refine go_if_lt O dX1_skipCode_35 47 (by decide) 38 rfl (by omega) (fun h35 => ?_) (fun h35 => by omega)
    refine go_iconst O dX1_skipCode_47 48 rfl ?_
    have hR : rdC tx sz (true, ta) = (false, ta) := rdC_n (by omega)
    exact hret _ _ _ (ta, (-1)) dX1_skipCode_48 rfl ⟨by rw [hR]; rfl, by rw [hR], fun e => by simp [hR] at e⟩
  · refine go_aload_n O dX1_skipCode_12 rfl 0 rfl 13 rfl ?_
    refine go_get O hK dX1_skipCode_13 hinX1 0 rfl rfl 0 (by decide) flX1_9 rfl 16 rfl ?_
    refine go_aload_n O dX1_skipCode_16 rfl 0 rfl 17 rfl ?_
    refine go_get O hK dX1_skipCode_17 hinX1 0 rfl rfl 2 (by decide) flX1_23 rfl 20 rfl ?_
    refine go_iald O hK dX1_skipCode_20 1 0 rfl rfl ta rfl (by omega) (by omega) (tx ta) rfl 21 rfl ?_
    refine go_bipush O dX1_skipCode_21 (by decide) 23 rfl ?_
    refine go_isub O dX1_skipCode_23 ((tx ta) - 65) rfl 24 rfl ?_
    refine go_goto O dX1_skipCode_24 28 (by decide) ?_
    refine go_put O hK dX1_skipCode_28 hinX1 tyX1 tyX1_ok nmX1 0 rfl rfl 3 (by decide) flX1_26 rfl rfl rfl rfl (Nat.le_of_ble_eq_true rfl) [(ht, .inr (1, [.ref ql, .int (iI ((sz : Nat) : Int)), .int (iI ((ta : Nat) : Int)), .int (iI ((tx ta) - 65))])), (ql, .inl (cI, 48, .inl (fun j => iI (tx j))))] rfl 31 rfl ?_
    refine go_aload_n O dX1_skipCode_31 rfl 0 rfl 32 rfl ?_
    refine go_get O hK dX1_skipCode_32 hinX1 0 rfl rfl 3 (by decide) flX1_26 rfl 35 rfl ?_
    refine go_if_lt O dX1_skipCode_35 47 (by decide) 38 rfl (by omega) (fun h35 => ?_) (fun h35 => ?_)
    · refine go_iconst O dX1_skipCode_47 48 rfl ?_
      have hR : rdC tx sz (true, ta) = (false, ta) := rdC_n (by omega)
      exact hret _ _ _ (ta, ((tx ta) - 65)) dX1_skipCode_48 rfl ⟨by rw [hR]; rfl, by rw [hR], fun e => by simp [hR] at e⟩
    · refine go_aload_n O dX1_skipCode_38 rfl 0 rfl 39 rfl ?_
      refine go_get O hK dX1_skipCode_39 hinX1 0 rfl rfl 3 (by decide) flX1_26 rfl 42 rfl ?_
      refine go_bipush O dX1_skipCode_42 (by decide) 44 rfl ?_
      refine go_icmp_lt O dX1_skipCode_44 49 (by decide) 47 rfl (by omega) (by omega) (fun h44 => ?_) (fun h44 => ?_)
      · refine go_iconst O dX1_skipCode_49 50 rfl ?_
        refine go_istore_n O dX1_skipCode_50 rfl (by decide) [(1, .int (iI 0)), (0, .ref ht)] rfl 51 rfl ?_
        refine TGo.lsub (lv' := [(1, .int (iI 0)), (0, .ref ht)]) [0, 1] rfl ?_
        exact lp 4 0 _ ta (by omega) (by omega) rfl hta (by omega) (by rw [rdC_y (by refine ⟨rfl, ?_⟩; omega)]; rfl)
      · refine go_iconst O dX1_skipCode_47 48 rfl ?_
        have hR : rdC tx sz (true, ta) = (false, ta) := rdC_n (by omega)
        exact hret _ _ _ (ta, ((tx ta) - 65)) dX1_skipCode_48 rfl ⟨by rw [hR]; rfl, by rw [hR], fun e => by simp [hR] at e⟩
set_option maxHeartbeats 4000000 in
set_option maxRecDepth 100000 in
/-- Text.skipWhole -/
theorem c_X1_skipWhole (E : TEn) (hE : EnvOk E) (ht ql : Nat) (cI : ClassId) (tx : Nat → Int) (htx : ∀ j, r32 (tx j)) (sz ta : Nat) (tc : Int) (g : Bool) (hs : sz ≤ 48) (hta : ta ≤ sz) : Cti vwCl E yX1_skipWhole wsX1_skipWhole (rmn 1 22) [.ref ht, .int (iI (bz g))] [(ht, .inr (1, [.ref ql, .int (iI ((sz : Nat) : Int)), .int (iI ((ta : Nat) : Int)), .int (iI tc)])), (ql, .inl (cI, 48, .inl (fun j => iI (tx j))))] [(cI, .int)] (fun (z : Int) (u : Nat) => z = bz (rdW tx sz g (true, ta)).1 ∧ u = (rdW tx sz g (true, ta)).2) (fun u => [(ht, .inr (1, [.ref ql, .int (iI ((sz : Nat) : Int)), .int (iI ((u : Nat) : Int)), .int (iI tc)])), (ql, .inl (cI, 48, .inl (fun j => iI (tx j))))]) := by
  refine enteri (by decide) (Nat.le_of_ble_eq_true rfl) ?_
  intro X O hK hin2 hret
  show TGo X [(ht, .inr (1, [.ref ql, .int (iI ((sz : Nat) : Int)), .int (iI ((ta : Nat) : Int)), .int (iI tc)])), (ql, .inl (cI, 48, .inl (fun j => iI (tx j))))] 0 0 0 [(0, .ref ht), (1, .int (iI (bz g)))] []
  have bg := bz_01 g
  have lp : ∀ (c : Nat) (i : Nat) (x : Int) (b : Nat), c + i = 49 → i ≤ 48 → x = (i : Int) → b ≤ sz → rdG tx sz (48 - i) (true, b) = rdW tx sz g (true, ta) → TGo X [(ht, .inr (1, [.ref ql, .int (iI ((sz : Nat) : Int)), .int (iI ((b : Nat) : Int)), .int (iI tc)])), (ql, .inl (cI, 48, .inl (fun j => iI (tx j))))] 0 0 31 [(2, .int (iI x)), (0, .ref ht), (1, .int (iI (bz g)))] [] := by
    intro c
    induction c with
    | zero => intro i x b h1 h2 hx hb hF; omega
    | succ c ih =>
      intro i x b h1 h2 hx hb hF
      refine go_iload_n O dX1_skipWhole_31 rfl 0 rfl 32 rfl ?_
      refine go_bipush O dX1_skipWhole_32 (by decide) 34 rfl ?_
      refine go_icmp_ge O dX1_skipWhole_34 63 (by decide) 37 rfl (by omega) (by omega) (fun h34 => ?_) (fun h34 => ?_)
      · have hR : rdW tx sz g (true, ta) = (true, b) := by rw [← hF]; rw [show 48 - i = 0 by omega]; rfl
        refine go_iconst O dX1_skipWhole_63 64 rfl ?_
        exact hret _ _ _ b dX1_skipWhole_64 rfl ⟨by rw [hR]; rfl, by rw [hR]⟩
      · refine go_aload_n O dX1_skipWhole_37 rfl 1 rfl 38 rfl ?_
        refine go_bipush O dX1_skipWhole_38 (by decide) 40 rfl ?_
        refine go_calliV (As := [.int (iI 44)]) (rest := []) (wr := []) O hK hE (c_X1_skip E hE ht ql cI tx htx sz b tc 44 (by omega) hs (by omega)) mlX1_29 imX1_skip seX1_skip inX1 cdX1_skip 1 (by decide +kernel) ⟨Nat.le_of_ble_eq_true rfl, Nat.le_of_ble_eq_true rfl⟩ 0 rfl rfl [0] rfl [0, 1] rfl (by decide) [] rfl (by decide) (by decide) rfl rfl (Nat.le_of_ble_eq_true rfl) ⟨Nat.zero_le _, Nat.zero_le _⟩ dX1_skipWhole_40 43 rfl (fun z u hu => ?_)
        obtain ⟨b2, rfl⟩ : ∃ y, y = u := ⟨_, rfl⟩
        obtain ⟨zds, rfl⟩ : ∃ y, y = z := ⟨_, rfl⟩
        have ds := hu
        have dsr : 0 ≤ zds ∧ zds ≤ 1 := by rcases ds with e | e <;> omega
        show TGo X [(ht, .inr (1, [.ref ql, .int (iI ((sz : Nat) : Int)), .int (iI ((b2 : Nat) : Int)), .int (iI tc)])), (ql, .inl (cI, 48, .inl (fun j => iI (tx j))))] 0 0 43 [(2, .int (iI x)), (0, .ref ht), (1, .int (iI (bz g)))] [.int (iI zds)]
        refine go_if_eq O dX1_skipWhole_43 63 (by decide) 46 rfl (by omega) (fun h43 => ?_) (fun h43 => ?_)
        · have hR : rdW tx sz g (true, ta) = (true, b) := by rw [← hF]; exact rdG_e (Or.inr (ds.resolve_left (fun e => by omega)).2.1)
          have hb2 : b2 = b := (ds.resolve_left (fun e => by omega)).2.2
          refine go_iconst O dX1_skipWhole_63 64 rfl ?_
          exact hret _ _ _ b2 dX1_skipWhole_64 rfl ⟨by rw [hR]; rfl, by rw [hR]; exact hb2⟩
        · obtain ⟨_, hc1, hc2⟩ := ds.resolve_right (fun e => by omega)
          subst hc2
          refine go_aload_n O dX1_skipWhole_46 rfl 1 rfl 47 rfl ?_
          refine go_iconst O dX1_skipWhole_47 48 rfl ?_
          refine go_calliV (As := [.int (iI 3)]) (rest := []) (wr := []) O hK hE (c_X1_skipDigits E hE ht ql cI tx htx sz (b + 1) tc 3 (by omega) hs (by omega)) mlX1_33 imX1_skipDigits seX1_skipDigits inX1 cdX1_skipDigits 1 (by decide +kernel) ⟨Nat.le_of_ble_eq_true rfl, Nat.le_of_ble_eq_true rfl⟩ 0 rfl rfl [0] rfl [0, 1] rfl (by decide) [] rfl (by decide) (by decide) rfl rfl (Nat.le_of_ble_eq_true rfl) ⟨Nat.zero_le _, Nat.zero_le _⟩ dX1_skipWhole_48 51 rfl (fun z u hu => ?_)
          obtain ⟨y9, rfl⟩ : ∃ y, y = u := ⟨_, rfl⟩
          obtain ⟨rfl, rfl⟩ := hu
          have hdl := dct_le tx sz 3 (b + 1)
          show TGo X [(ht, .inr (1, [.ref ql, .int (iI ((sz : Nat) : Int)), .int (iI ((b + 1 + dct tx sz 3 (b + 1) : Nat) : Int)), .int (iI tc)])), (ql, .inl (cI, 48, .inl (fun j => iI (tx j))))] 0 0 51 [(2, .int (iI x)), (0, .ref ht), (1, .int (iI (bz g)))] [.int (iI ((dct tx sz 3 (b + 1) : Nat) : Int))]
          refine go_iconst O dX1_skipWhole_51 52 rfl ?_
          refine go_icmp_ge O dX1_skipWhole_52 57 (by decide) 55 rfl (by omega) (by omega) (fun h52 => ?_) (fun h52 => ?_)
          · refine go_iinc O dX1_skipWhole_57 0 rfl ((i + 1 : Nat) : Int) (by omega) (by decide) [(2, .int (iI ((i + 1 : Nat) : Int))), (0, .ref ht), (1, .int (iI (bz g)))] rfl 60 rfl ?_
            refine go_goto O dX1_skipWhole_60 31 (by decide) ?_
            refine TGo.lsub (lv' := [(2, .int (iI ((i + 1 : Nat) : Int))), (0, .ref ht), (1, .int (iI (bz g)))]) [0, 1, 2] rfl ?_
            exact ih (i + 1) _ (b + 1 + dct tx sz 3 (b + 1)) (by omega) (by omega) (by omega) (by have := hdl.2 (by omega); omega) (by rw [← hF, show 48 - i = (48 - (i + 1)) + 1 by omega, rdG_s hc1, ← rdD_y (l := 3) (m := 3) (ok := true) (a := b + 1) (by show 3 ≤ dct tx sz 3 (b + 1); omega)]; rfl)
          · refine go_iconst O dX1_skipWhole_55 56 rfl ?_
            have hR : rdW tx sz g (true, ta) = (false, b + 1 + dct tx sz 3 (b + 1)) := by rw [← hF, show 48 - i = (48 - (i + 1)) + 1 by omega, rdG_s hc1, ← rdD_n (l := 3) (m := 3) (ok := true) (a := b + 1) (by show ¬ 3 ≤ dct tx sz 3 (b + 1); omega)]; exact rdG_f
            exact hret _ _ _ (b + 1 + dct tx sz 3 (b + 1)) dX1_skipWhole_56 rfl ⟨by rw [hR]; rfl, by rw [hR]⟩
  refine go_iload_n O dX1_skipWhole_0 rfl 1 rfl 1 rfl ?_
  refine go_if_ne O dX1_skipWhole_1 19 (by decide) 4 rfl (by omega) (fun h1 => ?_) (fun h1 => ?_)
  · refine go_aload_n O dX1_skipWhole_19 rfl 0 rfl 20 rfl ?_
    refine go_iconst O dX1_skipWhole_20 21 rfl ?_
    refine go_calliV (As := [.int (iI 3)]) (rest := []) (wr := []) O hK hE (c_X1_skipDigits E hE ht ql cI tx htx sz ta tc 3 (by omega) hs (by omega)) mlX1_33 imX1_skipDigits seX1_skipDigits inX1 cdX1_skipDigits 1 (by decide +kernel) ⟨Nat.le_of_ble_eq_true rfl, Nat.le_of_ble_eq_true rfl⟩ 0 rfl rfl [0] rfl [0, 1] rfl (by decide) [] rfl (by decide) (by decide) rfl rfl (Nat.le_of_ble_eq_true rfl) ⟨Nat.zero_le _, Nat.zero_le _⟩ dX1_skipWhole_21 24 rfl (fun z u hu => ?_)
    obtain ⟨y9, rfl⟩ : ∃ y, y = u := ⟨_, rfl⟩
    obtain ⟨rfl, rfl⟩ := hu
    have hdl := dct_le tx sz 3 ta
    show TGo X [(ht, .inr (1, [.ref ql, .int (iI ((sz : Nat) : Int)), .int (iI ((ta + dct tx sz 3 ta : Nat) : Int)), .int (iI tc)])), (ql, .inl (cI, 48, .inl (fun j => iI (tx j))))] 0 0 24 [(0, .ref ht), (1, .int (iI (bz g)))] [.int (iI ((dct tx sz 3 ta : Nat) : Int))]
    refine go_if_ne O dX1_skipWhole_24 29 (by decide) 27 rfl (by omega) (fun h24 => ?_) (fun h24 => ?_)
    · refine go_iconst O dX1_skipWhole_29 30 rfl ?_
      refine go_istore_n O dX1_skipWhole_30 rfl (by decide) [(2, .int (iI 0)), (0, .ref ht), (1, .int (iI (bz g)))] rfl 31 rfl ?_
      refine TGo.lsub (lv' := [(2, .int (iI 0)), (0, .ref ht), (1, .int (iI (bz g)))]) [0, 1, 2] rfl ?_
      exact lp 49 0 _ (ta + dct tx sz 3 ta) (by omega) (by omega) rfl (hdl.2 hta) (by unfold rdW; rw [if_pos (bz_ne h1), ← rdD_y (l := 1) (m := 3) (ok := true) (a := ta) (by show 1 ≤ dct tx sz 3 ta; omega)]; rfl)
    · refine go_iconst O dX1_skipWhole_27 28 rfl ?_
      have hR : rdW tx sz g (true, ta) = (false, ta + dct tx sz 3 ta) := by unfold rdW; rw [if_pos (bz_ne h1), ← rdD_n (l := 1) (m := 3) (ok := true) (a := ta) (by show ¬ 1 ≤ dct tx sz 3 ta; omega)]; exact rdG_f
      exact hret _ _ _ (ta + dct tx sz 3 ta) dX1_skipWhole_28 rfl ⟨by rw [hR]; rfl, by rw [hR]⟩
  · refine go_aload_n O dX1_skipWhole_4 rfl 0 rfl 5 rfl ?_
    refine go_bipush O dX1_skipWhole_5 (by decide) 7 rfl ?_
    refine go_calliV (As := [.int (iI 48)]) (rest := []) (wr := []) O hK hE (c_X1_skipDigits E hE ht ql cI tx htx sz ta tc 48 (by omega) hs (by omega)) mlX1_33 imX1_skipDigits seX1_skipDigits inX1 cdX1_skipDigits 1 (by decide +kernel) ⟨Nat.le_of_ble_eq_true rfl, Nat.le_of_ble_eq_true rfl⟩ 0 rfl rfl [0] rfl [0, 1] rfl (by decide) [] rfl (by decide) (by decide) rfl rfl (Nat.le_of_ble_eq_true rfl) ⟨Nat.zero_le _, Nat.zero_le _⟩ dX1_skipWhole_7 10 rfl (fun z u hu => ?_)
    obtain ⟨y9, rfl⟩ : ∃ y, y = u := ⟨_, rfl⟩
    obtain ⟨rfl, rfl⟩ := hu
    have hdl := dct_le tx sz 48 ta
    show TGo X [(ht, .inr (1, [.ref ql, .int (iI ((sz : Nat) : Int)), .int (iI ((ta + dct tx sz 48 ta : Nat) : Int)), .int (iI tc)])), (ql, .inl (cI, 48, .inl (fun j => iI (tx j))))] 0 0 10 [(0, .ref ht), (1, .int (iI (bz g)))] [.int (iI ((dct tx sz 48 ta : Nat) : Int))]
    refine go_if_le O dX1_skipWhole_10 17 (by decide) 13 rfl (by omega) (fun h10 => ?_) (fun h10 => ?_)
    · refine go_iconst O dX1_skipWhole_17 18 rfl ?_
      have hR : rdW tx sz g (true, ta) = (false, ta + dct tx sz 48 ta) := by unfold rdW; rw [if_neg (by rw [bz_0.mp h1]; decide)]; exact (rdD_n (l := 1) (m := 48) (ok := true) (by show ¬ 1 ≤ dct tx sz 48 ta; omega)).symm
      exact hret _ _ _ (ta + dct tx sz 48 ta) dX1_skipWhole_18 rfl ⟨by rw [hR]; rfl, by rw [hR]⟩
    · refine go_iconst O dX1_skipWhole_13 14 rfl ?_
      refine go_goto O dX1_skipWhole_14 18 (by decide) ?_
      have hR : rdW tx sz g (true, ta) = (true, ta + dct tx sz 48 ta) := by unfold rdW; rw [if_neg (by rw [bz_0.mp h1]; decide)]; exact (rdD_y (l := 1) (m := 48) (ok := true) (by show 1 ≤ dct tx sz 48 ta; omega)).symm
      exact hret _ _ _ (ta + dct tx sz 48 ta) dX1_skipWhole_18 rfl ⟨by rw [hR]; rfl, by rw [hR]⟩
set_option maxHeartbeats 4000000 in
set_option maxRecDepth 100000 in
/-- takeWhole -/
theorem c_X3_takeWhole (E : TEn) (hE : EnvOk E) (h qam qrat qrm hw hsh qrow qfac : Nat) (cM : ClassId) (ht ql : Nat) (cI : ClassId) (tx : Nat → Int) (htx : ∀ j, r32 (tx j)) (sz ta : Nat) (tc : Int) (P Sc : Nat) (m : Int) (ng go : Bool) (s0 e0 : Nat) (hse : s0 ≤ e0 ∧ e0 ≤ 48) (hok : okc tx s0 (e0 - s0)) : Ctv vwCl E yX3_takeWhole wsX3_takeWhole (rmn 0 0) [.ref h, .int (iI ((s0 : Nat) : Int)), .int (iI ((e0 : Nat) : Int))] [(h, .inr (3, [.int (iI ((P : Nat) : Int)), .int (iI ((Sc : Nat) : Int)), .int (iI m), .ref qam, .ref qrat, .ref qrm, .ref hw, .ref hsh, .ref ht])), (hw, .inr (2, [.ref qrow, .ref qfac, .int (iI (bz ng)), .int (iI (bz go))])), (qrow, .inl (cI, 72, .inl (dg 0))), (ht, .inr (1, [.ref ql, .int (iI ((sz : Nat) : Int)), .int (iI ((ta : Nat) : Int)), .int (iI tc)])), (ql, .inl (cI, 48, .inl (fun j => iI (tx j))))] [(cI, .int)] (fun _ : Unit => True) (fun _ => [(h, .inr (3, [.int (iI ((P : Nat) : Int)), .int (iI ((Sc : Nat) : Int)), .int (iI m), .ref qam, .ref qrat, .ref qrm, .ref hw, .ref hsh, .ref ht])), (hw, .inr (2, [.ref qrow, .ref qfac, .int (iI (bz ng)), .int (iI (bz go))])), (qrow, .inl (cI, 72, .inl (dg (tval tx s0 (e0 - s0) * 10 ^ 20)))), (ht, .inr (1, [.ref ql, .int (iI ((sz : Nat) : Int)), .int (iI ((ta : Nat) : Int)), .int (iI tc)])), (ql, .inl (cI, 48, .inl (fun j => iI (tx j))))]) := by
  refine enterv (by decide) (Nat.le_of_ble_eq_true rfl) ?_
  intro X O hK hin2 hret
  show TGo X [(h, .inr (3, [.int (iI ((P : Nat) : Int)), .int (iI ((Sc : Nat) : Int)), .int (iI m), .ref qam, .ref qrat, .ref qrm, .ref hw, .ref hsh, .ref ht])), (hw, .inr (2, [.ref qrow, .ref qfac, .int (iI (bz ng)), .int (iI (bz go))])), (qrow, .inl (cI, 72, .inl (dg 0))), (ht, .inr (1, [.ref ql, .int (iI ((sz : Nat) : Int)), .int (iI ((ta : Nat) : Int)), .int (iI tc)])), (ql, .inl (cI, 48, .inl (fun j => iI (tx j))))] 0 0 0 [(0, .ref h), (1, .int (iI ((s0 : Nat) : Int))), (2, .int (iI ((e0 : Nat) : Int)))] []
  have lp : ∀ (c : Nat) (k : Nat) (x : Int) (pl M : Nat), c = k + 1 → k ≤ e0 - s0 → x = (s0 : Int) + (k : Int) - 1 → pl = 20 + tcnt tx (s0 + k) (e0 - s0 - k) → M = tval tx (s0 + k) (e0 - s0 - k) * 10 ^ 20 → TGo X [(h, .inr (3, [.int (iI ((P : Nat) : Int)), .int (iI ((Sc : Nat) : Int)), .int (iI m), .ref qam, .ref qrat, .ref qrm, .ref hw, .ref hsh, .ref ht])), (hw, .inr (2, [.ref qrow, .ref qfac, .int (iI (bz ng)), .int (iI (bz go))])), (qrow, .inl (cI, 72, .inl (dg M))), (ht, .inr (1, [.ref ql, .int (iI ((sz : Nat) : Int)), .int (iI ((ta : Nat) : Int)), .int (iI tc)])), (ql, .inl (cI, 48, .inl (fun j => iI (tx j))))] 0 0 8 [(3, .int (iI ((pl : Nat) : Int))), (4, .int (iI x)), (0, .ref h), (1, .int (iI ((s0 : Nat) : Int))), (2, .int (iI ((e0 : Nat) : Int)))] [] := by
    intro c
    induction c with
    | zero => intro k x pl M h1 h2 hx hpl hM; omega
    | succ c ih =>
      intro k x pl M h1 h2 hx hpl hM
      refine go_iload O dX3_takeWhole_8 1 rfl 10 rfl ?_
      refine go_iload_n O dX3_takeWhole_10 rfl 3 rfl 11 rfl ?_
      refine go_icmp_lt O dX3_takeWhole_11 60 (by decide) 14 rfl (by omega) (by omega) (fun h11 => ?_) (fun h11 => ?_)
      · have ek : k = 0 := by omega
        subst ek
        have hM2 : M = tval tx s0 (e0 - s0) * 10 ^ 20 := hM
        rw [hM2]
        exact hret _ _ () dX3_takeWhole_60 trivial
      · obtain ⟨k2, rfl⟩ : ∃ k2, k = k2 + 1 := ⟨k - 1, by omega⟩
        have hch := hok k2 (by omega)
        have htj := htx (s0 + k2)
        have htc := tcnt_le tx (s0 + (k2 + 1)) (e0 - s0 - (k2 + 1))
        refine go_aload_n O dX3_takeWhole_14 rfl 2 rfl 15 rfl ?_
        refine go_get O hK dX3_takeWhole_15 hinX3 0 rfl rfl 8 (by decide) flX3_56 rfl 18 rfl ?_
        refine go_get O hK dX3_takeWhole_18 hinX1 3 rfl rfl 0 (by decide) flX3_175 rfl 21 rfl ?_
        refine go_iload O dX3_takeWhole_21 1 rfl 23 rfl ?_
        refine go_iald O hK dX3_takeWhole_23 4 0 rfl rfl (s0 + k2) (by omega) (by omega) (by omega) (tx (s0 + k2)) rfl 24 rfl ?_
        refine go_bipush O dX3_takeWhole_24 (by decide) 26 rfl ?_
        refine go_icmp_eq O dX3_takeWhole_26 54 (by decide) 29 rfl (by omega) (by omega) (fun h26 => ?_) (fun h26 => ?_)
        · refine go_iinc O dX3_takeWhole_54 1 rfl (x - 1) (by omega) (by decide) [(4, .int (iI (x - 1))), (3, .int (iI ((pl : Nat) : Int))), (0, .ref h), (1, .int (iI ((s0 : Nat) : Int))), (2, .int (iI ((e0 : Nat) : Int)))] rfl 57 rfl ?_
          refine go_goto O dX3_takeWhole_57 8 (by decide) ?_
          refine TGo.lsub (lv' := [(3, .int (iI ((pl : Nat) : Int))), (4, .int (iI (x - 1))), (0, .ref h), (1, .int (iI ((s0 : Nat) : Int))), (2, .int (iI ((e0 : Nat) : Int)))]) [1, 0, 2, 3, 4] rfl ?_
          exact ih k2 _ pl M (by omega) (by omega) (by omega) (by rw [show e0 - s0 - k2 = (e0 - s0 - (k2 + 1)) + 1 by omega, (tk_c h26).2]; exact hpl) (by rw [show e0 - s0 - k2 = (e0 - s0 - (k2 + 1)) + 1 by omega, (tk_c h26).1]; exact hM)
        · refine go_aload_n O dX3_takeWhole_29 rfl 2 rfl 30 rfl ?_
          refine go_get O hK dX3_takeWhole_30 hinX3 0 rfl rfl 6 (by decide) flX3_46 rfl 33 rfl ?_
          refine go_get O hK dX3_takeWhole_33 hinX2 1 rfl rfl 0 (by decide) flX3_133 rfl 36 rfl ?_
          refine go_iload_n O dX3_takeWhole_36 rfl 0 rfl 37 rfl ?_
          refine go_aload_n O dX3_takeWhole_37 rfl 2 rfl 38 rfl ?_
          refine go_get O hK dX3_takeWhole_38 hinX3 0 rfl rfl 8 (by decide) flX3_56 rfl 41 rfl ?_
          refine go_get O hK dX3_takeWhole_41 hinX1 3 rfl rfl 0 (by decide) flX3_175 rfl 44 rfl ?_
          refine go_iload O dX3_takeWhole_44 1 rfl 46 rfl ?_
          refine go_iald O hK dX3_takeWhole_46 4 0 rfl rfl (s0 + k2) (by omega) (by omega) (by omega) (tx (s0 + k2)) rfl 47 rfl ?_
          refine go_bipush O dX3_takeWhole_47 (by decide) 49 rfl ?_
          refine go_isub O dX3_takeWhole_49 (((tx (s0 + k2) - 48).toNat : Nat) : Int) (by omega) 50 rfl ?_
          refine go_iast O hK dX3_takeWhole_50 2 0 rfl rfl pl rfl (by omega) (by omega) (dg (M + (tx (s0 + k2) - 48).toNat * 10 ^ pl)) (fun j _ => dgu (by rw [hM, hpl]; exact tk_z (fun j hj => by have e := hok (k2 + 1 + j) (by omega); rw [← Nat.add_assoc] at e; exact e)) (by omega) j) [(h, .inr (3, [.int (iI ((P : Nat) : Int)), .int (iI ((Sc : Nat) : Int)), .int (iI m), .ref qam, .ref qrat, .ref qrm, .ref hw, .ref hsh, .ref ht])), (hw, .inr (2, [.ref qrow, .ref qfac, .int (iI (bz ng)), .int (iI (bz go))])), (qrow, .inl (cI, 72, .inl (dg (M + (tx (s0 + k2) - 48).toNat * 10 ^ pl)))), (ht, .inr (1, [.ref ql, .int (iI ((sz : Nat) : Int)), .int (iI ((ta : Nat) : Int)), .int (iI tc)])), (ql, .inl (cI, 48, .inl (fun j => iI (tx j))))] rfl 51 rfl ?_
          refine go_iinc O dX3_takeWhole_51 0 rfl ((pl + 1 : Nat) : Int) (by omega) (by decide) [(3, .int (iI ((pl + 1 : Nat) : Int))), (4, .int (iI x)), (0, .ref h), (1, .int (iI ((s0 : Nat) : Int))), (2, .int (iI ((e0 : Nat) : Int)))] rfl 54 rfl ?_
          refine go_iinc O dX3_takeWhole_54 1 rfl (x - 1) (by omega) (by decide) [(4, .int (iI (x - 1))), (3, .int (iI ((pl + 1 : Nat) : Int))), (0, .ref h), (1, .int (iI ((s0 : Nat) : Int))), (2, .int (iI ((e0 : Nat) : Int)))] rfl 57 rfl ?_
          refine go_goto O dX3_takeWhole_57 8 (by decide) ?_
          refine TGo.lsub (lv' := [(3, .int (iI ((pl + 1 : Nat) : Int))), (4, .int (iI (x - 1))), (0, .ref h), (1, .int (iI ((s0 : Nat) : Int))), (2, .int (iI ((e0 : Nat) : Int)))]) [1, 0, 2, 3, 4] rfl ?_
          exact ih k2 _ (pl + 1) _ (by omega) (by omega) (by omega) (by rw [show e0 - s0 - k2 = (e0 - s0 - (k2 + 1)) + 1 by omega, (tk_d h26).2]; show pl + 1 = 20 + (1 + tcnt tx (s0 + (k2 + 1)) _); omega) (by rw [show e0 - s0 - k2 = (e0 - s0 - (k2 + 1)) + 1 by omega, ← tk_n h26, hM, hpl]; rfl)
  refine go_bipush O dX3_takeWhole_0 (by decide) 2 rfl ?_
  refine go_istore_n O dX3_takeWhole_2 rfl (by decide) [(3, .int (iI 20)), (0, .ref h), (1, .int (iI ((s0 : Nat) : Int))), (2, .int (iI ((e0 : Nat) : Int)))] rfl 3 rfl ?_
  refine go_iload_n O dX3_takeWhole_3 rfl 3 rfl 4 rfl ?_
  refine go_iconst O dX3_takeWhole_4 5 rfl ?_
  refine go_isub O dX3_takeWhole_5 ((e0 : Int) - 1) rfl 6 rfl ?_
  refine go_istore O dX3_takeWhole_6 (by decide) [(4, .int (iI ((e0 : Int) - 1))), (3, .int (iI 20)), (0, .ref h), (1, .int (iI ((s0 : Nat) : Int))), (2, .int (iI ((e0 : Nat) : Int)))] rfl 8 rfl ?_
  refine TGo.lsub (lv' := [(3, .int (iI 20)), (4, .int (iI ((e0 : Int) - 1))), (0, .ref h), (1, .int (iI ((s0 : Nat) : Int))), (2, .int (iI ((e0 : Nat) : Int)))]) [1, 0, 2, 3, 4] rfl ?_
  exact lp (e0 - s0 + 1) (e0 - s0) _ 20 0 rfl (by omega) (by omega) (by rw [Nat.sub_self]; rfl) (by rw [Nat.sub_self]; show 0 = 0 * 10 ^ 20; rw [Nat.zero_mul])
set_option maxHeartbeats 4000000 in
set_option maxRecDepth 100000 in
/-- readBody -/
theorem c_X3_readBody (E : TEn) (hE : EnvOk E) (h qam qrat qrm hw hsh qrow qfac : Nat) (cM : ClassId) (ht ql : Nat) (cI : ClassId) (tx : Nat → Int) (htx : ∀ j, r32 (tx j)) (sz ta : Nat) (tc : Int) (P Sc : Nat) (m : Int) (ng go : Bool) (g : Bool) (hs : sz ≤ 48) (hta : ta ≤ sz) : Cti vwCl E yX3_readBody wsX3_readBody (rmn 2 44) [.ref h, .int (iI (bz g))] [(h, .inr (3, [.int (iI ((P : Nat) : Int)), .int (iI ((Sc : Nat) : Int)), .int (iI m), .ref qam, .ref qrat, .ref qrm, .ref hw, .ref hsh, .ref ht])), (hw, .inr (2, [.ref qrow, .ref qfac, .int (iI (bz ng)), .int (iI (bz go))])), (qrow, .inl (cI, 72, .inl (dg 0))), (ht, .inr (1, [.ref ql, .int (iI ((sz : Nat) : Int)), .int (iI ((ta : Nat) : Int)), .int (iI tc)])), (ql, .inl (cI, 48, .inl (fun j => iI (tx j))))] [(cI, .int)] (fun (z : Int) (u : Nat × Nat) => z = bz (rdB tx sz g (true, ta)).1 ∧ u.1 = (rdB tx sz g (true, ta)).2 ∧ u.2 < 10 ^ 70 ∧ ((rdB tx sz g (true, ta)).1 = true → u.2 = rdBn tx sz g (true, ta) * 10 ^ (20 - rdBe tx sz g (true, ta)))) (fun u => [(h, .inr (3, [.int (iI ((P : Nat) : Int)), .int (iI ((Sc : Nat) : Int)), .int (iI m), .ref qam, .ref qrat, .ref qrm, .ref hw, .ref hsh, .ref ht])), (hw, .inr (2, [.ref qrow, .ref qfac, .int (iI (bz ng)), .int (iI (bz go))])), (qrow, .inl (cI, 72, .inl (dg u.2))), (ht, .inr (1, [.ref ql, .int (iI ((sz : Nat) : Int)), .int (iI ((u.1 : Nat) : Int)), .int (iI tc)])), (ql, .inl (cI, 48, .inl (fun j => iI (tx j))))]) := by
  refine enteri (by decide) (Nat.le_of_ble_eq_true rfl) ?_
  intro X O hK hin2 hret
  show TGo X [(h, .inr (3, [.int (iI ((P : Nat) : Int)), .int (iI ((Sc : Nat) : Int)), .int (iI m), .ref qam, .ref qrat, .ref qrm, .ref hw, .ref hsh, .ref ht])), (hw, .inr (2, [.ref qrow, .ref qfac, .int (iI (bz ng)), .int (iI (bz go))])), (qrow, .inl (cI, 72, .inl (dg 0))), (ht, .inr (1, [.ref ql, .int (iI ((sz : Nat) : Int)), .int (iI ((ta : Nat) : Int)), .int (iI tc)])), (ql, .inl (cI, 48, .inl (fun j => iI (tx j))))] 0 0 0 [(0, .ref h), (1, .int (iI (bz g)))] []
  have bg := bz_01 g
  have lp : ∀ (c : Nat) (b1 i : Nat) (x : Int), c + i = dct tx sz 10 (b1 + 1) + 1 → i ≤ dct tx sz 10 (b1 + 1) → x = (i : Int) → (true, b1) = rdW tx sz g (true, ta) → (b1 ≤ sz ∧ ta ≤ b1) → (b1 < sz ∧ tx b1 = 46) → okc tx ta (b1 - ta) → TGo X [(h, .inr (3, [.int (iI ((P : Nat) : Int)), .int (iI ((Sc : Nat) : Int)), .int (iI m), .ref qam, .ref qrat, .ref qrm, .ref hw, .ref hsh, .ref ht])), (hw, .inr (2, [.ref qrow, .ref qfac, .int (iI (bz ng)), .int (iI (bz go))])), (qrow, .inl (cI, 72, .inl (dg (tval tx ta (b1 - ta) * 10 ^ 20 + tval tx (b1 + 1) i * 10 ^ (20 - i))))), (ht, .inr (1, [.ref ql, .int (iI ((sz : Nat) : Int)), .int (iI ((b1 + 1 + dct tx sz 10 (b1 + 1) : Nat) : Int)), .int (iI tc)])), (ql, .inl (cI, 48, .inl (fun j => iI (tx j))))] 0 0 69 [(4, .int (iI ((dct tx sz 10 (b1 + 1) : Nat) : Int))), (5, .int (iI x)), (0, .ref h), (1, .int (iI (bz g))), (2, .int (iI ((ta : Nat) : Int))), (3, .int (iI ((b1 + 1 : Nat) : Int)))] [] := by
    intro c
    induction c with
    | zero => intro b1 i x h1 h2 hx hW hWl hc1 hoc; omega
    | succ c ih =>
      intro b1 i x h1 h2 hx hW hWl hc1 hoc
      have hN48 := tv48 hoc (by omega)
      have hdl := dct_le tx sz 10 (b1 + 1)
      have hdl2 := hdl.2 (by omega)
      refine go_iload O dX3_readBody_69 1 rfl 71 rfl ?_
      refine go_iload O dX3_readBody_71 0 rfl 73 rfl ?_
      refine go_icmp_ge O dX3_readBody_73 110 (by decide) 76 rfl (by omega) (by omega) (fun h73 => ?_) (fun h73 => ?_)
      · refine go_iload O dX3_readBody_110 0 rfl 112 rfl ?_
        refine go_if_le O dX3_readBody_112 119 (by decide) 115 rfl (by omega) (fun h112 => ?_) (fun h112 => ?_)
        · refine go_iconst O dX3_readBody_119 120 rfl ?_
          have ei : i = dct tx sz 10 (b1 + 1) := by omega
          have hP := rdP_y (o := true) (b := b1) ⟨rfl, hc1⟩
          have hR : rdB tx sz g (true, ta) = (false, b1 + 1 + dct tx sz 10 (b1 + 1)) := by unfold rdB; rw [← hW, hP.1]; exact (rdD_n (l := 1) (m := 10) (ok := true) (a := b1 + 1) (by show ¬ 1 ≤ dct tx sz 10 (b1 + 1); omega)).symm
          have hBe : rdBe tx sz g (true, ta) = dct tx sz 10 (b1 + 1) := by unfold rdBe; rw [← hW]; exact hP.2
          exact hret _ _ _ (b1 + 1 + dct tx sz 10 (b1 + 1), tval tx ta (b1 - ta) * 10 ^ 20 + tval tx (b1 + 1) i * 10 ^ (20 - i)) dX3_readBody_120 rfl ⟨by rw [hR]; rfl, by rw [hR], by rw [ei]; exact fr_bd hN48 (tval_k tx (b1 + 1) _ (fun j hj => (dct_dig tx sz 10 (b1 + 1) j hj).2)) (by omega), fun _ => by show tval tx ta (b1 - ta) * 10 ^ 20 + tval tx (b1 + 1) i * 10 ^ (20 - i) = _; rw [hBe, ei, fr_e (by omega)]; unfold rdBn; rw [hBe, ← hW]⟩
        · refine go_iconst O dX3_readBody_115 116 rfl ?_
          refine go_goto O dX3_readBody_116 120 (by decide) ?_
          have ei : i = dct tx sz 10 (b1 + 1) := by omega
          have hP := rdP_y (o := true) (b := b1) ⟨rfl, hc1⟩
          have hR : rdB tx sz g (true, ta) = (true, b1 + 1 + dct tx sz 10 (b1 + 1)) := by unfold rdB; rw [← hW, hP.1]; exact (rdD_y (l := 1) (m := 10) (ok := true) (a := b1 + 1) (by show 1 ≤ dct tx sz 10 (b1 + 1); omega)).symm
          have hBe : rdBe tx sz g (true, ta) = dct tx sz 10 (b1 + 1) := by unfold rdBe; rw [← hW]; exact hP.2
          exact hret _ _ _ (b1 + 1 + dct tx sz 10 (b1 + 1), tval tx ta (b1 - ta) * 10 ^ 20 + tval tx (b1 + 1) i * 10 ^ (20 - i)) dX3_readBody_120 rfl ⟨by rw [hR]; rfl, by rw [hR], by rw [ei]; exact fr_bd hN48 (tval_k tx (b1 + 1) _ (fun j hj => (dct_dig tx sz 10 (b1 + 1) j hj).2)) (by omega), fun _ => by show tval tx ta (b1 - ta) * 10 ^ 20 + tval tx (b1 + 1) i * 10 ^ (20 - i) = _; rw [hBe, ei, fr_e (by omega)]; unfold rdBn; rw [hBe, ← hW]⟩
      · have hdj := dct_dig tx sz 10 (b1 + 1) i (by omega)
        have htj := htx (b1 + 1 + i)
        refine go_aload_n O dX3_readBody_76 rfl 2 rfl 77 rfl ?_
        refine go_get O hK dX3_readBody_77 hinX3 0 rfl rfl 6 (by decide) flX3_46 rfl 80 rfl ?_
        refine go_get O hK dX3_readBody_80 hinX2 1 rfl rfl 0 (by decide) flX3_133 rfl 83 rfl ?_
        refine go_bipush O dX3_readBody_83 (by decide) 85 rfl ?_
        refine go_iload O dX3_readBody_85 1 rfl 87 rfl ?_
        refine go_isub O dX3_readBody_87 ((19 - i : Nat) : Int) (by omega) 88 rfl ?_
        refine go_aload_n O dX3_readBody_88 rfl 2 rfl 89 rfl ?_
        refine go_get O hK dX3_readBody_89 hinX3 0 rfl rfl 8 (by decide) flX3_56 rfl 92 rfl ?_
        refine go_get O hK dX3_readBody_92 hinX1 3 rfl rfl 0 (by decide) flX3_175 rfl 95 rfl ?_
        refine go_iload_n O dX3_readBody_95 rfl 5 rfl 96 rfl ?_
        refine go_iload O dX3_readBody_96 1 rfl 98 rfl ?_
        refine go_iadd O dX3_readBody_98 ((b1 + 1 + i : Nat) : Int) (by omega) 99 rfl ?_
        refine go_iald O hK dX3_readBody_99 4 0 rfl rfl (b1 + 1 + i) rfl (by omega) (by omega) (tx (b1 + 1 + i)) rfl 100 rfl ?_
        refine go_bipush O dX3_readBody_100 (by decide) 102 rfl ?_
        refine go_isub O dX3_readBody_102 (((tx (b1 + 1 + i) - 48).toNat : Nat) : Int) (by omega) 103 rfl ?_
        refine go_iast O hK dX3_readBody_103 2 0 rfl rfl (19 - i) rfl (by omega) (by omega) (dg (tval tx ta (b1 - ta) * 10 ^ 20 + tval tx (b1 + 1) (i + 1) * 10 ^ (20 - (i + 1)))) (fun j _ => by rw [dgu (fr_z (by omega)) (by omega) j, fr_n (by omega), ← tval_d tx (b1 + 1) i hdj.2.1]) [(h, .inr (3, [.int (iI ((P : Nat) : Int)), .int (iI ((Sc : Nat) : Int)), .int (iI m), .ref qam, .ref qrat, .ref qrm, .ref hw, .ref hsh, .ref ht])), (hw, .inr (2, [.ref qrow, .ref qfac, .int (iI (bz ng)), .int (iI (bz go))])), (qrow, .inl (cI, 72, .inl (dg (tval tx ta (b1 - ta) * 10 ^ 20 + tval tx (b1 + 1) (i + 1) * 10 ^ (20 - (i + 1)))))), (ht, .inr (1, [.ref ql, .int (iI ((sz : Nat) : Int)), .int (iI ((b1 + 1 + dct tx sz 10 (b1 + 1) : Nat) : Int)), .int (iI tc)])), (ql, .inl (cI, 48, .inl (fun j => iI (tx j))))] rfl 104 rfl ?_
        refine go_iinc O dX3_readBody_104 1 rfl ((i + 1 : Nat) : Int) (by omega) (by decide) [(5, .int (iI ((i + 1 : Nat) : Int))), (4, .int (iI ((dct tx sz 10 (b1 + 1) : Nat) : Int))), (0, .ref h), (1, .int (iI (bz g))), (2, .int (iI ((ta : Nat) : Int))), (3, .int (iI ((b1 + 1 : Nat) : Int)))] rfl 107 rfl ?_
        refine go_goto O dX3_readBody_107 69 (by decide) ?_
        refine TGo.lsub (lv' := [(4, .int (iI ((dct tx sz 10 (b1 + 1) : Nat) : Int))), (5, .int (iI ((i + 1 : Nat) : Int))), (0, .ref h), (1, .int (iI (bz g))), (2, .int (iI ((ta : Nat) : Int))), (3, .int (iI ((b1 + 1 : Nat) : Int)))]) [1, 0, 2, 3, 4, 5] rfl ?_
        exact ih b1 (i + 1) _ (by omega) (by omega) (by omega) hW hWl hc1 hoc
  refine go_aload_n O dX3_readBody_0 rfl 0 rfl 1 rfl ?_
  refine go_get O hK dX3_readBody_1 hinX3 0 rfl rfl 8 (by decide) flX3_56 rfl 4 rfl ?_
  refine go_get O hK dX3_readBody_4 hinX1 3 rfl rfl 2 (by decide) flX3_178 rfl 7 rfl ?_
  refine go_istore_n O dX3_readBody_7 rfl (by decide) [(2, .int (iI ((ta : Nat) : Int))), (0, .ref h), (1, .int (iI (bz g)))] rfl 8 rfl ?_
  refine go_aload_n O dX3_readBody_8 rfl 1 rfl 9 rfl ?_
  refine go_get O hK dX3_readBody_9 hinX3 0 rfl rfl 8 (by decide) flX3_56 rfl 12 rfl ?_
  refine go_iload_n O dX3_readBody_12 rfl 2 rfl 13 rfl ?_
  refine go_calliV (As := [.int (iI (bz g))]) (rest := []) (wr := [(h, .inr (3, [.int (iI ((P : Nat) : Int)), .int (iI ((Sc : Nat) : Int)), .int (iI m), .ref qam, .ref qrat, .ref qrm, .ref hw, .ref hsh, .ref ht])), (hw, .inr (2, [.ref qrow, .ref qfac, .int (iI (bz ng)), .int (iI (bz go))])), (qrow, .inl (cI, 72, .inl (dg 0)))]) O hK hE (c_X1_skipWhole E hE ht ql cI tx htx sz ta tc g hs hta) mlX3_223 imX1_skipWhole seX1_skipWhole inX1 cdX1_skipWhole 1 (by decide +kernel) ⟨Nat.le_of_ble_eq_true rfl, Nat.le_of_ble_eq_true rfl⟩ 3 rfl rfl [0] rfl [3, 4] rfl (by decide) [0, 1, 2] rfl (by decide) (by decide) rfl rfl (Nat.le_of_ble_eq_true rfl) ⟨Nat.zero_le _, Nat.zero_le _⟩ dX3_readBody_13 16 rfl (fun z u hu => ?_)
  obtain ⟨b1, rfl⟩ : ∃ y, y = u := ⟨_, rfl⟩
  obtain ⟨o1, ho1⟩ : ∃ y, y = (rdW tx sz g (true, ta)).1 := ⟨_, rfl⟩
  rw [← ho1] at hu
  obtain ⟨rfl, hb1⟩ := hu
  have hW : (o1, b1) = rdW tx sz g (true, ta) := by rw [ho1, hb1]
  have hWl := rdW_le (tx := tx) (g := g) (s := (true, ta)) hta
  rw [← hW] at hWl
  replace hWl : b1 ≤ sz ∧ ta ≤ b1 := hWl
  have hoc := rdW_okc (tx := tx) (sz := sz) (a := ta) (g := g)
  rw [← hW] at hoc
  replace hoc : okc tx ta (b1 - ta) := hoc
  have hN48 := tv48 hoc (by omega)
  show TGo X [(h, .inr (3, [.int (iI ((P : Nat) : Int)), .int (iI ((Sc : Nat) : Int)), .int (iI m), .ref qam, .ref qrat, .ref qrm, .ref hw, .ref hsh, .ref ht])), (hw, .inr (2, [.ref qrow, .ref qfac, .int (iI (bz ng)), .int (iI (bz go))])), (qrow, .inl (cI, 72, .inl (dg 0))), (ht, .inr (1, [.ref ql, .int (iI ((sz : Nat) : Int)), .int (iI ((b1 : Nat) : Int)), .int (iI tc)])), (ql, .inl (cI, 48, .inl (fun j => iI (tx j))))] 0 0 16 [(2, .int (iI ((ta : Nat) : Int))), (0, .ref h), (1, .int (iI (bz g)))] [.int (iI (bz o1))]
  refine go_if_ne O dX3_readBody_16 21 (by decide) 19 rfl (bz_r _) (fun h16 => ?_) (fun h16 => ?_)
  · have eo : o1 = true := bz_ne h16
    subst eo
    refine go_aload_n O dX3_readBody_21 rfl 1 rfl 22 rfl ?_
    refine go_iload_n O dX3_readBody_22 rfl 0 rfl 23 rfl ?_
    refine go_aload_n O dX3_readBody_23 rfl 1 rfl 24 rfl ?_
    refine go_get O hK dX3_readBody_24 hinX3 0 rfl rfl 8 (by decide) flX3_56 rfl 27 rfl ?_
    refine go_get O hK dX3_readBody_27 hinX1 3 rfl rfl 2 (by decide) flX3_178 rfl 30 rfl ?_
    refine go_callvV (As := [.int (iI ((ta : Nat) : Int)), .int (iI ((b1 : Nat) : Int))]) (rest := []) (wr := []) O hK hE (c_X3_takeWhole E hE h qam qrat qrm hw hsh qrow qfac cM ht ql cI tx htx sz b1 tc P Sc m ng go ta b1 (by omega) hoc) mlX3_226 imX3_takeWhole seX3_takeWhole inX3 cdX3_takeWhole 2 (by decide +kernel) ⟨Nat.le_of_ble_eq_true rfl, Nat.le_of_ble_eq_true rfl⟩ 0 rfl rfl [0] rfl [0, 1, 2, 3, 4] rfl (by decide) [] rfl (by decide) (by decide) rfl rfl (Nat.le_of_ble_eq_true rfl) ⟨Nat.zero_le _, Nat.zero_le _⟩ dX3_readBody_30 33 rfl (fun u hu => ?_)
    show TGo X [(h, .inr (3, [.int (iI ((P : Nat) : Int)), .int (iI ((Sc : Nat) : Int)), .int (iI m), .ref qam, .ref qrat, .ref qrm, .ref hw, .ref hsh, .ref ht])), (hw, .inr (2, [.ref qrow, .ref qfac, .int (iI (bz ng)), .int (iI (bz go))])), (qrow, .inl (cI, 72, .inl (dg (tval tx ta (b1 - ta) * 10 ^ 20)))), (ht, .inr (1, [.ref ql, .int (iI ((sz : Nat) : Int)), .int (iI ((b1 : Nat) : Int)), .int (iI tc)])), (ql, .inl (cI, 48, .inl (fun j => iI (tx j))))] 0 0 33 [(2, .int (iI ((ta : Nat) : Int))), (0, .ref h), (1, .int (iI (bz g)))] []
    refine go_aload_n O dX3_readBody_33 rfl 1 rfl 34 rfl ?_
    refine go_get O hK dX3_readBody_34 hinX3 0 rfl rfl 8 (by decide) flX3_56 rfl 37 rfl ?_
    refine go_bipush O dX3_readBody_37 (by decide) 39 rfl ?_
    refine go_calliV (As := [.int (iI 46)]) (rest := []) (wr := [(h, .inr (3, [.int (iI ((P : Nat) : Int)), .int (iI ((Sc : Nat) : Int)), .int (iI m), .ref qam, .ref qrat, .ref qrm, .ref hw, .ref hsh, .ref ht])), (hw, .inr (2, [.ref qrow, .ref qfac, .int (iI (bz ng)), .int (iI (bz go))])), (qrow, .inl (cI, 72, .inl (dg (tval tx ta (b1 - ta) * 10 ^ 20))))]) O hK hE (c_X1_skip E hE ht ql cI tx htx sz b1 tc 46 (by omega) hs (by omega)) mlX3_213 imX1_skip seX1_skip inX1 cdX1_skip 1 (by decide +kernel) ⟨Nat.le_of_ble_eq_true rfl, Nat.le_of_ble_eq_true rfl⟩ 3 rfl rfl [0] rfl [3, 4] rfl (by decide) [0, 1, 2] rfl (by decide) (by decide) rfl rfl (Nat.le_of_ble_eq_true rfl) ⟨Nat.zero_le _, Nat.zero_le _⟩ dX3_readBody_39 42 rfl (fun z u hu => ?_)
    obtain ⟨b2, rfl⟩ : ∃ y, y = u := ⟨_, rfl⟩
    obtain ⟨zds, rfl⟩ : ∃ y, y = z := ⟨_, rfl⟩
    have ds := hu
    have dsr : 0 ≤ zds ∧ zds ≤ 1 := by rcases ds with e | e <;> omega
    show TGo X [(h, .inr (3, [.int (iI ((P : Nat) : Int)), .int (iI ((Sc : Nat) : Int)), .int (iI m), .ref qam, .ref qrat, .ref qrm, .ref hw, .ref hsh, .ref ht])), (hw, .inr (2, [.ref qrow, .ref qfac, .int (iI (bz ng)), .int (iI (bz go))])), (qrow, .inl (cI, 72, .inl (dg (tval tx ta (b1 - ta) * 10 ^ 20)))), (ht, .inr (1, [.ref ql, .int (iI ((sz : Nat) : Int)), .int (iI ((b2 : Nat) : Int)), .int (iI tc)])), (ql, .inl (cI, 48, .inl (fun j => iI (tx j))))] 0 0 42 [(2, .int (iI ((ta : Nat) : Int))), (0, .ref h), (1, .int (iI (bz g)))] [.int (iI zds)]
    refine go_if_ne O dX3_readBody_42 47 (by decide) 45 rfl (by omega) (fun h42 => ?_) (fun h42 => ?_)
    · obtain ⟨_, hc1, hc2⟩ := ds.resolve_right (fun e => by omega)
      subst hc2
      refine go_aload_n O dX3_readBody_47 rfl 1 rfl 48 rfl ?_
      refine go_get O hK dX3_readBody_48 hinX3 0 rfl rfl 8 (by decide) flX3_56 rfl 51 rfl ?_
      refine go_get O hK dX3_readBody_51 hinX1 3 rfl rfl 2 (by decide) flX3_178 rfl 54 rfl ?_
      refine go_istore_n O dX3_readBody_54 rfl (by decide) [(3, .int (iI ((b1 + 1 : Nat) : Int))), (2, .int (iI ((ta : Nat) : Int))), (0, .ref h), (1, .int (iI (bz g)))] rfl 55 rfl ?_
      refine go_aload_n O dX3_readBody_55 rfl 2 rfl 56 rfl ?_
      refine go_get O hK dX3_readBody_56 hinX3 0 rfl rfl 8 (by decide) flX3_56 rfl 59 rfl ?_
      refine go_bipush O dX3_readBody_59 (by decide) 61 rfl ?_
      refine go_calliV (As := [.int (iI 10)]) (rest := []) (wr := [(h, .inr (3, [.int (iI ((P : Nat) : Int)), .int (iI ((Sc : Nat) : Int)), .int (iI m), .ref qam, .ref qrat, .ref qrm, .ref hw, .ref hsh, .ref ht])), (hw, .inr (2, [.ref qrow, .ref qfac, .int (iI (bz ng)), .int (iI (bz go))])), (qrow, .inl (cI, 72, .inl (dg (tval tx ta (b1 - ta) * 10 ^ 20))))]) O hK hE (c_X1_skipDigits E hE ht ql cI tx htx sz (b1 + 1) tc 10 (by omega) hs (by omega)) mlX3_229 imX1_skipDigits seX1_skipDigits inX1 cdX1_skipDigits 1 (by decide +kernel) ⟨Nat.le_of_ble_eq_true rfl, Nat.le_of_ble_eq_true rfl⟩ 3 rfl rfl [0] rfl [3, 4] rfl (by decide) [0, 1, 2] rfl (by decide) (by decide) rfl rfl (Nat.le_of_ble_eq_true rfl) ⟨Nat.zero_le _, Nat.zero_le _⟩ dX3_readBody_61 64 rfl (fun z u hu => ?_)
      obtain ⟨y9, rfl⟩ : ∃ y, y = u := ⟨_, rfl⟩
      obtain ⟨rfl, rfl⟩ := hu
      show TGo X [(h, .inr (3, [.int (iI ((P : Nat) : Int)), .int (iI ((Sc : Nat) : Int)), .int (iI m), .ref qam, .ref qrat, .ref qrm, .ref hw, .ref hsh, .ref ht])), (hw, .inr (2, [.ref qrow, .ref qfac, .int (iI (bz ng)), .int (iI (bz go))])), (qrow, .inl (cI, 72, .inl (dg (tval tx ta (b1 - ta) * 10 ^ 20)))), (ht, .inr (1, [.ref ql, .int (iI ((sz : Nat) : Int)), .int (iI ((b1 + 1 + dct tx sz 10 (b1 + 1) : Nat) : Int)), .int (iI tc)])), (ql, .inl (cI, 48, .inl (fun j => iI (tx j))))] 0 0 64 [(3, .int (iI ((b1 + 1 : Nat) : Int))), (2, .int (iI ((ta : Nat) : Int))), (0, .ref h), (1, .int (iI (bz g)))] [.int (iI ((dct tx sz 10 (b1 + 1) : Nat) : Int))]
      refine go_istore O dX3_readBody_64 (by decide) [(4, .int (iI ((dct tx sz 10 (b1 + 1) : Nat) : Int))), (3, .int (iI ((b1 + 1 : Nat) : Int))), (2, .int (iI ((ta : Nat) : Int))), (0, .ref h), (1, .int (iI (bz g)))] rfl 66 rfl ?_
      refine go_iconst O dX3_readBody_66 67 rfl ?_
      refine go_istore O dX3_readBody_67 (by decide) [(5, .int (iI 0)), (4, .int (iI ((dct tx sz 10 (b1 + 1) : Nat) : Int))), (3, .int (iI ((b1 + 1 : Nat) : Int))), (2, .int (iI ((ta : Nat) : Int))), (0, .ref h), (1, .int (iI (bz g)))] rfl 69 rfl ?_
      have e0 : tval tx ta (b1 - ta) * 10 ^ 20 = tval tx ta (b1 - ta) * 10 ^ 20 + tval tx (b1 + 1) 0 * 10 ^ (20 - 0) := by show _ = tval tx ta (b1 - ta) * 10 ^ 20 + 0 * 10 ^ 20; omega
      rw [e0]
      refine TGo.lsub (lv' := [(4, .int (iI ((dct tx sz 10 (b1 + 1) : Nat) : Int))), (5, .int (iI 0)), (0, .ref h), (1, .int (iI (bz g))), (2, .int (iI ((ta : Nat) : Int))), (3, .int (iI ((b1 + 1 : Nat) : Int)))]) [1, 0, 4, 5, 3, 2] rfl ?_
      exact lp (dct tx sz 10 (b1 + 1) + 1) b1 0 _ (by omega) (by omega) rfl hW hWl hc1 hoc
    · refine go_iconst O dX3_readBody_45 46 rfl ?_
      obtain ⟨_, hc1, hc2⟩ := ds.resolve_left (fun e => by omega)
      have hP := rdP_n (o := true) (b := b1) (Or.inr hc1)
      have hR : rdB tx sz g (true, ta) = (true, b1) := by unfold rdB; rw [← hW, hP.1]
      have hBe : rdBe tx sz g (true, ta) = 0 := by unfold rdBe; rw [← hW]; exact hP.2
      exact hret _ _ _ (b2, tval tx ta (b1 - ta) * 10 ^ 20) dX3_readBody_46 rfl ⟨by rw [hR]; rfl, by rw [hR]; exact hc2, by show tval tx ta (b1 - ta) * 10 ^ 20 < 10 ^ 70; omega, fun _ => by show tval tx ta (b1 - ta) * 10 ^ 20 = _; rw [hBe]; unfold rdBn; rw [hBe, ← hW, Nat.pow_zero]; show _ = (tval tx ta (b1 - ta) * 1 + 0) * 10 ^ 20; omega⟩
  · refine go_iconst O dX3_readBody_19 20 rfl ?_
    have eo : o1 = false := bz_0.mp h16
    subst eo
    have hR : rdB tx sz g (true, ta) = (false, b1) := by unfold rdB; rw [← hW, rdP_f]
    exact hret _ _ _ (b1, 0) dX3_readBody_20 rfl ⟨by rw [hR]; rfl, by rw [hR], p10 70, fun e => by rw [hR] at e; cases e⟩
