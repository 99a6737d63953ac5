/-! Texts. -/
def txs (tx : Nat → Int) (n : Nat) (c : Int) : Nat → Int := fun j => if j = n then c else tx j
theorem txs_up (tx : Nat → Int) (n : Nat) (c : Int) : ∀ j, upd (fun j => iI (tx j)) n (iI c) j = iI (txs tx n c j) := by
  intro j
  unfold txs
  by_cases e : j = n
  · rw [e, upd_s, if_pos rfl]
  · rw [upd_n e, if_neg e]
/-- how many digits stand from a on, most of them m -/
def dct (tx : Nat → Int) (sz : Nat) : Nat → Nat → Nat
  | 0, _ => 0
  | m + 1, a => if a < sz ∧ 48 ≤ tx a ∧ tx a ≤ 57 then dct tx sz m (a + 1) + 1 else 0
theorem dct_1 {tx : Nat → Int} {sz m a : Nat} (h : a < sz ∧ 48 ≤ tx a ∧ tx a ≤ 57) : dct tx sz (m + 1) a = dct tx sz m (a + 1) + 1 := by show (if a < sz ∧ 48 ≤ tx a ∧ tx a ≤ 57 then dct tx sz m (a + 1) + 1 else 0) = _; rw [if_pos h]
theorem dct_0 {tx : Nat → Int} {sz m a : Nat} (h : ¬ (a < sz ∧ 48 ≤ tx a ∧ tx a ≤ 57)) : dct tx sz m a = 0 := by
  cases m with
  | zero => rfl
  | succ m => show (if a < sz ∧ 48 ≤ tx a ∧ tx a ≤ 57 then dct tx sz m (a + 1) + 1 else 0) = 0; rw [if_neg h]
/-- the sum of the first ratios -/
def rsum (ra : Nat → Int) : Nat → Int
  | 0 => 0
  | n + 1 => rsum ra n + ra n
set_option maxHeartbeats 4000000 in
set_option maxRecDepth 100000 in
/-- compareRows -/
theorem c_X3_compareRows (E : TEn) (hE : EnvOk E) (q r : Nat) (cI : ClassId) (N M : Nat) (hN : N < 10 ^ 36) (hM : M < 10 ^ 36) : Cti vwCl E yX3_compareRows wsX3_compareRows (rmn 0 0) [.ref q, .ref r] [(q, .inl (cI, 36, .inl (dg N))), (r, .inl (cI, 36, .inl (dg M)))] [(cI, .int)] (fun (z : Int) (_ : Unit) => z = cmpN N M) (fun _ => [(q, .inl (cI, 36, .inl (dg N))), (r, .inl (cI, 36, .inl (dg M)))]) := by
  refine enteri (by decide) (Nat.le_of_ble_eq_true rfl) ?_
  intro X O hK hin2 hret
  show TGo X [(q, .inl (cI, 36, .inl (dg N))), (r, .inl (cI, 36, .inl (dg M)))] 0 0 0 [(0, .ref q), (1, .ref r)] []
  have lp : ∀ (c : Nat) (i : Nat) (x : Int), c = i + 1 → i ≤ 36 → x = (i : Int) - 1 → N / 10 ^ i = M / 10 ^ i → TGo X [(q, .inl (cI, 36, .inl (dg N))), (r, .inl (cI, 36, .inl (dg M)))] 0 0 3 [(2, .int (iI x)), (0, .ref q), (1, .ref r)] [] := by
    intro c
    induction c with
    | zero => intro i x h1 h2 hx he; omega
    | succ c ih =>
      intro i x h1 h2 hx he
      refine go_iload_n O dX3_compareRows_3 rfl 0 rfl 4 rfl ?_
      refine go_if_lt O dX3_compareRows_4 37 (by decide) 7 rfl (by omega) (fun h4 => ?_) (fun h4 => ?_)
      · refine go_iconst O dX3_compareRows_37 38 rfl ?_
        exact hret _ _ _ () dX3_compareRows_38 rfl (by have e : i = 0 := (by omega); subst e; rw [tqz, tqz] at he; unfold cmpN; rw [if_neg (by omega), if_pos he])
      · refine go_aload_n O dX3_compareRows_7 rfl 1 rfl 8 rfl ?_
        refine go_iload_n O dX3_compareRows_8 rfl 0 rfl 9 rfl ?_
        obtain ⟨k, rfl⟩ : ∃ k, i = k + 1 := ⟨i - 1, by omega⟩
        refine go_iald O hK dX3_compareRows_9 0 0 rfl rfl k (by omega) (by omega) (by omega) ((N / 10 ^ k % 10 : Nat) : Int) rfl 10 rfl ?_
        refine go_aload_n O dX3_compareRows_10 rfl 2 rfl 11 rfl ?_
        refine go_iload_n O dX3_compareRows_11 rfl 0 rfl 12 rfl ?_
        refine go_iald O hK dX3_compareRows_12 1 0 rfl rfl k (by omega) (by omega) (by omega) ((M / 10 ^ k % 10 : Nat) : Int) rfl 13 rfl ?_
        refine go_icmp_eq O dX3_compareRows_13 31 (by decide) 16 rfl (by omega) (by omega) (fun h13 => ?_) (fun h13 => ?_)
        · refine go_iinc O dX3_compareRows_31 0 rfl (x - 1) (by omega) (by decide) [(2, .int (iI (x - 1))), (0, .ref q), (1, .ref r)] rfl 34 rfl ?_
          refine go_goto O dX3_compareRows_34 3 (by decide) ?_
          refine TGo.lsub (lv' := [(2, .int (iI (x - 1))), (0, .ref q), (1, .ref r)]) [0, 1, 2] rfl ?_
          exact ih k _ (by omega) (by omega) (by omega) (by rw [tq10, tq10] at he; omega)
        · refine go_aload_n O dX3_compareRows_16 rfl 1 rfl 17 rfl ?_
          refine go_iload_n O dX3_compareRows_17 rfl 0 rfl 18 rfl ?_
          refine go_iald O hK dX3_compareRows_18 0 0 rfl rfl k (by omega) (by omega) (by omega) ((N / 10 ^ k % 10 : Nat) : Int) rfl 19 rfl ?_
          refine go_aload_n O dX3_compareRows_19 rfl 2 rfl 20 rfl ?_
          refine go_iload_n O dX3_compareRows_20 rfl 0 rfl 21 rfl ?_
          refine go_iald O hK dX3_compareRows_21 1 0 rfl rfl k (by omega) (by omega) (by omega) ((M / 10 ^ k % 10 : Nat) : Int) rfl 22 rfl ?_
          refine go_icmp_ge O dX3_compareRows_22 29 (by decide) 25 rfl (by omega) (by omega) (fun h22 => ?_) (fun h22 => ?_)
          · refine go_iconst O dX3_compareRows_29 30 rfl ?_
            exact hret _ _ _ () dX3_compareRows_30 rfl (by have e := lt_of_q (N := M) (M := N) k (by rw [tq10, tq10] at he; omega); unfold cmpN; rw [if_neg (by omega), if_neg (by omega)])
          · refine go_iconst O dX3_compareRows_25 26 rfl ?_
            refine go_goto O dX3_compareRows_26 30 (by decide) ?_
            exact hret _ _ _ () dX3_compareRows_30 rfl (by have e := lt_of_q (N := N) (M := M) k (by rw [tq10, tq10] at he; omega); unfold cmpN; rw [if_pos e])
  refine go_bipush O dX3_compareRows_0 (by decide) 2 rfl ?_
  refine go_istore_n O dX3_compareRows_2 rfl (by decide) [(2, .int (iI 35)), (0, .ref q), (1, .ref r)] rfl 3 rfl ?_
  refine TGo.lsub (lv' := [(2, .int (iI 35)), (0, .ref q), (1, .ref r)]) [0, 1, 2] rfl ?_
  exact lp 37 36 _ (by omega) (by omega) (by omega) (by rw [q_lt hN, q_lt hM])
set_option maxHeartbeats 4000000 in
set_option maxRecDepth 100000 in
/-- compareRows -/
theorem c_X3_compareRows_self (E : TEn) (hE : EnvOk E) (q : Nat) (cI : ClassId) (N : Nat) (hN : N < 10 ^ 36) : Cti vwCl E yX3_compareRows wsX3_compareRows (rmn 0 0) [.ref q, .ref q] [(q, .inl (cI, 36, .inl (dg N)))] [(cI, .int)] (fun (z : Int) (_ : Unit) => z = cmpN N N) (fun _ => [(q, .inl (cI, 36, .inl (dg N)))]) := by
  refine enteri (by decide) (Nat.le_of_ble_eq_true rfl) ?_
  intro X O hK hin2 hret
  show TGo X [(q, .inl (cI, 36, .inl (dg N)))] 0 0 0 [(0, .ref q), (1, .ref q)] []
  have lp : ∀ (c : Nat) (i : Nat) (x : Int), c = i + 1 → i ≤ 36 → x = (i : Int) - 1 → N / 10 ^ i = N / 10 ^ i → TGo X [(q, .inl (cI, 36, .inl (dg N)))] 0 0 3 [(2, .int (iI x)), (0, .ref q), (1, .ref q)] [] := by
    intro c
    induction c with
    | zero => intro i x h1 h2 hx he; omega
    | succ c ih =>
      intro i x h1 h2 hx he
      refine go_iload_n O dX3_compareRows_3 rfl 0 rfl 4 rfl ?_
      refine go_if_lt O dX3_compareRows_4 37 (by decide) 7 rfl (by omega) (fun h4 => ?_) (fun h4 => ?_)
      · refine go_iconst O dX3_compareRows_37 38 rfl ?_
        exact hret _ _ _ () dX3_compareRows_38 rfl (by unfold cmpN; rw [if_neg (by omega), if_pos rfl])
      · refine go_aload_n O dX3_compareRows_7 rfl 1 rfl 8 rfl ?_
        refine go_iload_n O dX3_compareRows_8 rfl 0 rfl 9 rfl ?_
        obtain ⟨k, rfl⟩ : ∃ k, i = k + 1 := ⟨i - 1, by omega⟩
        refine go_iald O hK dX3_compareRows_9 0 0 rfl rfl k (by omega) (by omega) (by omega) ((N / 10 ^ k % 10 : Nat) : Int) rfl 10 rfl ?_
        refine go_aload_n O dX3_compareRows_10 rfl 2 rfl 11 rfl ?_
        refine go_iload_n O dX3_compareRows_11 rfl 0 rfl 12 rfl ?_
        refine go_iald O hK dX3_compareRows_12 0 0 rfl rfl k (by omega) (by omega) (by omega) ((N / 10 ^ k % 10 : Nat) : Int) rfl 13 rfl ?_
        refine go_icmp_eq O dX3_compareRows_13 31 (by decide) 16 rfl (by omega) (by omega) (fun h13 => ?_) (fun h13 => by omega)
        refine go_iinc O dX3_compareRows_31 0 rfl (x - 1) (by omega) (by decide) [(2, .int (iI (x - 1))), (0, .ref q), (1, .ref q)] rfl 34 rfl ?_
        refine go_goto O dX3_compareRows_34 3 (by decide) ?_
        refine TGo.lsub (lv' := [(2, .int (iI (x - 1))), (0, .ref q), (1, .ref q)]) [0, 1, 2] rfl ?_
        exact ih k _ (by omega) (by omega) (by omega) rfl
  refine go_bipush O dX3_compareRows_0 (by decide) 2 rfl ?_
  refine go_istore_n O dX3_compareRows_2 rfl (by decide) [(2, .int (iI 35)), (0, .ref q), (1, .ref q)] rfl 3 rfl ?_
  refine TGo.lsub (lv' := [(2, .int (iI 35)), (0, .ref q), (1, .ref q)]) [0, 1, 2] rfl ?_
  exact lp 37 36 _ (by omega) (by omega) (by omega) rfl
set_option maxHeartbeats 4000000 in
set_option maxRecDepth 100000 in
/-- Text.append, where there is room -/
theorem c_X1_append (E : TEn) (hE : EnvOk E) (ht ql : Nat) (cI : ClassId) (tx : Nat → Int) (htx : ∀ j, r32 (tx j)) (sz ta : Nat) (tc : Int) (v : Int) (hs : sz < 48) : Ctv vwCl E yX1_append wsX1_append (rmn 0 0) [.ref ht, .int (iI v)] [(ht, .inr (1, [.ref ql, .int (iI ((sz : Nat) : Int)), .int (iI ((ta : Nat) : Int)), .int (iI tc)])), (ql, .inl (cI, 48, .inl (fun j => iI (tx j))))] [(cI, .int)] (fun _ : Unit => True) (fun _ => [(ht, .inr (1, [.ref ql, .int (iI ((sz + 1 : Nat) : Int)), .int (iI ((ta : Nat) : Int)), .int (iI tc)])), (ql, .inl (cI, 48, .inl (fun j => iI (txs tx sz v j))))]) := by
  refine enterv (by decide) (Nat.le_of_ble_eq_true rfl) ?_
  intro X O hK hin2 hret
  show TGo X [(ht, .inr (1, [.ref ql, .int (iI ((sz : Nat) : Int)), .int (iI ((ta : Nat) : Int)), .int (iI tc)])), (ql, .inl (cI, 48, .inl (fun j => iI (tx j))))] 0 0 0 [(0, .ref ht), (1, .int (iI v))] []
  refine go_aload_n O dX1_append_0 rfl 0 rfl 1 rfl ?_
  refine go_get O hK dX1_append_1 hinX1 0 rfl rfl 1 (by decide) flX1_15 rfl 4 rfl ?_
  refine go_bipush O dX1_append_4 (by decide) 6 rfl ?_
  refine go_icmp_ge O dX1_append_6 29 (by decide) 9 rfl (by omega) (by omega) (fun h6 => by omega) (fun h6 => ?_)
  refine go_aload_n O dX1_append_9 rfl 0 rfl 10 rfl ?_
  refine go_get O hK dX1_append_10 hinX1 0 rfl rfl 0 (by decide) flX1_9 rfl 13 rfl ?_
  refine go_aload_n O dX1_append_13 rfl 0 rfl 14 rfl ?_
  refine go_get O hK dX1_append_14 hinX1 0 rfl rfl 1 (by decide) flX1_15 rfl 17 rfl ?_
  refine go_iload_n O dX1_append_17 rfl 1 rfl 18 rfl ?_
  refine go_iast O hK dX1_append_18 1 0 rfl rfl sz rfl (by omega) (by omega) (fun j => iI (txs tx sz v j)) (fun j _ => txs_up tx sz v j) [(ht, .inr (1, [.ref ql, .int (iI ((sz : Nat) : Int)), .int (iI ((ta : Nat) : Int)), .int (iI tc)])), (ql, .inl (cI, 48, .inl (fun j => iI (txs tx sz v j))))] rfl 19 rfl ?_
  refine go_aload_n O dX1_append_19 rfl 0 rfl 20 rfl ?_
  refine go_dup O dX1_append_20 rfl 21 rfl ?_
  refine go_get O hK dX1_append_21 hinX1 0 rfl rfl 1 (by decide) flX1_15 rfl 24 rfl ?_
  refine go_iconst O dX1_append_24 25 rfl ?_
  refine go_iadd O dX1_append_25 ((sz + 1 : Nat) : Int) (by omega) 26 rfl ?_
  refine go_put O hK dX1_append_26 hinX1 tyX1 tyX1_ok nmX1 0 rfl rfl 1 (by decide) flX1_15 rfl rfl rfl rfl (Nat.le_of_ble_eq_true rfl) [(ht, .inr (1, [.ref ql, .int (iI ((sz + 1 : Nat) : Int)), .int (iI ((ta : Nat) : Int)), .int (iI tc)])), (ql, .inl (cI, 48, .inl (fun j => iI (txs tx sz v j))))] rfl 29 rfl ?_
  exact hret _ _ () dX1_append_29 trivial
set_option maxHeartbeats 4000000 in
set_option maxRecDepth 100000 in
/-- Text.skip -/
theorem c_X1_skip (E : TEn) (hE : EnvOk E) (ht ql : Nat) (cI : ClassId) (tx : Nat → Int) (htx : ∀ j, r32 (tx j)) (sz ta : Nat) (tc : Int) (v : Int) (hv : r32 v) (hs : sz ≤ 48) (hta48 : ta ≤ 48) : Cti vwCl E yX1_skip wsX1_skip (rmn 0 0) [.ref ht, .int (iI v)] [(ht, .inr (1, [.ref ql, .int (iI ((sz : Nat) : Int)), .int (iI ((ta : Nat) : Int)), .int (iI tc)])), (ql, .inl (cI, 48, .inl (fun j => iI (tx j))))] [(cI, .int)] (fun (z : Int) (u : Nat) => (z = 1 ∧ (ta < sz ∧ tx ta = v) ∧ u = ta + 1) ∨ (z = 0 ∧ ¬ (ta < sz ∧ tx ta = v) ∧ u = ta)) (fun u => [(ht, .inr (1, [.ref ql, .int (iI ((sz : Nat) : Int)), .int (iI ((u : Nat) : Int)), .int (iI tc)])), (ql, .inl (cI, 48, .inl (fun j => iI (tx j))))]) := by
  refine enteri (by decide) (Nat.le_of_ble_eq_true rfl) ?_
  intro X O hK hin2 hret
  show TGo X [(ht, .inr (1, [.ref ql, .int (iI ((sz : Nat) : Int)), .int (iI ((ta : Nat) : Int)), .int (iI tc)])), (ql, .inl (cI, 48, .inl (fun j => iI (tx j))))] 0 0 0 [(0, .ref ht), (1, .int (iI v))] []
  have hta := htx ta
  refine go_aload_n O dX1_skip_0 rfl 0 rfl 1 rfl ?_
  refine go_get O hK dX1_skip_1 hinX1 0 rfl rfl 2 (by decide) flX1_23 rfl 4 rfl ?_
  refine go_aload_n O dX1_skip_4 rfl 0 rfl 5 rfl ?_
  refine go_get O hK dX1_skip_5 hinX1 0 rfl rfl 1 (by decide) flX1_15 rfl 8 rfl ?_
  refine go_icmp_ge O dX1_skip_8 24 (by decide) 11 rfl (by omega) (by omega) (fun h8 => ?_) (fun h8 => ?_)
  · refine go_iconst O dX1_skip_24 25 rfl ?_
    exact hret _ _ _ ta dX1_skip_25 rfl (Or.inr ⟨rfl, fun e => by omega, rfl⟩)
  · refine go_aload_n O dX1_skip_11 rfl 0 rfl 12 rfl ?_
    refine go_get O hK dX1_skip_12 hinX1 0 rfl rfl 0 (by decide) flX1_9 rfl 15 rfl ?_
    refine go_aload_n O dX1_skip_15 rfl 0 rfl 16 rfl ?_
    refine go_get O hK dX1_skip_16 hinX1 0 rfl rfl 2 (by decide) flX1_23 rfl 19 rfl ?_
    refine go_iald O hK dX1_skip_19 1 0 rfl rfl ta rfl (by omega) (by omega) (tx ta) rfl 20 rfl ?_
    refine go_iload_n O dX1_skip_20 rfl 1 rfl 21 rfl ?_
    refine go_icmp_eq O dX1_skip_21 26 (by decide) 24 rfl (by omega) (by omega) (fun h21 => ?_) (fun h21 => ?_)
    · refine go_aload_n O dX1_skip_26 rfl 0 rfl 27 rfl ?_
      refine go_dup O dX1_skip_27 rfl 28 rfl ?_
      refine go_get O hK dX1_skip_28 hinX1 0 rfl rfl 2 (by decide) flX1_23 rfl 31 rfl ?_
      refine go_iconst O dX1_skip_31 32 rfl ?_
      refine go_iadd O dX1_skip_32 ((ta + 1 : Nat) : Int) (by omega) 33 rfl ?_
      refine go_put O hK dX1_skip_33 hinX1 tyX1 tyX1_ok nmX1 0 rfl rfl 2 (by decide) flX1_23 rfl rfl rfl rfl (Nat.le_of_ble_eq_true rfl) [(ht, .inr (1, [.ref ql, .int (iI ((sz : Nat) : Int)), .int (iI ((ta + 1 : Nat) : Int)), .int (iI tc)])), (ql, .inl (cI, 48, .inl (fun j => iI (tx j))))] rfl 36 rfl ?_
      refine go_iconst O dX1_skip_36 37 rfl ?_
      exact hret _ _ _ (ta + 1) dX1_skip_37 rfl (Or.inl ⟨rfl, ⟨by omega, by omega⟩, rfl⟩)
    · refine go_iconst O dX1_skip_24 25 rfl ?_
      exact hret _ _ _ ta dX1_skip_25 rfl (Or.inr ⟨rfl, fun e => by omega, rfl⟩)
set_option maxHeartbeats 4000000 in
set_option maxRecDepth 100000 in
/-- Text.skipDigits -/
theorem c_X1_skipDigits (E : TEn) (hE : EnvOk E) (ht ql : Nat) (cI : ClassId) (tx : Nat → Int) (htx : ∀ j, r32 (tx j)) (sz ta : Nat) (tc : Int) (mo : Nat) (hmo : mo ≤ 48) (hs : sz ≤ 48) (hta48 : ta ≤ 48) : Cti vwCl E yX1_skipDigits wsX1_skipDigits (rmn 0 0) [.ref ht, .int (iI ((mo : Nat) : Int))] [(ht, .inr (1, [.ref ql, .int (iI ((sz : Nat) : Int)), .int (iI ((ta : Nat) : Int)), .int (iI tc)])), (ql, .inl (cI, 48, .inl (fun j => iI (tx j))))] [(cI, .int)] (fun (z : Int) (u : Nat) => z = ((dct tx sz mo ta : Nat) : Int) ∧ u = ta + dct tx sz mo ta) (fun u => [(ht, .inr (1, [.ref ql, .int (iI ((sz : Nat) : Int)), .int (iI ((u : Nat) : Int)), .int (iI tc)])), (ql, .inl (cI, 48, .inl (fun j => iI (tx j))))]) := by
  refine enteri (by decide) (Nat.le_of_ble_eq_true rfl) ?_
  intro X O hK hin2 hret
  show TGo X [(ht, .inr (1, [.ref ql, .int (iI ((sz : Nat) : Int)), .int (iI ((ta : Nat) : Int)), .int (iI tc)])), (ql, .inl (cI, 48, .inl (fun j => iI (tx j))))] 0 0 0 [(0, .ref ht), (1, .int (iI ((mo : Nat) : Int)))] []
  have lp : ∀ (c : Nat) (i : Nat) (a : Nat) (x : Int), c + i = mo + 1 → i ≤ mo → x = (i : Int) → a = ta + i → dct tx sz mo ta = i + dct tx sz (mo - i) a → a ≤ 48 → TGo X [(ht, .inr (1, [.ref ql, .int (iI ((sz : Nat) : Int)), .int (iI ((a : Nat) : Int)), .int (iI tc)])), (ql, .inl (cI, 48, .inl (fun j => iI (tx j))))] 0 0 2 [(2, .int (iI x)), (0, .ref ht), (1, .int (iI ((mo : Nat) : Int)))] [] := by
    intro c
    induction c with
    | zero => intro i a x h1 h2 hx ha hd ha48; omega
    | succ c ih =>
      intro i a x h1 h2 hx ha hd ha48
      refine go_iload_n O dX1_skipDigits_2 rfl 0 rfl 3 rfl ?_
      refine go_iload_n O dX1_skipDigits_3 rfl 2 rfl 4 rfl ?_
      refine go_icmp_ge O dX1_skipDigits_4 62 (by decide) 7 rfl (by omega) (by omega) (fun h4 => ?_) (fun h4 => ?_)
      · have hd0 : dct tx sz (mo - i) a = 0 := (by rw [show mo - i = 0 by omega]; rfl)
        have hend : i = dct tx sz mo ta := by omega
        have hend2 : a = ta + dct tx sz mo ta := by omega
        refine go_iload_n O dX1_skipDigits_62 rfl 0 rfl 63 rfl ?_
        exact hret _ _ _ a dX1_skipDigits_63 rfl ⟨by rw [hx, hend], hend2⟩
      · refine go_aload_n O dX1_skipDigits_7 rfl 1 rfl 8 rfl ?_
        refine go_get O hK dX1_skipDigits_8 hinX1 0 rfl rfl 2 (by decide) flX1_23 rfl 11 rfl ?_
        refine go_aload_n O dX1_skipDigits_11 rfl 1 rfl 12 rfl ?_
        refine go_get O hK dX1_skipDigits_12 hinX1 0 rfl rfl 1 (by decide) flX1_15 rfl 15 rfl ?_
        refine go_icmp_ge O dX1_skipDigits_15 62 (by decide) 18 rfl (by omega) (by omega) (fun h15 => ?_) (fun h15 => ?_)
        · have hd0 : dct tx sz (mo - i) a = 0 := (dct_0 (by omega))
          have hend : i = dct tx sz mo ta := by omega
          have hend2 : a = ta + dct tx sz mo ta := by omega
          refine go_iload_n O dX1_skipDigits_62 rfl 0 rfl 63 rfl ?_
          exact hret _ _ _ a dX1_skipDigits_63 rfl ⟨by rw [hx, hend], hend2⟩
        · refine go_aload_n O dX1_skipDigits_18 rfl 1 rfl 19 rfl ?_
          refine go_get O hK dX1_skipDigits_19 hinX1 0 rfl rfl 0 (by decide) flX1_9 rfl 22 rfl ?_
          refine go_aload_n O dX1_skipDigits_22 rfl 1 rfl 23 rfl ?_
          refine go_get O hK dX1_skipDigits_23 hinX1 0 rfl rfl 2 (by decide) flX1_23 rfl 26 rfl ?_
          have hta := htx a
          refine go_iald O hK dX1_skipDigits_26 1 0 rfl rfl a rfl (by omega) (by omega) (tx a) rfl 27 rfl ?_
          refine go_bipush O dX1_skipDigits_27 (by decide) 29 rfl ?_
          refine go_icmp_lt O dX1_skipDigits_29 62 (by decide) 32 rfl (by omega) (by omega) (fun h29 => ?_) (fun h29 => ?_)
          · have hd0 : dct tx sz (mo - i) a = 0 := (dct_0 (by omega))
            have hend : i = dct tx sz mo ta := by omega
            have hend2 : a = ta + dct tx sz mo ta := by omega
            refine go_iload_n O dX1_skipDigits_62 rfl 0 rfl 63 rfl ?_
            exact hret _ _ _ a dX1_skipDigits_63 rfl ⟨by rw [hx, hend], hend2⟩
          · refine go_aload_n O dX1_skipDigits_32 rfl 1 rfl 33 rfl ?_
            refine go_get O hK dX1_skipDigits_33 hinX1 0 rfl rfl 0 (by decide) flX1_9 rfl 36 rfl ?_
            refine go_aload_n O dX1_skipDigits_36 rfl 1 rfl 37 rfl ?_
            refine go_get O hK dX1_skipDigits_37 hinX1 0 rfl rfl 2 (by decide) flX1_23 rfl 40 rfl ?_
            refine go_iald O hK dX1_skipDigits_40 1 0 rfl rfl a rfl (by omega) (by omega) (tx a) rfl 41 rfl ?_
            refine go_bipush O dX1_skipDigits_41 (by decide) 43 rfl ?_
            refine go_icmp_gt O dX1_skipDigits_43 62 (by decide) 46 rfl (by omega) (by omega) (fun h43 => ?_) (fun h43 => ?_)
            · have hd0 : dct tx sz (mo - i) a = 0 := (dct_0 (by omega))
              have hend : i = dct tx sz mo ta := by omega
              have hend2 : a = ta + dct tx sz mo ta := by omega
              refine go_iload_n O dX1_skipDigits_62 rfl 0 rfl 63 rfl ?_
              exact hret _ _ _ a dX1_skipDigits_63 rfl ⟨by rw [hx, hend], hend2⟩
            · refine go_aload_n O dX1_skipDigits_46 rfl 1 rfl 47 rfl ?_
              refine go_dup O dX1_skipDigits_47 rfl 48 rfl ?_
              refine go_get O hK dX1_skipDigits_48 hinX1 0 rfl rfl 2 (by decide) flX1_23 rfl 51 rfl ?_
              refine go_iconst O dX1_skipDigits_51 52 rfl ?_
              refine go_iadd O dX1_skipDigits_52 ((a + 1 : Nat) : Int) (by omega) 53 rfl ?_
              refine go_put O hK dX1_skipDigits_53 hinX1 tyX1 tyX1_ok nmX1 0 rfl rfl 2 (by decide) flX1_23 rfl rfl rfl rfl (Nat.le_of_ble_eq_true rfl) [(ht, .inr (1, [.ref ql, .int (iI ((sz : Nat) : Int)), .int (iI ((a + 1 : Nat) : Int)), .int (iI tc)])), (ql, .inl (cI, 48, .inl (fun j => iI (tx j))))] rfl 56 rfl ?_
              refine go_iinc O dX1_skipDigits_56 0 rfl ((i + 1 : Nat) : Int) (by omega) (by decide) [(2, .int (iI ((i + 1 : Nat) : Int))), (0, .ref ht), (1, .int (iI ((mo : Nat) : Int)))] rfl 59 rfl ?_
              refine go_goto O dX1_skipDigits_59 2 (by decide) ?_
              refine TGo.lsub (lv' := [(2, .int (iI ((i + 1 : Nat) : Int))), (0, .ref ht), (1, .int (iI ((mo : Nat) : Int)))]) [0, 1, 2] rfl ?_
              exact ih (i + 1) (a + 1) _ (by omega) (by omega) (by omega) (by omega) (by have e := dct_1 (tx := tx) (sz := sz) (m := mo - (i + 1)) (a := a) ⟨by omega, by omega, by omega⟩; rw [show mo - (i + 1) + 1 = mo - i by omega] at e; omega) (by omega)
  refine go_iconst O dX1_skipDigits_0 1 rfl ?_
  refine go_istore_n O dX1_skipDigits_1 rfl (by decide) [(2, .int (iI 0)), (0, .ref ht), (1, .int (iI ((mo : Nat) : Int)))] rfl 2 rfl ?_
  refine TGo.lsub (lv' := [(2, .int (iI 0)), (0, .ref ht), (1, .int (iI ((mo : Nat) : Int)))]) [0, 1, 2] rfl ?_
  exact lp (mo + 1) 0 ta _ (by omega) (by omega) (by omega) (by omega) (by rw [Nat.sub_zero, Nat.zero_add]) hta48
