set_option maxHeartbeats 4000000 in
set_option maxRecDepth 100000 in
/-- clear: all digits 0 -/
theorem c_X4_clear (E : TEn) (hE : EnvOk E) (q : Nat) (cI : ClassId) (f : Nat → Int32) : Ctv vwCl E yX4_clear wsX4_clear (rmn 0 0) [.ref q] [(q, .inl (cI, 80, .inl f))] [(cI, .int)] (fun _ : Unit => True) (fun _ => [(q, .inl (cI, 80, .inl (dg 0)))]) := by
  refine enterv (by decide) (Nat.le_of_ble_eq_true rfl) ?_
  intro X O hK hin2 hret
  show TGo X [(q, .inl (cI, 80, .inl f))] 0 0 0 [(0, .ref q)] []
  have lp : ∀ (c : Nat) (i : Nat) (x : Int) (g : Nat → Int32), c + i = 81 → i ≤ 80 → x = (i : Int) → (∀ j, j < i → g j = iI 0) → TGo X [(q, .inl (cI, 80, .inl g))] 0 0 2 [(1, .int (iI x)), (0, .ref q)] [] := by
    intro c
    induction c with
    | zero => intro i x g h1 h2 hx hg; omega
    | succ c ih =>
      intro i x g h1 h2 hx hg
      refine go_iload_n O dX4_clear_2 rfl 0 rfl 3 rfl ?_
      refine go_bipush O dX4_clear_3 (by decide) 5 rfl ?_
      refine go_icmp_ge O dX4_clear_5 18 (by decide) 8 rfl (by omega) (by omega) (fun h5 => ?_) (fun h5 => ?_)
      · refine TGo.arr 0 rfl (dg 0) (fun j hj => by rw [hg j (by omega), dg_zero]) (ws' := [(q, .inl (cI, 80, .inl (dg 0)))]) rfl ?_
        exact hret _ _ () dX4_clear_18 trivial
      · refine go_aload_n O dX4_clear_8 rfl 1 rfl 9 rfl ?_
        refine go_iload_n O dX4_clear_9 rfl 0 rfl 10 rfl ?_
        refine go_iconst O dX4_clear_10 11 rfl ?_
        refine go_iast O hK dX4_clear_11 0 0 rfl rfl i hx (by omega) (by omega) (upd g i (iI 0)) (fun _ _ => rfl) [(q, .inl (cI, 80, .inl (upd g i (iI 0))))] rfl 12 rfl ?_
        refine go_iinc O dX4_clear_12 0 rfl ((i + 1 : Nat) : Int) (by omega) (by decide) [(1, .int (iI ((i + 1 : Nat) : Int))), (0, .ref q)] rfl 15 rfl ?_
        refine go_goto O dX4_clear_15 2 (by decide) ?_
        exact ih (i + 1) _ _ (by omega) (by omega) (by omega) (lo_upd hg rfl)
  refine go_iconst O dX4_clear_0 1 rfl ?_
  refine go_istore_n O dX4_clear_1 rfl (by decide) [(1, .int (iI 0)), (0, .ref q)] rfl 2 rfl ?_
  exact lp 81 0 _ f (by omega) (by omega) (by omega) (fun j h => absurd h (by omega))
set_option maxHeartbeats 4000000 in
set_option maxRecDepth 100000 in
/-- copy: the second row becomes the first -/
theorem c_X4_copy (E : TEn) (hE : EnvOk E) (q r : Nat) (cI : ClassId) (f g : Nat → Int32) : Ctv vwCl E yX4_copy wsX4_copy (rmn 0 0) [.ref q, .ref r] [(q, .inl (cI, 80, .inl f)), (r, .inl (cI, 80, .inl g))] [(cI, .int)] (fun _ : Unit => True) (fun _ => [(q, .inl (cI, 80, .inl f)), (r, .inl (cI, 80, .inl f))]) := by
  refine enterv (by decide) (Nat.le_of_ble_eq_true rfl) ?_
  intro X O hK hin2 hret
  show TGo X [(q, .inl (cI, 80, .inl f)), (r, .inl (cI, 80, .inl g))] 0 0 0 [(0, .ref q), (1, .ref r)] []
  have lp : ∀ (c : Nat) (i : Nat) (x : Int) (g : Nat → Int32), c + i = 81 → i ≤ 80 → x = (i : Int) → (∀ j, j < i → g j = f j) → TGo X [(q, .inl (cI, 80, .inl f)), (r, .inl (cI, 80, .inl g))] 0 0 2 [(2, .int (iI x)), (0, .ref q), (1, .ref r)] [] := by
    intro c
    induction c with
    | zero => intro i x g h1 h2 hx hg; omega
    | succ c ih =>
      intro i x g h1 h2 hx hg
      refine go_iload_n O dX4_copy_2 rfl 0 rfl 3 rfl ?_
      refine go_bipush O dX4_copy_3 (by decide) 5 rfl ?_
      refine go_icmp_ge O dX4_copy_5 20 (by decide) 8 rfl (by omega) (by omega) (fun h5 => ?_) (fun h5 => ?_)
      · refine TGo.arr 1 rfl f (fun j hj => hg j (by omega)) (ws' := [(q, .inl (cI, 80, .inl f)), (r, .inl (cI, 80, .inl f))]) rfl ?_
        exact hret _ _ () dX4_copy_20 trivial
      · refine go_aload_n O dX4_copy_8 rfl 2 rfl 9 rfl ?_
        refine go_iload_n O dX4_copy_9 rfl 0 rfl 10 rfl ?_
        refine go_aload_n O dX4_copy_10 rfl 1 rfl 11 rfl ?_
        refine go_iload_n O dX4_copy_11 rfl 0 rfl 12 rfl ?_
        refine go_iald O hK dX4_copy_12 0 0 rfl rfl i hx (by omega) (by omega) ((f i).toInt) (iI_of _) 13 rfl ?_
        refine go_iast O hK dX4_copy_13 1 0 rfl rfl i hx (by omega) (by omega) (upd g i (iI ((f i).toInt))) (fun _ _ => rfl) [(q, .inl (cI, 80, .inl f)), (r, .inl (cI, 80, .inl (upd g i (iI ((f i).toInt)))))] rfl 14 rfl ?_
        refine go_iinc O dX4_copy_14 0 rfl ((i + 1 : Nat) : Int) (by omega) (by decide) [(2, .int (iI ((i + 1 : Nat) : Int))), (0, .ref q), (1, .ref r)] rfl 17 rfl ?_
        refine go_goto O dX4_copy_17 2 (by decide) ?_
        exact ih (i + 1) _ _ (by omega) (by omega) (by omega) (lo_upd hg (iI_of _).symm)
  refine go_iconst O dX4_copy_0 1 rfl ?_
  refine go_istore_n O dX4_copy_1 rfl (by decide) [(2, .int (iI 0)), (0, .ref q), (1, .ref r)] rfl 2 rfl ?_
  exact lp 81 0 _ g (by omega) (by omega) (by omega) (fun j h => absurd h (by omega))
set_option maxHeartbeats 4000000 in
set_option maxRecDepth 100000 in
/-- size: how many digits -/
theorem c_X4_size (E : TEn) (hE : EnvOk E) (q : Nat) (cI : ClassId) (N : Nat) (hN : N < 10 ^ 80) : Cti vwCl E yX4_size wsX4_size (rmn 0 0) [.ref q] [(q, .inl (cI, 80, .inl (dg N)))] [(cI, .int)] (fun (z : Int) (_ : Unit) => z = (tnds N : Int)) (fun _ => [(q, .inl (cI, 80, .inl (dg N)))]) := by
  refine enteri (by decide) (Nat.le_of_ble_eq_true rfl) ?_
  intro X O hK hin2 hret
  show TGo X [(q, .inl (cI, 80, .inl (dg N)))] 0 0 0 [(0, .ref q)] []
  have lp : ∀ (c : Nat) (i : Nat) (s : Nat) (x : Int) (y : Int), c + i = 81 → i ≤ 80 → x = (i : Int) → y = (s : Int) → s ≤ i → (∀ j, s ≤ j → j < i → N / 10 ^ j % 10 = 0) → (s = 0 ∨ N / 10 ^ (s - 1) % 10 ≠ 0) → TGo X [(q, .inl (cI, 80, .inl (dg N)))] 0 0 4 [(1, .int (iI y)), (2, .int (iI x)), (0, .ref q)] [] := by
    intro c
    induction c with
    | zero => intro i s x y h1 h2 hx hy hs hz hd; omega
    | succ c ih =>
      intro i s x y h1 h2 hx hy hs hz hd
      refine go_iload_n O dX4_size_4 rfl 1 rfl 5 rfl ?_
      refine go_bipush O dX4_size_5 (by decide) 7 rfl ?_
      refine go_icmp_ge O dX4_size_7 30 (by decide) 10 rfl (by omega) (by omega) (fun h7 => ?_) (fun h7 => ?_)
      · refine go_iload_n O dX4_size_30 rfl 0 rfl 31 rfl ?_
        exact hret _ _ _ () dX4_size_31 rfl (by rw [hy, tnds_scan (N := N) (s := s) (e := 80) hN (by omega) (fun j a b => hz j a (by omega)) hd])
      · refine go_aload_n O dX4_size_10 rfl 2 rfl 11 rfl ?_
        refine go_iload_n O dX4_size_11 rfl 1 rfl 12 rfl ?_
        refine go_iald O hK dX4_size_12 0 0 rfl rfl i hx (by omega) (by omega) ((N / 10 ^ i % 10 : Nat) : Int) rfl 13 rfl ?_
        refine go_if_eq O dX4_size_13 22 (by decide) 16 rfl (by omega) (fun h13 => ?_) (fun h13 => ?_)
        · refine go_iload_n O dX4_size_22 rfl 0 rfl 23 rfl ?_
          refine go_istore_n O dX4_size_23 rfl (by decide) [(1, .int (iI y)), (2, .int (iI x)), (0, .ref q)] rfl 24 rfl ?_
          refine go_iinc O dX4_size_24 1 rfl ((i + 1 : Nat) : Int) (by omega) (by decide) [(2, .int (iI ((i + 1 : Nat) : Int))), (1, .int (iI y)), (0, .ref q)] rfl 27 rfl ?_
          refine go_goto O dX4_size_27 4 (by decide) ?_
          refine TGo.lsub (lv' := [(1, .int (iI y)), (2, .int (iI ((i + 1 : Nat) : Int))), (0, .ref q)]) [1, 0, 2] rfl ?_
          exact ih (i + 1) s _ _ (by omega) (by omega) (by omega) hy (by omega) (fun j a b => if e : j < i then hz j a e else (by have e2 : j = i := (by omega); rw [e2]; omega)) hd
        · refine go_iload_n O dX4_size_16 rfl 1 rfl 17 rfl ?_
          refine go_iconst O dX4_size_17 18 rfl ?_
          refine go_iadd O dX4_size_18 ((i + 1 : Nat) : Int) (by omega) 19 rfl ?_
          refine go_goto O dX4_size_19 23 (by decide) ?_
          refine go_istore_n O dX4_size_23 rfl (by decide) [(1, .int (iI ((i + 1 : Nat) : Int))), (2, .int (iI x)), (0, .ref q)] rfl 24 rfl ?_
          refine go_iinc O dX4_size_24 1 rfl ((i + 1 : Nat) : Int) (by omega) (by decide) [(2, .int (iI ((i + 1 : Nat) : Int))), (1, .int (iI ((i + 1 : Nat) : Int))), (0, .ref q)] rfl 27 rfl ?_
          refine go_goto O dX4_size_27 4 (by decide) ?_
          refine TGo.lsub (lv' := [(1, .int (iI ((i + 1 : Nat) : Int))), (2, .int (iI ((i + 1 : Nat) : Int))), (0, .ref q)]) [1, 0, 2] rfl ?_
          exact ih (i + 1) (i + 1) _ _ (by omega) (by omega) (by omega) (by omega) (by omega) (fun j a b => by omega) (Or.inr (by rw [Nat.add_sub_cancel]; omega))
  refine go_iconst O dX4_size_0 1 rfl ?_
  refine go_istore_n O dX4_size_1 rfl (by decide) [(1, .int (iI 0)), (0, .ref q)] rfl 2 rfl ?_
  refine go_iconst O dX4_size_2 3 rfl ?_
  refine go_istore_n O dX4_size_3 rfl (by decide) [(2, .int (iI 0)), (1, .int (iI 0)), (0, .ref q)] rfl 4 rfl ?_
  refine TGo.lsub (lv' := [(1, .int (iI 0)), (2, .int (iI 0)), (0, .ref q)]) [1, 0, 2] rfl ?_
  exact lp 81 0 0 _ _ (by omega) (by omega) (by omega) (by omega) (by omega) (fun j a b => absurd b (by omega)) (Or.inl rfl)
set_option maxHeartbeats 4000000 in
set_option maxRecDepth 100000 in
/-- order: -1, 0 or 1 -/
theorem c_X4_order (E : TEn) (hE : EnvOk E) (q r : Nat) (cI : ClassId) (N M : Nat) (hN : N < 10 ^ 80) (hM : M < 10 ^ 80) : Cti vwCl E yX4_order wsX4_order (rmn 0 0) [.ref q, .ref r] [(q, .inl (cI, 80, .inl (dg N))), (r, .inl (cI, 80, .inl (dg M)))] [(cI, .int)] (fun (z : Int) (_ : Unit) => z = cmpN N M) (fun _ => [(q, .inl (cI, 80, .inl (dg N))), (r, .inl (cI, 80, .inl (dg M)))]) := by
  refine enteri (by decide) (Nat.le_of_ble_eq_true rfl) ?_
  intro X O hK hin2 hret
  show TGo X [(q, .inl (cI, 80, .inl (dg N))), (r, .inl (cI, 80, .inl (dg M)))] 0 0 0 [(0, .ref q), (1, .ref r)] []
  have lp : ∀ (c : Nat) (i : Nat) (x : Int), c = i + 1 → i ≤ 80 → x = (i : Int) - 1 → N / 10 ^ i = M / 10 ^ i → TGo X [(q, .inl (cI, 80, .inl (dg N))), (r, .inl (cI, 80, .inl (dg M)))] 0 0 3 [(2, .int (iI x)), (0, .ref q), (1, .ref r)] [] := by
    intro c
    induction c with
    | zero => intro i x h1 h2 hx he; omega
    | succ c ih =>
      intro i x h1 h2 hx he
      refine go_iload_n O dX4_order_3 rfl 0 rfl 4 rfl ?_
      refine go_if_lt O dX4_order_4 37 (by decide) 7 rfl (by omega) (fun h4 => ?_) (fun h4 => ?_)
      · refine go_iconst O dX4_order_37 38 rfl ?_
        exact hret _ _ _ () dX4_order_38 rfl (by have e : i = 0 := (by omega); subst e; rw [tqz, tqz] at he; unfold cmpN; rw [if_neg (by omega), if_pos he])
      · refine go_aload_n O dX4_order_7 rfl 1 rfl 8 rfl ?_
        refine go_iload_n O dX4_order_8 rfl 0 rfl 9 rfl ?_
        obtain ⟨k, rfl⟩ : ∃ k, i = k + 1 := ⟨i - 1, by omega⟩
        refine go_iald O hK dX4_order_9 0 0 rfl rfl k (by omega) (by omega) (by omega) ((N / 10 ^ k % 10 : Nat) : Int) rfl 10 rfl ?_
        refine go_aload_n O dX4_order_10 rfl 2 rfl 11 rfl ?_
        refine go_iload_n O dX4_order_11 rfl 0 rfl 12 rfl ?_
        refine go_iald O hK dX4_order_12 1 0 rfl rfl k (by omega) (by omega) (by omega) ((M / 10 ^ k % 10 : Nat) : Int) rfl 13 rfl ?_
        refine go_icmp_eq O dX4_order_13 31 (by decide) 16 rfl (by omega) (by omega) (fun h13 => ?_) (fun h13 => ?_)
        · refine go_iinc O dX4_order_31 0 rfl (x - 1) (by omega) (by decide) [(2, .int (iI (x - 1))), (0, .ref q), (1, .ref r)] rfl 34 rfl ?_
          refine go_goto O dX4_order_34 3 (by decide) ?_
          exact ih k _ (by omega) (by omega) (by omega) (by rw [tq10, tq10] at he; omega)
        · refine go_aload_n O dX4_order_16 rfl 1 rfl 17 rfl ?_
          refine go_iload_n O dX4_order_17 rfl 0 rfl 18 rfl ?_
          refine go_iald O hK dX4_order_18 0 0 rfl rfl k (by omega) (by omega) (by omega) ((N / 10 ^ k % 10 : Nat) : Int) rfl 19 rfl ?_
          refine go_aload_n O dX4_order_19 rfl 2 rfl 20 rfl ?_
          refine go_iload_n O dX4_order_20 rfl 0 rfl 21 rfl ?_
          refine go_iald O hK dX4_order_21 1 0 rfl rfl k (by omega) (by omega) (by omega) ((M / 10 ^ k % 10 : Nat) : Int) rfl 22 rfl ?_
          refine go_icmp_ge O dX4_order_22 29 (by decide) 25 rfl (by omega) (by omega) (fun h22 => ?_) (fun h22 => ?_)
          · refine go_iconst O dX4_order_29 30 rfl ?_
            exact hret _ _ _ () dX4_order_30 rfl (by have e := lt_of_q (N := M) (M := N) k (by rw [tq10, tq10] at he; omega); unfold cmpN; rw [if_neg (by omega), if_neg (by omega)])
          · refine go_iconst O dX4_order_25 26 rfl ?_
            refine go_goto O dX4_order_26 30 (by decide) ?_
            exact hret _ _ _ () dX4_order_30 rfl (by have e := lt_of_q (N := N) (M := M) k (by rw [tq10, tq10] at he; omega); unfold cmpN; rw [if_pos e])
  refine go_bipush O dX4_order_0 (by decide) 2 rfl ?_
  refine go_istore_n O dX4_order_2 rfl (by decide) [(2, .int (iI 79)), (0, .ref q), (1, .ref r)] rfl 3 rfl ?_
  exact lp 81 80 _ (by omega) (by omega) (by omega) (by rw [q_lt hN, q_lt hM])
set_option maxHeartbeats 4000000 in
set_option maxRecDepth 100000 in
/-- shift: times 10^k -/
theorem c_X4_shift (E : TEn) (hE : EnvOk E) (q : Nat) (cI : ClassId) (N κ : Nat) (hκ : κ ≤ 80) : Ctv vwCl E yX4_shift wsX4_shift (rmn 0 0) [.ref q, .int (iI ((κ : Nat) : Int))] [(q, .inl (cI, 80, .inl (dg N)))] [(cI, .int)] (fun _ : Unit => True) (fun _ => [(q, .inl (cI, 80, .inl (dg (N * 10 ^ κ))))]) := by
  refine enterv (by decide) (Nat.le_of_ble_eq_true rfl) ?_
  intro X O hK hin2 hret
  show TGo X [(q, .inl (cI, 80, .inl (dg N)))] 0 0 0 [(0, .ref q), (1, .int (iI ((κ : Nat) : Int)))] []
  have lp : ∀ (c : Nat) (i : Nat) (x : Int) (g : Nat → Int32), c = i + 1 → i ≤ 80 → x = (i : Int) - 1 → (∀ j, j < i → g j = dg N j) → (∀ j, i ≤ j → j < 80 → g j = dg (N * 10 ^ κ) j) → TGo X [(q, .inl (cI, 80, .inl g))] 0 0 3 [(2, .int (iI x)), (0, .ref q), (1, .int (iI ((κ : Nat) : Int)))] [] := by
    intro c
    induction c with
    | zero => intro i x g h1 h2 hx hlo hhi; omega
    | succ c ih =>
      intro i x g h1 h2 hx hlo hhi
      refine go_iload_n O dX4_shift_3 rfl 0 rfl 4 rfl ?_
      refine go_if_lt O dX4_shift_4 30 (by decide) 7 rfl (by omega) (fun h4 => ?_) (fun h4 => ?_)
      · refine TGo.arr 0 rfl (dg (N * 10 ^ κ)) (fun j hj => hhi j (by omega) hj) (ws' := [(q, .inl (cI, 80, .inl (dg (N * 10 ^ κ))))]) rfl ?_
        exact hret _ _ () dX4_shift_30 trivial
      · obtain ⟨t, rfl⟩ : ∃ t, i = t + 1 := ⟨i - 1, by omega⟩
        refine go_aload_n O dX4_shift_7 rfl 1 rfl 8 rfl ?_
        refine go_iload_n O dX4_shift_8 rfl 0 rfl 9 rfl ?_
        refine go_iload_n O dX4_shift_9 rfl 0 rfl 10 rfl ?_
        refine go_iload_n O dX4_shift_10 rfl 2 rfl 11 rfl ?_
        refine go_icmp_lt O dX4_shift_11 22 (by decide) 14 rfl (by omega) (by omega) (fun h11 => ?_) (fun h11 => ?_)
        · refine go_iconst O dX4_shift_22 23 rfl ?_
          refine go_iast O hK dX4_shift_23 0 0 rfl rfl t (by omega) (by omega) (by omega) (upd g t (iI 0)) (fun _ _ => rfl) [(q, .inl (cI, 80, .inl (upd g t (iI 0))))] rfl 24 rfl ?_
          refine go_iinc O dX4_shift_24 0 rfl (x - 1) (by omega) (by decide) [(2, .int (iI (x - 1))), (0, .ref q), (1, .int (iI ((κ : Nat) : Int)))] rfl 27 rfl ?_
          refine go_goto O dX4_shift_27 3 (by decide) ?_
          exact ih t _ _ (by omega) (by omega) (by omega) (dlo_upd hlo) (dhi_updN hhi (by rw [dg_shift, if_neg (by omega)]))
        · refine go_aload_n O dX4_shift_14 rfl 1 rfl 15 rfl ?_
          refine go_iload_n O dX4_shift_15 rfl 0 rfl 16 rfl ?_
          refine go_iload_n O dX4_shift_16 rfl 2 rfl 17 rfl ?_
          refine go_isub O dX4_shift_17 ((t - κ : Nat) : Int) (by omega) 18 rfl ?_
          refine go_iald O hK dX4_shift_18 0 0 rfl rfl (t - κ) rfl (by omega) (by omega) ((N / 10 ^ (t - κ) % 10 : Nat) : Int) (hlo _ (by omega)) 19 rfl ?_
          refine go_goto O dX4_shift_19 23 (by decide) ?_
          refine go_iast O hK dX4_shift_23 0 0 rfl rfl t (by omega) (by omega) (by omega) (upd g t (iI ((N / 10 ^ (t - κ) % 10 : Nat) : Int))) (fun _ _ => rfl) [(q, .inl (cI, 80, .inl (upd g t (iI ((N / 10 ^ (t - κ) % 10 : Nat) : Int)))))] rfl 24 rfl ?_
          refine go_iinc O dX4_shift_24 0 rfl (x - 1) (by omega) (by decide) [(2, .int (iI (x - 1))), (0, .ref q), (1, .int (iI ((κ : Nat) : Int)))] rfl 27 rfl ?_
          refine go_goto O dX4_shift_27 3 (by decide) ?_
          exact ih t _ _ (by omega) (by omega) (by omega) (dlo_upd hlo) (dhi_updN hhi (by rw [dg_shift, if_pos (by omega)]; rfl))
  refine go_bipush O dX4_shift_0 (by decide) 2 rfl ?_
  refine go_istore_n O dX4_shift_2 rfl (by decide) [(2, .int (iI 79)), (0, .ref q), (1, .int (iI ((κ : Nat) : Int)))] rfl 3 rfl ?_
  exact lp 81 80 _ _ (by omega) (by omega) (by omega) (fun _ _ => rfl) (fun j a b => absurd b (by omega))
set_option maxHeartbeats 4000000 in
set_option maxRecDepth 100000 in
/-- increase: the sum, into the first -/
theorem c_X4_increase (E : TEn) (hE : EnvOk E) (q r : Nat) (cI : ClassId) (N M : Nat) : Ctv vwCl E yX4_increase wsX4_increase (rmn 0 0) [.ref q, .ref r] [(q, .inl (cI, 80, .inl (dg N))), (r, .inl (cI, 80, .inl (dg M)))] [(cI, .int)] (fun _ : Unit => True) (fun _ => [(q, .inl (cI, 80, .inl (dg (N + M)))), (r, .inl (cI, 80, .inl (dg M)))]) := by
  refine enterv (by decide) (Nat.le_of_ble_eq_true rfl) ?_
  intro X O hK hin2 hret
  show TGo X [(q, .inl (cI, 80, .inl (dg N))), (r, .inl (cI, 80, .inl (dg M)))] 0 0 0 [(0, .ref q), (1, .ref r)] []
  have lp : ∀ (c : Nat) (i : Nat) (κ : Nat) (x : Int) (y : Int) (g : Nat → Int32), c + i = 81 → i ≤ 80 → x = (i : Int) → y = (κ : Int) → κ ≤ 1 → (N + M) / 10 ^ i = N / 10 ^ i + M / 10 ^ i + κ → (∀ j, j < i → g j = dg (N + M) j) → (∀ j, i ≤ j → g j = dg N j) → TGo X [(q, .inl (cI, 80, .inl g)), (r, .inl (cI, 80, .inl (dg M)))] 0 0 4 [(2, .int (iI y)), (3, .int (iI x)), (0, .ref q), (1, .ref r)] [] := by
    intro c
    induction c with
    | zero => intro i κ x y g h1 h2 hx hy hκ hc hlo hhi; omega
    | succ c ih =>
      intro i κ x y g h1 h2 hx hy hκ hc hlo hhi
      refine go_iload_n O dX4_increase_4 rfl 1 rfl 5 rfl ?_
      refine go_bipush O dX4_increase_5 (by decide) 7 rfl ?_
      refine go_icmp_ge O dX4_increase_7 41 (by decide) 10 rfl (by omega) (by omega) (fun h7 => ?_) (fun h7 => ?_)
      · refine TGo.arr 0 rfl (dg (N + M)) (fun j hj => hlo j (by omega)) (ws' := [(q, .inl (cI, 80, .inl (dg (N + M)))), (r, .inl (cI, 80, .inl (dg M)))]) rfl ?_
        exact hret _ _ () dX4_increase_41 trivial
      · refine go_aload_n O dX4_increase_10 rfl 2 rfl 11 rfl ?_
        refine go_iload_n O dX4_increase_11 rfl 1 rfl 12 rfl ?_
        refine go_iald O hK dX4_increase_12 0 0 rfl rfl i hx (by omega) (by omega) ((N / 10 ^ i % 10 : Nat) : Int) (hhi i (Nat.le_refl _)) 13 rfl ?_
        refine go_aload_n O dX4_increase_13 rfl 3 rfl 14 rfl ?_
        refine go_iload_n O dX4_increase_14 rfl 1 rfl 15 rfl ?_
        refine go_iald O hK dX4_increase_15 1 0 rfl rfl i hx (by omega) (by omega) ((M / 10 ^ i % 10 : Nat) : Int) rfl 16 rfl ?_
        refine go_iadd O dX4_increase_16 ((N / 10 ^ i % 10 + M / 10 ^ i % 10 : Nat) : Int) (Int.natCast_add _ _).symm 17 rfl ?_
        refine go_iload_n O dX4_increase_17 rfl 0 rfl 18 rfl ?_
        refine go_iadd O dX4_increase_18 ((N / 10 ^ i % 10 + M / 10 ^ i % 10 + κ : Nat) : Int) (by omega) 19 rfl ?_
        refine go_istore O dX4_increase_19 (by decide) [(4, .int (iI ((N / 10 ^ i % 10 + M / 10 ^ i % 10 + κ : Nat) : Int))), (2, .int (iI y)), (3, .int (iI x)), (0, .ref q), (1, .ref r)] rfl 21 rfl ?_
        refine go_aload_n O dX4_increase_21 rfl 3 rfl 22 rfl ?_
        refine go_iload_n O dX4_increase_22 rfl 2 rfl 23 rfl ?_
        refine go_iload O dX4_increase_23 0 rfl 25 rfl ?_
        refine go_bipush O dX4_increase_25 (by decide) 27 rfl ?_
        refine go_irem O dX4_increase_27 (by omega) (by omega) (by omega) (by omega) (((N / 10 ^ i % 10 + M / 10 ^ i % 10 + κ) % 10 : Nat) : Int) (by omega) 28 rfl ?_
        refine go_iast O hK dX4_increase_28 0 0 rfl rfl i hx (by omega) (by omega) (upd g i (iI (((N / 10 ^ i % 10 + M / 10 ^ i % 10 + κ) % 10 : Nat) : Int))) (fun _ _ => rfl) [(q, .inl (cI, 80, .inl (upd g i (iI (((N / 10 ^ i % 10 + M / 10 ^ i % 10 + κ) % 10 : Nat) : Int))))), (r, .inl (cI, 80, .inl (dg M)))] rfl 29 rfl ?_
        refine go_iload O dX4_increase_29 0 rfl 31 rfl ?_
        refine go_bipush O dX4_increase_31 (by decide) 33 rfl ?_
        refine go_idiv O dX4_increase_33 (by omega) (by omega) (by omega) (by omega) (((N / 10 ^ i % 10 + M / 10 ^ i % 10 + κ) / 10 : Nat) : Int) (by omega) 34 rfl ?_
        refine go_istore_n O dX4_increase_34 rfl (by decide) [(2, .int (iI (((N / 10 ^ i % 10 + M / 10 ^ i % 10 + κ) / 10 : Nat) : Int))), (4, .int (iI ((N / 10 ^ i % 10 + M / 10 ^ i % 10 + κ : Nat) : Int))), (3, .int (iI x)), (0, .ref q), (1, .ref r)] rfl 35 rfl ?_
        refine go_iinc O dX4_increase_35 2 rfl ((i + 1 : Nat) : Int) (by omega) (by decide) [(3, .int (iI ((i + 1 : Nat) : Int))), (2, .int (iI (((N / 10 ^ i % 10 + M / 10 ^ i % 10 + κ) / 10 : Nat) : Int))), (4, .int (iI ((N / 10 ^ i % 10 + M / 10 ^ i % 10 + κ : Nat) : Int))), (0, .ref q), (1, .ref r)] rfl 38 rfl ?_
        refine go_goto O dX4_increase_38 4 (by decide) ?_
        refine TGo.lsub (lv' := [(2, .int (iI (((N / 10 ^ i % 10 + M / 10 ^ i % 10 + κ) / 10 : Nat) : Int))), (3, .int (iI ((i + 1 : Nat) : Int))), (0, .ref q), (1, .ref r)]) [1, 0, 3, 4] rfl ?_
        exact ih (i + 1) ((N / 10 ^ i % 10 + M / 10 ^ i % 10 + κ) / 10) _ _ _ (by omega) (by omega) (by omega) (by omega) (by omega) (inc_step hc) (lo_upd hlo (by rw [dg_at, inc_dig hc])) (hi_upd hhi)
  refine go_iconst O dX4_increase_0 1 rfl ?_
  refine go_istore_n O dX4_increase_1 rfl (by decide) [(2, .int (iI 0)), (0, .ref q), (1, .ref r)] rfl 2 rfl ?_
  refine go_iconst O dX4_increase_2 3 rfl ?_
  refine go_istore_n O dX4_increase_3 rfl (by decide) [(3, .int (iI 0)), (2, .int (iI 0)), (0, .ref q), (1, .ref r)] rfl 4 rfl ?_
  refine TGo.lsub (lv' := [(2, .int (iI 0)), (3, .int (iI 0)), (0, .ref q), (1, .ref r)]) [1, 0, 2, 3] rfl ?_
  exact lp 81 0 0 _ _ _ (by omega) (by omega) (by omega) (by omega) (by omega) (by rw [tqz, tqz, tqz, Nat.add_zero]) (fun j a => absurd a (by omega)) (fun _ _ => rfl)
set_option maxHeartbeats 4000000 in
set_option maxRecDepth 100000 in
/-- decrease: the difference, into the first -/
theorem c_X4_decrease (E : TEn) (hE : EnvOk E) (q r : Nat) (cI : ClassId) (N M : Nat) (hMN : M ≤ N) : Ctv vwCl E yX4_decrease wsX4_decrease (rmn 0 0) [.ref q, .ref r] [(q, .inl (cI, 80, .inl (dg N))), (r, .inl (cI, 80, .inl (dg M)))] [(cI, .int)] (fun _ : Unit => True) (fun _ => [(q, .inl (cI, 80, .inl (dg (N - M)))), (r, .inl (cI, 80, .inl (dg M)))]) := by
  refine enterv (by decide) (Nat.le_of_ble_eq_true rfl) ?_
  intro X O hK hin2 hret
  show TGo X [(q, .inl (cI, 80, .inl (dg N))), (r, .inl (cI, 80, .inl (dg M)))] 0 0 0 [(0, .ref q), (1, .ref r)] []
  have lp : ∀ (c : Nat) (i : Nat) (κ : Nat) (x : Int) (y : Int) (g : Nat → Int32), c + i = 81 → i ≤ 80 → x = (i : Int) → y = (κ : Int) → κ ≤ 1 → (N - M) / 10 ^ i + M / 10 ^ i + κ = N / 10 ^ i → (∀ j, j < i → g j = dg (N - M) j) → (∀ j, i ≤ j → g j = dg N j) → TGo X [(q, .inl (cI, 80, .inl g)), (r, .inl (cI, 80, .inl (dg M)))] 0 0 4 [(2, .int (iI y)), (3, .int (iI x)), (0, .ref q), (1, .ref r)] [] := by
    intro c
    induction c with
    | zero => intro i κ x y g h1 h2 hx hy hκ hc hlo hhi; omega
    | succ c ih =>
      intro i κ x y g h1 h2 hx hy hκ hc hlo hhi
      refine go_iload_n O dX4_decrease_4 rfl 1 rfl 5 rfl ?_
      refine go_bipush O dX4_decrease_5 (by decide) 7 rfl ?_
      refine go_icmp_ge O dX4_decrease_7 56 (by decide) 10 rfl (by omega) (by omega) (fun h7 => ?_) (fun h7 => ?_)
      · refine TGo.arr 0 rfl (dg (N - M)) (fun j hj => hlo j (by omega)) (ws' := [(q, .inl (cI, 80, .inl (dg (N - M)))), (r, .inl (cI, 80, .inl (dg M)))]) rfl ?_
        exact hret _ _ () dX4_decrease_56 trivial
      · refine go_aload_n O dX4_decrease_10 rfl 2 rfl 11 rfl ?_
        refine go_iload_n O dX4_decrease_11 rfl 1 rfl 12 rfl ?_
        refine go_iald O hK dX4_decrease_12 0 0 rfl rfl i hx (by omega) (by omega) ((N / 10 ^ i % 10 : Nat) : Int) (hhi i (Nat.le_refl _)) 13 rfl ?_
        refine go_aload_n O dX4_decrease_13 rfl 3 rfl 14 rfl ?_
        refine go_iload_n O dX4_decrease_14 rfl 1 rfl 15 rfl ?_
        refine go_iald O hK dX4_decrease_15 1 0 rfl rfl i hx (by omega) (by omega) ((M / 10 ^ i % 10 : Nat) : Int) rfl 16 rfl ?_
        refine go_isub O dX4_decrease_16 (((N / 10 ^ i % 10 : Nat) : Int) - ((M / 10 ^ i % 10 : Nat) : Int)) rfl 17 rfl ?_
        refine go_iload_n O dX4_decrease_17 rfl 0 rfl 18 rfl ?_
        refine go_isub O dX4_decrease_18 (((N / 10 ^ i % 10 : Nat) : Int) - ((M / 10 ^ i % 10 : Nat) : Int) - (κ : Int)) (by omega) 19 rfl ?_
        refine go_istore O dX4_decrease_19 (by decide) [(4, .int (iI (((N / 10 ^ i % 10 : Nat) : Int) - ((M / 10 ^ i % 10 : Nat) : Int) - (κ : Int)))), (2, .int (iI y)), (3, .int (iI x)), (0, .ref q), (1, .ref r)] rfl 21 rfl ?_
        refine go_iload O dX4_decrease_21 0 rfl 23 rfl ?_
        refine go_if_ge O dX4_decrease_23 30 (by decide) 26 rfl (by omega) (fun h23 => ?_) (fun h23 => ?_)
        · refine go_iconst O dX4_decrease_30 31 rfl ?_
          refine go_istore_n O dX4_decrease_31 rfl (by decide) [(2, .int (iI 0)), (4, .int (iI (((N / 10 ^ i % 10 : Nat) : Int) - ((M / 10 ^ i % 10 : Nat) : Int) - (κ : Int)))), (3, .int (iI x)), (0, .ref q), (1, .ref r)] rfl 32 rfl ?_
          refine go_aload_n O dX4_decrease_32 rfl 3 rfl 33 rfl ?_
          refine go_iload_n O dX4_decrease_33 rfl 2 rfl 34 rfl ?_
          refine go_iload O dX4_decrease_34 1 rfl 36 rfl ?_
          refine go_if_ge O dX4_decrease_36 47 (by decide) 39 rfl (by omega) (fun h36 => ?_) (fun h36 => ?_)
          · refine go_iload O dX4_decrease_47 1 rfl 49 rfl ?_
            refine go_iast O hK dX4_decrease_49 0 0 rfl rfl i hx (by omega) (by omega) (upd g i (iI (((N / 10 ^ i % 10 : Nat) : Int) - ((M / 10 ^ i % 10 : Nat) : Int) - (κ : Int)))) (fun _ _ => rfl) [(q, .inl (cI, 80, .inl (upd g i (iI (((N / 10 ^ i % 10 : Nat) : Int) - ((M / 10 ^ i % 10 : Nat) : Int) - (κ : Int)))))), (r, .inl (cI, 80, .inl (dg M)))] rfl 50 rfl ?_
            refine go_iinc O dX4_decrease_50 2 rfl ((i + 1 : Nat) : Int) (by omega) (by decide) [(3, .int (iI ((i + 1 : Nat) : Int))), (2, .int (iI 0)), (4, .int (iI (((N / 10 ^ i % 10 : Nat) : Int) - ((M / 10 ^ i % 10 : Nat) : Int) - (κ : Int)))), (0, .ref q), (1, .ref r)] rfl 53 rfl ?_
            refine go_goto O dX4_decrease_53 4 (by decide) ?_
            refine TGo.lsub (lv' := [(2, .int (iI 0)), (3, .int (iI ((i + 1 : Nat) : Int))), (0, .ref q), (1, .ref r)]) [1, 0, 3, 4] rfl ?_
            exact ih (i + 1) 0 _ _ _ (by omega) (by omega) (by omega) (by omega) (by omega) (dec_step hc hκ (Or.inr ⟨rfl, by omega⟩)) (lo_upd hlo (by rw [dg_at, dec_dig hc hκ, if_neg (by omega)])) (hi_upd hhi)
          · refine go_iload O dX4_decrease_39 1 rfl 41 rfl ?_
            refine go_bipush O dX4_decrease_41 (by decide) 43 rfl ?_
            refine go_iadd O dX4_decrease_43 ((((N / 10 ^ i % 10 : Nat) : Int) - ((M / 10 ^ i % 10 : Nat) : Int) - (κ : Int)) + 10) rfl 44 rfl ?_
            refine go_goto O dX4_decrease_44 49 (by decide) ?_
            refine go_iast O hK dX4_decrease_49 0 0 rfl rfl i hx (by omega) (by omega) (upd g i (iI ((((N / 10 ^ i % 10 : Nat) : Int) - ((M / 10 ^ i % 10 : Nat) : Int) - (κ : Int)) + 10))) (fun _ _ => rfl) [(q, .inl (cI, 80, .inl (upd g i (iI ((((N / 10 ^ i % 10 : Nat) : Int) - ((M / 10 ^ i % 10 : Nat) : Int) - (κ : Int)) + 10))))), (r, .inl (cI, 80, .inl (dg M)))] rfl 50 rfl ?_
            refine go_iinc O dX4_decrease_50 2 rfl ((i + 1 : Nat) : Int) (by omega) (by decide) [(3, .int (iI ((i + 1 : Nat) : Int))), (2, .int (iI 0)), (4, .int (iI (((N / 10 ^ i % 10 : Nat) : Int) - ((M / 10 ^ i % 10 : Nat) : Int) - (κ : Int)))), (0, .ref q), (1, .ref r)] rfl 53 rfl ?_
            refine go_goto O dX4_decrease_53 4 (by decide) ?_
            omega
        · refine go_iconst O dX4_decrease_26 27 rfl ?_
          refine go_goto O dX4_decrease_27 31 (by decide) ?_
          refine go_istore_n O dX4_decrease_31 rfl (by decide) [(2, .int (iI 1)), (4, .int (iI (((N / 10 ^ i % 10 : Nat) : Int) - ((M / 10 ^ i % 10 : Nat) : Int) - (κ : Int)))), (3, .int (iI x)), (0, .ref q), (1, .ref r)] rfl 32 rfl ?_
          refine go_aload_n O dX4_decrease_32 rfl 3 rfl 33 rfl ?_
          refine go_iload_n O dX4_decrease_33 rfl 2 rfl 34 rfl ?_
          refine go_iload O dX4_decrease_34 1 rfl 36 rfl ?_
          refine go_if_ge O dX4_decrease_36 47 (by decide) 39 rfl (by omega) (fun h36 => ?_) (fun h36 => ?_)
          · refine go_iload O dX4_decrease_47 1 rfl 49 rfl ?_
            refine go_iast O hK dX4_decrease_49 0 0 rfl rfl i hx (by omega) (by omega) (upd g i (iI (((N / 10 ^ i % 10 : Nat) : Int) - ((M / 10 ^ i % 10 : Nat) : Int) - (κ : Int)))) (fun _ _ => rfl) [(q, .inl (cI, 80, .inl (upd g i (iI (((N / 10 ^ i % 10 : Nat) : Int) - ((M / 10 ^ i % 10 : Nat) : Int) - (κ : Int)))))), (r, .inl (cI, 80, .inl (dg M)))] rfl 50 rfl ?_
            refine go_iinc O dX4_decrease_50 2 rfl ((i + 1 : Nat) : Int) (by omega) (by decide) [(3, .int (iI ((i + 1 : Nat) : Int))), (2, .int (iI 1)), (4, .int (iI (((N / 10 ^ i % 10 : Nat) : Int) - ((M / 10 ^ i % 10 : Nat) : Int) - (κ : Int)))), (0, .ref q), (1, .ref r)] rfl 53 rfl ?_
            refine go_goto O dX4_decrease_53 4 (by decide) ?_
            omega
          · refine go_iload O dX4_decrease_39 1 rfl 41 rfl ?_
            refine go_bipush O dX4_decrease_41 (by decide) 43 rfl ?_
            refine go_iadd O dX4_decrease_43 ((((N / 10 ^ i % 10 : Nat) : Int) - ((M / 10 ^ i % 10 : Nat) : Int) - (κ : Int)) + 10) rfl 44 rfl ?_
            refine go_goto O dX4_decrease_44 49 (by decide) ?_
            refine go_iast O hK dX4_decrease_49 0 0 rfl rfl i hx (by omega) (by omega) (upd g i (iI ((((N / 10 ^ i % 10 : Nat) : Int) - ((M / 10 ^ i % 10 : Nat) : Int) - (κ : Int)) + 10))) (fun _ _ => rfl) [(q, .inl (cI, 80, .inl (upd g i (iI ((((N / 10 ^ i % 10 : Nat) : Int) - ((M / 10 ^ i % 10 : Nat) : Int) - (κ : Int)) + 10))))), (r, .inl (cI, 80, .inl (dg M)))] rfl 50 rfl ?_
            refine go_iinc O dX4_decrease_50 2 rfl ((i + 1 : Nat) : Int) (by omega) (by decide) [(3, .int (iI ((i + 1 : Nat) : Int))), (2, .int (iI 1)), (4, .int (iI (((N / 10 ^ i % 10 : Nat) : Int) - ((M / 10 ^ i % 10 : Nat) : Int) - (κ : Int)))), (0, .ref q), (1, .ref r)] rfl 53 rfl ?_
            refine go_goto O dX4_decrease_53 4 (by decide) ?_
            refine TGo.lsub (lv' := [(2, .int (iI 1)), (3, .int (iI ((i + 1 : Nat) : Int))), (0, .ref q), (1, .ref r)]) [1, 0, 3, 4] rfl ?_
            exact ih (i + 1) 1 _ _ _ (by omega) (by omega) (by omega) (by omega) (by omega) (dec_step hc hκ (Or.inl ⟨rfl, by omega⟩)) (lo_upd hlo (by rw [dg_at, dec_dig hc hκ, if_pos (by omega)])) (hi_upd hhi)
  refine go_iconst O dX4_decrease_0 1 rfl ?_
  refine go_istore_n O dX4_decrease_1 rfl (by decide) [(2, .int (iI 0)), (0, .ref q), (1, .ref r)] rfl 2 rfl ?_
  refine go_iconst O dX4_decrease_2 3 rfl ?_
  refine go_istore_n O dX4_decrease_3 rfl (by decide) [(3, .int (iI 0)), (2, .int (iI 0)), (0, .ref q), (1, .ref r)] rfl 4 rfl ?_
  refine TGo.lsub (lv' := [(2, .int (iI 0)), (3, .int (iI 0)), (0, .ref q), (1, .ref r)]) [1, 0, 2, 3] rfl ?_
  exact lp 81 0 0 _ _ _ (by omega) (by omega) (by omega) (by omega) (by omega) (by rw [tqz, tqz, tqz]; omega) (fun j a => absurd a (by omega)) (fun _ _ => rfl)
set_option maxHeartbeats 4000000 in
set_option maxRecDepth 100000 in
/-- load: the digits of |n| -/
theorem c_X4_load (E : TEn) (hE : EnvOk E) (q : Nat) (cI : ClassId) (f : Nat → Int32) (v : Int) (hv : r64 v) : Ctv vwCl E yX4_load wsX4_load (rmn 1 21) [.ref q, .long (lI v)] [(q, .inl (cI, 80, .inl f))] [(cI, .int)] (fun _ : Unit => True) (fun _ => [(q, .inl (cI, 80, .inl (dg v.natAbs)))]) := by
  refine enterv (by decide) (Nat.le_of_ble_eq_true rfl) ?_
  intro X O hK hin2 hret
  show TGo X [(q, .inl (cI, 80, .inl f))] 0 0 0 [(0, .ref q), (1, .long (lI v))] []
  have lp : ∀ (c : Nat) (i : Nat) (ρ : Int) (x : Int) (g : Nat → Int32), c + i = 21 → i ≤ 20 → x = (i : Int) → r64 ρ → ρ.natAbs = v.natAbs / 10 ^ i → (∀ j, j < i → g j = dg v.natAbs j) → (∀ j, i ≤ j → g j = iI 0) → TGo X [(q, .inl (cI, 80, .inl g))] 0 0 9 [(3, .long (lI ρ)), (5, .int (iI x)), (0, .ref q), (1, .long (lI v))] [] := by
    intro c
    induction c with
    | zero => intro i ρ x g h1 h2 hx hρ hn hlo hhi; omega
    | succ c ih =>
      intro i ρ x g h1 h2 hx hρ hn hlo hhi
      refine go_iload O dX4_load_9 1 rfl 11 rfl ?_
      refine go_bipush O dX4_load_11 (by decide) 13 rfl ?_
      refine go_icmp_ge O dX4_load_13 53 (by decide) 16 rfl (by omega) (by omega) (fun h13 => ?_) (fun h13 => ?_)
      · refine TGo.arr 0 rfl (dg v.natAbs) (fun j hj => if a : j < i then hlo j a else (by rw [hhi j (by omega), dg_at, q_lt' (i := 20) (by omega) (by omega)]; rfl)) (ws' := [(q, .inl (cI, 80, .inl (dg v.natAbs)))]) rfl ?_
        exact hret _ _ () dX4_load_53 trivial
      · have t10 := tm10 ρ
        refine go_lload_n O dX4_load_16 rfl 0 rfl 17 rfl ?_
        refine go_ldc2 O dX4_load_17 (10) kcX4_76 (by decide) 20 rfl ?_
        refine go_lrem O dX4_load_20 hρ (by omega) (by omega) (by omega) (ρ.tmod 10) rfl 21 rfl ?_
        refine go_l2i O dX4_load_21 22 rfl ?_
        refine go_istore O dX4_load_22 (by decide) [(6, .int (iI (ρ.tmod 10))), (3, .long (lI ρ)), (5, .int (iI x)), (0, .ref q), (1, .long (lI v))] rfl 24 rfl ?_
        refine go_aload_n O dX4_load_24 rfl 3 rfl 25 rfl ?_
        refine go_iload O dX4_load_25 2 rfl 27 rfl ?_
        refine go_iload O dX4_load_27 0 rfl 29 rfl ?_
        refine go_if_ge O dX4_load_29 38 (by decide) 32 rfl (by omega) (fun h29 => ?_) (fun h29 => ?_)
        · refine go_iload O dX4_load_38 0 rfl 40 rfl ?_
          refine go_iast O hK dX4_load_40 0 0 rfl rfl i hx (by omega) (by omega) (upd g i (iI (ρ.tmod 10))) (fun _ _ => rfl) [(q, .inl (cI, 80, .inl (upd g i (iI (ρ.tmod 10)))))] rfl 41 rfl ?_
          refine go_lload_n O dX4_load_41 rfl 1 rfl 42 rfl ?_
          refine go_ldc2 O dX4_load_42 (10) kcX4_76 (by decide) 45 rfl ?_
          refine go_ldiv O dX4_load_45 hρ (by omega) (by omega) (by omega) (ρ.tdiv 10) rfl 46 rfl ?_
          refine go_lstore_n O dX4_load_46 rfl (by decide) [(3, .long (lI (ρ.tdiv 10))), (6, .int (iI (ρ.tmod 10))), (5, .int (iI x)), (0, .ref q), (1, .long (lI v))] rfl 47 rfl ?_
          refine go_iinc O dX4_load_47 2 rfl ((i + 1 : Nat) : Int) (by omega) (by decide) [(5, .int (iI ((i + 1 : Nat) : Int))), (3, .long (lI (ρ.tdiv 10))), (6, .int (iI (ρ.tmod 10))), (0, .ref q), (1, .long (lI v))] rfl 50 rfl ?_
          refine go_goto O dX4_load_50 9 (by decide) ?_
          refine TGo.lsub (lv' := [(3, .long (lI (ρ.tdiv 10))), (5, .int (iI ((i + 1 : Nat) : Int))), (0, .ref q), (1, .long (lI v))]) [1, 0, 3, 4] rfl ?_
          exact ih (i + 1) _ _ _ (by omega) (by omega) (by omega) (by omega) (by rw [t10.2.2.2, hn, tq10]) (lo_upd hlo (by rw [dg_at, ← hn, ← t10.2.2.1]; congr 1; omega)) (hi_upd hhi)
        · refine go_iload O dX4_load_32 0 rfl 34 rfl ?_
          refine go_ineg O dX4_load_34 (-(ρ.tmod 10)) rfl 35 rfl ?_
          refine go_goto O dX4_load_35 40 (by decide) ?_
          refine go_iast O hK dX4_load_40 0 0 rfl rfl i hx (by omega) (by omega) (upd g i (iI (-(ρ.tmod 10)))) (fun _ _ => rfl) [(q, .inl (cI, 80, .inl (upd g i (iI (-(ρ.tmod 10))))))] rfl 41 rfl ?_
          refine go_lload_n O dX4_load_41 rfl 1 rfl 42 rfl ?_
          refine go_ldc2 O dX4_load_42 (10) kcX4_76 (by decide) 45 rfl ?_
          refine go_ldiv O dX4_load_45 hρ (by omega) (by omega) (by omega) (ρ.tdiv 10) rfl 46 rfl ?_
          refine go_lstore_n O dX4_load_46 rfl (by decide) [(3, .long (lI (ρ.tdiv 10))), (6, .int (iI (ρ.tmod 10))), (5, .int (iI x)), (0, .ref q), (1, .long (lI v))] rfl 47 rfl ?_
          refine go_iinc O dX4_load_47 2 rfl ((i + 1 : Nat) : Int) (by omega) (by decide) [(5, .int (iI ((i + 1 : Nat) : Int))), (3, .long (lI (ρ.tdiv 10))), (6, .int (iI (ρ.tmod 10))), (0, .ref q), (1, .long (lI v))] rfl 50 rfl ?_
          refine go_goto O dX4_load_50 9 (by decide) ?_
          refine TGo.lsub (lv' := [(3, .long (lI (ρ.tdiv 10))), (5, .int (iI ((i + 1 : Nat) : Int))), (0, .ref q), (1, .long (lI v))]) [1, 0, 3, 4] rfl ?_
          exact ih (i + 1) _ _ _ (by omega) (by omega) (by omega) (by omega) (by rw [t10.2.2.2, hn, tq10]) (lo_upd hlo (by rw [dg_at, ← hn, ← t10.2.2.1]; congr 1; omega)) (hi_upd hhi)
  refine go_aload_n O dX4_load_0 rfl 0 rfl 1 rfl ?_
  refine go_callvS (rest := []) (wr := []) O hK hE (c_X4_clear E hE q cI f) mlX4_72 smX4_clear inX4 cdX4_clear 1 (by decide +kernel) ⟨Nat.le_of_ble_eq_true rfl, Nat.le_of_ble_eq_true rfl⟩ [0] rfl [0] rfl (by decide) [] rfl (by decide) (by decide) rfl rfl (Nat.le_of_ble_eq_true rfl) ⟨Nat.zero_le _, Nat.zero_le _⟩ dX4_load_1 4 rfl (fun u hu => ?_)
  show TGo X [(q, .inl (cI, 80, .inl (dg 0)))] 0 0 4 [(0, .ref q), (1, .long (lI v))] []
  refine go_lload_n O dX4_load_4 rfl 1 rfl 5 rfl ?_
  refine go_lstore_n O dX4_load_5 rfl (by decide) [(3, .long (lI v)), (0, .ref q), (1, .long (lI v))] rfl 6 rfl ?_
  refine go_iconst O dX4_load_6 7 rfl ?_
  refine go_istore O dX4_load_7 (by decide) [(5, .int (iI 0)), (3, .long (lI v)), (0, .ref q), (1, .long (lI v))] rfl 9 rfl ?_
  refine TGo.lsub (lv' := [(3, .long (lI v)), (5, .int (iI 0)), (0, .ref q), (1, .long (lI v))]) [1, 0, 2, 3] rfl ?_
  exact lp 21 0 v _ _ (by omega) (by omega) (by omega) hv (by rw [tqz]) (fun j a => absurd a (by omega)) (fun j _ => dg_zero j)
