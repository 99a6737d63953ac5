theorem naSys : Cond.native arraycopyName ∈ Gw := gw_of 252 (by decide +kernel) rfl
theorem smSys : Cond.static arraycopyName ∈ Gw := gw_of 251 (by decide +kernel) rfl
theorem tv_0z : ∀ (d i : Nat), tv (fun _ => 0) i d = 0 := by
  intro d
  induction d with
  | zero => intro i; rfl
  | succ d ih => intro i; rw [tv_s, ih (i + 1)]; omega
theorem tcar_dig {V κ t s : Int} (h : V = κ + (s + 10 * t)) : V % 10 = (s + κ) % 10 := by omega
theorem tcar_step {V κ t s : Int} (h : V = κ + (s + 10 * t)) : V / 10 = (s + κ) / 10 + t := by omega
theorem dg_int (V i : Nat) : ((V / 10 ^ i % 10 : Nat) : Int) = ((V / 10 ^ i : Nat) : Int) % 10 := by omega
theorem spell_lo {g : Nat → Int32} {N p i : Nat} {z : Int} (h : ∀ j, j < i → g (p + j) = dg N j) (hz : iI z = dg N i) : ∀ j, j < i + 1 → upd g (p + i) (iI z) (p + j) = dg N j := by
  intro j hj
  by_cases e : j = i
  · subst e; rw [upd_s]; exact hz
  · rw [upd_n (by omega)]; exact h j (by omega)
theorem spell_ot {g f : Nat → Int32} {p i e : Nat} {z : Int} (hi : i < e) (h : ∀ j, ¬ (p ≤ j ∧ j < p + e) → g j = f j) : ∀ j, ¬ (p ≤ j ∧ j < p + e) → upd g (p + i) (iI z) j = f j := by
  intro j hj
  rw [upd_n (by omega)]; exact h j hj
theorem dg_place {u : Nat → Int32} {N p e : Nat} (hN : N < 10 ^ e) (h1 : ∀ j, j < e → u (p + j) = dg N j) (h2 : ∀ j, ¬ (p ≤ j ∧ j < p + e) → u j = iI 0) : ∀ j, u j = dg (N * 10 ^ p) j := by
  intro j
  rw [dg_shift]
  by_cases a : p ≤ j
  · rw [if_pos a]
    by_cases b : j < p + e
    · have := h1 (j - p) (by omega)
      rw [show p + (j - p) = j by omega] at this
      exact this
    · rw [h2 j (by omega), dg_at, q_lt' hN (by omega)]; rfl
  · rw [if_neg a, h2 j (by omega)]
theorem cpy_place {V p n : Nat} (hV : V < 10 ^ n) : ∀ j, va_cpy (dg V) (dg 0) 0 p n j = dg (V * 10 ^ p) j := by
  intro j
  unfold va_cpy
  rw [dg_shift]
  by_cases a : p ≤ j ∧ j < p + n
  · rw [if_pos a, if_pos a.1, Nat.zero_add]
  · rw [if_neg a, dg_zero]
    by_cases b : p ≤ j
    · rw [if_pos b, dg_at, q_lt' hV (by omega)]; rfl
    · rw [if_neg b]
theorem tv_dg72 {W : Nat} (h : W < 10 ^ 72) : tv (fun j => ((W / 10 ^ j % 10 : Nat) : Int)) 0 72 = (W : Int) := by
  rw [tv_dg, tqz, Nat.mod_eq_of_lt h]
/-- adding a run of n ints, x 0 .. x (n-1), from place p on -/
theorem tv_run (z x : Nat → Int) (p d : Nat) : ∀ n, p + n ≤ d → tv (fun j => if p ≤ j ∧ j < p + n then z j + x (j - p) else z j) 0 d = tv z 0 d + tv x 0 n * (10 ^ p : Nat) := by
  intro n
  induction n with
  | zero =>
    intro _
    rw [tv_0, Int.zero_mul, Int.add_zero]
    exact tv_congr d 0 (fun j _ _ => if_neg (by omega))
  | succ n ih =>
    intro h
    have h1 : tv (fun j => if p ≤ j ∧ j < p + (n + 1) then z j + x (j - p) else z j) 0 d = tv (fun j => if j = p + n then z (p + n) + x n else (fun j => if p ≤ j ∧ j < p + n then z j + x (j - p) else z j) j) 0 d := by
      refine tv_congr d 0 (fun j _ _ => ?_)
      by_cases e : j = p + n
      · subst e
        rw [if_pos (by omega), if_pos rfl, show p + n - p = n by omega]
      · rw [if_neg e]
        dsimp only
        by_cases e2 : p ≤ j ∧ j < p + n
        · rw [if_pos (by omega), if_pos e2]
        · rw [if_neg (by omega), if_neg e2]
    rw [h1, tv_upd _ (p + n) _ d 0 (by omega) (by omega)]
    rw [ih (by omega), if_neg (by omega)]
    have h2 : ∀ (n i : Nat), tv x i (n + 1) = tv x i n + x (i + n) * (10 ^ n : Nat) := by
      intro n
      induction n with
      | zero => intro i; rw [tv_s, tv_0, tv_0, Nat.pow_zero]; simp
      | succ n ih2 =>
        intro i
        rw [tv_s, ih2 (i + 1), tv_s x i n, p10s, Int.natCast_mul, Int.mul_add, show i + 1 + n = i + (n + 1) by omega, Int.mul_left_comm (10 : Int), Int.add_assoc]
        rfl
    rw [h2 n 0, Nat.zero_add, Int.add_mul, Nat.sub_zero, show z (p + n) + x n - z (p + n) = x n by omega, Nat.add_comm p n, p10add, Int.natCast_mul, Int.add_assoc, Int.mul_assoc]
theorem tmod10s (X k : Nat) : X % 10 ^ (k + 1) = 10 * (X / 10 % 10 ^ k) + X % 10 := by
  rw [p10s, Nat.mod_mul, Nat.add_comm]
set_option maxHeartbeats 4000000 in
set_option maxRecDepth 100000 in
/-- isZero: digits from a to b -/
theorem c_X3_isZero (E : TEn) (hE : EnvOk E) (q : Nat) (cI : ClassId) (n W a b : Nat) (hn : n < 2147483648) (hab : a ≤ b) (hb : b ≤ n) : Cti vwCl E yX3_isZero wsX3_isZero (rmn 0 0) [.ref q, .int (iI ((a : Nat) : Int)), .int (iI ((b : Nat) : Int))] [(q, .inl (cI, n, .inl (dg W)))] [(cI, .int)] (fun (z : Int) (_ : Unit) => (z = 1 ∧ ∀ j, a ≤ j → j < b → W / 10 ^ j % 10 = 0) ∨ (z = 0 ∧ ∃ j, a ≤ j ∧ j < b ∧ W / 10 ^ j % 10 ≠ 0)) (fun _ => [(q, .inl (cI, n, .inl (dg W)))]) := by
  refine enteri (by decide) (Nat.le_of_ble_eq_true rfl) ?_
  intro X O hK hin2 hret
  show TGo X [(q, .inl (cI, n, .inl (dg W)))] 0 0 0 [(0, .ref q), (1, .int (iI ((a : Nat) : Int))), (2, .int (iI ((b : Nat) : Int)))] []
  have lp : ∀ (c : Nat) (i : Nat) (x : Int), c + i = b + 1 → i ≤ b → a ≤ i → x = (i : Int) → (∀ j, a ≤ j → j < i → W / 10 ^ j % 10 = 0) → TGo X [(q, .inl (cI, n, .inl (dg W)))] 0 0 2 [(3, .int (iI x)), (0, .ref q), (1, .int (iI ((a : Nat) : Int))), (2, .int (iI ((b : Nat) : Int)))] [] := by
    intro c
    induction c with
    | zero => intro i x h1 h2 hai hx hz; omega
    | succ c ih =>
      intro i x h1 h2 hai hx hz
      refine go_iload_n O dX3_isZero_2 rfl 0 rfl 3 rfl ?_
      refine go_iload_n O dX3_isZero_3 rfl 3 rfl 4 rfl ?_
      refine go_icmp_ge O dX3_isZero_4 21 (by decide) 7 rfl (by omega) (by omega) (fun h4 => ?_) (fun h4 => ?_)
      · refine go_iconst O dX3_isZero_21 22 rfl ?_
        exact hret _ _ _ () dX3_isZero_22 rfl (Or.inl ⟨rfl, fun j e1 e2 => hz j e1 (by omega)⟩)
      · refine go_aload_n O dX3_isZero_7 rfl 1 rfl 8 rfl ?_
        refine go_iload_n O dX3_isZero_8 rfl 0 rfl 9 rfl ?_
        refine go_iald O hK dX3_isZero_9 0 0 rfl rfl i hx (by omega) (by omega) ((W / 10 ^ i % 10 : Nat) : Int) rfl 10 rfl ?_
        refine go_if_eq O dX3_isZero_10 15 (by decide) 13 rfl (by omega) (fun h10 => ?_) (fun h10 => ?_)
        · refine go_iinc O dX3_isZero_15 0 rfl ((i + 1 : Nat) : Int) (by omega) (by decide) [(3, .int (iI ((i + 1 : Nat) : Int))), (0, .ref q), (1, .int (iI ((a : Nat) : Int))), (2, .int (iI ((b : Nat) : Int)))] rfl 18 rfl ?_
          refine go_goto O dX3_isZero_18 2 (by decide) ?_
          refine TGo.lsub (lv' := [(3, .int (iI ((i + 1 : Nat) : Int))), (0, .ref q), (1, .int (iI ((a : Nat) : Int))), (2, .int (iI ((b : Nat) : Int)))]) [0, 1, 2, 3] rfl ?_
          exact ih (i + 1) _ (by omega) (by omega) (by omega) (by omega) (fun j e1 e2 => if e : j < i then hz j e1 e else (by have e3 : j = i := (by omega); rw [e3]; omega))
        · refine go_iconst O dX3_isZero_13 14 rfl ?_
          exact hret _ _ _ () dX3_isZero_14 rfl (Or.inr ⟨rfl, i, hai, by omega, by omega⟩)
  refine go_iload_n O dX3_isZero_0 rfl 1 rfl 1 rfl ?_
  refine go_istore_n O dX3_isZero_1 rfl (by decide) [(3, .int (iI ((a : Nat) : Int))), (0, .ref q), (1, .int (iI ((a : Nat) : Int))), (2, .int (iI ((b : Nat) : Int)))] rfl 2 rfl ?_
  refine TGo.lsub (lv' := [(3, .int (iI ((a : Nat) : Int))), (0, .ref q), (1, .int (iI ((a : Nat) : Int))), (2, .int (iI ((b : Nat) : Int)))]) [0, 1, 2, 3] rfl ?_
  exact lp (b + 1 - a) a _ (by omega) hab (Nat.le_refl _) rfl (fun j e1 e2 => absurd e2 (by omega))
set_option maxHeartbeats 4000000 in
set_option maxRecDepth 100000 in
/-- asLong: the number of some digits -/
theorem c_X3_asLong (E : TEn) (hE : EnvOk E) (q : Nat) (cI : ClassId) (n W a ct : Nat) (hn : n < 2147483648) (hb : a + ct ≤ n) : Ctl vwCl E yX3_asLong wsX3_asLong (rmn 0 0) [.ref q, .int (iI ((a : Nat) : Int)), .int (iI ((ct : Nat) : Int))] [(q, .inl (cI, n, .inl (dg W)))] [(cI, .int)] (fun (z : Int) (_ : Unit) => z = ((W / 10 ^ a % 10 ^ ct : Nat) : Int)) (fun _ => [(q, .inl (cI, n, .inl (dg W)))]) := by
  refine enterl (by decide) (Nat.le_of_ble_eq_true rfl) ?_
  intro X O hK hin2 hret
  show TGo X [(q, .inl (cI, n, .inl (dg W)))] 0 0 0 [(0, .ref q), (1, .int (iI ((a : Nat) : Int))), (2, .int (iI ((ct : Nat) : Int)))] []
  have lp : ∀ (c : Nat) (i : Nat) (x : Int) (v : Nat), c = i + 1 → i ≤ ct → x = (a : Int) + (i : Int) - 1 → v = W / 10 ^ (a + i) % 10 ^ (ct - i) → TGo X [(q, .inl (cI, n, .inl (dg W)))] 0 0 9 [(3, .long (lI ((v : Nat) : Int))), (5, .int (iI x)), (0, .ref q), (1, .int (iI ((a : Nat) : Int))), (2, .int (iI ((ct : Nat) : Int)))] [] := by
    intro c
    induction c with
    | zero => intro i x v h1 h2 hx hv; omega
    | succ c ih =>
      intro i x v h1 h2 hx hv
      refine go_iload O dX3_asLong_9 1 rfl 11 rfl ?_
      refine go_iload_n O dX3_asLong_11 rfl 3 rfl 12 rfl ?_
      refine go_icmp_lt O dX3_asLong_12 33 (by decide) 15 rfl (by omega) (by omega) (fun h12 => ?_) (fun h12 => ?_)
      · refine go_lload_n O dX3_asLong_33 rfl 0 rfl 34 rfl ?_
        exact hret _ _ _ () dX3_asLong_34 (by have e : i = 0 := (by omega); subst e; rw [hv, Nat.sub_zero, Nat.add_zero])
      · refine go_lload_n O dX3_asLong_15 rfl 0 rfl 16 rfl ?_
        refine go_ldc2 O dX3_asLong_16 (10) kcX3_232 (by decide) 19 rfl ?_
        refine go_lmul O dX3_asLong_19 ((v * 10 : Nat) : Int) (by omega) 20 rfl ?_
        obtain ⟨k, rfl⟩ : ∃ k, i = k + 1 := ⟨i - 1, by omega⟩
        refine go_aload_n O dX3_asLong_20 rfl 2 rfl 21 rfl ?_
        refine go_iload O dX3_asLong_21 1 rfl 23 rfl ?_
        refine go_iald O hK dX3_asLong_23 0 0 rfl rfl (a + k) (by omega) (by omega) (by omega) ((W / 10 ^ (a + k) % 10 : Nat) : Int) rfl 24 rfl ?_
        refine go_i2l O dX3_asLong_24 (r32_dg _ _) 25 rfl ?_
        refine go_ladd O dX3_asLong_25 ((v * 10 + W / 10 ^ (a + k) % 10 : Nat) : Int) (Int.natCast_add _ _).symm 26 rfl ?_
        refine go_lstore_n O dX3_asLong_26 rfl (by decide) [(3, .long (lI ((v * 10 + W / 10 ^ (a + k) % 10 : Nat) : Int))), (5, .int (iI x)), (0, .ref q), (1, .int (iI ((a : Nat) : Int))), (2, .int (iI ((ct : Nat) : Int)))] rfl 27 rfl ?_
        refine go_iinc O dX3_asLong_27 1 rfl (x - 1) (by omega) (by decide) [(5, .int (iI (x - 1))), (3, .long (lI ((v * 10 + W / 10 ^ (a + k) % 10 : Nat) : Int))), (0, .ref q), (1, .int (iI ((a : Nat) : Int))), (2, .int (iI ((ct : Nat) : Int)))] rfl 30 rfl ?_
        refine go_goto O dX3_asLong_30 9 (by decide) ?_
        refine TGo.lsub (lv' := [(3, .long (lI ((v * 10 + W / 10 ^ (a + k) % 10 : Nat) : Int))), (5, .int (iI (x - 1))), (0, .ref q), (1, .int (iI ((a : Nat) : Int))), (2, .int (iI ((ct : Nat) : Int)))]) [1, 0, 2, 3, 4] rfl ?_
        exact ih k _ _ (by omega) (by omega) (by omega) (by rw [show ct - k = (ct - (k + 1)) + 1 by omega, tmod10s, ← tq10, hv]; show _ = 10 * (W / 10 ^ (a + (k + 1)) % 10 ^ (ct - (k + 1))) + _; omega)
  refine go_lconst O dX3_asLong_0 0 rfl 1 rfl ?_
  refine go_lstore_n O dX3_asLong_1 rfl (by decide) [(3, .long (lI 0)), (0, .ref q), (1, .int (iI ((a : Nat) : Int))), (2, .int (iI ((ct : Nat) : Int)))] rfl 2 rfl ?_
  refine go_iload_n O dX3_asLong_2 rfl 2 rfl 3 rfl ?_
  refine go_iload_n O dX3_asLong_3 rfl 3 rfl 4 rfl ?_
  refine go_iadd O dX3_asLong_4 ((a : Int) + (ct : Int)) rfl 5 rfl ?_
  refine go_iconst O dX3_asLong_5 6 rfl ?_
  refine go_isub O dX3_asLong_6 ((a : Int) + (ct : Int) - 1) rfl 7 rfl ?_
  refine go_istore O dX3_asLong_7 (by decide) [(5, .int (iI ((a : Int) + (ct : Int) - 1))), (3, .long (lI 0)), (0, .ref q), (1, .int (iI ((a : Nat) : Int))), (2, .int (iI ((ct : Nat) : Int)))] rfl 9 rfl ?_
  refine TGo.lsub (lv' := [(3, .long (lI 0)), (5, .int (iI ((a : Int) + (ct : Int) - 1))), (0, .ref q), (1, .int (iI ((a : Nat) : Int))), (2, .int (iI ((ct : Nat) : Int)))]) [1, 0, 2, 3, 4] rfl ?_
  exact lp (ct + 1) ct _ 0 rfl (Nat.le_refl _) rfl (by rw [Nat.sub_self, Nat.pow_zero, Nat.mod_one])
set_option maxHeartbeats 4000000 in
set_option maxRecDepth 100000 in
/-- Work.clear -/
theorem c_X2_clear (E : TEn) (hE : EnvOk E) (hw qrow qfac : Nat) (cI : ClassId) (ng go : Bool) (f : Nat → Int32) : Ctv vwCl E yX2_clear wsX2_clear (rmn 1 23) [.ref hw] [(hw, .inr (2, [.ref qrow, .ref qfac, .int (iI (bz ng)), .int (iI (bz go))])), (qrow, .inl (cI, 72, .inl f))] [(cI, .int)] (fun _ : Unit => True) (fun _ => [(hw, .inr (2, [.ref qrow, .ref qfac, .int (iI 0), .int (iI 0)])), (qrow, .inl (cI, 72, .inl (dg 0)))]) := by
  refine enterv (by decide) (Nat.le_of_ble_eq_true rfl) ?_
  intro X O hK hin2 hret
  show TGo X [(hw, .inr (2, [.ref qrow, .ref qfac, .int (iI (bz ng)), .int (iI (bz go))])), (qrow, .inl (cI, 72, .inl f))] 0 0 0 [(0, .ref hw)] []
  refine go_aload_n O dX2_clear_0 rfl 0 rfl 1 rfl ?_
  refine go_get O hK dX2_clear_1 hinX2 0 rfl rfl 0 (by decide) flX2_9 rfl 4 rfl ?_
  refine go_iconst O dX2_clear_4 5 rfl ?_
  refine go_callvS (rest := []) (wr := [(hw, .inr (2, [.ref qrow, .ref qfac, .int (iI (bz ng)), .int (iI (bz go))]))]) O hK hE (c_J7_fill E hE qrow cI f 0 (by omega)) mlX2_18 smJ7_fill inJ7 cdJ7_fill 2 (by decide +kernel) ⟨Nat.le_of_ble_eq_true rfl, Nat.le_of_ble_eq_true rfl⟩ [0] rfl [1] rfl (by decide) [0] rfl (by decide) (by decide) rfl rfl (Nat.le_of_ble_eq_true rfl) ⟨Nat.zero_le _, Nat.zero_le _⟩ dX2_clear_5 8 rfl (fun u hu => ?_)
  show TGo X [(hw, .inr (2, [.ref qrow, .ref qfac, .int (iI (bz ng)), .int (iI (bz go))])), (qrow, .inl (cI, 72, .inl (fun _ => iI 0)))] 0 0 8 [(0, .ref hw)] []
  refine go_aload_n O dX2_clear_8 rfl 0 rfl 9 rfl ?_
  refine go_iconst O dX2_clear_9 10 rfl ?_
  refine go_put O hK dX2_clear_10 hinX2 tyX2 tyX2_ok nmX2 0 rfl rfl 2 (by decide) flX2_24 rfl rfl rfl rfl (Nat.le_of_ble_eq_true rfl) [(hw, .inr (2, [.ref qrow, .ref qfac, .int (iI 0), .int (iI (bz go))])), (qrow, .inl (cI, 72, .inl (fun _ => iI 0)))] rfl 13 rfl ?_
  refine go_aload_n O dX2_clear_13 rfl 0 rfl 14 rfl ?_
  refine go_iconst O dX2_clear_14 15 rfl ?_
  refine go_put O hK dX2_clear_15 hinX2 tyX2 tyX2_ok nmX2 0 rfl rfl 3 (by decide) flX2_28 rfl rfl rfl rfl (Nat.le_of_ble_eq_true rfl) [(hw, .inr (2, [.ref qrow, .ref qfac, .int (iI 0), .int (iI 0)])), (qrow, .inl (cI, 72, .inl (fun _ => iI 0)))] rfl 18 rfl ?_
  refine TGo.arr 1 rfl (dg 0) (fun j _ => (dg_zero j).symm) (ws' := [(hw, .inr (2, [.ref qrow, .ref qfac, .int (iI 0), .int (iI 0)])), (qrow, .inl (cI, 72, .inl (dg 0)))]) rfl ?_
  exact hret _ _ () dX2_clear_18 trivial
set_option maxHeartbeats 4000000 in
set_option maxRecDepth 100000 in
/-- Work.load: a row, shifted -/
theorem c_X2_load (E : TEn) (hE : EnvOk E) (hw qrow qfac : Nat) (cI : ClassId) (ng go : Bool) (q n V pl : Nat) (f : Nat → Int32) (asn : Bool) (hn : n ≤ 72) (hV : V < 10 ^ n) (hpl : pl + n ≤ 72) : Ctv vwCl E yX2_load wsX2_load (rmn 2 43) [.ref hw, .ref q, .int (iI ((pl : Nat) : Int)), .int (iI (bz asn))] [(hw, .inr (2, [.ref qrow, .ref qfac, .int (iI (bz ng)), .int (iI (bz go))])), (qrow, .inl (cI, 72, .inl f)), (q, .inl (cI, n, .inl (dg V)))] [(cI, .int)] (fun _ : Unit => True) (fun _ => [(hw, .inr (2, [.ref qrow, .ref qfac, .int (iI (bz asn)), .int (iI 0)])), (qrow, .inl (cI, 72, .inl (dg (V * 10 ^ pl)))), (q, .inl (cI, n, .inl (dg V)))]) := by
  refine enterv (by decide) (Nat.le_of_ble_eq_true rfl) ?_
  intro X O hK hin2 hret
  show TGo X [(hw, .inr (2, [.ref qrow, .ref qfac, .int (iI (bz ng)), .int (iI (bz go))])), (qrow, .inl (cI, 72, .inl f)), (q, .inl (cI, n, .inl (dg V)))] 0 0 0 [(0, .ref hw), (1, .ref q), (2, .int (iI ((pl : Nat) : Int))), (3, .int (iI (bz asn)))] []
  refine go_aload_n O dX2_load_0 rfl 0 rfl 1 rfl ?_
  refine go_callvV (As := []) (rest := []) (wr := [(q, .inl (cI, n, .inl (dg V)))]) O hK hE (c_X2_clear E hE hw qrow qfac cI ng go f) mlX2_31 imX2_clear seX2_clear inX2 cdX2_clear 0 (by decide +kernel) ⟨Nat.le_of_ble_eq_true rfl, Nat.le_of_ble_eq_true rfl⟩ 0 rfl rfl [0] rfl [0, 1] rfl (by decide) [2] rfl (by decide) (by decide) rfl rfl (Nat.le_of_ble_eq_true rfl) ⟨Nat.zero_le _, Nat.zero_le _⟩ dX2_load_1 4 rfl (fun u hu => ?_)
  show TGo X [(q, .inl (cI, n, .inl (dg V))), (hw, .inr (2, [.ref qrow, .ref qfac, .int (iI 0), .int (iI 0)])), (qrow, .inl (cI, 72, .inl (dg 0)))] 0 0 4 [(0, .ref hw), (1, .ref q), (2, .int (iI ((pl : Nat) : Int))), (3, .int (iI (bz asn)))] []
  refine TGo.sub (ws' := [(hw, .inr (2, [.ref qrow, .ref qfac, .int (iI 0), .int (iI 0)])), (qrow, .inl (cI, 72, .inl (dg 0))), (q, .inl (cI, n, .inl (dg V)))]) [1, 2, 0] (by decide) rfl ?_
  refine go_aload_n O dX2_load_4 rfl 1 rfl 5 rfl ?_
  refine go_iconst O dX2_load_5 6 rfl ?_
  refine go_aload_n O dX2_load_6 rfl 0 rfl 7 rfl ?_
  refine go_get O hK dX2_load_7 hinX2 0 rfl rfl 0 (by decide) flX2_9 rfl 10 rfl ?_
  refine go_iload_n O dX2_load_10 rfl 2 rfl 11 rfl ?_
  refine go_aload_n O dX2_load_11 rfl 1 rfl 12 rfl ?_
  refine go_alen O hK dX2_load_12 2 0 rfl rfl ((n : Nat) : Int) (iI_nat _).symm 13 rfl ?_
  refine go_copyi O hK dX2_load_13 mlX2_34 naSys smSys inJ10 2 1 0 0 rfl rfl rfl rfl 0 pl n rfl rfl rfl (by omega) (by omega) (by omega) (by omega) (dg (V * 10 ^ pl)) (fun j _ => cpy_place hV j) [(hw, .inr (2, [.ref qrow, .ref qfac, .int (iI 0), .int (iI 0)])), (qrow, .inl (cI, 72, .inl (dg (V * 10 ^ pl)))), (q, .inl (cI, n, .inl (dg V)))] rfl (Nat.le_of_ble_eq_true rfl) (Nat.le_of_ble_eq_true rfl) 16 rfl ?_
  refine go_aload_n O dX2_load_16 rfl 0 rfl 17 rfl ?_
  refine go_iload_n O dX2_load_17 rfl 3 rfl 18 rfl ?_
  refine go_put O hK dX2_load_18 hinX2 tyX2 tyX2_ok nmX2 0 rfl rfl 2 (by decide) flX2_24 rfl rfl (nar_b (bz_01 _)) (fit_b (bz_01 _)) (Nat.le_of_ble_eq_true rfl) [(hw, .inr (2, [.ref qrow, .ref qfac, .int (iI (bz asn)), .int (iI 0)])), (qrow, .inl (cI, 72, .inl (dg (V * 10 ^ pl)))), (q, .inl (cI, n, .inl (dg V)))] rfl 21 rfl ?_
  exact hret _ _ () dX2_load_21 trivial
set_option maxHeartbeats 4000000 in
set_option maxRecDepth 100000 in
/-- Work.spell: the digits of |n| from a place on -/
theorem c_X2_spell (E : TEn) (hE : EnvOk E) (q : Nat) (cI : ClassId) (n pl : Nat) (f : Nat → Int32) (v : Int) (hv : r64 v) (hn : n < 2147483648) (hpl : pl + 19 ≤ n) : Ctv vwCl E yX2_spell wsX2_spell (rmn 1 21) [.long (lI v), .ref q, .int (iI ((pl : Nat) : Int))] [(q, .inl (cI, n, .inl f))] [(cI, .int)] (fun u : Nat → Int32 => (∀ j, j < 19 → u (pl + j) = dg v.natAbs j) ∧ ∀ j, ¬ (pl ≤ j ∧ j < pl + 19) → u j = f j) (fun u => [(q, .inl (cI, n, .inl u))]) := by
  refine enterv (by decide) (Nat.le_of_ble_eq_true rfl) ?_
  intro X O hK hin2 hret
  show TGo X [(q, .inl (cI, n, .inl f))] 0 0 0 [(0, .long (lI v)), (2, .ref q), (3, .int (iI ((pl : Nat) : Int)))] []
  have lp : ∀ (c : Nat) (i : Nat) (ρ : Int) (x : Int) (g : Nat → Int32), c + i = 20 → i ≤ 19 → x = (i : Int) → r64 ρ → ρ.natAbs = v.natAbs / 10 ^ i → (∀ j, j < i → g (pl + j) = dg v.natAbs j) → (∀ j, ¬ (pl ≤ j ∧ j < pl + 19) → g j = f j) → TGo X [(q, .inl (cI, n, .inl g))] 0 0 6 [(4, .long (lI ρ)), (6, .int (iI x)), (0, .long (lI v)), (2, .ref q), (3, .int (iI ((pl : Nat) : Int)))] [] := by
    intro c
    induction c with
    | zero => intro i ρ x g h1 h2 hx hρ hnn hlo hot; omega
    | succ c ih =>
      intro i ρ x g h1 h2 hx hρ hnn hlo hot
      refine go_iload O dX2_spell_6 1 rfl 8 rfl ?_
      refine go_bipush O dX2_spell_8 (by decide) 10 rfl ?_
      refine go_icmp_ge O dX2_spell_10 43 (by decide) 13 rfl (by omega) (by omega) (fun h10 => ?_) (fun h10 => ?_)
      · exact hret _ _ g dX2_spell_43 ⟨fun j e => hlo j (by omega), hot⟩
      · have t10 := tm10 ρ
        refine go_aload_n O dX2_spell_13 rfl 3 rfl 14 rfl ?_
        refine go_iload_n O dX2_spell_14 rfl 4 rfl 15 rfl ?_
        refine go_iload O dX2_spell_15 1 rfl 17 rfl ?_
        refine go_iadd O dX2_spell_17 ((pl + i : Nat) : Int) (by omega) 18 rfl ?_
        refine go_lload O dX2_spell_18 0 rfl 20 rfl ?_
        refine go_ldc2 O dX2_spell_20 (10) kcX2_44 (by decide) 23 rfl ?_
        refine go_lrem O dX2_spell_23 hρ (by omega) (by omega) (by omega) (ρ.tmod 10) rfl 24 rfl ?_
        refine go_calllS (rest := [.int (iI ((pl + i : Nat) : Int)), .ref q]) (wr := [(q, .inl (cI, n, .inl g))]) O hK hE (c_J9_abs E hE (ρ.tmod 10) (by omega)) mlX2_46 smJ9_abs inJ9 cdJ9_abs 1 (by decide +kernel) ⟨Nat.le_of_ble_eq_true rfl, Nat.le_of_ble_eq_true rfl⟩ [] rfl [] rfl (by decide) [0] rfl (by decide) (by decide) rfl rfl (Nat.le_of_ble_eq_true rfl) ⟨Nat.zero_le _, Nat.zero_le _⟩ dX2_spell_24 27 rfl (fun z u hu => ?_)
        rw [t10.2.2.1] at hu
        subst hu
        show TGo X [(q, .inl (cI, n, .inl g))] 0 0 27 [(4, .long (lI ρ)), (6, .int (iI x)), (0, .long (lI v)), (2, .ref q), (3, .int (iI ((pl : Nat) : Int)))] [.long (lI ((ρ.natAbs % 10 : Nat) : Int)), .int (iI ((pl + i : Nat) : Int)), .ref q]
        refine go_l2i O dX2_spell_27 28 rfl ?_
        refine go_iast O hK dX2_spell_28 0 0 rfl rfl (pl + i) rfl (by omega) (by omega) (upd g (pl + i) (iI ((ρ.natAbs % 10 : Nat) : Int))) (fun _ _ => rfl) [(q, .inl (cI, n, .inl (upd g (pl + i) (iI ((ρ.natAbs % 10 : Nat) : Int)))))] rfl 29 rfl ?_
        refine go_lload O dX2_spell_29 0 rfl 31 rfl ?_
        refine go_ldc2 O dX2_spell_31 (10) kcX2_44 (by decide) 34 rfl ?_
        refine go_ldiv O dX2_spell_34 hρ (by omega) (by omega) (by omega) (ρ.tdiv 10) rfl 35 rfl ?_
        refine go_lstore O dX2_spell_35 (by decide) [(4, .long (lI (ρ.tdiv 10))), (6, .int (iI x)), (0, .long (lI v)), (2, .ref q), (3, .int (iI ((pl : Nat) : Int)))] rfl 37 rfl ?_
        refine go_iinc O dX2_spell_37 1 rfl ((i + 1 : Nat) : Int) (by omega) (by decide) [(6, .int (iI ((i + 1 : Nat) : Int))), (4, .long (lI (ρ.tdiv 10))), (0, .long (lI v)), (2, .ref q), (3, .int (iI ((pl : Nat) : Int)))] rfl 40 rfl ?_
        refine go_goto O dX2_spell_40 6 (by decide) ?_
        refine TGo.lsub (lv' := [(4, .long (lI (ρ.tdiv 10))), (6, .int (iI ((i + 1 : Nat) : Int))), (0, .long (lI v)), (2, .ref q), (3, .int (iI ((pl : Nat) : Int)))]) [1, 0, 2, 3, 4] rfl ?_
        exact ih (i + 1) _ _ _ (by omega) (by omega) (by omega) (by omega) (by rw [t10.2.2.2, hnn, tq10]) (spell_lo hlo (by rw [dg_at, ← hnn])) (spell_ot (by omega) hot)
  refine go_lload_n O dX2_spell_0 rfl 0 rfl 1 rfl ?_
  refine go_lstore O dX2_spell_1 (by decide) [(4, .long (lI v)), (0, .long (lI v)), (2, .ref q), (3, .int (iI ((pl : Nat) : Int)))] rfl 3 rfl ?_
  refine go_iconst O dX2_spell_3 4 rfl ?_
  refine go_istore O dX2_spell_4 (by decide) [(6, .int (iI 0)), (4, .long (lI v)), (0, .long (lI v)), (2, .ref q), (3, .int (iI ((pl : Nat) : Int)))] rfl 6 rfl ?_
  refine TGo.lsub (lv' := [(4, .long (lI v)), (6, .int (iI 0)), (0, .long (lI v)), (2, .ref q), (3, .int (iI ((pl : Nat) : Int)))]) [1, 0, 2, 3, 4] rfl ?_
  exact lp 20 0 v _ f (by omega) (by omega) (by omega) hv (by rw [tqz]) (fun j a => absurd a (by omega)) (fun _ _ => rfl)
set_option maxHeartbeats 4000000 in
set_option maxRecDepth 100000 in
/-- Work.loadNumber -/
theorem c_X2_loadNumber (E : TEn) (hE : EnvOk E) (hw qrow qfac : Nat) (cI : ClassId) (ng go : Bool) (pl : Nat) (f : Nat → Int32) (v : Int) (hv : r64 v) (hpl : pl + 19 ≤ 72) : Ctv vwCl E yX2_loadNumber wsX2_loadNumber (rmn 2 47) [.ref hw, .long (lI v), .int (iI ((pl : Nat) : Int))] [(hw, .inr (2, [.ref qrow, .ref qfac, .int (iI (bz ng)), .int (iI (bz go))])), (qrow, .inl (cI, 72, .inl f))] [(cI, .int)] (fun _ : Unit => True) (fun _ => [(hw, .inr (2, [.ref qrow, .ref qfac, .int (iI (bz (decide (v < 0)))), .int (iI 0)])), (qrow, .inl (cI, 72, .inl (dg (v.natAbs * 10 ^ pl))))]) := by
  refine enterv (by decide) (Nat.le_of_ble_eq_true rfl) ?_
  intro X O hK hin2 hret
  show TGo X [(hw, .inr (2, [.ref qrow, .ref qfac, .int (iI (bz ng)), .int (iI (bz go))])), (qrow, .inl (cI, 72, .inl f))] 0 0 0 [(0, .ref hw), (1, .long (lI v)), (3, .int (iI ((pl : Nat) : Int)))] []
  have hc := cmpZ_ge (a := v) (b := 0)
  have hv19 : v.natAbs < 10 ^ 19 := by omega
  refine go_aload_n O dX2_loadNumber_0 rfl 0 rfl 1 rfl ?_
  refine go_callvV (As := []) (rest := []) (wr := []) O hK hE (c_X2_clear E hE hw qrow qfac cI ng go f) mlX2_31 imX2_clear seX2_clear inX2 cdX2_clear 0 (by decide +kernel) ⟨Nat.le_of_ble_eq_true rfl, Nat.le_of_ble_eq_true rfl⟩ 0 rfl rfl [0] rfl [0, 1] rfl (by decide) [] rfl (by decide) (by decide) rfl rfl (Nat.le_of_ble_eq_true rfl) ⟨Nat.zero_le _, Nat.zero_le _⟩ dX2_loadNumber_1 4 rfl (fun u hu => ?_)
  show TGo X [(hw, .inr (2, [.ref qrow, .ref qfac, .int (iI 0), .int (iI 0)])), (qrow, .inl (cI, 72, .inl (dg 0)))] 0 0 4 [(0, .ref hw), (1, .long (lI v)), (3, .int (iI ((pl : Nat) : Int)))] []
  refine go_lload_n O dX2_loadNumber_4 rfl 1 rfl 5 rfl ?_
  refine go_aload_n O dX2_loadNumber_5 rfl 0 rfl 6 rfl ?_
  refine go_get O hK dX2_loadNumber_6 hinX2 0 rfl rfl 0 (by decide) flX2_9 rfl 9 rfl ?_
  refine go_iload_n O dX2_loadNumber_9 rfl 2 rfl 10 rfl ?_
  refine go_callvS (rest := []) (wr := [(hw, .inr (2, [.ref qrow, .ref qfac, .int (iI 0), .int (iI 0)]))]) O hK hE (c_X2_spell E hE qrow cI 72 pl (dg 0) v hv (by omega) hpl) mlX2_40 smX2_spell inX2 cdX2_spell 3 (by decide +kernel) ⟨Nat.le_of_ble_eq_true rfl, Nat.le_of_ble_eq_true rfl⟩ [0] rfl [1] rfl (by decide) [0] rfl (by decide) (by decide) rfl rfl (Nat.le_of_ble_eq_true rfl) ⟨Nat.zero_le _, Nat.zero_le _⟩ dX2_loadNumber_10 13 rfl (fun u hu => ?_)
  have hd := dg_place hv19 hu.1 (fun j e => by rw [hu.2 j e, dg_zero])
  show TGo X [(hw, .inr (2, [.ref qrow, .ref qfac, .int (iI 0), .int (iI 0)])), (qrow, .inl (cI, 72, .inl u))] 0 0 13 [(0, .ref hw), (1, .long (lI v)), (3, .int (iI ((pl : Nat) : Int)))] []
  refine go_aload_n O dX2_loadNumber_13 rfl 0 rfl 14 rfl ?_
  refine go_lload_n O dX2_loadNumber_14 rfl 1 rfl 15 rfl ?_
  refine go_lconst O dX2_loadNumber_15 0 rfl 16 rfl ?_
  refine go_lcmp O dX2_loadNumber_16 (by omega) (by omega) 17 rfl ?_
  refine go_if_ge O dX2_loadNumber_17 24 (by decide) 20 rfl (cmpZ_r _ _) (fun h17 => ?_) (fun h17 => ?_)
  · refine go_iconst O dX2_loadNumber_24 25 rfl ?_
    refine TGo.arr 1 rfl (dg (v.natAbs * 10 ^ pl)) (fun j _ => hd j) (ws' := [(hw, .inr (2, [.ref qrow, .ref qfac, .int (iI 0), .int (iI 0)])), (qrow, .inl (cI, 72, .inl (dg (v.natAbs * 10 ^ pl))))]) rfl ?_
    refine TGo.topi (y := bz (decide (v < 0))) (by rw [decide_eq_false (by omega)]; rfl) ?_
    refine go_put O hK dX2_loadNumber_25 hinX2 tyX2 tyX2_ok nmX2 0 rfl rfl 2 (by decide) flX2_24 rfl rfl (nar_b (bz_01 _)) (fit_b (bz_01 _)) (Nat.le_of_ble_eq_true rfl) [(hw, .inr (2, [.ref qrow, .ref qfac, .int (iI (bz (decide (v < 0)))), .int (iI 0)])), (qrow, .inl (cI, 72, .inl (dg (v.natAbs * 10 ^ pl))))] rfl 28 rfl ?_
    exact hret _ _ () dX2_loadNumber_28 trivial
  · refine go_iconst O dX2_loadNumber_20 21 rfl ?_
    refine go_goto O dX2_loadNumber_21 25 (by decide) ?_
    refine TGo.arr 1 rfl (dg (v.natAbs * 10 ^ pl)) (fun j _ => hd j) (ws' := [(hw, .inr (2, [.ref qrow, .ref qfac, .int (iI 0), .int (iI 0)])), (qrow, .inl (cI, 72, .inl (dg (v.natAbs * 10 ^ pl))))]) rfl ?_
    refine TGo.topi (y := bz (decide (v < 0))) (by rw [decide_eq_true (by omega)]; rfl) ?_
    refine go_put O hK dX2_loadNumber_25 hinX2 tyX2 tyX2_ok nmX2 0 rfl rfl 2 (by decide) flX2_24 rfl rfl (nar_b (bz_01 _)) (fit_b (bz_01 _)) (Nat.le_of_ble_eq_true rfl) [(hw, .inr (2, [.ref qrow, .ref qfac, .int (iI (bz (decide (v < 0)))), .int (iI 0)])), (qrow, .inl (cI, 72, .inl (dg (v.natAbs * 10 ^ pl))))] rfl 28 rfl ?_
    exact hret _ _ () dX2_loadNumber_28 trivial
set_option maxHeartbeats 4000000 in
set_option maxRecDepth 100000 in
/-- Work.size -/
theorem c_X2_size (E : TEn) (hE : EnvOk E) (hw qrow qfac : Nat) (cI : ClassId) (ng go : Bool) (W : Nat) (hW : W < 10 ^ 72) : Cti vwCl E yX2_size wsX2_size (rmn 0 0) [.ref hw] [(hw, .inr (2, [.ref qrow, .ref qfac, .int (iI (bz ng)), .int (iI (bz go))])), (qrow, .inl (cI, 72, .inl (dg W)))] [(cI, .int)] (fun (z : Int) (_ : Unit) => z = (tnds W : Int)) (fun _ => [(hw, .inr (2, [.ref qrow, .ref qfac, .int (iI (bz ng)), .int (iI (bz go))])), (qrow, .inl (cI, 72, .inl (dg W)))]) := by
  refine enteri (by decide) (Nat.le_of_ble_eq_true rfl) ?_
  intro X O hK hin2 hret
  show TGo X [(hw, .inr (2, [.ref qrow, .ref qfac, .int (iI (bz ng)), .int (iI (bz go))])), (qrow, .inl (cI, 72, .inl (dg W)))] 0 0 0 [(0, .ref hw)] []
  have lp : ∀ (c : Nat) (i : Nat) (x : Int), c = i + 1 → i ≤ 72 → x = (i : Int) → (∀ j, i ≤ j → j < 72 → W / 10 ^ j % 10 = 0) → TGo X [(hw, .inr (2, [.ref qrow, .ref qfac, .int (iI (bz ng)), .int (iI (bz go))])), (qrow, .inl (cI, 72, .inl (dg W)))] 0 0 3 [(1, .int (iI x)), (0, .ref hw)] [] := by
    intro c
    induction c with
    | zero => intro i x h1 h2 hx hz; omega
    | succ c ih =>
      intro i x h1 h2 hx hz
      refine go_iload_n O dX2_size_3 rfl 0 rfl 4 rfl ?_
      refine go_if_le O dX2_size_4 26 (by decide) 7 rfl (by omega) (fun h4 => ?_) (fun h4 => ?_)
      · refine go_iconst O dX2_size_26 27 rfl ?_
        exact hret _ _ _ () dX2_size_27 rfl (by have e : i = 0 := (by omega); subst e; rw [tnds_scan (N := W) (s := 0) (e := 72) hW (by omega) hz (Or.inl rfl)]; rfl)
      · refine go_aload_n O dX2_size_7 rfl 1 rfl 8 rfl ?_
        refine go_get O hK dX2_size_8 hinX2 0 rfl rfl 0 (by decide) flX2_9 rfl 11 rfl ?_
        refine go_iload_n O dX2_size_11 rfl 0 rfl 12 rfl ?_
        refine go_iconst O dX2_size_12 13 rfl ?_
        obtain ⟨k, rfl⟩ : ∃ k, i = k + 1 := ⟨i - 1, by omega⟩
        refine go_isub O dX2_size_13 ((k : Nat) : Int) (by omega) 14 rfl ?_
        refine go_iald O hK dX2_size_14 1 0 rfl rfl k rfl (by omega) (by omega) ((W / 10 ^ k % 10 : Nat) : Int) rfl 15 rfl ?_
        refine go_if_eq O dX2_size_15 20 (by decide) 18 rfl (by omega) (fun h15 => ?_) (fun h15 => ?_)
        · refine go_iinc O dX2_size_20 0 rfl (x - 1) (by omega) (by decide) [(1, .int (iI (x - 1))), (0, .ref hw)] rfl 23 rfl ?_
          refine go_goto O dX2_size_23 3 (by decide) ?_
          refine TGo.lsub (lv' := [(1, .int (iI (x - 1))), (0, .ref hw)]) [0, 1] rfl ?_
          exact ih k _ (by omega) (by omega) (by omega) (fun j e1 e2 => if e : k + 1 ≤ j then hz j e e2 else (by have e3 : j = k := (by omega); rw [e3]; omega))
        · refine go_iload_n O dX2_size_18 rfl 0 rfl 19 rfl ?_
          exact hret _ _ _ () dX2_size_19 rfl (by rw [hx, tnds_scan (N := W) (s := k + 1) (e := 72) hW (by omega) hz (Or.inr (by rw [Nat.add_sub_cancel]; omega))])
  refine go_bipush O dX2_size_0 (by decide) 2 rfl ?_
  refine go_istore_n O dX2_size_2 rfl (by decide) [(1, .int (iI 72)), (0, .ref hw)] rfl 3 rfl ?_
  refine TGo.lsub (lv' := [(1, .int (iI 72)), (0, .ref hw)]) [0, 1] rfl ?_
  exact lp 73 72 _ rfl (Nat.le_refl _) rfl (fun j e1 e2 => absurd e2 (by omega))
set_option maxHeartbeats 4000000 in
set_option maxRecDepth 100000 in
/-- Work.carry: signed places into digits -/
theorem c_X2_carry (E : TEn) (hE : EnvOk E) (hw qrow qfac : Nat) (cI : ClassId) (ng go : Bool) (zf : Nat → Int) (V : Nat) (hzb : ∀ i, i < 72 → -100000000 ≤ zf i ∧ zf i ≤ 100000000) (hV : (V : Int) = tv zf 0 72) : Ctv vwCl E yX2_carry wsX2_carry (rmn 1 22) [.ref hw] [(hw, .inr (2, [.ref qrow, .ref qfac, .int (iI (bz ng)), .int (iI (bz go))])), (qrow, .inl (cI, 72, .inl (fun j => iI (zf j))))] [(cI, .int)] (fun _ : Unit => True) (fun _ => [(hw, .inr (2, [.ref qrow, .ref qfac, .int (iI (bz ng)), .int (iI (bz go))])), (qrow, .inl (cI, 72, .inl (dg V)))]) := by
  refine enterv (by decide) (Nat.le_of_ble_eq_true rfl) ?_
  intro X O hK hin2 hret
  show TGo X [(hw, .inr (2, [.ref qrow, .ref qfac, .int (iI (bz ng)), .int (iI (bz go))])), (qrow, .inl (cI, 72, .inl (fun j => iI (zf j))))] 0 0 0 [(0, .ref hw)] []
  have lp : ∀ (c : Nat) (i : Nat) (x : Int) (y : Int) (g : Nat → Int32), c + i = 73 → i ≤ 72 → x = (i : Int) → (-100000000 ≤ y ∧ y ≤ 100000000) → ((V / 10 ^ i : Nat) : Int) = y + tv zf i (72 - i) → (∀ j, j < i → g j = dg V j) → (∀ j, i ≤ j → g j = iI (zf j)) → TGo X [(hw, .inr (2, [.ref qrow, .ref qfac, .int (iI (bz ng)), .int (iI (bz go))])), (qrow, .inl (cI, 72, .inl g))] 0 0 4 [(1, .int (iI y)), (2, .int (iI x)), (0, .ref hw)] [] := by
    intro c
    induction c with
    | zero => intro i x y g h1 h2 hx hy hV2 hlo hhi; omega
    | succ c ih =>
      intro i x y g h1 h2 hx hy hV2 hlo hhi
      refine go_iload_n O dX2_carry_4 rfl 1 rfl 5 rfl ?_
      refine go_bipush O dX2_carry_5 (by decide) 7 rfl ?_
      refine go_icmp_ge O dX2_carry_7 44 (by decide) 10 rfl (by omega) (by omega) (fun h7 => ?_) (fun h7 => ?_)
      · refine TGo.arr 1 rfl (dg V) (fun j hj => hlo j (by omega)) (ws' := [(hw, .inr (2, [.ref qrow, .ref qfac, .int (iI (bz ng)), .int (iI (bz go))])), (qrow, .inl (cI, 72, .inl (dg V)))]) rfl ?_
        exact hret _ _ () dX2_carry_44 trivial
      · refine go_aload_n O dX2_carry_10 rfl 2 rfl 11 rfl ?_
        refine go_get O hK dX2_carry_11 hinX2 0 rfl rfl 0 (by decide) flX2_9 rfl 14 rfl ?_
        refine go_iload_n O dX2_carry_14 rfl 1 rfl 15 rfl ?_
        refine go_iald O hK dX2_carry_15 1 0 rfl rfl i hx (by omega) (by omega) (zf i) (hhi i (Nat.le_refl _)) 16 rfl ?_
        have hzi := hzb i (by omega)
        have htv : ((V / 10 ^ i : Nat) : Int) = y + (zf i + 10 * tv zf (i + 1) (71 - i)) := by rw [hV2, show 72 - i = (71 - i) + 1 by omega, tv_s]
        refine go_iload_n O dX2_carry_16 rfl 0 rfl 17 rfl ?_
        refine go_iadd O dX2_carry_17 (zf i + y) rfl 18 rfl ?_
        refine go_istore_n O dX2_carry_18 rfl (by decide) [(3, .int (iI (zf i + y))), (1, .int (iI y)), (2, .int (iI x)), (0, .ref hw)] rfl 19 rfl ?_
        refine go_aload_n O dX2_carry_19 rfl 3 rfl 20 rfl ?_
        refine go_get O hK dX2_carry_20 hinX2 0 rfl rfl 0 (by decide) flX2_9 rfl 23 rfl ?_
        refine go_iload_n O dX2_carry_23 rfl 2 rfl 24 rfl ?_
        refine go_iload_n O dX2_carry_24 rfl 0 rfl 25 rfl ?_
        refine go_bipush O dX2_carry_25 (by decide) 27 rfl ?_
        refine go_calliS (rest := [.int (iI x), .ref qrow]) (wr := [(hw, .inr (2, [.ref qrow, .ref qfac, .int (iI (bz ng)), .int (iI (bz go))])), (qrow, .inl (cI, 72, .inl g))]) O hK hE (c_J9_floorMod E hE (zf i + y) (by omega)) mlX2_52 smJ9_floorMod inJ9 cdJ9_floorMod 2 (by decide +kernel) ⟨Nat.le_of_ble_eq_true rfl, Nat.le_of_ble_eq_true rfl⟩ [] rfl [] rfl (by decide) [0, 1] rfl (by decide) (by decide) rfl rfl (Nat.le_of_ble_eq_true rfl) ⟨Nat.zero_le _, Nat.zero_le _⟩ dX2_carry_27 30 rfl (fun z u hu => ?_)
        subst hu
        show TGo X [(hw, .inr (2, [.ref qrow, .ref qfac, .int (iI (bz ng)), .int (iI (bz go))])), (qrow, .inl (cI, 72, .inl g))] 0 0 30 [(3, .int (iI (zf i + y))), (1, .int (iI y)), (2, .int (iI x)), (0, .ref hw)] [.int (iI ((zf i + y) % 10)), .int (iI x), .ref qrow]
        refine go_iast O hK dX2_carry_30 1 0 rfl rfl i hx (by omega) (by omega) (upd g i (iI ((zf i + y) % 10))) (fun _ _ => rfl) [(hw, .inr (2, [.ref qrow, .ref qfac, .int (iI (bz ng)), .int (iI (bz go))])), (qrow, .inl (cI, 72, .inl (upd g i (iI ((zf i + y) % 10)))))] rfl 31 rfl ?_
        refine go_iload_n O dX2_carry_31 rfl 0 rfl 32 rfl ?_
        refine go_bipush O dX2_carry_32 (by decide) 34 rfl ?_
        refine go_calliS (rest := []) (wr := [(hw, .inr (2, [.ref qrow, .ref qfac, .int (iI (bz ng)), .int (iI (bz go))])), (qrow, .inl (cI, 72, .inl (upd g i (iI ((zf i + y) % 10)))))]) O hK hE (c_J9_floorDiv E hE (zf i + y) (by omega)) mlX2_56 smJ9_floorDiv inJ9 cdJ9_floorDiv 2 (by decide +kernel) ⟨Nat.le_of_ble_eq_true rfl, Nat.le_of_ble_eq_true rfl⟩ [] rfl [] rfl (by decide) [0, 1] rfl (by decide) (by decide) rfl rfl (Nat.le_of_ble_eq_true rfl) ⟨Nat.zero_le _, Nat.zero_le _⟩ dX2_carry_34 37 rfl (fun z u hu => ?_)
        subst hu
        show TGo X [(hw, .inr (2, [.ref qrow, .ref qfac, .int (iI (bz ng)), .int (iI (bz go))])), (qrow, .inl (cI, 72, .inl (upd g i (iI ((zf i + y) % 10)))))] 0 0 37 [(3, .int (iI (zf i + y))), (1, .int (iI y)), (2, .int (iI x)), (0, .ref hw)] [.int (iI ((zf i + y) / 10))]
        refine go_istore_n O dX2_carry_37 rfl (by decide) [(1, .int (iI ((zf i + y) / 10))), (3, .int (iI (zf i + y))), (2, .int (iI x)), (0, .ref hw)] rfl 38 rfl ?_
        refine go_iinc O dX2_carry_38 2 rfl ((i + 1 : Nat) : Int) (by omega) (by decide) [(2, .int (iI ((i + 1 : Nat) : Int))), (1, .int (iI ((zf i + y) / 10))), (3, .int (iI (zf i + y))), (0, .ref hw)] rfl 41 rfl ?_
        refine go_goto O dX2_carry_41 4 (by decide) ?_
        refine TGo.lsub (lv' := [(1, .int (iI ((zf i + y) / 10))), (2, .int (iI ((i + 1 : Nat) : Int))), (0, .ref hw)]) [1, 0, 3] rfl ?_
        exact ih (i + 1) _ _ _ (by omega) (by omega) (by omega) (by omega) (by rw [tq10, show 72 - (i + 1) = 71 - i by omega, ← tcar_step htv]; omega) (lo_upd hlo (by rw [dg_at, dg_int, tcar_dig htv])) (hi_upd (F := fun j => iI (zf j)) hhi)
  refine go_iconst O dX2_carry_0 1 rfl ?_
  refine go_istore_n O dX2_carry_1 rfl (by decide) [(1, .int (iI 0)), (0, .ref hw)] rfl 2 rfl ?_
  refine go_iconst O dX2_carry_2 3 rfl ?_
  refine go_istore_n O dX2_carry_3 rfl (by decide) [(2, .int (iI 0)), (1, .int (iI 0)), (0, .ref hw)] rfl 4 rfl ?_
  refine TGo.lsub (lv' := [(1, .int (iI 0)), (2, .int (iI 0)), (0, .ref hw)]) [1, 0, 2] rfl ?_
  exact lp 73 0 _ _ _ (by omega) (by omega) (by omega) (by omega) (by rw [tqz, hV, Int.zero_add]) (fun j a => absurd a (by omega)) (fun _ _ => rfl)
