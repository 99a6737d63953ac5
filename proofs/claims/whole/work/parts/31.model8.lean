def spMul (P Sc : Nat) (m : Int) (reg : Rg) (r a v k : Int) : Int × Rg :=
  if (0 ≤ r ∧ r < 8) ∧ (0 ≤ a ∧ a < 8) ∧ (0 ≤ k ∧ k < 10) then
    match reg a.toNat with
    | none => (-11, reg)
    | some (c, w, n, V) => (fun o => (ansO o, rstp reg r.toNat c w (n != decide (v < 0)) o)) (tstl P Sc m w (n != decide (v < 0)) (V * v.natAbs) (1 * 10 ^ k.toNat))
  else (-15, reg)
theorem spMul_bad {P Sc : Nat} {m : Int} {reg : Rg} {r a v k : Int} (h : ¬ ((0 ≤ r ∧ r < 8) ∧ (0 ≤ a ∧ a < 8) ∧ (0 ≤ k ∧ k < 10))) : spMul P Sc m reg r a v k = (-15, reg) := by
  unfold spMul; rw [if_neg h]
theorem spMul_no {P Sc : Nat} {m : Int} {reg : Rg} {ρ α κ : Nat} {v : Int} (h : ρ < 8 ∧ α < 8 ∧ κ < 10) (hq : reg α = none) : spMul P Sc m reg (ρ : Int) (α : Int) v (κ : Int) = (-11, reg) := by
  unfold spMul; rw [if_pos (by omega), show (α : Int).toNat = α from rfl, hq]
theorem spMul_ok {P Sc : Nat} {m : Int} {reg : Rg} {ρ α κ V : Nat} {v c : Int} {w n : Bool} (h : ρ < 8 ∧ α < 8 ∧ κ < 10) (hq : reg α = some (c, w, n, V)) : spMul P Sc m reg (ρ : Int) (α : Int) v (κ : Int) = (ansO (tstl P Sc m w (n != decide (v < 0)) (V * v.natAbs) (Int.natAbs 1 * 10 ^ κ)), rstp reg ρ c w (n != decide (v < 0)) (tstl P Sc m w (n != decide (v < 0)) (V * v.natAbs) (Int.natAbs 1 * 10 ^ κ))) := by
  unfold spMul; rw [if_pos (by omega), show (α : Int).toNat = α from rfl, hq]; rfl
theorem mul_bd {V : Nat} {v : Int} (hV : V < 10 ^ 36) (hv : r64 v) : V * v.natAbs < 10 ^ 56 ∧ tnds V + tnds v.natAbs ≤ 55 := by
  have h1 : v.natAbs < 10 ^ 19 := by omega
  have h3 := Nat.mul_le_mul (Nat.le_of_lt hV) (Nat.le_of_lt h1)
  have h4 := tnds_mono hV
  have h5 := tnds_mono h1
  constructor
  · omega
  · omega
theorem pk_bd {κ : Nat} (h : κ < 10) : 0 < Int.natAbs 1 * 10 ^ κ ∧ Int.natAbs 1 * 10 ^ κ < 10 ^ 20 := by
  have h1 := p10 κ
  have h2 := p10lt (a := κ) (b := 20) (by omega)
  show 0 < 1 * 10 ^ κ ∧ 1 * 10 ^ κ < 10 ^ 20
  rw [Nat.one_mul]
  exact ⟨h1, h2⟩
def spDiv (P Sc : Nat) (m : Int) (reg : Rg) (r a v k : Int) : Int × Rg :=
  if (0 ≤ r ∧ r < 8) ∧ (0 ≤ a ∧ a < 8) ∧ (0 ≤ k ∧ k < 10) then
    match reg a.toNat with
    | none => (-11, reg)
    | some (c, w, n, V) => if v = 0 then (-14, reg) else (fun o => (ansO o, rstp reg r.toNat c w (n != decide (v < 0)) o)) (tstl P Sc m w (n != decide (v < 0)) (V * 10 ^ k.toNat) v.natAbs)
  else (-15, reg)
theorem spDiv_bad {P Sc : Nat} {m : Int} {reg : Rg} {r a v k : Int} (h : ¬ ((0 ≤ r ∧ r < 8) ∧ (0 ≤ a ∧ a < 8) ∧ (0 ≤ k ∧ k < 10))) : spDiv P Sc m reg r a v k = (-15, reg) := by
  unfold spDiv; rw [if_neg h]
theorem spDiv_no {P Sc : Nat} {m : Int} {reg : Rg} {ρ α κ : Nat} {v : Int} (h : ρ < 8 ∧ α < 8 ∧ κ < 10) (hq : reg α = none) : spDiv P Sc m reg (ρ : Int) (α : Int) v (κ : Int) = (-11, reg) := by
  unfold spDiv; rw [if_pos (by omega), show (α : Int).toNat = α from rfl, hq]
theorem spDiv_0 {P Sc : Nat} {m : Int} {reg : Rg} {ρ α κ V : Nat} {v c : Int} {w n : Bool} (h : ρ < 8 ∧ α < 8 ∧ κ < 10) (hq : reg α = some (c, w, n, V)) (hv : v = 0) : spDiv P Sc m reg (ρ : Int) (α : Int) v (κ : Int) = (-14, reg) := by
  unfold spDiv; rw [if_pos (by omega), show (α : Int).toNat = α from rfl, hq]
  show (if v = 0 then _ else _) = _
  rw [if_pos hv]
theorem spDiv_ok {P Sc : Nat} {m : Int} {reg : Rg} {ρ α κ V : Nat} {v c : Int} {w n : Bool} (h : ρ < 8 ∧ α < 8 ∧ κ < 10) (hq : reg α = some (c, w, n, V)) (hv : ¬ v = 0) : spDiv P Sc m reg (ρ : Int) (α : Int) v (κ : Int) = (ansO (tstl P Sc m w (n != decide (v < 0)) (V * 10 ^ κ) v.natAbs), rstp reg ρ c w (n != decide (v < 0)) (tstl P Sc m w (n != decide (v < 0)) (V * 10 ^ κ) v.natAbs)) := by
  unfold spDiv; rw [if_pos (by omega), show (α : Int).toNat = α from rfl, hq]
  show (if v = 0 then _ else _) = _
  rw [if_neg hv]; rfl
theorem div_bd {V κ : Nat} (hV : V < 10 ^ 36) (h : κ < 10) : V * 10 ^ κ < 10 ^ 56 := by
  have h2 := p10le (a := κ) (b := 10) (by omega)
  have h3 := Nat.mul_le_mul (Nat.le_of_lt hV) h2
  omega
set_option maxHeartbeats 4000000 in
set_option maxRecDepth 100000 in
/-- multiply -/
theorem c_X4_multiply (E : TEn) (hE : EnvOk E) (h : Nat) (fs : List Value) {p s m : Int} {qbase qden qnum qquo qrem qother qcurrency qisWide qnegative qkept qunits : Nat} (f_p : fs[0]? = some (.int (iI p))) (f_s : fs[1]? = some (.int (iI s))) (f_m : fs[2]? = some (.int (iI m))) (f_base : fs[11]? = some (.ref qbase)) (f_den : fs[12]? = some (.ref qden)) (f_num : fs[10]? = some (.ref qnum)) (f_quo : fs[13]? = some (.ref qquo)) (f_rem : fs[14]? = some (.ref qrem)) (f_other : fs[15]? = some (.ref qother)) (f_currency : fs[3]? = some (.ref qcurrency)) (f_isWide : fs[4]? = some (.ref qisWide)) (f_negative : fs[5]? = some (.ref qnegative)) (f_kept : fs[6]? = some (.ref qkept)) (f_units : fs[16]? = some (.ref qunits)) (cI cZ : ClassId) (P Sc : Nat) (hp : p = (P : Int)) (hP : 19 ≤ P ∧ P ≤ 30) (hs : s = (Sc : Int)) (hS : 5 ≤ Sc ∧ Sc ≤ 10) (hm : 0 ≤ m ∧ m ≤ 6) (fnum fb fd fq fr fo fu fc fw fn K : Nat → Int32) (reg : Rg) (r a v k : Int) (hr : r32 r) (ha : r32 a) (hk : r32 k) (hv : r64 v) (hMR : MR fc fw fn K reg) : Cti vwCl E yX4_multiply wsX4_multiply (rmn 4 99) [.ref h, .int (iI r), .int (iI a), .long (lI v), .int (iI k)] [(h, .inr (4, fs)), (qnum, .inl (cI, 80, .inl fnum)), (qbase, .inl (cI, 80, .inl fb)), (qden, .inl (cI, 80, .inl fd)), (qquo, .inl (cI, 80, .inl fq)), (qrem, .inl (cI, 80, .inl fr)), (qother, .inl (cI, 80, .inl fo)), (qunits, .inl (cI, 80, .inl fu)), (qcurrency, .inl (cI, 8, .inl fc)), (qisWide, .inl (cZ, 8, .inl fw)), (qnegative, .inl (cZ, 8, .inl fn)), (qkept, .inl (cI, 320, .inl K))] [(cI, .int), (cZ, .boolean)] (fun (z : Int) (u : (Nat → Int32) × (Nat → Int32) × (Nat → Int32) × (Nat → Int32) × (Nat → Int32) × (Nat → Int32) × (Nat → Int32) × (Nat → Int32) × (Nat → Int32) × (Nat → Int32) × (Nat → Int32)) => z = (spMul P Sc m reg r a v k).1 ∧ MR u.2.2.2.2.2.2.2.1 u.2.2.2.2.2.2.2.2.1 u.2.2.2.2.2.2.2.2.2.1 u.2.2.2.2.2.2.2.2.2.2 (spMul P Sc m reg r a v k).2) (fun u => [(h, .inr (4, fs)), (qnum, .inl (cI, 80, .inl u.1)), (qbase, .inl (cI, 80, .inl u.2.1)), (qden, .inl (cI, 80, .inl u.2.2.1)), (qquo, .inl (cI, 80, .inl u.2.2.2.1)), (qrem, .inl (cI, 80, .inl u.2.2.2.2.1)), (qother, .inl (cI, 80, .inl u.2.2.2.2.2.1)), (qunits, .inl (cI, 80, .inl u.2.2.2.2.2.2.1)), (qcurrency, .inl (cI, 8, .inl u.2.2.2.2.2.2.2.1)), (qisWide, .inl (cZ, 8, .inl u.2.2.2.2.2.2.2.2.1)), (qnegative, .inl (cZ, 8, .inl u.2.2.2.2.2.2.2.2.2.1)), (qkept, .inl (cI, 320, .inl u.2.2.2.2.2.2.2.2.2.2))]) := by
  refine enteri (by decide) (Nat.le_of_ble_eq_true rfl) ?_
  intro X O hK hin2 hret
  show TGo X [(h, .inr (4, fs)), (qnum, .inl (cI, 80, .inl fnum)), (qbase, .inl (cI, 80, .inl fb)), (qden, .inl (cI, 80, .inl fd)), (qquo, .inl (cI, 80, .inl fq)), (qrem, .inl (cI, 80, .inl fr)), (qother, .inl (cI, 80, .inl fo)), (qunits, .inl (cI, 80, .inl fu)), (qcurrency, .inl (cI, 8, .inl fc)), (qisWide, .inl (cZ, 8, .inl fw)), (qnegative, .inl (cZ, 8, .inl fn)), (qkept, .inl (cI, 320, .inl K))] 0 0 0 [(0, .ref h), (1, .int (iI r)), (2, .int (iI a)), (3, .long (lI v)), (5, .int (iI k))] []
  have o1 := tout_i (x := r) (e := 8)
  have o2 := tout_i (x := a) (e := 8)
  have o3 := tout_i (x := k) (e := 10)
  have hcv := cmpZ_ge (a := v) (b := 0)
  have hcz := cmpZ_eq (a := v) (b := 0)
  refine go_iload_n O dX4_multiply_0 rfl 1 rfl 1 rfl ?_
  refine go_bipush O dX4_multiply_1 (by decide) 3 rfl ?_
  refine go_calliS (rest := []) (wr := [(h, .inr (4, fs)), (qnum, .inl (cI, 80, .inl fnum)), (qbase, .inl (cI, 80, .inl fb)), (qden, .inl (cI, 80, .inl fd)), (qquo, .inl (cI, 80, .inl fq)), (qrem, .inl (cI, 80, .inl fr)), (qother, .inl (cI, 80, .inl fo)), (qunits, .inl (cI, 80, .inl fu)), (qcurrency, .inl (cI, 8, .inl fc)), (qisWide, .inl (cZ, 8, .inl fw)), (qnegative, .inl (cZ, 8, .inl fn)), (qkept, .inl (cI, 320, .inl K))]) O hK hE (c_X4_outside E hE r 8 (by omega) (by omega)) mlX4_123 smX4_outside inX4 cdX4_outside 2 (by decide +kernel) ⟨Nat.le_of_ble_eq_true rfl, Nat.le_of_ble_eq_true rfl⟩ [] rfl [] rfl (by decide) [0, 1, 2, 3, 4, 5, 6, 7, 8, 9, 10, 11] rfl (by decide) (by decide) rfl rfl (Nat.le_of_ble_eq_true rfl) ⟨Nat.zero_le _, Nat.zero_le _⟩ dX4_multiply_3 6 rfl (fun z u hu => ?_)
  subst hu
  show TGo X [(h, .inr (4, fs)), (qnum, .inl (cI, 80, .inl fnum)), (qbase, .inl (cI, 80, .inl fb)), (qden, .inl (cI, 80, .inl fd)), (qquo, .inl (cI, 80, .inl fq)), (qrem, .inl (cI, 80, .inl fr)), (qother, .inl (cI, 80, .inl fo)), (qunits, .inl (cI, 80, .inl fu)), (qcurrency, .inl (cI, 8, .inl fc)), (qisWide, .inl (cZ, 8, .inl fw)), (qnegative, .inl (cZ, 8, .inl fn)), (qkept, .inl (cI, 320, .inl K))] 0 0 6 [(0, .ref h), (1, .int (iI r)), (2, .int (iI a)), (3, .long (lI v)), (5, .int (iI k))] [.int (iI (bz (tout r 8)))]
  refine go_if_ne O dX4_multiply_6 28 (by decide) 9 rfl (bz_r _) (fun h6 => ?_) (fun h6 => ?_)
  · refine go_bipush O dX4_multiply_28 (by decide) 30 rfl ?_
    have he := spMul_bad (P := P) (Sc := Sc) (m := m) (reg := reg) (r := r) (a := a) (v := v) (k := k) (by omega)
    exact hret _ _ _ (fnum, fb, fd, fq, fr, fo, fu, fc, fw, fn, K) dX4_multiply_30 rfl ⟨by rw [he], by rw [he]; exact hMR⟩
  · refine go_iload_n O dX4_multiply_9 rfl 2 rfl 10 rfl ?_
    refine go_bipush O dX4_multiply_10 (by decide) 12 rfl ?_
    refine go_calliS (rest := []) (wr := [(h, .inr (4, fs)), (qnum, .inl (cI, 80, .inl fnum)), (qbase, .inl (cI, 80, .inl fb)), (qden, .inl (cI, 80, .inl fd)), (qquo, .inl (cI, 80, .inl fq)), (qrem, .inl (cI, 80, .inl fr)), (qother, .inl (cI, 80, .inl fo)), (qunits, .inl (cI, 80, .inl fu)), (qcurrency, .inl (cI, 8, .inl fc)), (qisWide, .inl (cZ, 8, .inl fw)), (qnegative, .inl (cZ, 8, .inl fn)), (qkept, .inl (cI, 320, .inl K))]) O hK hE (c_X4_outside E hE a 8 (by omega) (by omega)) mlX4_123 smX4_outside inX4 cdX4_outside 2 (by decide +kernel) ⟨Nat.le_of_ble_eq_true rfl, Nat.le_of_ble_eq_true rfl⟩ [] rfl [] rfl (by decide) [0, 1, 2, 3, 4, 5, 6, 7, 8, 9, 10, 11] rfl (by decide) (by decide) rfl rfl (Nat.le_of_ble_eq_true rfl) ⟨Nat.zero_le _, Nat.zero_le _⟩ dX4_multiply_12 15 rfl (fun z u hu => ?_)
    subst hu
    show TGo X [(h, .inr (4, fs)), (qnum, .inl (cI, 80, .inl fnum)), (qbase, .inl (cI, 80, .inl fb)), (qden, .inl (cI, 80, .inl fd)), (qquo, .inl (cI, 80, .inl fq)), (qrem, .inl (cI, 80, .inl fr)), (qother, .inl (cI, 80, .inl fo)), (qunits, .inl (cI, 80, .inl fu)), (qcurrency, .inl (cI, 8, .inl fc)), (qisWide, .inl (cZ, 8, .inl fw)), (qnegative, .inl (cZ, 8, .inl fn)), (qkept, .inl (cI, 320, .inl K))] 0 0 15 [(0, .ref h), (1, .int (iI r)), (2, .int (iI a)), (3, .long (lI v)), (5, .int (iI k))] [.int (iI (bz (tout a 8)))]
    refine go_if_ne O dX4_multiply_15 28 (by decide) 18 rfl (bz_r _) (fun h15 => ?_) (fun h15 => ?_)
    · refine go_bipush O dX4_multiply_28 (by decide) 30 rfl ?_
      have he := spMul_bad (P := P) (Sc := Sc) (m := m) (reg := reg) (r := r) (a := a) (v := v) (k := k) (by omega)
      exact hret _ _ _ (fnum, fb, fd, fq, fr, fo, fu, fc, fw, fn, K) dX4_multiply_30 rfl ⟨by rw [he], by rw [he]; exact hMR⟩
    · refine go_iload O dX4_multiply_18 4 rfl 20 rfl ?_
      refine go_bipush O dX4_multiply_20 (by decide) 22 rfl ?_
      refine go_calliS (rest := []) (wr := [(h, .inr (4, fs)), (qnum, .inl (cI, 80, .inl fnum)), (qbase, .inl (cI, 80, .inl fb)), (qden, .inl (cI, 80, .inl fd)), (qquo, .inl (cI, 80, .inl fq)), (qrem, .inl (cI, 80, .inl fr)), (qother, .inl (cI, 80, .inl fo)), (qunits, .inl (cI, 80, .inl fu)), (qcurrency, .inl (cI, 8, .inl fc)), (qisWide, .inl (cZ, 8, .inl fw)), (qnegative, .inl (cZ, 8, .inl fn)), (qkept, .inl (cI, 320, .inl K))]) O hK hE (c_X4_outside E hE k 10 (by omega) (by omega)) mlX4_123 smX4_outside inX4 cdX4_outside 2 (by decide +kernel) ⟨Nat.le_of_ble_eq_true rfl, Nat.le_of_ble_eq_true rfl⟩ [] rfl [] rfl (by decide) [0, 1, 2, 3, 4, 5, 6, 7, 8, 9, 10, 11] rfl (by decide) (by decide) rfl rfl (Nat.le_of_ble_eq_true rfl) ⟨Nat.zero_le _, Nat.zero_le _⟩ dX4_multiply_22 25 rfl (fun z u hu => ?_)
      subst hu
      show TGo X [(h, .inr (4, fs)), (qnum, .inl (cI, 80, .inl fnum)), (qbase, .inl (cI, 80, .inl fb)), (qden, .inl (cI, 80, .inl fd)), (qquo, .inl (cI, 80, .inl fq)), (qrem, .inl (cI, 80, .inl fr)), (qother, .inl (cI, 80, .inl fo)), (qunits, .inl (cI, 80, .inl fu)), (qcurrency, .inl (cI, 8, .inl fc)), (qisWide, .inl (cZ, 8, .inl fw)), (qnegative, .inl (cZ, 8, .inl fn)), (qkept, .inl (cI, 320, .inl K))] 0 0 25 [(0, .ref h), (1, .int (iI r)), (2, .int (iI a)), (3, .long (lI v)), (5, .int (iI k))] [.int (iI (bz (tout k 10)))]
      refine go_if_eq O dX4_multiply_25 31 (by decide) 28 rfl (bz_r _) (fun h25 => ?_) (fun h25 => ?_)
      · obtain ⟨ρ, rfl⟩ : ∃ ρ : Nat, r = (ρ : Int) := ⟨r.toNat, by omega⟩
        obtain ⟨α, rfl⟩ : ∃ α : Nat, a = (α : Int) := ⟨a.toNat, by omega⟩
        obtain ⟨κ, rfl⟩ : ∃ κ : Nat, k = (κ : Int) := ⟨k.toNat, by omega⟩
        have hα := hMR α (by omega)
        have hb3 : ρ < 8 ∧ α < 8 ∧ κ < 10 := by omega
        rcases hq : reg α with _ | ⟨c0, w0, n0, V0⟩
        · rw [hq] at hα
          refine go_aload_n O dX4_multiply_31 rfl 0 rfl 32 rfl ?_
          refine go_get O hK dX4_multiply_32 hinX4 0 rfl rfl 3 (by decide) flX4_7 f_currency 35 rfl ?_
          refine go_iload_n O dX4_multiply_35 rfl 2 rfl 36 rfl ?_
          refine go_iald O hK dX4_multiply_36 8 0 rfl rfl α rfl (by omega) (by omega) (-1) hα 37 rfl ?_
          refine go_if_ge O dX4_multiply_37 43 (by decide) 40 rfl (by omega) (fun h37 => by omega) (fun h37 => ?_)
          refine go_bipush O dX4_multiply_40 (by decide) 42 rfl ?_
          have he := spMul_no (P := P) (Sc := Sc) (m := m) (v := v) hb3 hq
          exact hret _ _ _ (fnum, fb, fd, fq, fr, fo, fu, fc, fw, fn, K) dX4_multiply_42 rfl ⟨by rw [he], by rw [he]; exact hMR⟩
        · rw [hq] at hα
          obtain ⟨hc0, e1, e2, e3, hV0, hz0, hK0⟩ := hα
          have b0 := bz_01 n0
          refine go_aload_n O dX4_multiply_31 rfl 0 rfl 32 rfl ?_
          refine go_get O hK dX4_multiply_32 hinX4 0 rfl rfl 3 (by decide) flX4_7 f_currency 35 rfl ?_
          refine go_iload_n O dX4_multiply_35 rfl 2 rfl 36 rfl ?_
          refine go_iald O hK dX4_multiply_36 8 0 rfl rfl α rfl (by omega) (by omega) c0 e1 37 rfl ?_
          refine go_if_ge O dX4_multiply_37 43 (by decide) 40 rfl (by omega) (fun h37 => ?_) (fun h37 => by omega)
          refine go_aload_n O dX4_multiply_43 rfl 0 rfl 44 rfl ?_
          refine go_aload_n O dX4_multiply_44 rfl 0 rfl 45 rfl ?_
          refine go_get O hK dX4_multiply_45 hinX4 0 rfl rfl 16 (by decide) flX4_47 f_units 48 rfl ?_
          refine go_iload_n O dX4_multiply_48 rfl 2 rfl 49 rfl ?_
          refine go_callvV (As := [.ref qunits, .int (iI ((α : Nat) : Int))]) (rest := []) (wr := [(qnum, .inl (cI, 80, .inl fnum)), (qbase, .inl (cI, 80, .inl fb)), (qden, .inl (cI, 80, .inl fd)), (qquo, .inl (cI, 80, .inl fq)), (qrem, .inl (cI, 80, .inl fr)), (qother, .inl (cI, 80, .inl fo)), (qcurrency, .inl (cI, 8, .inl fc)), (qisWide, .inl (cZ, 8, .inl fw)), (qnegative, .inl (cZ, 8, .inl fn))]) O hK hE (c_X4_take E hE h fs f_kept qunits cI K fu α V0 (by omega) (by omega) hK0) mlX4_131 imX4_take seX4_take inX4 cdX4_take 2 (by decide +kernel) ⟨Nat.le_of_ble_eq_true rfl, Nat.le_of_ble_eq_true rfl⟩ 0 rfl rfl [0] rfl [0, 11, 7] rfl (by decide) [1, 2, 3, 4, 5, 6, 8, 9, 10] rfl (by decide) (by decide) rfl rfl (Nat.le_of_ble_eq_true rfl) ⟨Nat.zero_le _, Nat.zero_le _⟩ dX4_multiply_49 52 rfl (fun u hu => ?_)
          show TGo X [(qnum, .inl (cI, 80, .inl fnum)), (qbase, .inl (cI, 80, .inl fb)), (qden, .inl (cI, 80, .inl fd)), (qquo, .inl (cI, 80, .inl fq)), (qrem, .inl (cI, 80, .inl fr)), (qother, .inl (cI, 80, .inl fo)), (qcurrency, .inl (cI, 8, .inl fc)), (qisWide, .inl (cZ, 8, .inl fw)), (qnegative, .inl (cZ, 8, .inl fn)), (h, .inr (4, fs)), (qkept, .inl (cI, 320, .inl K)), (qunits, .inl (cI, 80, .inl (dg V0)))] 0 0 52 [(0, .ref h), (1, .int (iI ((ρ : Nat) : Int))), (2, .int (iI ((α : Nat) : Int))), (3, .long (lI v)), (5, .int (iI ((κ : Nat) : Int)))] []
          refine TGo.sub (ws' := [(h, .inr (4, fs)), (qnum, .inl (cI, 80, .inl fnum)), (qbase, .inl (cI, 80, .inl fb)), (qden, .inl (cI, 80, .inl fd)), (qquo, .inl (cI, 80, .inl fq)), (qrem, .inl (cI, 80, .inl fr)), (qother, .inl (cI, 80, .inl fo)), (qunits, .inl (cI, 80, .inl (dg V0))), (qcurrency, .inl (cI, 8, .inl fc)), (qisWide, .inl (cZ, 8, .inl fw)), (qnegative, .inl (cZ, 8, .inl fn)), (qkept, .inl (cI, 320, .inl K))]) [9, 0, 1, 2, 3, 4, 5, 11, 6, 7, 8, 10] (by decide) rfl ?_
          refine go_aload_n O dX4_multiply_52 rfl 0 rfl 53 rfl ?_
          refine go_get O hK dX4_multiply_53 hinX4 0 rfl rfl 15 (by decide) flX4_44 f_other 56 rfl ?_
          refine go_lload_n O dX4_multiply_56 rfl 3 rfl 57 rfl ?_
          refine go_callvS (rest := []) (wr := [(h, .inr (4, fs)), (qnum, .inl (cI, 80, .inl fnum)), (qbase, .inl (cI, 80, .inl fb)), (qden, .inl (cI, 80, .inl fd)), (qquo, .inl (cI, 80, .inl fq)), (qrem, .inl (cI, 80, .inl fr)), (qunits, .inl (cI, 80, .inl (dg V0))), (qcurrency, .inl (cI, 8, .inl fc)), (qisWide, .inl (cZ, 8, .inl fw)), (qnegative, .inl (cZ, 8, .inl fn)), (qkept, .inl (cI, 320, .inl K))]) O hK hE (c_X4_load E hE qother cI fo v hv) mlX4_100 smX4_load inX4 cdX4_load 2 (by decide +kernel) ⟨Nat.le_of_ble_eq_true rfl, Nat.le_of_ble_eq_true rfl⟩ [0] rfl [6] rfl (by decide) [0, 1, 2, 3, 4, 5, 7, 8, 9, 10, 11] rfl (by decide) (by decide) rfl rfl (Nat.le_of_ble_eq_true rfl) ⟨Nat.zero_le _, Nat.zero_le _⟩ dX4_multiply_57 60 rfl (fun u hu => ?_)
          show TGo X [(h, .inr (4, fs)), (qnum, .inl (cI, 80, .inl fnum)), (qbase, .inl (cI, 80, .inl fb)), (qden, .inl (cI, 80, .inl fd)), (qquo, .inl (cI, 80, .inl fq)), (qrem, .inl (cI, 80, .inl fr)), (qunits, .inl (cI, 80, .inl (dg V0))), (qcurrency, .inl (cI, 8, .inl fc)), (qisWide, .inl (cZ, 8, .inl fw)), (qnegative, .inl (cZ, 8, .inl fn)), (qkept, .inl (cI, 320, .inl K)), (qother, .inl (cI, 80, .inl (dg v.natAbs)))] 0 0 60 [(0, .ref h), (1, .int (iI ((ρ : Nat) : Int))), (2, .int (iI ((α : Nat) : Int))), (3, .long (lI v)), (5, .int (iI ((κ : Nat) : Int)))] []
          refine TGo.sub (ws' := [(h, .inr (4, fs)), (qnum, .inl (cI, 80, .inl fnum)), (qbase, .inl (cI, 80, .inl fb)), (qden, .inl (cI, 80, .inl fd)), (qquo, .inl (cI, 80, .inl fq)), (qrem, .inl (cI, 80, .inl fr)), (qother, .inl (cI, 80, .inl (dg v.natAbs))), (qunits, .inl (cI, 80, .inl (dg V0))), (qcurrency, .inl (cI, 8, .inl fc)), (qisWide, .inl (cZ, 8, .inl fw)), (qnegative, .inl (cZ, 8, .inl fn)), (qkept, .inl (cI, 320, .inl K))]) [0, 1, 2, 3, 4, 5, 11, 6, 7, 8, 9, 10] (by decide) rfl ?_
          refine go_aload_n O dX4_multiply_60 rfl 0 rfl 61 rfl ?_
          refine go_aload_n O dX4_multiply_61 rfl 0 rfl 62 rfl ?_
          refine go_get O hK dX4_multiply_62 hinX4 0 rfl rfl 16 (by decide) flX4_47 f_units 65 rfl ?_
          refine go_aload_n O dX4_multiply_65 rfl 0 rfl 66 rfl ?_
          refine go_get O hK dX4_multiply_66 hinX4 0 rfl rfl 15 (by decide) flX4_44 f_other 69 rfl ?_
          refine go_callvV (As := [.ref qunits, .ref qother]) (rest := []) (wr := [(qbase, .inl (cI, 80, .inl fb)), (qden, .inl (cI, 80, .inl fd)), (qquo, .inl (cI, 80, .inl fq)), (qrem, .inl (cI, 80, .inl fr)), (qcurrency, .inl (cI, 8, .inl fc)), (qisWide, .inl (cZ, 8, .inl fw)), (qnegative, .inl (cZ, 8, .inl fn)), (qkept, .inl (cI, 320, .inl K))]) O hK hE (c_X4_product E hE h fs f_num qunits qother cI V0 v.natAbs fnum (by have := (mul_bd hV0 hv).2; omega) (Nat.lt_of_lt_of_le (mul_bd hV0 hv).1 (p10le (by omega)))) mlX4_138 imX4_product seX4_product inX4 cdX4_product 2 (by decide +kernel) ⟨Nat.le_of_ble_eq_true rfl, Nat.le_of_ble_eq_true rfl⟩ 0 rfl rfl [0] rfl [0, 1, 7, 6] rfl (by decide) [2, 3, 4, 5, 8, 9, 10, 11] rfl (by decide) (by decide) rfl rfl (Nat.le_of_ble_eq_true rfl) ⟨Nat.zero_le _, Nat.zero_le _⟩ dX4_multiply_69 72 rfl (fun u hu => ?_)
          show TGo X [(qbase, .inl (cI, 80, .inl fb)), (qden, .inl (cI, 80, .inl fd)), (qquo, .inl (cI, 80, .inl fq)), (qrem, .inl (cI, 80, .inl fr)), (qcurrency, .inl (cI, 8, .inl fc)), (qisWide, .inl (cZ, 8, .inl fw)), (qnegative, .inl (cZ, 8, .inl fn)), (qkept, .inl (cI, 320, .inl K)), (h, .inr (4, fs)), (qnum, .inl (cI, 80, .inl (dg (V0 * v.natAbs)))), (qunits, .inl (cI, 80, .inl (dg V0))), (qother, .inl (cI, 80, .inl (dg v.natAbs)))] 0 0 72 [(0, .ref h), (1, .int (iI ((ρ : Nat) : Int))), (2, .int (iI ((α : Nat) : Int))), (3, .long (lI v)), (5, .int (iI ((κ : Nat) : Int)))] []
          refine TGo.sub (ws' := [(h, .inr (4, fs)), (qnum, .inl (cI, 80, .inl (dg (V0 * v.natAbs)))), (qbase, .inl (cI, 80, .inl fb)), (qden, .inl (cI, 80, .inl fd)), (qquo, .inl (cI, 80, .inl fq)), (qrem, .inl (cI, 80, .inl fr)), (qother, .inl (cI, 80, .inl (dg v.natAbs))), (qunits, .inl (cI, 80, .inl (dg V0))), (qcurrency, .inl (cI, 8, .inl fc)), (qisWide, .inl (cZ, 8, .inl fw)), (qnegative, .inl (cZ, 8, .inl fn)), (qkept, .inl (cI, 320, .inl K))]) [8, 9, 0, 1, 2, 3, 11, 10, 4, 5, 6, 7] (by decide) rfl ?_
          refine go_aload_n O dX4_multiply_72 rfl 0 rfl 73 rfl ?_
          refine go_get O hK dX4_multiply_73 hinX4 0 rfl rfl 11 (by decide) flX4_32 f_base 76 rfl ?_
          refine go_lconst O dX4_multiply_76 1 rfl 77 rfl ?_
          refine go_callvS (rest := []) (wr := [(h, .inr (4, fs)), (qnum, .inl (cI, 80, .inl (dg (V0 * v.natAbs)))), (qden, .inl (cI, 80, .inl fd)), (qquo, .inl (cI, 80, .inl fq)), (qrem, .inl (cI, 80, .inl fr)), (qother, .inl (cI, 80, .inl (dg v.natAbs))), (qunits, .inl (cI, 80, .inl (dg V0))), (qcurrency, .inl (cI, 8, .inl fc)), (qisWide, .inl (cZ, 8, .inl fw)), (qnegative, .inl (cZ, 8, .inl fn)), (qkept, .inl (cI, 320, .inl K))]) O hK hE (c_X4_load E hE qbase cI fb 1 (by omega)) mlX4_100 smX4_load inX4 cdX4_load 2 (by decide +kernel) ⟨Nat.le_of_ble_eq_true rfl, Nat.le_of_ble_eq_true rfl⟩ [0] rfl [2] rfl (by decide) [0, 1, 3, 4, 5, 6, 7, 8, 9, 10, 11] rfl (by decide) (by decide) rfl rfl (Nat.le_of_ble_eq_true rfl) ⟨Nat.zero_le _, Nat.zero_le _⟩ dX4_multiply_77 80 rfl (fun u hu => ?_)
          show TGo X [(h, .inr (4, fs)), (qnum, .inl (cI, 80, .inl (dg (V0 * v.natAbs)))), (qden, .inl (cI, 80, .inl fd)), (qquo, .inl (cI, 80, .inl fq)), (qrem, .inl (cI, 80, .inl fr)), (qother, .inl (cI, 80, .inl (dg v.natAbs))), (qunits, .inl (cI, 80, .inl (dg V0))), (qcurrency, .inl (cI, 8, .inl fc)), (qisWide, .inl (cZ, 8, .inl fw)), (qnegative, .inl (cZ, 8, .inl fn)), (qkept, .inl (cI, 320, .inl K)), (qbase, .inl (cI, 80, .inl (dg (Int.natAbs 1))))] 0 0 80 [(0, .ref h), (1, .int (iI ((ρ : Nat) : Int))), (2, .int (iI ((α : Nat) : Int))), (3, .long (lI v)), (5, .int (iI ((κ : Nat) : Int)))] []
          refine TGo.sub (ws' := [(h, .inr (4, fs)), (qnum, .inl (cI, 80, .inl (dg (V0 * v.natAbs)))), (qbase, .inl (cI, 80, .inl (dg (Int.natAbs 1)))), (qden, .inl (cI, 80, .inl fd)), (qquo, .inl (cI, 80, .inl fq)), (qrem, .inl (cI, 80, .inl fr)), (qother, .inl (cI, 80, .inl (dg v.natAbs))), (qunits, .inl (cI, 80, .inl (dg V0))), (qcurrency, .inl (cI, 8, .inl fc)), (qisWide, .inl (cZ, 8, .inl fw)), (qnegative, .inl (cZ, 8, .inl fn)), (qkept, .inl (cI, 320, .inl K))]) [0, 1, 11, 2, 3, 4, 5, 6, 7, 8, 9, 10] (by decide) rfl ?_
          refine go_aload_n O dX4_multiply_80 rfl 0 rfl 81 rfl ?_
          refine go_get O hK dX4_multiply_81 hinX4 0 rfl rfl 11 (by decide) flX4_32 f_base 84 rfl ?_
          refine go_iload O dX4_multiply_84 4 rfl 86 rfl ?_
          refine go_callvS (rest := []) (wr := [(h, .inr (4, fs)), (qnum, .inl (cI, 80, .inl (dg (V0 * v.natAbs)))), (qden, .inl (cI, 80, .inl fd)), (qquo, .inl (cI, 80, .inl fq)), (qrem, .inl (cI, 80, .inl fr)), (qother, .inl (cI, 80, .inl (dg v.natAbs))), (qunits, .inl (cI, 80, .inl (dg V0))), (qcurrency, .inl (cI, 8, .inl fc)), (qisWide, .inl (cZ, 8, .inl fw)), (qnegative, .inl (cZ, 8, .inl fn)), (qkept, .inl (cI, 320, .inl K))]) O hK hE (c_X4_shift E hE qbase cI (Int.natAbs 1) κ (by omega)) mlX4_82 smX4_shift inX4 cdX4_shift 2 (by decide +kernel) ⟨Nat.le_of_ble_eq_true rfl, Nat.le_of_ble_eq_true rfl⟩ [0] rfl [2] rfl (by decide) [0, 1, 3, 4, 5, 6, 7, 8, 9, 10, 11] rfl (by decide) (by decide) rfl rfl (Nat.le_of_ble_eq_true rfl) ⟨Nat.zero_le _, Nat.zero_le _⟩ dX4_multiply_86 89 rfl (fun u hu => ?_)
          show TGo X [(h, .inr (4, fs)), (qnum, .inl (cI, 80, .inl (dg (V0 * v.natAbs)))), (qden, .inl (cI, 80, .inl fd)), (qquo, .inl (cI, 80, .inl fq)), (qrem, .inl (cI, 80, .inl fr)), (qother, .inl (cI, 80, .inl (dg v.natAbs))), (qunits, .inl (cI, 80, .inl (dg V0))), (qcurrency, .inl (cI, 8, .inl fc)), (qisWide, .inl (cZ, 8, .inl fw)), (qnegative, .inl (cZ, 8, .inl fn)), (qkept, .inl (cI, 320, .inl K)), (qbase, .inl (cI, 80, .inl (dg (Int.natAbs 1 * 10 ^ κ))))] 0 0 89 [(0, .ref h), (1, .int (iI ((ρ : Nat) : Int))), (2, .int (iI ((α : Nat) : Int))), (3, .long (lI v)), (5, .int (iI ((κ : Nat) : Int)))] []
          refine TGo.sub (ws' := [(h, .inr (4, fs)), (qnum, .inl (cI, 80, .inl (dg (V0 * v.natAbs)))), (qbase, .inl (cI, 80, .inl (dg (Int.natAbs 1 * 10 ^ κ)))), (qden, .inl (cI, 80, .inl fd)), (qquo, .inl (cI, 80, .inl fq)), (qrem, .inl (cI, 80, .inl fr)), (qother, .inl (cI, 80, .inl (dg v.natAbs))), (qunits, .inl (cI, 80, .inl (dg V0))), (qcurrency, .inl (cI, 8, .inl fc)), (qisWide, .inl (cZ, 8, .inl fw)), (qnegative, .inl (cZ, 8, .inl fn)), (qkept, .inl (cI, 320, .inl K))]) [0, 1, 11, 2, 3, 4, 5, 6, 7, 8, 9, 10] (by decide) rfl ?_
          refine go_aload_n O dX4_multiply_89 rfl 0 rfl 90 rfl ?_
          refine go_iload_n O dX4_multiply_90 rfl 1 rfl 91 rfl ?_
          refine go_aload_n O dX4_multiply_91 rfl 0 rfl 92 rfl ?_
          refine go_get O hK dX4_multiply_92 hinX4 0 rfl rfl 3 (by decide) flX4_7 f_currency 95 rfl ?_
          refine go_iload_n O dX4_multiply_95 rfl 2 rfl 96 rfl ?_
          refine go_iald O hK dX4_multiply_96 8 0 rfl rfl α rfl (by omega) (by omega) c0 e1 97 rfl ?_
          refine go_aload_n O dX4_multiply_97 rfl 0 rfl 98 rfl ?_
          refine go_get O hK dX4_multiply_98 hinX4 0 rfl rfl 4 (by decide) flX4_13 f_isWide 101 rfl ?_
          refine go_iload_n O dX4_multiply_101 rfl 2 rfl 102 rfl ?_
          refine go_zald O hK dX4_multiply_102 9 1 rfl rfl α rfl (by omega) (by omega) (bz w0) e2 103 rfl ?_
          refine go_aload_n O dX4_multiply_103 rfl 0 rfl 104 rfl ?_
          refine go_get O hK dX4_multiply_104 hinX4 0 rfl rfl 5 (by decide) flX4_17 f_negative 107 rfl ?_
          refine go_iload_n O dX4_multiply_107 rfl 2 rfl 108 rfl ?_
          refine go_zald O hK dX4_multiply_108 10 1 rfl rfl α rfl (by omega) (by omega) (bz n0) e3 109 rfl ?_
          refine go_lload_n O dX4_multiply_109 rfl 3 rfl 110 rfl ?_
          refine go_lconst O dX4_multiply_110 0 rfl 111 rfl ?_
          refine go_lcmp O dX4_multiply_111 (by omega) (by omega) 112 rfl ?_
          refine go_if_ge O dX4_multiply_112 119 (by decide) 115 rfl (cmpZ_r _ _) (fun h112 => ?_) (fun h112 => ?_)
          · refine go_iconst O dX4_multiply_119 120 rfl ?_
            refine go_icmp_eq O dX4_multiply_120 127 (by decide) 123 rfl (by omega) (by omega) (fun h120 => ?_) (fun h120 => ?_)
            · refine go_iconst O dX4_multiply_127 128 rfl ?_
              refine TGo.topi (y := bz (n0 != decide (v < 0))) (band_y (by omega)) ?_
              refine go_calliV (As := [.int (iI ((ρ : Nat) : Int)), .int (iI c0), .int (iI (bz w0)), .int (iI (bz (n0 != decide (v < 0))))]) (rest := []) (wr := [(qunits, .inl (cI, 80, .inl (dg V0)))]) O hK hE (c_X4_settle E hE h fs f_p f_s f_m f_base f_den f_num f_quo f_rem f_other f_currency f_isWide f_negative f_kept cI cZ P Sc hp hP hs hS hm ρ (V0 * v.natAbs) (Int.natAbs 1 * 10 ^ κ) c0 (fd) (fq) (fr) (dg v.natAbs) fc fw fn K reg w0 (n0 != decide (v < 0)) (by omega) (by omega) (Nat.lt_of_lt_of_le (mul_bd hV0 hv).1 (p10le (by omega))) (pk_bd (by omega)).1 (pk_bd (by omega)).2 hMR) mlX4_127 imX4_settle seX4_settle inX4 cdX4_settle 4 (by decide +kernel) ⟨Nat.le_of_ble_eq_true rfl, Nat.le_of_ble_eq_true rfl⟩ 0 rfl rfl [0, 1] rfl [0, 1, 2, 3, 4, 5, 6, 8, 9, 10, 11] rfl (by decide) [7] rfl (by decide) (by decide) rfl rfl (Nat.le_of_ble_eq_true rfl) ⟨Nat.zero_le _, Nat.zero_le _⟩ dX4_multiply_128 131 rfl (fun z u hu => ?_)
              obtain ⟨fd2, fq2, fr2, fo2, fc2, fw2, fn2, K2⟩ := u
              obtain ⟨rfl, hMR2⟩ := hu
              show TGo X [(qunits, .inl (cI, 80, .inl (dg V0))), (h, .inr (4, fs)), (qnum, .inl (cI, 80, .inl (dg (V0 * v.natAbs)))), (qbase, .inl (cI, 80, .inl (dg (Int.natAbs 1 * 10 ^ κ)))), (qden, .inl (cI, 80, .inl fd2)), (qquo, .inl (cI, 80, .inl fq2)), (qrem, .inl (cI, 80, .inl fr2)), (qother, .inl (cI, 80, .inl fo2)), (qcurrency, .inl (cI, 8, .inl fc2)), (qisWide, .inl (cZ, 8, .inl fw2)), (qnegative, .inl (cZ, 8, .inl fn2)), (qkept, .inl (cI, 320, .inl K2))] 0 0 131 [(0, .ref h), (1, .int (iI ((ρ : Nat) : Int))), (2, .int (iI ((α : Nat) : Int))), (3, .long (lI v)), (5, .int (iI ((κ : Nat) : Int)))] [.int (iI (ansO (tstl P Sc m w0 (n0 != decide (v < 0)) (V0 * v.natAbs) (Int.natAbs 1 * 10 ^ κ))))]
              refine TGo.sub (ws' := [(h, .inr (4, fs)), (qnum, .inl (cI, 80, .inl (dg (V0 * v.natAbs)))), (qbase, .inl (cI, 80, .inl (dg (Int.natAbs 1 * 10 ^ κ)))), (qden, .inl (cI, 80, .inl fd2)), (qquo, .inl (cI, 80, .inl fq2)), (qrem, .inl (cI, 80, .inl fr2)), (qother, .inl (cI, 80, .inl fo2)), (qunits, .inl (cI, 80, .inl (dg V0))), (qcurrency, .inl (cI, 8, .inl fc2)), (qisWide, .inl (cZ, 8, .inl fw2)), (qnegative, .inl (cZ, 8, .inl fn2)), (qkept, .inl (cI, 320, .inl K2))]) [1, 2, 3, 4, 5, 6, 7, 0, 8, 9, 10, 11] (by decide) rfl ?_
              have he := spMul_ok (P := P) (Sc := Sc) (m := m) (v := v) hb3 hq
              exact hret _ _ _ (dg (V0 * v.natAbs), dg (Int.natAbs 1 * 10 ^ κ), fd2, fq2, fr2, fo2, dg V0, fc2, fw2, fn2, K2) dX4_multiply_131 rfl ⟨by rw [he], by rw [he]; exact hMR2⟩
            · refine go_iconst O dX4_multiply_123 124 rfl ?_
              refine go_goto O dX4_multiply_124 128 (by decide) ?_
              refine TGo.topi (y := bz (n0 != decide (v < 0))) (band_x (by omega)) ?_
              refine go_calliV (As := [.int (iI ((ρ : Nat) : Int)), .int (iI c0), .int (iI (bz w0)), .int (iI (bz (n0 != decide (v < 0))))]) (rest := []) (wr := [(qunits, .inl (cI, 80, .inl (dg V0)))]) O hK hE (c_X4_settle E hE h fs f_p f_s f_m f_base f_den f_num f_quo f_rem f_other f_currency f_isWide f_negative f_kept cI cZ P Sc hp hP hs hS hm ρ (V0 * v.natAbs) (Int.natAbs 1 * 10 ^ κ) c0 (fd) (fq) (fr) (dg v.natAbs) fc fw fn K reg w0 (n0 != decide (v < 0)) (by omega) (by omega) (Nat.lt_of_lt_of_le (mul_bd hV0 hv).1 (p10le (by omega))) (pk_bd (by omega)).1 (pk_bd (by omega)).2 hMR) mlX4_127 imX4_settle seX4_settle inX4 cdX4_settle 4 (by decide +kernel) ⟨Nat.le_of_ble_eq_true rfl, Nat.le_of_ble_eq_true rfl⟩ 0 rfl rfl [0, 1] rfl [0, 1, 2, 3, 4, 5, 6, 8, 9, 10, 11] rfl (by decide) [7] rfl (by decide) (by decide) rfl rfl (Nat.le_of_ble_eq_true rfl) ⟨Nat.zero_le _, Nat.zero_le _⟩ dX4_multiply_128 131 rfl (fun z u hu => ?_)
              obtain ⟨fd2, fq2, fr2, fo2, fc2, fw2, fn2, K2⟩ := u
              obtain ⟨rfl, hMR2⟩ := hu
              show TGo X [(qunits, .inl (cI, 80, .inl (dg V0))), (h, .inr (4, fs)), (qnum, .inl (cI, 80, .inl (dg (V0 * v.natAbs)))), (qbase, .inl (cI, 80, .inl (dg (Int.natAbs 1 * 10 ^ κ)))), (qden, .inl (cI, 80, .inl fd2)), (qquo, .inl (cI, 80, .inl fq2)), (qrem, .inl (cI, 80, .inl fr2)), (qother, .inl (cI, 80, .inl fo2)), (qcurrency, .inl (cI, 8, .inl fc2)), (qisWide, .inl (cZ, 8, .inl fw2)), (qnegative, .inl (cZ, 8, .inl fn2)), (qkept, .inl (cI, 320, .inl K2))] 0 0 131 [(0, .ref h), (1, .int (iI ((ρ : Nat) : Int))), (2, .int (iI ((α : Nat) : Int))), (3, .long (lI v)), (5, .int (iI ((κ : Nat) : Int)))] [.int (iI (ansO (tstl P Sc m w0 (n0 != decide (v < 0)) (V0 * v.natAbs) (Int.natAbs 1 * 10 ^ κ))))]
              refine TGo.sub (ws' := [(h, .inr (4, fs)), (qnum, .inl (cI, 80, .inl (dg (V0 * v.natAbs)))), (qbase, .inl (cI, 80, .inl (dg (Int.natAbs 1 * 10 ^ κ)))), (qden, .inl (cI, 80, .inl fd2)), (qquo, .inl (cI, 80, .inl fq2)), (qrem, .inl (cI, 80, .inl fr2)), (qother, .inl (cI, 80, .inl fo2)), (qunits, .inl (cI, 80, .inl (dg V0))), (qcurrency, .inl (cI, 8, .inl fc2)), (qisWide, .inl (cZ, 8, .inl fw2)), (qnegative, .inl (cZ, 8, .inl fn2)), (qkept, .inl (cI, 320, .inl K2))]) [1, 2, 3, 4, 5, 6, 7, 0, 8, 9, 10, 11] (by decide) rfl ?_
              have he := spMul_ok (P := P) (Sc := Sc) (m := m) (v := v) hb3 hq
              exact hret _ _ _ (dg (V0 * v.natAbs), dg (Int.natAbs 1 * 10 ^ κ), fd2, fq2, fr2, fo2, dg V0, fc2, fw2, fn2, K2) dX4_multiply_131 rfl ⟨by rw [he], by rw [he]; exact hMR2⟩
          · refine go_iconst O dX4_multiply_115 116 rfl ?_
            refine go_goto O dX4_multiply_116 120 (by decide) ?_
            refine go_icmp_eq O dX4_multiply_120 127 (by decide) 123 rfl (by omega) (by omega) (fun h120 => ?_) (fun h120 => ?_)
            · refine go_iconst O dX4_multiply_127 128 rfl ?_
              refine TGo.topi (y := bz (n0 != decide (v < 0))) (band_y (by omega)) ?_
              refine go_calliV (As := [.int (iI ((ρ : Nat) : Int)), .int (iI c0), .int (iI (bz w0)), .int (iI (bz (n0 != decide (v < 0))))]) (rest := []) (wr := [(qunits, .inl (cI, 80, .inl (dg V0)))]) O hK hE (c_X4_settle E hE h fs f_p f_s f_m f_base f_den f_num f_quo f_rem f_other f_currency f_isWide f_negative f_kept cI cZ P Sc hp hP hs hS hm ρ (V0 * v.natAbs) (Int.natAbs 1 * 10 ^ κ) c0 (fd) (fq) (fr) (dg v.natAbs) fc fw fn K reg w0 (n0 != decide (v < 0)) (by omega) (by omega) (Nat.lt_of_lt_of_le (mul_bd hV0 hv).1 (p10le (by omega))) (pk_bd (by omega)).1 (pk_bd (by omega)).2 hMR) mlX4_127 imX4_settle seX4_settle inX4 cdX4_settle 4 (by decide +kernel) ⟨Nat.le_of_ble_eq_true rfl, Nat.le_of_ble_eq_true rfl⟩ 0 rfl rfl [0, 1] rfl [0, 1, 2, 3, 4, 5, 6, 8, 9, 10, 11] rfl (by decide) [7] rfl (by decide) (by decide) rfl rfl (Nat.le_of_ble_eq_true rfl) ⟨Nat.zero_le _, Nat.zero_le _⟩ dX4_multiply_128 131 rfl (fun z u hu => ?_)
              obtain ⟨fd2, fq2, fr2, fo2, fc2, fw2, fn2, K2⟩ := u
              obtain ⟨rfl, hMR2⟩ := hu
              show TGo X [(qunits, .inl (cI, 80, .inl (dg V0))), (h, .inr (4, fs)), (qnum, .inl (cI, 80, .inl (dg (V0 * v.natAbs)))), (qbase, .inl (cI, 80, .inl (dg (Int.natAbs 1 * 10 ^ κ)))), (qden, .inl (cI, 80, .inl fd2)), (qquo, .inl (cI, 80, .inl fq2)), (qrem, .inl (cI, 80, .inl fr2)), (qother, .inl (cI, 80, .inl fo2)), (qcurrency, .inl (cI, 8, .inl fc2)), (qisWide, .inl (cZ, 8, .inl fw2)), (qnegative, .inl (cZ, 8, .inl fn2)), (qkept, .inl (cI, 320, .inl K2))] 0 0 131 [(0, .ref h), (1, .int (iI ((ρ : Nat) : Int))), (2, .int (iI ((α : Nat) : Int))), (3, .long (lI v)), (5, .int (iI ((κ : Nat) : Int)))] [.int (iI (ansO (tstl P Sc m w0 (n0 != decide (v < 0)) (V0 * v.natAbs) (Int.natAbs 1 * 10 ^ κ))))]
              refine TGo.sub (ws' := [(h, .inr (4, fs)), (qnum, .inl (cI, 80, .inl (dg (V0 * v.natAbs)))), (qbase, .inl (cI, 80, .inl (dg (Int.natAbs 1 * 10 ^ κ)))), (qden, .inl (cI, 80, .inl fd2)), (qquo, .inl (cI, 80, .inl fq2)), (qrem, .inl (cI, 80, .inl fr2)), (qother, .inl (cI, 80, .inl fo2)), (qunits, .inl (cI, 80, .inl (dg V0))), (qcurrency, .inl (cI, 8, .inl fc2)), (qisWide, .inl (cZ, 8, .inl fw2)), (qnegative, .inl (cZ, 8, .inl fn2)), (qkept, .inl (cI, 320, .inl K2))]) [1, 2, 3, 4, 5, 6, 7, 0, 8, 9, 10, 11] (by decide) rfl ?_
              have he := spMul_ok (P := P) (Sc := Sc) (m := m) (v := v) hb3 hq
              exact hret _ _ _ (dg (V0 * v.natAbs), dg (Int.natAbs 1 * 10 ^ κ), fd2, fq2, fr2, fo2, dg V0, fc2, fw2, fn2, K2) dX4_multiply_131 rfl ⟨by rw [he], by rw [he]; exact hMR2⟩
            · refine go_iconst O dX4_multiply_123 124 rfl ?_
              refine go_goto O dX4_multiply_124 128 (by decide) ?_
              refine TGo.topi (y := bz (n0 != decide (v < 0))) (band_x (by omega)) ?_
              refine go_calliV (As := [.int (iI ((ρ : Nat) : Int)), .int (iI c0), .int (iI (bz w0)), .int (iI (bz (n0 != decide (v < 0))))]) (rest := []) (wr := [(qunits, .inl (cI, 80, .inl (dg V0)))]) O hK hE (c_X4_settle E hE h fs f_p f_s f_m f_base f_den f_num f_quo f_rem f_other f_currency f_isWide f_negative f_kept cI cZ P Sc hp hP hs hS hm ρ (V0 * v.natAbs) (Int.natAbs 1 * 10 ^ κ) c0 (fd) (fq) (fr) (dg v.natAbs) fc fw fn K reg w0 (n0 != decide (v < 0)) (by omega) (by omega) (Nat.lt_of_lt_of_le (mul_bd hV0 hv).1 (p10le (by omega))) (pk_bd (by omega)).1 (pk_bd (by omega)).2 hMR) mlX4_127 imX4_settle seX4_settle inX4 cdX4_settle 4 (by decide +kernel) ⟨Nat.le_of_ble_eq_true rfl, Nat.le_of_ble_eq_true rfl⟩ 0 rfl rfl [0, 1] rfl [0, 1, 2, 3, 4, 5, 6, 8, 9, 10, 11] rfl (by decide) [7] rfl (by decide) (by decide) rfl rfl (Nat.le_of_ble_eq_true rfl) ⟨Nat.zero_le _, Nat.zero_le _⟩ dX4_multiply_128 131 rfl (fun z u hu => ?_)
              obtain ⟨fd2, fq2, fr2, fo2, fc2, fw2, fn2, K2⟩ := u
              obtain ⟨rfl, hMR2⟩ := hu
              show TGo X [(qunits, .inl (cI, 80, .inl (dg V0))), (h, .inr (4, fs)), (qnum, .inl (cI, 80, .inl (dg (V0 * v.natAbs)))), (qbase, .inl (cI, 80, .inl (dg (Int.natAbs 1 * 10 ^ κ)))), (qden, .inl (cI, 80, .inl fd2)), (qquo, .inl (cI, 80, .inl fq2)), (qrem, .inl (cI, 80, .inl fr2)), (qother, .inl (cI, 80, .inl fo2)), (qcurrency, .inl (cI, 8, .inl fc2)), (qisWide, .inl (cZ, 8, .inl fw2)), (qnegative, .inl (cZ, 8, .inl fn2)), (qkept, .inl (cI, 320, .inl K2))] 0 0 131 [(0, .ref h), (1, .int (iI ((ρ : Nat) : Int))), (2, .int (iI ((α : Nat) : Int))), (3, .long (lI v)), (5, .int (iI ((κ : Nat) : Int)))] [.int (iI (ansO (tstl P Sc m w0 (n0 != decide (v < 0)) (V0 * v.natAbs) (Int.natAbs 1 * 10 ^ κ))))]
              refine TGo.sub (ws' := [(h, .inr (4, fs)), (qnum, .inl (cI, 80, .inl (dg (V0 * v.natAbs)))), (qbase, .inl (cI, 80, .inl (dg (Int.natAbs 1 * 10 ^ κ)))), (qden, .inl (cI, 80, .inl fd2)), (qquo, .inl (cI, 80, .inl fq2)), (qrem, .inl (cI, 80, .inl fr2)), (qother, .inl (cI, 80, .inl fo2)), (qunits, .inl (cI, 80, .inl (dg V0))), (qcurrency, .inl (cI, 8, .inl fc2)), (qisWide, .inl (cZ, 8, .inl fw2)), (qnegative, .inl (cZ, 8, .inl fn2)), (qkept, .inl (cI, 320, .inl K2))]) [1, 2, 3, 4, 5, 6, 7, 0, 8, 9, 10, 11] (by decide) rfl ?_
              have he := spMul_ok (P := P) (Sc := Sc) (m := m) (v := v) hb3 hq
              exact hret _ _ _ (dg (V0 * v.natAbs), dg (Int.natAbs 1 * 10 ^ κ), fd2, fq2, fr2, fo2, dg V0, fc2, fw2, fn2, K2) dX4_multiply_131 rfl ⟨by rw [he], by rw [he]; exact hMR2⟩
      · refine go_bipush O dX4_multiply_28 (by decide) 30 rfl ?_
        have he := spMul_bad (P := P) (Sc := Sc) (m := m) (reg := reg) (r := r) (a := a) (v := v) (k := k) (by omega)
        exact hret _ _ _ (fnum, fb, fd, fq, fr, fo, fu, fc, fw, fn, K) dX4_multiply_30 rfl ⟨by rw [he], by rw [he]; exact hMR⟩
set_option maxHeartbeats 4000000 in
set_option maxRecDepth 100000 in
/-- divide -/
theorem c_X4_divide (E : TEn) (hE : EnvOk E) (h : Nat) (fs : List Value) {p s m : Int} {qbase qden qnum qquo qrem qother qcurrency qisWide qnegative qkept qunits : Nat} (f_p : fs[0]? = some (.int (iI p))) (f_s : fs[1]? = some (.int (iI s))) (f_m : fs[2]? = some (.int (iI m))) (f_base : fs[11]? = some (.ref qbase)) (f_den : fs[12]? = some (.ref qden)) (f_num : fs[10]? = some (.ref qnum)) (f_quo : fs[13]? = some (.ref qquo)) (f_rem : fs[14]? = some (.ref qrem)) (f_other : fs[15]? = some (.ref qother)) (f_currency : fs[3]? = some (.ref qcurrency)) (f_isWide : fs[4]? = some (.ref qisWide)) (f_negative : fs[5]? = some (.ref qnegative)) (f_kept : fs[6]? = some (.ref qkept)) (f_units : fs[16]? = some (.ref qunits)) (cI cZ : ClassId) (P Sc : Nat) (hp : p = (P : Int)) (hP : 19 ≤ P ∧ P ≤ 30) (hs : s = (Sc : Int)) (hS : 5 ≤ Sc ∧ Sc ≤ 10) (hm : 0 ≤ m ∧ m ≤ 6) (fnum fb fd fq fr fo fu fc fw fn K : Nat → Int32) (reg : Rg) (r a v k : Int) (hr : r32 r) (ha : r32 a) (hk : r32 k) (hv : r64 v) (hMR : MR fc fw fn K reg) : Cti vwCl E yX4_divide wsX4_divide (rmn 4 99) [.ref h, .int (iI r), .int (iI a), .long (lI v), .int (iI k)] [(h, .inr (4, fs)), (qnum, .inl (cI, 80, .inl fnum)), (qbase, .inl (cI, 80, .inl fb)), (qden, .inl (cI, 80, .inl fd)), (qquo, .inl (cI, 80, .inl fq)), (qrem, .inl (cI, 80, .inl fr)), (qother, .inl (cI, 80, .inl fo)), (qunits, .inl (cI, 80, .inl fu)), (qcurrency, .inl (cI, 8, .inl fc)), (qisWide, .inl (cZ, 8, .inl fw)), (qnegative, .inl (cZ, 8, .inl fn)), (qkept, .inl (cI, 320, .inl K))] [(cI, .int), (cZ, .boolean)] (fun (z : Int) (u : (Nat → Int32) × (Nat → Int32) × (Nat → Int32) × (Nat → Int32) × (Nat → Int32) × (Nat → Int32) × (Nat → Int32) × (Nat → Int32) × (Nat → Int32) × (Nat → Int32) × (Nat → Int32)) => z = (spDiv P Sc m reg r a v k).1 ∧ MR u.2.2.2.2.2.2.2.1 u.2.2.2.2.2.2.2.2.1 u.2.2.2.2.2.2.2.2.2.1 u.2.2.2.2.2.2.2.2.2.2 (spDiv P Sc m reg r a v k).2) (fun u => [(h, .inr (4, fs)), (qnum, .inl (cI, 80, .inl u.1)), (qbase, .inl (cI, 80, .inl u.2.1)), (qden, .inl (cI, 80, .inl u.2.2.1)), (qquo, .inl (cI, 80, .inl u.2.2.2.1)), (qrem, .inl (cI, 80, .inl u.2.2.2.2.1)), (qother, .inl (cI, 80, .inl u.2.2.2.2.2.1)), (qunits, .inl (cI, 80, .inl u.2.2.2.2.2.2.1)), (qcurrency, .inl (cI, 8, .inl u.2.2.2.2.2.2.2.1)), (qisWide, .inl (cZ, 8, .inl u.2.2.2.2.2.2.2.2.1)), (qnegative, .inl (cZ, 8, .inl u.2.2.2.2.2.2.2.2.2.1)), (qkept, .inl (cI, 320, .inl u.2.2.2.2.2.2.2.2.2.2))]) := by
  refine enteri (by decide) (Nat.le_of_ble_eq_true rfl) ?_
  intro X O hK hin2 hret
  show TGo X [(h, .inr (4, fs)), (qnum, .inl (cI, 80, .inl fnum)), (qbase, .inl (cI, 80, .inl fb)), (qden, .inl (cI, 80, .inl fd)), (qquo, .inl (cI, 80, .inl fq)), (qrem, .inl (cI, 80, .inl fr)), (qother, .inl (cI, 80, .inl fo)), (qunits, .inl (cI, 80, .inl fu)), (qcurrency, .inl (cI, 8, .inl fc)), (qisWide, .inl (cZ, 8, .inl fw)), (qnegative, .inl (cZ, 8, .inl fn)), (qkept, .inl (cI, 320, .inl K))] 0 0 0 [(0, .ref h), (1, .int (iI r)), (2, .int (iI a)), (3, .long (lI v)), (5, .int (iI k))] []
  have o1 := tout_i (x := r) (e := 8)
  have o2 := tout_i (x := a) (e := 8)
  have o3 := tout_i (x := k) (e := 10)
  have hcv := cmpZ_ge (a := v) (b := 0)
  have hcz := cmpZ_eq (a := v) (b := 0)
  refine go_iload_n O dX4_divide_0 rfl 1 rfl 1 rfl ?_
  refine go_bipush O dX4_divide_1 (by decide) 3 rfl ?_
  refine go_calliS (rest := []) (wr := [(h, .inr (4, fs)), (qnum, .inl (cI, 80, .inl fnum)), (qbase, .inl (cI, 80, .inl fb)), (qden, .inl (cI, 80, .inl fd)), (qquo, .inl (cI, 80, .inl fq)), (qrem, .inl (cI, 80, .inl fr)), (qother, .inl (cI, 80, .inl fo)), (qunits, .inl (cI, 80, .inl fu)), (qcurrency, .inl (cI, 8, .inl fc)), (qisWide, .inl (cZ, 8, .inl fw)), (qnegative, .inl (cZ, 8, .inl fn)), (qkept, .inl (cI, 320, .inl K))]) O hK hE (c_X4_outside E hE r 8 (by omega) (by omega)) mlX4_123 smX4_outside inX4 cdX4_outside 2 (by decide +kernel) ⟨Nat.le_of_ble_eq_true rfl, Nat.le_of_ble_eq_true rfl⟩ [] rfl [] rfl (by decide) [0, 1, 2, 3, 4, 5, 6, 7, 8, 9, 10, 11] rfl (by decide) (by decide) rfl rfl (Nat.le_of_ble_eq_true rfl) ⟨Nat.zero_le _, Nat.zero_le _⟩ dX4_divide_3 6 rfl (fun z u hu => ?_)
  subst hu
  show TGo X [(h, .inr (4, fs)), (qnum, .inl (cI, 80, .inl fnum)), (qbase, .inl (cI, 80, .inl fb)), (qden, .inl (cI, 80, .inl fd)), (qquo, .inl (cI, 80, .inl fq)), (qrem, .inl (cI, 80, .inl fr)), (qother, .inl (cI, 80, .inl fo)), (qunits, .inl (cI, 80, .inl fu)), (qcurrency, .inl (cI, 8, .inl fc)), (qisWide, .inl (cZ, 8, .inl fw)), (qnegative, .inl (cZ, 8, .inl fn)), (qkept, .inl (cI, 320, .inl K))] 0 0 6 [(0, .ref h), (1, .int (iI r)), (2, .int (iI a)), (3, .long (lI v)), (5, .int (iI k))] [.int (iI (bz (tout r 8)))]
  refine go_if_ne O dX4_divide_6 28 (by decide) 9 rfl (bz_r _) (fun h6 => ?_) (fun h6 => ?_)
  · refine go_bipush O dX4_divide_28 (by decide) 30 rfl ?_
    have he := spDiv_bad (P := P) (Sc := Sc) (m := m) (reg := reg) (r := r) (a := a) (v := v) (k := k) (by omega)
    exact hret _ _ _ (fnum, fb, fd, fq, fr, fo, fu, fc, fw, fn, K) dX4_divide_30 rfl ⟨by rw [he], by rw [he]; exact hMR⟩
  · refine go_iload_n O dX4_divide_9 rfl 2 rfl 10 rfl ?_
    refine go_bipush O dX4_divide_10 (by decide) 12 rfl ?_
    refine go_calliS (rest := []) (wr := [(h, .inr (4, fs)), (qnum, .inl (cI, 80, .inl fnum)), (qbase, .inl (cI, 80, .inl fb)), (qden, .inl (cI, 80, .inl fd)), (qquo, .inl (cI, 80, .inl fq)), (qrem, .inl (cI, 80, .inl fr)), (qother, .inl (cI, 80, .inl fo)), (qunits, .inl (cI, 80, .inl fu)), (qcurrency, .inl (cI, 8, .inl fc)), (qisWide, .inl (cZ, 8, .inl fw)), (qnegative, .inl (cZ, 8, .inl fn)), (qkept, .inl (cI, 320, .inl K))]) O hK hE (c_X4_outside E hE a 8 (by omega) (by omega)) mlX4_123 smX4_outside inX4 cdX4_outside 2 (by decide +kernel) ⟨Nat.le_of_ble_eq_true rfl, Nat.le_of_ble_eq_true rfl⟩ [] rfl [] rfl (by decide) [0, 1, 2, 3, 4, 5, 6, 7, 8, 9, 10, 11] rfl (by decide) (by decide) rfl rfl (Nat.le_of_ble_eq_true rfl) ⟨Nat.zero_le _, Nat.zero_le _⟩ dX4_divide_12 15 rfl (fun z u hu => ?_)
    subst hu
    show TGo X [(h, .inr (4, fs)), (qnum, .inl (cI, 80, .inl fnum)), (qbase, .inl (cI, 80, .inl fb)), (qden, .inl (cI, 80, .inl fd)), (qquo, .inl (cI, 80, .inl fq)), (qrem, .inl (cI, 80, .inl fr)), (qother, .inl (cI, 80, .inl fo)), (qunits, .inl (cI, 80, .inl fu)), (qcurrency, .inl (cI, 8, .inl fc)), (qisWide, .inl (cZ, 8, .inl fw)), (qnegative, .inl (cZ, 8, .inl fn)), (qkept, .inl (cI, 320, .inl K))] 0 0 15 [(0, .ref h), (1, .int (iI r)), (2, .int (iI a)), (3, .long (lI v)), (5, .int (iI k))] [.int (iI (bz (tout a 8)))]
    refine go_if_ne O dX4_divide_15 28 (by decide) 18 rfl (bz_r _) (fun h15 => ?_) (fun h15 => ?_)
    · refine go_bipush O dX4_divide_28 (by decide) 30 rfl ?_
      have he := spDiv_bad (P := P) (Sc := Sc) (m := m) (reg := reg) (r := r) (a := a) (v := v) (k := k) (by omega)
      exact hret _ _ _ (fnum, fb, fd, fq, fr, fo, fu, fc, fw, fn, K) dX4_divide_30 rfl ⟨by rw [he], by rw [he]; exact hMR⟩
    · refine go_iload O dX4_divide_18 4 rfl 20 rfl ?_
      refine go_bipush O dX4_divide_20 (by decide) 22 rfl ?_
      refine go_calliS (rest := []) (wr := [(h, .inr (4, fs)), (qnum, .inl (cI, 80, .inl fnum)), (qbase, .inl (cI, 80, .inl fb)), (qden, .inl (cI, 80, .inl fd)), (qquo, .inl (cI, 80, .inl fq)), (qrem, .inl (cI, 80, .inl fr)), (qother, .inl (cI, 80, .inl fo)), (qunits, .inl (cI, 80, .inl fu)), (qcurrency, .inl (cI, 8, .inl fc)), (qisWide, .inl (cZ, 8, .inl fw)), (qnegative, .inl (cZ, 8, .inl fn)), (qkept, .inl (cI, 320, .inl K))]) O hK hE (c_X4_outside E hE k 10 (by omega) (by omega)) mlX4_123 smX4_outside inX4 cdX4_outside 2 (by decide +kernel) ⟨Nat.le_of_ble_eq_true rfl, Nat.le_of_ble_eq_true rfl⟩ [] rfl [] rfl (by decide) [0, 1, 2, 3, 4, 5, 6, 7, 8, 9, 10, 11] rfl (by decide) (by decide) rfl rfl (Nat.le_of_ble_eq_true rfl) ⟨Nat.zero_le _, Nat.zero_le _⟩ dX4_divide_22 25 rfl (fun z u hu => ?_)
      subst hu
      show TGo X [(h, .inr (4, fs)), (qnum, .inl (cI, 80, .inl fnum)), (qbase, .inl (cI, 80, .inl fb)), (qden, .inl (cI, 80, .inl fd)), (qquo, .inl (cI, 80, .inl fq)), (qrem, .inl (cI, 80, .inl fr)), (qother, .inl (cI, 80, .inl fo)), (qunits, .inl (cI, 80, .inl fu)), (qcurrency, .inl (cI, 8, .inl fc)), (qisWide, .inl (cZ, 8, .inl fw)), (qnegative, .inl (cZ, 8, .inl fn)), (qkept, .inl (cI, 320, .inl K))] 0 0 25 [(0, .ref h), (1, .int (iI r)), (2, .int (iI a)), (3, .long (lI v)), (5, .int (iI k))] [.int (iI (bz (tout k 10)))]
      refine go_if_eq O dX4_divide_25 31 (by decide) 28 rfl (bz_r _) (fun h25 => ?_) (fun h25 => ?_)
      · obtain ⟨ρ, rfl⟩ : ∃ ρ : Nat, r = (ρ : Int) := ⟨r.toNat, by omega⟩
        obtain ⟨α, rfl⟩ : ∃ α : Nat, a = (α : Int) := ⟨a.toNat, by omega⟩
        obtain ⟨κ, rfl⟩ : ∃ κ : Nat, k = (κ : Int) := ⟨k.toNat, by omega⟩
        have hα := hMR α (by omega)
        have hb3 : ρ < 8 ∧ α < 8 ∧ κ < 10 := by omega
        rcases hq : reg α with _ | ⟨c0, w0, n0, V0⟩
        · rw [hq] at hα
          refine go_aload_n O dX4_divide_31 rfl 0 rfl 32 rfl ?_
          refine go_get O hK dX4_divide_32 hinX4 0 rfl rfl 3 (by decide) flX4_7 f_currency 35 rfl ?_
          refine go_iload_n O dX4_divide_35 rfl 2 rfl 36 rfl ?_
          refine go_iald O hK dX4_divide_36 8 0 rfl rfl α rfl (by omega) (by omega) (-1) hα 37 rfl ?_
          refine go_if_ge O dX4_divide_37 43 (by decide) 40 rfl (by omega) (fun h37 => by omega) (fun h37 => ?_)
          refine go_bipush O dX4_divide_40 (by decide) 42 rfl ?_
          have he := spDiv_no (P := P) (Sc := Sc) (m := m) (v := v) hb3 hq
          exact hret _ _ _ (fnum, fb, fd, fq, fr, fo, fu, fc, fw, fn, K) dX4_divide_42 rfl ⟨by rw [he], by rw [he]; exact hMR⟩
        · rw [hq] at hα
          obtain ⟨hc0, e1, e2, e3, hV0, hz0, hK0⟩ := hα
          have b0 := bz_01 n0
          refine go_aload_n O dX4_divide_31 rfl 0 rfl 32 rfl ?_
          refine go_get O hK dX4_divide_32 hinX4 0 rfl rfl 3 (by decide) flX4_7 f_currency 35 rfl ?_
          refine go_iload_n O dX4_divide_35 rfl 2 rfl 36 rfl ?_
          refine go_iald O hK dX4_divide_36 8 0 rfl rfl α rfl (by omega) (by omega) c0 e1 37 rfl ?_
          refine go_if_ge O dX4_divide_37 43 (by decide) 40 rfl (by omega) (fun h37 => ?_) (fun h37 => by omega)
          refine go_lload_n O dX4_divide_43 rfl 3 rfl 44 rfl ?_
          refine go_lconst O dX4_divide_44 0 rfl 45 rfl ?_
          refine go_lcmp O dX4_divide_45 (by omega) (by omega) 46 rfl ?_
          refine go_if_ne O dX4_divide_46 52 (by decide) 49 rfl (cmpZ_r _ _) (fun h46 => ?_) (fun h46 => ?_)
          · refine go_aload_n O dX4_divide_52 rfl 0 rfl 53 rfl ?_
            refine go_aload_n O dX4_divide_53 rfl 0 rfl 54 rfl ?_
            refine go_get O hK dX4_divide_54 hinX4 0 rfl rfl 10 (by decide) flX4_29 f_num 57 rfl ?_
            refine go_iload_n O dX4_divide_57 rfl 2 rfl 58 rfl ?_
            refine go_callvV (As := [.ref qnum, .int (iI ((α : Nat) : Int))]) (rest := []) (wr := [(qbase, .inl (cI, 80, .inl fb)), (qden, .inl (cI, 80, .inl fd)), (qquo, .inl (cI, 80, .inl fq)), (qrem, .inl (cI, 80, .inl fr)), (qother, .inl (cI, 80, .inl fo)), (qunits, .inl (cI, 80, .inl fu)), (qcurrency, .inl (cI, 8, .inl fc)), (qisWide, .inl (cZ, 8, .inl fw)), (qnegative, .inl (cZ, 8, .inl fn))]) O hK hE (c_X4_take E hE h fs f_kept qnum cI K fnum α V0 (by omega) (by omega) hK0) mlX4_131 imX4_take seX4_take inX4 cdX4_take 2 (by decide +kernel) ⟨Nat.le_of_ble_eq_true rfl, Nat.le_of_ble_eq_true rfl⟩ 0 rfl rfl [0] rfl [0, 11, 1] rfl (by decide) [2, 3, 4, 5, 6, 7, 8, 9, 10] rfl (by decide) (by decide) rfl rfl (Nat.le_of_ble_eq_true rfl) ⟨Nat.zero_le _, Nat.zero_le _⟩ dX4_divide_58 61 rfl (fun u hu => ?_)
            show TGo X [(qbase, .inl (cI, 80, .inl fb)), (qden, .inl (cI, 80, .inl fd)), (qquo, .inl (cI, 80, .inl fq)), (qrem, .inl (cI, 80, .inl fr)), (qother, .inl (cI, 80, .inl fo)), (qunits, .inl (cI, 80, .inl fu)), (qcurrency, .inl (cI, 8, .inl fc)), (qisWide, .inl (cZ, 8, .inl fw)), (qnegative, .inl (cZ, 8, .inl fn)), (h, .inr (4, fs)), (qkept, .inl (cI, 320, .inl K)), (qnum, .inl (cI, 80, .inl (dg V0)))] 0 0 61 [(0, .ref h), (1, .int (iI ((ρ : Nat) : Int))), (2, .int (iI ((α : Nat) : Int))), (3, .long (lI v)), (5, .int (iI ((κ : Nat) : Int)))] []
            refine TGo.sub (ws' := [(h, .inr (4, fs)), (qnum, .inl (cI, 80, .inl (dg V0))), (qbase, .inl (cI, 80, .inl fb)), (qden, .inl (cI, 80, .inl fd)), (qquo, .inl (cI, 80, .inl fq)), (qrem, .inl (cI, 80, .inl fr)), (qother, .inl (cI, 80, .inl fo)), (qunits, .inl (cI, 80, .inl fu)), (qcurrency, .inl (cI, 8, .inl fc)), (qisWide, .inl (cZ, 8, .inl fw)), (qnegative, .inl (cZ, 8, .inl fn)), (qkept, .inl (cI, 320, .inl K))]) [9, 11, 0, 1, 2, 3, 4, 5, 6, 7, 8, 10] (by decide) rfl ?_
            refine go_aload_n O dX4_divide_61 rfl 0 rfl 62 rfl ?_
            refine go_get O hK dX4_divide_62 hinX4 0 rfl rfl 10 (by decide) flX4_29 f_num 65 rfl ?_
            refine go_iload O dX4_divide_65 4 rfl 67 rfl ?_
            refine go_callvS (rest := []) (wr := [(h, .inr (4, fs)), (qbase, .inl (cI, 80, .inl fb)), (qden, .inl (cI, 80, .inl fd)), (qquo, .inl (cI, 80, .inl fq)), (qrem, .inl (cI, 80, .inl fr)), (qother, .inl (cI, 80, .inl fo)), (qunits, .inl (cI, 80, .inl fu)), (qcurrency, .inl (cI, 8, .inl fc)), (qisWide, .inl (cZ, 8, .inl fw)), (qnegative, .inl (cZ, 8, .inl fn)), (qkept, .inl (cI, 320, .inl K))]) O hK hE (c_X4_shift E hE qnum cI V0 κ (by omega)) mlX4_82 smX4_shift inX4 cdX4_shift 2 (by decide +kernel) ⟨Nat.le_of_ble_eq_true rfl, Nat.le_of_ble_eq_true rfl⟩ [0] rfl [1] rfl (by decide) [0, 2, 3, 4, 5, 6, 7, 8, 9, 10, 11] rfl (by decide) (by decide) rfl rfl (Nat.le_of_ble_eq_true rfl) ⟨Nat.zero_le _, Nat.zero_le _⟩ dX4_divide_67 70 rfl (fun u hu => ?_)
            show TGo X [(h, .inr (4, fs)), (qbase, .inl (cI, 80, .inl fb)), (qden, .inl (cI, 80, .inl fd)), (qquo, .inl (cI, 80, .inl fq)), (qrem, .inl (cI, 80, .inl fr)), (qother, .inl (cI, 80, .inl fo)), (qunits, .inl (cI, 80, .inl fu)), (qcurrency, .inl (cI, 8, .inl fc)), (qisWide, .inl (cZ, 8, .inl fw)), (qnegative, .inl (cZ, 8, .inl fn)), (qkept, .inl (cI, 320, .inl K)), (qnum, .inl (cI, 80, .inl (dg (V0 * 10 ^ κ))))] 0 0 70 [(0, .ref h), (1, .int (iI ((ρ : Nat) : Int))), (2, .int (iI ((α : Nat) : Int))), (3, .long (lI v)), (5, .int (iI ((κ : Nat) : Int)))] []
            refine TGo.sub (ws' := [(h, .inr (4, fs)), (qnum, .inl (cI, 80, .inl (dg (V0 * 10 ^ κ)))), (qbase, .inl (cI, 80, .inl fb)), (qden, .inl (cI, 80, .inl fd)), (qquo, .inl (cI, 80, .inl fq)), (qrem, .inl (cI, 80, .inl fr)), (qother, .inl (cI, 80, .inl fo)), (qunits, .inl (cI, 80, .inl fu)), (qcurrency, .inl (cI, 8, .inl fc)), (qisWide, .inl (cZ, 8, .inl fw)), (qnegative, .inl (cZ, 8, .inl fn)), (qkept, .inl (cI, 320, .inl K))]) [0, 11, 1, 2, 3, 4, 5, 6, 7, 8, 9, 10] (by decide) rfl ?_
            refine go_aload_n O dX4_divide_70 rfl 0 rfl 71 rfl ?_
            refine go_get O hK dX4_divide_71 hinX4 0 rfl rfl 11 (by decide) flX4_32 f_base 74 rfl ?_
            refine go_lload_n O dX4_divide_74 rfl 3 rfl 75 rfl ?_
            refine go_callvS (rest := []) (wr := [(h, .inr (4, fs)), (qnum, .inl (cI, 80, .inl (dg (V0 * 10 ^ κ)))), (qden, .inl (cI, 80, .inl fd)), (qquo, .inl (cI, 80, .inl fq)), (qrem, .inl (cI, 80, .inl fr)), (qother, .inl (cI, 80, .inl fo)), (qunits, .inl (cI, 80, .inl fu)), (qcurrency, .inl (cI, 8, .inl fc)), (qisWide, .inl (cZ, 8, .inl fw)), (qnegative, .inl (cZ, 8, .inl fn)), (qkept, .inl (cI, 320, .inl K))]) O hK hE (c_X4_load E hE qbase cI fb v hv) mlX4_100 smX4_load inX4 cdX4_load 2 (by decide +kernel) ⟨Nat.le_of_ble_eq_true rfl, Nat.le_of_ble_eq_true rfl⟩ [0] rfl [2] rfl (by decide) [0, 1, 3, 4, 5, 6, 7, 8, 9, 10, 11] rfl (by decide) (by decide) rfl rfl (Nat.le_of_ble_eq_true rfl) ⟨Nat.zero_le _, Nat.zero_le _⟩ dX4_divide_75 78 rfl (fun u hu => ?_)
            show TGo X [(h, .inr (4, fs)), (qnum, .inl (cI, 80, .inl (dg (V0 * 10 ^ κ)))), (qden, .inl (cI, 80, .inl fd)), (qquo, .inl (cI, 80, .inl fq)), (qrem, .inl (cI, 80, .inl fr)), (qother, .inl (cI, 80, .inl fo)), (qunits, .inl (cI, 80, .inl fu)), (qcurrency, .inl (cI, 8, .inl fc)), (qisWide, .inl (cZ, 8, .inl fw)), (qnegative, .inl (cZ, 8, .inl fn)), (qkept, .inl (cI, 320, .inl K)), (qbase, .inl (cI, 80, .inl (dg v.natAbs)))] 0 0 78 [(0, .ref h), (1, .int (iI ((ρ : Nat) : Int))), (2, .int (iI ((α : Nat) : Int))), (3, .long (lI v)), (5, .int (iI ((κ : Nat) : Int)))] []
            refine TGo.sub (ws' := [(h, .inr (4, fs)), (qnum, .inl (cI, 80, .inl (dg (V0 * 10 ^ κ)))), (qbase, .inl (cI, 80, .inl (dg v.natAbs))), (qden, .inl (cI, 80, .inl fd)), (qquo, .inl (cI, 80, .inl fq)), (qrem, .inl (cI, 80, .inl fr)), (qother, .inl (cI, 80, .inl fo)), (qunits, .inl (cI, 80, .inl fu)), (qcurrency, .inl (cI, 8, .inl fc)), (qisWide, .inl (cZ, 8, .inl fw)), (qnegative, .inl (cZ, 8, .inl fn)), (qkept, .inl (cI, 320, .inl K))]) [0, 1, 11, 2, 3, 4, 5, 6, 7, 8, 9, 10] (by decide) rfl ?_
            refine go_aload_n O dX4_divide_78 rfl 0 rfl 79 rfl ?_
            refine go_iload_n O dX4_divide_79 rfl 1 rfl 80 rfl ?_
            refine go_aload_n O dX4_divide_80 rfl 0 rfl 81 rfl ?_
            refine go_get O hK dX4_divide_81 hinX4 0 rfl rfl 3 (by decide) flX4_7 f_currency 84 rfl ?_
            refine go_iload_n O dX4_divide_84 rfl 2 rfl 85 rfl ?_
            refine go_iald O hK dX4_divide_85 8 0 rfl rfl α rfl (by omega) (by omega) c0 e1 86 rfl ?_
            refine go_aload_n O dX4_divide_86 rfl 0 rfl 87 rfl ?_
            refine go_get O hK dX4_divide_87 hinX4 0 rfl rfl 4 (by decide) flX4_13 f_isWide 90 rfl ?_
            refine go_iload_n O dX4_divide_90 rfl 2 rfl 91 rfl ?_
            refine go_zald O hK dX4_divide_91 9 1 rfl rfl α rfl (by omega) (by omega) (bz w0) e2 92 rfl ?_
            refine go_aload_n O dX4_divide_92 rfl 0 rfl 93 rfl ?_
            refine go_get O hK dX4_divide_93 hinX4 0 rfl rfl 5 (by decide) flX4_17 f_negative 96 rfl ?_
            refine go_iload_n O dX4_divide_96 rfl 2 rfl 97 rfl ?_
            refine go_zald O hK dX4_divide_97 10 1 rfl rfl α rfl (by omega) (by omega) (bz n0) e3 98 rfl ?_
            refine go_lload_n O dX4_divide_98 rfl 3 rfl 99 rfl ?_
            refine go_lconst O dX4_divide_99 0 rfl 100 rfl ?_
            refine go_lcmp O dX4_divide_100 (by omega) (by omega) 101 rfl ?_
            refine go_if_ge O dX4_divide_101 108 (by decide) 104 rfl (cmpZ_r _ _) (fun h101 => ?_) (fun h101 => ?_)
            · refine go_iconst O dX4_divide_108 109 rfl ?_
              refine go_icmp_eq O dX4_divide_109 116 (by decide) 112 rfl (by omega) (by omega) (fun h109 => ?_) (fun h109 => ?_)
              · refine go_iconst O dX4_divide_116 117 rfl ?_
                refine TGo.topi (y := bz (n0 != decide (v < 0))) (band_y (by omega)) ?_
                refine go_calliV (As := [.int (iI ((ρ : Nat) : Int)), .int (iI c0), .int (iI (bz w0)), .int (iI (bz (n0 != decide (v < 0))))]) (rest := []) (wr := [(qunits, .inl (cI, 80, .inl fu))]) O hK hE (c_X4_settle E hE h fs f_p f_s f_m f_base f_den f_num f_quo f_rem f_other f_currency f_isWide f_negative f_kept cI cZ P Sc hp hP hs hS hm ρ (V0 * 10 ^ κ) (v.natAbs) c0 (fd) (fq) (fr) (fo) fc fw fn K reg w0 (n0 != decide (v < 0)) (by omega) (by omega) (Nat.lt_of_lt_of_le (div_bd hV0 (by omega)) (p10le (by omega))) (by omega) (by omega) hMR) mlX4_127 imX4_settle seX4_settle inX4 cdX4_settle 4 (by decide +kernel) ⟨Nat.le_of_ble_eq_true rfl, Nat.le_of_ble_eq_true rfl⟩ 0 rfl rfl [0, 1] rfl [0, 1, 2, 3, 4, 5, 6, 8, 9, 10, 11] rfl (by decide) [7] rfl (by decide) (by decide) rfl rfl (Nat.le_of_ble_eq_true rfl) ⟨Nat.zero_le _, Nat.zero_le _⟩ dX4_divide_117 120 rfl (fun z u hu => ?_)
                obtain ⟨fd2, fq2, fr2, fo2, fc2, fw2, fn2, K2⟩ := u
                obtain ⟨rfl, hMR2⟩ := hu
                show TGo X [(qunits, .inl (cI, 80, .inl fu)), (h, .inr (4, fs)), (qnum, .inl (cI, 80, .inl (dg (V0 * 10 ^ κ)))), (qbase, .inl (cI, 80, .inl (dg (v.natAbs)))), (qden, .inl (cI, 80, .inl fd2)), (qquo, .inl (cI, 80, .inl fq2)), (qrem, .inl (cI, 80, .inl fr2)), (qother, .inl (cI, 80, .inl fo2)), (qcurrency, .inl (cI, 8, .inl fc2)), (qisWide, .inl (cZ, 8, .inl fw2)), (qnegative, .inl (cZ, 8, .inl fn2)), (qkept, .inl (cI, 320, .inl K2))] 0 0 120 [(0, .ref h), (1, .int (iI ((ρ : Nat) : Int))), (2, .int (iI ((α : Nat) : Int))), (3, .long (lI v)), (5, .int (iI ((κ : Nat) : Int)))] [.int (iI (ansO (tstl P Sc m w0 (n0 != decide (v < 0)) (V0 * 10 ^ κ) (v.natAbs))))]
                refine TGo.sub (ws' := [(h, .inr (4, fs)), (qnum, .inl (cI, 80, .inl (dg (V0 * 10 ^ κ)))), (qbase, .inl (cI, 80, .inl (dg (v.natAbs)))), (qden, .inl (cI, 80, .inl fd2)), (qquo, .inl (cI, 80, .inl fq2)), (qrem, .inl (cI, 80, .inl fr2)), (qother, .inl (cI, 80, .inl fo2)), (qunits, .inl (cI, 80, .inl fu)), (qcurrency, .inl (cI, 8, .inl fc2)), (qisWide, .inl (cZ, 8, .inl fw2)), (qnegative, .inl (cZ, 8, .inl fn2)), (qkept, .inl (cI, 320, .inl K2))]) [1, 2, 3, 4, 5, 6, 7, 0, 8, 9, 10, 11] (by decide) rfl ?_
                have he := spDiv_ok (P := P) (Sc := Sc) (m := m) (v := v) hb3 hq (by omega)
                exact hret _ _ _ (dg (V0 * 10 ^ κ), dg (v.natAbs), fd2, fq2, fr2, fo2, fu, fc2, fw2, fn2, K2) dX4_divide_120 rfl ⟨by rw [he], by rw [he]; exact hMR2⟩
              · refine go_iconst O dX4_divide_112 113 rfl ?_
                refine go_goto O dX4_divide_113 117 (by decide) ?_
                refine TGo.topi (y := bz (n0 != decide (v < 0))) (band_x (by omega)) ?_
                refine go_calliV (As := [.int (iI ((ρ : Nat) : Int)), .int (iI c0), .int (iI (bz w0)), .int (iI (bz (n0 != decide (v < 0))))]) (rest := []) (wr := [(qunits, .inl (cI, 80, .inl fu))]) O hK hE (c_X4_settle E hE h fs f_p f_s f_m f_base f_den f_num f_quo f_rem f_other f_currency f_isWide f_negative f_kept cI cZ P Sc hp hP hs hS hm ρ (V0 * 10 ^ κ) (v.natAbs) c0 (fd) (fq) (fr) (fo) fc fw fn K reg w0 (n0 != decide (v < 0)) (by omega) (by omega) (Nat.lt_of_lt_of_le (div_bd hV0 (by omega)) (p10le (by omega))) (by omega) (by omega) hMR) mlX4_127 imX4_settle seX4_settle inX4 cdX4_settle 4 (by decide +kernel) ⟨Nat.le_of_ble_eq_true rfl, Nat.le_of_ble_eq_true rfl⟩ 0 rfl rfl [0, 1] rfl [0, 1, 2, 3, 4, 5, 6, 8, 9, 10, 11] rfl (by decide) [7] rfl (by decide) (by decide) rfl rfl (Nat.le_of_ble_eq_true rfl) ⟨Nat.zero_le _, Nat.zero_le _⟩ dX4_divide_117 120 rfl (fun z u hu => ?_)
                obtain ⟨fd2, fq2, fr2, fo2, fc2, fw2, fn2, K2⟩ := u
                obtain ⟨rfl, hMR2⟩ := hu
                show TGo X [(qunits, .inl (cI, 80, .inl fu)), (h, .inr (4, fs)), (qnum, .inl (cI, 80, .inl (dg (V0 * 10 ^ κ)))), (qbase, .inl (cI, 80, .inl (dg (v.natAbs)))), (qden, .inl (cI, 80, .inl fd2)), (qquo, .inl (cI, 80, .inl fq2)), (qrem, .inl (cI, 80, .inl fr2)), (qother, .inl (cI, 80, .inl fo2)), (qcurrency, .inl (cI, 8, .inl fc2)), (qisWide, .inl (cZ, 8, .inl fw2)), (qnegative, .inl (cZ, 8, .inl fn2)), (qkept, .inl (cI, 320, .inl K2))] 0 0 120 [(0, .ref h), (1, .int (iI ((ρ : Nat) : Int))), (2, .int (iI ((α : Nat) : Int))), (3, .long (lI v)), (5, .int (iI ((κ : Nat) : Int)))] [.int (iI (ansO (tstl P Sc m w0 (n0 != decide (v < 0)) (V0 * 10 ^ κ) (v.natAbs))))]
                refine TGo.sub (ws' := [(h, .inr (4, fs)), (qnum, .inl (cI, 80, .inl (dg (V0 * 10 ^ κ)))), (qbase, .inl (cI, 80, .inl (dg (v.natAbs)))), (qden, .inl (cI, 80, .inl fd2)), (qquo, .inl (cI, 80, .inl fq2)), (qrem, .inl (cI, 80, .inl fr2)), (qother, .inl (cI, 80, .inl fo2)), (qunits, .inl (cI, 80, .inl fu)), (qcurrency, .inl (cI, 8, .inl fc2)), (qisWide, .inl (cZ, 8, .inl fw2)), (qnegative, .inl (cZ, 8, .inl fn2)), (qkept, .inl (cI, 320, .inl K2))]) [1, 2, 3, 4, 5, 6, 7, 0, 8, 9, 10, 11] (by decide) rfl ?_
                have he := spDiv_ok (P := P) (Sc := Sc) (m := m) (v := v) hb3 hq (by omega)
                exact hret _ _ _ (dg (V0 * 10 ^ κ), dg (v.natAbs), fd2, fq2, fr2, fo2, fu, fc2, fw2, fn2, K2) dX4_divide_120 rfl ⟨by rw [he], by rw [he]; exact hMR2⟩
            · refine go_iconst O dX4_divide_104 105 rfl ?_
              refine go_goto O dX4_divide_105 109 (by decide) ?_
              refine go_icmp_eq O dX4_divide_109 116 (by decide) 112 rfl (by omega) (by omega) (fun h109 => ?_) (fun h109 => ?_)
              · refine go_iconst O dX4_divide_116 117 rfl ?_
                refine TGo.topi (y := bz (n0 != decide (v < 0))) (band_y (by omega)) ?_
                refine go_calliV (As := [.int (iI ((ρ : Nat) : Int)), .int (iI c0), .int (iI (bz w0)), .int (iI (bz (n0 != decide (v < 0))))]) (rest := []) (wr := [(qunits, .inl (cI, 80, .inl fu))]) O hK hE (c_X4_settle E hE h fs f_p f_s f_m f_base f_den f_num f_quo f_rem f_other f_currency f_isWide f_negative f_kept cI cZ P Sc hp hP hs hS hm ρ (V0 * 10 ^ κ) (v.natAbs) c0 (fd) (fq) (fr) (fo) fc fw fn K reg w0 (n0 != decide (v < 0)) (by omega) (by omega) (Nat.lt_of_lt_of_le (div_bd hV0 (by omega)) (p10le (by omega))) (by omega) (by omega) hMR) mlX4_127 imX4_settle seX4_settle inX4 cdX4_settle 4 (by decide +kernel) ⟨Nat.le_of_ble_eq_true rfl, Nat.le_of_ble_eq_true rfl⟩ 0 rfl rfl [0, 1] rfl [0, 1, 2, 3, 4, 5, 6, 8, 9, 10, 11] rfl (by decide) [7] rfl (by decide) (by decide) rfl rfl (Nat.le_of_ble_eq_true rfl) ⟨Nat.zero_le _, Nat.zero_le _⟩ dX4_divide_117 120 rfl (fun z u hu => ?_)
                obtain ⟨fd2, fq2, fr2, fo2, fc2, fw2, fn2, K2⟩ := u
                obtain ⟨rfl, hMR2⟩ := hu
                show TGo X [(qunits, .inl (cI, 80, .inl fu)), (h, .inr (4, fs)), (qnum, .inl (cI, 80, .inl (dg (V0 * 10 ^ κ)))), (qbase, .inl (cI, 80, .inl (dg (v.natAbs)))), (qden, .inl (cI, 80, .inl fd2)), (qquo, .inl (cI, 80, .inl fq2)), (qrem, .inl (cI, 80, .inl fr2)), (qother, .inl (cI, 80, .inl fo2)), (qcurrency, .inl (cI, 8, .inl fc2)), (qisWide, .inl (cZ, 8, .inl fw2)), (qnegative, .inl (cZ, 8, .inl fn2)), (qkept, .inl (cI, 320, .inl K2))] 0 0 120 [(0, .ref h), (1, .int (iI ((ρ : Nat) : Int))), (2, .int (iI ((α : Nat) : Int))), (3, .long (lI v)), (5, .int (iI ((κ : Nat) : Int)))] [.int (iI (ansO (tstl P Sc m w0 (n0 != decide (v < 0)) (V0 * 10 ^ κ) (v.natAbs))))]
                refine TGo.sub (ws' := [(h, .inr (4, fs)), (qnum, .inl (cI, 80, .inl (dg (V0 * 10 ^ κ)))), (qbase, .inl (cI, 80, .inl (dg (v.natAbs)))), (qden, .inl (cI, 80, .inl fd2)), (qquo, .inl (cI, 80, .inl fq2)), (qrem, .inl (cI, 80, .inl fr2)), (qother, .inl (cI, 80, .inl fo2)), (qunits, .inl (cI, 80, .inl fu)), (qcurrency, .inl (cI, 8, .inl fc2)), (qisWide, .inl (cZ, 8, .inl fw2)), (qnegative, .inl (cZ, 8, .inl fn2)), (qkept, .inl (cI, 320, .inl K2))]) [1, 2, 3, 4, 5, 6, 7, 0, 8, 9, 10, 11] (by decide) rfl ?_
                have he := spDiv_ok (P := P) (Sc := Sc) (m := m) (v := v) hb3 hq (by omega)
                exact hret _ _ _ (dg (V0 * 10 ^ κ), dg (v.natAbs), fd2, fq2, fr2, fo2, fu, fc2, fw2, fn2, K2) dX4_divide_120 rfl ⟨by rw [he], by rw [he]; exact hMR2⟩
              · refine go_iconst O dX4_divide_112 113 rfl ?_
                refine go_goto O dX4_divide_113 117 (by decide) ?_
                refine TGo.topi (y := bz (n0 != decide (v < 0))) (band_x (by omega)) ?_
                refine go_calliV (As := [.int (iI ((ρ : Nat) : Int)), .int (iI c0), .int (iI (bz w0)), .int (iI (bz (n0 != decide (v < 0))))]) (rest := []) (wr := [(qunits, .inl (cI, 80, .inl fu))]) O hK hE (c_X4_settle E hE h fs f_p f_s f_m f_base f_den f_num f_quo f_rem f_other f_currency f_isWide f_negative f_kept cI cZ P Sc hp hP hs hS hm ρ (V0 * 10 ^ κ) (v.natAbs) c0 (fd) (fq) (fr) (fo) fc fw fn K reg w0 (n0 != decide (v < 0)) (by omega) (by omega) (Nat.lt_of_lt_of_le (div_bd hV0 (by omega)) (p10le (by omega))) (by omega) (by omega) hMR) mlX4_127 imX4_settle seX4_settle inX4 cdX4_settle 4 (by decide +kernel) ⟨Nat.le_of_ble_eq_true rfl, Nat.le_of_ble_eq_true rfl⟩ 0 rfl rfl [0, 1] rfl [0, 1, 2, 3, 4, 5, 6, 8, 9, 10, 11] rfl (by decide) [7] rfl (by decide) (by decide) rfl rfl (Nat.le_of_ble_eq_true rfl) ⟨Nat.zero_le _, Nat.zero_le _⟩ dX4_divide_117 120 rfl (fun z u hu => ?_)
                obtain ⟨fd2, fq2, fr2, fo2, fc2, fw2, fn2, K2⟩ := u
                obtain ⟨rfl, hMR2⟩ := hu
                show TGo X [(qunits, .inl (cI, 80, .inl fu)), (h, .inr (4, fs)), (qnum, .inl (cI, 80, .inl (dg (V0 * 10 ^ κ)))), (qbase, .inl (cI, 80, .inl (dg (v.natAbs)))), (qden, .inl (cI, 80, .inl fd2)), (qquo, .inl (cI, 80, .inl fq2)), (qrem, .inl (cI, 80, .inl fr2)), (qother, .inl (cI, 80, .inl fo2)), (qcurrency, .inl (cI, 8, .inl fc2)), (qisWide, .inl (cZ, 8, .inl fw2)), (qnegative, .inl (cZ, 8, .inl fn2)), (qkept, .inl (cI, 320, .inl K2))] 0 0 120 [(0, .ref h), (1, .int (iI ((ρ : Nat) : Int))), (2, .int (iI ((α : Nat) : Int))), (3, .long (lI v)), (5, .int (iI ((κ : Nat) : Int)))] [.int (iI (ansO (tstl P Sc m w0 (n0 != decide (v < 0)) (V0 * 10 ^ κ) (v.natAbs))))]
                refine TGo.sub (ws' := [(h, .inr (4, fs)), (qnum, .inl (cI, 80, .inl (dg (V0 * 10 ^ κ)))), (qbase, .inl (cI, 80, .inl (dg (v.natAbs)))), (qden, .inl (cI, 80, .inl fd2)), (qquo, .inl (cI, 80, .inl fq2)), (qrem, .inl (cI, 80, .inl fr2)), (qother, .inl (cI, 80, .inl fo2)), (qunits, .inl (cI, 80, .inl fu)), (qcurrency, .inl (cI, 8, .inl fc2)), (qisWide, .inl (cZ, 8, .inl fw2)), (qnegative, .inl (cZ, 8, .inl fn2)), (qkept, .inl (cI, 320, .inl K2))]) [1, 2, 3, 4, 5, 6, 7, 0, 8, 9, 10, 11] (by decide) rfl ?_
                have he := spDiv_ok (P := P) (Sc := Sc) (m := m) (v := v) hb3 hq (by omega)
                exact hret _ _ _ (dg (V0 * 10 ^ κ), dg (v.natAbs), fd2, fq2, fr2, fo2, fu, fc2, fw2, fn2, K2) dX4_divide_120 rfl ⟨by rw [he], by rw [he]; exact hMR2⟩
          · refine go_bipush O dX4_divide_49 (by decide) 51 rfl ?_
            have he := spDiv_0 (P := P) (Sc := Sc) (m := m) (v := v) hb3 hq (by omega)
            exact hret _ _ _ (fnum, fb, fd, fq, fr, fo, fu, fc, fw, fn, K) dX4_divide_51 rfl ⟨by rw [he], by rw [he]; exact hMR⟩
      · refine go_bipush O dX4_divide_28 (by decide) 30 rfl ?_
        have he := spDiv_bad (P := P) (Sc := Sc) (m := m) (reg := reg) (r := r) (a := a) (v := v) (k := k) (by omega)
        exact hret _ _ _ (fnum, fb, fd, fq, fr, fo, fu, fc, fw, fn, K) dX4_divide_30 rfl ⟨by rw [he], by rw [he]; exact hMR⟩
