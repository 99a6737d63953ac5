/-! Units of the currencies; rounding to them. -/
def tdig (c : Int) : Nat := if c = 1 then 0 else if c = 2 then 3 else if c = 3 then 4 else if c = 5 then 1 else 2
theorem tdig_v {c z : Int} (h : (c = 1 ∧ z = 0) ∨ (c = 2 ∧ z = 3) ∨ (c = 3 ∧ z = 4) ∨ (c = 5 ∧ z = 1) ∨ ((c ≠ 1 ∧ c ≠ 2 ∧ c ≠ 3 ∧ c ≠ 5) ∧ z = 2)) : z = ((tdig c : Nat) : Int) := by
  unfold tdig
  split
  · omega
  · split
    · omega
    · split
      · omega
      · split <;> omega
theorem tdig_le (c : Int) : tdig c ≤ 4 := by
  unfold tdig
  split
  · omega
  · split
    · omega
    · split
      · omega
      · split <;> omega
def tcsh (b : Bool) (c : Int) : Nat := if bz b = 0 then 1 else if c = 4 then 5 else if c = 5 then 2 else 1
theorem tcsh_v {b : Bool} {c z : Int} (h : (bz b = 0 ∧ z = 1) ∨ (bz b ≠ 0 ∧ c = 4 ∧ z = 5) ∨ (bz b ≠ 0 ∧ c = 5 ∧ z = 2) ∨ (bz b ≠ 0 ∧ c ≠ 4 ∧ c ≠ 5 ∧ z = 1)) : z = ((tcsh b c : Nat) : Int) := by
  unfold tcsh
  split
  · omega
  · split
    · omega
    · split <;> omega
theorem tcsh_bd (b : Bool) (c : Int) : tcsh b c = 1 ∨ tcsh b c = 2 ∨ tcsh b c = 5 := by
  unfold tcsh
  split
  · omega
  · split
    · omega
    · split <;> omega
theorem tD_bd (b : Bool) (c : Int) : 0 < tcsh b c * 10 ^ (10 - tdig c) ∧ tcsh b c * 10 ^ (10 - tdig c) ≤ 5 * 10 ^ 10 := by
  have h := tcsh_bd b c
  exact ⟨Nat.mul_pos (by omega) (p10 _), Nat.mul_le_mul (by omega) (p10le (by omega))⟩
theorem rnd_bd {V D : Nat} {k : Int} {b : Bool} (hV : V < 10 ^ 36) (hD : 0 < D ∧ D ≤ 5 * 10 ^ 10) : tnds (trnd k b (V / D) (V % D) D) + tnds D ≤ 80 ∧ trnd k b (V / D) (V % D) D * D < 10 ^ 80 ∧ V % D < 10 ^ 80 ∧ V % D + V % D < 10 ^ 80 ∧ D < 10 ^ 80 := by
  have h1 := trnd_le k b (V / D) (V % D) D
  have h2 := Nat.div_le_self V D
  have h3 := Nat.mod_lt V hD.1
  have h4 : trnd k b (V / D) (V % D) D < 10 ^ 37 := by omega
  have h5 := tnds_mono h4
  have h6 := tnds_mono (N := D) (e := 11) (by omega)
  have h7 := Nat.mul_le_mul (Nat.le_of_lt h4) hD.2
  exact ⟨by omega, by omega, by omega, by omega, by omega⟩
def spRnd (reg : Rg) (r a k : Int) (ca : Bool) : Int × Rg :=
  if (0 ≤ r ∧ r < 8) ∧ (0 ≤ a ∧ a < 8) ∧ (0 ≤ k ∧ k < 8) then
    match reg a.toNat with
    | none => (-11, reg)
    | some (c, w, n, V) => (fun D => if V % D = 0 ∨ k ≠ 7 then (fun o => (ansO o, rstp reg r.toNat c w n o)) (if tfit w n (trnd k n (V / D) (V % D) D * D) = true then some (trnd k n (V / D) (V % D) D * D) else none) else (-16, reg)) (tcsh ca c * 10 ^ (10 - tdig c))
  else (-15, reg)
theorem spRnd_bad {reg : Rg} {r a k : Int} {ca : Bool} (h : ¬ ((0 ≤ r ∧ r < 8) ∧ (0 ≤ a ∧ a < 8) ∧ (0 ≤ k ∧ k < 8))) : spRnd reg r a k ca = (-15, reg) := by unfold spRnd; rw [if_neg h]
theorem spRnd_no {reg : Rg} {ρ α : Nat} {k : Int} {ca : Bool} (h : ρ < 8 ∧ α < 8 ∧ 0 ≤ k ∧ k < 8) (hq : reg α = none) : spRnd reg (ρ : Int) (α : Int) k ca = (-11, reg) := by
  unfold spRnd; rw [if_pos (by omega), show (α : Int).toNat = α from rfl, hq]
theorem spRnd_x {reg : Rg} {ρ α V : Nat} {c k : Int} {w n ca : Bool} (h : ρ < 8 ∧ α < 8 ∧ 0 ≤ k ∧ k < 8) (hq : reg α = some (c, w, n, V)) (hx : ¬ (V % (tcsh ca c * 10 ^ (10 - tdig c)) = 0 ∨ k ≠ 7)) : spRnd reg (ρ : Int) (α : Int) k ca = (-16, reg) := by
  unfold spRnd; rw [if_pos (by omega), show (α : Int).toNat = α from rfl, hq]
  exact if_neg hx
theorem spRnd_ok {reg : Rg} {ρ α V : Nat} {c k : Int} {w n ca : Bool} (h : ρ < 8 ∧ α < 8 ∧ 0 ≤ k ∧ k < 8) (hq : reg α = some (c, w, n, V)) (hx : V % (tcsh ca c * 10 ^ (10 - tdig c)) = 0 ∨ k ≠ 7) : spRnd reg (ρ : Int) (α : Int) k ca = (fun o => (ansO o, rstp reg ρ c w n o)) (if tfit w n (trnd k n (V / (tcsh ca c * 10 ^ (10 - tdig c))) (V % (tcsh ca c * 10 ^ (10 - tdig c))) (tcsh ca c * 10 ^ (10 - tdig c)) * (tcsh ca c * 10 ^ (10 - tdig c))) = true then some (trnd k n (V / (tcsh ca c * 10 ^ (10 - tdig c))) (V % (tcsh ca c * 10 ^ (10 - tdig c))) (tcsh ca c * 10 ^ (10 - tdig c)) * (tcsh ca c * 10 ^ (10 - tdig c))) else none) := by
  unfold spRnd; rw [if_pos (by omega), show (α : Int).toNat = α from rfl, hq]
  exact if_pos hx
set_option maxHeartbeats 4000000 in
set_option maxRecDepth 100000 in
/-- digitsOf -/
theorem c_X4_digitsOf (E : TEn) (hE : EnvOk E) (c : Int) (hc : r32 c) : Cti vwCl E yX4_digitsOf wsX4_digitsOf (rmn 0 0) [.int (iI c)] [] [] (fun (z : Int) (_ : Unit) => z = ((tdig c : Nat) : Int)) (fun _ => []) := by
  refine enteri (by decide) (Nat.le_of_ble_eq_true rfl) ?_
  intro X O hK hin2 hret
  show TGo X [] 0 0 0 [(0, .int (iI c))] []
  refine go_iload_n O dX4_digitsOf_0 rfl 0 rfl 1 rfl ?_
  refine go_iconst O dX4_digitsOf_1 2 rfl ?_
  refine go_icmp_ne O dX4_digitsOf_2 9 (by decide) 5 rfl (by omega) (by omega) (fun h2 => ?_) (fun h2 => ?_)
  · refine go_iload_n O dX4_digitsOf_9 rfl 0 rfl 10 rfl ?_
    refine go_iconst O dX4_digitsOf_10 11 rfl ?_
    refine go_icmp_ne O dX4_digitsOf_11 18 (by decide) 14 rfl (by omega) (by omega) (fun h11 => ?_) (fun h11 => ?_)
    · refine go_iload_n O dX4_digitsOf_18 rfl 0 rfl 19 rfl ?_
      refine go_iconst O dX4_digitsOf_19 20 rfl ?_
      refine go_icmp_ne O dX4_digitsOf_20 27 (by decide) 23 rfl (by omega) (by omega) (fun h20 => ?_) (fun h20 => ?_)
      · refine go_iload_n O dX4_digitsOf_27 rfl 0 rfl 28 rfl ?_
        refine go_iconst O dX4_digitsOf_28 29 rfl ?_
        refine go_icmp_ne O dX4_digitsOf_29 36 (by decide) 32 rfl (by omega) (by omega) (fun h29 => ?_) (fun h29 => ?_)
        · refine go_iconst O dX4_digitsOf_36 37 rfl ?_
          exact hret _ _ _ () dX4_digitsOf_37 rfl (tdig_v (by omega))
        · refine go_iconst O dX4_digitsOf_32 33 rfl ?_
          refine go_goto O dX4_digitsOf_33 37 (by decide) ?_
          exact hret _ _ _ () dX4_digitsOf_37 rfl (tdig_v (by omega))
      · refine go_iconst O dX4_digitsOf_23 24 rfl ?_
        refine go_goto O dX4_digitsOf_24 37 (by decide) ?_
        exact hret _ _ _ () dX4_digitsOf_37 rfl (tdig_v (by omega))
    · refine go_iconst O dX4_digitsOf_14 15 rfl ?_
      refine go_goto O dX4_digitsOf_15 37 (by decide) ?_
      exact hret _ _ _ () dX4_digitsOf_37 rfl (tdig_v (by omega))
  · refine go_iconst O dX4_digitsOf_5 6 rfl ?_
    refine go_goto O dX4_digitsOf_6 37 (by decide) ?_
    exact hret _ _ _ () dX4_digitsOf_37 rfl (tdig_v (by omega))
set_option maxHeartbeats 4000000 in
set_option maxRecDepth 100000 in
/-- step -/
theorem c_X4_step (E : TEn) (hE : EnvOk E) (h : Nat) (fs : List Value) {qden : Nat} (f_den : fs[12]? = some (.ref qden)) (cI : ClassId) (fd : Nat → Int32) (c : Int) (hc : r32 c) (ca : Nat) (hca : ca ≤ 9) : Ctv vwCl E yX4_step wsX4_step (rmn 2 47) [.ref h, .int (iI c), .int (iI ((ca : Nat) : Int))] [(h, .inr (4, fs)), (qden, .inl (cI, 80, .inl fd))] [(cI, .int)] (fun _ : Unit => True) (fun _ => [(h, .inr (4, fs)), (qden, .inl (cI, 80, .inl (dg (ca * 10 ^ (10 - tdig c)))))]) := by
  refine enterv (by decide) (Nat.le_of_ble_eq_true rfl) ?_
  intro X O hK hin2 hret
  show TGo X [(h, .inr (4, fs)), (qden, .inl (cI, 80, .inl fd))] 0 0 0 [(0, .ref h), (1, .int (iI c)), (2, .int (iI ((ca : Nat) : Int)))] []
  refine go_aload_n O dX4_step_0 rfl 0 rfl 1 rfl ?_
  refine go_get O hK dX4_step_1 hinX4 0 rfl rfl 12 (by decide) flX4_35 f_den 4 rfl ?_
  refine go_iload_n O dX4_step_4 rfl 2 rfl 5 rfl ?_
  refine go_i2l O dX4_step_5 (by omega) 6 rfl ?_
  refine go_callvS (rest := []) (wr := [(h, .inr (4, fs))]) O hK hE (c_X4_load E hE qden cI fd ((ca : Nat) : Int) (by omega)) mlX4_100 smX4_load inX4 cdX4_load 2 (by decide +kernel) ⟨Nat.le_of_ble_eq_true rfl, Nat.le_of_ble_eq_true rfl⟩ [0] rfl [1] rfl (by decide) [0] rfl (by decide) (by decide) rfl rfl (Nat.le_of_ble_eq_true rfl) ⟨Nat.zero_le _, Nat.zero_le _⟩ dX4_step_6 9 rfl (fun u hu => ?_)
  show TGo X [(h, .inr (4, fs)), (qden, .inl (cI, 80, .inl (dg ca)))] 0 0 9 [(0, .ref h), (1, .int (iI c)), (2, .int (iI ((ca : Nat) : Int)))] []
  refine go_aload_n O dX4_step_9 rfl 0 rfl 10 rfl ?_
  refine go_get O hK dX4_step_10 hinX4 0 rfl rfl 12 (by decide) flX4_35 f_den 13 rfl ?_
  refine go_bipush O dX4_step_13 (by decide) 15 rfl ?_
  refine go_iload_n O dX4_step_15 rfl 1 rfl 16 rfl ?_
  refine go_calliS (rest := [.int (iI 10), .ref qden]) (wr := [(h, .inr (4, fs)), (qden, .inl (cI, 80, .inl (dg ca)))]) O hK hE (c_X4_digitsOf E hE c hc) mlX4_141 smX4_digitsOf inX4 cdX4_digitsOf 1 (by decide +kernel) ⟨Nat.le_of_ble_eq_true rfl, Nat.le_of_ble_eq_true rfl⟩ [] rfl [] rfl (by decide) [0, 1] rfl (by decide) (by decide) rfl rfl (Nat.le_of_ble_eq_true rfl) ⟨Nat.zero_le _, Nat.zero_le _⟩ dX4_step_16 19 rfl (fun z u hu => ?_)
  subst hu
  have ht := tdig_le c
  show TGo X [(h, .inr (4, fs)), (qden, .inl (cI, 80, .inl (dg ca)))] 0 0 19 [(0, .ref h), (1, .int (iI c)), (2, .int (iI ((ca : Nat) : Int)))] [.int (iI ((tdig c : Nat) : Int)), .int (iI 10), .ref qden]
  refine go_isub O dX4_step_19 ((10 - tdig c : Nat) : Int) (by omega) 20 rfl ?_
  refine go_callvS (rest := []) (wr := [(h, .inr (4, fs))]) O hK hE (c_X4_shift E hE qden cI ca (10 - tdig c) (by omega)) mlX4_82 smX4_shift inX4 cdX4_shift 2 (by decide +kernel) ⟨Nat.le_of_ble_eq_true rfl, Nat.le_of_ble_eq_true rfl⟩ [0] rfl [1] rfl (by decide) [0] rfl (by decide) (by decide) rfl rfl (Nat.le_of_ble_eq_true rfl) ⟨Nat.zero_le _, Nat.zero_le _⟩ dX4_step_20 23 rfl (fun u hu => ?_)
  show TGo X [(h, .inr (4, fs)), (qden, .inl (cI, 80, .inl (dg (ca * 10 ^ (10 - tdig c)))))] 0 0 23 [(0, .ref h), (1, .int (iI c)), (2, .int (iI ((ca : Nat) : Int)))] []
  exact hret _ _ () dX4_step_23 trivial
set_option maxHeartbeats 4000000 in
set_option maxRecDepth 100000 in
/-- round -/
theorem c_X4_round (E : TEn) (hE : EnvOk E) (h : Nat) (fs : List Value) {qcurrency qisWide qnegative qkept qnum qden qquo qrem qother : Nat} (f_currency : fs[3]? = some (.ref qcurrency)) (f_isWide : fs[4]? = some (.ref qisWide)) (f_negative : fs[5]? = some (.ref qnegative)) (f_kept : fs[6]? = some (.ref qkept)) (f_num : fs[10]? = some (.ref qnum)) (f_den : fs[12]? = some (.ref qden)) (f_quo : fs[13]? = some (.ref qquo)) (f_rem : fs[14]? = some (.ref qrem)) (f_other : fs[15]? = some (.ref qother)) (cI cZ : ClassId) (fc fw fn K fnum fd fq fr fo : Nat → Int32) (reg : Rg) (r a k : Int) (ca : Bool) (hr : r32 r) (ha : r32 a) (hk : r32 k) (hMR : MR fc fw fn K reg) : Cti vwCl E yX4_round wsX4_round (rmn 3 73) [.ref h, .int (iI r), .int (iI a), .int (iI k), .int (iI (bz ca))] [(h, .inr (4, fs)), (qcurrency, .inl (cI, 8, .inl fc)), (qisWide, .inl (cZ, 8, .inl fw)), (qnegative, .inl (cZ, 8, .inl fn)), (qkept, .inl (cI, 320, .inl K)), (qnum, .inl (cI, 80, .inl fnum)), (qden, .inl (cI, 80, .inl fd)), (qquo, .inl (cI, 80, .inl fq)), (qrem, .inl (cI, 80, .inl fr)), (qother, .inl (cI, 80, .inl fo))] [(cI, .int), (cZ, .boolean)] (fun (z : Int) (u : (Nat → Int32) × (Nat → Int32) × (Nat → Int32) × (Nat → Int32) × (Nat → Int32) × (Nat → Int32) × (Nat → Int32) × (Nat → Int32) × (Nat → Int32)) => z = (spRnd reg r a k ca).1 ∧ MR u.1 u.2.1 u.2.2.1 u.2.2.2.1 (spRnd reg r a k ca).2) (fun u => [(h, .inr (4, fs)), (qcurrency, .inl (cI, 8, .inl u.1)), (qisWide, .inl (cZ, 8, .inl u.2.1)), (qnegative, .inl (cZ, 8, .inl u.2.2.1)), (qkept, .inl (cI, 320, .inl u.2.2.2.1)), (qnum, .inl (cI, 80, .inl u.2.2.2.2.1)), (qden, .inl (cI, 80, .inl u.2.2.2.2.2.1)), (qquo, .inl (cI, 80, .inl u.2.2.2.2.2.2.1)), (qrem, .inl (cI, 80, .inl u.2.2.2.2.2.2.2.1)), (qother, .inl (cI, 80, .inl u.2.2.2.2.2.2.2.2))]) := by
  refine enteri (by decide) (Nat.le_of_ble_eq_true rfl) ?_
  intro X O hK hin2 hret
  show TGo X [(h, .inr (4, fs)), (qcurrency, .inl (cI, 8, .inl fc)), (qisWide, .inl (cZ, 8, .inl fw)), (qnegative, .inl (cZ, 8, .inl fn)), (qkept, .inl (cI, 320, .inl K)), (qnum, .inl (cI, 80, .inl fnum)), (qden, .inl (cI, 80, .inl fd)), (qquo, .inl (cI, 80, .inl fq)), (qrem, .inl (cI, 80, .inl fr)), (qother, .inl (cI, 80, .inl fo))] 0 0 0 [(0, .ref h), (1, .int (iI r)), (2, .int (iI a)), (3, .int (iI k)), (4, .int (iI (bz ca)))] []
  have o1 := tout_i (x := r) (e := 8)
  have o2 := tout_i (x := a) (e := 8)
  have o3 := tout_i (x := k) (e := 8)
  have bc := bz_01 ca
  refine go_iload_n O dX4_round_0 rfl 1 rfl 1 rfl ?_
  refine go_bipush O dX4_round_1 (by decide) 3 rfl ?_
  refine go_calliS (rest := []) (wr := [(h, .inr (4, fs)), (qcurrency, .inl (cI, 8, .inl fc)), (qisWide, .inl (cZ, 8, .inl fw)), (qnegative, .inl (cZ, 8, .inl fn)), (qkept, .inl (cI, 320, .inl K)), (qnum, .inl (cI, 80, .inl fnum)), (qden, .inl (cI, 80, .inl fd)), (qquo, .inl (cI, 80, .inl fq)), (qrem, .inl (cI, 80, .inl fr)), (qother, .inl (cI, 80, .inl fo))]) O hK hE (c_X4_outside E hE r 8 (by omega) (by omega)) mlX4_123 smX4_outside inX4 cdX4_outside 2 (by decide +kernel) ⟨Nat.le_of_ble_eq_true rfl, Nat.le_of_ble_eq_true rfl⟩ [] rfl [] rfl (by decide) [0, 1, 2, 3, 4, 5, 6, 7, 8, 9] rfl (by decide) (by decide) rfl rfl (Nat.le_of_ble_eq_true rfl) ⟨Nat.zero_le _, Nat.zero_le _⟩ dX4_round_3 6 rfl (fun z u hu => ?_)
  subst hu
  show TGo X [(h, .inr (4, fs)), (qcurrency, .inl (cI, 8, .inl fc)), (qisWide, .inl (cZ, 8, .inl fw)), (qnegative, .inl (cZ, 8, .inl fn)), (qkept, .inl (cI, 320, .inl K)), (qnum, .inl (cI, 80, .inl fnum)), (qden, .inl (cI, 80, .inl fd)), (qquo, .inl (cI, 80, .inl fq)), (qrem, .inl (cI, 80, .inl fr)), (qother, .inl (cI, 80, .inl fo))] 0 0 6 [(0, .ref h), (1, .int (iI r)), (2, .int (iI a)), (3, .int (iI k)), (4, .int (iI (bz ca)))] [.int (iI (bz (tout r 8)))]
  refine go_if_ne O dX4_round_6 27 (by decide) 9 rfl (bz_r _) (fun h6 => ?_) (fun h6 => ?_)
  · refine go_bipush O dX4_round_27 (by decide) 29 rfl ?_
    have he := spRnd_bad (reg := reg) (r := r) (a := a) (k := k) (ca := ca) (by omega)
    exact hret _ _ _ (fc, fw, fn, K, fnum, fd, fq, fr, fo) dX4_round_29 rfl ⟨by rw [he], by rw [he]; exact hMR⟩
  · refine go_iload_n O dX4_round_9 rfl 2 rfl 10 rfl ?_
    refine go_bipush O dX4_round_10 (by decide) 12 rfl ?_
    refine go_calliS (rest := []) (wr := [(h, .inr (4, fs)), (qcurrency, .inl (cI, 8, .inl fc)), (qisWide, .inl (cZ, 8, .inl fw)), (qnegative, .inl (cZ, 8, .inl fn)), (qkept, .inl (cI, 320, .inl K)), (qnum, .inl (cI, 80, .inl fnum)), (qden, .inl (cI, 80, .inl fd)), (qquo, .inl (cI, 80, .inl fq)), (qrem, .inl (cI, 80, .inl fr)), (qother, .inl (cI, 80, .inl fo))]) O hK hE (c_X4_outside E hE a 8 (by omega) (by omega)) mlX4_123 smX4_outside inX4 cdX4_outside 2 (by decide +kernel) ⟨Nat.le_of_ble_eq_true rfl, Nat.le_of_ble_eq_true rfl⟩ [] rfl [] rfl (by decide) [0, 1, 2, 3, 4, 5, 6, 7, 8, 9] rfl (by decide) (by decide) rfl rfl (Nat.le_of_ble_eq_true rfl) ⟨Nat.zero_le _, Nat.zero_le _⟩ dX4_round_12 15 rfl (fun z u hu => ?_)
    subst hu
    show TGo X [(h, .inr (4, fs)), (qcurrency, .inl (cI, 8, .inl fc)), (qisWide, .inl (cZ, 8, .inl fw)), (qnegative, .inl (cZ, 8, .inl fn)), (qkept, .inl (cI, 320, .inl K)), (qnum, .inl (cI, 80, .inl fnum)), (qden, .inl (cI, 80, .inl fd)), (qquo, .inl (cI, 80, .inl fq)), (qrem, .inl (cI, 80, .inl fr)), (qother, .inl (cI, 80, .inl fo))] 0 0 15 [(0, .ref h), (1, .int (iI r)), (2, .int (iI a)), (3, .int (iI k)), (4, .int (iI (bz ca)))] [.int (iI (bz (tout a 8)))]
    refine go_if_ne O dX4_round_15 27 (by decide) 18 rfl (bz_r _) (fun h15 => ?_) (fun h15 => ?_)
    · refine go_bipush O dX4_round_27 (by decide) 29 rfl ?_
      have he := spRnd_bad (reg := reg) (r := r) (a := a) (k := k) (ca := ca) (by omega)
      exact hret _ _ _ (fc, fw, fn, K, fnum, fd, fq, fr, fo) dX4_round_29 rfl ⟨by rw [he], by rw [he]; exact hMR⟩
    · refine go_iload_n O dX4_round_18 rfl 3 rfl 19 rfl ?_
      refine go_bipush O dX4_round_19 (by decide) 21 rfl ?_
      refine go_calliS (rest := []) (wr := [(h, .inr (4, fs)), (qcurrency, .inl (cI, 8, .inl fc)), (qisWide, .inl (cZ, 8, .inl fw)), (qnegative, .inl (cZ, 8, .inl fn)), (qkept, .inl (cI, 320, .inl K)), (qnum, .inl (cI, 80, .inl fnum)), (qden, .inl (cI, 80, .inl fd)), (qquo, .inl (cI, 80, .inl fq)), (qrem, .inl (cI, 80, .inl fr)), (qother, .inl (cI, 80, .inl fo))]) O hK hE (c_X4_outside E hE k 8 (by omega) (by omega)) mlX4_123 smX4_outside inX4 cdX4_outside 2 (by decide +kernel) ⟨Nat.le_of_ble_eq_true rfl, Nat.le_of_ble_eq_true rfl⟩ [] rfl [] rfl (by decide) [0, 1, 2, 3, 4, 5, 6, 7, 8, 9] rfl (by decide) (by decide) rfl rfl (Nat.le_of_ble_eq_true rfl) ⟨Nat.zero_le _, Nat.zero_le _⟩ dX4_round_21 24 rfl (fun z u hu => ?_)
      subst hu
      show TGo X [(h, .inr (4, fs)), (qcurrency, .inl (cI, 8, .inl fc)), (qisWide, .inl (cZ, 8, .inl fw)), (qnegative, .inl (cZ, 8, .inl fn)), (qkept, .inl (cI, 320, .inl K)), (qnum, .inl (cI, 80, .inl fnum)), (qden, .inl (cI, 80, .inl fd)), (qquo, .inl (cI, 80, .inl fq)), (qrem, .inl (cI, 80, .inl fr)), (qother, .inl (cI, 80, .inl fo))] 0 0 24 [(0, .ref h), (1, .int (iI r)), (2, .int (iI a)), (3, .int (iI k)), (4, .int (iI (bz ca)))] [.int (iI (bz (tout k 8)))]
      refine go_if_eq O dX4_round_24 30 (by decide) 27 rfl (bz_r _) (fun h24 => ?_) (fun h24 => ?_)
      · obtain ⟨ρ, rfl⟩ : ∃ ρ : Nat, r = (ρ : Int) := ⟨r.toNat, by omega⟩
        obtain ⟨α, rfl⟩ : ∃ α : Nat, a = (α : Int) := ⟨a.toNat, by omega⟩
        have hα := hMR α (by omega)
        have hb3 : ρ < 8 ∧ α < 8 ∧ 0 ≤ k ∧ k < 8 := by omega
        rcases hq : reg α with _ | ⟨c0, w0, n0, V0⟩
        · rw [hq] at hα
          refine go_aload_n O dX4_round_30 rfl 0 rfl 31 rfl ?_
          refine go_get O hK dX4_round_31 hinX4 0 rfl rfl 3 (by decide) flX4_7 f_currency 34 rfl ?_
          refine go_iload_n O dX4_round_34 rfl 2 rfl 35 rfl ?_
          refine go_iald O hK dX4_round_35 1 0 rfl rfl α rfl (by omega) (by omega) (-1) hα 36 rfl ?_
          refine go_if_ge O dX4_round_36 42 (by decide) 39 rfl (by omega) (fun h36 => by omega) (fun h36 => ?_)
          refine go_bipush O dX4_round_39 (by decide) 41 rfl ?_
          have he := spRnd_no (ca := ca) hb3 hq
          exact hret _ _ _ (fc, fw, fn, K, fnum, fd, fq, fr, fo) dX4_round_41 rfl ⟨by rw [he], by rw [he]; exact hMR⟩
        · rw [hq] at hα
          obtain ⟨hc0, e1, e2, e3, hV0, hz0, hK0⟩ := hα
          have b0 := bz_01 n0
          have b1 := bz_01 w0
          refine go_aload_n O dX4_round_30 rfl 0 rfl 31 rfl ?_
          refine go_get O hK dX4_round_31 hinX4 0 rfl rfl 3 (by decide) flX4_7 f_currency 34 rfl ?_
          refine go_iload_n O dX4_round_34 rfl 2 rfl 35 rfl ?_
          refine go_iald O hK dX4_round_35 1 0 rfl rfl α rfl (by omega) (by omega) c0 e1 36 rfl ?_
          refine go_if_ge O dX4_round_36 42 (by decide) 39 rfl (by omega) (fun h36 => ?_) (fun h36 => by omega)
          refine go_aload_n O dX4_round_42 rfl 0 rfl 43 rfl ?_
          refine go_get O hK dX4_round_43 hinX4 0 rfl rfl 3 (by decide) flX4_7 f_currency 46 rfl ?_
          refine go_iload_n O dX4_round_46 rfl 2 rfl 47 rfl ?_
          refine go_iald O hK dX4_round_47 1 0 rfl rfl α rfl (by omega) (by omega) c0 e1 48 rfl ?_
          refine go_istore O dX4_round_48 (by decide) [(5, .int (iI c0)), (0, .ref h), (1, .int (iI ((ρ : Nat) : Int))), (2, .int (iI ((α : Nat) : Int))), (3, .int (iI k)), (4, .int (iI (bz ca)))] rfl 50 rfl ?_
          refine go_aload_n O dX4_round_50 rfl 1 rfl 51 rfl ?_
          refine go_iload O dX4_round_51 0 rfl 53 rfl ?_
          refine go_iload O dX4_round_53 5 rfl 55 rfl ?_
          refine go_if_ne O dX4_round_55 62 (by decide) 58 rfl (by omega) (fun h55 => ?_) (fun h55 => ?_)
          · refine go_iload O dX4_round_62 0 rfl 64 rfl ?_
            refine go_iconst O dX4_round_64 65 rfl ?_
            refine go_icmp_ne O dX4_round_65 72 (by decide) 68 rfl (by omega) (by omega) (fun h65 => ?_) (fun h65 => ?_)
            · refine go_iload O dX4_round_72 0 rfl 74 rfl ?_
              refine go_iconst O dX4_round_74 75 rfl ?_
              refine go_icmp_ne O dX4_round_75 82 (by decide) 78 rfl (by omega) (by omega) (fun h75 => ?_) (fun h75 => ?_)
              · refine go_iconst O dX4_round_82 83 rfl ?_
                refine TGo.topi (y := ((tcsh ca c0 : Nat) : Int)) (tcsh_v (by omega)) ?_
                refine go_callvV (As := [.int (iI c0), .int (iI ((tcsh ca c0 : Nat) : Int))]) (rest := []) (wr := [(qcurrency, .inl (cI, 8, .inl fc)), (qisWide, .inl (cZ, 8, .inl fw)), (qnegative, .inl (cZ, 8, .inl fn)), (qkept, .inl (cI, 320, .inl K)), (qnum, .inl (cI, 80, .inl fnum)), (qquo, .inl (cI, 80, .inl fq)), (qrem, .inl (cI, 80, .inl fr)), (qother, .inl (cI, 80, .inl fo))]) O hK hE (c_X4_step E hE h fs f_den cI fd c0 (by omega) (tcsh ca c0) (by have := tcsh_bd ca c0; omega)) mlX4_145 imX4_step seX4_step inX4 cdX4_step 2 (by decide +kernel) ⟨Nat.le_of_ble_eq_true rfl, Nat.le_of_ble_eq_true rfl⟩ 0 rfl rfl [0] rfl [0, 6] rfl (by decide) [1, 2, 3, 4, 5, 7, 8, 9] rfl (by decide) (by decide) rfl rfl (Nat.le_of_ble_eq_true rfl) ⟨Nat.zero_le _, Nat.zero_le _⟩ dX4_round_83 86 rfl (fun u hu => ?_)
                have hD := tD_bd ca c0
                have hbd := rnd_bd (k := k) (b := n0) hV0 hD
                show TGo X [(qcurrency, .inl (cI, 8, .inl fc)), (qisWide, .inl (cZ, 8, .inl fw)), (qnegative, .inl (cZ, 8, .inl fn)), (qkept, .inl (cI, 320, .inl K)), (qnum, .inl (cI, 80, .inl fnum)), (qquo, .inl (cI, 80, .inl fq)), (qrem, .inl (cI, 80, .inl fr)), (qother, .inl (cI, 80, .inl fo)), (h, .inr (4, fs)), (qden, .inl (cI, 80, .inl (dg (tcsh ca c0 * 10 ^ (10 - tdig c0)))))] 0 0 86 [(5, .int (iI c0)), (0, .ref h), (1, .int (iI ((ρ : Nat) : Int))), (2, .int (iI ((α : Nat) : Int))), (3, .int (iI k)), (4, .int (iI (bz ca)))] []
                refine TGo.sub (ws' := [(h, .inr (4, fs)), (qcurrency, .inl (cI, 8, .inl fc)), (qisWide, .inl (cZ, 8, .inl fw)), (qnegative, .inl (cZ, 8, .inl fn)), (qkept, .inl (cI, 320, .inl K)), (qnum, .inl (cI, 80, .inl fnum)), (qden, .inl (cI, 80, .inl (dg (tcsh ca c0 * 10 ^ (10 - tdig c0))))), (qquo, .inl (cI, 80, .inl fq)), (qrem, .inl (cI, 80, .inl fr)), (qother, .inl (cI, 80, .inl fo))]) [8, 0, 1, 2, 3, 4, 9, 5, 6, 7] (by decide) rfl ?_
                refine go_aload_n O dX4_round_86 rfl 1 rfl 87 rfl ?_
                refine go_aload_n O dX4_round_87 rfl 1 rfl 88 rfl ?_
                refine go_get O hK dX4_round_88 hinX4 0 rfl rfl 10 (by decide) flX4_29 f_num 91 rfl ?_
                refine go_iload_n O dX4_round_91 rfl 3 rfl 92 rfl ?_
                refine go_callvV (As := [.ref qnum, .int (iI ((α : Nat) : Int))]) (rest := []) (wr := [(qcurrency, .inl (cI, 8, .inl fc)), (qisWide, .inl (cZ, 8, .inl fw)), (qnegative, .inl (cZ, 8, .inl fn)), (qden, .inl (cI, 80, .inl (dg (tcsh ca c0 * 10 ^ (10 - tdig c0))))), (qquo, .inl (cI, 80, .inl fq)), (qrem, .inl (cI, 80, .inl fr)), (qother, .inl (cI, 80, .inl fo))]) O hK hE (c_X4_take E hE h fs f_kept qnum cI K fnum α V0 (by omega) (by omega) hK0) mlX4_131 imX4_take seX4_take inX4 cdX4_take 2 (by decide +kernel) ⟨Nat.le_of_ble_eq_true rfl, Nat.le_of_ble_eq_true rfl⟩ 0 rfl rfl [0] rfl [0, 4, 5] rfl (by decide) [1, 2, 3, 6, 7, 8, 9] rfl (by decide) (by decide) rfl rfl (Nat.le_of_ble_eq_true rfl) ⟨Nat.zero_le _, Nat.zero_le _⟩ dX4_round_92 95 rfl (fun u hu => ?_)
                show TGo X [(qcurrency, .inl (cI, 8, .inl fc)), (qisWide, .inl (cZ, 8, .inl fw)), (qnegative, .inl (cZ, 8, .inl fn)), (qden, .inl (cI, 80, .inl (dg (tcsh ca c0 * 10 ^ (10 - tdig c0))))), (qquo, .inl (cI, 80, .inl fq)), (qrem, .inl (cI, 80, .inl fr)), (qother, .inl (cI, 80, .inl fo)), (h, .inr (4, fs)), (qkept, .inl (cI, 320, .inl K)), (qnum, .inl (cI, 80, .inl (dg V0)))] 0 0 95 [(5, .int (iI c0)), (0, .ref h), (1, .int (iI ((ρ : Nat) : Int))), (2, .int (iI ((α : Nat) : Int))), (3, .int (iI k)), (4, .int (iI (bz ca)))] []
                refine TGo.sub (ws' := [(h, .inr (4, fs)), (qcurrency, .inl (cI, 8, .inl fc)), (qisWide, .inl (cZ, 8, .inl fw)), (qnegative, .inl (cZ, 8, .inl fn)), (qkept, .inl (cI, 320, .inl K)), (qnum, .inl (cI, 80, .inl (dg V0))), (qden, .inl (cI, 80, .inl (dg (tcsh ca c0 * 10 ^ (10 - tdig c0))))), (qquo, .inl (cI, 80, .inl fq)), (qrem, .inl (cI, 80, .inl fr)), (qother, .inl (cI, 80, .inl fo))]) [7, 0, 1, 2, 8, 9, 3, 4, 5, 6] (by decide) rfl ?_
                refine go_aload_n O dX4_round_95 rfl 1 rfl 96 rfl ?_
                refine go_callvV (As := []) (rest := []) (wr := [(qcurrency, .inl (cI, 8, .inl fc)), (qisWide, .inl (cZ, 8, .inl fw)), (qnegative, .inl (cZ, 8, .inl fn)), (qkept, .inl (cI, 320, .inl K)), (qother, .inl (cI, 80, .inl fo))]) O hK hE (c_X4_quotient E hE h fs f_num f_den f_quo f_rem cI V0 (tcsh ca c0 * 10 ^ (10 - tdig c0)) fq fr (by omega) hD.1 (by have := hD.2; omega)) mlX4_108 imX4_quotient seX4_quotient inX4 cdX4_quotient 0 (by decide +kernel) ⟨Nat.le_of_ble_eq_true rfl, Nat.le_of_ble_eq_true rfl⟩ 0 rfl rfl [0] rfl [0, 5, 6, 7, 8] rfl (by decide) [1, 2, 3, 4, 9] rfl (by decide) (by decide) rfl rfl (Nat.le_of_ble_eq_true rfl) ⟨Nat.zero_le _, Nat.zero_le _⟩ dX4_round_96 99 rfl (fun u hu => ?_)
                show TGo X [(qcurrency, .inl (cI, 8, .inl fc)), (qisWide, .inl (cZ, 8, .inl fw)), (qnegative, .inl (cZ, 8, .inl fn)), (qkept, .inl (cI, 320, .inl K)), (qother, .inl (cI, 80, .inl fo)), (h, .inr (4, fs)), (qnum, .inl (cI, 80, .inl (dg V0))), (qden, .inl (cI, 80, .inl (dg (tcsh ca c0 * 10 ^ (10 - tdig c0))))), (qquo, .inl (cI, 80, .inl (dg (V0 / (tcsh ca c0 * 10 ^ (10 - tdig c0)))))), (qrem, .inl (cI, 80, .inl (dg (V0 % (tcsh ca c0 * 10 ^ (10 - tdig c0))))))] 0 0 99 [(5, .int (iI c0)), (0, .ref h), (1, .int (iI ((ρ : Nat) : Int))), (2, .int (iI ((α : Nat) : Int))), (3, .int (iI k)), (4, .int (iI (bz ca)))] []
                refine TGo.sub (ws' := [(h, .inr (4, fs)), (qcurrency, .inl (cI, 8, .inl fc)), (qisWide, .inl (cZ, 8, .inl fw)), (qnegative, .inl (cZ, 8, .inl fn)), (qkept, .inl (cI, 320, .inl K)), (qnum, .inl (cI, 80, .inl (dg V0))), (qden, .inl (cI, 80, .inl (dg (tcsh ca c0 * 10 ^ (10 - tdig c0))))), (qquo, .inl (cI, 80, .inl (dg (V0 / (tcsh ca c0 * 10 ^ (10 - tdig c0)))))), (qrem, .inl (cI, 80, .inl (dg (V0 % (tcsh ca c0 * 10 ^ (10 - tdig c0)))))), (qother, .inl (cI, 80, .inl fo))]) [5, 0, 1, 2, 3, 6, 7, 8, 9, 4] (by decide) rfl ?_
                refine go_aload_n O dX4_round_99 rfl 1 rfl 100 rfl ?_
                refine go_aload_n O dX4_round_100 rfl 1 rfl 101 rfl ?_
                refine go_get O hK dX4_round_101 hinX4 0 rfl rfl 5 (by decide) flX4_17 f_negative 104 rfl ?_
                refine go_iload_n O dX4_round_104 rfl 3 rfl 105 rfl ?_
                refine go_zald O hK dX4_round_105 3 1 rfl rfl α rfl (by omega) (by omega) (bz n0) e3 106 rfl ?_
                refine go_iload_n O dX4_round_106 rfl 4 rfl 107 rfl ?_
                refine go_calliV (As := [.int (iI (bz n0)), .int (iI k)]) (rest := []) (wr := [(qcurrency, .inl (cI, 8, .inl fc)), (qisWide, .inl (cZ, 8, .inl fw)), (qnegative, .inl (cZ, 8, .inl fn)), (qkept, .inl (cI, 320, .inl K)), (qnum, .inl (cI, 80, .inl (dg V0)))]) O hK hE (c_X4_rounds E hE h fs f_den f_quo f_rem f_other cI (V0 / (tcsh ca c0 * 10 ^ (10 - tdig c0))) (V0 % (tcsh ca c0 * 10 ^ (10 - tdig c0))) (tcsh ca c0 * 10 ^ (10 - tdig c0)) fo n0 k (by omega) hbd.2.2.1 hbd.2.2.2.1 hbd.2.2.2.2) mlX4_111 imX4_rounds seX4_rounds inX4 cdX4_rounds 2 (by decide +kernel) ⟨Nat.le_of_ble_eq_true rfl, Nat.le_of_ble_eq_true rfl⟩ 0 rfl rfl [0] rfl [0, 6, 7, 8, 9] rfl (by decide) [1, 2, 3, 4, 5] rfl (by decide) (by decide) rfl rfl (Nat.le_of_ble_eq_true rfl) ⟨Nat.zero_le _, Nat.zero_le _⟩ dX4_round_107 110 rfl (fun z u hu => ?_)
                obtain ⟨fo3, rfl⟩ : ∃ z, z = u := ⟨_, rfl⟩
                have hz : (z = 1 ∧ (V0 % (tcsh ca c0 * 10 ^ (10 - tdig c0)) = 0 ∨ k ≠ 7)) ∨ (z = 0 ∧ ¬ (V0 % (tcsh ca c0 * 10 ^ (10 - tdig c0)) = 0 ∨ k ≠ 7)) := by
                  rw [hu]; split
                  · exact Or.inl ⟨rfl, by assumption⟩
                  · exact Or.inr ⟨rfl, by assumption⟩
                have hzr : 0 ≤ z ∧ z ≤ 1 := by rcases hz with e | e <;> omega
                show TGo X [(qcurrency, .inl (cI, 8, .inl fc)), (qisWide, .inl (cZ, 8, .inl fw)), (qnegative, .inl (cZ, 8, .inl fn)), (qkept, .inl (cI, 320, .inl K)), (qnum, .inl (cI, 80, .inl (dg V0))), (h, .inr (4, fs)), (qden, .inl (cI, 80, .inl (dg (tcsh ca c0 * 10 ^ (10 - tdig c0))))), (qquo, .inl (cI, 80, .inl (dg (trnd k n0 (V0 / (tcsh ca c0 * 10 ^ (10 - tdig c0))) (V0 % (tcsh ca c0 * 10 ^ (10 - tdig c0))) (tcsh ca c0 * 10 ^ (10 - tdig c0)))))), (qrem, .inl (cI, 80, .inl (dg (V0 % (tcsh ca c0 * 10 ^ (10 - tdig c0)))))), (qother, .inl (cI, 80, .inl fo3))] 0 0 110 [(5, .int (iI c0)), (0, .ref h), (1, .int (iI ((ρ : Nat) : Int))), (2, .int (iI ((α : Nat) : Int))), (3, .int (iI k)), (4, .int (iI (bz ca)))] [.int (iI z)]
                refine TGo.sub (ws' := [(h, .inr (4, fs)), (qcurrency, .inl (cI, 8, .inl fc)), (qisWide, .inl (cZ, 8, .inl fw)), (qnegative, .inl (cZ, 8, .inl fn)), (qkept, .inl (cI, 320, .inl K)), (qnum, .inl (cI, 80, .inl (dg V0))), (qden, .inl (cI, 80, .inl (dg (tcsh ca c0 * 10 ^ (10 - tdig c0))))), (qquo, .inl (cI, 80, .inl (dg (trnd k n0 (V0 / (tcsh ca c0 * 10 ^ (10 - tdig c0))) (V0 % (tcsh ca c0 * 10 ^ (10 - tdig c0))) (tcsh ca c0 * 10 ^ (10 - tdig c0)))))), (qrem, .inl (cI, 80, .inl (dg (V0 % (tcsh ca c0 * 10 ^ (10 - tdig c0)))))), (qother, .inl (cI, 80, .inl fo3))]) [5, 0, 1, 2, 3, 4, 6, 7, 8, 9] (by decide) rfl ?_
                refine go_if_ne O dX4_round_110 116 (by decide) 113 rfl (by omega) (fun h110 => ?_) (fun h110 => ?_)
                · refine go_aload_n O dX4_round_116 rfl 1 rfl 117 rfl ?_
                  refine go_aload_n O dX4_round_117 rfl 1 rfl 118 rfl ?_
                  refine go_get O hK dX4_round_118 hinX4 0 rfl rfl 13 (by decide) flX4_38 f_quo 121 rfl ?_
                  refine go_aload_n O dX4_round_121 rfl 1 rfl 122 rfl ?_
                  refine go_get O hK dX4_round_122 hinX4 0 rfl rfl 12 (by decide) flX4_35 f_den 125 rfl ?_
                  refine go_callvV (As := [.ref qquo, .ref qden]) (rest := []) (wr := [(qcurrency, .inl (cI, 8, .inl fc)), (qisWide, .inl (cZ, 8, .inl fw)), (qnegative, .inl (cZ, 8, .inl fn)), (qkept, .inl (cI, 320, .inl K)), (qrem, .inl (cI, 80, .inl (dg (V0 % (tcsh ca c0 * 10 ^ (10 - tdig c0)))))), (qother, .inl (cI, 80, .inl fo3))]) O hK hE (c_X4_product E hE h fs f_num qquo qden cI (trnd k n0 (V0 / (tcsh ca c0 * 10 ^ (10 - tdig c0))) (V0 % (tcsh ca c0 * 10 ^ (10 - tdig c0))) (tcsh ca c0 * 10 ^ (10 - tdig c0))) (tcsh ca c0 * 10 ^ (10 - tdig c0)) (dg V0) hbd.1 hbd.2.1) mlX4_138 imX4_product seX4_product inX4 cdX4_product 2 (by decide +kernel) ⟨Nat.le_of_ble_eq_true rfl, Nat.le_of_ble_eq_true rfl⟩ 0 rfl rfl [0] rfl [0, 5, 7, 6] rfl (by decide) [1, 2, 3, 4, 8, 9] rfl (by decide) (by decide) rfl rfl (Nat.le_of_ble_eq_true rfl) ⟨Nat.zero_le _, Nat.zero_le _⟩ dX4_round_125 128 rfl (fun u hu => ?_)
                  show TGo X [(qcurrency, .inl (cI, 8, .inl fc)), (qisWide, .inl (cZ, 8, .inl fw)), (qnegative, .inl (cZ, 8, .inl fn)), (qkept, .inl (cI, 320, .inl K)), (qrem, .inl (cI, 80, .inl (dg (V0 % (tcsh ca c0 * 10 ^ (10 - tdig c0)))))), (qother, .inl (cI, 80, .inl fo3)), (h, .inr (4, fs)), (qnum, .inl (cI, 80, .inl (dg (trnd k n0 (V0 / (tcsh ca c0 * 10 ^ (10 - tdig c0))) (V0 % (tcsh ca c0 * 10 ^ (10 - tdig c0))) (tcsh ca c0 * 10 ^ (10 - tdig c0)) * (tcsh ca c0 * 10 ^ (10 - tdig c0)))))), (qquo, .inl (cI, 80, .inl (dg (trnd k n0 (V0 / (tcsh ca c0 * 10 ^ (10 - tdig c0))) (V0 % (tcsh ca c0 * 10 ^ (10 - tdig c0))) (tcsh ca c0 * 10 ^ (10 - tdig c0)))))), (qden, .inl (cI, 80, .inl (dg (tcsh ca c0 * 10 ^ (10 - tdig c0)))))] 0 0 128 [(5, .int (iI c0)), (0, .ref h), (1, .int (iI ((ρ : Nat) : Int))), (2, .int (iI ((α : Nat) : Int))), (3, .int (iI k)), (4, .int (iI (bz ca)))] []
                  refine TGo.sub (ws' := [(h, .inr (4, fs)), (qcurrency, .inl (cI, 8, .inl fc)), (qisWide, .inl (cZ, 8, .inl fw)), (qnegative, .inl (cZ, 8, .inl fn)), (qkept, .inl (cI, 320, .inl K)), (qnum, .inl (cI, 80, .inl (dg (trnd k n0 (V0 / (tcsh ca c0 * 10 ^ (10 - tdig c0))) (V0 % (tcsh ca c0 * 10 ^ (10 - tdig c0))) (tcsh ca c0 * 10 ^ (10 - tdig c0)) * (tcsh ca c0 * 10 ^ (10 - tdig c0)))))), (qden, .inl (cI, 80, .inl (dg (tcsh ca c0 * 10 ^ (10 - tdig c0))))), (qquo, .inl (cI, 80, .inl (dg (trnd k n0 (V0 / (tcsh ca c0 * 10 ^ (10 - tdig c0))) (V0 % (tcsh ca c0 * 10 ^ (10 - tdig c0))) (tcsh ca c0 * 10 ^ (10 - tdig c0)))))), (qrem, .inl (cI, 80, .inl (dg (V0 % (tcsh ca c0 * 10 ^ (10 - tdig c0)))))), (qother, .inl (cI, 80, .inl fo3))]) [6, 0, 1, 2, 3, 7, 9, 8, 4, 5] (by decide) rfl ?_
                  refine go_aload_n O dX4_round_128 rfl 1 rfl 129 rfl ?_
                  refine go_aload_n O dX4_round_129 rfl 1 rfl 130 rfl ?_
                  refine go_get O hK dX4_round_130 hinX4 0 rfl rfl 10 (by decide) flX4_29 f_num 133 rfl ?_
                  refine go_aload_n O dX4_round_133 rfl 1 rfl 134 rfl ?_
                  refine go_get O hK dX4_round_134 hinX4 0 rfl rfl 4 (by decide) flX4_13 f_isWide 137 rfl ?_
                  refine go_iload_n O dX4_round_137 rfl 3 rfl 138 rfl ?_
                  refine go_zald O hK dX4_round_138 2 1 rfl rfl α rfl (by omega) (by omega) (bz w0) e2 139 rfl ?_
                  refine go_aload_n O dX4_round_139 rfl 1 rfl 140 rfl ?_
                  refine go_get O hK dX4_round_140 hinX4 0 rfl rfl 5 (by decide) flX4_17 f_negative 143 rfl ?_
                  refine go_iload_n O dX4_round_143 rfl 3 rfl 144 rfl ?_
                  refine go_zald O hK dX4_round_144 3 1 rfl rfl α rfl (by omega) (by omega) (bz n0) e3 145 rfl ?_
                  refine go_calliV (As := [.ref qnum, .int (iI (bz w0)), .int (iI (bz n0))]) (rest := []) (wr := [(qcurrency, .inl (cI, 8, .inl fc)), (qisWide, .inl (cZ, 8, .inl fw)), (qnegative, .inl (cZ, 8, .inl fn)), (qkept, .inl (cI, 320, .inl K)), (qden, .inl (cI, 80, .inl (dg (tcsh ca c0 * 10 ^ (10 - tdig c0))))), (qquo, .inl (cI, 80, .inl (dg (trnd k n0 (V0 / (tcsh ca c0 * 10 ^ (10 - tdig c0))) (V0 % (tcsh ca c0 * 10 ^ (10 - tdig c0))) (tcsh ca c0 * 10 ^ (10 - tdig c0)))))), (qrem, .inl (cI, 80, .inl (dg (V0 % (tcsh ca c0 * 10 ^ (10 - tdig c0))))))]) O hK hE (c_X4_fits E hE h fs f_other qnum cI (trnd k n0 (V0 / (tcsh ca c0 * 10 ^ (10 - tdig c0))) (V0 % (tcsh ca c0 * 10 ^ (10 - tdig c0))) (tcsh ca c0 * 10 ^ (10 - tdig c0)) * (tcsh ca c0 * 10 ^ (10 - tdig c0))) fo3 w0 n0 hbd.2.1) mlX4_115 imX4_fits seX4_fits inX4 cdX4_fits 3 (by decide +kernel) ⟨Nat.le_of_ble_eq_true rfl, Nat.le_of_ble_eq_true rfl⟩ 0 rfl rfl [0] rfl [0, 9, 5] rfl (by decide) [1, 2, 3, 4, 6, 7, 8] rfl (by decide) (by decide) rfl rfl (Nat.le_of_ble_eq_true rfl) ⟨Nat.zero_le _, Nat.zero_le _⟩ dX4_round_145 148 rfl (fun z u hu => ?_)
                  subst hu
                  obtain ⟨fo2, rfl⟩ : ∃ z, z = u := ⟨_, rfl⟩
                  show TGo X [(qcurrency, .inl (cI, 8, .inl fc)), (qisWide, .inl (cZ, 8, .inl fw)), (qnegative, .inl (cZ, 8, .inl fn)), (qkept, .inl (cI, 320, .inl K)), (qden, .inl (cI, 80, .inl (dg (tcsh ca c0 * 10 ^ (10 - tdig c0))))), (qquo, .inl (cI, 80, .inl (dg (trnd k n0 (V0 / (tcsh ca c0 * 10 ^ (10 - tdig c0))) (V0 % (tcsh ca c0 * 10 ^ (10 - tdig c0))) (tcsh ca c0 * 10 ^ (10 - tdig c0)))))), (qrem, .inl (cI, 80, .inl (dg (V0 % (tcsh ca c0 * 10 ^ (10 - tdig c0)))))), (h, .inr (4, fs)), (qother, .inl (cI, 80, .inl fo2)), (qnum, .inl (cI, 80, .inl (dg (trnd k n0 (V0 / (tcsh ca c0 * 10 ^ (10 - tdig c0))) (V0 % (tcsh ca c0 * 10 ^ (10 - tdig c0))) (tcsh ca c0 * 10 ^ (10 - tdig c0)) * (tcsh ca c0 * 10 ^ (10 - tdig c0))))))] 0 0 148 [(5, .int (iI c0)), (0, .ref h), (1, .int (iI ((ρ : Nat) : Int))), (2, .int (iI ((α : Nat) : Int))), (3, .int (iI k)), (4, .int (iI (bz ca)))] [.int (iI (bz (tfit w0 n0 (trnd k n0 (V0 / (tcsh ca c0 * 10 ^ (10 - tdig c0))) (V0 % (tcsh ca c0 * 10 ^ (10 - tdig c0))) (tcsh ca c0 * 10 ^ (10 - tdig c0)) * (tcsh ca c0 * 10 ^ (10 - tdig c0))))))]
                  refine TGo.sub (ws' := [(h, .inr (4, fs)), (qcurrency, .inl (cI, 8, .inl fc)), (qisWide, .inl (cZ, 8, .inl fw)), (qnegative, .inl (cZ, 8, .inl fn)), (qkept, .inl (cI, 320, .inl K)), (qnum, .inl (cI, 80, .inl (dg (trnd k n0 (V0 / (tcsh ca c0 * 10 ^ (10 - tdig c0))) (V0 % (tcsh ca c0 * 10 ^ (10 - tdig c0))) (tcsh ca c0 * 10 ^ (10 - tdig c0)) * (tcsh ca c0 * 10 ^ (10 - tdig c0)))))), (qden, .inl (cI, 80, .inl (dg (tcsh ca c0 * 10 ^ (10 - tdig c0))))), (qquo, .inl (cI, 80, .inl (dg (trnd k n0 (V0 / (tcsh ca c0 * 10 ^ (10 - tdig c0))) (V0 % (tcsh ca c0 * 10 ^ (10 - tdig c0))) (tcsh ca c0 * 10 ^ (10 - tdig c0)))))), (qrem, .inl (cI, 80, .inl (dg (V0 % (tcsh ca c0 * 10 ^ (10 - tdig c0)))))), (qother, .inl (cI, 80, .inl fo2))]) [7, 0, 1, 2, 3, 9, 4, 5, 6, 8] (by decide) rfl ?_
                  refine go_if_eq O dX4_round_148 177 (by decide) 151 rfl (bz_r _) (fun h148 => ?_) (fun h148 => ?_)
                  · refine go_bipush O dX4_round_177 (by decide) 179 rfl ?_
                    have he := spRnd_ok (ca := ca) hb3 hq (hz.resolve_right (fun e => by omega)).2
                    rw [if_neg (by rw [bz_0.mp h148]; decide)] at he
                    exact hret _ _ _ (fc, fw, fn, K, dg (trnd k n0 (V0 / (tcsh ca c0 * 10 ^ (10 - tdig c0))) (V0 % (tcsh ca c0 * 10 ^ (10 - tdig c0))) (tcsh ca c0 * 10 ^ (10 - tdig c0)) * (tcsh ca c0 * 10 ^ (10 - tdig c0))), dg (tcsh ca c0 * 10 ^ (10 - tdig c0)), dg (trnd k n0 (V0 / (tcsh ca c0 * 10 ^ (10 - tdig c0))) (V0 % (tcsh ca c0 * 10 ^ (10 - tdig c0))) (tcsh ca c0 * 10 ^ (10 - tdig c0))), dg (V0 % (tcsh ca c0 * 10 ^ (10 - tdig c0))), fo2) dX4_round_179 rfl ⟨by rw [he]; rfl, by rw [he]; exact hMR⟩
                  · refine go_aload_n O dX4_round_151 rfl 1 rfl 152 rfl ?_
                    refine go_iload_n O dX4_round_152 rfl 2 rfl 153 rfl ?_
                    refine go_iload O dX4_round_153 0 rfl 155 rfl ?_
                    refine go_aload_n O dX4_round_155 rfl 1 rfl 156 rfl ?_
                    refine go_get O hK dX4_round_156 hinX4 0 rfl rfl 4 (by decide) flX4_13 f_isWide 159 rfl ?_
                    refine go_iload_n O dX4_round_159 rfl 3 rfl 160 rfl ?_
                    refine go_zald O hK dX4_round_160 2 1 rfl rfl α rfl (by omega) (by omega) (bz w0) e2 161 rfl ?_
                    refine go_aload_n O dX4_round_161 rfl 1 rfl 162 rfl ?_
                    refine go_get O hK dX4_round_162 hinX4 0 rfl rfl 5 (by decide) flX4_17 f_negative 165 rfl ?_
                    refine go_iload_n O dX4_round_165 rfl 3 rfl 166 rfl ?_
                    refine go_zald O hK dX4_round_166 3 1 rfl rfl α rfl (by omega) (by omega) (bz n0) e3 167 rfl ?_
                    refine go_aload_n O dX4_round_167 rfl 1 rfl 168 rfl ?_
                    refine go_get O hK dX4_round_168 hinX4 0 rfl rfl 10 (by decide) flX4_29 f_num 171 rfl ?_
                    refine go_calliV (As := [.int (iI ((ρ : Nat) : Int)), .int (iI c0), .int (iI (bz w0)), .int (iI (bz n0)), .ref qnum]) (rest := []) (wr := [(qden, .inl (cI, 80, .inl (dg (tcsh ca c0 * 10 ^ (10 - tdig c0))))), (qquo, .inl (cI, 80, .inl (dg (trnd k n0 (V0 / (tcsh ca c0 * 10 ^ (10 - tdig c0))) (V0 % (tcsh ca c0 * 10 ^ (10 - tdig c0))) (tcsh ca c0 * 10 ^ (10 - tdig c0)))))), (qrem, .inl (cI, 80, .inl (dg (V0 % (tcsh ca c0 * 10 ^ (10 - tdig c0)))))), (qother, .inl (cI, 80, .inl fo2))]) O hK hE (c_X4_keep E hE h fs f_currency f_isWide f_negative f_kept qnum cI cZ ρ (trnd k n0 (V0 / (tcsh ca c0 * 10 ^ (10 - tdig c0))) (V0 % (tcsh ca c0 * 10 ^ (10 - tdig c0))) (tcsh ca c0 * 10 ^ (10 - tdig c0)) * (tcsh ca c0 * 10 ^ (10 - tdig c0))) c0 fc fw fn K reg w0 n0 (by omega) (by omega) (tfit_36 (bz_ne h148)) hMR) mlX4_119 imX4_keep seX4_keep inX4 cdX4_keep 5 (by decide +kernel) ⟨Nat.le_of_ble_eq_true rfl, Nat.le_of_ble_eq_true rfl⟩ 0 rfl rfl [0, 1] rfl [0, 1, 2, 3, 4, 5] rfl (by decide) [6, 7, 8, 9] rfl (by decide) (by decide) rfl rfl (Nat.le_of_ble_eq_true rfl) ⟨Nat.zero_le _, Nat.zero_le _⟩ dX4_round_171 174 rfl (fun z u hu => ?_)
                    obtain ⟨fc2, fw2, fn2, K2⟩ := u
                    obtain ⟨rfl, hMR2⟩ := hu
                    show TGo X [(qden, .inl (cI, 80, .inl (dg (tcsh ca c0 * 10 ^ (10 - tdig c0))))), (qquo, .inl (cI, 80, .inl (dg (trnd k n0 (V0 / (tcsh ca c0 * 10 ^ (10 - tdig c0))) (V0 % (tcsh ca c0 * 10 ^ (10 - tdig c0))) (tcsh ca c0 * 10 ^ (10 - tdig c0)))))), (qrem, .inl (cI, 80, .inl (dg (V0 % (tcsh ca c0 * 10 ^ (10 - tdig c0)))))), (qother, .inl (cI, 80, .inl fo2)), (h, .inr (4, fs)), (qcurrency, .inl (cI, 8, .inl fc2)), (qisWide, .inl (cZ, 8, .inl fw2)), (qnegative, .inl (cZ, 8, .inl fn2)), (qkept, .inl (cI, 320, .inl K2)), (qnum, .inl (cI, 80, .inl (dg (trnd k n0 (V0 / (tcsh ca c0 * 10 ^ (10 - tdig c0))) (V0 % (tcsh ca c0 * 10 ^ (10 - tdig c0))) (tcsh ca c0 * 10 ^ (10 - tdig c0)) * (tcsh ca c0 * 10 ^ (10 - tdig c0))))))] 0 0 174 [(5, .int (iI c0)), (0, .ref h), (1, .int (iI ((ρ : Nat) : Int))), (2, .int (iI ((α : Nat) : Int))), (3, .int (iI k)), (4, .int (iI (bz ca)))] [.int (iI 0)]
                    refine TGo.sub (ws' := [(h, .inr (4, fs)), (qcurrency, .inl (cI, 8, .inl fc2)), (qisWide, .inl (cZ, 8, .inl fw2)), (qnegative, .inl (cZ, 8, .inl fn2)), (qkept, .inl (cI, 320, .inl K2)), (qnum, .inl (cI, 80, .inl (dg (trnd k n0 (V0 / (tcsh ca c0 * 10 ^ (10 - tdig c0))) (V0 % (tcsh ca c0 * 10 ^ (10 - tdig c0))) (tcsh ca c0 * 10 ^ (10 - tdig c0)) * (tcsh ca c0 * 10 ^ (10 - tdig c0)))))), (qden, .inl (cI, 80, .inl (dg (tcsh ca c0 * 10 ^ (10 - tdig c0))))), (qquo, .inl (cI, 80, .inl (dg (trnd k n0 (V0 / (tcsh ca c0 * 10 ^ (10 - tdig c0))) (V0 % (tcsh ca c0 * 10 ^ (10 - tdig c0))) (tcsh ca c0 * 10 ^ (10 - tdig c0)))))), (qrem, .inl (cI, 80, .inl (dg (V0 % (tcsh ca c0 * 10 ^ (10 - tdig c0)))))), (qother, .inl (cI, 80, .inl fo2))]) [4, 5, 6, 7, 8, 9, 0, 1, 2, 3] (by decide) rfl ?_
                    refine go_goto O dX4_round_174 179 (by decide) ?_
                    have he := spRnd_ok (ca := ca) hb3 hq (hz.resolve_right (fun e => by omega)).2
                    rw [if_pos (bz_ne h148)] at he
                    exact hret _ _ _ (fc2, fw2, fn2, K2, dg (trnd k n0 (V0 / (tcsh ca c0 * 10 ^ (10 - tdig c0))) (V0 % (tcsh ca c0 * 10 ^ (10 - tdig c0))) (tcsh ca c0 * 10 ^ (10 - tdig c0)) * (tcsh ca c0 * 10 ^ (10 - tdig c0))), dg (tcsh ca c0 * 10 ^ (10 - tdig c0)), dg (trnd k n0 (V0 / (tcsh ca c0 * 10 ^ (10 - tdig c0))) (V0 % (tcsh ca c0 * 10 ^ (10 - tdig c0))) (tcsh ca c0 * 10 ^ (10 - tdig c0))), dg (V0 % (tcsh ca c0 * 10 ^ (10 - tdig c0))), fo2) dX4_round_179 rfl ⟨by rw [he]; rfl, by rw [he]; exact hMR2⟩
                · refine go_bipush O dX4_round_113 (by decide) 115 rfl ?_
                  have he := spRnd_x (ca := ca) hb3 hq (hz.resolve_left (fun e => by omega)).2
                  exact hret _ _ _ (fc, fw, fn, K, dg V0, dg (tcsh ca c0 * 10 ^ (10 - tdig c0)), dg (trnd k n0 (V0 / (tcsh ca c0 * 10 ^ (10 - tdig c0))) (V0 % (tcsh ca c0 * 10 ^ (10 - tdig c0))) (tcsh ca c0 * 10 ^ (10 - tdig c0))), dg (V0 % (tcsh ca c0 * 10 ^ (10 - tdig c0))), fo3) dX4_round_115 rfl ⟨by rw [he], by rw [he]; exact hMR⟩
              · refine go_iconst O dX4_round_78 79 rfl ?_
                refine go_goto O dX4_round_79 83 (by decide) ?_
                refine TGo.topi (y := ((tcsh ca c0 : Nat) : Int)) (tcsh_v (by omega)) ?_
                refine go_callvV (As := [.int (iI c0), .int (iI ((tcsh ca c0 : Nat) : Int))]) (rest := []) (wr := [(qcurrency, .inl (cI, 8, .inl fc)), (qisWide, .inl (cZ, 8, .inl fw)), (qnegative, .inl (cZ, 8, .inl fn)), (qkept, .inl (cI, 320, .inl K)), (qnum, .inl (cI, 80, .inl fnum)), (qquo, .inl (cI, 80, .inl fq)), (qrem, .inl (cI, 80, .inl fr)), (qother, .inl (cI, 80, .inl fo))]) O hK hE (c_X4_step E hE h fs f_den cI fd c0 (by omega) (tcsh ca c0) (by have := tcsh_bd ca c0; omega)) mlX4_145 imX4_step seX4_step inX4 cdX4_step 2 (by decide +kernel) ⟨Nat.le_of_ble_eq_true rfl, Nat.le_of_ble_eq_true rfl⟩ 0 rfl rfl [0] rfl [0, 6] rfl (by decide) [1, 2, 3, 4, 5, 7, 8, 9] rfl (by decide) (by decide) rfl rfl (Nat.le_of_ble_eq_true rfl) ⟨Nat.zero_le _, Nat.zero_le _⟩ dX4_round_83 86 rfl (fun u hu => ?_)
                have hD := tD_bd ca c0
                have hbd := rnd_bd (k := k) (b := n0) hV0 hD
                show TGo X [(qcurrency, .inl (cI, 8, .inl fc)), (qisWide, .inl (cZ, 8, .inl fw)), (qnegative, .inl (cZ, 8, .inl fn)), (qkept, .inl (cI, 320, .inl K)), (qnum, .inl (cI, 80, .inl fnum)), (qquo, .inl (cI, 80, .inl fq)), (qrem, .inl (cI, 80, .inl fr)), (qother, .inl (cI, 80, .inl fo)), (h, .inr (4, fs)), (qden, .inl (cI, 80, .inl (dg (tcsh ca c0 * 10 ^ (10 - tdig c0)))))] 0 0 86 [(5, .int (iI c0)), (0, .ref h), (1, .int (iI ((ρ : Nat) : Int))), (2, .int (iI ((α : Nat) : Int))), (3, .int (iI k)), (4, .int (iI (bz ca)))] []
                refine TGo.sub (ws' := [(h, .inr (4, fs)), (qcurrency, .inl (cI, 8, .inl fc)), (qisWide, .inl (cZ, 8, .inl fw)), (qnegative, .inl (cZ, 8, .inl fn)), (qkept, .inl (cI, 320, .inl K)), (qnum, .inl (cI, 80, .inl fnum)), (qden, .inl (cI, 80, .inl (dg (tcsh ca c0 * 10 ^ (10 - tdig c0))))), (qquo, .inl (cI, 80, .inl fq)), (qrem, .inl (cI, 80, .inl fr)), (qother, .inl (cI, 80, .inl fo))]) [8, 0, 1, 2, 3, 4, 9, 5, 6, 7] (by decide) rfl ?_
                refine go_aload_n O dX4_round_86 rfl 1 rfl 87 rfl ?_
                refine go_aload_n O dX4_round_87 rfl 1 rfl 88 rfl ?_
                refine go_get O hK dX4_round_88 hinX4 0 rfl rfl 10 (by decide) flX4_29 f_num 91 rfl ?_
                refine go_iload_n O dX4_round_91 rfl 3 rfl 92 rfl ?_
                refine go_callvV (As := [.ref qnum, .int (iI ((α : Nat) : Int))]) (rest := []) (wr := [(qcurrency, .inl (cI, 8, .inl fc)), (qisWide, .inl (cZ, 8, .inl fw)), (qnegative, .inl (cZ, 8, .inl fn)), (qden, .inl (cI, 80, .inl (dg (tcsh ca c0 * 10 ^ (10 - tdig c0))))), (qquo, .inl (cI, 80, .inl fq)), (qrem, .inl (cI, 80, .inl fr)), (qother, .inl (cI, 80, .inl fo))]) O hK hE (c_X4_take E hE h fs f_kept qnum cI K fnum α V0 (by omega) (by omega) hK0) mlX4_131 imX4_take seX4_take inX4 cdX4_take 2 (by decide +kernel) ⟨Nat.le_of_ble_eq_true rfl, Nat.le_of_ble_eq_true rfl⟩ 0 rfl rfl [0] rfl [0, 4, 5] rfl (by decide) [1, 2, 3, 6, 7, 8, 9] rfl (by decide) (by decide) rfl rfl (Nat.le_of_ble_eq_true rfl) ⟨Nat.zero_le _, Nat.zero_le _⟩ dX4_round_92 95 rfl (fun u hu => ?_)
                show TGo X [(qcurrency, .inl (cI, 8, .inl fc)), (qisWide, .inl (cZ, 8, .inl fw)), (qnegative, .inl (cZ, 8, .inl fn)), (qden, .inl (cI, 80, .inl (dg (tcsh ca c0 * 10 ^ (10 - tdig c0))))), (qquo, .inl (cI, 80, .inl fq)), (qrem, .inl (cI, 80, .inl fr)), (qother, .inl (cI, 80, .inl fo)), (h, .inr (4, fs)), (qkept, .inl (cI, 320, .inl K)), (qnum, .inl (cI, 80, .inl (dg V0)))] 0 0 95 [(5, .int (iI c0)), (0, .ref h), (1, .int (iI ((ρ : Nat) : Int))), (2, .int (iI ((α : Nat) : Int))), (3, .int (iI k)), (4, .int (iI (bz ca)))] []
                refine TGo.sub (ws' := [(h, .inr (4, fs)), (qcurrency, .inl (cI, 8, .inl fc)), (qisWide, .inl (cZ, 8, .inl fw)), (qnegative, .inl (cZ, 8, .inl fn)), (qkept, .inl (cI, 320, .inl K)), (qnum, .inl (cI, 80, .inl (dg V0))), (qden, .inl (cI, 80, .inl (dg (tcsh ca c0 * 10 ^ (10 - tdig c0))))), (qquo, .inl (cI, 80, .inl fq)), (qrem, .inl (cI, 80, .inl fr)), (qother, .inl (cI, 80, .inl fo))]) [7, 0, 1, 2, 8, 9, 3, 4, 5, 6] (by decide) rfl ?_
                refine go_aload_n O dX4_round_95 rfl 1 rfl 96 rfl ?_
                refine go_callvV (As := []) (rest := []) (wr := [(qcurrency, .inl (cI, 8, .inl fc)), (qisWide, .inl (cZ, 8, .inl fw)), (qnegative, .inl (cZ, 8, .inl fn)), (qkept, .inl (cI, 320, .inl K)), (qother, .inl (cI, 80, .inl fo))]) O hK hE (c_X4_quotient E hE h fs f_num f_den f_quo f_rem cI V0 (tcsh ca c0 * 10 ^ (10 - tdig c0)) fq fr (by omega) hD.1 (by have := hD.2; omega)) mlX4_108 imX4_quotient seX4_quotient inX4 cdX4_quotient 0 (by decide +kernel) ⟨Nat.le_of_ble_eq_true rfl, Nat.le_of_ble_eq_true rfl⟩ 0 rfl rfl [0] rfl [0, 5, 6, 7, 8] rfl (by decide) [1, 2, 3, 4, 9] rfl (by decide) (by decide) rfl rfl (Nat.le_of_ble_eq_true rfl) ⟨Nat.zero_le _, Nat.zero_le _⟩ dX4_round_96 99 rfl (fun u hu => ?_)
                show TGo X [(qcurrency, .inl (cI, 8, .inl fc)), (qisWide, .inl (cZ, 8, .inl fw)), (qnegative, .inl (cZ, 8, .inl fn)), (qkept, .inl (cI, 320, .inl K)), (qother, .inl (cI, 80, .inl fo)), (h, .inr (4, fs)), (qnum, .inl (cI, 80, .inl (dg V0))), (qden, .inl (cI, 80, .inl (dg (tcsh ca c0 * 10 ^ (10 - tdig c0))))), (qquo, .inl (cI, 80, .inl (dg (V0 / (tcsh ca c0 * 10 ^ (10 - tdig c0)))))), (qrem, .inl (cI, 80, .inl (dg (V0 % (tcsh ca c0 * 10 ^ (10 - tdig c0))))))] 0 0 99 [(5, .int (iI c0)), (0, .ref h), (1, .int (iI ((ρ : Nat) : Int))), (2, .int (iI ((α : Nat) : Int))), (3, .int (iI k)), (4, .int (iI (bz ca)))] []
                refine TGo.sub (ws' := [(h, .inr (4, fs)), (qcurrency, .inl (cI, 8, .inl fc)), (qisWide, .inl (cZ, 8, .inl fw)), (qnegative, .inl (cZ, 8, .inl fn)), (qkept, .inl (cI, 320, .inl K)), (qnum, .inl (cI, 80, .inl (dg V0))), (qden, .inl (cI, 80, .inl (dg (tcsh ca c0 * 10 ^ (10 - tdig c0))))), (qquo, .inl (cI, 80, .inl (dg (V0 / (tcsh ca c0 * 10 ^ (10 - tdig c0)))))), (qrem, .inl (cI, 80, .inl (dg (V0 % (tcsh ca c0 * 10 ^ (10 - tdig c0)))))), (qother, .inl (cI, 80, .inl fo))]) [5, 0, 1, 2, 3, 6, 7, 8, 9, 4] (by decide) rfl ?_
                refine go_aload_n O dX4_round_99 rfl 1 rfl 100 rfl ?_
                refine go_aload_n O dX4_round_100 rfl 1 rfl 101 rfl ?_
                refine go_get O hK dX4_round_101 hinX4 0 rfl rfl 5 (by decide) flX4_17 f_negative 104 rfl ?_
                refine go_iload_n O dX4_round_104 rfl 3 rfl 105 rfl ?_
                refine go_zald O hK dX4_round_105 3 1 rfl rfl α rfl (by omega) (by omega) (bz n0) e3 106 rfl ?_
                refine go_iload_n O dX4_round_106 rfl 4 rfl 107 rfl ?_
                refine go_calliV (As := [.int (iI (bz n0)), .int (iI k)]) (rest := []) (wr := [(qcurrency, .inl (cI, 8, .inl fc)), (qisWide, .inl (cZ, 8, .inl fw)), (qnegative, .inl (cZ, 8, .inl fn)), (qkept, .inl (cI, 320, .inl K)), (qnum, .inl (cI, 80, .inl (dg V0)))]) O hK hE (c_X4_rounds E hE h fs f_den f_quo f_rem f_other cI (V0 / (tcsh ca c0 * 10 ^ (10 - tdig c0))) (V0 % (tcsh ca c0 * 10 ^ (10 - tdig c0))) (tcsh ca c0 * 10 ^ (10 - tdig c0)) fo n0 k (by omega) hbd.2.2.1 hbd.2.2.2.1 hbd.2.2.2.2) mlX4_111 imX4_rounds seX4_rounds inX4 cdX4_rounds 2 (by decide +kernel) ⟨Nat.le_of_ble_eq_true rfl, Nat.le_of_ble_eq_true rfl⟩ 0 rfl rfl [0] rfl [0, 6, 7, 8, 9] rfl (by decide) [1, 2, 3, 4, 5] rfl (by decide) (by decide) rfl rfl (Nat.le_of_ble_eq_true rfl) ⟨Nat.zero_le _, Nat.zero_le _⟩ dX4_round_107 110 rfl (fun z u hu => ?_)
                obtain ⟨fo3, rfl⟩ : ∃ z, z = u := ⟨_, rfl⟩
                have hz : (z = 1 ∧ (V0 % (tcsh ca c0 * 10 ^ (10 - tdig c0)) = 0 ∨ k ≠ 7)) ∨ (z = 0 ∧ ¬ (V0 % (tcsh ca c0 * 10 ^ (10 - tdig c0)) = 0 ∨ k ≠ 7)) := by
                  rw [hu]; split
                  · exact Or.inl ⟨rfl, by assumption⟩
                  · exact Or.inr ⟨rfl, by assumption⟩
                have hzr : 0 ≤ z ∧ z ≤ 1 := by rcases hz with e | e <;> omega
                show TGo X [(qcurrency, .inl (cI, 8, .inl fc)), (qisWide, .inl (cZ, 8, .inl fw)), (qnegative, .inl (cZ, 8, .inl fn)), (qkept, .inl (cI, 320, .inl K)), (qnum, .inl (cI, 80, .inl (dg V0))), (h, .inr (4, fs)), (qden, .inl (cI, 80, .inl (dg (tcsh ca c0 * 10 ^ (10 - tdig c0))))), (qquo, .inl (cI, 80, .inl (dg (trnd k n0 (V0 / (tcsh ca c0 * 10 ^ (10 - tdig c0))) (V0 % (tcsh ca c0 * 10 ^ (10 - tdig c0))) (tcsh ca c0 * 10 ^ (10 - tdig c0)))))), (qrem, .inl (cI, 80, .inl (dg (V0 % (tcsh ca c0 * 10 ^ (10 - tdig c0)))))), (qother, .inl (cI, 80, .inl fo3))] 0 0 110 [(5, .int (iI c0)), (0, .ref h), (1, .int (iI ((ρ : Nat) : Int))), (2, .int (iI ((α : Nat) : Int))), (3, .int (iI k)), (4, .int (iI (bz ca)))] [.int (iI z)]
                refine TGo.sub (ws' := [(h, .inr (4, fs)), (qcurrency, .inl (cI, 8, .inl fc)), (qisWide, .inl (cZ, 8, .inl fw)), (qnegative, .inl (cZ, 8, .inl fn)), (qkept, .inl (cI, 320, .inl K)), (qnum, .inl (cI, 80, .inl (dg V0))), (qden, .inl (cI, 80, .inl (dg (tcsh ca c0 * 10 ^ (10 - tdig c0))))), (qquo, .inl (cI, 80, .inl (dg (trnd k n0 (V0 / (tcsh ca c0 * 10 ^ (10 - tdig c0))) (V0 % (tcsh ca c0 * 10 ^ (10 - tdig c0))) (tcsh ca c0 * 10 ^ (10 - tdig c0)))))), (qrem, .inl (cI, 80, .inl (dg (V0 % (tcsh ca c0 * 10 ^ (10 - tdig c0)))))), (qother, .inl (cI, 80, .inl fo3))]) [5, 0, 1, 2, 3, 4, 6, 7, 8, 9] (by decide) rfl ?_
                refine go_if_ne O dX4_round_110 116 (by decide) 113 rfl (by omega) (fun h110 => ?_) (fun h110 => ?_)
                · refine go_aload_n O dX4_round_116 rfl 1 rfl 117 rfl ?_
                  refine go_aload_n O dX4_round_117 rfl 1 rfl 118 rfl ?_
                  refine go_get O hK dX4_round_118 hinX4 0 rfl rfl 13 (by decide) flX4_38 f_quo 121 rfl ?_
                  refine go_aload_n O dX4_round_121 rfl 1 rfl 122 rfl ?_
                  refine go_get O hK dX4_round_122 hinX4 0 rfl rfl 12 (by decide) flX4_35 f_den 125 rfl ?_
                  refine go_callvV (As := [.ref qquo, .ref qden]) (rest := []) (wr := [(qcurrency, .inl (cI, 8, .inl fc)), (qisWide, .inl (cZ, 8, .inl fw)), (qnegative, .inl (cZ, 8, .inl fn)), (qkept, .inl (cI, 320, .inl K)), (qrem, .inl (cI, 80, .inl (dg (V0 % (tcsh ca c0 * 10 ^ (10 - tdig c0)))))), (qother, .inl (cI, 80, .inl fo3))]) O hK hE (c_X4_product E hE h fs f_num qquo qden cI (trnd k n0 (V0 / (tcsh ca c0 * 10 ^ (10 - tdig c0))) (V0 % (tcsh ca c0 * 10 ^ (10 - tdig c0))) (tcsh ca c0 * 10 ^ (10 - tdig c0))) (tcsh ca c0 * 10 ^ (10 - tdig c0)) (dg V0) hbd.1 hbd.2.1) mlX4_138 imX4_product seX4_product inX4 cdX4_product 2 (by decide +kernel) ⟨Nat.le_of_ble_eq_true rfl, Nat.le_of_ble_eq_true rfl⟩ 0 rfl rfl [0] rfl [0, 5, 7, 6] rfl (by decide) [1, 2, 3, 4, 8, 9] rfl (by decide) (by decide) rfl rfl (Nat.le_of_ble_eq_true rfl) ⟨Nat.zero_le _, Nat.zero_le _⟩ dX4_round_125 128 rfl (fun u hu => ?_)
                  show TGo X [(qcurrency, .inl (cI, 8, .inl fc)), (qisWide, .inl (cZ, 8, .inl fw)), (qnegative, .inl (cZ, 8, .inl fn)), (qkept, .inl (cI, 320, .inl K)), (qrem, .inl (cI, 80, .inl (dg (V0 % (tcsh ca c0 * 10 ^ (10 - tdig c0)))))), (qother, .inl (cI, 80, .inl fo3)), (h, .inr (4, fs)), (qnum, .inl (cI, 80, .inl (dg (trnd k n0 (V0 / (tcsh ca c0 * 10 ^ (10 - tdig c0))) (V0 % (tcsh ca c0 * 10 ^ (10 - tdig c0))) (tcsh ca c0 * 10 ^ (10 - tdig c0)) * (tcsh ca c0 * 10 ^ (10 - tdig c0)))))), (qquo, .inl (cI, 80, .inl (dg (trnd k n0 (V0 / (tcsh ca c0 * 10 ^ (10 - tdig c0))) (V0 % (tcsh ca c0 * 10 ^ (10 - tdig c0))) (tcsh ca c0 * 10 ^ (10 - tdig c0)))))), (qden, .inl (cI, 80, .inl (dg (tcsh ca c0 * 10 ^ (10 - tdig c0)))))] 0 0 128 [(5, .int (iI c0)), (0, .ref h), (1, .int (iI ((ρ : Nat) : Int))), (2, .int (iI ((α : Nat) : Int))), (3, .int (iI k)), (4, .int (iI (bz ca)))] []
                  refine TGo.sub (ws' := [(h, .inr (4, fs)), (qcurrency, .inl (cI, 8, .inl fc)), (qisWide, .inl (cZ, 8, .inl fw)), (qnegative, .inl (cZ, 8, .inl fn)), (qkept, .inl (cI, 320, .inl K)), (qnum, .inl (cI, 80, .inl (dg (trnd k n0 (V0 / (tcsh ca c0 * 10 ^ (10 - tdig c0))) (V0 % (tcsh ca c0 * 10 ^ (10 - tdig c0))) (tcsh ca c0 * 10 ^ (10 - tdig c0)) * (tcsh ca c0 * 10 ^ (10 - tdig c0)))))), (qden, .inl (cI, 80, .inl (dg (tcsh ca c0 * 10 ^ (10 - tdig c0))))), (qquo, .inl (cI, 80, .inl (dg (trnd k n0 (V0 / (tcsh ca c0 * 10 ^ (10 - tdig c0))) (V0 % (tcsh ca c0 * 10 ^ (10 - tdig c0))) (tcsh ca c0 * 10 ^ (10 - tdig c0)))))), (qrem, .inl (cI, 80, .inl (dg (V0 % (tcsh ca c0 * 10 ^ (10 - tdig c0)))))), (qother, .inl (cI, 80, .inl fo3))]) [6, 0, 1, 2, 3, 7, 9, 8, 4, 5] (by decide) rfl ?_
                  refine go_aload_n O dX4_round_128 rfl 1 rfl 129 rfl ?_
                  refine go_aload_n O dX4_round_129 rfl 1 rfl 130 rfl ?_
                  refine go_get O hK dX4_round_130 hinX4 0 rfl rfl 10 (by decide) flX4_29 f_num 133 rfl ?_
                  refine go_aload_n O dX4_round_133 rfl 1 rfl 134 rfl ?_
                  refine go_get O hK dX4_round_134 hinX4 0 rfl rfl 4 (by decide) flX4_13 f_isWide 137 rfl ?_
                  refine go_iload_n O dX4_round_137 rfl 3 rfl 138 rfl ?_
                  refine go_zald O hK dX4_round_138 2 1 rfl rfl α rfl (by omega) (by omega) (bz w0) e2 139 rfl ?_
                  refine go_aload_n O dX4_round_139 rfl 1 rfl 140 rfl ?_
                  refine go_get O hK dX4_round_140 hinX4 0 rfl rfl 5 (by decide) flX4_17 f_negative 143 rfl ?_
                  refine go_iload_n O dX4_round_143 rfl 3 rfl 144 rfl ?_
                  refine go_zald O hK dX4_round_144 3 1 rfl rfl α rfl (by omega) (by omega) (bz n0) e3 145 rfl ?_
                  refine go_calliV (As := [.ref qnum, .int (iI (bz w0)), .int (iI (bz n0))]) (rest := []) (wr := [(qcurrency, .inl (cI, 8, .inl fc)), (qisWide, .inl (cZ, 8, .inl fw)), (qnegative, .inl (cZ, 8, .inl fn)), (qkept, .inl (cI, 320, .inl K)), (qden, .inl (cI, 80, .inl (dg (tcsh ca c0 * 10 ^ (10 - tdig c0))))), (qquo, .inl (cI, 80, .inl (dg (trnd k n0 (V0 / (tcsh ca c0 * 10 ^ (10 - tdig c0))) (V0 % (tcsh ca c0 * 10 ^ (10 - tdig c0))) (tcsh ca c0 * 10 ^ (10 - tdig c0)))))), (qrem, .inl (cI, 80, .inl (dg (V0 % (tcsh ca c0 * 10 ^ (10 - tdig c0))))))]) O hK hE (c_X4_fits E hE h fs f_other qnum cI (trnd k n0 (V0 / (tcsh ca c0 * 10 ^ (10 - tdig c0))) (V0 % (tcsh ca c0 * 10 ^ (10 - tdig c0))) (tcsh ca c0 * 10 ^ (10 - tdig c0)) * (tcsh ca c0 * 10 ^ (10 - tdig c0))) fo3 w0 n0 hbd.2.1) mlX4_115 imX4_fits seX4_fits inX4 cdX4_fits 3 (by decide +kernel) ⟨Nat.le_of_ble_eq_true rfl, Nat.le_of_ble_eq_true rfl⟩ 0 rfl rfl [0] rfl [0, 9, 5] rfl (by decide) [1, 2, 3, 4, 6, 7, 8] rfl (by decide) (by decide) rfl rfl (Nat.le_of_ble_eq_true rfl) ⟨Nat.zero_le _, Nat.zero_le _⟩ dX4_round_145 148 rfl (fun z u hu => ?_)
                  subst hu
                  obtain ⟨fo2, rfl⟩ : ∃ z, z = u := ⟨_, rfl⟩
                  show TGo X [(qcurrency, .inl (cI, 8, .inl fc)), (qisWide, .inl (cZ, 8, .inl fw)), (qnegative, .inl (cZ, 8, .inl fn)), (qkept, .inl (cI, 320, .inl K)), (qden, .inl (cI, 80, .inl (dg (tcsh ca c0 * 10 ^ (10 - tdig c0))))), (qquo, .inl (cI, 80, .inl (dg (trnd k n0 (V0 / (tcsh ca c0 * 10 ^ (10 - tdig c0))) (V0 % (tcsh ca c0 * 10 ^ (10 - tdig c0))) (tcsh ca c0 * 10 ^ (10 - tdig c0)))))), (qrem, .inl (cI, 80, .inl (dg (V0 % (tcsh ca c0 * 10 ^ (10 - tdig c0)))))), (h, .inr (4, fs)), (qother, .inl (cI, 80, .inl fo2)), (qnum, .inl (cI, 80, .inl (dg (trnd k n0 (V0 / (tcsh ca c0 * 10 ^ (10 - tdig c0))) (V0 % (tcsh ca c0 * 10 ^ (10 - tdig c0))) (tcsh ca c0 * 10 ^ (10 - tdig c0)) * (tcsh ca c0 * 10 ^ (10 - tdig c0))))))] 0 0 148 [(5, .int (iI c0)), (0, .ref h), (1, .int (iI ((ρ : Nat) : Int))), (2, .int (iI ((α : Nat) : Int))), (3, .int (iI k)), (4, .int (iI (bz ca)))] [.int (iI (bz (tfit w0 n0 (trnd k n0 (V0 / (tcsh ca c0 * 10 ^ (10 - tdig c0))) (V0 % (tcsh ca c0 * 10 ^ (10 - tdig c0))) (tcsh ca c0 * 10 ^ (10 - tdig c0)) * (tcsh ca c0 * 10 ^ (10 - tdig c0))))))]
                  refine TGo.sub (ws' := [(h, .inr (4, fs)), (qcurrency, .inl (cI, 8, .inl fc)), (qisWide, .inl (cZ, 8, .inl fw)), (qnegative, .inl (cZ, 8, .inl fn)), (qkept, .inl (cI, 320, .inl K)), (qnum, .inl (cI, 80, .inl (dg (trnd k n0 (V0 / (tcsh ca c0 * 10 ^ (10 - tdig c0))) (V0 % (tcsh ca c0 * 10 ^ (10 - tdig c0))) (tcsh ca c0 * 10 ^ (10 - tdig c0)) * (tcsh ca c0 * 10 ^ (10 - tdig c0)))))), (qden, .inl (cI, 80, .inl (dg (tcsh ca c0 * 10 ^ (10 - tdig c0))))), (qquo, .inl (cI, 80, .inl (dg (trnd k n0 (V0 / (tcsh ca c0 * 10 ^ (10 - tdig c0))) (V0 % (tcsh ca c0 * 10 ^ (10 - tdig c0))) (tcsh ca c0 * 10 ^ (10 - tdig c0)))))), (qrem, .inl (cI, 80, .inl (dg (V0 % (tcsh ca c0 * 10 ^ (10 - tdig c0)))))), (qother, .inl (cI, 80, .inl fo2))]) [7, 0, 1, 2, 3, 9, 4, 5, 6, 8] (by decide) rfl ?_
                  refine go_if_eq O dX4_round_148 177 (by decide) 151 rfl (bz_r _) (fun h148 => ?_) (fun h148 => ?_)
                  · refine go_bipush O dX4_round_177 (by decide) 179 rfl ?_
                    have he := spRnd_ok (ca := ca) hb3 hq (hz.resolve_right (fun e => by omega)).2
                    rw [if_neg (by rw [bz_0.mp h148]; decide)] at he
                    exact hret _ _ _ (fc, fw, fn, K, dg (trnd k n0 (V0 / (tcsh ca c0 * 10 ^ (10 - tdig c0))) (V0 % (tcsh ca c0 * 10 ^ (10 - tdig c0))) (tcsh ca c0 * 10 ^ (10 - tdig c0)) * (tcsh ca c0 * 10 ^ (10 - tdig c0))), dg (tcsh ca c0 * 10 ^ (10 - tdig c0)), dg (trnd k n0 (V0 / (tcsh ca c0 * 10 ^ (10 - tdig c0))) (V0 % (tcsh ca c0 * 10 ^ (10 - tdig c0))) (tcsh ca c0 * 10 ^ (10 - tdig c0))), dg (V0 % (tcsh ca c0 * 10 ^ (10 - tdig c0))), fo2) dX4_round_179 rfl ⟨by rw [he]; rfl, by rw [he]; exact hMR⟩
                  · refine go_aload_n O dX4_round_151 rfl 1 rfl 152 rfl ?_
                    refine go_iload_n O dX4_round_152 rfl 2 rfl 153 rfl ?_
                    refine go_iload O dX4_round_153 0 rfl 155 rfl ?_
                    refine go_aload_n O dX4_round_155 rfl 1 rfl 156 rfl ?_
                    refine go_get O hK dX4_round_156 hinX4 0 rfl rfl 4 (by decide) flX4_13 f_isWide 159 rfl ?_
                    refine go_iload_n O dX4_round_159 rfl 3 rfl 160 rfl ?_
                    refine go_zald O hK dX4_round_160 2 1 rfl rfl α rfl (by omega) (by omega) (bz w0) e2 161 rfl ?_
                    refine go_aload_n O dX4_round_161 rfl 1 rfl 162 rfl ?_
                    refine go_get O hK dX4_round_162 hinX4 0 rfl rfl 5 (by decide) flX4_17 f_negative 165 rfl ?_
                    refine go_iload_n O dX4_round_165 rfl 3 rfl 166 rfl ?_
                    refine go_zald O hK dX4_round_166 3 1 rfl rfl α rfl (by omega) (by omega) (bz n0) e3 167 rfl ?_
                    refine go_aload_n O dX4_round_167 rfl 1 rfl 168 rfl ?_
                    refine go_get O hK dX4_round_168 hinX4 0 rfl rfl 10 (by decide) flX4_29 f_num 171 rfl ?_
                    refine go_calliV (As := [.int (iI ((ρ : Nat) : Int)), .int (iI c0), .int (iI (bz w0)), .int (iI (bz n0)), .ref qnum]) (rest := []) (wr := [(qden, .inl (cI, 80, .inl (dg (tcsh ca c0 * 10 ^ (10 - tdig c0))))), (qquo, .inl (cI, 80, .inl (dg (trnd k n0 (V0 / (tcsh ca c0 * 10 ^ (10 - tdig c0))) (V0 % (tcsh ca c0 * 10 ^ (10 - tdig c0))) (tcsh ca c0 * 10 ^ (10 - tdig c0)))))), (qrem, .inl (cI, 80, .inl (dg (V0 % (tcsh ca c0 * 10 ^ (10 - tdig c0)))))), (qother, .inl (cI, 80, .inl fo2))]) O hK hE (c_X4_keep E hE h fs f_currency f_isWide f_negative f_kept qnum cI cZ ρ (trnd k n0 (V0 / (tcsh ca c0 * 10 ^ (10 - tdig c0))) (V0 % (tcsh ca c0 * 10 ^ (10 - tdig c0))) (tcsh ca c0 * 10 ^ (10 - tdig c0)) * (tcsh ca c0 * 10 ^ (10 - tdig c0))) c0 fc fw fn K reg w0 n0 (by omega) (by omega) (tfit_36 (bz_ne h148)) hMR) mlX4_119 imX4_keep seX4_keep inX4 cdX4_keep 5 (by decide +kernel) ⟨Nat.le_of_ble_eq_true rfl, Nat.le_of_ble_eq_true rfl⟩ 0 rfl rfl [0, 1] rfl [0, 1, 2, 3, 4, 5] rfl (by decide) [6, 7, 8, 9] rfl (by decide) (by decide) rfl rfl (Nat.le_of_ble_eq_true rfl) ⟨Nat.zero_le _, Nat.zero_le _⟩ dX4_round_171 174 rfl (fun z u hu => ?_)
                    obtain ⟨fc2, fw2, fn2, K2⟩ := u
                    obtain ⟨rfl, hMR2⟩ := hu
                    show TGo X [(qden, .inl (cI, 80, .inl (dg (tcsh ca c0 * 10 ^ (10 - tdig c0))))), (qquo, .inl (cI, 80, .inl (dg (trnd k n0 (V0 / (tcsh ca c0 * 10 ^ (10 - tdig c0))) (V0 % (tcsh ca c0 * 10 ^ (10 - tdig c0))) (tcsh ca c0 * 10 ^ (10 - tdig c0)))))), (qrem, .inl (cI, 80, .inl (dg (V0 % (tcsh ca c0 * 10 ^ (10 - tdig c0)))))), (qother, .inl (cI, 80, .inl fo2)), (h, .inr (4, fs)), (qcurrency, .inl (cI, 8, .inl fc2)), (qisWide, .inl (cZ, 8, .inl fw2)), (qnegative, .inl (cZ, 8, .inl fn2)), (qkept, .inl (cI, 320, .inl K2)), (qnum, .inl (cI, 80, .inl (dg (trnd k n0 (V0 / (tcsh ca c0 * 10 ^ (10 - tdig c0))) (V0 % (tcsh ca c0 * 10 ^ (10 - tdig c0))) (tcsh ca c0 * 10 ^ (10 - tdig c0)) * (tcsh ca c0 * 10 ^ (10 - tdig c0))))))] 0 0 174 [(5, .int (iI c0)), (0, .ref h), (1, .int (iI ((ρ : Nat) : Int))), (2, .int (iI ((α : Nat) : Int))), (3, .int (iI k)), (4, .int (iI (bz ca)))] [.int (iI 0)]
                    refine TGo.sub (ws' := [(h, .inr (4, fs)), (qcurrency, .inl (cI, 8, .inl fc2)), (qisWide, .inl (cZ, 8, .inl fw2)), (qnegative, .inl (cZ, 8, .inl fn2)), (qkept, .inl (cI, 320, .inl K2)), (qnum, .inl (cI, 80, .inl (dg (trnd k n0 (V0 / (tcsh ca c0 * 10 ^ (10 - tdig c0))) (V0 % (tcsh ca c0 * 10 ^ (10 - tdig c0))) (tcsh ca c0 * 10 ^ (10 - tdig c0)) * (tcsh ca c0 * 10 ^ (10 - tdig c0)))))), (qden, .inl (cI, 80, .inl (dg (tcsh ca c0 * 10 ^ (10 - tdig c0))))), (qquo, .inl (cI, 80, .inl (dg (trnd k n0 (V0 / (tcsh ca c0 * 10 ^ (10 - tdig c0))) (V0 % (tcsh ca c0 * 10 ^ (10 - tdig c0))) (tcsh ca c0 * 10 ^ (10 - tdig c0)))))), (qrem, .inl (cI, 80, .inl (dg (V0 % (tcsh ca c0 * 10 ^ (10 - tdig c0)))))), (qother, .inl (cI, 80, .inl fo2))]) [4, 5, 6, 7, 8, 9, 0, 1, 2, 3] (by decide) rfl ?_
                    refine go_goto O dX4_round_174 179 (by decide) ?_
                    have he := spRnd_ok (ca := ca) hb3 hq (hz.resolve_right (fun e => by omega)).2
                    rw [if_pos (bz_ne h148)] at he
                    exact hret _ _ _ (fc2, fw2, fn2, K2, dg (trnd k n0 (V0 / (tcsh ca c0 * 10 ^ (10 - tdig c0))) (V0 % (tcsh ca c0 * 10 ^ (10 - tdig c0))) (tcsh ca c0 * 10 ^ (10 - tdig c0)) * (tcsh ca c0 * 10 ^ (10 - tdig c0))), dg (tcsh ca c0 * 10 ^ (10 - tdig c0)), dg (trnd k n0 (V0 / (tcsh ca c0 * 10 ^ (10 - tdig c0))) (V0 % (tcsh ca c0 * 10 ^ (10 - tdig c0))) (tcsh ca c0 * 10 ^ (10 - tdig c0))), dg (V0 % (tcsh ca c0 * 10 ^ (10 - tdig c0))), fo2) dX4_round_179 rfl ⟨by rw [he]; rfl, by rw [he]; exact hMR2⟩
                · refine go_bipush O dX4_round_113 (by decide) 115 rfl ?_
                  have he := spRnd_x (ca := ca) hb3 hq (hz.resolve_left (fun e => by omega)).2
                  exact hret _ _ _ (fc, fw, fn, K, dg V0, dg (tcsh ca c0 * 10 ^ (10 - tdig c0)), dg (trnd k n0 (V0 / (tcsh ca c0 * 10 ^ (10 - tdig c0))) (V0 % (tcsh ca c0 * 10 ^ (10 - tdig c0))) (tcsh ca c0 * 10 ^ (10 - tdig c0))), dg (V0 % (tcsh ca c0 * 10 ^ (10 - tdig c0))), fo3) dX4_round_115 rfl ⟨by rw [he], by rw [he]; exact hMR⟩
            · refine go_iconst O dX4_round_68 69 rfl ?_
              refine go_goto O dX4_round_69 83 (by decide) ?_
              refine TGo.topi (y := ((tcsh ca c0 : Nat) : Int)) (tcsh_v (by omega)) ?_
              refine go_callvV (As := [.int (iI c0), .int (iI ((tcsh ca c0 : Nat) : Int))]) (rest := []) (wr := [(qcurrency, .inl (cI, 8, .inl fc)), (qisWide, .inl (cZ, 8, .inl fw)), (qnegative, .inl (cZ, 8, .inl fn)), (qkept, .inl (cI, 320, .inl K)), (qnum, .inl (cI, 80, .inl fnum)), (qquo, .inl (cI, 80, .inl fq)), (qrem, .inl (cI, 80, .inl fr)), (qother, .inl (cI, 80, .inl fo))]) O hK hE (c_X4_step E hE h fs f_den cI fd c0 (by omega) (tcsh ca c0) (by have := tcsh_bd ca c0; omega)) mlX4_145 imX4_step seX4_step inX4 cdX4_step 2 (by decide +kernel) ⟨Nat.le_of_ble_eq_true rfl, Nat.le_of_ble_eq_true rfl⟩ 0 rfl rfl [0] rfl [0, 6] rfl (by decide) [1, 2, 3, 4, 5, 7, 8, 9] rfl (by decide) (by decide) rfl rfl (Nat.le_of_ble_eq_true rfl) ⟨Nat.zero_le _, Nat.zero_le _⟩ dX4_round_83 86 rfl (fun u hu => ?_)
              have hD := tD_bd ca c0
              have hbd := rnd_bd (k := k) (b := n0) hV0 hD
              show TGo X [(qcurrency, .inl (cI, 8, .inl fc)), (qisWide, .inl (cZ, 8, .inl fw)), (qnegative, .inl (cZ, 8, .inl fn)), (qkept, .inl (cI, 320, .inl K)), (qnum, .inl (cI, 80, .inl fnum)), (qquo, .inl (cI, 80, .inl fq)), (qrem, .inl (cI, 80, .inl fr)), (qother, .inl (cI, 80, .inl fo)), (h, .inr (4, fs)), (qden, .inl (cI, 80, .inl (dg (tcsh ca c0 * 10 ^ (10 - tdig c0)))))] 0 0 86 [(5, .int (iI c0)), (0, .ref h), (1, .int (iI ((ρ : Nat) : Int))), (2, .int (iI ((α : Nat) : Int))), (3, .int (iI k)), (4, .int (iI (bz ca)))] []
              refine TGo.sub (ws' := [(h, .inr (4, fs)), (qcurrency, .inl (cI, 8, .inl fc)), (qisWide, .inl (cZ, 8, .inl fw)), (qnegative, .inl (cZ, 8, .inl fn)), (qkept, .inl (cI, 320, .inl K)), (qnum, .inl (cI, 80, .inl fnum)), (qden, .inl (cI, 80, .inl (dg (tcsh ca c0 * 10 ^ (10 - tdig c0))))), (qquo, .inl (cI, 80, .inl fq)), (qrem, .inl (cI, 80, .inl fr)), (qother, .inl (cI, 80, .inl fo))]) [8, 0, 1, 2, 3, 4, 9, 5, 6, 7] (by decide) rfl ?_
              refine go_aload_n O dX4_round_86 rfl 1 rfl 87 rfl ?_
              refine go_aload_n O dX4_round_87 rfl 1 rfl 88 rfl ?_
              refine go_get O hK dX4_round_88 hinX4 0 rfl rfl 10 (by decide) flX4_29 f_num 91 rfl ?_
              refine go_iload_n O dX4_round_91 rfl 3 rfl 92 rfl ?_
              refine go_callvV (As := [.ref qnum, .int (iI ((α : Nat) : Int))]) (rest := []) (wr := [(qcurrency, .inl (cI, 8, .inl fc)), (qisWide, .inl (cZ, 8, .inl fw)), (qnegative, .inl (cZ, 8, .inl fn)), (qden, .inl (cI, 80, .inl (dg (tcsh ca c0 * 10 ^ (10 - tdig c0))))), (qquo, .inl (cI, 80, .inl fq)), (qrem, .inl (cI, 80, .inl fr)), (qother, .inl (cI, 80, .inl fo))]) O hK hE (c_X4_take E hE h fs f_kept qnum cI K fnum α V0 (by omega) (by omega) hK0) mlX4_131 imX4_take seX4_take inX4 cdX4_take 2 (by decide +kernel) ⟨Nat.le_of_ble_eq_true rfl, Nat.le_of_ble_eq_true rfl⟩ 0 rfl rfl [0] rfl [0, 4, 5] rfl (by decide) [1, 2, 3, 6, 7, 8, 9] rfl (by decide) (by decide) rfl rfl (Nat.le_of_ble_eq_true rfl) ⟨Nat.zero_le _, Nat.zero_le _⟩ dX4_round_92 95 rfl (fun u hu => ?_)
              show TGo X [(qcurrency, .inl (cI, 8, .inl fc)), (qisWide, .inl (cZ, 8, .inl fw)), (qnegative, .inl (cZ, 8, .inl fn)), (qden, .inl (cI, 80, .inl (dg (tcsh ca c0 * 10 ^ (10 - tdig c0))))), (qquo, .inl (cI, 80, .inl fq)), (qrem, .inl (cI, 80, .inl fr)), (qother, .inl (cI, 80, .inl fo)), (h, .inr (4, fs)), (qkept, .inl (cI, 320, .inl K)), (qnum, .inl (cI, 80, .inl (dg V0)))] 0 0 95 [(5, .int (iI c0)), (0, .ref h), (1, .int (iI ((ρ : Nat) : Int))), (2, .int (iI ((α : Nat) : Int))), (3, .int (iI k)), (4, .int (iI (bz ca)))] []
              refine TGo.sub (ws' := [(h, .inr (4, fs)), (qcurrency, .inl (cI, 8, .inl fc)), (qisWide, .inl (cZ, 8, .inl fw)), (qnegative, .inl (cZ, 8, .inl fn)), (qkept, .inl (cI, 320, .inl K)), (qnum, .inl (cI, 80, .inl (dg V0))), (qden, .inl (cI, 80, .inl (dg (tcsh ca c0 * 10 ^ (10 - tdig c0))))), (qquo, .inl (cI, 80, .inl fq)), (qrem, .inl (cI, 80, .inl fr)), (qother, .inl (cI, 80, .inl fo))]) [7, 0, 1, 2, 8, 9, 3, 4, 5, 6] (by decide) rfl ?_
              refine go_aload_n O dX4_round_95 rfl 1 rfl 96 rfl ?_
              refine go_callvV (As := []) (rest := []) (wr := [(qcurrency, .inl (cI, 8, .inl fc)), (qisWide, .inl (cZ, 8, .inl fw)), (qnegative, .inl (cZ, 8, .inl fn)), (qkept, .inl (cI, 320, .inl K)), (qother, .inl (cI, 80, .inl fo))]) O hK hE (c_X4_quotient E hE h fs f_num f_den f_quo f_rem cI V0 (tcsh ca c0 * 10 ^ (10 - tdig c0)) fq fr (by omega) hD.1 (by have := hD.2; omega)) mlX4_108 imX4_quotient seX4_quotient inX4 cdX4_quotient 0 (by decide +kernel) ⟨Nat.le_of_ble_eq_true rfl, Nat.le_of_ble_eq_true rfl⟩ 0 rfl rfl [0] rfl [0, 5, 6, 7, 8] rfl (by decide) [1, 2, 3, 4, 9] rfl (by decide) (by decide) rfl rfl (Nat.le_of_ble_eq_true rfl) ⟨Nat.zero_le _, Nat.zero_le _⟩ dX4_round_96 99 rfl (fun u hu => ?_)
              show TGo X [(qcurrency, .inl (cI, 8, .inl fc)), (qisWide, .inl (cZ, 8, .inl fw)), (qnegative, .inl (cZ, 8, .inl fn)), (qkept, .inl (cI, 320, .inl K)), (qother, .inl (cI, 80, .inl fo)), (h, .inr (4, fs)), (qnum, .inl (cI, 80, .inl (dg V0))), (qden, .inl (cI, 80, .inl (dg (tcsh ca c0 * 10 ^ (10 - tdig c0))))), (qquo, .inl (cI, 80, .inl (dg (V0 / (tcsh ca c0 * 10 ^ (10 - tdig c0)))))), (qrem, .inl (cI, 80, .inl (dg (V0 % (tcsh ca c0 * 10 ^ (10 - tdig c0))))))] 0 0 99 [(5, .int (iI c0)), (0, .ref h), (1, .int (iI ((ρ : Nat) : Int))), (2, .int (iI ((α : Nat) : Int))), (3, .int (iI k)), (4, .int (iI (bz ca)))] []
              refine TGo.sub (ws' := [(h, .inr (4, fs)), (qcurrency, .inl (cI, 8, .inl fc)), (qisWide, .inl (cZ, 8, .inl fw)), (qnegative, .inl (cZ, 8, .inl fn)), (qkept, .inl (cI, 320, .inl K)), (qnum, .inl (cI, 80, .inl (dg V0))), (qden, .inl (cI, 80, .inl (dg (tcsh ca c0 * 10 ^ (10 - tdig c0))))), (qquo, .inl (cI, 80, .inl (dg (V0 / (tcsh ca c0 * 10 ^ (10 - tdig c0)))))), (qrem, .inl (cI, 80, .inl (dg (V0 % (tcsh ca c0 * 10 ^ (10 - tdig c0)))))), (qother, .inl (cI, 80, .inl fo))]) [5, 0, 1, 2, 3, 6, 7, 8, 9, 4] (by decide) rfl ?_
              refine go_aload_n O dX4_round_99 rfl 1 rfl 100 rfl ?_
              refine go_aload_n O dX4_round_100 rfl 1 rfl 101 rfl ?_
              refine go_get O hK dX4_round_101 hinX4 0 rfl rfl 5 (by decide) flX4_17 f_negative 104 rfl ?_
              refine go_iload_n O dX4_round_104 rfl 3 rfl 105 rfl ?_
              refine go_zald O hK dX4_round_105 3 1 rfl rfl α rfl (by omega) (by omega) (bz n0) e3 106 rfl ?_
              refine go_iload_n O dX4_round_106 rfl 4 rfl 107 rfl ?_
              refine go_calliV (As := [.int (iI (bz n0)), .int (iI k)]) (rest := []) (wr := [(qcurrency, .inl (cI, 8, .inl fc)), (qisWide, .inl (cZ, 8, .inl fw)), (qnegative, .inl (cZ, 8, .inl fn)), (qkept, .inl (cI, 320, .inl K)), (qnum, .inl (cI, 80, .inl (dg V0)))]) O hK hE (c_X4_rounds E hE h fs f_den f_quo f_rem f_other cI (V0 / (tcsh ca c0 * 10 ^ (10 - tdig c0))) (V0 % (tcsh ca c0 * 10 ^ (10 - tdig c0))) (tcsh ca c0 * 10 ^ (10 - tdig c0)) fo n0 k (by omega) hbd.2.2.1 hbd.2.2.2.1 hbd.2.2.2.2) mlX4_111 imX4_rounds seX4_rounds inX4 cdX4_rounds 2 (by decide +kernel) ⟨Nat.le_of_ble_eq_true rfl, Nat.le_of_ble_eq_true rfl⟩ 0 rfl rfl [0] rfl [0, 6, 7, 8, 9] rfl (by decide) [1, 2, 3, 4, 5] rfl (by decide) (by decide) rfl rfl (Nat.le_of_ble_eq_true rfl) ⟨Nat.zero_le _, Nat.zero_le _⟩ dX4_round_107 110 rfl (fun z u hu => ?_)
              obtain ⟨fo3, rfl⟩ : ∃ z, z = u := ⟨_, rfl⟩
              have hz : (z = 1 ∧ (V0 % (tcsh ca c0 * 10 ^ (10 - tdig c0)) = 0 ∨ k ≠ 7)) ∨ (z = 0 ∧ ¬ (V0 % (tcsh ca c0 * 10 ^ (10 - tdig c0)) = 0 ∨ k ≠ 7)) := by
                rw [hu]; split
                · exact Or.inl ⟨rfl, by assumption⟩
                · exact Or.inr ⟨rfl, by assumption⟩
              have hzr : 0 ≤ z ∧ z ≤ 1 := by rcases hz with e | e <;> omega
              show TGo X [(qcurrency, .inl (cI, 8, .inl fc)), (qisWide, .inl (cZ, 8, .inl fw)), (qnegative, .inl (cZ, 8, .inl fn)), (qkept, .inl (cI, 320, .inl K)), (qnum, .inl (cI, 80, .inl (dg V0))), (h, .inr (4, fs)), (qden, .inl (cI, 80, .inl (dg (tcsh ca c0 * 10 ^ (10 - tdig c0))))), (qquo, .inl (cI, 80, .inl (dg (trnd k n0 (V0 / (tcsh ca c0 * 10 ^ (10 - tdig c0))) (V0 % (tcsh ca c0 * 10 ^ (10 - tdig c0))) (tcsh ca c0 * 10 ^ (10 - tdig c0)))))), (qrem, .inl (cI, 80, .inl (dg (V0 % (tcsh ca c0 * 10 ^ (10 - tdig c0)))))), (qother, .inl (cI, 80, .inl fo3))] 0 0 110 [(5, .int (iI c0)), (0, .ref h), (1, .int (iI ((ρ : Nat) : Int))), (2, .int (iI ((α : Nat) : Int))), (3, .int (iI k)), (4, .int (iI (bz ca)))] [.int (iI z)]
              refine TGo.sub (ws' := [(h, .inr (4, fs)), (qcurrency, .inl (cI, 8, .inl fc)), (qisWide, .inl (cZ, 8, .inl fw)), (qnegative, .inl (cZ, 8, .inl fn)), (qkept, .inl (cI, 320, .inl K)), (qnum, .inl (cI, 80, .inl (dg V0))), (qden, .inl (cI, 80, .inl (dg (tcsh ca c0 * 10 ^ (10 - tdig c0))))), (qquo, .inl (cI, 80, .inl (dg (trnd k n0 (V0 / (tcsh ca c0 * 10 ^ (10 - tdig c0))) (V0 % (tcsh ca c0 * 10 ^ (10 - tdig c0))) (tcsh ca c0 * 10 ^ (10 - tdig c0)))))), (qrem, .inl (cI, 80, .inl (dg (V0 % (tcsh ca c0 * 10 ^ (10 - tdig c0)))))), (qother, .inl (cI, 80, .inl fo3))]) [5, 0, 1, 2, 3, 4, 6, 7, 8, 9] (by decide) rfl ?_
              refine go_if_ne O dX4_round_110 116 (by decide) 113 rfl (by omega) (fun h110 => ?_) (fun h110 => ?_)
              · refine go_aload_n O dX4_round_116 rfl 1 rfl 117 rfl ?_
                refine go_aload_n O dX4_round_117 rfl 1 rfl 118 rfl ?_
                refine go_get O hK dX4_round_118 hinX4 0 rfl rfl 13 (by decide) flX4_38 f_quo 121 rfl ?_
                refine go_aload_n O dX4_round_121 rfl 1 rfl 122 rfl ?_
                refine go_get O hK dX4_round_122 hinX4 0 rfl rfl 12 (by decide) flX4_35 f_den 125 rfl ?_
                refine go_callvV (As := [.ref qquo, .ref qden]) (rest := []) (wr := [(qcurrency, .inl (cI, 8, .inl fc)), (qisWide, .inl (cZ, 8, .inl fw)), (qnegative, .inl (cZ, 8, .inl fn)), (qkept, .inl (cI, 320, .inl K)), (qrem, .inl (cI, 80, .inl (dg (V0 % (tcsh ca c0 * 10 ^ (10 - tdig c0)))))), (qother, .inl (cI, 80, .inl fo3))]) O hK hE (c_X4_product E hE h fs f_num qquo qden cI (trnd k n0 (V0 / (tcsh ca c0 * 10 ^ (10 - tdig c0))) (V0 % (tcsh ca c0 * 10 ^ (10 - tdig c0))) (tcsh ca c0 * 10 ^ (10 - tdig c0))) (tcsh ca c0 * 10 ^ (10 - tdig c0)) (dg V0) hbd.1 hbd.2.1) mlX4_138 imX4_product seX4_product inX4 cdX4_product 2 (by decide +kernel) ⟨Nat.le_of_ble_eq_true rfl, Nat.le_of_ble_eq_true rfl⟩ 0 rfl rfl [0] rfl [0, 5, 7, 6] rfl (by decide) [1, 2, 3, 4, 8, 9] rfl (by decide) (by decide) rfl rfl (Nat.le_of_ble_eq_true rfl) ⟨Nat.zero_le _, Nat.zero_le _⟩ dX4_round_125 128 rfl (fun u hu => ?_)
                show TGo X [(qcurrency, .inl (cI, 8, .inl fc)), (qisWide, .inl (cZ, 8, .inl fw)), (qnegative, .inl (cZ, 8, .inl fn)), (qkept, .inl (cI, 320, .inl K)), (qrem, .inl (cI, 80, .inl (dg (V0 % (tcsh ca c0 * 10 ^ (10 - tdig c0)))))), (qother, .inl (cI, 80, .inl fo3)), (h, .inr (4, fs)), (qnum, .inl (cI, 80, .inl (dg (trnd k n0 (V0 / (tcsh ca c0 * 10 ^ (10 - tdig c0))) (V0 % (tcsh ca c0 * 10 ^ (10 - tdig c0))) (tcsh ca c0 * 10 ^ (10 - tdig c0)) * (tcsh ca c0 * 10 ^ (10 - tdig c0)))))), (qquo, .inl (cI, 80, .inl (dg (trnd k n0 (V0 / (tcsh ca c0 * 10 ^ (10 - tdig c0))) (V0 % (tcsh ca c0 * 10 ^ (10 - tdig c0))) (tcsh ca c0 * 10 ^ (10 - tdig c0)))))), (qden, .inl (cI, 80, .inl (dg (tcsh ca c0 * 10 ^ (10 - tdig c0)))))] 0 0 128 [(5, .int (iI c0)), (0, .ref h), (1, .int (iI ((ρ : Nat) : Int))), (2, .int (iI ((α : Nat) : Int))), (3, .int (iI k)), (4, .int (iI (bz ca)))] []
                refine TGo.sub (ws' := [(h, .inr (4, fs)), (qcurrency, .inl (cI, 8, .inl fc)), (qisWide, .inl (cZ, 8, .inl fw)), (qnegative, .inl (cZ, 8, .inl fn)), (qkept, .inl (cI, 320, .inl K)), (qnum, .inl (cI, 80, .inl (dg (trnd k n0 (V0 / (tcsh ca c0 * 10 ^ (10 - tdig c0))) (V0 % (tcsh ca c0 * 10 ^ (10 - tdig c0))) (tcsh ca c0 * 10 ^ (10 - tdig c0)) * (tcsh ca c0 * 10 ^ (10 - tdig c0)))))), (qden, .inl (cI, 80, .inl (dg (tcsh ca c0 * 10 ^ (10 - tdig c0))))), (qquo, .inl (cI, 80, .inl (dg (trnd k n0 (V0 / (tcsh ca c0 * 10 ^ (10 - tdig c0))) (V0 % (tcsh ca c0 * 10 ^ (10 - tdig c0))) (tcsh ca c0 * 10 ^ (10 - tdig c0)))))), (qrem, .inl (cI, 80, .inl (dg (V0 % (tcsh ca c0 * 10 ^ (10 - tdig c0)))))), (qother, .inl (cI, 80, .inl fo3))]) [6, 0, 1, 2, 3, 7, 9, 8, 4, 5] (by decide) rfl ?_
                refine go_aload_n O dX4_round_128 rfl 1 rfl 129 rfl ?_
                refine go_aload_n O dX4_round_129 rfl 1 rfl 130 rfl ?_
                refine go_get O hK dX4_round_130 hinX4 0 rfl rfl 10 (by decide) flX4_29 f_num 133 rfl ?_
                refine go_aload_n O dX4_round_133 rfl 1 rfl 134 rfl ?_
                refine go_get O hK dX4_round_134 hinX4 0 rfl rfl 4 (by decide) flX4_13 f_isWide 137 rfl ?_
                refine go_iload_n O dX4_round_137 rfl 3 rfl 138 rfl ?_
                refine go_zald O hK dX4_round_138 2 1 rfl rfl α rfl (by omega) (by omega) (bz w0) e2 139 rfl ?_
                refine go_aload_n O dX4_round_139 rfl 1 rfl 140 rfl ?_
                refine go_get O hK dX4_round_140 hinX4 0 rfl rfl 5 (by decide) flX4_17 f_negative 143 rfl ?_
                refine go_iload_n O dX4_round_143 rfl 3 rfl 144 rfl ?_
                refine go_zald O hK dX4_round_144 3 1 rfl rfl α rfl (by omega) (by omega) (bz n0) e3 145 rfl ?_
                refine go_calliV (As := [.ref qnum, .int (iI (bz w0)), .int (iI (bz n0))]) (rest := []) (wr := [(qcurrency, .inl (cI, 8, .inl fc)), (qisWide, .inl (cZ, 8, .inl fw)), (qnegative, .inl (cZ, 8, .inl fn)), (qkept, .inl (cI, 320, .inl K)), (qden, .inl (cI, 80, .inl (dg (tcsh ca c0 * 10 ^ (10 - tdig c0))))), (qquo, .inl (cI, 80, .inl (dg (trnd k n0 (V0 / (tcsh ca c0 * 10 ^ (10 - tdig c0))) (V0 % (tcsh ca c0 * 10 ^ (10 - tdig c0))) (tcsh ca c0 * 10 ^ (10 - tdig c0)))))), (qrem, .inl (cI, 80, .inl (dg (V0 % (tcsh ca c0 * 10 ^ (10 - tdig c0))))))]) O hK hE (c_X4_fits E hE h fs f_other qnum cI (trnd k n0 (V0 / (tcsh ca c0 * 10 ^ (10 - tdig c0))) (V0 % (tcsh ca c0 * 10 ^ (10 - tdig c0))) (tcsh ca c0 * 10 ^ (10 - tdig c0)) * (tcsh ca c0 * 10 ^ (10 - tdig c0))) fo3 w0 n0 hbd.2.1) mlX4_115 imX4_fits seX4_fits inX4 cdX4_fits 3 (by decide +kernel) ⟨Nat.le_of_ble_eq_true rfl, Nat.le_of_ble_eq_true rfl⟩ 0 rfl rfl [0] rfl [0, 9, 5] rfl (by decide) [1, 2, 3, 4, 6, 7, 8] rfl (by decide) (by decide) rfl rfl (Nat.le_of_ble_eq_true rfl) ⟨Nat.zero_le _, Nat.zero_le _⟩ dX4_round_145 148 rfl (fun z u hu => ?_)
                subst hu
                obtain ⟨fo2, rfl⟩ : ∃ z, z = u := ⟨_, rfl⟩
                show TGo X [(qcurrency, .inl (cI, 8, .inl fc)), (qisWide, .inl (cZ, 8, .inl fw)), (qnegative, .inl (cZ, 8, .inl fn)), (qkept, .inl (cI, 320, .inl K)), (qden, .inl (cI, 80, .inl (dg (tcsh ca c0 * 10 ^ (10 - tdig c0))))), (qquo, .inl (cI, 80, .inl (dg (trnd k n0 (V0 / (tcsh ca c0 * 10 ^ (10 - tdig c0))) (V0 % (tcsh ca c0 * 10 ^ (10 - tdig c0))) (tcsh ca c0 * 10 ^ (10 - tdig c0)))))), (qrem, .inl (cI, 80, .inl (dg (V0 % (tcsh ca c0 * 10 ^ (10 - tdig c0)))))), (h, .inr (4, fs)), (qother, .inl (cI, 80, .inl fo2)), (qnum, .inl (cI, 80, .inl (dg (trnd k n0 (V0 / (tcsh ca c0 * 10 ^ (10 - tdig c0))) (V0 % (tcsh ca c0 * 10 ^ (10 - tdig c0))) (tcsh ca c0 * 10 ^ (10 - tdig c0)) * (tcsh ca c0 * 10 ^ (10 - tdig c0))))))] 0 0 148 [(5, .int (iI c0)), (0, .ref h), (1, .int (iI ((ρ : Nat) : Int))), (2, .int (iI ((α : Nat) : Int))), (3, .int (iI k)), (4, .int (iI (bz ca)))] [.int (iI (bz (tfit w0 n0 (trnd k n0 (V0 / (tcsh ca c0 * 10 ^ (10 - tdig c0))) (V0 % (tcsh ca c0 * 10 ^ (10 - tdig c0))) (tcsh ca c0 * 10 ^ (10 - tdig c0)) * (tcsh ca c0 * 10 ^ (10 - tdig c0))))))]
                refine TGo.sub (ws' := [(h, .inr (4, fs)), (qcurrency, .inl (cI, 8, .inl fc)), (qisWide, .inl (cZ, 8, .inl fw)), (qnegative, .inl (cZ, 8, .inl fn)), (qkept, .inl (cI, 320, .inl K)), (qnum, .inl (cI, 80, .inl (dg (trnd k n0 (V0 / (tcsh ca c0 * 10 ^ (10 - tdig c0))) (V0 % (tcsh ca c0 * 10 ^ (10 - tdig c0))) (tcsh ca c0 * 10 ^ (10 - tdig c0)) * (tcsh ca c0 * 10 ^ (10 - tdig c0)))))), (qden, .inl (cI, 80, .inl (dg (tcsh ca c0 * 10 ^ (10 - tdig c0))))), (qquo, .inl (cI, 80, .inl (dg (trnd k n0 (V0 / (tcsh ca c0 * 10 ^ (10 - tdig c0))) (V0 % (tcsh ca c0 * 10 ^ (10 - tdig c0))) (tcsh ca c0 * 10 ^ (10 - tdig c0)))))), (qrem, .inl (cI, 80, .inl (dg (V0 % (tcsh ca c0 * 10 ^ (10 - tdig c0)))))), (qother, .inl (cI, 80, .inl fo2))]) [7, 0, 1, 2, 3, 9, 4, 5, 6, 8] (by decide) rfl ?_
                refine go_if_eq O dX4_round_148 177 (by decide) 151 rfl (bz_r _) (fun h148 => ?_) (fun h148 => ?_)
                · refine go_bipush O dX4_round_177 (by decide) 179 rfl ?_
                  have he := spRnd_ok (ca := ca) hb3 hq (hz.resolve_right (fun e => by omega)).2
                  rw [if_neg (by rw [bz_0.mp h148]; decide)] at he
                  exact hret _ _ _ (fc, fw, fn, K, dg (trnd k n0 (V0 / (tcsh ca c0 * 10 ^ (10 - tdig c0))) (V0 % (tcsh ca c0 * 10 ^ (10 - tdig c0))) (tcsh ca c0 * 10 ^ (10 - tdig c0)) * (tcsh ca c0 * 10 ^ (10 - tdig c0))), dg (tcsh ca c0 * 10 ^ (10 - tdig c0)), dg (trnd k n0 (V0 / (tcsh ca c0 * 10 ^ (10 - tdig c0))) (V0 % (tcsh ca c0 * 10 ^ (10 - tdig c0))) (tcsh ca c0 * 10 ^ (10 - tdig c0))), dg (V0 % (tcsh ca c0 * 10 ^ (10 - tdig c0))), fo2) dX4_round_179 rfl ⟨by rw [he]; rfl, by rw [he]; exact hMR⟩
                · refine go_aload_n O dX4_round_151 rfl 1 rfl 152 rfl ?_
                  refine go_iload_n O dX4_round_152 rfl 2 rfl 153 rfl ?_
                  refine go_iload O dX4_round_153 0 rfl 155 rfl ?_
                  refine go_aload_n O dX4_round_155 rfl 1 rfl 156 rfl ?_
                  refine go_get O hK dX4_round_156 hinX4 0 rfl rfl 4 (by decide) flX4_13 f_isWide 159 rfl ?_
                  refine go_iload_n O dX4_round_159 rfl 3 rfl 160 rfl ?_
                  refine go_zald O hK dX4_round_160 2 1 rfl rfl α rfl (by omega) (by omega) (bz w0) e2 161 rfl ?_
                  refine go_aload_n O dX4_round_161 rfl 1 rfl 162 rfl ?_
                  refine go_get O hK dX4_round_162 hinX4 0 rfl rfl 5 (by decide) flX4_17 f_negative 165 rfl ?_
                  refine go_iload_n O dX4_round_165 rfl 3 rfl 166 rfl ?_
                  refine go_zald O hK dX4_round_166 3 1 rfl rfl α rfl (by omega) (by omega) (bz n0) e3 167 rfl ?_
                  refine go_aload_n O dX4_round_167 rfl 1 rfl 168 rfl ?_
                  refine go_get O hK dX4_round_168 hinX4 0 rfl rfl 10 (by decide) flX4_29 f_num 171 rfl ?_
                  refine go_calliV (As := [.int (iI ((ρ : Nat) : Int)), .int (iI c0), .int (iI (bz w0)), .int (iI (bz n0)), .ref qnum]) (rest := []) (wr := [(qden, .inl (cI, 80, .inl (dg (tcsh ca c0 * 10 ^ (10 - tdig c0))))), (qquo, .inl (cI, 80, .inl (dg (trnd k n0 (V0 / (tcsh ca c0 * 10 ^ (10 - tdig c0))) (V0 % (tcsh ca c0 * 10 ^ (10 - tdig c0))) (tcsh ca c0 * 10 ^ (10 - tdig c0)))))), (qrem, .inl (cI, 80, .inl (dg (V0 % (tcsh ca c0 * 10 ^ (10 - tdig c0)))))), (qother, .inl (cI, 80, .inl fo2))]) O hK hE (c_X4_keep E hE h fs f_currency f_isWide f_negative f_kept qnum cI cZ ρ (trnd k n0 (V0 / (tcsh ca c0 * 10 ^ (10 - tdig c0))) (V0 % (tcsh ca c0 * 10 ^ (10 - tdig c0))) (tcsh ca c0 * 10 ^ (10 - tdig c0)) * (tcsh ca c0 * 10 ^ (10 - tdig c0))) c0 fc fw fn K reg w0 n0 (by omega) (by omega) (tfit_36 (bz_ne h148)) hMR) mlX4_119 imX4_keep seX4_keep inX4 cdX4_keep 5 (by decide +kernel) ⟨Nat.le_of_ble_eq_true rfl, Nat.le_of_ble_eq_true rfl⟩ 0 rfl rfl [0, 1] rfl [0, 1, 2, 3, 4, 5] rfl (by decide) [6, 7, 8, 9] rfl (by decide) (by decide) rfl rfl (Nat.le_of_ble_eq_true rfl) ⟨Nat.zero_le _, Nat.zero_le _⟩ dX4_round_171 174 rfl (fun z u hu => ?_)
                  obtain ⟨fc2, fw2, fn2, K2⟩ := u
                  obtain ⟨rfl, hMR2⟩ := hu
                  show TGo X [(qden, .inl (cI, 80, .inl (dg (tcsh ca c0 * 10 ^ (10 - tdig c0))))), (qquo, .inl (cI, 80, .inl (dg (trnd k n0 (V0 / (tcsh ca c0 * 10 ^ (10 - tdig c0))) (V0 % (tcsh ca c0 * 10 ^ (10 - tdig c0))) (tcsh ca c0 * 10 ^ (10 - tdig c0)))))), (qrem, .inl (cI, 80, .inl (dg (V0 % (tcsh ca c0 * 10 ^ (10 - tdig c0)))))), (qother, .inl (cI, 80, .inl fo2)), (h, .inr (4, fs)), (qcurrency, .inl (cI, 8, .inl fc2)), (qisWide, .inl (cZ, 8, .inl fw2)), (qnegative, .inl (cZ, 8, .inl fn2)), (qkept, .inl (cI, 320, .inl K2)), (qnum, .inl (cI, 80, .inl (dg (trnd k n0 (V0 / (tcsh ca c0 * 10 ^ (10 - tdig c0))) (V0 % (tcsh ca c0 * 10 ^ (10 - tdig c0))) (tcsh ca c0 * 10 ^ (10 - tdig c0)) * (tcsh ca c0 * 10 ^ (10 - tdig c0))))))] 0 0 174 [(5, .int (iI c0)), (0, .ref h), (1, .int (iI ((ρ : Nat) : Int))), (2, .int (iI ((α : Nat) : Int))), (3, .int (iI k)), (4, .int (iI (bz ca)))] [.int (iI 0)]
                  refine TGo.sub (ws' := [(h, .inr (4, fs)), (qcurrency, .inl (cI, 8, .inl fc2)), (qisWide, .inl (cZ, 8, .inl fw2)), (qnegative, .inl (cZ, 8, .inl fn2)), (qkept, .inl (cI, 320, .inl K2)), (qnum, .inl (cI, 80, .inl (dg (trnd k n0 (V0 / (tcsh ca c0 * 10 ^ (10 - tdig c0))) (V0 % (tcsh ca c0 * 10 ^ (10 - tdig c0))) (tcsh ca c0 * 10 ^ (10 - tdig c0)) * (tcsh ca c0 * 10 ^ (10 - tdig c0)))))), (qden, .inl (cI, 80, .inl (dg (tcsh ca c0 * 10 ^ (10 - tdig c0))))), (qquo, .inl (cI, 80, .inl (dg (trnd k n0 (V0 / (tcsh ca c0 * 10 ^ (10 - tdig c0))) (V0 % (tcsh ca c0 * 10 ^ (10 - tdig c0))) (tcsh ca c0 * 10 ^ (10 - tdig c0)))))), (qrem, .inl (cI, 80, .inl (dg (V0 % (tcsh ca c0 * 10 ^ (10 - tdig c0)))))), (qother, .inl (cI, 80, .inl fo2))]) [4, 5, 6, 7, 8, 9, 0, 1, 2, 3] (by decide) rfl ?_
                  refine go_goto O dX4_round_174 179 (by decide) ?_
                  have he := spRnd_ok (ca := ca) hb3 hq (hz.resolve_right (fun e => by omega)).2
                  rw [if_pos (bz_ne h148)] at he
                  exact hret _ _ _ (fc2, fw2, fn2, K2, dg (trnd k n0 (V0 / (tcsh ca c0 * 10 ^ (10 - tdig c0))) (V0 % (tcsh ca c0 * 10 ^ (10 - tdig c0))) (tcsh ca c0 * 10 ^ (10 - tdig c0)) * (tcsh ca c0 * 10 ^ (10 - tdig c0))), dg (tcsh ca c0 * 10 ^ (10 - tdig c0)), dg (trnd k n0 (V0 / (tcsh ca c0 * 10 ^ (10 - tdig c0))) (V0 % (tcsh ca c0 * 10 ^ (10 - tdig c0))) (tcsh ca c0 * 10 ^ (10 - tdig c0))), dg (V0 % (tcsh ca c0 * 10 ^ (10 - tdig c0))), fo2) dX4_round_179 rfl ⟨by rw [he]; rfl, by rw [he]; exact hMR2⟩
              · refine go_bipush O dX4_round_113 (by decide) 115 rfl ?_
                have he := spRnd_x (ca := ca) hb3 hq (hz.resolve_left (fun e => by omega)).2
                exact hret _ _ _ (fc, fw, fn, K, dg V0, dg (tcsh ca c0 * 10 ^ (10 - tdig c0)), dg (trnd k n0 (V0 / (tcsh ca c0 * 10 ^ (10 - tdig c0))) (V0 % (tcsh ca c0 * 10 ^ (10 - tdig c0))) (tcsh ca c0 * 10 ^ (10 - tdig c0))), dg (V0 % (tcsh ca c0 * 10 ^ (10 - tdig c0))), fo3) dX4_round_115 rfl ⟨by rw [he], by rw [he]; exact hMR⟩
          · refine go_iconst O dX4_round_58 59 rfl ?_
            refine go_goto O dX4_round_59 83 (by decide) ?_
            refine TGo.topi (y := ((tcsh ca c0 : Nat) : Int)) (tcsh_v (by omega)) ?_
            refine go_callvV (As := [.int (iI c0), .int (iI ((tcsh ca c0 : Nat) : Int))]) (rest := []) (wr := [(qcurrency, .inl (cI, 8, .inl fc)), (qisWide, .inl (cZ, 8, .inl fw)), (qnegative, .inl (cZ, 8, .inl fn)), (qkept, .inl (cI, 320, .inl K)), (qnum, .inl (cI, 80, .inl fnum)), (qquo, .inl (cI, 80, .inl fq)), (qrem, .inl (cI, 80, .inl fr)), (qother, .inl (cI, 80, .inl fo))]) O hK hE (c_X4_step E hE h fs f_den cI fd c0 (by omega) (tcsh ca c0) (by have := tcsh_bd ca c0; omega)) mlX4_145 imX4_step seX4_step inX4 cdX4_step 2 (by decide +kernel) ⟨Nat.le_of_ble_eq_true rfl, Nat.le_of_ble_eq_true rfl⟩ 0 rfl rfl [0] rfl [0, 6] rfl (by decide) [1, 2, 3, 4, 5, 7, 8, 9] rfl (by decide) (by decide) rfl rfl (Nat.le_of_ble_eq_true rfl) ⟨Nat.zero_le _, Nat.zero_le _⟩ dX4_round_83 86 rfl (fun u hu => ?_)
            have hD := tD_bd ca c0
            have hbd := rnd_bd (k := k) (b := n0) hV0 hD
            show TGo X [(qcurrency, .inl (cI, 8, .inl fc)), (qisWide, .inl (cZ, 8, .inl fw)), (qnegative, .inl (cZ, 8, .inl fn)), (qkept, .inl (cI, 320, .inl K)), (qnum, .inl (cI, 80, .inl fnum)), (qquo, .inl (cI, 80, .inl fq)), (qrem, .inl (cI, 80, .inl fr)), (qother, .inl (cI, 80, .inl fo)), (h, .inr (4, fs)), (qden, .inl (cI, 80, .inl (dg (tcsh ca c0 * 10 ^ (10 - tdig c0)))))] 0 0 86 [(5, .int (iI c0)), (0, .ref h), (1, .int (iI ((ρ : Nat) : Int))), (2, .int (iI ((α : Nat) : Int))), (3, .int (iI k)), (4, .int (iI (bz ca)))] []
            refine TGo.sub (ws' := [(h, .inr (4, fs)), (qcurrency, .inl (cI, 8, .inl fc)), (qisWide, .inl (cZ, 8, .inl fw)), (qnegative, .inl (cZ, 8, .inl fn)), (qkept, .inl (cI, 320, .inl K)), (qnum, .inl (cI, 80, .inl fnum)), (qden, .inl (cI, 80, .inl (dg (tcsh ca c0 * 10 ^ (10 - tdig c0))))), (qquo, .inl (cI, 80, .inl fq)), (qrem, .inl (cI, 80, .inl fr)), (qother, .inl (cI, 80, .inl fo))]) [8, 0, 1, 2, 3, 4, 9, 5, 6, 7] (by decide) rfl ?_
            refine go_aload_n O dX4_round_86 rfl 1 rfl 87 rfl ?_
            refine go_aload_n O dX4_round_87 rfl 1 rfl 88 rfl ?_
            refine go_get O hK dX4_round_88 hinX4 0 rfl rfl 10 (by decide) flX4_29 f_num 91 rfl ?_
            refine go_iload_n O dX4_round_91 rfl 3 rfl 92 rfl ?_
            refine go_callvV (As := [.ref qnum, .int (iI ((α : Nat) : Int))]) (rest := []) (wr := [(qcurrency, .inl (cI, 8, .inl fc)), (qisWide, .inl (cZ, 8, .inl fw)), (qnegative, .inl (cZ, 8, .inl fn)), (qden, .inl (cI, 80, .inl (dg (tcsh ca c0 * 10 ^ (10 - tdig c0))))), (qquo, .inl (cI, 80, .inl fq)), (qrem, .inl (cI, 80, .inl fr)), (qother, .inl (cI, 80, .inl fo))]) O hK hE (c_X4_take E hE h fs f_kept qnum cI K fnum α V0 (by omega) (by omega) hK0) mlX4_131 imX4_take seX4_take inX4 cdX4_take 2 (by decide +kernel) ⟨Nat.le_of_ble_eq_true rfl, Nat.le_of_ble_eq_true rfl⟩ 0 rfl rfl [0] rfl [0, 4, 5] rfl (by decide) [1, 2, 3, 6, 7, 8, 9] rfl (by decide) (by decide) rfl rfl (Nat.le_of_ble_eq_true rfl) ⟨Nat.zero_le _, Nat.zero_le _⟩ dX4_round_92 95 rfl (fun u hu => ?_)
            show TGo X [(qcurrency, .inl (cI, 8, .inl fc)), (qisWide, .inl (cZ, 8, .inl fw)), (qnegative, .inl (cZ, 8, .inl fn)), (qden, .inl (cI, 80, .inl (dg (tcsh ca c0 * 10 ^ (10 - tdig c0))))), (qquo, .inl (cI, 80, .inl fq)), (qrem, .inl (cI, 80, .inl fr)), (qother, .inl (cI, 80, .inl fo)), (h, .inr (4, fs)), (qkept, .inl (cI, 320, .inl K)), (qnum, .inl (cI, 80, .inl (dg V0)))] 0 0 95 [(5, .int (iI c0)), (0, .ref h), (1, .int (iI ((ρ : Nat) : Int))), (2, .int (iI ((α : Nat) : Int))), (3, .int (iI k)), (4, .int (iI (bz ca)))] []
            refine TGo.sub (ws' := [(h, .inr (4, fs)), (qcurrency, .inl (cI, 8, .inl fc)), (qisWide, .inl (cZ, 8, .inl fw)), (qnegative, .inl (cZ, 8, .inl fn)), (qkept, .inl (cI, 320, .inl K)), (qnum, .inl (cI, 80, .inl (dg V0))), (qden, .inl (cI, 80, .inl (dg (tcsh ca c0 * 10 ^ (10 - tdig c0))))), (qquo, .inl (cI, 80, .inl fq)), (qrem, .inl (cI, 80, .inl fr)), (qother, .inl (cI, 80, .inl fo))]) [7, 0, 1, 2, 8, 9, 3, 4, 5, 6] (by decide) rfl ?_
            refine go_aload_n O dX4_round_95 rfl 1 rfl 96 rfl ?_
            refine go_callvV (As := []) (rest := []) (wr := [(qcurrency, .inl (cI, 8, .inl fc)), (qisWide, .inl (cZ, 8, .inl fw)), (qnegative, .inl (cZ, 8, .inl fn)), (qkept, .inl (cI, 320, .inl K)), (qother, .inl (cI, 80, .inl fo))]) O hK hE (c_X4_quotient E hE h fs f_num f_den f_quo f_rem cI V0 (tcsh ca c0 * 10 ^ (10 - tdig c0)) fq fr (by omega) hD.1 (by have := hD.2; omega)) mlX4_108 imX4_quotient seX4_quotient inX4 cdX4_quotient 0 (by decide +kernel) ⟨Nat.le_of_ble_eq_true rfl, Nat.le_of_ble_eq_true rfl⟩ 0 rfl rfl [0] rfl [0, 5, 6, 7, 8] rfl (by decide) [1, 2, 3, 4, 9] rfl (by decide) (by decide) rfl rfl (Nat.le_of_ble_eq_true rfl) ⟨Nat.zero_le _, Nat.zero_le _⟩ dX4_round_96 99 rfl (fun u hu => ?_)
            show TGo X [(qcurrency, .inl (cI, 8, .inl fc)), (qisWide, .inl (cZ, 8, .inl fw)), (qnegative, .inl (cZ, 8, .inl fn)), (qkept, .inl (cI, 320, .inl K)), (qother, .inl (cI, 80, .inl fo)), (h, .inr (4, fs)), (qnum, .inl (cI, 80, .inl (dg V0))), (qden, .inl (cI, 80, .inl (dg (tcsh ca c0 * 10 ^ (10 - tdig c0))))), (qquo, .inl (cI, 80, .inl (dg (V0 / (tcsh ca c0 * 10 ^ (10 - tdig c0)))))), (qrem, .inl (cI, 80, .inl (dg (V0 % (tcsh ca c0 * 10 ^ (10 - tdig c0))))))] 0 0 99 [(5, .int (iI c0)), (0, .ref h), (1, .int (iI ((ρ : Nat) : Int))), (2, .int (iI ((α : Nat) : Int))), (3, .int (iI k)), (4, .int (iI (bz ca)))] []
            refine TGo.sub (ws' := [(h, .inr (4, fs)), (qcurrency, .inl (cI, 8, .inl fc)), (qisWide, .inl (cZ, 8, .inl fw)), (qnegative, .inl (cZ, 8, .inl fn)), (qkept, .inl (cI, 320, .inl K)), (qnum, .inl (cI, 80, .inl (dg V0))), (qden, .inl (cI, 80, .inl (dg (tcsh ca c0 * 10 ^ (10 - tdig c0))))), (qquo, .inl (cI, 80, .inl (dg (V0 / (tcsh ca c0 * 10 ^ (10 - tdig c0)))))), (qrem, .inl (cI, 80, .inl (dg (V0 % (tcsh ca c0 * 10 ^ (10 - tdig c0)))))), (qother, .inl (cI, 80, .inl fo))]) [5, 0, 1, 2, 3, 6, 7, 8, 9, 4] (by decide) rfl ?_
            refine go_aload_n O dX4_round_99 rfl 1 rfl 100 rfl ?_
            refine go_aload_n O dX4_round_100 rfl 1 rfl 101 rfl ?_
            refine go_get O hK dX4_round_101 hinX4 0 rfl rfl 5 (by decide) flX4_17 f_negative 104 rfl ?_
            refine go_iload_n O dX4_round_104 rfl 3 rfl 105 rfl ?_
            refine go_zald O hK dX4_round_105 3 1 rfl rfl α rfl (by omega) (by omega) (bz n0) e3 106 rfl ?_
            refine go_iload_n O dX4_round_106 rfl 4 rfl 107 rfl ?_
            refine go_calliV (As := [.int (iI (bz n0)), .int (iI k)]) (rest := []) (wr := [(qcurrency, .inl (cI, 8, .inl fc)), (qisWide, .inl (cZ, 8, .inl fw)), (qnegative, .inl (cZ, 8, .inl fn)), (qkept, .inl (cI, 320, .inl K)), (qnum, .inl (cI, 80, .inl (dg V0)))]) O hK hE (c_X4_rounds E hE h fs f_den f_quo f_rem f_other cI (V0 / (tcsh ca c0 * 10 ^ (10 - tdig c0))) (V0 % (tcsh ca c0 * 10 ^ (10 - tdig c0))) (tcsh ca c0 * 10 ^ (10 - tdig c0)) fo n0 k (by omega) hbd.2.2.1 hbd.2.2.2.1 hbd.2.2.2.2) mlX4_111 imX4_rounds seX4_rounds inX4 cdX4_rounds 2 (by decide +kernel) ⟨Nat.le_of_ble_eq_true rfl, Nat.le_of_ble_eq_true rfl⟩ 0 rfl rfl [0] rfl [0, 6, 7, 8, 9] rfl (by decide) [1, 2, 3, 4, 5] rfl (by decide) (by decide) rfl rfl (Nat.le_of_ble_eq_true rfl) ⟨Nat.zero_le _, Nat.zero_le _⟩ dX4_round_107 110 rfl (fun z u hu => ?_)
            obtain ⟨fo3, rfl⟩ : ∃ z, z = u := ⟨_, rfl⟩
            have hz : (z = 1 ∧ (V0 % (tcsh ca c0 * 10 ^ (10 - tdig c0)) = 0 ∨ k ≠ 7)) ∨ (z = 0 ∧ ¬ (V0 % (tcsh ca c0 * 10 ^ (10 - tdig c0)) = 0 ∨ k ≠ 7)) := by
              rw [hu]; split
              · exact Or.inl ⟨rfl, by assumption⟩
              · exact Or.inr ⟨rfl, by assumption⟩
            have hzr : 0 ≤ z ∧ z ≤ 1 := by rcases hz with e | e <;> omega
            show TGo X [(qcurrency, .inl (cI, 8, .inl fc)), (qisWide, .inl (cZ, 8, .inl fw)), (qnegative, .inl (cZ, 8, .inl fn)), (qkept, .inl (cI, 320, .inl K)), (qnum, .inl (cI, 80, .inl (dg V0))), (h, .inr (4, fs)), (qden, .inl (cI, 80, .inl (dg (tcsh ca c0 * 10 ^ (10 - tdig c0))))), (qquo, .inl (cI, 80, .inl (dg (trnd k n0 (V0 / (tcsh ca c0 * 10 ^ (10 - tdig c0))) (V0 % (tcsh ca c0 * 10 ^ (10 - tdig c0))) (tcsh ca c0 * 10 ^ (10 - tdig c0)))))), (qrem, .inl (cI, 80, .inl (dg (V0 % (tcsh ca c0 * 10 ^ (10 - tdig c0)))))), (qother, .inl (cI, 80, .inl fo3))] 0 0 110 [(5, .int (iI c0)), (0, .ref h), (1, .int (iI ((ρ : Nat) : Int))), (2, .int (iI ((α : Nat) : Int))), (3, .int (iI k)), (4, .int (iI (bz ca)))] [.int (iI z)]
            refine TGo.sub (ws' := [(h, .inr (4, fs)), (qcurrency, .inl (cI, 8, .inl fc)), (qisWide, .inl (cZ, 8, .inl fw)), (qnegative, .inl (cZ, 8, .inl fn)), (qkept, .inl (cI, 320, .inl K)), (qnum, .inl (cI, 80, .inl (dg V0))), (qden, .inl (cI, 80, .inl (dg (tcsh ca c0 * 10 ^ (10 - tdig c0))))), (qquo, .inl (cI, 80, .inl (dg (trnd k n0 (V0 / (tcsh ca c0 * 10 ^ (10 - tdig c0))) (V0 % (tcsh ca c0 * 10 ^ (10 - tdig c0))) (tcsh ca c0 * 10 ^ (10 - tdig c0)))))), (qrem, .inl (cI, 80, .inl (dg (V0 % (tcsh ca c0 * 10 ^ (10 - tdig c0)))))), (qother, .inl (cI, 80, .inl fo3))]) [5, 0, 1, 2, 3, 4, 6, 7, 8, 9] (by decide) rfl ?_
            refine go_if_ne O dX4_round_110 116 (by decide) 113 rfl (by omega) (fun h110 => ?_) (fun h110 => ?_)
            · refine go_aload_n O dX4_round_116 rfl 1 rfl 117 rfl ?_
              refine go_aload_n O dX4_round_117 rfl 1 rfl 118 rfl ?_
              refine go_get O hK dX4_round_118 hinX4 0 rfl rfl 13 (by decide) flX4_38 f_quo 121 rfl ?_
              refine go_aload_n O dX4_round_121 rfl 1 rfl 122 rfl ?_
              refine go_get O hK dX4_round_122 hinX4 0 rfl rfl 12 (by decide) flX4_35 f_den 125 rfl ?_
              refine go_callvV (As := [.ref qquo, .ref qden]) (rest := []) (wr := [(qcurrency, .inl (cI, 8, .inl fc)), (qisWide, .inl (cZ, 8, .inl fw)), (qnegative, .inl (cZ, 8, .inl fn)), (qkept, .inl (cI, 320, .inl K)), (qrem, .inl (cI, 80, .inl (dg (V0 % (tcsh ca c0 * 10 ^ (10 - tdig c0)))))), (qother, .inl (cI, 80, .inl fo3))]) O hK hE (c_X4_product E hE h fs f_num qquo qden cI (trnd k n0 (V0 / (tcsh ca c0 * 10 ^ (10 - tdig c0))) (V0 % (tcsh ca c0 * 10 ^ (10 - tdig c0))) (tcsh ca c0 * 10 ^ (10 - tdig c0))) (tcsh ca c0 * 10 ^ (10 - tdig c0)) (dg V0) hbd.1 hbd.2.1) mlX4_138 imX4_product seX4_product inX4 cdX4_product 2 (by decide +kernel) ⟨Nat.le_of_ble_eq_true rfl, Nat.le_of_ble_eq_true rfl⟩ 0 rfl rfl [0] rfl [0, 5, 7, 6] rfl (by decide) [1, 2, 3, 4, 8, 9] rfl (by decide) (by decide) rfl rfl (Nat.le_of_ble_eq_true rfl) ⟨Nat.zero_le _, Nat.zero_le _⟩ dX4_round_125 128 rfl (fun u hu => ?_)
              show TGo X [(qcurrency, .inl (cI, 8, .inl fc)), (qisWide, .inl (cZ, 8, .inl fw)), (qnegative, .inl (cZ, 8, .inl fn)), (qkept, .inl (cI, 320, .inl K)), (qrem, .inl (cI, 80, .inl (dg (V0 % (tcsh ca c0 * 10 ^ (10 - tdig c0)))))), (qother, .inl (cI, 80, .inl fo3)), (h, .inr (4, fs)), (qnum, .inl (cI, 80, .inl (dg (trnd k n0 (V0 / (tcsh ca c0 * 10 ^ (10 - tdig c0))) (V0 % (tcsh ca c0 * 10 ^ (10 - tdig c0))) (tcsh ca c0 * 10 ^ (10 - tdig c0)) * (tcsh ca c0 * 10 ^ (10 - tdig c0)))))), (qquo, .inl (cI, 80, .inl (dg (trnd k n0 (V0 / (tcsh ca c0 * 10 ^ (10 - tdig c0))) (V0 % (tcsh ca c0 * 10 ^ (10 - tdig c0))) (tcsh ca c0 * 10 ^ (10 - tdig c0)))))), (qden, .inl (cI, 80, .inl (dg (tcsh ca c0 * 10 ^ (10 - tdig c0)))))] 0 0 128 [(5, .int (iI c0)), (0, .ref h), (1, .int (iI ((ρ : Nat) : Int))), (2, .int (iI ((α : Nat) : Int))), (3, .int (iI k)), (4, .int (iI (bz ca)))] []
              refine TGo.sub (ws' := [(h, .inr (4, fs)), (qcurrency, .inl (cI, 8, .inl fc)), (qisWide, .inl (cZ, 8, .inl fw)), (qnegative, .inl (cZ, 8, .inl fn)), (qkept, .inl (cI, 320, .inl K)), (qnum, .inl (cI, 80, .inl (dg (trnd k n0 (V0 / (tcsh ca c0 * 10 ^ (10 - tdig c0))) (V0 % (tcsh ca c0 * 10 ^ (10 - tdig c0))) (tcsh ca c0 * 10 ^ (10 - tdig c0)) * (tcsh ca c0 * 10 ^ (10 - tdig c0)))))), (qden, .inl (cI, 80, .inl (dg (tcsh ca c0 * 10 ^ (10 - tdig c0))))), (qquo, .inl (cI, 80, .inl (dg (trnd k n0 (V0 / (tcsh ca c0 * 10 ^ (10 - tdig c0))) (V0 % (tcsh ca c0 * 10 ^ (10 - tdig c0))) (tcsh ca c0 * 10 ^ (10 - tdig c0)))))), (qrem, .inl (cI, 80, .inl (dg (V0 % (tcsh ca c0 * 10 ^ (10 - tdig c0)))))), (qother, .inl (cI, 80, .inl fo3))]) [6, 0, 1, 2, 3, 7, 9, 8, 4, 5] (by decide) rfl ?_
              refine go_aload_n O dX4_round_128 rfl 1 rfl 129 rfl ?_
              refine go_aload_n O dX4_round_129 rfl 1 rfl 130 rfl ?_
              refine go_get O hK dX4_round_130 hinX4 0 rfl rfl 10 (by decide) flX4_29 f_num 133 rfl ?_
              refine go_aload_n O dX4_round_133 rfl 1 rfl 134 rfl ?_
              refine go_get O hK dX4_round_134 hinX4 0 rfl rfl 4 (by decide) flX4_13 f_isWide 137 rfl ?_
              refine go_iload_n O dX4_round_137 rfl 3 rfl 138 rfl ?_
              refine go_zald O hK dX4_round_138 2 1 rfl rfl α rfl (by omega) (by omega) (bz w0) e2 139 rfl ?_
              refine go_aload_n O dX4_round_139 rfl 1 rfl 140 rfl ?_
              refine go_get O hK dX4_round_140 hinX4 0 rfl rfl 5 (by decide) flX4_17 f_negative 143 rfl ?_
              refine go_iload_n O dX4_round_143 rfl 3 rfl 144 rfl ?_
              refine go_zald O hK dX4_round_144 3 1 rfl rfl α rfl (by omega) (by omega) (bz n0) e3 145 rfl ?_
              refine go_calliV (As := [.ref qnum, .int (iI (bz w0)), .int (iI (bz n0))]) (rest := []) (wr := [(qcurrency, .inl (cI, 8, .inl fc)), (qisWide, .inl (cZ, 8, .inl fw)), (qnegative, .inl (cZ, 8, .inl fn)), (qkept, .inl (cI, 320, .inl K)), (qden, .inl (cI, 80, .inl (dg (tcsh ca c0 * 10 ^ (10 - tdig c0))))), (qquo, .inl (cI, 80, .inl (dg (trnd k n0 (V0 / (tcsh ca c0 * 10 ^ (10 - tdig c0))) (V0 % (tcsh ca c0 * 10 ^ (10 - tdig c0))) (tcsh ca c0 * 10 ^ (10 - tdig c0)))))), (qrem, .inl (cI, 80, .inl (dg (V0 % (tcsh ca c0 * 10 ^ (10 - tdig c0))))))]) O hK hE (c_X4_fits E hE h fs f_other qnum cI (trnd k n0 (V0 / (tcsh ca c0 * 10 ^ (10 - tdig c0))) (V0 % (tcsh ca c0 * 10 ^ (10 - tdig c0))) (tcsh ca c0 * 10 ^ (10 - tdig c0)) * (tcsh ca c0 * 10 ^ (10 - tdig c0))) fo3 w0 n0 hbd.2.1) mlX4_115 imX4_fits seX4_fits inX4 cdX4_fits 3 (by decide +kernel) ⟨Nat.le_of_ble_eq_true rfl, Nat.le_of_ble_eq_true rfl⟩ 0 rfl rfl [0] rfl [0, 9, 5] rfl (by decide) [1, 2, 3, 4, 6, 7, 8] rfl (by decide) (by decide) rfl rfl (Nat.le_of_ble_eq_true rfl) ⟨Nat.zero_le _, Nat.zero_le _⟩ dX4_round_145 148 rfl (fun z u hu => ?_)
              subst hu
              obtain ⟨fo2, rfl⟩ : ∃ z, z = u := ⟨_, rfl⟩
              show TGo X [(qcurrency, .inl (cI, 8, .inl fc)), (qisWide, .inl (cZ, 8, .inl fw)), (qnegative, .inl (cZ, 8, .inl fn)), (qkept, .inl (cI, 320, .inl K)), (qden, .inl (cI, 80, .inl (dg (tcsh ca c0 * 10 ^ (10 - tdig c0))))), (qquo, .inl (cI, 80, .inl (dg (trnd k n0 (V0 / (tcsh ca c0 * 10 ^ (10 - tdig c0))) (V0 % (tcsh ca c0 * 10 ^ (10 - tdig c0))) (tcsh ca c0 * 10 ^ (10 - tdig c0)))))), (qrem, .inl (cI, 80, .inl (dg (V0 % (tcsh ca c0 * 10 ^ (10 - tdig c0)))))), (h, .inr (4, fs)), (qother, .inl (cI, 80, .inl fo2)), (qnum, .inl (cI, 80, .inl (dg (trnd k n0 (V0 / (tcsh ca c0 * 10 ^ (10 - tdig c0))) (V0 % (tcsh ca c0 * 10 ^ (10 - tdig c0))) (tcsh ca c0 * 10 ^ (10 - tdig c0)) * (tcsh ca c0 * 10 ^ (10 - tdig c0))))))] 0 0 148 [(5, .int (iI c0)), (0, .ref h), (1, .int (iI ((ρ : Nat) : Int))), (2, .int (iI ((α : Nat) : Int))), (3, .int (iI k)), (4, .int (iI (bz ca)))] [.int (iI (bz (tfit w0 n0 (trnd k n0 (V0 / (tcsh ca c0 * 10 ^ (10 - tdig c0))) (V0 % (tcsh ca c0 * 10 ^ (10 - tdig c0))) (tcsh ca c0 * 10 ^ (10 - tdig c0)) * (tcsh ca c0 * 10 ^ (10 - tdig c0))))))]
              refine TGo.sub (ws' := [(h, .inr (4, fs)), (qcurrency, .inl (cI, 8, .inl fc)), (qisWide, .inl (cZ, 8, .inl fw)), (qnegative, .inl (cZ, 8, .inl fn)), (qkept, .inl (cI, 320, .inl K)), (qnum, .inl (cI, 80, .inl (dg (trnd k n0 (V0 / (tcsh ca c0 * 10 ^ (10 - tdig c0))) (V0 % (tcsh ca c0 * 10 ^ (10 - tdig c0))) (tcsh ca c0 * 10 ^ (10 - tdig c0)) * (tcsh ca c0 * 10 ^ (10 - tdig c0)))))), (qden, .inl (cI, 80, .inl (dg (tcsh ca c0 * 10 ^ (10 - tdig c0))))), (qquo, .inl (cI, 80, .inl (dg (trnd k n0 (V0 / (tcsh ca c0 * 10 ^ (10 - tdig c0))) (V0 % (tcsh ca c0 * 10 ^ (10 - tdig c0))) (tcsh ca c0 * 10 ^ (10 - tdig c0)))))), (qrem, .inl (cI, 80, .inl (dg (V0 % (tcsh ca c0 * 10 ^ (10 - tdig c0)))))), (qother, .inl (cI, 80, .inl fo2))]) [7, 0, 1, 2, 3, 9, 4, 5, 6, 8] (by decide) rfl ?_
              refine go_if_eq O dX4_round_148 177 (by decide) 151 rfl (bz_r _) (fun h148 => ?_) (fun h148 => ?_)
              · refine go_bipush O dX4_round_177 (by decide) 179 rfl ?_
                have he := spRnd_ok (ca := ca) hb3 hq (hz.resolve_right (fun e => by omega)).2
                rw [if_neg (by rw [bz_0.mp h148]; decide)] at he
                exact hret _ _ _ (fc, fw, fn, K, dg (trnd k n0 (V0 / (tcsh ca c0 * 10 ^ (10 - tdig c0))) (V0 % (tcsh ca c0 * 10 ^ (10 - tdig c0))) (tcsh ca c0 * 10 ^ (10 - tdig c0)) * (tcsh ca c0 * 10 ^ (10 - tdig c0))), dg (tcsh ca c0 * 10 ^ (10 - tdig c0)), dg (trnd k n0 (V0 / (tcsh ca c0 * 10 ^ (10 - tdig c0))) (V0 % (tcsh ca c0 * 10 ^ (10 - tdig c0))) (tcsh ca c0 * 10 ^ (10 - tdig c0))), dg (V0 % (tcsh ca c0 * 10 ^ (10 - tdig c0))), fo2) dX4_round_179 rfl ⟨by rw [he]; rfl, by rw [he]; exact hMR⟩
              · refine go_aload_n O dX4_round_151 rfl 1 rfl 152 rfl ?_
                refine go_iload_n O dX4_round_152 rfl 2 rfl 153 rfl ?_
                refine go_iload O dX4_round_153 0 rfl 155 rfl ?_
                refine go_aload_n O dX4_round_155 rfl 1 rfl 156 rfl ?_
                refine go_get O hK dX4_round_156 hinX4 0 rfl rfl 4 (by decide) flX4_13 f_isWide 159 rfl ?_
                refine go_iload_n O dX4_round_159 rfl 3 rfl 160 rfl ?_
                refine go_zald O hK dX4_round_160 2 1 rfl rfl α rfl (by omega) (by omega) (bz w0) e2 161 rfl ?_
                refine go_aload_n O dX4_round_161 rfl 1 rfl 162 rfl ?_
                refine go_get O hK dX4_round_162 hinX4 0 rfl rfl 5 (by decide) flX4_17 f_negative 165 rfl ?_
                refine go_iload_n O dX4_round_165 rfl 3 rfl 166 rfl ?_
                refine go_zald O hK dX4_round_166 3 1 rfl rfl α rfl (by omega) (by omega) (bz n0) e3 167 rfl ?_
                refine go_aload_n O dX4_round_167 rfl 1 rfl 168 rfl ?_
                refine go_get O hK dX4_round_168 hinX4 0 rfl rfl 10 (by decide) flX4_29 f_num 171 rfl ?_
                refine go_calliV (As := [.int (iI ((ρ : Nat) : Int)), .int (iI c0), .int (iI (bz w0)), .int (iI (bz n0)), .ref qnum]) (rest := []) (wr := [(qden, .inl (cI, 80, .inl (dg (tcsh ca c0 * 10 ^ (10 - tdig c0))))), (qquo, .inl (cI, 80, .inl (dg (trnd k n0 (V0 / (tcsh ca c0 * 10 ^ (10 - tdig c0))) (V0 % (tcsh ca c0 * 10 ^ (10 - tdig c0))) (tcsh ca c0 * 10 ^ (10 - tdig c0)))))), (qrem, .inl (cI, 80, .inl (dg (V0 % (tcsh ca c0 * 10 ^ (10 - tdig c0)))))), (qother, .inl (cI, 80, .inl fo2))]) O hK hE (c_X4_keep E hE h fs f_currency f_isWide f_negative f_kept qnum cI cZ ρ (trnd k n0 (V0 / (tcsh ca c0 * 10 ^ (10 - tdig c0))) (V0 % (tcsh ca c0 * 10 ^ (10 - tdig c0))) (tcsh ca c0 * 10 ^ (10 - tdig c0)) * (tcsh ca c0 * 10 ^ (10 - tdig c0))) c0 fc fw fn K reg w0 n0 (by omega) (by omega) (tfit_36 (bz_ne h148)) hMR) mlX4_119 imX4_keep seX4_keep inX4 cdX4_keep 5 (by decide +kernel) ⟨Nat.le_of_ble_eq_true rfl, Nat.le_of_ble_eq_true rfl⟩ 0 rfl rfl [0, 1] rfl [0, 1, 2, 3, 4, 5] rfl (by decide) [6, 7, 8, 9] rfl (by decide) (by decide) rfl rfl (Nat.le_of_ble_eq_true rfl) ⟨Nat.zero_le _, Nat.zero_le _⟩ dX4_round_171 174 rfl (fun z u hu => ?_)
                obtain ⟨fc2, fw2, fn2, K2⟩ := u
                obtain ⟨rfl, hMR2⟩ := hu
                show TGo X [(qden, .inl (cI, 80, .inl (dg (tcsh ca c0 * 10 ^ (10 - tdig c0))))), (qquo, .inl (cI, 80, .inl (dg (trnd k n0 (V0 / (tcsh ca c0 * 10 ^ (10 - tdig c0))) (V0 % (tcsh ca c0 * 10 ^ (10 - tdig c0))) (tcsh ca c0 * 10 ^ (10 - tdig c0)))))), (qrem, .inl (cI, 80, .inl (dg (V0 % (tcsh ca c0 * 10 ^ (10 - tdig c0)))))), (qother, .inl (cI, 80, .inl fo2)), (h, .inr (4, fs)), (qcurrency, .inl (cI, 8, .inl fc2)), (qisWide, .inl (cZ, 8, .inl fw2)), (qnegative, .inl (cZ, 8, .inl fn2)), (qkept, .inl (cI, 320, .inl K2)), (qnum, .inl (cI, 80, .inl (dg (trnd k n0 (V0 / (tcsh ca c0 * 10 ^ (10 - tdig c0))) (V0 % (tcsh ca c0 * 10 ^ (10 - tdig c0))) (tcsh ca c0 * 10 ^ (10 - tdig c0)) * (tcsh ca c0 * 10 ^ (10 - tdig c0))))))] 0 0 174 [(5, .int (iI c0)), (0, .ref h), (1, .int (iI ((ρ : Nat) : Int))), (2, .int (iI ((α : Nat) : Int))), (3, .int (iI k)), (4, .int (iI (bz ca)))] [.int (iI 0)]
                refine TGo.sub (ws' := [(h, .inr (4, fs)), (qcurrency, .inl (cI, 8, .inl fc2)), (qisWide, .inl (cZ, 8, .inl fw2)), (qnegative, .inl (cZ, 8, .inl fn2)), (qkept, .inl (cI, 320, .inl K2)), (qnum, .inl (cI, 80, .inl (dg (trnd k n0 (V0 / (tcsh ca c0 * 10 ^ (10 - tdig c0))) (V0 % (tcsh ca c0 * 10 ^ (10 - tdig c0))) (tcsh ca c0 * 10 ^ (10 - tdig c0)) * (tcsh ca c0 * 10 ^ (10 - tdig c0)))))), (qden, .inl (cI, 80, .inl (dg (tcsh ca c0 * 10 ^ (10 - tdig c0))))), (qquo, .inl (cI, 80, .inl (dg (trnd k n0 (V0 / (tcsh ca c0 * 10 ^ (10 - tdig c0))) (V0 % (tcsh ca c0 * 10 ^ (10 - tdig c0))) (tcsh ca c0 * 10 ^ (10 - tdig c0)))))), (qrem, .inl (cI, 80, .inl (dg (V0 % (tcsh ca c0 * 10 ^ (10 - tdig c0)))))), (qother, .inl (cI, 80, .inl fo2))]) [4, 5, 6, 7, 8, 9, 0, 1, 2, 3] (by decide) rfl ?_
                refine go_goto O dX4_round_174 179 (by decide) ?_
                have he := spRnd_ok (ca := ca) hb3 hq (hz.resolve_right (fun e => by omega)).2
                rw [if_pos (bz_ne h148)] at he
                exact hret _ _ _ (fc2, fw2, fn2, K2, dg (trnd k n0 (V0 / (tcsh ca c0 * 10 ^ (10 - tdig c0))) (V0 % (tcsh ca c0 * 10 ^ (10 - tdig c0))) (tcsh ca c0 * 10 ^ (10 - tdig c0)) * (tcsh ca c0 * 10 ^ (10 - tdig c0))), dg (tcsh ca c0 * 10 ^ (10 - tdig c0)), dg (trnd k n0 (V0 / (tcsh ca c0 * 10 ^ (10 - tdig c0))) (V0 % (tcsh ca c0 * 10 ^ (10 - tdig c0))) (tcsh ca c0 * 10 ^ (10 - tdig c0))), dg (V0 % (tcsh ca c0 * 10 ^ (10 - tdig c0))), fo2) dX4_round_179 rfl ⟨by rw [he]; rfl, by rw [he]; exact hMR2⟩
            · refine go_bipush O dX4_round_113 (by decide) 115 rfl ?_
              have he := spRnd_x (ca := ca) hb3 hq (hz.resolve_left (fun e => by omega)).2
              exact hret _ _ _ (fc, fw, fn, K, dg V0, dg (tcsh ca c0 * 10 ^ (10 - tdig c0)), dg (trnd k n0 (V0 / (tcsh ca c0 * 10 ^ (10 - tdig c0))) (V0 % (tcsh ca c0 * 10 ^ (10 - tdig c0))) (tcsh ca c0 * 10 ^ (10 - tdig c0))), dg (V0 % (tcsh ca c0 * 10 ^ (10 - tdig c0))), fo3) dX4_round_115 rfl ⟨by rw [he], by rw [he]; exact hMR⟩
      · refine go_bipush O dX4_round_27 (by decide) 29 rfl ?_
        have he := spRnd_bad (reg := reg) (r := r) (a := a) (k := k) (ca := ca) (by omega)
        exact hret _ _ _ (fc, fw, fn, K, fnum, fd, fq, fr, fo) dX4_round_29 rfl ⟨by rw [he], by rw [he]; exact hMR⟩
