set_option maxHeartbeats 4000000 in
set_option maxRecDepth 100000 in
/-- allocate, out of range -/
theorem c_X4_allocate_b (E : TEn) (hE : EnvOk E) (h : Nat) (fs : List Value) {qcurrency qisWide qnegative qkept qratios qnum qden qquo qrem qother qunits qparts qover qgiven : Nat} (f_currency : fs[3]? = some (.ref qcurrency)) (f_isWide : fs[4]? = some (.ref qisWide)) (f_negative : fs[5]? = some (.ref qnegative)) (f_kept : fs[6]? = some (.ref qkept)) (f_ratios : fs[7]? = some (.ref qratios)) (f_num : fs[10]? = some (.ref qnum)) (f_den : fs[12]? = some (.ref qden)) (f_quo : fs[13]? = some (.ref qquo)) (f_rem : fs[14]? = some (.ref qrem)) (f_other : fs[15]? = some (.ref qother)) (f_units : fs[16]? = some (.ref qunits)) (f_parts : fs[17]? = some (.ref qparts)) (f_over : fs[18]? = some (.ref qover)) (f_given : fs[19]? = some (.ref qgiven)) (cI cZ : ClassId) (fc fw fn K fnum fd fq fr fo fu PF ov gv : Nat → Int32) (ra : Nat → Int) (hRa : RaOk ra) (reg : Rg) (hMR : MR fc fw fn K reg) (a t n : Int) (ha : r32 a) (ht : r32 t) (hn : r32 n) (hbad : ¬ ((0 ≤ a ∧ a < 8) ∧ (0 ≤ t ∧ t < 8) ∧ (1 ≤ n ∧ n ≤ 8 - t) ∧ ¬ (t ≤ a ∧ a < t + n))) : Cti vwCl E yX4_allocate wsX4_allocate (rmn 3 73) [.ref h, .int (iI a), .int (iI t), .int (iI n)] [(h, .inr (4, fs)), (qcurrency, .inl (cI, 8, .inl fc)), (qisWide, .inl (cZ, 8, .inl fw)), (qnegative, .inl (cZ, 8, .inl fn)), (qkept, .inl (cI, 320, .inl K)), (qratios, .inl (cI, 8, .inl (fun j => iI (ra j)))), (qnum, .inl (cI, 80, .inl fnum)), (qden, .inl (cI, 80, .inl fd)), (qquo, .inl (cI, 80, .inl fq)), (qrem, .inl (cI, 80, .inl fr)), (qother, .inl (cI, 80, .inl fo)), (qunits, .inl (cI, 80, .inl fu)), (qparts, .inl (cI, 320, .inl PF)), (qover, .inl (cI, 8, .inl ov)), (qgiven, .inl (cZ, 8, .inl gv))] [(cI, .int), (cZ, .boolean)] (fun (z : Int) (u : (Nat → Int32) × (Nat → Int32) × (Nat → Int32) × (Nat → Int32) × (Nat → Int32) × (Nat → Int32) × (Nat → Int32) × (Nat → Int32) × (Nat → Int32) × (Nat → Int32) × (Nat → Int32) × (Nat → Int32) × (Nat → Int32)) => z = (spAll reg ra a t n).1 ∧ MR u.1 u.2.1 u.2.2.1 u.2.2.2.1 (spAll reg ra a t n).2) (fun u => [(h, .inr (4, fs)), (qcurrency, .inl (cI, 8, .inl u.1)), (qisWide, .inl (cZ, 8, .inl u.2.1)), (qnegative, .inl (cZ, 8, .inl u.2.2.1)), (qkept, .inl (cI, 320, .inl u.2.2.2.1)), (qratios, .inl (cI, 8, .inl (fun j => iI (ra j)))), (qnum, .inl (cI, 80, .inl u.2.2.2.2.1)), (qden, .inl (cI, 80, .inl u.2.2.2.2.2.1)), (qquo, .inl (cI, 80, .inl u.2.2.2.2.2.2.1)), (qrem, .inl (cI, 80, .inl u.2.2.2.2.2.2.2.1)), (qother, .inl (cI, 80, .inl u.2.2.2.2.2.2.2.2.1)), (qunits, .inl (cI, 80, .inl u.2.2.2.2.2.2.2.2.2.1)), (qparts, .inl (cI, 320, .inl u.2.2.2.2.2.2.2.2.2.2.1)), (qover, .inl (cI, 8, .inl u.2.2.2.2.2.2.2.2.2.2.2.1)), (qgiven, .inl (cZ, 8, .inl u.2.2.2.2.2.2.2.2.2.2.2.2))]) := by
  refine enteri (by decide) (Nat.le_of_ble_eq_true rfl) ?_
  intro X O hK hin2 hret
  show TGo X [(h, .inr (4, fs)), (qcurrency, .inl (cI, 8, .inl fc)), (qisWide, .inl (cZ, 8, .inl fw)), (qnegative, .inl (cZ, 8, .inl fn)), (qkept, .inl (cI, 320, .inl K)), (qratios, .inl (cI, 8, .inl (fun j => iI (ra j)))), (qnum, .inl (cI, 80, .inl fnum)), (qden, .inl (cI, 80, .inl fd)), (qquo, .inl (cI, 80, .inl fq)), (qrem, .inl (cI, 80, .inl fr)), (qother, .inl (cI, 80, .inl fo)), (qunits, .inl (cI, 80, .inl fu)), (qparts, .inl (cI, 320, .inl PF)), (qover, .inl (cI, 8, .inl ov)), (qgiven, .inl (cZ, 8, .inl gv))] 0 0 0 [(0, .ref h), (1, .int (iI a)), (2, .int (iI t)), (3, .int (iI n))] []
  have o1 := tout_i (x := a) (e := 8)
  have o2 := tout_i (x := t) (e := 8)
  refine go_iload_n O dX4_allocate_0 rfl 1 rfl 1 rfl ?_
  refine go_bipush O dX4_allocate_1 (by decide) 3 rfl ?_
  refine go_calliS (rest := []) (wr := [(h, .inr (4, fs)), (qcurrency, .inl (cI, 8, .inl fc)), (qisWide, .inl (cZ, 8, .inl fw)), (qnegative, .inl (cZ, 8, .inl fn)), (qkept, .inl (cI, 320, .inl K)), (qratios, .inl (cI, 8, .inl (fun j => iI (ra j)))), (qnum, .inl (cI, 80, .inl fnum)), (qden, .inl (cI, 80, .inl fd)), (qquo, .inl (cI, 80, .inl fq)), (qrem, .inl (cI, 80, .inl fr)), (qother, .inl (cI, 80, .inl fo)), (qunits, .inl (cI, 80, .inl fu)), (qparts, .inl (cI, 320, .inl PF)), (qover, .inl (cI, 8, .inl ov)), (qgiven, .inl (cZ, 8, .inl gv))]) O hK hE (c_X4_outside E hE a 8 (by omega) (by omega)) mlX4_123 smX4_outside inX4 cdX4_outside 2 (by decide +kernel) ⟨Nat.le_of_ble_eq_true rfl, Nat.le_of_ble_eq_true rfl⟩ [] rfl [] rfl (by decide) [0, 1, 2, 3, 4, 5, 6, 7, 8, 9, 10, 11, 12, 13, 14] rfl (by decide) (by decide) rfl rfl (Nat.le_of_ble_eq_true rfl) ⟨Nat.zero_le _, Nat.zero_le _⟩ dX4_allocate_3 6 rfl (fun z u hu => ?_)
  subst hu
  show TGo X [(h, .inr (4, fs)), (qcurrency, .inl (cI, 8, .inl fc)), (qisWide, .inl (cZ, 8, .inl fw)), (qnegative, .inl (cZ, 8, .inl fn)), (qkept, .inl (cI, 320, .inl K)), (qratios, .inl (cI, 8, .inl (fun j => iI (ra j)))), (qnum, .inl (cI, 80, .inl fnum)), (qden, .inl (cI, 80, .inl fd)), (qquo, .inl (cI, 80, .inl fq)), (qrem, .inl (cI, 80, .inl fr)), (qother, .inl (cI, 80, .inl fo)), (qunits, .inl (cI, 80, .inl fu)), (qparts, .inl (cI, 320, .inl PF)), (qover, .inl (cI, 8, .inl ov)), (qgiven, .inl (cZ, 8, .inl gv))] 0 0 6 [(0, .ref h), (1, .int (iI a)), (2, .int (iI t)), (3, .int (iI n))] [.int (iI (bz (tout a 8)))]
  refine go_if_ne O dX4_allocate_6 43 (by decide) 9 rfl (bz_r _) (fun h6 => ?_) (fun h6 => ?_)
  · refine go_bipush O dX4_allocate_43 (by decide) 45 rfl ?_
    have he := spAll_b0 (reg := reg) (ra := ra) hbad
    exact hret _ _ _ (fc, fw, fn, K, fnum, fd, fq, fr, fo, fu, PF, ov, gv) dX4_allocate_45 rfl ⟨by rw [he], by rw [he]; exact hMR⟩
  · refine go_iload_n O dX4_allocate_9 rfl 2 rfl 10 rfl ?_
    refine go_bipush O dX4_allocate_10 (by decide) 12 rfl ?_
    refine go_calliS (rest := []) (wr := [(h, .inr (4, fs)), (qcurrency, .inl (cI, 8, .inl fc)), (qisWide, .inl (cZ, 8, .inl fw)), (qnegative, .inl (cZ, 8, .inl fn)), (qkept, .inl (cI, 320, .inl K)), (qratios, .inl (cI, 8, .inl (fun j => iI (ra j)))), (qnum, .inl (cI, 80, .inl fnum)), (qden, .inl (cI, 80, .inl fd)), (qquo, .inl (cI, 80, .inl fq)), (qrem, .inl (cI, 80, .inl fr)), (qother, .inl (cI, 80, .inl fo)), (qunits, .inl (cI, 80, .inl fu)), (qparts, .inl (cI, 320, .inl PF)), (qover, .inl (cI, 8, .inl ov)), (qgiven, .inl (cZ, 8, .inl gv))]) O hK hE (c_X4_outside E hE t 8 (by omega) (by omega)) mlX4_123 smX4_outside inX4 cdX4_outside 2 (by decide +kernel) ⟨Nat.le_of_ble_eq_true rfl, Nat.le_of_ble_eq_true rfl⟩ [] rfl [] rfl (by decide) [0, 1, 2, 3, 4, 5, 6, 7, 8, 9, 10, 11, 12, 13, 14] rfl (by decide) (by decide) rfl rfl (Nat.le_of_ble_eq_true rfl) ⟨Nat.zero_le _, Nat.zero_le _⟩ dX4_allocate_12 15 rfl (fun z u hu => ?_)
    subst hu
    show TGo X [(h, .inr (4, fs)), (qcurrency, .inl (cI, 8, .inl fc)), (qisWide, .inl (cZ, 8, .inl fw)), (qnegative, .inl (cZ, 8, .inl fn)), (qkept, .inl (cI, 320, .inl K)), (qratios, .inl (cI, 8, .inl (fun j => iI (ra j)))), (qnum, .inl (cI, 80, .inl fnum)), (qden, .inl (cI, 80, .inl fd)), (qquo, .inl (cI, 80, .inl fq)), (qrem, .inl (cI, 80, .inl fr)), (qother, .inl (cI, 80, .inl fo)), (qunits, .inl (cI, 80, .inl fu)), (qparts, .inl (cI, 320, .inl PF)), (qover, .inl (cI, 8, .inl ov)), (qgiven, .inl (cZ, 8, .inl gv))] 0 0 15 [(0, .ref h), (1, .int (iI a)), (2, .int (iI t)), (3, .int (iI n))] [.int (iI (bz (tout t 8)))]
    refine go_if_ne O dX4_allocate_15 43 (by decide) 18 rfl (bz_r _) (fun h15 => ?_) (fun h15 => ?_)
    · refine go_bipush O dX4_allocate_43 (by decide) 45 rfl ?_
      have he := spAll_b0 (reg := reg) (ra := ra) hbad
      exact hret _ _ _ (fc, fw, fn, K, fnum, fd, fq, fr, fo, fu, PF, ov, gv) dX4_allocate_45 rfl ⟨by rw [he], by rw [he]; exact hMR⟩
    · refine go_iload_n O dX4_allocate_18 rfl 3 rfl 19 rfl ?_
      refine go_iconst O dX4_allocate_19 20 rfl ?_
      refine go_icmp_lt O dX4_allocate_20 43 (by decide) 23 rfl (by omega) (by omega) (fun h20 => ?_) (fun h20 => ?_)
      · refine go_bipush O dX4_allocate_43 (by decide) 45 rfl ?_
        have he := spAll_b0 (reg := reg) (ra := ra) hbad
        exact hret _ _ _ (fc, fw, fn, K, fnum, fd, fq, fr, fo, fu, PF, ov, gv) dX4_allocate_45 rfl ⟨by rw [he], by rw [he]; exact hMR⟩
      · refine go_iload_n O dX4_allocate_23 rfl 3 rfl 24 rfl ?_
        refine go_bipush O dX4_allocate_24 (by decide) 26 rfl ?_
        refine go_iload_n O dX4_allocate_26 rfl 2 rfl 27 rfl ?_
        refine go_isub O dX4_allocate_27 (8 - t) rfl 28 rfl ?_
        refine go_icmp_gt O dX4_allocate_28 43 (by decide) 31 rfl (by omega) (by omega) (fun h28 => ?_) (fun h28 => ?_)
        · refine go_bipush O dX4_allocate_43 (by decide) 45 rfl ?_
          have he := spAll_b0 (reg := reg) (ra := ra) hbad
          exact hret _ _ _ (fc, fw, fn, K, fnum, fd, fq, fr, fo, fu, PF, ov, gv) dX4_allocate_45 rfl ⟨by rw [he], by rw [he]; exact hMR⟩
        · refine go_iload_n O dX4_allocate_31 rfl 1 rfl 32 rfl ?_
          refine go_iload_n O dX4_allocate_32 rfl 2 rfl 33 rfl ?_
          refine go_icmp_lt O dX4_allocate_33 46 (by decide) 36 rfl (by omega) (by omega) (fun h33 => ?_) (fun h33 => ?_)
          · exfalso
            omega
          · refine go_iload_n O dX4_allocate_36 rfl 1 rfl 37 rfl ?_
            refine go_iload_n O dX4_allocate_37 rfl 2 rfl 38 rfl ?_
            refine go_iload_n O dX4_allocate_38 rfl 3 rfl 39 rfl ?_
            refine go_iadd O dX4_allocate_39 (t + n) rfl 40 rfl ?_
            refine go_icmp_ge O dX4_allocate_40 46 (by decide) 43 rfl (by omega) (by omega) (fun h40 => ?_) (fun h40 => ?_)
            · exfalso
              omega
            · refine go_bipush O dX4_allocate_43 (by decide) 45 rfl ?_
              have he := spAll_b0 (reg := reg) (ra := ra) hbad
              exact hret _ _ _ (fc, fw, fn, K, fnum, fd, fq, fr, fo, fu, PF, ov, gv) dX4_allocate_45 rfl ⟨by rw [he], by rw [he]; exact hMR⟩
set_option maxHeartbeats 4000000 in
set_option maxRecDepth 100000 in
/-- allocate, ratios of sum 0 -/
theorem c_X4_allocate_z (E : TEn) (hE : EnvOk E) (h : Nat) (fs : List Value) {qcurrency qisWide qnegative qkept qratios qnum qden qquo qrem qother qunits qparts qover qgiven : Nat} (f_currency : fs[3]? = some (.ref qcurrency)) (f_isWide : fs[4]? = some (.ref qisWide)) (f_negative : fs[5]? = some (.ref qnegative)) (f_kept : fs[6]? = some (.ref qkept)) (f_ratios : fs[7]? = some (.ref qratios)) (f_num : fs[10]? = some (.ref qnum)) (f_den : fs[12]? = some (.ref qden)) (f_quo : fs[13]? = some (.ref qquo)) (f_rem : fs[14]? = some (.ref qrem)) (f_other : fs[15]? = some (.ref qother)) (f_units : fs[16]? = some (.ref qunits)) (f_parts : fs[17]? = some (.ref qparts)) (f_over : fs[18]? = some (.ref qover)) (f_given : fs[19]? = some (.ref qgiven)) (cI cZ : ClassId) (fc fw fn K fnum fd fq fr fo fu PF ov gv : Nat → Int32) (ra : Nat → Int) (hRa : RaOk ra) (reg : Rg) (hMR : MR fc fw fn K reg) (α τ ν : Nat) (hb5 : α < 8 ∧ τ < 8 ∧ 1 ≤ ν ∧ ν + τ ≤ 8 ∧ ¬ (τ ≤ α ∧ α < τ + ν)) (hz : tsm (wra ra) ν = 0) : Cti vwCl E yX4_allocate wsX4_allocate (rmn 3 73) [.ref h, .int (iI ((α : Nat) : Int)), .int (iI ((τ : Nat) : Int)), .int (iI ((ν : Nat) : Int))] [(h, .inr (4, fs)), (qcurrency, .inl (cI, 8, .inl fc)), (qisWide, .inl (cZ, 8, .inl fw)), (qnegative, .inl (cZ, 8, .inl fn)), (qkept, .inl (cI, 320, .inl K)), (qratios, .inl (cI, 8, .inl (fun j => iI (ra j)))), (qnum, .inl (cI, 80, .inl fnum)), (qden, .inl (cI, 80, .inl fd)), (qquo, .inl (cI, 80, .inl fq)), (qrem, .inl (cI, 80, .inl fr)), (qother, .inl (cI, 80, .inl fo)), (qunits, .inl (cI, 80, .inl fu)), (qparts, .inl (cI, 320, .inl PF)), (qover, .inl (cI, 8, .inl ov)), (qgiven, .inl (cZ, 8, .inl gv))] [(cI, .int), (cZ, .boolean)] (fun (z : Int) (u : (Nat → Int32) × (Nat → Int32) × (Nat → Int32) × (Nat → Int32) × (Nat → Int32) × (Nat → Int32) × (Nat → Int32) × (Nat → Int32) × (Nat → Int32) × (Nat → Int32) × (Nat → Int32) × (Nat → Int32) × (Nat → Int32)) => z = (spAll reg ra (α : Int) (τ : Int) (ν : Int)).1 ∧ MR u.1 u.2.1 u.2.2.1 u.2.2.2.1 (spAll reg ra (α : Int) (τ : Int) (ν : Int)).2) (fun u => [(h, .inr (4, fs)), (qcurrency, .inl (cI, 8, .inl u.1)), (qisWide, .inl (cZ, 8, .inl u.2.1)), (qnegative, .inl (cZ, 8, .inl u.2.2.1)), (qkept, .inl (cI, 320, .inl u.2.2.2.1)), (qratios, .inl (cI, 8, .inl (fun j => iI (ra j)))), (qnum, .inl (cI, 80, .inl u.2.2.2.2.1)), (qden, .inl (cI, 80, .inl u.2.2.2.2.2.1)), (qquo, .inl (cI, 80, .inl u.2.2.2.2.2.2.1)), (qrem, .inl (cI, 80, .inl u.2.2.2.2.2.2.2.1)), (qother, .inl (cI, 80, .inl u.2.2.2.2.2.2.2.2.1)), (qunits, .inl (cI, 80, .inl u.2.2.2.2.2.2.2.2.2.1)), (qparts, .inl (cI, 320, .inl u.2.2.2.2.2.2.2.2.2.2.1)), (qover, .inl (cI, 8, .inl u.2.2.2.2.2.2.2.2.2.2.2.1)), (qgiven, .inl (cZ, 8, .inl u.2.2.2.2.2.2.2.2.2.2.2.2))]) := by
  refine enteri (by decide) (Nat.le_of_ble_eq_true rfl) ?_
  intro X O hK hin2 hret
  show TGo X [(h, .inr (4, fs)), (qcurrency, .inl (cI, 8, .inl fc)), (qisWide, .inl (cZ, 8, .inl fw)), (qnegative, .inl (cZ, 8, .inl fn)), (qkept, .inl (cI, 320, .inl K)), (qratios, .inl (cI, 8, .inl (fun j => iI (ra j)))), (qnum, .inl (cI, 80, .inl fnum)), (qden, .inl (cI, 80, .inl fd)), (qquo, .inl (cI, 80, .inl fq)), (qrem, .inl (cI, 80, .inl fr)), (qother, .inl (cI, 80, .inl fo)), (qunits, .inl (cI, 80, .inl fu)), (qparts, .inl (cI, 320, .inl PF)), (qover, .inl (cI, 8, .inl ov)), (qgiven, .inl (cZ, 8, .inl gv))] 0 0 0 [(0, .ref h), (1, .int (iI ((α : Nat) : Int))), (2, .int (iI ((τ : Nat) : Int))), (3, .int (iI ((ν : Nat) : Int)))] []
  have o1 := tout_i (x := ((α : Nat) : Int)) (e := 8)
  have o2 := tout_i (x := ((τ : Nat) : Int)) (e := 8)
  have hb := tsw_le (n := ν) hRa
  have lp1 : ∀ (c : Nat) (i : Nat) (x : Int) (v : Nat), c + i = ν + 1 → i ≤ ν → x = (i : Int) → v = tsm (wra ra) i → TGo X [(h, .inr (4, fs)), (qcurrency, .inl (cI, 8, .inl fc)), (qisWide, .inl (cZ, 8, .inl fw)), (qnegative, .inl (cZ, 8, .inl fn)), (qkept, .inl (cI, 320, .inl K)), (qratios, .inl (cI, 8, .inl (fun j => iI (ra j)))), (qnum, .inl (cI, 80, .inl fnum)), (qden, .inl (cI, 80, .inl fd)), (qquo, .inl (cI, 80, .inl fq)), (qrem, .inl (cI, 80, .inl fr)), (qother, .inl (cI, 80, .inl fo)), (qunits, .inl (cI, 80, .inl fu)), (qparts, .inl (cI, 320, .inl PF)), (qover, .inl (cI, 8, .inl ov)), (qgiven, .inl (cZ, 8, .inl gv))] 0 0 52 [(4, .int (iI ((v : Nat) : Int))), (5, .int (iI x)), (0, .ref h), (1, .int (iI ((α : Nat) : Int))), (2, .int (iI ((τ : Nat) : Int))), (3, .int (iI ((ν : Nat) : Int)))] [] := by
    intro c
    induction c with
    | zero => intro i x v h1 h2 hx hv; omega
    | succ c ih =>
      intro i x v h1 h2 hx hv
      refine go_iload O dX4_allocate_52 1 rfl 54 rfl ?_
      refine go_iload_n O dX4_allocate_54 rfl 5 rfl 55 rfl ?_
      refine go_icmp_ge O dX4_allocate_55 76 (by decide) 58 rfl (by omega) (by omega) (fun h55 => ?_) (fun h55 => ?_)
      · have ei : i = ν := by omega
        have hvn : v = tsm (wra ra) ν := by rw [hv, ei]
        refine go_iload O dX4_allocate_76 0 rfl 78 rfl ?_
        refine go_if_ne O dX4_allocate_78 84 (by decide) 81 rfl (by omega) (fun h78 => by omega) (fun h78 => ?_)
        refine go_bipush O dX4_allocate_81 (by decide) 83 rfl ?_
        have he := spAll_z (reg := reg) (a := (α : Int)) (t := (τ : Int)) hz
        exact hret _ _ _ (fc, fw, fn, K, fnum, fd, fq, fr, fo, fu, PF, ov, gv) dX4_allocate_83 rfl ⟨by rw [he], by rw [he]; exact hMR⟩
      · refine go_iload O dX4_allocate_58 0 rfl 60 rfl ?_
        refine go_aload_n O dX4_allocate_60 rfl 2 rfl 61 rfl ?_
        refine go_get O hK dX4_allocate_61 hinX4 0 rfl rfl 7 (by decide) flX4_23 f_ratios 64 rfl ?_
        refine go_iload O dX4_allocate_64 1 rfl 66 rfl ?_
        refine go_iald O hK dX4_allocate_66 5 0 rfl rfl i hx (by omega) (by omega) (ra i) rfl 67 rfl ?_
        refine go_iadd O dX4_allocate_67 ((v + (ra i).natAbs : Nat) : Int) (by have := hRa i; omega) 68 rfl ?_
        refine go_istore O dX4_allocate_68 (by decide) [(4, .int (iI ((v + (ra i).natAbs : Nat) : Int))), (5, .int (iI x)), (0, .ref h), (1, .int (iI ((α : Nat) : Int))), (2, .int (iI ((τ : Nat) : Int))), (3, .int (iI ((ν : Nat) : Int)))] rfl 70 rfl ?_
        refine go_iinc O dX4_allocate_70 1 rfl ((i + 1 : Nat) : Int) (by omega) (by decide) [(5, .int (iI ((i + 1 : Nat) : Int))), (4, .int (iI ((v + (ra i).natAbs : Nat) : Int))), (0, .ref h), (1, .int (iI ((α : Nat) : Int))), (2, .int (iI ((τ : Nat) : Int))), (3, .int (iI ((ν : Nat) : Int)))] rfl 73 rfl ?_
        refine go_goto O dX4_allocate_73 52 (by decide) ?_
        refine TGo.lsub (lv' := [(4, .int (iI ((v + (ra i).natAbs : Nat) : Int))), (5, .int (iI ((i + 1 : Nat) : Int))), (0, .ref h), (1, .int (iI ((α : Nat) : Int))), (2, .int (iI ((τ : Nat) : Int))), (3, .int (iI ((ν : Nat) : Int)))]) [1, 0, 2, 3, 4, 5] rfl ?_
        exact ih (i + 1) _ _ (by omega) (by omega) (by omega) (by rw [hv]; rfl)
  refine go_iload_n O dX4_allocate_0 rfl 1 rfl 1 rfl ?_
  refine go_bipush O dX4_allocate_1 (by decide) 3 rfl ?_
  refine go_calliS (rest := []) (wr := [(h, .inr (4, fs)), (qcurrency, .inl (cI, 8, .inl fc)), (qisWide, .inl (cZ, 8, .inl fw)), (qnegative, .inl (cZ, 8, .inl fn)), (qkept, .inl (cI, 320, .inl K)), (qratios, .inl (cI, 8, .inl (fun j => iI (ra j)))), (qnum, .inl (cI, 80, .inl fnum)), (qden, .inl (cI, 80, .inl fd)), (qquo, .inl (cI, 80, .inl fq)), (qrem, .inl (cI, 80, .inl fr)), (qother, .inl (cI, 80, .inl fo)), (qunits, .inl (cI, 80, .inl fu)), (qparts, .inl (cI, 320, .inl PF)), (qover, .inl (cI, 8, .inl ov)), (qgiven, .inl (cZ, 8, .inl gv))]) O hK hE (c_X4_outside E hE ((α : Nat) : Int) 8 (by omega) (by omega)) mlX4_123 smX4_outside inX4 cdX4_outside 2 (by decide +kernel) ⟨Nat.le_of_ble_eq_true rfl, Nat.le_of_ble_eq_true rfl⟩ [] rfl [] rfl (by decide) [0, 1, 2, 3, 4, 5, 6, 7, 8, 9, 10, 11, 12, 13, 14] rfl (by decide) (by decide) rfl rfl (Nat.le_of_ble_eq_true rfl) ⟨Nat.zero_le _, Nat.zero_le _⟩ dX4_allocate_3 6 rfl (fun z u hu => ?_)
  subst hu
  show TGo X [(h, .inr (4, fs)), (qcurrency, .inl (cI, 8, .inl fc)), (qisWide, .inl (cZ, 8, .inl fw)), (qnegative, .inl (cZ, 8, .inl fn)), (qkept, .inl (cI, 320, .inl K)), (qratios, .inl (cI, 8, .inl (fun j => iI (ra j)))), (qnum, .inl (cI, 80, .inl fnum)), (qden, .inl (cI, 80, .inl fd)), (qquo, .inl (cI, 80, .inl fq)), (qrem, .inl (cI, 80, .inl fr)), (qother, .inl (cI, 80, .inl fo)), (qunits, .inl (cI, 80, .inl fu)), (qparts, .inl (cI, 320, .inl PF)), (qover, .inl (cI, 8, .inl ov)), (qgiven, .inl (cZ, 8, .inl gv))] 0 0 6 [(0, .ref h), (1, .int (iI ((α : Nat) : Int))), (2, .int (iI ((τ : Nat) : Int))), (3, .int (iI ((ν : Nat) : Int)))] [.int (iI (bz (tout ((α : Nat) : Int) 8)))]
  refine go_if_ne O dX4_allocate_6 43 (by decide) 9 rfl (bz_r _) (fun h6 => by omega) (fun h6 => ?_)
  refine go_iload_n O dX4_allocate_9 rfl 2 rfl 10 rfl ?_
  refine go_bipush O dX4_allocate_10 (by decide) 12 rfl ?_
  refine go_calliS (rest := []) (wr := [(h, .inr (4, fs)), (qcurrency, .inl (cI, 8, .inl fc)), (qisWide, .inl (cZ, 8, .inl fw)), (qnegative, .inl (cZ, 8, .inl fn)), (qkept, .inl (cI, 320, .inl K)), (qratios, .inl (cI, 8, .inl (fun j => iI (ra j)))), (qnum, .inl (cI, 80, .inl fnum)), (qden, .inl (cI, 80, .inl fd)), (qquo, .inl (cI, 80, .inl fq)), (qrem, .inl (cI, 80, .inl fr)), (qother, .inl (cI, 80, .inl fo)), (qunits, .inl (cI, 80, .inl fu)), (qparts, .inl (cI, 320, .inl PF)), (qover, .inl (cI, 8, .inl ov)), (qgiven, .inl (cZ, 8, .inl gv))]) O hK hE (c_X4_outside E hE ((τ : Nat) : Int) 8 (by omega) (by omega)) mlX4_123 smX4_outside inX4 cdX4_outside 2 (by decide +kernel) ⟨Nat.le_of_ble_eq_true rfl, Nat.le_of_ble_eq_true rfl⟩ [] rfl [] rfl (by decide) [0, 1, 2, 3, 4, 5, 6, 7, 8, 9, 10, 11, 12, 13, 14] rfl (by decide) (by decide) rfl rfl (Nat.le_of_ble_eq_true rfl) ⟨Nat.zero_le _, Nat.zero_le _⟩ dX4_allocate_12 15 rfl (fun z u hu => ?_)
  subst hu
  show TGo X [(h, .inr (4, fs)), (qcurrency, .inl (cI, 8, .inl fc)), (qisWide, .inl (cZ, 8, .inl fw)), (qnegative, .inl (cZ, 8, .inl fn)), (qkept, .inl (cI, 320, .inl K)), (qratios, .inl (cI, 8, .inl (fun j => iI (ra j)))), (qnum, .inl (cI, 80, .inl fnum)), (qden, .inl (cI, 80, .inl fd)), (qquo, .inl (cI, 80, .inl fq)), (qrem, .inl (cI, 80, .inl fr)), (qother, .inl (cI, 80, .inl fo)), (qunits, .inl (cI, 80, .inl fu)), (qparts, .inl (cI, 320, .inl PF)), (qover, .inl (cI, 8, .inl ov)), (qgiven, .inl (cZ, 8, .inl gv))] 0 0 15 [(0, .ref h), (1, .int (iI ((α : Nat) : Int))), (2, .int (iI ((τ : Nat) : Int))), (3, .int (iI ((ν : Nat) : Int)))] [.int (iI (bz (tout ((τ : Nat) : Int) 8)))]
  refine go_if_ne O dX4_allocate_15 43 (by decide) 18 rfl (bz_r _) (fun h15 => by omega) (fun h15 => ?_)
  refine go_iload_n O dX4_allocate_18 rfl 3 rfl 19 rfl ?_
  refine go_iconst O dX4_allocate_19 20 rfl ?_
  refine go_icmp_lt O dX4_allocate_20 43 (by decide) 23 rfl (by omega) (by omega) (fun h20 => by omega) (fun h20 => ?_)
  refine go_iload_n O dX4_allocate_23 rfl 3 rfl 24 rfl ?_
  refine go_bipush O dX4_allocate_24 (by decide) 26 rfl ?_
  refine go_iload_n O dX4_allocate_26 rfl 2 rfl 27 rfl ?_
  refine go_isub O dX4_allocate_27 (8 - ((τ : Nat) : Int)) rfl 28 rfl ?_
  refine go_icmp_gt O dX4_allocate_28 43 (by decide) 31 rfl (by omega) (by omega) (fun h28 => by omega) (fun h28 => ?_)
  refine go_iload_n O dX4_allocate_31 rfl 1 rfl 32 rfl ?_
  refine go_iload_n O dX4_allocate_32 rfl 2 rfl 33 rfl ?_
  refine go_icmp_lt O dX4_allocate_33 46 (by decide) 36 rfl (by omega) (by omega) (fun h33 => ?_) (fun h33 => ?_)
  · refine go_iconst O dX4_allocate_46 47 rfl ?_
    refine go_istore O dX4_allocate_47 (by decide) [(4, .int (iI 0)), (0, .ref h), (1, .int (iI ((α : Nat) : Int))), (2, .int (iI ((τ : Nat) : Int))), (3, .int (iI ((ν : Nat) : Int)))] rfl 49 rfl ?_
    refine go_iconst O dX4_allocate_49 50 rfl ?_
    refine go_istore O dX4_allocate_50 (by decide) [(5, .int (iI 0)), (4, .int (iI 0)), (0, .ref h), (1, .int (iI ((α : Nat) : Int))), (2, .int (iI ((τ : Nat) : Int))), (3, .int (iI ((ν : Nat) : Int)))] rfl 52 rfl ?_
    refine TGo.lsub (lv' := [(4, .int (iI 0)), (5, .int (iI 0)), (0, .ref h), (1, .int (iI ((α : Nat) : Int))), (2, .int (iI ((τ : Nat) : Int))), (3, .int (iI ((ν : Nat) : Int)))]) [1, 0, 2, 3, 4, 5] rfl ?_
    exact lp1 (ν + 1) 0 _ 0 (by omega) (by omega) rfl rfl
  · refine go_iload_n O dX4_allocate_36 rfl 1 rfl 37 rfl ?_
    refine go_iload_n O dX4_allocate_37 rfl 2 rfl 38 rfl ?_
    refine go_iload_n O dX4_allocate_38 rfl 3 rfl 39 rfl ?_
    refine go_iadd O dX4_allocate_39 ((τ + ν : Nat) : Int) (Int.natCast_add _ _).symm 40 rfl ?_
    refine go_icmp_ge O dX4_allocate_40 46 (by decide) 43 rfl (by omega) (by omega) (fun h40 => ?_) (fun h40 => by omega)
    refine go_iconst O dX4_allocate_46 47 rfl ?_
    refine go_istore O dX4_allocate_47 (by decide) [(4, .int (iI 0)), (0, .ref h), (1, .int (iI ((α : Nat) : Int))), (2, .int (iI ((τ : Nat) : Int))), (3, .int (iI ((ν : Nat) : Int)))] rfl 49 rfl ?_
    refine go_iconst O dX4_allocate_49 50 rfl ?_
    refine go_istore O dX4_allocate_50 (by decide) [(5, .int (iI 0)), (4, .int (iI 0)), (0, .ref h), (1, .int (iI ((α : Nat) : Int))), (2, .int (iI ((τ : Nat) : Int))), (3, .int (iI ((ν : Nat) : Int)))] rfl 52 rfl ?_
    refine TGo.lsub (lv' := [(4, .int (iI 0)), (5, .int (iI 0)), (0, .ref h), (1, .int (iI ((α : Nat) : Int))), (2, .int (iI ((τ : Nat) : Int))), (3, .int (iI ((ν : Nat) : Int)))]) [1, 0, 2, 3, 4, 5] rfl ?_
    exact lp1 (ν + 1) 0 _ 0 (by omega) (by omega) rfl rfl
set_option maxHeartbeats 4000000 in
set_option maxRecDepth 100000 in
/-- allocate, no amount -/
theorem c_X4_allocate_n (E : TEn) (hE : EnvOk E) (h : Nat) (fs : List Value) {qcurrency qisWide qnegative qkept qratios qnum qden qquo qrem qother qunits qparts qover qgiven : Nat} (f_currency : fs[3]? = some (.ref qcurrency)) (f_isWide : fs[4]? = some (.ref qisWide)) (f_negative : fs[5]? = some (.ref qnegative)) (f_kept : fs[6]? = some (.ref qkept)) (f_ratios : fs[7]? = some (.ref qratios)) (f_num : fs[10]? = some (.ref qnum)) (f_den : fs[12]? = some (.ref qden)) (f_quo : fs[13]? = some (.ref qquo)) (f_rem : fs[14]? = some (.ref qrem)) (f_other : fs[15]? = some (.ref qother)) (f_units : fs[16]? = some (.ref qunits)) (f_parts : fs[17]? = some (.ref qparts)) (f_over : fs[18]? = some (.ref qover)) (f_given : fs[19]? = some (.ref qgiven)) (cI cZ : ClassId) (fc fw fn K fnum fd fq fr fo fu PF ov gv : Nat → Int32) (ra : Nat → Int) (hRa : RaOk ra) (reg : Rg) (hMR : MR fc fw fn K reg) (α τ ν : Nat) (hb5 : α < 8 ∧ τ < 8 ∧ 1 ≤ ν ∧ ν + τ ≤ 8 ∧ ¬ (τ ≤ α ∧ α < τ + ν)) (hz : tsm (wra ra) ν ≠ 0) (hq : reg α = none) : Cti vwCl E yX4_allocate wsX4_allocate (rmn 3 73) [.ref h, .int (iI ((α : Nat) : Int)), .int (iI ((τ : Nat) : Int)), .int (iI ((ν : Nat) : Int))] [(h, .inr (4, fs)), (qcurrency, .inl (cI, 8, .inl fc)), (qisWide, .inl (cZ, 8, .inl fw)), (qnegative, .inl (cZ, 8, .inl fn)), (qkept, .inl (cI, 320, .inl K)), (qratios, .inl (cI, 8, .inl (fun j => iI (ra j)))), (qnum, .inl (cI, 80, .inl fnum)), (qden, .inl (cI, 80, .inl fd)), (qquo, .inl (cI, 80, .inl fq)), (qrem, .inl (cI, 80, .inl fr)), (qother, .inl (cI, 80, .inl fo)), (qunits, .inl (cI, 80, .inl fu)), (qparts, .inl (cI, 320, .inl PF)), (qover, .inl (cI, 8, .inl ov)), (qgiven, .inl (cZ, 8, .inl gv))] [(cI, .int), (cZ, .boolean)] (fun (z : Int) (u : (Nat → Int32) × (Nat → Int32) × (Nat → Int32) × (Nat → Int32) × (Nat → Int32) × (Nat → Int32) × (Nat → Int32) × (Nat → Int32) × (Nat → Int32) × (Nat → Int32) × (Nat → Int32) × (Nat → Int32) × (Nat → Int32)) => z = (spAll reg ra (α : Int) (τ : Int) (ν : Int)).1 ∧ MR u.1 u.2.1 u.2.2.1 u.2.2.2.1 (spAll reg ra (α : Int) (τ : Int) (ν : Int)).2) (fun u => [(h, .inr (4, fs)), (qcurrency, .inl (cI, 8, .inl u.1)), (qisWide, .inl (cZ, 8, .inl u.2.1)), (qnegative, .inl (cZ, 8, .inl u.2.2.1)), (qkept, .inl (cI, 320, .inl u.2.2.2.1)), (qratios, .inl (cI, 8, .inl (fun j => iI (ra j)))), (qnum, .inl (cI, 80, .inl u.2.2.2.2.1)), (qden, .inl (cI, 80, .inl u.2.2.2.2.2.1)), (qquo, .inl (cI, 80, .inl u.2.2.2.2.2.2.1)), (qrem, .inl (cI, 80, .inl u.2.2.2.2.2.2.2.1)), (qother, .inl (cI, 80, .inl u.2.2.2.2.2.2.2.2.1)), (qunits, .inl (cI, 80, .inl u.2.2.2.2.2.2.2.2.2.1)), (qparts, .inl (cI, 320, .inl u.2.2.2.2.2.2.2.2.2.2.1)), (qover, .inl (cI, 8, .inl u.2.2.2.2.2.2.2.2.2.2.2.1)), (qgiven, .inl (cZ, 8, .inl u.2.2.2.2.2.2.2.2.2.2.2.2))]) := by
  refine enteri (by decide) (Nat.le_of_ble_eq_true rfl) ?_
  intro X O hK hin2 hret
  show TGo X [(h, .inr (4, fs)), (qcurrency, .inl (cI, 8, .inl fc)), (qisWide, .inl (cZ, 8, .inl fw)), (qnegative, .inl (cZ, 8, .inl fn)), (qkept, .inl (cI, 320, .inl K)), (qratios, .inl (cI, 8, .inl (fun j => iI (ra j)))), (qnum, .inl (cI, 80, .inl fnum)), (qden, .inl (cI, 80, .inl fd)), (qquo, .inl (cI, 80, .inl fq)), (qrem, .inl (cI, 80, .inl fr)), (qother, .inl (cI, 80, .inl fo)), (qunits, .inl (cI, 80, .inl fu)), (qparts, .inl (cI, 320, .inl PF)), (qover, .inl (cI, 8, .inl ov)), (qgiven, .inl (cZ, 8, .inl gv))] 0 0 0 [(0, .ref h), (1, .int (iI ((α : Nat) : Int))), (2, .int (iI ((τ : Nat) : Int))), (3, .int (iI ((ν : Nat) : Int)))] []
  have o1 := tout_i (x := ((α : Nat) : Int)) (e := 8)
  have o2 := tout_i (x := ((τ : Nat) : Int)) (e := 8)
  have hb := tsw_le (n := ν) hRa
  have lp1 : ∀ (c : Nat) (i : Nat) (x : Int) (v : Nat), c + i = ν + 1 → i ≤ ν → x = (i : Int) → v = tsm (wra ra) i → TGo X [(h, .inr (4, fs)), (qcurrency, .inl (cI, 8, .inl fc)), (qisWide, .inl (cZ, 8, .inl fw)), (qnegative, .inl (cZ, 8, .inl fn)), (qkept, .inl (cI, 320, .inl K)), (qratios, .inl (cI, 8, .inl (fun j => iI (ra j)))), (qnum, .inl (cI, 80, .inl fnum)), (qden, .inl (cI, 80, .inl fd)), (qquo, .inl (cI, 80, .inl fq)), (qrem, .inl (cI, 80, .inl fr)), (qother, .inl (cI, 80, .inl fo)), (qunits, .inl (cI, 80, .inl fu)), (qparts, .inl (cI, 320, .inl PF)), (qover, .inl (cI, 8, .inl ov)), (qgiven, .inl (cZ, 8, .inl gv))] 0 0 52 [(4, .int (iI ((v : Nat) : Int))), (5, .int (iI x)), (0, .ref h), (1, .int (iI ((α : Nat) : Int))), (2, .int (iI ((τ : Nat) : Int))), (3, .int (iI ((ν : Nat) : Int)))] [] := by
    intro c
    induction c with
    | zero => intro i x v h1 h2 hx hv; omega
    | succ c ih =>
      intro i x v h1 h2 hx hv
      refine go_iload O dX4_allocate_52 1 rfl 54 rfl ?_
      refine go_iload_n O dX4_allocate_54 rfl 5 rfl 55 rfl ?_
      refine go_icmp_ge O dX4_allocate_55 76 (by decide) 58 rfl (by omega) (by omega) (fun h55 => ?_) (fun h55 => ?_)
      · have ei : i = ν := by omega
        have hvn : v = tsm (wra ra) ν := by rw [hv, ei]
        refine go_iload O dX4_allocate_76 0 rfl 78 rfl ?_
        refine go_if_ne O dX4_allocate_78 84 (by decide) 81 rfl (by omega) (fun h78 => ?_) (fun h78 => by omega)
        have hα := hMR α (by omega)
        rw [hq] at hα
        refine go_aload_n O dX4_allocate_84 rfl 2 rfl 85 rfl ?_
        refine go_get O hK dX4_allocate_85 hinX4 0 rfl rfl 3 (by decide) flX4_7 f_currency 88 rfl ?_
        refine go_iload_n O dX4_allocate_88 rfl 3 rfl 89 rfl ?_
        refine go_iald O hK dX4_allocate_89 1 0 rfl rfl α rfl (by omega) (by omega) (-1) hα 90 rfl ?_
        refine go_if_ge O dX4_allocate_90 96 (by decide) 93 rfl (by omega) (fun h90 => by omega) (fun h90 => ?_)
        refine go_bipush O dX4_allocate_93 (by decide) 95 rfl ?_
        have he := spAll_no hb5 hz hq
        exact hret _ _ _ (fc, fw, fn, K, fnum, fd, fq, fr, fo, fu, PF, ov, gv) dX4_allocate_95 rfl ⟨by rw [he], by rw [he]; exact hMR⟩
      · refine go_iload O dX4_allocate_58 0 rfl 60 rfl ?_
        refine go_aload_n O dX4_allocate_60 rfl 2 rfl 61 rfl ?_
        refine go_get O hK dX4_allocate_61 hinX4 0 rfl rfl 7 (by decide) flX4_23 f_ratios 64 rfl ?_
        refine go_iload O dX4_allocate_64 1 rfl 66 rfl ?_
        refine go_iald O hK dX4_allocate_66 5 0 rfl rfl i hx (by omega) (by omega) (ra i) rfl 67 rfl ?_
        refine go_iadd O dX4_allocate_67 ((v + (ra i).natAbs : Nat) : Int) (by have := hRa i; omega) 68 rfl ?_
        refine go_istore O dX4_allocate_68 (by decide) [(4, .int (iI ((v + (ra i).natAbs : Nat) : Int))), (5, .int (iI x)), (0, .ref h), (1, .int (iI ((α : Nat) : Int))), (2, .int (iI ((τ : Nat) : Int))), (3, .int (iI ((ν : Nat) : Int)))] rfl 70 rfl ?_
        refine go_iinc O dX4_allocate_70 1 rfl ((i + 1 : Nat) : Int) (by omega) (by decide) [(5, .int (iI ((i + 1 : Nat) : Int))), (4, .int (iI ((v + (ra i).natAbs : Nat) : Int))), (0, .ref h), (1, .int (iI ((α : Nat) : Int))), (2, .int (iI ((τ : Nat) : Int))), (3, .int (iI ((ν : Nat) : Int)))] rfl 73 rfl ?_
        refine go_goto O dX4_allocate_73 52 (by decide) ?_
        refine TGo.lsub (lv' := [(4, .int (iI ((v + (ra i).natAbs : Nat) : Int))), (5, .int (iI ((i + 1 : Nat) : Int))), (0, .ref h), (1, .int (iI ((α : Nat) : Int))), (2, .int (iI ((τ : Nat) : Int))), (3, .int (iI ((ν : Nat) : Int)))]) [1, 0, 2, 3, 4, 5] rfl ?_
        exact ih (i + 1) _ _ (by omega) (by omega) (by omega) (by rw [hv]; rfl)
  refine go_iload_n O dX4_allocate_0 rfl 1 rfl 1 rfl ?_
  refine go_bipush O dX4_allocate_1 (by decide) 3 rfl ?_
  refine go_calliS (rest := []) (wr := [(h, .inr (4, fs)), (qcurrency, .inl (cI, 8, .inl fc)), (qisWide, .inl (cZ, 8, .inl fw)), (qnegative, .inl (cZ, 8, .inl fn)), (qkept, .inl (cI, 320, .inl K)), (qratios, .inl (cI, 8, .inl (fun j => iI (ra j)))), (qnum, .inl (cI, 80, .inl fnum)), (qden, .inl (cI, 80, .inl fd)), (qquo, .inl (cI, 80, .inl fq)), (qrem, .inl (cI, 80, .inl fr)), (qother, .inl (cI, 80, .inl fo)), (qunits, .inl (cI, 80, .inl fu)), (qparts, .inl (cI, 320, .inl PF)), (qover, .inl (cI, 8, .inl ov)), (qgiven, .inl (cZ, 8, .inl gv))]) O hK hE (c_X4_outside E hE ((α : Nat) : Int) 8 (by omega) (by omega)) mlX4_123 smX4_outside inX4 cdX4_outside 2 (by decide +kernel) ⟨Nat.le_of_ble_eq_true rfl, Nat.le_of_ble_eq_true rfl⟩ [] rfl [] rfl (by decide) [0, 1, 2, 3, 4, 5, 6, 7, 8, 9, 10, 11, 12, 13, 14] rfl (by decide) (by decide) rfl rfl (Nat.le_of_ble_eq_true rfl) ⟨Nat.zero_le _, Nat.zero_le _⟩ dX4_allocate_3 6 rfl (fun z u hu => ?_)
  subst hu
  show TGo X [(h, .inr (4, fs)), (qcurrency, .inl (cI, 8, .inl fc)), (qisWide, .inl (cZ, 8, .inl fw)), (qnegative, .inl (cZ, 8, .inl fn)), (qkept, .inl (cI, 320, .inl K)), (qratios, .inl (cI, 8, .inl (fun j => iI (ra j)))), (qnum, .inl (cI, 80, .inl fnum)), (qden, .inl (cI, 80, .inl fd)), (qquo, .inl (cI, 80, .inl fq)), (qrem, .inl (cI, 80, .inl fr)), (qother, .inl (cI, 80, .inl fo)), (qunits, .inl (cI, 80, .inl fu)), (qparts, .inl (cI, 320, .inl PF)), (qover, .inl (cI, 8, .inl ov)), (qgiven, .inl (cZ, 8, .inl gv))] 0 0 6 [(0, .ref h), (1, .int (iI ((α : Nat) : Int))), (2, .int (iI ((τ : Nat) : Int))), (3, .int (iI ((ν : Nat) : Int)))] [.int (iI (bz (tout ((α : Nat) : Int) 8)))]
  refine go_if_ne O dX4_allocate_6 43 (by decide) 9 rfl (bz_r _) (fun h6 => by omega) (fun h6 => ?_)
  refine go_iload_n O dX4_allocate_9 rfl 2 rfl 10 rfl ?_
  refine go_bipush O dX4_allocate_10 (by decide) 12 rfl ?_
  refine go_calliS (rest := []) (wr := [(h, .inr (4, fs)), (qcurrency, .inl (cI, 8, .inl fc)), (qisWide, .inl (cZ, 8, .inl fw)), (qnegative, .inl (cZ, 8, .inl fn)), (qkept, .inl (cI, 320, .inl K)), (qratios, .inl (cI, 8, .inl (fun j => iI (ra j)))), (qnum, .inl (cI, 80, .inl fnum)), (qden, .inl (cI, 80, .inl fd)), (qquo, .inl (cI, 80, .inl fq)), (qrem, .inl (cI, 80, .inl fr)), (qother, .inl (cI, 80, .inl fo)), (qunits, .inl (cI, 80, .inl fu)), (qparts, .inl (cI, 320, .inl PF)), (qover, .inl (cI, 8, .inl ov)), (qgiven, .inl (cZ, 8, .inl gv))]) O hK hE (c_X4_outside E hE ((τ : Nat) : Int) 8 (by omega) (by omega)) mlX4_123 smX4_outside inX4 cdX4_outside 2 (by decide +kernel) ⟨Nat.le_of_ble_eq_true rfl, Nat.le_of_ble_eq_true rfl⟩ [] rfl [] rfl (by decide) [0, 1, 2, 3, 4, 5, 6, 7, 8, 9, 10, 11, 12, 13, 14] rfl (by decide) (by decide) rfl rfl (Nat.le_of_ble_eq_true rfl) ⟨Nat.zero_le _, Nat.zero_le _⟩ dX4_allocate_12 15 rfl (fun z u hu => ?_)
  subst hu
  show TGo X [(h, .inr (4, fs)), (qcurrency, .inl (cI, 8, .inl fc)), (qisWide, .inl (cZ, 8, .inl fw)), (qnegative, .inl (cZ, 8, .inl fn)), (qkept, .inl (cI, 320, .inl K)), (qratios, .inl (cI, 8, .inl (fun j => iI (ra j)))), (qnum, .inl (cI, 80, .inl fnum)), (qden, .inl (cI, 80, .inl fd)), (qquo, .inl (cI, 80, .inl fq)), (qrem, .inl (cI, 80, .inl fr)), (qother, .inl (cI, 80, .inl fo)), (qunits, .inl (cI, 80, .inl fu)), (qparts, .inl (cI, 320, .inl PF)), (qover, .inl (cI, 8, .inl ov)), (qgiven, .inl (cZ, 8, .inl gv))] 0 0 15 [(0, .ref h), (1, .int (iI ((α : Nat) : Int))), (2, .int (iI ((τ : Nat) : Int))), (3, .int (iI ((ν : Nat) : Int)))] [.int (iI (bz (tout ((τ : Nat) : Int) 8)))]
  refine go_if_ne O dX4_allocate_15 43 (by decide) 18 rfl (bz_r _) (fun h15 => by omega) (fun h15 => ?_)
  refine go_iload_n O dX4_allocate_18 rfl 3 rfl 19 rfl ?_
  refine go_iconst O dX4_allocate_19 20 rfl ?_
  refine go_icmp_lt O dX4_allocate_20 43 (by decide) 23 rfl (by omega) (by omega) (fun h20 => by omega) (fun h20 => ?_)
  refine go_iload_n O dX4_allocate_23 rfl 3 rfl 24 rfl ?_
  refine go_bipush O dX4_allocate_24 (by decide) 26 rfl ?_
  refine go_iload_n O dX4_allocate_26 rfl 2 rfl 27 rfl ?_
  refine go_isub O dX4_allocate_27 (8 - ((τ : Nat) : Int)) rfl 28 rfl ?_
  refine go_icmp_gt O dX4_allocate_28 43 (by decide) 31 rfl (by omega) (by omega) (fun h28 => by omega) (fun h28 => ?_)
  refine go_iload_n O dX4_allocate_31 rfl 1 rfl 32 rfl ?_
  refine go_iload_n O dX4_allocate_32 rfl 2 rfl 33 rfl ?_
  refine go_icmp_lt O dX4_allocate_33 46 (by decide) 36 rfl (by omega) (by omega) (fun h33 => ?_) (fun h33 => ?_)
  · refine go_iconst O dX4_allocate_46 47 rfl ?_
    refine go_istore O dX4_allocate_47 (by decide) [(4, .int (iI 0)), (0, .ref h), (1, .int (iI ((α : Nat) : Int))), (2, .int (iI ((τ : Nat) : Int))), (3, .int (iI ((ν : Nat) : Int)))] rfl 49 rfl ?_
    refine go_iconst O dX4_allocate_49 50 rfl ?_
    refine go_istore O dX4_allocate_50 (by decide) [(5, .int (iI 0)), (4, .int (iI 0)), (0, .ref h), (1, .int (iI ((α : Nat) : Int))), (2, .int (iI ((τ : Nat) : Int))), (3, .int (iI ((ν : Nat) : Int)))] rfl 52 rfl ?_
    refine TGo.lsub (lv' := [(4, .int (iI 0)), (5, .int (iI 0)), (0, .ref h), (1, .int (iI ((α : Nat) : Int))), (2, .int (iI ((τ : Nat) : Int))), (3, .int (iI ((ν : Nat) : Int)))]) [1, 0, 2, 3, 4, 5] rfl ?_
    exact lp1 (ν + 1) 0 _ 0 (by omega) (by omega) rfl rfl
  · refine go_iload_n O dX4_allocate_36 rfl 1 rfl 37 rfl ?_
    refine go_iload_n O dX4_allocate_37 rfl 2 rfl 38 rfl ?_
    refine go_iload_n O dX4_allocate_38 rfl 3 rfl 39 rfl ?_
    refine go_iadd O dX4_allocate_39 ((τ + ν : Nat) : Int) (Int.natCast_add _ _).symm 40 rfl ?_
    refine go_icmp_ge O dX4_allocate_40 46 (by decide) 43 rfl (by omega) (by omega) (fun h40 => ?_) (fun h40 => by omega)
    refine go_iconst O dX4_allocate_46 47 rfl ?_
    refine go_istore O dX4_allocate_47 (by decide) [(4, .int (iI 0)), (0, .ref h), (1, .int (iI ((α : Nat) : Int))), (2, .int (iI ((τ : Nat) : Int))), (3, .int (iI ((ν : Nat) : Int)))] rfl 49 rfl ?_
    refine go_iconst O dX4_allocate_49 50 rfl ?_
    refine go_istore O dX4_allocate_50 (by decide) [(5, .int (iI 0)), (4, .int (iI 0)), (0, .ref h), (1, .int (iI ((α : Nat) : Int))), (2, .int (iI ((τ : Nat) : Int))), (3, .int (iI ((ν : Nat) : Int)))] rfl 52 rfl ?_
    refine TGo.lsub (lv' := [(4, .int (iI 0)), (5, .int (iI 0)), (0, .ref h), (1, .int (iI ((α : Nat) : Int))), (2, .int (iI ((τ : Nat) : Int))), (3, .int (iI ((ν : Nat) : Int)))]) [1, 0, 2, 3, 4, 5] rfl ?_
    exact lp1 (ν + 1) 0 _ 0 (by omega) (by omega) rfl rfl
set_option maxHeartbeats 4000000 in
set_option maxRecDepth 100000 in
/-- allocate, inexact -/
theorem c_X4_allocate_x (E : TEn) (hE : EnvOk E) (h : Nat) (fs : List Value) {qcurrency qisWide qnegative qkept qratios qnum qden qquo qrem qother qunits qparts qover qgiven : Nat} (f_currency : fs[3]? = some (.ref qcurrency)) (f_isWide : fs[4]? = some (.ref qisWide)) (f_negative : fs[5]? = some (.ref qnegative)) (f_kept : fs[6]? = some (.ref qkept)) (f_ratios : fs[7]? = some (.ref qratios)) (f_num : fs[10]? = some (.ref qnum)) (f_den : fs[12]? = some (.ref qden)) (f_quo : fs[13]? = some (.ref qquo)) (f_rem : fs[14]? = some (.ref qrem)) (f_other : fs[15]? = some (.ref qother)) (f_units : fs[16]? = some (.ref qunits)) (f_parts : fs[17]? = some (.ref qparts)) (f_over : fs[18]? = some (.ref qover)) (f_given : fs[19]? = some (.ref qgiven)) (cI cZ : ClassId) (fc fw fn K fnum fd fq fr fo fu PF ov gv : Nat → Int32) (ra : Nat → Int) (hRa : RaOk ra) (reg : Rg) (hMR : MR fc fw fn K reg) (α τ ν : Nat) (hb5 : α < 8 ∧ τ < 8 ∧ 1 ≤ ν ∧ ν + τ ≤ 8 ∧ ¬ (τ ≤ α ∧ α < τ + ν)) (hz : tsm (wra ra) ν ≠ 0) (c0 : Int) (w0 n0 : Bool) (V0 : Nat) (hq : reg α = some (c0, w0, n0, V0)) (hx0 : ¬ V0 % (1 * 10 ^ (10 - tdig c0)) = 0) : Cti vwCl E yX4_allocate wsX4_allocate (rmn 3 73) [.ref h, .int (iI ((α : Nat) : Int)), .int (iI ((τ : Nat) : Int)), .int (iI ((ν : Nat) : Int))] [(h, .inr (4, fs)), (qcurrency, .inl (cI, 8, .inl fc)), (qisWide, .inl (cZ, 8, .inl fw)), (qnegative, .inl (cZ, 8, .inl fn)), (qkept, .inl (cI, 320, .inl K)), (qratios, .inl (cI, 8, .inl (fun j => iI (ra j)))), (qnum, .inl (cI, 80, .inl fnum)), (qden, .inl (cI, 80, .inl fd)), (qquo, .inl (cI, 80, .inl fq)), (qrem, .inl (cI, 80, .inl fr)), (qother, .inl (cI, 80, .inl fo)), (qunits, .inl (cI, 80, .inl fu)), (qparts, .inl (cI, 320, .inl PF)), (qover, .inl (cI, 8, .inl ov)), (qgiven, .inl (cZ, 8, .inl gv))] [(cI, .int), (cZ, .boolean)] (fun (z : Int) (u : (Nat → Int32) × (Nat → Int32) × (Nat → Int32) × (Nat → Int32) × (Nat → Int32) × (Nat → Int32) × (Nat → Int32) × (Nat → Int32) × (Nat → Int32) × (Nat → Int32) × (Nat → Int32) × (Nat → Int32) × (Nat → Int32)) => z = (spAll reg ra (α : Int) (τ : Int) (ν : Int)).1 ∧ MR u.1 u.2.1 u.2.2.1 u.2.2.2.1 (spAll reg ra (α : Int) (τ : Int) (ν : Int)).2) (fun u => [(h, .inr (4, fs)), (qcurrency, .inl (cI, 8, .inl u.1)), (qisWide, .inl (cZ, 8, .inl u.2.1)), (qnegative, .inl (cZ, 8, .inl u.2.2.1)), (qkept, .inl (cI, 320, .inl u.2.2.2.1)), (qratios, .inl (cI, 8, .inl (fun j => iI (ra j)))), (qnum, .inl (cI, 80, .inl u.2.2.2.2.1)), (qden, .inl (cI, 80, .inl u.2.2.2.2.2.1)), (qquo, .inl (cI, 80, .inl u.2.2.2.2.2.2.1)), (qrem, .inl (cI, 80, .inl u.2.2.2.2.2.2.2.1)), (qother, .inl (cI, 80, .inl u.2.2.2.2.2.2.2.2.1)), (qunits, .inl (cI, 80, .inl u.2.2.2.2.2.2.2.2.2.1)), (qparts, .inl (cI, 320, .inl u.2.2.2.2.2.2.2.2.2.2.1)), (qover, .inl (cI, 8, .inl u.2.2.2.2.2.2.2.2.2.2.2.1)), (qgiven, .inl (cZ, 8, .inl u.2.2.2.2.2.2.2.2.2.2.2.2))]) := by
  refine enteri (by decide) (Nat.le_of_ble_eq_true rfl) ?_
  intro X O hK hin2 hret
  show TGo X [(h, .inr (4, fs)), (qcurrency, .inl (cI, 8, .inl fc)), (qisWide, .inl (cZ, 8, .inl fw)), (qnegative, .inl (cZ, 8, .inl fn)), (qkept, .inl (cI, 320, .inl K)), (qratios, .inl (cI, 8, .inl (fun j => iI (ra j)))), (qnum, .inl (cI, 80, .inl fnum)), (qden, .inl (cI, 80, .inl fd)), (qquo, .inl (cI, 80, .inl fq)), (qrem, .inl (cI, 80, .inl fr)), (qother, .inl (cI, 80, .inl fo)), (qunits, .inl (cI, 80, .inl fu)), (qparts, .inl (cI, 320, .inl PF)), (qover, .inl (cI, 8, .inl ov)), (qgiven, .inl (cZ, 8, .inl gv))] 0 0 0 [(0, .ref h), (1, .int (iI ((α : Nat) : Int))), (2, .int (iI ((τ : Nat) : Int))), (3, .int (iI ((ν : Nat) : Int)))] []
  have hα := hMR α (by omega)
  rw [hq] at hα
  obtain ⟨hc0, e1, e2, e3, hV0, hz0, hK0⟩ := hα
  have hD1 := tD1_bd c0
  have hm80 : V0 % (1 * 10 ^ (10 - tdig c0)) < 10 ^ 80 := by have := Nat.mod_lt V0 hD1.1; have := hD1.2; omega
  have o1 := tout_i (x := ((α : Nat) : Int)) (e := 8)
  have o2 := tout_i (x := ((τ : Nat) : Int)) (e := 8)
  have hb := tsw_le (n := ν) hRa
  have lp1 : ∀ (c : Nat) (i : Nat) (x : Int) (v : Nat), c + i = ν + 1 → i ≤ ν → x = (i : Int) → v = tsm (wra ra) i → TGo X [(h, .inr (4, fs)), (qcurrency, .inl (cI, 8, .inl fc)), (qisWide, .inl (cZ, 8, .inl fw)), (qnegative, .inl (cZ, 8, .inl fn)), (qkept, .inl (cI, 320, .inl K)), (qratios, .inl (cI, 8, .inl (fun j => iI (ra j)))), (qnum, .inl (cI, 80, .inl fnum)), (qden, .inl (cI, 80, .inl fd)), (qquo, .inl (cI, 80, .inl fq)), (qrem, .inl (cI, 80, .inl fr)), (qother, .inl (cI, 80, .inl fo)), (qunits, .inl (cI, 80, .inl fu)), (qparts, .inl (cI, 320, .inl PF)), (qover, .inl (cI, 8, .inl ov)), (qgiven, .inl (cZ, 8, .inl gv))] 0 0 52 [(4, .int (iI ((v : Nat) : Int))), (5, .int (iI x)), (0, .ref h), (1, .int (iI ((α : Nat) : Int))), (2, .int (iI ((τ : Nat) : Int))), (3, .int (iI ((ν : Nat) : Int)))] [] := by
    intro c
    induction c with
    | zero => intro i x v h1 h2 hx hv; omega
    | succ c ih =>
      intro i x v h1 h2 hx hv
      refine go_iload O dX4_allocate_52 1 rfl 54 rfl ?_
      refine go_iload_n O dX4_allocate_54 rfl 5 rfl 55 rfl ?_
      refine go_icmp_ge O dX4_allocate_55 76 (by decide) 58 rfl (by omega) (by omega) (fun h55 => ?_) (fun h55 => ?_)
      · have ei : i = ν := by omega
        have hvn : v = tsm (wra ra) ν := by rw [hv, ei]
        refine go_iload O dX4_allocate_76 0 rfl 78 rfl ?_
        refine go_if_ne O dX4_allocate_78 84 (by decide) 81 rfl (by omega) (fun h78 => ?_) (fun h78 => by omega)
        refine go_aload_n O dX4_allocate_84 rfl 2 rfl 85 rfl ?_
        refine go_get O hK dX4_allocate_85 hinX4 0 rfl rfl 3 (by decide) flX4_7 f_currency 88 rfl ?_
        refine go_iload_n O dX4_allocate_88 rfl 3 rfl 89 rfl ?_
        refine go_iald O hK dX4_allocate_89 1 0 rfl rfl α rfl (by omega) (by omega) c0 e1 90 rfl ?_
        refine go_if_ge O dX4_allocate_90 96 (by decide) 93 rfl (by omega) (fun h90 => ?_) (fun h90 => by omega)
        refine go_aload_n O dX4_allocate_96 rfl 2 rfl 97 rfl ?_
        refine go_aload_n O dX4_allocate_97 rfl 2 rfl 98 rfl ?_
        refine go_get O hK dX4_allocate_98 hinX4 0 rfl rfl 3 (by decide) flX4_7 f_currency 101 rfl ?_
        refine go_iload_n O dX4_allocate_101 rfl 3 rfl 102 rfl ?_
        refine go_iald O hK dX4_allocate_102 1 0 rfl rfl α rfl (by omega) (by omega) c0 e1 103 rfl ?_
        refine go_iconst O dX4_allocate_103 104 rfl ?_
        refine TGo.topi (y := ((1 : Nat) : Int)) rfl ?_
        refine go_callvV (As := [.int (iI c0), .int (iI ((1 : Nat) : Int))]) (rest := []) (wr := [(qcurrency, .inl (cI, 8, .inl fc)), (qisWide, .inl (cZ, 8, .inl fw)), (qnegative, .inl (cZ, 8, .inl fn)), (qkept, .inl (cI, 320, .inl K)), (qratios, .inl (cI, 8, .inl (fun j => iI (ra j)))), (qnum, .inl (cI, 80, .inl fnum)), (qquo, .inl (cI, 80, .inl fq)), (qrem, .inl (cI, 80, .inl fr)), (qother, .inl (cI, 80, .inl fo)), (qunits, .inl (cI, 80, .inl fu)), (qparts, .inl (cI, 320, .inl PF)), (qover, .inl (cI, 8, .inl ov)), (qgiven, .inl (cZ, 8, .inl gv))]) O hK hE (c_X4_step E hE h fs f_den cI fd c0 (by omega) 1 (by omega)) mlX4_145 imX4_step seX4_step inX4 cdX4_step 2 (by decide +kernel) ⟨Nat.le_of_ble_eq_true rfl, Nat.le_of_ble_eq_true rfl⟩ 0 rfl rfl [0] rfl [0, 7] rfl (by decide) [1, 2, 3, 4, 5, 6, 8, 9, 10, 11, 12, 13, 14] rfl (by decide) (by decide) rfl rfl (Nat.le_of_ble_eq_true rfl) ⟨Nat.zero_le _, Nat.zero_le _⟩ dX4_allocate_104 107 rfl (fun u hu => ?_)
        show TGo X [(qcurrency, .inl (cI, 8, .inl fc)), (qisWide, .inl (cZ, 8, .inl fw)), (qnegative, .inl (cZ, 8, .inl fn)), (qkept, .inl (cI, 320, .inl K)), (qratios, .inl (cI, 8, .inl (fun j => iI (ra j)))), (qnum, .inl (cI, 80, .inl fnum)), (qquo, .inl (cI, 80, .inl fq)), (qrem, .inl (cI, 80, .inl fr)), (qother, .inl (cI, 80, .inl fo)), (qunits, .inl (cI, 80, .inl fu)), (qparts, .inl (cI, 320, .inl PF)), (qover, .inl (cI, 8, .inl ov)), (qgiven, .inl (cZ, 8, .inl gv)), (h, .inr (4, fs)), (qden, .inl (cI, 80, .inl (dg (1 * 10 ^ (10 - tdig c0)))))] 0 0 107 [(4, .int (iI ((v : Nat) : Int))), (5, .int (iI x)), (0, .ref h), (1, .int (iI ((α : Nat) : Int))), (2, .int (iI ((τ : Nat) : Int))), (3, .int (iI ((ν : Nat) : Int)))] []
        refine TGo.sub (ws' := [(h, .inr (4, fs)), (qcurrency, .inl (cI, 8, .inl fc)), (qisWide, .inl (cZ, 8, .inl fw)), (qnegative, .inl (cZ, 8, .inl fn)), (qkept, .inl (cI, 320, .inl K)), (qratios, .inl (cI, 8, .inl (fun j => iI (ra j)))), (qnum, .inl (cI, 80, .inl fnum)), (qden, .inl (cI, 80, .inl (dg (1 * 10 ^ (10 - tdig c0))))), (qquo, .inl (cI, 80, .inl fq)), (qrem, .inl (cI, 80, .inl fr)), (qother, .inl (cI, 80, .inl fo)), (qunits, .inl (cI, 80, .inl fu)), (qparts, .inl (cI, 320, .inl PF)), (qover, .inl (cI, 8, .inl ov)), (qgiven, .inl (cZ, 8, .inl gv))]) [13, 0, 1, 2, 3, 4, 5, 14, 6, 7, 8, 9, 10, 11, 12] (by decide) rfl ?_
        refine go_aload_n O dX4_allocate_107 rfl 2 rfl 108 rfl ?_
        refine go_aload_n O dX4_allocate_108 rfl 2 rfl 109 rfl ?_
        refine go_get O hK dX4_allocate_109 hinX4 0 rfl rfl 10 (by decide) flX4_29 f_num 112 rfl ?_
        refine go_iload_n O dX4_allocate_112 rfl 3 rfl 113 rfl ?_
        refine go_callvV (As := [.ref qnum, .int (iI ((α : Nat) : Int))]) (rest := []) (wr := [(qcurrency, .inl (cI, 8, .inl fc)), (qisWide, .inl (cZ, 8, .inl fw)), (qnegative, .inl (cZ, 8, .inl fn)), (qratios, .inl (cI, 8, .inl (fun j => iI (ra j)))), (qden, .inl (cI, 80, .inl (dg (1 * 10 ^ (10 - tdig c0))))), (qquo, .inl (cI, 80, .inl fq)), (qrem, .inl (cI, 80, .inl fr)), (qother, .inl (cI, 80, .inl fo)), (qunits, .inl (cI, 80, .inl fu)), (qparts, .inl (cI, 320, .inl PF)), (qover, .inl (cI, 8, .inl ov)), (qgiven, .inl (cZ, 8, .inl gv))]) O hK hE (c_X4_take E hE h fs f_kept qnum cI K fnum α V0 (by omega) (by omega) hK0) mlX4_131 imX4_take seX4_take inX4 cdX4_take 2 (by decide +kernel) ⟨Nat.le_of_ble_eq_true rfl, Nat.le_of_ble_eq_true rfl⟩ 0 rfl rfl [0] rfl [0, 4, 6] rfl (by decide) [1, 2, 3, 5, 7, 8, 9, 10, 11, 12, 13, 14] rfl (by decide) (by decide) rfl rfl (Nat.le_of_ble_eq_true rfl) ⟨Nat.zero_le _, Nat.zero_le _⟩ dX4_allocate_113 116 rfl (fun u hu => ?_)
        show TGo X [(qcurrency, .inl (cI, 8, .inl fc)), (qisWide, .inl (cZ, 8, .inl fw)), (qnegative, .inl (cZ, 8, .inl fn)), (qratios, .inl (cI, 8, .inl (fun j => iI (ra j)))), (qden, .inl (cI, 80, .inl (dg (1 * 10 ^ (10 - tdig c0))))), (qquo, .inl (cI, 80, .inl fq)), (qrem, .inl (cI, 80, .inl fr)), (qother, .inl (cI, 80, .inl fo)), (qunits, .inl (cI, 80, .inl fu)), (qparts, .inl (cI, 320, .inl PF)), (qover, .inl (cI, 8, .inl ov)), (qgiven, .inl (cZ, 8, .inl gv)), (h, .inr (4, fs)), (qkept, .inl (cI, 320, .inl K)), (qnum, .inl (cI, 80, .inl (dg V0)))] 0 0 116 [(4, .int (iI ((v : Nat) : Int))), (5, .int (iI x)), (0, .ref h), (1, .int (iI ((α : Nat) : Int))), (2, .int (iI ((τ : Nat) : Int))), (3, .int (iI ((ν : Nat) : Int)))] []
        refine TGo.sub (ws' := [(h, .inr (4, fs)), (qcurrency, .inl (cI, 8, .inl fc)), (qisWide, .inl (cZ, 8, .inl fw)), (qnegative, .inl (cZ, 8, .inl fn)), (qkept, .inl (cI, 320, .inl K)), (qratios, .inl (cI, 8, .inl (fun j => iI (ra j)))), (qnum, .inl (cI, 80, .inl (dg V0))), (qden, .inl (cI, 80, .inl (dg (1 * 10 ^ (10 - tdig c0))))), (qquo, .inl (cI, 80, .inl fq)), (qrem, .inl (cI, 80, .inl fr)), (qother, .inl (cI, 80, .inl fo)), (qunits, .inl (cI, 80, .inl fu)), (qparts, .inl (cI, 320, .inl PF)), (qover, .inl (cI, 8, .inl ov)), (qgiven, .inl (cZ, 8, .inl gv))]) [12, 0, 1, 2, 13, 3, 14, 4, 5, 6, 7, 8, 9, 10, 11] (by decide) rfl ?_
        refine go_aload_n O dX4_allocate_116 rfl 2 rfl 117 rfl ?_
        refine go_callvV (As := []) (rest := []) (wr := [(qcurrency, .inl (cI, 8, .inl fc)), (qisWide, .inl (cZ, 8, .inl fw)), (qnegative, .inl (cZ, 8, .inl fn)), (qkept, .inl (cI, 320, .inl K)), (qratios, .inl (cI, 8, .inl (fun j => iI (ra j)))), (qother, .inl (cI, 80, .inl fo)), (qunits, .inl (cI, 80, .inl fu)), (qparts, .inl (cI, 320, .inl PF)), (qover, .inl (cI, 8, .inl ov)), (qgiven, .inl (cZ, 8, .inl gv))]) O hK hE (c_X4_quotient E hE h fs f_num f_den f_quo f_rem cI V0 (1 * 10 ^ (10 - tdig c0)) fq fr (by omega) hD1.1 (by have := hD1.2; omega)) mlX4_108 imX4_quotient seX4_quotient inX4 cdX4_quotient 0 (by decide +kernel) ⟨Nat.le_of_ble_eq_true rfl, Nat.le_of_ble_eq_true rfl⟩ 0 rfl rfl [0] rfl [0, 6, 7, 8, 9] rfl (by decide) [1, 2, 3, 4, 5, 10, 11, 12, 13, 14] rfl (by decide) (by decide) rfl rfl (Nat.le_of_ble_eq_true rfl) ⟨Nat.zero_le _, Nat.zero_le _⟩ dX4_allocate_117 120 rfl (fun u hu => ?_)
        show TGo X [(qcurrency, .inl (cI, 8, .inl fc)), (qisWide, .inl (cZ, 8, .inl fw)), (qnegative, .inl (cZ, 8, .inl fn)), (qkept, .inl (cI, 320, .inl K)), (qratios, .inl (cI, 8, .inl (fun j => iI (ra j)))), (qother, .inl (cI, 80, .inl fo)), (qunits, .inl (cI, 80, .inl fu)), (qparts, .inl (cI, 320, .inl PF)), (qover, .inl (cI, 8, .inl ov)), (qgiven, .inl (cZ, 8, .inl gv)), (h, .inr (4, fs)), (qnum, .inl (cI, 80, .inl (dg V0))), (qden, .inl (cI, 80, .inl (dg (1 * 10 ^ (10 - tdig c0))))), (qquo, .inl (cI, 80, .inl (dg (V0 / (1 * 10 ^ (10 - tdig c0)))))), (qrem, .inl (cI, 80, .inl (dg (V0 % (1 * 10 ^ (10 - tdig c0))))))] 0 0 120 [(4, .int (iI ((v : Nat) : Int))), (5, .int (iI x)), (0, .ref h), (1, .int (iI ((α : Nat) : Int))), (2, .int (iI ((τ : Nat) : Int))), (3, .int (iI ((ν : Nat) : Int)))] []
        refine TGo.sub (ws' := [(h, .inr (4, fs)), (qcurrency, .inl (cI, 8, .inl fc)), (qisWide, .inl (cZ, 8, .inl fw)), (qnegative, .inl (cZ, 8, .inl fn)), (qkept, .inl (cI, 320, .inl K)), (qratios, .inl (cI, 8, .inl (fun j => iI (ra j)))), (qnum, .inl (cI, 80, .inl (dg V0))), (qden, .inl (cI, 80, .inl (dg (1 * 10 ^ (10 - tdig c0))))), (qquo, .inl (cI, 80, .inl (dg (V0 / (1 * 10 ^ (10 - tdig c0)))))), (qrem, .inl (cI, 80, .inl (dg (V0 % (1 * 10 ^ (10 - tdig c0)))))), (qother, .inl (cI, 80, .inl fo)), (qunits, .inl (cI, 80, .inl fu)), (qparts, .inl (cI, 320, .inl PF)), (qover, .inl (cI, 8, .inl ov)), (qgiven, .inl (cZ, 8, .inl gv))]) [10, 0, 1, 2, 3, 4, 11, 12, 13, 14, 5, 6, 7, 8, 9] (by decide) rfl ?_
        refine go_aload_n O dX4_allocate_120 rfl 2 rfl 121 rfl ?_
        refine go_get O hK dX4_allocate_121 hinX4 0 rfl rfl 14 (by decide) flX4_41 f_rem 124 rfl ?_
        refine go_calliS (rest := []) (wr := [(h, .inr (4, fs)), (qcurrency, .inl (cI, 8, .inl fc)), (qisWide, .inl (cZ, 8, .inl fw)), (qnegative, .inl (cZ, 8, .inl fn)), (qkept, .inl (cI, 320, .inl K)), (qratios, .inl (cI, 8, .inl (fun j => iI (ra j)))), (qnum, .inl (cI, 80, .inl (dg V0))), (qden, .inl (cI, 80, .inl (dg (1 * 10 ^ (10 - tdig c0))))), (qquo, .inl (cI, 80, .inl (dg (V0 / (1 * 10 ^ (10 - tdig c0)))))), (qother, .inl (cI, 80, .inl fo)), (qunits, .inl (cI, 80, .inl fu)), (qparts, .inl (cI, 320, .inl PF)), (qover, .inl (cI, 8, .inl ov)), (qgiven, .inl (cZ, 8, .inl gv))]) O hK hE (c_X4_size E hE qrem cI (V0 % (1 * 10 ^ (10 - tdig c0))) hm80) mlX4_78 smX4_size inX4 cdX4_size 1 (by decide +kernel) ⟨Nat.le_of_ble_eq_true rfl, Nat.le_of_ble_eq_true rfl⟩ [0] rfl [9] rfl (by decide) [0, 1, 2, 3, 4, 5, 6, 7, 8, 10, 11, 12, 13, 14] rfl (by decide) (by decide) rfl rfl (Nat.le_of_ble_eq_true rfl) ⟨Nat.zero_le _, Nat.zero_le _⟩ dX4_allocate_124 127 rfl (fun z u hu => ?_)
        subst hu
        have t0 := tnds_0iff (N := V0 % (1 * 10 ^ (10 - tdig c0)))
        have t1 := tnds_mono hm80
        show TGo X [(h, .inr (4, fs)), (qcurrency, .inl (cI, 8, .inl fc)), (qisWide, .inl (cZ, 8, .inl fw)), (qnegative, .inl (cZ, 8, .inl fn)), (qkept, .inl (cI, 320, .inl K)), (qratios, .inl (cI, 8, .inl (fun j => iI (ra j)))), (qnum, .inl (cI, 80, .inl (dg V0))), (qden, .inl (cI, 80, .inl (dg (1 * 10 ^ (10 - tdig c0))))), (qquo, .inl (cI, 80, .inl (dg (V0 / (1 * 10 ^ (10 - tdig c0)))))), (qother, .inl (cI, 80, .inl fo)), (qunits, .inl (cI, 80, .inl fu)), (qparts, .inl (cI, 320, .inl PF)), (qover, .inl (cI, 8, .inl ov)), (qgiven, .inl (cZ, 8, .inl gv)), (qrem, .inl (cI, 80, .inl (dg (V0 % (1 * 10 ^ (10 - tdig c0))))))] 0 0 127 [(4, .int (iI ((v : Nat) : Int))), (5, .int (iI x)), (0, .ref h), (1, .int (iI ((α : Nat) : Int))), (2, .int (iI ((τ : Nat) : Int))), (3, .int (iI ((ν : Nat) : Int)))] [.int (iI ((tnds (V0 % (1 * 10 ^ (10 - tdig c0))) : Nat) : Int))]
        refine TGo.sub (ws' := [(h, .inr (4, fs)), (qcurrency, .inl (cI, 8, .inl fc)), (qisWide, .inl (cZ, 8, .inl fw)), (qnegative, .inl (cZ, 8, .inl fn)), (qkept, .inl (cI, 320, .inl K)), (qratios, .inl (cI, 8, .inl (fun j => iI (ra j)))), (qnum, .inl (cI, 80, .inl (dg V0))), (qden, .inl (cI, 80, .inl (dg (1 * 10 ^ (10 - tdig c0))))), (qquo, .inl (cI, 80, .inl (dg (V0 / (1 * 10 ^ (10 - tdig c0)))))), (qrem, .inl (cI, 80, .inl (dg (V0 % (1 * 10 ^ (10 - tdig c0)))))), (qother, .inl (cI, 80, .inl fo)), (qunits, .inl (cI, 80, .inl fu)), (qparts, .inl (cI, 320, .inl PF)), (qover, .inl (cI, 8, .inl ov)), (qgiven, .inl (cZ, 8, .inl gv))]) [0, 1, 2, 3, 4, 5, 6, 7, 8, 14, 9, 10, 11, 12, 13] (by decide) rfl ?_
        refine go_if_eq O dX4_allocate_127 133 (by decide) 130 rfl (by omega) (fun h127 => by omega) (fun h127 => ?_)
        refine go_bipush O dX4_allocate_130 (by decide) 132 rfl ?_
        have he := spAll_x hb5 hz hq hx0
        exact hret _ _ _ (fc, fw, fn, K, dg V0, dg (1 * 10 ^ (10 - tdig c0)), dg (V0 / (1 * 10 ^ (10 - tdig c0))), dg (V0 % (1 * 10 ^ (10 - tdig c0))), fo, fu, PF, ov, gv) dX4_allocate_132 rfl ⟨by rw [he], by rw [he]; exact hMR⟩
      · refine go_iload O dX4_allocate_58 0 rfl 60 rfl ?_
        refine go_aload_n O dX4_allocate_60 rfl 2 rfl 61 rfl ?_
        refine go_get O hK dX4_allocate_61 hinX4 0 rfl rfl 7 (by decide) flX4_23 f_ratios 64 rfl ?_
        refine go_iload O dX4_allocate_64 1 rfl 66 rfl ?_
        refine go_iald O hK dX4_allocate_66 5 0 rfl rfl i hx (by omega) (by omega) (ra i) rfl 67 rfl ?_
        refine go_iadd O dX4_allocate_67 ((v + (ra i).natAbs : Nat) : Int) (by have := hRa i; omega) 68 rfl ?_
        refine go_istore O dX4_allocate_68 (by decide) [(4, .int (iI ((v + (ra i).natAbs : Nat) : Int))), (5, .int (iI x)), (0, .ref h), (1, .int (iI ((α : Nat) : Int))), (2, .int (iI ((τ : Nat) : Int))), (3, .int (iI ((ν : Nat) : Int)))] rfl 70 rfl ?_
        refine go_iinc O dX4_allocate_70 1 rfl ((i + 1 : Nat) : Int) (by omega) (by decide) [(5, .int (iI ((i + 1 : Nat) : Int))), (4, .int (iI ((v + (ra i).natAbs : Nat) : Int))), (0, .ref h), (1, .int (iI ((α : Nat) : Int))), (2, .int (iI ((τ : Nat) : Int))), (3, .int (iI ((ν : Nat) : Int)))] rfl 73 rfl ?_
        refine go_goto O dX4_allocate_73 52 (by decide) ?_
        refine TGo.lsub (lv' := [(4, .int (iI ((v + (ra i).natAbs : Nat) : Int))), (5, .int (iI ((i + 1 : Nat) : Int))), (0, .ref h), (1, .int (iI ((α : Nat) : Int))), (2, .int (iI ((τ : Nat) : Int))), (3, .int (iI ((ν : Nat) : Int)))]) [1, 0, 2, 3, 4, 5] rfl ?_
        exact ih (i + 1) _ _ (by omega) (by omega) (by omega) (by rw [hv]; rfl)
  refine go_iload_n O dX4_allocate_0 rfl 1 rfl 1 rfl ?_
  refine go_bipush O dX4_allocate_1 (by decide) 3 rfl ?_
  refine go_calliS (rest := []) (wr := [(h, .inr (4, fs)), (qcurrency, .inl (cI, 8, .inl fc)), (qisWide, .inl (cZ, 8, .inl fw)), (qnegative, .inl (cZ, 8, .inl fn)), (qkept, .inl (cI, 320, .inl K)), (qratios, .inl (cI, 8, .inl (fun j => iI (ra j)))), (qnum, .inl (cI, 80, .inl fnum)), (qden, .inl (cI, 80, .inl fd)), (qquo, .inl (cI, 80, .inl fq)), (qrem, .inl (cI, 80, .inl fr)), (qother, .inl (cI, 80, .inl fo)), (qunits, .inl (cI, 80, .inl fu)), (qparts, .inl (cI, 320, .inl PF)), (qover, .inl (cI, 8, .inl ov)), (qgiven, .inl (cZ, 8, .inl gv))]) O hK hE (c_X4_outside E hE ((α : Nat) : Int) 8 (by omega) (by omega)) mlX4_123 smX4_outside inX4 cdX4_outside 2 (by decide +kernel) ⟨Nat.le_of_ble_eq_true rfl, Nat.le_of_ble_eq_true rfl⟩ [] rfl [] rfl (by decide) [0, 1, 2, 3, 4, 5, 6, 7, 8, 9, 10, 11, 12, 13, 14] rfl (by decide) (by decide) rfl rfl (Nat.le_of_ble_eq_true rfl) ⟨Nat.zero_le _, Nat.zero_le _⟩ dX4_allocate_3 6 rfl (fun z u hu => ?_)
  subst hu
  show TGo X [(h, .inr (4, fs)), (qcurrency, .inl (cI, 8, .inl fc)), (qisWide, .inl (cZ, 8, .inl fw)), (qnegative, .inl (cZ, 8, .inl fn)), (qkept, .inl (cI, 320, .inl K)), (qratios, .inl (cI, 8, .inl (fun j => iI (ra j)))), (qnum, .inl (cI, 80, .inl fnum)), (qden, .inl (cI, 80, .inl fd)), (qquo, .inl (cI, 80, .inl fq)), (qrem, .inl (cI, 80, .inl fr)), (qother, .inl (cI, 80, .inl fo)), (qunits, .inl (cI, 80, .inl fu)), (qparts, .inl (cI, 320, .inl PF)), (qover, .inl (cI, 8, .inl ov)), (qgiven, .inl (cZ, 8, .inl gv))] 0 0 6 [(0, .ref h), (1, .int (iI ((α : Nat) : Int))), (2, .int (iI ((τ : Nat) : Int))), (3, .int (iI ((ν : Nat) : Int)))] [.int (iI (bz (tout ((α : Nat) : Int) 8)))]
  refine go_if_ne O dX4_allocate_6 43 (by decide) 9 rfl (bz_r _) (fun h6 => by omega) (fun h6 => ?_)
  refine go_iload_n O dX4_allocate_9 rfl 2 rfl 10 rfl ?_
  refine go_bipush O dX4_allocate_10 (by decide) 12 rfl ?_
  refine go_calliS (rest := []) (wr := [(h, .inr (4, fs)), (qcurrency, .inl (cI, 8, .inl fc)), (qisWide, .inl (cZ, 8, .inl fw)), (qnegative, .inl (cZ, 8, .inl fn)), (qkept, .inl (cI, 320, .inl K)), (qratios, .inl (cI, 8, .inl (fun j => iI (ra j)))), (qnum, .inl (cI, 80, .inl fnum)), (qden, .inl (cI, 80, .inl fd)), (qquo, .inl (cI, 80, .inl fq)), (qrem, .inl (cI, 80, .inl fr)), (qother, .inl (cI, 80, .inl fo)), (qunits, .inl (cI, 80, .inl fu)), (qparts, .inl (cI, 320, .inl PF)), (qover, .inl (cI, 8, .inl ov)), (qgiven, .inl (cZ, 8, .inl gv))]) O hK hE (c_X4_outside E hE ((τ : Nat) : Int) 8 (by omega) (by omega)) mlX4_123 smX4_outside inX4 cdX4_outside 2 (by decide +kernel) ⟨Nat.le_of_ble_eq_true rfl, Nat.le_of_ble_eq_true rfl⟩ [] rfl [] rfl (by decide) [0, 1, 2, 3, 4, 5, 6, 7, 8, 9, 10, 11, 12, 13, 14] rfl (by decide) (by decide) rfl rfl (Nat.le_of_ble_eq_true rfl) ⟨Nat.zero_le _, Nat.zero_le _⟩ dX4_allocate_12 15 rfl (fun z u hu => ?_)
  subst hu
  show TGo X [(h, .inr (4, fs)), (qcurrency, .inl (cI, 8, .inl fc)), (qisWide, .inl (cZ, 8, .inl fw)), (qnegative, .inl (cZ, 8, .inl fn)), (qkept, .inl (cI, 320, .inl K)), (qratios, .inl (cI, 8, .inl (fun j => iI (ra j)))), (qnum, .inl (cI, 80, .inl fnum)), (qden, .inl (cI, 80, .inl fd)), (qquo, .inl (cI, 80, .inl fq)), (qrem, .inl (cI, 80, .inl fr)), (qother, .inl (cI, 80, .inl fo)), (qunits, .inl (cI, 80, .inl fu)), (qparts, .inl (cI, 320, .inl PF)), (qover, .inl (cI, 8, .inl ov)), (qgiven, .inl (cZ, 8, .inl gv))] 0 0 15 [(0, .ref h), (1, .int (iI ((α : Nat) : Int))), (2, .int (iI ((τ : Nat) : Int))), (3, .int (iI ((ν : Nat) : Int)))] [.int (iI (bz (tout ((τ : Nat) : Int) 8)))]
  refine go_if_ne O dX4_allocate_15 43 (by decide) 18 rfl (bz_r _) (fun h15 => by omega) (fun h15 => ?_)
  refine go_iload_n O dX4_allocate_18 rfl 3 rfl 19 rfl ?_
  refine go_iconst O dX4_allocate_19 20 rfl ?_
  refine go_icmp_lt O dX4_allocate_20 43 (by decide) 23 rfl (by omega) (by omega) (fun h20 => by omega) (fun h20 => ?_)
  refine go_iload_n O dX4_allocate_23 rfl 3 rfl 24 rfl ?_
  refine go_bipush O dX4_allocate_24 (by decide) 26 rfl ?_
  refine go_iload_n O dX4_allocate_26 rfl 2 rfl 27 rfl ?_
  refine go_isub O dX4_allocate_27 (8 - ((τ : Nat) : Int)) rfl 28 rfl ?_
  refine go_icmp_gt O dX4_allocate_28 43 (by decide) 31 rfl (by omega) (by omega) (fun h28 => by omega) (fun h28 => ?_)
  refine go_iload_n O dX4_allocate_31 rfl 1 rfl 32 rfl ?_
  refine go_iload_n O dX4_allocate_32 rfl 2 rfl 33 rfl ?_
  refine go_icmp_lt O dX4_allocate_33 46 (by decide) 36 rfl (by omega) (by omega) (fun h33 => ?_) (fun h33 => ?_)
  · refine go_iconst O dX4_allocate_46 47 rfl ?_
    refine go_istore O dX4_allocate_47 (by decide) [(4, .int (iI 0)), (0, .ref h), (1, .int (iI ((α : Nat) : Int))), (2, .int (iI ((τ : Nat) : Int))), (3, .int (iI ((ν : Nat) : Int)))] rfl 49 rfl ?_
    refine go_iconst O dX4_allocate_49 50 rfl ?_
    refine go_istore O dX4_allocate_50 (by decide) [(5, .int (iI 0)), (4, .int (iI 0)), (0, .ref h), (1, .int (iI ((α : Nat) : Int))), (2, .int (iI ((τ : Nat) : Int))), (3, .int (iI ((ν : Nat) : Int)))] rfl 52 rfl ?_
    refine TGo.lsub (lv' := [(4, .int (iI 0)), (5, .int (iI 0)), (0, .ref h), (1, .int (iI ((α : Nat) : Int))), (2, .int (iI ((τ : Nat) : Int))), (3, .int (iI ((ν : Nat) : Int)))]) [1, 0, 2, 3, 4, 5] rfl ?_
    exact lp1 (ν + 1) 0 _ 0 (by omega) (by omega) rfl rfl
  · refine go_iload_n O dX4_allocate_36 rfl 1 rfl 37 rfl ?_
    refine go_iload_n O dX4_allocate_37 rfl 2 rfl 38 rfl ?_
    refine go_iload_n O dX4_allocate_38 rfl 3 rfl 39 rfl ?_
    refine go_iadd O dX4_allocate_39 ((τ + ν : Nat) : Int) (Int.natCast_add _ _).symm 40 rfl ?_
    refine go_icmp_ge O dX4_allocate_40 46 (by decide) 43 rfl (by omega) (by omega) (fun h40 => ?_) (fun h40 => by omega)
    refine go_iconst O dX4_allocate_46 47 rfl ?_
    refine go_istore O dX4_allocate_47 (by decide) [(4, .int (iI 0)), (0, .ref h), (1, .int (iI ((α : Nat) : Int))), (2, .int (iI ((τ : Nat) : Int))), (3, .int (iI ((ν : Nat) : Int)))] rfl 49 rfl ?_
    refine go_iconst O dX4_allocate_49 50 rfl ?_
    refine go_istore O dX4_allocate_50 (by decide) [(5, .int (iI 0)), (4, .int (iI 0)), (0, .ref h), (1, .int (iI ((α : Nat) : Int))), (2, .int (iI ((τ : Nat) : Int))), (3, .int (iI ((ν : Nat) : Int)))] rfl 52 rfl ?_
    refine TGo.lsub (lv' := [(4, .int (iI 0)), (5, .int (iI 0)), (0, .ref h), (1, .int (iI ((α : Nat) : Int))), (2, .int (iI ((τ : Nat) : Int))), (3, .int (iI ((ν : Nat) : Int)))]) [1, 0, 2, 3, 4, 5] rfl ?_
    exact lp1 (ν + 1) 0 _ 0 (by omega) (by omega) rfl rfl
set_option maxHeartbeats 4000000 in
set_option maxRecDepth 100000 in
/-- allocate, exact -/
theorem c_X4_allocate_s (E : TEn) (hE : EnvOk E) (h : Nat) (fs : List Value) {qcurrency qisWide qnegative qkept qratios qnum qden qquo qrem qother qunits qparts qover qgiven : Nat} (f_currency : fs[3]? = some (.ref qcurrency)) (f_isWide : fs[4]? = some (.ref qisWide)) (f_negative : fs[5]? = some (.ref qnegative)) (f_kept : fs[6]? = some (.ref qkept)) (f_ratios : fs[7]? = some (.ref qratios)) (f_num : fs[10]? = some (.ref qnum)) (f_den : fs[12]? = some (.ref qden)) (f_quo : fs[13]? = some (.ref qquo)) (f_rem : fs[14]? = some (.ref qrem)) (f_other : fs[15]? = some (.ref qother)) (f_units : fs[16]? = some (.ref qunits)) (f_parts : fs[17]? = some (.ref qparts)) (f_over : fs[18]? = some (.ref qover)) (f_given : fs[19]? = some (.ref qgiven)) (cI cZ : ClassId) (fc fw fn K fnum fd fq fr fo fu PF ov gv : Nat → Int32) (ra : Nat → Int) (hRa : RaOk ra) (reg : Rg) (hMR : MR fc fw fn K reg) (α τ ν : Nat) (hb5 : α < 8 ∧ τ < 8 ∧ 1 ≤ ν ∧ ν + τ ≤ 8 ∧ ¬ (τ ≤ α ∧ α < τ + ν)) (hz : tsm (wra ra) ν ≠ 0) (c0 : Int) (w0 n0 : Bool) (V0 : Nat) (hq : reg α = some (c0, w0, n0, V0)) (hx0 : V0 % (1 * 10 ^ (10 - tdig c0)) = 0) : Cti vwCl E yX4_allocate wsX4_allocate (rmn 3 73) [.ref h, .int (iI ((α : Nat) : Int)), .int (iI ((τ : Nat) : Int)), .int (iI ((ν : Nat) : Int))] [(h, .inr (4, fs)), (qcurrency, .inl (cI, 8, .inl fc)), (qisWide, .inl (cZ, 8, .inl fw)), (qnegative, .inl (cZ, 8, .inl fn)), (qkept, .inl (cI, 320, .inl K)), (qratios, .inl (cI, 8, .inl (fun j => iI (ra j)))), (qnum, .inl (cI, 80, .inl fnum)), (qden, .inl (cI, 80, .inl fd)), (qquo, .inl (cI, 80, .inl fq)), (qrem, .inl (cI, 80, .inl fr)), (qother, .inl (cI, 80, .inl fo)), (qunits, .inl (cI, 80, .inl fu)), (qparts, .inl (cI, 320, .inl PF)), (qover, .inl (cI, 8, .inl ov)), (qgiven, .inl (cZ, 8, .inl gv))] [(cI, .int), (cZ, .boolean)] (fun (z : Int) (u : (Nat → Int32) × (Nat → Int32) × (Nat → Int32) × (Nat → Int32) × (Nat → Int32) × (Nat → Int32) × (Nat → Int32) × (Nat → Int32) × (Nat → Int32) × (Nat → Int32) × (Nat → Int32) × (Nat → Int32) × (Nat → Int32)) => z = (spAll reg ra (α : Int) (τ : Int) (ν : Int)).1 ∧ MR u.1 u.2.1 u.2.2.1 u.2.2.2.1 (spAll reg ra (α : Int) (τ : Int) (ν : Int)).2) (fun u => [(h, .inr (4, fs)), (qcurrency, .inl (cI, 8, .inl u.1)), (qisWide, .inl (cZ, 8, .inl u.2.1)), (qnegative, .inl (cZ, 8, .inl u.2.2.1)), (qkept, .inl (cI, 320, .inl u.2.2.2.1)), (qratios, .inl (cI, 8, .inl (fun j => iI (ra j)))), (qnum, .inl (cI, 80, .inl u.2.2.2.2.1)), (qden, .inl (cI, 80, .inl u.2.2.2.2.2.1)), (qquo, .inl (cI, 80, .inl u.2.2.2.2.2.2.1)), (qrem, .inl (cI, 80, .inl u.2.2.2.2.2.2.2.1)), (qother, .inl (cI, 80, .inl u.2.2.2.2.2.2.2.2.1)), (qunits, .inl (cI, 80, .inl u.2.2.2.2.2.2.2.2.2.1)), (qparts, .inl (cI, 320, .inl u.2.2.2.2.2.2.2.2.2.2.1)), (qover, .inl (cI, 8, .inl u.2.2.2.2.2.2.2.2.2.2.2.1)), (qgiven, .inl (cZ, 8, .inl u.2.2.2.2.2.2.2.2.2.2.2.2))]) := by
  refine enteri (by decide) (Nat.le_of_ble_eq_true rfl) ?_
  intro X O hK hin2 hret
  show TGo X [(h, .inr (4, fs)), (qcurrency, .inl (cI, 8, .inl fc)), (qisWide, .inl (cZ, 8, .inl fw)), (qnegative, .inl (cZ, 8, .inl fn)), (qkept, .inl (cI, 320, .inl K)), (qratios, .inl (cI, 8, .inl (fun j => iI (ra j)))), (qnum, .inl (cI, 80, .inl fnum)), (qden, .inl (cI, 80, .inl fd)), (qquo, .inl (cI, 80, .inl fq)), (qrem, .inl (cI, 80, .inl fr)), (qother, .inl (cI, 80, .inl fo)), (qunits, .inl (cI, 80, .inl fu)), (qparts, .inl (cI, 320, .inl PF)), (qover, .inl (cI, 8, .inl ov)), (qgiven, .inl (cZ, 8, .inl gv))] 0 0 0 [(0, .ref h), (1, .int (iI ((α : Nat) : Int))), (2, .int (iI ((τ : Nat) : Int))), (3, .int (iI ((ν : Nat) : Int)))] []
  have hα := hMR α (by omega)
  rw [hq] at hα
  obtain ⟨hc0, e1, e2, e3, hV0, hz0, hK0⟩ := hα
  have hD1 := tD1_bd c0
  have hm80 : V0 % (1 * 10 ^ (10 - tdig c0)) < 10 ^ 80 := by have := Nat.mod_lt V0 hD1.1; have := hD1.2; omega
  obtain ⟨U, hU⟩ : ∃ y, y = V0 / (1 * 10 ^ (10 - tdig c0)) := ⟨_, rfl⟩
  obtain ⟨al, hal⟩ : ∃ y, y = tsm (wra ra) ν := ⟨_, rfl⟩
  have hal8 := tsw_le (n := ν) hRa
  have hU36 : U < 10 ^ 36 := by rw [hU]; exact Nat.lt_of_le_of_lt (Nat.div_le_self _ _) hV0
  have hz1 : 0 < al := by omega
  have hPb : ∀ i, i < ν → aP ra al U i < 10 ^ 40 := fun i hi => Nat.lt_of_le_of_lt (aP_bd hz1 (by rw [hal]; exact tsm_i (f := wra ra) hi)) (by omega)
  have hOb : ∀ i, aO ra al U i < al := fun i => aO_lt hz1
  have lp4 : ∀ (c : Nat) (i : Nat) (x : Int) (fc : Nat → Int32) (fw : Nat → Int32) (fn : Nat → Int32) (K : Nat → Int32) (fnum : Nat → Int32) (fd : Nat → Int32) (fq : Nat → Int32) (fr : Nat → Int32) (fo : Nat → Int32) (fu : Nat → Int32) (PF : Nat → Int32) (ov : Nat → Int32) (gv : Nat → Int32), c + i = ν + 1 → i ≤ ν → x = (i : Int) → MR fc fw fn K (ralc reg τ i c0 w0 n0 (10 ^ (10 - tdig c0)) (tshr (wra ra) ν U)) → PRw ra al U ν PF → ORw (fun k => bz (decide (trk (aO ra al U) ν k < tsm (aO ra al U) ν / al))) ν gv → TGo X [(h, .inr (4, fs)), (qcurrency, .inl (cI, 8, .inl fc)), (qisWide, .inl (cZ, 8, .inl fw)), (qnegative, .inl (cZ, 8, .inl fn)), (qkept, .inl (cI, 320, .inl K)), (qratios, .inl (cI, 8, .inl (fun j => iI (ra j)))), (qnum, .inl (cI, 80, .inl fnum)), (qden, .inl (cI, 80, .inl fd)), (qquo, .inl (cI, 80, .inl fq)), (qrem, .inl (cI, 80, .inl fr)), (qother, .inl (cI, 80, .inl fo)), (qunits, .inl (cI, 80, .inl fu)), (qparts, .inl (cI, 320, .inl PF)), (qover, .inl (cI, 8, .inl ov)), (qgiven, .inl (cZ, 8, .inl gv))] 0 0 260 [(6, .int (iI x)), (0, .ref h), (1, .int (iI ((α : Nat) : Int))), (2, .int (iI ((τ : Nat) : Int))), (3, .int (iI ((ν : Nat) : Int)))] [] := by
    intro c
    induction c with
    | zero => intro i x fc fw fn K fnum fd fq fr fo fu PF ov gv h1 h2 hx hMR4 hPR hgv; omega
    | succ c ih =>
      intro i x fc fw fn K fnum fd fq fr fo fu PF ov gv h1 h2 hx hMR4 hPR hgv
      refine go_iload O dX4_allocate_260 0 rfl 262 rfl ?_
      refine go_iload_n O dX4_allocate_262 rfl 4 rfl 263 rfl ?_
      refine go_icmp_ge O dX4_allocate_263 322 (by decide) 266 rfl (by omega) (by omega) (fun h263 => ?_) (fun h263 => ?_)
      · refine go_iconst O dX4_allocate_322 323 rfl ?_
        have ei : i = ν := by omega
        rw [ei] at hMR4
        have he := spAll_ok (τ := τ) hb5 hz hq hx0
        rw [← hU] at he
        exact hret _ _ _ (fc, fw, fn, K, fnum, fd, fq, fr, fo, fu, PF, ov, gv) dX4_allocate_323 rfl ⟨by rw [he], by rw [he]; exact hMR4⟩
      · subst hx
        have hα4 := hMR4 α (by omega)
        rw [ralc_out (by omega), hq] at hα4
        obtain ⟨-, g1, g2, g3, -⟩ := hα4
        refine go_aload_n O dX4_allocate_266 rfl 1 rfl 267 rfl ?_
        refine go_iload O dX4_allocate_267 0 rfl 269 rfl ?_
        refine go_bipush O dX4_allocate_269 (by decide) 271 rfl ?_
        refine go_aload_n O dX4_allocate_271 rfl 1 rfl 272 rfl ?_
        refine go_get O hK dX4_allocate_272 hinX4 0 rfl rfl 3 (by decide) flX4_7 f_currency 275 rfl ?_
        refine go_iload_n O dX4_allocate_275 rfl 2 rfl 276 rfl ?_
        refine go_iald O hK dX4_allocate_276 1 0 rfl rfl α rfl (by omega) (by omega) c0 g1 277 rfl ?_
        refine go_calliS (rest := [.int (iI 10), .int (iI ((i : Nat) : Int)), .ref h]) (wr := [(h, .inr (4, fs)), (qcurrency, .inl (cI, 8, .inl fc)), (qisWide, .inl (cZ, 8, .inl fw)), (qnegative, .inl (cZ, 8, .inl fn)), (qkept, .inl (cI, 320, .inl K)), (qratios, .inl (cI, 8, .inl (fun j => iI (ra j)))), (qnum, .inl (cI, 80, .inl fnum)), (qden, .inl (cI, 80, .inl fd)), (qquo, .inl (cI, 80, .inl fq)), (qrem, .inl (cI, 80, .inl fr)), (qother, .inl (cI, 80, .inl fo)), (qunits, .inl (cI, 80, .inl fu)), (qparts, .inl (cI, 320, .inl PF)), (qover, .inl (cI, 8, .inl ov)), (qgiven, .inl (cZ, 8, .inl gv))]) O hK hE (c_X4_digitsOf E hE c0 (by omega)) mlX4_141 smX4_digitsOf inX4 cdX4_digitsOf 1 (by decide +kernel) ⟨Nat.le_of_ble_eq_true rfl, Nat.le_of_ble_eq_true rfl⟩ [] rfl [] rfl (by decide) [0, 1, 2, 3, 4, 5, 6, 7, 8, 9, 10, 11, 12, 13, 14] rfl (by decide) (by decide) rfl rfl (Nat.le_of_ble_eq_true rfl) ⟨Nat.zero_le _, Nat.zero_le _⟩ dX4_allocate_277 280 rfl (fun z u hu => ?_)
        subst hu
        have htd := tdig_le c0
        show TGo X [(h, .inr (4, fs)), (qcurrency, .inl (cI, 8, .inl fc)), (qisWide, .inl (cZ, 8, .inl fw)), (qnegative, .inl (cZ, 8, .inl fn)), (qkept, .inl (cI, 320, .inl K)), (qratios, .inl (cI, 8, .inl (fun j => iI (ra j)))), (qnum, .inl (cI, 80, .inl fnum)), (qden, .inl (cI, 80, .inl fd)), (qquo, .inl (cI, 80, .inl fq)), (qrem, .inl (cI, 80, .inl fr)), (qother, .inl (cI, 80, .inl fo)), (qunits, .inl (cI, 80, .inl fu)), (qparts, .inl (cI, 320, .inl PF)), (qover, .inl (cI, 8, .inl ov)), (qgiven, .inl (cZ, 8, .inl gv))] 0 0 280 [(6, .int (iI ((i : Nat) : Int))), (0, .ref h), (1, .int (iI ((α : Nat) : Int))), (2, .int (iI ((τ : Nat) : Int))), (3, .int (iI ((ν : Nat) : Int)))] [.int (iI ((tdig c0 : Nat) : Int)), .int (iI 10), .int (iI ((i : Nat) : Int)), .ref h]
        refine go_isub O dX4_allocate_280 ((10 - tdig c0 : Nat) : Int) (by omega) 281 rfl ?_
        refine go_callvV (As := [.int (iI ((i : Nat) : Int)), .int (iI ((10 - tdig c0 : Nat) : Int))]) (rest := []) (wr := [(qcurrency, .inl (cI, 8, .inl fc)), (qisWide, .inl (cZ, 8, .inl fw)), (qnegative, .inl (cZ, 8, .inl fn)), (qkept, .inl (cI, 320, .inl K)), (qratios, .inl (cI, 8, .inl (fun j => iI (ra j)))), (qden, .inl (cI, 80, .inl fd)), (qrem, .inl (cI, 80, .inl fr)), (qunits, .inl (cI, 80, .inl fu)), (qover, .inl (cI, 8, .inl ov))]) O hK hE (c_X4_part E hE h fs f_quo f_parts f_given f_other f_num cI cZ fq PF gv fo fnum i (10 - tdig c0) (aP ra al U i) (decide (trk (aO ra al U) ν i < tsm (aO ra al U) ν / al)) (by omega) (by omega) (hPb i (by omega)) (hPR i (by omega)) (hgv i (by omega))) mlX4_159 imX4_part seX4_part inX4 cdX4_part 2 (by decide +kernel) ⟨Nat.le_of_ble_eq_true rfl, Nat.le_of_ble_eq_true rfl⟩ 0 rfl rfl [0, 1] rfl [0, 8, 12, 14, 10, 6] rfl (by decide) [1, 2, 3, 4, 5, 7, 9, 11, 13] rfl (by decide) (by decide) rfl rfl (Nat.le_of_ble_eq_true rfl) ⟨Nat.zero_le _, Nat.zero_le _⟩ dX4_allocate_281 284 rfl (fun u hu => ?_)
        obtain ⟨fq2, fo2⟩ := u
        rw [shr_eq hal]
        show TGo X [(qcurrency, .inl (cI, 8, .inl fc)), (qisWide, .inl (cZ, 8, .inl fw)), (qnegative, .inl (cZ, 8, .inl fn)), (qkept, .inl (cI, 320, .inl K)), (qratios, .inl (cI, 8, .inl (fun j => iI (ra j)))), (qden, .inl (cI, 80, .inl fd)), (qrem, .inl (cI, 80, .inl fr)), (qunits, .inl (cI, 80, .inl fu)), (qover, .inl (cI, 8, .inl ov)), (h, .inr (4, fs)), (qquo, .inl (cI, 80, .inl fq2)), (qparts, .inl (cI, 320, .inl PF)), (qgiven, .inl (cZ, 8, .inl gv)), (qother, .inl (cI, 80, .inl fo2)), (qnum, .inl (cI, 80, .inl (dg (tshr (wra ra) ν U i * 10 ^ (10 - tdig c0)))))] 0 0 284 [(6, .int (iI ((i : Nat) : Int))), (0, .ref h), (1, .int (iI ((α : Nat) : Int))), (2, .int (iI ((τ : Nat) : Int))), (3, .int (iI ((ν : Nat) : Int)))] []
        refine TGo.sub (ws' := [(h, .inr (4, fs)), (qcurrency, .inl (cI, 8, .inl fc)), (qisWide, .inl (cZ, 8, .inl fw)), (qnegative, .inl (cZ, 8, .inl fn)), (qkept, .inl (cI, 320, .inl K)), (qratios, .inl (cI, 8, .inl (fun j => iI (ra j)))), (qnum, .inl (cI, 80, .inl (dg (tshr (wra ra) ν U i * 10 ^ (10 - tdig c0))))), (qden, .inl (cI, 80, .inl fd)), (qquo, .inl (cI, 80, .inl fq2)), (qrem, .inl (cI, 80, .inl fr)), (qother, .inl (cI, 80, .inl fo2)), (qunits, .inl (cI, 80, .inl fu)), (qparts, .inl (cI, 320, .inl PF)), (qover, .inl (cI, 8, .inl ov)), (qgiven, .inl (cZ, 8, .inl gv))]) [9, 0, 1, 2, 3, 4, 14, 5, 10, 6, 13, 7, 11, 8, 12] (by decide) rfl ?_
        refine go_aload_n O dX4_allocate_284 rfl 1 rfl 285 rfl ?_
        refine go_iload_n O dX4_allocate_285 rfl 3 rfl 286 rfl ?_
        refine go_iload O dX4_allocate_286 0 rfl 288 rfl ?_
        refine go_iadd O dX4_allocate_288 ((τ + i : Nat) : Int) (Int.natCast_add _ _).symm 289 rfl ?_
        refine go_aload_n O dX4_allocate_289 rfl 1 rfl 290 rfl ?_
        refine go_get O hK dX4_allocate_290 hinX4 0 rfl rfl 3 (by decide) flX4_7 f_currency 293 rfl ?_
        refine go_iload_n O dX4_allocate_293 rfl 2 rfl 294 rfl ?_
        refine go_iald O hK dX4_allocate_294 1 0 rfl rfl α rfl (by omega) (by omega) c0 g1 295 rfl ?_
        refine go_aload_n O dX4_allocate_295 rfl 1 rfl 296 rfl ?_
        refine go_get O hK dX4_allocate_296 hinX4 0 rfl rfl 4 (by decide) flX4_13 f_isWide 299 rfl ?_
        refine go_iload_n O dX4_allocate_299 rfl 2 rfl 300 rfl ?_
        refine go_zald O hK dX4_allocate_300 2 1 rfl rfl α rfl (by omega) (by omega) (bz w0) g2 301 rfl ?_
        refine go_aload_n O dX4_allocate_301 rfl 1 rfl 302 rfl ?_
        refine go_get O hK dX4_allocate_302 hinX4 0 rfl rfl 5 (by decide) flX4_17 f_negative 305 rfl ?_
        refine go_iload_n O dX4_allocate_305 rfl 2 rfl 306 rfl ?_
        refine go_zald O hK dX4_allocate_306 3 1 rfl rfl α rfl (by omega) (by omega) (bz n0) g3 307 rfl ?_
        refine go_aload_n O dX4_allocate_307 rfl 1 rfl 308 rfl ?_
        refine go_get O hK dX4_allocate_308 hinX4 0 rfl rfl 10 (by decide) flX4_29 f_num 311 rfl ?_
        refine go_calliV (As := [.int (iI ((τ + i : Nat) : Int)), .int (iI c0), .int (iI (bz w0)), .int (iI (bz n0)), .ref qnum]) (rest := []) (wr := [(qratios, .inl (cI, 8, .inl (fun j => iI (ra j)))), (qden, .inl (cI, 80, .inl fd)), (qquo, .inl (cI, 80, .inl fq2)), (qrem, .inl (cI, 80, .inl fr)), (qother, .inl (cI, 80, .inl fo2)), (qunits, .inl (cI, 80, .inl fu)), (qparts, .inl (cI, 320, .inl PF)), (qover, .inl (cI, 8, .inl ov)), (qgiven, .inl (cZ, 8, .inl gv))]) O hK hE (c_X4_keep E hE h fs f_currency f_isWide f_negative f_kept qnum cI cZ (τ + i) (tshr (wra ra) ν U i * 10 ^ (10 - tdig c0)) c0 fc fw fn K (ralc reg τ i c0 w0 n0 (10 ^ (10 - tdig c0)) (tshr (wra ra) ν U)) w0 n0 (by omega) (by omega) (by rw [hU]; exact shr_bd (by omega) (by omega) hV0) hMR4) mlX4_119 imX4_keep seX4_keep inX4 cdX4_keep 5 (by decide +kernel) ⟨Nat.le_of_ble_eq_true rfl, Nat.le_of_ble_eq_true rfl⟩ 0 rfl rfl [0, 1] rfl [0, 1, 2, 3, 4, 6] rfl (by decide) [5, 7, 8, 9, 10, 11, 12, 13, 14] rfl (by decide) (by decide) rfl rfl (Nat.le_of_ble_eq_true rfl) ⟨Nat.zero_le _, Nat.zero_le _⟩ dX4_allocate_311 314 rfl (fun z u hu => ?_)
        obtain ⟨fc2, fw2, fn2, K2⟩ := u
        obtain ⟨rfl, hMR2⟩ := hu
        rw [ralc_s] at hMR2
        show TGo X [(qratios, .inl (cI, 8, .inl (fun j => iI (ra j)))), (qden, .inl (cI, 80, .inl fd)), (qquo, .inl (cI, 80, .inl fq2)), (qrem, .inl (cI, 80, .inl fr)), (qother, .inl (cI, 80, .inl fo2)), (qunits, .inl (cI, 80, .inl fu)), (qparts, .inl (cI, 320, .inl PF)), (qover, .inl (cI, 8, .inl ov)), (qgiven, .inl (cZ, 8, .inl gv)), (h, .inr (4, fs)), (qcurrency, .inl (cI, 8, .inl fc2)), (qisWide, .inl (cZ, 8, .inl fw2)), (qnegative, .inl (cZ, 8, .inl fn2)), (qkept, .inl (cI, 320, .inl K2)), (qnum, .inl (cI, 80, .inl (dg (tshr (wra ra) ν U i * 10 ^ (10 - tdig c0)))))] 0 0 314 [(6, .int (iI ((i : Nat) : Int))), (0, .ref h), (1, .int (iI ((α : Nat) : Int))), (2, .int (iI ((τ : Nat) : Int))), (3, .int (iI ((ν : Nat) : Int)))] [.int (iI 0)]
        refine TGo.sub (ws' := [(h, .inr (4, fs)), (qcurrency, .inl (cI, 8, .inl fc2)), (qisWide, .inl (cZ, 8, .inl fw2)), (qnegative, .inl (cZ, 8, .inl fn2)), (qkept, .inl (cI, 320, .inl K2)), (qratios, .inl (cI, 8, .inl (fun j => iI (ra j)))), (qnum, .inl (cI, 80, .inl (dg (tshr (wra ra) ν U i * 10 ^ (10 - tdig c0))))), (qden, .inl (cI, 80, .inl fd)), (qquo, .inl (cI, 80, .inl fq2)), (qrem, .inl (cI, 80, .inl fr)), (qother, .inl (cI, 80, .inl fo2)), (qunits, .inl (cI, 80, .inl fu)), (qparts, .inl (cI, 320, .inl PF)), (qover, .inl (cI, 8, .inl ov)), (qgiven, .inl (cZ, 8, .inl gv))]) [9, 10, 11, 12, 13, 0, 14, 1, 2, 3, 4, 5, 6, 7, 8] (by decide) rfl ?_
        refine go_istore O dX4_allocate_314 (by decide) [(7, .int (iI 0)), (6, .int (iI ((i : Nat) : Int))), (0, .ref h), (1, .int (iI ((α : Nat) : Int))), (2, .int (iI ((τ : Nat) : Int))), (3, .int (iI ((ν : Nat) : Int)))] rfl 316 rfl ?_
        refine go_iinc O dX4_allocate_316 1 rfl ((i + 1 : Nat) : Int) (by omega) (by decide) [(6, .int (iI ((i + 1 : Nat) : Int))), (7, .int (iI 0)), (0, .ref h), (1, .int (iI ((α : Nat) : Int))), (2, .int (iI ((τ : Nat) : Int))), (3, .int (iI ((ν : Nat) : Int)))] rfl 319 rfl ?_
        refine go_goto O dX4_allocate_319 260 (by decide) ?_
        refine TGo.lsub (lv' := [(6, .int (iI ((i + 1 : Nat) : Int))), (0, .ref h), (1, .int (iI ((α : Nat) : Int))), (2, .int (iI ((τ : Nat) : Int))), (3, .int (iI ((ν : Nat) : Int)))]) [0, 2, 3, 4, 5] rfl ?_
        exact ih (i + 1) _ _ _ _ _ _ _ _ _ _ _ _ _ _ (by omega) (by omega) rfl hMR2 hPR hgv
  have hBx : ∀ (g : Nat → Bool) (i : Nat) (x : Int), Bst (aO ra al U) g i x → -1 ≤ x ∧ x < (i : Int) ∨ (x = -1) := fun g i x hb => by rcases hb with e | ⟨b, e, e2, _⟩ <;> omega
  have li3 : ∀ (c : Nat) (i : Nat) (z8 bx : Int) (k : Nat) (y : Int) (LF : Nat) (g : Nat → Bool) (fnum : Nat → Int32) (fd : Nat → Int32) (fq : Nat → Int32) (fr : Nat → Int32) (fo : Nat → Int32) (fu : Nat → Int32) (PF : Nat → Int32) (ov : Nat → Int32) (gv : Nat → Int32), c + i = ν + 1 → i ≤ ν → z8 = (i : Int) → Bst (aO ra al U) g i bx → ORw (fun i => bz (g i)) ν gv → ORw (fun k => ((aO ra al U k : Nat) : Int)) ν ov → SelOk (aO ra al U) ν k g → y = (k : Int) → k < ν → (∀ (g2 : Nat → Bool) (gv2 : Nat → Int32), ORw (fun i => bz (g2 i)) ν gv2 → SelOk (aO ra al U) ν (k + 1) g2 → TGo X [(h, .inr (4, fs)), (qcurrency, .inl (cI, 8, .inl fc)), (qisWide, .inl (cZ, 8, .inl fw)), (qnegative, .inl (cZ, 8, .inl fn)), (qkept, .inl (cI, 320, .inl K)), (qratios, .inl (cI, 8, .inl (fun j => iI (ra j)))), (qnum, .inl (cI, 80, .inl fnum)), (qden, .inl (cI, 80, .inl fd)), (qquo, .inl (cI, 80, .inl fq)), (qrem, .inl (cI, 80, .inl fr)), (qother, .inl (cI, 80, .inl fo)), (qunits, .inl (cI, 80, .inl fu)), (qparts, .inl (cI, 320, .inl PF)), (qover, .inl (cI, 8, .inl ov)), (qgiven, .inl (cZ, 8, .inl gv2))] 0 0 177 [(5, .int (iI ((LF : Nat) : Int))), (6, .int (iI ((k + 1 : Nat) : Int))), (0, .ref h), (1, .int (iI ((α : Nat) : Int))), (2, .int (iI ((τ : Nat) : Int))), (3, .int (iI ((ν : Nat) : Int)))] []) → TGo X [(h, .inr (4, fs)), (qcurrency, .inl (cI, 8, .inl fc)), (qisWide, .inl (cZ, 8, .inl fw)), (qnegative, .inl (cZ, 8, .inl fn)), (qkept, .inl (cI, 320, .inl K)), (qratios, .inl (cI, 8, .inl (fun j => iI (ra j)))), (qnum, .inl (cI, 80, .inl fnum)), (qden, .inl (cI, 80, .inl fd)), (qquo, .inl (cI, 80, .inl fq)), (qrem, .inl (cI, 80, .inl fr)), (qother, .inl (cI, 80, .inl fo)), (qunits, .inl (cI, 80, .inl fu)), (qparts, .inl (cI, 320, .inl PF)), (qover, .inl (cI, 8, .inl ov)), (qgiven, .inl (cZ, 8, .inl gv))] 0 0 190 [(8, .int (iI z8)), (7, .int (iI bx)), (6, .int (iI y)), (5, .int (iI ((LF : Nat) : Int))), (0, .ref h), (1, .int (iI ((α : Nat) : Int))), (2, .int (iI ((τ : Nat) : Int))), (3, .int (iI ((ν : Nat) : Int)))] [] := by
    intro c
    induction c with
    | zero => intro i z8 bx k y LF g fnum fd fq fr fo fu PF ov gv h1 h2 h8 hB hgv hOV hS hy hkn hnext; omega
    | succ c ih =>
      intro i z8 bx k y LF g fnum fd fq fr fo fu PF ov gv h1 h2 h8 hB hgv hOV hS hy hkn hnext
      refine go_iload O dX4_allocate_190 0 rfl 192 rfl ?_
      refine go_iload_n O dX4_allocate_192 rfl 7 rfl 193 rfl ?_
      have hbx := hBx g i bx hB
      refine go_icmp_ge O dX4_allocate_193 243 (by decide) 196 rfl (by omega) (by omega) (fun h193 => ?_) (fun h193 => ?_)
      · have ei : i = ν := by omega
        rw [ei] at hB
        obtain ⟨b, rfl, hbn, hS2⟩ := Bst_end hB hS (by omega)
        refine go_aload_n O dX4_allocate_243 rfl 4 rfl 244 rfl ?_
        refine go_get O hK dX4_allocate_244 hinX4 0 rfl rfl 19 (by decide) flX4_56 f_given 247 rfl ?_
        refine go_iload O dX4_allocate_247 1 rfl 249 rfl ?_
        refine go_iconst O dX4_allocate_249 250 rfl ?_
        refine go_zast O hK dX4_allocate_250 14 1 rfl rfl b rfl (by omega) (by omega) rfl (upd gv b (iI 1)) (fun _ _ => rfl) [(h, .inr (4, fs)), (qcurrency, .inl (cI, 8, .inl fc)), (qisWide, .inl (cZ, 8, .inl fw)), (qnegative, .inl (cZ, 8, .inl fn)), (qkept, .inl (cI, 320, .inl K)), (qratios, .inl (cI, 8, .inl (fun j => iI (ra j)))), (qnum, .inl (cI, 80, .inl fnum)), (qden, .inl (cI, 80, .inl fd)), (qquo, .inl (cI, 80, .inl fq)), (qrem, .inl (cI, 80, .inl fr)), (qother, .inl (cI, 80, .inl fo)), (qunits, .inl (cI, 80, .inl fu)), (qparts, .inl (cI, 320, .inl PF)), (qover, .inl (cI, 8, .inl ov)), (qgiven, .inl (cZ, 8, .inl (upd gv b (iI 1))))] rfl 251 rfl ?_
        refine go_iinc O dX4_allocate_251 2 rfl ((k + 1 : Nat) : Int) (by omega) (by decide) [(6, .int (iI ((k + 1 : Nat) : Int))), (8, .int (iI z8)), (7, .int (iI ((b : Nat) : Int))), (5, .int (iI ((LF : Nat) : Int))), (0, .ref h), (1, .int (iI ((α : Nat) : Int))), (2, .int (iI ((τ : Nat) : Int))), (3, .int (iI ((ν : Nat) : Int)))] rfl 254 rfl ?_
        refine go_goto O dX4_allocate_254 177 (by decide) ?_
        refine TGo.lsub (lv' := [(5, .int (iI ((LF : Nat) : Int))), (6, .int (iI ((k + 1 : Nat) : Int))), (0, .ref h), (1, .int (iI ((α : Nat) : Int))), (2, .int (iI ((τ : Nat) : Int))), (3, .int (iI ((ν : Nat) : Int)))]) [3, 0, 4, 5, 6, 7] rfl ?_
        exact hnext (gup g b) _ (ORw_up hgv) hS2
      · refine go_aload_n O dX4_allocate_196 rfl 4 rfl 197 rfl ?_
        refine go_get O hK dX4_allocate_197 hinX4 0 rfl rfl 19 (by decide) flX4_56 f_given 200 rfl ?_
        refine go_iload O dX4_allocate_200 0 rfl 202 rfl ?_
        refine go_zald O hK dX4_allocate_202 14 1 rfl rfl i h8 (by omega) (by omega) (bz (g i)) (hgv i (by omega)) 203 rfl ?_
        refine go_if_ne O dX4_allocate_203 233 (by decide) 206 rfl (bz_r _) (fun h203 => ?_) (fun h203 => ?_)
        · refine go_iload O dX4_allocate_233 1 rfl 235 rfl ?_
          refine go_istore O dX4_allocate_235 (by decide) [(7, .int (iI bx)), (8, .int (iI z8)), (6, .int (iI y)), (5, .int (iI ((LF : Nat) : Int))), (0, .ref h), (1, .int (iI ((α : Nat) : Int))), (2, .int (iI ((τ : Nat) : Int))), (3, .int (iI ((ν : Nat) : Int)))] rfl 237 rfl ?_
          refine go_iinc O dX4_allocate_237 1 rfl ((i + 1 : Nat) : Int) (by omega) (by decide) [(8, .int (iI ((i + 1 : Nat) : Int))), (7, .int (iI bx)), (6, .int (iI y)), (5, .int (iI ((LF : Nat) : Int))), (0, .ref h), (1, .int (iI ((α : Nat) : Int))), (2, .int (iI ((τ : Nat) : Int))), (3, .int (iI ((ν : Nat) : Int)))] rfl 240 rfl ?_
          refine go_goto O dX4_allocate_240 190 (by decide) ?_
          refine TGo.lsub (lv' := [(8, .int (iI ((i + 1 : Nat) : Int))), (7, .int (iI bx)), (6, .int (iI y)), (5, .int (iI ((LF : Nat) : Int))), (0, .ref h), (1, .int (iI ((α : Nat) : Int))), (2, .int (iI ((τ : Nat) : Int))), (3, .int (iI ((ν : Nat) : Int)))]) [0, 1, 2, 3, 4, 5, 6, 7] rfl ?_
          exact ih (i + 1) _ _ k y LF g fnum fd fq fr fo fu PF ov gv (by omega) (by omega) (by omega) (Bst_keep hB (bz_ne h203)) hgv hOV hS hy hkn hnext
        · refine go_iload O dX4_allocate_206 1 rfl 208 rfl ?_
          refine go_if_lt O dX4_allocate_208 228 (by decide) 211 rfl (by omega) (fun h208 => ?_) (fun h208 => ?_)
          · subst h8
            refine go_iload O dX4_allocate_228 0 rfl 230 rfl ?_
            refine go_goto O dX4_allocate_230 235 (by decide) ?_
            refine go_istore O dX4_allocate_235 (by decide) [(7, .int (iI ((i : Nat) : Int))), (8, .int (iI ((i : Nat) : Int))), (6, .int (iI y)), (5, .int (iI ((LF : Nat) : Int))), (0, .ref h), (1, .int (iI ((α : Nat) : Int))), (2, .int (iI ((τ : Nat) : Int))), (3, .int (iI ((ν : Nat) : Int)))] rfl 237 rfl ?_
            refine go_iinc O dX4_allocate_237 1 rfl ((i + 1 : Nat) : Int) (by omega) (by decide) [(8, .int (iI ((i + 1 : Nat) : Int))), (7, .int (iI ((i : Nat) : Int))), (6, .int (iI y)), (5, .int (iI ((LF : Nat) : Int))), (0, .ref h), (1, .int (iI ((α : Nat) : Int))), (2, .int (iI ((τ : Nat) : Int))), (3, .int (iI ((ν : Nat) : Int)))] rfl 240 rfl ?_
            refine go_goto O dX4_allocate_240 190 (by decide) ?_
            refine TGo.lsub (lv' := [(8, .int (iI ((i + 1 : Nat) : Int))), (7, .int (iI ((i : Nat) : Int))), (6, .int (iI y)), (5, .int (iI ((LF : Nat) : Int))), (0, .ref h), (1, .int (iI ((α : Nat) : Int))), (2, .int (iI ((τ : Nat) : Int))), (3, .int (iI ((ν : Nat) : Int)))]) [0, 1, 2, 3, 4, 5, 6, 7] rfl ?_
            exact ih (i + 1) _ _ k y LF g fnum fd fq fr fo fu PF ov gv (by omega) (by omega) (by omega) (Bst_new hB (bz_0.mp h203) (Or.inl h208)) hgv hOV hS hy hkn hnext
          · obtain ⟨b, rfl⟩ : ∃ b : Nat, bx = (b : Int) := ⟨bx.toNat, by omega⟩
            have hob1 := hOb i
            have hob2 := hOb b
            refine go_aload_n O dX4_allocate_211 rfl 4 rfl 212 rfl ?_
            refine go_get O hK dX4_allocate_212 hinX4 0 rfl rfl 18 (by decide) flX4_53 f_over 215 rfl ?_
            refine go_iload O dX4_allocate_215 0 rfl 217 rfl ?_
            refine go_iald O hK dX4_allocate_217 13 0 rfl rfl i h8 (by omega) (by omega) ((aO ra al U i : Nat) : Int) (hOV i (by omega)) 218 rfl ?_
            refine go_aload_n O dX4_allocate_218 rfl 4 rfl 219 rfl ?_
            refine go_get O hK dX4_allocate_219 hinX4 0 rfl rfl 18 (by decide) flX4_53 f_over 222 rfl ?_
            refine go_iload O dX4_allocate_222 1 rfl 224 rfl ?_
            refine go_iald O hK dX4_allocate_224 13 0 rfl rfl b rfl (by omega) (by omega) ((aO ra al U b : Nat) : Int) (hOV b (by omega)) 225 rfl ?_
            refine go_icmp_le O dX4_allocate_225 233 (by decide) 228 rfl (by omega) (by omega) (fun h225 => ?_) (fun h225 => ?_)
            · refine go_iload O dX4_allocate_233 1 rfl 235 rfl ?_
              refine go_istore O dX4_allocate_235 (by decide) [(7, .int (iI ((b : Nat) : Int))), (8, .int (iI z8)), (6, .int (iI y)), (5, .int (iI ((LF : Nat) : Int))), (0, .ref h), (1, .int (iI ((α : Nat) : Int))), (2, .int (iI ((τ : Nat) : Int))), (3, .int (iI ((ν : Nat) : Int)))] rfl 237 rfl ?_
              refine go_iinc O dX4_allocate_237 1 rfl ((i + 1 : Nat) : Int) (by omega) (by decide) [(8, .int (iI ((i + 1 : Nat) : Int))), (7, .int (iI ((b : Nat) : Int))), (6, .int (iI y)), (5, .int (iI ((LF : Nat) : Int))), (0, .ref h), (1, .int (iI ((α : Nat) : Int))), (2, .int (iI ((τ : Nat) : Int))), (3, .int (iI ((ν : Nat) : Int)))] rfl 240 rfl ?_
              refine go_goto O dX4_allocate_240 190 (by decide) ?_
              refine TGo.lsub (lv' := [(8, .int (iI ((i + 1 : Nat) : Int))), (7, .int (iI ((b : Nat) : Int))), (6, .int (iI y)), (5, .int (iI ((LF : Nat) : Int))), (0, .ref h), (1, .int (iI ((α : Nat) : Int))), (2, .int (iI ((τ : Nat) : Int))), (3, .int (iI ((ν : Nat) : Int)))]) [0, 1, 2, 3, 4, 5, 6, 7] rfl ?_
              exact ih (i + 1) _ _ k y LF g fnum fd fq fr fo fu PF ov gv (by omega) (by omega) (by omega) (Bst_stay hB (bz_0.mp h203) (by omega)) hgv hOV hS hy hkn hnext
            · subst h8
              refine go_iload O dX4_allocate_228 0 rfl 230 rfl ?_
              refine go_goto O dX4_allocate_230 235 (by decide) ?_
              refine go_istore O dX4_allocate_235 (by decide) [(7, .int (iI ((i : Nat) : Int))), (8, .int (iI ((i : Nat) : Int))), (6, .int (iI y)), (5, .int (iI ((LF : Nat) : Int))), (0, .ref h), (1, .int (iI ((α : Nat) : Int))), (2, .int (iI ((τ : Nat) : Int))), (3, .int (iI ((ν : Nat) : Int)))] rfl 237 rfl ?_
              refine go_iinc O dX4_allocate_237 1 rfl ((i + 1 : Nat) : Int) (by omega) (by decide) [(8, .int (iI ((i + 1 : Nat) : Int))), (7, .int (iI ((i : Nat) : Int))), (6, .int (iI y)), (5, .int (iI ((LF : Nat) : Int))), (0, .ref h), (1, .int (iI ((α : Nat) : Int))), (2, .int (iI ((τ : Nat) : Int))), (3, .int (iI ((ν : Nat) : Int)))] rfl 240 rfl ?_
              refine go_goto O dX4_allocate_240 190 (by decide) ?_
              refine TGo.lsub (lv' := [(8, .int (iI ((i + 1 : Nat) : Int))), (7, .int (iI ((i : Nat) : Int))), (6, .int (iI y)), (5, .int (iI ((LF : Nat) : Int))), (0, .ref h), (1, .int (iI ((α : Nat) : Int))), (2, .int (iI ((τ : Nat) : Int))), (3, .int (iI ((ν : Nat) : Int)))]) [0, 1, 2, 3, 4, 5, 6, 7] rfl ?_
              exact ih (i + 1) _ _ k y LF g fnum fd fq fr fo fu PF ov gv (by omega) (by omega) (by omega) (Bst_new hB (bz_0.mp h203) (Or.inr ⟨b, rfl, by omega⟩)) hgv hOV hS hy hkn hnext
  have lp3 : ∀ (c : Nat) (k : Nat) (y : Int) (LF : Nat) (g : Nat → Bool) (fnum : Nat → Int32) (fd : Nat → Int32) (fq : Nat → Int32) (fr : Nat → Int32) (fo : Nat → Int32) (fu : Nat → Int32) (PF : Nat → Int32) (ov : Nat → Int32) (gv : Nat → Int32), c + k = LF + 1 → k ≤ LF → y = (k : Int) → (LF = tsm (aO ra al U) ν / al ∧ LF < ν) → PRw ra al U ν PF → ORw (fun k => ((aO ra al U k : Nat) : Int)) ν ov → ORw (fun i => bz (g i)) ν gv → SelOk (aO ra al U) ν k g → TGo X [(h, .inr (4, fs)), (qcurrency, .inl (cI, 8, .inl fc)), (qisWide, .inl (cZ, 8, .inl fw)), (qnegative, .inl (cZ, 8, .inl fn)), (qkept, .inl (cI, 320, .inl K)), (qratios, .inl (cI, 8, .inl (fun j => iI (ra j)))), (qnum, .inl (cI, 80, .inl fnum)), (qden, .inl (cI, 80, .inl fd)), (qquo, .inl (cI, 80, .inl fq)), (qrem, .inl (cI, 80, .inl fr)), (qother, .inl (cI, 80, .inl fo)), (qunits, .inl (cI, 80, .inl fu)), (qparts, .inl (cI, 320, .inl PF)), (qover, .inl (cI, 8, .inl ov)), (qgiven, .inl (cZ, 8, .inl gv))] 0 0 177 [(5, .int (iI ((LF : Nat) : Int))), (6, .int (iI y)), (0, .ref h), (1, .int (iI ((α : Nat) : Int))), (2, .int (iI ((τ : Nat) : Int))), (3, .int (iI ((ν : Nat) : Int)))] [] := by
    intro c
    induction c with
    | zero => intro k y LF g fnum fd fq fr fo fu PF ov gv h1 h2 hy hLF hPR hOV hgv hS; omega
    | succ c ih =>
      intro k y LF g fnum fd fq fr fo fu PF ov gv h1 h2 hy hLF hPR hOV hgv hS
      refine go_iload O dX4_allocate_177 1 rfl 179 rfl ?_
      refine go_iload O dX4_allocate_179 0 rfl 181 rfl ?_
      refine go_icmp_ge O dX4_allocate_181 257 (by decide) 184 rfl (by omega) (by omega) (fun h181 => ?_) (fun h181 => ?_)
      · refine go_iconst O dX4_allocate_257 258 rfl ?_
        refine go_istore O dX4_allocate_258 (by decide) [(6, .int (iI 0)), (5, .int (iI ((LF : Nat) : Int))), (0, .ref h), (1, .int (iI ((α : Nat) : Int))), (2, .int (iI ((τ : Nat) : Int))), (3, .int (iI ((ν : Nat) : Int)))] rfl 260 rfl ?_
        refine TGo.lsub (lv' := [(6, .int (iI 0)), (0, .ref h), (1, .int (iI ((α : Nat) : Int))), (2, .int (iI ((τ : Nat) : Int))), (3, .int (iI ((ν : Nat) : Int)))]) [0, 2, 3, 4, 5] rfl ?_
        have ek : k = tsm (aO ra al U) ν / al := by omega
        exact lp4 (ν + 1) 0 _ _ _ _ _ fnum fd fq fr fo fu PF ov gv (by omega) (by omega) rfl (by rw [ralc_0]; exact hMR) hPR (fun i hi => by rw [hgv i hi, ← ek]; show iI (bz (g i)) = iI (bz _); rw [Sel_end hS hi])
      · refine go_iconst O dX4_allocate_184 185 rfl ?_
        refine go_istore O dX4_allocate_185 (by decide) [(7, .int (iI (-1))), (5, .int (iI ((LF : Nat) : Int))), (6, .int (iI y)), (0, .ref h), (1, .int (iI ((α : Nat) : Int))), (2, .int (iI ((τ : Nat) : Int))), (3, .int (iI ((ν : Nat) : Int)))] rfl 187 rfl ?_
        refine go_iconst O dX4_allocate_187 188 rfl ?_
        refine go_istore O dX4_allocate_188 (by decide) [(8, .int (iI 0)), (7, .int (iI (-1))), (5, .int (iI ((LF : Nat) : Int))), (6, .int (iI y)), (0, .ref h), (1, .int (iI ((α : Nat) : Int))), (2, .int (iI ((τ : Nat) : Int))), (3, .int (iI ((ν : Nat) : Int)))] rfl 190 rfl ?_
        refine TGo.lsub (lv' := [(8, .int (iI 0)), (7, .int (iI (-1))), (6, .int (iI y)), (5, .int (iI ((LF : Nat) : Int))), (0, .ref h), (1, .int (iI ((α : Nat) : Int))), (2, .int (iI ((τ : Nat) : Int))), (3, .int (iI ((ν : Nat) : Int)))]) [0, 1, 3, 2, 4, 5, 6, 7] rfl ?_
        exact li3 (ν + 1) 0 _ _ k y LF g fnum fd fq fr fo fu PF ov gv (by omega) (by omega) rfl Bst_0 hgv hOV hS hy (by omega) (fun g2 gv2 hg2 hS2 => ih (k + 1) _ LF g2 fnum fd fq fr fo fu PF ov gv2 (by omega) (by omega) rfl hLF hPR hOV hg2 hS2)
  have lp2 : ∀ (c : Nat) (i : Nat) (x : Int) (fnum : Nat → Int32) (fd : Nat → Int32) (fq : Nat → Int32) (fr : Nat → Int32) (fo : Nat → Int32) (PF : Nat → Int32) (ov : Nat → Int32) (gv : Nat → Int32), c + i = ν + 1 → i ≤ ν → x = (i : Int) → PRw ra al U i PF → ORw (fun k => ((aO ra al U k : Nat) : Int)) i ov → ORw (fun _ => bz false) i gv → TGo X [(h, .inr (4, fs)), (qcurrency, .inl (cI, 8, .inl fc)), (qisWide, .inl (cZ, 8, .inl fw)), (qnegative, .inl (cZ, 8, .inl fn)), (qkept, .inl (cI, 320, .inl K)), (qratios, .inl (cI, 8, .inl (fun j => iI (ra j)))), (qnum, .inl (cI, 80, .inl fnum)), (qden, .inl (cI, 80, .inl fd)), (qquo, .inl (cI, 80, .inl fq)), (qrem, .inl (cI, 80, .inl fr)), (qother, .inl (cI, 80, .inl fo)), (qunits, .inl (cI, 80, .inl (dg U))), (qparts, .inl (cI, 320, .inl PF)), (qover, .inl (cI, 8, .inl ov)), (qgiven, .inl (cZ, 8, .inl gv))] 0 0 147 [(4, .int (iI ((al : Nat) : Int))), (5, .int (iI x)), (0, .ref h), (1, .int (iI ((α : Nat) : Int))), (2, .int (iI ((τ : Nat) : Int))), (3, .int (iI ((ν : Nat) : Int)))] [] := by
    intro c
    induction c with
    | zero => intro i x fnum fd fq fr fo PF ov gv h1 h2 hx hPR hOV hGV; omega
    | succ c ih =>
      intro i x fnum fd fq fr fo PF ov gv h1 h2 hx hPR hOV hGV
      refine go_iload O dX4_allocate_147 1 rfl 149 rfl ?_
      refine go_iload_n O dX4_allocate_149 rfl 5 rfl 150 rfl ?_
      refine go_icmp_ge O dX4_allocate_150 167 (by decide) 153 rfl (by omega) (by omega) (fun h150 => ?_) (fun h150 => ?_)
      · have ei : i = ν := by omega
        rw [ei] at hPR hOV hGV
        refine go_aload_n O dX4_allocate_167 rfl 2 rfl 168 rfl ?_
        refine go_iload_n O dX4_allocate_168 rfl 5 rfl 169 rfl ?_
        refine go_calliV (As := [.int (iI ((ν : Nat) : Int))]) (rest := []) (wr := [(qcurrency, .inl (cI, 8, .inl fc)), (qisWide, .inl (cZ, 8, .inl fw)), (qnegative, .inl (cZ, 8, .inl fn)), (qkept, .inl (cI, 320, .inl K)), (qratios, .inl (cI, 8, .inl (fun j => iI (ra j)))), (qnum, .inl (cI, 80, .inl fnum)), (qden, .inl (cI, 80, .inl fd)), (qquo, .inl (cI, 80, .inl fq)), (qover, .inl (cI, 8, .inl ov)), (qgiven, .inl (cZ, 8, .inl gv))]) O hK hE (c_X4_left E hE h fs f_units f_rem f_other f_parts cI fr fo PF ra ν al U hal.symm hz1 (by omega) (by omega) hPR hPb) mlX4_156 imX4_left seX4_left inX4 cdX4_left 1 (by decide +kernel) ⟨Nat.le_of_ble_eq_true rfl, Nat.le_of_ble_eq_true rfl⟩ 0 rfl rfl [0] rfl [0, 11, 9, 10, 12] rfl (by decide) [1, 2, 3, 4, 5, 6, 7, 8, 13, 14] rfl (by decide) (by decide) rfl rfl (Nat.le_of_ble_eq_true rfl) ⟨Nat.zero_le _, Nat.zero_le _⟩ dX4_allocate_169 172 rfl (fun z u hu => ?_)
        obtain ⟨fr2, fo2⟩ := u
        have hl := left_eq (U := U) hal.symm hz1 (by omega)
        obtain ⟨LF, hLF⟩ : ∃ y, y = tsm (aO ra al U) ν / al := ⟨_, rfl⟩
        rw [hl.2.1, ← hLF] at hu
        rw [← hLF] at hl
        rw [mod9 (by omega)] at hu
        subst hu
        show TGo X [(qcurrency, .inl (cI, 8, .inl fc)), (qisWide, .inl (cZ, 8, .inl fw)), (qnegative, .inl (cZ, 8, .inl fn)), (qkept, .inl (cI, 320, .inl K)), (qratios, .inl (cI, 8, .inl (fun j => iI (ra j)))), (qnum, .inl (cI, 80, .inl fnum)), (qden, .inl (cI, 80, .inl fd)), (qquo, .inl (cI, 80, .inl fq)), (qover, .inl (cI, 8, .inl ov)), (qgiven, .inl (cZ, 8, .inl gv)), (h, .inr (4, fs)), (qunits, .inl (cI, 80, .inl (dg U))), (qrem, .inl (cI, 80, .inl fr2)), (qother, .inl (cI, 80, .inl fo2)), (qparts, .inl (cI, 320, .inl PF))] 0 0 172 [(4, .int (iI ((al : Nat) : Int))), (5, .int (iI x)), (0, .ref h), (1, .int (iI ((α : Nat) : Int))), (2, .int (iI ((τ : Nat) : Int))), (3, .int (iI ((ν : Nat) : Int)))] [.int (iI ((LF : Nat) : Int))]
        refine TGo.sub (ws' := [(h, .inr (4, fs)), (qcurrency, .inl (cI, 8, .inl fc)), (qisWide, .inl (cZ, 8, .inl fw)), (qnegative, .inl (cZ, 8, .inl fn)), (qkept, .inl (cI, 320, .inl K)), (qratios, .inl (cI, 8, .inl (fun j => iI (ra j)))), (qnum, .inl (cI, 80, .inl fnum)), (qden, .inl (cI, 80, .inl fd)), (qquo, .inl (cI, 80, .inl fq)), (qrem, .inl (cI, 80, .inl fr2)), (qother, .inl (cI, 80, .inl fo2)), (qunits, .inl (cI, 80, .inl (dg U))), (qparts, .inl (cI, 320, .inl PF)), (qover, .inl (cI, 8, .inl ov)), (qgiven, .inl (cZ, 8, .inl gv))]) [10, 0, 1, 2, 3, 4, 5, 6, 7, 12, 13, 11, 14, 8, 9] (by decide) rfl ?_
        refine go_istore O dX4_allocate_172 (by decide) [(5, .int (iI ((LF : Nat) : Int))), (4, .int (iI ((al : Nat) : Int))), (0, .ref h), (1, .int (iI ((α : Nat) : Int))), (2, .int (iI ((τ : Nat) : Int))), (3, .int (iI ((ν : Nat) : Int)))] rfl 174 rfl ?_
        refine go_iconst O dX4_allocate_174 175 rfl ?_
        refine go_istore O dX4_allocate_175 (by decide) [(6, .int (iI 0)), (5, .int (iI ((LF : Nat) : Int))), (4, .int (iI ((al : Nat) : Int))), (0, .ref h), (1, .int (iI ((α : Nat) : Int))), (2, .int (iI ((τ : Nat) : Int))), (3, .int (iI ((ν : Nat) : Int)))] rfl 177 rfl ?_
        refine TGo.lsub (lv' := [(5, .int (iI ((LF : Nat) : Int))), (6, .int (iI 0)), (0, .ref h), (1, .int (iI ((α : Nat) : Int))), (2, .int (iI ((τ : Nat) : Int))), (3, .int (iI ((ν : Nat) : Int)))]) [1, 0, 3, 4, 5, 6] rfl ?_
        exact lp3 (LF + 1) 0 _ LF (fun _ => false) _ _ _ _ _ _ _ _ _ (by omega) (by omega) rfl ⟨hLF, by omega⟩ hPR hOV hGV Sel_0
      · subst hx
        refine go_aload_n O dX4_allocate_153 rfl 2 rfl 154 rfl ?_
        refine go_iload O dX4_allocate_154 1 rfl 156 rfl ?_
        refine go_iload O dX4_allocate_156 0 rfl 158 rfl ?_
        refine go_callvV (As := [.int (iI ((i : Nat) : Int)), .int (iI ((al : Nat) : Int))]) (rest := []) (wr := [(qcurrency, .inl (cI, 8, .inl fc)), (qisWide, .inl (cZ, 8, .inl fw)), (qnegative, .inl (cZ, 8, .inl fn)), (qkept, .inl (cI, 320, .inl K))]) O hK hE (c_X4_cut E hE h fs f_other f_ratios f_units f_num f_den f_quo f_rem f_parts f_over f_given cI cZ fo fnum fd fq fr PF ov gv ra hRa i al U (by omega) (by omega) hU36) mlX4_153 imX4_cut seX4_cut inX4 cdX4_cut 2 (by decide +kernel) ⟨Nat.le_of_ble_eq_true rfl, Nat.le_of_ble_eq_true rfl⟩ 0 rfl rfl [0, 1] rfl [0, 10, 5, 11, 6, 7, 8, 9, 12, 13, 14] rfl (by decide) [1, 2, 3, 4] rfl (by decide) (by decide) rfl rfl (Nat.le_of_ble_eq_true rfl) ⟨Nat.zero_le _, Nat.zero_le _⟩ dX4_allocate_158 161 rfl (fun u hu => ?_)
        obtain ⟨PF2, rfl⟩ : ∃ y, y = u := ⟨_, rfl⟩
        obtain ⟨hp1, hp2⟩ := hu
        show TGo X [(qcurrency, .inl (cI, 8, .inl fc)), (qisWide, .inl (cZ, 8, .inl fw)), (qnegative, .inl (cZ, 8, .inl fn)), (qkept, .inl (cI, 320, .inl K)), (h, .inr (4, fs)), (qother, .inl (cI, 80, .inl (dg (ra i).natAbs))), (qratios, .inl (cI, 8, .inl (fun j => iI (ra j)))), (qunits, .inl (cI, 80, .inl (dg U))), (qnum, .inl (cI, 80, .inl (dg (U * (ra i).natAbs)))), (qden, .inl (cI, 80, .inl (dg al))), (qquo, .inl (cI, 80, .inl (dg (aP ra al U i)))), (qrem, .inl (cI, 80, .inl (dg (aO ra al U i)))), (qparts, .inl (cI, 320, .inl PF2)), (qover, .inl (cI, 8, .inl (upd ov i (iI ((aO ra al U i : Nat) : Int))))), (qgiven, .inl (cZ, 8, .inl (upd gv i (iI 0))))] 0 0 161 [(4, .int (iI ((al : Nat) : Int))), (5, .int (iI ((i : Nat) : Int))), (0, .ref h), (1, .int (iI ((α : Nat) : Int))), (2, .int (iI ((τ : Nat) : Int))), (3, .int (iI ((ν : Nat) : Int)))] []
        refine TGo.sub (ws' := [(h, .inr (4, fs)), (qcurrency, .inl (cI, 8, .inl fc)), (qisWide, .inl (cZ, 8, .inl fw)), (qnegative, .inl (cZ, 8, .inl fn)), (qkept, .inl (cI, 320, .inl K)), (qratios, .inl (cI, 8, .inl (fun j => iI (ra j)))), (qnum, .inl (cI, 80, .inl (dg (U * (ra i).natAbs)))), (qden, .inl (cI, 80, .inl (dg al))), (qquo, .inl (cI, 80, .inl (dg (aP ra al U i)))), (qrem, .inl (cI, 80, .inl (dg (aO ra al U i)))), (qother, .inl (cI, 80, .inl (dg (ra i).natAbs))), (qunits, .inl (cI, 80, .inl (dg U))), (qparts, .inl (cI, 320, .inl PF2)), (qover, .inl (cI, 8, .inl (upd ov i (iI ((aO ra al U i : Nat) : Int))))), (qgiven, .inl (cZ, 8, .inl (upd gv i (iI 0))))]) [4, 0, 1, 2, 3, 6, 8, 9, 10, 11, 5, 7, 12, 13, 14] (by decide) rfl ?_
        refine go_iinc O dX4_allocate_161 1 rfl ((i + 1 : Nat) : Int) (by omega) (by decide) [(5, .int (iI ((i + 1 : Nat) : Int))), (4, .int (iI ((al : Nat) : Int))), (0, .ref h), (1, .int (iI ((α : Nat) : Int))), (2, .int (iI ((τ : Nat) : Int))), (3, .int (iI ((ν : Nat) : Int)))] rfl 164 rfl ?_
        refine go_goto O dX4_allocate_164 147 (by decide) ?_
        refine TGo.lsub (lv' := [(4, .int (iI ((al : Nat) : Int))), (5, .int (iI ((i + 1 : Nat) : Int))), (0, .ref h), (1, .int (iI ((α : Nat) : Int))), (2, .int (iI ((τ : Nat) : Int))), (3, .int (iI ((ν : Nat) : Int)))]) [1, 0, 2, 3, 4, 5] rfl ?_
        exact ih (i + 1) _ _ _ _ _ _ _ _ _ (by omega) (by omega) rfl (PRw_s hPR hp1 hp2) (ORw_s hOV rfl) (ORw_s hGV rfl)
  have o1 := tout_i (x := ((α : Nat) : Int)) (e := 8)
  have o2 := tout_i (x := ((τ : Nat) : Int)) (e := 8)
  have hb := tsw_le (n := ν) hRa
  have lp1 : ∀ (c : Nat) (i : Nat) (x : Int) (v : Nat), c + i = ν + 1 → i ≤ ν → x = (i : Int) → v = tsm (wra ra) i → TGo X [(h, .inr (4, fs)), (qcurrency, .inl (cI, 8, .inl fc)), (qisWide, .inl (cZ, 8, .inl fw)), (qnegative, .inl (cZ, 8, .inl fn)), (qkept, .inl (cI, 320, .inl K)), (qratios, .inl (cI, 8, .inl (fun j => iI (ra j)))), (qnum, .inl (cI, 80, .inl fnum)), (qden, .inl (cI, 80, .inl fd)), (qquo, .inl (cI, 80, .inl fq)), (qrem, .inl (cI, 80, .inl fr)), (qother, .inl (cI, 80, .inl fo)), (qunits, .inl (cI, 80, .inl fu)), (qparts, .inl (cI, 320, .inl PF)), (qover, .inl (cI, 8, .inl ov)), (qgiven, .inl (cZ, 8, .inl gv))] 0 0 52 [(4, .int (iI ((v : Nat) : Int))), (5, .int (iI x)), (0, .ref h), (1, .int (iI ((α : Nat) : Int))), (2, .int (iI ((τ : Nat) : Int))), (3, .int (iI ((ν : Nat) : Int)))] [] := by
    intro c
    induction c with
    | zero => intro i x v h1 h2 hx hv; omega
    | succ c ih =>
      intro i x v h1 h2 hx hv
      refine go_iload O dX4_allocate_52 1 rfl 54 rfl ?_
      refine go_iload_n O dX4_allocate_54 rfl 5 rfl 55 rfl ?_
      refine go_icmp_ge O dX4_allocate_55 76 (by decide) 58 rfl (by omega) (by omega) (fun h55 => ?_) (fun h55 => ?_)
      · have ei : i = ν := by omega
        have hvn : v = tsm (wra ra) ν := by rw [hv, ei]
        refine go_iload O dX4_allocate_76 0 rfl 78 rfl ?_
        refine go_if_ne O dX4_allocate_78 84 (by decide) 81 rfl (by omega) (fun h78 => ?_) (fun h78 => by omega)
        refine go_aload_n O dX4_allocate_84 rfl 2 rfl 85 rfl ?_
        refine go_get O hK dX4_allocate_85 hinX4 0 rfl rfl 3 (by decide) flX4_7 f_currency 88 rfl ?_
        refine go_iload_n O dX4_allocate_88 rfl 3 rfl 89 rfl ?_
        refine go_iald O hK dX4_allocate_89 1 0 rfl rfl α rfl (by omega) (by omega) c0 e1 90 rfl ?_
        refine go_if_ge O dX4_allocate_90 96 (by decide) 93 rfl (by omega) (fun h90 => ?_) (fun h90 => by omega)
        refine go_aload_n O dX4_allocate_96 rfl 2 rfl 97 rfl ?_
        refine go_aload_n O dX4_allocate_97 rfl 2 rfl 98 rfl ?_
        refine go_get O hK dX4_allocate_98 hinX4 0 rfl rfl 3 (by decide) flX4_7 f_currency 101 rfl ?_
        refine go_iload_n O dX4_allocate_101 rfl 3 rfl 102 rfl ?_
        refine go_iald O hK dX4_allocate_102 1 0 rfl rfl α rfl (by omega) (by omega) c0 e1 103 rfl ?_
        refine go_iconst O dX4_allocate_103 104 rfl ?_
        refine TGo.topi (y := ((1 : Nat) : Int)) rfl ?_
        refine go_callvV (As := [.int (iI c0), .int (iI ((1 : Nat) : Int))]) (rest := []) (wr := [(qcurrency, .inl (cI, 8, .inl fc)), (qisWide, .inl (cZ, 8, .inl fw)), (qnegative, .inl (cZ, 8, .inl fn)), (qkept, .inl (cI, 320, .inl K)), (qratios, .inl (cI, 8, .inl (fun j => iI (ra j)))), (qnum, .inl (cI, 80, .inl fnum)), (qquo, .inl (cI, 80, .inl fq)), (qrem, .inl (cI, 80, .inl fr)), (qother, .inl (cI, 80, .inl fo)), (qunits, .inl (cI, 80, .inl fu)), (qparts, .inl (cI, 320, .inl PF)), (qover, .inl (cI, 8, .inl ov)), (qgiven, .inl (cZ, 8, .inl gv))]) O hK hE (c_X4_step E hE h fs f_den cI fd c0 (by omega) 1 (by omega)) mlX4_145 imX4_step seX4_step inX4 cdX4_step 2 (by decide +kernel) ⟨Nat.le_of_ble_eq_true rfl, Nat.le_of_ble_eq_true rfl⟩ 0 rfl rfl [0] rfl [0, 7] rfl (by decide) [1, 2, 3, 4, 5, 6, 8, 9, 10, 11, 12, 13, 14] rfl (by decide) (by decide) rfl rfl (Nat.le_of_ble_eq_true rfl) ⟨Nat.zero_le _, Nat.zero_le _⟩ dX4_allocate_104 107 rfl (fun u hu => ?_)
        show TGo X [(qcurrency, .inl (cI, 8, .inl fc)), (qisWide, .inl (cZ, 8, .inl fw)), (qnegative, .inl (cZ, 8, .inl fn)), (qkept, .inl (cI, 320, .inl K)), (qratios, .inl (cI, 8, .inl (fun j => iI (ra j)))), (qnum, .inl (cI, 80, .inl fnum)), (qquo, .inl (cI, 80, .inl fq)), (qrem, .inl (cI, 80, .inl fr)), (qother, .inl (cI, 80, .inl fo)), (qunits, .inl (cI, 80, .inl fu)), (qparts, .inl (cI, 320, .inl PF)), (qover, .inl (cI, 8, .inl ov)), (qgiven, .inl (cZ, 8, .inl gv)), (h, .inr (4, fs)), (qden, .inl (cI, 80, .inl (dg (1 * 10 ^ (10 - tdig c0)))))] 0 0 107 [(4, .int (iI ((v : Nat) : Int))), (5, .int (iI x)), (0, .ref h), (1, .int (iI ((α : Nat) : Int))), (2, .int (iI ((τ : Nat) : Int))), (3, .int (iI ((ν : Nat) : Int)))] []
        refine TGo.sub (ws' := [(h, .inr (4, fs)), (qcurrency, .inl (cI, 8, .inl fc)), (qisWide, .inl (cZ, 8, .inl fw)), (qnegative, .inl (cZ, 8, .inl fn)), (qkept, .inl (cI, 320, .inl K)), (qratios, .inl (cI, 8, .inl (fun j => iI (ra j)))), (qnum, .inl (cI, 80, .inl fnum)), (qden, .inl (cI, 80, .inl (dg (1 * 10 ^ (10 - tdig c0))))), (qquo, .inl (cI, 80, .inl fq)), (qrem, .inl (cI, 80, .inl fr)), (qother, .inl (cI, 80, .inl fo)), (qunits, .inl (cI, 80, .inl fu)), (qparts, .inl (cI, 320, .inl PF)), (qover, .inl (cI, 8, .inl ov)), (qgiven, .inl (cZ, 8, .inl gv))]) [13, 0, 1, 2, 3, 4, 5, 14, 6, 7, 8, 9, 10, 11, 12] (by decide) rfl ?_
        refine go_aload_n O dX4_allocate_107 rfl 2 rfl 108 rfl ?_
        refine go_aload_n O dX4_allocate_108 rfl 2 rfl 109 rfl ?_
        refine go_get O hK dX4_allocate_109 hinX4 0 rfl rfl 10 (by decide) flX4_29 f_num 112 rfl ?_
        refine go_iload_n O dX4_allocate_112 rfl 3 rfl 113 rfl ?_
        refine go_callvV (As := [.ref qnum, .int (iI ((α : Nat) : Int))]) (rest := []) (wr := [(qcurrency, .inl (cI, 8, .inl fc)), (qisWide, .inl (cZ, 8, .inl fw)), (qnegative, .inl (cZ, 8, .inl fn)), (qratios, .inl (cI, 8, .inl (fun j => iI (ra j)))), (qden, .inl (cI, 80, .inl (dg (1 * 10 ^ (10 - tdig c0))))), (qquo, .inl (cI, 80, .inl fq)), (qrem, .inl (cI, 80, .inl fr)), (qother, .inl (cI, 80, .inl fo)), (qunits, .inl (cI, 80, .inl fu)), (qparts, .inl (cI, 320, .inl PF)), (qover, .inl (cI, 8, .inl ov)), (qgiven, .inl (cZ, 8, .inl gv))]) O hK hE (c_X4_take E hE h fs f_kept qnum cI K fnum α V0 (by omega) (by omega) hK0) mlX4_131 imX4_take seX4_take inX4 cdX4_take 2 (by decide +kernel) ⟨Nat.le_of_ble_eq_true rfl, Nat.le_of_ble_eq_true rfl⟩ 0 rfl rfl [0] rfl [0, 4, 6] rfl (by decide) [1, 2, 3, 5, 7, 8, 9, 10, 11, 12, 13, 14] rfl (by decide) (by decide) rfl rfl (Nat.le_of_ble_eq_true rfl) ⟨Nat.zero_le _, Nat.zero_le _⟩ dX4_allocate_113 116 rfl (fun u hu => ?_)
        show TGo X [(qcurrency, .inl (cI, 8, .inl fc)), (qisWide, .inl (cZ, 8, .inl fw)), (qnegative, .inl (cZ, 8, .inl fn)), (qratios, .inl (cI, 8, .inl (fun j => iI (ra j)))), (qden, .inl (cI, 80, .inl (dg (1 * 10 ^ (10 - tdig c0))))), (qquo, .inl (cI, 80, .inl fq)), (qrem, .inl (cI, 80, .inl fr)), (qother, .inl (cI, 80, .inl fo)), (qunits, .inl (cI, 80, .inl fu)), (qparts, .inl (cI, 320, .inl PF)), (qover, .inl (cI, 8, .inl ov)), (qgiven, .inl (cZ, 8, .inl gv)), (h, .inr (4, fs)), (qkept, .inl (cI, 320, .inl K)), (qnum, .inl (cI, 80, .inl (dg V0)))] 0 0 116 [(4, .int (iI ((v : Nat) : Int))), (5, .int (iI x)), (0, .ref h), (1, .int (iI ((α : Nat) : Int))), (2, .int (iI ((τ : Nat) : Int))), (3, .int (iI ((ν : Nat) : Int)))] []
        refine TGo.sub (ws' := [(h, .inr (4, fs)), (qcurrency, .inl (cI, 8, .inl fc)), (qisWide, .inl (cZ, 8, .inl fw)), (qnegative, .inl (cZ, 8, .inl fn)), (qkept, .inl (cI, 320, .inl K)), (qratios, .inl (cI, 8, .inl (fun j => iI (ra j)))), (qnum, .inl (cI, 80, .inl (dg V0))), (qden, .inl (cI, 80, .inl (dg (1 * 10 ^ (10 - tdig c0))))), (qquo, .inl (cI, 80, .inl fq)), (qrem, .inl (cI, 80, .inl fr)), (qother, .inl (cI, 80, .inl fo)), (qunits, .inl (cI, 80, .inl fu)), (qparts, .inl (cI, 320, .inl PF)), (qover, .inl (cI, 8, .inl ov)), (qgiven, .inl (cZ, 8, .inl gv))]) [12, 0, 1, 2, 13, 3, 14, 4, 5, 6, 7, 8, 9, 10, 11] (by decide) rfl ?_
        refine go_aload_n O dX4_allocate_116 rfl 2 rfl 117 rfl ?_
        refine go_callvV (As := []) (rest := []) (wr := [(qcurrency, .inl (cI, 8, .inl fc)), (qisWide, .inl (cZ, 8, .inl fw)), (qnegative, .inl (cZ, 8, .inl fn)), (qkept, .inl (cI, 320, .inl K)), (qratios, .inl (cI, 8, .inl (fun j => iI (ra j)))), (qother, .inl (cI, 80, .inl fo)), (qunits, .inl (cI, 80, .inl fu)), (qparts, .inl (cI, 320, .inl PF)), (qover, .inl (cI, 8, .inl ov)), (qgiven, .inl (cZ, 8, .inl gv))]) O hK hE (c_X4_quotient E hE h fs f_num f_den f_quo f_rem cI V0 (1 * 10 ^ (10 - tdig c0)) fq fr (by omega) hD1.1 (by have := hD1.2; omega)) mlX4_108 imX4_quotient seX4_quotient inX4 cdX4_quotient 0 (by decide +kernel) ⟨Nat.le_of_ble_eq_true rfl, Nat.le_of_ble_eq_true rfl⟩ 0 rfl rfl [0] rfl [0, 6, 7, 8, 9] rfl (by decide) [1, 2, 3, 4, 5, 10, 11, 12, 13, 14] rfl (by decide) (by decide) rfl rfl (Nat.le_of_ble_eq_true rfl) ⟨Nat.zero_le _, Nat.zero_le _⟩ dX4_allocate_117 120 rfl (fun u hu => ?_)
        show TGo X [(qcurrency, .inl (cI, 8, .inl fc)), (qisWide, .inl (cZ, 8, .inl fw)), (qnegative, .inl (cZ, 8, .inl fn)), (qkept, .inl (cI, 320, .inl K)), (qratios, .inl (cI, 8, .inl (fun j => iI (ra j)))), (qother, .inl (cI, 80, .inl fo)), (qunits, .inl (cI, 80, .inl fu)), (qparts, .inl (cI, 320, .inl PF)), (qover, .inl (cI, 8, .inl ov)), (qgiven, .inl (cZ, 8, .inl gv)), (h, .inr (4, fs)), (qnum, .inl (cI, 80, .inl (dg V0))), (qden, .inl (cI, 80, .inl (dg (1 * 10 ^ (10 - tdig c0))))), (qquo, .inl (cI, 80, .inl (dg (V0 / (1 * 10 ^ (10 - tdig c0)))))), (qrem, .inl (cI, 80, .inl (dg (V0 % (1 * 10 ^ (10 - tdig c0))))))] 0 0 120 [(4, .int (iI ((v : Nat) : Int))), (5, .int (iI x)), (0, .ref h), (1, .int (iI ((α : Nat) : Int))), (2, .int (iI ((τ : Nat) : Int))), (3, .int (iI ((ν : Nat) : Int)))] []
        refine TGo.sub (ws' := [(h, .inr (4, fs)), (qcurrency, .inl (cI, 8, .inl fc)), (qisWide, .inl (cZ, 8, .inl fw)), (qnegative, .inl (cZ, 8, .inl fn)), (qkept, .inl (cI, 320, .inl K)), (qratios, .inl (cI, 8, .inl (fun j => iI (ra j)))), (qnum, .inl (cI, 80, .inl (dg V0))), (qden, .inl (cI, 80, .inl (dg (1 * 10 ^ (10 - tdig c0))))), (qquo, .inl (cI, 80, .inl (dg (V0 / (1 * 10 ^ (10 - tdig c0)))))), (qrem, .inl (cI, 80, .inl (dg (V0 % (1 * 10 ^ (10 - tdig c0)))))), (qother, .inl (cI, 80, .inl fo)), (qunits, .inl (cI, 80, .inl fu)), (qparts, .inl (cI, 320, .inl PF)), (qover, .inl (cI, 8, .inl ov)), (qgiven, .inl (cZ, 8, .inl gv))]) [10, 0, 1, 2, 3, 4, 11, 12, 13, 14, 5, 6, 7, 8, 9] (by decide) rfl ?_
        refine go_aload_n O dX4_allocate_120 rfl 2 rfl 121 rfl ?_
        refine go_get O hK dX4_allocate_121 hinX4 0 rfl rfl 14 (by decide) flX4_41 f_rem 124 rfl ?_
        refine go_calliS (rest := []) (wr := [(h, .inr (4, fs)), (qcurrency, .inl (cI, 8, .inl fc)), (qisWide, .inl (cZ, 8, .inl fw)), (qnegative, .inl (cZ, 8, .inl fn)), (qkept, .inl (cI, 320, .inl K)), (qratios, .inl (cI, 8, .inl (fun j => iI (ra j)))), (qnum, .inl (cI, 80, .inl (dg V0))), (qden, .inl (cI, 80, .inl (dg (1 * 10 ^ (10 - tdig c0))))), (qquo, .inl (cI, 80, .inl (dg (V0 / (1 * 10 ^ (10 - tdig c0)))))), (qother, .inl (cI, 80, .inl fo)), (qunits, .inl (cI, 80, .inl fu)), (qparts, .inl (cI, 320, .inl PF)), (qover, .inl (cI, 8, .inl ov)), (qgiven, .inl (cZ, 8, .inl gv))]) O hK hE (c_X4_size E hE qrem cI (V0 % (1 * 10 ^ (10 - tdig c0))) hm80) mlX4_78 smX4_size inX4 cdX4_size 1 (by decide +kernel) ⟨Nat.le_of_ble_eq_true rfl, Nat.le_of_ble_eq_true rfl⟩ [0] rfl [9] rfl (by decide) [0, 1, 2, 3, 4, 5, 6, 7, 8, 10, 11, 12, 13, 14] rfl (by decide) (by decide) rfl rfl (Nat.le_of_ble_eq_true rfl) ⟨Nat.zero_le _, Nat.zero_le _⟩ dX4_allocate_124 127 rfl (fun z u hu => ?_)
        subst hu
        have t0 := tnds_0iff (N := V0 % (1 * 10 ^ (10 - tdig c0)))
        have t1 := tnds_mono hm80
        show TGo X [(h, .inr (4, fs)), (qcurrency, .inl (cI, 8, .inl fc)), (qisWide, .inl (cZ, 8, .inl fw)), (qnegative, .inl (cZ, 8, .inl fn)), (qkept, .inl (cI, 320, .inl K)), (qratios, .inl (cI, 8, .inl (fun j => iI (ra j)))), (qnum, .inl (cI, 80, .inl (dg V0))), (qden, .inl (cI, 80, .inl (dg (1 * 10 ^ (10 - tdig c0))))), (qquo, .inl (cI, 80, .inl (dg (V0 / (1 * 10 ^ (10 - tdig c0)))))), (qother, .inl (cI, 80, .inl fo)), (qunits, .inl (cI, 80, .inl fu)), (qparts, .inl (cI, 320, .inl PF)), (qover, .inl (cI, 8, .inl ov)), (qgiven, .inl (cZ, 8, .inl gv)), (qrem, .inl (cI, 80, .inl (dg (V0 % (1 * 10 ^ (10 - tdig c0))))))] 0 0 127 [(4, .int (iI ((v : Nat) : Int))), (5, .int (iI x)), (0, .ref h), (1, .int (iI ((α : Nat) : Int))), (2, .int (iI ((τ : Nat) : Int))), (3, .int (iI ((ν : Nat) : Int)))] [.int (iI ((tnds (V0 % (1 * 10 ^ (10 - tdig c0))) : Nat) : Int))]
        refine TGo.sub (ws' := [(h, .inr (4, fs)), (qcurrency, .inl (cI, 8, .inl fc)), (qisWide, .inl (cZ, 8, .inl fw)), (qnegative, .inl (cZ, 8, .inl fn)), (qkept, .inl (cI, 320, .inl K)), (qratios, .inl (cI, 8, .inl (fun j => iI (ra j)))), (qnum, .inl (cI, 80, .inl (dg V0))), (qden, .inl (cI, 80, .inl (dg (1 * 10 ^ (10 - tdig c0))))), (qquo, .inl (cI, 80, .inl (dg (V0 / (1 * 10 ^ (10 - tdig c0)))))), (qrem, .inl (cI, 80, .inl (dg (V0 % (1 * 10 ^ (10 - tdig c0)))))), (qother, .inl (cI, 80, .inl fo)), (qunits, .inl (cI, 80, .inl fu)), (qparts, .inl (cI, 320, .inl PF)), (qover, .inl (cI, 8, .inl ov)), (qgiven, .inl (cZ, 8, .inl gv))]) [0, 1, 2, 3, 4, 5, 6, 7, 8, 14, 9, 10, 11, 12, 13] (by decide) rfl ?_
        refine go_if_eq O dX4_allocate_127 133 (by decide) 130 rfl (by omega) (fun h127 => ?_) (fun h127 => by omega)
        refine go_aload_n O dX4_allocate_133 rfl 2 rfl 134 rfl ?_
        refine go_get O hK dX4_allocate_134 hinX4 0 rfl rfl 13 (by decide) flX4_38 f_quo 137 rfl ?_
        refine go_aload_n O dX4_allocate_137 rfl 2 rfl 138 rfl ?_
        refine go_get O hK dX4_allocate_138 hinX4 0 rfl rfl 16 (by decide) flX4_47 f_units 141 rfl ?_
        refine go_callvS (rest := []) (wr := [(h, .inr (4, fs)), (qcurrency, .inl (cI, 8, .inl fc)), (qisWide, .inl (cZ, 8, .inl fw)), (qnegative, .inl (cZ, 8, .inl fn)), (qkept, .inl (cI, 320, .inl K)), (qratios, .inl (cI, 8, .inl (fun j => iI (ra j)))), (qnum, .inl (cI, 80, .inl (dg V0))), (qden, .inl (cI, 80, .inl (dg (1 * 10 ^ (10 - tdig c0))))), (qrem, .inl (cI, 80, .inl (dg (V0 % (1 * 10 ^ (10 - tdig c0)))))), (qother, .inl (cI, 80, .inl fo)), (qparts, .inl (cI, 320, .inl PF)), (qover, .inl (cI, 8, .inl ov)), (qgiven, .inl (cZ, 8, .inl gv))]) O hK hE (c_X4_copy E hE qquo qunits cI (dg (V0 / (1 * 10 ^ (10 - tdig c0)))) fu) mlX4_94 smX4_copy inX4 cdX4_copy 2 (by decide +kernel) ⟨Nat.le_of_ble_eq_true rfl, Nat.le_of_ble_eq_true rfl⟩ [0] rfl [8, 11] rfl (by decide) [0, 1, 2, 3, 4, 5, 6, 7, 9, 10, 12, 13, 14] rfl (by decide) (by decide) rfl rfl (Nat.le_of_ble_eq_true rfl) ⟨Nat.zero_le _, Nat.zero_le _⟩ dX4_allocate_141 144 rfl (fun u hu => ?_)
        show TGo X [(h, .inr (4, fs)), (qcurrency, .inl (cI, 8, .inl fc)), (qisWide, .inl (cZ, 8, .inl fw)), (qnegative, .inl (cZ, 8, .inl fn)), (qkept, .inl (cI, 320, .inl K)), (qratios, .inl (cI, 8, .inl (fun j => iI (ra j)))), (qnum, .inl (cI, 80, .inl (dg V0))), (qden, .inl (cI, 80, .inl (dg (1 * 10 ^ (10 - tdig c0))))), (qrem, .inl (cI, 80, .inl (dg (V0 % (1 * 10 ^ (10 - tdig c0)))))), (qother, .inl (cI, 80, .inl fo)), (qparts, .inl (cI, 320, .inl PF)), (qover, .inl (cI, 8, .inl ov)), (qgiven, .inl (cZ, 8, .inl gv)), (qquo, .inl (cI, 80, .inl (dg (V0 / (1 * 10 ^ (10 - tdig c0)))))), (qunits, .inl (cI, 80, .inl (dg (V0 / (1 * 10 ^ (10 - tdig c0))))))] 0 0 144 [(4, .int (iI ((v : Nat) : Int))), (5, .int (iI x)), (0, .ref h), (1, .int (iI ((α : Nat) : Int))), (2, .int (iI ((τ : Nat) : Int))), (3, .int (iI ((ν : Nat) : Int)))] []
        refine TGo.sub (ws' := [(h, .inr (4, fs)), (qcurrency, .inl (cI, 8, .inl fc)), (qisWide, .inl (cZ, 8, .inl fw)), (qnegative, .inl (cZ, 8, .inl fn)), (qkept, .inl (cI, 320, .inl K)), (qratios, .inl (cI, 8, .inl (fun j => iI (ra j)))), (qnum, .inl (cI, 80, .inl (dg V0))), (qden, .inl (cI, 80, .inl (dg (1 * 10 ^ (10 - tdig c0))))), (qquo, .inl (cI, 80, .inl (dg (V0 / (1 * 10 ^ (10 - tdig c0)))))), (qrem, .inl (cI, 80, .inl (dg (V0 % (1 * 10 ^ (10 - tdig c0)))))), (qother, .inl (cI, 80, .inl fo)), (qunits, .inl (cI, 80, .inl (dg (V0 / (1 * 10 ^ (10 - tdig c0)))))), (qparts, .inl (cI, 320, .inl PF)), (qover, .inl (cI, 8, .inl ov)), (qgiven, .inl (cZ, 8, .inl gv))]) [0, 1, 2, 3, 4, 5, 6, 7, 13, 8, 9, 14, 10, 11, 12] (by decide) rfl ?_
        refine go_iconst O dX4_allocate_144 145 rfl ?_
        refine go_istore O dX4_allocate_145 (by decide) [(5, .int (iI 0)), (4, .int (iI ((v : Nat) : Int))), (0, .ref h), (1, .int (iI ((α : Nat) : Int))), (2, .int (iI ((τ : Nat) : Int))), (3, .int (iI ((ν : Nat) : Int)))] rfl 147 rfl ?_
        refine TGo.lsub (lv' := [(4, .int (iI ((v : Nat) : Int))), (5, .int (iI 0)), (0, .ref h), (1, .int (iI ((α : Nat) : Int))), (2, .int (iI ((τ : Nat) : Int))), (3, .int (iI ((ν : Nat) : Int)))]) [1, 0, 2, 3, 4, 5] rfl ?_
        rw [hvn, ← hal, ← hU]
        exact lp2 (ν + 1) 0 _ _ _ _ _ _ _ _ _ (by omega) (by omega) rfl (fun i hi => absurd hi (by omega)) (fun i hi => absurd hi (by omega)) (fun i hi => absurd hi (by omega))
      · refine go_iload O dX4_allocate_58 0 rfl 60 rfl ?_
        refine go_aload_n O dX4_allocate_60 rfl 2 rfl 61 rfl ?_
        refine go_get O hK dX4_allocate_61 hinX4 0 rfl rfl 7 (by decide) flX4_23 f_ratios 64 rfl ?_
        refine go_iload O dX4_allocate_64 1 rfl 66 rfl ?_
        refine go_iald O hK dX4_allocate_66 5 0 rfl rfl i hx (by omega) (by omega) (ra i) rfl 67 rfl ?_
        refine go_iadd O dX4_allocate_67 ((v + (ra i).natAbs : Nat) : Int) (by have := hRa i; omega) 68 rfl ?_
        refine go_istore O dX4_allocate_68 (by decide) [(4, .int (iI ((v + (ra i).natAbs : Nat) : Int))), (5, .int (iI x)), (0, .ref h), (1, .int (iI ((α : Nat) : Int))), (2, .int (iI ((τ : Nat) : Int))), (3, .int (iI ((ν : Nat) : Int)))] rfl 70 rfl ?_
        refine go_iinc O dX4_allocate_70 1 rfl ((i + 1 : Nat) : Int) (by omega) (by decide) [(5, .int (iI ((i + 1 : Nat) : Int))), (4, .int (iI ((v + (ra i).natAbs : Nat) : Int))), (0, .ref h), (1, .int (iI ((α : Nat) : Int))), (2, .int (iI ((τ : Nat) : Int))), (3, .int (iI ((ν : Nat) : Int)))] rfl 73 rfl ?_
        refine go_goto O dX4_allocate_73 52 (by decide) ?_
        refine TGo.lsub (lv' := [(4, .int (iI ((v + (ra i).natAbs : Nat) : Int))), (5, .int (iI ((i + 1 : Nat) : Int))), (0, .ref h), (1, .int (iI ((α : Nat) : Int))), (2, .int (iI ((τ : Nat) : Int))), (3, .int (iI ((ν : Nat) : Int)))]) [1, 0, 2, 3, 4, 5] rfl ?_
        exact ih (i + 1) _ _ (by omega) (by omega) (by omega) (by rw [hv]; rfl)
  refine go_iload_n O dX4_allocate_0 rfl 1 rfl 1 rfl ?_
  refine go_bipush O dX4_allocate_1 (by decide) 3 rfl ?_
  refine go_calliS (rest := []) (wr := [(h, .inr (4, fs)), (qcurrency, .inl (cI, 8, .inl fc)), (qisWide, .inl (cZ, 8, .inl fw)), (qnegative, .inl (cZ, 8, .inl fn)), (qkept, .inl (cI, 320, .inl K)), (qratios, .inl (cI, 8, .inl (fun j => iI (ra j)))), (qnum, .inl (cI, 80, .inl fnum)), (qden, .inl (cI, 80, .inl fd)), (qquo, .inl (cI, 80, .inl fq)), (qrem, .inl (cI, 80, .inl fr)), (qother, .inl (cI, 80, .inl fo)), (qunits, .inl (cI, 80, .inl fu)), (qparts, .inl (cI, 320, .inl PF)), (qover, .inl (cI, 8, .inl ov)), (qgiven, .inl (cZ, 8, .inl gv))]) O hK hE (c_X4_outside E hE ((α : Nat) : Int) 8 (by omega) (by omega)) mlX4_123 smX4_outside inX4 cdX4_outside 2 (by decide +kernel) ⟨Nat.le_of_ble_eq_true rfl, Nat.le_of_ble_eq_true rfl⟩ [] rfl [] rfl (by decide) [0, 1, 2, 3, 4, 5, 6, 7, 8, 9, 10, 11, 12, 13, 14] rfl (by decide) (by decide) rfl rfl (Nat.le_of_ble_eq_true rfl) ⟨Nat.zero_le _, Nat.zero_le _⟩ dX4_allocate_3 6 rfl (fun z u hu => ?_)
  subst hu
  show TGo X [(h, .inr (4, fs)), (qcurrency, .inl (cI, 8, .inl fc)), (qisWide, .inl (cZ, 8, .inl fw)), (qnegative, .inl (cZ, 8, .inl fn)), (qkept, .inl (cI, 320, .inl K)), (qratios, .inl (cI, 8, .inl (fun j => iI (ra j)))), (qnum, .inl (cI, 80, .inl fnum)), (qden, .inl (cI, 80, .inl fd)), (qquo, .inl (cI, 80, .inl fq)), (qrem, .inl (cI, 80, .inl fr)), (qother, .inl (cI, 80, .inl fo)), (qunits, .inl (cI, 80, .inl fu)), (qparts, .inl (cI, 320, .inl PF)), (qover, .inl (cI, 8, .inl ov)), (qgiven, .inl (cZ, 8, .inl gv))] 0 0 6 [(0, .ref h), (1, .int (iI ((α : Nat) : Int))), (2, .int (iI ((τ : Nat) : Int))), (3, .int (iI ((ν : Nat) : Int)))] [.int (iI (bz (tout ((α : Nat) : Int) 8)))]
  refine go_if_ne O dX4_allocate_6 43 (by decide) 9 rfl (bz_r _) (fun h6 => by omega) (fun h6 => ?_)
  refine go_iload_n O dX4_allocate_9 rfl 2 rfl 10 rfl ?_
  refine go_bipush O dX4_allocate_10 (by decide) 12 rfl ?_
  refine go_calliS (rest := []) (wr := [(h, .inr (4, fs)), (qcurrency, .inl (cI, 8, .inl fc)), (qisWide, .inl (cZ, 8, .inl fw)), (qnegative, .inl (cZ, 8, .inl fn)), (qkept, .inl (cI, 320, .inl K)), (qratios, .inl (cI, 8, .inl (fun j => iI (ra j)))), (qnum, .inl (cI, 80, .inl fnum)), (qden, .inl (cI, 80, .inl fd)), (qquo, .inl (cI, 80, .inl fq)), (qrem, .inl (cI, 80, .inl fr)), (qother, .inl (cI, 80, .inl fo)), (qunits, .inl (cI, 80, .inl fu)), (qparts, .inl (cI, 320, .inl PF)), (qover, .inl (cI, 8, .inl ov)), (qgiven, .inl (cZ, 8, .inl gv))]) O hK hE (c_X4_outside E hE ((τ : Nat) : Int) 8 (by omega) (by omega)) mlX4_123 smX4_outside inX4 cdX4_outside 2 (by decide +kernel) ⟨Nat.le_of_ble_eq_true rfl, Nat.le_of_ble_eq_true rfl⟩ [] rfl [] rfl (by decide) [0, 1, 2, 3, 4, 5, 6, 7, 8, 9, 10, 11, 12, 13, 14] rfl (by decide) (by decide) rfl rfl (Nat.le_of_ble_eq_true rfl) ⟨Nat.zero_le _, Nat.zero_le _⟩ dX4_allocate_12 15 rfl (fun z u hu => ?_)
  subst hu
  show TGo X [(h, .inr (4, fs)), (qcurrency, .inl (cI, 8, .inl fc)), (qisWide, .inl (cZ, 8, .inl fw)), (qnegative, .inl (cZ, 8, .inl fn)), (qkept, .inl (cI, 320, .inl K)), (qratios, .inl (cI, 8, .inl (fun j => iI (ra j)))), (qnum, .inl (cI, 80, .inl fnum)), (qden, .inl (cI, 80, .inl fd)), (qquo, .inl (cI, 80, .inl fq)), (qrem, .inl (cI, 80, .inl fr)), (qother, .inl (cI, 80, .inl fo)), (qunits, .inl (cI, 80, .inl fu)), (qparts, .inl (cI, 320, .inl PF)), (qover, .inl (cI, 8, .inl ov)), (qgiven, .inl (cZ, 8, .inl gv))] 0 0 15 [(0, .ref h), (1, .int (iI ((α : Nat) : Int))), (2, .int (iI ((τ : Nat) : Int))), (3, .int (iI ((ν : Nat) : Int)))] [.int (iI (bz (tout ((τ : Nat) : Int) 8)))]
  refine go_if_ne O dX4_allocate_15 43 (by decide) 18 rfl (bz_r _) (fun h15 => by omega) (fun h15 => ?_)
  refine go_iload_n O dX4_allocate_18 rfl 3 rfl 19 rfl ?_
  refine go_iconst O dX4_allocate_19 20 rfl ?_
  refine go_icmp_lt O dX4_allocate_20 43 (by decide) 23 rfl (by omega) (by omega) (fun h20 => by omega) (fun h20 => ?_)
  refine go_iload_n O dX4_allocate_23 rfl 3 rfl 24 rfl ?_
  refine go_bipush O dX4_allocate_24 (by decide) 26 rfl ?_
  refine go_iload_n O dX4_allocate_26 rfl 2 rfl 27 rfl ?_
  refine go_isub O dX4_allocate_27 (8 - ((τ : Nat) : Int)) rfl 28 rfl ?_
  refine go_icmp_gt O dX4_allocate_28 43 (by decide) 31 rfl (by omega) (by omega) (fun h28 => by omega) (fun h28 => ?_)
  refine go_iload_n O dX4_allocate_31 rfl 1 rfl 32 rfl ?_
  refine go_iload_n O dX4_allocate_32 rfl 2 rfl 33 rfl ?_
  refine go_icmp_lt O dX4_allocate_33 46 (by decide) 36 rfl (by omega) (by omega) (fun h33 => ?_) (fun h33 => ?_)
  · refine go_iconst O dX4_allocate_46 47 rfl ?_
    refine go_istore O dX4_allocate_47 (by decide) [(4, .int (iI 0)), (0, .ref h), (1, .int (iI ((α : Nat) : Int))), (2, .int (iI ((τ : Nat) : Int))), (3, .int (iI ((ν : Nat) : Int)))] rfl 49 rfl ?_
    refine go_iconst O dX4_allocate_49 50 rfl ?_
    refine go_istore O dX4_allocate_50 (by decide) [(5, .int (iI 0)), (4, .int (iI 0)), (0, .ref h), (1, .int (iI ((α : Nat) : Int))), (2, .int (iI ((τ : Nat) : Int))), (3, .int (iI ((ν : Nat) : Int)))] rfl 52 rfl ?_
    refine TGo.lsub (lv' := [(4, .int (iI 0)), (5, .int (iI 0)), (0, .ref h), (1, .int (iI ((α : Nat) : Int))), (2, .int (iI ((τ : Nat) : Int))), (3, .int (iI ((ν : Nat) : Int)))]) [1, 0, 2, 3, 4, 5] rfl ?_
    exact lp1 (ν + 1) 0 _ 0 (by omega) (by omega) rfl rfl
  · refine go_iload_n O dX4_allocate_36 rfl 1 rfl 37 rfl ?_
    refine go_iload_n O dX4_allocate_37 rfl 2 rfl 38 rfl ?_
    refine go_iload_n O dX4_allocate_38 rfl 3 rfl 39 rfl ?_
    refine go_iadd O dX4_allocate_39 ((τ + ν : Nat) : Int) (Int.natCast_add _ _).symm 40 rfl ?_
    refine go_icmp_ge O dX4_allocate_40 46 (by decide) 43 rfl (by omega) (by omega) (fun h40 => ?_) (fun h40 => by omega)
    refine go_iconst O dX4_allocate_46 47 rfl ?_
    refine go_istore O dX4_allocate_47 (by decide) [(4, .int (iI 0)), (0, .ref h), (1, .int (iI ((α : Nat) : Int))), (2, .int (iI ((τ : Nat) : Int))), (3, .int (iI ((ν : Nat) : Int)))] rfl 49 rfl ?_
    refine go_iconst O dX4_allocate_49 50 rfl ?_
    refine go_istore O dX4_allocate_50 (by decide) [(5, .int (iI 0)), (4, .int (iI 0)), (0, .ref h), (1, .int (iI ((α : Nat) : Int))), (2, .int (iI ((τ : Nat) : Int))), (3, .int (iI ((ν : Nat) : Int)))] rfl 52 rfl ?_
    refine TGo.lsub (lv' := [(4, .int (iI 0)), (5, .int (iI 0)), (0, .ref h), (1, .int (iI ((α : Nat) : Int))), (2, .int (iI ((τ : Nat) : Int))), (3, .int (iI ((ν : Nat) : Int)))]) [1, 0, 2, 3, 4, 5] rfl ?_
    exact lp1 (ν + 1) 0 _ 0 (by omega) (by omega) rfl rfl
/-- allocate -/
theorem c_X4_allocate (E : TEn) (hE : EnvOk E) (h : Nat) (fs : List Value) {qcurrency qisWide qnegative qkept qratios qnum qden qquo qrem qother qunits qparts qover qgiven : Nat} (f_currency : fs[3]? = some (.ref qcurrency)) (f_isWide : fs[4]? = some (.ref qisWide)) (f_negative : fs[5]? = some (.ref qnegative)) (f_kept : fs[6]? = some (.ref qkept)) (f_ratios : fs[7]? = some (.ref qratios)) (f_num : fs[10]? = some (.ref qnum)) (f_den : fs[12]? = some (.ref qden)) (f_quo : fs[13]? = some (.ref qquo)) (f_rem : fs[14]? = some (.ref qrem)) (f_other : fs[15]? = some (.ref qother)) (f_units : fs[16]? = some (.ref qunits)) (f_parts : fs[17]? = some (.ref qparts)) (f_over : fs[18]? = some (.ref qover)) (f_given : fs[19]? = some (.ref qgiven)) (cI cZ : ClassId) (fc fw fn K fnum fd fq fr fo fu PF ov gv : Nat → Int32) (ra : Nat → Int) (hRa : RaOk ra) (reg : Rg) (hMR : MR fc fw fn K reg) (a t n : Int) (ha : r32 a) (ht : r32 t) (hn : r32 n) : Cti vwCl E yX4_allocate wsX4_allocate (rmn 3 73) [.ref h, .int (iI a), .int (iI t), .int (iI n)] [(h, .inr (4, fs)), (qcurrency, .inl (cI, 8, .inl fc)), (qisWide, .inl (cZ, 8, .inl fw)), (qnegative, .inl (cZ, 8, .inl fn)), (qkept, .inl (cI, 320, .inl K)), (qratios, .inl (cI, 8, .inl (fun j => iI (ra j)))), (qnum, .inl (cI, 80, .inl fnum)), (qden, .inl (cI, 80, .inl fd)), (qquo, .inl (cI, 80, .inl fq)), (qrem, .inl (cI, 80, .inl fr)), (qother, .inl (cI, 80, .inl fo)), (qunits, .inl (cI, 80, .inl fu)), (qparts, .inl (cI, 320, .inl PF)), (qover, .inl (cI, 8, .inl ov)), (qgiven, .inl (cZ, 8, .inl gv))] [(cI, .int), (cZ, .boolean)] (fun (z : Int) (u : (Nat → Int32) × (Nat → Int32) × (Nat → Int32) × (Nat → Int32) × (Nat → Int32) × (Nat → Int32) × (Nat → Int32) × (Nat → Int32) × (Nat → Int32) × (Nat → Int32) × (Nat → Int32) × (Nat → Int32) × (Nat → Int32)) => z = (spAll reg ra a t n).1 ∧ MR u.1 u.2.1 u.2.2.1 u.2.2.2.1 (spAll reg ra a t n).2) (fun u => [(h, .inr (4, fs)), (qcurrency, .inl (cI, 8, .inl u.1)), (qisWide, .inl (cZ, 8, .inl u.2.1)), (qnegative, .inl (cZ, 8, .inl u.2.2.1)), (qkept, .inl (cI, 320, .inl u.2.2.2.1)), (qratios, .inl (cI, 8, .inl (fun j => iI (ra j)))), (qnum, .inl (cI, 80, .inl u.2.2.2.2.1)), (qden, .inl (cI, 80, .inl u.2.2.2.2.2.1)), (qquo, .inl (cI, 80, .inl u.2.2.2.2.2.2.1)), (qrem, .inl (cI, 80, .inl u.2.2.2.2.2.2.2.1)), (qother, .inl (cI, 80, .inl u.2.2.2.2.2.2.2.2.1)), (qunits, .inl (cI, 80, .inl u.2.2.2.2.2.2.2.2.2.1)), (qparts, .inl (cI, 320, .inl u.2.2.2.2.2.2.2.2.2.2.1)), (qover, .inl (cI, 8, .inl u.2.2.2.2.2.2.2.2.2.2.2.1)), (qgiven, .inl (cZ, 8, .inl u.2.2.2.2.2.2.2.2.2.2.2.2))]) := by
  by_cases hr : (0 ≤ a ∧ a < 8) ∧ (0 ≤ t ∧ t < 8) ∧ (1 ≤ n ∧ n ≤ 8 - t) ∧ ¬ (t ≤ a ∧ a < t + n)
  · obtain ⟨α, rfl⟩ : ∃ α : Nat, a = (α : Int) := ⟨a.toNat, by omega⟩
    obtain ⟨τ, rfl⟩ : ∃ τ : Nat, t = (τ : Int) := ⟨t.toNat, by omega⟩
    obtain ⟨ν, rfl⟩ : ∃ ν : Nat, n = (ν : Int) := ⟨n.toNat, by omega⟩
    have hb5 : α < 8 ∧ τ < 8 ∧ 1 ≤ ν ∧ ν + τ ≤ 8 ∧ ¬ (τ ≤ α ∧ α < τ + ν) := by omega
    by_cases hz : tsm (wra ra) ν = 0
    · exact c_X4_allocate_z E hE h fs f_currency f_isWide f_negative f_kept f_ratios f_num f_den f_quo f_rem f_other f_units f_parts f_over f_given cI cZ fc fw fn K fnum fd fq fr fo fu PF ov gv ra hRa reg hMR α τ ν hb5 hz
    · rcases hq : reg α with _ | ⟨c0, w0, n0, V0⟩
      · exact c_X4_allocate_n E hE h fs f_currency f_isWide f_negative f_kept f_ratios f_num f_den f_quo f_rem f_other f_units f_parts f_over f_given cI cZ fc fw fn K fnum fd fq fr fo fu PF ov gv ra hRa reg hMR α τ ν hb5 hz hq
      · by_cases hx0 : V0 % (1 * 10 ^ (10 - tdig c0)) = 0
        · exact c_X4_allocate_s E hE h fs f_currency f_isWide f_negative f_kept f_ratios f_num f_den f_quo f_rem f_other f_units f_parts f_over f_given cI cZ fc fw fn K fnum fd fq fr fo fu PF ov gv ra hRa reg hMR α τ ν hb5 hz c0 w0 n0 V0 hq hx0
        · exact c_X4_allocate_x E hE h fs f_currency f_isWide f_negative f_kept f_ratios f_num f_den f_quo f_rem f_other f_units f_parts f_over f_given cI cZ fc fw fn K fnum fd fq fr fo fu PF ov gv ra hRa reg hMR α τ ν hb5 hz c0 w0 n0 V0 hq hx0
  · exact c_X4_allocate_b E hE h fs f_currency f_isWide f_negative f_kept f_ratios f_num f_den f_quo f_rem f_other f_units f_parts f_over f_given cI cZ fc fw fn K fnum fd fq fr fo fu PF ov gv ra hRa reg hMR a t n ha ht hn hr
