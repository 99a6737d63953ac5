theorem bz_ne {b : Bool} (h : ¬ bz b = 0) : b = true := by cases b <;> simp_all [bz]
theorem tstl_w {P S A B t : Nat} {m : Int} {wide minus : Bool} (hw : ¬ bz wide = 0) (h26 : tnds (A / (B * 10 ^ 10)) ≤ 26) (ht : t = tstp P S (tnds (A / (B * 10 ^ 10)))) :
    tstl P S m wide minus A B = if tfit wide minus (trnd m minus (A / (B * 10 ^ t)) (A % (B * 10 ^ t)) (B * 10 ^ t) * 10 ^ t) = true then some (trnd m minus (A / (B * 10 ^ t)) (A % (B * 10 ^ t)) (B * 10 ^ t) * 10 ^ t) else none := by
  have e := bz_ne hw
  unfold tstl tfit
  rw [if_pos e, if_pos e, if_neg (by omega), ← ht]
  dsimp only
  by_cases h : trnd m minus (A / (B * 10 ^ t)) (A % (B * 10 ^ t)) (B * 10 ^ t) * 10 ^ t < 10 ^ 36
  · rw [if_pos h, decide_eq_true h, if_pos rfl]
  · rw [if_neg h, decide_eq_false h, if_neg (by decide)]
theorem tstl_w0 {P S A B : Nat} {m : Int} {wide minus : Bool} (hw : ¬ bz wide = 0) (h26 : 26 < tnds (A / (B * 10 ^ 10))) : tstl P S m wide minus A B = none := by
  unfold tstl
  rw [if_pos (bz_ne hw), if_pos h26]
theorem tstl_f1 {P S A B t : Nat} {m : Int} {wide minus : Bool} (hw : bz wide = 0) (ht : t = 0) (hr : A % (B * 10 ^ t) = 0) : tstl P S m wide minus A B = if tfit wide minus (A / (B * 10 ^ t) * 10 ^ t) = true then some (A / (B * 10 ^ t) * 10 ^ t) else none := by
  have e : ¬ wide = true := by rw [bz_0.mp hw]; decide
  subst ht
  rw [Nat.pow_zero, Nat.mul_one] at hr
  rw [Nat.pow_zero, Nat.mul_one, Nat.mul_one]
  unfold tstl tfit
  rw [if_neg e, if_neg e]
  by_cases h : A / B % 10 ^ 5 = 0 ∧ A / B ≤ tlim minus * 10 ^ 5
  · rw [if_pos ⟨hr, h⟩, decide_eq_true h, if_pos rfl]
  · rw [if_neg (fun z => h z.2), decide_eq_false h, if_neg (by decide)]
theorem tstl_f0 {P S A B t : Nat} {m : Int} {wide minus : Bool} (hw : bz wide = 0) (ht : t = 0) (hr : ¬ A % (B * 10 ^ t) = 0) : tstl P S m wide minus A B = none := by
  have e : ¬ wide = true := by rw [bz_0.mp hw]; decide
  subst ht
  rw [Nat.pow_zero, Nat.mul_one] at hr
  unfold tstl
  rw [if_neg e, if_neg (fun z => hr z.1)]
theorem tfit_36 {wide minus : Bool} {V : Nat} (h : tfit wide minus V = true) : V < 10 ^ 36 := by
  unfold tfit at h
  by_cases e : wide = true
  · rw [if_pos e] at h; exact of_decide_eq_true h
  · rw [if_neg e] at h
    have h2 := (of_decide_eq_true h).2
    have h3 : tlim minus ≤ 9223372036854775808 := by unfold tlim; split <;> omega
    omega
theorem tstp_i {P S w : Nat} (hP : 19 ≤ P ∧ P ≤ 30) (hS : 5 ≤ S ∧ S ≤ 10) (hw : w ≤ 26) : ((tstp P S w : Nat) : Int) = 10 - (if (S : Int) < (P : Int) - (w : Int) then (S : Int) else (P : Int) - (w : Int)) := by
  unfold tstp
  split <;> split <;> omega
theorem tq_bd {A B t : Nat} {m : Int} {b : Bool} (hA : A < 10 ^ 70) (ht : t ≤ 17) : trnd m b (A / (B * 10 ^ t)) (A % (B * 10 ^ t)) (B * 10 ^ t) * 10 ^ t < 10 ^ 80 := by
  have h1 := trnd_le m b (A / (B * 10 ^ t)) (A % (B * 10 ^ t)) (B * 10 ^ t)
  have h2 : A / (B * 10 ^ t) ≤ A := Nat.div_le_self _ _
  have h3 := p10le (a := t) (b := 17) ht
  by_cases hB : B = 0
  · subst hB
    rw [Nat.zero_mul, Nat.div_zero] at h1
    have h4 := Nat.mul_le_mul (show trnd m b (A / (0 * 10 ^ t)) (A % (0 * 10 ^ t)) (0 * 10 ^ t) ≤ 1 by rw [Nat.zero_mul, Nat.div_zero]; omega) h3
    omega
  · have h5 : A / (B * 10 ^ t) * 10 ^ t ≤ A := by
      refine Nat.le_trans ?_ (Nat.div_mul_le_self A (10 ^ t))
      refine Nat.mul_le_mul_right _ ?_
      rw [Nat.mul_comm, ← Nat.div_div_eq_div_mul]
      exact Nat.div_le_self _ _
    have h6 := Nat.mul_le_mul_right (10 ^ t) h1
    rw [Nat.add_mul, Nat.one_mul] at h6
    omega
theorem tq_bd0 {A B t : Nat} (hA : A < 10 ^ 70) : A / (B * 10 ^ t) * 10 ^ t < 10 ^ 80 := by
  by_cases hB : B = 0
  · subst hB
    rw [Nat.zero_mul, Nat.div_zero, Nat.zero_mul]; exact p10 80
  · have h5 : A / (B * 10 ^ t) * 10 ^ t ≤ A := by
      refine Nat.le_trans ?_ (Nat.div_mul_le_self A (10 ^ t))
      refine Nat.mul_le_mul_right _ ?_
      rw [Nat.mul_comm, ← Nat.div_div_eq_div_mul]
      exact Nat.div_le_self _ _
    omega
theorem tden_bd {B t : Nat} (hB : B < 10 ^ 20) (ht : t ≤ 17) : B * 10 ^ t < 10 ^ 37 := by
  have h3 := p10le (a := t) (b := 17) ht
  have h4 := Nat.mul_le_mul (show B ≤ 10 ^ 20 - 1 by omega) h3
  omega
set_option maxHeartbeats 4000000 in
set_option maxRecDepth 100000 in
/-- settle: the exact result num / base, by the context if wide, into a register -/
theorem c_X4_settle (E : TEn) (hE : EnvOk E) (h : Nat) (fs : List Value) {p s m : Int} {qbase qden qnum qquo qrem qother qcurrency qisWide qnegative qkept : Nat} (f_p : fs[0]? = some (.int (iI p))) (f_s : fs[1]? = some (.int (iI s))) (f_m : fs[2]? = some (.int (iI m))) (f_base : fs[11]? = some (.ref qbase)) (f_den : fs[12]? = some (.ref qden)) (f_num : fs[10]? = some (.ref qnum)) (f_quo : fs[13]? = some (.ref qquo)) (f_rem : fs[14]? = some (.ref qrem)) (f_other : fs[15]? = some (.ref qother)) (f_currency : fs[3]? = some (.ref qcurrency)) (f_isWide : fs[4]? = some (.ref qisWide)) (f_negative : fs[5]? = some (.ref qnegative)) (f_kept : fs[6]? = some (.ref qkept)) (cI cZ : ClassId) (P Sc : Nat) (hp : p = (P : Int)) (hP : 19 ≤ P ∧ P ≤ 30) (hs : s = (Sc : Int)) (hS : 5 ≤ Sc ∧ Sc ≤ 10) (hm : 0 ≤ m ∧ m ≤ 6) (ρ A Bn : Nat) (cu : Int) (fd fq fr fo fc fw fn K : Nat → Int32) (reg : Rg) (wide minus : Bool) (hρ : ρ < 8) (hcu : 0 ≤ cu ∧ cu ≤ 5) (hA : A < 10 ^ 70) (hB : 0 < Bn) (hB2 : Bn < 10 ^ 20) (hMR : MR fc fw fn K reg) : Cti vwCl E yX4_settle wsX4_settle (rmn 3 73) [.ref h, .int (iI ((ρ : Nat) : Int)), .int (iI cu), .int (iI (bz wide)), .int (iI (bz minus))] [(h, .inr (4, fs)), (qnum, .inl (cI, 80, .inl (dg A))), (qbase, .inl (cI, 80, .inl (dg Bn))), (qden, .inl (cI, 80, .inl fd)), (qquo, .inl (cI, 80, .inl fq)), (qrem, .inl (cI, 80, .inl fr)), (qother, .inl (cI, 80, .inl fo)), (qcurrency, .inl (cI, 8, .inl fc)), (qisWide, .inl (cZ, 8, .inl fw)), (qnegative, .inl (cZ, 8, .inl fn)), (qkept, .inl (cI, 320, .inl K))] [(cI, .int), (cZ, .boolean)] (fun (z : Int) (u : (Nat → Int32) × (Nat → Int32) × (Nat → Int32) × (Nat → Int32) × (Nat → Int32) × (Nat → Int32) × (Nat → Int32) × (Nat → Int32)) => z = ansO (tstl P Sc m wide minus A Bn) ∧ MR u.2.2.2.2.1 u.2.2.2.2.2.1 u.2.2.2.2.2.2.1 u.2.2.2.2.2.2.2 (rstp reg ρ cu wide minus (tstl P Sc m wide minus A Bn))) (fun u => [(h, .inr (4, fs)), (qnum, .inl (cI, 80, .inl (dg A))), (qbase, .inl (cI, 80, .inl (dg Bn))), (qden, .inl (cI, 80, .inl u.1)), (qquo, .inl (cI, 80, .inl u.2.1)), (qrem, .inl (cI, 80, .inl u.2.2.1)), (qother, .inl (cI, 80, .inl u.2.2.2.1)), (qcurrency, .inl (cI, 8, .inl u.2.2.2.2.1)), (qisWide, .inl (cZ, 8, .inl u.2.2.2.2.2.1)), (qnegative, .inl (cZ, 8, .inl u.2.2.2.2.2.2.1)), (qkept, .inl (cI, 320, .inl u.2.2.2.2.2.2.2))]) := by
  refine enteri (by decide) (Nat.le_of_ble_eq_true rfl) ?_
  intro X O hK hin2 hret
  show TGo X [(h, .inr (4, fs)), (qnum, .inl (cI, 80, .inl (dg A))), (qbase, .inl (cI, 80, .inl (dg Bn))), (qden, .inl (cI, 80, .inl fd)), (qquo, .inl (cI, 80, .inl fq)), (qrem, .inl (cI, 80, .inl fr)), (qother, .inl (cI, 80, .inl fo)), (qcurrency, .inl (cI, 8, .inl fc)), (qisWide, .inl (cZ, 8, .inl fw)), (qnegative, .inl (cZ, 8, .inl fn)), (qkept, .inl (cI, 320, .inl K))] 0 0 0 [(0, .ref h), (1, .int (iI ((ρ : Nat) : Int))), (2, .int (iI cu)), (3, .int (iI (bz wide))), (4, .int (iI (bz minus)))] []
  have hw01 := bz_01 wide
  have hm01 := bz_01 minus
  have hden : ∀ t, t ≤ 17 → 0 < Bn * 10 ^ t ∧ Bn * 10 ^ t < 10 ^ 37 := fun t ht => ⟨Nat.mul_pos hB (p10 t), tden_bd hB2 ht⟩
  have m140 : ∀ (t : Nat) (e : Int) (qv : Nat) (fd : Nat → Int32) (fr : Nat → Int32) (fo : Nat → Int32), t ≤ 17 → qv * 10 ^ t < 10 ^ 80 → ((e = 0 ∧ tstl P Sc m wide minus A Bn = none) ∨ (e = 1 ∧ tstl P Sc m wide minus A Bn = if tfit wide minus (qv * 10 ^ t) = true then some (qv * 10 ^ t) else none)) → TGo X [(h, .inr (4, fs)), (qnum, .inl (cI, 80, .inl (dg A))), (qbase, .inl (cI, 80, .inl (dg Bn))), (qden, .inl (cI, 80, .inl fd)), (qquo, .inl (cI, 80, .inl (dg qv))), (qrem, .inl (cI, 80, .inl fr)), (qother, .inl (cI, 80, .inl fo)), (qcurrency, .inl (cI, 8, .inl fc)), (qisWide, .inl (cZ, 8, .inl fw)), (qnegative, .inl (cZ, 8, .inl fn)), (qkept, .inl (cI, 320, .inl K))] 0 0 140 [(5, .int (iI ((t : Nat) : Int))), (6, .int (iI e)), (0, .ref h), (1, .int (iI ((ρ : Nat) : Int))), (2, .int (iI cu)), (3, .int (iI (bz wide))), (4, .int (iI (bz minus)))] [] := by
    intro t e qv fd fr fo ht hV hres
    refine go_aload_n O dX4_settle_140 rfl 2 rfl 141 rfl ?_
    refine go_get O hK dX4_settle_141 hinX4 0 rfl rfl 13 (by decide) flX4_38 f_quo 144 rfl ?_
    refine go_iload O dX4_settle_144 0 rfl 146 rfl ?_
    refine go_callvS (rest := []) (wr := [(h, .inr (4, fs)), (qnum, .inl (cI, 80, .inl (dg A))), (qbase, .inl (cI, 80, .inl (dg Bn))), (qden, .inl (cI, 80, .inl fd)), (qrem, .inl (cI, 80, .inl fr)), (qother, .inl (cI, 80, .inl fo)), (qcurrency, .inl (cI, 8, .inl fc)), (qisWide, .inl (cZ, 8, .inl fw)), (qnegative, .inl (cZ, 8, .inl fn)), (qkept, .inl (cI, 320, .inl K))]) O hK hE (c_X4_shift E hE qquo cI qv t (by omega)) mlX4_82 smX4_shift inX4 cdX4_shift 2 (by decide +kernel) ⟨Nat.le_of_ble_eq_true rfl, Nat.le_of_ble_eq_true rfl⟩ [0] rfl [4] rfl (by decide) [0, 1, 2, 3, 5, 6, 7, 8, 9, 10] rfl (by decide) (by decide) rfl rfl (Nat.le_of_ble_eq_true rfl) ⟨Nat.zero_le _, Nat.zero_le _⟩ dX4_settle_146 149 rfl (fun u hu => ?_)
    show TGo X [(h, .inr (4, fs)), (qnum, .inl (cI, 80, .inl (dg A))), (qbase, .inl (cI, 80, .inl (dg Bn))), (qden, .inl (cI, 80, .inl fd)), (qrem, .inl (cI, 80, .inl fr)), (qother, .inl (cI, 80, .inl fo)), (qcurrency, .inl (cI, 8, .inl fc)), (qisWide, .inl (cZ, 8, .inl fw)), (qnegative, .inl (cZ, 8, .inl fn)), (qkept, .inl (cI, 320, .inl K)), (qquo, .inl (cI, 80, .inl (dg (qv * 10 ^ t))))] 0 0 149 [(5, .int (iI ((t : Nat) : Int))), (6, .int (iI e)), (0, .ref h), (1, .int (iI ((ρ : Nat) : Int))), (2, .int (iI cu)), (3, .int (iI (bz wide))), (4, .int (iI (bz minus)))] []
    refine TGo.sub (ws' := [(h, .inr (4, fs)), (qnum, .inl (cI, 80, .inl (dg A))), (qbase, .inl (cI, 80, .inl (dg Bn))), (qden, .inl (cI, 80, .inl fd)), (qquo, .inl (cI, 80, .inl (dg (qv * 10 ^ t)))), (qrem, .inl (cI, 80, .inl fr)), (qother, .inl (cI, 80, .inl fo)), (qcurrency, .inl (cI, 8, .inl fc)), (qisWide, .inl (cZ, 8, .inl fw)), (qnegative, .inl (cZ, 8, .inl fn)), (qkept, .inl (cI, 320, .inl K))]) [0, 1, 2, 3, 10, 4, 5, 6, 7, 8, 9] (by decide) rfl ?_
    refine go_iload O dX4_settle_149 1 rfl 151 rfl ?_
    refine go_if_eq O dX4_settle_151 184 (by decide) 154 rfl (by omega) (fun h151 => ?_) (fun h151 => ?_)
    · have hno : tstl P Sc m wide minus A Bn = none := by
        rcases hres with ⟨e0, e1⟩ | ⟨e0, e1⟩
        · exact e1
        · omega
      refine go_bipush O dX4_settle_184 (by decide) 186 rfl ?_
      exact hret _ _ _ (fd, dg (qv * 10 ^ t), fr, fo, fc, fw, fn, K) dX4_settle_186 rfl ⟨by rw [hno]; rfl, by rw [hno]; exact hMR⟩
    · refine go_aload_n O dX4_settle_154 rfl 2 rfl 155 rfl ?_
      refine go_aload_n O dX4_settle_155 rfl 2 rfl 156 rfl ?_
      refine go_get O hK dX4_settle_156 hinX4 0 rfl rfl 13 (by decide) flX4_38 f_quo 159 rfl ?_
      refine go_iload_n O dX4_settle_159 rfl 5 rfl 160 rfl ?_
      refine go_iload O dX4_settle_160 6 rfl 162 rfl ?_
      refine go_calliV (As := [.ref qquo, .int (iI (bz wide)), .int (iI (bz minus))]) (rest := []) (wr := [(qnum, .inl (cI, 80, .inl (dg A))), (qbase, .inl (cI, 80, .inl (dg Bn))), (qden, .inl (cI, 80, .inl fd)), (qrem, .inl (cI, 80, .inl fr)), (qcurrency, .inl (cI, 8, .inl fc)), (qisWide, .inl (cZ, 8, .inl fw)), (qnegative, .inl (cZ, 8, .inl fn)), (qkept, .inl (cI, 320, .inl K))]) O hK hE (c_X4_fits E hE h fs f_other qquo cI (qv * 10 ^ t) fo wide minus hV) mlX4_115 imX4_fits seX4_fits inX4 cdX4_fits 3 (by decide +kernel) ⟨Nat.le_of_ble_eq_true rfl, Nat.le_of_ble_eq_true rfl⟩ 0 rfl rfl [0] rfl [0, 6, 4] rfl (by decide) [1, 2, 3, 5, 7, 8, 9, 10] rfl (by decide) (by decide) rfl rfl (Nat.le_of_ble_eq_true rfl) ⟨Nat.zero_le _, Nat.zero_le _⟩ dX4_settle_162 165 rfl (fun z u hu => ?_)
      subst hu
      obtain ⟨fo2, rfl⟩ : ∃ z, z = u := ⟨_, rfl⟩
      have hb01 := bz_01 (tfit wide minus (qv * 10 ^ t))
      show TGo X [(qnum, .inl (cI, 80, .inl (dg A))), (qbase, .inl (cI, 80, .inl (dg Bn))), (qden, .inl (cI, 80, .inl fd)), (qrem, .inl (cI, 80, .inl fr)), (qcurrency, .inl (cI, 8, .inl fc)), (qisWide, .inl (cZ, 8, .inl fw)), (qnegative, .inl (cZ, 8, .inl fn)), (qkept, .inl (cI, 320, .inl K)), (h, .inr (4, fs)), (qother, .inl (cI, 80, .inl fo2)), (qquo, .inl (cI, 80, .inl (dg (qv * 10 ^ t))))] 0 0 165 [(5, .int (iI ((t : Nat) : Int))), (6, .int (iI e)), (0, .ref h), (1, .int (iI ((ρ : Nat) : Int))), (2, .int (iI cu)), (3, .int (iI (bz wide))), (4, .int (iI (bz minus)))] [.int (iI (bz (tfit wide minus (qv * 10 ^ t))))]
      refine TGo.sub (ws' := [(h, .inr (4, fs)), (qnum, .inl (cI, 80, .inl (dg A))), (qbase, .inl (cI, 80, .inl (dg Bn))), (qden, .inl (cI, 80, .inl fd)), (qquo, .inl (cI, 80, .inl (dg (qv * 10 ^ t)))), (qrem, .inl (cI, 80, .inl fr)), (qother, .inl (cI, 80, .inl fo2)), (qcurrency, .inl (cI, 8, .inl fc)), (qisWide, .inl (cZ, 8, .inl fw)), (qnegative, .inl (cZ, 8, .inl fn)), (qkept, .inl (cI, 320, .inl K))]) [8, 0, 1, 2, 10, 3, 9, 4, 5, 6, 7] (by decide) rfl ?_
      refine go_if_eq O dX4_settle_165 184 (by decide) 168 rfl (bz_r _) (fun h165 => ?_) (fun h165 => ?_)
      · have hno : tstl P Sc m wide minus A Bn = none := by
          rcases hres with ⟨e0, e1⟩ | ⟨e0, e1⟩
          · exact e1
          · rw [e1, if_neg (fun z => by rw [z, bz_t] at h165; omega)]
        refine go_bipush O dX4_settle_184 (by decide) 186 rfl ?_
        exact hret _ _ _ (fd, dg (qv * 10 ^ t), fr, fo2, fc, fw, fn, K) dX4_settle_186 rfl ⟨by rw [hno]; rfl, by rw [hno]; exact hMR⟩
      · refine go_aload_n O dX4_settle_168 rfl 2 rfl 169 rfl ?_
        refine go_iload_n O dX4_settle_169 rfl 3 rfl 170 rfl ?_
        refine go_iload_n O dX4_settle_170 rfl 4 rfl 171 rfl ?_
        refine go_iload_n O dX4_settle_171 rfl 5 rfl 172 rfl ?_
        refine go_iload O dX4_settle_172 6 rfl 174 rfl ?_
        refine go_aload_n O dX4_settle_174 rfl 2 rfl 175 rfl ?_
        refine go_get O hK dX4_settle_175 hinX4 0 rfl rfl 13 (by decide) flX4_38 f_quo 178 rfl ?_
        refine go_calliV (As := [.int (iI ((ρ : Nat) : Int)), .int (iI cu), .int (iI (bz wide)), .int (iI (bz minus)), .ref qquo]) (rest := []) (wr := [(qnum, .inl (cI, 80, .inl (dg A))), (qbase, .inl (cI, 80, .inl (dg Bn))), (qden, .inl (cI, 80, .inl fd)), (qrem, .inl (cI, 80, .inl fr)), (qother, .inl (cI, 80, .inl fo2))]) O hK hE (c_X4_keep E hE h fs f_currency f_isWide f_negative f_kept qquo cI cZ ρ (qv * 10 ^ t) cu fc fw fn K reg wide minus hρ hcu (tfit_36 (bz_ne h165)) hMR) mlX4_119 imX4_keep seX4_keep inX4 cdX4_keep 5 (by decide +kernel) ⟨Nat.le_of_ble_eq_true rfl, Nat.le_of_ble_eq_true rfl⟩ 0 rfl rfl [0, 1] rfl [0, 7, 8, 9, 10, 4] rfl (by decide) [1, 2, 3, 5, 6] rfl (by decide) (by decide) rfl rfl (Nat.le_of_ble_eq_true rfl) ⟨Nat.zero_le _, Nat.zero_le _⟩ dX4_settle_178 181 rfl (fun z u hu => ?_)
        obtain ⟨fc2, fw2, fn2, K2⟩ := u
        obtain ⟨rfl, hMR2⟩ := hu
        have hyes : tstl P Sc m wide minus A Bn = some (qv * 10 ^ t) := by
          rcases hres with ⟨e0, e1⟩ | ⟨e0, e1⟩
          · omega
          · rw [e1, if_pos (bz_ne h165)]
        show TGo X [(qnum, .inl (cI, 80, .inl (dg A))), (qbase, .inl (cI, 80, .inl (dg Bn))), (qden, .inl (cI, 80, .inl fd)), (qrem, .inl (cI, 80, .inl fr)), (qother, .inl (cI, 80, .inl fo2)), (h, .inr (4, fs)), (qcurrency, .inl (cI, 8, .inl fc2)), (qisWide, .inl (cZ, 8, .inl fw2)), (qnegative, .inl (cZ, 8, .inl fn2)), (qkept, .inl (cI, 320, .inl K2)), (qquo, .inl (cI, 80, .inl (dg (qv * 10 ^ t))))] 0 0 181 [(5, .int (iI ((t : Nat) : Int))), (6, .int (iI e)), (0, .ref h), (1, .int (iI ((ρ : Nat) : Int))), (2, .int (iI cu)), (3, .int (iI (bz wide))), (4, .int (iI (bz minus)))] [.int (iI 0)]
        refine TGo.sub (ws' := [(h, .inr (4, fs)), (qnum, .inl (cI, 80, .inl (dg A))), (qbase, .inl (cI, 80, .inl (dg Bn))), (qden, .inl (cI, 80, .inl fd)), (qquo, .inl (cI, 80, .inl (dg (qv * 10 ^ t)))), (qrem, .inl (cI, 80, .inl fr)), (qother, .inl (cI, 80, .inl fo2)), (qcurrency, .inl (cI, 8, .inl fc2)), (qisWide, .inl (cZ, 8, .inl fw2)), (qnegative, .inl (cZ, 8, .inl fn2)), (qkept, .inl (cI, 320, .inl K2))]) [5, 0, 1, 2, 10, 3, 4, 6, 7, 8, 9] (by decide) rfl ?_
        refine go_goto O dX4_settle_181 186 (by decide) ?_
        exact hret _ _ _ (fd, dg (qv * 10 ^ t), fr, fo2, fc2, fw2, fn2, K2) dX4_settle_186 rfl ⟨by rw [hyes]; rfl, by rw [hyes]; exact hMR2⟩
  have m83 : ∀ (t : Nat) (fd fq fr fo : Nat → Int32), t ≤ 17 → (bz wide = 0 → t = 0) → (¬ bz wide = 0 → tnds (A / (Bn * 10 ^ 10)) ≤ 26 ∧ t = tstp P Sc (tnds (A / (Bn * 10 ^ 10)))) → TGo X [(h, .inr (4, fs)), (qnum, .inl (cI, 80, .inl (dg A))), (qbase, .inl (cI, 80, .inl (dg Bn))), (qden, .inl (cI, 80, .inl fd)), (qquo, .inl (cI, 80, .inl fq)), (qrem, .inl (cI, 80, .inl fr)), (qother, .inl (cI, 80, .inl fo)), (qcurrency, .inl (cI, 8, .inl fc)), (qisWide, .inl (cZ, 8, .inl fw)), (qnegative, .inl (cZ, 8, .inl fn)), (qkept, .inl (cI, 320, .inl K))] 0 0 83 [(5, .int (iI ((t : Nat) : Int))), (0, .ref h), (1, .int (iI ((ρ : Nat) : Int))), (2, .int (iI cu)), (3, .int (iI (bz wide))), (4, .int (iI (bz minus)))] [] := by
    intro t fd fq fr fo ht ht0 ht1
    have hRl : A % (Bn * 10 ^ t) < (Bn * 10 ^ t) := Nat.mod_lt _ (hden t ht).1
    have hRb : A % (Bn * 10 ^ t) < 10 ^ 80 := by have := (hden t ht).2; omega
    refine go_aload_n O dX4_settle_83 rfl 1 rfl 84 rfl ?_
    refine go_get O hK dX4_settle_84 hinX4 0 rfl rfl 11 (by decide) flX4_32 f_base 87 rfl ?_
    refine go_aload_n O dX4_settle_87 rfl 1 rfl 88 rfl ?_
    refine go_get O hK dX4_settle_88 hinX4 0 rfl rfl 12 (by decide) flX4_35 f_den 91 rfl ?_
    refine go_callvS (rest := []) (wr := [(h, .inr (4, fs)), (qnum, .inl (cI, 80, .inl (dg A))), (qquo, .inl (cI, 80, .inl fq)), (qrem, .inl (cI, 80, .inl fr)), (qother, .inl (cI, 80, .inl fo)), (qcurrency, .inl (cI, 8, .inl fc)), (qisWide, .inl (cZ, 8, .inl fw)), (qnegative, .inl (cZ, 8, .inl fn)), (qkept, .inl (cI, 320, .inl K))]) O hK hE (c_X4_copy E hE qbase qden cI (dg Bn) fd) mlX4_94 smX4_copy inX4 cdX4_copy 2 (by decide +kernel) ⟨Nat.le_of_ble_eq_true rfl, Nat.le_of_ble_eq_true rfl⟩ [0] rfl [2, 3] rfl (by decide) [0, 1, 4, 5, 6, 7, 8, 9, 10] rfl (by decide) (by decide) rfl rfl (Nat.le_of_ble_eq_true rfl) ⟨Nat.zero_le _, Nat.zero_le _⟩ dX4_settle_91 94 rfl (fun u hu => ?_)
    show TGo X [(h, .inr (4, fs)), (qnum, .inl (cI, 80, .inl (dg A))), (qquo, .inl (cI, 80, .inl fq)), (qrem, .inl (cI, 80, .inl fr)), (qother, .inl (cI, 80, .inl fo)), (qcurrency, .inl (cI, 8, .inl fc)), (qisWide, .inl (cZ, 8, .inl fw)), (qnegative, .inl (cZ, 8, .inl fn)), (qkept, .inl (cI, 320, .inl K)), (qbase, .inl (cI, 80, .inl (dg Bn))), (qden, .inl (cI, 80, .inl (dg Bn)))] 0 0 94 [(5, .int (iI ((t : Nat) : Int))), (0, .ref h), (1, .int (iI ((ρ : Nat) : Int))), (2, .int (iI cu)), (3, .int (iI (bz wide))), (4, .int (iI (bz minus)))] []
    refine TGo.sub (ws' := [(h, .inr (4, fs)), (qnum, .inl (cI, 80, .inl (dg A))), (qbase, .inl (cI, 80, .inl (dg Bn))), (qden, .inl (cI, 80, .inl (dg Bn))), (qquo, .inl (cI, 80, .inl fq)), (qrem, .inl (cI, 80, .inl fr)), (qother, .inl (cI, 80, .inl fo)), (qcurrency, .inl (cI, 8, .inl fc)), (qisWide, .inl (cZ, 8, .inl fw)), (qnegative, .inl (cZ, 8, .inl fn)), (qkept, .inl (cI, 320, .inl K))]) [0, 1, 9, 10, 2, 3, 4, 5, 6, 7, 8] (by decide) rfl ?_
    refine go_aload_n O dX4_settle_94 rfl 1 rfl 95 rfl ?_
    refine go_get O hK dX4_settle_95 hinX4 0 rfl rfl 12 (by decide) flX4_35 f_den 98 rfl ?_
    refine go_iload O dX4_settle_98 0 rfl 100 rfl ?_
    refine go_callvS (rest := []) (wr := [(h, .inr (4, fs)), (qnum, .inl (cI, 80, .inl (dg A))), (qbase, .inl (cI, 80, .inl (dg Bn))), (qquo, .inl (cI, 80, .inl fq)), (qrem, .inl (cI, 80, .inl fr)), (qother, .inl (cI, 80, .inl fo)), (qcurrency, .inl (cI, 8, .inl fc)), (qisWide, .inl (cZ, 8, .inl fw)), (qnegative, .inl (cZ, 8, .inl fn)), (qkept, .inl (cI, 320, .inl K))]) O hK hE (c_X4_shift E hE qden cI Bn t (by omega)) mlX4_82 smX4_shift inX4 cdX4_shift 2 (by decide +kernel) ⟨Nat.le_of_ble_eq_true rfl, Nat.le_of_ble_eq_true rfl⟩ [0] rfl [3] rfl (by decide) [0, 1, 2, 4, 5, 6, 7, 8, 9, 10] rfl (by decide) (by decide) rfl rfl (Nat.le_of_ble_eq_true rfl) ⟨Nat.zero_le _, Nat.zero_le _⟩ dX4_settle_100 103 rfl (fun u hu => ?_)
    show TGo X [(h, .inr (4, fs)), (qnum, .inl (cI, 80, .inl (dg A))), (qbase, .inl (cI, 80, .inl (dg Bn))), (qquo, .inl (cI, 80, .inl fq)), (qrem, .inl (cI, 80, .inl fr)), (qother, .inl (cI, 80, .inl fo)), (qcurrency, .inl (cI, 8, .inl fc)), (qisWide, .inl (cZ, 8, .inl fw)), (qnegative, .inl (cZ, 8, .inl fn)), (qkept, .inl (cI, 320, .inl K)), (qden, .inl (cI, 80, .inl (dg (Bn * 10 ^ t))))] 0 0 103 [(5, .int (iI ((t : Nat) : Int))), (0, .ref h), (1, .int (iI ((ρ : Nat) : Int))), (2, .int (iI cu)), (3, .int (iI (bz wide))), (4, .int (iI (bz minus)))] []
    refine TGo.sub (ws' := [(h, .inr (4, fs)), (qnum, .inl (cI, 80, .inl (dg A))), (qbase, .inl (cI, 80, .inl (dg Bn))), (qden, .inl (cI, 80, .inl (dg (Bn * 10 ^ t)))), (qquo, .inl (cI, 80, .inl fq)), (qrem, .inl (cI, 80, .inl fr)), (qother, .inl (cI, 80, .inl fo)), (qcurrency, .inl (cI, 8, .inl fc)), (qisWide, .inl (cZ, 8, .inl fw)), (qnegative, .inl (cZ, 8, .inl fn)), (qkept, .inl (cI, 320, .inl K))]) [0, 1, 2, 10, 3, 4, 5, 6, 7, 8, 9] (by decide) rfl ?_
    refine go_aload_n O dX4_settle_103 rfl 1 rfl 104 rfl ?_
    refine go_callvV (As := []) (rest := []) (wr := [(qbase, .inl (cI, 80, .inl (dg Bn))), (qother, .inl (cI, 80, .inl fo)), (qcurrency, .inl (cI, 8, .inl fc)), (qisWide, .inl (cZ, 8, .inl fw)), (qnegative, .inl (cZ, 8, .inl fn)), (qkept, .inl (cI, 320, .inl K))]) O hK hE (c_X4_quotient E hE h fs f_num f_den f_quo f_rem cI A (Bn * 10 ^ t) fq fr (by omega) (hden t ht).1 (by have := (hden t ht).2; omega)) mlX4_108 imX4_quotient seX4_quotient inX4 cdX4_quotient 0 (by decide +kernel) ⟨Nat.le_of_ble_eq_true rfl, Nat.le_of_ble_eq_true rfl⟩ 0 rfl rfl [0] rfl [0, 1, 3, 4, 5] rfl (by decide) [2, 6, 7, 8, 9, 10] rfl (by decide) (by decide) rfl rfl (Nat.le_of_ble_eq_true rfl) ⟨Nat.zero_le _, Nat.zero_le _⟩ dX4_settle_104 107 rfl (fun u hu => ?_)
    show TGo X [(qbase, .inl (cI, 80, .inl (dg Bn))), (qother, .inl (cI, 80, .inl fo)), (qcurrency, .inl (cI, 8, .inl fc)), (qisWide, .inl (cZ, 8, .inl fw)), (qnegative, .inl (cZ, 8, .inl fn)), (qkept, .inl (cI, 320, .inl K)), (h, .inr (4, fs)), (qnum, .inl (cI, 80, .inl (dg A))), (qden, .inl (cI, 80, .inl (dg (Bn * 10 ^ t)))), (qquo, .inl (cI, 80, .inl (dg (A / (Bn * 10 ^ t))))), (qrem, .inl (cI, 80, .inl (dg (A % (Bn * 10 ^ t)))))] 0 0 107 [(5, .int (iI ((t : Nat) : Int))), (0, .ref h), (1, .int (iI ((ρ : Nat) : Int))), (2, .int (iI cu)), (3, .int (iI (bz wide))), (4, .int (iI (bz minus)))] []
    refine TGo.sub (ws' := [(h, .inr (4, fs)), (qnum, .inl (cI, 80, .inl (dg A))), (qbase, .inl (cI, 80, .inl (dg Bn))), (qden, .inl (cI, 80, .inl (dg (Bn * 10 ^ t)))), (qquo, .inl (cI, 80, .inl (dg (A / (Bn * 10 ^ t))))), (qrem, .inl (cI, 80, .inl (dg (A % (Bn * 10 ^ t))))), (qother, .inl (cI, 80, .inl fo)), (qcurrency, .inl (cI, 8, .inl fc)), (qisWide, .inl (cZ, 8, .inl fw)), (qnegative, .inl (cZ, 8, .inl fn)), (qkept, .inl (cI, 320, .inl K))]) [6, 7, 0, 8, 9, 10, 1, 2, 3, 4, 5] (by decide) rfl ?_
    refine go_aload_n O dX4_settle_107 rfl 1 rfl 108 rfl ?_
    refine go_get O hK dX4_settle_108 hinX4 0 rfl rfl 14 (by decide) flX4_41 f_rem 111 rfl ?_
    refine go_calliS (rest := []) (wr := [(h, .inr (4, fs)), (qnum, .inl (cI, 80, .inl (dg A))), (qbase, .inl (cI, 80, .inl (dg Bn))), (qden, .inl (cI, 80, .inl (dg (Bn * 10 ^ t)))), (qquo, .inl (cI, 80, .inl (dg (A / (Bn * 10 ^ t))))), (qother, .inl (cI, 80, .inl fo)), (qcurrency, .inl (cI, 8, .inl fc)), (qisWide, .inl (cZ, 8, .inl fw)), (qnegative, .inl (cZ, 8, .inl fn)), (qkept, .inl (cI, 320, .inl K))]) O hK hE (c_X4_size E hE qrem cI (A % (Bn * 10 ^ t)) hRb) mlX4_78 smX4_size inX4 cdX4_size 1 (by decide +kernel) ⟨Nat.le_of_ble_eq_true rfl, Nat.le_of_ble_eq_true rfl⟩ [0] rfl [5] rfl (by decide) [0, 1, 2, 3, 4, 6, 7, 8, 9, 10] rfl (by decide) (by decide) rfl rfl (Nat.le_of_ble_eq_true rfl) ⟨Nat.zero_le _, Nat.zero_le _⟩ dX4_settle_111 114 rfl (fun z u hu => ?_)
    subst hu
    have t0 := tnds_0iff (N := A % (Bn * 10 ^ t))
    have t1 := tnds_mono (N := A % (Bn * 10 ^ t)) (e := 80) hRb
    show TGo X [(h, .inr (4, fs)), (qnum, .inl (cI, 80, .inl (dg A))), (qbase, .inl (cI, 80, .inl (dg Bn))), (qden, .inl (cI, 80, .inl (dg (Bn * 10 ^ t)))), (qquo, .inl (cI, 80, .inl (dg (A / (Bn * 10 ^ t))))), (qother, .inl (cI, 80, .inl fo)), (qcurrency, .inl (cI, 8, .inl fc)), (qisWide, .inl (cZ, 8, .inl fw)), (qnegative, .inl (cZ, 8, .inl fn)), (qkept, .inl (cI, 320, .inl K)), (qrem, .inl (cI, 80, .inl (dg (A % (Bn * 10 ^ t)))))] 0 0 114 [(5, .int (iI ((t : Nat) : Int))), (0, .ref h), (1, .int (iI ((ρ : Nat) : Int))), (2, .int (iI cu)), (3, .int (iI (bz wide))), (4, .int (iI (bz minus)))] [.int (iI ((tnds (A % (Bn * 10 ^ t)) : Nat) : Int))]
    refine TGo.sub (ws' := [(h, .inr (4, fs)), (qnum, .inl (cI, 80, .inl (dg A))), (qbase, .inl (cI, 80, .inl (dg Bn))), (qden, .inl (cI, 80, .inl (dg (Bn * 10 ^ t)))), (qquo, .inl (cI, 80, .inl (dg (A / (Bn * 10 ^ t))))), (qrem, .inl (cI, 80, .inl (dg (A % (Bn * 10 ^ t))))), (qother, .inl (cI, 80, .inl fo)), (qcurrency, .inl (cI, 8, .inl fc)), (qisWide, .inl (cZ, 8, .inl fw)), (qnegative, .inl (cZ, 8, .inl fn)), (qkept, .inl (cI, 320, .inl K))]) [0, 1, 2, 3, 4, 10, 5, 6, 7, 8, 9] (by decide) rfl ?_
    refine go_if_ne O dX4_settle_114 121 (by decide) 117 rfl (by omega) (fun h114 => ?_) (fun h114 => ?_)
    · refine go_iconst O dX4_settle_121 122 rfl ?_
      refine go_istore O dX4_settle_122 (by decide) [(6, .int (iI 0)), (5, .int (iI ((t : Nat) : Int))), (0, .ref h), (1, .int (iI ((ρ : Nat) : Int))), (2, .int (iI cu)), (3, .int (iI (bz wide))), (4, .int (iI (bz minus)))] rfl 124 rfl ?_
      refine go_iload_n O dX4_settle_124 rfl 5 rfl 125 rfl ?_
      refine go_if_eq O dX4_settle_125 140 (by decide) 128 rfl (bz_r _) (fun h125 => ?_) (fun h125 => ?_)
      · refine TGo.lsub (lv' := [(5, .int (iI ((t : Nat) : Int))), (6, .int (iI 0)), (0, .ref h), (1, .int (iI ((ρ : Nat) : Int))), (2, .int (iI cu)), (3, .int (iI (bz wide))), (4, .int (iI (bz minus)))]) [1, 0, 2, 3, 4, 5, 6] rfl ?_
        exact m140 t _ _ _ _ _ ht (tq_bd0 hA) (Or.inl ⟨rfl, tstl_f0 h125 (ht0 h125) (by omega)⟩)
      · refine go_aload_n O dX4_settle_128 rfl 2 rfl 129 rfl ?_
        refine go_iload O dX4_settle_129 6 rfl 131 rfl ?_
        refine go_aload_n O dX4_settle_131 rfl 2 rfl 132 rfl ?_
        refine go_get O hK dX4_settle_132 hinX4 0 rfl rfl 2 (by decide) flX4_69 f_m 135 rfl ?_
        refine go_calliV (As := [.int (iI (bz minus)), .int (iI m)]) (rest := []) (wr := [(qnum, .inl (cI, 80, .inl (dg A))), (qbase, .inl (cI, 80, .inl (dg Bn))), (qcurrency, .inl (cI, 8, .inl fc)), (qisWide, .inl (cZ, 8, .inl fw)), (qnegative, .inl (cZ, 8, .inl fn)), (qkept, .inl (cI, 320, .inl K))]) O hK hE (c_X4_rounds E hE h fs f_den f_quo f_rem f_other cI (A / (Bn * 10 ^ t)) (A % (Bn * 10 ^ t)) (Bn * 10 ^ t) fo minus m (by omega) hRb (by have := (hden t ht).2; omega) (by have := (hden t ht).2; omega)) mlX4_111 imX4_rounds seX4_rounds inX4 cdX4_rounds 2 (by decide +kernel) ⟨Nat.le_of_ble_eq_true rfl, Nat.le_of_ble_eq_true rfl⟩ 0 rfl rfl [0] rfl [0, 3, 4, 5, 6] rfl (by decide) [1, 2, 7, 8, 9, 10] rfl (by decide) (by decide) rfl rfl (Nat.le_of_ble_eq_true rfl) ⟨Nat.zero_le _, Nat.zero_le _⟩ dX4_settle_135 138 rfl (fun z u hu => ?_)
        obtain ⟨fo3, rfl⟩ : ∃ z, z = u := ⟨_, rfl⟩
        rw [if_pos (Or.inr (by omega))] at hu
        subst hu
        show TGo X [(qnum, .inl (cI, 80, .inl (dg A))), (qbase, .inl (cI, 80, .inl (dg Bn))), (qcurrency, .inl (cI, 8, .inl fc)), (qisWide, .inl (cZ, 8, .inl fw)), (qnegative, .inl (cZ, 8, .inl fn)), (qkept, .inl (cI, 320, .inl K)), (h, .inr (4, fs)), (qden, .inl (cI, 80, .inl (dg (Bn * 10 ^ t)))), (qquo, .inl (cI, 80, .inl (dg (trnd m minus (A / (Bn * 10 ^ t)) (A % (Bn * 10 ^ t)) (Bn * 10 ^ t))))), (qrem, .inl (cI, 80, .inl (dg (A % (Bn * 10 ^ t))))), (qother, .inl (cI, 80, .inl fo3))] 0 0 138 [(6, .int (iI 0)), (5, .int (iI ((t : Nat) : Int))), (0, .ref h), (1, .int (iI ((ρ : Nat) : Int))), (2, .int (iI cu)), (3, .int (iI (bz wide))), (4, .int (iI (bz minus)))] [.int (iI 1)]
        refine TGo.sub (ws' := [(h, .inr (4, fs)), (qnum, .inl (cI, 80, .inl (dg A))), (qbase, .inl (cI, 80, .inl (dg Bn))), (qden, .inl (cI, 80, .inl (dg (Bn * 10 ^ t)))), (qquo, .inl (cI, 80, .inl (dg (trnd m minus (A / (Bn * 10 ^ t)) (A % (Bn * 10 ^ t)) (Bn * 10 ^ t))))), (qrem, .inl (cI, 80, .inl (dg (A % (Bn * 10 ^ t))))), (qother, .inl (cI, 80, .inl fo3)), (qcurrency, .inl (cI, 8, .inl fc)), (qisWide, .inl (cZ, 8, .inl fw)), (qnegative, .inl (cZ, 8, .inl fn)), (qkept, .inl (cI, 320, .inl K))]) [6, 0, 1, 7, 8, 9, 10, 2, 3, 4, 5] (by decide) rfl ?_
        refine go_istore O dX4_settle_138 (by decide) [(6, .int (iI 1)), (5, .int (iI ((t : Nat) : Int))), (0, .ref h), (1, .int (iI ((ρ : Nat) : Int))), (2, .int (iI cu)), (3, .int (iI (bz wide))), (4, .int (iI (bz minus)))] rfl 140 rfl ?_
        refine TGo.lsub (lv' := [(5, .int (iI ((t : Nat) : Int))), (6, .int (iI 1)), (0, .ref h), (1, .int (iI ((ρ : Nat) : Int))), (2, .int (iI cu)), (3, .int (iI (bz wide))), (4, .int (iI (bz minus)))]) [1, 0, 2, 3, 4, 5, 6] rfl ?_
        exact m140 t _ _ _ _ _ ht (tq_bd hA ht) (Or.inr ⟨rfl, tstl_w h125 (ht1 h125).1 (ht1 h125).2⟩)
    · refine go_iconst O dX4_settle_117 118 rfl ?_
      refine go_goto O dX4_settle_118 122 (by decide) ?_
      refine go_istore O dX4_settle_122 (by decide) [(6, .int (iI 1)), (5, .int (iI ((t : Nat) : Int))), (0, .ref h), (1, .int (iI ((ρ : Nat) : Int))), (2, .int (iI cu)), (3, .int (iI (bz wide))), (4, .int (iI (bz minus)))] rfl 124 rfl ?_
      refine go_iload_n O dX4_settle_124 rfl 5 rfl 125 rfl ?_
      refine go_if_eq O dX4_settle_125 140 (by decide) 128 rfl (bz_r _) (fun h125 => ?_) (fun h125 => ?_)
      · refine TGo.lsub (lv' := [(5, .int (iI ((t : Nat) : Int))), (6, .int (iI 1)), (0, .ref h), (1, .int (iI ((ρ : Nat) : Int))), (2, .int (iI cu)), (3, .int (iI (bz wide))), (4, .int (iI (bz minus)))]) [1, 0, 2, 3, 4, 5, 6] rfl ?_
        exact m140 t _ _ _ _ _ ht (tq_bd0 hA) (Or.inr ⟨rfl, tstl_f1 h125 (ht0 h125) (by omega)⟩)
      · refine go_aload_n O dX4_settle_128 rfl 2 rfl 129 rfl ?_
        refine go_iload O dX4_settle_129 6 rfl 131 rfl ?_
        refine go_aload_n O dX4_settle_131 rfl 2 rfl 132 rfl ?_
        refine go_get O hK dX4_settle_132 hinX4 0 rfl rfl 2 (by decide) flX4_69 f_m 135 rfl ?_
        refine go_calliV (As := [.int (iI (bz minus)), .int (iI m)]) (rest := []) (wr := [(qnum, .inl (cI, 80, .inl (dg A))), (qbase, .inl (cI, 80, .inl (dg Bn))), (qcurrency, .inl (cI, 8, .inl fc)), (qisWide, .inl (cZ, 8, .inl fw)), (qnegative, .inl (cZ, 8, .inl fn)), (qkept, .inl (cI, 320, .inl K))]) O hK hE (c_X4_rounds E hE h fs f_den f_quo f_rem f_other cI (A / (Bn * 10 ^ t)) (A % (Bn * 10 ^ t)) (Bn * 10 ^ t) fo minus m (by omega) hRb (by have := (hden t ht).2; omega) (by have := (hden t ht).2; omega)) mlX4_111 imX4_rounds seX4_rounds inX4 cdX4_rounds 2 (by decide +kernel) ⟨Nat.le_of_ble_eq_true rfl, Nat.le_of_ble_eq_true rfl⟩ 0 rfl rfl [0] rfl [0, 3, 4, 5, 6] rfl (by decide) [1, 2, 7, 8, 9, 10] rfl (by decide) (by decide) rfl rfl (Nat.le_of_ble_eq_true rfl) ⟨Nat.zero_le _, Nat.zero_le _⟩ dX4_settle_135 138 rfl (fun z u hu => ?_)
        obtain ⟨fo3, rfl⟩ : ∃ z, z = u := ⟨_, rfl⟩
        rw [if_pos (Or.inr (by omega))] at hu
        subst hu
        show TGo X [(qnum, .inl (cI, 80, .inl (dg A))), (qbase, .inl (cI, 80, .inl (dg Bn))), (qcurrency, .inl (cI, 8, .inl fc)), (qisWide, .inl (cZ, 8, .inl fw)), (qnegative, .inl (cZ, 8, .inl fn)), (qkept, .inl (cI, 320, .inl K)), (h, .inr (4, fs)), (qden, .inl (cI, 80, .inl (dg (Bn * 10 ^ t)))), (qquo, .inl (cI, 80, .inl (dg (trnd m minus (A / (Bn * 10 ^ t)) (A % (Bn * 10 ^ t)) (Bn * 10 ^ t))))), (qrem, .inl (cI, 80, .inl (dg (A % (Bn * 10 ^ t))))), (qother, .inl (cI, 80, .inl fo3))] 0 0 138 [(6, .int (iI 1)), (5, .int (iI ((t : Nat) : Int))), (0, .ref h), (1, .int (iI ((ρ : Nat) : Int))), (2, .int (iI cu)), (3, .int (iI (bz wide))), (4, .int (iI (bz minus)))] [.int (iI 1)]
        refine TGo.sub (ws' := [(h, .inr (4, fs)), (qnum, .inl (cI, 80, .inl (dg A))), (qbase, .inl (cI, 80, .inl (dg Bn))), (qden, .inl (cI, 80, .inl (dg (Bn * 10 ^ t)))), (qquo, .inl (cI, 80, .inl (dg (trnd m minus (A / (Bn * 10 ^ t)) (A % (Bn * 10 ^ t)) (Bn * 10 ^ t))))), (qrem, .inl (cI, 80, .inl (dg (A % (Bn * 10 ^ t))))), (qother, .inl (cI, 80, .inl fo3)), (qcurrency, .inl (cI, 8, .inl fc)), (qisWide, .inl (cZ, 8, .inl fw)), (qnegative, .inl (cZ, 8, .inl fn)), (qkept, .inl (cI, 320, .inl K))]) [6, 0, 1, 7, 8, 9, 10, 2, 3, 4, 5] (by decide) rfl ?_
        refine go_istore O dX4_settle_138 (by decide) [(6, .int (iI 1)), (5, .int (iI ((t : Nat) : Int))), (0, .ref h), (1, .int (iI ((ρ : Nat) : Int))), (2, .int (iI cu)), (3, .int (iI (bz wide))), (4, .int (iI (bz minus)))] rfl 140 rfl ?_
        refine TGo.lsub (lv' := [(5, .int (iI ((t : Nat) : Int))), (6, .int (iI 1)), (0, .ref h), (1, .int (iI ((ρ : Nat) : Int))), (2, .int (iI cu)), (3, .int (iI (bz wide))), (4, .int (iI (bz minus)))]) [1, 0, 2, 3, 4, 5, 6] rfl ?_
        exact m140 t _ _ _ _ _ ht (tq_bd hA ht) (Or.inr ⟨rfl, tstl_w h125 (ht1 h125).1 (ht1 h125).2⟩)
  have hQb : A / (Bn * 10 ^ 10) < 10 ^ 80 := Nat.lt_of_le_of_lt (Nat.div_le_self _ _) (by omega)
  refine go_iconst O dX4_settle_0 1 rfl ?_
  refine go_istore O dX4_settle_1 (by decide) [(5, .int (iI 0)), (0, .ref h), (1, .int (iI ((ρ : Nat) : Int))), (2, .int (iI cu)), (3, .int (iI (bz wide))), (4, .int (iI (bz minus)))] rfl 3 rfl ?_
  refine go_iload_n O dX4_settle_3 rfl 4 rfl 4 rfl ?_
  refine go_if_eq O dX4_settle_4 83 (by decide) 7 rfl (bz_r _) (fun h4 => ?_) (fun h4 => ?_)
  · refine TGo.lsub (lv' := [(5, .int (iI 0)), (0, .ref h), (1, .int (iI ((ρ : Nat) : Int))), (2, .int (iI cu)), (3, .int (iI (bz wide))), (4, .int (iI (bz minus)))]) [0, 1, 2, 3, 4, 5] rfl ?_
    exact m83 0 _ _ _ _ (by omega) (fun _ => rfl) (fun z => absurd h4 z)
  · refine go_aload_n O dX4_settle_7 rfl 1 rfl 8 rfl ?_
    refine go_get O hK dX4_settle_8 hinX4 0 rfl rfl 11 (by decide) flX4_32 f_base 11 rfl ?_
    refine go_aload_n O dX4_settle_11 rfl 1 rfl 12 rfl ?_
    refine go_get O hK dX4_settle_12 hinX4 0 rfl rfl 12 (by decide) flX4_35 f_den 15 rfl ?_
    refine go_callvS (rest := []) (wr := [(h, .inr (4, fs)), (qnum, .inl (cI, 80, .inl (dg A))), (qquo, .inl (cI, 80, .inl fq)), (qrem, .inl (cI, 80, .inl fr)), (qother, .inl (cI, 80, .inl fo)), (qcurrency, .inl (cI, 8, .inl fc)), (qisWide, .inl (cZ, 8, .inl fw)), (qnegative, .inl (cZ, 8, .inl fn)), (qkept, .inl (cI, 320, .inl K))]) O hK hE (c_X4_copy E hE qbase qden cI (dg Bn) fd) mlX4_94 smX4_copy inX4 cdX4_copy 2 (by decide +kernel) ⟨Nat.le_of_ble_eq_true rfl, Nat.le_of_ble_eq_true rfl⟩ [0] rfl [2, 3] rfl (by decide) [0, 1, 4, 5, 6, 7, 8, 9, 10] rfl (by decide) (by decide) rfl rfl (Nat.le_of_ble_eq_true rfl) ⟨Nat.zero_le _, Nat.zero_le _⟩ dX4_settle_15 18 rfl (fun u hu => ?_)
    show TGo X [(h, .inr (4, fs)), (qnum, .inl (cI, 80, .inl (dg A))), (qquo, .inl (cI, 80, .inl fq)), (qrem, .inl (cI, 80, .inl fr)), (qother, .inl (cI, 80, .inl fo)), (qcurrency, .inl (cI, 8, .inl fc)), (qisWide, .inl (cZ, 8, .inl fw)), (qnegative, .inl (cZ, 8, .inl fn)), (qkept, .inl (cI, 320, .inl K)), (qbase, .inl (cI, 80, .inl (dg Bn))), (qden, .inl (cI, 80, .inl (dg Bn)))] 0 0 18 [(5, .int (iI 0)), (0, .ref h), (1, .int (iI ((ρ : Nat) : Int))), (2, .int (iI cu)), (3, .int (iI (bz wide))), (4, .int (iI (bz minus)))] []
    refine TGo.sub (ws' := [(h, .inr (4, fs)), (qnum, .inl (cI, 80, .inl (dg A))), (qbase, .inl (cI, 80, .inl (dg Bn))), (qden, .inl (cI, 80, .inl (dg Bn))), (qquo, .inl (cI, 80, .inl fq)), (qrem, .inl (cI, 80, .inl fr)), (qother, .inl (cI, 80, .inl fo)), (qcurrency, .inl (cI, 8, .inl fc)), (qisWide, .inl (cZ, 8, .inl fw)), (qnegative, .inl (cZ, 8, .inl fn)), (qkept, .inl (cI, 320, .inl K))]) [0, 1, 9, 10, 2, 3, 4, 5, 6, 7, 8] (by decide) rfl ?_
    refine go_aload_n O dX4_settle_18 rfl 1 rfl 19 rfl ?_
    refine go_get O hK dX4_settle_19 hinX4 0 rfl rfl 12 (by decide) flX4_35 f_den 22 rfl ?_
    refine go_bipush O dX4_settle_22 (by decide) 24 rfl ?_
    refine go_callvS (rest := []) (wr := [(h, .inr (4, fs)), (qnum, .inl (cI, 80, .inl (dg A))), (qbase, .inl (cI, 80, .inl (dg Bn))), (qquo, .inl (cI, 80, .inl fq)), (qrem, .inl (cI, 80, .inl fr)), (qother, .inl (cI, 80, .inl fo)), (qcurrency, .inl (cI, 8, .inl fc)), (qisWide, .inl (cZ, 8, .inl fw)), (qnegative, .inl (cZ, 8, .inl fn)), (qkept, .inl (cI, 320, .inl K))]) O hK hE (c_X4_shift E hE qden cI Bn 10 (by omega)) mlX4_82 smX4_shift inX4 cdX4_shift 2 (by decide +kernel) ⟨Nat.le_of_ble_eq_true rfl, Nat.le_of_ble_eq_true rfl⟩ [0] rfl [3] rfl (by decide) [0, 1, 2, 4, 5, 6, 7, 8, 9, 10] rfl (by decide) (by decide) rfl rfl (Nat.le_of_ble_eq_true rfl) ⟨Nat.zero_le _, Nat.zero_le _⟩ dX4_settle_24 27 rfl (fun u hu => ?_)
    show TGo X [(h, .inr (4, fs)), (qnum, .inl (cI, 80, .inl (dg A))), (qbase, .inl (cI, 80, .inl (dg Bn))), (qquo, .inl (cI, 80, .inl fq)), (qrem, .inl (cI, 80, .inl fr)), (qother, .inl (cI, 80, .inl fo)), (qcurrency, .inl (cI, 8, .inl fc)), (qisWide, .inl (cZ, 8, .inl fw)), (qnegative, .inl (cZ, 8, .inl fn)), (qkept, .inl (cI, 320, .inl K)), (qden, .inl (cI, 80, .inl (dg (Bn * 10 ^ 10))))] 0 0 27 [(5, .int (iI 0)), (0, .ref h), (1, .int (iI ((ρ : Nat) : Int))), (2, .int (iI cu)), (3, .int (iI (bz wide))), (4, .int (iI (bz minus)))] []
    refine TGo.sub (ws' := [(h, .inr (4, fs)), (qnum, .inl (cI, 80, .inl (dg A))), (qbase, .inl (cI, 80, .inl (dg Bn))), (qden, .inl (cI, 80, .inl (dg (Bn * 10 ^ 10)))), (qquo, .inl (cI, 80, .inl fq)), (qrem, .inl (cI, 80, .inl fr)), (qother, .inl (cI, 80, .inl fo)), (qcurrency, .inl (cI, 8, .inl fc)), (qisWide, .inl (cZ, 8, .inl fw)), (qnegative, .inl (cZ, 8, .inl fn)), (qkept, .inl (cI, 320, .inl K))]) [0, 1, 2, 10, 3, 4, 5, 6, 7, 8, 9] (by decide) rfl ?_
    refine go_aload_n O dX4_settle_27 rfl 1 rfl 28 rfl ?_
    refine go_callvV (As := []) (rest := []) (wr := [(qbase, .inl (cI, 80, .inl (dg Bn))), (qother, .inl (cI, 80, .inl fo)), (qcurrency, .inl (cI, 8, .inl fc)), (qisWide, .inl (cZ, 8, .inl fw)), (qnegative, .inl (cZ, 8, .inl fn)), (qkept, .inl (cI, 320, .inl K))]) O hK hE (c_X4_quotient E hE h fs f_num f_den f_quo f_rem cI A (Bn * 10 ^ 10) fq fr (by omega) (hden 10 (by omega)).1 (by have := (hden 10 (by omega)).2; omega)) mlX4_108 imX4_quotient seX4_quotient inX4 cdX4_quotient 0 (by decide +kernel) ⟨Nat.le_of_ble_eq_true rfl, Nat.le_of_ble_eq_true rfl⟩ 0 rfl rfl [0] rfl [0, 1, 3, 4, 5] rfl (by decide) [2, 6, 7, 8, 9, 10] rfl (by decide) (by decide) rfl rfl (Nat.le_of_ble_eq_true rfl) ⟨Nat.zero_le _, Nat.zero_le _⟩ dX4_settle_28 31 rfl (fun u hu => ?_)
    show TGo X [(qbase, .inl (cI, 80, .inl (dg Bn))), (qother, .inl (cI, 80, .inl fo)), (qcurrency, .inl (cI, 8, .inl fc)), (qisWide, .inl (cZ, 8, .inl fw)), (qnegative, .inl (cZ, 8, .inl fn)), (qkept, .inl (cI, 320, .inl K)), (h, .inr (4, fs)), (qnum, .inl (cI, 80, .inl (dg A))), (qden, .inl (cI, 80, .inl (dg (Bn * 10 ^ 10)))), (qquo, .inl (cI, 80, .inl (dg (A / (Bn * 10 ^ 10))))), (qrem, .inl (cI, 80, .inl (dg (A % (Bn * 10 ^ 10)))))] 0 0 31 [(5, .int (iI 0)), (0, .ref h), (1, .int (iI ((ρ : Nat) : Int))), (2, .int (iI cu)), (3, .int (iI (bz wide))), (4, .int (iI (bz minus)))] []
    refine TGo.sub (ws' := [(h, .inr (4, fs)), (qnum, .inl (cI, 80, .inl (dg A))), (qbase, .inl (cI, 80, .inl (dg Bn))), (qden, .inl (cI, 80, .inl (dg (Bn * 10 ^ 10)))), (qquo, .inl (cI, 80, .inl (dg (A / (Bn * 10 ^ 10))))), (qrem, .inl (cI, 80, .inl (dg (A % (Bn * 10 ^ 10))))), (qother, .inl (cI, 80, .inl fo)), (qcurrency, .inl (cI, 8, .inl fc)), (qisWide, .inl (cZ, 8, .inl fw)), (qnegative, .inl (cZ, 8, .inl fn)), (qkept, .inl (cI, 320, .inl K))]) [6, 7, 0, 8, 9, 10, 1, 2, 3, 4, 5] (by decide) rfl ?_
    refine go_aload_n O dX4_settle_31 rfl 1 rfl 32 rfl ?_
    refine go_get O hK dX4_settle_32 hinX4 0 rfl rfl 13 (by decide) flX4_38 f_quo 35 rfl ?_
    refine go_calliS (rest := []) (wr := [(h, .inr (4, fs)), (qnum, .inl (cI, 80, .inl (dg A))), (qbase, .inl (cI, 80, .inl (dg Bn))), (qden, .inl (cI, 80, .inl (dg (Bn * 10 ^ 10)))), (qrem, .inl (cI, 80, .inl (dg (A % (Bn * 10 ^ 10))))), (qother, .inl (cI, 80, .inl fo)), (qcurrency, .inl (cI, 8, .inl fc)), (qisWide, .inl (cZ, 8, .inl fw)), (qnegative, .inl (cZ, 8, .inl fn)), (qkept, .inl (cI, 320, .inl K))]) O hK hE (c_X4_size E hE qquo cI (A / (Bn * 10 ^ 10)) hQb) mlX4_78 smX4_size inX4 cdX4_size 1 (by decide +kernel) ⟨Nat.le_of_ble_eq_true rfl, Nat.le_of_ble_eq_true rfl⟩ [0] rfl [4] rfl (by decide) [0, 1, 2, 3, 5, 6, 7, 8, 9, 10] rfl (by decide) (by decide) rfl rfl (Nat.le_of_ble_eq_true rfl) ⟨Nat.zero_le _, Nat.zero_le _⟩ dX4_settle_35 38 rfl (fun z u hu => ?_)
    subst hu
    have t1 := tnds_mono (N := A / (Bn * 10 ^ 10)) (e := 80) hQb
    show TGo X [(h, .inr (4, fs)), (qnum, .inl (cI, 80, .inl (dg A))), (qbase, .inl (cI, 80, .inl (dg Bn))), (qden, .inl (cI, 80, .inl (dg (Bn * 10 ^ 10)))), (qrem, .inl (cI, 80, .inl (dg (A % (Bn * 10 ^ 10))))), (qother, .inl (cI, 80, .inl fo)), (qcurrency, .inl (cI, 8, .inl fc)), (qisWide, .inl (cZ, 8, .inl fw)), (qnegative, .inl (cZ, 8, .inl fn)), (qkept, .inl (cI, 320, .inl K)), (qquo, .inl (cI, 80, .inl (dg (A / (Bn * 10 ^ 10)))))] 0 0 38 [(5, .int (iI 0)), (0, .ref h), (1, .int (iI ((ρ : Nat) : Int))), (2, .int (iI cu)), (3, .int (iI (bz wide))), (4, .int (iI (bz minus)))] [.int (iI ((tnds (A / (Bn * 10 ^ 10)) : Nat) : Int))]
    refine TGo.sub (ws' := [(h, .inr (4, fs)), (qnum, .inl (cI, 80, .inl (dg A))), (qbase, .inl (cI, 80, .inl (dg Bn))), (qden, .inl (cI, 80, .inl (dg (Bn * 10 ^ 10)))), (qquo, .inl (cI, 80, .inl (dg (A / (Bn * 10 ^ 10))))), (qrem, .inl (cI, 80, .inl (dg (A % (Bn * 10 ^ 10))))), (qother, .inl (cI, 80, .inl fo)), (qcurrency, .inl (cI, 8, .inl fc)), (qisWide, .inl (cZ, 8, .inl fw)), (qnegative, .inl (cZ, 8, .inl fn)), (qkept, .inl (cI, 320, .inl K))]) [0, 1, 2, 3, 10, 4, 5, 6, 7, 8, 9] (by decide) rfl ?_
    refine go_istore O dX4_settle_38 (by decide) [(6, .int (iI ((tnds (A / (Bn * 10 ^ 10)) : Nat) : Int))), (5, .int (iI 0)), (0, .ref h), (1, .int (iI ((ρ : Nat) : Int))), (2, .int (iI cu)), (3, .int (iI (bz wide))), (4, .int (iI (bz minus)))] rfl 40 rfl ?_
    refine go_iload O dX4_settle_40 0 rfl 42 rfl ?_
    refine go_bipush O dX4_settle_42 (by decide) 44 rfl ?_
    refine go_icmp_le O dX4_settle_44 50 (by decide) 47 rfl (by omega) (by omega) (fun h44 => ?_) (fun h44 => ?_)
    · refine go_bipush O dX4_settle_50 (by decide) 52 rfl ?_
      refine go_aload_n O dX4_settle_52 rfl 2 rfl 53 rfl ?_
      refine go_get O hK dX4_settle_53 hinX4 0 rfl rfl 1 (by decide) flX4_66 f_s 56 rfl ?_
      refine go_aload_n O dX4_settle_56 rfl 2 rfl 57 rfl ?_
      refine go_get O hK dX4_settle_57 hinX4 0 rfl rfl 0 (by decide) flX4_62 f_p 60 rfl ?_
      refine go_iload O dX4_settle_60 0 rfl 62 rfl ?_
      refine go_isub O dX4_settle_62 (p - ((tnds (A / (Bn * 10 ^ 10)) : Nat) : Int)) rfl 63 rfl ?_
      refine go_icmp_ge O dX4_settle_63 73 (by decide) 66 rfl (by omega) (by omega) (fun h63 => ?_) (fun h63 => ?_)
      · refine go_aload_n O dX4_settle_73 rfl 2 rfl 74 rfl ?_
        refine go_get O hK dX4_settle_74 hinX4 0 rfl rfl 0 (by decide) flX4_62 f_p 77 rfl ?_
        refine go_iload O dX4_settle_77 0 rfl 79 rfl ?_
        refine go_isub O dX4_settle_79 (p - ((tnds (A / (Bn * 10 ^ 10)) : Nat) : Int)) rfl 80 rfl ?_
        refine go_isub O dX4_settle_80 (10 - (p - ((tnds (A / (Bn * 10 ^ 10)) : Nat) : Int))) rfl 81 rfl ?_
        refine go_istore O dX4_settle_81 (by decide) [(5, .int (iI (10 - (p - ((tnds (A / (Bn * 10 ^ 10)) : Nat) : Int))))), (6, .int (iI ((tnds (A / (Bn * 10 ^ 10)) : Nat) : Int))), (0, .ref h), (1, .int (iI ((ρ : Nat) : Int))), (2, .int (iI cu)), (3, .int (iI (bz wide))), (4, .int (iI (bz minus)))] rfl 83 rfl ?_
        have hte := tstp_i (w := tnds (A / (Bn * 10 ^ 10))) hP hS (by omega)
        have htl := tstp_le (p := P) (s := Sc) (w := tnds (A / (Bn * 10 ^ 10))) hP.1 hS.2 (by omega)
        have e5 : (10 - (p - ((tnds (A / (Bn * 10 ^ 10)) : Nat) : Int))) = ((tstp P Sc (tnds (A / (Bn * 10 ^ 10))) : Nat) : Int) := by rw [hte]; rw [if_neg (by omega)]; omega
        rw [e5]
        refine TGo.lsub (lv' := [(5, .int (iI ((tstp P Sc (tnds (A / (Bn * 10 ^ 10))) : Nat) : Int))), (0, .ref h), (1, .int (iI ((ρ : Nat) : Int))), (2, .int (iI cu)), (3, .int (iI (bz wide))), (4, .int (iI (bz minus)))]) [0, 2, 3, 4, 5, 6] rfl ?_
        exact m83 _ _ _ _ _ htl (fun z => absurd z h4) (fun _ => ⟨by omega, rfl⟩)
      · refine go_aload_n O dX4_settle_66 rfl 2 rfl 67 rfl ?_
        refine go_get O hK dX4_settle_67 hinX4 0 rfl rfl 1 (by decide) flX4_66 f_s 70 rfl ?_
        refine go_goto O dX4_settle_70 80 (by decide) ?_
        refine go_isub O dX4_settle_80 (10 - s) rfl 81 rfl ?_
        refine go_istore O dX4_settle_81 (by decide) [(5, .int (iI (10 - s))), (6, .int (iI ((tnds (A / (Bn * 10 ^ 10)) : Nat) : Int))), (0, .ref h), (1, .int (iI ((ρ : Nat) : Int))), (2, .int (iI cu)), (3, .int (iI (bz wide))), (4, .int (iI (bz minus)))] rfl 83 rfl ?_
        have hte := tstp_i (w := tnds (A / (Bn * 10 ^ 10))) hP hS (by omega)
        have htl := tstp_le (p := P) (s := Sc) (w := tnds (A / (Bn * 10 ^ 10))) hP.1 hS.2 (by omega)
        have e5 : (10 - s) = ((tstp P Sc (tnds (A / (Bn * 10 ^ 10))) : Nat) : Int) := by rw [hte]; rw [if_pos (by omega)]; omega
        rw [e5]
        refine TGo.lsub (lv' := [(5, .int (iI ((tstp P Sc (tnds (A / (Bn * 10 ^ 10))) : Nat) : Int))), (0, .ref h), (1, .int (iI ((ρ : Nat) : Int))), (2, .int (iI cu)), (3, .int (iI (bz wide))), (4, .int (iI (bz minus)))]) [0, 2, 3, 4, 5, 6] rfl ?_
        exact m83 _ _ _ _ _ htl (fun z => absurd z h4) (fun _ => ⟨by omega, rfl⟩)
    · refine go_bipush O dX4_settle_47 (by decide) 49 rfl ?_
      have hno : tstl P Sc m wide minus A Bn = none := tstl_w0 h4 (by omega)
      exact hret _ _ _ (dg (Bn * 10 ^ 10), dg (A / (Bn * 10 ^ 10)), dg (A % (Bn * 10 ^ 10)), fo, fc, fw, fn, K) dX4_settle_49 rfl ⟨by rw [hno]; rfl, by rw [hno]; exact hMR⟩
