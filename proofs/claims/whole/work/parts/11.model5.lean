/-! What fits; the registers as a function, and the reference's rows that hold them. -/
def tfit (wide minus : Bool) (V : Nat) : Bool := if wide = true then decide (V < 10 ^ 36) else decide (V % 10 ^ 5 = 0 ∧ V ≤ tlim minus * 10 ^ 5)
theorem tfit_t1 {wide minus : Bool} {V : Nat} (hw : ¬ bz wide = 0) (h : V < 10 ^ 36) : 1 = bz (tfit wide minus V) := by
  have e : wide = true := by cases wide <;> simp_all [bz]
  unfold tfit
  rw [if_pos e, decide_eq_true h, bz_t]
theorem tfit_t0 {wide minus : Bool} {V : Nat} (hw : ¬ bz wide = 0) (h : ¬ V < 10 ^ 36) : 0 = bz (tfit wide minus V) := by
  have e : wide = true := by cases wide <;> simp_all [bz]
  unfold tfit
  rw [if_pos e, decide_eq_false h, bz_f]
theorem tfit_f1 {wide minus : Bool} {V : Nat} (hw : bz wide = 0) (h : V % 10 ^ 5 = 0 ∧ V ≤ tlim minus * 10 ^ 5) : 1 = bz (tfit wide minus V) := by
  have e : ¬ wide = true := by rw [bz_0.mp hw]; decide
  unfold tfit
  rw [if_neg e, decide_eq_true h, bz_t]
theorem tfit_f0 {wide minus : Bool} {V : Nat} (hw : bz wide = 0) (h : ¬ (V % 10 ^ 5 = 0 ∧ V ≤ tlim minus * 10 ^ 5)) : 0 = bz (tfit wide minus V) := by
  have e : ¬ wide = true := by rw [bz_0.mp hw]; decide
  unfold tfit
  rw [if_neg e, decide_eq_false h, bz_f]
theorem tmod_of {V : Nat} : ∀ i, (∀ j, j < i → V / 10 ^ j % 10 = 0) → V % 10 ^ i = 0 := by
  intro i
  induction i with
  | zero => intro _; rw [Nat.pow_zero, Nat.mod_one]
  | succ i ih =>
    intro h
    rw [tmodS, ih (fun j hj => h j (by omega)), h i (by omega), Nat.zero_mul]
theorem tmod_dig {V e j : Nat} (h : V % 10 ^ e = 0) (hj : j < e) : V / 10 ^ j % 10 = 0 := by
  have h1 := Nat.div_add_mod V (10 ^ e)
  rw [h, Nat.add_zero, Nat.mul_comm] at h1
  have h2 := tlow (N := 0) (k := V / 10 ^ e) hj
  rw [Nat.zero_add, h1, Nat.zero_div] at h2
  exact h2
theorem tlim_t : Int.natAbs (-9223372036854775808) = tlim true := rfl
theorem tlim_f : Int.natAbs 9223372036854775807 = tlim false := rfl
abbrev Rg : Type := Nat → Option (Int × Bool × Bool × Nat)
def rset (reg : Rg) (ρ : Nat) (v : Option (Int × Bool × Bool × Nat)) : Rg := fun j => if j = ρ then v else reg j
def regM (fc fw fn K : Nat → Int32) (ρ : Nat) : Option (Int × Bool × Bool × Nat) → Prop
  | none => fc ρ = iI (-1)
  | some (c, w, n, V) => (0 ≤ c ∧ c ≤ 5) ∧ fc ρ = iI c ∧ fw ρ = iI (bz w) ∧ fn ρ = iI (bz n) ∧ V < 10 ^ 36 ∧ (V = 0 → n = false) ∧ ∀ j, j < 40 → K (40 * ρ + j) = dg V j
def MR (fc fw fn K : Nat → Int32) (reg : Rg) : Prop := ∀ ρ, ρ < 8 → regM fc fw fn K ρ (reg ρ)
theorem upd_s {f : Nat → Int32} {k : Nat} {x : Int32} : upd f k x k = x := by unfold upd; rw [if_pos rfl]
theorem upd_n {f : Nat → Int32} {k j : Nat} {x : Int32} (h : j ≠ k) : upd f k x j = f j := by unfold upd; rw [if_neg h]
theorem MR_keep {fc fw fn K K' : Nat → Int32} {reg : Rg} {ρ V : Nat} {c nz : Int} {wide minus : Bool} (h : MR fc fw fn K reg) (hc : 0 ≤ c ∧ c ≤ 5) (hV : V < 10 ^ 36) (hnz : nz = bz (minus && decide (0 < V)))
    (h1 : ∀ j, j < 40 → K' (40 * ρ + j) = dg V j) (h2 : ∀ j, ¬ (40 * ρ ≤ j ∧ j < 40 * ρ + 40) → K' j = K j) : MR (upd fc ρ (iI c)) (upd fw ρ (iI (bz wide))) (upd fn ρ (iI nz)) K' (rset reg ρ (some (c, wide, minus && decide (0 < V), V))) := by
  intro σ hσ
  unfold rset
  by_cases e : σ = ρ
  · subst e
    rw [if_pos rfl]
    exact ⟨hc, upd_s, upd_s, by rw [upd_s, hnz], hV, fun e => by subst e; simp, h1⟩
  · rw [if_neg e]
    have h3 := h σ hσ
    have h4 : ∀ j, j < 40 → K' (40 * σ + j) = K (40 * σ + j) := fun j hj => h2 _ (by omega)
    unfold regM at h3 ⊢
    split
    · next e2 => rw [e2] at h3; rw [upd_n e]; exact h3
    · next e2 =>
      rw [e2] at h3
      obtain ⟨a1, a2, a3, a4, a5, a6, a7⟩ := h3
      exact ⟨a1, by rw [upd_n e]; exact a2, by rw [upd_n e]; exact a3, by rw [upd_n e]; exact a4, a5, a6, fun j hj => by rw [h4 j hj]; exact a7 j hj⟩
theorem keep_lo {g : Nat → Int32} {V ρ i : Nat} (h : ∀ j, j < i → g (40 * ρ + j) = dg V j) : ∀ j, j < i + 1 → upd g (40 * ρ + i) (iI ((V / 10 ^ i % 10 : Nat) : Int)) (40 * ρ + j) = dg V j := by
  intro j hj
  by_cases e : j = i
  · subst e; rw [upd_s]; rfl
  · rw [upd_n (by omega)]; exact h j (by omega)
theorem keep_ot {g K : Nat → Int32} {ρ i : Nat} {z : Int} (hi : i < 40) (h : ∀ j, ¬ (40 * ρ ≤ j ∧ j < 40 * ρ + 40) → g j = K j) : ∀ j, ¬ (40 * ρ ≤ j ∧ j < 40 * ρ + 40) → upd g (40 * ρ + i) (iI z) j = K j := by
  intro j hj
  rw [upd_n (by omega)]; exact h j hj
theorem band_0 {minus : Bool} {V : Nat} (h : bz minus = 0 ∨ V = 0) : 0 = bz (minus && decide (0 < V)) := by
  rcases h with h | h
  · rw [bz_0.mp h]; rfl
  · subst h; cases minus <;> rfl
theorem band_1 {minus : Bool} {V : Nat} (h : ¬ bz minus = 0) (h2 : 0 < V) : 1 = bz (minus && decide (0 < V)) := by
  have e : minus = true := by cases minus <;> simp_all [bz]
  rw [e, decide_eq_true h2]; rfl
def rstp (reg : Rg) (ρ : Nat) (c : Int) (wide minus : Bool) : Option Nat → Rg
  | none => reg
  | some V => rset reg ρ (some (c, wide, minus && decide (0 < V), V))
def ansO : Option Nat → Int
  | none => -13
  | some _ => 0
def tout (x e : Int) : Bool := decide (x < 0 ∨ e ≤ x)
theorem tout_1 {x e : Int} (h : x < 0 ∨ e ≤ x) : 1 = bz (tout x e) := by unfold tout; rw [decide_eq_true h]; rfl
theorem tout_0 {x e : Int} (h : ¬ (x < 0 ∨ e ≤ x)) : 0 = bz (tout x e) := by unfold tout; rw [decide_eq_false h]; rfl
theorem tout_i {x e : Int} : (bz (tout x e) = 0 ↔ 0 ≤ x ∧ x < e) := by
  unfold tout
  by_cases h : x < 0 ∨ e ≤ x
  · rw [decide_eq_true h, bz_t]; omega
  · rw [decide_eq_false h, bz_f]; omega
set_option maxHeartbeats 4000000 in
set_option maxRecDepth 100000 in
/-- outside -/
theorem c_X4_outside (E : TEn) (hE : EnvOk E) (x e : Int) (hx : r32 x) (he : r32 e) : Cti vwCl E yX4_outside wsX4_outside (rmn 0 0) [.int (iI x), .int (iI e)] [] [] (fun (z : Int) (_ : Unit) => z = bz (tout x e)) (fun _ => []) := by
  refine enteri (by decide) (Nat.le_of_ble_eq_true rfl) ?_
  intro X O hK hin2 hret
  show TGo X [] 0 0 0 [(0, .int (iI x)), (1, .int (iI e))] []
  refine go_iload_n O dX4_outside_0 rfl 0 rfl 1 rfl ?_
  refine go_if_lt O dX4_outside_1 9 (by decide) 4 rfl (by omega) (fun h1 => ?_) (fun h1 => ?_)
  · refine go_iconst O dX4_outside_9 10 rfl ?_
    refine go_goto O dX4_outside_10 14 (by decide) ?_
    exact hret _ _ _ () dX4_outside_14 rfl (tout_1 (by omega))
  · refine go_iload_n O dX4_outside_4 rfl 0 rfl 5 rfl ?_
    refine go_iload_n O dX4_outside_5 rfl 1 rfl 6 rfl ?_
    refine go_icmp_lt O dX4_outside_6 13 (by decide) 9 rfl (by omega) (by omega) (fun h6 => ?_) (fun h6 => ?_)
    · refine go_iconst O dX4_outside_13 14 rfl ?_
      exact hret _ _ _ () dX4_outside_14 rfl (tout_0 (by omega))
    · refine go_iconst O dX4_outside_9 10 rfl ?_
      refine go_goto O dX4_outside_10 14 (by decide) ?_
      exact hret _ _ _ () dX4_outside_14 rfl (tout_1 (by omega))
set_option maxHeartbeats 4000000 in
set_option maxRecDepth 100000 in
/-- fits -/
theorem c_X4_fits (E : TEn) (hE : EnvOk E) (h : Nat) (fs : List Value) {qother : Nat} (f_other : fs[15]? = some (.ref qother)) (q : Nat) (cI : ClassId) (V : Nat) (fo : Nat → Int32) (wide minus : Bool) (hV : V < 10 ^ 80) : Cti vwCl E yX4_fits wsX4_fits (rmn 2 47) [.ref h, .ref q, .int (iI (bz wide)), .int (iI (bz minus))] [(h, .inr (4, fs)), (qother, .inl (cI, 80, .inl fo)), (q, .inl (cI, 80, .inl (dg V)))] [(cI, .int)] (fun (z : Int) (_ : Nat → Int32) => z = bz (tfit wide minus V)) (fun u => [(h, .inr (4, fs)), (qother, .inl (cI, 80, .inl u)), (q, .inl (cI, 80, .inl (dg V)))]) := by
  refine enteri (by decide) (Nat.le_of_ble_eq_true rfl) ?_
  intro X O hK hin2 hret
  show TGo X [(h, .inr (4, fs)), (qother, .inl (cI, 80, .inl fo)), (q, .inl (cI, 80, .inl (dg V)))] 0 0 0 [(0, .ref h), (1, .ref q), (2, .int (iI (bz wide))), (3, .int (iI (bz minus)))] []
  have hw01 := bz_01 wide
  have hm01 := bz_01 minus
  have lp : ∀ (c : Nat) (i : Nat) (x : Int), c + i = 6 → i ≤ 5 → x = (i : Int) → (∀ j, j < i → V / 10 ^ j % 10 = 0) → bz wide = 0 → TGo X [(h, .inr (4, fs)), (qother, .inl (cI, 80, .inl fo)), (q, .inl (cI, 80, .inl (dg V)))] 0 0 22 [(4, .int (iI x)), (0, .ref h), (1, .ref q), (2, .int (iI (bz wide))), (3, .int (iI (bz minus)))] [] := by
    intro c
    induction c with
    | zero => intro i x h1 h2 hx hz hw; omega
    | succ c ih =>
      intro i x h1 h2 hx hz hw
      refine go_iload O dX4_fits_22 0 rfl 24 rfl ?_
      refine go_iconst O dX4_fits_24 25 rfl ?_
      refine go_icmp_ge O dX4_fits_25 43 (by decide) 28 rfl (by omega) (by omega) (fun h25 => ?_) (fun h25 => ?_)
      · refine go_aload_n O dX4_fits_43 rfl 1 rfl 44 rfl ?_
        refine go_get O hK dX4_fits_44 hinX4 0 rfl rfl 15 (by decide) flX4_44 f_other 47 rfl ?_
        refine go_iload_n O dX4_fits_47 rfl 4 rfl 48 rfl ?_
        refine go_if_eq O dX4_fits_48 57 (by decide) 51 rfl (by omega) (fun h48 => ?_) (fun h48 => ?_)
        · refine go_ldc2 O dX4_fits_57 (9223372036854775807) kcX4_106 (by decide) 60 rfl ?_
          refine go_callvS (rest := []) (wr := [(h, .inr (4, fs)), (q, .inl (cI, 80, .inl (dg V)))]) O hK hE (c_X4_load E hE qother cI fo 9223372036854775807 (by omega)) mlX4_100 smX4_load inX4 cdX4_load 2 (by decide +kernel) ⟨Nat.le_of_ble_eq_true rfl, Nat.le_of_ble_eq_true rfl⟩ [0] rfl [1] rfl (by decide) [0, 2] rfl (by decide) (by decide) rfl rfl (Nat.le_of_ble_eq_true rfl) ⟨Nat.zero_le _, Nat.zero_le _⟩ dX4_fits_60 63 rfl (fun u hu => ?_)
          show TGo X [(h, .inr (4, fs)), (q, .inl (cI, 80, .inl (dg V))), (qother, .inl (cI, 80, .inl (dg (Int.natAbs 9223372036854775807))))] 0 0 63 [(4, .int (iI x)), (0, .ref h), (1, .ref q), (2, .int (iI (bz wide))), (3, .int (iI (bz minus)))] []
          refine TGo.sub (ws' := [(h, .inr (4, fs)), (qother, .inl (cI, 80, .inl (dg (Int.natAbs 9223372036854775807)))), (q, .inl (cI, 80, .inl (dg V)))]) [0, 2, 1] (by decide) rfl ?_
          refine go_aload_n O dX4_fits_63 rfl 1 rfl 64 rfl ?_
          refine go_get O hK dX4_fits_64 hinX4 0 rfl rfl 15 (by decide) flX4_44 f_other 67 rfl ?_
          refine go_iconst O dX4_fits_67 68 rfl ?_
          refine go_callvS (rest := []) (wr := [(h, .inr (4, fs)), (q, .inl (cI, 80, .inl (dg V)))]) O hK hE (c_X4_shift E hE qother cI (Int.natAbs 9223372036854775807) 5 (by omega)) mlX4_82 smX4_shift inX4 cdX4_shift 2 (by decide +kernel) ⟨Nat.le_of_ble_eq_true rfl, Nat.le_of_ble_eq_true rfl⟩ [0] rfl [1] rfl (by decide) [0, 2] rfl (by decide) (by decide) rfl rfl (Nat.le_of_ble_eq_true rfl) ⟨Nat.zero_le _, Nat.zero_le _⟩ dX4_fits_68 71 rfl (fun u hu => ?_)
          show TGo X [(h, .inr (4, fs)), (q, .inl (cI, 80, .inl (dg V))), (qother, .inl (cI, 80, .inl (dg ((Int.natAbs 9223372036854775807) * 10 ^ 5))))] 0 0 71 [(4, .int (iI x)), (0, .ref h), (1, .ref q), (2, .int (iI (bz wide))), (3, .int (iI (bz minus)))] []
          refine TGo.sub (ws' := [(h, .inr (4, fs)), (qother, .inl (cI, 80, .inl (dg ((Int.natAbs 9223372036854775807) * 10 ^ 5)))), (q, .inl (cI, 80, .inl (dg V)))]) [0, 2, 1] (by decide) rfl ?_
          refine go_aload_n O dX4_fits_71 rfl 2 rfl 72 rfl ?_
          refine go_aload_n O dX4_fits_72 rfl 1 rfl 73 rfl ?_
          refine go_get O hK dX4_fits_73 hinX4 0 rfl rfl 15 (by decide) flX4_44 f_other 76 rfl ?_
          refine go_calliS (rest := []) (wr := [(h, .inr (4, fs))]) O hK hE (c_X4_order E hE q qother cI V ((Int.natAbs 9223372036854775807) * 10 ^ 5) hV (by decide)) mlX4_86 smX4_order inX4 cdX4_order 2 (by decide +kernel) ⟨Nat.le_of_ble_eq_true rfl, Nat.le_of_ble_eq_true rfl⟩ [0] rfl [2, 1] rfl (by decide) [0] rfl (by decide) (by decide) rfl rfl (Nat.le_of_ble_eq_true rfl) ⟨Nat.zero_le _, Nat.zero_le _⟩ dX4_fits_76 79 rfl (fun z u hu => ?_)
          subst hu
          show TGo X [(h, .inr (4, fs)), (q, .inl (cI, 80, .inl (dg V))), (qother, .inl (cI, 80, .inl (dg ((Int.natAbs 9223372036854775807) * 10 ^ 5))))] 0 0 79 [(4, .int (iI x)), (0, .ref h), (1, .ref q), (2, .int (iI (bz wide))), (3, .int (iI (bz minus)))] [.int (iI (cmpN V ((Int.natAbs 9223372036854775807) * 10 ^ 5)))]
          refine TGo.sub (ws' := [(h, .inr (4, fs)), (qother, .inl (cI, 80, .inl (dg ((Int.natAbs 9223372036854775807) * 10 ^ 5)))), (q, .inl (cI, 80, .inl (dg V)))]) [0, 2, 1] (by decide) rfl ?_
          refine go_if_gt O dX4_fits_79 86 (by decide) 82 rfl (cmpN_r _ _) (fun hcm => ?_) (fun hcm => ?_)
          · refine go_iconst O dX4_fits_86 87 rfl ?_
            have hcl := cmpN_le (a := V) (b := ((Int.natAbs 9223372036854775807) * 10 ^ 5))
            have hl : tlim minus = Int.natAbs 9223372036854775807 := by have em : minus = false := bz_0.mp (by omega); rw [em]; rfl
            exact hret _ _ _ (dg ((Int.natAbs 9223372036854775807) * 10 ^ 5)) dX4_fits_87 rfl (tfit_f0 hw (fun e => by have h9 := e.2; rw [hl] at h9; exact absurd (hcl.mpr h9) (Int.not_le.mpr hcm)))
          · refine go_iconst O dX4_fits_82 83 rfl ?_
            refine go_goto O dX4_fits_83 87 (by decide) ?_
            have hcl := cmpN_le (a := V) (b := ((Int.natAbs 9223372036854775807) * 10 ^ 5))
            have hl : tlim minus = Int.natAbs 9223372036854775807 := by have em : minus = false := bz_0.mp (by omega); rw [em]; rfl
            exact hret _ _ _ (dg ((Int.natAbs 9223372036854775807) * 10 ^ 5)) dX4_fits_87 rfl (tfit_f1 hw ⟨tmod_of 5 (fun j hj => hz j (by omega)), by rw [hl]; exact hcl.mp hcm⟩)
        · refine go_ldc2 O dX4_fits_51 (-9223372036854775808) kcX4_104 (by decide) 54 rfl ?_
          refine go_goto O dX4_fits_54 60 (by decide) ?_
          refine go_callvS (rest := []) (wr := [(h, .inr (4, fs)), (q, .inl (cI, 80, .inl (dg V)))]) O hK hE (c_X4_load E hE qother cI fo (-9223372036854775808) (by omega)) mlX4_100 smX4_load inX4 cdX4_load 2 (by decide +kernel) ⟨Nat.le_of_ble_eq_true rfl, Nat.le_of_ble_eq_true rfl⟩ [0] rfl [1] rfl (by decide) [0, 2] rfl (by decide) (by decide) rfl rfl (Nat.le_of_ble_eq_true rfl) ⟨Nat.zero_le _, Nat.zero_le _⟩ dX4_fits_60 63 rfl (fun u hu => ?_)
          show TGo X [(h, .inr (4, fs)), (q, .inl (cI, 80, .inl (dg V))), (qother, .inl (cI, 80, .inl (dg (Int.natAbs (-9223372036854775808)))))] 0 0 63 [(4, .int (iI x)), (0, .ref h), (1, .ref q), (2, .int (iI (bz wide))), (3, .int (iI (bz minus)))] []
          refine TGo.sub (ws' := [(h, .inr (4, fs)), (qother, .inl (cI, 80, .inl (dg (Int.natAbs (-9223372036854775808))))), (q, .inl (cI, 80, .inl (dg V)))]) [0, 2, 1] (by decide) rfl ?_
          refine go_aload_n O dX4_fits_63 rfl 1 rfl 64 rfl ?_
          refine go_get O hK dX4_fits_64 hinX4 0 rfl rfl 15 (by decide) flX4_44 f_other 67 rfl ?_
          refine go_iconst O dX4_fits_67 68 rfl ?_
          refine go_callvS (rest := []) (wr := [(h, .inr (4, fs)), (q, .inl (cI, 80, .inl (dg V)))]) O hK hE (c_X4_shift E hE qother cI (Int.natAbs (-9223372036854775808)) 5 (by omega)) mlX4_82 smX4_shift inX4 cdX4_shift 2 (by decide +kernel) ⟨Nat.le_of_ble_eq_true rfl, Nat.le_of_ble_eq_true rfl⟩ [0] rfl [1] rfl (by decide) [0, 2] rfl (by decide) (by decide) rfl rfl (Nat.le_of_ble_eq_true rfl) ⟨Nat.zero_le _, Nat.zero_le _⟩ dX4_fits_68 71 rfl (fun u hu => ?_)
          show TGo X [(h, .inr (4, fs)), (q, .inl (cI, 80, .inl (dg V))), (qother, .inl (cI, 80, .inl (dg ((Int.natAbs (-9223372036854775808)) * 10 ^ 5))))] 0 0 71 [(4, .int (iI x)), (0, .ref h), (1, .ref q), (2, .int (iI (bz wide))), (3, .int (iI (bz minus)))] []
          refine TGo.sub (ws' := [(h, .inr (4, fs)), (qother, .inl (cI, 80, .inl (dg ((Int.natAbs (-9223372036854775808)) * 10 ^ 5)))), (q, .inl (cI, 80, .inl (dg V)))]) [0, 2, 1] (by decide) rfl ?_
          refine go_aload_n O dX4_fits_71 rfl 2 rfl 72 rfl ?_
          refine go_aload_n O dX4_fits_72 rfl 1 rfl 73 rfl ?_
          refine go_get O hK dX4_fits_73 hinX4 0 rfl rfl 15 (by decide) flX4_44 f_other 76 rfl ?_
          refine go_calliS (rest := []) (wr := [(h, .inr (4, fs))]) O hK hE (c_X4_order E hE q qother cI V ((Int.natAbs (-9223372036854775808)) * 10 ^ 5) hV (by decide)) mlX4_86 smX4_order inX4 cdX4_order 2 (by decide +kernel) ⟨Nat.le_of_ble_eq_true rfl, Nat.le_of_ble_eq_true rfl⟩ [0] rfl [2, 1] rfl (by decide) [0] rfl (by decide) (by decide) rfl rfl (Nat.le_of_ble_eq_true rfl) ⟨Nat.zero_le _, Nat.zero_le _⟩ dX4_fits_76 79 rfl (fun z u hu => ?_)
          subst hu
          show TGo X [(h, .inr (4, fs)), (q, .inl (cI, 80, .inl (dg V))), (qother, .inl (cI, 80, .inl (dg ((Int.natAbs (-9223372036854775808)) * 10 ^ 5))))] 0 0 79 [(4, .int (iI x)), (0, .ref h), (1, .ref q), (2, .int (iI (bz wide))), (3, .int (iI (bz minus)))] [.int (iI (cmpN V ((Int.natAbs (-9223372036854775808)) * 10 ^ 5)))]
          refine TGo.sub (ws' := [(h, .inr (4, fs)), (qother, .inl (cI, 80, .inl (dg ((Int.natAbs (-9223372036854775808)) * 10 ^ 5)))), (q, .inl (cI, 80, .inl (dg V)))]) [0, 2, 1] (by decide) rfl ?_
          refine go_if_gt O dX4_fits_79 86 (by decide) 82 rfl (cmpN_r _ _) (fun hcm => ?_) (fun hcm => ?_)
          · refine go_iconst O dX4_fits_86 87 rfl ?_
            have hcl := cmpN_le (a := V) (b := ((Int.natAbs (-9223372036854775808)) * 10 ^ 5))
            have hl : tlim minus = Int.natAbs (-9223372036854775808) := by have em : minus = true := bz_1.mp (by omega); rw [em]; rfl
            exact hret _ _ _ (dg ((Int.natAbs (-9223372036854775808)) * 10 ^ 5)) dX4_fits_87 rfl (tfit_f0 hw (fun e => by have h9 := e.2; rw [hl] at h9; exact absurd (hcl.mpr h9) (Int.not_le.mpr hcm)))
          · refine go_iconst O dX4_fits_82 83 rfl ?_
            refine go_goto O dX4_fits_83 87 (by decide) ?_
            have hcl := cmpN_le (a := V) (b := ((Int.natAbs (-9223372036854775808)) * 10 ^ 5))
            have hl : tlim minus = Int.natAbs (-9223372036854775808) := by have em : minus = true := bz_1.mp (by omega); rw [em]; rfl
            exact hret _ _ _ (dg ((Int.natAbs (-9223372036854775808)) * 10 ^ 5)) dX4_fits_87 rfl (tfit_f1 hw ⟨tmod_of 5 (fun j hj => hz j (by omega)), by rw [hl]; exact hcl.mp hcm⟩)
      · refine go_aload_n O dX4_fits_28 rfl 2 rfl 29 rfl ?_
        refine go_iload O dX4_fits_29 0 rfl 31 rfl ?_
        refine go_iald O hK dX4_fits_31 2 0 rfl rfl i hx (by omega) (by omega) ((V / 10 ^ i % 10 : Nat) : Int) rfl 32 rfl ?_
        refine go_if_eq O dX4_fits_32 37 (by decide) 35 rfl (by omega) (fun h32 => ?_) (fun h32 => ?_)
        · refine go_iinc O dX4_fits_37 0 rfl ((i + 1 : Nat) : Int) (by omega) (by decide) [(4, .int (iI ((i + 1 : Nat) : Int))), (0, .ref h), (1, .ref q), (2, .int (iI (bz wide))), (3, .int (iI (bz minus)))] rfl 40 rfl ?_
          refine go_goto O dX4_fits_40 22 (by decide) ?_
          refine TGo.lsub (lv' := [(4, .int (iI ((i + 1 : Nat) : Int))), (0, .ref h), (1, .ref q), (2, .int (iI (bz wide))), (3, .int (iI (bz minus)))]) [0, 1, 2, 3, 4] rfl ?_
          exact ih (i + 1) _ (by omega) (by omega) (by omega) (fun j hj => if e : j < i then hz j e else (by have e2 : j = i := (by omega); rw [e2]; omega)) hw
        · refine go_iconst O dX4_fits_35 36 rfl ?_
          exact hret _ _ _ fo dX4_fits_36 rfl (tfit_f0 hw (fun e => by have := tmod_dig (j := i) e.1 (by omega); omega))
  refine go_iload_n O dX4_fits_0 rfl 2 rfl 1 rfl ?_
  refine go_if_eq O dX4_fits_1 19 (by decide) 4 rfl (by omega) (fun h1 => ?_) (fun h1 => ?_)
  · refine go_iconst O dX4_fits_19 20 rfl ?_
    refine go_istore O dX4_fits_20 (by decide) [(4, .int (iI 0)), (0, .ref h), (1, .ref q), (2, .int (iI (bz wide))), (3, .int (iI (bz minus)))] rfl 22 rfl ?_
    refine TGo.lsub (lv' := [(4, .int (iI 0)), (0, .ref h), (1, .ref q), (2, .int (iI (bz wide))), (3, .int (iI (bz minus)))]) [0, 1, 2, 3, 4] rfl ?_
    exact lp 6 0 _ (by omega) (by omega) (by omega) (fun j a => absurd a (by omega)) (by omega)
  · refine go_aload_n O dX4_fits_4 rfl 1 rfl 5 rfl ?_
    refine go_calliS (rest := []) (wr := [(h, .inr (4, fs)), (qother, .inl (cI, 80, .inl fo))]) O hK hE (c_X4_size E hE q cI V hV) mlX4_78 smX4_size inX4 cdX4_size 1 (by decide +kernel) ⟨Nat.le_of_ble_eq_true rfl, Nat.le_of_ble_eq_true rfl⟩ [0] rfl [2] rfl (by decide) [0, 1] rfl (by decide) (by decide) rfl rfl (Nat.le_of_ble_eq_true rfl) ⟨Nat.zero_le _, Nat.zero_le _⟩ dX4_fits_5 8 rfl (fun z u hu => ?_)
    subst hu
    have t0 := tnds_mono (N := V) (e := 36)
    have t1 := tnds_gt (N := V) (e := 36)
    have t2 := tnds_mono (N := V) (e := 80) hV
    show TGo X [(h, .inr (4, fs)), (qother, .inl (cI, 80, .inl fo)), (q, .inl (cI, 80, .inl (dg V)))] 0 0 8 [(0, .ref h), (1, .ref q), (2, .int (iI (bz wide))), (3, .int (iI (bz minus)))] [.int (iI ((tnds V : Nat) : Int))]
    refine go_bipush O dX4_fits_8 (by decide) 10 rfl ?_
    refine go_icmp_gt O dX4_fits_10 17 (by decide) 13 rfl (by omega) (by omega) (fun h10 => ?_) (fun h10 => ?_)
    · refine go_iconst O dX4_fits_17 18 rfl ?_
      exact hret _ _ _ fo dX4_fits_18 rfl (tfit_t0 (by omega) (by omega))
    · refine go_iconst O dX4_fits_13 14 rfl ?_
      refine go_goto O dX4_fits_14 18 (by decide) ?_
      exact hret _ _ _ fo dX4_fits_18 rfl (tfit_t1 (by omega) (by omega))
set_option maxHeartbeats 4000000 in
set_option maxRecDepth 100000 in
/-- keep: a row into a register -/
theorem c_X4_keep (E : TEn) (hE : EnvOk E) (h : Nat) (fs : List Value) {qcurrency qisWide qnegative qkept : Nat} (f_currency : fs[3]? = some (.ref qcurrency)) (f_isWide : fs[4]? = some (.ref qisWide)) (f_negative : fs[5]? = some (.ref qnegative)) (f_kept : fs[6]? = some (.ref qkept)) (q : Nat) (cI cZ : ClassId) (ρ V : Nat) (cu : Int) (fc fw fn K : Nat → Int32) (reg : Rg) (wide minus : Bool) (hρ : ρ < 8) (hc : 0 ≤ cu ∧ cu ≤ 5) (hV : V < 10 ^ 36) (hMR : MR fc fw fn K reg) : Cti vwCl E yX4_keep wsX4_keep (rmn 1 22) [.ref h, .int (iI ((ρ : Nat) : Int)), .int (iI cu), .int (iI (bz wide)), .int (iI (bz minus)), .ref q] [(h, .inr (4, fs)), (qcurrency, .inl (cI, 8, .inl fc)), (qisWide, .inl (cZ, 8, .inl fw)), (qnegative, .inl (cZ, 8, .inl fn)), (qkept, .inl (cI, 320, .inl K)), (q, .inl (cI, 80, .inl (dg V)))] [(cI, .int), (cZ, .boolean)] (fun (z : Int) (u : (Nat → Int32) × (Nat → Int32) × (Nat → Int32) × (Nat → Int32)) => z = 0 ∧ MR u.1 u.2.1 u.2.2.1 u.2.2.2 (rset reg ρ (some (cu, wide, minus && decide (0 < V), V)))) (fun u => [(h, .inr (4, fs)), (qcurrency, .inl (cI, 8, .inl u.1)), (qisWide, .inl (cZ, 8, .inl u.2.1)), (qnegative, .inl (cZ, 8, .inl u.2.2.1)), (qkept, .inl (cI, 320, .inl u.2.2.2)), (q, .inl (cI, 80, .inl (dg V)))]) := by
  refine enteri (by decide) (Nat.le_of_ble_eq_true rfl) ?_
  intro X O hK hin2 hret
  show TGo X [(h, .inr (4, fs)), (qcurrency, .inl (cI, 8, .inl fc)), (qisWide, .inl (cZ, 8, .inl fw)), (qnegative, .inl (cZ, 8, .inl fn)), (qkept, .inl (cI, 320, .inl K)), (q, .inl (cI, 80, .inl (dg V)))] 0 0 0 [(0, .ref h), (1, .int (iI ((ρ : Nat) : Int))), (2, .int (iI cu)), (3, .int (iI (bz wide))), (4, .int (iI (bz minus))), (5, .ref q)] []
  have hw01 := bz_01 wide
  have hm01 := bz_01 minus
  have lp : ∀ (c : Nat) (i : Nat) (x : Int) (nz : Int) (g : Nat → Int32), c + i = 41 → i ≤ 40 → x = (i : Int) → nz = bz (minus && decide (0 < V)) → (∀ j, j < i → g (40 * ρ + j) = dg V j) → (∀ j, ¬ (40 * ρ ≤ j ∧ j < 40 * ρ + 40) → g j = K j) → TGo X [(h, .inr (4, fs)), (qcurrency, .inl (cI, 8, .inl (upd fc ρ (iI cu)))), (qisWide, .inl (cZ, 8, .inl (upd fw ρ (iI (bz wide))))), (qnegative, .inl (cZ, 8, .inl (upd fn ρ (iI nz)))), (qkept, .inl (cI, 320, .inl g)), (q, .inl (cI, 80, .inl (dg V)))] 0 0 41 [(6, .int (iI x)), (0, .ref h), (1, .int (iI ((ρ : Nat) : Int))), (2, .int (iI cu)), (3, .int (iI (bz wide))), (4, .int (iI (bz minus))), (5, .ref q)] [] := by
    intro c
    induction c with
    | zero => intro i x nz g h1 h2 hx hnz hlo hot; omega
    | succ c ih =>
      intro i x nz g h1 h2 hx hnz hlo hot
      refine go_iload O dX4_keep_41 0 rfl 43 rfl ?_
      refine go_bipush O dX4_keep_43 (by decide) 45 rfl ?_
      refine go_icmp_ge O dX4_keep_45 71 (by decide) 48 rfl (by omega) (by omega) (fun h45 => ?_) (fun h45 => ?_)
      · refine go_iconst O dX4_keep_71 72 rfl ?_
        exact hret _ _ _ (upd fc ρ (iI cu), upd fw ρ (iI (bz wide)), upd fn ρ (iI nz), g) dX4_keep_72 rfl ⟨rfl, MR_keep hMR hc hV hnz (fun j hj => hlo j (by omega)) hot⟩
      · refine go_aload_n O dX4_keep_48 rfl 1 rfl 49 rfl ?_
        refine go_get O hK dX4_keep_49 hinX4 0 rfl rfl 6 (by decide) flX4_20 f_kept 52 rfl ?_
        refine go_bipush O dX4_keep_52 (by decide) 54 rfl ?_
        refine go_iload_n O dX4_keep_54 rfl 2 rfl 55 rfl ?_
        refine go_imul O dX4_keep_55 ((40 * (ρ) : Nat) : Int) (by omega) 56 rfl ?_
        refine go_iload O dX4_keep_56 0 rfl 58 rfl ?_
        refine go_iadd O dX4_keep_58 ((40 * ρ + i : Nat) : Int) (by omega) 59 rfl ?_
        refine go_aload O dX4_keep_59 6 rfl 61 rfl ?_
        refine go_iload O dX4_keep_61 0 rfl 63 rfl ?_
        refine go_iald O hK dX4_keep_63 5 0 rfl rfl i hx (by omega) (by omega) ((V / 10 ^ i % 10 : Nat) : Int) rfl 64 rfl ?_
        refine go_iast O hK dX4_keep_64 4 0 rfl rfl (40 * ρ + i) rfl (by omega) (by omega) (upd g (40 * ρ + i) (iI ((V / 10 ^ i % 10 : Nat) : Int))) (fun _ _ => rfl) [(h, .inr (4, fs)), (qcurrency, .inl (cI, 8, .inl (upd fc ρ (iI cu)))), (qisWide, .inl (cZ, 8, .inl (upd fw ρ (iI (bz wide))))), (qnegative, .inl (cZ, 8, .inl (upd fn ρ (iI nz)))), (qkept, .inl (cI, 320, .inl (upd g (40 * ρ + i) (iI ((V / 10 ^ i % 10 : Nat) : Int))))), (q, .inl (cI, 80, .inl (dg V)))] rfl 65 rfl ?_
        refine go_iinc O dX4_keep_65 0 rfl ((i + 1 : Nat) : Int) (by omega) (by decide) [(6, .int (iI ((i + 1 : Nat) : Int))), (0, .ref h), (1, .int (iI ((ρ : Nat) : Int))), (2, .int (iI cu)), (3, .int (iI (bz wide))), (4, .int (iI (bz minus))), (5, .ref q)] rfl 68 rfl ?_
        refine go_goto O dX4_keep_68 41 (by decide) ?_
        refine TGo.lsub (lv' := [(6, .int (iI ((i + 1 : Nat) : Int))), (0, .ref h), (1, .int (iI ((ρ : Nat) : Int))), (2, .int (iI cu)), (3, .int (iI (bz wide))), (4, .int (iI (bz minus))), (5, .ref q)]) [0, 1, 2, 3, 4, 5, 6] rfl ?_
        exact ih (i + 1) _ _ _ (by omega) (by omega) (by omega) hnz (keep_lo hlo) (keep_ot (by omega) hot)
  refine go_aload_n O dX4_keep_0 rfl 0 rfl 1 rfl ?_
  refine go_get O hK dX4_keep_1 hinX4 0 rfl rfl 3 (by decide) flX4_7 f_currency 4 rfl ?_
  refine go_iload_n O dX4_keep_4 rfl 1 rfl 5 rfl ?_
  refine go_iload_n O dX4_keep_5 rfl 2 rfl 6 rfl ?_
  refine go_iast O hK dX4_keep_6 1 0 rfl rfl ρ rfl (by omega) (by omega) (upd fc ρ (iI cu)) (fun _ _ => rfl) [(h, .inr (4, fs)), (qcurrency, .inl (cI, 8, .inl (upd fc ρ (iI cu)))), (qisWide, .inl (cZ, 8, .inl fw)), (qnegative, .inl (cZ, 8, .inl fn)), (qkept, .inl (cI, 320, .inl K)), (q, .inl (cI, 80, .inl (dg V)))] rfl 7 rfl ?_
  refine go_aload_n O dX4_keep_7 rfl 0 rfl 8 rfl ?_
  refine go_get O hK dX4_keep_8 hinX4 0 rfl rfl 4 (by decide) flX4_13 f_isWide 11 rfl ?_
  refine go_iload_n O dX4_keep_11 rfl 1 rfl 12 rfl ?_
  refine go_iload_n O dX4_keep_12 rfl 3 rfl 13 rfl ?_
  refine go_zast O hK dX4_keep_13 2 1 rfl rfl ρ rfl (by omega) (by omega) (vnar_b (bz_01 _)) (upd fw ρ (iI (bz wide))) (fun _ _ => rfl) [(h, .inr (4, fs)), (qcurrency, .inl (cI, 8, .inl (upd fc ρ (iI cu)))), (qisWide, .inl (cZ, 8, .inl (upd fw ρ (iI (bz wide))))), (qnegative, .inl (cZ, 8, .inl fn)), (qkept, .inl (cI, 320, .inl K)), (q, .inl (cI, 80, .inl (dg V)))] rfl 14 rfl ?_
  refine go_aload_n O dX4_keep_14 rfl 0 rfl 15 rfl ?_
  refine go_get O hK dX4_keep_15 hinX4 0 rfl rfl 5 (by decide) flX4_17 f_negative 18 rfl ?_
  refine go_iload_n O dX4_keep_18 rfl 1 rfl 19 rfl ?_
  refine go_iload O dX4_keep_19 4 rfl 21 rfl ?_
  refine go_if_eq O dX4_keep_21 36 (by decide) 24 rfl (by omega) (fun h21 => ?_) (fun h21 => ?_)
  · refine go_iconst O dX4_keep_36 37 rfl ?_
    refine go_zast O hK dX4_keep_37 3 1 rfl rfl ρ rfl (by omega) (by omega) rfl (upd fn ρ (iI 0)) (fun _ _ => rfl) [(h, .inr (4, fs)), (qcurrency, .inl (cI, 8, .inl (upd fc ρ (iI cu)))), (qisWide, .inl (cZ, 8, .inl (upd fw ρ (iI (bz wide))))), (qnegative, .inl (cZ, 8, .inl (upd fn ρ (iI 0)))), (qkept, .inl (cI, 320, .inl K)), (q, .inl (cI, 80, .inl (dg V)))] rfl 38 rfl ?_
    refine go_iconst O dX4_keep_38 39 rfl ?_
    refine go_istore O dX4_keep_39 (by decide) [(6, .int (iI 0)), (0, .ref h), (1, .int (iI ((ρ : Nat) : Int))), (2, .int (iI cu)), (3, .int (iI (bz wide))), (4, .int (iI (bz minus))), (5, .ref q)] rfl 41 rfl ?_
    refine TGo.lsub (lv' := [(6, .int (iI 0)), (0, .ref h), (1, .int (iI ((ρ : Nat) : Int))), (2, .int (iI cu)), (3, .int (iI (bz wide))), (4, .int (iI (bz minus))), (5, .ref q)]) [0, 1, 2, 3, 4, 5, 6] rfl ?_
    exact lp 41 0 _ _ _ (by omega) (by omega) (by omega) (band_0 (by omega)) (fun j a => absurd a (by omega)) (fun _ _ => rfl)
  · refine go_aload O dX4_keep_24 5 rfl 26 rfl ?_
    refine go_calliS (rest := [.int (iI ((ρ : Nat) : Int)), .ref qnegative]) (wr := [(h, .inr (4, fs)), (qcurrency, .inl (cI, 8, .inl (upd fc ρ (iI cu)))), (qisWide, .inl (cZ, 8, .inl (upd fw ρ (iI (bz wide))))), (qnegative, .inl (cZ, 8, .inl fn)), (qkept, .inl (cI, 320, .inl K))]) O hK hE (c_X4_size E hE q cI V (Nat.lt_of_lt_of_le hV (p10le (by omega)))) mlX4_78 smX4_size inX4 cdX4_size 1 (by decide +kernel) ⟨Nat.le_of_ble_eq_true rfl, Nat.le_of_ble_eq_true rfl⟩ [0] rfl [5] rfl (by decide) [0, 1, 2, 3, 4] rfl (by decide) (by decide) rfl rfl (Nat.le_of_ble_eq_true rfl) ⟨Nat.zero_le _, Nat.zero_le _⟩ dX4_keep_26 29 rfl (fun z u hu => ?_)
    subst hu
    have t0 := tnds_0iff (N := V)
    have t1 := tnds_mono (N := V) (e := 36) hV
    show TGo X [(h, .inr (4, fs)), (qcurrency, .inl (cI, 8, .inl (upd fc ρ (iI cu)))), (qisWide, .inl (cZ, 8, .inl (upd fw ρ (iI (bz wide))))), (qnegative, .inl (cZ, 8, .inl fn)), (qkept, .inl (cI, 320, .inl K)), (q, .inl (cI, 80, .inl (dg V)))] 0 0 29 [(0, .ref h), (1, .int (iI ((ρ : Nat) : Int))), (2, .int (iI cu)), (3, .int (iI (bz wide))), (4, .int (iI (bz minus))), (5, .ref q)] [.int (iI ((tnds V : Nat) : Int)), .int (iI ((ρ : Nat) : Int)), .ref qnegative]
    refine go_if_le O dX4_keep_29 36 (by decide) 32 rfl (by omega) (fun h29 => ?_) (fun h29 => ?_)
    · refine go_iconst O dX4_keep_36 37 rfl ?_
      refine go_zast O hK dX4_keep_37 3 1 rfl rfl ρ rfl (by omega) (by omega) rfl (upd fn ρ (iI 0)) (fun _ _ => rfl) [(h, .inr (4, fs)), (qcurrency, .inl (cI, 8, .inl (upd fc ρ (iI cu)))), (qisWide, .inl (cZ, 8, .inl (upd fw ρ (iI (bz wide))))), (qnegative, .inl (cZ, 8, .inl (upd fn ρ (iI 0)))), (qkept, .inl (cI, 320, .inl K)), (q, .inl (cI, 80, .inl (dg V)))] rfl 38 rfl ?_
      refine go_iconst O dX4_keep_38 39 rfl ?_
      refine go_istore O dX4_keep_39 (by decide) [(6, .int (iI 0)), (0, .ref h), (1, .int (iI ((ρ : Nat) : Int))), (2, .int (iI cu)), (3, .int (iI (bz wide))), (4, .int (iI (bz minus))), (5, .ref q)] rfl 41 rfl ?_
      refine TGo.lsub (lv' := [(6, .int (iI 0)), (0, .ref h), (1, .int (iI ((ρ : Nat) : Int))), (2, .int (iI cu)), (3, .int (iI (bz wide))), (4, .int (iI (bz minus))), (5, .ref q)]) [0, 1, 2, 3, 4, 5, 6] rfl ?_
      exact lp 41 0 _ _ _ (by omega) (by omega) (by omega) (band_0 (by omega)) (fun j a => absurd a (by omega)) (fun _ _ => rfl)
    · refine go_iconst O dX4_keep_32 33 rfl ?_
      refine go_goto O dX4_keep_33 37 (by decide) ?_
      refine go_zast O hK dX4_keep_37 3 1 rfl rfl ρ rfl (by omega) (by omega) rfl (upd fn ρ (iI 1)) (fun _ _ => rfl) [(h, .inr (4, fs)), (qcurrency, .inl (cI, 8, .inl (upd fc ρ (iI cu)))), (qisWide, .inl (cZ, 8, .inl (upd fw ρ (iI (bz wide))))), (qnegative, .inl (cZ, 8, .inl (upd fn ρ (iI 1)))), (qkept, .inl (cI, 320, .inl K)), (q, .inl (cI, 80, .inl (dg V)))] rfl 38 rfl ?_
      refine go_iconst O dX4_keep_38 39 rfl ?_
      refine go_istore O dX4_keep_39 (by decide) [(6, .int (iI 0)), (0, .ref h), (1, .int (iI ((ρ : Nat) : Int))), (2, .int (iI cu)), (3, .int (iI (bz wide))), (4, .int (iI (bz minus))), (5, .ref q)] rfl 41 rfl ?_
      refine TGo.lsub (lv' := [(6, .int (iI 0)), (0, .ref h), (1, .int (iI ((ρ : Nat) : Int))), (2, .int (iI cu)), (3, .int (iI (bz wide))), (4, .int (iI (bz minus))), (5, .ref q)]) [0, 1, 2, 3, 4, 5, 6] rfl ?_
      exact lp 41 0 _ _ _ (by omega) (by omega) (by omega) (band_1 (by omega) (by omega)) (fun j a => absurd a (by omega)) (fun _ _ => rfl)
