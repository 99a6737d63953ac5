/-! Truth values as ints. -/
def bz (b : Bool) : Int := if b = true then 1 else 0
theorem bz_t : bz true = 1 := rfl
theorem bz_f : bz false = 0 := rfl
theorem bz_01 (b : Bool) : bz b = 0 ∨ bz b = 1 := by cases b <;> simp [bz]
theorem bz_0 {b : Bool} : bz b = 0 ↔ b = false := by cases b <;> simp [bz]
theorem bz_1 {b : Bool} : bz b = 1 ↔ b = true := by cases b <;> simp [bz]
theorem bz_r (b : Bool) : r32 (bz b) := by rcases bz_01 b with h | h <;> rw [h] <;> constructor <;> omega
theorem nar_b {z : Int} (h : z = 0 ∨ z = 1) : narrow .boolean (.int (iI z)) = .int (iI z) := by rcases h with rfl | rfl <;> rfl
theorem fit_b {z : Int} (h : z = 0 ∨ z = 1) : fits .boolean (.int (iI z)) = true := by rcases h with rfl | rfl <;> rfl
theorem vnar_b {z : Int} (h : z = 0 ∨ z = 1) : vp_nar .boolean (iI z) = iI z := by rcases h with rfl | rfl <;> rfl
theorem awy_iff {m : Int} {b : Bool} {q r d : Nat} : awy m b q r d = true ↔ r ≠ 0 ∧ (m = 0 ∨ (m = 2 ∧ bz b = 0) ∨ (m = 3 ∧ bz b = 1) ∨ (m = 4 ∧ d ≤ 2 * r) ∨ (m = 5 ∧ d < 2 * r) ∨ (m = 6 ∧ (d < 2 * r ∨ (d ≤ 2 * r ∧ q % 2 = 1)))) := by
  unfold awy
  rw [bz_0, bz_1]
  simp only [Bool.and_eq_true, Bool.or_eq_true, Bool.not_eq_true', decide_eq_true_eq, decide_eq_false_iff_not, ne_eq]
  constructor
  · intro ⟨h1, h2⟩
    refine ⟨h1, ?_⟩
    rcases h2 with ((((h2 | h2) | h2) | h2) | h2) | h2
    · exact Or.inl h2
    · exact Or.inr (Or.inl h2)
    · exact Or.inr (Or.inr (Or.inl h2))
    · exact Or.inr (Or.inr (Or.inr (Or.inl h2)))
    · exact Or.inr (Or.inr (Or.inr (Or.inr (Or.inl h2))))
    · exact Or.inr (Or.inr (Or.inr (Or.inr (Or.inr h2))))
  · intro ⟨h1, h2⟩
    refine ⟨h1, ?_⟩
    rcases h2 with h2 | h2 | h2 | h2 | h2 | h2
    · exact Or.inl (Or.inl (Or.inl (Or.inl (Or.inl h2))))
    · exact Or.inl (Or.inl (Or.inl (Or.inl (Or.inr h2))))
    · exact Or.inl (Or.inl (Or.inl (Or.inr h2)))
    · exact Or.inl (Or.inl (Or.inr h2))
    · exact Or.inl (Or.inr h2)
    · exact Or.inr h2
theorem trnd_up {m : Int} {b : Bool} {q r d : Nat} (h0 : r ≠ 0) (h : m = 0 ∨ (m = 2 ∧ bz b = 0) ∨ (m = 3 ∧ bz b = 1) ∨ (m = 4 ∧ d ≤ 2 * r) ∨ (m = 5 ∧ d < 2 * r) ∨ (m = 6 ∧ (d < 2 * r ∨ (d ≤ 2 * r ∧ q % 2 = 1)))) : trnd m b q r d = q + 1 := by
  unfold trnd
  rw [if_pos (awy_iff.mpr ⟨h0, h⟩)]
theorem trnd_no {m : Int} {b : Bool} {q r d : Nat} (h : ¬ (m = 0 ∨ (m = 2 ∧ bz b = 0) ∨ (m = 3 ∧ bz b = 1) ∨ (m = 4 ∧ d ≤ 2 * r) ∨ (m = 5 ∧ d < 2 * r) ∨ (m = 6 ∧ (d < 2 * r ∨ (d ≤ 2 * r ∧ q % 2 = 1))))) : trnd m b q r d = q := by
  unfold trnd
  rw [if_neg (fun e => h (awy_iff.mp e).2)]
theorem trnd_0 {m : Int} {b : Bool} {q d : Nat} : trnd m b q 0 d = q := by
  unfold trnd
  rw [if_neg (fun e => (awy_iff.mp e).1 rfl)]
theorem tnds_0iff {N : Nat} : tnds N = 0 ↔ N = 0 := by
  constructor
  · intro h
    have := tnds_lt N
    rw [h, Nat.pow_zero] at this
    omega
  · intro h; subst h; rfl
set_option maxHeartbeats 4000000 in
set_option maxRecDepth 100000 in
/-- take: a register into a row -/
theorem c_X4_take (E : TEn) (hE : EnvOk E) (h : Nat) (fs : List Value) {qkept : Nat} (f_kept : fs[6]? = some (.ref qkept)) (q : Nat) (cI : ClassId) (K f : Nat → Int32) (ρ V : Nat) (hρ : ρ < 8) (hV : V < 10 ^ 40) (hKV : ∀ j, j < 40 → K (40 * ρ + j) = dg V j) : Ctv vwCl E yX4_take wsX4_take (rmn 1 21) [.ref h, .ref q, .int (iI ((ρ : Nat) : Int))] [(h, .inr (4, fs)), (qkept, .inl (cI, 320, .inl K)), (q, .inl (cI, 80, .inl f))] [(cI, .int)] (fun _ : Unit => True) (fun _ => [(h, .inr (4, fs)), (qkept, .inl (cI, 320, .inl K)), (q, .inl (cI, 80, .inl (dg V)))]) := by
  refine enterv (by decide) (Nat.le_of_ble_eq_true rfl) ?_
  intro X O hK hin2 hret
  show TGo X [(h, .inr (4, fs)), (qkept, .inl (cI, 320, .inl K)), (q, .inl (cI, 80, .inl f))] 0 0 0 [(0, .ref h), (1, .ref q), (2, .int (iI ((ρ : Nat) : Int)))] []
  have lp : ∀ (c : Nat) (i : Nat) (x : Int) (g : Nat → Int32), c + i = 41 → i ≤ 40 → x = (i : Int) → (∀ j, j < i → g j = dg V j) → (∀ j, i ≤ j → g j = iI 0) → TGo X [(h, .inr (4, fs)), (qkept, .inl (cI, 320, .inl K)), (q, .inl (cI, 80, .inl g))] 0 0 6 [(3, .int (iI x)), (0, .ref h), (1, .ref q), (2, .int (iI ((ρ : Nat) : Int)))] [] := by
    intro c
    induction c with
    | zero => intro i x g h1 h2 hx hlo hhi; omega
    | succ c ih =>
      intro i x g h1 h2 hx hlo hhi
      refine go_iload_n O dX4_take_6 rfl 0 rfl 7 rfl ?_
      refine go_bipush O dX4_take_7 (by decide) 9 rfl ?_
      refine go_icmp_ge O dX4_take_9 32 (by decide) 12 rfl (by omega) (by omega) (fun h9 => ?_) (fun h9 => ?_)
      · refine TGo.arr 2 rfl (dg V) (fun j hj => if a : j < i then hlo j a else (by rw [hhi j (by omega), dg_at, q_lt' (i := 40) hV (by omega)]; rfl)) (ws' := [(h, .inr (4, fs)), (qkept, .inl (cI, 320, .inl K)), (q, .inl (cI, 80, .inl (dg V)))]) rfl ?_
        exact hret _ _ () dX4_take_32 trivial
      · refine go_aload_n O dX4_take_12 rfl 2 rfl 13 rfl ?_
        refine go_iload_n O dX4_take_13 rfl 0 rfl 14 rfl ?_
        refine go_aload_n O dX4_take_14 rfl 1 rfl 15 rfl ?_
        refine go_get O hK dX4_take_15 hinX4 0 rfl rfl 6 (by decide) flX4_20 f_kept 18 rfl ?_
        refine go_bipush O dX4_take_18 (by decide) 20 rfl ?_
        refine go_iload_n O dX4_take_20 rfl 3 rfl 21 rfl ?_
        refine go_imul O dX4_take_21 ((40 * (ρ) : Nat) : Int) (by omega) 22 rfl ?_
        refine go_iload_n O dX4_take_22 rfl 0 rfl 23 rfl ?_
        refine go_iadd O dX4_take_23 ((40 * ρ + i : Nat) : Int) (by omega) 24 rfl ?_
        refine go_iald O hK dX4_take_24 1 0 rfl rfl (40 * ρ + i) rfl (by omega) (by omega) ((V / 10 ^ i % 10 : Nat) : Int) (hKV i (by omega)) 25 rfl ?_
        refine go_iast O hK dX4_take_25 2 0 rfl rfl i hx (by omega) (by omega) (upd g i (iI ((V / 10 ^ i % 10 : Nat) : Int))) (fun _ _ => rfl) [(h, .inr (4, fs)), (qkept, .inl (cI, 320, .inl K)), (q, .inl (cI, 80, .inl (upd g i (iI ((V / 10 ^ i % 10 : Nat) : Int)))))] rfl 26 rfl ?_
        refine go_iinc O dX4_take_26 0 rfl ((i + 1 : Nat) : Int) (by omega) (by decide) [(3, .int (iI ((i + 1 : Nat) : Int))), (0, .ref h), (1, .ref q), (2, .int (iI ((ρ : Nat) : Int)))] rfl 29 rfl ?_
        refine go_goto O dX4_take_29 6 (by decide) ?_
        refine TGo.lsub (lv' := [(3, .int (iI ((i + 1 : Nat) : Int))), (0, .ref h), (1, .ref q), (2, .int (iI ((ρ : Nat) : Int)))]) [0, 1, 2, 3] rfl ?_
        exact ih (i + 1) _ _ (by omega) (by omega) (by omega) (lo_upd hlo rfl) (hi_upd hhi)
  refine go_aload_n O dX4_take_0 rfl 1 rfl 1 rfl ?_
  refine go_callvS (rest := []) (wr := [(h, .inr (4, fs)), (qkept, .inl (cI, 320, .inl K))]) O hK hE (c_X4_clear E hE q cI f) mlX4_72 smX4_clear inX4 cdX4_clear 1 (by decide +kernel) ⟨Nat.le_of_ble_eq_true rfl, Nat.le_of_ble_eq_true rfl⟩ [0] rfl [2] rfl (by decide) [0, 1] rfl (by decide) (by decide) rfl rfl (Nat.le_of_ble_eq_true rfl) ⟨Nat.zero_le _, Nat.zero_le _⟩ dX4_take_1 4 rfl (fun u hu => ?_)
  show TGo X [(h, .inr (4, fs)), (qkept, .inl (cI, 320, .inl K)), (q, .inl (cI, 80, .inl (dg 0)))] 0 0 4 [(0, .ref h), (1, .ref q), (2, .int (iI ((ρ : Nat) : Int)))] []
  refine go_iconst O dX4_take_4 5 rfl ?_
  refine go_istore_n O dX4_take_5 rfl (by decide) [(3, .int (iI 0)), (0, .ref h), (1, .ref q), (2, .int (iI ((ρ : Nat) : Int)))] rfl 6 rfl ?_
  refine TGo.lsub (lv' := [(3, .int (iI 0)), (0, .ref h), (1, .ref q), (2, .int (iI ((ρ : Nat) : Int)))]) [0, 1, 2, 3] rfl ?_
  exact lp 41 0 _ _ (by omega) (by omega) (by omega) (fun j a => absurd a (by omega)) (fun j _ => dg_zero j)
set_option maxHeartbeats 4000000 in
set_option maxRecDepth 100000 in
/-- rounds: the quotient rounded in a mode -/
theorem c_X4_rounds (E : TEn) (hE : EnvOk E) (h : Nat) (fs : List Value) {qden qquo qrem qother : Nat} (f_den : fs[12]? = some (.ref qden)) (f_quo : fs[13]? = some (.ref qquo)) (f_rem : fs[14]? = some (.ref qrem)) (f_other : fs[15]? = some (.ref qother)) (cI : ClassId) (Q R D : Nat) (fo : Nat → Int32) (minus : Bool) (mode : Int) (hmo : 0 ≤ mode ∧ mode ≤ 7) (hR : R < 10 ^ 80) (hR2 : R + R < 10 ^ 80) (hD : D < 10 ^ 80) : Cti vwCl E yX4_rounds wsX4_rounds (rmn 2 47) [.ref h, .int (iI (bz minus)), .int (iI mode)] [(h, .inr (4, fs)), (qden, .inl (cI, 80, .inl (dg D))), (qquo, .inl (cI, 80, .inl (dg Q))), (qrem, .inl (cI, 80, .inl (dg R))), (qother, .inl (cI, 80, .inl fo))] [(cI, .int)] (fun (z : Int) (_ : Nat → Int32) => z = if R = 0 ∨ mode ≠ 7 then 1 else 0) (fun u => [(h, .inr (4, fs)), (qden, .inl (cI, 80, .inl (dg D))), (qquo, .inl (cI, 80, .inl (dg (trnd mode minus Q R D)))), (qrem, .inl (cI, 80, .inl (dg R))), (qother, .inl (cI, 80, .inl u))]) := by
  refine enteri (by decide) (Nat.le_of_ble_eq_true rfl) ?_
  intro X O hK hin2 hret
  show TGo X [(h, .inr (4, fs)), (qden, .inl (cI, 80, .inl (dg D))), (qquo, .inl (cI, 80, .inl (dg Q))), (qrem, .inl (cI, 80, .inl (dg R))), (qother, .inl (cI, 80, .inl fo))] 0 0 0 [(0, .ref h), (1, .int (iI (bz minus))), (2, .int (iI mode))] []
  have hm01 := bz_01 minus
  have c1 := cmpN_ge (a := R + R) (b := D)
  have c2 := cmpN_gt (a := R + R) (b := D)
  have c3 := cmpN_eq (a := R + R) (b := D)
  have c4 := cmpN_r (R + R) D
  have m188 : ∀ (fo : Nat → Int32), R ≠ 0 → TGo X [(h, .inr (4, fs)), (qden, .inl (cI, 80, .inl (dg D))), (qquo, .inl (cI, 80, .inl (dg (trnd mode minus Q R D)))), (qrem, .inl (cI, 80, .inl (dg R))), (qother, .inl (cI, 80, .inl fo))] 0 0 188 [(0, .ref h), (1, .int (iI (bz minus))), (2, .int (iI mode))] [] := by
    intro fo hR0
    refine go_iload_n O dX4_rounds_188 rfl 2 rfl 189 rfl ?_
    refine go_bipush O dX4_rounds_189 (by decide) 191 rfl ?_
    refine go_icmp_eq O dX4_rounds_191 198 (by decide) 194 rfl (by omega) (by omega) (fun h191 => ?_) (fun h191 => ?_)
    · refine go_iconst O dX4_rounds_198 199 rfl ?_
      exact hret _ _ _ fo dX4_rounds_199 rfl (by rw [if_neg (by omega)])
    · refine go_iconst O dX4_rounds_194 195 rfl ?_
      refine go_goto O dX4_rounds_195 199 (by decide) ?_
      exact hret _ _ _ fo dX4_rounds_199 rfl (by rw [if_pos (by omega)])
  have m164 : ∀ (aw : Int) (fo : Nat → Int32), R ≠ 0 → ((aw = 1 ∧ (mode = 0 ∨ (mode = 2 ∧ bz minus = 0) ∨ (mode = 3 ∧ bz minus = 1) ∨ (mode = 4 ∧ D ≤ 2 * R) ∨ (mode = 5 ∧ D < 2 * R) ∨ (mode = 6 ∧ (D < 2 * R ∨ (D ≤ 2 * R ∧ Q % 2 = 1))))) ∨ (aw = 0 ∧ ¬ (mode = 0 ∨ (mode = 2 ∧ bz minus = 0) ∨ (mode = 3 ∧ bz minus = 1) ∨ (mode = 4 ∧ D ≤ 2 * R) ∨ (mode = 5 ∧ D < 2 * R) ∨ (mode = 6 ∧ (D < 2 * R ∨ (D ≤ 2 * R ∧ Q % 2 = 1)))))) → TGo X [(h, .inr (4, fs)), (qden, .inl (cI, 80, .inl (dg D))), (qquo, .inl (cI, 80, .inl (dg Q))), (qrem, .inl (cI, 80, .inl (dg R))), (qother, .inl (cI, 80, .inl fo))] 0 0 164 [(6, .int (iI aw)), (0, .ref h), (1, .int (iI (bz minus))), (2, .int (iI mode))] [] := by
    intro aw fo hR0 haw
    refine go_iload O dX4_rounds_164 0 rfl 166 rfl ?_
    refine go_if_eq O dX4_rounds_166 188 (by decide) 169 rfl (by omega) (fun h166 => ?_) (fun h166 => ?_)
    · refine TGo.lsub (lv' := [(0, .ref h), (1, .int (iI (bz minus))), (2, .int (iI mode))]) [1, 2, 3] rfl ?_
      have e : trnd mode minus Q R D = Q := trnd_no (by omega)
      rw [← e]
      exact m188 _ hR0
    · refine go_aload_n O dX4_rounds_169 rfl 1 rfl 170 rfl ?_
      refine go_get O hK dX4_rounds_170 hinX4 0 rfl rfl 15 (by decide) flX4_44 f_other 173 rfl ?_
      refine go_lconst O dX4_rounds_173 1 rfl 174 rfl ?_
      refine go_callvS (rest := []) (wr := [(h, .inr (4, fs)), (qden, .inl (cI, 80, .inl (dg D))), (qquo, .inl (cI, 80, .inl (dg Q))), (qrem, .inl (cI, 80, .inl (dg R)))]) O hK hE (c_X4_load E hE qother cI fo 1 (by omega)) mlX4_100 smX4_load inX4 cdX4_load 2 (by decide +kernel) ⟨Nat.le_of_ble_eq_true rfl, Nat.le_of_ble_eq_true rfl⟩ [0] rfl [4] rfl (by decide) [0, 1, 2, 3] rfl (by decide) (by decide) rfl rfl (Nat.le_of_ble_eq_true rfl) ⟨Nat.zero_le _, Nat.zero_le _⟩ dX4_rounds_174 177 rfl (fun u hu => ?_)
      show TGo X [(h, .inr (4, fs)), (qden, .inl (cI, 80, .inl (dg D))), (qquo, .inl (cI, 80, .inl (dg Q))), (qrem, .inl (cI, 80, .inl (dg R))), (qother, .inl (cI, 80, .inl (dg (Int.natAbs 1))))] 0 0 177 [(6, .int (iI aw)), (0, .ref h), (1, .int (iI (bz minus))), (2, .int (iI mode))] []
      refine go_aload_n O dX4_rounds_177 rfl 1 rfl 178 rfl ?_
      refine go_get O hK dX4_rounds_178 hinX4 0 rfl rfl 13 (by decide) flX4_38 f_quo 181 rfl ?_
      refine go_aload_n O dX4_rounds_181 rfl 1 rfl 182 rfl ?_
      refine go_get O hK dX4_rounds_182 hinX4 0 rfl rfl 15 (by decide) flX4_44 f_other 185 rfl ?_
      refine go_callvS (rest := []) (wr := [(h, .inr (4, fs)), (qden, .inl (cI, 80, .inl (dg D))), (qrem, .inl (cI, 80, .inl (dg R)))]) O hK hE (c_X4_increase E hE qquo qother cI Q (Int.natAbs 1)) mlX4_97 smX4_increase inX4 cdX4_increase 2 (by decide +kernel) ⟨Nat.le_of_ble_eq_true rfl, Nat.le_of_ble_eq_true rfl⟩ [0] rfl [2, 4] rfl (by decide) [0, 1, 3] rfl (by decide) (by decide) rfl rfl (Nat.le_of_ble_eq_true rfl) ⟨Nat.zero_le _, Nat.zero_le _⟩ dX4_rounds_185 188 rfl (fun u hu => ?_)
      show TGo X [(h, .inr (4, fs)), (qden, .inl (cI, 80, .inl (dg D))), (qrem, .inl (cI, 80, .inl (dg R))), (qquo, .inl (cI, 80, .inl (dg (Q + Int.natAbs 1)))), (qother, .inl (cI, 80, .inl (dg (Int.natAbs 1))))] 0 0 188 [(6, .int (iI aw)), (0, .ref h), (1, .int (iI (bz minus))), (2, .int (iI mode))] []
      refine TGo.sub (ws' := [(h, .inr (4, fs)), (qden, .inl (cI, 80, .inl (dg D))), (qquo, .inl (cI, 80, .inl (dg (Q + Int.natAbs 1)))), (qrem, .inl (cI, 80, .inl (dg R))), (qother, .inl (cI, 80, .inl (dg (Int.natAbs 1))))]) [0, 1, 3, 2, 4] (by decide) rfl ?_
      refine TGo.lsub (lv' := [(0, .ref h), (1, .int (iI (bz minus))), (2, .int (iI mode))]) [1, 2, 3] rfl ?_
      have e : trnd mode minus Q R D = Q + Int.natAbs 1 := by rw [trnd_up hR0 (by omega)]; rfl
      rw [← e]
      exact m188 _ hR0
  have m119 : ∀ (nr : Int) (fo : Nat → Int32), R ≠ 0 → ((nr = 1 ∧ ((mode = 4 ∧ D ≤ 2 * R) ∨ (mode = 5 ∧ D < 2 * R) ∨ (¬ mode = 4 ∧ ¬ mode = 5 ∧ (D < 2 * R ∨ (D ≤ 2 * R ∧ Q % 2 = 1))))) ∨ (nr = 0 ∧ ¬ ((mode = 4 ∧ D ≤ 2 * R) ∨ (mode = 5 ∧ D < 2 * R) ∨ (¬ mode = 4 ∧ ¬ mode = 5 ∧ (D < 2 * R ∨ (D ≤ 2 * R ∧ Q % 2 = 1)))))) → TGo X [(h, .inr (4, fs)), (qden, .inl (cI, 80, .inl (dg D))), (qquo, .inl (cI, 80, .inl (dg Q))), (qrem, .inl (cI, 80, .inl (dg R))), (qother, .inl (cI, 80, .inl fo))] 0 0 119 [(5, .int (iI nr)), (0, .ref h), (1, .int (iI (bz minus))), (2, .int (iI mode))] [] := by
    intro nr fo hR0 hnr
    refine go_iload_n O dX4_rounds_119 rfl 3 rfl 120 rfl ?_
    refine go_if_eq O dX4_rounds_120 157 (by decide) 123 rfl (by omega) (fun h120 => ?_) (fun h120 => ?_)
    · refine go_iconst O dX4_rounds_157 158 rfl ?_
      refine go_goto O dX4_rounds_158 162 (by decide) ?_
      refine go_istore O dX4_rounds_162 (by decide) [(6, .int (iI 1)), (5, .int (iI nr)), (0, .ref h), (1, .int (iI (bz minus))), (2, .int (iI mode))] rfl 164 rfl ?_
      refine TGo.lsub (lv' := [(6, .int (iI 1)), (0, .ref h), (1, .int (iI (bz minus))), (2, .int (iI mode))]) [0, 2, 3, 4] rfl ?_
      exact m164 _ _ hR0 (Or.inl ⟨rfl, by omega⟩)
    · refine go_iload_n O dX4_rounds_123 rfl 3 rfl 124 rfl ?_
      refine go_iconst O dX4_rounds_124 125 rfl ?_
      refine go_icmp_ne O dX4_rounds_125 132 (by decide) 128 rfl (by omega) (by omega) (fun h125 => ?_) (fun h125 => ?_)
      · refine go_iload_n O dX4_rounds_132 rfl 3 rfl 133 rfl ?_
        refine go_iconst O dX4_rounds_133 134 rfl ?_
        refine go_icmp_ne O dX4_rounds_134 141 (by decide) 137 rfl (by omega) (by omega) (fun h134 => ?_) (fun h134 => ?_)
        · refine go_iload_n O dX4_rounds_141 rfl 3 rfl 142 rfl ?_
          refine go_iconst O dX4_rounds_142 143 rfl ?_
          refine go_icmp_lt O dX4_rounds_143 161 (by decide) 146 rfl (by omega) (by omega) (fun h143 => ?_) (fun h143 => ?_)
          · refine go_iconst O dX4_rounds_161 162 rfl ?_
            refine go_istore O dX4_rounds_162 (by decide) [(6, .int (iI 0)), (5, .int (iI nr)), (0, .ref h), (1, .int (iI (bz minus))), (2, .int (iI mode))] rfl 164 rfl ?_
            refine TGo.lsub (lv' := [(6, .int (iI 0)), (0, .ref h), (1, .int (iI (bz minus))), (2, .int (iI mode))]) [0, 2, 3, 4] rfl ?_
            exact m164 _ _ hR0 (Or.inr ⟨rfl, by omega⟩)
          · refine go_iload_n O dX4_rounds_146 rfl 3 rfl 147 rfl ?_
            refine go_bipush O dX4_rounds_147 (by decide) 149 rfl ?_
            refine go_icmp_gt O dX4_rounds_149 161 (by decide) 152 rfl (by omega) (by omega) (fun h149 => ?_) (fun h149 => ?_)
            · refine go_iconst O dX4_rounds_161 162 rfl ?_
              refine go_istore O dX4_rounds_162 (by decide) [(6, .int (iI 0)), (5, .int (iI nr)), (0, .ref h), (1, .int (iI (bz minus))), (2, .int (iI mode))] rfl 164 rfl ?_
              refine TGo.lsub (lv' := [(6, .int (iI 0)), (0, .ref h), (1, .int (iI (bz minus))), (2, .int (iI mode))]) [0, 2, 3, 4] rfl ?_
              exact m164 _ _ hR0 (Or.inr ⟨rfl, by omega⟩)
            · refine go_iload O dX4_rounds_152 0 rfl 154 rfl ?_
              refine go_if_eq O dX4_rounds_154 161 (by decide) 157 rfl (by omega) (fun h154 => ?_) (fun h154 => ?_)
              · refine go_iconst O dX4_rounds_161 162 rfl ?_
                refine go_istore O dX4_rounds_162 (by decide) [(6, .int (iI 0)), (5, .int (iI nr)), (0, .ref h), (1, .int (iI (bz minus))), (2, .int (iI mode))] rfl 164 rfl ?_
                refine TGo.lsub (lv' := [(6, .int (iI 0)), (0, .ref h), (1, .int (iI (bz minus))), (2, .int (iI mode))]) [0, 2, 3, 4] rfl ?_
                exact m164 _ _ hR0 (Or.inr ⟨rfl, by omega⟩)
              · refine go_iconst O dX4_rounds_157 158 rfl ?_
                refine go_goto O dX4_rounds_158 162 (by decide) ?_
                refine go_istore O dX4_rounds_162 (by decide) [(6, .int (iI 1)), (5, .int (iI nr)), (0, .ref h), (1, .int (iI (bz minus))), (2, .int (iI mode))] rfl 164 rfl ?_
                refine TGo.lsub (lv' := [(6, .int (iI 1)), (0, .ref h), (1, .int (iI (bz minus))), (2, .int (iI mode))]) [0, 2, 3, 4] rfl ?_
                exact m164 _ _ hR0 (Or.inl ⟨rfl, by omega⟩)
        · refine go_iload_n O dX4_rounds_137 rfl 2 rfl 138 rfl ?_
          refine go_if_ne O dX4_rounds_138 157 (by decide) 141 rfl (by omega) (fun h138 => ?_) (fun h138 => ?_)
          · refine go_iconst O dX4_rounds_157 158 rfl ?_
            refine go_goto O dX4_rounds_158 162 (by decide) ?_
            refine go_istore O dX4_rounds_162 (by decide) [(6, .int (iI 1)), (5, .int (iI nr)), (0, .ref h), (1, .int (iI (bz minus))), (2, .int (iI mode))] rfl 164 rfl ?_
            refine TGo.lsub (lv' := [(6, .int (iI 1)), (0, .ref h), (1, .int (iI (bz minus))), (2, .int (iI mode))]) [0, 2, 3, 4] rfl ?_
            exact m164 _ _ hR0 (Or.inl ⟨rfl, by omega⟩)
          · refine go_iload_n O dX4_rounds_141 rfl 3 rfl 142 rfl ?_
            refine go_iconst O dX4_rounds_142 143 rfl ?_
            refine go_icmp_lt O dX4_rounds_143 161 (by decide) 146 rfl (by omega) (by omega) (fun h143 => ?_) (fun h143 => ?_)
            · refine go_iconst O dX4_rounds_161 162 rfl ?_
              refine go_istore O dX4_rounds_162 (by decide) [(6, .int (iI 0)), (5, .int (iI nr)), (0, .ref h), (1, .int (iI (bz minus))), (2, .int (iI mode))] rfl 164 rfl ?_
              refine TGo.lsub (lv' := [(6, .int (iI 0)), (0, .ref h), (1, .int (iI (bz minus))), (2, .int (iI mode))]) [0, 2, 3, 4] rfl ?_
              exact m164 _ _ hR0 (Or.inr ⟨rfl, by omega⟩)
            · refine go_iload_n O dX4_rounds_146 rfl 3 rfl 147 rfl ?_
              refine go_bipush O dX4_rounds_147 (by decide) 149 rfl ?_
              refine go_icmp_gt O dX4_rounds_149 161 (by decide) 152 rfl (by omega) (by omega) (fun h149 => ?_) (fun h149 => ?_)
              · refine go_iconst O dX4_rounds_161 162 rfl ?_
                refine go_istore O dX4_rounds_162 (by decide) [(6, .int (iI 0)), (5, .int (iI nr)), (0, .ref h), (1, .int (iI (bz minus))), (2, .int (iI mode))] rfl 164 rfl ?_
                refine TGo.lsub (lv' := [(6, .int (iI 0)), (0, .ref h), (1, .int (iI (bz minus))), (2, .int (iI mode))]) [0, 2, 3, 4] rfl ?_
                exact m164 _ _ hR0 (Or.inr ⟨rfl, by omega⟩)
              · refine go_iload O dX4_rounds_152 0 rfl 154 rfl ?_
                refine go_if_eq O dX4_rounds_154 161 (by decide) 157 rfl (by omega) (fun h154 => ?_) (fun h154 => ?_)
                · refine go_iconst O dX4_rounds_161 162 rfl ?_
                  refine go_istore O dX4_rounds_162 (by decide) [(6, .int (iI 0)), (5, .int (iI nr)), (0, .ref h), (1, .int (iI (bz minus))), (2, .int (iI mode))] rfl 164 rfl ?_
                  refine TGo.lsub (lv' := [(6, .int (iI 0)), (0, .ref h), (1, .int (iI (bz minus))), (2, .int (iI mode))]) [0, 2, 3, 4] rfl ?_
                  exact m164 _ _ hR0 (Or.inr ⟨rfl, by omega⟩)
                · refine go_iconst O dX4_rounds_157 158 rfl ?_
                  refine go_goto O dX4_rounds_158 162 (by decide) ?_
                  refine go_istore O dX4_rounds_162 (by decide) [(6, .int (iI 1)), (5, .int (iI nr)), (0, .ref h), (1, .int (iI (bz minus))), (2, .int (iI mode))] rfl 164 rfl ?_
                  refine TGo.lsub (lv' := [(6, .int (iI 1)), (0, .ref h), (1, .int (iI (bz minus))), (2, .int (iI mode))]) [0, 2, 3, 4] rfl ?_
                  exact m164 _ _ hR0 (Or.inl ⟨rfl, by omega⟩)
      · refine go_iload_n O dX4_rounds_128 rfl 2 rfl 129 rfl ?_
        refine go_if_eq O dX4_rounds_129 157 (by decide) 132 rfl (by omega) (fun h129 => ?_) (fun h129 => ?_)
        · refine go_iconst O dX4_rounds_157 158 rfl ?_
          refine go_goto O dX4_rounds_158 162 (by decide) ?_
          refine go_istore O dX4_rounds_162 (by decide) [(6, .int (iI 1)), (5, .int (iI nr)), (0, .ref h), (1, .int (iI (bz minus))), (2, .int (iI mode))] rfl 164 rfl ?_
          refine TGo.lsub (lv' := [(6, .int (iI 1)), (0, .ref h), (1, .int (iI (bz minus))), (2, .int (iI mode))]) [0, 2, 3, 4] rfl ?_
          exact m164 _ _ hR0 (Or.inl ⟨rfl, by omega⟩)
        · refine go_iload_n O dX4_rounds_132 rfl 3 rfl 133 rfl ?_
          refine go_iconst O dX4_rounds_133 134 rfl ?_
          refine go_icmp_ne O dX4_rounds_134 141 (by decide) 137 rfl (by omega) (by omega) (fun h134 => ?_) (fun h134 => ?_)
          · refine go_iload_n O dX4_rounds_141 rfl 3 rfl 142 rfl ?_
            refine go_iconst O dX4_rounds_142 143 rfl ?_
            refine go_icmp_lt O dX4_rounds_143 161 (by decide) 146 rfl (by omega) (by omega) (fun h143 => ?_) (fun h143 => ?_)
            · refine go_iconst O dX4_rounds_161 162 rfl ?_
              refine go_istore O dX4_rounds_162 (by decide) [(6, .int (iI 0)), (5, .int (iI nr)), (0, .ref h), (1, .int (iI (bz minus))), (2, .int (iI mode))] rfl 164 rfl ?_
              refine TGo.lsub (lv' := [(6, .int (iI 0)), (0, .ref h), (1, .int (iI (bz minus))), (2, .int (iI mode))]) [0, 2, 3, 4] rfl ?_
              exact m164 _ _ hR0 (Or.inr ⟨rfl, by omega⟩)
            · refine go_iload_n O dX4_rounds_146 rfl 3 rfl 147 rfl ?_
              refine go_bipush O dX4_rounds_147 (by decide) 149 rfl ?_
              refine go_icmp_gt O dX4_rounds_149 161 (by decide) 152 rfl (by omega) (by omega) (fun h149 => ?_) (fun h149 => ?_)
              · refine go_iconst O dX4_rounds_161 162 rfl ?_
                refine go_istore O dX4_rounds_162 (by decide) [(6, .int (iI 0)), (5, .int (iI nr)), (0, .ref h), (1, .int (iI (bz minus))), (2, .int (iI mode))] rfl 164 rfl ?_
                refine TGo.lsub (lv' := [(6, .int (iI 0)), (0, .ref h), (1, .int (iI (bz minus))), (2, .int (iI mode))]) [0, 2, 3, 4] rfl ?_
                exact m164 _ _ hR0 (Or.inr ⟨rfl, by omega⟩)
              · refine go_iload O dX4_rounds_152 0 rfl 154 rfl ?_
                refine go_if_eq O dX4_rounds_154 161 (by decide) 157 rfl (by omega) (fun h154 => ?_) (fun h154 => ?_)
                · refine go_iconst O dX4_rounds_161 162 rfl ?_
                  refine go_istore O dX4_rounds_162 (by decide) [(6, .int (iI 0)), (5, .int (iI nr)), (0, .ref h), (1, .int (iI (bz minus))), (2, .int (iI mode))] rfl 164 rfl ?_
                  refine TGo.lsub (lv' := [(6, .int (iI 0)), (0, .ref h), (1, .int (iI (bz minus))), (2, .int (iI mode))]) [0, 2, 3, 4] rfl ?_
                  exact m164 _ _ hR0 (Or.inr ⟨rfl, by omega⟩)
                · refine go_iconst O dX4_rounds_157 158 rfl ?_
                  refine go_goto O dX4_rounds_158 162 (by decide) ?_
                  refine go_istore O dX4_rounds_162 (by decide) [(6, .int (iI 1)), (5, .int (iI nr)), (0, .ref h), (1, .int (iI (bz minus))), (2, .int (iI mode))] rfl 164 rfl ?_
                  refine TGo.lsub (lv' := [(6, .int (iI 1)), (0, .ref h), (1, .int (iI (bz minus))), (2, .int (iI mode))]) [0, 2, 3, 4] rfl ?_
                  exact m164 _ _ hR0 (Or.inl ⟨rfl, by omega⟩)
          · refine go_iload_n O dX4_rounds_137 rfl 2 rfl 138 rfl ?_
            refine go_if_ne O dX4_rounds_138 157 (by decide) 141 rfl (by omega) (fun h138 => ?_) (fun h138 => ?_)
            · refine go_iconst O dX4_rounds_157 158 rfl ?_
              refine go_goto O dX4_rounds_158 162 (by decide) ?_
              refine go_istore O dX4_rounds_162 (by decide) [(6, .int (iI 1)), (5, .int (iI nr)), (0, .ref h), (1, .int (iI (bz minus))), (2, .int (iI mode))] rfl 164 rfl ?_
              refine TGo.lsub (lv' := [(6, .int (iI 1)), (0, .ref h), (1, .int (iI (bz minus))), (2, .int (iI mode))]) [0, 2, 3, 4] rfl ?_
              exact m164 _ _ hR0 (Or.inl ⟨rfl, by omega⟩)
            · refine go_iload_n O dX4_rounds_141 rfl 3 rfl 142 rfl ?_
              refine go_iconst O dX4_rounds_142 143 rfl ?_
              refine go_icmp_lt O dX4_rounds_143 161 (by decide) 146 rfl (by omega) (by omega) (fun h143 => ?_) (fun h143 => ?_)
              · refine go_iconst O dX4_rounds_161 162 rfl ?_
                refine go_istore O dX4_rounds_162 (by decide) [(6, .int (iI 0)), (5, .int (iI nr)), (0, .ref h), (1, .int (iI (bz minus))), (2, .int (iI mode))] rfl 164 rfl ?_
                refine TGo.lsub (lv' := [(6, .int (iI 0)), (0, .ref h), (1, .int (iI (bz minus))), (2, .int (iI mode))]) [0, 2, 3, 4] rfl ?_
                exact m164 _ _ hR0 (Or.inr ⟨rfl, by omega⟩)
              · refine go_iload_n O dX4_rounds_146 rfl 3 rfl 147 rfl ?_
                refine go_bipush O dX4_rounds_147 (by decide) 149 rfl ?_
                refine go_icmp_gt O dX4_rounds_149 161 (by decide) 152 rfl (by omega) (by omega) (fun h149 => ?_) (fun h149 => ?_)
                · refine go_iconst O dX4_rounds_161 162 rfl ?_
                  refine go_istore O dX4_rounds_162 (by decide) [(6, .int (iI 0)), (5, .int (iI nr)), (0, .ref h), (1, .int (iI (bz minus))), (2, .int (iI mode))] rfl 164 rfl ?_
                  refine TGo.lsub (lv' := [(6, .int (iI 0)), (0, .ref h), (1, .int (iI (bz minus))), (2, .int (iI mode))]) [0, 2, 3, 4] rfl ?_
                  exact m164 _ _ hR0 (Or.inr ⟨rfl, by omega⟩)
                · refine go_iload O dX4_rounds_152 0 rfl 154 rfl ?_
                  refine go_if_eq O dX4_rounds_154 161 (by decide) 157 rfl (by omega) (fun h154 => ?_) (fun h154 => ?_)
                  · refine go_iconst O dX4_rounds_161 162 rfl ?_
                    refine go_istore O dX4_rounds_162 (by decide) [(6, .int (iI 0)), (5, .int (iI nr)), (0, .ref h), (1, .int (iI (bz minus))), (2, .int (iI mode))] rfl 164 rfl ?_
                    refine TGo.lsub (lv' := [(6, .int (iI 0)), (0, .ref h), (1, .int (iI (bz minus))), (2, .int (iI mode))]) [0, 2, 3, 4] rfl ?_
                    exact m164 _ _ hR0 (Or.inr ⟨rfl, by omega⟩)
                  · refine go_iconst O dX4_rounds_157 158 rfl ?_
                    refine go_goto O dX4_rounds_158 162 (by decide) ?_
                    refine go_istore O dX4_rounds_162 (by decide) [(6, .int (iI 1)), (5, .int (iI nr)), (0, .ref h), (1, .int (iI (bz minus))), (2, .int (iI mode))] rfl 164 rfl ?_
                    refine TGo.lsub (lv' := [(6, .int (iI 1)), (0, .ref h), (1, .int (iI (bz minus))), (2, .int (iI mode))]) [0, 2, 3, 4] rfl ?_
                    exact m164 _ _ hR0 (Or.inl ⟨rfl, by omega⟩)
  have m65 : ∀ (od : Int) (fo : Nat → Int32), R ≠ 0 → ((od = 1 ∧ Q % 2 = 1) ∨ (od = 0 ∧ ¬ Q % 2 = 1)) → TGo X [(h, .inr (4, fs)), (qden, .inl (cI, 80, .inl (dg D))), (qquo, .inl (cI, 80, .inl (dg Q))), (qrem, .inl (cI, 80, .inl (dg R))), (qother, .inl (cI, 80, .inl fo))] 0 0 65 [(4, .int (iI od)), (3, .int (iI (cmpN (R + R) D))), (0, .ref h), (1, .int (iI (bz minus))), (2, .int (iI mode))] [] := by
    intro od fo hR0 hod
    refine go_iload_n O dX4_rounds_65 rfl 4 rfl 66 rfl ?_
    refine go_iconst O dX4_rounds_66 67 rfl ?_
    refine go_icmp_ne O dX4_rounds_67 82 (by decide) 70 rfl (by omega) (by omega) (fun h67 => ?_) (fun h67 => ?_)
    · refine go_iload_n O dX4_rounds_82 rfl 4 rfl 83 rfl ?_
      refine go_iconst O dX4_rounds_83 84 rfl ?_
      refine go_icmp_ne O dX4_rounds_84 99 (by decide) 87 rfl (by omega) (by omega) (fun h84 => ?_) (fun h84 => ?_)
      · refine go_iload_n O dX4_rounds_99 rfl 1 rfl 100 rfl ?_
        refine go_if_gt O dX4_rounds_100 112 (by decide) 103 rfl (by omega) (fun h100 => ?_) (fun h100 => ?_)
        · refine go_iconst O dX4_rounds_112 113 rfl ?_
          refine go_goto O dX4_rounds_113 117 (by decide) ?_
          refine go_istore O dX4_rounds_117 (by decide) [(5, .int (iI 1)), (4, .int (iI od)), (3, .int (iI (cmpN (R + R) D))), (0, .ref h), (1, .int (iI (bz minus))), (2, .int (iI mode))] rfl 119 rfl ?_
          refine TGo.lsub (lv' := [(5, .int (iI 1)), (0, .ref h), (1, .int (iI (bz minus))), (2, .int (iI mode))]) [0, 3, 4, 5] rfl ?_
          exact m119 _ _ hR0 (Or.inl ⟨rfl, by omega⟩)
        · refine go_iload_n O dX4_rounds_103 rfl 1 rfl 104 rfl ?_
          refine go_if_ne O dX4_rounds_104 116 (by decide) 107 rfl (by omega) (fun h104 => ?_) (fun h104 => ?_)
          · refine go_iconst O dX4_rounds_116 117 rfl ?_
            refine go_istore O dX4_rounds_117 (by decide) [(5, .int (iI 0)), (4, .int (iI od)), (3, .int (iI (cmpN (R + R) D))), (0, .ref h), (1, .int (iI (bz minus))), (2, .int (iI mode))] rfl 119 rfl ?_
            refine TGo.lsub (lv' := [(5, .int (iI 0)), (0, .ref h), (1, .int (iI (bz minus))), (2, .int (iI mode))]) [0, 3, 4, 5] rfl ?_
            exact m119 _ _ hR0 (Or.inr ⟨rfl, by omega⟩)
          · refine go_iload O dX4_rounds_107 0 rfl 109 rfl ?_
            refine go_if_eq O dX4_rounds_109 116 (by decide) 112 rfl (by omega) (fun h109 => ?_) (fun h109 => ?_)
            · refine go_iconst O dX4_rounds_116 117 rfl ?_
              refine go_istore O dX4_rounds_117 (by decide) [(5, .int (iI 0)), (4, .int (iI od)), (3, .int (iI (cmpN (R + R) D))), (0, .ref h), (1, .int (iI (bz minus))), (2, .int (iI mode))] rfl 119 rfl ?_
              refine TGo.lsub (lv' := [(5, .int (iI 0)), (0, .ref h), (1, .int (iI (bz minus))), (2, .int (iI mode))]) [0, 3, 4, 5] rfl ?_
              exact m119 _ _ hR0 (Or.inr ⟨rfl, by omega⟩)
            · refine go_iconst O dX4_rounds_112 113 rfl ?_
              refine go_goto O dX4_rounds_113 117 (by decide) ?_
              refine go_istore O dX4_rounds_117 (by decide) [(5, .int (iI 1)), (4, .int (iI od)), (3, .int (iI (cmpN (R + R) D))), (0, .ref h), (1, .int (iI (bz minus))), (2, .int (iI mode))] rfl 119 rfl ?_
              refine TGo.lsub (lv' := [(5, .int (iI 1)), (0, .ref h), (1, .int (iI (bz minus))), (2, .int (iI mode))]) [0, 3, 4, 5] rfl ?_
              exact m119 _ _ hR0 (Or.inl ⟨rfl, by omega⟩)
      · refine go_iload_n O dX4_rounds_87 rfl 1 rfl 88 rfl ?_
        refine go_if_le O dX4_rounds_88 95 (by decide) 91 rfl (by omega) (fun h88 => ?_) (fun h88 => ?_)
        · refine go_iconst O dX4_rounds_95 96 rfl ?_
          refine go_goto O dX4_rounds_96 117 (by decide) ?_
          refine go_istore O dX4_rounds_117 (by decide) [(5, .int (iI 0)), (4, .int (iI od)), (3, .int (iI (cmpN (R + R) D))), (0, .ref h), (1, .int (iI (bz minus))), (2, .int (iI mode))] rfl 119 rfl ?_
          refine TGo.lsub (lv' := [(5, .int (iI 0)), (0, .ref h), (1, .int (iI (bz minus))), (2, .int (iI mode))]) [0, 3, 4, 5] rfl ?_
          exact m119 _ _ hR0 (Or.inr ⟨rfl, by omega⟩)
        · refine go_iconst O dX4_rounds_91 92 rfl ?_
          refine go_goto O dX4_rounds_92 117 (by decide) ?_
          refine go_istore O dX4_rounds_117 (by decide) [(5, .int (iI 1)), (4, .int (iI od)), (3, .int (iI (cmpN (R + R) D))), (0, .ref h), (1, .int (iI (bz minus))), (2, .int (iI mode))] rfl 119 rfl ?_
          refine TGo.lsub (lv' := [(5, .int (iI 1)), (0, .ref h), (1, .int (iI (bz minus))), (2, .int (iI mode))]) [0, 3, 4, 5] rfl ?_
          exact m119 _ _ hR0 (Or.inl ⟨rfl, by omega⟩)
    · refine go_iload_n O dX4_rounds_70 rfl 1 rfl 71 rfl ?_
      refine go_if_lt O dX4_rounds_71 78 (by decide) 74 rfl (by omega) (fun h71 => ?_) (fun h71 => ?_)
      · refine go_iconst O dX4_rounds_78 79 rfl ?_
        refine go_goto O dX4_rounds_79 117 (by decide) ?_
        refine go_istore O dX4_rounds_117 (by decide) [(5, .int (iI 0)), (4, .int (iI od)), (3, .int (iI (cmpN (R + R) D))), (0, .ref h), (1, .int (iI (bz minus))), (2, .int (iI mode))] rfl 119 rfl ?_
        refine TGo.lsub (lv' := [(5, .int (iI 0)), (0, .ref h), (1, .int (iI (bz minus))), (2, .int (iI mode))]) [0, 3, 4, 5] rfl ?_
        exact m119 _ _ hR0 (Or.inr ⟨rfl, by omega⟩)
      · refine go_iconst O dX4_rounds_74 75 rfl ?_
        refine go_goto O dX4_rounds_75 117 (by decide) ?_
        refine go_istore O dX4_rounds_117 (by decide) [(5, .int (iI 1)), (4, .int (iI od)), (3, .int (iI (cmpN (R + R) D))), (0, .ref h), (1, .int (iI (bz minus))), (2, .int (iI mode))] rfl 119 rfl ?_
        refine TGo.lsub (lv' := [(5, .int (iI 1)), (0, .ref h), (1, .int (iI (bz minus))), (2, .int (iI mode))]) [0, 3, 4, 5] rfl ?_
        exact m119 _ _ hR0 (Or.inl ⟨rfl, by omega⟩)
  refine go_aload_n O dX4_rounds_0 rfl 0 rfl 1 rfl ?_
  refine go_get O hK dX4_rounds_1 hinX4 0 rfl rfl 14 (by decide) flX4_41 f_rem 4 rfl ?_
  refine go_calliS (rest := []) (wr := [(h, .inr (4, fs)), (qden, .inl (cI, 80, .inl (dg D))), (qquo, .inl (cI, 80, .inl (dg Q))), (qother, .inl (cI, 80, .inl fo))]) O hK hE (c_X4_size E hE qrem cI R hR) mlX4_78 smX4_size inX4 cdX4_size 1 (by decide +kernel) ⟨Nat.le_of_ble_eq_true rfl, Nat.le_of_ble_eq_true rfl⟩ [0] rfl [3] rfl (by decide) [0, 1, 2, 4] rfl (by decide) (by decide) rfl rfl (Nat.le_of_ble_eq_true rfl) ⟨Nat.zero_le _, Nat.zero_le _⟩ dX4_rounds_4 7 rfl (fun z u hu => ?_)
  subst hu
  have t0 := tnds_0iff (N := R)
  have t1 := tnds_mono (N := R) (e := 80) hR
  show TGo X [(h, .inr (4, fs)), (qden, .inl (cI, 80, .inl (dg D))), (qquo, .inl (cI, 80, .inl (dg Q))), (qother, .inl (cI, 80, .inl fo)), (qrem, .inl (cI, 80, .inl (dg R)))] 0 0 7 [(0, .ref h), (1, .int (iI (bz minus))), (2, .int (iI mode))] [.int (iI ((tnds R : Nat) : Int))]
  refine TGo.sub (ws' := [(h, .inr (4, fs)), (qden, .inl (cI, 80, .inl (dg D))), (qquo, .inl (cI, 80, .inl (dg Q))), (qrem, .inl (cI, 80, .inl (dg R))), (qother, .inl (cI, 80, .inl fo))]) [0, 1, 2, 4, 3] (by decide) rfl ?_
  refine go_if_ne O dX4_rounds_7 12 (by decide) 10 rfl (by omega) (fun h7 => ?_) (fun h7 => ?_)
  · refine go_aload_n O dX4_rounds_12 rfl 0 rfl 13 rfl ?_
    refine go_get O hK dX4_rounds_13 hinX4 0 rfl rfl 14 (by decide) flX4_41 f_rem 16 rfl ?_
    refine go_aload_n O dX4_rounds_16 rfl 0 rfl 17 rfl ?_
    refine go_get O hK dX4_rounds_17 hinX4 0 rfl rfl 15 (by decide) flX4_44 f_other 20 rfl ?_
    refine go_callvS (rest := []) (wr := [(h, .inr (4, fs)), (qden, .inl (cI, 80, .inl (dg D))), (qquo, .inl (cI, 80, .inl (dg Q)))]) O hK hE (c_X4_copy E hE qrem qother cI (dg R) fo) mlX4_94 smX4_copy inX4 cdX4_copy 2 (by decide +kernel) ⟨Nat.le_of_ble_eq_true rfl, Nat.le_of_ble_eq_true rfl⟩ [0] rfl [3, 4] rfl (by decide) [0, 1, 2] rfl (by decide) (by decide) rfl rfl (Nat.le_of_ble_eq_true rfl) ⟨Nat.zero_le _, Nat.zero_le _⟩ dX4_rounds_20 23 rfl (fun u hu => ?_)
    show TGo X [(h, .inr (4, fs)), (qden, .inl (cI, 80, .inl (dg D))), (qquo, .inl (cI, 80, .inl (dg Q))), (qrem, .inl (cI, 80, .inl (dg R))), (qother, .inl (cI, 80, .inl (dg R)))] 0 0 23 [(0, .ref h), (1, .int (iI (bz minus))), (2, .int (iI mode))] []
    refine go_aload_n O dX4_rounds_23 rfl 0 rfl 24 rfl ?_
    refine go_get O hK dX4_rounds_24 hinX4 0 rfl rfl 15 (by decide) flX4_44 f_other 27 rfl ?_
    refine go_aload_n O dX4_rounds_27 rfl 0 rfl 28 rfl ?_
    refine go_get O hK dX4_rounds_28 hinX4 0 rfl rfl 14 (by decide) flX4_41 f_rem 31 rfl ?_
    refine go_callvS (rest := []) (wr := [(h, .inr (4, fs)), (qden, .inl (cI, 80, .inl (dg D))), (qquo, .inl (cI, 80, .inl (dg Q)))]) O hK hE (c_X4_increase E hE qother qrem cI R R) mlX4_97 smX4_increase inX4 cdX4_increase 2 (by decide +kernel) ⟨Nat.le_of_ble_eq_true rfl, Nat.le_of_ble_eq_true rfl⟩ [0] rfl [4, 3] rfl (by decide) [0, 1, 2] rfl (by decide) (by decide) rfl rfl (Nat.le_of_ble_eq_true rfl) ⟨Nat.zero_le _, Nat.zero_le _⟩ dX4_rounds_31 34 rfl (fun u hu => ?_)
    show TGo X [(h, .inr (4, fs)), (qden, .inl (cI, 80, .inl (dg D))), (qquo, .inl (cI, 80, .inl (dg Q))), (qother, .inl (cI, 80, .inl (dg (R + R)))), (qrem, .inl (cI, 80, .inl (dg R)))] 0 0 34 [(0, .ref h), (1, .int (iI (bz minus))), (2, .int (iI mode))] []
    refine TGo.sub (ws' := [(h, .inr (4, fs)), (qden, .inl (cI, 80, .inl (dg D))), (qquo, .inl (cI, 80, .inl (dg Q))), (qrem, .inl (cI, 80, .inl (dg R))), (qother, .inl (cI, 80, .inl (dg (R + R))))]) [0, 1, 2, 4, 3] (by decide) rfl ?_
    refine go_aload_n O dX4_rounds_34 rfl 0 rfl 35 rfl ?_
    refine go_get O hK dX4_rounds_35 hinX4 0 rfl rfl 15 (by decide) flX4_44 f_other 38 rfl ?_
    refine go_aload_n O dX4_rounds_38 rfl 0 rfl 39 rfl ?_
    refine go_get O hK dX4_rounds_39 hinX4 0 rfl rfl 12 (by decide) flX4_35 f_den 42 rfl ?_
    refine go_calliS (rest := []) (wr := [(h, .inr (4, fs)), (qquo, .inl (cI, 80, .inl (dg Q))), (qrem, .inl (cI, 80, .inl (dg R)))]) O hK hE (c_X4_order E hE qother qden cI (R + R) D (by omega) hD) mlX4_86 smX4_order inX4 cdX4_order 2 (by decide +kernel) ⟨Nat.le_of_ble_eq_true rfl, Nat.le_of_ble_eq_true rfl⟩ [0] rfl [4, 1] rfl (by decide) [0, 2, 3] rfl (by decide) (by decide) rfl rfl (Nat.le_of_ble_eq_true rfl) ⟨Nat.zero_le _, Nat.zero_le _⟩ dX4_rounds_42 45 rfl (fun z u hu => ?_)
    subst hu
    show TGo X [(h, .inr (4, fs)), (qquo, .inl (cI, 80, .inl (dg Q))), (qrem, .inl (cI, 80, .inl (dg R))), (qother, .inl (cI, 80, .inl (dg (R + R)))), (qden, .inl (cI, 80, .inl (dg D)))] 0 0 45 [(0, .ref h), (1, .int (iI (bz minus))), (2, .int (iI mode))] [.int (iI (cmpN (R + R) D))]
    refine TGo.sub (ws' := [(h, .inr (4, fs)), (qden, .inl (cI, 80, .inl (dg D))), (qquo, .inl (cI, 80, .inl (dg Q))), (qrem, .inl (cI, 80, .inl (dg R))), (qother, .inl (cI, 80, .inl (dg (R + R))))]) [0, 4, 1, 2, 3] (by decide) rfl ?_
    refine go_istore_n O dX4_rounds_45 rfl (by decide) [(3, .int (iI (cmpN (R + R) D))), (0, .ref h), (1, .int (iI (bz minus))), (2, .int (iI mode))] rfl 46 rfl ?_
    refine go_aload_n O dX4_rounds_46 rfl 1 rfl 47 rfl ?_
    refine go_get O hK dX4_rounds_47 hinX4 0 rfl rfl 13 (by decide) flX4_38 f_quo 50 rfl ?_
    refine go_iconst O dX4_rounds_50 51 rfl ?_
    refine go_iald O hK dX4_rounds_51 2 0 rfl rfl 0 rfl (by omega) (by omega) ((Q % 10 : Nat) : Int) (by rw [dg_at, tqz]) 52 rfl ?_
    refine go_iconst O dX4_rounds_52 53 rfl ?_
    refine go_irem O dX4_rounds_53 (by omega) (by omega) (by omega) (by omega) ((Q % 2 : Nat) : Int) (by omega) 54 rfl ?_
    refine go_iconst O dX4_rounds_54 55 rfl ?_
    refine go_icmp_ne O dX4_rounds_55 62 (by decide) 58 rfl (by omega) (by omega) (fun h55 => ?_) (fun h55 => ?_)
    · refine go_iconst O dX4_rounds_62 63 rfl ?_
      refine go_istore O dX4_rounds_63 (by decide) [(4, .int (iI 0)), (3, .int (iI (cmpN (R + R) D))), (0, .ref h), (1, .int (iI (bz minus))), (2, .int (iI mode))] rfl 65 rfl ?_
      refine TGo.lsub (lv' := [(4, .int (iI 0)), (3, .int (iI (cmpN (R + R) D))), (0, .ref h), (1, .int (iI (bz minus))), (2, .int (iI mode))]) [0, 1, 2, 3, 4] rfl ?_
      exact m65 _ _ (by omega) (Or.inr ⟨rfl, by omega⟩)
    · refine go_iconst O dX4_rounds_58 59 rfl ?_
      refine go_goto O dX4_rounds_59 63 (by decide) ?_
      refine go_istore O dX4_rounds_63 (by decide) [(4, .int (iI 1)), (3, .int (iI (cmpN (R + R) D))), (0, .ref h), (1, .int (iI (bz minus))), (2, .int (iI mode))] rfl 65 rfl ?_
      refine TGo.lsub (lv' := [(4, .int (iI 1)), (3, .int (iI (cmpN (R + R) D))), (0, .ref h), (1, .int (iI (bz minus))), (2, .int (iI mode))]) [0, 1, 2, 3, 4] rfl ?_
      exact m65 _ _ (by omega) (Or.inl ⟨rfl, by omega⟩)
  · refine go_iconst O dX4_rounds_10 11 rfl ?_
    have eR : R = 0 := by omega
    subst eR
    rw [show Q = trnd mode minus Q 0 D from trnd_0.symm]
    exact hret _ _ _ fo dX4_rounds_11 rfl (by rw [if_pos (Or.inl rfl)])
