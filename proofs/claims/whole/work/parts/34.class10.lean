theorem mul_k {p s : Nat} {m : Int} {w mi : Bool} {V v κ : Nat} (hp : 19 ≤ p ∧ p ≤ 30) (hs : 5 ≤ s ∧ s ≤ 10) (hk : κ < 10) : tstl p s m w mi (V * v) (Int.natAbs 1 * 10 ^ κ) = tkeep p s m w mi (V * 10 ^ (10 - κ) * v) false := by
  have e0 : Int.natAbs 1 * 10 ^ κ = 10 ^ κ := Nat.one_mul _
  have e1 : V * v * 10 ^ 10 = V * 10 ^ (10 - κ) * v * 10 ^ κ := by
    have e2 : 10 ^ 10 = 10 ^ (10 - κ) * 10 ^ κ := by rw [← p10add]; congr 1; omega
    rw [e2, Nat.mul_assoc V v, Nat.mul_left_comm v, ← Nat.mul_assoc, ← Nat.mul_assoc]
  rw [e0, tstl_keep hp.1 hp.2 hs.1 hs.2 (p10 κ), e1, Nat.mul_div_cancel _ (p10 κ), Nat.mul_mod_left]
  rfl
theorem mul_bd2 {V κ : Nat} {v : Int} (hV : V < 10 ^ 36) (hv : r64 v) : V * 10 ^ (10 - κ) < 10 ^ 46 ∧ V * 10 ^ (10 - κ) * v.natAbs < 10 ^ 65 := by
  have h1 : v.natAbs < 10 ^ 19 := by omega
  have h2 := p10le (a := 10 - κ) (b := 10) (by omega)
  have h4 := p10 (10 - κ)
  have h5 : V * 10 ^ (10 - κ) < 10 ^ 36 * 10 ^ 10 := Nat.lt_of_lt_of_le (Nat.mul_lt_mul_of_pos_right hV h4) (Nat.mul_le_mul_left _ h2)
  have h3 := Nat.mul_le_mul (Nat.le_of_lt h5) (Nat.le_of_lt h1)
  refine ⟨h5, ?_⟩
  rcases Nat.eq_zero_or_pos v.natAbs with e | e
  · rw [e]; exact p10 65
  · exact Nat.lt_of_lt_of_le (Nat.mul_lt_mul_of_pos_right h5 e) (Nat.mul_le_mul_left _ (Nat.le_of_lt h1))
theorem div_k {p s : Nat} {m : Int} {w mi : Bool} {V v κ : Nat} (hp : 19 ≤ p ∧ p ≤ 30) (hs : 5 ≤ s ∧ s ≤ 10) (hv : 0 < v) : tstl p s m w mi (V * 10 ^ κ) v = tkeep p s m w mi (V * 10 ^ (10 + κ) / 10 ^ 0 / v * 10 ^ 0 + V * 10 ^ (10 + κ) % 10 ^ 0) (decide (V * 10 ^ (10 + κ) / 10 ^ 0 % v ≠ 0)) := by
  rw [tstl_keep hp.1 hp.2 hs.1 hs.2 hv, Nat.mul_assoc V, ← p10add, Nat.add_comm κ, Nat.pow_zero, Nat.div_one, Nat.mul_one, Nat.mod_one, Nat.add_zero]
theorem div_bd2 {V κ : Nat} (v : Nat) (hV : V < 10 ^ 36) (h : κ < 10) : V * 10 ^ (10 + κ) < 10 ^ 56 ∧ V * 10 ^ (10 + κ) / 10 ^ 0 / v * 10 ^ 0 + V * 10 ^ (10 + κ) % 10 ^ 0 < 10 ^ 70 := by
  have h2 := p10le (a := 10 + κ) (b := 20) (by omega)
  have h4 := p10 (10 + κ)
  have h5 : V * 10 ^ (10 + κ) < 10 ^ 36 * 10 ^ 20 := Nat.lt_of_lt_of_le (Nat.mul_lt_mul_of_pos_right hV h4) (Nat.mul_le_mul_left _ h2)
  refine ⟨h5, ?_⟩
  rw [Nat.pow_zero, Nat.div_one, Nat.mul_one, Nat.mod_one, Nat.add_zero]
  have h6 := Nat.div_le_self (V * 10 ^ (10 + κ)) v
  omega
def spNeg (reg : Rg) (r a : Int) : Int × Rg :=
  if (0 ≤ r ∧ r < 8) ∧ (0 ≤ a ∧ a < 8) then
    match reg a.toNat with
    | none => (-11, reg)
    | some (c, w, n, V) => (fun o => (ansO o, rstp reg r.toNat c w (!n) o)) (if tfit w (!n) V = true then some V else none)
  else (-15, reg)
theorem spNeg_bad {reg : Rg} {r a : Int} (h : ¬ ((0 ≤ r ∧ r < 8) ∧ (0 ≤ a ∧ a < 8))) : spNeg reg r a = (-15, reg) := by unfold spNeg; rw [if_neg h]
theorem spNeg_no {reg : Rg} {ρ α : Nat} (h : ρ < 8 ∧ α < 8) (hq : reg α = none) : spNeg reg (ρ : Int) (α : Int) = (-11, reg) := by
  unfold spNeg; rw [if_pos (by omega), show (α : Int).toNat = α from rfl, hq]
theorem spNeg_ok {reg : Rg} {ρ α V : Nat} {c : Int} {w n : Bool} (h : ρ < 8 ∧ α < 8) (hq : reg α = some (c, w, n, V)) : spNeg reg (ρ : Int) (α : Int) = (ansO (if tfit w (!n) V = true then some V else none), rstp reg ρ c w (!n) (if tfit w (!n) V = true then some V else none)) := by
  unfold spNeg; rw [if_pos (by omega), show (α : Int).toNat = α from rfl, hq]; rfl
theorem tsto_fit {w n : Bool} {V : Nat} : tsto w n (V * 10 ^ 10) false = if tfit w n V = true then some V else none := by
  unfold tsto tfit
  have e1 : V * 10 ^ 10 / 10 ^ 10 = V := Nat.mul_div_cancel _ (p10 10)
  rw [e1]
  by_cases hw : w = true
  · rw [if_pos hw, if_pos hw]
    by_cases h : V < 10 ^ 36
    · rw [if_pos (by have := p10add 36 10; omega), decide_eq_true h, if_pos rfl]
    · rw [if_neg (by have := p10add 36 10; omega), decide_eq_false h, if_neg (by decide)]
  · rw [if_neg hw, if_neg hw]
    have e2 : V * 10 ^ 10 / 10 ^ 15 = V / 10 ^ 5 := by
      have : 10 ^ 15 = 10 ^ 5 * 10 ^ 10 := by rw [← p10add]
      rw [this, Nat.mul_div_mul_right _ _ (p10 10)]
    have e3 : V * 10 ^ 10 % 10 ^ 15 = V % 10 ^ 5 * 10 ^ 10 := by
      have : 10 ^ 15 = 10 ^ 5 * 10 ^ 10 := by rw [← p10add]
      rw [this, Nat.mul_mod_mul_right]
    rw [e2, e3]
    have h5 := Nat.div_add_mod V (10 ^ 5)
    by_cases h : V % 10 ^ 5 = 0 ∧ V ≤ tlim n * 10 ^ 5
    · rw [decide_eq_true h, if_pos ⟨rfl, by rw [h.1, Nat.zero_mul], by omega⟩, if_pos rfl]
    · rw [decide_eq_false h, if_neg, if_neg (by decide)]
      intro z
      refine h ⟨?_, ?_⟩
      · rcases Nat.mul_eq_zero.mp z.2.1 with a | a
        · exact a
        · have := p10 10; omega
      · have h6 : V % 10 ^ 5 = 0 := by
          rcases Nat.mul_eq_zero.mp z.2.1 with a | a
          · exact a
          · have := p10 10; omega
        have := z.2.2
        omega
def spDig (reg : Rg) (a half : Int) : Int :=
  if (0 ≤ a ∧ a < 8) ∧ (0 ≤ half ∧ half < 2) then (match reg a.toNat with | none => -11 | some (_, _, _, V) => ((V / 10 ^ (half.toNat * 18) % 10 ^ 18 : Nat) : Int)) else -15
theorem spDig_b {reg : Rg} {a half : Int} (h : ¬ ((0 ≤ a ∧ a < 8) ∧ (0 ≤ half ∧ half < 2))) : -15 = spDig reg a half := by unfold spDig; rw [if_neg h]
theorem spDig_n {reg : Rg} {α : Nat} {half : Int} (h : α < 8 ∧ 0 ≤ half ∧ half < 2) (hq : reg α = none) : -11 = spDig reg (α : Int) half := by
  unfold spDig; rw [if_pos (by omega), show (α : Int).toNat = α from rfl, hq]
theorem spDig_s {reg : Rg} {α V η : Nat} {c : Int} {w n : Bool} (h : α < 8 ∧ η < 2) (hq : reg α = some (c, w, n, V)) : spDig reg (α : Int) (η : Int) = ((V / 10 ^ (η * 18) % 10 ^ 18 : Nat) : Int) := by
  unfold spDig; rw [if_pos (by omega), show (α : Int).toNat = α from rfl, hq]; rfl
/-! The text and the ratios. -/
def spType (tx : Nat → Int) (sz : Nat) (c : Int) : Int × (Nat → Int) × Nat := if 32 ≤ c ∧ c ≤ 126 ∧ sz < 48 then ((sz : Int) + 1, txs tx sz c, sz + 1) else (-15, tx, sz)
theorem spType_b {tx : Nat → Int} {sz : Nat} {c : Int} (h : ¬ (32 ≤ c ∧ c ≤ 126 ∧ sz < 48)) : spType tx sz c = (-15, tx, sz) := by unfold spType; rw [if_neg h]
theorem spType_s {tx : Nat → Int} {sz : Nat} {c : Int} (h : 32 ≤ c ∧ c ≤ 126 ∧ sz < 48) : spType tx sz c = ((sz : Int) + 1, txs tx sz c, sz + 1) := by unfold spType; rw [if_pos h]
def spLet (tx : Nat → Int) (sz : Nat) (i : Int) : Int := if 0 ≤ i ∧ i < (sz : Int) then tx i.toNat else -15
theorem spLet_b {tx : Nat → Int} {sz : Nat} {i : Int} (h : ¬ (0 ≤ i ∧ i < (sz : Int))) : -15 = spLet tx sz i := by unfold spLet; rw [if_neg h]
theorem spLet_s {tx : Nat → Int} {sz j : Nat} (h : j < sz) : tx j = spLet tx sz (j : Int) := by unfold spLet; rw [if_pos (by omega)]; rfl
def spRat (ra : Nat → Int) (i v : Int) : Int × (Nat → Int) := if (0 ≤ i ∧ i < 8) ∧ (0 ≤ v ∧ v < 1000001) then (1, txs ra i.toNat v) else (0, ra)
theorem spRat_b {ra : Nat → Int} {i v : Int} (h : ¬ ((0 ≤ i ∧ i < 8) ∧ (0 ≤ v ∧ v < 1000001))) : spRat ra i v = (0, ra) := by unfold spRat; rw [if_neg h]
theorem spRat_s {ra : Nat → Int} {j : Nat} {v : Int} (h : j < 8 ∧ 0 ≤ v ∧ v < 1000001) : spRat ra (j : Int) v = (1, txs ra j v) := by unfold spRat; rw [if_pos (by omega)]; rfl
theorem bnot_1 {n : Bool} (h : bz n = 0) : 1 = bz (!n) := by rw [bz_0.mp h]; rfl
theorem bnot_0 {n : Bool} (h : ¬ bz n = 0) : 0 = bz (!n) := by rw [bz_ne h]; rfl
set_option maxHeartbeats 4000000 in
set_option maxRecDepth 100000 in
/-- multiply -/
theorem c_X3_multiply (E : TEn) (hE : EnvOk E) (hN : NestOk E) (h qam qrat qrm hw hsh ht qrow qfac : Nat) (cI cM : ClassId) (ad ro : Nat → Nat) (cs : Cs) (P Sc : Nat) (m : Int) (hP : 19 ≤ P ∧ P ≤ 30) (hS : 5 ≤ Sc ∧ Sc ≤ 10) (hm : 0 ≤ m ∧ m ≤ 6) (ng go : Bool) (fw ff : Nat → Int32) (r a v k : Int) (hr : r32 r) (ha : r32 a) (hk : r32 k) (hv : r64 v) (hR : RgOk (rof cs)) : Cti vwCl E yX3_multiply wsX3_multiply (rmn 5 121) [.ref h, .int (iI r), .int (iI a), .long (lI v), .int (iI k)] ([(h, .inr (3, [.int (iI ((P : Nat) : Int)), .int (iI ((Sc : Nat) : Int)), .int (iI m), .ref qam, .ref qrat, .ref qrm, .ref hw, .ref hsh, .ref ht])), (qam, .inl (cM, 8, .inr (.inr (.inr (.inr (fun i => some (ad i))))))), (hw, .inr (2, [.ref qrow, .ref qfac, .int (iI (bz ng)), .int (iI (bz go))])), (qrow, .inl (cI, 72, .inl fw)), (qfac, .inl (cI, 19, .inl ff))] ++ RB ad ro cI cs) [(cI, .int), (cM, .object "TwofoldAmounts$Amount")] (fun (z : Int) (u : (Nat → Int32) × (Nat → Int32) × Bool × Bool × Cs) => z = (spMul P Sc m (rof cs) r a v k).1 ∧ rof u.2.2.2.2 = (spMul P Sc m (rof cs) r a v k).2) (fun u => ([(h, .inr (3, [.int (iI ((P : Nat) : Int)), .int (iI ((Sc : Nat) : Int)), .int (iI m), .ref qam, .ref qrat, .ref qrm, .ref hw, .ref hsh, .ref ht])), (qam, .inl (cM, 8, .inr (.inr (.inr (.inr (fun i => some (ad i))))))), (hw, .inr (2, [.ref qrow, .ref qfac, .int (iI (bz u.2.2.1)), .int (iI (bz u.2.2.2.1))])), (qrow, .inl (cI, 72, .inl u.1)), (qfac, .inl (cI, 19, .inl u.2.1))] ++ RB ad ro cI u.2.2.2.2)) := by
  refine enteri (by decide) (Nat.le_of_ble_eq_true rfl) ?_
  intro X O hK hin2 hret
  show TGo X ([(h, .inr (3, [.int (iI ((P : Nat) : Int)), .int (iI ((Sc : Nat) : Int)), .int (iI m), .ref qam, .ref qrat, .ref qrm, .ref hw, .ref hsh, .ref ht])), (qam, .inl (cM, 8, .inr (.inr (.inr (.inr (fun i => some (ad i))))))), (hw, .inr (2, [.ref qrow, .ref qfac, .int (iI (bz ng)), .int (iI (bz go))])), (qrow, .inl (cI, 72, .inl fw)), (qfac, .inl (cI, 19, .inl ff))] ++ RB ad ro cI cs) 0 0 0 [(0, .ref h), (1, .int (iI r)), (2, .int (iI a)), (3, .long (lI v)), (5, .int (iI k))] []
  refine go_iload_n O dX3_multiply_0 rfl 1 rfl 1 rfl ?_
  refine go_calliST (rest := []) (wr := [(h, .inr (3, [.int (iI ((P : Nat) : Int)), .int (iI ((Sc : Nat) : Int)), .int (iI m), .ref qam, .ref qrat, .ref qrm, .ref hw, .ref hsh, .ref ht])), (qam, .inl (cM, 8, .inr (.inr (.inr (.inr (fun i => some (ad i))))))), (hw, .inr (2, [.ref qrow, .ref qfac, .int (iI (bz ng)), .int (iI (bz go))])), (qrow, .inl (cI, 72, .inl fw)), (qfac, .inl (cI, 19, .inl ff))]) (RB ad ro cI cs) O hK hE (c_X3_isRegister E hE r hr) mlX3_60 smX3_isRegister inX3 cdX3_isRegister 1 (by decide +kernel) ⟨Nat.le_of_ble_eq_true rfl, Nat.le_of_ble_eq_true rfl⟩ [] rfl [] rfl (by decide) [0, 1, 2, 3, 4] rfl (by decide) (by decide) rfl rfl (Nat.le_of_ble_eq_true rfl) ⟨Nat.zero_le _, Nat.zero_le _⟩ dX3_multiply_1 4 rfl (fun z u hu => ?_)
  subst hu
  show TGo X ([(h, .inr (3, [.int (iI ((P : Nat) : Int)), .int (iI ((Sc : Nat) : Int)), .int (iI m), .ref qam, .ref qrat, .ref qrm, .ref hw, .ref hsh, .ref ht])), (qam, .inl (cM, 8, .inr (.inr (.inr (.inr (fun i => some (ad i))))))), (hw, .inr (2, [.ref qrow, .ref qfac, .int (iI (bz ng)), .int (iI (bz go))])), (qrow, .inl (cI, 72, .inl fw)), (qfac, .inl (cI, 19, .inl ff))] ++ RB ad ro cI cs) 0 0 4 [(0, .ref h), (1, .int (iI r)), (2, .int (iI a)), (3, .long (lI v)), (5, .int (iI k))] [.int (iI (bz (decide (0 ≤ r ∧ r < 8))))]
  refine go_if_eq O dX3_multiply_4 22 (by decide) 7 rfl (bz_r _) (fun h4 => ?_) (fun h4 => ?_)
  · refine go_bipush O dX3_multiply_22 (by decide) 24 rfl ?_
    have he := spMul_bad (P := P) (Sc := Sc) (m := m) (reg := rof cs) (r := r) (a := a) (v := v) (k := k) (fun e => bzd_z h4 (by omega))
    exact hret _ _ _ (fw, ff, ng, go, cs) dX3_multiply_24 rfl ⟨by rw [he], by rw [he]⟩
  · refine go_iload_n O dX3_multiply_7 rfl 2 rfl 8 rfl ?_
    refine go_calliST (rest := []) (wr := [(h, .inr (3, [.int (iI ((P : Nat) : Int)), .int (iI ((Sc : Nat) : Int)), .int (iI m), .ref qam, .ref qrat, .ref qrm, .ref hw, .ref hsh, .ref ht])), (qam, .inl (cM, 8, .inr (.inr (.inr (.inr (fun i => some (ad i))))))), (hw, .inr (2, [.ref qrow, .ref qfac, .int (iI (bz ng)), .int (iI (bz go))])), (qrow, .inl (cI, 72, .inl fw)), (qfac, .inl (cI, 19, .inl ff))]) (RB ad ro cI cs) O hK hE (c_X3_isRegister E hE a ha) mlX3_60 smX3_isRegister inX3 cdX3_isRegister 1 (by decide +kernel) ⟨Nat.le_of_ble_eq_true rfl, Nat.le_of_ble_eq_true rfl⟩ [] rfl [] rfl (by decide) [0, 1, 2, 3, 4] rfl (by decide) (by decide) rfl rfl (Nat.le_of_ble_eq_true rfl) ⟨Nat.zero_le _, Nat.zero_le _⟩ dX3_multiply_8 11 rfl (fun z u hu => ?_)
    subst hu
    show TGo X ([(h, .inr (3, [.int (iI ((P : Nat) : Int)), .int (iI ((Sc : Nat) : Int)), .int (iI m), .ref qam, .ref qrat, .ref qrm, .ref hw, .ref hsh, .ref ht])), (qam, .inl (cM, 8, .inr (.inr (.inr (.inr (fun i => some (ad i))))))), (hw, .inr (2, [.ref qrow, .ref qfac, .int (iI (bz ng)), .int (iI (bz go))])), (qrow, .inl (cI, 72, .inl fw)), (qfac, .inl (cI, 19, .inl ff))] ++ RB ad ro cI cs) 0 0 11 [(0, .ref h), (1, .int (iI r)), (2, .int (iI a)), (3, .long (lI v)), (5, .int (iI k))] [.int (iI (bz (decide (0 ≤ a ∧ a < 8))))]
    refine go_if_eq O dX3_multiply_11 22 (by decide) 14 rfl (bz_r _) (fun h11 => ?_) (fun h11 => ?_)
    · refine go_bipush O dX3_multiply_22 (by decide) 24 rfl ?_
      have he := spMul_bad (P := P) (Sc := Sc) (m := m) (reg := rof cs) (r := r) (a := a) (v := v) (k := k) (fun e => bzd_z h11 (by omega))
      exact hret _ _ _ (fw, ff, ng, go, cs) dX3_multiply_24 rfl ⟨by rw [he], by rw [he]⟩
    · refine go_iload O dX3_multiply_14 4 rfl 16 rfl ?_
      refine go_calliST (rest := []) (wr := [(h, .inr (3, [.int (iI ((P : Nat) : Int)), .int (iI ((Sc : Nat) : Int)), .int (iI m), .ref qam, .ref qrat, .ref qrm, .ref hw, .ref hsh, .ref ht])), (qam, .inl (cM, 8, .inr (.inr (.inr (.inr (fun i => some (ad i))))))), (hw, .inr (2, [.ref qrow, .ref qfac, .int (iI (bz ng)), .int (iI (bz go))])), (qrow, .inl (cI, 72, .inl fw)), (qfac, .inl (cI, 19, .inl ff))]) (RB ad ro cI cs) O hK hE (c_X3_isPower E hE k hk) mlX3_64 smX3_isPower inX3 cdX3_isPower 1 (by decide +kernel) ⟨Nat.le_of_ble_eq_true rfl, Nat.le_of_ble_eq_true rfl⟩ [] rfl [] rfl (by decide) [0, 1, 2, 3, 4] rfl (by decide) (by decide) rfl rfl (Nat.le_of_ble_eq_true rfl) ⟨Nat.zero_le _, Nat.zero_le _⟩ dX3_multiply_16 19 rfl (fun z u hu => ?_)
      subst hu
      show TGo X ([(h, .inr (3, [.int (iI ((P : Nat) : Int)), .int (iI ((Sc : Nat) : Int)), .int (iI m), .ref qam, .ref qrat, .ref qrm, .ref hw, .ref hsh, .ref ht])), (qam, .inl (cM, 8, .inr (.inr (.inr (.inr (fun i => some (ad i))))))), (hw, .inr (2, [.ref qrow, .ref qfac, .int (iI (bz ng)), .int (iI (bz go))])), (qrow, .inl (cI, 72, .inl fw)), (qfac, .inl (cI, 19, .inl ff))] ++ RB ad ro cI cs) 0 0 19 [(0, .ref h), (1, .int (iI r)), (2, .int (iI a)), (3, .long (lI v)), (5, .int (iI k))] [.int (iI (bz (decide (0 ≤ k ∧ k ≤ 9))))]
      refine go_if_ne O dX3_multiply_19 25 (by decide) 22 rfl (bz_r _) (fun h19 => ?_) (fun h19 => ?_)
      · have q1 := bzd_ne h4
        have q2 := bzd_ne h11
        have q3 := bzd_ne h19
        obtain ⟨ρ, rfl⟩ : ∃ ρ : Nat, r = (ρ : Int) := ⟨r.toNat, by omega⟩
        obtain ⟨α, rfl⟩ : ∃ α : Nat, a = (α : Int) := ⟨a.toNat, by omega⟩
        obtain ⟨κ, rfl⟩ : ∃ κ : Nat, k = (κ : Int) := ⟨k.toNat, by omega⟩
        have hb3 : ρ < 8 ∧ α < 8 ∧ κ < 10 := by omega
        rcases hcs : cs α with ⟨_ | _, w0, n0, c0, V0⟩
        · have hq := rof_n hcs
          refine go_aload_n O dX3_multiply_25 rfl 0 rfl 26 rfl ?_
          refine go_get O hK dX3_multiply_26 hinX3 0 rfl rfl 3 (by decide) flX3_30 rfl 29 rfl ?_
          refine go_iload_n O dX3_multiply_29 rfl 2 rfl 30 rfl ?_
          refine go_aald O hK dX3_multiply_30 1 1 rfl rfl α rfl (by omega) (by omega) (ad α) rfl 31 rfl ?_
          refine TGo.outC [(h, .inr (3, [.int (iI ((P : Nat) : Int)), .int (iI ((Sc : Nat) : Int)), .int (iI m), .ref qam, .ref qrat, .ref qrm, .ref hw, .ref hsh, .ref ht])), (qam, .inl (cM, 8, .inr (.inr (.inr (.inr (fun i => some (ad i))))))), (hw, .inr (2, [.ref qrow, .ref qfac, .int (iI (bz ng)), .int (iI (bz go))])), (qrow, .inl (cI, 72, .inl fw)), (qfac, .inl (cI, 19, .inl ff))] α (by omega) hcs ?_
          show TGo X ([(h, .inr (3, [.int (iI ((P : Nat) : Int)), .int (iI ((Sc : Nat) : Int)), .int (iI m), .ref qam, .ref qrat, .ref qrm, .ref hw, .ref hsh, .ref ht])), (qam, .inl (cM, 8, .inr (.inr (.inr (.inr (fun i => some (ad i))))))), (hw, .inr (2, [.ref qrow, .ref qfac, .int (iI (bz ng)), .int (iI (bz go))])), (qrow, .inl (cI, 72, .inl fw)), (qfac, .inl (cI, 19, .inl ff)), ((ad α), .inr (0, [.ref (ro α), .int (iI 0), .int (iI (bz w0)), .int (iI (bz n0)), .int (iI c0)])), ((ro α), .inl (cI, 36, .inl (dg V0)))] ++ RR1 ad ro cI cs α) 0 0 31 [(0, .ref h), (1, .int (iI ((ρ : Nat) : Int))), (2, .int (iI ((α : Nat) : Int))), (3, .long (lI v)), (5, .int (iI ((κ : Nat) : Int)))] [.ref (ad α)]
          refine go_astore O dX3_multiply_31 (by decide) [(6, .ref (ad α)), (0, .ref h), (1, .int (iI ((ρ : Nat) : Int))), (2, .int (iI ((α : Nat) : Int))), (3, .long (lI v)), (5, .int (iI ((κ : Nat) : Int)))] rfl 33 rfl ?_
          refine go_aload O dX3_multiply_33 0 rfl 35 rfl ?_
          refine go_get O hK dX3_multiply_35 hinX0 5 rfl rfl 1 (by decide) flX3_79 rfl 38 rfl ?_
          refine go_if_ne O dX3_multiply_38 44 (by decide) 41 rfl (by omega) (fun h38 => by omega) (fun h38 => ?_)
          refine TGo.backC0 [(h, .inr (3, [.int (iI ((P : Nat) : Int)), .int (iI ((Sc : Nat) : Int)), .int (iI m), .ref qam, .ref qrat, .ref qrm, .ref hw, .ref hsh, .ref ht])), (qam, .inl (cM, 8, .inr (.inr (.inr (.inr (fun i => some (ad i))))))), (hw, .inr (2, [.ref qrow, .ref qfac, .int (iI (bz ng)), .int (iI (bz go))])), (qrow, .inl (cI, 72, .inl fw)), (qfac, .inl (cI, 19, .inl ff))] α (by omega) hcs ?_
          show TGo X ([(h, .inr (3, [.int (iI ((P : Nat) : Int)), .int (iI ((Sc : Nat) : Int)), .int (iI m), .ref qam, .ref qrat, .ref qrm, .ref hw, .ref hsh, .ref ht])), (qam, .inl (cM, 8, .inr (.inr (.inr (.inr (fun i => some (ad i))))))), (hw, .inr (2, [.ref qrow, .ref qfac, .int (iI (bz ng)), .int (iI (bz go))])), (qrow, .inl (cI, 72, .inl fw)), (qfac, .inl (cI, 19, .inl ff))] ++ RB ad ro cI cs) 0 0 41 [(6, .ref (ad α)), (0, .ref h), (1, .int (iI ((ρ : Nat) : Int))), (2, .int (iI ((α : Nat) : Int))), (3, .long (lI v)), (5, .int (iI ((κ : Nat) : Int)))] []
          refine go_bipush O dX3_multiply_41 (by decide) 43 rfl ?_
          have he := spMul_no (P := P) (Sc := Sc) (m := m) (v := v) hb3 hq
          exact hret _ _ _ (fw, ff, ng, go, cs) dX3_multiply_43 rfl ⟨by rw [he], by rw [he]⟩
        · have hq := rof_s hcs
          obtain ⟨hc0, hV0, hz0⟩ := hR α (by omega) _ _ _ _ hq
          have b0 := bz_01 n0
          have b1 := bz_01 w0
          refine go_aload_n O dX3_multiply_25 rfl 0 rfl 26 rfl ?_
          refine go_get O hK dX3_multiply_26 hinX3 0 rfl rfl 3 (by decide) flX3_30 rfl 29 rfl ?_
          refine go_iload_n O dX3_multiply_29 rfl 2 rfl 30 rfl ?_
          refine go_aald O hK dX3_multiply_30 1 1 rfl rfl α rfl (by omega) (by omega) (ad α) rfl 31 rfl ?_
          refine TGo.outC [(h, .inr (3, [.int (iI ((P : Nat) : Int)), .int (iI ((Sc : Nat) : Int)), .int (iI m), .ref qam, .ref qrat, .ref qrm, .ref hw, .ref hsh, .ref ht])), (qam, .inl (cM, 8, .inr (.inr (.inr (.inr (fun i => some (ad i))))))), (hw, .inr (2, [.ref qrow, .ref qfac, .int (iI (bz ng)), .int (iI (bz go))])), (qrow, .inl (cI, 72, .inl fw)), (qfac, .inl (cI, 19, .inl ff))] α (by omega) hcs ?_
          show TGo X ([(h, .inr (3, [.int (iI ((P : Nat) : Int)), .int (iI ((Sc : Nat) : Int)), .int (iI m), .ref qam, .ref qrat, .ref qrm, .ref hw, .ref hsh, .ref ht])), (qam, .inl (cM, 8, .inr (.inr (.inr (.inr (fun i => some (ad i))))))), (hw, .inr (2, [.ref qrow, .ref qfac, .int (iI (bz ng)), .int (iI (bz go))])), (qrow, .inl (cI, 72, .inl fw)), (qfac, .inl (cI, 19, .inl ff)), ((ad α), .inr (0, [.ref (ro α), .int (iI 1), .int (iI (bz w0)), .int (iI (bz n0)), .int (iI c0)])), ((ro α), .inl (cI, 36, .inl (dg V0)))] ++ RR1 ad ro cI cs α) 0 0 31 [(0, .ref h), (1, .int (iI ((ρ : Nat) : Int))), (2, .int (iI ((α : Nat) : Int))), (3, .long (lI v)), (5, .int (iI ((κ : Nat) : Int)))] [.ref (ad α)]
          refine go_astore O dX3_multiply_31 (by decide) [(6, .ref (ad α)), (0, .ref h), (1, .int (iI ((ρ : Nat) : Int))), (2, .int (iI ((α : Nat) : Int))), (3, .long (lI v)), (5, .int (iI ((κ : Nat) : Int)))] rfl 33 rfl ?_
          refine go_aload O dX3_multiply_33 0 rfl 35 rfl ?_
          refine go_get O hK dX3_multiply_35 hinX0 5 rfl rfl 1 (by decide) flX3_79 rfl 38 rfl ?_
          refine go_if_ne O dX3_multiply_38 44 (by decide) 41 rfl (by omega) (fun h38 => ?_) (fun h38 => by omega)
          refine go_aload_n O dX3_multiply_44 rfl 1 rfl 45 rfl ?_
          refine go_get O hK dX3_multiply_45 hinX3 0 rfl rfl 6 (by decide) flX3_46 rfl 48 rfl ?_
          refine go_aload O dX3_multiply_48 0 rfl 50 rfl ?_
          refine go_get O hK dX3_multiply_50 hinX0 5 rfl rfl 0 (by decide) flX3_83 rfl 53 rfl ?_
          refine go_bipush O dX3_multiply_53 (by decide) 55 rfl ?_
          refine go_iload O dX3_multiply_55 5 rfl 57 rfl ?_
          refine go_isub O dX3_multiply_57 ((10 - κ : Nat) : Int) (by omega) 58 rfl ?_
          refine go_aload O dX3_multiply_58 0 rfl 60 rfl ?_
          refine go_get O hK dX3_multiply_60 hinX0 5 rfl rfl 3 (by decide) flX3_86 rfl 63 rfl ?_
          refine go_callvVT (As := [.ref (ro α), .int (iI ((10 - κ : Nat) : Int)), .int (iI (bz n0))]) (rest := []) (wr := [(h, .inr (3, [.int (iI ((P : Nat) : Int)), .int (iI ((Sc : Nat) : Int)), .int (iI m), .ref qam, .ref qrat, .ref qrm, .ref hw, .ref hsh, .ref ht])), (qam, .inl (cM, 8, .inr (.inr (.inr (.inr (fun i => some (ad i))))))), (qfac, .inl (cI, 19, .inl ff)), ((ad α), .inr (0, [.ref (ro α), .int (iI 1), .int (iI (bz w0)), .int (iI (bz n0)), .int (iI c0)]))]) (RR1 ad ro cI cs α) O hK hE (c_X2_load E hE hw qrow qfac cI ng go (ro α) 36 V0 (10 - κ) fw n0 (by omega) hV0 (by omega)) mlX3_89 imX2_load seX2_load inX2 cdX2_load 3 (by decide +kernel) ⟨Nat.le_of_ble_eq_true rfl, Nat.le_of_ble_eq_true rfl⟩ 2 rfl rfl [0] rfl [2, 3, 6] rfl (by decide) [0, 1, 4, 5] rfl (by decide) (by decide) rfl rfl (Nat.le_of_ble_eq_true rfl) ⟨Nat.zero_le _, Nat.zero_le _⟩ dX3_multiply_63 66 rfl (fun u hu => ?_)
          show TGo X ([(h, .inr (3, [.int (iI ((P : Nat) : Int)), .int (iI ((Sc : Nat) : Int)), .int (iI m), .ref qam, .ref qrat, .ref qrm, .ref hw, .ref hsh, .ref ht])), (qam, .inl (cM, 8, .inr (.inr (.inr (.inr (fun i => some (ad i))))))), (qfac, .inl (cI, 19, .inl ff)), ((ad α), .inr (0, [.ref (ro α), .int (iI 1), .int (iI (bz w0)), .int (iI (bz n0)), .int (iI c0)])), (hw, .inr (2, [.ref qrow, .ref qfac, .int (iI (bz n0)), .int (iI 0)])), (qrow, .inl (cI, 72, .inl (dg (V0 * 10 ^ (10 - κ))))), ((ro α), .inl (cI, 36, .inl (dg V0)))] ++ RR1 ad ro cI cs α) 0 0 66 [(6, .ref (ad α)), (0, .ref h), (1, .int (iI ((ρ : Nat) : Int))), (2, .int (iI ((α : Nat) : Int))), (3, .long (lI v)), (5, .int (iI ((κ : Nat) : Int)))] []
          refine TGo.subT (w' := [(h, .inr (3, [.int (iI ((P : Nat) : Int)), .int (iI ((Sc : Nat) : Int)), .int (iI m), .ref qam, .ref qrat, .ref qrm, .ref hw, .ref hsh, .ref ht])), (qam, .inl (cM, 8, .inr (.inr (.inr (.inr (fun i => some (ad i))))))), (hw, .inr (2, [.ref qrow, .ref qfac, .int (iI (bz n0)), .int (iI 0)])), (qrow, .inl (cI, 72, .inl (dg (V0 * 10 ^ (10 - κ))))), (qfac, .inl (cI, 19, .inl ff)), ((ad α), .inr (0, [.ref (ro α), .int (iI 1), .int (iI (bz w0)), .int (iI (bz n0)), .int (iI c0)])), ((ro α), .inl (cI, 36, .inl (dg V0)))]) (RR1 ad ro cI cs α) [0, 1, 4, 5, 2, 3, 6] (by decide) rfl ?_
          refine go_aload_n O dX3_multiply_66 rfl 1 rfl 67 rfl ?_
          refine go_get O hK dX3_multiply_67 hinX3 0 rfl rfl 6 (by decide) flX3_46 rfl 70 rfl ?_
          refine go_lload_n O dX3_multiply_70 rfl 4 rfl 71 rfl ?_
          refine go_callvVT (As := [.long (lI v)]) (rest := []) (wr := [(h, .inr (3, [.int (iI ((P : Nat) : Int)), .int (iI ((Sc : Nat) : Int)), .int (iI m), .ref qam, .ref qrat, .ref qrm, .ref hw, .ref hsh, .ref ht])), (qam, .inl (cM, 8, .inr (.inr (.inr (.inr (fun i => some (ad i))))))), ((ad α), .inr (0, [.ref (ro α), .int (iI 1), .int (iI (bz w0)), .int (iI (bz n0)), .int (iI c0)])), ((ro α), .inl (cI, 36, .inl (dg V0)))]) (RR1 ad ro cI cs α) O hK hE (c_X2_times E hE hw qrow qfac cI n0 false ff (V0 * 10 ^ (10 - κ)) v hv (Nat.lt_of_lt_of_le (mul_bd2 hV0 hv).1 (p10le (by omega))) (Nat.lt_of_lt_of_le (mul_bd2 hV0 hv).2 (p10le (by omega)))) mlX3_93 imX2_times seX2_times inX2 cdX2_times 1 (by decide +kernel) ⟨Nat.le_of_ble_eq_true rfl, Nat.le_of_ble_eq_true rfl⟩ 2 rfl rfl [0] rfl [2, 3, 4] rfl (by decide) [0, 1, 5, 6] rfl (by decide) (by decide) rfl rfl (Nat.le_of_ble_eq_true rfl) ⟨Nat.zero_le _, Nat.zero_le _⟩ dX3_multiply_71 74 rfl (fun u hu => ?_)
          obtain ⟨ff2, rfl⟩ : ∃ y, y = u := ⟨_, rfl⟩
          show TGo X ([(h, .inr (3, [.int (iI ((P : Nat) : Int)), .int (iI ((Sc : Nat) : Int)), .int (iI m), .ref qam, .ref qrat, .ref qrm, .ref hw, .ref hsh, .ref ht])), (qam, .inl (cM, 8, .inr (.inr (.inr (.inr (fun i => some (ad i))))))), ((ad α), .inr (0, [.ref (ro α), .int (iI 1), .int (iI (bz w0)), .int (iI (bz n0)), .int (iI c0)])), ((ro α), .inl (cI, 36, .inl (dg V0))), (hw, .inr (2, [.ref qrow, .ref qfac, .int (iI (bz (n0 != decide (v < 0)))), .int (iI 0)])), (qrow, .inl (cI, 72, .inl (dg (V0 * 10 ^ (10 - κ) * v.natAbs)))), (qfac, .inl (cI, 19, .inl ff2))] ++ RR1 ad ro cI cs α) 0 0 74 [(6, .ref (ad α)), (0, .ref h), (1, .int (iI ((ρ : Nat) : Int))), (2, .int (iI ((α : Nat) : Int))), (3, .long (lI v)), (5, .int (iI ((κ : Nat) : Int)))] []
          refine TGo.subT (w' := [(h, .inr (3, [.int (iI ((P : Nat) : Int)), .int (iI ((Sc : Nat) : Int)), .int (iI m), .ref qam, .ref qrat, .ref qrm, .ref hw, .ref hsh, .ref ht])), (qam, .inl (cM, 8, .inr (.inr (.inr (.inr (fun i => some (ad i))))))), (hw, .inr (2, [.ref qrow, .ref qfac, .int (iI (bz (n0 != decide (v < 0)))), .int (iI 0)])), (qrow, .inl (cI, 72, .inl (dg (V0 * 10 ^ (10 - κ) * v.natAbs)))), (qfac, .inl (cI, 19, .inl ff2)), ((ad α), .inr (0, [.ref (ro α), .int (iI 1), .int (iI (bz w0)), .int (iI (bz n0)), .int (iI c0)])), ((ro α), .inl (cI, 36, .inl (dg V0)))]) (RR1 ad ro cI cs α) [0, 1, 4, 5, 6, 2, 3] (by decide) rfl ?_
          refine go_aload_n O dX3_multiply_74 rfl 1 rfl 75 rfl ?_
          refine go_iload_n O dX3_multiply_75 rfl 2 rfl 76 rfl ?_
          refine go_aload O dX3_multiply_76 0 rfl 78 rfl ?_
          refine go_get O hK dX3_multiply_78 hinX0 5 rfl rfl 2 (by decide) flX3_97 rfl 81 rfl ?_
          refine go_aload O dX3_multiply_81 0 rfl 83 rfl ?_
          refine go_get O hK dX3_multiply_83 hinX0 5 rfl rfl 4 (by decide) flX3_100 rfl 86 rfl ?_
          refine TGo.backC0 [(h, .inr (3, [.int (iI ((P : Nat) : Int)), .int (iI ((Sc : Nat) : Int)), .int (iI m), .ref qam, .ref qrat, .ref qrm, .ref hw, .ref hsh, .ref ht])), (qam, .inl (cM, 8, .inr (.inr (.inr (.inr (fun i => some (ad i))))))), (hw, .inr (2, [.ref qrow, .ref qfac, .int (iI (bz (n0 != decide (v < 0)))), .int (iI 0)])), (qrow, .inl (cI, 72, .inl (dg (V0 * 10 ^ (10 - κ) * v.natAbs)))), (qfac, .inl (cI, 19, .inl ff2))] α (by omega) hcs ?_
          show TGo X ([(h, .inr (3, [.int (iI ((P : Nat) : Int)), .int (iI ((Sc : Nat) : Int)), .int (iI m), .ref qam, .ref qrat, .ref qrm, .ref hw, .ref hsh, .ref ht])), (qam, .inl (cM, 8, .inr (.inr (.inr (.inr (fun i => some (ad i))))))), (hw, .inr (2, [.ref qrow, .ref qfac, .int (iI (bz (n0 != decide (v < 0)))), .int (iI 0)])), (qrow, .inl (cI, 72, .inl (dg (V0 * 10 ^ (10 - κ) * v.natAbs)))), (qfac, .inl (cI, 19, .inl ff2))] ++ RB ad ro cI cs) 0 0 86 [(6, .ref (ad α)), (0, .ref h), (1, .int (iI ((ρ : Nat) : Int))), (2, .int (iI ((α : Nat) : Int))), (3, .long (lI v)), (5, .int (iI ((κ : Nat) : Int)))] [.int (iI c0), .int (iI (bz w0)), .int (iI ((ρ : Nat) : Int)), .ref h]
          refine go_calliVU (As := [.int (iI ((ρ : Nat) : Int)), .int (iI (bz w0)), .int (iI c0)]) (rest := []) (wr := [(qfac, .inl (cI, 19, .inl ff2))]) (RB ad ro cI cs) O hK hE (c_X3_keep E hE hN h qam qrat qrm hw hsh ht qrow qfac cI cM ad ro cs P Sc m hP hS hm (n0 != decide (v < 0)) false w0 ρ (V0 * 10 ^ (10 - κ) * v.natAbs) c0 (by omega) (Nat.lt_of_lt_of_le (mul_bd2 hV0 hv).2 (p10le (by omega)))) mlX3_71 imX3_keep seX3_keep inX3 cdX3_keep 3 (by decide +kernel) ⟨Nat.le_of_ble_eq_true rfl, Nat.le_of_ble_eq_true rfl⟩ 0 rfl rfl [0, 1] rfl [0, 1, 2, 3] rfl (by decide) [4] rfl (by decide) (by decide) rfl rfl (Nat.le_of_ble_eq_true rfl) ⟨Nat.zero_le _, Nat.zero_le _⟩ dX3_multiply_86 89 rfl (fun z u hu => ?_)
          obtain ⟨W2, g2, cs2⟩ := u
          obtain ⟨rfl, hcs2⟩ := hu
          show TGo X ([(qfac, .inl (cI, 19, .inl ff2)), (h, .inr (3, [.int (iI ((P : Nat) : Int)), .int (iI ((Sc : Nat) : Int)), .int (iI m), .ref qam, .ref qrat, .ref qrm, .ref hw, .ref hsh, .ref ht])), (qam, .inl (cM, 8, .inr (.inr (.inr (.inr (fun i => some (ad i))))))), (hw, .inr (2, [.ref qrow, .ref qfac, .int (iI (bz (n0 != decide (v < 0)))), .int (iI (bz g2))])), (qrow, .inl (cI, 72, .inl (dg W2)))] ++ RB ad ro cI cs2) 0 0 89 [(6, .ref (ad α)), (0, .ref h), (1, .int (iI ((ρ : Nat) : Int))), (2, .int (iI ((α : Nat) : Int))), (3, .long (lI v)), (5, .int (iI ((κ : Nat) : Int)))] [.int (iI (ansO (tkeep P Sc m w0 (n0 != decide (v < 0)) (V0 * 10 ^ (10 - κ) * v.natAbs) false)))]
          refine TGo.subT (w' := [(h, .inr (3, [.int (iI ((P : Nat) : Int)), .int (iI ((Sc : Nat) : Int)), .int (iI m), .ref qam, .ref qrat, .ref qrm, .ref hw, .ref hsh, .ref ht])), (qam, .inl (cM, 8, .inr (.inr (.inr (.inr (fun i => some (ad i))))))), (hw, .inr (2, [.ref qrow, .ref qfac, .int (iI (bz (n0 != decide (v < 0)))), .int (iI (bz g2))])), (qrow, .inl (cI, 72, .inl (dg W2))), (qfac, .inl (cI, 19, .inl ff2))]) (RB ad ro cI cs2) [1, 2, 3, 4, 0] (by decide) rfl ?_
          have he := spMul_ok (P := P) (Sc := Sc) (m := m) (v := v) hb3 hq
          rw [mul_k hP hS (by omega)] at he
          exact hret _ _ _ (dg W2, ff2, (n0 != decide (v < 0)), g2, cs2) dX3_multiply_89 rfl ⟨by rw [he], by rw [he]; exact hcs2⟩
      · refine go_bipush O dX3_multiply_22 (by decide) 24 rfl ?_
        have he := spMul_bad (P := P) (Sc := Sc) (m := m) (reg := rof cs) (r := r) (a := a) (v := v) (k := k) (fun e => bzd_z h19 (by omega))
        exact hret _ _ _ (fw, ff, ng, go, cs) dX3_multiply_24 rfl ⟨by rw [he], by rw [he]⟩
set_option maxHeartbeats 4000000 in
set_option maxRecDepth 100000 in
/-- divide -/
theorem c_X3_divide (E : TEn) (hE : EnvOk E) (hN : NestOk E) (h qam qrat qrm hw hsh ht qrow qfac : Nat) (cI cM : ClassId) (ad ro : Nat → Nat) (cs : Cs) (P Sc : Nat) (m : Int) (hP : 19 ≤ P ∧ P ≤ 30) (hS : 5 ≤ Sc ∧ Sc ≤ 10) (hm : 0 ≤ m ∧ m ≤ 6) (ng go : Bool) (fw ff : Nat → Int32) (r a v k : Int) (hr : r32 r) (ha : r32 a) (hk : r32 k) (hv : r64 v) (hR : RgOk (rof cs)) : Cti vwCl E yX3_divide wsX3_divide (rmn 5 121) [.ref h, .int (iI r), .int (iI a), .long (lI v), .int (iI k)] ([(h, .inr (3, [.int (iI ((P : Nat) : Int)), .int (iI ((Sc : Nat) : Int)), .int (iI m), .ref qam, .ref qrat, .ref qrm, .ref hw, .ref hsh, .ref ht])), (qam, .inl (cM, 8, .inr (.inr (.inr (.inr (fun i => some (ad i))))))), (hw, .inr (2, [.ref qrow, .ref qfac, .int (iI (bz ng)), .int (iI (bz go))])), (qrow, .inl (cI, 72, .inl fw)), (qfac, .inl (cI, 19, .inl ff))] ++ RB ad ro cI cs) [(cI, .int), (cM, .object "TwofoldAmounts$Amount")] (fun (z : Int) (u : (Nat → Int32) × (Nat → Int32) × Bool × Bool × Cs) => z = (spDiv P Sc m (rof cs) r a v k).1 ∧ rof u.2.2.2.2 = (spDiv P Sc m (rof cs) r a v k).2) (fun u => ([(h, .inr (3, [.int (iI ((P : Nat) : Int)), .int (iI ((Sc : Nat) : Int)), .int (iI m), .ref qam, .ref qrat, .ref qrm, .ref hw, .ref hsh, .ref ht])), (qam, .inl (cM, 8, .inr (.inr (.inr (.inr (fun i => some (ad i))))))), (hw, .inr (2, [.ref qrow, .ref qfac, .int (iI (bz u.2.2.1)), .int (iI (bz u.2.2.2.1))])), (qrow, .inl (cI, 72, .inl u.1)), (qfac, .inl (cI, 19, .inl u.2.1))] ++ RB ad ro cI u.2.2.2.2)) := by
  refine enteri (by decide) (Nat.le_of_ble_eq_true rfl) ?_
  intro X O hK hin2 hret
  show TGo X ([(h, .inr (3, [.int (iI ((P : Nat) : Int)), .int (iI ((Sc : Nat) : Int)), .int (iI m), .ref qam, .ref qrat, .ref qrm, .ref hw, .ref hsh, .ref ht])), (qam, .inl (cM, 8, .inr (.inr (.inr (.inr (fun i => some (ad i))))))), (hw, .inr (2, [.ref qrow, .ref qfac, .int (iI (bz ng)), .int (iI (bz go))])), (qrow, .inl (cI, 72, .inl fw)), (qfac, .inl (cI, 19, .inl ff))] ++ RB ad ro cI cs) 0 0 0 [(0, .ref h), (1, .int (iI r)), (2, .int (iI a)), (3, .long (lI v)), (5, .int (iI k))] []
  have hcz := cmpZ_eq (a := v) (b := 0)
  refine go_iload_n O dX3_divide_0 rfl 1 rfl 1 rfl ?_
  refine go_calliST (rest := []) (wr := [(h, .inr (3, [.int (iI ((P : Nat) : Int)), .int (iI ((Sc : Nat) : Int)), .int (iI m), .ref qam, .ref qrat, .ref qrm, .ref hw, .ref hsh, .ref ht])), (qam, .inl (cM, 8, .inr (.inr (.inr (.inr (fun i => some (ad i))))))), (hw, .inr (2, [.ref qrow, .ref qfac, .int (iI (bz ng)), .int (iI (bz go))])), (qrow, .inl (cI, 72, .inl fw)), (qfac, .inl (cI, 19, .inl ff))]) (RB ad ro cI cs) O hK hE (c_X3_isRegister E hE r hr) mlX3_60 smX3_isRegister inX3 cdX3_isRegister 1 (by decide +kernel) ⟨Nat.le_of_ble_eq_true rfl, Nat.le_of_ble_eq_true rfl⟩ [] rfl [] rfl (by decide) [0, 1, 2, 3, 4] rfl (by decide) (by decide) rfl rfl (Nat.le_of_ble_eq_true rfl) ⟨Nat.zero_le _, Nat.zero_le _⟩ dX3_divide_1 4 rfl (fun z u hu => ?_)
  subst hu
  show TGo X ([(h, .inr (3, [.int (iI ((P : Nat) : Int)), .int (iI ((Sc : Nat) : Int)), .int (iI m), .ref qam, .ref qrat, .ref qrm, .ref hw, .ref hsh, .ref ht])), (qam, .inl (cM, 8, .inr (.inr (.inr (.inr (fun i => some (ad i))))))), (hw, .inr (2, [.ref qrow, .ref qfac, .int (iI (bz ng)), .int (iI (bz go))])), (qrow, .inl (cI, 72, .inl fw)), (qfac, .inl (cI, 19, .inl ff))] ++ RB ad ro cI cs) 0 0 4 [(0, .ref h), (1, .int (iI r)), (2, .int (iI a)), (3, .long (lI v)), (5, .int (iI k))] [.int (iI (bz (decide (0 ≤ r ∧ r < 8))))]
  refine go_if_eq O dX3_divide_4 22 (by decide) 7 rfl (bz_r _) (fun h4 => ?_) (fun h4 => ?_)
  · refine go_bipush O dX3_divide_22 (by decide) 24 rfl ?_
    have he := spDiv_bad (P := P) (Sc := Sc) (m := m) (reg := rof cs) (r := r) (a := a) (v := v) (k := k) (fun e => bzd_z h4 (by omega))
    exact hret _ _ _ (fw, ff, ng, go, cs) dX3_divide_24 rfl ⟨by rw [he], by rw [he]⟩
  · refine go_iload_n O dX3_divide_7 rfl 2 rfl 8 rfl ?_
    refine go_calliST (rest := []) (wr := [(h, .inr (3, [.int (iI ((P : Nat) : Int)), .int (iI ((Sc : Nat) : Int)), .int (iI m), .ref qam, .ref qrat, .ref qrm, .ref hw, .ref hsh, .ref ht])), (qam, .inl (cM, 8, .inr (.inr (.inr (.inr (fun i => some (ad i))))))), (hw, .inr (2, [.ref qrow, .ref qfac, .int (iI (bz ng)), .int (iI (bz go))])), (qrow, .inl (cI, 72, .inl fw)), (qfac, .inl (cI, 19, .inl ff))]) (RB ad ro cI cs) O hK hE (c_X3_isRegister E hE a ha) mlX3_60 smX3_isRegister inX3 cdX3_isRegister 1 (by decide +kernel) ⟨Nat.le_of_ble_eq_true rfl, Nat.le_of_ble_eq_true rfl⟩ [] rfl [] rfl (by decide) [0, 1, 2, 3, 4] rfl (by decide) (by decide) rfl rfl (Nat.le_of_ble_eq_true rfl) ⟨Nat.zero_le _, Nat.zero_le _⟩ dX3_divide_8 11 rfl (fun z u hu => ?_)
    subst hu
    show TGo X ([(h, .inr (3, [.int (iI ((P : Nat) : Int)), .int (iI ((Sc : Nat) : Int)), .int (iI m), .ref qam, .ref qrat, .ref qrm, .ref hw, .ref hsh, .ref ht])), (qam, .inl (cM, 8, .inr (.inr (.inr (.inr (fun i => some (ad i))))))), (hw, .inr (2, [.ref qrow, .ref qfac, .int (iI (bz ng)), .int (iI (bz go))])), (qrow, .inl (cI, 72, .inl fw)), (qfac, .inl (cI, 19, .inl ff))] ++ RB ad ro cI cs) 0 0 11 [(0, .ref h), (1, .int (iI r)), (2, .int (iI a)), (3, .long (lI v)), (5, .int (iI k))] [.int (iI (bz (decide (0 ≤ a ∧ a < 8))))]
    refine go_if_eq O dX3_divide_11 22 (by decide) 14 rfl (bz_r _) (fun h11 => ?_) (fun h11 => ?_)
    · refine go_bipush O dX3_divide_22 (by decide) 24 rfl ?_
      have he := spDiv_bad (P := P) (Sc := Sc) (m := m) (reg := rof cs) (r := r) (a := a) (v := v) (k := k) (fun e => bzd_z h11 (by omega))
      exact hret _ _ _ (fw, ff, ng, go, cs) dX3_divide_24 rfl ⟨by rw [he], by rw [he]⟩
    · refine go_iload O dX3_divide_14 4 rfl 16 rfl ?_
      refine go_calliST (rest := []) (wr := [(h, .inr (3, [.int (iI ((P : Nat) : Int)), .int (iI ((Sc : Nat) : Int)), .int (iI m), .ref qam, .ref qrat, .ref qrm, .ref hw, .ref hsh, .ref ht])), (qam, .inl (cM, 8, .inr (.inr (.inr (.inr (fun i => some (ad i))))))), (hw, .inr (2, [.ref qrow, .ref qfac, .int (iI (bz ng)), .int (iI (bz go))])), (qrow, .inl (cI, 72, .inl fw)), (qfac, .inl (cI, 19, .inl ff))]) (RB ad ro cI cs) O hK hE (c_X3_isPower E hE k hk) mlX3_64 smX3_isPower inX3 cdX3_isPower 1 (by decide +kernel) ⟨Nat.le_of_ble_eq_true rfl, Nat.le_of_ble_eq_true rfl⟩ [] rfl [] rfl (by decide) [0, 1, 2, 3, 4] rfl (by decide) (by decide) rfl rfl (Nat.le_of_ble_eq_true rfl) ⟨Nat.zero_le _, Nat.zero_le _⟩ dX3_divide_16 19 rfl (fun z u hu => ?_)
      subst hu
      show TGo X ([(h, .inr (3, [.int (iI ((P : Nat) : Int)), .int (iI ((Sc : Nat) : Int)), .int (iI m), .ref qam, .ref qrat, .ref qrm, .ref hw, .ref hsh, .ref ht])), (qam, .inl (cM, 8, .inr (.inr (.inr (.inr (fun i => some (ad i))))))), (hw, .inr (2, [.ref qrow, .ref qfac, .int (iI (bz ng)), .int (iI (bz go))])), (qrow, .inl (cI, 72, .inl fw)), (qfac, .inl (cI, 19, .inl ff))] ++ RB ad ro cI cs) 0 0 19 [(0, .ref h), (1, .int (iI r)), (2, .int (iI a)), (3, .long (lI v)), (5, .int (iI k))] [.int (iI (bz (decide (0 ≤ k ∧ k ≤ 9))))]
      refine go_if_ne O dX3_divide_19 25 (by decide) 22 rfl (bz_r _) (fun h19 => ?_) (fun h19 => ?_)
      · have q1 := bzd_ne h4
        have q2 := bzd_ne h11
        have q3 := bzd_ne h19
        obtain ⟨ρ, rfl⟩ : ∃ ρ : Nat, r = (ρ : Int) := ⟨r.toNat, by omega⟩
        obtain ⟨α, rfl⟩ : ∃ α : Nat, a = (α : Int) := ⟨a.toNat, by omega⟩
        obtain ⟨κ, rfl⟩ : ∃ κ : Nat, k = (κ : Int) := ⟨k.toNat, by omega⟩
        have hb3 : ρ < 8 ∧ α < 8 ∧ κ < 10 := by omega
        rcases hcs : cs α with ⟨_ | _, w0, n0, c0, V0⟩
        · have hq := rof_n hcs
          refine go_aload_n O dX3_divide_25 rfl 0 rfl 26 rfl ?_
          refine go_get O hK dX3_divide_26 hinX3 0 rfl rfl 3 (by decide) flX3_30 rfl 29 rfl ?_
          refine go_iload_n O dX3_divide_29 rfl 2 rfl 30 rfl ?_
          refine go_aald O hK dX3_divide_30 1 1 rfl rfl α rfl (by omega) (by omega) (ad α) rfl 31 rfl ?_
          refine TGo.outC [(h, .inr (3, [.int (iI ((P : Nat) : Int)), .int (iI ((Sc : Nat) : Int)), .int (iI m), .ref qam, .ref qrat, .ref qrm, .ref hw, .ref hsh, .ref ht])), (qam, .inl (cM, 8, .inr (.inr (.inr (.inr (fun i => some (ad i))))))), (hw, .inr (2, [.ref qrow, .ref qfac, .int (iI (bz ng)), .int (iI (bz go))])), (qrow, .inl (cI, 72, .inl fw)), (qfac, .inl (cI, 19, .inl ff))] α (by omega) hcs ?_
          show TGo X ([(h, .inr (3, [.int (iI ((P : Nat) : Int)), .int (iI ((Sc : Nat) : Int)), .int (iI m), .ref qam, .ref qrat, .ref qrm, .ref hw, .ref hsh, .ref ht])), (qam, .inl (cM, 8, .inr (.inr (.inr (.inr (fun i => some (ad i))))))), (hw, .inr (2, [.ref qrow, .ref qfac, .int (iI (bz ng)), .int (iI (bz go))])), (qrow, .inl (cI, 72, .inl fw)), (qfac, .inl (cI, 19, .inl ff)), ((ad α), .inr (0, [.ref (ro α), .int (iI 0), .int (iI (bz w0)), .int (iI (bz n0)), .int (iI c0)])), ((ro α), .inl (cI, 36, .inl (dg V0)))] ++ RR1 ad ro cI cs α) 0 0 31 [(0, .ref h), (1, .int (iI ((ρ : Nat) : Int))), (2, .int (iI ((α : Nat) : Int))), (3, .long (lI v)), (5, .int (iI ((κ : Nat) : Int)))] [.ref (ad α)]
          refine go_astore O dX3_divide_31 (by decide) [(6, .ref (ad α)), (0, .ref h), (1, .int (iI ((ρ : Nat) : Int))), (2, .int (iI ((α : Nat) : Int))), (3, .long (lI v)), (5, .int (iI ((κ : Nat) : Int)))] rfl 33 rfl ?_
          refine go_aload O dX3_divide_33 0 rfl 35 rfl ?_
          refine go_get O hK dX3_divide_35 hinX0 5 rfl rfl 1 (by decide) flX3_79 rfl 38 rfl ?_
          refine go_if_ne O dX3_divide_38 44 (by decide) 41 rfl (by omega) (fun h38 => by omega) (fun h38 => ?_)
          refine TGo.backC0 [(h, .inr (3, [.int (iI ((P : Nat) : Int)), .int (iI ((Sc : Nat) : Int)), .int (iI m), .ref qam, .ref qrat, .ref qrm, .ref hw, .ref hsh, .ref ht])), (qam, .inl (cM, 8, .inr (.inr (.inr (.inr (fun i => some (ad i))))))), (hw, .inr (2, [.ref qrow, .ref qfac, .int (iI (bz ng)), .int (iI (bz go))])), (qrow, .inl (cI, 72, .inl fw)), (qfac, .inl (cI, 19, .inl ff))] α (by omega) hcs ?_
          show TGo X ([(h, .inr (3, [.int (iI ((P : Nat) : Int)), .int (iI ((Sc : Nat) : Int)), .int (iI m), .ref qam, .ref qrat, .ref qrm, .ref hw, .ref hsh, .ref ht])), (qam, .inl (cM, 8, .inr (.inr (.inr (.inr (fun i => some (ad i))))))), (hw, .inr (2, [.ref qrow, .ref qfac, .int (iI (bz ng)), .int (iI (bz go))])), (qrow, .inl (cI, 72, .inl fw)), (qfac, .inl (cI, 19, .inl ff))] ++ RB ad ro cI cs) 0 0 41 [(6, .ref (ad α)), (0, .ref h), (1, .int (iI ((ρ : Nat) : Int))), (2, .int (iI ((α : Nat) : Int))), (3, .long (lI v)), (5, .int (iI ((κ : Nat) : Int)))] []
          refine go_bipush O dX3_divide_41 (by decide) 43 rfl ?_
          have he := spDiv_no (P := P) (Sc := Sc) (m := m) (v := v) hb3 hq
          exact hret _ _ _ (fw, ff, ng, go, cs) dX3_divide_43 rfl ⟨by rw [he], by rw [he]⟩
        · have hq := rof_s hcs
          obtain ⟨hc0, hV0, hz0⟩ := hR α (by omega) _ _ _ _ hq
          have b0 := bz_01 n0
          have b1 := bz_01 w0
          refine go_aload_n O dX3_divide_25 rfl 0 rfl 26 rfl ?_
          refine go_get O hK dX3_divide_26 hinX3 0 rfl rfl 3 (by decide) flX3_30 rfl 29 rfl ?_
          refine go_iload_n O dX3_divide_29 rfl 2 rfl 30 rfl ?_
          refine go_aald O hK dX3_divide_30 1 1 rfl rfl α rfl (by omega) (by omega) (ad α) rfl 31 rfl ?_
          refine TGo.outC [(h, .inr (3, [.int (iI ((P : Nat) : Int)), .int (iI ((Sc : Nat) : Int)), .int (iI m), .ref qam, .ref qrat, .ref qrm, .ref hw, .ref hsh, .ref ht])), (qam, .inl (cM, 8, .inr (.inr (.inr (.inr (fun i => some (ad i))))))), (hw, .inr (2, [.ref qrow, .ref qfac, .int (iI (bz ng)), .int (iI (bz go))])), (qrow, .inl (cI, 72, .inl fw)), (qfac, .inl (cI, 19, .inl ff))] α (by omega) hcs ?_
          show TGo X ([(h, .inr (3, [.int (iI ((P : Nat) : Int)), .int (iI ((Sc : Nat) : Int)), .int (iI m), .ref qam, .ref qrat, .ref qrm, .ref hw, .ref hsh, .ref ht])), (qam, .inl (cM, 8, .inr (.inr (.inr (.inr (fun i => some (ad i))))))), (hw, .inr (2, [.ref qrow, .ref qfac, .int (iI (bz ng)), .int (iI (bz go))])), (qrow, .inl (cI, 72, .inl fw)), (qfac, .inl (cI, 19, .inl ff)), ((ad α), .inr (0, [.ref (ro α), .int (iI 1), .int (iI (bz w0)), .int (iI (bz n0)), .int (iI c0)])), ((ro α), .inl (cI, 36, .inl (dg V0)))] ++ RR1 ad ro cI cs α) 0 0 31 [(0, .ref h), (1, .int (iI ((ρ : Nat) : Int))), (2, .int (iI ((α : Nat) : Int))), (3, .long (lI v)), (5, .int (iI ((κ : Nat) : Int)))] [.ref (ad α)]
          refine go_astore O dX3_divide_31 (by decide) [(6, .ref (ad α)), (0, .ref h), (1, .int (iI ((ρ : Nat) : Int))), (2, .int (iI ((α : Nat) : Int))), (3, .long (lI v)), (5, .int (iI ((κ : Nat) : Int)))] rfl 33 rfl ?_
          refine go_aload O dX3_divide_33 0 rfl 35 rfl ?_
          refine go_get O hK dX3_divide_35 hinX0 5 rfl rfl 1 (by decide) flX3_79 rfl 38 rfl ?_
          refine go_if_ne O dX3_divide_38 44 (by decide) 41 rfl (by omega) (fun h38 => ?_) (fun h38 => by omega)
          refine go_lload_n O dX3_divide_44 rfl 4 rfl 45 rfl ?_
          refine go_lconst O dX3_divide_45 0 rfl 46 rfl ?_
          refine go_lcmp O dX3_divide_46 (by omega) (by omega) 47 rfl ?_
          refine go_if_ne O dX3_divide_47 53 (by decide) 50 rfl (cmpZ_r _ _) (fun h47 => ?_) (fun h47 => ?_)
          · refine go_aload_n O dX3_divide_53 rfl 1 rfl 54 rfl ?_
            refine go_get O hK dX3_divide_54 hinX3 0 rfl rfl 6 (by decide) flX3_46 rfl 57 rfl ?_
            refine go_aload O dX3_divide_57 0 rfl 59 rfl ?_
            refine go_get O hK dX3_divide_59 hinX0 5 rfl rfl 0 (by decide) flX3_83 rfl 62 rfl ?_
            refine go_bipush O dX3_divide_62 (by decide) 64 rfl ?_
            refine go_iload O dX3_divide_64 5 rfl 66 rfl ?_
            refine go_iadd O dX3_divide_66 ((10 + κ : Nat) : Int) (by omega) 67 rfl ?_
            refine go_aload O dX3_divide_67 0 rfl 69 rfl ?_
            refine go_get O hK dX3_divide_69 hinX0 5 rfl rfl 3 (by decide) flX3_86 rfl 72 rfl ?_
            refine go_callvVT (As := [.ref (ro α), .int (iI ((10 + κ : Nat) : Int)), .int (iI (bz n0))]) (rest := []) (wr := [(h, .inr (3, [.int (iI ((P : Nat) : Int)), .int (iI ((Sc : Nat) : Int)), .int (iI m), .ref qam, .ref qrat, .ref qrm, .ref hw, .ref hsh, .ref ht])), (qam, .inl (cM, 8, .inr (.inr (.inr (.inr (fun i => some (ad i))))))), (qfac, .inl (cI, 19, .inl ff)), ((ad α), .inr (0, [.ref (ro α), .int (iI 1), .int (iI (bz w0)), .int (iI (bz n0)), .int (iI c0)]))]) (RR1 ad ro cI cs α) O hK hE (c_X2_load E hE hw qrow qfac cI ng go (ro α) 36 V0 (10 + κ) fw n0 (by omega) hV0 (by omega)) mlX3_89 imX2_load seX2_load inX2 cdX2_load 3 (by decide +kernel) ⟨Nat.le_of_ble_eq_true rfl, Nat.le_of_ble_eq_true rfl⟩ 2 rfl rfl [0] rfl [2, 3, 6] rfl (by decide) [0, 1, 4, 5] rfl (by decide) (by decide) rfl rfl (Nat.le_of_ble_eq_true rfl) ⟨Nat.zero_le _, Nat.zero_le _⟩ dX3_divide_72 75 rfl (fun u hu => ?_)
            show TGo X ([(h, .inr (3, [.int (iI ((P : Nat) : Int)), .int (iI ((Sc : Nat) : Int)), .int (iI m), .ref qam, .ref qrat, .ref qrm, .ref hw, .ref hsh, .ref ht])), (qam, .inl (cM, 8, .inr (.inr (.inr (.inr (fun i => some (ad i))))))), (qfac, .inl (cI, 19, .inl ff)), ((ad α), .inr (0, [.ref (ro α), .int (iI 1), .int (iI (bz w0)), .int (iI (bz n0)), .int (iI c0)])), (hw, .inr (2, [.ref qrow, .ref qfac, .int (iI (bz n0)), .int (iI 0)])), (qrow, .inl (cI, 72, .inl (dg (V0 * 10 ^ (10 + κ))))), ((ro α), .inl (cI, 36, .inl (dg V0)))] ++ RR1 ad ro cI cs α) 0 0 75 [(6, .ref (ad α)), (0, .ref h), (1, .int (iI ((ρ : Nat) : Int))), (2, .int (iI ((α : Nat) : Int))), (3, .long (lI v)), (5, .int (iI ((κ : Nat) : Int)))] []
            refine TGo.subT (w' := [(h, .inr (3, [.int (iI ((P : Nat) : Int)), .int (iI ((Sc : Nat) : Int)), .int (iI m), .ref qam, .ref qrat, .ref qrm, .ref hw, .ref hsh, .ref ht])), (qam, .inl (cM, 8, .inr (.inr (.inr (.inr (fun i => some (ad i))))))), (hw, .inr (2, [.ref qrow, .ref qfac, .int (iI (bz n0)), .int (iI 0)])), (qrow, .inl (cI, 72, .inl (dg (V0 * 10 ^ (10 + κ))))), (qfac, .inl (cI, 19, .inl ff)), ((ad α), .inr (0, [.ref (ro α), .int (iI 1), .int (iI (bz w0)), .int (iI (bz n0)), .int (iI c0)])), ((ro α), .inl (cI, 36, .inl (dg V0)))]) (RR1 ad ro cI cs α) [0, 1, 4, 5, 2, 3, 6] (by decide) rfl ?_
            refine go_aload_n O dX3_divide_75 rfl 1 rfl 76 rfl ?_
            refine go_get O hK dX3_divide_76 hinX3 0 rfl rfl 6 (by decide) flX3_46 rfl 79 rfl ?_
            refine go_lload_n O dX3_divide_79 rfl 4 rfl 80 rfl ?_
            refine go_iconst O dX3_divide_80 81 rfl ?_
            refine go_calllVT (As := [.long (lI v), .int (iI 0)]) (rest := []) (wr := [(h, .inr (3, [.int (iI ((P : Nat) : Int)), .int (iI ((Sc : Nat) : Int)), .int (iI m), .ref qam, .ref qrat, .ref qrm, .ref hw, .ref hsh, .ref ht])), (qam, .inl (cM, 8, .inr (.inr (.inr (.inr (fun i => some (ad i))))))), (qfac, .inl (cI, 19, .inl ff)), ((ad α), .inr (0, [.ref (ro α), .int (iI 1), .int (iI (bz w0)), .int (iI (bz n0)), .int (iI c0)])), ((ro α), .inl (cI, 36, .inl (dg V0)))]) (RR1 ad ro cI cs α) O hK hE (c_X2_over E hE hw qrow qfac cI n0 false (V0 * 10 ^ (10 + κ)) 0 v hv (by omega) (Nat.lt_of_lt_of_le (div_bd2 1 hV0 (by omega)).1 (p10le (by omega))) (by omega)) mlX3_103 imX2_over seX2_over inX2 cdX2_over 2 (by decide +kernel) ⟨Nat.le_of_ble_eq_true rfl, Nat.le_of_ble_eq_true rfl⟩ 2 rfl rfl [0] rfl [2, 3] rfl (by decide) [0, 1, 4, 5, 6] rfl (by decide) (by decide) rfl rfl (Nat.le_of_ble_eq_true rfl) ⟨Nat.zero_le _, Nat.zero_le _⟩ dX3_divide_81 84 rfl (fun z u hu => ?_)
            subst hu
            show TGo X ([(h, .inr (3, [.int (iI ((P : Nat) : Int)), .int (iI ((Sc : Nat) : Int)), .int (iI m), .ref qam, .ref qrat, .ref qrm, .ref hw, .ref hsh, .ref ht])), (qam, .inl (cM, 8, .inr (.inr (.inr (.inr (fun i => some (ad i))))))), (qfac, .inl (cI, 19, .inl ff)), ((ad α), .inr (0, [.ref (ro α), .int (iI 1), .int (iI (bz w0)), .int (iI (bz n0)), .int (iI c0)])), ((ro α), .inl (cI, 36, .inl (dg V0))), (hw, .inr (2, [.ref qrow, .ref qfac, .int (iI (bz (n0 != decide (v < 0)))), .int (iI (bz (decide (V0 * 10 ^ (10 + κ) / 10 ^ 0 % v.natAbs ≠ 0))))])), (qrow, .inl (cI, 72, .inl (dg (V0 * 10 ^ (10 + κ) / 10 ^ 0 / v.natAbs * 10 ^ 0 + V0 * 10 ^ (10 + κ) % 10 ^ 0))))] ++ RR1 ad ro cI cs α) 0 0 84 [(6, .ref (ad α)), (0, .ref h), (1, .int (iI ((ρ : Nat) : Int))), (2, .int (iI ((α : Nat) : Int))), (3, .long (lI v)), (5, .int (iI ((κ : Nat) : Int)))] [.long (lI ((V0 * 10 ^ (10 + κ) / 10 ^ 0 % v.natAbs : Nat) : Int))]
            refine TGo.subT (w' := [(h, .inr (3, [.int (iI ((P : Nat) : Int)), .int (iI ((Sc : Nat) : Int)), .int (iI m), .ref qam, .ref qrat, .ref qrm, .ref hw, .ref hsh, .ref ht])), (qam, .inl (cM, 8, .inr (.inr (.inr (.inr (fun i => some (ad i))))))), (hw, .inr (2, [.ref qrow, .ref qfac, .int (iI (bz (n0 != decide (v < 0)))), .int (iI (bz (decide (V0 * 10 ^ (10 + κ) / 10 ^ 0 % v.natAbs ≠ 0))))])), (qrow, .inl (cI, 72, .inl (dg (V0 * 10 ^ (10 + κ) / 10 ^ 0 / v.natAbs * 10 ^ 0 + V0 * 10 ^ (10 + κ) % 10 ^ 0)))), (qfac, .inl (cI, 19, .inl ff)), ((ad α), .inr (0, [.ref (ro α), .int (iI 1), .int (iI (bz w0)), .int (iI (bz n0)), .int (iI c0)])), ((ro α), .inl (cI, 36, .inl (dg V0)))]) (RR1 ad ro cI cs α) [0, 1, 5, 6, 2, 3, 4] (by decide) rfl ?_
            refine go_pop2_2 O dX3_divide_84 rfl 85 rfl ?_
            refine go_aload_n O dX3_divide_85 rfl 1 rfl 86 rfl ?_
            refine go_iload_n O dX3_divide_86 rfl 2 rfl 87 rfl ?_
            refine go_aload O dX3_divide_87 0 rfl 89 rfl ?_
            refine go_get O hK dX3_divide_89 hinX0 5 rfl rfl 2 (by decide) flX3_97 rfl 92 rfl ?_
            refine go_aload O dX3_divide_92 0 rfl 94 rfl ?_
            refine go_get O hK dX3_divide_94 hinX0 5 rfl rfl 4 (by decide) flX3_100 rfl 97 rfl ?_
            refine TGo.backC0 [(h, .inr (3, [.int (iI ((P : Nat) : Int)), .int (iI ((Sc : Nat) : Int)), .int (iI m), .ref qam, .ref qrat, .ref qrm, .ref hw, .ref hsh, .ref ht])), (qam, .inl (cM, 8, .inr (.inr (.inr (.inr (fun i => some (ad i))))))), (hw, .inr (2, [.ref qrow, .ref qfac, .int (iI (bz (n0 != decide (v < 0)))), .int (iI (bz (decide (V0 * 10 ^ (10 + κ) / 10 ^ 0 % v.natAbs ≠ 0))))])), (qrow, .inl (cI, 72, .inl (dg (V0 * 10 ^ (10 + κ) / 10 ^ 0 / v.natAbs * 10 ^ 0 + V0 * 10 ^ (10 + κ) % 10 ^ 0)))), (qfac, .inl (cI, 19, .inl ff))] α (by omega) hcs ?_
            show TGo X ([(h, .inr (3, [.int (iI ((P : Nat) : Int)), .int (iI ((Sc : Nat) : Int)), .int (iI m), .ref qam, .ref qrat, .ref qrm, .ref hw, .ref hsh, .ref ht])), (qam, .inl (cM, 8, .inr (.inr (.inr (.inr (fun i => some (ad i))))))), (hw, .inr (2, [.ref qrow, .ref qfac, .int (iI (bz (n0 != decide (v < 0)))), .int (iI (bz (decide (V0 * 10 ^ (10 + κ) / 10 ^ 0 % v.natAbs ≠ 0))))])), (qrow, .inl (cI, 72, .inl (dg (V0 * 10 ^ (10 + κ) / 10 ^ 0 / v.natAbs * 10 ^ 0 + V0 * 10 ^ (10 + κ) % 10 ^ 0)))), (qfac, .inl (cI, 19, .inl ff))] ++ RB ad ro cI cs) 0 0 97 [(6, .ref (ad α)), (0, .ref h), (1, .int (iI ((ρ : Nat) : Int))), (2, .int (iI ((α : Nat) : Int))), (3, .long (lI v)), (5, .int (iI ((κ : Nat) : Int)))] [.int (iI c0), .int (iI (bz w0)), .int (iI ((ρ : Nat) : Int)), .ref h]
            refine go_calliVU (As := [.int (iI ((ρ : Nat) : Int)), .int (iI (bz w0)), .int (iI c0)]) (rest := []) (wr := [(qfac, .inl (cI, 19, .inl ff))]) (RB ad ro cI cs) O hK hE (c_X3_keep E hE hN h qam qrat qrm hw hsh ht qrow qfac cI cM ad ro cs P Sc m hP hS hm (n0 != decide (v < 0)) (decide (V0 * 10 ^ (10 + κ) / 10 ^ 0 % v.natAbs ≠ 0)) w0 ρ (V0 * 10 ^ (10 + κ) / 10 ^ 0 / v.natAbs * 10 ^ 0 + V0 * 10 ^ (10 + κ) % 10 ^ 0) c0 (by omega) (div_bd2 _ hV0 (by omega)).2) mlX3_71 imX3_keep seX3_keep inX3 cdX3_keep 3 (by decide +kernel) ⟨Nat.le_of_ble_eq_true rfl, Nat.le_of_ble_eq_true rfl⟩ 0 rfl rfl [0, 1] rfl [0, 1, 2, 3] rfl (by decide) [4] rfl (by decide) (by decide) rfl rfl (Nat.le_of_ble_eq_true rfl) ⟨Nat.zero_le _, Nat.zero_le _⟩ dX3_divide_97 100 rfl (fun z u hu => ?_)
            obtain ⟨W2, g2, cs2⟩ := u
            obtain ⟨rfl, hcs2⟩ := hu
            show TGo X ([(qfac, .inl (cI, 19, .inl ff)), (h, .inr (3, [.int (iI ((P : Nat) : Int)), .int (iI ((Sc : Nat) : Int)), .int (iI m), .ref qam, .ref qrat, .ref qrm, .ref hw, .ref hsh, .ref ht])), (qam, .inl (cM, 8, .inr (.inr (.inr (.inr (fun i => some (ad i))))))), (hw, .inr (2, [.ref qrow, .ref qfac, .int (iI (bz (n0 != decide (v < 0)))), .int (iI (bz g2))])), (qrow, .inl (cI, 72, .inl (dg W2)))] ++ RB ad ro cI cs2) 0 0 100 [(6, .ref (ad α)), (0, .ref h), (1, .int (iI ((ρ : Nat) : Int))), (2, .int (iI ((α : Nat) : Int))), (3, .long (lI v)), (5, .int (iI ((κ : Nat) : Int)))] [.int (iI (ansO (tkeep P Sc m w0 (n0 != decide (v < 0)) (V0 * 10 ^ (10 + κ) / 10 ^ 0 / v.natAbs * 10 ^ 0 + V0 * 10 ^ (10 + κ) % 10 ^ 0) (decide (V0 * 10 ^ (10 + κ) / 10 ^ 0 % v.natAbs ≠ 0)))))]
            refine TGo.subT (w' := [(h, .inr (3, [.int (iI ((P : Nat) : Int)), .int (iI ((Sc : Nat) : Int)), .int (iI m), .ref qam, .ref qrat, .ref qrm, .ref hw, .ref hsh, .ref ht])), (qam, .inl (cM, 8, .inr (.inr (.inr (.inr (fun i => some (ad i))))))), (hw, .inr (2, [.ref qrow, .ref qfac, .int (iI (bz (n0 != decide (v < 0)))), .int (iI (bz g2))])), (qrow, .inl (cI, 72, .inl (dg W2))), (qfac, .inl (cI, 19, .inl ff))]) (RB ad ro cI cs2) [1, 2, 3, 4, 0] (by decide) rfl ?_
            have he := spDiv_ok (P := P) (Sc := Sc) (m := m) (v := v) hb3 hq (by omega)
            rw [div_k hP hS (by omega)] at he
            exact hret _ _ _ (dg W2, ff, (n0 != decide (v < 0)), g2, cs2) dX3_divide_100 rfl ⟨by rw [he], by rw [he]; exact hcs2⟩
          · refine TGo.backC0 [(h, .inr (3, [.int (iI ((P : Nat) : Int)), .int (iI ((Sc : Nat) : Int)), .int (iI m), .ref qam, .ref qrat, .ref qrm, .ref hw, .ref hsh, .ref ht])), (qam, .inl (cM, 8, .inr (.inr (.inr (.inr (fun i => some (ad i))))))), (hw, .inr (2, [.ref qrow, .ref qfac, .int (iI (bz ng)), .int (iI (bz go))])), (qrow, .inl (cI, 72, .inl fw)), (qfac, .inl (cI, 19, .inl ff))] α (by omega) hcs ?_
            show TGo X ([(h, .inr (3, [.int (iI ((P : Nat) : Int)), .int (iI ((Sc : Nat) : Int)), .int (iI m), .ref qam, .ref qrat, .ref qrm, .ref hw, .ref hsh, .ref ht])), (qam, .inl (cM, 8, .inr (.inr (.inr (.inr (fun i => some (ad i))))))), (hw, .inr (2, [.ref qrow, .ref qfac, .int (iI (bz ng)), .int (iI (bz go))])), (qrow, .inl (cI, 72, .inl fw)), (qfac, .inl (cI, 19, .inl ff))] ++ RB ad ro cI cs) 0 0 50 [(6, .ref (ad α)), (0, .ref h), (1, .int (iI ((ρ : Nat) : Int))), (2, .int (iI ((α : Nat) : Int))), (3, .long (lI v)), (5, .int (iI ((κ : Nat) : Int)))] []
            refine go_bipush O dX3_divide_50 (by decide) 52 rfl ?_
            have he := spDiv_0 (P := P) (Sc := Sc) (m := m) (v := v) hb3 hq (by omega)
            exact hret _ _ _ (fw, ff, ng, go, cs) dX3_divide_52 rfl ⟨by rw [he], by rw [he]⟩
      · refine go_bipush O dX3_divide_22 (by decide) 24 rfl ?_
        have he := spDiv_bad (P := P) (Sc := Sc) (m := m) (reg := rof cs) (r := r) (a := a) (v := v) (k := k) (fun e => bzd_z h19 (by omega))
        exact hret _ _ _ (fw, ff, ng, go, cs) dX3_divide_24 rfl ⟨by rw [he], by rw [he]⟩
set_option maxHeartbeats 4000000 in
set_option maxRecDepth 100000 in
/-- negate -/
theorem c_X3_negate (E : TEn) (hE : EnvOk E) (hN : NestOk E) (h qam qrat qrm hw hsh ht qrow qfac : Nat) (cI cM : ClassId) (ad ro : Nat → Nat) (cs : Cs) (P Sc : Nat) (m : Int) (ng go : Bool) (fw : Nat → Int32) (r a : Int) (hr : r32 r) (ha : r32 a) (hR : RgOk (rof cs)) : Cti vwCl E yX3_negate wsX3_negate (rmn 3 86) [.ref h, .int (iI r), .int (iI a)] ([(h, .inr (3, [.int (iI ((P : Nat) : Int)), .int (iI ((Sc : Nat) : Int)), .int (iI m), .ref qam, .ref qrat, .ref qrm, .ref hw, .ref hsh, .ref ht])), (qam, .inl (cM, 8, .inr (.inr (.inr (.inr (fun i => some (ad i))))))), (hw, .inr (2, [.ref qrow, .ref qfac, .int (iI (bz ng)), .int (iI (bz go))])), (qrow, .inl (cI, 72, .inl fw))] ++ RB ad ro cI cs) [(cI, .int), (cM, .object "TwofoldAmounts$Amount")] (fun (z : Int) (u : (Nat → Int32) × Bool × Bool × Cs) => z = (spNeg (rof cs) r a).1 ∧ rof u.2.2.2 = (spNeg (rof cs) r a).2) (fun u => ([(h, .inr (3, [.int (iI ((P : Nat) : Int)), .int (iI ((Sc : Nat) : Int)), .int (iI m), .ref qam, .ref qrat, .ref qrm, .ref hw, .ref hsh, .ref ht])), (qam, .inl (cM, 8, .inr (.inr (.inr (.inr (fun i => some (ad i))))))), (hw, .inr (2, [.ref qrow, .ref qfac, .int (iI (bz u.2.1)), .int (iI (bz u.2.2.1))])), (qrow, .inl (cI, 72, .inl u.1))] ++ RB ad ro cI u.2.2.2)) := by
  refine enteri (by decide) (Nat.le_of_ble_eq_true rfl) ?_
  intro X O hK hin2 hret
  show TGo X ([(h, .inr (3, [.int (iI ((P : Nat) : Int)), .int (iI ((Sc : Nat) : Int)), .int (iI m), .ref qam, .ref qrat, .ref qrm, .ref hw, .ref hsh, .ref ht])), (qam, .inl (cM, 8, .inr (.inr (.inr (.inr (fun i => some (ad i))))))), (hw, .inr (2, [.ref qrow, .ref qfac, .int (iI (bz ng)), .int (iI (bz go))])), (qrow, .inl (cI, 72, .inl fw))] ++ RB ad ro cI cs) 0 0 0 [(0, .ref h), (1, .int (iI r)), (2, .int (iI a))] []
  refine go_iload_n O dX3_negate_0 rfl 1 rfl 1 rfl ?_
  refine go_calliST (rest := []) (wr := [(h, .inr (3, [.int (iI ((P : Nat) : Int)), .int (iI ((Sc : Nat) : Int)), .int (iI m), .ref qam, .ref qrat, .ref qrm, .ref hw, .ref hsh, .ref ht])), (qam, .inl (cM, 8, .inr (.inr (.inr (.inr (fun i => some (ad i))))))), (hw, .inr (2, [.ref qrow, .ref qfac, .int (iI (bz ng)), .int (iI (bz go))])), (qrow, .inl (cI, 72, .inl fw))]) (RB ad ro cI cs) O hK hE (c_X3_isRegister E hE r hr) mlX3_60 smX3_isRegister inX3 cdX3_isRegister 1 (by decide +kernel) ⟨Nat.le_of_ble_eq_true rfl, Nat.le_of_ble_eq_true rfl⟩ [] rfl [] rfl (by decide) [0, 1, 2, 3] rfl (by decide) (by decide) rfl rfl (Nat.le_of_ble_eq_true rfl) ⟨Nat.zero_le _, Nat.zero_le _⟩ dX3_negate_1 4 rfl (fun z u hu => ?_)
  subst hu
  show TGo X ([(h, .inr (3, [.int (iI ((P : Nat) : Int)), .int (iI ((Sc : Nat) : Int)), .int (iI m), .ref qam, .ref qrat, .ref qrm, .ref hw, .ref hsh, .ref ht])), (qam, .inl (cM, 8, .inr (.inr (.inr (.inr (fun i => some (ad i))))))), (hw, .inr (2, [.ref qrow, .ref qfac, .int (iI (bz ng)), .int (iI (bz go))])), (qrow, .inl (cI, 72, .inl fw))] ++ RB ad ro cI cs) 0 0 4 [(0, .ref h), (1, .int (iI r)), (2, .int (iI a))] [.int (iI (bz (decide (0 ≤ r ∧ r < 8))))]
  refine go_if_eq O dX3_negate_4 14 (by decide) 7 rfl (bz_r _) (fun h4 => ?_) (fun h4 => ?_)
  · refine go_bipush O dX3_negate_14 (by decide) 16 rfl ?_
    have he := spNeg_bad (reg := rof cs) (r := r) (a := a) (fun e => bzd_z h4 (by omega))
    exact hret _ _ _ (fw, ng, go, cs) dX3_negate_16 rfl ⟨by rw [he], by rw [he]⟩
  · refine go_iload_n O dX3_negate_7 rfl 2 rfl 8 rfl ?_
    refine go_calliST (rest := []) (wr := [(h, .inr (3, [.int (iI ((P : Nat) : Int)), .int (iI ((Sc : Nat) : Int)), .int (iI m), .ref qam, .ref qrat, .ref qrm, .ref hw, .ref hsh, .ref ht])), (qam, .inl (cM, 8, .inr (.inr (.inr (.inr (fun i => some (ad i))))))), (hw, .inr (2, [.ref qrow, .ref qfac, .int (iI (bz ng)), .int (iI (bz go))])), (qrow, .inl (cI, 72, .inl fw))]) (RB ad ro cI cs) O hK hE (c_X3_isRegister E hE a ha) mlX3_60 smX3_isRegister inX3 cdX3_isRegister 1 (by decide +kernel) ⟨Nat.le_of_ble_eq_true rfl, Nat.le_of_ble_eq_true rfl⟩ [] rfl [] rfl (by decide) [0, 1, 2, 3] rfl (by decide) (by decide) rfl rfl (Nat.le_of_ble_eq_true rfl) ⟨Nat.zero_le _, Nat.zero_le _⟩ dX3_negate_8 11 rfl (fun z u hu => ?_)
    subst hu
    show TGo X ([(h, .inr (3, [.int (iI ((P : Nat) : Int)), .int (iI ((Sc : Nat) : Int)), .int (iI m), .ref qam, .ref qrat, .ref qrm, .ref hw, .ref hsh, .ref ht])), (qam, .inl (cM, 8, .inr (.inr (.inr (.inr (fun i => some (ad i))))))), (hw, .inr (2, [.ref qrow, .ref qfac, .int (iI (bz ng)), .int (iI (bz go))])), (qrow, .inl (cI, 72, .inl fw))] ++ RB ad ro cI cs) 0 0 11 [(0, .ref h), (1, .int (iI r)), (2, .int (iI a))] [.int (iI (bz (decide (0 ≤ a ∧ a < 8))))]
    refine go_if_ne O dX3_negate_11 17 (by decide) 14 rfl (bz_r _) (fun h11 => ?_) (fun h11 => ?_)
    · have q1 := bzd_ne h4
      have q2 := bzd_ne h11
      obtain ⟨ρ, rfl⟩ : ∃ ρ : Nat, r = (ρ : Int) := ⟨r.toNat, by omega⟩
      obtain ⟨α, rfl⟩ : ∃ α : Nat, a = (α : Int) := ⟨a.toNat, by omega⟩
      have hb3 : ρ < 8 ∧ α < 8 := by omega
      rcases hcs : cs α with ⟨_ | _, w0, n0, c0, V0⟩
      · have hq := rof_n hcs
        refine go_aload_n O dX3_negate_17 rfl 0 rfl 18 rfl ?_
        refine go_get O hK dX3_negate_18 hinX3 0 rfl rfl 3 (by decide) flX3_30 rfl 21 rfl ?_
        refine go_iload_n O dX3_negate_21 rfl 2 rfl 22 rfl ?_
        refine go_aald O hK dX3_negate_22 1 1 rfl rfl α rfl (by omega) (by omega) (ad α) rfl 23 rfl ?_
        refine TGo.outC [(h, .inr (3, [.int (iI ((P : Nat) : Int)), .int (iI ((Sc : Nat) : Int)), .int (iI m), .ref qam, .ref qrat, .ref qrm, .ref hw, .ref hsh, .ref ht])), (qam, .inl (cM, 8, .inr (.inr (.inr (.inr (fun i => some (ad i))))))), (hw, .inr (2, [.ref qrow, .ref qfac, .int (iI (bz ng)), .int (iI (bz go))])), (qrow, .inl (cI, 72, .inl fw))] α (by omega) hcs ?_
        show TGo X ([(h, .inr (3, [.int (iI ((P : Nat) : Int)), .int (iI ((Sc : Nat) : Int)), .int (iI m), .ref qam, .ref qrat, .ref qrm, .ref hw, .ref hsh, .ref ht])), (qam, .inl (cM, 8, .inr (.inr (.inr (.inr (fun i => some (ad i))))))), (hw, .inr (2, [.ref qrow, .ref qfac, .int (iI (bz ng)), .int (iI (bz go))])), (qrow, .inl (cI, 72, .inl fw)), ((ad α), .inr (0, [.ref (ro α), .int (iI 0), .int (iI (bz w0)), .int (iI (bz n0)), .int (iI c0)])), ((ro α), .inl (cI, 36, .inl (dg V0)))] ++ RR1 ad ro cI cs α) 0 0 23 [(0, .ref h), (1, .int (iI ((ρ : Nat) : Int))), (2, .int (iI ((α : Nat) : Int)))] [.ref (ad α)]
        refine go_astore_n O dX3_negate_23 rfl (by decide) [(3, .ref (ad α)), (0, .ref h), (1, .int (iI ((ρ : Nat) : Int))), (2, .int (iI ((α : Nat) : Int)))] rfl 24 rfl ?_
        refine go_aload_n O dX3_negate_24 rfl 0 rfl 25 rfl ?_
        refine go_get O hK dX3_negate_25 hinX0 4 rfl rfl 1 (by decide) flX3_79 rfl 28 rfl ?_
        refine go_if_ne O dX3_negate_28 34 (by decide) 31 rfl (by omega) (fun h28 => by omega) (fun h28 => ?_)
        refine TGo.backC0 [(h, .inr (3, [.int (iI ((P : Nat) : Int)), .int (iI ((Sc : Nat) : Int)), .int (iI m), .ref qam, .ref qrat, .ref qrm, .ref hw, .ref hsh, .ref ht])), (qam, .inl (cM, 8, .inr (.inr (.inr (.inr (fun i => some (ad i))))))), (hw, .inr (2, [.ref qrow, .ref qfac, .int (iI (bz ng)), .int (iI (bz go))])), (qrow, .inl (cI, 72, .inl fw))] α (by omega) hcs ?_
        show TGo X ([(h, .inr (3, [.int (iI ((P : Nat) : Int)), .int (iI ((Sc : Nat) : Int)), .int (iI m), .ref qam, .ref qrat, .ref qrm, .ref hw, .ref hsh, .ref ht])), (qam, .inl (cM, 8, .inr (.inr (.inr (.inr (fun i => some (ad i))))))), (hw, .inr (2, [.ref qrow, .ref qfac, .int (iI (bz ng)), .int (iI (bz go))])), (qrow, .inl (cI, 72, .inl fw))] ++ RB ad ro cI cs) 0 0 31 [(3, .ref (ad α)), (0, .ref h), (1, .int (iI ((ρ : Nat) : Int))), (2, .int (iI ((α : Nat) : Int)))] []
        refine go_bipush O dX3_negate_31 (by decide) 33 rfl ?_
        have he := spNeg_no hb3 hq
        exact hret _ _ _ (fw, ng, go, cs) dX3_negate_33 rfl ⟨by rw [he], by rw [he]⟩
      · have hq := rof_s hcs
        obtain ⟨hc0, hV0, hz0⟩ := hR α (by omega) _ _ _ _ hq
        have b0 := bz_01 n0
        have b1 := bz_01 w0
        refine go_aload_n O dX3_negate_17 rfl 0 rfl 18 rfl ?_
        refine go_get O hK dX3_negate_18 hinX3 0 rfl rfl 3 (by decide) flX3_30 rfl 21 rfl ?_
        refine go_iload_n O dX3_negate_21 rfl 2 rfl 22 rfl ?_
        refine go_aald O hK dX3_negate_22 1 1 rfl rfl α rfl (by omega) (by omega) (ad α) rfl 23 rfl ?_
        refine TGo.outC [(h, .inr (3, [.int (iI ((P : Nat) : Int)), .int (iI ((Sc : Nat) : Int)), .int (iI m), .ref qam, .ref qrat, .ref qrm, .ref hw, .ref hsh, .ref ht])), (qam, .inl (cM, 8, .inr (.inr (.inr (.inr (fun i => some (ad i))))))), (hw, .inr (2, [.ref qrow, .ref qfac, .int (iI (bz ng)), .int (iI (bz go))])), (qrow, .inl (cI, 72, .inl fw))] α (by omega) hcs ?_
        show TGo X ([(h, .inr (3, [.int (iI ((P : Nat) : Int)), .int (iI ((Sc : Nat) : Int)), .int (iI m), .ref qam, .ref qrat, .ref qrm, .ref hw, .ref hsh, .ref ht])), (qam, .inl (cM, 8, .inr (.inr (.inr (.inr (fun i => some (ad i))))))), (hw, .inr (2, [.ref qrow, .ref qfac, .int (iI (bz ng)), .int (iI (bz go))])), (qrow, .inl (cI, 72, .inl fw)), ((ad α), .inr (0, [.ref (ro α), .int (iI 1), .int (iI (bz w0)), .int (iI (bz n0)), .int (iI c0)])), ((ro α), .inl (cI, 36, .inl (dg V0)))] ++ RR1 ad ro cI cs α) 0 0 23 [(0, .ref h), (1, .int (iI ((ρ : Nat) : Int))), (2, .int (iI ((α : Nat) : Int)))] [.ref (ad α)]
        refine go_astore_n O dX3_negate_23 rfl (by decide) [(3, .ref (ad α)), (0, .ref h), (1, .int (iI ((ρ : Nat) : Int))), (2, .int (iI ((α : Nat) : Int)))] rfl 24 rfl ?_
        refine go_aload_n O dX3_negate_24 rfl 0 rfl 25 rfl ?_
        refine go_get O hK dX3_negate_25 hinX0 4 rfl rfl 1 (by decide) flX3_79 rfl 28 rfl ?_
        refine go_if_ne O dX3_negate_28 34 (by decide) 31 rfl (by omega) (fun h28 => ?_) (fun h28 => by omega)
        refine go_aload_n O dX3_negate_34 rfl 1 rfl 35 rfl ?_
        refine go_get O hK dX3_negate_35 hinX3 0 rfl rfl 6 (by decide) flX3_46 rfl 38 rfl ?_
        refine go_aload_n O dX3_negate_38 rfl 0 rfl 39 rfl ?_
        refine go_get O hK dX3_negate_39 hinX0 4 rfl rfl 0 (by decide) flX3_83 rfl 42 rfl ?_
        refine go_bipush O dX3_negate_42 (by decide) 44 rfl ?_
        refine go_aload_n O dX3_negate_44 rfl 0 rfl 45 rfl ?_
        refine go_get O hK dX3_negate_45 hinX0 4 rfl rfl 3 (by decide) flX3_86 rfl 48 rfl ?_
        refine go_if_ne O dX3_negate_48 55 (by decide) 51 rfl (by omega) (fun h48 => ?_) (fun h48 => ?_)
        · refine go_iconst O dX3_negate_55 56 rfl ?_
          refine TGo.topi (y := bz (!n0)) (bnot_0 (by omega)) ?_
          refine go_callvVT (As := [.ref (ro α), .int (iI 10), .int (iI (bz (!n0)))]) (rest := []) (wr := [(h, .inr (3, [.int (iI ((P : Nat) : Int)), .int (iI ((Sc : Nat) : Int)), .int (iI m), .ref qam, .ref qrat, .ref qrm, .ref hw, .ref hsh, .ref ht])), (qam, .inl (cM, 8, .inr (.inr (.inr (.inr (fun i => some (ad i))))))), ((ad α), .inr (0, [.ref (ro α), .int (iI 1), .int (iI (bz w0)), .int (iI (bz n0)), .int (iI c0)]))]) (RR1 ad ro cI cs α) O hK hE (c_X2_load E hE hw qrow qfac cI ng go (ro α) 36 V0 10 fw (!n0) (by omega) hV0 (by omega)) mlX3_89 imX2_load seX2_load inX2 cdX2_load 3 (by decide +kernel) ⟨Nat.le_of_ble_eq_true rfl, Nat.le_of_ble_eq_true rfl⟩ 2 rfl rfl [0] rfl [2, 3, 5] rfl (by decide) [0, 1, 4] rfl (by decide) (by decide) rfl rfl (Nat.le_of_ble_eq_true rfl) ⟨Nat.zero_le _, Nat.zero_le _⟩ dX3_negate_56 59 rfl (fun u hu => ?_)
          show TGo X ([(h, .inr (3, [.int (iI ((P : Nat) : Int)), .int (iI ((Sc : Nat) : Int)), .int (iI m), .ref qam, .ref qrat, .ref qrm, .ref hw, .ref hsh, .ref ht])), (qam, .inl (cM, 8, .inr (.inr (.inr (.inr (fun i => some (ad i))))))), ((ad α), .inr (0, [.ref (ro α), .int (iI 1), .int (iI (bz w0)), .int (iI (bz n0)), .int (iI c0)])), (hw, .inr (2, [.ref qrow, .ref qfac, .int (iI (bz (!n0))), .int (iI 0)])), (qrow, .inl (cI, 72, .inl (dg (V0 * 10 ^ 10)))), ((ro α), .inl (cI, 36, .inl (dg V0)))] ++ RR1 ad ro cI cs α) 0 0 59 [(3, .ref (ad α)), (0, .ref h), (1, .int (iI ((ρ : Nat) : Int))), (2, .int (iI ((α : Nat) : Int)))] []
          refine TGo.subT (w' := [(h, .inr (3, [.int (iI ((P : Nat) : Int)), .int (iI ((Sc : Nat) : Int)), .int (iI m), .ref qam, .ref qrat, .ref qrm, .ref hw, .ref hsh, .ref ht])), (qam, .inl (cM, 8, .inr (.inr (.inr (.inr (fun i => some (ad i))))))), (hw, .inr (2, [.ref qrow, .ref qfac, .int (iI (bz (!n0))), .int (iI 0)])), (qrow, .inl (cI, 72, .inl (dg (V0 * 10 ^ 10)))), ((ad α), .inr (0, [.ref (ro α), .int (iI 1), .int (iI (bz w0)), .int (iI (bz n0)), .int (iI c0)])), ((ro α), .inl (cI, 36, .inl (dg V0)))]) (RR1 ad ro cI cs α) [0, 1, 3, 4, 2, 5] (by decide) rfl ?_
          refine go_aload_n O dX3_negate_59 rfl 1 rfl 60 rfl ?_
          refine go_iload_n O dX3_negate_60 rfl 2 rfl 61 rfl ?_
          refine go_aload_n O dX3_negate_61 rfl 0 rfl 62 rfl ?_
          refine go_get O hK dX3_negate_62 hinX0 4 rfl rfl 2 (by decide) flX3_97 rfl 65 rfl ?_
          refine go_aload_n O dX3_negate_65 rfl 0 rfl 66 rfl ?_
          refine go_get O hK dX3_negate_66 hinX0 4 rfl rfl 4 (by decide) flX3_100 rfl 69 rfl ?_
          refine TGo.backC0 [(h, .inr (3, [.int (iI ((P : Nat) : Int)), .int (iI ((Sc : Nat) : Int)), .int (iI m), .ref qam, .ref qrat, .ref qrm, .ref hw, .ref hsh, .ref ht])), (qam, .inl (cM, 8, .inr (.inr (.inr (.inr (fun i => some (ad i))))))), (hw, .inr (2, [.ref qrow, .ref qfac, .int (iI (bz (!n0))), .int (iI 0)])), (qrow, .inl (cI, 72, .inl (dg (V0 * 10 ^ 10))))] α (by omega) hcs ?_
          show TGo X ([(h, .inr (3, [.int (iI ((P : Nat) : Int)), .int (iI ((Sc : Nat) : Int)), .int (iI m), .ref qam, .ref qrat, .ref qrm, .ref hw, .ref hsh, .ref ht])), (qam, .inl (cM, 8, .inr (.inr (.inr (.inr (fun i => some (ad i))))))), (hw, .inr (2, [.ref qrow, .ref qfac, .int (iI (bz (!n0))), .int (iI 0)])), (qrow, .inl (cI, 72, .inl (dg (V0 * 10 ^ 10))))] ++ RB ad ro cI cs) 0 0 69 [(3, .ref (ad α)), (0, .ref h), (1, .int (iI ((ρ : Nat) : Int))), (2, .int (iI ((α : Nat) : Int)))] [.int (iI c0), .int (iI (bz w0)), .int (iI ((ρ : Nat) : Int)), .ref h]
          refine go_calliVU (As := [.int (iI ((ρ : Nat) : Int)), .int (iI (bz w0)), .int (iI c0)]) (rest := []) (wr := []) (RB ad ro cI cs) O hK hE (c_X3_store E hE hN h qam qrat qrm hw hsh ht qrow qfac cI cM ad ro cs P Sc m (!n0) false w0 ρ (V0 * 10 ^ 10) c0 (by omega) (Nat.lt_of_lt_of_le (mul_bd2 (κ := 0) (v := 0) hV0 (by omega)).1 (p10le (by omega)))) mlX3_107 imX3_store seX3_store inX3 cdX3_store 3 (by decide +kernel) ⟨Nat.le_of_ble_eq_true rfl, Nat.le_of_ble_eq_true rfl⟩ 0 rfl rfl [0, 1] rfl [0, 1, 2, 3] rfl (by decide) [] rfl (by decide) (by decide) rfl rfl (Nat.le_of_ble_eq_true rfl) ⟨Nat.zero_le _, Nat.zero_le _⟩ dX3_negate_69 72 rfl (fun z u hu => ?_)
          obtain ⟨cs2, rfl⟩ : ∃ y, y = u := ⟨_, rfl⟩
          obtain ⟨rfl, hcs2⟩ := hu
          show TGo X ([(h, .inr (3, [.int (iI ((P : Nat) : Int)), .int (iI ((Sc : Nat) : Int)), .int (iI m), .ref qam, .ref qrat, .ref qrm, .ref hw, .ref hsh, .ref ht])), (qam, .inl (cM, 8, .inr (.inr (.inr (.inr (fun i => some (ad i))))))), (hw, .inr (2, [.ref qrow, .ref qfac, .int (iI (bz (!n0))), .int (iI 0)])), (qrow, .inl (cI, 72, .inl (dg (V0 * 10 ^ 10))))] ++ RB ad ro cI cs2) 0 0 72 [(3, .ref (ad α)), (0, .ref h), (1, .int (iI ((ρ : Nat) : Int))), (2, .int (iI ((α : Nat) : Int)))] [.int (iI (ansO (tsto w0 (!n0) (V0 * 10 ^ 10) false)))]
          have he := spNeg_ok hb3 hq
          rw [← tsto_fit] at he
          exact hret _ _ _ (dg (V0 * 10 ^ 10), !n0, false, cs2) dX3_negate_72 rfl ⟨by rw [he], by rw [he]; exact hcs2⟩
        · refine go_iconst O dX3_negate_51 52 rfl ?_
          refine go_goto O dX3_negate_52 56 (by decide) ?_
          refine TGo.topi (y := bz (!n0)) (bnot_1 (by omega)) ?_
          refine go_callvVT (As := [.ref (ro α), .int (iI 10), .int (iI (bz (!n0)))]) (rest := []) (wr := [(h, .inr (3, [.int (iI ((P : Nat) : Int)), .int (iI ((Sc : Nat) : Int)), .int (iI m), .ref qam, .ref qrat, .ref qrm, .ref hw, .ref hsh, .ref ht])), (qam, .inl (cM, 8, .inr (.inr (.inr (.inr (fun i => some (ad i))))))), ((ad α), .inr (0, [.ref (ro α), .int (iI 1), .int (iI (bz w0)), .int (iI (bz n0)), .int (iI c0)]))]) (RR1 ad ro cI cs α) O hK hE (c_X2_load E hE hw qrow qfac cI ng go (ro α) 36 V0 10 fw (!n0) (by omega) hV0 (by omega)) mlX3_89 imX2_load seX2_load inX2 cdX2_load 3 (by decide +kernel) ⟨Nat.le_of_ble_eq_true rfl, Nat.le_of_ble_eq_true rfl⟩ 2 rfl rfl [0] rfl [2, 3, 5] rfl (by decide) [0, 1, 4] rfl (by decide) (by decide) rfl rfl (Nat.le_of_ble_eq_true rfl) ⟨Nat.zero_le _, Nat.zero_le _⟩ dX3_negate_56 59 rfl (fun u hu => ?_)
          show TGo X ([(h, .inr (3, [.int (iI ((P : Nat) : Int)), .int (iI ((Sc : Nat) : Int)), .int (iI m), .ref qam, .ref qrat, .ref qrm, .ref hw, .ref hsh, .ref ht])), (qam, .inl (cM, 8, .inr (.inr (.inr (.inr (fun i => some (ad i))))))), ((ad α), .inr (0, [.ref (ro α), .int (iI 1), .int (iI (bz w0)), .int (iI (bz n0)), .int (iI c0)])), (hw, .inr (2, [.ref qrow, .ref qfac, .int (iI (bz (!n0))), .int (iI 0)])), (qrow, .inl (cI, 72, .inl (dg (V0 * 10 ^ 10)))), ((ro α), .inl (cI, 36, .inl (dg V0)))] ++ RR1 ad ro cI cs α) 0 0 59 [(3, .ref (ad α)), (0, .ref h), (1, .int (iI ((ρ : Nat) : Int))), (2, .int (iI ((α : Nat) : Int)))] []
          refine TGo.subT (w' := [(h, .inr (3, [.int (iI ((P : Nat) : Int)), .int (iI ((Sc : Nat) : Int)), .int (iI m), .ref qam, .ref qrat, .ref qrm, .ref hw, .ref hsh, .ref ht])), (qam, .inl (cM, 8, .inr (.inr (.inr (.inr (fun i => some (ad i))))))), (hw, .inr (2, [.ref qrow, .ref qfac, .int (iI (bz (!n0))), .int (iI 0)])), (qrow, .inl (cI, 72, .inl (dg (V0 * 10 ^ 10)))), ((ad α), .inr (0, [.ref (ro α), .int (iI 1), .int (iI (bz w0)), .int (iI (bz n0)), .int (iI c0)])), ((ro α), .inl (cI, 36, .inl (dg V0)))]) (RR1 ad ro cI cs α) [0, 1, 3, 4, 2, 5] (by decide) rfl ?_
          refine go_aload_n O dX3_negate_59 rfl 1 rfl 60 rfl ?_
          refine go_iload_n O dX3_negate_60 rfl 2 rfl 61 rfl ?_
          refine go_aload_n O dX3_negate_61 rfl 0 rfl 62 rfl ?_
          refine go_get O hK dX3_negate_62 hinX0 4 rfl rfl 2 (by decide) flX3_97 rfl 65 rfl ?_
          refine go_aload_n O dX3_negate_65 rfl 0 rfl 66 rfl ?_
          refine go_get O hK dX3_negate_66 hinX0 4 rfl rfl 4 (by decide) flX3_100 rfl 69 rfl ?_
          refine TGo.backC0 [(h, .inr (3, [.int (iI ((P : Nat) : Int)), .int (iI ((Sc : Nat) : Int)), .int (iI m), .ref qam, .ref qrat, .ref qrm, .ref hw, .ref hsh, .ref ht])), (qam, .inl (cM, 8, .inr (.inr (.inr (.inr (fun i => some (ad i))))))), (hw, .inr (2, [.ref qrow, .ref qfac, .int (iI (bz (!n0))), .int (iI 0)])), (qrow, .inl (cI, 72, .inl (dg (V0 * 10 ^ 10))))] α (by omega) hcs ?_
          show TGo X ([(h, .inr (3, [.int (iI ((P : Nat) : Int)), .int (iI ((Sc : Nat) : Int)), .int (iI m), .ref qam, .ref qrat, .ref qrm, .ref hw, .ref hsh, .ref ht])), (qam, .inl (cM, 8, .inr (.inr (.inr (.inr (fun i => some (ad i))))))), (hw, .inr (2, [.ref qrow, .ref qfac, .int (iI (bz (!n0))), .int (iI 0)])), (qrow, .inl (cI, 72, .inl (dg (V0 * 10 ^ 10))))] ++ RB ad ro cI cs) 0 0 69 [(3, .ref (ad α)), (0, .ref h), (1, .int (iI ((ρ : Nat) : Int))), (2, .int (iI ((α : Nat) : Int)))] [.int (iI c0), .int (iI (bz w0)), .int (iI ((ρ : Nat) : Int)), .ref h]
          refine go_calliVU (As := [.int (iI ((ρ : Nat) : Int)), .int (iI (bz w0)), .int (iI c0)]) (rest := []) (wr := []) (RB ad ro cI cs) O hK hE (c_X3_store E hE hN h qam qrat qrm hw hsh ht qrow qfac cI cM ad ro cs P Sc m (!n0) false w0 ρ (V0 * 10 ^ 10) c0 (by omega) (Nat.lt_of_lt_of_le (mul_bd2 (κ := 0) (v := 0) hV0 (by omega)).1 (p10le (by omega)))) mlX3_107 imX3_store seX3_store inX3 cdX3_store 3 (by decide +kernel) ⟨Nat.le_of_ble_eq_true rfl, Nat.le_of_ble_eq_true rfl⟩ 0 rfl rfl [0, 1] rfl [0, 1, 2, 3] rfl (by decide) [] rfl (by decide) (by decide) rfl rfl (Nat.le_of_ble_eq_true rfl) ⟨Nat.zero_le _, Nat.zero_le _⟩ dX3_negate_69 72 rfl (fun z u hu => ?_)
          obtain ⟨cs2, rfl⟩ : ∃ y, y = u := ⟨_, rfl⟩
          obtain ⟨rfl, hcs2⟩ := hu
          show TGo X ([(h, .inr (3, [.int (iI ((P : Nat) : Int)), .int (iI ((Sc : Nat) : Int)), .int (iI m), .ref qam, .ref qrat, .ref qrm, .ref hw, .ref hsh, .ref ht])), (qam, .inl (cM, 8, .inr (.inr (.inr (.inr (fun i => some (ad i))))))), (hw, .inr (2, [.ref qrow, .ref qfac, .int (iI (bz (!n0))), .int (iI 0)])), (qrow, .inl (cI, 72, .inl (dg (V0 * 10 ^ 10))))] ++ RB ad ro cI cs2) 0 0 72 [(3, .ref (ad α)), (0, .ref h), (1, .int (iI ((ρ : Nat) : Int))), (2, .int (iI ((α : Nat) : Int)))] [.int (iI (ansO (tsto w0 (!n0) (V0 * 10 ^ 10) false)))]
          have he := spNeg_ok hb3 hq
          rw [← tsto_fit] at he
          exact hret _ _ _ (dg (V0 * 10 ^ 10), !n0, false, cs2) dX3_negate_72 rfl ⟨by rw [he], by rw [he]; exact hcs2⟩
    · refine go_bipush O dX3_negate_14 (by decide) 16 rfl ?_
      have he := spNeg_bad (reg := rof cs) (r := r) (a := a) (fun e => bzd_z h11 (by omega))
      exact hret _ _ _ (fw, ng, go, cs) dX3_negate_16 rfl ⟨by rw [he], by rw [he]⟩
set_option maxHeartbeats 4000000 in
set_option maxRecDepth 100000 in
/-- kind -/
theorem c_X3_kind (E : TEn) (hE : EnvOk E) (h qam qrat qrm hw hsh ht qrow qfac : Nat) (cI cM : ClassId) (ad ro : Nat → Nat) (cs : Cs) (P Sc : Nat) (m : Int) (a : Int) (ha : r32 a) (hR : RgOk (rof cs)) : Cti vwCl E yX3_kind wsX3_kind (rmn 1 20) [.ref h, .int (iI a)] ([(h, .inr (3, [.int (iI ((P : Nat) : Int)), .int (iI ((Sc : Nat) : Int)), .int (iI m), .ref qam, .ref qrat, .ref qrm, .ref hw, .ref hsh, .ref ht])), (qam, .inl (cM, 8, .inr (.inr (.inr (.inr (fun i => some (ad i)))))))] ++ RB ad ro cI cs) [(cI, .int), (cM, .object "TwofoldAmounts$Amount")] (fun (z : Int) (_ : Unit) => z = spKind (rof cs) a) (fun _ => ([(h, .inr (3, [.int (iI ((P : Nat) : Int)), .int (iI ((Sc : Nat) : Int)), .int (iI m), .ref qam, .ref qrat, .ref qrm, .ref hw, .ref hsh, .ref ht])), (qam, .inl (cM, 8, .inr (.inr (.inr (.inr (fun i => some (ad i)))))))] ++ RB ad ro cI cs)) := by
  refine enteri (by decide) (Nat.le_of_ble_eq_true rfl) ?_
  intro X O hK hin2 hret
  show TGo X ([(h, .inr (3, [.int (iI ((P : Nat) : Int)), .int (iI ((Sc : Nat) : Int)), .int (iI m), .ref qam, .ref qrat, .ref qrm, .ref hw, .ref hsh, .ref ht])), (qam, .inl (cM, 8, .inr (.inr (.inr (.inr (fun i => some (ad i)))))))] ++ RB ad ro cI cs) 0 0 0 [(0, .ref h), (1, .int (iI a))] []
  refine go_iload_n O dX3_kind_0 rfl 1 rfl 1 rfl ?_
  refine go_calliST (rest := []) (wr := [(h, .inr (3, [.int (iI ((P : Nat) : Int)), .int (iI ((Sc : Nat) : Int)), .int (iI m), .ref qam, .ref qrat, .ref qrm, .ref hw, .ref hsh, .ref ht])), (qam, .inl (cM, 8, .inr (.inr (.inr (.inr (fun i => some (ad i)))))))]) (RB ad ro cI cs) O hK hE (c_X3_isRegister E hE a ha) mlX3_60 smX3_isRegister inX3 cdX3_isRegister 1 (by decide +kernel) ⟨Nat.le_of_ble_eq_true rfl, Nat.le_of_ble_eq_true rfl⟩ [] rfl [] rfl (by decide) [0, 1] rfl (by decide) (by decide) rfl rfl (Nat.le_of_ble_eq_true rfl) ⟨Nat.zero_le _, Nat.zero_le _⟩ dX3_kind_1 4 rfl (fun z u hu => ?_)
  subst hu
  show TGo X ([(h, .inr (3, [.int (iI ((P : Nat) : Int)), .int (iI ((Sc : Nat) : Int)), .int (iI m), .ref qam, .ref qrat, .ref qrm, .ref hw, .ref hsh, .ref ht])), (qam, .inl (cM, 8, .inr (.inr (.inr (.inr (fun i => some (ad i)))))))] ++ RB ad ro cI cs) 0 0 4 [(0, .ref h), (1, .int (iI a))] [.int (iI (bz (decide (0 ≤ a ∧ a < 8))))]
  refine go_if_ne O dX3_kind_4 10 (by decide) 7 rfl (bz_r _) (fun h4 => ?_) (fun h4 => ?_)
  · have q1 := bzd_ne h4
    obtain ⟨α, rfl⟩ : ∃ α : Nat, a = (α : Int) := ⟨a.toNat, by omega⟩
    have hα8 : α < 8 := by omega
    rcases hcs : cs α with ⟨_ | _, w0, n0, c0, V0⟩
    · have hq := rof_n hcs
      refine go_aload_n O dX3_kind_10 rfl 0 rfl 11 rfl ?_
      refine go_get O hK dX3_kind_11 hinX3 0 rfl rfl 3 (by decide) flX3_30 rfl 14 rfl ?_
      refine go_iload_n O dX3_kind_14 rfl 1 rfl 15 rfl ?_
      refine go_aald O hK dX3_kind_15 1 1 rfl rfl α rfl (by omega) (by omega) (ad α) rfl 16 rfl ?_
      refine TGo.outC [(h, .inr (3, [.int (iI ((P : Nat) : Int)), .int (iI ((Sc : Nat) : Int)), .int (iI m), .ref qam, .ref qrat, .ref qrm, .ref hw, .ref hsh, .ref ht])), (qam, .inl (cM, 8, .inr (.inr (.inr (.inr (fun i => some (ad i)))))))] α (by omega) hcs ?_
      show TGo X ([(h, .inr (3, [.int (iI ((P : Nat) : Int)), .int (iI ((Sc : Nat) : Int)), .int (iI m), .ref qam, .ref qrat, .ref qrm, .ref hw, .ref hsh, .ref ht])), (qam, .inl (cM, 8, .inr (.inr (.inr (.inr (fun i => some (ad i))))))), ((ad α), .inr (0, [.ref (ro α), .int (iI 0), .int (iI (bz w0)), .int (iI (bz n0)), .int (iI c0)])), ((ro α), .inl (cI, 36, .inl (dg V0)))] ++ RR1 ad ro cI cs α) 0 0 16 [(0, .ref h), (1, .int (iI ((α : Nat) : Int)))] [.ref (ad α)]
      refine go_astore_n O dX3_kind_16 rfl (by decide) [(2, .ref (ad α)), (0, .ref h), (1, .int (iI ((α : Nat) : Int)))] rfl 17 rfl ?_
      refine go_aload_n O dX3_kind_17 rfl 0 rfl 18 rfl ?_
      refine go_get O hK dX3_kind_18 hinX0 2 rfl rfl 1 (by decide) flX3_79 rfl 21 rfl ?_
      refine go_if_ne O dX3_kind_21 27 (by decide) 24 rfl (by omega) (fun h21 => by omega) (fun h21 => ?_)
      refine TGo.backC0 [(h, .inr (3, [.int (iI ((P : Nat) : Int)), .int (iI ((Sc : Nat) : Int)), .int (iI m), .ref qam, .ref qrat, .ref qrm, .ref hw, .ref hsh, .ref ht])), (qam, .inl (cM, 8, .inr (.inr (.inr (.inr (fun i => some (ad i)))))))] α (by omega) hcs ?_
      show TGo X ([(h, .inr (3, [.int (iI ((P : Nat) : Int)), .int (iI ((Sc : Nat) : Int)), .int (iI m), .ref qam, .ref qrat, .ref qrm, .ref hw, .ref hsh, .ref ht])), (qam, .inl (cM, 8, .inr (.inr (.inr (.inr (fun i => some (ad i)))))))] ++ RB ad ro cI cs) 0 0 24 [(2, .ref (ad α)), (0, .ref h), (1, .int (iI ((α : Nat) : Int)))] []
      refine go_bipush O dX3_kind_24 (by decide) 26 rfl ?_
      exact hret _ _ _ () dX3_kind_26 rfl (spKind_n hα8 hq)
    · have hq := rof_s hcs
      obtain ⟨hc0, hV0, hz0⟩ := hR α (by omega) _ _ _ _ hq
      have b0 := bz_01 n0
      have b1 := bz_01 w0
      refine go_aload_n O dX3_kind_10 rfl 0 rfl 11 rfl ?_
      refine go_get O hK dX3_kind_11 hinX3 0 rfl rfl 3 (by decide) flX3_30 rfl 14 rfl ?_
      refine go_iload_n O dX3_kind_14 rfl 1 rfl 15 rfl ?_
      refine go_aald O hK dX3_kind_15 1 1 rfl rfl α rfl (by omega) (by omega) (ad α) rfl 16 rfl ?_
      refine TGo.outC [(h, .inr (3, [.int (iI ((P : Nat) : Int)), .int (iI ((Sc : Nat) : Int)), .int (iI m), .ref qam, .ref qrat, .ref qrm, .ref hw, .ref hsh, .ref ht])), (qam, .inl (cM, 8, .inr (.inr (.inr (.inr (fun i => some (ad i)))))))] α (by omega) hcs ?_
      show TGo X ([(h, .inr (3, [.int (iI ((P : Nat) : Int)), .int (iI ((Sc : Nat) : Int)), .int (iI m), .ref qam, .ref qrat, .ref qrm, .ref hw, .ref hsh, .ref ht])), (qam, .inl (cM, 8, .inr (.inr (.inr (.inr (fun i => some (ad i))))))), ((ad α), .inr (0, [.ref (ro α), .int (iI 1), .int (iI (bz w0)), .int (iI (bz n0)), .int (iI c0)])), ((ro α), .inl (cI, 36, .inl (dg V0)))] ++ RR1 ad ro cI cs α) 0 0 16 [(0, .ref h), (1, .int (iI ((α : Nat) : Int)))] [.ref (ad α)]
      refine go_astore_n O dX3_kind_16 rfl (by decide) [(2, .ref (ad α)), (0, .ref h), (1, .int (iI ((α : Nat) : Int)))] rfl 17 rfl ?_
      refine go_aload_n O dX3_kind_17 rfl 0 rfl 18 rfl ?_
      refine go_get O hK dX3_kind_18 hinX0 2 rfl rfl 1 (by decide) flX3_79 rfl 21 rfl ?_
      refine go_if_ne O dX3_kind_21 27 (by decide) 24 rfl (by omega) (fun h21 => ?_) (fun h21 => by omega)
      refine go_aload_n O dX3_kind_27 rfl 0 rfl 28 rfl ?_
      refine go_get O hK dX3_kind_28 hinX0 2 rfl rfl 4 (by decide) flX3_100 rfl 31 rfl ?_
      refine go_aload_n O dX3_kind_31 rfl 0 rfl 32 rfl ?_
      refine go_get O hK dX3_kind_32 hinX0 2 rfl rfl 2 (by decide) flX3_97 rfl 35 rfl ?_
      refine go_if_eq O dX3_kind_35 43 (by decide) 38 rfl (by omega) (fun h35 => ?_) (fun h35 => ?_)
      · refine go_iconst O dX3_kind_43 44 rfl ?_
        refine go_iadd O dX3_kind_44 (c0 + 0) rfl 45 rfl ?_
        refine TGo.backC0 [(h, .inr (3, [.int (iI ((P : Nat) : Int)), .int (iI ((Sc : Nat) : Int)), .int (iI m), .ref qam, .ref qrat, .ref qrm, .ref hw, .ref hsh, .ref ht])), (qam, .inl (cM, 8, .inr (.inr (.inr (.inr (fun i => some (ad i)))))))] α (by omega) hcs ?_
        show TGo X ([(h, .inr (3, [.int (iI ((P : Nat) : Int)), .int (iI ((Sc : Nat) : Int)), .int (iI m), .ref qam, .ref qrat, .ref qrm, .ref hw, .ref hsh, .ref ht])), (qam, .inl (cM, 8, .inr (.inr (.inr (.inr (fun i => some (ad i)))))))] ++ RB ad ro cI cs) 0 0 45 [(2, .ref (ad α)), (0, .ref h), (1, .int (iI ((α : Nat) : Int)))] [.int (iI (c0 + 0))]
        exact hret _ _ _ () dX3_kind_45 rfl (by rw [spKind_s hα8 hq]; omega)
      · refine go_bipush O dX3_kind_38 (by decide) 40 rfl ?_
        refine go_goto O dX3_kind_40 44 (by decide) ?_
        refine go_iadd O dX3_kind_44 (c0 + 8) rfl 45 rfl ?_
        refine TGo.backC0 [(h, .inr (3, [.int (iI ((P : Nat) : Int)), .int (iI ((Sc : Nat) : Int)), .int (iI m), .ref qam, .ref qrat, .ref qrm, .ref hw, .ref hsh, .ref ht])), (qam, .inl (cM, 8, .inr (.inr (.inr (.inr (fun i => some (ad i)))))))] α (by omega) hcs ?_
        show TGo X ([(h, .inr (3, [.int (iI ((P : Nat) : Int)), .int (iI ((Sc : Nat) : Int)), .int (iI m), .ref qam, .ref qrat, .ref qrm, .ref hw, .ref hsh, .ref ht])), (qam, .inl (cM, 8, .inr (.inr (.inr (.inr (fun i => some (ad i)))))))] ++ RB ad ro cI cs) 0 0 45 [(2, .ref (ad α)), (0, .ref h), (1, .int (iI ((α : Nat) : Int)))] [.int (iI (c0 + 8))]
        exact hret _ _ _ () dX3_kind_45 rfl (by rw [spKind_s hα8 hq]; omega)
  · refine go_bipush O dX3_kind_7 (by decide) 9 rfl ?_
    exact hret _ _ _ () dX3_kind_9 rfl (spKind_b (bzd_z h4))
set_option maxHeartbeats 4000000 in
set_option maxRecDepth 100000 in
/-- sign -/
theorem c_X3_sign (E : TEn) (hE : EnvOk E) (h qam qrat qrm hw hsh ht qrow qfac : Nat) (cI cM : ClassId) (ad ro : Nat → Nat) (cs : Cs) (P Sc : Nat) (m : Int) (a : Int) (ha : r32 a) (hR : RgOk (rof cs)) : Cti vwCl E yX3_sign wsX3_sign (rmn 1 23) [.ref h, .int (iI a)] ([(h, .inr (3, [.int (iI ((P : Nat) : Int)), .int (iI ((Sc : Nat) : Int)), .int (iI m), .ref qam, .ref qrat, .ref qrm, .ref hw, .ref hsh, .ref ht])), (qam, .inl (cM, 8, .inr (.inr (.inr (.inr (fun i => some (ad i)))))))] ++ RB ad ro cI cs) [(cI, .int), (cM, .object "TwofoldAmounts$Amount")] (fun (z : Int) (_ : Unit) => z = spSign (rof cs) a) (fun _ => ([(h, .inr (3, [.int (iI ((P : Nat) : Int)), .int (iI ((Sc : Nat) : Int)), .int (iI m), .ref qam, .ref qrat, .ref qrm, .ref hw, .ref hsh, .ref ht])), (qam, .inl (cM, 8, .inr (.inr (.inr (.inr (fun i => some (ad i)))))))] ++ RB ad ro cI cs)) := by
  refine enteri (by decide) (Nat.le_of_ble_eq_true rfl) ?_
  intro X O hK hin2 hret
  show TGo X ([(h, .inr (3, [.int (iI ((P : Nat) : Int)), .int (iI ((Sc : Nat) : Int)), .int (iI m), .ref qam, .ref qrat, .ref qrm, .ref hw, .ref hsh, .ref ht])), (qam, .inl (cM, 8, .inr (.inr (.inr (.inr (fun i => some (ad i)))))))] ++ RB ad ro cI cs) 0 0 0 [(0, .ref h), (1, .int (iI a))] []
  refine go_iload_n O dX3_sign_0 rfl 1 rfl 1 rfl ?_
  refine go_calliST (rest := []) (wr := [(h, .inr (3, [.int (iI ((P : Nat) : Int)), .int (iI ((Sc : Nat) : Int)), .int (iI m), .ref qam, .ref qrat, .ref qrm, .ref hw, .ref hsh, .ref ht])), (qam, .inl (cM, 8, .inr (.inr (.inr (.inr (fun i => some (ad i)))))))]) (RB ad ro cI cs) O hK hE (c_X3_isRegister E hE a ha) mlX3_60 smX3_isRegister inX3 cdX3_isRegister 1 (by decide +kernel) ⟨Nat.le_of_ble_eq_true rfl, Nat.le_of_ble_eq_true rfl⟩ [] rfl [] rfl (by decide) [0, 1] rfl (by decide) (by decide) rfl rfl (Nat.le_of_ble_eq_true rfl) ⟨Nat.zero_le _, Nat.zero_le _⟩ dX3_sign_1 4 rfl (fun z u hu => ?_)
  subst hu
  show TGo X ([(h, .inr (3, [.int (iI ((P : Nat) : Int)), .int (iI ((Sc : Nat) : Int)), .int (iI m), .ref qam, .ref qrat, .ref qrm, .ref hw, .ref hsh, .ref ht])), (qam, .inl (cM, 8, .inr (.inr (.inr (.inr (fun i => some (ad i)))))))] ++ RB ad ro cI cs) 0 0 4 [(0, .ref h), (1, .int (iI a))] [.int (iI (bz (decide (0 ≤ a ∧ a < 8))))]
  refine go_if_ne O dX3_sign_4 10 (by decide) 7 rfl (bz_r _) (fun h4 => ?_) (fun h4 => ?_)
  · have q1 := bzd_ne h4
    obtain ⟨α, rfl⟩ : ∃ α : Nat, a = (α : Int) := ⟨a.toNat, by omega⟩
    have hα8 : α < 8 := by omega
    rcases hcs : cs α with ⟨_ | _, w0, n0, c0, V0⟩
    · have hq := rof_n hcs
      refine go_aload_n O dX3_sign_10 rfl 0 rfl 11 rfl ?_
      refine go_get O hK dX3_sign_11 hinX3 0 rfl rfl 3 (by decide) flX3_30 rfl 14 rfl ?_
      refine go_iload_n O dX3_sign_14 rfl 1 rfl 15 rfl ?_
      refine go_aald O hK dX3_sign_15 1 1 rfl rfl α rfl (by omega) (by omega) (ad α) rfl 16 rfl ?_
      refine TGo.outC [(h, .inr (3, [.int (iI ((P : Nat) : Int)), .int (iI ((Sc : Nat) : Int)), .int (iI m), .ref qam, .ref qrat, .ref qrm, .ref hw, .ref hsh, .ref ht])), (qam, .inl (cM, 8, .inr (.inr (.inr (.inr (fun i => some (ad i)))))))] α (by omega) hcs ?_
      show TGo X ([(h, .inr (3, [.int (iI ((P : Nat) : Int)), .int (iI ((Sc : Nat) : Int)), .int (iI m), .ref qam, .ref qrat, .ref qrm, .ref hw, .ref hsh, .ref ht])), (qam, .inl (cM, 8, .inr (.inr (.inr (.inr (fun i => some (ad i))))))), ((ad α), .inr (0, [.ref (ro α), .int (iI 0), .int (iI (bz w0)), .int (iI (bz n0)), .int (iI c0)])), ((ro α), .inl (cI, 36, .inl (dg V0)))] ++ RR1 ad ro cI cs α) 0 0 16 [(0, .ref h), (1, .int (iI ((α : Nat) : Int)))] [.ref (ad α)]
      refine go_astore_n O dX3_sign_16 rfl (by decide) [(2, .ref (ad α)), (0, .ref h), (1, .int (iI ((α : Nat) : Int)))] rfl 17 rfl ?_
      refine go_aload_n O dX3_sign_17 rfl 0 rfl 18 rfl ?_
      refine go_get O hK dX3_sign_18 hinX0 2 rfl rfl 1 (by decide) flX3_79 rfl 21 rfl ?_
      refine go_if_ne O dX3_sign_21 27 (by decide) 24 rfl (by omega) (fun h21 => by omega) (fun h21 => ?_)
      refine TGo.backC0 [(h, .inr (3, [.int (iI ((P : Nat) : Int)), .int (iI ((Sc : Nat) : Int)), .int (iI m), .ref qam, .ref qrat, .ref qrm, .ref hw, .ref hsh, .ref ht])), (qam, .inl (cM, 8, .inr (.inr (.inr (.inr (fun i => some (ad i)))))))] α (by omega) hcs ?_
      show TGo X ([(h, .inr (3, [.int (iI ((P : Nat) : Int)), .int (iI ((Sc : Nat) : Int)), .int (iI m), .ref qam, .ref qrat, .ref qrm, .ref hw, .ref hsh, .ref ht])), (qam, .inl (cM, 8, .inr (.inr (.inr (.inr (fun i => some (ad i)))))))] ++ RB ad ro cI cs) 0 0 24 [(2, .ref (ad α)), (0, .ref h), (1, .int (iI ((α : Nat) : Int)))] []
      refine go_bipush O dX3_sign_24 (by decide) 26 rfl ?_
      exact hret _ _ _ () dX3_sign_26 rfl (spSign_n hα8 hq)
    · have hq := rof_s hcs
      obtain ⟨hc0, hV0, hz0⟩ := hR α (by omega) _ _ _ _ hq
      have b0 := bz_01 n0
      have b1 := bz_01 w0
      refine go_aload_n O dX3_sign_10 rfl 0 rfl 11 rfl ?_
      refine go_get O hK dX3_sign_11 hinX3 0 rfl rfl 3 (by decide) flX3_30 rfl 14 rfl ?_
      refine go_iload_n O dX3_sign_14 rfl 1 rfl 15 rfl ?_
      refine go_aald O hK dX3_sign_15 1 1 rfl rfl α rfl (by omega) (by omega) (ad α) rfl 16 rfl ?_
      refine TGo.outC [(h, .inr (3, [.int (iI ((P : Nat) : Int)), .int (iI ((Sc : Nat) : Int)), .int (iI m), .ref qam, .ref qrat, .ref qrm, .ref hw, .ref hsh, .ref ht])), (qam, .inl (cM, 8, .inr (.inr (.inr (.inr (fun i => some (ad i)))))))] α (by omega) hcs ?_
      show TGo X ([(h, .inr (3, [.int (iI ((P : Nat) : Int)), .int (iI ((Sc : Nat) : Int)), .int (iI m), .ref qam, .ref qrat, .ref qrm, .ref hw, .ref hsh, .ref ht])), (qam, .inl (cM, 8, .inr (.inr (.inr (.inr (fun i => some (ad i))))))), ((ad α), .inr (0, [.ref (ro α), .int (iI 1), .int (iI (bz w0)), .int (iI (bz n0)), .int (iI c0)])), ((ro α), .inl (cI, 36, .inl (dg V0)))] ++ RR1 ad ro cI cs α) 0 0 16 [(0, .ref h), (1, .int (iI ((α : Nat) : Int)))] [.ref (ad α)]
      refine go_astore_n O dX3_sign_16 rfl (by decide) [(2, .ref (ad α)), (0, .ref h), (1, .int (iI ((α : Nat) : Int)))] rfl 17 rfl ?_
      refine go_aload_n O dX3_sign_17 rfl 0 rfl 18 rfl ?_
      refine go_get O hK dX3_sign_18 hinX0 2 rfl rfl 1 (by decide) flX3_79 rfl 21 rfl ?_
      refine go_if_ne O dX3_sign_21 27 (by decide) 24 rfl (by omega) (fun h21 => ?_) (fun h21 => by omega)
      refine go_aload_n O dX3_sign_27 rfl 0 rfl 28 rfl ?_
      refine go_get O hK dX3_sign_28 hinX0 2 rfl rfl 3 (by decide) flX3_86 rfl 31 rfl ?_
      refine go_if_eq O dX3_sign_31 36 (by decide) 34 rfl (by omega) (fun h31 => ?_) (fun h31 => ?_)
      · refine go_aload_n O dX3_sign_36 rfl 0 rfl 37 rfl ?_
        refine go_get O hK dX3_sign_37 hinX0 2 rfl rfl 0 (by decide) flX3_83 rfl 40 rfl ?_
        refine go_iconst O dX3_sign_40 41 rfl ?_
        refine go_bipush O dX3_sign_41 (by decide) 43 rfl ?_
        refine go_calliST (rest := []) (wr := [(h, .inr (3, [.int (iI ((P : Nat) : Int)), .int (iI ((Sc : Nat) : Int)), .int (iI m), .ref qam, .ref qrat, .ref qrm, .ref hw, .ref hsh, .ref ht])), (qam, .inl (cM, 8, .inr (.inr (.inr (.inr (fun i => some (ad i))))))), ((ad α), .inr (0, [.ref (ro α), .int (iI 1), .int (iI (bz w0)), .int (iI (bz n0)), .int (iI c0)]))]) (RR1 ad ro cI cs α) O hK hE (c_X3_isZero E hE (ro α) cI 36 V0 0 36 (by omega) (by omega) (by omega)) mlX3_150 smX3_isZero inX3 cdX3_isZero 3 (by decide +kernel) ⟨Nat.le_of_ble_eq_true rfl, Nat.le_of_ble_eq_true rfl⟩ [0] rfl [3] rfl (by decide) [0, 1, 2] rfl (by decide) (by decide) rfl rfl (Nat.le_of_ble_eq_true rfl) ⟨Nat.zero_le _, Nat.zero_le _⟩ dX3_sign_43 46 rfl (fun z u hu => ?_)
        have hzz : (z = 1 ∧ V0 = 0) ∨ (z = 0 ∧ V0 ≠ 0) := by
          rcases hu with ⟨e1, e2⟩ | ⟨e1, j, e2, e3, e4⟩
          · have e5 := lt_of_digits (N := V0) (s := 0) hV0 (by omega) (fun j a b => e2 j a b); rw [Nat.pow_zero] at e5; exact Or.inl ⟨e1, by omega⟩
          · exact Or.inr ⟨e1, fun e => e4 (by rw [e, Nat.zero_div])⟩
        show TGo X ([(h, .inr (3, [.int (iI ((P : Nat) : Int)), .int (iI ((Sc : Nat) : Int)), .int (iI m), .ref qam, .ref qrat, .ref qrm, .ref hw, .ref hsh, .ref ht])), (qam, .inl (cM, 8, .inr (.inr (.inr (.inr (fun i => some (ad i))))))), ((ad α), .inr (0, [.ref (ro α), .int (iI 1), .int (iI (bz w0)), .int (iI (bz n0)), .int (iI c0)])), ((ro α), .inl (cI, 36, .inl (dg V0)))] ++ RR1 ad ro cI cs α) 0 0 46 [(2, .ref (ad α)), (0, .ref h), (1, .int (iI ((α : Nat) : Int)))] [.int (iI z)]
        refine go_if_eq O dX3_sign_46 53 (by decide) 49 rfl (by omega) (fun h46 => ?_) (fun h46 => ?_)
        · refine go_iconst O dX3_sign_53 54 rfl ?_
          refine TGo.backC0 [(h, .inr (3, [.int (iI ((P : Nat) : Int)), .int (iI ((Sc : Nat) : Int)), .int (iI m), .ref qam, .ref qrat, .ref qrm, .ref hw, .ref hsh, .ref ht])), (qam, .inl (cM, 8, .inr (.inr (.inr (.inr (fun i => some (ad i)))))))] α (by omega) hcs ?_
          show TGo X ([(h, .inr (3, [.int (iI ((P : Nat) : Int)), .int (iI ((Sc : Nat) : Int)), .int (iI m), .ref qam, .ref qrat, .ref qrm, .ref hw, .ref hsh, .ref ht])), (qam, .inl (cM, 8, .inr (.inr (.inr (.inr (fun i => some (ad i)))))))] ++ RB ad ro cI cs) 0 0 54 [(2, .ref (ad α)), (0, .ref h), (1, .int (iI ((α : Nat) : Int)))] [.int (iI 1)]
          exact hret _ _ _ () dX3_sign_54 rfl (spSign_s hα8 hq (by omega))
        · refine go_iconst O dX3_sign_49 50 rfl ?_
          refine go_goto O dX3_sign_50 54 (by decide) ?_
          refine TGo.backC0 [(h, .inr (3, [.int (iI ((P : Nat) : Int)), .int (iI ((Sc : Nat) : Int)), .int (iI m), .ref qam, .ref qrat, .ref qrm, .ref hw, .ref hsh, .ref ht])), (qam, .inl (cM, 8, .inr (.inr (.inr (.inr (fun i => some (ad i)))))))] α (by omega) hcs ?_
          show TGo X ([(h, .inr (3, [.int (iI ((P : Nat) : Int)), .int (iI ((Sc : Nat) : Int)), .int (iI m), .ref qam, .ref qrat, .ref qrm, .ref hw, .ref hsh, .ref ht])), (qam, .inl (cM, 8, .inr (.inr (.inr (.inr (fun i => some (ad i)))))))] ++ RB ad ro cI cs) 0 0 54 [(2, .ref (ad α)), (0, .ref h), (1, .int (iI ((α : Nat) : Int)))] [.int (iI 0)]
          exact hret _ _ _ () dX3_sign_54 rfl (spSign_s hα8 hq (by omega))
      · refine go_iconst O dX3_sign_34 35 rfl ?_
        refine TGo.backC0 [(h, .inr (3, [.int (iI ((P : Nat) : Int)), .int (iI ((Sc : Nat) : Int)), .int (iI m), .ref qam, .ref qrat, .ref qrm, .ref hw, .ref hsh, .ref ht])), (qam, .inl (cM, 8, .inr (.inr (.inr (.inr (fun i => some (ad i)))))))] α (by omega) hcs ?_
        show TGo X ([(h, .inr (3, [.int (iI ((P : Nat) : Int)), .int (iI ((Sc : Nat) : Int)), .int (iI m), .ref qam, .ref qrat, .ref qrm, .ref hw, .ref hsh, .ref ht])), (qam, .inl (cM, 8, .inr (.inr (.inr (.inr (fun i => some (ad i)))))))] ++ RB ad ro cI cs) 0 0 35 [(2, .ref (ad α)), (0, .ref h), (1, .int (iI ((α : Nat) : Int)))] [.int (iI (-1))]
        exact hret _ _ _ () dX3_sign_35 rfl (spSign_s hα8 hq (by omega))
  · refine go_bipush O dX3_sign_7 (by decide) 9 rfl ?_
    exact hret _ _ _ () dX3_sign_9 rfl (spSign_b (bzd_z h4))
set_option maxHeartbeats 4000000 in
set_option maxRecDepth 100000 in
/-- digits -/
theorem c_X3_digits (E : TEn) (hE : EnvOk E) (h qam qrat qrm hw hsh ht qrow qfac : Nat) (cI cM : ClassId) (ad ro : Nat → Nat) (cs : Cs) (P Sc : Nat) (m : Int) (a half : Int) (ha : r32 a) (hh : r32 half) (hR : RgOk (rof cs)) : Ctl vwCl E yX3_digits wsX3_digits (rmn 1 25) [.ref h, .int (iI a), .int (iI half)] ([(h, .inr (3, [.int (iI ((P : Nat) : Int)), .int (iI ((Sc : Nat) : Int)), .int (iI m), .ref qam, .ref qrat, .ref qrm, .ref hw, .ref hsh, .ref ht])), (qam, .inl (cM, 8, .inr (.inr (.inr (.inr (fun i => some (ad i)))))))] ++ RB ad ro cI cs) [(cI, .int), (cM, .object "TwofoldAmounts$Amount")] (fun (z : Int) (_ : Unit) => z = spDig (rof cs) a half) (fun _ => ([(h, .inr (3, [.int (iI ((P : Nat) : Int)), .int (iI ((Sc : Nat) : Int)), .int (iI m), .ref qam, .ref qrat, .ref qrm, .ref hw, .ref hsh, .ref ht])), (qam, .inl (cM, 8, .inr (.inr (.inr (.inr (fun i => some (ad i)))))))] ++ RB ad ro cI cs)) := by
  refine enterl (by decide) (Nat.le_of_ble_eq_true rfl) ?_
  intro X O hK hin2 hret
  show TGo X ([(h, .inr (3, [.int (iI ((P : Nat) : Int)), .int (iI ((Sc : Nat) : Int)), .int (iI m), .ref qam, .ref qrat, .ref qrm, .ref hw, .ref hsh, .ref ht])), (qam, .inl (cM, 8, .inr (.inr (.inr (.inr (fun i => some (ad i)))))))] ++ RB ad ro cI cs) 0 0 0 [(0, .ref h), (1, .int (iI a)), (2, .int (iI half))] []
  refine go_iload_n O dX3_digits_0 rfl 1 rfl 1 rfl ?_
  refine go_calliST (rest := []) (wr := [(h, .inr (3, [.int (iI ((P : Nat) : Int)), .int (iI ((Sc : Nat) : Int)), .int (iI m), .ref qam, .ref qrat, .ref qrm, .ref hw, .ref hsh, .ref ht])), (qam, .inl (cM, 8, .inr (.inr (.inr (.inr (fun i => some (ad i)))))))]) (RB ad ro cI cs) O hK hE (c_X3_isRegister E hE a ha) mlX3_60 smX3_isRegister inX3 cdX3_isRegister 1 (by decide +kernel) ⟨Nat.le_of_ble_eq_true rfl, Nat.le_of_ble_eq_true rfl⟩ [] rfl [] rfl (by decide) [0, 1] rfl (by decide) (by decide) rfl rfl (Nat.le_of_ble_eq_true rfl) ⟨Nat.zero_le _, Nat.zero_le _⟩ dX3_digits_1 4 rfl (fun z u hu => ?_)
  subst hu
  show TGo X ([(h, .inr (3, [.int (iI ((P : Nat) : Int)), .int (iI ((Sc : Nat) : Int)), .int (iI m), .ref qam, .ref qrat, .ref qrm, .ref hw, .ref hsh, .ref ht])), (qam, .inl (cM, 8, .inr (.inr (.inr (.inr (fun i => some (ad i)))))))] ++ RB ad ro cI cs) 0 0 4 [(0, .ref h), (1, .int (iI a)), (2, .int (iI half))] [.int (iI (bz (decide (0 ≤ a ∧ a < 8))))]
  refine go_if_eq O dX3_digits_4 16 (by decide) 7 rfl (bz_r _) (fun h4 => ?_) (fun h4 => ?_)
  · refine go_ldc2 O dX3_digits_16 (-15) kcX3_154 (by decide) 19 rfl ?_
    exact hret _ _ _ () dX3_digits_19 (spDig_b (fun e => bzd_z h4 (by omega)))
  · refine go_iload_n O dX3_digits_7 rfl 2 rfl 8 rfl ?_
    refine go_if_lt O dX3_digits_8 16 (by decide) 11 rfl (by omega) (fun h8 => ?_) (fun h8 => ?_)
    · refine go_ldc2 O dX3_digits_16 (-15) kcX3_154 (by decide) 19 rfl ?_
      exact hret _ _ _ () dX3_digits_19 (spDig_b (by omega))
    · refine go_iload_n O dX3_digits_11 rfl 2 rfl 12 rfl ?_
      refine go_iconst O dX3_digits_12 13 rfl ?_
      refine go_icmp_le O dX3_digits_13 20 (by decide) 16 rfl (by omega) (by omega) (fun h13 => ?_) (fun h13 => ?_)
      · have q1 := bzd_ne h4
        obtain ⟨α, rfl⟩ : ∃ α : Nat, a = (α : Int) := ⟨a.toNat, by omega⟩
        obtain ⟨η, rfl⟩ : ∃ η : Nat, half = (η : Int) := ⟨half.toNat, by omega⟩
        have hα8 : α < 8 := by omega
        rcases hcs : cs α with ⟨_ | _, w0, n0, c0, V0⟩
        · have hq := rof_n hcs
          refine go_aload_n O dX3_digits_20 rfl 0 rfl 21 rfl ?_
          refine go_get O hK dX3_digits_21 hinX3 0 rfl rfl 3 (by decide) flX3_30 rfl 24 rfl ?_
          refine go_iload_n O dX3_digits_24 rfl 1 rfl 25 rfl ?_
          refine go_aald O hK dX3_digits_25 1 1 rfl rfl α rfl (by omega) (by omega) (ad α) rfl 26 rfl ?_
          refine TGo.outC [(h, .inr (3, [.int (iI ((P : Nat) : Int)), .int (iI ((Sc : Nat) : Int)), .int (iI m), .ref qam, .ref qrat, .ref qrm, .ref hw, .ref hsh, .ref ht])), (qam, .inl (cM, 8, .inr (.inr (.inr (.inr (fun i => some (ad i)))))))] α (by omega) hcs ?_
          show TGo X ([(h, .inr (3, [.int (iI ((P : Nat) : Int)), .int (iI ((Sc : Nat) : Int)), .int (iI m), .ref qam, .ref qrat, .ref qrm, .ref hw, .ref hsh, .ref ht])), (qam, .inl (cM, 8, .inr (.inr (.inr (.inr (fun i => some (ad i))))))), ((ad α), .inr (0, [.ref (ro α), .int (iI 0), .int (iI (bz w0)), .int (iI (bz n0)), .int (iI c0)])), ((ro α), .inl (cI, 36, .inl (dg V0)))] ++ RR1 ad ro cI cs α) 0 0 26 [(0, .ref h), (1, .int (iI ((α : Nat) : Int))), (2, .int (iI ((η : Nat) : Int)))] [.ref (ad α)]
          refine go_astore_n O dX3_digits_26 rfl (by decide) [(3, .ref (ad α)), (0, .ref h), (1, .int (iI ((α : Nat) : Int))), (2, .int (iI ((η : Nat) : Int)))] rfl 27 rfl ?_
          refine go_aload_n O dX3_digits_27 rfl 0 rfl 28 rfl ?_
          refine go_get O hK dX3_digits_28 hinX0 2 rfl rfl 1 (by decide) flX3_79 rfl 31 rfl ?_
          refine go_if_ne O dX3_digits_31 38 (by decide) 34 rfl (by omega) (fun h31 => by omega) (fun h31 => ?_)
          refine TGo.backC0 [(h, .inr (3, [.int (iI ((P : Nat) : Int)), .int (iI ((Sc : Nat) : Int)), .int (iI m), .ref qam, .ref qrat, .ref qrm, .ref hw, .ref hsh, .ref ht])), (qam, .inl (cM, 8, .inr (.inr (.inr (.inr (fun i => some (ad i)))))))] α (by omega) hcs ?_
          show TGo X ([(h, .inr (3, [.int (iI ((P : Nat) : Int)), .int (iI ((Sc : Nat) : Int)), .int (iI m), .ref qam, .ref qrat, .ref qrm, .ref hw, .ref hsh, .ref ht])), (qam, .inl (cM, 8, .inr (.inr (.inr (.inr (fun i => some (ad i)))))))] ++ RB ad ro cI cs) 0 0 34 [(3, .ref (ad α)), (0, .ref h), (1, .int (iI ((α : Nat) : Int))), (2, .int (iI ((η : Nat) : Int)))] []
          refine go_ldc2 O dX3_digits_34 (-11) kcX3_156 (by decide) 37 rfl ?_
          exact hret _ _ _ () dX3_digits_37 (spDig_n (by omega) hq)
        · have hq := rof_s hcs
          obtain ⟨hc0, hV0, hz0⟩ := hR α (by omega) _ _ _ _ hq
          have b0 := bz_01 n0
          have b1 := bz_01 w0
          refine go_aload_n O dX3_digits_20 rfl 0 rfl 21 rfl ?_
          refine go_get O hK dX3_digits_21 hinX3 0 rfl rfl 3 (by decide) flX3_30 rfl 24 rfl ?_
          refine go_iload_n O dX3_digits_24 rfl 1 rfl 25 rfl ?_
          refine go_aald O hK dX3_digits_25 1 1 rfl rfl α rfl (by omega) (by omega) (ad α) rfl 26 rfl ?_
          refine TGo.outC [(h, .inr (3, [.int (iI ((P : Nat) : Int)), .int (iI ((Sc : Nat) : Int)), .int (iI m), .ref qam, .ref qrat, .ref qrm, .ref hw, .ref hsh, .ref ht])), (qam, .inl (cM, 8, .inr (.inr (.inr (.inr (fun i => some (ad i)))))))] α (by omega) hcs ?_
          show TGo X ([(h, .inr (3, [.int (iI ((P : Nat) : Int)), .int (iI ((Sc : Nat) : Int)), .int (iI m), .ref qam, .ref qrat, .ref qrm, .ref hw, .ref hsh, .ref ht])), (qam, .inl (cM, 8, .inr (.inr (.inr (.inr (fun i => some (ad i))))))), ((ad α), .inr (0, [.ref (ro α), .int (iI 1), .int (iI (bz w0)), .int (iI (bz n0)), .int (iI c0)])), ((ro α), .inl (cI, 36, .inl (dg V0)))] ++ RR1 ad ro cI cs α) 0 0 26 [(0, .ref h), (1, .int (iI ((α : Nat) : Int))), (2, .int (iI ((η : Nat) : Int)))] [.ref (ad α)]
          refine go_astore_n O dX3_digits_26 rfl (by decide) [(3, .ref (ad α)), (0, .ref h), (1, .int (iI ((α : Nat) : Int))), (2, .int (iI ((η : Nat) : Int)))] rfl 27 rfl ?_
          refine go_aload_n O dX3_digits_27 rfl 0 rfl 28 rfl ?_
          refine go_get O hK dX3_digits_28 hinX0 2 rfl rfl 1 (by decide) flX3_79 rfl 31 rfl ?_
          refine go_if_ne O dX3_digits_31 38 (by decide) 34 rfl (by omega) (fun h31 => ?_) (fun h31 => by omega)
          refine go_aload_n O dX3_digits_38 rfl 0 rfl 39 rfl ?_
          refine go_get O hK dX3_digits_39 hinX0 2 rfl rfl 0 (by decide) flX3_83 rfl 42 rfl ?_
          refine go_iload_n O dX3_digits_42 rfl 3 rfl 43 rfl ?_
          refine go_bipush O dX3_digits_43 (by decide) 45 rfl ?_
          refine go_imul O dX3_digits_45 ((η * 18 : Nat) : Int) (by omega) 46 rfl ?_
          refine go_bipush O dX3_digits_46 (by decide) 48 rfl ?_
          refine go_calllST (rest := []) (wr := [(h, .inr (3, [.int (iI ((P : Nat) : Int)), .int (iI ((Sc : Nat) : Int)), .int (iI m), .ref qam, .ref qrat, .ref qrm, .ref hw, .ref hsh, .ref ht])), (qam, .inl (cM, 8, .inr (.inr (.inr (.inr (fun i => some (ad i))))))), ((ad α), .inr (0, [.ref (ro α), .int (iI 1), .int (iI (bz w0)), .int (iI (bz n0)), .int (iI c0)]))]) (RR1 ad ro cI cs α) O hK hE (c_X3_asLong E hE (ro α) cI 36 V0 (η * 18) 18 (by omega) (by omega)) mlX3_158 smX3_asLong inX3 cdX3_asLong 3 (by decide +kernel) ⟨Nat.le_of_ble_eq_true rfl, Nat.le_of_ble_eq_true rfl⟩ [0] rfl [3] rfl (by decide) [0, 1, 2] rfl (by decide) (by decide) rfl rfl (Nat.le_of_ble_eq_true rfl) ⟨Nat.zero_le _, Nat.zero_le _⟩ dX3_digits_48 51 rfl (fun z u hu => ?_)
          subst hu
          show TGo X ([(h, .inr (3, [.int (iI ((P : Nat) : Int)), .int (iI ((Sc : Nat) : Int)), .int (iI m), .ref qam, .ref qrat, .ref qrm, .ref hw, .ref hsh, .ref ht])), (qam, .inl (cM, 8, .inr (.inr (.inr (.inr (fun i => some (ad i))))))), ((ad α), .inr (0, [.ref (ro α), .int (iI 1), .int (iI (bz w0)), .int (iI (bz n0)), .int (iI c0)])), ((ro α), .inl (cI, 36, .inl (dg V0)))] ++ RR1 ad ro cI cs α) 0 0 51 [(3, .ref (ad α)), (0, .ref h), (1, .int (iI ((α : Nat) : Int))), (2, .int (iI ((η : Nat) : Int)))] [.long (lI ((V0 / 10 ^ (η * 18) % 10 ^ 18 : Nat) : Int))]
          refine TGo.backC0 [(h, .inr (3, [.int (iI ((P : Nat) : Int)), .int (iI ((Sc : Nat) : Int)), .int (iI m), .ref qam, .ref qrat, .ref qrm, .ref hw, .ref hsh, .ref ht])), (qam, .inl (cM, 8, .inr (.inr (.inr (.inr (fun i => some (ad i)))))))] α (by omega) hcs ?_
          show TGo X ([(h, .inr (3, [.int (iI ((P : Nat) : Int)), .int (iI ((Sc : Nat) : Int)), .int (iI m), .ref qam, .ref qrat, .ref qrm, .ref hw, .ref hsh, .ref ht])), (qam, .inl (cM, 8, .inr (.inr (.inr (.inr (fun i => some (ad i)))))))] ++ RB ad ro cI cs) 0 0 51 [(3, .ref (ad α)), (0, .ref h), (1, .int (iI ((α : Nat) : Int))), (2, .int (iI ((η : Nat) : Int)))] [.long (lI ((V0 / 10 ^ (η * 18) % 10 ^ 18 : Nat) : Int))]
          exact hret _ _ _ () dX3_digits_51 (spDig_s (by omega) hq).symm
      · refine go_ldc2 O dX3_digits_16 (-15) kcX3_154 (by decide) 19 rfl ?_
        exact hret _ _ _ () dX3_digits_19 (spDig_b (by omega))
set_option maxHeartbeats 4000000 in
set_option maxRecDepth 100000 in
/-- discard -/
theorem c_X3_discard (E : TEn) (hE : EnvOk E) (h qam qrat qrm hw hsh ht qrow qfac : Nat) (cI cM : ClassId) (ad ro : Nat → Nat) (cs : Cs) (P Sc : Nat) (m : Int) (a : Int) (ha : r32 a) (hR : RgOk (rof cs)) : Cti vwCl E yX3_discard wsX3_discard (rmn 1 20) [.ref h, .int (iI a)] ([(h, .inr (3, [.int (iI ((P : Nat) : Int)), .int (iI ((Sc : Nat) : Int)), .int (iI m), .ref qam, .ref qrat, .ref qrm, .ref hw, .ref hsh, .ref ht])), (qam, .inl (cM, 8, .inr (.inr (.inr (.inr (fun i => some (ad i)))))))] ++ RB ad ro cI cs) [(cI, .int), (cM, .object "TwofoldAmounts$Amount")] (fun (z : Int) (u : Cs) => z = (spDisc (rof cs) a).1 ∧ rof u = (spDisc (rof cs) a).2) (fun u => ([(h, .inr (3, [.int (iI ((P : Nat) : Int)), .int (iI ((Sc : Nat) : Int)), .int (iI m), .ref qam, .ref qrat, .ref qrm, .ref hw, .ref hsh, .ref ht])), (qam, .inl (cM, 8, .inr (.inr (.inr (.inr (fun i => some (ad i)))))))] ++ RB ad ro cI u)) := by
  refine enteri (by decide) (Nat.le_of_ble_eq_true rfl) ?_
  intro X O hK hin2 hret
  show TGo X ([(h, .inr (3, [.int (iI ((P : Nat) : Int)), .int (iI ((Sc : Nat) : Int)), .int (iI m), .ref qam, .ref qrat, .ref qrm, .ref hw, .ref hsh, .ref ht])), (qam, .inl (cM, 8, .inr (.inr (.inr (.inr (fun i => some (ad i)))))))] ++ RB ad ro cI cs) 0 0 0 [(0, .ref h), (1, .int (iI a))] []
  refine go_iload_n O dX3_discard_0 rfl 1 rfl 1 rfl ?_
  refine go_calliST (rest := []) (wr := [(h, .inr (3, [.int (iI ((P : Nat) : Int)), .int (iI ((Sc : Nat) : Int)), .int (iI m), .ref qam, .ref qrat, .ref qrm, .ref hw, .ref hsh, .ref ht])), (qam, .inl (cM, 8, .inr (.inr (.inr (.inr (fun i => some (ad i)))))))]) (RB ad ro cI cs) O hK hE (c_X3_isRegister E hE a ha) mlX3_60 smX3_isRegister inX3 cdX3_isRegister 1 (by decide +kernel) ⟨Nat.le_of_ble_eq_true rfl, Nat.le_of_ble_eq_true rfl⟩ [] rfl [] rfl (by decide) [0, 1] rfl (by decide) (by decide) rfl rfl (Nat.le_of_ble_eq_true rfl) ⟨Nat.zero_le _, Nat.zero_le _⟩ dX3_discard_1 4 rfl (fun z u hu => ?_)
  subst hu
  show TGo X ([(h, .inr (3, [.int (iI ((P : Nat) : Int)), .int (iI ((Sc : Nat) : Int)), .int (iI m), .ref qam, .ref qrat, .ref qrm, .ref hw, .ref hsh, .ref ht])), (qam, .inl (cM, 8, .inr (.inr (.inr (.inr (fun i => some (ad i)))))))] ++ RB ad ro cI cs) 0 0 4 [(0, .ref h), (1, .int (iI a))] [.int (iI (bz (decide (0 ≤ a ∧ a < 8))))]
  refine go_if_eq O dX3_discard_4 19 (by decide) 7 rfl (bz_r _) (fun h4 => ?_) (fun h4 => ?_)
  · refine go_iconst O dX3_discard_19 20 rfl ?_
    have he := spDisc_b (reg := rof cs) (a := a) (bzd_z h4)
    exact hret _ _ _ cs dX3_discard_20 rfl ⟨by rw [he], by rw [he]⟩
  · have q1 := bzd_ne h4
    obtain ⟨α, rfl⟩ : ∃ α : Nat, a = (α : Int) := ⟨a.toNat, by omega⟩
    have hα8 : α < 8 := by omega
    rcases hcs : cs α with ⟨_ | _, w0, n0, c0, V0⟩
    · have hq := rof_n hcs
      refine go_aload_n O dX3_discard_7 rfl 0 rfl 8 rfl ?_
      refine go_get O hK dX3_discard_8 hinX3 0 rfl rfl 3 (by decide) flX3_30 rfl 11 rfl ?_
      refine go_iload_n O dX3_discard_11 rfl 1 rfl 12 rfl ?_
      refine go_aald O hK dX3_discard_12 1 1 rfl rfl α rfl (by omega) (by omega) (ad α) rfl 13 rfl ?_
      refine TGo.outC [(h, .inr (3, [.int (iI ((P : Nat) : Int)), .int (iI ((Sc : Nat) : Int)), .int (iI m), .ref qam, .ref qrat, .ref qrm, .ref hw, .ref hsh, .ref ht])), (qam, .inl (cM, 8, .inr (.inr (.inr (.inr (fun i => some (ad i)))))))] α (by omega) hcs ?_
      show TGo X ([(h, .inr (3, [.int (iI ((P : Nat) : Int)), .int (iI ((Sc : Nat) : Int)), .int (iI m), .ref qam, .ref qrat, .ref qrm, .ref hw, .ref hsh, .ref ht])), (qam, .inl (cM, 8, .inr (.inr (.inr (.inr (fun i => some (ad i))))))), ((ad α), .inr (0, [.ref (ro α), .int (iI 0), .int (iI (bz w0)), .int (iI (bz n0)), .int (iI c0)])), ((ro α), .inl (cI, 36, .inl (dg V0)))] ++ RR1 ad ro cI cs α) 0 0 13 [(0, .ref h), (1, .int (iI ((α : Nat) : Int)))] [.ref (ad α)]
      refine go_get O hK dX3_discard_13 hinX0 2 rfl rfl 1 (by decide) flX3_79 rfl 16 rfl ?_
      refine go_if_ne O dX3_discard_16 21 (by decide) 19 rfl (by omega) (fun h16 => by omega) (fun h16 => ?_)
      refine TGo.backC0 [(h, .inr (3, [.int (iI ((P : Nat) : Int)), .int (iI ((Sc : Nat) : Int)), .int (iI m), .ref qam, .ref qrat, .ref qrm, .ref hw, .ref hsh, .ref ht])), (qam, .inl (cM, 8, .inr (.inr (.inr (.inr (fun i => some (ad i)))))))] α (by omega) hcs ?_
      show TGo X ([(h, .inr (3, [.int (iI ((P : Nat) : Int)), .int (iI ((Sc : Nat) : Int)), .int (iI m), .ref qam, .ref qrat, .ref qrm, .ref hw, .ref hsh, .ref ht])), (qam, .inl (cM, 8, .inr (.inr (.inr (.inr (fun i => some (ad i)))))))] ++ RB ad ro cI cs) 0 0 19 [(0, .ref h), (1, .int (iI ((α : Nat) : Int)))] []
      refine go_iconst O dX3_discard_19 20 rfl ?_
      have he := spDisc_n hα8 hq
      exact hret _ _ _ cs dX3_discard_20 rfl ⟨by rw [he], by rw [he]⟩
    · have hq := rof_s hcs
      obtain ⟨hc0, hV0, hz0⟩ := hR α (by omega) _ _ _ _ hq
      have b0 := bz_01 n0
      have b1 := bz_01 w0
      refine go_aload_n O dX3_discard_7 rfl 0 rfl 8 rfl ?_
      refine go_get O hK dX3_discard_8 hinX3 0 rfl rfl 3 (by decide) flX3_30 rfl 11 rfl ?_
      refine go_iload_n O dX3_discard_11 rfl 1 rfl 12 rfl ?_
      refine go_aald O hK dX3_discard_12 1 1 rfl rfl α rfl (by omega) (by omega) (ad α) rfl 13 rfl ?_
      refine TGo.outC [(h, .inr (3, [.int (iI ((P : Nat) : Int)), .int (iI ((Sc : Nat) : Int)), .int (iI m), .ref qam, .ref qrat, .ref qrm, .ref hw, .ref hsh, .ref ht])), (qam, .inl (cM, 8, .inr (.inr (.inr (.inr (fun i => some (ad i)))))))] α (by omega) hcs ?_
      show TGo X ([(h, .inr (3, [.int (iI ((P : Nat) : Int)), .int (iI ((Sc : Nat) : Int)), .int (iI m), .ref qam, .ref qrat, .ref qrm, .ref hw, .ref hsh, .ref ht])), (qam, .inl (cM, 8, .inr (.inr (.inr (.inr (fun i => some (ad i))))))), ((ad α), .inr (0, [.ref (ro α), .int (iI 1), .int (iI (bz w0)), .int (iI (bz n0)), .int (iI c0)])), ((ro α), .inl (cI, 36, .inl (dg V0)))] ++ RR1 ad ro cI cs α) 0 0 13 [(0, .ref h), (1, .int (iI ((α : Nat) : Int)))] [.ref (ad α)]
      refine go_get O hK dX3_discard_13 hinX0 2 rfl rfl 1 (by decide) flX3_79 rfl 16 rfl ?_
      refine go_if_ne O dX3_discard_16 21 (by decide) 19 rfl (by omega) (fun h16 => ?_) (fun h16 => by omega)
      refine go_aload_n O dX3_discard_21 rfl 0 rfl 22 rfl ?_
      refine go_get O hK dX3_discard_22 hinX3 0 rfl rfl 3 (by decide) flX3_30 rfl 25 rfl ?_
      refine go_iload_n O dX3_discard_25 rfl 1 rfl 26 rfl ?_
      refine go_aald O hK dX3_discard_26 1 1 rfl rfl α rfl (by omega) (by omega) (ad α) rfl 27 rfl ?_
      refine go_iconst O dX3_discard_27 28 rfl ?_
      refine go_put O hK dX3_discard_28 hinX0 tyX0 tyX0_ok nmX0 2 rfl rfl 1 (by decide) flX3_79 rfl rfl rfl rfl (Nat.le_of_ble_eq_true rfl) ([(h, .inr (3, [.int (iI ((P : Nat) : Int)), .int (iI ((Sc : Nat) : Int)), .int (iI m), .ref qam, .ref qrat, .ref qrm, .ref hw, .ref hsh, .ref ht])), (qam, .inl (cM, 8, .inr (.inr (.inr (.inr (fun i => some (ad i))))))), ((ad α), .inr (0, [.ref (ro α), .int (iI 0), .int (iI (bz w0)), .int (iI (bz n0)), .int (iI c0)])), ((ro α), .inl (cI, 36, .inl (dg V0)))] ++ RR1 ad ro cI cs α) rfl 31 rfl ?_
      refine TGo.backC [(h, .inr (3, [.int (iI ((P : Nat) : Int)), .int (iI ((Sc : Nat) : Int)), .int (iI m), .ref qam, .ref qrat, .ref qrm, .ref hw, .ref hsh, .ref ht])), (qam, .inl (cM, 8, .inr (.inr (.inr (.inr (fun i => some (ad i)))))))] α (by omega) (false, w0, n0, c0, V0) ?_
      show TGo X ([(h, .inr (3, [.int (iI ((P : Nat) : Int)), .int (iI ((Sc : Nat) : Int)), .int (iI m), .ref qam, .ref qrat, .ref qrm, .ref hw, .ref hsh, .ref ht])), (qam, .inl (cM, 8, .inr (.inr (.inr (.inr (fun i => some (ad i)))))))] ++ RB ad ro cI (cset cs α (false, w0, n0, c0, V0))) 0 0 31 [(0, .ref h), (1, .int (iI ((α : Nat) : Int)))] []
      refine go_iconst O dX3_discard_31 32 rfl ?_
      have he := spDisc_s hα8 hq
      exact hret _ _ _ (cset cs α (false, w0, n0, c0, V0)) dX3_discard_32 rfl ⟨by rw [he], by rw [he]; exact rof_drop⟩
set_option maxHeartbeats 4000000 in
set_option maxRecDepth 100000 in
/-- ratio -/
theorem c_X3_ratio (E : TEn) (hE : EnvOk E) (h qam qrat qrm hw hsh ht qrow qfac : Nat) (cI cM : ClassId) (P Sc : Nat) (m : Int) (ra : Nat → Int) (a v : Int) (ha : r32 a) (hv : r32 v) : Cti vwCl E yX3_ratio wsX3_ratio (rmn 1 20) [.ref h, .int (iI a), .int (iI v)] [(h, .inr (3, [.int (iI ((P : Nat) : Int)), .int (iI ((Sc : Nat) : Int)), .int (iI m), .ref qam, .ref qrat, .ref qrm, .ref hw, .ref hsh, .ref ht])), (qrat, .inl (cI, 8, .inl (fun j => iI (ra j))))] [(cI, .int)] (fun (z : Int) (u : Nat → Int) => z = (spRat ra a v).1 ∧ u = (spRat ra a v).2) (fun u => [(h, .inr (3, [.int (iI ((P : Nat) : Int)), .int (iI ((Sc : Nat) : Int)), .int (iI m), .ref qam, .ref qrat, .ref qrm, .ref hw, .ref hsh, .ref ht])), (qrat, .inl (cI, 8, .inl (fun j => iI (u j))))]) := by
  refine enteri (by decide) (Nat.le_of_ble_eq_true rfl) ?_
  intro X O hK hin2 hret
  show TGo X [(h, .inr (3, [.int (iI ((P : Nat) : Int)), .int (iI ((Sc : Nat) : Int)), .int (iI m), .ref qam, .ref qrat, .ref qrm, .ref hw, .ref hsh, .ref ht])), (qrat, .inl (cI, 8, .inl (fun j => iI (ra j))))] 0 0 0 [(0, .ref h), (1, .int (iI a)), (2, .int (iI v))] []
  refine go_iload_n O dX3_ratio_0 rfl 1 rfl 1 rfl ?_
  refine go_calliS (rest := []) (wr := [(h, .inr (3, [.int (iI ((P : Nat) : Int)), .int (iI ((Sc : Nat) : Int)), .int (iI m), .ref qam, .ref qrat, .ref qrm, .ref hw, .ref hsh, .ref ht])), (qrat, .inl (cI, 8, .inl (fun j => iI (ra j))))]) O hK hE (c_X3_isRegister E hE a ha) mlX3_60 smX3_isRegister inX3 cdX3_isRegister 1 (by decide +kernel) ⟨Nat.le_of_ble_eq_true rfl, Nat.le_of_ble_eq_true rfl⟩ [] rfl [] rfl (by decide) [0, 1] rfl (by decide) (by decide) rfl rfl (Nat.le_of_ble_eq_true rfl) ⟨Nat.zero_le _, Nat.zero_le _⟩ dX3_ratio_1 4 rfl (fun z u hu => ?_)
  subst hu
  show TGo X [(h, .inr (3, [.int (iI ((P : Nat) : Int)), .int (iI ((Sc : Nat) : Int)), .int (iI m), .ref qam, .ref qrat, .ref qrm, .ref hw, .ref hsh, .ref ht])), (qrat, .inl (cI, 8, .inl (fun j => iI (ra j))))] 0 0 4 [(0, .ref h), (1, .int (iI a)), (2, .int (iI v))] [.int (iI (bz (decide (0 ≤ a ∧ a < 8))))]
  refine go_if_eq O dX3_ratio_4 17 (by decide) 7 rfl (bz_r _) (fun h4 => ?_) (fun h4 => ?_)
  · refine go_iconst O dX3_ratio_17 18 rfl ?_
    have he := spRat_b (ra := ra) (i := a) (v := v) (fun e => bzd_z h4 (by omega))
    exact hret _ _ _ ra dX3_ratio_18 rfl ⟨by rw [he], by rw [he]⟩
  · refine go_iload_n O dX3_ratio_7 rfl 2 rfl 8 rfl ?_
    refine go_if_lt O dX3_ratio_8 17 (by decide) 11 rfl (by omega) (fun h8 => ?_) (fun h8 => ?_)
    · refine go_iconst O dX3_ratio_17 18 rfl ?_
      have he := spRat_b (ra := ra) (i := a) (v := v) (by omega)
      exact hret _ _ _ ra dX3_ratio_18 rfl ⟨by rw [he], by rw [he]⟩
    · refine go_iload_n O dX3_ratio_11 rfl 2 rfl 12 rfl ?_
      refine go_ldc O dX3_ratio_12 (1000000) kcX3_121 (by decide) 14 rfl ?_
      refine go_icmp_le O dX3_ratio_14 19 (by decide) 17 rfl (by omega) (by omega) (fun h14 => ?_) (fun h14 => ?_)
      · have q1 := bzd_ne h4
        obtain ⟨α, rfl⟩ : ∃ α : Nat, a = (α : Int) := ⟨a.toNat, by omega⟩
        have hα8 : α < 8 := by omega
        refine go_aload_n O dX3_ratio_19 rfl 0 rfl 20 rfl ?_
        refine go_get O hK dX3_ratio_20 hinX3 0 rfl rfl 4 (by decide) flX3_35 rfl 23 rfl ?_
        refine go_iload_n O dX3_ratio_23 rfl 1 rfl 24 rfl ?_
        refine go_iload_n O dX3_ratio_24 rfl 2 rfl 25 rfl ?_
        refine go_iast O hK dX3_ratio_25 1 0 rfl rfl α rfl (by omega) (by omega) (fun j => iI (txs ra α v j)) (fun j _ => txs_up ra α v j) [(h, .inr (3, [.int (iI ((P : Nat) : Int)), .int (iI ((Sc : Nat) : Int)), .int (iI m), .ref qam, .ref qrat, .ref qrm, .ref hw, .ref hsh, .ref ht])), (qrat, .inl (cI, 8, .inl (fun j => iI (txs ra α v j))))] rfl 26 rfl ?_
        refine go_iconst O dX3_ratio_26 27 rfl ?_
        have he := spRat_s (ra := ra) (j := α) (v := v) (by omega)
        exact hret _ _ _ (txs ra α v) dX3_ratio_27 rfl ⟨by rw [he], by rw [he]⟩
      · refine go_iconst O dX3_ratio_17 18 rfl ?_
        have he := spRat_b (ra := ra) (i := a) (v := v) (by omega)
        exact hret _ _ _ ra dX3_ratio_18 rfl ⟨by rw [he], by rw [he]⟩
set_option maxHeartbeats 4000000 in
set_option maxRecDepth 100000 in
/-- type -/
theorem c_X3_type (E : TEn) (hE : EnvOk E) (h qam qrat qrm hw hsh qrow qfac : Nat) (cM : ClassId) (ht ql : Nat) (cI : ClassId) (tx : Nat → Int) (htx : ∀ j, r32 (tx j)) (sz ta : Nat) (tc : Int) (P Sc : Nat) (m v : Int) (hv : r32 v) (hs : sz ≤ 48) : Cti vwCl E yX3_type wsX3_type (rmn 1 21) [.ref h, .int (iI v)] [(h, .inr (3, [.int (iI ((P : Nat) : Int)), .int (iI ((Sc : Nat) : Int)), .int (iI m), .ref qam, .ref qrat, .ref qrm, .ref hw, .ref hsh, .ref ht])), (ht, .inr (1, [.ref ql, .int (iI ((sz : Nat) : Int)), .int (iI ((ta : Nat) : Int)), .int (iI tc)])), (ql, .inl (cI, 48, .inl (fun j => iI (tx j))))] [(cI, .int)] (fun (z : Int) (u : (Nat → Int) × Nat) => z = (spType tx sz v).1 ∧ u = (spType tx sz v).2) (fun u => [(h, .inr (3, [.int (iI ((P : Nat) : Int)), .int (iI ((Sc : Nat) : Int)), .int (iI m), .ref qam, .ref qrat, .ref qrm, .ref hw, .ref hsh, .ref ht])), (ht, .inr (1, [.ref ql, .int (iI ((u.2 : Nat) : Int)), .int (iI ((ta : Nat) : Int)), .int (iI tc)])), (ql, .inl (cI, 48, .inl (fun j => iI (u.1 j))))]) := by
  refine enteri (by decide) (Nat.le_of_ble_eq_true rfl) ?_
  intro X O hK hin2 hret
  show TGo X [(h, .inr (3, [.int (iI ((P : Nat) : Int)), .int (iI ((Sc : Nat) : Int)), .int (iI m), .ref qam, .ref qrat, .ref qrm, .ref hw, .ref hsh, .ref ht])), (ht, .inr (1, [.ref ql, .int (iI ((sz : Nat) : Int)), .int (iI ((ta : Nat) : Int)), .int (iI tc)])), (ql, .inl (cI, 48, .inl (fun j => iI (tx j))))] 0 0 0 [(0, .ref h), (1, .int (iI v))] []
  refine go_iload_n O dX3_type_0 rfl 1 rfl 1 rfl ?_
  refine go_bipush O dX3_type_1 (by decide) 3 rfl ?_
  refine go_icmp_lt O dX3_type_3 24 (by decide) 6 rfl (by omega) (by omega) (fun h3 => ?_) (fun h3 => ?_)
  · refine go_bipush O dX3_type_24 (by decide) 26 rfl ?_
    have he := spType_b (tx := tx) (sz := sz) (c := v) (by omega)
    exact hret _ _ _ (tx, sz) dX3_type_26 rfl ⟨by rw [he], by rw [he]⟩
  · refine go_iload_n O dX3_type_6 rfl 1 rfl 7 rfl ?_
    refine go_bipush O dX3_type_7 (by decide) 9 rfl ?_
    refine go_icmp_gt O dX3_type_9 24 (by decide) 12 rfl (by omega) (by omega) (fun h9 => ?_) (fun h9 => ?_)
    · refine go_bipush O dX3_type_24 (by decide) 26 rfl ?_
      have he := spType_b (tx := tx) (sz := sz) (c := v) (by omega)
      exact hret _ _ _ (tx, sz) dX3_type_26 rfl ⟨by rw [he], by rw [he]⟩
    · refine go_aload_n O dX3_type_12 rfl 0 rfl 13 rfl ?_
      refine go_get O hK dX3_type_13 hinX3 0 rfl rfl 8 (by decide) flX3_56 rfl 16 rfl ?_
      refine go_get O hK dX3_type_16 hinX1 1 rfl rfl 1 (by decide) flX3_162 rfl 19 rfl ?_
      refine go_bipush O dX3_type_19 (by decide) 21 rfl ?_
      refine go_icmp_lt O dX3_type_21 27 (by decide) 24 rfl (by omega) (by omega) (fun h21 => ?_) (fun h21 => ?_)
      · refine go_aload_n O dX3_type_27 rfl 0 rfl 28 rfl ?_
        refine go_get O hK dX3_type_28 hinX3 0 rfl rfl 8 (by decide) flX3_56 rfl 31 rfl ?_
        refine go_iload_n O dX3_type_31 rfl 1 rfl 32 rfl ?_
        refine go_callvV (As := [.int (iI v)]) (rest := []) (wr := [(h, .inr (3, [.int (iI ((P : Nat) : Int)), .int (iI ((Sc : Nat) : Int)), .int (iI m), .ref qam, .ref qrat, .ref qrm, .ref hw, .ref hsh, .ref ht]))]) O hK hE (c_X1_append E hE ht ql cI tx htx sz ta tc v (by omega)) mlX3_168 imX1_append seX1_append inX1 cdX1_append 1 (by decide +kernel) ⟨Nat.le_of_ble_eq_true rfl, Nat.le_of_ble_eq_true rfl⟩ 1 rfl rfl [0] rfl [1, 2] rfl (by decide) [0] rfl (by decide) (by decide) rfl rfl (Nat.le_of_ble_eq_true rfl) ⟨Nat.zero_le _, Nat.zero_le _⟩ dX3_type_32 35 rfl (fun u hu => ?_)
        show TGo X [(h, .inr (3, [.int (iI ((P : Nat) : Int)), .int (iI ((Sc : Nat) : Int)), .int (iI m), .ref qam, .ref qrat, .ref qrm, .ref hw, .ref hsh, .ref ht])), (ht, .inr (1, [.ref ql, .int (iI ((sz + 1 : Nat) : Int)), .int (iI ((ta : Nat) : Int)), .int (iI tc)])), (ql, .inl (cI, 48, .inl (fun j => iI (txs tx sz v j))))] 0 0 35 [(0, .ref h), (1, .int (iI v))] []
        refine go_aload_n O dX3_type_35 rfl 0 rfl 36 rfl ?_
        refine go_get O hK dX3_type_36 hinX3 0 rfl rfl 8 (by decide) flX3_56 rfl 39 rfl ?_
        refine go_get O hK dX3_type_39 hinX1 1 rfl rfl 1 (by decide) flX3_162 rfl 42 rfl ?_
        have he := spType_s (tx := tx) (sz := sz) (c := v) (by omega)
        exact hret _ _ _ (txs tx sz v, sz + 1) dX3_type_42 rfl ⟨by rw [he]; exact Int.natCast_add _ _, by rw [he]⟩
      · refine go_bipush O dX3_type_24 (by decide) 26 rfl ?_
        have he := spType_b (tx := tx) (sz := sz) (c := v) (by omega)
        exact hret _ _ _ (tx, sz) dX3_type_26 rfl ⟨by rw [he], by rw [he]⟩
set_option maxHeartbeats 4000000 in
set_option maxRecDepth 100000 in
/-- wipe -/
theorem c_X3_wipe (E : TEn) (hE : EnvOk E) (h qam qrat qrm hw hsh qrow qfac : Nat) (cM : ClassId) (ht ql : Nat) (cI : ClassId) (tx : Nat → Int) (htx : ∀ j, r32 (tx j)) (sz ta : Nat) (tc : Int) (P Sc : Nat) (m : Int) : Ctv vwCl E yX3_wipe wsX3_wipe (rmn 0 0) [.ref h] [(h, .inr (3, [.int (iI ((P : Nat) : Int)), .int (iI ((Sc : Nat) : Int)), .int (iI m), .ref qam, .ref qrat, .ref qrm, .ref hw, .ref hsh, .ref ht])), (ht, .inr (1, [.ref ql, .int (iI ((sz : Nat) : Int)), .int (iI ((ta : Nat) : Int)), .int (iI tc)])), (ql, .inl (cI, 48, .inl (fun j => iI (tx j))))] [(cI, .int)] (fun _ : Unit => True) (fun _ => [(h, .inr (3, [.int (iI ((P : Nat) : Int)), .int (iI ((Sc : Nat) : Int)), .int (iI m), .ref qam, .ref qrat, .ref qrm, .ref hw, .ref hsh, .ref ht])), (ht, .inr (1, [.ref ql, .int (iI 0), .int (iI ((ta : Nat) : Int)), .int (iI tc)])), (ql, .inl (cI, 48, .inl (fun j => iI (tx j))))]) := by
  refine enterv (by decide) (Nat.le_of_ble_eq_true rfl) ?_
  intro X O hK hin2 hret
  show TGo X [(h, .inr (3, [.int (iI ((P : Nat) : Int)), .int (iI ((Sc : Nat) : Int)), .int (iI m), .ref qam, .ref qrat, .ref qrm, .ref hw, .ref hsh, .ref ht])), (ht, .inr (1, [.ref ql, .int (iI ((sz : Nat) : Int)), .int (iI ((ta : Nat) : Int)), .int (iI tc)])), (ql, .inl (cI, 48, .inl (fun j => iI (tx j))))] 0 0 0 [(0, .ref h)] []
  refine go_aload_n O dX3_wipe_0 rfl 0 rfl 1 rfl ?_
  refine go_get O hK dX3_wipe_1 hinX3 0 rfl rfl 8 (by decide) flX3_56 rfl 4 rfl ?_
  refine go_iconst O dX3_wipe_4 5 rfl ?_
  refine go_put O hK dX3_wipe_5 hinX1 tyX1 tyX1_ok nmX1 1 rfl rfl 1 (by decide) flX3_162 rfl rfl rfl rfl (Nat.le_of_ble_eq_true rfl) [(h, .inr (3, [.int (iI ((P : Nat) : Int)), .int (iI ((Sc : Nat) : Int)), .int (iI m), .ref qam, .ref qrat, .ref qrm, .ref hw, .ref hsh, .ref ht])), (ht, .inr (1, [.ref ql, .int (iI 0), .int (iI ((ta : Nat) : Int)), .int (iI tc)])), (ql, .inl (cI, 48, .inl (fun j => iI (tx j))))] rfl 8 rfl ?_
  exact hret _ _ () dX3_wipe_8 trivial
set_option maxHeartbeats 4000000 in
set_option maxRecDepth 100000 in
/-- letter -/
theorem c_X3_letter (E : TEn) (hE : EnvOk E) (h qam qrat qrm hw hsh qrow qfac : Nat) (cM : ClassId) (ht ql : Nat) (cI : ClassId) (tx : Nat → Int) (htx : ∀ j, r32 (tx j)) (sz ta : Nat) (tc : Int) (P Sc : Nat) (m v : Int) (hv : r32 v) (hs : sz ≤ 48) : Cti vwCl E yX3_letter wsX3_letter (rmn 0 0) [.ref h, .int (iI v)] [(h, .inr (3, [.int (iI ((P : Nat) : Int)), .int (iI ((Sc : Nat) : Int)), .int (iI m), .ref qam, .ref qrat, .ref qrm, .ref hw, .ref hsh, .ref ht])), (ht, .inr (1, [.ref ql, .int (iI ((sz : Nat) : Int)), .int (iI ((ta : Nat) : Int)), .int (iI tc)])), (ql, .inl (cI, 48, .inl (fun j => iI (tx j))))] [(cI, .int)] (fun (z : Int) (_ : Unit) => z = spLet tx sz v) (fun _ => [(h, .inr (3, [.int (iI ((P : Nat) : Int)), .int (iI ((Sc : Nat) : Int)), .int (iI m), .ref qam, .ref qrat, .ref qrm, .ref hw, .ref hsh, .ref ht])), (ht, .inr (1, [.ref ql, .int (iI ((sz : Nat) : Int)), .int (iI ((ta : Nat) : Int)), .int (iI tc)])), (ql, .inl (cI, 48, .inl (fun j => iI (tx j))))]) := by
  refine enteri (by decide) (Nat.le_of_ble_eq_true rfl) ?_
  intro X O hK hin2 hret
  show TGo X [(h, .inr (3, [.int (iI ((P : Nat) : Int)), .int (iI ((Sc : Nat) : Int)), .int (iI m), .ref qam, .ref qrat, .ref qrm, .ref hw, .ref hsh, .ref ht])), (ht, .inr (1, [.ref ql, .int (iI ((sz : Nat) : Int)), .int (iI ((ta : Nat) : Int)), .int (iI tc)])), (ql, .inl (cI, 48, .inl (fun j => iI (tx j))))] 0 0 0 [(0, .ref h), (1, .int (iI v))] []
  refine go_iload_n O dX3_letter_0 rfl 1 rfl 1 rfl ?_
  refine go_if_lt O dX3_letter_1 15 (by decide) 4 rfl (by omega) (fun h1 => ?_) (fun h1 => ?_)
  · refine go_bipush O dX3_letter_15 (by decide) 17 rfl ?_
    exact hret _ _ _ () dX3_letter_17 rfl (spLet_b (by omega))
  · refine go_iload_n O dX3_letter_4 rfl 1 rfl 5 rfl ?_
    refine go_aload_n O dX3_letter_5 rfl 0 rfl 6 rfl ?_
    refine go_get O hK dX3_letter_6 hinX3 0 rfl rfl 8 (by decide) flX3_56 rfl 9 rfl ?_
    refine go_get O hK dX3_letter_9 hinX1 1 rfl rfl 1 (by decide) flX3_162 rfl 12 rfl ?_
    refine go_icmp_lt O dX3_letter_12 18 (by decide) 15 rfl (by omega) (by omega) (fun h12 => ?_) (fun h12 => ?_)
    · obtain ⟨j, rfl⟩ : ∃ j : Nat, v = (j : Int) := ⟨v.toNat, by omega⟩
      have hj := htx j
      refine go_aload_n O dX3_letter_18 rfl 0 rfl 19 rfl ?_
      refine go_get O hK dX3_letter_19 hinX3 0 rfl rfl 8 (by decide) flX3_56 rfl 22 rfl ?_
      refine go_get O hK dX3_letter_22 hinX1 1 rfl rfl 0 (by decide) flX3_175 rfl 25 rfl ?_
      refine go_iload_n O dX3_letter_25 rfl 1 rfl 26 rfl ?_
      refine go_iald O hK dX3_letter_26 2 0 rfl rfl j rfl (by omega) (by omega) (tx j) rfl 27 rfl ?_
      exact hret _ _ _ () dX3_letter_27 rfl (spLet_s (by omega))
    · refine go_bipush O dX3_letter_15 (by decide) 17 rfl ?_
      exact hret _ _ _ () dX3_letter_17 rfl (spLet_b (by omega))
