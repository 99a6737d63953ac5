/-- a fact put by, that omega is not to look into -/
def Hid (p : Prop) : Prop := p
theorem Hid.out {p : Prop} (h : Hid p) : p := h
theorem Hid.mk {p : Prop} (h : p) : Hid p := h
/-! Rounding of a row at a place, to a multiple of 1, 2 or 5. -/
theorem bz_nat (b : Bool) : bz b = ((b.toNat : Nat) : Int) := by cases b <;> rfl
theorem tm_R {W P st : Nat} (hP : 1 ≤ P) : W % (st * 10 ^ P) = (W / 10 ^ P % st * 10 + W / 10 ^ (P - 1) % 10) * 10 ^ (P - 1) + W % 10 ^ (P - 1) := by
  obtain ⟨k, rfl⟩ : ∃ k, P = k + 1 := ⟨P - 1, by omega⟩
  rw [Nat.mul_comm, Nat.mod_mul, Nat.add_sub_cancel, tmodS, Nat.add_mul, Nat.mul_assoc _ 10, ← p10s, Nat.mul_comm (10 ^ (k + 1))]
  omega
theorem tm_lw {W P : Nat} : W / 10 ^ (P + 1) % 10 * 10 + W / 10 ^ P % 10 = W / 10 ^ P % 100 := by rw [tq10]; omega
theorem tm_facts {W P st : Nat} {go : Bool} (hP : 1 ≤ P) (hst : st = 1 ∨ st = 2 ∨ st = 5) :
    (W / 10 ^ (P + 1) % 10 * 10 + W / 10 ^ P % 10) % st = W / 10 ^ P % st ∧ (W / 10 ^ (P + 1) % 10 * 10 + W / 10 ^ P % 10) / st % 2 = W / (st * 10 ^ P) % 2 ∧
    (2 * (W % (st * 10 ^ P)) + go.toNat = 0 ↔ (W / 10 ^ (P + 1) % 10 * 10 + W / 10 ^ P % 10) % st * 10 + W / 10 ^ (P - 1) % 10 = 0 ∧ W % 10 ^ (P - 1) = 0 ∧ bz go = 0) ∧
    ((W / 10 ^ (P + 1) % 10 * 10 + W / 10 ^ P % 10) % st * 10 + W / 10 ^ (P - 1) % 10 < 5 * st → 2 * (2 * (W % (st * 10 ^ P)) + go.toNat) < 2 * (st * 10 ^ P)) ∧
    (5 * st < (W / 10 ^ (P + 1) % 10 * 10 + W / 10 ^ P % 10) % st * 10 + W / 10 ^ (P - 1) % 10 → 2 * (st * 10 ^ P) < 2 * (2 * (W % (st * 10 ^ P)) + go.toNat)) ∧
    ((W / 10 ^ (P + 1) % 10 * 10 + W / 10 ^ P % 10) % st * 10 + W / 10 ^ (P - 1) % 10 = 5 * st → (W % 10 ^ (P - 1) ≠ 0 ∨ bz go = 1 → 2 * (st * 10 ^ P) < 2 * (2 * (W % (st * 10 ^ P)) + go.toNat)) ∧ (W % 10 ^ (P - 1) = 0 ∧ bz go = 0 → 2 * (2 * (W % (st * 10 ^ P)) + go.toNat) = 2 * (st * 10 ^ P))) := by
  have e1 : (W / 10 ^ (P + 1) % 10 * 10 + W / 10 ^ P % 10) % st = W / 10 ^ P % st := by
    rw [tm_lw]; rcases hst with rfl | rfl | rfl <;> omega
  have e2 : (W / 10 ^ (P + 1) % 10 * 10 + W / 10 ^ P % 10) / st % 2 = W / (st * 10 ^ P) % 2 := by
    rw [tm_lw, Nat.mul_comm st, ← Nat.div_div_eq_div_mul]; rcases hst with rfl | rfl | rfl <;> omega
  refine ⟨e1, e2, ?_⟩
  rw [e1, tm_R hP, bz_nat]
  have hg : go.toNat ≤ 1 := by cases go <;> decide
  have hT : 0 < 10 ^ (P - 1) := p10 _
  have hlow : W % 10 ^ (P - 1) < 10 ^ (P - 1) := Nat.mod_lt _ hT
  have hU : st * 10 ^ P = 2 * (5 * st * 10 ^ (P - 1)) := by
    obtain ⟨k, rfl⟩ : ∃ k, P = k + 1 := ⟨P - 1, by omega⟩
    rw [Nat.add_sub_cancel, p10s, ← Nat.mul_assoc, ← Nat.mul_assoc, ← Nat.mul_assoc, Nat.mul_comm st 10]
  rw [hU]
  generalize W / 10 ^ P % st * 10 + W / 10 ^ (P - 1) % 10 = tn
  generalize W % 10 ^ (P - 1) = low at *
  generalize 10 ^ (P - 1) = T at *
  generalize go.toNat = g at *
  refine ⟨⟨fun h => ?_, fun h => ?_⟩, fun h => ?_, fun h => ?_, fun h => ⟨fun h2 => ?_, fun h2 => ?_⟩⟩
  · have h1 : tn * T = 0 := by omega
    rcases Nat.mul_eq_zero.mp h1 with h2 | h2 <;> omega
  · rw [h.1, Nat.zero_mul]; omega
  · have h1 : (tn + 1) * T ≤ 5 * st * T := Nat.mul_le_mul_right _ h
    rw [Nat.add_mul, Nat.one_mul] at h1
    omega
  · have h1 : (5 * st + 1) * T ≤ tn * T := Nat.mul_le_mul_right _ h
    rw [Nat.add_mul, Nat.one_mul] at h1
    omega
  · rw [h]; omega
  · rw [h]; omega
theorem tm_V1 {W P st : Nat} : (((W / (st * 10 ^ P) + 1) * (st * 10 ^ P) : Nat) : Int) = ((W / 10 ^ P * 10 ^ P : Nat) : Int) + ((st : Int) - ((W / 10 ^ P % st : Nat) : Int)) * (10 ^ P : Nat) := by
  have h := Nat.div_add_mod (W / 10 ^ P) st
  have h1 : W / (st * 10 ^ P) = W / 10 ^ P / st := by rw [Nat.mul_comm st, ← Nat.div_div_eq_div_mul]
  have h2 : (W / (st * 10 ^ P) + 1) * (st * 10 ^ P) = ((W / 10 ^ P / st + 1) * st) * 10 ^ P := by rw [h1, Nat.mul_assoc]
  have h3 : (W / 10 ^ P / st + 1) * st = W / 10 ^ P + st - W / 10 ^ P % st := by rw [Nat.add_mul, Nat.one_mul, Nat.mul_comm]; omega
  rw [h2, Int.natCast_mul, Int.natCast_mul (W / 10 ^ P), ← Int.add_mul]
  congr 1
  rw [h3]
  have h4 : W / 10 ^ P % st ≤ W / 10 ^ P := Nat.mod_le _ _
  omega
theorem tm_V0 {W P st : Nat} : ((W / (st * 10 ^ P) * (st * 10 ^ P) : Nat) : Int) = ((W / 10 ^ P * 10 ^ P : Nat) : Int) + (0 - ((W / 10 ^ P % st : Nat) : Int)) * (10 ^ P : Nat) := by
  have h := Nat.div_add_mod (W / 10 ^ P) st
  have h1 : W / (st * 10 ^ P) = W / 10 ^ P / st := by rw [Nat.mul_comm st, ← Nat.div_div_eq_div_mul]
  have h2 : W / (st * 10 ^ P) * (st * 10 ^ P) = (W / 10 ^ P / st * st) * 10 ^ P := by rw [h1, Nat.mul_assoc]
  have h3 : W / 10 ^ P / st * st = W / 10 ^ P - W / 10 ^ P % st := by rw [Nat.mul_comm]; omega
  rw [h2, Int.natCast_mul, Int.natCast_mul (W / 10 ^ P), ← Int.add_mul]
  congr 1
  rw [h3]
  have h4 : W / 10 ^ P % st ≤ W / 10 ^ P := Nat.mod_le _ _
  omega
theorem zero_low {W P : Nat} {g : Nat → Int32} (h1 : ∀ j, j < P → g j = iI 0) (h2 : ∀ j, P ≤ j → g j = dg W j) : ∀ j, g j = dg (W / 10 ^ P * 10 ^ P) j := by
  intro j
  rw [dg_shift]
  by_cases e : P ≤ j
  · rw [if_pos e, h2 j e, dg_at, dg_at]
    have : j = P + (j - P) := by omega
    rw [this, tqadd, show P + (j - P) - P = j - P by omega]
  · rw [if_neg e]; exact h1 j (by omega)
theorem tm_half {tn s5 a b low : Nat} {g hf : Int} (k4 : tn < s5 → b < a) (k5 : s5 < tn → a < b) (k6 : tn = s5 → (low ≠ 0 ∨ g = 1 → a < b) ∧ (low = 0 ∧ g = 0 → b = a)) (hz : (hf = -1 ∧ tn < s5) ∨ (hf = 0 ∧ tn = s5 ∧ low = 0 ∧ g = 0) ∨ (hf = 1 ∧ (s5 < tn ∨ (tn = s5 ∧ (low ≠ 0 ∨ g = 1))))) : (0 ≤ hf ↔ a ≤ b) ∧ (0 < hf ↔ a < b) := by
  rcases hz with ⟨h1, h2⟩ | ⟨h1, h2, h3⟩ | ⟨h1, h2 | ⟨h2, h3⟩⟩
  · have := k4 h2; omega
  · have := (k6 h2).2 h3; omega
  · have := k5 h2; omega
  · have := (k6 h2).1 h3; omega
theorem tm_aw {mode bn hf od z : Int} {Q R D : Nat} (q1 : 0 ≤ hf ↔ D ≤ 2 * R) (q2 : 0 < hf ↔ D < 2 * R) (ho : (od = 1 ∧ Q % 2 = 1) ∨ (od = 0 ∧ ¬ Q % 2 = 1))
    (h : (z = 1 ∧ (mode = 0 ∨ (mode = 2 ∧ bn = 0) ∨ (mode = 3 ∧ bn = 1) ∨ (mode = 4 ∧ 0 ≤ hf) ∨ (mode = 5 ∧ 0 < hf) ∨ (mode = 6 ∧ (0 < hf ∨ (hf = 0 ∧ od = 1))))) ∨ (z = 0 ∧ ¬ (mode = 0 ∨ (mode = 2 ∧ bn = 0) ∨ (mode = 3 ∧ bn = 1) ∨ (mode = 4 ∧ 0 ≤ hf) ∨ (mode = 5 ∧ 0 < hf) ∨ (mode = 6 ∧ (0 < hf ∨ (hf = 0 ∧ od = 1)))))) :
    (z = 1 ∧ (mode = 0 ∨ (mode = 2 ∧ bn = 0) ∨ (mode = 3 ∧ bn = 1) ∨ (mode = 4 ∧ D ≤ 2 * R) ∨ (mode = 5 ∧ D < 2 * R) ∨ (mode = 6 ∧ (D < 2 * R ∨ (D ≤ 2 * R ∧ Q % 2 = 1))))) ∨ (z = 0 ∧ ¬ (mode = 0 ∨ (mode = 2 ∧ bn = 0) ∨ (mode = 3 ∧ bn = 1) ∨ (mode = 4 ∧ D ≤ 2 * R) ∨ (mode = 5 ∧ D < 2 * R) ∨ (mode = 6 ∧ (D < 2 * R ∨ (D ≤ 2 * R ∧ Q % 2 = 1))))) := by
  rcases h with ⟨h1, h2⟩ | ⟨h1, h2⟩
  · refine Or.inl ⟨h1, ?_⟩
    rcases h2 with h2 | h2 | h2 | h2 | h2 | h2 <;> omega
  · refine Or.inr ⟨h1, fun h3 => h2 ?_⟩
    rcases h3 with h3 | h3 | h3 | h3 | h3 | h3 <;> omega
set_option maxHeartbeats 4000000 in
set_option maxRecDepth 100000 in
/-- Work.toMultiple -/
theorem c_X2_toMultiple (E : TEn) (hE : EnvOk E) (hN : NestOk E) (hw qrow qfac : Nat) (cI : ClassId) (ng go : Bool) (W P st : Nat) (mode : Int) (hW : W < 10 ^ 72) (hP1 : 1 ≤ P) (hP2 : P ≤ 70) (hst : st = 1 ∨ st = 2 ∨ st = 5) (hm : 0 ≤ mode ∧ mode ≤ 7) : Cti vwCl E yX2_toMultiple wsX2_toMultiple (rmn 3 67) [.ref hw, .int (iI ((P : Nat) : Int)), .int (iI ((st : Nat) : Int)), .int (iI mode)] [(hw, .inr (2, [.ref qrow, .ref qfac, .int (iI (bz ng)), .int (iI (bz go))])), (qrow, .inl (cI, 72, .inl (dg W)))] [(cI, .int)] (fun (z : Int) (u : Nat × Bool) => (z = 1 ∧ ((2 * (W % (st * 10 ^ P)) + go.toNat) = 0 ∨ mode ≠ 7) ∧ u.1 = trnd mode ng (W / (st * 10 ^ P)) (2 * (W % (st * 10 ^ P)) + go.toNat) (2 * (st * 10 ^ P)) * (st * 10 ^ P) ∧ u.2 = false) ∨ (z = 0 ∧ (2 * (W % (st * 10 ^ P)) + go.toNat) ≠ 0 ∧ mode = 7 ∧ u.1 = W ∧ u.2 = go)) (fun u => [(hw, .inr (2, [.ref qrow, .ref qfac, .int (iI (bz ng)), .int (iI (bz u.2))])), (qrow, .inl (cI, 72, .inl (dg u.1)))]) := by
  refine enteri (by decide) (Nat.le_of_ble_eq_true rfl) ?_
  intro X O hK hin2 hret
  show TGo X [(hw, .inr (2, [.ref qrow, .ref qfac, .int (iI (bz ng)), .int (iI (bz go))])), (qrow, .inl (cI, 72, .inl (dg W)))] 0 0 0 [(0, .ref hw), (1, .int (iI ((P : Nat) : Int))), (2, .int (iI ((st : Nat) : Int))), (3, .int (iI mode))] []
  have k1 := (tm_facts (W := W) (P := P) (st := st) (go := go) hP1 hst).1
  have hlt : (W / 10 ^ (P + 1) % 10 * 10 + W / 10 ^ P % 10) % st < st := Nat.mod_lt _ (by omega)
  have hx10 : W / 10 ^ P * 10 ^ P < 10 ^ 72 := Nat.lt_of_le_of_lt (Nat.div_mul_le_self _ _) hW
  have lp : ∀ (c : Nat) (i : Nat) (x : Int) (aw : Int) (g : Nat → Int32), c + i = P + 1 → i ≤ P → x = (i : Int) → mode ≠ 7 → Hid ((2 * (W % (st * 10 ^ P)) + go.toNat) ≠ 0) → Hid ((aw = 1 ∧ (mode = 0 ∨ (mode = 2 ∧ bz ng = 0) ∨ (mode = 3 ∧ bz ng = 1) ∨ (mode = 4 ∧ (2 * (st * 10 ^ P)) ≤ 2 * (2 * (W % (st * 10 ^ P)) + go.toNat)) ∨ (mode = 5 ∧ (2 * (st * 10 ^ P)) < 2 * (2 * (W % (st * 10 ^ P)) + go.toNat)) ∨ (mode = 6 ∧ ((2 * (st * 10 ^ P)) < 2 * (2 * (W % (st * 10 ^ P)) + go.toNat) ∨ ((2 * (st * 10 ^ P)) ≤ 2 * (2 * (W % (st * 10 ^ P)) + go.toNat) ∧ W / (st * 10 ^ P) % 2 = 1))))) ∨ (aw = 0 ∧ ¬ (mode = 0 ∨ (mode = 2 ∧ bz ng = 0) ∨ (mode = 3 ∧ bz ng = 1) ∨ (mode = 4 ∧ (2 * (st * 10 ^ P)) ≤ 2 * (2 * (W % (st * 10 ^ P)) + go.toNat)) ∨ (mode = 5 ∧ (2 * (st * 10 ^ P)) < 2 * (2 * (W % (st * 10 ^ P)) + go.toNat)) ∨ (mode = 6 ∧ ((2 * (st * 10 ^ P)) < 2 * (2 * (W % (st * 10 ^ P)) + go.toNat) ∨ ((2 * (st * 10 ^ P)) ≤ 2 * (2 * (W % (st * 10 ^ P)) + go.toNat) ∧ W / (st * 10 ^ P) % 2 = 1)))))) → (aw = 0 ∨ aw = 1) → (∀ j, j < i → g j = iI 0) → (∀ j, i ≤ j → g j = dg W j) → TGo X [(hw, .inr (2, [.ref qrow, .ref qfac, .int (iI (bz ng)), .int (iI (bz go))])), (qrow, .inl (cI, 72, .inl g))] 0 0 135 [(9, .int (iI x)), (8, .int (iI aw)), (4, .int (iI ((W / 10 ^ (P + 1) % 10 * 10 + W / 10 ^ P % 10 : Nat) : Int))), (0, .ref hw), (1, .int (iI ((P : Nat) : Int))), (2, .int (iI ((st : Nat) : Int)))] [] := by
    intro c
    induction c with
    | zero => intro i x aw g h1 h2 hx hm7 hr20 haw0 haw1 hlo hhi; omega
    | succ c ih =>
      intro i x aw g h1 h2 hx hm7 hr20 haw0 haw1 hlo hhi
      refine go_iload O dX2_toMultiple_135 0 rfl 137 rfl ?_
      refine go_iload_n O dX2_toMultiple_137 rfl 4 rfl 138 rfl ?_
      refine go_icmp_ge O dX2_toMultiple_138 155 (by decide) 141 rfl (by omega) (by omega) (fun h138 => ?_) (fun h138 => ?_)
      · refine TGo.arr 1 rfl (dg (W / 10 ^ P * 10 ^ P)) (fun j _ => zero_low (fun j e => hlo j (by omega)) (fun j e => hhi j (by omega)) j) (ws' := [(hw, .inr (2, [.ref qrow, .ref qfac, .int (iI (bz ng)), .int (iI (bz go))])), (qrow, .inl (cI, 72, .inl (dg (W / 10 ^ P * 10 ^ P))))]) rfl ?_
        refine go_aload_n O dX2_toMultiple_155 rfl 3 rfl 156 rfl ?_
        refine go_iconst O dX2_toMultiple_156 157 rfl ?_
        refine go_put O hK dX2_toMultiple_157 hinX2 tyX2 tyX2_ok nmX2 0 rfl rfl 3 (by decide) flX2_28 rfl rfl rfl rfl (Nat.le_of_ble_eq_true rfl) [(hw, .inr (2, [.ref qrow, .ref qfac, .int (iI (bz ng)), .int (iI 0)])), (qrow, .inl (cI, 72, .inl (dg (W / 10 ^ P * 10 ^ P))))] rfl 160 rfl ?_
        refine go_aload_n O dX2_toMultiple_160 rfl 3 rfl 161 rfl ?_
        refine go_iload_n O dX2_toMultiple_161 rfl 4 rfl 162 rfl ?_
        refine go_iload O dX2_toMultiple_162 1 rfl 164 rfl ?_
        refine go_if_eq O dX2_toMultiple_164 171 (by decide) 167 rfl (by omega) (fun h164 => ?_) (fun h164 => ?_)
        · refine go_iconst O dX2_toMultiple_171 172 rfl ?_
          refine go_iload O dX2_toMultiple_172 2 rfl 174 rfl ?_
          refine go_iload_n O dX2_toMultiple_174 rfl 5 rfl 175 rfl ?_
          refine go_irem O dX2_toMultiple_175 (by omega) (by omega) (by omega) (by omega) (((W / 10 ^ (P + 1) % 10 * 10 + W / 10 ^ P % 10) % st : Nat) : Int) rfl 176 rfl ?_
          refine go_isub O dX2_toMultiple_176 (0 - ((((W / 10 ^ (P + 1) % 10 * 10 + W / 10 ^ P % 10) % st : Nat)) : Int)) rfl 177 rfl ?_
          refine go_callvV (As := [.int (iI ((P : Nat) : Int)), .int (iI (0 - ((((W / 10 ^ (P + 1) % 10 * 10 + W / 10 ^ P % 10) % st : Nat)) : Int)))]) (rest := []) (wr := []) O hK hE (c_X2_increase E hE hw qrow qfac cI ng false (W / 10 ^ P * 10 ^ P) P (W / (st * 10 ^ P) * (st * 10 ^ P)) ((0 - ((((W / 10 ^ (P + 1) % 10 * 10 + W / 10 ^ P % 10) % st : Nat)) : Int))) hx10 (by omega) (by omega) (by rw [k1]; exact tm_V0)) mlX2_81 imX2_increase seX2_increase inX2 cdX2_increase 2 (by decide +kernel) ⟨Nat.le_of_ble_eq_true rfl, Nat.le_of_ble_eq_true rfl⟩ 0 rfl rfl [0] rfl [0, 1] rfl (by decide) [] rfl (by decide) (by decide) rfl rfl (Nat.le_of_ble_eq_true rfl) ⟨Nat.zero_le _, Nat.zero_le _⟩ dX2_toMultiple_177 180 rfl (fun u hu => ?_)
          show TGo X [(hw, .inr (2, [.ref qrow, .ref qfac, .int (iI (bz ng)), .int (iI 0)])), (qrow, .inl (cI, 72, .inl (dg (W / (st * 10 ^ P) * (st * 10 ^ P)))))] 0 0 180 [(9, .int (iI x)), (8, .int (iI aw)), (4, .int (iI ((W / 10 ^ (P + 1) % 10 * 10 + W / 10 ^ P % 10 : Nat) : Int))), (0, .ref hw), (1, .int (iI ((P : Nat) : Int))), (2, .int (iI ((st : Nat) : Int)))] []
          refine go_iconst O dX2_toMultiple_180 181 rfl ?_
          have haw := Hid.out haw0
          have hr2 := Hid.out hr20
          clear ih hlo hhi
          exact hret _ _ _ ((W / (st * 10 ^ P) * (st * 10 ^ P)), false) dX2_toMultiple_181 rfl (Or.inl ⟨rfl, Or.inr hm7, by rw [trnd_no (haw.elim (fun e => absurd e.1 (by omega)) (fun e => e.2))], rfl⟩)
        · refine go_iload_n O dX2_toMultiple_167 rfl 5 rfl 168 rfl ?_
          refine go_goto O dX2_toMultiple_168 172 (by decide) ?_
          refine go_iload O dX2_toMultiple_172 2 rfl 174 rfl ?_
          refine go_iload_n O dX2_toMultiple_174 rfl 5 rfl 175 rfl ?_
          refine go_irem O dX2_toMultiple_175 (by omega) (by omega) (by omega) (by omega) (((W / 10 ^ (P + 1) % 10 * 10 + W / 10 ^ P % 10) % st : Nat) : Int) rfl 176 rfl ?_
          refine go_isub O dX2_toMultiple_176 (((st : Nat) : Int) - ((((W / 10 ^ (P + 1) % 10 * 10 + W / 10 ^ P % 10) % st : Nat)) : Int)) rfl 177 rfl ?_
          refine go_callvV (As := [.int (iI ((P : Nat) : Int)), .int (iI (((st : Nat) : Int) - ((((W / 10 ^ (P + 1) % 10 * 10 + W / 10 ^ P % 10) % st : Nat)) : Int)))]) (rest := []) (wr := []) O hK hE (c_X2_increase E hE hw qrow qfac cI ng false (W / 10 ^ P * 10 ^ P) P ((W / (st * 10 ^ P) + 1) * (st * 10 ^ P)) ((((st : Nat) : Int) - ((((W / 10 ^ (P + 1) % 10 * 10 + W / 10 ^ P % 10) % st : Nat)) : Int))) hx10 (by omega) (by omega) (by rw [k1]; exact tm_V1)) mlX2_81 imX2_increase seX2_increase inX2 cdX2_increase 2 (by decide +kernel) ⟨Nat.le_of_ble_eq_true rfl, Nat.le_of_ble_eq_true rfl⟩ 0 rfl rfl [0] rfl [0, 1] rfl (by decide) [] rfl (by decide) (by decide) rfl rfl (Nat.le_of_ble_eq_true rfl) ⟨Nat.zero_le _, Nat.zero_le _⟩ dX2_toMultiple_177 180 rfl (fun u hu => ?_)
          show TGo X [(hw, .inr (2, [.ref qrow, .ref qfac, .int (iI (bz ng)), .int (iI 0)])), (qrow, .inl (cI, 72, .inl (dg ((W / (st * 10 ^ P) + 1) * (st * 10 ^ P)))))] 0 0 180 [(9, .int (iI x)), (8, .int (iI aw)), (4, .int (iI ((W / 10 ^ (P + 1) % 10 * 10 + W / 10 ^ P % 10 : Nat) : Int))), (0, .ref hw), (1, .int (iI ((P : Nat) : Int))), (2, .int (iI ((st : Nat) : Int)))] []
          refine go_iconst O dX2_toMultiple_180 181 rfl ?_
          have haw := Hid.out haw0
          have hr2 := Hid.out hr20
          clear ih hlo hhi
          exact hret _ _ _ (((W / (st * 10 ^ P) + 1) * (st * 10 ^ P)), false) dX2_toMultiple_181 rfl (Or.inl ⟨rfl, Or.inr hm7, by rw [trnd_up hr2 (haw.elim (fun e => e.2) (fun e => absurd e.1 (by omega)))], rfl⟩)
      · refine go_aload_n O dX2_toMultiple_141 rfl 3 rfl 142 rfl ?_
        refine go_get O hK dX2_toMultiple_142 hinX2 0 rfl rfl 0 (by decide) flX2_9 rfl 145 rfl ?_
        refine go_iload O dX2_toMultiple_145 0 rfl 147 rfl ?_
        refine go_iconst O dX2_toMultiple_147 148 rfl ?_
        refine go_iast O hK dX2_toMultiple_148 1 0 rfl rfl i hx (by omega) (by omega) (upd g i (iI 0)) (fun _ _ => rfl) [(hw, .inr (2, [.ref qrow, .ref qfac, .int (iI (bz ng)), .int (iI (bz go))])), (qrow, .inl (cI, 72, .inl (upd g i (iI 0))))] rfl 149 rfl ?_
        refine go_iinc O dX2_toMultiple_149 0 rfl ((i + 1 : Nat) : Int) (by omega) (by decide) [(9, .int (iI ((i + 1 : Nat) : Int))), (8, .int (iI aw)), (4, .int (iI ((W / 10 ^ (P + 1) % 10 * 10 + W / 10 ^ P % 10 : Nat) : Int))), (0, .ref hw), (1, .int (iI ((P : Nat) : Int))), (2, .int (iI ((st : Nat) : Int)))] rfl 152 rfl ?_
        refine go_goto O dX2_toMultiple_152 135 (by decide) ?_
        refine TGo.lsub (lv' := [(9, .int (iI ((i + 1 : Nat) : Int))), (8, .int (iI aw)), (4, .int (iI ((W / 10 ^ (P + 1) % 10 * 10 + W / 10 ^ P % 10 : Nat) : Int))), (0, .ref hw), (1, .int (iI ((P : Nat) : Int))), (2, .int (iI ((st : Nat) : Int)))]) [0, 1, 2, 3, 4, 5] rfl ?_
        exact ih (i + 1) _ _ _ (by omega) (by omega) (by omega) hm7 hr20 haw0 haw1 (lo_upd (F := fun _ => iI 0) hlo rfl) (hi_upd hhi)
  have m109 : ∀ (hf : Int), r32 hf → mode ≠ 7 → Hid ((2 * (W % (st * 10 ^ P)) + go.toNat) ≠ 0) → Hid ((0 ≤ hf ↔ (2 * (st * 10 ^ P)) ≤ 2 * (2 * (W % (st * 10 ^ P)) + go.toNat)) ∧ (0 < hf ↔ (2 * (st * 10 ^ P)) < 2 * (2 * (W % (st * 10 ^ P)) + go.toNat))) → TGo X [(hw, .inr (2, [.ref qrow, .ref qfac, .int (iI (bz ng)), .int (iI (bz go))])), (qrow, .inl (cI, 72, .inl (dg W)))] 0 0 109 [(7, .int (iI hf)), (4, .int (iI ((W / 10 ^ (P + 1) % 10 * 10 + W / 10 ^ P % 10 : Nat) : Int))), (0, .ref hw), (1, .int (iI ((P : Nat) : Int))), (2, .int (iI ((st : Nat) : Int))), (3, .int (iI mode))] [] := by
    intro hf hfr hm7 hr20 q12
    have k2 := (tm_facts (W := W) (P := P) (st := st) (go := go) hP1 hst).2.1
    have hdv : (W / 10 ^ (P + 1) % 10 * 10 + W / 10 ^ P % 10) / st ≤ 99 := Nat.le_trans (Nat.div_le_self _ _) (by omega)
    have b1 := bz_01 ng
    refine go_aload_n O dX2_toMultiple_109 rfl 2 rfl 110 rfl ?_
    refine go_iload_n O dX2_toMultiple_110 rfl 5 rfl 111 rfl ?_
    refine go_iload O dX2_toMultiple_111 0 rfl 113 rfl ?_
    refine go_iload O dX2_toMultiple_113 1 rfl 115 rfl ?_
    refine go_iload_n O dX2_toMultiple_115 rfl 4 rfl 116 rfl ?_
    refine go_idiv O dX2_toMultiple_116 (by omega) (by omega) (by omega) (by omega) (((W / 10 ^ (P + 1) % 10 * 10 + W / 10 ^ P % 10) / st : Nat) : Int) rfl 117 rfl ?_
    refine go_iconst O dX2_toMultiple_117 118 rfl ?_
    refine go_irem O dX2_toMultiple_118 (Int.natCast_nonneg _) (by omega) (by omega) (by omega) (((W / 10 ^ (P + 1) % 10 * 10 + W / 10 ^ P % 10) / st % 2 : Nat) : Int) rfl 119 rfl ?_
    refine go_if_eq O dX2_toMultiple_119 126 (by decide) 122 rfl (by omega) (fun h119 => ?_) (fun h119 => ?_)
    · refine go_iconst O dX2_toMultiple_126 127 rfl ?_
      refine go_calliV (As := [.int (iI mode), .int (iI hf), .int (iI 0)]) (rest := []) (wr := [(qrow, .inl (cI, 72, .inl (dg W)))]) O hK hE (c_X2_goesAway E hE hw qrow qfac cI ng go mode hf 0 (by omega) hfr (by omega)) mlX2_77 imX2_goesAway seX2_goesAway inX2 cdX2_goesAway 3 (by decide +kernel) ⟨Nat.le_of_ble_eq_true rfl, Nat.le_of_ble_eq_true rfl⟩ 0 rfl rfl [] rfl [0] rfl (by decide) [1] rfl (by decide) (by decide) rfl rfl (Nat.le_of_ble_eq_true rfl) ⟨Nat.zero_le _, Nat.zero_le _⟩ dX2_toMultiple_127 130 rfl (fun z u hu => ?_)
      show TGo X [(qrow, .inl (cI, 72, .inl (dg W))), (hw, .inr (2, [.ref qrow, .ref qfac, .int (iI (bz ng)), .int (iI (bz go))]))] 0 0 130 [(7, .int (iI hf)), (4, .int (iI ((W / 10 ^ (P + 1) % 10 * 10 + W / 10 ^ P % 10 : Nat) : Int))), (0, .ref hw), (1, .int (iI ((P : Nat) : Int))), (2, .int (iI ((st : Nat) : Int))), (3, .int (iI mode))] [.int (iI z)]
      refine TGo.sub (ws' := [(hw, .inr (2, [.ref qrow, .ref qfac, .int (iI (bz ng)), .int (iI (bz go))])), (qrow, .inl (cI, 72, .inl (dg W)))]) [1, 0] (by decide) rfl ?_
      refine go_istore O dX2_toMultiple_130 (by decide) [(8, .int (iI z)), (7, .int (iI hf)), (4, .int (iI ((W / 10 ^ (P + 1) % 10 * 10 + W / 10 ^ P % 10 : Nat) : Int))), (0, .ref hw), (1, .int (iI ((P : Nat) : Int))), (2, .int (iI ((st : Nat) : Int))), (3, .int (iI mode))] rfl 132 rfl ?_
      refine go_iconst O dX2_toMultiple_132 133 rfl ?_
      refine go_istore O dX2_toMultiple_133 (by decide) [(9, .int (iI 0)), (8, .int (iI z)), (7, .int (iI hf)), (4, .int (iI ((W / 10 ^ (P + 1) % 10 * 10 + W / 10 ^ P % 10 : Nat) : Int))), (0, .ref hw), (1, .int (iI ((P : Nat) : Int))), (2, .int (iI ((st : Nat) : Int))), (3, .int (iI mode))] rfl 135 rfl ?_
      refine TGo.lsub (lv' := [(9, .int (iI 0)), (8, .int (iI z)), (4, .int (iI ((W / 10 ^ (P + 1) % 10 * 10 + W / 10 ^ P % 10 : Nat) : Int))), (0, .ref hw), (1, .int (iI ((P : Nat) : Int))), (2, .int (iI ((st : Nat) : Int)))]) [0, 1, 3, 4, 5, 6] rfl ?_
      have hod : (0 : Int) = 1 ∧ W / (st * 10 ^ P) % 2 = 1 ∨ (0 : Int) = 0 ∧ ¬ W / (st * 10 ^ P) % 2 = 1 := by omega
      have hz01 : z = 0 ∨ z = 1 := hu.elim (fun e => Or.inr e.1) (fun e => Or.inl e.1)
      exact lp (P + 1) 0 _ _ _ (by omega) (by omega) (by omega) hm7 hr20 (Hid.mk (tm_aw q12.1 q12.2 hod hu)) hz01 (fun j a => absurd a (by omega)) (fun _ _ => rfl)
    · refine go_iconst O dX2_toMultiple_122 123 rfl ?_
      refine go_goto O dX2_toMultiple_123 127 (by decide) ?_
      refine go_calliV (As := [.int (iI mode), .int (iI hf), .int (iI 1)]) (rest := []) (wr := [(qrow, .inl (cI, 72, .inl (dg W)))]) O hK hE (c_X2_goesAway E hE hw qrow qfac cI ng go mode hf 1 (by omega) hfr (by omega)) mlX2_77 imX2_goesAway seX2_goesAway inX2 cdX2_goesAway 3 (by decide +kernel) ⟨Nat.le_of_ble_eq_true rfl, Nat.le_of_ble_eq_true rfl⟩ 0 rfl rfl [] rfl [0] rfl (by decide) [1] rfl (by decide) (by decide) rfl rfl (Nat.le_of_ble_eq_true rfl) ⟨Nat.zero_le _, Nat.zero_le _⟩ dX2_toMultiple_127 130 rfl (fun z u hu => ?_)
      show TGo X [(qrow, .inl (cI, 72, .inl (dg W))), (hw, .inr (2, [.ref qrow, .ref qfac, .int (iI (bz ng)), .int (iI (bz go))]))] 0 0 130 [(7, .int (iI hf)), (4, .int (iI ((W / 10 ^ (P + 1) % 10 * 10 + W / 10 ^ P % 10 : Nat) : Int))), (0, .ref hw), (1, .int (iI ((P : Nat) : Int))), (2, .int (iI ((st : Nat) : Int))), (3, .int (iI mode))] [.int (iI z)]
      refine TGo.sub (ws' := [(hw, .inr (2, [.ref qrow, .ref qfac, .int (iI (bz ng)), .int (iI (bz go))])), (qrow, .inl (cI, 72, .inl (dg W)))]) [1, 0] (by decide) rfl ?_
      refine go_istore O dX2_toMultiple_130 (by decide) [(8, .int (iI z)), (7, .int (iI hf)), (4, .int (iI ((W / 10 ^ (P + 1) % 10 * 10 + W / 10 ^ P % 10 : Nat) : Int))), (0, .ref hw), (1, .int (iI ((P : Nat) : Int))), (2, .int (iI ((st : Nat) : Int))), (3, .int (iI mode))] rfl 132 rfl ?_
      refine go_iconst O dX2_toMultiple_132 133 rfl ?_
      refine go_istore O dX2_toMultiple_133 (by decide) [(9, .int (iI 0)), (8, .int (iI z)), (7, .int (iI hf)), (4, .int (iI ((W / 10 ^ (P + 1) % 10 * 10 + W / 10 ^ P % 10 : Nat) : Int))), (0, .ref hw), (1, .int (iI ((P : Nat) : Int))), (2, .int (iI ((st : Nat) : Int))), (3, .int (iI mode))] rfl 135 rfl ?_
      refine TGo.lsub (lv' := [(9, .int (iI 0)), (8, .int (iI z)), (4, .int (iI ((W / 10 ^ (P + 1) % 10 * 10 + W / 10 ^ P % 10 : Nat) : Int))), (0, .ref hw), (1, .int (iI ((P : Nat) : Int))), (2, .int (iI ((st : Nat) : Int)))]) [0, 1, 3, 4, 5, 6] rfl ?_
      have hod : (1 : Int) = 1 ∧ W / (st * 10 ^ P) % 2 = 1 ∨ (1 : Int) = 0 ∧ ¬ W / (st * 10 ^ P) % 2 = 1 := by omega
      have hz01 : z = 0 ∨ z = 1 := hu.elim (fun e => Or.inr e.1) (fun e => Or.inl e.1)
      exact lp (P + 1) 0 _ _ _ (by omega) (by omega) (by omega) hm7 hr20 (Hid.mk (tm_aw q12.1 q12.2 hod hu)) hz01 (fun j a => absurd a (by omega)) (fun _ _ => rfl)
  have m66 : ∀ (bh : Int), ((bh = 1 ∧ (W % 10 ^ (P - 1) ≠ 0 ∨ bz go = 1)) ∨ (bh = 0 ∧ W % 10 ^ (P - 1) = 0 ∧ bz go = 0)) → TGo X [(hw, .inr (2, [.ref qrow, .ref qfac, .int (iI (bz ng)), .int (iI (bz go))])), (qrow, .inl (cI, 72, .inl (dg W)))] 0 0 66 [(6, .int (iI bh)), (5, .int (iI (((W / 10 ^ (P + 1) % 10 * 10 + W / 10 ^ P % 10) % st * 10 + W / 10 ^ (P - 1) % 10 : Nat) : Int))), (4, .int (iI ((W / 10 ^ (P + 1) % 10 * 10 + W / 10 ^ P % 10 : Nat) : Int))), (0, .ref hw), (1, .int (iI ((P : Nat) : Int))), (2, .int (iI ((st : Nat) : Int))), (3, .int (iI mode))] [] := by
    intro bh hbh
    have b2 := bz_01 go
    refine go_iload O dX2_toMultiple_66 1 rfl 68 rfl ?_
    refine go_if_ne O dX2_toMultiple_68 78 (by decide) 71 rfl (by omega) (fun h68 => ?_) (fun h68 => ?_)
    · refine go_iload_n O dX2_toMultiple_78 rfl 6 rfl 79 rfl ?_
      refine go_bipush O dX2_toMultiple_79 (by decide) 81 rfl ?_
      refine go_icmp_ne O dX2_toMultiple_81 86 (by decide) 84 rfl (by omega) (by omega) (fun h81 => ?_) (fun h81 => ?_)
      · refine go_iload O dX2_toMultiple_86 1 rfl 88 rfl ?_
        refine go_iload_n O dX2_toMultiple_88 rfl 5 rfl 89 rfl ?_
        refine go_iconst O dX2_toMultiple_89 90 rfl ?_
        refine go_imul O dX2_toMultiple_90 (((st : Nat) : Int) * 5) rfl 91 rfl ?_
        refine go_calliS (rest := []) (wr := [(hw, .inr (2, [.ref qrow, .ref qfac, .int (iI (bz ng)), .int (iI (bz go))])), (qrow, .inl (cI, 72, .inl (dg W)))]) O hK hE (c_J6_compare E hE (((W / 10 ^ (P + 1) % 10 * 10 + W / 10 ^ P % 10) % st * 10 + W / 10 ^ (P - 1) % 10 : Nat) : Int) (((st : Nat) : Int) * 5) (by omega) (by omega)) mlX2_72 smJ6_compare inJ6 cdJ6_compare 2 (by decide +kernel) ⟨Nat.le_of_ble_eq_true rfl, Nat.le_of_ble_eq_true rfl⟩ [] rfl [] rfl (by decide) [0, 1] rfl (by decide) (by decide) rfl rfl (Nat.le_of_ble_eq_true rfl) ⟨Nat.zero_le _, Nat.zero_le _⟩ dX2_toMultiple_91 94 rfl (fun z u hu => ?_)
        have hz3 : (z = -1 ∧ (W / 10 ^ (P + 1) % 10 * 10 + W / 10 ^ P % 10) % st * 10 + W / 10 ^ (P - 1) % 10 < 5 * st) ∨ (z = 0 ∧ (W / 10 ^ (P + 1) % 10 * 10 + W / 10 ^ P % 10) % st * 10 + W / 10 ^ (P - 1) % 10 = 5 * st) ∨ (z = 1 ∧ 5 * st < (W / 10 ^ (P + 1) % 10 * 10 + W / 10 ^ P % 10) % st * 10 + W / 10 ^ (P - 1) % 10) := by
          rw [hu]
          split
          · exact Or.inl ⟨rfl, by omega⟩
          · split
            · exact Or.inr (Or.inl ⟨rfl, by omega⟩)
            · exact Or.inr (Or.inr ⟨rfl, by omega⟩)
        show TGo X [(hw, .inr (2, [.ref qrow, .ref qfac, .int (iI (bz ng)), .int (iI (bz go))])), (qrow, .inl (cI, 72, .inl (dg W)))] 0 0 94 [(6, .int (iI bh)), (5, .int (iI (((W / 10 ^ (P + 1) % 10 * 10 + W / 10 ^ P % 10) % st * 10 + W / 10 ^ (P - 1) % 10 : Nat) : Int))), (4, .int (iI ((W / 10 ^ (P + 1) % 10 * 10 + W / 10 ^ P % 10 : Nat) : Int))), (0, .ref hw), (1, .int (iI ((P : Nat) : Int))), (2, .int (iI ((st : Nat) : Int))), (3, .int (iI mode))] [.int (iI z)]
        refine go_istore O dX2_toMultiple_94 (by decide) [(7, .int (iI z)), (6, .int (iI bh)), (5, .int (iI (((W / 10 ^ (P + 1) % 10 * 10 + W / 10 ^ P % 10) % st * 10 + W / 10 ^ (P - 1) % 10 : Nat) : Int))), (4, .int (iI ((W / 10 ^ (P + 1) % 10 * 10 + W / 10 ^ P % 10 : Nat) : Int))), (0, .ref hw), (1, .int (iI ((P : Nat) : Int))), (2, .int (iI ((st : Nat) : Int))), (3, .int (iI mode))] rfl 96 rfl ?_
        refine go_iload O dX2_toMultiple_96 0 rfl 98 rfl ?_
        refine go_if_ne O dX2_toMultiple_98 109 (by decide) 101 rfl (by omega) (fun h98 => ?_) (fun h98 => ?_)
        · refine TGo.lsub (lv' := [(7, .int (iI z)), (4, .int (iI ((W / 10 ^ (P + 1) % 10 * 10 + W / 10 ^ P % 10 : Nat) : Int))), (0, .ref hw), (1, .int (iI ((P : Nat) : Int))), (2, .int (iI ((st : Nat) : Int))), (3, .int (iI mode))]) [0, 3, 4, 5, 6, 7] rfl ?_
          obtain ⟨-, -, k3, k4, k5, k6⟩ := tm_facts (W := W) (P := P) (st := st) (go := go) hP1 hst
          have hr2 : (2 * (W % (st * 10 ^ P)) + go.toNat) ≠ 0 := fun e => by have e3 := k3.mp e; clear k3 k4 k5 k6; omega
          have q12 := tm_half (hf := z) k4 k5 k6 (by clear k3 k4 k5 k6 hr2; omega)
          clear k3 k4 k5 k6
          exact m109 _ (by omega) (by omega) (Hid.mk hr2) (Hid.mk q12)
        · refine go_iload O dX2_toMultiple_101 1 rfl 103 rfl ?_
          refine go_if_eq O dX2_toMultiple_103 109 (by decide) 106 rfl (by omega) (fun h103 => ?_) (fun h103 => ?_)
          · refine TGo.lsub (lv' := [(7, .int (iI z)), (4, .int (iI ((W / 10 ^ (P + 1) % 10 * 10 + W / 10 ^ P % 10 : Nat) : Int))), (0, .ref hw), (1, .int (iI ((P : Nat) : Int))), (2, .int (iI ((st : Nat) : Int))), (3, .int (iI mode))]) [0, 3, 4, 5, 6, 7] rfl ?_
            obtain ⟨-, -, k3, k4, k5, k6⟩ := tm_facts (W := W) (P := P) (st := st) (go := go) hP1 hst
            have hr2 : (2 * (W % (st * 10 ^ P)) + go.toNat) ≠ 0 := fun e => by have e3 := k3.mp e; clear k3 k4 k5 k6; omega
            have q12 := tm_half (hf := z) k4 k5 k6 (by clear k3 k4 k5 k6 hr2; omega)
            clear k3 k4 k5 k6
            exact m109 _ (by omega) (by omega) (Hid.mk hr2) (Hid.mk q12)
          · refine go_iconst O dX2_toMultiple_106 107 rfl ?_
            refine go_istore O dX2_toMultiple_107 (by decide) [(7, .int (iI 1)), (6, .int (iI bh)), (5, .int (iI (((W / 10 ^ (P + 1) % 10 * 10 + W / 10 ^ P % 10) % st * 10 + W / 10 ^ (P - 1) % 10 : Nat) : Int))), (4, .int (iI ((W / 10 ^ (P + 1) % 10 * 10 + W / 10 ^ P % 10 : Nat) : Int))), (0, .ref hw), (1, .int (iI ((P : Nat) : Int))), (2, .int (iI ((st : Nat) : Int))), (3, .int (iI mode))] rfl 109 rfl ?_
            refine TGo.lsub (lv' := [(7, .int (iI 1)), (4, .int (iI ((W / 10 ^ (P + 1) % 10 * 10 + W / 10 ^ P % 10 : Nat) : Int))), (0, .ref hw), (1, .int (iI ((P : Nat) : Int))), (2, .int (iI ((st : Nat) : Int))), (3, .int (iI mode))]) [0, 3, 4, 5, 6, 7] rfl ?_
            obtain ⟨-, -, k3, k4, k5, k6⟩ := tm_facts (W := W) (P := P) (st := st) (go := go) hP1 hst
            have hr2 : (2 * (W % (st * 10 ^ P)) + go.toNat) ≠ 0 := fun e => by have e3 := k3.mp e; clear k3 k4 k5 k6; omega
            have q12 := tm_half (hf := 1) k4 k5 k6 (by clear k3 k4 k5 k6 hr2; omega)
            clear k3 k4 k5 k6
            exact m109 _ (by omega) (by omega) (Hid.mk hr2) (Hid.mk q12)
      · refine go_iconst O dX2_toMultiple_84 85 rfl ?_
        exact hret _ _ _ (W, go) dX2_toMultiple_85 rfl (Or.inr ⟨rfl, (fun e => by have e3 := (tm_facts (W := W) (P := P) (st := st) (go := go) hP1 hst).2.2.1.mp e; omega), by omega, rfl, rfl⟩)
    · refine go_iload O dX2_toMultiple_71 0 rfl 73 rfl ?_
      refine go_if_ne O dX2_toMultiple_73 78 (by decide) 76 rfl (by omega) (fun h73 => ?_) (fun h73 => ?_)
      · refine go_iload_n O dX2_toMultiple_78 rfl 6 rfl 79 rfl ?_
        refine go_bipush O dX2_toMultiple_79 (by decide) 81 rfl ?_
        refine go_icmp_ne O dX2_toMultiple_81 86 (by decide) 84 rfl (by omega) (by omega) (fun h81 => ?_) (fun h81 => ?_)
        · refine go_iload O dX2_toMultiple_86 1 rfl 88 rfl ?_
          refine go_iload_n O dX2_toMultiple_88 rfl 5 rfl 89 rfl ?_
          refine go_iconst O dX2_toMultiple_89 90 rfl ?_
          refine go_imul O dX2_toMultiple_90 (((st : Nat) : Int) * 5) rfl 91 rfl ?_
          refine go_calliS (rest := []) (wr := [(hw, .inr (2, [.ref qrow, .ref qfac, .int (iI (bz ng)), .int (iI (bz go))])), (qrow, .inl (cI, 72, .inl (dg W)))]) O hK hE (c_J6_compare E hE (((W / 10 ^ (P + 1) % 10 * 10 + W / 10 ^ P % 10) % st * 10 + W / 10 ^ (P - 1) % 10 : Nat) : Int) (((st : Nat) : Int) * 5) (by omega) (by omega)) mlX2_72 smJ6_compare inJ6 cdJ6_compare 2 (by decide +kernel) ⟨Nat.le_of_ble_eq_true rfl, Nat.le_of_ble_eq_true rfl⟩ [] rfl [] rfl (by decide) [0, 1] rfl (by decide) (by decide) rfl rfl (Nat.le_of_ble_eq_true rfl) ⟨Nat.zero_le _, Nat.zero_le _⟩ dX2_toMultiple_91 94 rfl (fun z u hu => ?_)
          have hz3 : (z = -1 ∧ (W / 10 ^ (P + 1) % 10 * 10 + W / 10 ^ P % 10) % st * 10 + W / 10 ^ (P - 1) % 10 < 5 * st) ∨ (z = 0 ∧ (W / 10 ^ (P + 1) % 10 * 10 + W / 10 ^ P % 10) % st * 10 + W / 10 ^ (P - 1) % 10 = 5 * st) ∨ (z = 1 ∧ 5 * st < (W / 10 ^ (P + 1) % 10 * 10 + W / 10 ^ P % 10) % st * 10 + W / 10 ^ (P - 1) % 10) := by
            rw [hu]
            split
            · exact Or.inl ⟨rfl, by omega⟩
            · split
              · exact Or.inr (Or.inl ⟨rfl, by omega⟩)
              · exact Or.inr (Or.inr ⟨rfl, by omega⟩)
          show TGo X [(hw, .inr (2, [.ref qrow, .ref qfac, .int (iI (bz ng)), .int (iI (bz go))])), (qrow, .inl (cI, 72, .inl (dg W)))] 0 0 94 [(6, .int (iI bh)), (5, .int (iI (((W / 10 ^ (P + 1) % 10 * 10 + W / 10 ^ P % 10) % st * 10 + W / 10 ^ (P - 1) % 10 : Nat) : Int))), (4, .int (iI ((W / 10 ^ (P + 1) % 10 * 10 + W / 10 ^ P % 10 : Nat) : Int))), (0, .ref hw), (1, .int (iI ((P : Nat) : Int))), (2, .int (iI ((st : Nat) : Int))), (3, .int (iI mode))] [.int (iI z)]
          refine go_istore O dX2_toMultiple_94 (by decide) [(7, .int (iI z)), (6, .int (iI bh)), (5, .int (iI (((W / 10 ^ (P + 1) % 10 * 10 + W / 10 ^ P % 10) % st * 10 + W / 10 ^ (P - 1) % 10 : Nat) : Int))), (4, .int (iI ((W / 10 ^ (P + 1) % 10 * 10 + W / 10 ^ P % 10 : Nat) : Int))), (0, .ref hw), (1, .int (iI ((P : Nat) : Int))), (2, .int (iI ((st : Nat) : Int))), (3, .int (iI mode))] rfl 96 rfl ?_
          refine go_iload O dX2_toMultiple_96 0 rfl 98 rfl ?_
          refine go_if_ne O dX2_toMultiple_98 109 (by decide) 101 rfl (by omega) (fun h98 => ?_) (fun h98 => ?_)
          · refine TGo.lsub (lv' := [(7, .int (iI z)), (4, .int (iI ((W / 10 ^ (P + 1) % 10 * 10 + W / 10 ^ P % 10 : Nat) : Int))), (0, .ref hw), (1, .int (iI ((P : Nat) : Int))), (2, .int (iI ((st : Nat) : Int))), (3, .int (iI mode))]) [0, 3, 4, 5, 6, 7] rfl ?_
            obtain ⟨-, -, k3, k4, k5, k6⟩ := tm_facts (W := W) (P := P) (st := st) (go := go) hP1 hst
            have hr2 : (2 * (W % (st * 10 ^ P)) + go.toNat) ≠ 0 := fun e => by have e3 := k3.mp e; clear k3 k4 k5 k6; omega
            have q12 := tm_half (hf := z) k4 k5 k6 (by clear k3 k4 k5 k6 hr2; omega)
            clear k3 k4 k5 k6
            exact m109 _ (by omega) (by omega) (Hid.mk hr2) (Hid.mk q12)
          · refine go_iload O dX2_toMultiple_101 1 rfl 103 rfl ?_
            refine go_if_eq O dX2_toMultiple_103 109 (by decide) 106 rfl (by omega) (fun h103 => ?_) (fun h103 => ?_)
            · refine TGo.lsub (lv' := [(7, .int (iI z)), (4, .int (iI ((W / 10 ^ (P + 1) % 10 * 10 + W / 10 ^ P % 10 : Nat) : Int))), (0, .ref hw), (1, .int (iI ((P : Nat) : Int))), (2, .int (iI ((st : Nat) : Int))), (3, .int (iI mode))]) [0, 3, 4, 5, 6, 7] rfl ?_
              obtain ⟨-, -, k3, k4, k5, k6⟩ := tm_facts (W := W) (P := P) (st := st) (go := go) hP1 hst
              have hr2 : (2 * (W % (st * 10 ^ P)) + go.toNat) ≠ 0 := fun e => by have e3 := k3.mp e; clear k3 k4 k5 k6; omega
              have q12 := tm_half (hf := z) k4 k5 k6 (by clear k3 k4 k5 k6 hr2; omega)
              clear k3 k4 k5 k6
              exact m109 _ (by omega) (by omega) (Hid.mk hr2) (Hid.mk q12)
            · refine go_iconst O dX2_toMultiple_106 107 rfl ?_
              refine go_istore O dX2_toMultiple_107 (by decide) [(7, .int (iI 1)), (6, .int (iI bh)), (5, .int (iI (((W / 10 ^ (P + 1) % 10 * 10 + W / 10 ^ P % 10) % st * 10 + W / 10 ^ (P - 1) % 10 : Nat) : Int))), (4, .int (iI ((W / 10 ^ (P + 1) % 10 * 10 + W / 10 ^ P % 10 : Nat) : Int))), (0, .ref hw), (1, .int (iI ((P : Nat) : Int))), (2, .int (iI ((st : Nat) : Int))), (3, .int (iI mode))] rfl 109 rfl ?_
              refine TGo.lsub (lv' := [(7, .int (iI 1)), (4, .int (iI ((W / 10 ^ (P + 1) % 10 * 10 + W / 10 ^ P % 10 : Nat) : Int))), (0, .ref hw), (1, .int (iI ((P : Nat) : Int))), (2, .int (iI ((st : Nat) : Int))), (3, .int (iI mode))]) [0, 3, 4, 5, 6, 7] rfl ?_
              obtain ⟨-, -, k3, k4, k5, k6⟩ := tm_facts (W := W) (P := P) (st := st) (go := go) hP1 hst
              have hr2 : (2 * (W % (st * 10 ^ P)) + go.toNat) ≠ 0 := fun e => by have e3 := k3.mp e; clear k3 k4 k5 k6; omega
              have q12 := tm_half (hf := 1) k4 k5 k6 (by clear k3 k4 k5 k6 hr2; omega)
              clear k3 k4 k5 k6
              exact m109 _ (by omega) (by omega) (Hid.mk hr2) (Hid.mk q12)
        · refine go_iconst O dX2_toMultiple_84 85 rfl ?_
          exact hret _ _ _ (W, go) dX2_toMultiple_85 rfl (Or.inr ⟨rfl, (fun e => by have e3 := (tm_facts (W := W) (P := P) (st := st) (go := go) hP1 hst).2.2.1.mp e; omega), by omega, rfl, rfl⟩)
      · refine go_iconst O dX2_toMultiple_76 77 rfl ?_
        have k3 := (tm_facts (W := W) (P := P) (st := st) (go := go) hP1 hst).2.2.1
        have hr0 : (2 * (W % (st * 10 ^ P)) + go.toNat) = 0 := k3.mpr ⟨by omega, by omega, by omega⟩
        clear k3
        have hg0 : go = false := bz_0.mp (by omega)
        have hR0 : W % (st * 10 ^ P) = 0 := by omega
        have hWQ : trnd mode ng (W / (st * 10 ^ P)) (2 * (W % (st * 10 ^ P)) + go.toNat) (2 * (st * 10 ^ P)) * (st * 10 ^ P) = W := by rw [hr0, trnd_0]; have := Nat.div_add_mod W (st * 10 ^ P); rw [hR0, Nat.mul_comm] at this; omega
        subst hg0
        exact hret _ _ _ (W, false) dX2_toMultiple_77 rfl (Or.inl ⟨rfl, Or.inl hr0, hWQ.symm, rfl⟩)
  have b2 := bz_01 go
  refine go_aload_n O dX2_toMultiple_0 rfl 0 rfl 1 rfl ?_
  refine go_get O hK dX2_toMultiple_1 hinX2 0 rfl rfl 0 (by decide) flX2_9 rfl 4 rfl ?_
  refine go_iload_n O dX2_toMultiple_4 rfl 1 rfl 5 rfl ?_
  refine go_iconst O dX2_toMultiple_5 6 rfl ?_
  refine go_iadd O dX2_toMultiple_6 ((P + 1 : Nat) : Int) (by omega) 7 rfl ?_
  refine go_iald O hK dX2_toMultiple_7 1 0 rfl rfl (P + 1) rfl (by omega) (by omega) ((W / 10 ^ (P + 1) % 10 : Nat) : Int) rfl 8 rfl ?_
  refine go_bipush O dX2_toMultiple_8 (by decide) 10 rfl ?_
  refine go_imul O dX2_toMultiple_10 ((W / 10 ^ (P + 1) % 10 * 10 : Nat) : Int) (by omega) 11 rfl ?_
  refine go_aload_n O dX2_toMultiple_11 rfl 0 rfl 12 rfl ?_
  refine go_get O hK dX2_toMultiple_12 hinX2 0 rfl rfl 0 (by decide) flX2_9 rfl 15 rfl ?_
  refine go_iload_n O dX2_toMultiple_15 rfl 1 rfl 16 rfl ?_
  refine go_iald O hK dX2_toMultiple_16 1 0 rfl rfl P rfl (by omega) (by omega) ((W / 10 ^ P % 10 : Nat) : Int) rfl 17 rfl ?_
  refine go_iadd O dX2_toMultiple_17 ((W / 10 ^ (P + 1) % 10 * 10 + W / 10 ^ P % 10 : Nat) : Int) (Int.natCast_add _ _).symm 18 rfl ?_
  refine go_istore O dX2_toMultiple_18 (by decide) [(4, .int (iI ((W / 10 ^ (P + 1) % 10 * 10 + W / 10 ^ P % 10 : Nat) : Int))), (0, .ref hw), (1, .int (iI ((P : Nat) : Int))), (2, .int (iI ((st : Nat) : Int))), (3, .int (iI mode))] rfl 20 rfl ?_
  refine go_iload O dX2_toMultiple_20 0 rfl 22 rfl ?_
  refine go_iload_n O dX2_toMultiple_22 rfl 3 rfl 23 rfl ?_
  refine go_irem O dX2_toMultiple_23 (by omega) (by omega) (by omega) (by omega) (((W / 10 ^ (P + 1) % 10 * 10 + W / 10 ^ P % 10) % st : Nat) : Int) rfl 24 rfl ?_
  refine go_bipush O dX2_toMultiple_24 (by decide) 26 rfl ?_
  refine go_imul O dX2_toMultiple_26 (((W / 10 ^ (P + 1) % 10 * 10 + W / 10 ^ P % 10) % st * 10 : Nat) : Int) (by omega) 27 rfl ?_
  refine go_aload_n O dX2_toMultiple_27 rfl 1 rfl 28 rfl ?_
  refine go_get O hK dX2_toMultiple_28 hinX2 0 rfl rfl 0 (by decide) flX2_9 rfl 31 rfl ?_
  refine go_iload_n O dX2_toMultiple_31 rfl 2 rfl 32 rfl ?_
  refine go_iconst O dX2_toMultiple_32 33 rfl ?_
  refine go_isub O dX2_toMultiple_33 ((P - 1 : Nat) : Int) (by omega) 34 rfl ?_
  refine go_iald O hK dX2_toMultiple_34 1 0 rfl rfl (P - 1) rfl (by omega) (by omega) ((W / 10 ^ (P - 1) % 10 : Nat) : Int) rfl 35 rfl ?_
  refine go_iadd O dX2_toMultiple_35 (((W / 10 ^ (P + 1) % 10 * 10 + W / 10 ^ P % 10) % st * 10 + W / 10 ^ (P - 1) % 10 : Nat) : Int) (Int.natCast_add _ _).symm 36 rfl ?_
  refine go_istore O dX2_toMultiple_36 (by decide) [(5, .int (iI (((W / 10 ^ (P + 1) % 10 * 10 + W / 10 ^ P % 10) % st * 10 + W / 10 ^ (P - 1) % 10 : Nat) : Int))), (4, .int (iI ((W / 10 ^ (P + 1) % 10 * 10 + W / 10 ^ P % 10 : Nat) : Int))), (0, .ref hw), (1, .int (iI ((P : Nat) : Int))), (2, .int (iI ((st : Nat) : Int))), (3, .int (iI mode))] rfl 38 rfl ?_
  refine go_aload_n O dX2_toMultiple_38 rfl 2 rfl 39 rfl ?_
  refine go_get O hK dX2_toMultiple_39 hinX2 0 rfl rfl 3 (by decide) flX2_28 rfl 42 rfl ?_
  refine go_if_ne O dX2_toMultiple_42 59 (by decide) 45 rfl (bz_r _) (fun h42 => ?_) (fun h42 => ?_)
  · refine go_iconst O dX2_toMultiple_59 60 rfl ?_
    refine go_goto O dX2_toMultiple_60 64 (by decide) ?_
    refine go_istore O dX2_toMultiple_64 (by decide) [(6, .int (iI 1)), (5, .int (iI (((W / 10 ^ (P + 1) % 10 * 10 + W / 10 ^ P % 10) % st * 10 + W / 10 ^ (P - 1) % 10 : Nat) : Int))), (4, .int (iI ((W / 10 ^ (P + 1) % 10 * 10 + W / 10 ^ P % 10 : Nat) : Int))), (0, .ref hw), (1, .int (iI ((P : Nat) : Int))), (2, .int (iI ((st : Nat) : Int))), (3, .int (iI mode))] rfl 66 rfl ?_
    refine TGo.lsub (lv' := [(6, .int (iI 1)), (5, .int (iI (((W / 10 ^ (P + 1) % 10 * 10 + W / 10 ^ P % 10) % st * 10 + W / 10 ^ (P - 1) % 10 : Nat) : Int))), (4, .int (iI ((W / 10 ^ (P + 1) % 10 * 10 + W / 10 ^ P % 10 : Nat) : Int))), (0, .ref hw), (1, .int (iI ((P : Nat) : Int))), (2, .int (iI ((st : Nat) : Int))), (3, .int (iI mode))]) [0, 1, 2, 3, 4, 5, 6] rfl ?_
    exact m66 _ (by omega)
  · refine go_aload_n O dX2_toMultiple_45 rfl 2 rfl 46 rfl ?_
    refine go_get O hK dX2_toMultiple_46 hinX2 0 rfl rfl 0 (by decide) flX2_9 rfl 49 rfl ?_
    refine go_iconst O dX2_toMultiple_49 50 rfl ?_
    refine go_iload_n O dX2_toMultiple_50 rfl 3 rfl 51 rfl ?_
    refine go_iconst O dX2_toMultiple_51 52 rfl ?_
    refine go_isub O dX2_toMultiple_52 ((P - 1 : Nat) : Int) (by omega) 53 rfl ?_
    refine go_calliSN (rest := []) (wr := [(hw, .inr (2, [.ref qrow, .ref qfac, .int (iI (bz ng)), .int (iI (bz go))]))]) O hK hE (c_X3_isZero E hE qrow cI 72 W 0 (P - 1) (by omega) (by omega) (by omega)) (hN _ _ O.2.2.2.2.2.2.2.2.2).1 smX3_isZero inX3 cdX3_isZero 3 (by decide +kernel) ⟨Nat.le_of_ble_eq_true rfl, Nat.le_of_ble_eq_true rfl⟩ [0] rfl [1] rfl (by decide) [0] rfl (by decide) (by decide) rfl rfl (Nat.le_of_ble_eq_true rfl) ⟨Nat.zero_le _, Nat.zero_le _⟩ dX2_toMultiple_53 56 rfl (fun z u hu => ?_)
    have hzz : (z = 1 ∧ W % 10 ^ (P - 1) = 0) ∨ (z = 0 ∧ W % 10 ^ (P - 1) ≠ 0) := by
      rcases hu with ⟨e1, e2⟩ | ⟨e1, j, e2, e3, e4⟩
      · exact Or.inl ⟨e1, tmod_of _ (fun j e => e2 j (by omega) e)⟩
      · exact Or.inr ⟨e1, fun e => e4 (tmod_dig e e3)⟩
    show TGo X [(hw, .inr (2, [.ref qrow, .ref qfac, .int (iI (bz ng)), .int (iI (bz go))])), (qrow, .inl (cI, 72, .inl (dg W)))] 0 0 56 [(5, .int (iI (((W / 10 ^ (P + 1) % 10 * 10 + W / 10 ^ P % 10) % st * 10 + W / 10 ^ (P - 1) % 10 : Nat) : Int))), (4, .int (iI ((W / 10 ^ (P + 1) % 10 * 10 + W / 10 ^ P % 10 : Nat) : Int))), (0, .ref hw), (1, .int (iI ((P : Nat) : Int))), (2, .int (iI ((st : Nat) : Int))), (3, .int (iI mode))] [.int (iI z)]
    refine go_if_ne O dX2_toMultiple_56 63 (by decide) 59 rfl (by omega) (fun h56 => ?_) (fun h56 => ?_)
    · refine go_iconst O dX2_toMultiple_63 64 rfl ?_
      refine go_istore O dX2_toMultiple_64 (by decide) [(6, .int (iI 0)), (5, .int (iI (((W / 10 ^ (P + 1) % 10 * 10 + W / 10 ^ P % 10) % st * 10 + W / 10 ^ (P - 1) % 10 : Nat) : Int))), (4, .int (iI ((W / 10 ^ (P + 1) % 10 * 10 + W / 10 ^ P % 10 : Nat) : Int))), (0, .ref hw), (1, .int (iI ((P : Nat) : Int))), (2, .int (iI ((st : Nat) : Int))), (3, .int (iI mode))] rfl 66 rfl ?_
      refine TGo.lsub (lv' := [(6, .int (iI 0)), (5, .int (iI (((W / 10 ^ (P + 1) % 10 * 10 + W / 10 ^ P % 10) % st * 10 + W / 10 ^ (P - 1) % 10 : Nat) : Int))), (4, .int (iI ((W / 10 ^ (P + 1) % 10 * 10 + W / 10 ^ P % 10 : Nat) : Int))), (0, .ref hw), (1, .int (iI ((P : Nat) : Int))), (2, .int (iI ((st : Nat) : Int))), (3, .int (iI mode))]) [0, 1, 2, 3, 4, 5, 6] rfl ?_
      exact m66 _ (by omega)
    · refine go_iconst O dX2_toMultiple_59 60 rfl ?_
      refine go_goto O dX2_toMultiple_60 64 (by decide) ?_
      refine go_istore O dX2_toMultiple_64 (by decide) [(6, .int (iI 1)), (5, .int (iI (((W / 10 ^ (P + 1) % 10 * 10 + W / 10 ^ P % 10) % st * 10 + W / 10 ^ (P - 1) % 10 : Nat) : Int))), (4, .int (iI ((W / 10 ^ (P + 1) % 10 * 10 + W / 10 ^ P % 10 : Nat) : Int))), (0, .ref hw), (1, .int (iI ((P : Nat) : Int))), (2, .int (iI ((st : Nat) : Int))), (3, .int (iI mode))] rfl 66 rfl ?_
      refine TGo.lsub (lv' := [(6, .int (iI 1)), (5, .int (iI (((W / 10 ^ (P + 1) % 10 * 10 + W / 10 ^ P % 10) % st * 10 + W / 10 ^ (P - 1) % 10 : Nat) : Int))), (4, .int (iI ((W / 10 ^ (P + 1) % 10 * 10 + W / 10 ^ P % 10 : Nat) : Int))), (0, .ref hw), (1, .int (iI ((P : Nat) : Int))), (2, .int (iI ((st : Nat) : Int))), (3, .int (iI mode))]) [0, 1, 2, 3, 4, 5, 6] rfl ?_
      exact m66 _ (by omega)
