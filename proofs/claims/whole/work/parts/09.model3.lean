/-! Products of rows. -/
theorem tmodS (A i : Nat) : A % 10 ^ (i + 1) = A % 10 ^ i + A / 10 ^ i % 10 * 10 ^ i := by
  rw [Nat.pow_succ, Nat.mod_mul, Nat.mul_comm (10 ^ i)]
theorem tprod_step {T v x B i j κ : Nat} (hc : T / 10 ^ (i + j) = v / 10 ^ (i + j) + x * (B / 10 ^ j) + κ) : T / 10 ^ (i + j + 1) = v / 10 ^ (i + j + 1) + x * (B / 10 ^ (j + 1)) + (v / 10 ^ (i + j) % 10 + κ + x * (B / 10 ^ j % 10)) / 10 := by
  rw [tq10, tq10, tq10, hc]
  have h1 : x * (B / 10 ^ j) = 10 * (x * (B / 10 ^ j / 10)) + x * (B / 10 ^ j % 10) := by
    rw [← Nat.mul_left_comm, ← Nat.mul_add, Nat.div_add_mod]
  omega
theorem tprod_dig {T v x B i j κ : Nat} (hc : T / 10 ^ (i + j) = v / 10 ^ (i + j) + x * (B / 10 ^ j) + κ) : T / 10 ^ (i + j) % 10 = (v / 10 ^ (i + j) % 10 + κ + x * (B / 10 ^ j % 10)) % 10 := by
  rw [hc]
  have h1 : x * (B / 10 ^ j) = 10 * (x * (B / 10 ^ j / 10)) + x * (B / 10 ^ j % 10) := by
    rw [← Nat.mul_left_comm, ← Nat.mul_add, Nat.div_add_mod]
  omega
theorem tprod_0 {v x B i : Nat} : (v + x * B * 10 ^ i) / 10 ^ (i + 0) = v / 10 ^ (i + 0) + x * (B / 10 ^ 0) + 0 := by
  rw [Nat.add_zero, Nat.add_zero, tqz, Nat.add_mul_div_right _ _ (p10 i)]
theorem tq_hi {T v e p : Nat} (h : T / 10 ^ e = v / 10 ^ e) (hp : e ≤ p) : T / 10 ^ p = v / 10 ^ p := by
  have e1 : p = e + (p - e) := by omega
  rw [e1, tqadd, tqadd v, h]
theorem tdig_mul (a b : Nat) (ha : a < 10) (hb : b < 10) : a * b ≤ 81 := Nat.mul_le_mul (show a ≤ 9 by omega) (show b ≤ 9 by omega)
theorem tprod_le {A B i : Nat} : A % 10 ^ i * B + A / 10 ^ i % 10 * B * 10 ^ i ≤ A * B := by
  have h : A % 10 ^ i * B + A / 10 ^ i % 10 * B * 10 ^ i = A % 10 ^ (i + 1) * B := by
    rw [tmodS, Nat.add_mul, Nat.mul_right_comm]
  rw [h]
  exact Nat.mul_le_mul_right _ (Nat.mod_le _ _)
theorem tprod_next {A B i : Nat} : A % 10 ^ i * B + A / 10 ^ i % 10 * B * 10 ^ i = A % 10 ^ (i + 1) * B := by
  rw [tmodS, Nat.add_mul, Nat.mul_right_comm]
theorem tlow {N k m j : Nat} (hj : j < m) : (N + k * 10 ^ m) / 10 ^ j % 10 = N / 10 ^ j % 10 := by
  have e : k * 10 ^ m = 10 ^ j * (10 * (k * 10 ^ (m - j - 1))) := by
    have e1 : 10 ^ m = 10 ^ j * (10 * 10 ^ (m - j - 1)) := by rw [← p10s, ← p10add]; congr 1; omega
    rw [e1, Nat.mul_left_comm k, Nat.mul_left_comm k]
  rw [e, Nat.add_mul_div_left _ _ (p10 j)]
  omega
set_option maxHeartbeats 4000000 in
set_option maxRecDepth 100000 in
/-- product: into num -/
theorem c_X4_product (E : TEn) (hE : EnvOk E) (h : Nat) (fs : List Value) {qnum : Nat} (f_num : fs[10]? = some (.ref qnum)) (q r : Nat) (cI : ClassId) (A B : Nat) (f : Nat → Int32) (hab : tnds A + tnds B ≤ 80) (hAB : A * B < 10 ^ 80) : Ctv vwCl E yX4_product wsX4_product (rmn 1 22) [.ref h, .ref q, .ref r] [(h, .inr (4, fs)), (qnum, .inl (cI, 80, .inl f)), (q, .inl (cI, 80, .inl (dg A))), (r, .inl (cI, 80, .inl (dg B)))] [(cI, .int)] (fun _ : Unit => True) (fun _ => [(h, .inr (4, fs)), (qnum, .inl (cI, 80, .inl (dg (A * B)))), (q, .inl (cI, 80, .inl (dg A))), (r, .inl (cI, 80, .inl (dg B)))]) := by
  refine enterv (by decide) (Nat.le_of_ble_eq_true rfl) ?_
  intro X O hK hin2 hret
  show TGo X [(h, .inr (4, fs)), (qnum, .inl (cI, 80, .inl f)), (q, .inl (cI, 80, .inl (dg A))), (r, .inl (cI, 80, .inl (dg B)))] 0 0 0 [(0, .ref h), (1, .ref q), (2, .ref r)] []
  have lp : ∀ (c i : Nat) (x : Int) (v : Nat), c + i = tnds A + 1 → i ≤ tnds A → x = (i : Int) → v = A % 10 ^ i * B → TGo X [(h, .inr (4, fs)), (qnum, .inl (cI, 80, .inl (dg v))), (q, .inl (cI, 80, .inl (dg A))), (r, .inl (cI, 80, .inl (dg B)))] 0 0 21 [(5, .int (iI x)), (3, .int (iI ((tnds A : Nat) : Int))), (4, .int (iI ((tnds B : Nat) : Int))), (0, .ref h), (1, .ref q), (2, .ref r)] [] := by
    intro c
    induction c with
    | zero => intro i x v h1; omega
    | succ c ih =>
      intro i x v h1 h2 hx hv
      have hT : v + A / 10 ^ i % 10 * B * 10 ^ i < 10 ^ 80 := by rw [hv]; exact Nat.lt_of_le_of_lt tprod_le hAB
      have inner : ∀ (d j κ : Nat) (y z : Int) (g : Nat → Int32), d + (i + j) = 81 → i + j ≤ 80 → i < tnds A → y = (κ : Int) → z = (j : Int) → κ ≤ 9 → (v + A / 10 ^ i % 10 * B * 10 ^ i) / 10 ^ (i + j) = v / 10 ^ (i + j) + A / 10 ^ i % 10 * (B / 10 ^ j) + κ → (∀ p, p < i + j → g p = dg (v + A / 10 ^ i % 10 * B * 10 ^ i) p) → (∀ p, i + j ≤ p → g p = dg v p) → TGo X [(h, .inr (4, fs)), (qnum, .inl (cI, 80, .inl g)), (q, .inl (cI, 80, .inl (dg A))), (r, .inl (cI, 80, .inl (dg B)))] 0 0 33 [(5, .int (iI x)), (6, .int (iI y)), (7, .int (iI z)), (3, .int (iI ((tnds A : Nat) : Int))), (4, .int (iI ((tnds B : Nat) : Int))), (0, .ref h), (1, .ref q), (2, .ref r)] [] := by
        intro d
        induction d with
        | zero => intro j κ y z g h3; omega
        | succ d ih2 =>
          intro j κ y z g h3 h4 hi hy hz hκ hc hlo hhi
          have hm := tdig_mul (A / 10 ^ i % 10) (B / 10 ^ j % 10) (Nat.mod_lt _ (by omega)) (Nat.mod_lt _ (by omega))
          have hB0 : tnds B ≤ j → B / 10 ^ j = 0 := fun e => q_lt' (tnds_lt B) e
          have hj80 : 0 < κ → i + j < 80 := by
            intro e
            rcases Nat.lt_or_ge (i + j) 80 with e2 | e2
            · exact e2
            · have e3 : i + j = 80 := by omega
              rw [e3, q_lt hT] at hc
              omega
          refine go_iload O dX4_product_33 2 rfl 35 rfl ?_
          refine go_iload O dX4_product_35 4 rfl 37 rfl ?_
          refine go_icmp_lt O dX4_product_37 45 (by decide) 40 rfl (by omega) (by omega) (fun h37 => ?_) (fun h37 => ?_)
          · refine go_aload_n O dX4_product_45 rfl 5 rfl 46 rfl ?_
            refine go_get O hK dX4_product_46 hinX4 0 rfl rfl 10 (by decide) flX4_29 f_num 49 rfl ?_
            refine go_iload O dX4_product_49 0 rfl 51 rfl ?_
            refine go_iload O dX4_product_51 2 rfl 53 rfl ?_
            refine go_iadd O dX4_product_53 ((i + j : Nat) : Int) (by omega) 54 rfl ?_
            refine go_iald O hK dX4_product_54 1 0 rfl rfl (i + j) rfl (by first | omega | exact hj80 (by omega)) (by omega) ((v / 10 ^ (i + j) % 10 : Nat) : Int) (hhi _ (Nat.le_refl _)) 55 rfl ?_
            refine go_iload O dX4_product_55 1 rfl 57 rfl ?_
            refine go_iadd O dX4_product_57 ((v / 10 ^ (i + j) % 10 + κ : Nat) : Int) (by omega) 58 rfl ?_
            refine go_iload O dX4_product_58 2 rfl 60 rfl ?_
            refine go_iload O dX4_product_60 4 rfl 62 rfl ?_
            refine go_icmp_ge O dX4_product_62 77 (by decide) 65 rfl (by omega) (by omega) (fun h62 => by omega) (fun h62 => ?_)
            refine go_aload_n O dX4_product_65 rfl 6 rfl 66 rfl ?_
            refine go_iload O dX4_product_66 0 rfl 68 rfl ?_
            refine go_iald O hK dX4_product_68 2 0 rfl rfl i hx (by omega) (by omega) ((A / 10 ^ i % 10 : Nat) : Int) rfl 69 rfl ?_
            refine go_aload_n O dX4_product_69 rfl 7 rfl 70 rfl ?_
            refine go_iload O dX4_product_70 2 rfl 72 rfl ?_
            refine go_iald O hK dX4_product_72 3 0 rfl rfl j hz (by omega) (by omega) ((B / 10 ^ j % 10 : Nat) : Int) rfl 73 rfl ?_
            refine go_imul O dX4_product_73 ((A / 10 ^ i % 10 * (B / 10 ^ j % 10) : Nat) : Int) (Int.natCast_mul _ _).symm 74 rfl ?_
            refine go_goto O dX4_product_74 78 (by decide) ?_
            refine go_iadd O dX4_product_78 ((v / 10 ^ (i + j) % 10 + κ + A / 10 ^ i % 10 * (B / 10 ^ j % 10) : Nat) : Int) (Int.natCast_add _ _).symm 79 rfl ?_
            refine go_istore O dX4_product_79 (by decide) [(8, .int (iI ((v / 10 ^ (i + j) % 10 + κ + A / 10 ^ i % 10 * (B / 10 ^ j % 10) : Nat) : Int))), (5, .int (iI x)), (6, .int (iI y)), (7, .int (iI z)), (3, .int (iI ((tnds A : Nat) : Int))), (4, .int (iI ((tnds B : Nat) : Int))), (0, .ref h), (1, .ref q), (2, .ref r)] rfl 81 rfl ?_
            refine go_aload_n O dX4_product_81 rfl 6 rfl 82 rfl ?_
            refine go_get O hK dX4_product_82 hinX4 0 rfl rfl 10 (by decide) flX4_29 f_num 85 rfl ?_
            refine go_iload O dX4_product_85 1 rfl 87 rfl ?_
            refine go_iload O dX4_product_87 3 rfl 89 rfl ?_
            refine go_iadd O dX4_product_89 ((i + j : Nat) : Int) (by omega) 90 rfl ?_
            refine go_iload O dX4_product_90 0 rfl 92 rfl ?_
            refine go_bipush O dX4_product_92 (by decide) 94 rfl ?_
            refine go_irem O dX4_product_94 (by omega) (by omega) (by omega) (by omega) (((v / 10 ^ (i + j) % 10 + κ + A / 10 ^ i % 10 * (B / 10 ^ j % 10)) % 10 : Nat) : Int) (by omega) 95 rfl ?_
            refine go_iast O hK dX4_product_95 1 0 rfl rfl (i + j) rfl (by first | omega | exact hj80 (by omega)) (by omega) (upd g (i + j) (iI (((v / 10 ^ (i + j) % 10 + κ + A / 10 ^ i % 10 * (B / 10 ^ j % 10)) % 10 : Nat) : Int))) (fun _ _ => rfl) [(h, .inr (4, fs)), (qnum, .inl (cI, 80, .inl (upd g (i + j) (iI (((v / 10 ^ (i + j) % 10 + κ + A / 10 ^ i % 10 * (B / 10 ^ j % 10)) % 10 : Nat) : Int))))), (q, .inl (cI, 80, .inl (dg A))), (r, .inl (cI, 80, .inl (dg B)))] rfl 96 rfl ?_
            refine go_iload O dX4_product_96 0 rfl 98 rfl ?_
            refine go_bipush O dX4_product_98 (by decide) 100 rfl ?_
            refine go_idiv O dX4_product_100 (by omega) (by omega) (by omega) (by omega) (((v / 10 ^ (i + j) % 10 + κ + A / 10 ^ i % 10 * (B / 10 ^ j % 10)) / 10 : Nat) : Int) (by omega) 101 rfl ?_
            refine go_istore O dX4_product_101 (by decide) [(6, .int (iI (((v / 10 ^ (i + j) % 10 + κ + A / 10 ^ i % 10 * (B / 10 ^ j % 10)) / 10 : Nat) : Int))), (8, .int (iI ((v / 10 ^ (i + j) % 10 + κ + A / 10 ^ i % 10 * (B / 10 ^ j % 10) : Nat) : Int))), (5, .int (iI x)), (7, .int (iI z)), (3, .int (iI ((tnds A : Nat) : Int))), (4, .int (iI ((tnds B : Nat) : Int))), (0, .ref h), (1, .ref q), (2, .ref r)] rfl 103 rfl ?_
            refine go_iinc O dX4_product_103 3 rfl ((j + 1 : Nat) : Int) (by omega) (by decide) [(7, .int (iI ((j + 1 : Nat) : Int))), (6, .int (iI (((v / 10 ^ (i + j) % 10 + κ + A / 10 ^ i % 10 * (B / 10 ^ j % 10)) / 10 : Nat) : Int))), (8, .int (iI ((v / 10 ^ (i + j) % 10 + κ + A / 10 ^ i % 10 * (B / 10 ^ j % 10) : Nat) : Int))), (5, .int (iI x)), (3, .int (iI ((tnds A : Nat) : Int))), (4, .int (iI ((tnds B : Nat) : Int))), (0, .ref h), (1, .ref q), (2, .ref r)] rfl 106 rfl ?_
            refine go_goto O dX4_product_106 33 (by decide) ?_
            refine TGo.lsub (lv' := [(5, .int (iI x)), (6, .int (iI (((v / 10 ^ (i + j) % 10 + κ + A / 10 ^ i % 10 * (B / 10 ^ j % 10)) / 10 : Nat) : Int))), (7, .int (iI ((j + 1 : Nat) : Int))), (3, .int (iI ((tnds A : Nat) : Int))), (4, .int (iI ((tnds B : Nat) : Int))), (0, .ref h), (1, .ref q), (2, .ref r)]) [3, 1, 0, 4, 5, 6, 7, 8] rfl ?_
            exact ih2 (j + 1) ((v / 10 ^ (i + j) % 10 + κ + A / 10 ^ i % 10 * (B / 10 ^ j % 10)) / 10) _ _ _ (by omega) (by first | omega | (have := hj80 (by omega); omega)) hi (by omega) (by omega) (by omega) (tprod_step hc) (lo_upd (i := i + j) hlo (by rw [dg_at, tprod_dig hc])) (hi_upd (i := i + j) hhi)
          · refine go_iload O dX4_product_40 1 rfl 42 rfl ?_
            refine go_if_le O dX4_product_42 109 (by decide) 45 rfl (by omega) (fun h42 => ?_) (fun h42 => ?_)
            · refine go_iinc O dX4_product_109 0 rfl ((i + 1 : Nat) : Int) (by omega) (by decide) [(5, .int (iI ((i + 1 : Nat) : Int))), (6, .int (iI y)), (7, .int (iI z)), (3, .int (iI ((tnds A : Nat) : Int))), (4, .int (iI ((tnds B : Nat) : Int))), (0, .ref h), (1, .ref q), (2, .ref r)] rfl 112 rfl ?_
              refine go_goto O dX4_product_112 21 (by decide) ?_
              have hk0 : κ = 0 := by omega
              have hq : (v + A / 10 ^ i % 10 * B * 10 ^ i) / 10 ^ (i + j) = v / 10 ^ (i + j) := by rw [hc, hB0 (by omega), Nat.mul_zero, hk0]; omega
              refine TGo.arr 1 rfl (dg (v + A / 10 ^ i % 10 * B * 10 ^ i)) (fun p _ => if e : p < i + j then hlo p e else (by rw [hhi p (by omega), dg_at, dg_at, tq_hi hq (by omega)])) (ws' := [(h, .inr (4, fs)), (qnum, .inl (cI, 80, .inl (dg (v + A / 10 ^ i % 10 * B * 10 ^ i)))), (q, .inl (cI, 80, .inl (dg A))), (r, .inl (cI, 80, .inl (dg B)))]) rfl ?_
              refine TGo.lsub (lv' := [(5, .int (iI ((i + 1 : Nat) : Int))), (3, .int (iI ((tnds A : Nat) : Int))), (4, .int (iI ((tnds B : Nat) : Int))), (0, .ref h), (1, .ref q), (2, .ref r)]) [0, 3, 4, 5, 6, 7] rfl ?_
              exact ih (i + 1) _ _ (by omega) (by omega) (by omega) (by rw [hv, tprod_next])
            · refine go_aload_n O dX4_product_45 rfl 5 rfl 46 rfl ?_
              refine go_get O hK dX4_product_46 hinX4 0 rfl rfl 10 (by decide) flX4_29 f_num 49 rfl ?_
              refine go_iload O dX4_product_49 0 rfl 51 rfl ?_
              refine go_iload O dX4_product_51 2 rfl 53 rfl ?_
              refine go_iadd O dX4_product_53 ((i + j : Nat) : Int) (by omega) 54 rfl ?_
              refine go_iald O hK dX4_product_54 1 0 rfl rfl (i + j) rfl (by first | omega | exact hj80 (by omega)) (by omega) ((v / 10 ^ (i + j) % 10 : Nat) : Int) (hhi _ (Nat.le_refl _)) 55 rfl ?_
              refine go_iload O dX4_product_55 1 rfl 57 rfl ?_
              refine go_iadd O dX4_product_57 ((v / 10 ^ (i + j) % 10 + κ : Nat) : Int) (by omega) 58 rfl ?_
              refine go_iload O dX4_product_58 2 rfl 60 rfl ?_
              refine go_iload O dX4_product_60 4 rfl 62 rfl ?_
              refine go_icmp_ge O dX4_product_62 77 (by decide) 65 rfl (by omega) (by omega) (fun h62 => ?_) (fun h62 => by omega)
              refine go_iconst O dX4_product_77 78 rfl ?_
              refine go_iadd O dX4_product_78 ((v / 10 ^ (i + j) % 10 + κ + A / 10 ^ i % 10 * (B / 10 ^ j % 10) : Nat) : Int) (by rw [hB0 (by omega), Nat.zero_mod, Nat.mul_zero]; omega) 79 rfl ?_
              refine go_istore O dX4_product_79 (by decide) [(8, .int (iI ((v / 10 ^ (i + j) % 10 + κ + A / 10 ^ i % 10 * (B / 10 ^ j % 10) : Nat) : Int))), (5, .int (iI x)), (6, .int (iI y)), (7, .int (iI z)), (3, .int (iI ((tnds A : Nat) : Int))), (4, .int (iI ((tnds B : Nat) : Int))), (0, .ref h), (1, .ref q), (2, .ref r)] rfl 81 rfl ?_
              refine go_aload_n O dX4_product_81 rfl 6 rfl 82 rfl ?_
              refine go_get O hK dX4_product_82 hinX4 0 rfl rfl 10 (by decide) flX4_29 f_num 85 rfl ?_
              refine go_iload O dX4_product_85 1 rfl 87 rfl ?_
              refine go_iload O dX4_product_87 3 rfl 89 rfl ?_
              refine go_iadd O dX4_product_89 ((i + j : Nat) : Int) (by omega) 90 rfl ?_
              refine go_iload O dX4_product_90 0 rfl 92 rfl ?_
              refine go_bipush O dX4_product_92 (by decide) 94 rfl ?_
              refine go_irem O dX4_product_94 (by omega) (by omega) (by omega) (by omega) (((v / 10 ^ (i + j) % 10 + κ + A / 10 ^ i % 10 * (B / 10 ^ j % 10)) % 10 : Nat) : Int) (by omega) 95 rfl ?_
              refine go_iast O hK dX4_product_95 1 0 rfl rfl (i + j) rfl (by first | omega | exact hj80 (by omega)) (by omega) (upd g (i + j) (iI (((v / 10 ^ (i + j) % 10 + κ + A / 10 ^ i % 10 * (B / 10 ^ j % 10)) % 10 : Nat) : Int))) (fun _ _ => rfl) [(h, .inr (4, fs)), (qnum, .inl (cI, 80, .inl (upd g (i + j) (iI (((v / 10 ^ (i + j) % 10 + κ + A / 10 ^ i % 10 * (B / 10 ^ j % 10)) % 10 : Nat) : Int))))), (q, .inl (cI, 80, .inl (dg A))), (r, .inl (cI, 80, .inl (dg B)))] rfl 96 rfl ?_
              refine go_iload O dX4_product_96 0 rfl 98 rfl ?_
              refine go_bipush O dX4_product_98 (by decide) 100 rfl ?_
              refine go_idiv O dX4_product_100 (by omega) (by omega) (by omega) (by omega) (((v / 10 ^ (i + j) % 10 + κ + A / 10 ^ i % 10 * (B / 10 ^ j % 10)) / 10 : Nat) : Int) (by omega) 101 rfl ?_
              refine go_istore O dX4_product_101 (by decide) [(6, .int (iI (((v / 10 ^ (i + j) % 10 + κ + A / 10 ^ i % 10 * (B / 10 ^ j % 10)) / 10 : Nat) : Int))), (8, .int (iI ((v / 10 ^ (i + j) % 10 + κ + A / 10 ^ i % 10 * (B / 10 ^ j % 10) : Nat) : Int))), (5, .int (iI x)), (7, .int (iI z)), (3, .int (iI ((tnds A : Nat) : Int))), (4, .int (iI ((tnds B : Nat) : Int))), (0, .ref h), (1, .ref q), (2, .ref r)] rfl 103 rfl ?_
              refine go_iinc O dX4_product_103 3 rfl ((j + 1 : Nat) : Int) (by omega) (by decide) [(7, .int (iI ((j + 1 : Nat) : Int))), (6, .int (iI (((v / 10 ^ (i + j) % 10 + κ + A / 10 ^ i % 10 * (B / 10 ^ j % 10)) / 10 : Nat) : Int))), (8, .int (iI ((v / 10 ^ (i + j) % 10 + κ + A / 10 ^ i % 10 * (B / 10 ^ j % 10) : Nat) : Int))), (5, .int (iI x)), (3, .int (iI ((tnds A : Nat) : Int))), (4, .int (iI ((tnds B : Nat) : Int))), (0, .ref h), (1, .ref q), (2, .ref r)] rfl 106 rfl ?_
              refine go_goto O dX4_product_106 33 (by decide) ?_
              refine TGo.lsub (lv' := [(5, .int (iI x)), (6, .int (iI (((v / 10 ^ (i + j) % 10 + κ + A / 10 ^ i % 10 * (B / 10 ^ j % 10)) / 10 : Nat) : Int))), (7, .int (iI ((j + 1 : Nat) : Int))), (3, .int (iI ((tnds A : Nat) : Int))), (4, .int (iI ((tnds B : Nat) : Int))), (0, .ref h), (1, .ref q), (2, .ref r)]) [3, 1, 0, 4, 5, 6, 7, 8] rfl ?_
              exact ih2 (j + 1) ((v / 10 ^ (i + j) % 10 + κ + A / 10 ^ i % 10 * (B / 10 ^ j % 10)) / 10) _ _ _ (by omega) (by first | omega | (have := hj80 (by omega); omega)) hi (by omega) (by omega) (by omega) (tprod_step hc) (lo_upd (i := i + j) hlo (by rw [dg_at, tprod_dig hc])) (hi_upd (i := i + j) hhi)
      refine go_iload O dX4_product_21 0 rfl 23 rfl ?_
      refine go_iload_n O dX4_product_23 rfl 1 rfl 24 rfl ?_
      refine go_icmp_ge O dX4_product_24 115 (by decide) 27 rfl (by omega) (by omega) (fun h24 => ?_) (fun h24 => ?_)
      · have e : i = tnds A := by omega
        rw [e, Nat.mod_eq_of_lt (tnds_lt A)] at hv
        subst hv
        exact hret _ _ () dX4_product_115 trivial
      · refine go_iconst O dX4_product_27 28 rfl ?_
        refine go_istore O dX4_product_28 (by decide) [(6, .int (iI 0)), (5, .int (iI x)), (3, .int (iI ((tnds A : Nat) : Int))), (4, .int (iI ((tnds B : Nat) : Int))), (0, .ref h), (1, .ref q), (2, .ref r)] rfl 30 rfl ?_
        refine go_iconst O dX4_product_30 31 rfl ?_
        refine go_istore O dX4_product_31 (by decide) [(7, .int (iI 0)), (6, .int (iI 0)), (5, .int (iI x)), (3, .int (iI ((tnds A : Nat) : Int))), (4, .int (iI ((tnds B : Nat) : Int))), (0, .ref h), (1, .ref q), (2, .ref r)] rfl 33 rfl ?_
        refine TGo.lsub (lv' := [(5, .int (iI x)), (6, .int (iI 0)), (7, .int (iI 0)), (3, .int (iI ((tnds A : Nat) : Int))), (4, .int (iI ((tnds B : Nat) : Int))), (0, .ref h), (1, .ref q), (2, .ref r)]) [2, 1, 0, 3, 4, 5, 6, 7] rfl ?_
        exact inner (81 - i) 0 0 _ _ _ (by omega) (by omega) (by omega) (by omega) (by omega) (by omega) tprod_0 (fun p e => by rw [dg_at, dg_at, tlow (by omega)]) (fun p _ => rfl)
  refine go_aload_n O dX4_product_0 rfl 0 rfl 1 rfl ?_
  refine go_get O hK dX4_product_1 hinX4 0 rfl rfl 10 (by decide) flX4_29 f_num 4 rfl ?_
  refine go_callvS (rest := []) (wr := [(h, .inr (4, fs)), (q, .inl (cI, 80, .inl (dg A))), (r, .inl (cI, 80, .inl (dg B)))]) O hK hE (c_X4_clear E hE qnum cI f) mlX4_72 smX4_clear inX4 cdX4_clear 1 (by decide +kernel) ⟨Nat.le_of_ble_eq_true rfl, Nat.le_of_ble_eq_true rfl⟩ [0] rfl [1] rfl (by decide) [0, 2, 3] rfl (by decide) (by decide) rfl rfl (Nat.le_of_ble_eq_true rfl) ⟨Nat.zero_le _, Nat.zero_le _⟩ dX4_product_4 7 rfl (fun u hu => ?_)
  show TGo X [(h, .inr (4, fs)), (q, .inl (cI, 80, .inl (dg A))), (r, .inl (cI, 80, .inl (dg B))), (qnum, .inl (cI, 80, .inl (dg 0)))] 0 0 7 [(0, .ref h), (1, .ref q), (2, .ref r)] []
  refine TGo.sub (ws' := [(h, .inr (4, fs)), (qnum, .inl (cI, 80, .inl (dg 0))), (q, .inl (cI, 80, .inl (dg A))), (r, .inl (cI, 80, .inl (dg B)))]) [0, 3, 1, 2] (by decide) rfl ?_
  refine go_aload_n O dX4_product_7 rfl 1 rfl 8 rfl ?_
  refine go_calliS (rest := []) (wr := [(h, .inr (4, fs)), (qnum, .inl (cI, 80, .inl (dg 0))), (r, .inl (cI, 80, .inl (dg B)))]) O hK hE (c_X4_size E hE q cI A (Nat.lt_of_lt_of_le (tnds_lt A) (p10le (by omega)))) mlX4_78 smX4_size inX4 cdX4_size 1 (by decide +kernel) ⟨Nat.le_of_ble_eq_true rfl, Nat.le_of_ble_eq_true rfl⟩ [0] rfl [2] rfl (by decide) [0, 1, 3] rfl (by decide) (by decide) rfl rfl (Nat.le_of_ble_eq_true rfl) ⟨Nat.zero_le _, Nat.zero_le _⟩ dX4_product_8 11 rfl (fun z u hu => ?_)
  subst hu
  show TGo X [(h, .inr (4, fs)), (qnum, .inl (cI, 80, .inl (dg 0))), (r, .inl (cI, 80, .inl (dg B))), (q, .inl (cI, 80, .inl (dg A)))] 0 0 11 [(0, .ref h), (1, .ref q), (2, .ref r)] [.int (iI ((tnds A : Nat) : Int))]
  refine TGo.sub (ws' := [(h, .inr (4, fs)), (qnum, .inl (cI, 80, .inl (dg 0))), (q, .inl (cI, 80, .inl (dg A))), (r, .inl (cI, 80, .inl (dg B)))]) [0, 1, 3, 2] (by decide) rfl ?_
  refine go_istore_n O dX4_product_11 rfl (by decide) [(3, .int (iI ((tnds A : Nat) : Int))), (0, .ref h), (1, .ref q), (2, .ref r)] rfl 12 rfl ?_
  refine go_aload_n O dX4_product_12 rfl 3 rfl 13 rfl ?_
  refine go_calliS (rest := []) (wr := [(h, .inr (4, fs)), (qnum, .inl (cI, 80, .inl (dg 0))), (q, .inl (cI, 80, .inl (dg A)))]) O hK hE (c_X4_size E hE r cI B (Nat.lt_of_lt_of_le (tnds_lt B) (p10le (by omega)))) mlX4_78 smX4_size inX4 cdX4_size 1 (by decide +kernel) ⟨Nat.le_of_ble_eq_true rfl, Nat.le_of_ble_eq_true rfl⟩ [0] rfl [3] rfl (by decide) [0, 1, 2] rfl (by decide) (by decide) rfl rfl (Nat.le_of_ble_eq_true rfl) ⟨Nat.zero_le _, Nat.zero_le _⟩ dX4_product_13 16 rfl (fun z u hu => ?_)
  subst hu
  show TGo X [(h, .inr (4, fs)), (qnum, .inl (cI, 80, .inl (dg 0))), (q, .inl (cI, 80, .inl (dg A))), (r, .inl (cI, 80, .inl (dg B)))] 0 0 16 [(3, .int (iI ((tnds A : Nat) : Int))), (0, .ref h), (1, .ref q), (2, .ref r)] [.int (iI ((tnds B : Nat) : Int))]
  refine go_istore O dX4_product_16 (by decide) [(4, .int (iI ((tnds B : Nat) : Int))), (3, .int (iI ((tnds A : Nat) : Int))), (0, .ref h), (1, .ref q), (2, .ref r)] rfl 18 rfl ?_
  refine go_iconst O dX4_product_18 19 rfl ?_
  refine go_istore O dX4_product_19 (by decide) [(5, .int (iI 0)), (4, .int (iI ((tnds B : Nat) : Int))), (3, .int (iI ((tnds A : Nat) : Int))), (0, .ref h), (1, .ref q), (2, .ref r)] rfl 21 rfl ?_
  refine TGo.lsub (lv' := [(5, .int (iI 0)), (3, .int (iI ((tnds A : Nat) : Int))), (4, .int (iI ((tnds B : Nat) : Int))), (0, .ref h), (1, .ref q), (2, .ref r)]) [0, 2, 1, 3, 4, 5] rfl ?_
  exact lp (tnds A + 1) 0 _ 0 (by omega) (by omega) (by omega) (by rw [Nat.pow_zero, Nat.mod_one, Nat.zero_mul])
