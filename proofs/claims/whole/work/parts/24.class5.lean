/-! A row added to a row, signed; a row divided place by place. -/
def jf (W O pl : Nat) (σ : Int) (i : Nat) : Nat → Int := fun j => if pl ≤ j ∧ j < pl + i then ((W / 10 ^ j % 10 : Nat) : Int) + σ * ((O / 10 ^ (j - pl) % 10 : Nat) : Int) else ((W / 10 ^ j % 10 : Nat) : Int)
theorem jf_0 (W O pl : Nat) (σ : Int) : ∀ j, dg W j = iI (jf W O pl σ 0 j) := by
  intro j
  unfold jf
  rw [if_neg (by omega)]; rfl
theorem jf_at (W O pl : Nat) (σ : Int) (i : Nat) : jf W O pl σ i (pl + i) = ((W / 10 ^ (pl + i) % 10 : Nat) : Int) := by
  unfold jf
  rw [if_neg (by omega)]
theorem jf_step (W O pl : Nat) (σ : Int) (i : Nat) : ∀ j, upd (fun j => iI (jf W O pl σ i j)) (pl + i) (iI (((W / 10 ^ (pl + i) % 10 : Nat) : Int) + σ * ((O / 10 ^ i % 10 : Nat) : Int))) j = iI (jf W O pl σ (i + 1) j) := by
  intro j
  by_cases e : j = pl + i
  · subst e
    rw [upd_s]
    unfold jf
    rw [if_pos (by omega), show pl + i - pl = i by omega]
  · rw [upd_n e]
    unfold jf
    by_cases e2 : pl ≤ j ∧ j < pl + i
    · rw [if_pos e2, if_pos (by omega)]
    · rw [if_neg e2, if_neg (by omega)]
theorem tv_mul (y : Nat → Int) (σ : Int) : ∀ (d i : Nat), tv (fun j => σ * y j) i d = σ * tv y i d := by
  intro d
  induction d with
  | zero => intro i; rw [tv_0, tv_0, Int.mul_zero]
  | succ d ih => intro i; rw [tv_s, tv_s, ih (i + 1), Int.mul_add, Int.mul_left_comm]
theorem jf_tv {W O pl : Nat} {σ : Int} (hW : W < 10 ^ 72) (hO : O < 10 ^ 36) (hpl : pl + 36 ≤ 72) : tv (jf W O pl σ 36) 0 72 = (W : Int) + σ * (O : Int) * (10 ^ pl : Nat) := by
  have h := tv_run (fun j => ((W / 10 ^ j % 10 : Nat) : Int)) (fun j => σ * ((O / 10 ^ j % 10 : Nat) : Int)) pl 72 36 hpl
  have e : tv (jf W O pl σ 36) 0 72 = tv (fun j => if pl ≤ j ∧ j < pl + 36 then (fun j => ((W / 10 ^ j % 10 : Nat) : Int)) j + (fun j => σ * ((O / 10 ^ j % 10 : Nat) : Int)) (j - pl) else (fun j => ((W / 10 ^ j % 10 : Nat) : Int)) j) 0 72 := rfl
  rw [e, h, tv_dg72 hW, tv_mul, tv_dg, tqz, Nat.mod_eq_of_lt hO]
theorem jf_bd {W O pl : Nat} {σ : Int} {i j : Nat} (hσ : σ = 1 ∨ σ = -1) : -100000000 ≤ jf W O pl σ i j ∧ jf W O pl σ i j ≤ 100000000 := by
  unfold jf
  rcases hσ with rfl | rfl <;> split <;> omega
theorem dg_setp {q a t l i : Nat} (hl : l < 10 ^ i) (ha : a < 10) (ht : t < 10) : ∀ j, upd (dg (q * 10 ^ (i + 1) + a * 10 ^ i + l)) i (iI (t : Int)) j = dg (q * 10 ^ (i + 1) + t * 10 ^ i + l) j := by
  have hi : ∀ b, b < 10 → (q * 10 ^ (i + 1) + b * 10 ^ i + l) / 10 ^ i = q * 10 + b := by
    intro b hb
    have e : q * 10 ^ (i + 1) + b * 10 ^ i + l = l + (q * 10 + b) * 10 ^ i := by rw [p10s, Nat.add_mul, Nat.mul_assoc]; omega
    rw [e, Nat.add_mul_div_right _ _ (p10 i), Nat.div_eq_of_lt hl, Nat.zero_add]
  intro j
  by_cases e : j = i
  · subst e
    rw [upd_s, dg_at, hi t ht]
    congr 1
    omega
  · rw [upd_n e, dg_at, dg_at]
    by_cases e2 : j < i
    · have h1 : ∀ b, (q * 10 ^ (i + 1) + b * 10 ^ i + l) / 10 ^ j % 10 = l / 10 ^ j % 10 := by
        intro b
        have e3 : q * 10 ^ (i + 1) + b * 10 ^ i + l = l + (q * 10 + b) * 10 ^ i := by rw [p10s, Nat.add_mul, Nat.mul_assoc]; omega
        rw [e3, tlow e2]
      rw [h1, h1]
    · have e3 : j = i + (1 + (j - i - 1)) := by omega
      rw [e3, tqadd, tqadd, tqadd (q * 10 ^ (i + 1) + t * 10 ^ i + l), tqadd ((q * 10 ^ (i + 1) + t * 10 ^ i + l) / 10 ^ i), hi a ha, hi t ht, Nat.pow_one]
      have h2 : (q * 10 + a) / 10 = (q * 10 + t) / 10 := by omega
      rw [h2]
theorem ovr_split {W D i : Nat} : W / 10 ^ (i + 1) / D * 10 ^ (i + 1) + W % 10 ^ (i + 1) = W / 10 ^ (i + 1) / D * 10 ^ (i + 1) + W / 10 ^ i % 10 * 10 ^ i + W % 10 ^ i := by
  rw [tmodS]; omega
theorem ovr_next {W D i t : Nat} (h : W / 10 ^ i / D = 10 * (W / 10 ^ (i + 1) / D) + t) : W / 10 ^ (i + 1) / D * 10 ^ (i + 1) + t * 10 ^ i + W % 10 ^ i = W / 10 ^ i / D * 10 ^ i + W % 10 ^ i := by
  rw [h, tdig_e]
theorem band_x {ng : Bool} {v : Int} (h : (bz ng = 1 ∧ 0 ≤ v) ∨ (bz ng = 0 ∧ v < 0)) : 1 = bz (ng != decide (v < 0)) := by
  rcases h with ⟨h1, h2⟩ | ⟨h1, h2⟩
  · rw [bz_1.mp h1, decide_eq_false (by omega)]; rfl
  · rw [bz_0.mp h1, decide_eq_true (by omega)]; rfl
theorem band_y {ng : Bool} {v : Int} (h : (bz ng = 0 ∧ 0 ≤ v) ∨ (bz ng = 1 ∧ v < 0)) : 0 = bz (ng != decide (v < 0)) := by
  rcases h with ⟨h1, h2⟩ | ⟨h1, h2⟩
  · rw [bz_0.mp h1, decide_eq_false (by omega)]; rfl
  · rw [bz_1.mp h1, decide_eq_true (by omega)]; rfl
theorem tq_sum {q W k : Nat} : (q * 10 ^ (k + 1) + W % 10 ^ (k + 1)) / 10 ^ k % 10 = W / 10 ^ k % 10 := by
  have h1 : W % 10 ^ (k + 1) / 10 ^ k = W / 10 ^ k % 10 := by
    rw [tmodS, Nat.add_mul_div_right _ _ (p10 k), Nat.div_eq_of_lt (Nat.mod_lt _ (p10 k)), Nat.zero_add]
  have e : q * 10 ^ (k + 1) + W % 10 ^ (k + 1) = W % 10 ^ (k + 1) + (q * 10) * 10 ^ k := by rw [p10s, Nat.mul_assoc]; omega
  rw [e, Nat.add_mul_div_right _ _ (p10 k), h1]
  omega
def sj (R j : Nat) : Nat := if j ≤ 10 then j * R else 10 * R + (j - 10)
theorem sj_0 (R : Nat) : sj R 0 = 0 := by unfold sj; rw [if_pos (by omega), Nat.zero_mul]
theorem sj_lt {R j : Nat} (h : j < 10) : sj R (j + 1) = sj R j + R := by unfold sj; rw [if_pos (by omega), if_pos (by omega), Nat.add_mul, Nat.one_mul]
theorem sj_ge {R j : Nat} (h : 10 ≤ j) : sj R j = 10 * R + (j - 10) := by
  unfold sj
  by_cases e : j ≤ 10
  · have e2 : j = 10 := by omega
    subst e2
    rw [if_pos (by omega)]; omega
  · rw [if_neg e]
set_option maxHeartbeats 4000000 in
set_option maxRecDepth 100000 in
/-- Work.join -/
theorem c_X2_join (E : TEn) (hE : EnvOk E) (hw qrow qfac : Nat) (cI : ClassId) (ng go : Bool) (q W Ov V pl : Nat) (σ : Int) (hσ : σ = 1 ∨ σ = -1) (hW : W < 10 ^ 72) (hO : Ov < 10 ^ 36) (hpl : pl + 36 ≤ 72) (hV : (V : Int) = (W : Int) + σ * (Ov : Int) * (10 ^ pl : Nat)) : Ctv vwCl E yX2_join wsX2_join (rmn 2 45) [.ref hw, .ref q, .int (iI ((pl : Nat) : Int)), .int (iI σ)] [(hw, .inr (2, [.ref qrow, .ref qfac, .int (iI (bz ng)), .int (iI (bz go))])), (qrow, .inl (cI, 72, .inl (dg W))), (q, .inl (cI, 36, .inl (dg Ov)))] [(cI, .int)] (fun _ : Unit => True) (fun _ => [(hw, .inr (2, [.ref qrow, .ref qfac, .int (iI (bz ng)), .int (iI (bz go))])), (qrow, .inl (cI, 72, .inl (dg V))), (q, .inl (cI, 36, .inl (dg Ov)))]) := by
  refine enterv (by decide) (Nat.le_of_ble_eq_true rfl) ?_
  intro X O hK hin2 hret
  show TGo X [(hw, .inr (2, [.ref qrow, .ref qfac, .int (iI (bz ng)), .int (iI (bz go))])), (qrow, .inl (cI, 72, .inl (dg W))), (q, .inl (cI, 36, .inl (dg Ov)))] 0 0 0 [(0, .ref hw), (1, .ref q), (2, .int (iI ((pl : Nat) : Int))), (3, .int (iI σ))] []
  have lp : ∀ (c : Nat) (i : Nat) (x : Int), c + i = 37 → i ≤ 36 → x = (i : Int) → TGo X [(hw, .inr (2, [.ref qrow, .ref qfac, .int (iI (bz ng)), .int (iI (bz go))])), (qrow, .inl (cI, 72, .inl (fun j => iI (jf W Ov pl σ i j)))), (q, .inl (cI, 36, .inl (dg Ov)))] 0 0 3 [(4, .int (iI x)), (0, .ref hw), (1, .ref q), (2, .int (iI ((pl : Nat) : Int))), (3, .int (iI σ))] [] := by
    intro c
    induction c with
    | zero => intro i x h1 h2 hx; omega
    | succ c ih =>
      intro i x h1 h2 hx
      refine go_iload O dX2_join_3 0 rfl 5 rfl ?_
      refine go_bipush O dX2_join_5 (by decide) 7 rfl ?_
      refine go_icmp_ge O dX2_join_7 34 (by decide) 10 rfl (by omega) (by omega) (fun h7 => ?_) (fun h7 => ?_)
      · have e36 : i = 36 := by omega
        subst e36
        refine go_aload_n O dX2_join_34 rfl 1 rfl 35 rfl ?_
        refine go_callvV (As := []) (rest := []) (wr := [(q, .inl (cI, 36, .inl (dg Ov)))]) O hK hE (c_X2_carry E hE hw qrow qfac cI ng go (jf W Ov pl σ 36) V (fun i _ => jf_bd hσ) (by rw [jf_tv hW hO hpl]; exact hV)) mlX2_59 imX2_carry seX2_carry inX2 cdX2_carry 0 (by decide +kernel) ⟨Nat.le_of_ble_eq_true rfl, Nat.le_of_ble_eq_true rfl⟩ 0 rfl rfl [0] rfl [0, 1] rfl (by decide) [2] rfl (by decide) (by decide) rfl rfl (Nat.le_of_ble_eq_true rfl) ⟨Nat.zero_le _, Nat.zero_le _⟩ dX2_join_35 38 rfl (fun u hu => ?_)
        show TGo X [(q, .inl (cI, 36, .inl (dg Ov))), (hw, .inr (2, [.ref qrow, .ref qfac, .int (iI (bz ng)), .int (iI (bz go))])), (qrow, .inl (cI, 72, .inl (dg V)))] 0 0 38 [(4, .int (iI x)), (0, .ref hw), (1, .ref q), (2, .int (iI ((pl : Nat) : Int))), (3, .int (iI σ))] []
        refine TGo.sub (ws' := [(hw, .inr (2, [.ref qrow, .ref qfac, .int (iI (bz ng)), .int (iI (bz go))])), (qrow, .inl (cI, 72, .inl (dg V))), (q, .inl (cI, 36, .inl (dg Ov)))]) [1, 2, 0] (by decide) rfl ?_
        exact hret _ _ () dX2_join_38 trivial
      · refine go_aload_n O dX2_join_10 rfl 1 rfl 11 rfl ?_
        refine go_get O hK dX2_join_11 hinX2 0 rfl rfl 0 (by decide) flX2_9 rfl 14 rfl ?_
        refine go_iload_n O dX2_join_14 rfl 3 rfl 15 rfl ?_
        refine go_iload O dX2_join_15 0 rfl 17 rfl ?_
        refine go_iadd O dX2_join_17 ((pl + i : Nat) : Int) (by omega) 18 rfl ?_
        refine go_dup2_11 O dX2_join_18 rfl rfl 19 rfl ?_
        refine go_iald O hK dX2_join_19 1 0 rfl rfl (pl + i) rfl (by omega) (by omega) ((W / 10 ^ (pl + i) % 10 : Nat) : Int) (congrArg iI (jf_at W Ov pl σ i)) 20 rfl ?_
        refine go_iload_n O dX2_join_20 rfl 4 rfl 21 rfl ?_
        refine go_aload_n O dX2_join_21 rfl 2 rfl 22 rfl ?_
        refine go_iload O dX2_join_22 0 rfl 24 rfl ?_
        refine go_iald O hK dX2_join_24 2 0 rfl rfl i hx (by omega) (by omega) ((Ov / 10 ^ i % 10 : Nat) : Int) rfl 25 rfl ?_
        refine go_imul O dX2_join_25 (σ * ((Ov / 10 ^ i % 10 : Nat) : Int)) rfl 26 rfl ?_
        refine go_iadd O dX2_join_26 (((W / 10 ^ (pl + i) % 10 : Nat) : Int) + σ * ((Ov / 10 ^ i % 10 : Nat) : Int)) rfl 27 rfl ?_
        refine go_iast O hK dX2_join_27 1 0 rfl rfl (pl + i) rfl (by omega) (by omega) (fun j => iI (jf W Ov pl σ (i + 1) j)) (fun j _ => jf_step W Ov pl σ i j) [(hw, .inr (2, [.ref qrow, .ref qfac, .int (iI (bz ng)), .int (iI (bz go))])), (qrow, .inl (cI, 72, .inl (fun j => iI (jf W Ov pl σ (i + 1) j)))), (q, .inl (cI, 36, .inl (dg Ov)))] rfl 28 rfl ?_
        refine go_iinc O dX2_join_28 0 rfl ((i + 1 : Nat) : Int) (by omega) (by decide) [(4, .int (iI ((i + 1 : Nat) : Int))), (0, .ref hw), (1, .ref q), (2, .int (iI ((pl : Nat) : Int))), (3, .int (iI σ))] rfl 31 rfl ?_
        refine go_goto O dX2_join_31 3 (by decide) ?_
        refine TGo.lsub (lv' := [(4, .int (iI ((i + 1 : Nat) : Int))), (0, .ref hw), (1, .ref q), (2, .int (iI ((pl : Nat) : Int))), (3, .int (iI σ))]) [0, 1, 2, 3, 4] rfl ?_
        exact ih (i + 1) _ (by omega) (by omega) (by omega)
  refine go_iconst O dX2_join_0 1 rfl ?_
  refine go_istore O dX2_join_1 (by decide) [(4, .int (iI 0)), (0, .ref hw), (1, .ref q), (2, .int (iI ((pl : Nat) : Int))), (3, .int (iI σ))] rfl 3 rfl ?_
  refine TGo.lsub (lv' := [(4, .int (iI 0)), (0, .ref hw), (1, .ref q), (2, .int (iI ((pl : Nat) : Int))), (3, .int (iI σ))]) [0, 1, 2, 3, 4] rfl ?_
  refine TGo.arr 1 rfl (fun j => iI (jf W Ov pl σ 0 j)) (fun j _ => jf_0 W Ov pl σ j) (ws' := [(hw, .inr (2, [.ref qrow, .ref qfac, .int (iI (bz ng)), .int (iI (bz go))])), (qrow, .inl (cI, 72, .inl (fun j => iI (jf W Ov pl σ 0 j)))), (q, .inl (cI, 36, .inl (dg Ov)))]) rfl ?_
  exact lp 37 0 _ (by omega) (by omega) (by omega)
set_option maxHeartbeats 4000000 in
set_option maxRecDepth 100000 in
/-- Work.over -/
theorem c_X2_over (E : TEn) (hE : EnvOk E) (hw qrow qfac : Nat) (cI : ClassId) (ng go : Bool) (W lo : Nat) (v : Int) (hv : r64 v) (hv0 : v ≠ 0) (hW : W < 10 ^ 72) (hlo72 : lo ≤ 72) : Ctl vwCl E yX2_over wsX2_over (rmn 1 21) [.ref hw, .long (lI v), .int (iI ((lo : Nat) : Int))] [(hw, .inr (2, [.ref qrow, .ref qfac, .int (iI (bz ng)), .int (iI (bz go))])), (qrow, .inl (cI, 72, .inl (dg W)))] [(cI, .int)] (fun (z : Int) (_ : Unit) => z = ((W / 10 ^ lo % v.natAbs : Nat) : Int)) (fun _ => [(hw, .inr (2, [.ref qrow, .ref qfac, .int (iI (bz (ng != decide (v < 0)))), .int (iI (bz (decide (W / 10 ^ lo % v.natAbs ≠ 0))))])), (qrow, .inl (cI, 72, .inl (dg (W / 10 ^ lo / v.natAbs * 10 ^ lo + W % 10 ^ lo))))]) := by
  refine enterl (by decide) (Nat.le_of_ble_eq_true rfl) ?_
  intro X O hK hin2 hret
  show TGo X [(hw, .inr (2, [.ref qrow, .ref qfac, .int (iI (bz ng)), .int (iI (bz go))])), (qrow, .inl (cI, 72, .inl (dg W)))] 0 0 0 [(0, .ref hw), (1, .long (lI v)), (3, .int (iI ((lo : Nat) : Int)))] []
  have hcv := cmpZ_ge (a := v) (b := 0)
  have b1 := bz_01 ng
  have hD : 0 < v.natAbs := by omega
  have hDb : v.natAbs ≤ 9223372036854775808 := by omega
  have ht72 := tnds_mono hW
  have m132 : ∀ (x : Int) (rr : Int), rr = -((W / 10 ^ lo % v.natAbs : Nat) : Int) → TGo X [(hw, .inr (2, [.ref qrow, .ref qfac, .int (iI (bz ng)), .int (iI (bz go))])), (qrow, .inl (cI, 72, .inl (dg (W / 10 ^ lo / v.natAbs * 10 ^ lo + W % 10 ^ lo))))] 0 0 132 [(4, .long (lI (-(((v.natAbs) : Nat) : Int)))), (6, .long (lI rr)), (8, .int (iI x)), (0, .ref hw), (1, .long (lI v)), (3, .int (iI ((lo : Nat) : Int)))] [] := by
    intro x rr hrr
    have q0 := cmpZ_eq (a := rr) (b := 0)
    have hrl : W / 10 ^ lo % v.natAbs < v.natAbs := Nat.mod_lt _ hD
    refine go_aload_n O dX2_over_132 rfl 3 rfl 133 rfl ?_
    refine go_lload O dX2_over_133 1 rfl 135 rfl ?_
    refine go_lconst O dX2_over_135 0 rfl 136 rfl ?_
    refine go_lcmp O dX2_over_136 (by omega) (by omega) 137 rfl ?_
    refine go_if_eq O dX2_over_137 144 (by decide) 140 rfl (cmpZ_r _ _) (fun h137 => ?_) (fun h137 => ?_)
    · refine go_iconst O dX2_over_144 145 rfl ?_
      refine TGo.topi (y := bz (decide (W / 10 ^ lo % v.natAbs ≠ 0))) (bzd_0 (by omega)) ?_
      refine go_put O hK dX2_over_145 hinX2 tyX2 tyX2_ok nmX2 0 rfl rfl 3 (by decide) flX2_28 rfl rfl (nar_b (bz_01 _)) (fit_b (bz_01 _)) (Nat.le_of_ble_eq_true rfl) [(hw, .inr (2, [.ref qrow, .ref qfac, .int (iI (bz ng)), .int (iI (bz (decide (W / 10 ^ lo % v.natAbs ≠ 0))))])), (qrow, .inl (cI, 72, .inl (dg (W / 10 ^ lo / v.natAbs * 10 ^ lo + W % 10 ^ lo))))] rfl 148 rfl ?_
      refine go_aload_n O dX2_over_148 rfl 3 rfl 149 rfl ?_
      refine go_aload_n O dX2_over_149 rfl 3 rfl 150 rfl ?_
      refine go_get O hK dX2_over_150 hinX2 0 rfl rfl 2 (by decide) flX2_24 rfl 153 rfl ?_
      refine go_lload_n O dX2_over_153 rfl 4 rfl 154 rfl ?_
      refine go_lconst O dX2_over_154 0 rfl 155 rfl ?_
      refine go_lcmp O dX2_over_155 (by omega) (by omega) 156 rfl ?_
      refine go_if_ge O dX2_over_156 163 (by decide) 159 rfl (cmpZ_r _ _) (fun h156 => ?_) (fun h156 => ?_)
      · refine go_iconst O dX2_over_163 164 rfl ?_
        refine go_icmp_eq O dX2_over_164 171 (by decide) 167 rfl (by omega) (by omega) (fun h164 => ?_) (fun h164 => ?_)
        · refine go_iconst O dX2_over_171 172 rfl ?_
          refine TGo.topi (y := bz (ng != decide (v < 0))) (band_y (by omega)) ?_
          refine go_put O hK dX2_over_172 hinX2 tyX2 tyX2_ok nmX2 0 rfl rfl 2 (by decide) flX2_24 rfl rfl (nar_b (bz_01 _)) (fit_b (bz_01 _)) (Nat.le_of_ble_eq_true rfl) [(hw, .inr (2, [.ref qrow, .ref qfac, .int (iI (bz (ng != decide (v < 0)))), .int (iI (bz (decide (W / 10 ^ lo % v.natAbs ≠ 0))))])), (qrow, .inl (cI, 72, .inl (dg (W / 10 ^ lo / v.natAbs * 10 ^ lo + W % 10 ^ lo))))] rfl 175 rfl ?_
          refine go_lload O dX2_over_175 1 rfl 177 rfl ?_
          refine go_lneg O dX2_over_177 ((W / 10 ^ lo % v.natAbs : Nat) : Int) (by omega) 178 rfl ?_
          exact hret _ _ _ () dX2_over_178 rfl
        · refine go_iconst O dX2_over_167 168 rfl ?_
          refine go_goto O dX2_over_168 172 (by decide) ?_
          refine TGo.topi (y := bz (ng != decide (v < 0))) (band_x (by omega)) ?_
          refine go_put O hK dX2_over_172 hinX2 tyX2 tyX2_ok nmX2 0 rfl rfl 2 (by decide) flX2_24 rfl rfl (nar_b (bz_01 _)) (fit_b (bz_01 _)) (Nat.le_of_ble_eq_true rfl) [(hw, .inr (2, [.ref qrow, .ref qfac, .int (iI (bz (ng != decide (v < 0)))), .int (iI (bz (decide (W / 10 ^ lo % v.natAbs ≠ 0))))])), (qrow, .inl (cI, 72, .inl (dg (W / 10 ^ lo / v.natAbs * 10 ^ lo + W % 10 ^ lo))))] rfl 175 rfl ?_
          refine go_lload O dX2_over_175 1 rfl 177 rfl ?_
          refine go_lneg O dX2_over_177 ((W / 10 ^ lo % v.natAbs : Nat) : Int) (by omega) 178 rfl ?_
          exact hret _ _ _ () dX2_over_178 rfl
      · refine go_iconst O dX2_over_159 160 rfl ?_
        refine go_goto O dX2_over_160 164 (by decide) ?_
        refine go_icmp_eq O dX2_over_164 171 (by decide) 167 rfl (by omega) (by omega) (fun h164 => ?_) (fun h164 => ?_)
        · refine go_iconst O dX2_over_171 172 rfl ?_
          refine TGo.topi (y := bz (ng != decide (v < 0))) (band_y (by omega)) ?_
          refine go_put O hK dX2_over_172 hinX2 tyX2 tyX2_ok nmX2 0 rfl rfl 2 (by decide) flX2_24 rfl rfl (nar_b (bz_01 _)) (fit_b (bz_01 _)) (Nat.le_of_ble_eq_true rfl) [(hw, .inr (2, [.ref qrow, .ref qfac, .int (iI (bz (ng != decide (v < 0)))), .int (iI (bz (decide (W / 10 ^ lo % v.natAbs ≠ 0))))])), (qrow, .inl (cI, 72, .inl (dg (W / 10 ^ lo / v.natAbs * 10 ^ lo + W % 10 ^ lo))))] rfl 175 rfl ?_
          refine go_lload O dX2_over_175 1 rfl 177 rfl ?_
          refine go_lneg O dX2_over_177 ((W / 10 ^ lo % v.natAbs : Nat) : Int) (by omega) 178 rfl ?_
          exact hret _ _ _ () dX2_over_178 rfl
        · refine go_iconst O dX2_over_167 168 rfl ?_
          refine go_goto O dX2_over_168 172 (by decide) ?_
          refine TGo.topi (y := bz (ng != decide (v < 0))) (band_x (by omega)) ?_
          refine go_put O hK dX2_over_172 hinX2 tyX2 tyX2_ok nmX2 0 rfl rfl 2 (by decide) flX2_24 rfl rfl (nar_b (bz_01 _)) (fit_b (bz_01 _)) (Nat.le_of_ble_eq_true rfl) [(hw, .inr (2, [.ref qrow, .ref qfac, .int (iI (bz (ng != decide (v < 0)))), .int (iI (bz (decide (W / 10 ^ lo % v.natAbs ≠ 0))))])), (qrow, .inl (cI, 72, .inl (dg (W / 10 ^ lo / v.natAbs * 10 ^ lo + W % 10 ^ lo))))] rfl 175 rfl ?_
          refine go_lload O dX2_over_175 1 rfl 177 rfl ?_
          refine go_lneg O dX2_over_177 ((W / 10 ^ lo % v.natAbs : Nat) : Int) (by omega) 178 rfl ?_
          exact hret _ _ _ () dX2_over_178 rfl
    · refine go_iconst O dX2_over_140 141 rfl ?_
      refine go_goto O dX2_over_141 145 (by decide) ?_
      refine TGo.topi (y := bz (decide (W / 10 ^ lo % v.natAbs ≠ 0))) (bzd_1 (by omega)) ?_
      refine go_put O hK dX2_over_145 hinX2 tyX2 tyX2_ok nmX2 0 rfl rfl 3 (by decide) flX2_28 rfl rfl (nar_b (bz_01 _)) (fit_b (bz_01 _)) (Nat.le_of_ble_eq_true rfl) [(hw, .inr (2, [.ref qrow, .ref qfac, .int (iI (bz ng)), .int (iI (bz (decide (W / 10 ^ lo % v.natAbs ≠ 0))))])), (qrow, .inl (cI, 72, .inl (dg (W / 10 ^ lo / v.natAbs * 10 ^ lo + W % 10 ^ lo))))] rfl 148 rfl ?_
      refine go_aload_n O dX2_over_148 rfl 3 rfl 149 rfl ?_
      refine go_aload_n O dX2_over_149 rfl 3 rfl 150 rfl ?_
      refine go_get O hK dX2_over_150 hinX2 0 rfl rfl 2 (by decide) flX2_24 rfl 153 rfl ?_
      refine go_lload_n O dX2_over_153 rfl 4 rfl 154 rfl ?_
      refine go_lconst O dX2_over_154 0 rfl 155 rfl ?_
      refine go_lcmp O dX2_over_155 (by omega) (by omega) 156 rfl ?_
      refine go_if_ge O dX2_over_156 163 (by decide) 159 rfl (cmpZ_r _ _) (fun h156 => ?_) (fun h156 => ?_)
      · refine go_iconst O dX2_over_163 164 rfl ?_
        refine go_icmp_eq O dX2_over_164 171 (by decide) 167 rfl (by omega) (by omega) (fun h164 => ?_) (fun h164 => ?_)
        · refine go_iconst O dX2_over_171 172 rfl ?_
          refine TGo.topi (y := bz (ng != decide (v < 0))) (band_y (by omega)) ?_
          refine go_put O hK dX2_over_172 hinX2 tyX2 tyX2_ok nmX2 0 rfl rfl 2 (by decide) flX2_24 rfl rfl (nar_b (bz_01 _)) (fit_b (bz_01 _)) (Nat.le_of_ble_eq_true rfl) [(hw, .inr (2, [.ref qrow, .ref qfac, .int (iI (bz (ng != decide (v < 0)))), .int (iI (bz (decide (W / 10 ^ lo % v.natAbs ≠ 0))))])), (qrow, .inl (cI, 72, .inl (dg (W / 10 ^ lo / v.natAbs * 10 ^ lo + W % 10 ^ lo))))] rfl 175 rfl ?_
          refine go_lload O dX2_over_175 1 rfl 177 rfl ?_
          refine go_lneg O dX2_over_177 ((W / 10 ^ lo % v.natAbs : Nat) : Int) (by omega) 178 rfl ?_
          exact hret _ _ _ () dX2_over_178 rfl
        · refine go_iconst O dX2_over_167 168 rfl ?_
          refine go_goto O dX2_over_168 172 (by decide) ?_
          refine TGo.topi (y := bz (ng != decide (v < 0))) (band_x (by omega)) ?_
          refine go_put O hK dX2_over_172 hinX2 tyX2 tyX2_ok nmX2 0 rfl rfl 2 (by decide) flX2_24 rfl rfl (nar_b (bz_01 _)) (fit_b (bz_01 _)) (Nat.le_of_ble_eq_true rfl) [(hw, .inr (2, [.ref qrow, .ref qfac, .int (iI (bz (ng != decide (v < 0)))), .int (iI (bz (decide (W / 10 ^ lo % v.natAbs ≠ 0))))])), (qrow, .inl (cI, 72, .inl (dg (W / 10 ^ lo / v.natAbs * 10 ^ lo + W % 10 ^ lo))))] rfl 175 rfl ?_
          refine go_lload O dX2_over_175 1 rfl 177 rfl ?_
          refine go_lneg O dX2_over_177 ((W / 10 ^ lo % v.natAbs : Nat) : Int) (by omega) 178 rfl ?_
          exact hret _ _ _ () dX2_over_178 rfl
      · refine go_iconst O dX2_over_159 160 rfl ?_
        refine go_goto O dX2_over_160 164 (by decide) ?_
        refine go_icmp_eq O dX2_over_164 171 (by decide) 167 rfl (by omega) (by omega) (fun h164 => ?_) (fun h164 => ?_)
        · refine go_iconst O dX2_over_171 172 rfl ?_
          refine TGo.topi (y := bz (ng != decide (v < 0))) (band_y (by omega)) ?_
          refine go_put O hK dX2_over_172 hinX2 tyX2 tyX2_ok nmX2 0 rfl rfl 2 (by decide) flX2_24 rfl rfl (nar_b (bz_01 _)) (fit_b (bz_01 _)) (Nat.le_of_ble_eq_true rfl) [(hw, .inr (2, [.ref qrow, .ref qfac, .int (iI (bz (ng != decide (v < 0)))), .int (iI (bz (decide (W / 10 ^ lo % v.natAbs ≠ 0))))])), (qrow, .inl (cI, 72, .inl (dg (W / 10 ^ lo / v.natAbs * 10 ^ lo + W % 10 ^ lo))))] rfl 175 rfl ?_
          refine go_lload O dX2_over_175 1 rfl 177 rfl ?_
          refine go_lneg O dX2_over_177 ((W / 10 ^ lo % v.natAbs : Nat) : Int) (by omega) 178 rfl ?_
          exact hret _ _ _ () dX2_over_178 rfl
        · refine go_iconst O dX2_over_167 168 rfl ?_
          refine go_goto O dX2_over_168 172 (by decide) ?_
          refine TGo.topi (y := bz (ng != decide (v < 0))) (band_x (by omega)) ?_
          refine go_put O hK dX2_over_172 hinX2 tyX2 tyX2_ok nmX2 0 rfl rfl 2 (by decide) flX2_24 rfl rfl (nar_b (bz_01 _)) (fit_b (bz_01 _)) (Nat.le_of_ble_eq_true rfl) [(hw, .inr (2, [.ref qrow, .ref qfac, .int (iI (bz (ng != decide (v < 0)))), .int (iI (bz (decide (W / 10 ^ lo % v.natAbs ≠ 0))))])), (qrow, .inl (cI, 72, .inl (dg (W / 10 ^ lo / v.natAbs * 10 ^ lo + W % 10 ^ lo))))] rfl 175 rfl ?_
          refine go_lload O dX2_over_175 1 rfl 177 rfl ?_
          refine go_lneg O dX2_over_177 ((W / 10 ^ lo % v.natAbs : Nat) : Int) (by omega) 178 rfl ?_
          exact hret _ _ _ () dX2_over_178 rfl
  have lp : ∀ (c i : Nat) (x rr : Int), c = i + 1 → i ≤ 72 → lo ≤ i → x = (i : Int) - 1 → rr = -((W / 10 ^ i % v.natAbs : Nat) : Int) → TGo X [(hw, .inr (2, [.ref qrow, .ref qfac, .int (iI (bz ng)), .int (iI (bz go))])), (qrow, .inl (cI, 72, .inl (dg (W / 10 ^ i / v.natAbs * 10 ^ i + W % 10 ^ i))))] 0 0 25 [(4, .long (lI (-(((v.natAbs) : Nat) : Int)))), (6, .long (lI rr)), (8, .int (iI x)), (0, .ref hw), (1, .long (lI v)), (3, .int (iI ((lo : Nat) : Int)))] [] := by
    intro c
    induction c with
    | zero => intro i x rr h1; omega
    | succ c ih =>
      intro i x rr h1 h2 h3 hx hrr
      by_cases hlo : i = lo
      · subst hlo
        refine go_iload O dX2_over_25 2 rfl 27 rfl ?_
        refine go_iload_n O dX2_over_27 rfl 5 rfl 28 rfl ?_
        refine go_icmp_lt O dX2_over_28 132 (by decide) 31 rfl (by omega) (by omega) (fun h28 => ?_) (fun h28 => by omega)
        exact m132 _ _ hrr
      · obtain ⟨k, rfl⟩ : ∃ k, i = k + 1 := ⟨i - 1, by omega⟩
        have hR : W / 10 ^ (k + 1) % v.natAbs < v.natAbs := Nat.mod_lt _ hD
        have hdk : W / 10 ^ k % 10 < 10 := Nat.mod_lt _ (by omega)
        have hxk : x = (k : Int) := by omega
        rw [ovr_split]
        have hdig : (W / 10 ^ (k + 1) / v.natAbs * 10 ^ (k + 1) + W / 10 ^ k % 10 * 10 ^ k + W % 10 ^ k) / 10 ^ k % 10 = W / 10 ^ k % 10 := by rw [← ovr_split, tq_sum]
        have inner : ∀ (d j t y0 : Nat) (y nx : Int), d + j = 11 + W / 10 ^ k % 10 → j ≤ 10 + W / 10 ^ k % 10 → y = (j : Int) → nx = -(y0 : Int) → y0 < v.natAbs → t ≤ j → t * v.natAbs + y0 = sj (W / 10 ^ (k + 1) % v.natAbs) j → TGo X [(hw, .inr (2, [.ref qrow, .ref qfac, .int (iI (bz ng)), .int (iI (bz go))])), (qrow, .inl (cI, 72, .inl (dg (W / 10 ^ (k + 1) / v.natAbs * 10 ^ (k + 1) + W / 10 ^ k % 10 * 10 ^ k + W % 10 ^ k))))] 0 0 40 [(9, .int (iI ((t : Nat) : Int))), (10, .long (lI nx)), (12, .int (iI y)), (4, .long (lI (-(((v.natAbs) : Nat) : Int)))), (6, .long (lI rr)), (8, .int (iI x)), (0, .ref hw), (1, .long (lI v)), (3, .int (iI ((lo : Nat) : Int)))] [] := by
          intro d
          induction d with
          | zero => intro j t y0 y nx h4; omega
          | succ d ih2 =>
            intro j t y0 y nx h4 h5 hy hnx hy0 htj hS
            refine go_iload O dX2_over_40 2 rfl 42 rfl ?_
            refine go_bipush O dX2_over_42 (by decide) 44 rfl ?_
            refine go_aload_n O dX2_over_44 rfl 6 rfl 45 rfl ?_
            refine go_get O hK dX2_over_45 hinX2 0 rfl rfl 0 (by decide) flX2_9 rfl 48 rfl ?_
            refine go_iload O dX2_over_48 5 rfl 50 rfl ?_
            refine go_iald O hK dX2_over_50 1 0 rfl rfl k hxk (by omega) (by omega) ((W / 10 ^ k % 10 : Nat) : Int) (by rw [dg_at, hdig]) 51 rfl ?_
            refine go_iadd O dX2_over_51 ((10 + W / 10 ^ k % 10 : Nat) : Int) (by omega) 52 rfl ?_
            refine go_icmp_ge O dX2_over_52 113 (by decide) 55 rfl (by omega) (by omega) (fun h52 => ?_) (fun h52 => ?_)
            · have ej : j = 10 + W / 10 ^ k % 10 := by omega
              have hS2 : t * v.natAbs + y0 = W / 10 ^ (k + 1) % v.natAbs * 10 + W / 10 ^ k % 10 := by rw [hS, sj_ge (by omega)]; omega
              obtain ⟨e1, e2⟩ := tquo (N := W) (m := k) (t := t) (r := y0) hD hy0 hS2
              have ht9 : t < 10 := by
                rcases Nat.lt_or_ge t 10 with e3 | e3
                · exact e3
                · have e4 := Nat.mul_le_mul_right (v.natAbs) e3
                  omega
              refine go_aload_n O dX2_over_113 rfl 6 rfl 114 rfl ?_
              refine go_get O hK dX2_over_114 hinX2 0 rfl rfl 0 (by decide) flX2_9 rfl 117 rfl ?_
              refine go_iload O dX2_over_117 5 rfl 119 rfl ?_
              refine go_iload O dX2_over_119 0 rfl 121 rfl ?_
              refine go_iast O hK dX2_over_121 1 0 rfl rfl k hxk (by omega) (by omega) (dg (W / 10 ^ k / v.natAbs * 10 ^ k + W % 10 ^ k)) (fun j _ => by rw [← ovr_next e1]; exact dg_setp (Nat.mod_lt _ (p10 k)) hdk ht9 j) [(hw, .inr (2, [.ref qrow, .ref qfac, .int (iI (bz ng)), .int (iI (bz go))])), (qrow, .inl (cI, 72, .inl (dg (W / 10 ^ k / v.natAbs * 10 ^ k + W % 10 ^ k))))] rfl 122 rfl ?_
              refine go_lload O dX2_over_122 1 rfl 124 rfl ?_
              refine go_lstore O dX2_over_124 (by decide) [(6, .long (lI nx)), (9, .int (iI ((t : Nat) : Int))), (10, .long (lI nx)), (12, .int (iI y)), (4, .long (lI (-(((v.natAbs) : Nat) : Int)))), (8, .int (iI x)), (0, .ref hw), (1, .long (lI v)), (3, .int (iI ((lo : Nat) : Int)))] rfl 126 rfl ?_
              refine go_iinc O dX2_over_126 5 rfl (x - 1) (by omega) (by decide) [(8, .int (iI (x - 1))), (6, .long (lI nx)), (9, .int (iI ((t : Nat) : Int))), (10, .long (lI nx)), (12, .int (iI y)), (4, .long (lI (-(((v.natAbs) : Nat) : Int)))), (0, .ref hw), (1, .long (lI v)), (3, .int (iI ((lo : Nat) : Int)))] rfl 129 rfl ?_
              refine go_goto O dX2_over_129 25 (by decide) ?_
              refine TGo.lsub (lv' := [(4, .long (lI (-(((v.natAbs) : Nat) : Int)))), (6, .long (lI nx)), (8, .int (iI (x - 1))), (0, .ref hw), (1, .long (lI v)), (3, .int (iI ((lo : Nat) : Int)))]) [5, 1, 0, 6, 7, 8] rfl ?_
              exact ih k _ _ (by omega) (by omega) (by omega) (by omega) (by rw [hnx, e2])
            · refine go_iload O dX2_over_55 2 rfl 57 rfl ?_
              refine go_bipush O dX2_over_57 (by decide) 59 rfl ?_
              refine go_icmp_ge O dX2_over_59 67 (by decide) 62 rfl (by omega) (by omega) (fun h59 => ?_) (fun h59 => ?_)
              · refine go_ldc2 O dX2_over_67 (-1) kcX2_66 (by decide) 70 rfl ?_
                refine go_lstore O dX2_over_70 (by decide) [(13, .long (lI (-1))), (9, .int (iI ((t : Nat) : Int))), (10, .long (lI nx)), (12, .int (iI y)), (4, .long (lI (-(((v.natAbs) : Nat) : Int)))), (6, .long (lI rr)), (8, .int (iI x)), (0, .ref hw), (1, .long (lI v)), (3, .int (iI ((lo : Nat) : Int)))] rfl 72 rfl ?_
                refine go_lload O dX2_over_72 4 rfl 74 rfl ?_
                refine go_lload O dX2_over_74 2 rfl 76 rfl ?_
                refine go_lsub O dX2_over_76 (-((v.natAbs : Nat) : Int) - nx) rfl 77 rfl ?_
                refine go_lstore O dX2_over_77 (by decide) [(15, .long (lI (-((v.natAbs : Nat) : Int) - nx))), (13, .long (lI (-1))), (9, .int (iI ((t : Nat) : Int))), (10, .long (lI nx)), (12, .int (iI y)), (4, .long (lI (-(((v.natAbs) : Nat) : Int)))), (6, .long (lI rr)), (8, .int (iI x)), (0, .ref hw), (1, .long (lI v)), (3, .int (iI ((lo : Nat) : Int)))] rfl 79 rfl ?_
                have qc := cmpZ_le (a := (-1)) (b := (-((v.natAbs : Nat) : Int) - nx))
                refine go_lload O dX2_over_79 1 rfl 81 rfl ?_
                refine go_lload O dX2_over_81 0 rfl 83 rfl ?_
                refine go_lcmp O dX2_over_83 (by omega) (by omega) 84 rfl ?_
                refine go_if_gt O dX2_over_84 100 (by decide) 87 rfl (cmpZ_r _ _) (fun h84 => ?_) (fun h84 => ?_)
                · refine go_lload O dX2_over_100 3 rfl 102 rfl ?_
                  refine go_lload O dX2_over_102 1 rfl 104 rfl ?_
                  refine go_ladd O dX2_over_104 (nx + (-1)) rfl 105 rfl ?_
                  refine go_lstore O dX2_over_105 (by decide) [(10, .long (lI (nx + (-1)))), (15, .long (lI (-((v.natAbs : Nat) : Int) - nx))), (13, .long (lI (-1))), (9, .int (iI ((t : Nat) : Int))), (12, .int (iI y)), (4, .long (lI (-(((v.natAbs) : Nat) : Int)))), (6, .long (lI rr)), (8, .int (iI x)), (0, .ref hw), (1, .long (lI v)), (3, .int (iI ((lo : Nat) : Int)))] rfl 107 rfl ?_
                  refine go_iinc O dX2_over_107 4 rfl ((j + 1 : Nat) : Int) (by omega) (by decide) [(12, .int (iI ((j + 1 : Nat) : Int))), (10, .long (lI (nx + (-1)))), (15, .long (lI (-((v.natAbs : Nat) : Int) - nx))), (13, .long (lI (-1))), (9, .int (iI ((t : Nat) : Int))), (4, .long (lI (-(((v.natAbs) : Nat) : Int)))), (6, .long (lI rr)), (8, .int (iI x)), (0, .ref hw), (1, .long (lI v)), (3, .int (iI ((lo : Nat) : Int)))] rfl 110 rfl ?_
                  refine go_goto O dX2_over_110 40 (by decide) ?_
                  refine TGo.lsub (lv' := [(9, .int (iI ((t : Nat) : Int))), (10, .long (lI (nx + (-1)))), (12, .int (iI ((j + 1 : Nat) : Int))), (4, .long (lI (-(((v.natAbs) : Nat) : Int)))), (6, .long (lI rr)), (8, .int (iI x)), (0, .ref hw), (1, .long (lI v)), (3, .int (iI ((lo : Nat) : Int)))]) [4, 1, 0, 5, 6, 7, 8, 9, 10] rfl ?_
                  exact ih2 (j + 1) t (y0 + 1) _ _ (by omega) (by omega) rfl (by omega) (by omega) (by omega) (by rw [sj_ge (by omega)]; rw [sj_ge (by omega)] at hS; omega)
                · refine go_lload O dX2_over_87 1 rfl 89 rfl ?_
                  refine go_lload O dX2_over_89 0 rfl 91 rfl ?_
                  refine go_lsub O dX2_over_91 ((-1) - (-((v.natAbs : Nat) : Int) - nx)) rfl 92 rfl ?_
                  refine go_lstore O dX2_over_92 (by decide) [(10, .long (lI ((-1) - (-((v.natAbs : Nat) : Int) - nx)))), (15, .long (lI (-((v.natAbs : Nat) : Int) - nx))), (13, .long (lI (-1))), (9, .int (iI ((t : Nat) : Int))), (12, .int (iI y)), (4, .long (lI (-(((v.natAbs) : Nat) : Int)))), (6, .long (lI rr)), (8, .int (iI x)), (0, .ref hw), (1, .long (lI v)), (3, .int (iI ((lo : Nat) : Int)))] rfl 94 rfl ?_
                  refine go_iinc O dX2_over_94 3 rfl ((t + 1 : Nat) : Int) (by omega) (by decide) [(9, .int (iI ((t + 1 : Nat) : Int))), (10, .long (lI ((-1) - (-((v.natAbs : Nat) : Int) - nx)))), (15, .long (lI (-((v.natAbs : Nat) : Int) - nx))), (13, .long (lI (-1))), (12, .int (iI y)), (4, .long (lI (-(((v.natAbs) : Nat) : Int)))), (6, .long (lI rr)), (8, .int (iI x)), (0, .ref hw), (1, .long (lI v)), (3, .int (iI ((lo : Nat) : Int)))] rfl 97 rfl ?_
                  refine go_goto O dX2_over_97 107 (by decide) ?_
                  refine go_iinc O dX2_over_107 4 rfl ((j + 1 : Nat) : Int) (by omega) (by decide) [(12, .int (iI ((j + 1 : Nat) : Int))), (9, .int (iI ((t + 1 : Nat) : Int))), (10, .long (lI ((-1) - (-((v.natAbs : Nat) : Int) - nx)))), (15, .long (lI (-((v.natAbs : Nat) : Int) - nx))), (13, .long (lI (-1))), (4, .long (lI (-(((v.natAbs) : Nat) : Int)))), (6, .long (lI rr)), (8, .int (iI x)), (0, .ref hw), (1, .long (lI v)), (3, .int (iI ((lo : Nat) : Int)))] rfl 110 rfl ?_
                  refine go_goto O dX2_over_110 40 (by decide) ?_
                  refine TGo.lsub (lv' := [(9, .int (iI ((t + 1 : Nat) : Int))), (10, .long (lI ((-1) - (-((v.natAbs : Nat) : Int) - nx)))), (12, .int (iI ((j + 1 : Nat) : Int))), (4, .long (lI (-(((v.natAbs) : Nat) : Int)))), (6, .long (lI rr)), (8, .int (iI x)), (0, .ref hw), (1, .long (lI v)), (3, .int (iI ((lo : Nat) : Int)))]) [1, 2, 0, 5, 6, 7, 8, 9, 10] rfl ?_
                  exact ih2 (j + 1) (t + 1) (y0 + 1 - v.natAbs) _ _ (by omega) (by omega) rfl (by omega) (by omega) (by omega) (by rw [Nat.add_mul, Nat.one_mul, sj_ge (by omega)]; rw [sj_ge (by omega)] at hS; omega)
              · refine go_lload O dX2_over_62 4 rfl 64 rfl ?_
                refine go_goto O dX2_over_64 70 (by decide) ?_
                refine go_lstore O dX2_over_70 (by decide) [(13, .long (lI rr)), (9, .int (iI ((t : Nat) : Int))), (10, .long (lI nx)), (12, .int (iI y)), (4, .long (lI (-(((v.natAbs) : Nat) : Int)))), (6, .long (lI rr)), (8, .int (iI x)), (0, .ref hw), (1, .long (lI v)), (3, .int (iI ((lo : Nat) : Int)))] rfl 72 rfl ?_
                refine go_lload O dX2_over_72 4 rfl 74 rfl ?_
                refine go_lload O dX2_over_74 2 rfl 76 rfl ?_
                refine go_lsub O dX2_over_76 (-((v.natAbs : Nat) : Int) - nx) rfl 77 rfl ?_
                refine go_lstore O dX2_over_77 (by decide) [(15, .long (lI (-((v.natAbs : Nat) : Int) - nx))), (13, .long (lI rr)), (9, .int (iI ((t : Nat) : Int))), (10, .long (lI nx)), (12, .int (iI y)), (4, .long (lI (-(((v.natAbs) : Nat) : Int)))), (6, .long (lI rr)), (8, .int (iI x)), (0, .ref hw), (1, .long (lI v)), (3, .int (iI ((lo : Nat) : Int)))] rfl 79 rfl ?_
                have qc := cmpZ_le (a := rr) (b := (-((v.natAbs : Nat) : Int) - nx))
                refine go_lload O dX2_over_79 1 rfl 81 rfl ?_
                refine go_lload O dX2_over_81 0 rfl 83 rfl ?_
                refine go_lcmp O dX2_over_83 (by omega) (by omega) 84 rfl ?_
                refine go_if_gt O dX2_over_84 100 (by decide) 87 rfl (cmpZ_r _ _) (fun h84 => ?_) (fun h84 => ?_)
                · refine go_lload O dX2_over_100 3 rfl 102 rfl ?_
                  refine go_lload O dX2_over_102 1 rfl 104 rfl ?_
                  refine go_ladd O dX2_over_104 (nx + rr) rfl 105 rfl ?_
                  refine go_lstore O dX2_over_105 (by decide) [(10, .long (lI (nx + rr))), (15, .long (lI (-((v.natAbs : Nat) : Int) - nx))), (13, .long (lI rr)), (9, .int (iI ((t : Nat) : Int))), (12, .int (iI y)), (4, .long (lI (-(((v.natAbs) : Nat) : Int)))), (6, .long (lI rr)), (8, .int (iI x)), (0, .ref hw), (1, .long (lI v)), (3, .int (iI ((lo : Nat) : Int)))] rfl 107 rfl ?_
                  refine go_iinc O dX2_over_107 4 rfl ((j + 1 : Nat) : Int) (by omega) (by decide) [(12, .int (iI ((j + 1 : Nat) : Int))), (10, .long (lI (nx + rr))), (15, .long (lI (-((v.natAbs : Nat) : Int) - nx))), (13, .long (lI rr)), (9, .int (iI ((t : Nat) : Int))), (4, .long (lI (-(((v.natAbs) : Nat) : Int)))), (6, .long (lI rr)), (8, .int (iI x)), (0, .ref hw), (1, .long (lI v)), (3, .int (iI ((lo : Nat) : Int)))] rfl 110 rfl ?_
                  refine go_goto O dX2_over_110 40 (by decide) ?_
                  refine TGo.lsub (lv' := [(9, .int (iI ((t : Nat) : Int))), (10, .long (lI (nx + rr))), (12, .int (iI ((j + 1 : Nat) : Int))), (4, .long (lI (-(((v.natAbs) : Nat) : Int)))), (6, .long (lI rr)), (8, .int (iI x)), (0, .ref hw), (1, .long (lI v)), (3, .int (iI ((lo : Nat) : Int)))]) [4, 1, 0, 5, 6, 7, 8, 9, 10] rfl ?_
                  exact ih2 (j + 1) t (y0 + (W / 10 ^ (k + 1) % v.natAbs)) _ _ (by omega) (by omega) rfl (by omega) (by omega) (by omega) (by rw [sj_lt (by omega)]; omega)
                · refine go_lload O dX2_over_87 1 rfl 89 rfl ?_
                  refine go_lload O dX2_over_89 0 rfl 91 rfl ?_
                  refine go_lsub O dX2_over_91 (rr - (-((v.natAbs : Nat) : Int) - nx)) rfl 92 rfl ?_
                  refine go_lstore O dX2_over_92 (by decide) [(10, .long (lI (rr - (-((v.natAbs : Nat) : Int) - nx)))), (15, .long (lI (-((v.natAbs : Nat) : Int) - nx))), (13, .long (lI rr)), (9, .int (iI ((t : Nat) : Int))), (12, .int (iI y)), (4, .long (lI (-(((v.natAbs) : Nat) : Int)))), (6, .long (lI rr)), (8, .int (iI x)), (0, .ref hw), (1, .long (lI v)), (3, .int (iI ((lo : Nat) : Int)))] rfl 94 rfl ?_
                  refine go_iinc O dX2_over_94 3 rfl ((t + 1 : Nat) : Int) (by omega) (by decide) [(9, .int (iI ((t + 1 : Nat) : Int))), (10, .long (lI (rr - (-((v.natAbs : Nat) : Int) - nx)))), (15, .long (lI (-((v.natAbs : Nat) : Int) - nx))), (13, .long (lI rr)), (12, .int (iI y)), (4, .long (lI (-(((v.natAbs) : Nat) : Int)))), (6, .long (lI rr)), (8, .int (iI x)), (0, .ref hw), (1, .long (lI v)), (3, .int (iI ((lo : Nat) : Int)))] rfl 97 rfl ?_
                  refine go_goto O dX2_over_97 107 (by decide) ?_
                  refine go_iinc O dX2_over_107 4 rfl ((j + 1 : Nat) : Int) (by omega) (by decide) [(12, .int (iI ((j + 1 : Nat) : Int))), (9, .int (iI ((t + 1 : Nat) : Int))), (10, .long (lI (rr - (-((v.natAbs : Nat) : Int) - nx)))), (15, .long (lI (-((v.natAbs : Nat) : Int) - nx))), (13, .long (lI rr)), (4, .long (lI (-(((v.natAbs) : Nat) : Int)))), (6, .long (lI rr)), (8, .int (iI x)), (0, .ref hw), (1, .long (lI v)), (3, .int (iI ((lo : Nat) : Int)))] rfl 110 rfl ?_
                  refine go_goto O dX2_over_110 40 (by decide) ?_
                  refine TGo.lsub (lv' := [(9, .int (iI ((t + 1 : Nat) : Int))), (10, .long (lI (rr - (-((v.natAbs : Nat) : Int) - nx)))), (12, .int (iI ((j + 1 : Nat) : Int))), (4, .long (lI (-(((v.natAbs) : Nat) : Int)))), (6, .long (lI rr)), (8, .int (iI x)), (0, .ref hw), (1, .long (lI v)), (3, .int (iI ((lo : Nat) : Int)))]) [1, 2, 0, 5, 6, 7, 8, 9, 10] rfl ?_
                  exact ih2 (j + 1) (t + 1) (y0 + (W / 10 ^ (k + 1) % v.natAbs) - v.natAbs) _ _ (by omega) (by omega) rfl (by omega) (by omega) (by omega) (by rw [Nat.add_mul, Nat.one_mul, sj_lt (by omega)]; omega)
        refine go_iload O dX2_over_25 2 rfl 27 rfl ?_
        refine go_iload_n O dX2_over_27 rfl 5 rfl 28 rfl ?_
        refine go_icmp_lt O dX2_over_28 132 (by decide) 31 rfl (by omega) (by omega) (fun h28 => by omega) (fun h28 => ?_)
        refine go_iconst O dX2_over_31 32 rfl ?_
        refine go_istore O dX2_over_32 (by decide) [(9, .int (iI 0)), (4, .long (lI (-(((v.natAbs) : Nat) : Int)))), (6, .long (lI rr)), (8, .int (iI x)), (0, .ref hw), (1, .long (lI v)), (3, .int (iI ((lo : Nat) : Int)))] rfl 34 rfl ?_
        refine go_lconst O dX2_over_34 0 rfl 35 rfl ?_
        refine go_lstore O dX2_over_35 (by decide) [(10, .long (lI 0)), (9, .int (iI 0)), (4, .long (lI (-(((v.natAbs) : Nat) : Int)))), (6, .long (lI rr)), (8, .int (iI x)), (0, .ref hw), (1, .long (lI v)), (3, .int (iI ((lo : Nat) : Int)))] rfl 37 rfl ?_
        refine go_iconst O dX2_over_37 38 rfl ?_
        refine go_istore O dX2_over_38 (by decide) [(12, .int (iI 0)), (10, .long (lI 0)), (9, .int (iI 0)), (4, .long (lI (-(((v.natAbs) : Nat) : Int)))), (6, .long (lI rr)), (8, .int (iI x)), (0, .ref hw), (1, .long (lI v)), (3, .int (iI ((lo : Nat) : Int)))] rfl 40 rfl ?_
        refine TGo.lsub (lv' := [(9, .int (iI 0)), (10, .long (lI 0)), (12, .int (iI 0)), (4, .long (lI (-(((v.natAbs) : Nat) : Int)))), (6, .long (lI rr)), (8, .int (iI x)), (0, .ref hw), (1, .long (lI v)), (3, .int (iI ((lo : Nat) : Int)))]) [2, 1, 0, 3, 4, 5, 6, 7, 8] rfl ?_
        exact inner (11 + W / 10 ^ k % 10) 0 0 0 _ _ (by omega) (by omega) rfl rfl hD (by omega) (by rw [sj_0, Nat.zero_mul])
  have m12 : ∀ dv : Int, dv = -(((v.natAbs) : Nat) : Int) → TGo X [(hw, .inr (2, [.ref qrow, .ref qfac, .int (iI (bz ng)), .int (iI (bz go))])), (qrow, .inl (cI, 72, .inl (dg W)))] 0 0 12 [(0, .ref hw), (1, .long (lI v)), (3, .int (iI ((lo : Nat) : Int)))] [.long (lI dv)] := by
    intro dv hdv
    subst hdv
    refine go_lstore O dX2_over_12 (by decide) [(4, .long (lI (-(((v.natAbs) : Nat) : Int)))), (0, .ref hw), (1, .long (lI v)), (3, .int (iI ((lo : Nat) : Int)))] rfl 14 rfl ?_
    refine go_lconst O dX2_over_14 0 rfl 15 rfl ?_
    refine go_lstore O dX2_over_15 (by decide) [(6, .long (lI 0)), (4, .long (lI (-(((v.natAbs) : Nat) : Int)))), (0, .ref hw), (1, .long (lI v)), (3, .int (iI ((lo : Nat) : Int)))] rfl 17 rfl ?_
    refine go_aload_n O dX2_over_17 rfl 2 rfl 18 rfl ?_
    refine go_calliV (As := []) (rest := []) (wr := []) O hK hE (c_X2_size E hE hw qrow qfac cI ng go W hW) mlX2_62 imX2_size seX2_size inX2 cdX2_size 0 (by decide +kernel) ⟨Nat.le_of_ble_eq_true rfl, Nat.le_of_ble_eq_true rfl⟩ 0 rfl rfl [0] rfl [0, 1] rfl (by decide) [] rfl (by decide) (by decide) rfl rfl (Nat.le_of_ble_eq_true rfl) ⟨Nat.zero_le _, Nat.zero_le _⟩ dX2_over_18 21 rfl (fun z u hu => ?_)
    subst hu
    show TGo X [(hw, .inr (2, [.ref qrow, .ref qfac, .int (iI (bz ng)), .int (iI (bz go))])), (qrow, .inl (cI, 72, .inl (dg W)))] 0 0 21 [(6, .long (lI 0)), (4, .long (lI (-(((v.natAbs) : Nat) : Int)))), (0, .ref hw), (1, .long (lI v)), (3, .int (iI ((lo : Nat) : Int)))] [.int (iI ((tnds W : Nat) : Int))]
    refine go_iconst O dX2_over_21 22 rfl ?_
    refine go_isub O dX2_over_22 (((tnds W : Nat) : Int) - 1) rfl 23 rfl ?_
    refine go_istore O dX2_over_23 (by decide) [(8, .int (iI (((tnds W : Nat) : Int) - 1))), (6, .long (lI 0)), (4, .long (lI (-(((v.natAbs) : Nat) : Int)))), (0, .ref hw), (1, .long (lI v)), (3, .int (iI ((lo : Nat) : Int)))] rfl 25 rfl ?_
    refine TGo.lsub (lv' := [(4, .long (lI (-(((v.natAbs) : Nat) : Int)))), (6, .long (lI 0)), (8, .int (iI (((tnds W : Nat) : Int) - 1))), (0, .ref hw), (1, .long (lI v)), (3, .int (iI ((lo : Nat) : Int)))]) [2, 1, 0, 3, 4, 5] rfl ?_
    by_cases hlo : lo ≤ tnds W
    · refine TGo.arr 1 rfl (dg (W / 10 ^ (tnds W) / v.natAbs * 10 ^ (tnds W) + W % 10 ^ (tnds W))) (fun j _ => by rw [Nat.div_eq_of_lt (tnds_lt W), Nat.zero_div, Nat.zero_mul, Nat.zero_add, Nat.mod_eq_of_lt (tnds_lt W)]) (ws' := [(hw, .inr (2, [.ref qrow, .ref qfac, .int (iI (bz ng)), .int (iI (bz go))])), (qrow, .inl (cI, 72, .inl (dg (W / 10 ^ (tnds W) / v.natAbs * 10 ^ (tnds W) + W % 10 ^ (tnds W)))))]) rfl ?_
      exact lp (tnds W + 1) (tnds W) _ _ rfl ht72 hlo rfl (by rw [Nat.div_eq_of_lt (tnds_lt W), Nat.zero_mod]; rfl)
    · have hWl : W < 10 ^ lo := Nat.lt_of_lt_of_le (tnds_lt W) (p10le (by omega))
      refine TGo.arr 1 rfl (dg (W / 10 ^ lo / v.natAbs * 10 ^ lo + W % 10 ^ lo)) (fun j _ => by rw [Nat.div_eq_of_lt hWl, Nat.zero_div, Nat.zero_mul, Nat.zero_add, Nat.mod_eq_of_lt hWl]) (ws' := [(hw, .inr (2, [.ref qrow, .ref qfac, .int (iI (bz ng)), .int (iI (bz go))])), (qrow, .inl (cI, 72, .inl (dg (W / 10 ^ lo / v.natAbs * 10 ^ lo + W % 10 ^ lo))))]) rfl ?_
      refine go_iload O dX2_over_25 2 rfl 27 rfl ?_
      refine go_iload_n O dX2_over_27 rfl 5 rfl 28 rfl ?_
      refine go_icmp_lt O dX2_over_28 132 (by decide) 31 rfl (by omega) (by omega) (fun h28 => ?_) (fun h28 => by omega)
      exact m132 _ _ (by rw [Nat.div_eq_of_lt hWl, Nat.zero_mod]; rfl)
  refine go_lload_n O dX2_over_0 rfl 1 rfl 1 rfl ?_
  refine go_lconst O dX2_over_1 0 rfl 2 rfl ?_
  refine go_lcmp O dX2_over_2 (by omega) (by omega) 3 rfl ?_
  refine go_if_ge O dX2_over_3 10 (by decide) 6 rfl (cmpZ_r _ _) (fun h3 => ?_) (fun h3 => ?_)
  · refine go_lload_n O dX2_over_10 rfl 1 rfl 11 rfl ?_
    refine go_lneg O dX2_over_11 (-v) rfl 12 rfl ?_
    exact m12 _ (by omega)
  · refine go_lload_n O dX2_over_6 rfl 1 rfl 7 rfl ?_
    refine go_goto O dX2_over_7 12 (by decide) ?_
    exact m12 _ (by omega)
