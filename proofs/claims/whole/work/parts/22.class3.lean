def NestOk (E : TEn) : Prop := ∀ A U, E A U → va_Nw (.methodLinkNest RX2 68 yX3_isZero RX3) U ∧ va_Nw (.methodLinkNest RX2 85 yX3_asLong RX3) U ∧ va_Nw (.methodLinkNest RX0 38 yX3_isZero RX3) U
section GO3
variable {X : TCx} {cc : ByteArray} {own : String} {rm : Room} {nL : Nat} {ws : va_W} {n k pc : Nat} {lv : List (Nat × Value)} {st : List Value} {tys : List (ClassId × FieldType)} {cl : List vw_C} {E : TEn}
theorem go_tableIn (O : TOk X cc own rm nL cl E) {a dflt lo hi off : Int} {offs : Array Int} {len : Nat} (hd : decode cc pc = .ok (.tableswitch dflt lo hi offs, len)) (ha : r32 a) (h1 : lo ≤ a) (h2 : a ≤ hi) (ho : offs[(a - lo).toNat]? = some off) (tgt : Nat) (ht : (pc : Int) + off = (tgt : Int)) (h : TGo X ws n k tgt lv st) : TGo X ws n k pc lv (.int (iI a) :: st) := by
  intro H locs ls hP hD hS hl
  have e := iI_t ha
  exact lv_tableIn O.1 O.2.1 hd (by rw [e]; omega) (by rw [e]; omega) (by rw [e]; exact ho) ht (h H locs ls hP hD hS hl)
theorem go_tableOut (O : TOk X cc own rm nL cl E) {a dflt lo hi : Int} {offs : Array Int} {len : Nat} (hd : decode cc pc = .ok (.tableswitch dflt lo hi offs, len)) (ha : r32 a) (h1 : a < lo ∨ hi < a) (tgt : Nat) (ht : (pc : Int) + dflt = (tgt : Int)) (h : TGo X ws n k tgt lv st) : TGo X ws n k pc lv (.int (iI a) :: st) := by
  intro H locs ls hP hD hS hl
  have e := iI_t ha
  exact lv_tableOut O.1 O.2.1 hd (by rw [e]; exact h1) ht (h H locs ls hP hD hS hl)
end GO3
theorem cpy_amt (W : Nat) (f : Nat → Int32) : ∀ j, j < 36 → va_cpy (dg W) f 10 0 36 j = dg (W / 10 ^ 10) j := by
  intro j hj
  unfold va_cpy
  rw [if_pos (by omega), dg_at, dg_at, Nat.sub_zero, tqadd]
theorem lI_wrap (z : Int) : lI z = lI (z - 18446744073709551616) := by
  have h : lI 18446744073709551616 = lI 0 := by decide
  rw [← lI_sub, h, lI_sub, Int.sub_zero]
theorem bzd_1 {p : Prop} [Decidable p] (h : p) : 1 = bz (decide p) := by rw [decide_eq_true h]; rfl
theorem bzd_0 {p : Prop} [Decidable p] (h : ¬ p) : 0 = bz (decide p) := by rw [decide_eq_false h]; rfl
theorem tlim_le {ng : Bool} {V : Nat} : V ≤ tlim ng ↔ V < 9223372036854775808 ∨ (bz ng = 1 ∧ V = 9223372036854775808) := by
  cases ng
  · show V ≤ 9223372036854775807 ↔ V < 9223372036854775808 ∨ ((0 : Int) = 1 ∧ V = 9223372036854775808)
    omega
  · show V ≤ 9223372036854775808 ↔ V < 9223372036854775808 ∨ ((1 : Int) = 1 ∧ V = 9223372036854775808)
    omega
theorem dig_of_lt {W e j : Nat} (h : W < 10 ^ e) (hj : e ≤ j) : W / 10 ^ j % 10 = 0 := by rw [q_lt' h hj]
theorem inc_zf {W P : Nat} {b : Int} : ∀ j, upd (dg W) P (iI (((W / 10 ^ P % 10 : Nat) : Int) + b)) j = iI ((fun j => if j = P then ((W / 10 ^ P % 10 : Nat) : Int) + b else ((W / 10 ^ j % 10 : Nat) : Int)) j) := by
  intro j
  unfold upd
  by_cases e : j = P
  · rw [if_pos e]; dsimp only; rw [if_pos e]
  · rw [if_neg e]; dsimp only; rw [if_neg e]; rfl
theorem inc_tv {W P : Nat} {b : Int} (hW : W < 10 ^ 72) (hP : P < 72) : tv (fun j => if j = P then ((W / 10 ^ P % 10 : Nat) : Int) + b else ((W / 10 ^ j % 10 : Nat) : Int)) 0 72 = (W : Int) + b * (10 ^ P : Nat) := by
  rw [tv_upd (fun j => ((W / 10 ^ j % 10 : Nat) : Int)) P _ 72 0 (by omega) (by omega), tv_dg72 hW, Nat.sub_zero, show ((W / 10 ^ P % 10 : Nat) : Int) + b - ((W / 10 ^ P % 10 : Nat) : Int) = b by omega]
set_option maxHeartbeats 4000000 in
set_option maxRecDepth 100000 in
/-- isRegister -/
theorem c_X3_isRegister (E : TEn) (hE : EnvOk E) (r : Int) (hr : r32 r) : Cti vwCl E yX3_isRegister wsX3_isRegister (rmn 0 0) [.int (iI r)] [] [] (fun (z : Int) (_ : Unit) => z = bz (decide (0 ≤ r ∧ r < 8))) (fun _ => []) := by
  refine enteri (by decide) (Nat.le_of_ble_eq_true rfl) ?_
  intro X O hK hin2 hret
  show TGo X [] 0 0 0 [(0, .int (iI r))] []
  refine go_iload_n O dX3_isRegister_0 rfl 0 rfl 1 rfl ?_
  refine go_if_lt O dX3_isRegister_1 14 (by decide) 4 rfl (by omega) (fun h1 => ?_) (fun h1 => ?_)
  · refine go_iconst O dX3_isRegister_14 15 rfl ?_
    exact hret _ _ _ () dX3_isRegister_15 rfl (bzd_0 (by omega))
  · refine go_iload_n O dX3_isRegister_4 rfl 0 rfl 5 rfl ?_
    refine go_bipush O dX3_isRegister_5 (by decide) 7 rfl ?_
    refine go_icmp_ge O dX3_isRegister_7 14 (by decide) 10 rfl (by omega) (by omega) (fun h7 => ?_) (fun h7 => ?_)
    · refine go_iconst O dX3_isRegister_14 15 rfl ?_
      exact hret _ _ _ () dX3_isRegister_15 rfl (bzd_0 (by omega))
    · refine go_iconst O dX3_isRegister_10 11 rfl ?_
      refine go_goto O dX3_isRegister_11 15 (by decide) ?_
      exact hret _ _ _ () dX3_isRegister_15 rfl (bzd_1 (by omega))
set_option maxHeartbeats 4000000 in
set_option maxRecDepth 100000 in
/-- isPower -/
theorem c_X3_isPower (E : TEn) (hE : EnvOk E) (r : Int) (hr : r32 r) : Cti vwCl E yX3_isPower wsX3_isPower (rmn 0 0) [.int (iI r)] [] [] (fun (z : Int) (_ : Unit) => z = bz (decide (0 ≤ r ∧ r ≤ 9))) (fun _ => []) := by
  refine enteri (by decide) (Nat.le_of_ble_eq_true rfl) ?_
  intro X O hK hin2 hret
  show TGo X [] 0 0 0 [(0, .int (iI r))] []
  refine go_iload_n O dX3_isPower_0 rfl 0 rfl 1 rfl ?_
  refine go_if_lt O dX3_isPower_1 14 (by decide) 4 rfl (by omega) (fun h1 => ?_) (fun h1 => ?_)
  · refine go_iconst O dX3_isPower_14 15 rfl ?_
    exact hret _ _ _ () dX3_isPower_15 rfl (bzd_0 (by omega))
  · refine go_iload_n O dX3_isPower_4 rfl 0 rfl 5 rfl ?_
    refine go_bipush O dX3_isPower_5 (by decide) 7 rfl ?_
    refine go_icmp_gt O dX3_isPower_7 14 (by decide) 10 rfl (by omega) (by omega) (fun h7 => ?_) (fun h7 => ?_)
    · refine go_iconst O dX3_isPower_14 15 rfl ?_
      exact hret _ _ _ () dX3_isPower_15 rfl (bzd_0 (by omega))
    · refine go_iconst O dX3_isPower_10 11 rfl ?_
      refine go_goto O dX3_isPower_11 15 (by decide) ?_
      exact hret _ _ _ () dX3_isPower_15 rfl (bzd_1 (by omega))
set_option maxHeartbeats 4000000 in
set_option maxRecDepth 100000 in
/-- Amount.isLike -/
theorem c_X0_isLike (E : TEn) (hE : EnvOk E) (ha hb qa qb : Nat) (d1 w1 n1 d2 w2 n2 : Bool) (c1 c2 : Int) (hc1 : r32 c1) (hc2 : r32 c2) : Cti vwCl E yX0_isLike wsX0_isLike (rmn 0 0) [.ref ha, .ref hb] [(ha, .inr (0, [.ref qa, .int (iI (bz d1)), .int (iI (bz w1)), .int (iI (bz n1)), .int (iI c1)])), (hb, .inr (0, [.ref qb, .int (iI (bz d2)), .int (iI (bz w2)), .int (iI (bz n2)), .int (iI c2)]))] [] (fun (z : Int) (_ : Unit) => (z = 1 ∧ bz w1 = bz w2 ∧ c1 = c2) ∨ (z = 0 ∧ ¬ (bz w1 = bz w2 ∧ c1 = c2))) (fun _ => [(ha, .inr (0, [.ref qa, .int (iI (bz d1)), .int (iI (bz w1)), .int (iI (bz n1)), .int (iI c1)])), (hb, .inr (0, [.ref qb, .int (iI (bz d2)), .int (iI (bz w2)), .int (iI (bz n2)), .int (iI c2)]))]) := by
  refine enteri (by decide) (Nat.le_of_ble_eq_true rfl) ?_
  intro X O hK hin2 hret
  show TGo X [(ha, .inr (0, [.ref qa, .int (iI (bz d1)), .int (iI (bz w1)), .int (iI (bz n1)), .int (iI c1)])), (hb, .inr (0, [.ref qb, .int (iI (bz d2)), .int (iI (bz w2)), .int (iI (bz n2)), .int (iI c2)]))] 0 0 0 [(0, .ref ha), (1, .ref hb)] []
  have b1 := bz_01 w1
  have b2 := bz_01 w2
  refine go_aload_n O dX0_isLike_0 rfl 0 rfl 1 rfl ?_
  refine go_get O hK dX0_isLike_1 hinX0 0 rfl rfl 2 (by decide) flX0_15 rfl 4 rfl ?_
  refine go_aload_n O dX0_isLike_4 rfl 1 rfl 5 rfl ?_
  refine go_get O hK dX0_isLike_5 hinX0 1 rfl rfl 2 (by decide) flX0_15 rfl 8 rfl ?_
  refine go_icmp_ne O dX0_isLike_8 26 (by decide) 11 rfl (by omega) (by omega) (fun h8 => ?_) (fun h8 => ?_)
  · refine go_iconst O dX0_isLike_26 27 rfl ?_
    exact hret _ _ _ () dX0_isLike_27 rfl (Or.inr ⟨rfl, by omega⟩)
  · refine go_aload_n O dX0_isLike_11 rfl 0 rfl 12 rfl ?_
    refine go_get O hK dX0_isLike_12 hinX0 0 rfl rfl 4 (by decide) flX0_19 rfl 15 rfl ?_
    refine go_aload_n O dX0_isLike_15 rfl 1 rfl 16 rfl ?_
    refine go_get O hK dX0_isLike_16 hinX0 1 rfl rfl 4 (by decide) flX0_19 rfl 19 rfl ?_
    refine go_icmp_ne O dX0_isLike_19 26 (by decide) 22 rfl (by omega) (by omega) (fun h19 => ?_) (fun h19 => ?_)
    · refine go_iconst O dX0_isLike_26 27 rfl ?_
      exact hret _ _ _ () dX0_isLike_27 rfl (Or.inr ⟨rfl, by omega⟩)
    · refine go_iconst O dX0_isLike_22 23 rfl ?_
      refine go_goto O dX0_isLike_23 27 (by decide) ?_
      exact hret _ _ _ () dX0_isLike_27 rfl (Or.inl ⟨rfl, by omega, by omega⟩)
set_option maxHeartbeats 4000000 in
set_option maxRecDepth 100000 in
/-- Amount.isLike of an amount and itself -/
theorem c_X0_isLike_self (E : TEn) (hE : EnvOk E) (ha qa : Nat) (d1 w1 n1 : Bool) (c1 : Int) (hc1 : r32 c1) : Cti vwCl E yX0_isLike wsX0_isLike (rmn 0 0) [.ref ha, .ref ha] [(ha, .inr (0, [.ref qa, .int (iI (bz d1)), .int (iI (bz w1)), .int (iI (bz n1)), .int (iI c1)]))] [] (fun (z : Int) (_ : Unit) => z = 1) (fun _ => [(ha, .inr (0, [.ref qa, .int (iI (bz d1)), .int (iI (bz w1)), .int (iI (bz n1)), .int (iI c1)]))]) := by
  refine enteri (by decide) (Nat.le_of_ble_eq_true rfl) ?_
  intro X O hK hin2 hret
  show TGo X [(ha, .inr (0, [.ref qa, .int (iI (bz d1)), .int (iI (bz w1)), .int (iI (bz n1)), .int (iI c1)]))] 0 0 0 [(0, .ref ha), (1, .ref ha)] []
  have b1 := bz_01 w1
  refine go_aload_n O dX0_isLike_0 rfl 0 rfl 1 rfl ?_
  refine go_get O hK dX0_isLike_1 hinX0 0 rfl rfl 2 (by decide) flX0_15 rfl 4 rfl ?_
  refine go_aload_n O dX0_isLike_4 rfl 1 rfl 5 rfl ?_
  refine go_get O hK dX0_isLike_5 hinX0 0 rfl rfl 2 (by decide) flX0_15 rfl 8 rfl ?_
  refine go_icmp_ne O dX0_isLike_8 26 (by decide) 11 rfl (by omega) (by omega) (fun h8 => by omega) (fun h8 => ?_)
  refine go_aload_n O dX0_isLike_11 rfl 0 rfl 12 rfl ?_
  refine go_get O hK dX0_isLike_12 hinX0 0 rfl rfl 4 (by decide) flX0_19 rfl 15 rfl ?_
  refine go_aload_n O dX0_isLike_15 rfl 1 rfl 16 rfl ?_
  refine go_get O hK dX0_isLike_16 hinX0 0 rfl rfl 4 (by decide) flX0_19 rfl 19 rfl ?_
  refine go_icmp_ne O dX0_isLike_19 26 (by decide) 22 rfl (by omega) (by omega) (fun h19 => by omega) (fun h19 => ?_)
  refine go_iconst O dX0_isLike_22 23 rfl ?_
  refine go_goto O dX0_isLike_23 27 (by decide) ?_
  exact hret _ _ _ () dX0_isLike_27 rfl rfl
set_option maxHeartbeats 4000000 in
set_option maxRecDepth 100000 in
/-- Amount.take -/
theorem c_X0_take (E : TEn) (hE : EnvOk E) (hN : NestOk E) (ha qa : Nat) (hw qrow qfac : Nat) (cI : ClassId) (ng go : Bool) (W : Nat) (f : Nat → Int32) (d1 w1 n1 wide : Bool) (c1 cu : Int) (hW : W < 10 ^ 46) : Ctv vwCl E yX0_take wsX0_take (rmn 1 40) [.ref ha, .ref hw, .int (iI (bz wide)), .int (iI cu)] [(ha, .inr (0, [.ref qa, .int (iI (bz d1)), .int (iI (bz w1)), .int (iI (bz n1)), .int (iI c1)])), (qa, .inl (cI, 36, .inl f)), (hw, .inr (2, [.ref qrow, .ref qfac, .int (iI (bz ng)), .int (iI (bz go))])), (qrow, .inl (cI, 72, .inl (dg W)))] [(cI, .int)] (fun _ : Unit => True) (fun _ => [(ha, .inr (0, [.ref qa, .int (iI 1), .int (iI (bz wide)), .int (iI (bz (ng && decide (0 < W / 10 ^ 10)))), .int (iI cu)])), (qa, .inl (cI, 36, .inl (dg (W / 10 ^ 10)))), (hw, .inr (2, [.ref qrow, .ref qfac, .int (iI (bz ng)), .int (iI (bz go))])), (qrow, .inl (cI, 72, .inl (dg W)))]) := by
  refine enterv (by decide) (Nat.le_of_ble_eq_true rfl) ?_
  intro X O hK hin2 hret
  show TGo X [(ha, .inr (0, [.ref qa, .int (iI (bz d1)), .int (iI (bz w1)), .int (iI (bz n1)), .int (iI c1)])), (qa, .inl (cI, 36, .inl f)), (hw, .inr (2, [.ref qrow, .ref qfac, .int (iI (bz ng)), .int (iI (bz go))])), (qrow, .inl (cI, 72, .inl (dg W)))] 0 0 0 [(0, .ref ha), (1, .ref hw), (2, .int (iI (bz wide))), (3, .int (iI cu))] []
  have b1 := bz_01 ng
  have hV : W / 10 ^ 10 < 10 ^ 36 := (Nat.div_lt_iff_lt_mul (p10 10)).mpr (by rw [← p10add]; exact hW)
  refine go_aload_n O dX0_take_0 rfl 1 rfl 1 rfl ?_
  refine go_get O hK dX0_take_1 hinX2 2 rfl rfl 0 (by decide) flX0_23 rfl 4 rfl ?_
  refine go_bipush O dX0_take_4 (by decide) 6 rfl ?_
  refine go_aload_n O dX0_take_6 rfl 0 rfl 7 rfl ?_
  refine go_get O hK dX0_take_7 hinX0 0 rfl rfl 0 (by decide) flX0_9 rfl 10 rfl ?_
  refine go_iconst O dX0_take_10 11 rfl ?_
  refine go_bipush O dX0_take_11 (by decide) 13 rfl ?_
  refine go_copyi O hK dX0_take_13 mlX0_26 naSys smSys inJ10 3 1 0 0 rfl rfl rfl rfl 10 0 36 rfl rfl rfl (by omega) (by omega) (by omega) (by omega) (dg (W / 10 ^ 10)) (cpy_amt W f) [(ha, .inr (0, [.ref qa, .int (iI (bz d1)), .int (iI (bz w1)), .int (iI (bz n1)), .int (iI c1)])), (qa, .inl (cI, 36, .inl (dg (W / 10 ^ 10)))), (hw, .inr (2, [.ref qrow, .ref qfac, .int (iI (bz ng)), .int (iI (bz go))])), (qrow, .inl (cI, 72, .inl (dg W)))] rfl (Nat.le_of_ble_eq_true rfl) (Nat.le_of_ble_eq_true rfl) 16 rfl ?_
  refine go_aload_n O dX0_take_16 rfl 0 rfl 17 rfl ?_
  refine go_iconst O dX0_take_17 18 rfl ?_
  refine go_put O hK dX0_take_18 hinX0 tyX0 tyX0_ok nmX0 0 rfl rfl 1 (by decide) flX0_32 rfl rfl rfl rfl (Nat.le_of_ble_eq_true rfl) [(ha, .inr (0, [.ref qa, .int (iI 1), .int (iI (bz w1)), .int (iI (bz n1)), .int (iI c1)])), (qa, .inl (cI, 36, .inl (dg (W / 10 ^ 10)))), (hw, .inr (2, [.ref qrow, .ref qfac, .int (iI (bz ng)), .int (iI (bz go))])), (qrow, .inl (cI, 72, .inl (dg W)))] rfl 21 rfl ?_
  refine go_aload_n O dX0_take_21 rfl 0 rfl 22 rfl ?_
  refine go_iload_n O dX0_take_22 rfl 2 rfl 23 rfl ?_
  refine go_put O hK dX0_take_23 hinX0 tyX0 tyX0_ok nmX0 0 rfl rfl 2 (by decide) flX0_15 rfl rfl (nar_b (bz_01 _)) (fit_b (bz_01 _)) (Nat.le_of_ble_eq_true rfl) [(ha, .inr (0, [.ref qa, .int (iI 1), .int (iI (bz wide)), .int (iI (bz n1)), .int (iI c1)])), (qa, .inl (cI, 36, .inl (dg (W / 10 ^ 10)))), (hw, .inr (2, [.ref qrow, .ref qfac, .int (iI (bz ng)), .int (iI (bz go))])), (qrow, .inl (cI, 72, .inl (dg W)))] rfl 26 rfl ?_
  refine go_aload_n O dX0_take_26 rfl 0 rfl 27 rfl ?_
  refine go_iload_n O dX0_take_27 rfl 3 rfl 28 rfl ?_
  refine go_put O hK dX0_take_28 hinX0 tyX0 tyX0_ok nmX0 0 rfl rfl 4 (by decide) flX0_19 rfl rfl rfl rfl (Nat.le_of_ble_eq_true rfl) [(ha, .inr (0, [.ref qa, .int (iI 1), .int (iI (bz wide)), .int (iI (bz n1)), .int (iI cu)])), (qa, .inl (cI, 36, .inl (dg (W / 10 ^ 10)))), (hw, .inr (2, [.ref qrow, .ref qfac, .int (iI (bz ng)), .int (iI (bz go))])), (qrow, .inl (cI, 72, .inl (dg W)))] rfl 31 rfl ?_
  refine go_aload_n O dX0_take_31 rfl 0 rfl 32 rfl ?_
  refine go_aload_n O dX0_take_32 rfl 1 rfl 33 rfl ?_
  refine go_get O hK dX0_take_33 hinX2 2 rfl rfl 2 (by decide) flX0_35 rfl 36 rfl ?_
  refine go_if_eq O dX0_take_36 56 (by decide) 39 rfl (by omega) (fun h36 => ?_) (fun h36 => ?_)
  · refine go_iconst O dX0_take_56 57 rfl ?_
    refine TGo.topi (y := bz (ng && decide (0 < W / 10 ^ 10))) (band_0 (Or.inl (by omega))) ?_
    refine go_put O hK dX0_take_57 hinX0 tyX0 tyX0_ok nmX0 0 rfl rfl 3 (by decide) flX0_42 rfl rfl (nar_b (bz_01 _)) (fit_b (bz_01 _)) (Nat.le_of_ble_eq_true rfl) [(ha, .inr (0, [.ref qa, .int (iI 1), .int (iI (bz wide)), .int (iI (bz (ng && decide (0 < W / 10 ^ 10)))), .int (iI cu)])), (qa, .inl (cI, 36, .inl (dg (W / 10 ^ 10)))), (hw, .inr (2, [.ref qrow, .ref qfac, .int (iI (bz ng)), .int (iI (bz go))])), (qrow, .inl (cI, 72, .inl (dg W)))] rfl 60 rfl ?_
    exact hret _ _ () dX0_take_60 trivial
  · refine go_aload_n O dX0_take_39 rfl 0 rfl 40 rfl ?_
    refine go_get O hK dX0_take_40 hinX0 0 rfl rfl 0 (by decide) flX0_9 rfl 43 rfl ?_
    refine go_iconst O dX0_take_43 44 rfl ?_
    refine go_bipush O dX0_take_44 (by decide) 46 rfl ?_
    refine go_calliSN (rest := [.ref ha]) (wr := [(ha, .inr (0, [.ref qa, .int (iI 1), .int (iI (bz wide)), .int (iI (bz n1)), .int (iI cu)])), (hw, .inr (2, [.ref qrow, .ref qfac, .int (iI (bz ng)), .int (iI (bz go))])), (qrow, .inl (cI, 72, .inl (dg W)))]) O hK hE (c_X3_isZero E hE qa cI 36 (W / 10 ^ 10) 0 36 (by omega) (by omega) (by omega)) (hN _ _ O.2.2.2.2.2.2.2.2.2).2.2 smX3_isZero inX3 cdX3_isZero 3 (by decide +kernel) ⟨Nat.le_of_ble_eq_true rfl, Nat.le_of_ble_eq_true rfl⟩ [0] rfl [1] rfl (by decide) [0, 2, 3] rfl (by decide) (by decide) rfl rfl (Nat.le_of_ble_eq_true rfl) ⟨Nat.zero_le _, Nat.zero_le _⟩ dX0_take_46 49 rfl (fun z u hu => ?_)
    have z01 : z = 0 ∨ z = 1 := by rcases hu with ⟨e1, e2⟩ | ⟨e1, e2⟩ <;> omega
    show TGo X [(ha, .inr (0, [.ref qa, .int (iI 1), .int (iI (bz wide)), .int (iI (bz n1)), .int (iI cu)])), (hw, .inr (2, [.ref qrow, .ref qfac, .int (iI (bz ng)), .int (iI (bz go))])), (qrow, .inl (cI, 72, .inl (dg W))), (qa, .inl (cI, 36, .inl (dg (W / 10 ^ 10))))] 0 0 49 [(0, .ref ha), (1, .ref hw), (2, .int (iI (bz wide))), (3, .int (iI cu))] [.int (iI z), .ref ha]
    refine TGo.sub (ws' := [(ha, .inr (0, [.ref qa, .int (iI 1), .int (iI (bz wide)), .int (iI (bz n1)), .int (iI cu)])), (qa, .inl (cI, 36, .inl (dg (W / 10 ^ 10)))), (hw, .inr (2, [.ref qrow, .ref qfac, .int (iI (bz ng)), .int (iI (bz go))])), (qrow, .inl (cI, 72, .inl (dg W)))]) [0, 3, 1, 2] (by decide) rfl ?_
    refine go_if_ne O dX0_take_49 56 (by decide) 52 rfl (by omega) (fun h49 => ?_) (fun h49 => ?_)
    · refine go_iconst O dX0_take_56 57 rfl ?_
      refine TGo.topi (y := bz (ng && decide (0 < W / 10 ^ 10))) (band_0 (Or.inr (by rcases hu with ⟨e1, e2⟩ | ⟨e1, j, e2, e3, e4⟩; (have e5 := lt_of_digits (N := W / 10 ^ 10) (s := 0) hV (by omega) (fun j a b => e2 j a b); rw [Nat.pow_zero] at e5; omega); omega))) ?_
      refine go_put O hK dX0_take_57 hinX0 tyX0 tyX0_ok nmX0 0 rfl rfl 3 (by decide) flX0_42 rfl rfl (nar_b (bz_01 _)) (fit_b (bz_01 _)) (Nat.le_of_ble_eq_true rfl) [(ha, .inr (0, [.ref qa, .int (iI 1), .int (iI (bz wide)), .int (iI (bz (ng && decide (0 < W / 10 ^ 10)))), .int (iI cu)])), (qa, .inl (cI, 36, .inl (dg (W / 10 ^ 10)))), (hw, .inr (2, [.ref qrow, .ref qfac, .int (iI (bz ng)), .int (iI (bz go))])), (qrow, .inl (cI, 72, .inl (dg W)))] rfl 60 rfl ?_
      exact hret _ _ () dX0_take_60 trivial
    · refine go_iconst O dX0_take_52 53 rfl ?_
      refine go_goto O dX0_take_53 57 (by decide) ?_
      refine TGo.topi (y := bz (ng && decide (0 < W / 10 ^ 10))) (band_1 (by omega) (by rcases hu with ⟨e1, e2⟩ | ⟨e1, j, e2, e3, e4⟩; omega; rcases Nat.eq_zero_or_pos (W / 10 ^ 10) with e5 | e5; (rw [e5, Nat.zero_div] at e4; omega); exact e5)) ?_
      refine go_put O hK dX0_take_57 hinX0 tyX0 tyX0_ok nmX0 0 rfl rfl 3 (by decide) flX0_42 rfl rfl (nar_b (bz_01 _)) (fit_b (bz_01 _)) (Nat.le_of_ble_eq_true rfl) [(ha, .inr (0, [.ref qa, .int (iI 1), .int (iI (bz wide)), .int (iI (bz (ng && decide (0 < W / 10 ^ 10)))), .int (iI cu)])), (qa, .inl (cI, 36, .inl (dg (W / 10 ^ 10)))), (hw, .inr (2, [.ref qrow, .ref qfac, .int (iI (bz ng)), .int (iI (bz go))])), (qrow, .inl (cI, 72, .inl (dg W)))] rfl 60 rfl ?_
      exact hret _ _ () dX0_take_60 trivial
set_option maxHeartbeats 4000000 in
set_option maxRecDepth 100000 in
/-- Work.fitsWide -/
theorem c_X2_fitsWide (E : TEn) (hE : EnvOk E) (hN : NestOk E) (hw qrow qfac : Nat) (cI : ClassId) (ng go : Bool) (W : Nat) (hW : W < 10 ^ 72) : Cti vwCl E yX2_fitsWide wsX2_fitsWide (rmn 1 23) [.ref hw] [(hw, .inr (2, [.ref qrow, .ref qfac, .int (iI (bz ng)), .int (iI (bz go))])), (qrow, .inl (cI, 72, .inl (dg W)))] [(cI, .int)] (fun (z : Int) (_ : Unit) => z = bz (decide (W < 10 ^ 46))) (fun _ => [(hw, .inr (2, [.ref qrow, .ref qfac, .int (iI (bz ng)), .int (iI (bz go))])), (qrow, .inl (cI, 72, .inl (dg W)))]) := by
  refine enteri (by decide) (Nat.le_of_ble_eq_true rfl) ?_
  intro X O hK hin2 hret
  show TGo X [(hw, .inr (2, [.ref qrow, .ref qfac, .int (iI (bz ng)), .int (iI (bz go))])), (qrow, .inl (cI, 72, .inl (dg W)))] 0 0 0 [(0, .ref hw)] []
  refine go_aload_n O dX2_fitsWide_0 rfl 0 rfl 1 rfl ?_
  refine go_get O hK dX2_fitsWide_1 hinX2 0 rfl rfl 0 (by decide) flX2_9 rfl 4 rfl ?_
  refine go_bipush O dX2_fitsWide_4 (by decide) 6 rfl ?_
  refine go_bipush O dX2_fitsWide_6 (by decide) 8 rfl ?_
  refine go_calliSN (rest := []) (wr := [(hw, .inr (2, [.ref qrow, .ref qfac, .int (iI (bz ng)), .int (iI (bz go))]))]) O hK hE (c_X3_isZero E hE qrow cI 72 W 46 72 (by omega) (by omega) (by omega)) (hN _ _ O.2.2.2.2.2.2.2.2.2).1 smX3_isZero inX3 cdX3_isZero 3 (by decide +kernel) ⟨Nat.le_of_ble_eq_true rfl, Nat.le_of_ble_eq_true rfl⟩ [0] rfl [1] rfl (by decide) [0] rfl (by decide) (by decide) rfl rfl (Nat.le_of_ble_eq_true rfl) ⟨Nat.zero_le _, Nat.zero_le _⟩ dX2_fitsWide_8 11 rfl (fun z u hu => ?_)
  show TGo X [(hw, .inr (2, [.ref qrow, .ref qfac, .int (iI (bz ng)), .int (iI (bz go))])), (qrow, .inl (cI, 72, .inl (dg W)))] 0 0 11 [(0, .ref hw)] [.int (iI z)]
  have hz : z = bz (decide (W < 10 ^ 46)) := by
    rcases hu with ⟨e1, e2⟩ | ⟨e1, j, e2, e3, e4⟩
    · rw [e1]; exact bzd_1 (lt_of_digits hW (by omega) e2)
    · rw [e1]; exact bzd_0 (fun e5 => e4 (dig_of_lt e5 e2))
  subst hz
  exact hret _ _ _ () dX2_fitsWide_11 (nar_b (bz_01 _)) rfl
set_option maxHeartbeats 4000000 in
set_option maxRecDepth 100000 in
/-- Work.fitsFast -/
theorem c_X2_fitsFast (E : TEn) (hE : EnvOk E) (hN : NestOk E) (hw qrow qfac : Nat) (cI : ClassId) (ng go : Bool) (W : Nat) (hW : W < 10 ^ 72) : Cti vwCl E yX2_fitsFast wsX2_fitsFast (rmn 1 25) [.ref hw] [(hw, .inr (2, [.ref qrow, .ref qfac, .int (iI (bz ng)), .int (iI (bz go))])), (qrow, .inl (cI, 72, .inl (dg W)))] [(cI, .int)] (fun (z : Int) (_ : Unit) => z = bz (decide (go = false ∧ W % 10 ^ 15 = 0 ∧ W / 10 ^ 15 ≤ tlim ng))) (fun _ => [(hw, .inr (2, [.ref qrow, .ref qfac, .int (iI (bz ng)), .int (iI (bz go))])), (qrow, .inl (cI, 72, .inl (dg W)))]) := by
  refine enteri (by decide) (Nat.le_of_ble_eq_true rfl) ?_
  intro X O hK hin2 hret
  show TGo X [(hw, .inr (2, [.ref qrow, .ref qfac, .int (iI (bz ng)), .int (iI (bz go))])), (qrow, .inl (cI, 72, .inl (dg W)))] 0 0 0 [(0, .ref hw)] []
  have b1 := bz_01 ng
  have b2 := bz_01 go
  have hl := tlim_le (ng := ng) (V := W / 10 ^ 15)
  have m50 : ∀ (y : Int), r64 y → go = false → W % 10 ^ 15 = 0 → W / 10 ^ 15 < 10 ^ 19 → ((y = ((W / 10 ^ 15 : Nat) : Int) ∧ W / 10 ^ 15 < 9223372036854775808) ∨ (y = ((W / 10 ^ 15 : Nat) : Int) - 18446744073709551616 ∧ 9223372036854775808 ≤ W / 10 ^ 15)) → TGo X [(hw, .inr (2, [.ref qrow, .ref qfac, .int (iI (bz ng)), .int (iI (bz go))])), (qrow, .inl (cI, 72, .inl (dg W)))] 0 0 50 [(1, .int (iI 15)), (0, .ref hw)] [.long (lI y)] := by
    intro y hy hg hm hb hyv
    have q1 := cmpZ_ge (a := y) (b := 0)
    have q2 := cmpZ_eq (a := y) (b := -9223372036854775808)
    refine go_lstore_n O dX2_fitsFast_50 rfl (by decide) [(2, .long (lI y)), (1, .int (iI 15)), (0, .ref hw)] rfl 51 rfl ?_
    refine go_lload_n O dX2_fitsFast_51 rfl 0 rfl 52 rfl ?_
    refine go_lconst O dX2_fitsFast_52 0 rfl 53 rfl ?_
    refine go_lcmp O dX2_fitsFast_53 (by omega) (by omega) 54 rfl ?_
    refine go_if_ge O dX2_fitsFast_54 72 (by decide) 57 rfl (cmpZ_r _ _) (fun h54 => ?_) (fun h54 => ?_)
    · refine go_iconst O dX2_fitsFast_72 73 rfl ?_
      refine go_goto O dX2_fitsFast_73 77 (by decide) ?_
      exact hret _ _ _ () dX2_fitsFast_77 rfl (bzd_1 ⟨hg, hm, hl.mpr (by omega)⟩)
    · refine go_aload_n O dX2_fitsFast_57 rfl 2 rfl 58 rfl ?_
      refine go_get O hK dX2_fitsFast_58 hinX2 0 rfl rfl 2 (by decide) flX2_24 rfl 61 rfl ?_
      refine go_if_eq O dX2_fitsFast_61 76 (by decide) 64 rfl (bz_r _) (fun h61 => ?_) (fun h61 => ?_)
      · refine go_iconst O dX2_fitsFast_76 77 rfl ?_
        exact hret _ _ _ () dX2_fitsFast_77 rfl (bzd_0 (fun e => by have e2 := hl.mp e.2.2; omega))
      · refine go_lload_n O dX2_fitsFast_64 rfl 0 rfl 65 rfl ?_
        refine go_ldc2 O dX2_fitsFast_65 (-9223372036854775808) kcX2_89 (by decide) 68 rfl ?_
        refine go_lcmp O dX2_fitsFast_68 (by omega) (by omega) 69 rfl ?_
        refine go_if_ne O dX2_fitsFast_69 76 (by decide) 72 rfl (cmpZ_r _ _) (fun h69 => ?_) (fun h69 => ?_)
        · refine go_iconst O dX2_fitsFast_76 77 rfl ?_
          exact hret _ _ _ () dX2_fitsFast_77 rfl (bzd_0 (fun e => by have e2 := hl.mp e.2.2; omega))
        · refine go_iconst O dX2_fitsFast_72 73 rfl ?_
          refine go_goto O dX2_fitsFast_73 77 (by decide) ?_
          exact hret _ _ _ () dX2_fitsFast_77 rfl (bzd_1 ⟨hg, hm, hl.mpr (by omega)⟩)
  refine go_bipush O dX2_fitsFast_0 (by decide) 2 rfl ?_
  refine go_istore_n O dX2_fitsFast_2 rfl (by decide) [(1, .int (iI 15)), (0, .ref hw)] rfl 3 rfl ?_
  refine go_aload_n O dX2_fitsFast_3 rfl 1 rfl 4 rfl ?_
  refine go_get O hK dX2_fitsFast_4 hinX2 0 rfl rfl 3 (by decide) flX2_28 rfl 7 rfl ?_
  refine go_if_ne O dX2_fitsFast_7 38 (by decide) 10 rfl (bz_r _) (fun h7 => ?_) (fun h7 => ?_)
  · refine go_iconst O dX2_fitsFast_38 39 rfl ?_
    exact hret _ _ _ () dX2_fitsFast_39 rfl (bzd_0 (fun e => by rw [e.1, bz_f] at h7; omega))
  · refine go_aload_n O dX2_fitsFast_10 rfl 1 rfl 11 rfl ?_
    refine go_get O hK dX2_fitsFast_11 hinX2 0 rfl rfl 0 (by decide) flX2_9 rfl 14 rfl ?_
    refine go_iconst O dX2_fitsFast_14 15 rfl ?_
    refine go_iload_n O dX2_fitsFast_15 rfl 0 rfl 16 rfl ?_
    refine go_calliSN (rest := []) (wr := [(hw, .inr (2, [.ref qrow, .ref qfac, .int (iI (bz ng)), .int (iI (bz go))]))]) O hK hE (c_X3_isZero E hE qrow cI 72 W 0 15 (by omega) (by omega) (by omega)) (hN _ _ O.2.2.2.2.2.2.2.2.2).1 smX3_isZero inX3 cdX3_isZero 3 (by decide +kernel) ⟨Nat.le_of_ble_eq_true rfl, Nat.le_of_ble_eq_true rfl⟩ [0] rfl [1] rfl (by decide) [0] rfl (by decide) (by decide) rfl rfl (Nat.le_of_ble_eq_true rfl) ⟨Nat.zero_le _, Nat.zero_le _⟩ dX2_fitsFast_16 19 rfl (fun z u hu => ?_)
    obtain ⟨z1, rfl⟩ : ∃ y, y = z := ⟨_, rfl⟩
    have hu1 := hu
    have z01 : z1 = 0 ∨ z1 = 1 := by rcases hu1 with ⟨e1, e2⟩ | ⟨e1, e2⟩ <;> omega
    show TGo X [(hw, .inr (2, [.ref qrow, .ref qfac, .int (iI (bz ng)), .int (iI (bz go))])), (qrow, .inl (cI, 72, .inl (dg W)))] 0 0 19 [(1, .int (iI 15)), (0, .ref hw)] [.int (iI z1)]
    refine go_if_eq O dX2_fitsFast_19 38 (by decide) 22 rfl (by omega) (fun h19 => ?_) (fun h19 => ?_)
    · refine go_iconst O dX2_fitsFast_38 39 rfl ?_
      exact hret _ _ _ () dX2_fitsFast_39 rfl (bzd_0 (fun e => by rcases hu1 with ⟨e1, e2⟩ | ⟨e1, j, e2, e3, e4⟩; omega; exact e4 (tmod_dig e.2.1 e3)))
    · refine go_aload_n O dX2_fitsFast_22 rfl 1 rfl 23 rfl ?_
      refine go_get O hK dX2_fitsFast_23 hinX2 0 rfl rfl 0 (by decide) flX2_9 rfl 26 rfl ?_
      refine go_iload_n O dX2_fitsFast_26 rfl 0 rfl 27 rfl ?_
      refine go_bipush O dX2_fitsFast_27 (by decide) 29 rfl ?_
      refine go_iadd O dX2_fitsFast_29 34 (by decide) 30 rfl ?_
      refine go_bipush O dX2_fitsFast_30 (by decide) 32 rfl ?_
      refine go_calliSN (rest := []) (wr := [(hw, .inr (2, [.ref qrow, .ref qfac, .int (iI (bz ng)), .int (iI (bz go))]))]) O hK hE (c_X3_isZero E hE qrow cI 72 W 34 72 (by omega) (by omega) (by omega)) (hN _ _ O.2.2.2.2.2.2.2.2.2).1 smX3_isZero inX3 cdX3_isZero 3 (by decide +kernel) ⟨Nat.le_of_ble_eq_true rfl, Nat.le_of_ble_eq_true rfl⟩ [0] rfl [1] rfl (by decide) [0] rfl (by decide) (by decide) rfl rfl (Nat.le_of_ble_eq_true rfl) ⟨Nat.zero_le _, Nat.zero_le _⟩ dX2_fitsFast_32 35 rfl (fun z u hu => ?_)
      obtain ⟨z2, rfl⟩ : ∃ y, y = z := ⟨_, rfl⟩
      have hu2 := hu
      have z02 : z2 = 0 ∨ z2 = 1 := by rcases hu2 with ⟨e1, e2⟩ | ⟨e1, e2⟩ <;> omega
      show TGo X [(hw, .inr (2, [.ref qrow, .ref qfac, .int (iI (bz ng)), .int (iI (bz go))])), (qrow, .inl (cI, 72, .inl (dg W)))] 0 0 35 [(1, .int (iI 15)), (0, .ref hw)] [.int (iI z2)]
      refine go_if_ne O dX2_fitsFast_35 40 (by decide) 38 rfl (by omega) (fun h35 => ?_) (fun h35 => ?_)
      · refine go_aload_n O dX2_fitsFast_40 rfl 1 rfl 41 rfl ?_
        refine go_get O hK dX2_fitsFast_41 hinX2 0 rfl rfl 0 (by decide) flX2_9 rfl 44 rfl ?_
        refine go_iload_n O dX2_fitsFast_44 rfl 0 rfl 45 rfl ?_
        refine go_bipush O dX2_fitsFast_45 (by decide) 47 rfl ?_
        refine go_calllSN (rest := []) (wr := [(hw, .inr (2, [.ref qrow, .ref qfac, .int (iI (bz ng)), .int (iI (bz go))]))]) O hK hE (c_X3_asLong E hE qrow cI 72 W 15 19 (by omega) (by omega)) (hN _ _ O.2.2.2.2.2.2.2.2.2).2.1 smX3_asLong inX3 cdX3_asLong 3 (by decide +kernel) ⟨Nat.le_of_ble_eq_true rfl, Nat.le_of_ble_eq_true rfl⟩ [0] rfl [1] rfl (by decide) [0] rfl (by decide) (by decide) rfl rfl (Nat.le_of_ble_eq_true rfl) ⟨Nat.zero_le _, Nat.zero_le _⟩ dX2_fitsFast_47 50 rfl (fun z u hu => ?_)
        subst hu
        show TGo X [(hw, .inr (2, [.ref qrow, .ref qfac, .int (iI (bz ng)), .int (iI (bz go))])), (qrow, .inl (cI, 72, .inl (dg W)))] 0 0 50 [(1, .int (iI 15)), (0, .ref hw)] [.long (lI ((W / 10 ^ 15 % 10 ^ 19 : Nat) : Int))]
        have hg : go = false := bz_0.mp (by omega)
        have hm : W % 10 ^ 15 = 0 := by rcases hu1 with ⟨e1, e2⟩ | ⟨e1, e2⟩; exact tmod_of 15 (fun j e => e2 j (by omega) e); omega
        have h34 : W < 10 ^ 34 := by rcases hu2 with ⟨e1, e2⟩ | ⟨e1, e2⟩; exact lt_of_digits hW (by omega) e2; omega
        have hb : W / 10 ^ 15 < 10 ^ 19 := (Nat.div_lt_iff_lt_mul (p10 15)).mpr (by rw [← p10add]; exact h34)
        rw [Nat.mod_eq_of_lt hb]
        by_cases hV : W / 10 ^ 15 < 9223372036854775808
        · exact m50 _ (by omega) hg hm hb (Or.inl ⟨rfl, hV⟩)
        · rw [lI_wrap]
          exact m50 _ (by omega) hg hm hb (Or.inr ⟨rfl, by omega⟩)
      · refine go_iconst O dX2_fitsFast_38 39 rfl ?_
        exact hret _ _ _ () dX2_fitsFast_39 rfl (bzd_0 (fun e => by rcases hu2 with ⟨e1, e2⟩ | ⟨e1, j, e2, e3, e4⟩; omega; (have e5 : W / 10 ^ 15 < 10 ^ 19 := (by have := hl.mp e.2.2; omega); have e6 : W < 10 ^ 34 := (by have e7 := (Nat.div_lt_iff_lt_mul (p10 15)).mp e5; rw [← p10add] at e7; exact e7); exact e4 (dig_of_lt e6 (by omega)))))
set_option maxHeartbeats 4000000 in
set_option maxRecDepth 100000 in
/-- Work.increase -/
theorem c_X2_increase (E : TEn) (hE : EnvOk E) (hw qrow qfac : Nat) (cI : ClassId) (ng go : Bool) (W P V : Nat) (b : Int) (hW : W < 10 ^ 72) (hP : P < 72) (hb : -99999990 ≤ b ∧ b ≤ 99999990) (hV : (V : Int) = (W : Int) + b * (10 ^ P : Nat)) : Ctv vwCl E yX2_increase wsX2_increase (rmn 2 45) [.ref hw, .int (iI ((P : Nat) : Int)), .int (iI b)] [(hw, .inr (2, [.ref qrow, .ref qfac, .int (iI (bz ng)), .int (iI (bz go))])), (qrow, .inl (cI, 72, .inl (dg W)))] [(cI, .int)] (fun _ : Unit => True) (fun _ => [(hw, .inr (2, [.ref qrow, .ref qfac, .int (iI (bz ng)), .int (iI (bz go))])), (qrow, .inl (cI, 72, .inl (dg V)))]) := by
  refine enterv (by decide) (Nat.le_of_ble_eq_true rfl) ?_
  intro X O hK hin2 hret
  show TGo X [(hw, .inr (2, [.ref qrow, .ref qfac, .int (iI (bz ng)), .int (iI (bz go))])), (qrow, .inl (cI, 72, .inl (dg W)))] 0 0 0 [(0, .ref hw), (1, .int (iI ((P : Nat) : Int))), (2, .int (iI b))] []
  refine go_aload_n O dX2_increase_0 rfl 0 rfl 1 rfl ?_
  refine go_get O hK dX2_increase_1 hinX2 0 rfl rfl 0 (by decide) flX2_9 rfl 4 rfl ?_
  refine go_iload_n O dX2_increase_4 rfl 1 rfl 5 rfl ?_
  refine go_dup2_11 O dX2_increase_5 rfl rfl 6 rfl ?_
  refine go_iald O hK dX2_increase_6 1 0 rfl rfl P rfl (by omega) (by omega) ((W / 10 ^ P % 10 : Nat) : Int) rfl 7 rfl ?_
  refine go_iload_n O dX2_increase_7 rfl 2 rfl 8 rfl ?_
  refine go_iadd O dX2_increase_8 (((W / 10 ^ P % 10 : Nat) : Int) + b) rfl 9 rfl ?_
  refine go_iast O hK dX2_increase_9 1 0 rfl rfl P rfl (by omega) (by omega) (fun j => iI ((fun j => if j = P then ((W / 10 ^ P % 10 : Nat) : Int) + b else ((W / 10 ^ j % 10 : Nat) : Int)) j)) (fun j _ => inc_zf j) [(hw, .inr (2, [.ref qrow, .ref qfac, .int (iI (bz ng)), .int (iI (bz go))])), (qrow, .inl (cI, 72, .inl (fun j => iI ((fun j => if j = P then ((W / 10 ^ P % 10 : Nat) : Int) + b else ((W / 10 ^ j % 10 : Nat) : Int)) j))))] rfl 10 rfl ?_
  refine go_aload_n O dX2_increase_10 rfl 0 rfl 11 rfl ?_
  refine go_callvV (As := []) (rest := []) (wr := []) O hK hE (c_X2_carry E hE hw qrow qfac cI ng go (fun j => if j = P then ((W / 10 ^ P % 10 : Nat) : Int) + b else ((W / 10 ^ j % 10 : Nat) : Int)) V (fun i hi => by split <;> omega) (by rw [inc_tv hW hP]; exact hV)) mlX2_59 imX2_carry seX2_carry inX2 cdX2_carry 0 (by decide +kernel) ⟨Nat.le_of_ble_eq_true rfl, Nat.le_of_ble_eq_true rfl⟩ 0 rfl rfl [0] rfl [0, 1] rfl (by decide) [] rfl (by decide) (by decide) rfl rfl (Nat.le_of_ble_eq_true rfl) ⟨Nat.zero_le _, Nat.zero_le _⟩ dX2_increase_11 14 rfl (fun u hu => ?_)
  show TGo X [(hw, .inr (2, [.ref qrow, .ref qfac, .int (iI (bz ng)), .int (iI (bz go))])), (qrow, .inl (cI, 72, .inl (dg V)))] 0 0 14 [(0, .ref hw), (1, .int (iI ((P : Nat) : Int))), (2, .int (iI b))] []
  exact hret _ _ () dX2_increase_14 trivial
set_option maxHeartbeats 4000000 in
set_option maxRecDepth 100000 in
/-- Work.goesAway -/
theorem c_X2_goesAway (E : TEn) (hE : EnvOk E) (hw qrow qfac : Nat) (cI : ClassId) (ng go : Bool) (mode half od : Int) (hm : 0 ≤ mode ∧ mode ≤ 6) (hh : r32 half) (ho : od = 0 ∨ od = 1) : Cti vwCl E yX2_goesAway wsX2_goesAway (rmn 0 0) [.ref hw, .int (iI mode), .int (iI half), .int (iI od)] [(hw, .inr (2, [.ref qrow, .ref qfac, .int (iI (bz ng)), .int (iI (bz go))]))] [] (fun (z : Int) (_ : Unit) => (z = 1 ∧ (mode = 0 ∨ (mode = 2 ∧ bz ng = 0) ∨ (mode = 3 ∧ bz ng = 1) ∨ (mode = 4 ∧ 0 ≤ half) ∨ (mode = 5 ∧ 0 < half) ∨ (mode = 6 ∧ (0 < half ∨ (half = 0 ∧ od = 1))))) ∨ (z = 0 ∧ ¬ (mode = 0 ∨ (mode = 2 ∧ bz ng = 0) ∨ (mode = 3 ∧ bz ng = 1) ∨ (mode = 4 ∧ 0 ≤ half) ∨ (mode = 5 ∧ 0 < half) ∨ (mode = 6 ∧ (0 < half ∨ (half = 0 ∧ od = 1)))))) (fun _ => [(hw, .inr (2, [.ref qrow, .ref qfac, .int (iI (bz ng)), .int (iI (bz go))]))]) := by
  refine enteri (by decide) (Nat.le_of_ble_eq_true rfl) ?_
  intro X O hK hin2 hret
  show TGo X [(hw, .inr (2, [.ref qrow, .ref qfac, .int (iI (bz ng)), .int (iI (bz go))]))] 0 0 0 [(0, .ref hw), (1, .int (iI mode)), (2, .int (iI half)), (3, .int (iI od))] []
  have b1 := bz_01 ng
  refine go_iload_n O dX2_goesAway_0 rfl 1 rfl 1 rfl ?_
  rcases (show mode = 0 ∨ mode = 1 ∨ mode = 2 ∨ mode = 3 ∨ mode = 4 ∨ mode = 5 ∨ mode = 6 by omega) with rfl | rfl | rfl | rfl | rfl | rfl | rfl
  · refine go_tableIn O dX2_goesAway_1 (by omega) (by omega) (by omega) rfl 40 (by decide) ?_
    refine go_iconst O dX2_goesAway_40 41 rfl ?_
    exact hret _ _ _ () dX2_goesAway_41 rfl (Or.inl ⟨rfl, by omega⟩)
  · refine go_tableIn O dX2_goesAway_1 (by omega) (by omega) (by omega) rfl 42 (by decide) ?_
    refine go_iconst O dX2_goesAway_42 43 rfl ?_
    exact hret _ _ _ () dX2_goesAway_43 rfl (Or.inr ⟨rfl, by omega⟩)
  · refine go_tableIn O dX2_goesAway_1 (by omega) (by omega) (by omega) rfl 44 (by decide) ?_
    refine go_aload_n O dX2_goesAway_44 rfl 0 rfl 45 rfl ?_
    refine go_get O hK dX2_goesAway_45 hinX2 0 rfl rfl 2 (by decide) flX2_24 rfl 48 rfl ?_
    refine go_if_ne O dX2_goesAway_48 55 (by decide) 51 rfl (by omega) (fun h48 => ?_) (fun h48 => ?_)
    · refine go_iconst O dX2_goesAway_55 56 rfl ?_
      exact hret _ _ _ () dX2_goesAway_56 rfl (Or.inr ⟨rfl, by omega⟩)
    · refine go_iconst O dX2_goesAway_51 52 rfl ?_
      refine go_goto O dX2_goesAway_52 56 (by decide) ?_
      exact hret _ _ _ () dX2_goesAway_56 rfl (Or.inl ⟨rfl, by omega⟩)
  · refine go_tableIn O dX2_goesAway_1 (by omega) (by omega) (by omega) rfl 57 (by decide) ?_
    refine go_aload_n O dX2_goesAway_57 rfl 0 rfl 58 rfl ?_
    refine go_get O hK dX2_goesAway_58 hinX2 0 rfl rfl 2 (by decide) flX2_24 rfl 61 rfl ?_
    exact hret _ _ _ () dX2_goesAway_61 (nar_b (bz_01 _)) (by omega)
  · refine go_tableIn O dX2_goesAway_1 (by omega) (by omega) (by omega) rfl 62 (by decide) ?_
    refine go_iload_n O dX2_goesAway_62 rfl 2 rfl 63 rfl ?_
    refine go_if_lt O dX2_goesAway_63 70 (by decide) 66 rfl (by omega) (fun h63 => ?_) (fun h63 => ?_)
    · refine go_iconst O dX2_goesAway_70 71 rfl ?_
      exact hret _ _ _ () dX2_goesAway_71 rfl (Or.inr ⟨rfl, by omega⟩)
    · refine go_iconst O dX2_goesAway_66 67 rfl ?_
      refine go_goto O dX2_goesAway_67 71 (by decide) ?_
      exact hret _ _ _ () dX2_goesAway_71 rfl (Or.inl ⟨rfl, by omega⟩)
  · refine go_tableIn O dX2_goesAway_1 (by omega) (by omega) (by omega) rfl 72 (by decide) ?_
    refine go_iload_n O dX2_goesAway_72 rfl 2 rfl 73 rfl ?_
    refine go_if_le O dX2_goesAway_73 80 (by decide) 76 rfl (by omega) (fun h73 => ?_) (fun h73 => ?_)
    · refine go_iconst O dX2_goesAway_80 81 rfl ?_
      exact hret _ _ _ () dX2_goesAway_81 rfl (Or.inr ⟨rfl, by omega⟩)
    · refine go_iconst O dX2_goesAway_76 77 rfl ?_
      refine go_goto O dX2_goesAway_77 81 (by decide) ?_
      exact hret _ _ _ () dX2_goesAway_81 rfl (Or.inl ⟨rfl, by omega⟩)
  · refine go_tableOut O dX2_goesAway_1 (by omega) (by omega) 82 (by decide) ?_
    refine go_iload_n O dX2_goesAway_82 rfl 2 rfl 83 rfl ?_
    refine go_if_gt O dX2_goesAway_83 94 (by decide) 86 rfl (by omega) (fun h83 => ?_) (fun h83 => ?_)
    · refine go_iconst O dX2_goesAway_94 95 rfl ?_
      refine go_goto O dX2_goesAway_95 99 (by decide) ?_
      exact hret _ _ _ () dX2_goesAway_99 rfl (Or.inl ⟨rfl, by omega⟩)
    · refine go_iload_n O dX2_goesAway_86 rfl 2 rfl 87 rfl ?_
      refine go_if_ne O dX2_goesAway_87 98 (by decide) 90 rfl (by omega) (fun h87 => ?_) (fun h87 => ?_)
      · refine go_iconst O dX2_goesAway_98 99 rfl ?_
        exact hret _ _ _ () dX2_goesAway_99 rfl (Or.inr ⟨rfl, by omega⟩)
      · refine go_iload_n O dX2_goesAway_90 rfl 3 rfl 91 rfl ?_
        refine go_if_eq O dX2_goesAway_91 98 (by decide) 94 rfl (by omega) (fun h91 => ?_) (fun h91 => ?_)
        · refine go_iconst O dX2_goesAway_98 99 rfl ?_
          exact hret _ _ _ () dX2_goesAway_99 rfl (Or.inr ⟨rfl, by omega⟩)
        · refine go_iconst O dX2_goesAway_94 95 rfl ?_
          refine go_goto O dX2_goesAway_95 99 (by decide) ?_
          exact hret _ _ _ () dX2_goesAway_99 rfl (Or.inl ⟨rfl, by omega⟩)
