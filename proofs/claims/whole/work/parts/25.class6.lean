/-! A row times a long, place by place from the top. -/
def z0f (zf : Nat → Int) (k : Nat) : Nat → Int := fun p => if p = k then 0 else zf p
def rf (zf : Nat → Int) (k D F j : Nat) : Nat → Int := fun p => if k ≤ p ∧ p < k + j then z0f zf k p + (D : Int) * ((F / 10 ^ (p - k) % 10 : Nat) : Int) else z0f zf k p
theorem rf_0 (zf : Nat → Int) (k D F : Nat) : ∀ p, upd (fun j => iI (zf j)) k (iI 0) p = iI (rf zf k D F 0 p) := by
  intro p
  unfold rf z0f
  rw [if_neg (by omega)]
  by_cases e : p = k
  · subst e; rw [upd_s, if_pos rfl]
  · rw [upd_n e, if_neg e]
theorem rf_at (zf : Nat → Int) (k D F j : Nat) : rf zf k D F j (k + j) = z0f zf k (k + j) := by
  unfold rf
  rw [if_neg (by omega)]
theorem rf_step (zf : Nat → Int) (k D F j : Nat) : ∀ p, upd (fun p => iI (rf zf k D F j p)) (k + j) (iI (z0f zf k (k + j) + ((D * (F / 10 ^ j % 10) : Nat) : Int))) p = iI (rf zf k D F (j + 1) p) := by
  intro p
  by_cases e : p = k + j
  · subst e
    rw [upd_s]
    unfold rf
    rw [if_pos (by omega), show k + j - k = j by omega, Int.natCast_mul]
  · rw [upd_n e]
    unfold rf
    by_cases e2 : k ≤ p ∧ p < k + j
    · rw [if_pos e2, if_pos (by omega)]
    · rw [if_neg e2, if_neg (by omega)]
theorem rf_tv {zf : Nat → Int} {k D F j : Nat} (hk : k < 72) (hj : k + j ≤ 72) : tv (rf zf k D F j) 0 72 = tv zf 0 72 - zf k * (10 ^ k : Nat) + ((D * (F % 10 ^ j) : Nat) : Int) * (10 ^ k : Nat) := by
  have h := tv_run (z0f zf k) (fun q => (D : Int) * ((F / 10 ^ q % 10 : Nat) : Int)) k 72 j hj
  have e : tv (rf zf k D F j) 0 72 = tv (fun p => if k ≤ p ∧ p < k + j then z0f zf k p + (fun q => (D : Int) * ((F / 10 ^ q % 10 : Nat) : Int)) (p - k) else z0f zf k p) 0 72 := rfl
  have h2 : tv (z0f zf k) 0 72 = tv zf 0 72 + (0 - zf k) * (10 ^ k : Nat) := by
    have := tv_upd zf k 0 72 0 (by omega) (by omega)
    rw [Nat.sub_zero] at this
    exact this
  rw [e, h, h2, tv_mul, tv_dg, tqz, Int.natCast_mul, Int.zero_sub, Int.neg_mul]
  omega
theorem tms_step {W F k : Nat} {y : Int} (hy : y = ((W % 10 ^ (k + 1) + W / 10 ^ (k + 1) * 10 ^ (k + 1) * F : Nat) : Int)) : y - ((W / 10 ^ k % 10 : Nat) : Int) * (10 ^ k : Nat) + ((W / 10 ^ k % 10 * F : Nat) : Int) * (10 ^ k : Nat) = ((W % 10 ^ k + W / 10 ^ k * 10 ^ k * F : Nat) : Int) := by
  have h1 := tmodS W k
  have h2 : W / 10 ^ k = 10 * (W / 10 ^ (k + 1)) + W / 10 ^ k % 10 := by rw [tq10]; omega
  have h3 : W / 10 ^ k * 10 ^ k = W / 10 ^ (k + 1) * 10 ^ (k + 1) + W / 10 ^ k % 10 * 10 ^ k := by
    conv => lhs; rw [h2]
    rw [p10s, Nat.add_mul, Nat.mul_left_comm, Nat.mul_assoc]
  have h4 : W / 10 ^ k * 10 ^ k * F = W / 10 ^ (k + 1) * 10 ^ (k + 1) * F + W / 10 ^ k % 10 * F * 10 ^ k := by
    rw [h3, Nat.add_mul, Nat.mul_right_comm (W / 10 ^ k % 10)]
  rw [h4, hy, h1, ← Int.natCast_mul, ← Int.natCast_mul]
  omega
theorem rf_bd {zf : Nat → Int} {k D F j p : Nat} {b : Int} (hb : ∀ q, 0 ≤ zf q ∧ zf q ≤ b) (hD : D < 10) : 0 ≤ rf zf k D F j p ∧ rf zf k D F j p ≤ b + 81 := by
  have h1 := tdig_mul D (F / 10 ^ (p - k) % 10) hD (Nat.mod_lt _ (by omega))
  have h2 := hb p
  have h3 : (D : Int) * ((F / 10 ^ (p - k) % 10 : Nat) : Int) = ((D * (F / 10 ^ (p - k) % 10) : Nat) : Int) := (Int.natCast_mul _ _).symm
  unfold rf z0f
  rw [h3]
  split <;> split <;> omega
theorem rf_lo {zf : Nat → Int} {k D F j p : Nat} (h : p < k) : rf zf k D F j p = zf p := by
  unfold rf z0f
  rw [if_neg (by omega), if_neg (by omega)]
theorem fac_lt {W F k : Nat} (hk : k < tnds W) (h : W * F < 10 ^ 72) (hk72 : k ≤ 72) : F < 10 ^ (72 - k) := by
  have hW : 0 < W := by
    rcases Nat.eq_zero_or_pos W with e | e
    · subst e; rw [tnds_zero] at hk; omega
    · exact e
  have h1 := tnds_le hW
  have h2 := p10le (a := k) (b := tnds W - 1) (by omega)
  have h3 : 10 ^ k * F ≤ W * F := Nat.mul_le_mul_right _ (Nat.le_trans h2 h1)
  have h4 : 10 ^ 72 = 10 ^ k * 10 ^ (72 - k) := by rw [← p10add]; congr 1; omega
  rw [h4] at h
  exact Nat.lt_of_mul_lt_mul_left (Nat.lt_of_le_of_lt h3 h)
set_option maxHeartbeats 4000000 in
set_option maxRecDepth 100000 in
/-- Work.times -/
theorem c_X2_times (E : TEn) (hE : EnvOk E) (hw qrow qfac : Nat) (cI : ClassId) (ng go : Bool) (ff : Nat → Int32) (W : Nat) (v : Int) (hv : r64 v) (hW : W < 10 ^ 72) (hWF : W * v.natAbs < 10 ^ 72) : Ctv vwCl E yX2_times wsX2_times (rmn 2 47) [.ref hw, .long (lI v)] [(hw, .inr (2, [.ref qrow, .ref qfac, .int (iI (bz ng)), .int (iI (bz go))])), (qrow, .inl (cI, 72, .inl (dg W))), (qfac, .inl (cI, 19, .inl ff))] [(cI, .int)] (fun _ : Nat → Int32 => True) (fun u => [(hw, .inr (2, [.ref qrow, .ref qfac, .int (iI (bz (ng != decide (v < 0)))), .int (iI (bz go))])), (qrow, .inl (cI, 72, .inl (dg (W * v.natAbs)))), (qfac, .inl (cI, 19, .inl u))]) := by
  refine enterv (by decide) (Nat.le_of_ble_eq_true rfl) ?_
  intro X O hK hin2 hret
  show TGo X [(hw, .inr (2, [.ref qrow, .ref qfac, .int (iI (bz ng)), .int (iI (bz go))])), (qrow, .inl (cI, 72, .inl (dg W))), (qfac, .inl (cI, 19, .inl ff))] 0 0 0 [(0, .ref hw), (1, .long (lI v))] []
  have hcv := cmpZ_ge (a := v) (b := 0)
  have b1 := bz_01 ng
  have hF19 : v.natAbs < 10 ^ 19 := by omega
  have ht72 := tnds_mono hW
  have m88 : ∀ (x : Int) (zf : Nat → Int), (∀ j, 0 ≤ zf j ∧ zf j ≤ 6000) → tv zf 0 72 = ((W * v.natAbs : Nat) : Int) → TGo X [(hw, .inr (2, [.ref qrow, .ref qfac, .int (iI (bz ng)), .int (iI (bz go))])), (qrow, .inl (cI, 72, .inl (fun j => iI (zf j)))), (qfac, .inl (cI, 19, .inl (dg v.natAbs)))] 0 0 88 [(3, .int (iI x)), (0, .ref hw), (1, .long (lI v))] [] := by
    intro x zf hb htv
    refine go_aload_n O dX2_times_88 rfl 1 rfl 89 rfl ?_
    refine go_callvV (As := []) (rest := []) (wr := [(qfac, .inl (cI, 19, .inl (dg v.natAbs)))]) O hK hE (c_X2_carry E hE hw qrow qfac cI ng go zf (W * v.natAbs) (fun i _ => by have := hb i; omega) htv.symm) mlX2_59 imX2_carry seX2_carry inX2 cdX2_carry 0 (by decide +kernel) ⟨Nat.le_of_ble_eq_true rfl, Nat.le_of_ble_eq_true rfl⟩ 0 rfl rfl [0] rfl [0, 1] rfl (by decide) [2] rfl (by decide) (by decide) rfl rfl (Nat.le_of_ble_eq_true rfl) ⟨Nat.zero_le _, Nat.zero_le _⟩ dX2_times_89 92 rfl (fun u hu => ?_)
    show TGo X [(qfac, .inl (cI, 19, .inl (dg v.natAbs))), (hw, .inr (2, [.ref qrow, .ref qfac, .int (iI (bz ng)), .int (iI (bz go))])), (qrow, .inl (cI, 72, .inl (dg (W * v.natAbs))))] 0 0 92 [(3, .int (iI x)), (0, .ref hw), (1, .long (lI v))] []
    refine TGo.sub (ws' := [(hw, .inr (2, [.ref qrow, .ref qfac, .int (iI (bz ng)), .int (iI (bz go))])), (qrow, .inl (cI, 72, .inl (dg (W * v.natAbs)))), (qfac, .inl (cI, 19, .inl (dg v.natAbs)))]) [1, 2, 0] (by decide) rfl ?_
    refine go_aload_n O dX2_times_92 rfl 1 rfl 93 rfl ?_
    refine go_aload_n O dX2_times_93 rfl 1 rfl 94 rfl ?_
    refine go_get O hK dX2_times_94 hinX2 0 rfl rfl 2 (by decide) flX2_24 rfl 97 rfl ?_
    refine go_lload_n O dX2_times_97 rfl 2 rfl 98 rfl ?_
    refine go_lconst O dX2_times_98 0 rfl 99 rfl ?_
    refine go_lcmp O dX2_times_99 (by omega) (by omega) 100 rfl ?_
    refine go_if_ge O dX2_times_100 107 (by decide) 103 rfl (cmpZ_r _ _) (fun h100 => ?_) (fun h100 => ?_)
    · refine go_iconst O dX2_times_107 108 rfl ?_
      refine go_icmp_eq O dX2_times_108 115 (by decide) 111 rfl (by omega) (by omega) (fun h108 => ?_) (fun h108 => ?_)
      · refine go_iconst O dX2_times_115 116 rfl ?_
        refine TGo.topi (y := bz (ng != decide (v < 0))) (band_y (by omega)) ?_
        refine go_put O hK dX2_times_116 hinX2 tyX2 tyX2_ok nmX2 0 rfl rfl 2 (by decide) flX2_24 rfl rfl (nar_b (bz_01 _)) (fit_b (bz_01 _)) (Nat.le_of_ble_eq_true rfl) [(hw, .inr (2, [.ref qrow, .ref qfac, .int (iI (bz (ng != decide (v < 0)))), .int (iI (bz go))])), (qrow, .inl (cI, 72, .inl (dg (W * v.natAbs)))), (qfac, .inl (cI, 19, .inl (dg v.natAbs)))] rfl 119 rfl ?_
        exact hret _ _ (dg v.natAbs) dX2_times_119 trivial
      · refine go_iconst O dX2_times_111 112 rfl ?_
        refine go_goto O dX2_times_112 116 (by decide) ?_
        refine TGo.topi (y := bz (ng != decide (v < 0))) (band_x (by omega)) ?_
        refine go_put O hK dX2_times_116 hinX2 tyX2 tyX2_ok nmX2 0 rfl rfl 2 (by decide) flX2_24 rfl rfl (nar_b (bz_01 _)) (fit_b (bz_01 _)) (Nat.le_of_ble_eq_true rfl) [(hw, .inr (2, [.ref qrow, .ref qfac, .int (iI (bz (ng != decide (v < 0)))), .int (iI (bz go))])), (qrow, .inl (cI, 72, .inl (dg (W * v.natAbs)))), (qfac, .inl (cI, 19, .inl (dg v.natAbs)))] rfl 119 rfl ?_
        exact hret _ _ (dg v.natAbs) dX2_times_119 trivial
    · refine go_iconst O dX2_times_103 104 rfl ?_
      refine go_goto O dX2_times_104 108 (by decide) ?_
      refine go_icmp_eq O dX2_times_108 115 (by decide) 111 rfl (by omega) (by omega) (fun h108 => ?_) (fun h108 => ?_)
      · refine go_iconst O dX2_times_115 116 rfl ?_
        refine TGo.topi (y := bz (ng != decide (v < 0))) (band_y (by omega)) ?_
        refine go_put O hK dX2_times_116 hinX2 tyX2 tyX2_ok nmX2 0 rfl rfl 2 (by decide) flX2_24 rfl rfl (nar_b (bz_01 _)) (fit_b (bz_01 _)) (Nat.le_of_ble_eq_true rfl) [(hw, .inr (2, [.ref qrow, .ref qfac, .int (iI (bz (ng != decide (v < 0)))), .int (iI (bz go))])), (qrow, .inl (cI, 72, .inl (dg (W * v.natAbs)))), (qfac, .inl (cI, 19, .inl (dg v.natAbs)))] rfl 119 rfl ?_
        exact hret _ _ (dg v.natAbs) dX2_times_119 trivial
      · refine go_iconst O dX2_times_111 112 rfl ?_
        refine go_goto O dX2_times_112 116 (by decide) ?_
        refine TGo.topi (y := bz (ng != decide (v < 0))) (band_x (by omega)) ?_
        refine go_put O hK dX2_times_116 hinX2 tyX2 tyX2_ok nmX2 0 rfl rfl 2 (by decide) flX2_24 rfl rfl (nar_b (bz_01 _)) (fit_b (bz_01 _)) (Nat.le_of_ble_eq_true rfl) [(hw, .inr (2, [.ref qrow, .ref qfac, .int (iI (bz (ng != decide (v < 0)))), .int (iI (bz go))])), (qrow, .inl (cI, 72, .inl (dg (W * v.natAbs)))), (qfac, .inl (cI, 19, .inl (dg v.natAbs)))] rfl 119 rfl ?_
        exact hret _ _ (dg v.natAbs) dX2_times_119 trivial
  have lp : ∀ (c i : Nat) (x : Int) (zf : Nat → Int), c = i + 1 → i ≤ tnds W → x = (i : Int) - 1 → (∀ j, j < i → zf j = ((W / 10 ^ j % 10 : Nat) : Int)) → (∀ j, 0 ≤ zf j ∧ zf j ≤ 9 + 81 * (72 - (i : Int))) → tv zf 0 72 = ((W % 10 ^ i + W / 10 ^ i * 10 ^ i * v.natAbs : Nat) : Int) → TGo X [(hw, .inr (2, [.ref qrow, .ref qfac, .int (iI (bz ng)), .int (iI (bz go))])), (qrow, .inl (cI, 72, .inl (fun j => iI (zf j)))), (qfac, .inl (cI, 19, .inl (dg v.natAbs)))] 0 0 16 [(3, .int (iI x)), (0, .ref hw), (1, .long (lI v))] [] := by
    intro c
    induction c with
    | zero => intro i x zf h1; omega
    | succ c ih =>
      intro i x zf h1 h2 hx hlo hb htv
      cases i with
      | zero =>
        refine go_iload_n O dX2_times_16 rfl 0 rfl 17 rfl ?_
        refine go_if_lt O dX2_times_17 88 (by decide) 20 rfl (by omega) (fun h17 => ?_) (fun h17 => by omega)
        exact m88 _ zf (fun j => by have := hb j; omega) (by rw [htv, Nat.pow_zero, Nat.mod_one, Nat.div_one, Nat.mul_one, Nat.zero_add])
      | succ k =>
        have hdk : (W / 10 ^ k % 10) < 10 := Nat.mod_lt _ (by omega)
        have hxk : x = (k : Int) := by omega
        have hk72 : k < 72 := by omega
        have inner : ∀ (d j : Nat) (y : Int), d + j = 20 → j ≤ 19 → k + j ≤ 72 → y = (j : Int) → TGo X [(hw, .inr (2, [.ref qrow, .ref qfac, .int (iI (bz ng)), .int (iI (bz go))])), (qrow, .inl (cI, 72, .inl (fun p => iI (rf zf k (W / 10 ^ k % 10) v.natAbs j p)))), (qfac, .inl (cI, 19, .inl (dg v.natAbs)))] 0 0 38 [(5, .int (iI y)), (4, .int (iI ((W / 10 ^ k % 10 : Nat) : Int))), (3, .int (iI x)), (0, .ref hw), (1, .long (lI v))] [] := by
          intro d
          induction d with
          | zero => intro j y h3; omega
          | succ d ih2 =>
            intro j y h3 h4 h5 hy
            refine go_iload O dX2_times_38 0 rfl 40 rfl ?_
            refine go_bipush O dX2_times_40 (by decide) 42 rfl ?_
            refine go_icmp_ge O dX2_times_42 82 (by decide) 45 rfl (by omega) (by omega) (fun h42 => ?_) (fun h42 => ?_)
            · refine go_iinc O dX2_times_82 2 rfl (x - 1) (by omega) (by decide) [(3, .int (iI (x - 1))), (5, .int (iI y)), (4, .int (iI ((W / 10 ^ k % 10 : Nat) : Int))), (0, .ref hw), (1, .long (lI v))] rfl 85 rfl ?_
              refine go_goto O dX2_times_85 16 (by decide) ?_
              refine TGo.lsub (lv' := [(3, .int (iI (x - 1))), (0, .ref hw), (1, .long (lI v))]) [0, 3, 4] rfl ?_
              have hFj : v.natAbs % 10 ^ j = v.natAbs := Nat.mod_eq_of_lt (by rcases Nat.lt_or_ge j 19 with e | e; (have e2 := fac_lt (F := v.natAbs) (k := k) (by omega) hWF (by omega); rw [show 72 - k = j by omega] at e2; exact e2); exact Nat.lt_of_lt_of_le hF19 (p10le e))
              exact ih k _ (rf zf k (W / 10 ^ k % 10) v.natAbs j) (by omega) (by omega) (by omega) (fun p e => by rw [rf_lo e]; exact hlo p (by omega)) (fun p => by have := rf_bd (k := k) (D := (W / 10 ^ k % 10)) (F := v.natAbs) (j := j) (p := p) hb hdk; omega) (by rw [rf_tv hk72 h5, hFj, hlo k (by omega)]; exact tms_step htv)
            · refine go_iload_n O dX2_times_45 rfl 2 rfl 46 rfl ?_
              refine go_iload O dX2_times_46 0 rfl 48 rfl ?_
              refine go_iadd O dX2_times_48 ((k + j : Nat) : Int) (by omega) 49 rfl ?_
              refine go_bipush O dX2_times_49 (by decide) 51 rfl ?_
              refine go_icmp_ge O dX2_times_51 82 (by decide) 54 rfl (by omega) (by omega) (fun h51 => ?_) (fun h51 => ?_)
              · refine go_iinc O dX2_times_82 2 rfl (x - 1) (by omega) (by decide) [(3, .int (iI (x - 1))), (5, .int (iI y)), (4, .int (iI ((W / 10 ^ k % 10 : Nat) : Int))), (0, .ref hw), (1, .long (lI v))] rfl 85 rfl ?_
                refine go_goto O dX2_times_85 16 (by decide) ?_
                refine TGo.lsub (lv' := [(3, .int (iI (x - 1))), (0, .ref hw), (1, .long (lI v))]) [0, 3, 4] rfl ?_
                have hFj : v.natAbs % 10 ^ j = v.natAbs := Nat.mod_eq_of_lt (by rcases Nat.lt_or_ge j 19 with e | e; (have e2 := fac_lt (F := v.natAbs) (k := k) (by omega) hWF (by omega); rw [show 72 - k = j by omega] at e2; exact e2); exact Nat.lt_of_lt_of_le hF19 (p10le e))
                exact ih k _ (rf zf k (W / 10 ^ k % 10) v.natAbs j) (by omega) (by omega) (by omega) (fun p e => by rw [rf_lo e]; exact hlo p (by omega)) (fun p => by have := rf_bd (k := k) (D := (W / 10 ^ k % 10)) (F := v.natAbs) (j := j) (p := p) hb hdk; omega) (by rw [rf_tv hk72 h5, hFj, hlo k (by omega)]; exact tms_step htv)
              · refine go_aload_n O dX2_times_54 rfl 3 rfl 55 rfl ?_
                refine go_get O hK dX2_times_55 hinX2 0 rfl rfl 0 (by decide) flX2_9 rfl 58 rfl ?_
                refine go_iload_n O dX2_times_58 rfl 2 rfl 59 rfl ?_
                refine go_iload O dX2_times_59 0 rfl 61 rfl ?_
                refine go_iadd O dX2_times_61 ((k + j : Nat) : Int) (by omega) 62 rfl ?_
                refine go_dup2_11 O dX2_times_62 rfl rfl 63 rfl ?_
                refine go_iald O hK dX2_times_63 1 0 rfl rfl (k + j) rfl (by omega) (by omega) (z0f zf k (k + j)) (congrArg iI (rf_at zf k (W / 10 ^ k % 10) v.natAbs j)) 64 rfl ?_
                refine go_iload O dX2_times_64 1 rfl 66 rfl ?_
                refine go_aload_n O dX2_times_66 rfl 3 rfl 67 rfl ?_
                refine go_get O hK dX2_times_67 hinX2 0 rfl rfl 1 (by decide) flX2_15 rfl 70 rfl ?_
                refine go_iload O dX2_times_70 0 rfl 72 rfl ?_
                refine go_iald O hK dX2_times_72 2 0 rfl rfl j hy (by omega) (by omega) ((v.natAbs / 10 ^ j % 10 : Nat) : Int) rfl 73 rfl ?_
                refine go_imul O dX2_times_73 (((W / 10 ^ k % 10) * (v.natAbs / 10 ^ j % 10) : Nat) : Int) (Int.natCast_mul _ _).symm 74 rfl ?_
                refine go_iadd O dX2_times_74 (z0f zf k (k + j) + (((W / 10 ^ k % 10) * (v.natAbs / 10 ^ j % 10) : Nat) : Int)) rfl 75 rfl ?_
                refine go_iast O hK dX2_times_75 1 0 rfl rfl (k + j) rfl (by omega) (by omega) (fun p => iI (rf zf k (W / 10 ^ k % 10) v.natAbs (j + 1) p)) (fun p _ => rf_step zf k (W / 10 ^ k % 10) v.natAbs j p) [(hw, .inr (2, [.ref qrow, .ref qfac, .int (iI (bz ng)), .int (iI (bz go))])), (qrow, .inl (cI, 72, .inl (fun p => iI (rf zf k (W / 10 ^ k % 10) v.natAbs (j + 1) p)))), (qfac, .inl (cI, 19, .inl (dg v.natAbs)))] rfl 76 rfl ?_
                refine go_iinc O dX2_times_76 0 rfl ((j + 1 : Nat) : Int) (by omega) (by decide) [(5, .int (iI ((j + 1 : Nat) : Int))), (4, .int (iI ((W / 10 ^ k % 10 : Nat) : Int))), (3, .int (iI x)), (0, .ref hw), (1, .long (lI v))] rfl 79 rfl ?_
                refine go_goto O dX2_times_79 38 (by decide) ?_
                refine TGo.lsub (lv' := [(5, .int (iI ((j + 1 : Nat) : Int))), (4, .int (iI ((W / 10 ^ k % 10 : Nat) : Int))), (3, .int (iI x)), (0, .ref hw), (1, .long (lI v))]) [0, 1, 2, 3, 4] rfl ?_
                exact ih2 (j + 1) _ (by omega) (by omega) (by omega) (by omega)
        refine go_iload_n O dX2_times_16 rfl 0 rfl 17 rfl ?_
        refine go_if_lt O dX2_times_17 88 (by decide) 20 rfl (by omega) (fun h17 => by omega) (fun h17 => ?_)
        refine go_aload_n O dX2_times_20 rfl 1 rfl 21 rfl ?_
        refine go_get O hK dX2_times_21 hinX2 0 rfl rfl 0 (by decide) flX2_9 rfl 24 rfl ?_
        refine go_iload_n O dX2_times_24 rfl 0 rfl 25 rfl ?_
        refine go_iald O hK dX2_times_25 1 0 rfl rfl k hxk (by omega) (by omega) ((W / 10 ^ k % 10 : Nat) : Int) (congrArg iI (hlo k (by omega))) 26 rfl ?_
        refine go_istore O dX2_times_26 (by decide) [(4, .int (iI ((W / 10 ^ k % 10 : Nat) : Int))), (3, .int (iI x)), (0, .ref hw), (1, .long (lI v))] rfl 28 rfl ?_
        refine go_aload_n O dX2_times_28 rfl 2 rfl 29 rfl ?_
        refine go_get O hK dX2_times_29 hinX2 0 rfl rfl 0 (by decide) flX2_9 rfl 32 rfl ?_
        refine go_iload_n O dX2_times_32 rfl 1 rfl 33 rfl ?_
        refine go_iconst O dX2_times_33 34 rfl ?_
        refine go_iast O hK dX2_times_34 1 0 rfl rfl k hxk (by omega) (by omega) (fun p => iI (rf zf k (W / 10 ^ k % 10) v.natAbs 0 p)) (fun p _ => rf_0 zf k (W / 10 ^ k % 10) v.natAbs p) [(hw, .inr (2, [.ref qrow, .ref qfac, .int (iI (bz ng)), .int (iI (bz go))])), (qrow, .inl (cI, 72, .inl (fun p => iI (rf zf k (W / 10 ^ k % 10) v.natAbs 0 p)))), (qfac, .inl (cI, 19, .inl (dg v.natAbs)))] rfl 35 rfl ?_
        refine go_iconst O dX2_times_35 36 rfl ?_
        refine go_istore O dX2_times_36 (by decide) [(5, .int (iI 0)), (4, .int (iI ((W / 10 ^ k % 10 : Nat) : Int))), (3, .int (iI x)), (0, .ref hw), (1, .long (lI v))] rfl 38 rfl ?_
        refine TGo.lsub (lv' := [(5, .int (iI 0)), (4, .int (iI ((W / 10 ^ k % 10 : Nat) : Int))), (3, .int (iI x)), (0, .ref hw), (1, .long (lI v))]) [0, 1, 2, 3, 4] rfl ?_
        exact inner 20 0 _ (by omega) (by omega) (by omega) (by omega)
  refine go_lload_n O dX2_times_0 rfl 1 rfl 1 rfl ?_
  refine go_aload_n O dX2_times_1 rfl 0 rfl 2 rfl ?_
  refine go_get O hK dX2_times_2 hinX2 0 rfl rfl 1 (by decide) flX2_15 rfl 5 rfl ?_
  refine go_iconst O dX2_times_5 6 rfl ?_
  refine go_callvS (rest := []) (wr := [(hw, .inr (2, [.ref qrow, .ref qfac, .int (iI (bz ng)), .int (iI (bz go))])), (qrow, .inl (cI, 72, .inl (dg W)))]) O hK hE (c_X2_spell E hE qfac cI 19 0 ff v hv (by omega) (by omega)) mlX2_40 smX2_spell inX2 cdX2_spell 3 (by decide +kernel) ⟨Nat.le_of_ble_eq_true rfl, Nat.le_of_ble_eq_true rfl⟩ [0] rfl [2] rfl (by decide) [0, 1] rfl (by decide) (by decide) rfl rfl (Nat.le_of_ble_eq_true rfl) ⟨Nat.zero_le _, Nat.zero_le _⟩ dX2_times_6 9 rfl (fun u hu => ?_)
  show TGo X [(hw, .inr (2, [.ref qrow, .ref qfac, .int (iI (bz ng)), .int (iI (bz go))])), (qrow, .inl (cI, 72, .inl (dg W))), (qfac, .inl (cI, 19, .inl u))] 0 0 9 [(0, .ref hw), (1, .long (lI v))] []
  refine TGo.arr 2 rfl (dg v.natAbs) (fun j hj => by have := hu.1 j hj; rwa [Nat.zero_add] at this) (ws' := [(hw, .inr (2, [.ref qrow, .ref qfac, .int (iI (bz ng)), .int (iI (bz go))])), (qrow, .inl (cI, 72, .inl (dg W))), (qfac, .inl (cI, 19, .inl (dg v.natAbs)))]) rfl ?_
  refine go_aload_n O dX2_times_9 rfl 0 rfl 10 rfl ?_
  refine go_calliV (As := []) (rest := []) (wr := [(qfac, .inl (cI, 19, .inl (dg v.natAbs)))]) O hK hE (c_X2_size E hE hw qrow qfac cI ng go W hW) mlX2_62 imX2_size seX2_size inX2 cdX2_size 0 (by decide +kernel) ⟨Nat.le_of_ble_eq_true rfl, Nat.le_of_ble_eq_true rfl⟩ 0 rfl rfl [0] rfl [0, 1] rfl (by decide) [2] rfl (by decide) (by decide) rfl rfl (Nat.le_of_ble_eq_true rfl) ⟨Nat.zero_le _, Nat.zero_le _⟩ dX2_times_10 13 rfl (fun z u hu => ?_)
  subst hu
  show TGo X [(qfac, .inl (cI, 19, .inl (dg v.natAbs))), (hw, .inr (2, [.ref qrow, .ref qfac, .int (iI (bz ng)), .int (iI (bz go))])), (qrow, .inl (cI, 72, .inl (dg W)))] 0 0 13 [(0, .ref hw), (1, .long (lI v))] [.int (iI ((tnds W : Nat) : Int))]
  refine TGo.sub (ws' := [(hw, .inr (2, [.ref qrow, .ref qfac, .int (iI (bz ng)), .int (iI (bz go))])), (qrow, .inl (cI, 72, .inl (dg W))), (qfac, .inl (cI, 19, .inl (dg v.natAbs)))]) [1, 2, 0] (by decide) rfl ?_
  refine go_iconst O dX2_times_13 14 rfl ?_
  refine go_isub O dX2_times_14 (((tnds W : Nat) : Int) - 1) rfl 15 rfl ?_
  refine go_istore_n O dX2_times_15 rfl (by decide) [(3, .int (iI (((tnds W : Nat) : Int) - 1))), (0, .ref hw), (1, .long (lI v))] rfl 16 rfl ?_
  refine TGo.lsub (lv' := [(3, .int (iI (((tnds W : Nat) : Int) - 1))), (0, .ref hw), (1, .long (lI v))]) [0, 1, 2] rfl ?_
  refine TGo.arr 1 rfl (fun j => iI ((fun j => ((W / 10 ^ j % 10 : Nat) : Int)) j)) (fun j _ => rfl) (ws' := [(hw, .inr (2, [.ref qrow, .ref qfac, .int (iI (bz ng)), .int (iI (bz go))])), (qrow, .inl (cI, 72, .inl (fun j => iI ((fun j => ((W / 10 ^ j % 10 : Nat) : Int)) j)))), (qfac, .inl (cI, 19, .inl (dg v.natAbs)))]) rfl ?_
  exact lp (tnds W + 1) (tnds W) _ (fun j => ((W / 10 ^ j % 10 : Nat) : Int)) rfl (Nat.le_refl _) rfl (fun _ _ => rfl) (fun j => by omega) (by rw [tv_dg72 hW, Nat.mod_eq_of_lt (tnds_lt W), Nat.div_eq_of_lt (tnds_lt W), Nat.zero_mul, Nat.zero_mul, Nat.add_zero])
