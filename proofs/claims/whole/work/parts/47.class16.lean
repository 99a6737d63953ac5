theorem rdN_bad {tx : Nat → Int} {sz a b : Nat} {st : Int} {ok : Bool} (h : rdB tx sz (decide (st % 2 = 1)) (ok, a + (rdO tx sz st (ok, a)).toNat) = (false, b)) : rdN tx sz st (ok, a) = (false, b) := by
  by_cases e : rdO tx sz st (ok, a) = true ∧ 4 ≤ st
  · rw [rdN_y e, h, rdE_f]
  · rw [rdN_n e, h]
theorem prs_k {P Sc N e : Nat} {m : Int} {wide mi : Bool} (hP : 19 ≤ P ∧ P ≤ 30) (hS : 5 ≤ Sc ∧ Sc ≤ 10) (he : e ≤ 10) : tstl P Sc m wide mi (N * 10 ^ (10 - e)) (Int.natAbs 1) = tkeep P Sc m wide mi (N * 10 ^ (20 - e)) false := by
  rw [show Int.natAbs 1 = 1 from rfl, tst_1 hP hS, p1010 he]
set_option maxHeartbeats 4000000 in
set_option maxRecDepth 100000 in
/-- readNumber -/
theorem c_X3_readNumber (E : TEn) (hE : EnvOk E) (h qam qrat qrm hw hsh qrow qfac : Nat) (cM : ClassId) (ht ql : Nat) (cI : ClassId) (tx : Nat → Int) (htx : ∀ j, r32 (tx j)) (sz ta : Nat) (tc : Int) (P Sc : Nat) (m : Int) (ng go : Bool) (st : Int) (hst : 0 ≤ st ∧ st < 8) (hs : sz ≤ 48) (hta : ta ≤ sz) : Cti vwCl E yX3_readNumber wsX3_readNumber (rmn 3 69) [.ref h, .int (iI st)] [(h, .inr (3, [.int (iI ((P : Nat) : Int)), .int (iI ((Sc : Nat) : Int)), .int (iI m), .ref qam, .ref qrat, .ref qrm, .ref hw, .ref hsh, .ref ht])), (hw, .inr (2, [.ref qrow, .ref qfac, .int (iI (bz ng)), .int (iI (bz go))])), (qrow, .inl (cI, 72, .inl (dg 0))), (ht, .inr (1, [.ref ql, .int (iI ((sz : Nat) : Int)), .int (iI ((ta : Nat) : Int)), .int (iI tc)])), (ql, .inl (cI, 48, .inl (fun j => iI (tx j))))] [(cI, .int)] (fun (z : Int) (u : Nat × Nat) => z = bz (rdN tx sz st (true, ta)).1 ∧ u.1 = (rdN tx sz st (true, ta)).2 ∧ u.2 < 10 ^ 70 ∧ ((rdN tx sz st (true, ta)).1 = true → u.2 = rdBn tx sz (decide (st % 2 = 1)) (rdN0 tx sz st (true, ta)) * 10 ^ (20 - rdBe tx sz (decide (st % 2 = 1)) (rdN0 tx sz st (true, ta))))) (fun u => [(h, .inr (3, [.int (iI ((P : Nat) : Int)), .int (iI ((Sc : Nat) : Int)), .int (iI m), .ref qam, .ref qrat, .ref qrm, .ref hw, .ref hsh, .ref ht])), (hw, .inr (2, [.ref qrow, .ref qfac, .int (iI (bz (rdO tx sz st (true, ta)))), .int (iI (bz go))])), (qrow, .inl (cI, 72, .inl (dg u.2))), (ht, .inr (1, [.ref ql, .int (iI ((sz : Nat) : Int)), .int (iI ((u.1 : Nat) : Int)), .int (iI tc)])), (ql, .inl (cI, 48, .inl (fun j => iI (tx j))))]) := by
  refine enteri (by decide) (Nat.le_of_ble_eq_true rfl) ?_
  intro X O hK hin2 hret
  show TGo X [(h, .inr (3, [.int (iI ((P : Nat) : Int)), .int (iI ((Sc : Nat) : Int)), .int (iI m), .ref qam, .ref qrat, .ref qrm, .ref hw, .ref hsh, .ref ht])), (hw, .inr (2, [.ref qrow, .ref qfac, .int (iI (bz ng)), .int (iI (bz go))])), (qrow, .inl (cI, 72, .inl (dg 0))), (ht, .inr (1, [.ref ql, .int (iI ((sz : Nat) : Int)), .int (iI ((ta : Nat) : Int)), .int (iI tc)])), (ql, .inl (cI, 48, .inl (fun j => iI (tx j))))] 0 0 0 [(0, .ref h), (1, .int (iI st))] []
  have b4 := bz_01 (decide (4 ≤ st))
  have bo := bz_01 (rdO tx sz st (true, ta))
  have hsg : rdSg st = 40 ∨ rdSg st = 45 := by unfold rdSg; split <;> omega
  have b4i : bz (decide (4 ≤ st)) = 0 ↔ ¬ 4 ≤ st := ⟨bzd_z, fun e => by rw [decide_eq_false e]; rfl⟩
  have m12 : TGo X [(h, .inr (3, [.int (iI ((P : Nat) : Int)), .int (iI ((Sc : Nat) : Int)), .int (iI m), .ref qam, .ref qrat, .ref qrm, .ref hw, .ref hsh, .ref ht])), (hw, .inr (2, [.ref qrow, .ref qfac, .int (iI (bz ng)), .int (iI (bz go))])), (qrow, .inl (cI, 72, .inl (dg 0))), (ht, .inr (1, [.ref ql, .int (iI ((sz : Nat) : Int)), .int (iI ((ta : Nat) : Int)), .int (iI tc)])), (ql, .inl (cI, 48, .inl (fun j => iI (tx j))))] 0 0 12 [(0, .ref h), (1, .int (iI st)), (2, .int (iI (bz (decide (4 ≤ st)))))] [] := by
    refine go_aload_n O dX3_readNumber_12 rfl 0 rfl 13 rfl ?_
    refine go_get O hK dX3_readNumber_13 hinX3 0 rfl rfl 6 (by decide) flX3_46 rfl 16 rfl ?_
    refine go_aload_n O dX3_readNumber_16 rfl 0 rfl 17 rfl ?_
    refine go_get O hK dX3_readNumber_17 hinX3 0 rfl rfl 8 (by decide) flX3_56 rfl 20 rfl ?_
    refine go_iload_n O dX3_readNumber_20 rfl 2 rfl 21 rfl ?_
    refine go_if_eq O dX3_readNumber_21 29 (by decide) 24 rfl (by omega) (fun h21 => ?_) (fun h21 => ?_)
    · refine go_bipush O dX3_readNumber_29 (by decide) 31 rfl ?_
      refine TGo.topi (y := rdSg st) (by unfold rdSg; rw [if_neg (by omega)]) ?_
      refine go_calliV (As := [.int (iI (rdSg st))]) (rest := [.ref hw]) (wr := [(h, .inr (3, [.int (iI ((P : Nat) : Int)), .int (iI ((Sc : Nat) : Int)), .int (iI m), .ref qam, .ref qrat, .ref qrm, .ref hw, .ref hsh, .ref ht])), (hw, .inr (2, [.ref qrow, .ref qfac, .int (iI (bz ng)), .int (iI (bz go))])), (qrow, .inl (cI, 72, .inl (dg 0)))]) O hK hE (c_X1_skip E hE ht ql cI tx htx sz ta tc (rdSg st) (by omega) hs (by omega)) mlX3_213 imX1_skip seX1_skip inX1 cdX1_skip 1 (by decide +kernel) ⟨Nat.le_of_ble_eq_true rfl, Nat.le_of_ble_eq_true rfl⟩ 3 rfl rfl [0] rfl [3, 4] rfl (by decide) [0, 1, 2] rfl (by decide) (by decide) rfl rfl (Nat.le_of_ble_eq_true rfl) ⟨Nat.zero_le _, Nat.zero_le _⟩ dX3_readNumber_31 34 rfl (fun z u hu => ?_)
      obtain ⟨a1, rfl⟩ : ∃ y, y = u := ⟨_, rfl⟩
      obtain ⟨zds, rfl⟩ : ∃ y, y = z := ⟨_, rfl⟩
      have ds := hu
      have dsr : 0 ≤ zds ∧ zds ≤ 1 := by rcases ds with e | e <;> omega
      have hzo : zds = bz (rdO tx sz st (true, ta)) ∧ a1 = ta + (rdO tx sz st (true, ta)).toNat := by
        rcases ds with ⟨e1, e2, e3⟩ | ⟨e1, e2, e3⟩
        · rw [rdO_y e2]; exact ⟨e1, e3⟩
        · rw [rdO_n e2]; exact ⟨e1, e3⟩
      show TGo X [(h, .inr (3, [.int (iI ((P : Nat) : Int)), .int (iI ((Sc : Nat) : Int)), .int (iI m), .ref qam, .ref qrat, .ref qrm, .ref hw, .ref hsh, .ref ht])), (hw, .inr (2, [.ref qrow, .ref qfac, .int (iI (bz ng)), .int (iI (bz go))])), (qrow, .inl (cI, 72, .inl (dg 0))), (ht, .inr (1, [.ref ql, .int (iI ((sz : Nat) : Int)), .int (iI ((a1 : Nat) : Int)), .int (iI tc)])), (ql, .inl (cI, 48, .inl (fun j => iI (tx j))))] 0 0 34 [(0, .ref h), (1, .int (iI st)), (2, .int (iI (bz (decide (4 ≤ st)))))] [.int (iI zds), .ref hw]
      obtain ⟨hz1, ha1⟩ := hzo
      subst hz1
      have ha1s : a1 ≤ sz := by rw [ha1]; exact rdN0_le (s := (true, ta)) hta
      refine go_put O hK dX3_readNumber_34 hinX2 tyX2 tyX2_ok nmX2 1 rfl rfl 2 (by decide) flX3_205 rfl rfl (nar_b (bz_01 _)) (fit_b (bz_01 _)) (Nat.le_of_ble_eq_true rfl) [(h, .inr (3, [.int (iI ((P : Nat) : Int)), .int (iI ((Sc : Nat) : Int)), .int (iI m), .ref qam, .ref qrat, .ref qrm, .ref hw, .ref hsh, .ref ht])), (hw, .inr (2, [.ref qrow, .ref qfac, .int (iI (bz (rdO tx sz st (true, ta)))), .int (iI (bz go))])), (qrow, .inl (cI, 72, .inl (dg 0))), (ht, .inr (1, [.ref ql, .int (iI ((sz : Nat) : Int)), .int (iI ((a1 : Nat) : Int)), .int (iI tc)])), (ql, .inl (cI, 48, .inl (fun j => iI (tx j))))] rfl 37 rfl ?_
      refine go_aload_n O dX3_readNumber_37 rfl 0 rfl 38 rfl ?_
      refine go_iload_n O dX3_readNumber_38 rfl 1 rfl 39 rfl ?_
      refine go_iconst O dX3_readNumber_39 40 rfl ?_
      refine go_iand O dX3_readNumber_40 (if st % 2 = 1 then 1 else 0) (and1 hst) 41 rfl ?_
      refine go_if_eq O dX3_readNumber_41 48 (by decide) 44 rfl (by split <;> omega) (fun h41 => ?_) (fun h41 => ?_)
      · refine go_iconst O dX3_readNumber_48 49 rfl ?_
        refine TGo.topi (y := bz (decide (st % 2 = 1))) (by rw [decide_eq_false (by split at h41 <;> omega)]; rfl) ?_
        refine go_calliV (As := [.int (iI (bz (decide (st % 2 = 1))))]) (rest := []) (wr := []) O hK hE (c_X3_readBody E hE h qam qrat qrm hw hsh qrow qfac cM ht ql cI tx htx sz a1 tc P Sc m (rdO tx sz st (true, ta)) go (decide (st % 2 = 1)) hs ha1s) mlX3_219 imX3_readBody seX3_readBody inX3 cdX3_readBody 1 (by decide +kernel) ⟨Nat.le_of_ble_eq_true rfl, Nat.le_of_ble_eq_true rfl⟩ 0 rfl rfl [0] rfl [0, 1, 2, 3, 4] rfl (by decide) [] rfl (by decide) (by decide) rfl rfl (Nat.le_of_ble_eq_true rfl) ⟨Nat.zero_le _, Nat.zero_le _⟩ dX3_readNumber_49 52 rfl (fun z u hu => ?_)
        obtain ⟨b2, W2⟩ := u
        obtain ⟨o2, ho2⟩ : ∃ y, y = (rdB tx sz (decide (st % 2 = 1)) (true, a1)).1 := ⟨_, rfl⟩
        rw [← ho2] at hu
        obtain ⟨rfl, hb2, hW2, hv⟩ := hu
        have hB : (o2, b2) = rdB tx sz (decide (st % 2 = 1)) (true, a1) := by rw [ho2, show b2 = _ from hb2]
        have hBl := rdB_le (tx := tx) (g := (decide (st % 2 = 1))) (s := (true, a1)) ha1s
        rw [← hB] at hBl
        replace hBl : b2 ≤ sz ∧ a1 ≤ b2 := hBl
        show TGo X [(h, .inr (3, [.int (iI ((P : Nat) : Int)), .int (iI ((Sc : Nat) : Int)), .int (iI m), .ref qam, .ref qrat, .ref qrm, .ref hw, .ref hsh, .ref ht])), (hw, .inr (2, [.ref qrow, .ref qfac, .int (iI (bz (rdO tx sz st (true, ta)))), .int (iI (bz go))])), (qrow, .inl (cI, 72, .inl (dg W2))), (ht, .inr (1, [.ref ql, .int (iI ((sz : Nat) : Int)), .int (iI ((b2 : Nat) : Int)), .int (iI tc)])), (ql, .inl (cI, 48, .inl (fun j => iI (tx j))))] 0 0 52 [(0, .ref h), (1, .int (iI st)), (2, .int (iI (bz (decide (4 ≤ st)))))] [.int (iI (bz o2))]
        refine go_if_ne O dX3_readNumber_52 57 (by decide) 55 rfl (bz_r _) (fun h52 => ?_) (fun h52 => ?_)
        · have eo : o2 = true := bz_ne h52
          subst eo
          refine go_iload_n O dX3_readNumber_57 rfl 2 rfl 58 rfl ?_
          refine go_if_eq O dX3_readNumber_58 83 (by decide) 61 rfl (by omega) (fun h58 => ?_) (fun h58 => ?_)
          · refine go_iconst O dX3_readNumber_83 84 rfl ?_
            refine go_goto O dX3_readNumber_84 88 (by decide) ?_
            have hR : rdN tx sz st (true, ta) = (true, b2) := by rw [rdN_n (fun e => by omega), ← ha1]; exact hB.symm
            exact hret _ _ _ (b2, W2) dX3_readNumber_88 rfl ⟨by rw [hR]; rfl, by rw [hR], hW2, fun _ => by rw [rdN0_e, ← ha1]; exact hv rfl⟩
          · refine go_aload_n O dX3_readNumber_61 rfl 0 rfl 62 rfl ?_
            refine go_get O hK dX3_readNumber_62 hinX3 0 rfl rfl 6 (by decide) flX3_46 rfl 65 rfl ?_
            refine go_get O hK dX3_readNumber_65 hinX2 1 rfl rfl 2 (by decide) flX3_205 rfl 68 rfl ?_
            refine go_if_eq O dX3_readNumber_68 83 (by decide) 71 rfl (by omega) (fun h68 => ?_) (fun h68 => ?_)
            · refine go_iconst O dX3_readNumber_83 84 rfl ?_
              refine go_goto O dX3_readNumber_84 88 (by decide) ?_
              have hR : rdN tx sz st (true, ta) = (true, b2) := by rw [rdN_n (fun e => by rw [e.1] at h68; cases h68), ← ha1]; exact hB.symm
              exact hret _ _ _ (b2, W2) dX3_readNumber_88 rfl ⟨by rw [hR]; rfl, by rw [hR], hW2, fun _ => by rw [rdN0_e, ← ha1]; exact hv rfl⟩
            · refine go_aload_n O dX3_readNumber_71 rfl 0 rfl 72 rfl ?_
              refine go_get O hK dX3_readNumber_72 hinX3 0 rfl rfl 8 (by decide) flX3_56 rfl 75 rfl ?_
              refine go_bipush O dX3_readNumber_75 (by decide) 77 rfl ?_
              refine go_calliV (As := [.int (iI 41)]) (rest := []) (wr := [(h, .inr (3, [.int (iI ((P : Nat) : Int)), .int (iI ((Sc : Nat) : Int)), .int (iI m), .ref qam, .ref qrat, .ref qrm, .ref hw, .ref hsh, .ref ht])), (hw, .inr (2, [.ref qrow, .ref qfac, .int (iI (bz (rdO tx sz st (true, ta)))), .int (iI (bz go))])), (qrow, .inl (cI, 72, .inl (dg W2)))]) O hK hE (c_X1_skip E hE ht ql cI tx htx sz b2 tc 41 (by omega) hs (by omega)) mlX3_213 imX1_skip seX1_skip inX1 cdX1_skip 1 (by decide +kernel) ⟨Nat.le_of_ble_eq_true rfl, Nat.le_of_ble_eq_true rfl⟩ 3 rfl rfl [0] rfl [3, 4] rfl (by decide) [0, 1, 2] rfl (by decide) (by decide) rfl rfl (Nat.le_of_ble_eq_true rfl) ⟨Nat.zero_le _, Nat.zero_le _⟩ dX3_readNumber_77 80 rfl (fun z u hu => ?_)
              obtain ⟨b3, rfl⟩ : ∃ y, y = u := ⟨_, rfl⟩
              obtain ⟨zds, rfl⟩ : ∃ y, y = z := ⟨_, rfl⟩
              have ds := hu
              have dsr : 0 ≤ zds ∧ zds ≤ 1 := by rcases ds with e | e <;> omega
              show TGo X [(h, .inr (3, [.int (iI ((P : Nat) : Int)), .int (iI ((Sc : Nat) : Int)), .int (iI m), .ref qam, .ref qrat, .ref qrm, .ref hw, .ref hsh, .ref ht])), (hw, .inr (2, [.ref qrow, .ref qfac, .int (iI (bz (rdO tx sz st (true, ta)))), .int (iI (bz go))])), (qrow, .inl (cI, 72, .inl (dg W2))), (ht, .inr (1, [.ref ql, .int (iI ((sz : Nat) : Int)), .int (iI ((b3 : Nat) : Int)), .int (iI tc)])), (ql, .inl (cI, 48, .inl (fun j => iI (tx j))))] 0 0 80 [(0, .ref h), (1, .int (iI st)), (2, .int (iI (bz (decide (4 ≤ st)))))] [.int (iI zds)]
              refine go_if_eq O dX3_readNumber_80 87 (by decide) 83 rfl (by omega) (fun h80 => ?_) (fun h80 => ?_)
              · refine go_iconst O dX3_readNumber_87 88 rfl ?_
                obtain ⟨_, hc1, hc2⟩ := ds.resolve_left (fun e => by omega)
                have hR : rdN tx sz st (true, ta) = (false, b2) := by rw [rdN_y ⟨bz_ne h68, by omega⟩, ← ha1, ← hB]; exact rdE_0 hc1
                exact hret _ _ _ (b3, W2) dX3_readNumber_88 rfl ⟨by rw [hR]; rfl, by rw [hR]; exact hc2, hW2, fun e => by simp [hR] at e⟩
              · refine go_iconst O dX3_readNumber_83 84 rfl ?_
                refine go_goto O dX3_readNumber_84 88 (by decide) ?_
                obtain ⟨_, hc1, hc2⟩ := ds.resolve_right (fun e => by omega)
                have hR : rdN tx sz st (true, ta) = (true, b2 + 1) := by rw [rdN_y ⟨bz_ne h68, by omega⟩, ← ha1, ← hB]; exact rdE_1 hc1
                exact hret _ _ _ (b3, W2) dX3_readNumber_88 rfl ⟨by rw [hR]; rfl, by rw [hR]; exact hc2, hW2, fun _ => by rw [rdN0_e, ← ha1]; exact hv rfl⟩
        · refine go_iconst O dX3_readNumber_55 56 rfl ?_
          have eo : o2 = false := bz_0.mp h52
          subst eo
          have hR : rdN tx sz st (true, ta) = (false, b2) := rdN_bad (by rw [← ha1]; exact hB.symm)
          exact hret _ _ _ (b2, W2) dX3_readNumber_56 rfl ⟨by rw [hR]; rfl, by rw [hR], hW2, fun e => by simp [hR] at e⟩
      · refine go_iconst O dX3_readNumber_44 45 rfl ?_
        refine go_goto O dX3_readNumber_45 49 (by decide) ?_
        refine TGo.topi (y := bz (decide (st % 2 = 1))) (by rw [decide_eq_true (by split at h41 <;> omega)]; rfl) ?_
        refine go_calliV (As := [.int (iI (bz (decide (st % 2 = 1))))]) (rest := []) (wr := []) O hK hE (c_X3_readBody E hE h qam qrat qrm hw hsh qrow qfac cM ht ql cI tx htx sz a1 tc P Sc m (rdO tx sz st (true, ta)) go (decide (st % 2 = 1)) hs ha1s) mlX3_219 imX3_readBody seX3_readBody inX3 cdX3_readBody 1 (by decide +kernel) ⟨Nat.le_of_ble_eq_true rfl, Nat.le_of_ble_eq_true rfl⟩ 0 rfl rfl [0] rfl [0, 1, 2, 3, 4] rfl (by decide) [] rfl (by decide) (by decide) rfl rfl (Nat.le_of_ble_eq_true rfl) ⟨Nat.zero_le _, Nat.zero_le _⟩ dX3_readNumber_49 52 rfl (fun z u hu => ?_)
        obtain ⟨b2, W2⟩ := u
        obtain ⟨o2, ho2⟩ : ∃ y, y = (rdB tx sz (decide (st % 2 = 1)) (true, a1)).1 := ⟨_, rfl⟩
        rw [← ho2] at hu
        obtain ⟨rfl, hb2, hW2, hv⟩ := hu
        have hB : (o2, b2) = rdB tx sz (decide (st % 2 = 1)) (true, a1) := by rw [ho2, show b2 = _ from hb2]
        have hBl := rdB_le (tx := tx) (g := (decide (st % 2 = 1))) (s := (true, a1)) ha1s
        rw [← hB] at hBl
        replace hBl : b2 ≤ sz ∧ a1 ≤ b2 := hBl
        show TGo X [(h, .inr (3, [.int (iI ((P : Nat) : Int)), .int (iI ((Sc : Nat) : Int)), .int (iI m), .ref qam, .ref qrat, .ref qrm, .ref hw, .ref hsh, .ref ht])), (hw, .inr (2, [.ref qrow, .ref qfac, .int (iI (bz (rdO tx sz st (true, ta)))), .int (iI (bz go))])), (qrow, .inl (cI, 72, .inl (dg W2))), (ht, .inr (1, [.ref ql, .int (iI ((sz : Nat) : Int)), .int (iI ((b2 : Nat) : Int)), .int (iI tc)])), (ql, .inl (cI, 48, .inl (fun j => iI (tx j))))] 0 0 52 [(0, .ref h), (1, .int (iI st)), (2, .int (iI (bz (decide (4 ≤ st)))))] [.int (iI (bz o2))]
        refine go_if_ne O dX3_readNumber_52 57 (by decide) 55 rfl (bz_r _) (fun h52 => ?_) (fun h52 => ?_)
        · have eo : o2 = true := bz_ne h52
          subst eo
          refine go_iload_n O dX3_readNumber_57 rfl 2 rfl 58 rfl ?_
          refine go_if_eq O dX3_readNumber_58 83 (by decide) 61 rfl (by omega) (fun h58 => ?_) (fun h58 => ?_)
          · refine go_iconst O dX3_readNumber_83 84 rfl ?_
            refine go_goto O dX3_readNumber_84 88 (by decide) ?_
            have hR : rdN tx sz st (true, ta) = (true, b2) := by rw [rdN_n (fun e => by omega), ← ha1]; exact hB.symm
            exact hret _ _ _ (b2, W2) dX3_readNumber_88 rfl ⟨by rw [hR]; rfl, by rw [hR], hW2, fun _ => by rw [rdN0_e, ← ha1]; exact hv rfl⟩
          · refine go_aload_n O dX3_readNumber_61 rfl 0 rfl 62 rfl ?_
            refine go_get O hK dX3_readNumber_62 hinX3 0 rfl rfl 6 (by decide) flX3_46 rfl 65 rfl ?_
            refine go_get O hK dX3_readNumber_65 hinX2 1 rfl rfl 2 (by decide) flX3_205 rfl 68 rfl ?_
            refine go_if_eq O dX3_readNumber_68 83 (by decide) 71 rfl (by omega) (fun h68 => ?_) (fun h68 => ?_)
            · refine go_iconst O dX3_readNumber_83 84 rfl ?_
              refine go_goto O dX3_readNumber_84 88 (by decide) ?_
              have hR : rdN tx sz st (true, ta) = (true, b2) := by rw [rdN_n (fun e => by rw [e.1] at h68; cases h68), ← ha1]; exact hB.symm
              exact hret _ _ _ (b2, W2) dX3_readNumber_88 rfl ⟨by rw [hR]; rfl, by rw [hR], hW2, fun _ => by rw [rdN0_e, ← ha1]; exact hv rfl⟩
            · refine go_aload_n O dX3_readNumber_71 rfl 0 rfl 72 rfl ?_
              refine go_get O hK dX3_readNumber_72 hinX3 0 rfl rfl 8 (by decide) flX3_56 rfl 75 rfl ?_
              refine go_bipush O dX3_readNumber_75 (by decide) 77 rfl ?_
              refine go_calliV (As := [.int (iI 41)]) (rest := []) (wr := [(h, .inr (3, [.int (iI ((P : Nat) : Int)), .int (iI ((Sc : Nat) : Int)), .int (iI m), .ref qam, .ref qrat, .ref qrm, .ref hw, .ref hsh, .ref ht])), (hw, .inr (2, [.ref qrow, .ref qfac, .int (iI (bz (rdO tx sz st (true, ta)))), .int (iI (bz go))])), (qrow, .inl (cI, 72, .inl (dg W2)))]) O hK hE (c_X1_skip E hE ht ql cI tx htx sz b2 tc 41 (by omega) hs (by omega)) mlX3_213 imX1_skip seX1_skip inX1 cdX1_skip 1 (by decide +kernel) ⟨Nat.le_of_ble_eq_true rfl, Nat.le_of_ble_eq_true rfl⟩ 3 rfl rfl [0] rfl [3, 4] rfl (by decide) [0, 1, 2] rfl (by decide) (by decide) rfl rfl (Nat.le_of_ble_eq_true rfl) ⟨Nat.zero_le _, Nat.zero_le _⟩ dX3_readNumber_77 80 rfl (fun z u hu => ?_)
              obtain ⟨b3, rfl⟩ : ∃ y, y = u := ⟨_, rfl⟩
              obtain ⟨zds, rfl⟩ : ∃ y, y = z := ⟨_, rfl⟩
              have ds := hu
              have dsr : 0 ≤ zds ∧ zds ≤ 1 := by rcases ds with e | e <;> omega
              show TGo X [(h, .inr (3, [.int (iI ((P : Nat) : Int)), .int (iI ((Sc : Nat) : Int)), .int (iI m), .ref qam, .ref qrat, .ref qrm, .ref hw, .ref hsh, .ref ht])), (hw, .inr (2, [.ref qrow, .ref qfac, .int (iI (bz (rdO tx sz st (true, ta)))), .int (iI (bz go))])), (qrow, .inl (cI, 72, .inl (dg W2))), (ht, .inr (1, [.ref ql, .int (iI ((sz : Nat) : Int)), .int (iI ((b3 : Nat) : Int)), .int (iI tc)])), (ql, .inl (cI, 48, .inl (fun j => iI (tx j))))] 0 0 80 [(0, .ref h), (1, .int (iI st)), (2, .int (iI (bz (decide (4 ≤ st)))))] [.int (iI zds)]
              refine go_if_eq O dX3_readNumber_80 87 (by decide) 83 rfl (by omega) (fun h80 => ?_) (fun h80 => ?_)
              · refine go_iconst O dX3_readNumber_87 88 rfl ?_
                obtain ⟨_, hc1, hc2⟩ := ds.resolve_left (fun e => by omega)
                have hR : rdN tx sz st (true, ta) = (false, b2) := by rw [rdN_y ⟨bz_ne h68, by omega⟩, ← ha1, ← hB]; exact rdE_0 hc1
                exact hret _ _ _ (b3, W2) dX3_readNumber_88 rfl ⟨by rw [hR]; rfl, by rw [hR]; exact hc2, hW2, fun e => by simp [hR] at e⟩
              · refine go_iconst O dX3_readNumber_83 84 rfl ?_
                refine go_goto O dX3_readNumber_84 88 (by decide) ?_
                obtain ⟨_, hc1, hc2⟩ := ds.resolve_right (fun e => by omega)
                have hR : rdN tx sz st (true, ta) = (true, b2 + 1) := by rw [rdN_y ⟨bz_ne h68, by omega⟩, ← ha1, ← hB]; exact rdE_1 hc1
                exact hret _ _ _ (b3, W2) dX3_readNumber_88 rfl ⟨by rw [hR]; rfl, by rw [hR]; exact hc2, hW2, fun _ => by rw [rdN0_e, ← ha1]; exact hv rfl⟩
        · refine go_iconst O dX3_readNumber_55 56 rfl ?_
          have eo : o2 = false := bz_0.mp h52
          subst eo
          have hR : rdN tx sz st (true, ta) = (false, b2) := rdN_bad (by rw [← ha1]; exact hB.symm)
          exact hret _ _ _ (b2, W2) dX3_readNumber_56 rfl ⟨by rw [hR]; rfl, by rw [hR], hW2, fun e => by simp [hR] at e⟩
    · refine go_bipush O dX3_readNumber_24 (by decide) 26 rfl ?_
      refine go_goto O dX3_readNumber_26 31 (by decide) ?_
      refine TGo.topi (y := rdSg st) (by unfold rdSg; rw [if_pos (by omega)]) ?_
      refine go_calliV (As := [.int (iI (rdSg st))]) (rest := [.ref hw]) (wr := [(h, .inr (3, [.int (iI ((P : Nat) : Int)), .int (iI ((Sc : Nat) : Int)), .int (iI m), .ref qam, .ref qrat, .ref qrm, .ref hw, .ref hsh, .ref ht])), (hw, .inr (2, [.ref qrow, .ref qfac, .int (iI (bz ng)), .int (iI (bz go))])), (qrow, .inl (cI, 72, .inl (dg 0)))]) O hK hE (c_X1_skip E hE ht ql cI tx htx sz ta tc (rdSg st) (by omega) hs (by omega)) mlX3_213 imX1_skip seX1_skip inX1 cdX1_skip 1 (by decide +kernel) ⟨Nat.le_of_ble_eq_true rfl, Nat.le_of_ble_eq_true rfl⟩ 3 rfl rfl [0] rfl [3, 4] rfl (by decide) [0, 1, 2] rfl (by decide) (by decide) rfl rfl (Nat.le_of_ble_eq_true rfl) ⟨Nat.zero_le _, Nat.zero_le _⟩ dX3_readNumber_31 34 rfl (fun z u hu => ?_)
      obtain ⟨a1, rfl⟩ : ∃ y, y = u := ⟨_, rfl⟩
      obtain ⟨zds, rfl⟩ : ∃ y, y = z := ⟨_, rfl⟩
      have ds := hu
      have dsr : 0 ≤ zds ∧ zds ≤ 1 := by rcases ds with e | e <;> omega
      have hzo : zds = bz (rdO tx sz st (true, ta)) ∧ a1 = ta + (rdO tx sz st (true, ta)).toNat := by
        rcases ds with ⟨e1, e2, e3⟩ | ⟨e1, e2, e3⟩
        · rw [rdO_y e2]; exact ⟨e1, e3⟩
        · rw [rdO_n e2]; exact ⟨e1, e3⟩
      show TGo X [(h, .inr (3, [.int (iI ((P : Nat) : Int)), .int (iI ((Sc : Nat) : Int)), .int (iI m), .ref qam, .ref qrat, .ref qrm, .ref hw, .ref hsh, .ref ht])), (hw, .inr (2, [.ref qrow, .ref qfac, .int (iI (bz ng)), .int (iI (bz go))])), (qrow, .inl (cI, 72, .inl (dg 0))), (ht, .inr (1, [.ref ql, .int (iI ((sz : Nat) : Int)), .int (iI ((a1 : Nat) : Int)), .int (iI tc)])), (ql, .inl (cI, 48, .inl (fun j => iI (tx j))))] 0 0 34 [(0, .ref h), (1, .int (iI st)), (2, .int (iI (bz (decide (4 ≤ st)))))] [.int (iI zds), .ref hw]
      obtain ⟨hz1, ha1⟩ := hzo
      subst hz1
      have ha1s : a1 ≤ sz := by rw [ha1]; exact rdN0_le (s := (true, ta)) hta
      refine go_put O hK dX3_readNumber_34 hinX2 tyX2 tyX2_ok nmX2 1 rfl rfl 2 (by decide) flX3_205 rfl rfl (nar_b (bz_01 _)) (fit_b (bz_01 _)) (Nat.le_of_ble_eq_true rfl) [(h, .inr (3, [.int (iI ((P : Nat) : Int)), .int (iI ((Sc : Nat) : Int)), .int (iI m), .ref qam, .ref qrat, .ref qrm, .ref hw, .ref hsh, .ref ht])), (hw, .inr (2, [.ref qrow, .ref qfac, .int (iI (bz (rdO tx sz st (true, ta)))), .int (iI (bz go))])), (qrow, .inl (cI, 72, .inl (dg 0))), (ht, .inr (1, [.ref ql, .int (iI ((sz : Nat) : Int)), .int (iI ((a1 : Nat) : Int)), .int (iI tc)])), (ql, .inl (cI, 48, .inl (fun j => iI (tx j))))] rfl 37 rfl ?_
      refine go_aload_n O dX3_readNumber_37 rfl 0 rfl 38 rfl ?_
      refine go_iload_n O dX3_readNumber_38 rfl 1 rfl 39 rfl ?_
      refine go_iconst O dX3_readNumber_39 40 rfl ?_
      refine go_iand O dX3_readNumber_40 (if st % 2 = 1 then 1 else 0) (and1 hst) 41 rfl ?_
      refine go_if_eq O dX3_readNumber_41 48 (by decide) 44 rfl (by split <;> omega) (fun h41 => ?_) (fun h41 => ?_)
      · refine go_iconst O dX3_readNumber_48 49 rfl ?_
        refine TGo.topi (y := bz (decide (st % 2 = 1))) (by rw [decide_eq_false (by split at h41 <;> omega)]; rfl) ?_
        refine go_calliV (As := [.int (iI (bz (decide (st % 2 = 1))))]) (rest := []) (wr := []) O hK hE (c_X3_readBody E hE h qam qrat qrm hw hsh qrow qfac cM ht ql cI tx htx sz a1 tc P Sc m (rdO tx sz st (true, ta)) go (decide (st % 2 = 1)) hs ha1s) mlX3_219 imX3_readBody seX3_readBody inX3 cdX3_readBody 1 (by decide +kernel) ⟨Nat.le_of_ble_eq_true rfl, Nat.le_of_ble_eq_true rfl⟩ 0 rfl rfl [0] rfl [0, 1, 2, 3, 4] rfl (by decide) [] rfl (by decide) (by decide) rfl rfl (Nat.le_of_ble_eq_true rfl) ⟨Nat.zero_le _, Nat.zero_le _⟩ dX3_readNumber_49 52 rfl (fun z u hu => ?_)
        obtain ⟨b2, W2⟩ := u
        obtain ⟨o2, ho2⟩ : ∃ y, y = (rdB tx sz (decide (st % 2 = 1)) (true, a1)).1 := ⟨_, rfl⟩
        rw [← ho2] at hu
        obtain ⟨rfl, hb2, hW2, hv⟩ := hu
        have hB : (o2, b2) = rdB tx sz (decide (st % 2 = 1)) (true, a1) := by rw [ho2, show b2 = _ from hb2]
        have hBl := rdB_le (tx := tx) (g := (decide (st % 2 = 1))) (s := (true, a1)) ha1s
        rw [← hB] at hBl
        replace hBl : b2 ≤ sz ∧ a1 ≤ b2 := hBl
        show TGo X [(h, .inr (3, [.int (iI ((P : Nat) : Int)), .int (iI ((Sc : Nat) : Int)), .int (iI m), .ref qam, .ref qrat, .ref qrm, .ref hw, .ref hsh, .ref ht])), (hw, .inr (2, [.ref qrow, .ref qfac, .int (iI (bz (rdO tx sz st (true, ta)))), .int (iI (bz go))])), (qrow, .inl (cI, 72, .inl (dg W2))), (ht, .inr (1, [.ref ql, .int (iI ((sz : Nat) : Int)), .int (iI ((b2 : Nat) : Int)), .int (iI tc)])), (ql, .inl (cI, 48, .inl (fun j => iI (tx j))))] 0 0 52 [(0, .ref h), (1, .int (iI st)), (2, .int (iI (bz (decide (4 ≤ st)))))] [.int (iI (bz o2))]
        refine go_if_ne O dX3_readNumber_52 57 (by decide) 55 rfl (bz_r _) (fun h52 => ?_) (fun h52 => ?_)
        · have eo : o2 = true := bz_ne h52
          subst eo
          refine go_iload_n O dX3_readNumber_57 rfl 2 rfl 58 rfl ?_
          refine go_if_eq O dX3_readNumber_58 83 (by decide) 61 rfl (by omega) (fun h58 => ?_) (fun h58 => ?_)
          · refine go_iconst O dX3_readNumber_83 84 rfl ?_
            refine go_goto O dX3_readNumber_84 88 (by decide) ?_
            have hR : rdN tx sz st (true, ta) = (true, b2) := by rw [rdN_n (fun e => by omega), ← ha1]; exact hB.symm
            exact hret _ _ _ (b2, W2) dX3_readNumber_88 rfl ⟨by rw [hR]; rfl, by rw [hR], hW2, fun _ => by rw [rdN0_e, ← ha1]; exact hv rfl⟩
          · refine go_aload_n O dX3_readNumber_61 rfl 0 rfl 62 rfl ?_
            refine go_get O hK dX3_readNumber_62 hinX3 0 rfl rfl 6 (by decide) flX3_46 rfl 65 rfl ?_
            refine go_get O hK dX3_readNumber_65 hinX2 1 rfl rfl 2 (by decide) flX3_205 rfl 68 rfl ?_
            refine go_if_eq O dX3_readNumber_68 83 (by decide) 71 rfl (by omega) (fun h68 => ?_) (fun h68 => ?_)
            · refine go_iconst O dX3_readNumber_83 84 rfl ?_
              refine go_goto O dX3_readNumber_84 88 (by decide) ?_
              have hR : rdN tx sz st (true, ta) = (true, b2) := by rw [rdN_n (fun e => by rw [e.1] at h68; cases h68), ← ha1]; exact hB.symm
              exact hret _ _ _ (b2, W2) dX3_readNumber_88 rfl ⟨by rw [hR]; rfl, by rw [hR], hW2, fun _ => by rw [rdN0_e, ← ha1]; exact hv rfl⟩
            · refine go_aload_n O dX3_readNumber_71 rfl 0 rfl 72 rfl ?_
              refine go_get O hK dX3_readNumber_72 hinX3 0 rfl rfl 8 (by decide) flX3_56 rfl 75 rfl ?_
              refine go_bipush O dX3_readNumber_75 (by decide) 77 rfl ?_
              refine go_calliV (As := [.int (iI 41)]) (rest := []) (wr := [(h, .inr (3, [.int (iI ((P : Nat) : Int)), .int (iI ((Sc : Nat) : Int)), .int (iI m), .ref qam, .ref qrat, .ref qrm, .ref hw, .ref hsh, .ref ht])), (hw, .inr (2, [.ref qrow, .ref qfac, .int (iI (bz (rdO tx sz st (true, ta)))), .int (iI (bz go))])), (qrow, .inl (cI, 72, .inl (dg W2)))]) O hK hE (c_X1_skip E hE ht ql cI tx htx sz b2 tc 41 (by omega) hs (by omega)) mlX3_213 imX1_skip seX1_skip inX1 cdX1_skip 1 (by decide +kernel) ⟨Nat.le_of_ble_eq_true rfl, Nat.le_of_ble_eq_true rfl⟩ 3 rfl rfl [0] rfl [3, 4] rfl (by decide) [0, 1, 2] rfl (by decide) (by decide) rfl rfl (Nat.le_of_ble_eq_true rfl) ⟨Nat.zero_le _, Nat.zero_le _⟩ dX3_readNumber_77 80 rfl (fun z u hu => ?_)
              obtain ⟨b3, rfl⟩ : ∃ y, y = u := ⟨_, rfl⟩
              obtain ⟨zds, rfl⟩ : ∃ y, y = z := ⟨_, rfl⟩
              have ds := hu
              have dsr : 0 ≤ zds ∧ zds ≤ 1 := by rcases ds with e | e <;> omega
              show TGo X [(h, .inr (3, [.int (iI ((P : Nat) : Int)), .int (iI ((Sc : Nat) : Int)), .int (iI m), .ref qam, .ref qrat, .ref qrm, .ref hw, .ref hsh, .ref ht])), (hw, .inr (2, [.ref qrow, .ref qfac, .int (iI (bz (rdO tx sz st (true, ta)))), .int (iI (bz go))])), (qrow, .inl (cI, 72, .inl (dg W2))), (ht, .inr (1, [.ref ql, .int (iI ((sz : Nat) : Int)), .int (iI ((b3 : Nat) : Int)), .int (iI tc)])), (ql, .inl (cI, 48, .inl (fun j => iI (tx j))))] 0 0 80 [(0, .ref h), (1, .int (iI st)), (2, .int (iI (bz (decide (4 ≤ st)))))] [.int (iI zds)]
              refine go_if_eq O dX3_readNumber_80 87 (by decide) 83 rfl (by omega) (fun h80 => ?_) (fun h80 => ?_)
              · refine go_iconst O dX3_readNumber_87 88 rfl ?_
                obtain ⟨_, hc1, hc2⟩ := ds.resolve_left (fun e => by omega)
                have hR : rdN tx sz st (true, ta) = (false, b2) := by rw [rdN_y ⟨bz_ne h68, by omega⟩, ← ha1, ← hB]; exact rdE_0 hc1
                exact hret _ _ _ (b3, W2) dX3_readNumber_88 rfl ⟨by rw [hR]; rfl, by rw [hR]; exact hc2, hW2, fun e => by simp [hR] at e⟩
              · refine go_iconst O dX3_readNumber_83 84 rfl ?_
                refine go_goto O dX3_readNumber_84 88 (by decide) ?_
                obtain ⟨_, hc1, hc2⟩ := ds.resolve_right (fun e => by omega)
                have hR : rdN tx sz st (true, ta) = (true, b2 + 1) := by rw [rdN_y ⟨bz_ne h68, by omega⟩, ← ha1, ← hB]; exact rdE_1 hc1
                exact hret _ _ _ (b3, W2) dX3_readNumber_88 rfl ⟨by rw [hR]; rfl, by rw [hR]; exact hc2, hW2, fun _ => by rw [rdN0_e, ← ha1]; exact hv rfl⟩
        · refine go_iconst O dX3_readNumber_55 56 rfl ?_
          have eo : o2 = false := bz_0.mp h52
          subst eo
          have hR : rdN tx sz st (true, ta) = (false, b2) := rdN_bad (by rw [← ha1]; exact hB.symm)
          exact hret _ _ _ (b2, W2) dX3_readNumber_56 rfl ⟨by rw [hR]; rfl, by rw [hR], hW2, fun e => by simp [hR] at e⟩
      · refine go_iconst O dX3_readNumber_44 45 rfl ?_
        refine go_goto O dX3_readNumber_45 49 (by decide) ?_
        refine TGo.topi (y := bz (decide (st % 2 = 1))) (by rw [decide_eq_true (by split at h41 <;> omega)]; rfl) ?_
        refine go_calliV (As := [.int (iI (bz (decide (st % 2 = 1))))]) (rest := []) (wr := []) O hK hE (c_X3_readBody E hE h qam qrat qrm hw hsh qrow qfac cM ht ql cI tx htx sz a1 tc P Sc m (rdO tx sz st (true, ta)) go (decide (st % 2 = 1)) hs ha1s) mlX3_219 imX3_readBody seX3_readBody inX3 cdX3_readBody 1 (by decide +kernel) ⟨Nat.le_of_ble_eq_true rfl, Nat.le_of_ble_eq_true rfl⟩ 0 rfl rfl [0] rfl [0, 1, 2, 3, 4] rfl (by decide) [] rfl (by decide) (by decide) rfl rfl (Nat.le_of_ble_eq_true rfl) ⟨Nat.zero_le _, Nat.zero_le _⟩ dX3_readNumber_49 52 rfl (fun z u hu => ?_)
        obtain ⟨b2, W2⟩ := u
        obtain ⟨o2, ho2⟩ : ∃ y, y = (rdB tx sz (decide (st % 2 = 1)) (true, a1)).1 := ⟨_, rfl⟩
        rw [← ho2] at hu
        obtain ⟨rfl, hb2, hW2, hv⟩ := hu
        have hB : (o2, b2) = rdB tx sz (decide (st % 2 = 1)) (true, a1) := by rw [ho2, show b2 = _ from hb2]
        have hBl := rdB_le (tx := tx) (g := (decide (st % 2 = 1))) (s := (true, a1)) ha1s
        rw [← hB] at hBl
        replace hBl : b2 ≤ sz ∧ a1 ≤ b2 := hBl
        show TGo X [(h, .inr (3, [.int (iI ((P : Nat) : Int)), .int (iI ((Sc : Nat) : Int)), .int (iI m), .ref qam, .ref qrat, .ref qrm, .ref hw, .ref hsh, .ref ht])), (hw, .inr (2, [.ref qrow, .ref qfac, .int (iI (bz (rdO tx sz st (true, ta)))), .int (iI (bz go))])), (qrow, .inl (cI, 72, .inl (dg W2))), (ht, .inr (1, [.ref ql, .int (iI ((sz : Nat) : Int)), .int (iI ((b2 : Nat) : Int)), .int (iI tc)])), (ql, .inl (cI, 48, .inl (fun j => iI (tx j))))] 0 0 52 [(0, .ref h), (1, .int (iI st)), (2, .int (iI (bz (decide (4 ≤ st)))))] [.int (iI (bz o2))]
        refine go_if_ne O dX3_readNumber_52 57 (by decide) 55 rfl (bz_r _) (fun h52 => ?_) (fun h52 => ?_)
        · have eo : o2 = true := bz_ne h52
          subst eo
          refine go_iload_n O dX3_readNumber_57 rfl 2 rfl 58 rfl ?_
          refine go_if_eq O dX3_readNumber_58 83 (by decide) 61 rfl (by omega) (fun h58 => ?_) (fun h58 => ?_)
          · refine go_iconst O dX3_readNumber_83 84 rfl ?_
            refine go_goto O dX3_readNumber_84 88 (by decide) ?_
            have hR : rdN tx sz st (true, ta) = (true, b2) := by rw [rdN_n (fun e => by omega), ← ha1]; exact hB.symm
            exact hret _ _ _ (b2, W2) dX3_readNumber_88 rfl ⟨by rw [hR]; rfl, by rw [hR], hW2, fun _ => by rw [rdN0_e, ← ha1]; exact hv rfl⟩
          · refine go_aload_n O dX3_readNumber_61 rfl 0 rfl 62 rfl ?_
            refine go_get O hK dX3_readNumber_62 hinX3 0 rfl rfl 6 (by decide) flX3_46 rfl 65 rfl ?_
            refine go_get O hK dX3_readNumber_65 hinX2 1 rfl rfl 2 (by decide) flX3_205 rfl 68 rfl ?_
            refine go_if_eq O dX3_readNumber_68 83 (by decide) 71 rfl (by omega) (fun h68 => ?_) (fun h68 => ?_)
            · refine go_iconst O dX3_readNumber_83 84 rfl ?_
              refine go_goto O dX3_readNumber_84 88 (by decide) ?_
              have hR : rdN tx sz st (true, ta) = (true, b2) := by rw [rdN_n (fun e => by rw [e.1] at h68; cases h68), ← ha1]; exact hB.symm
              exact hret _ _ _ (b2, W2) dX3_readNumber_88 rfl ⟨by rw [hR]; rfl, by rw [hR], hW2, fun _ => by rw [rdN0_e, ← ha1]; exact hv rfl⟩
            · refine go_aload_n O dX3_readNumber_71 rfl 0 rfl 72 rfl ?_
              refine go_get O hK dX3_readNumber_72 hinX3 0 rfl rfl 8 (by decide) flX3_56 rfl 75 rfl ?_
              refine go_bipush O dX3_readNumber_75 (by decide) 77 rfl ?_
              refine go_calliV (As := [.int (iI 41)]) (rest := []) (wr := [(h, .inr (3, [.int (iI ((P : Nat) : Int)), .int (iI ((Sc : Nat) : Int)), .int (iI m), .ref qam, .ref qrat, .ref qrm, .ref hw, .ref hsh, .ref ht])), (hw, .inr (2, [.ref qrow, .ref qfac, .int (iI (bz (rdO tx sz st (true, ta)))), .int (iI (bz go))])), (qrow, .inl (cI, 72, .inl (dg W2)))]) O hK hE (c_X1_skip E hE ht ql cI tx htx sz b2 tc 41 (by omega) hs (by omega)) mlX3_213 imX1_skip seX1_skip inX1 cdX1_skip 1 (by decide +kernel) ⟨Nat.le_of_ble_eq_true rfl, Nat.le_of_ble_eq_true rfl⟩ 3 rfl rfl [0] rfl [3, 4] rfl (by decide) [0, 1, 2] rfl (by decide) (by decide) rfl rfl (Nat.le_of_ble_eq_true rfl) ⟨Nat.zero_le _, Nat.zero_le _⟩ dX3_readNumber_77 80 rfl (fun z u hu => ?_)
              obtain ⟨b3, rfl⟩ : ∃ y, y = u := ⟨_, rfl⟩
              obtain ⟨zds, rfl⟩ : ∃ y, y = z := ⟨_, rfl⟩
              have ds := hu
              have dsr : 0 ≤ zds ∧ zds ≤ 1 := by rcases ds with e | e <;> omega
              show TGo X [(h, .inr (3, [.int (iI ((P : Nat) : Int)), .int (iI ((Sc : Nat) : Int)), .int (iI m), .ref qam, .ref qrat, .ref qrm, .ref hw, .ref hsh, .ref ht])), (hw, .inr (2, [.ref qrow, .ref qfac, .int (iI (bz (rdO tx sz st (true, ta)))), .int (iI (bz go))])), (qrow, .inl (cI, 72, .inl (dg W2))), (ht, .inr (1, [.ref ql, .int (iI ((sz : Nat) : Int)), .int (iI ((b3 : Nat) : Int)), .int (iI tc)])), (ql, .inl (cI, 48, .inl (fun j => iI (tx j))))] 0 0 80 [(0, .ref h), (1, .int (iI st)), (2, .int (iI (bz (decide (4 ≤ st)))))] [.int (iI zds)]
              refine go_if_eq O dX3_readNumber_80 87 (by decide) 83 rfl (by omega) (fun h80 => ?_) (fun h80 => ?_)
              · refine go_iconst O dX3_readNumber_87 88 rfl ?_
                obtain ⟨_, hc1, hc2⟩ := ds.resolve_left (fun e => by omega)
                have hR : rdN tx sz st (true, ta) = (false, b2) := by rw [rdN_y ⟨bz_ne h68, by omega⟩, ← ha1, ← hB]; exact rdE_0 hc1
                exact hret _ _ _ (b3, W2) dX3_readNumber_88 rfl ⟨by rw [hR]; rfl, by rw [hR]; exact hc2, hW2, fun e => by simp [hR] at e⟩
              · refine go_iconst O dX3_readNumber_83 84 rfl ?_
                refine go_goto O dX3_readNumber_84 88 (by decide) ?_
                obtain ⟨_, hc1, hc2⟩ := ds.resolve_right (fun e => by omega)
                have hR : rdN tx sz st (true, ta) = (true, b2 + 1) := by rw [rdN_y ⟨bz_ne h68, by omega⟩, ← ha1, ← hB]; exact rdE_1 hc1
                exact hret _ _ _ (b3, W2) dX3_readNumber_88 rfl ⟨by rw [hR]; rfl, by rw [hR]; exact hc2, hW2, fun _ => by rw [rdN0_e, ← ha1]; exact hv rfl⟩
        · refine go_iconst O dX3_readNumber_55 56 rfl ?_
          have eo : o2 = false := bz_0.mp h52
          subst eo
          have hR : rdN tx sz st (true, ta) = (false, b2) := rdN_bad (by rw [← ha1]; exact hB.symm)
          exact hret _ _ _ (b2, W2) dX3_readNumber_56 rfl ⟨by rw [hR]; rfl, by rw [hR], hW2, fun e => by simp [hR] at e⟩
  refine go_iload_n O dX3_readNumber_0 rfl 1 rfl 1 rfl ?_
  refine go_iconst O dX3_readNumber_1 2 rfl ?_
  refine go_iand O dX3_readNumber_2 (if 4 ≤ st then 4 else 0) (and4 hst) 3 rfl ?_
  refine go_if_eq O dX3_readNumber_3 10 (by decide) 6 rfl (by split <;> omega) (fun h3 => ?_) (fun h3 => ?_)
  · refine go_iconst O dX3_readNumber_10 11 rfl ?_
    refine TGo.topi (y := bz (decide (4 ≤ st))) (by rw [decide_eq_false (by split at h3 <;> omega)]; rfl) ?_
    refine go_istore_n O dX3_readNumber_11 rfl (by decide) [(2, .int (iI (bz (decide (4 ≤ st))))), (0, .ref h), (1, .int (iI st))] rfl 12 rfl ?_
    refine TGo.lsub (lv' := [(0, .ref h), (1, .int (iI st)), (2, .int (iI (bz (decide (4 ≤ st)))))]) [1, 2, 0] rfl ?_
    exact m12
  · refine go_iconst O dX3_readNumber_6 7 rfl ?_
    refine go_goto O dX3_readNumber_7 11 (by decide) ?_
    refine TGo.topi (y := bz (decide (4 ≤ st))) (by rw [decide_eq_true (by split at h3 <;> omega)]; rfl) ?_
    refine go_istore_n O dX3_readNumber_11 rfl (by decide) [(2, .int (iI (bz (decide (4 ≤ st))))), (0, .ref h), (1, .int (iI st))] rfl 12 rfl ?_
    refine TGo.lsub (lv' := [(0, .ref h), (1, .int (iI st)), (2, .int (iI (bz (decide (4 ≤ st)))))]) [1, 2, 0] rfl ?_
    exact m12
set_option maxHeartbeats 4000000 in
set_option maxRecDepth 100000 in
/-- readStyle -/
theorem c_X3_readStyle (E : TEn) (hE : EnvOk E) (h qam qrat qrm hw hsh qrow qfac : Nat) (cM : ClassId) (ht ql : Nat) (cI : ClassId) (tx : Nat → Int) (htx : ∀ j, r32 (tx j)) (sz : Nat) (tc : Int) (P Sc : Nat) (m : Int) (ng go : Bool) (st : Int) (hst : 0 ≤ st ∧ st < 8) (hpos : ∀ j, 0 ≤ tx j) (hs : sz ≤ 48) : Cti vwCl E yX3_readStyle wsX3_readStyle (rmn 4 91) [.ref h, .int (iI st)] [(h, .inr (3, [.int (iI ((P : Nat) : Int)), .int (iI ((Sc : Nat) : Int)), .int (iI m), .ref qam, .ref qrat, .ref qrm, .ref hw, .ref hsh, .ref ht])), (hw, .inr (2, [.ref qrow, .ref qfac, .int (iI (bz ng)), .int (iI (bz go))])), (qrow, .inl (cI, 72, .inl (dg 0))), (ht, .inr (1, [.ref ql, .int (iI ((sz : Nat) : Int)), .int (iI ((0 : Nat) : Int)), .int (iI tc)])), (ql, .inl (cI, 48, .inl (fun j => iI (tx j))))] [(cI, .int)] (fun (z : Int) (u : Nat × Nat × Bool × Int) => z = bz (psS tx sz st).1 ∧ u.1 = (psS tx sz st).2 ∧ u.2.1 < 10 ^ 70 ∧ ((psS tx sz st).1 = true → u.2.1 = psN tx sz st * 10 ^ (20 - psBe tx sz st) ∧ u.2.2.1 = psM tx sz st ∧ u.2.2.2 = tx (psK tx sz st) - 65)) (fun u => [(h, .inr (3, [.int (iI ((P : Nat) : Int)), .int (iI ((Sc : Nat) : Int)), .int (iI m), .ref qam, .ref qrat, .ref qrm, .ref hw, .ref hsh, .ref ht])), (hw, .inr (2, [.ref qrow, .ref qfac, .int (iI (bz u.2.2.1)), .int (iI (bz go))])), (qrow, .inl (cI, 72, .inl (dg u.2.1))), (ht, .inr (1, [.ref ql, .int (iI ((sz : Nat) : Int)), .int (iI ((u.1 : Nat) : Int)), .int (iI u.2.2.2)])), (ql, .inl (cI, 48, .inl (fun j => iI (tx j))))]) := by
  refine enteri (by decide) (Nat.le_of_ble_eq_true rfl) ?_
  intro X O hK hin2 hret
  show TGo X [(h, .inr (3, [.int (iI ((P : Nat) : Int)), .int (iI ((Sc : Nat) : Int)), .int (iI m), .ref qam, .ref qrat, .ref qrm, .ref hw, .ref hsh, .ref ht])), (hw, .inr (2, [.ref qrow, .ref qfac, .int (iI (bz ng)), .int (iI (bz go))])), (qrow, .inl (cI, 72, .inl (dg 0))), (ht, .inr (1, [.ref ql, .int (iI ((sz : Nat) : Int)), .int (iI ((0 : Nat) : Int)), .int (iI tc)])), (ql, .inl (cI, 48, .inl (fun j => iI (tx j))))] 0 0 0 [(0, .ref h), (1, .int (iI st))] []
  refine go_iload_n O dX3_readStyle_0 rfl 1 rfl 1 rfl ?_
  refine go_iconst O dX3_readStyle_1 2 rfl ?_
  refine go_iand O dX3_readStyle_2 (if 2 ≤ st % 4 then 2 else 0) (and2 hst) 3 rfl ?_
  refine go_if_eq O dX3_readStyle_3 42 (by decide) 6 rfl (by split <;> omega) (fun h3 => ?_) (fun h3 => ?_)
  · have hps : ¬ 2 ≤ st % 4 := by split at h3 <;> omega
    refine go_aload_n O dX3_readStyle_42 rfl 0 rfl 43 rfl ?_
    refine go_get O hK dX3_readStyle_43 hinX3 0 rfl rfl 8 (by decide) flX3_56 rfl 46 rfl ?_
    refine go_calliV (As := []) (rest := []) (wr := [(h, .inr (3, [.int (iI ((P : Nat) : Int)), .int (iI ((Sc : Nat) : Int)), .int (iI m), .ref qam, .ref qrat, .ref qrm, .ref hw, .ref hsh, .ref ht])), (hw, .inr (2, [.ref qrow, .ref qfac, .int (iI (bz ng)), .int (iI (bz go))])), (qrow, .inl (cI, 72, .inl (dg 0)))]) O hK hE (c_X1_skipCode E hE ht ql cI tx htx sz 0 tc hpos hs (by omega)) mlX3_216 imX1_skipCode seX1_skipCode inX1 cdX1_skipCode 0 (by decide +kernel) ⟨Nat.le_of_ble_eq_true rfl, Nat.le_of_ble_eq_true rfl⟩ 3 rfl rfl [0] rfl [3, 4] rfl (by decide) [0, 1, 2] rfl (by decide) (by decide) rfl rfl (Nat.le_of_ble_eq_true rfl) ⟨Nat.zero_le _, Nat.zero_le _⟩ dX3_readStyle_46 49 rfl (fun z u hu => ?_)
    obtain ⟨b1, cu1⟩ := u
    obtain ⟨o1, ho9⟩ : ∃ y, y = (rdC tx sz (true, 0)).1 := ⟨_, rfl⟩
    rw [← ho9] at hu
    obtain ⟨rfl, hb9, hcv⟩ := hu
    have hc1 : (o1, b1) = rdC tx sz (true, 0) := by rw [ho9, show b1 = _ from hb9]
    replace hcv : o1 = true → cu1 = tx 0 - 65 := hcv
    have hcl := rdC_le (tx := tx) (sz := sz) (s := (true, 0)) (by omega)
    rw [← hc1] at hcl
    replace hcl : b1 ≤ sz := hcl
    show TGo X [(h, .inr (3, [.int (iI ((P : Nat) : Int)), .int (iI ((Sc : Nat) : Int)), .int (iI m), .ref qam, .ref qrat, .ref qrm, .ref hw, .ref hsh, .ref ht])), (hw, .inr (2, [.ref qrow, .ref qfac, .int (iI (bz ng)), .int (iI (bz go))])), (qrow, .inl (cI, 72, .inl (dg 0))), (ht, .inr (1, [.ref ql, .int (iI ((sz : Nat) : Int)), .int (iI ((b1 : Nat) : Int)), .int (iI cu1)])), (ql, .inl (cI, 48, .inl (fun j => iI (tx j))))] 0 0 49 [(0, .ref h), (1, .int (iI st))] [.int (iI (bz o1))]
    refine go_if_eq O dX3_readStyle_49 76 (by decide) 52 rfl (bz_r _) (fun h49 => ?_) (fun h49 => ?_)
    · refine go_iconst O dX3_readStyle_76 77 rfl ?_
      have eo : o1 = false := bz_0.mp h49
      subst eo
      have hR : psS tx sz st = (false, b1) := by rw [(ps_0 hps).2.2, ← hc1, rdE_f, rdN_f]
      exact hret _ _ _ (b1, 0, ng, cu1) dX3_readStyle_77 rfl ⟨by rw [hR]; rfl, by rw [hR], p10 70, fun e => by simp [hR] at e⟩
    · have eo1 : o1 = true := bz_ne h49
      subst eo1
      refine go_aload_n O dX3_readStyle_52 rfl 0 rfl 53 rfl ?_
      refine go_get O hK dX3_readStyle_53 hinX3 0 rfl rfl 8 (by decide) flX3_56 rfl 56 rfl ?_
      refine go_bipush O dX3_readStyle_56 (by decide) 58 rfl ?_
      refine go_calliV (As := [.int (iI 32)]) (rest := []) (wr := [(h, .inr (3, [.int (iI ((P : Nat) : Int)), .int (iI ((Sc : Nat) : Int)), .int (iI m), .ref qam, .ref qrat, .ref qrm, .ref hw, .ref hsh, .ref ht])), (hw, .inr (2, [.ref qrow, .ref qfac, .int (iI (bz ng)), .int (iI (bz go))])), (qrow, .inl (cI, 72, .inl (dg 0)))]) O hK hE (c_X1_skip E hE ht ql cI tx htx sz b1 cu1 32 (by omega) hs (by omega)) mlX3_213 imX1_skip seX1_skip inX1 cdX1_skip 1 (by decide +kernel) ⟨Nat.le_of_ble_eq_true rfl, Nat.le_of_ble_eq_true rfl⟩ 3 rfl rfl [0] rfl [3, 4] rfl (by decide) [0, 1, 2] rfl (by decide) (by decide) rfl rfl (Nat.le_of_ble_eq_true rfl) ⟨Nat.zero_le _, Nat.zero_le _⟩ dX3_readStyle_58 61 rfl (fun z u hu => ?_)
      obtain ⟨b2, rfl⟩ : ∃ y, y = u := ⟨_, rfl⟩
      obtain ⟨zds, rfl⟩ : ∃ y, y = z := ⟨_, rfl⟩
      have ds := hu
      have dsr : 0 ≤ zds ∧ zds ≤ 1 := by rcases ds with e | e <;> omega
      show TGo X [(h, .inr (3, [.int (iI ((P : Nat) : Int)), .int (iI ((Sc : Nat) : Int)), .int (iI m), .ref qam, .ref qrat, .ref qrm, .ref hw, .ref hsh, .ref ht])), (hw, .inr (2, [.ref qrow, .ref qfac, .int (iI (bz ng)), .int (iI (bz go))])), (qrow, .inl (cI, 72, .inl (dg 0))), (ht, .inr (1, [.ref ql, .int (iI ((sz : Nat) : Int)), .int (iI ((b2 : Nat) : Int)), .int (iI cu1)])), (ql, .inl (cI, 48, .inl (fun j => iI (tx j))))] 0 0 61 [(0, .ref h), (1, .int (iI st))] [.int (iI zds)]
      refine go_if_eq O dX3_readStyle_61 76 (by decide) 64 rfl (by omega) (fun h61 => ?_) (fun h61 => ?_)
      · refine go_iconst O dX3_readStyle_76 77 rfl ?_
        obtain ⟨_, hd1, hd2⟩ := ds.resolve_left (fun e => by omega)
        have hR : psS tx sz st = (false, b1) := by rw [(ps_0 hps).2.2, ← hc1, rdE_0 hd1, rdN_f]
        exact hret _ _ _ (b2, 0, ng, cu1) dX3_readStyle_77 rfl ⟨by rw [hR]; rfl, by rw [hR]; exact hd2, p10 70, fun e => by simp [hR] at e⟩
      · obtain ⟨_, hd1, hd2⟩ := ds.resolve_right (fun e => by omega)
        subst hd2
        refine go_aload_n O dX3_readStyle_64 rfl 0 rfl 65 rfl ?_
        refine go_iload_n O dX3_readStyle_65 rfl 1 rfl 66 rfl ?_
        refine go_calliV (As := [.int (iI st)]) (rest := []) (wr := []) O hK hE (c_X3_readNumber E hE h qam qrat qrm hw hsh qrow qfac cM ht ql cI tx htx sz (b1 + 1) cu1 P Sc m ng go st hst hs (by omega)) mlX3_210 imX3_readNumber seX3_readNumber inX3 cdX3_readNumber 1 (by decide +kernel) ⟨Nat.le_of_ble_eq_true rfl, Nat.le_of_ble_eq_true rfl⟩ 0 rfl rfl [0] rfl [0, 1, 2, 3, 4] rfl (by decide) [] rfl (by decide) (by decide) rfl rfl (Nat.le_of_ble_eq_true rfl) ⟨Nat.zero_le _, Nat.zero_le _⟩ dX3_readStyle_66 69 rfl (fun z u hu => ?_)
        obtain ⟨b3, W1⟩ := u
        obtain ⟨o3, ho1⟩ : ∃ y, y = (rdN tx sz st (true, (b1 + 1))).1 := ⟨_, rfl⟩
        rw [← ho1] at hu
        obtain ⟨rfl, hb1, hW1, hv⟩ := hu
        have hn1 : (o3, b3) = rdN tx sz st (true, (b1 + 1)) := by rw [ho1, show b3 = _ from hb1]
        have hnl := rdN_le (tx := tx) (sz := sz) (st := st) (s := (true, (b1 + 1))) (by omega)
        rw [← hn1] at hnl
        replace hnl : b3 ≤ sz := hnl
        show TGo X [(h, .inr (3, [.int (iI ((P : Nat) : Int)), .int (iI ((Sc : Nat) : Int)), .int (iI m), .ref qam, .ref qrat, .ref qrm, .ref hw, .ref hsh, .ref ht])), (hw, .inr (2, [.ref qrow, .ref qfac, .int (iI (bz (rdO tx sz st (true, (b1 + 1))))), .int (iI (bz go))])), (qrow, .inl (cI, 72, .inl (dg W1))), (ht, .inr (1, [.ref ql, .int (iI ((sz : Nat) : Int)), .int (iI ((b3 : Nat) : Int)), .int (iI cu1)])), (ql, .inl (cI, 48, .inl (fun j => iI (tx j))))] 0 0 69 [(0, .ref h), (1, .int (iI st))] [.int (iI (bz o3))]
        refine go_if_eq O dX3_readStyle_69 76 (by decide) 72 rfl (bz_r _) (fun h69 => ?_) (fun h69 => ?_)
        · refine go_iconst O dX3_readStyle_76 77 rfl ?_
          have eo : o3 = false := bz_0.mp h69
          subst eo
          have hR : psS tx sz st = (false, b3) := by rw [(ps_0 hps).2.2, ← hc1, rdE_1 hd1]; exact hn1.symm
          exact hret _ _ _ (b3, W1, (rdO tx sz st (true, (b1 + 1))), cu1) dX3_readStyle_77 rfl ⟨by rw [hR]; rfl, by rw [hR], hW1, fun e => by simp [hR] at e⟩
        · refine go_iconst O dX3_readStyle_72 73 rfl ?_
          refine go_goto O dX3_readStyle_73 77 (by decide) ?_
          have eo : o3 = true := bz_ne h69
          subst eo
          have hR : psS tx sz st = (true, b3) := by rw [(ps_0 hps).2.2, ← hc1, rdE_1 hd1]; exact hn1.symm
          have hA : psA tx sz st = (true, b1 + 1) := by rw [(ps_0 hps).1, ← hc1, rdE_1 hd1]
          exact hret _ _ _ (b3, W1, (rdO tx sz st (true, (b1 + 1))), cu1) dX3_readStyle_77 rfl ⟨by rw [hR]; rfl, by rw [hR], hW1, fun _ => ⟨by unfold psN psBe; rw [hA]; exact hv rfl, by unfold psM; rw [hA], by rw [(ps_0 hps).2.1]; exact hcv rfl⟩⟩
  · have hps : 2 ≤ st % 4 := by split at h3 <;> omega
    refine go_aload_n O dX3_readStyle_6 rfl 0 rfl 7 rfl ?_
    refine go_iload_n O dX3_readStyle_7 rfl 1 rfl 8 rfl ?_
    refine go_calliV (As := [.int (iI st)]) (rest := []) (wr := []) O hK hE (c_X3_readNumber E hE h qam qrat qrm hw hsh qrow qfac cM ht ql cI tx htx sz 0 tc P Sc m ng go st hst hs (by omega)) mlX3_210 imX3_readNumber seX3_readNumber inX3 cdX3_readNumber 1 (by decide +kernel) ⟨Nat.le_of_ble_eq_true rfl, Nat.le_of_ble_eq_true rfl⟩ 0 rfl rfl [0] rfl [0, 1, 2, 3, 4] rfl (by decide) [] rfl (by decide) (by decide) rfl rfl (Nat.le_of_ble_eq_true rfl) ⟨Nat.zero_le _, Nat.zero_le _⟩ dX3_readStyle_8 11 rfl (fun z u hu => ?_)
    obtain ⟨b1, W1⟩ := u
    obtain ⟨o1, ho1⟩ : ∃ y, y = (rdN tx sz st (true, 0)).1 := ⟨_, rfl⟩
    rw [← ho1] at hu
    obtain ⟨rfl, hb1, hW1, hv⟩ := hu
    have hn1 : (o1, b1) = rdN tx sz st (true, 0) := by rw [ho1, show b1 = _ from hb1]
    have hnl := rdN_le (tx := tx) (sz := sz) (st := st) (s := (true, 0)) (by omega)
    rw [← hn1] at hnl
    replace hnl : b1 ≤ sz := hnl
    show TGo X [(h, .inr (3, [.int (iI ((P : Nat) : Int)), .int (iI ((Sc : Nat) : Int)), .int (iI m), .ref qam, .ref qrat, .ref qrm, .ref hw, .ref hsh, .ref ht])), (hw, .inr (2, [.ref qrow, .ref qfac, .int (iI (bz (rdO tx sz st (true, 0)))), .int (iI (bz go))])), (qrow, .inl (cI, 72, .inl (dg W1))), (ht, .inr (1, [.ref ql, .int (iI ((sz : Nat) : Int)), .int (iI ((b1 : Nat) : Int)), .int (iI tc)])), (ql, .inl (cI, 48, .inl (fun j => iI (tx j))))] 0 0 11 [(0, .ref h), (1, .int (iI st))] [.int (iI (bz o1))]
    refine go_if_eq O dX3_readStyle_11 40 (by decide) 14 rfl (bz_r _) (fun h11 => ?_) (fun h11 => ?_)
    · refine go_iconst O dX3_readStyle_40 41 rfl ?_
      have eo : o1 = false := bz_0.mp h11
      subst eo
      have hR : psS tx sz st = (false, b1) := by rw [(ps_1 hps).2.2, ← hn1, rdE_f, rdC_f]
      exact hret _ _ _ (b1, W1, (rdO tx sz st (true, 0)), tc) dX3_readStyle_41 rfl ⟨by rw [hR]; rfl, by rw [hR], hW1, fun e => by simp [hR] at e⟩
    · have eo1 : o1 = true := bz_ne h11
      subst eo1
      refine go_aload_n O dX3_readStyle_14 rfl 0 rfl 15 rfl ?_
      refine go_get O hK dX3_readStyle_15 hinX3 0 rfl rfl 8 (by decide) flX3_56 rfl 18 rfl ?_
      refine go_bipush O dX3_readStyle_18 (by decide) 20 rfl ?_
      refine go_calliV (As := [.int (iI 32)]) (rest := []) (wr := [(h, .inr (3, [.int (iI ((P : Nat) : Int)), .int (iI ((Sc : Nat) : Int)), .int (iI m), .ref qam, .ref qrat, .ref qrm, .ref hw, .ref hsh, .ref ht])), (hw, .inr (2, [.ref qrow, .ref qfac, .int (iI (bz (rdO tx sz st (true, 0)))), .int (iI (bz go))])), (qrow, .inl (cI, 72, .inl (dg W1)))]) O hK hE (c_X1_skip E hE ht ql cI tx htx sz b1 tc 32 (by omega) hs (by omega)) mlX3_213 imX1_skip seX1_skip inX1 cdX1_skip 1 (by decide +kernel) ⟨Nat.le_of_ble_eq_true rfl, Nat.le_of_ble_eq_true rfl⟩ 3 rfl rfl [0] rfl [3, 4] rfl (by decide) [0, 1, 2] rfl (by decide) (by decide) rfl rfl (Nat.le_of_ble_eq_true rfl) ⟨Nat.zero_le _, Nat.zero_le _⟩ dX3_readStyle_20 23 rfl (fun z u hu => ?_)
      obtain ⟨b2, rfl⟩ : ∃ y, y = u := ⟨_, rfl⟩
      obtain ⟨zds, rfl⟩ : ∃ y, y = z := ⟨_, rfl⟩
      have ds := hu
      have dsr : 0 ≤ zds ∧ zds ≤ 1 := by rcases ds with e | e <;> omega
      show TGo X [(h, .inr (3, [.int (iI ((P : Nat) : Int)), .int (iI ((Sc : Nat) : Int)), .int (iI m), .ref qam, .ref qrat, .ref qrm, .ref hw, .ref hsh, .ref ht])), (hw, .inr (2, [.ref qrow, .ref qfac, .int (iI (bz (rdO tx sz st (true, 0)))), .int (iI (bz go))])), (qrow, .inl (cI, 72, .inl (dg W1))), (ht, .inr (1, [.ref ql, .int (iI ((sz : Nat) : Int)), .int (iI ((b2 : Nat) : Int)), .int (iI tc)])), (ql, .inl (cI, 48, .inl (fun j => iI (tx j))))] 0 0 23 [(0, .ref h), (1, .int (iI st))] [.int (iI zds)]
      refine go_if_eq O dX3_readStyle_23 40 (by decide) 26 rfl (by omega) (fun h23 => ?_) (fun h23 => ?_)
      · refine go_iconst O dX3_readStyle_40 41 rfl ?_
        obtain ⟨_, hc1, hc2⟩ := ds.resolve_left (fun e => by omega)
        have hR : psS tx sz st = (false, b1) := by rw [(ps_1 hps).2.2, ← hn1, rdE_0 hc1, rdC_f]
        exact hret _ _ _ (b2, W1, (rdO tx sz st (true, 0)), tc) dX3_readStyle_41 rfl ⟨by rw [hR]; rfl, by rw [hR]; exact hc2, hW1, fun e => by simp [hR] at e⟩
      · obtain ⟨_, hd1, hd2⟩ := ds.resolve_right (fun e => by omega)
        subst hd2
        refine go_aload_n O dX3_readStyle_26 rfl 0 rfl 27 rfl ?_
        refine go_get O hK dX3_readStyle_27 hinX3 0 rfl rfl 8 (by decide) flX3_56 rfl 30 rfl ?_
        refine go_calliV (As := []) (rest := []) (wr := [(h, .inr (3, [.int (iI ((P : Nat) : Int)), .int (iI ((Sc : Nat) : Int)), .int (iI m), .ref qam, .ref qrat, .ref qrm, .ref hw, .ref hsh, .ref ht])), (hw, .inr (2, [.ref qrow, .ref qfac, .int (iI (bz (rdO tx sz st (true, 0)))), .int (iI (bz go))])), (qrow, .inl (cI, 72, .inl (dg W1)))]) O hK hE (c_X1_skipCode E hE ht ql cI tx htx sz (b1 + 1) tc hpos hs (by omega)) mlX3_216 imX1_skipCode seX1_skipCode inX1 cdX1_skipCode 0 (by decide +kernel) ⟨Nat.le_of_ble_eq_true rfl, Nat.le_of_ble_eq_true rfl⟩ 3 rfl rfl [0] rfl [3, 4] rfl (by decide) [0, 1, 2] rfl (by decide) (by decide) rfl rfl (Nat.le_of_ble_eq_true rfl) ⟨Nat.zero_le _, Nat.zero_le _⟩ dX3_readStyle_30 33 rfl (fun z u hu => ?_)
        obtain ⟨b3, cu1⟩ := u
        obtain ⟨o3, ho9⟩ : ∃ y, y = (rdC tx sz (true, (b1 + 1))).1 := ⟨_, rfl⟩
        rw [← ho9] at hu
        obtain ⟨rfl, hb9, hcv⟩ := hu
        have hc1 : (o3, b3) = rdC tx sz (true, (b1 + 1)) := by rw [ho9, show b3 = _ from hb9]
        replace hcv : o3 = true → cu1 = tx ((b1 + 1)) - 65 := hcv
        have hcl := rdC_le (tx := tx) (sz := sz) (s := (true, (b1 + 1))) (by omega)
        rw [← hc1] at hcl
        replace hcl : b3 ≤ sz := hcl
        show TGo X [(h, .inr (3, [.int (iI ((P : Nat) : Int)), .int (iI ((Sc : Nat) : Int)), .int (iI m), .ref qam, .ref qrat, .ref qrm, .ref hw, .ref hsh, .ref ht])), (hw, .inr (2, [.ref qrow, .ref qfac, .int (iI (bz (rdO tx sz st (true, 0)))), .int (iI (bz go))])), (qrow, .inl (cI, 72, .inl (dg W1))), (ht, .inr (1, [.ref ql, .int (iI ((sz : Nat) : Int)), .int (iI ((b3 : Nat) : Int)), .int (iI cu1)])), (ql, .inl (cI, 48, .inl (fun j => iI (tx j))))] 0 0 33 [(0, .ref h), (1, .int (iI st))] [.int (iI (bz o3))]
        refine go_if_eq O dX3_readStyle_33 40 (by decide) 36 rfl (bz_r _) (fun h33 => ?_) (fun h33 => ?_)
        · refine go_iconst O dX3_readStyle_40 41 rfl ?_
          have eo : o3 = false := bz_0.mp h33
          subst eo
          have hR : psS tx sz st = (false, b3) := by rw [(ps_1 hps).2.2, ← hn1, rdE_1 hd1]; exact hc1.symm
          exact hret _ _ _ (b3, W1, (rdO tx sz st (true, 0)), cu1) dX3_readStyle_41 rfl ⟨by rw [hR]; rfl, by rw [hR], hW1, fun e => by simp [hR] at e⟩
        · refine go_iconst O dX3_readStyle_36 37 rfl ?_
          refine go_goto O dX3_readStyle_37 41 (by decide) ?_
          have eo : o3 = true := bz_ne h33
          subst eo
          have hR : psS tx sz st = (true, b3) := by rw [(ps_1 hps).2.2, ← hn1, rdE_1 hd1]; exact hc1.symm
          exact hret _ _ _ (b3, W1, (rdO tx sz st (true, 0)), cu1) dX3_readStyle_41 rfl ⟨by rw [hR]; rfl, by rw [hR], hW1, fun _ => ⟨by unfold psN psBe; rw [(ps_1 hps).1]; exact hv rfl, by unfold psM; rw [(ps_1 hps).1], by rw [(ps_1 hps).2.1, ← hn1, rdE_1 hd1]; exact hcv rfl⟩⟩
set_option maxHeartbeats 4000000 in
set_option maxRecDepth 100000 in
/-- parse -/
theorem c_X3_parse (E : TEn) (hE : EnvOk E) (hN : NestOk E) (h qam qrat qrm hw hsh qrow qfac : Nat) (cM : ClassId) (ht ql : Nat) (cI : ClassId) (tx : Nat → Int) (htx : ∀ j, r32 (tx j)) (sz ta : Nat) (tc : Int) (ad ro : Nat → Nat) (cs : Cs) (P Sc : Nat) (m : Int) (hP : 19 ≤ P ∧ P ≤ 30) (hS9 : 5 ≤ Sc ∧ Sc ≤ 10) (hm : 0 ≤ m ∧ m ≤ 6) (ng go wide : Bool) (fw : Nat → Int32) (r st : Int) (hr : r32 r) (hst : r32 st) (hpos : ∀ j, 0 ≤ tx j) (hs : sz ≤ 48) : Cti vwCl E yX3_parse wsX3_parse (rmn 5 121) [.ref h, .int (iI r), .int (iI (bz wide)), .int (iI st)] ([(h, .inr (3, [.int (iI ((P : Nat) : Int)), .int (iI ((Sc : Nat) : Int)), .int (iI m), .ref qam, .ref qrat, .ref qrm, .ref hw, .ref hsh, .ref ht])), (qam, .inl (cM, 8, .inr (.inr (.inr (.inr (fun i => some (ad i))))))), (hw, .inr (2, [.ref qrow, .ref qfac, .int (iI (bz ng)), .int (iI (bz go))])), (qrow, .inl (cI, 72, .inl fw)), (ht, .inr (1, [.ref ql, .int (iI ((sz : Nat) : Int)), .int (iI ((ta : Nat) : Int)), .int (iI tc)])), (ql, .inl (cI, 48, .inl (fun j => iI (tx j))))] ++ RB ad ro cI cs) [(cI, .int), (cM, .object "TwofoldAmounts$Amount")] (fun (z : Int) (u : (Nat → Int32) × Bool × Bool × Nat × Int × Cs) => z = (spPrs P Sc m (rof cs) tx sz r wide st).1 ∧ rof u.2.2.2.2.2 = (spPrs P Sc m (rof cs) tx sz r wide st).2) (fun u => ([(h, .inr (3, [.int (iI ((P : Nat) : Int)), .int (iI ((Sc : Nat) : Int)), .int (iI m), .ref qam, .ref qrat, .ref qrm, .ref hw, .ref hsh, .ref ht])), (qam, .inl (cM, 8, .inr (.inr (.inr (.inr (fun i => some (ad i))))))), (hw, .inr (2, [.ref qrow, .ref qfac, .int (iI (bz u.2.1)), .int (iI (bz u.2.2.1))])), (qrow, .inl (cI, 72, .inl u.1)), (ht, .inr (1, [.ref ql, .int (iI ((sz : Nat) : Int)), .int (iI ((u.2.2.2.1 : Nat) : Int)), .int (iI u.2.2.2.2.1)])), (ql, .inl (cI, 48, .inl (fun j => iI (tx j))))] ++ RB ad ro cI u.2.2.2.2.2)) := by
  refine enteri (by decide) (Nat.le_of_ble_eq_true rfl) ?_
  intro X O hK hin2 hret
  show TGo X ([(h, .inr (3, [.int (iI ((P : Nat) : Int)), .int (iI ((Sc : Nat) : Int)), .int (iI m), .ref qam, .ref qrat, .ref qrm, .ref hw, .ref hsh, .ref ht])), (qam, .inl (cM, 8, .inr (.inr (.inr (.inr (fun i => some (ad i))))))), (hw, .inr (2, [.ref qrow, .ref qfac, .int (iI (bz ng)), .int (iI (bz go))])), (qrow, .inl (cI, 72, .inl fw)), (ht, .inr (1, [.ref ql, .int (iI ((sz : Nat) : Int)), .int (iI ((ta : Nat) : Int)), .int (iI tc)])), (ql, .inl (cI, 48, .inl (fun j => iI (tx j))))] ++ RB ad ro cI cs) 0 0 0 [(0, .ref h), (1, .int (iI r)), (2, .int (iI (bz wide))), (3, .int (iI st))] []
  have bw := bz_01 wide
  refine go_iload_n O dX3_parse_0 rfl 1 rfl 1 rfl ?_
  refine go_calliST (rest := []) (wr := [(h, .inr (3, [.int (iI ((P : Nat) : Int)), .int (iI ((Sc : Nat) : Int)), .int (iI m), .ref qam, .ref qrat, .ref qrm, .ref hw, .ref hsh, .ref ht])), (qam, .inl (cM, 8, .inr (.inr (.inr (.inr (fun i => some (ad i))))))), (hw, .inr (2, [.ref qrow, .ref qfac, .int (iI (bz ng)), .int (iI (bz go))])), (qrow, .inl (cI, 72, .inl fw)), (ht, .inr (1, [.ref ql, .int (iI ((sz : Nat) : Int)), .int (iI ((ta : Nat) : Int)), .int (iI tc)])), (ql, .inl (cI, 48, .inl (fun j => iI (tx j))))]) (RB ad ro cI cs) O hK hE (c_X3_isRegister E hE r hr) mlX3_60 smX3_isRegister inX3 cdX3_isRegister 1 (by decide +kernel) ⟨Nat.le_of_ble_eq_true rfl, Nat.le_of_ble_eq_true rfl⟩ [] rfl [] rfl (by decide) [0, 1, 2, 3, 4, 5] rfl (by decide) (by decide) rfl rfl (Nat.le_of_ble_eq_true rfl) ⟨Nat.zero_le _, Nat.zero_le _⟩ dX3_parse_1 4 rfl (fun z u hu => ?_)
  subst hu
  show TGo X ([(h, .inr (3, [.int (iI ((P : Nat) : Int)), .int (iI ((Sc : Nat) : Int)), .int (iI m), .ref qam, .ref qrat, .ref qrm, .ref hw, .ref hsh, .ref ht])), (qam, .inl (cM, 8, .inr (.inr (.inr (.inr (fun i => some (ad i))))))), (hw, .inr (2, [.ref qrow, .ref qfac, .int (iI (bz ng)), .int (iI (bz go))])), (qrow, .inl (cI, 72, .inl fw)), (ht, .inr (1, [.ref ql, .int (iI ((sz : Nat) : Int)), .int (iI ((ta : Nat) : Int)), .int (iI tc)])), (ql, .inl (cI, 48, .inl (fun j => iI (tx j))))] ++ RB ad ro cI cs) 0 0 4 [(0, .ref h), (1, .int (iI r)), (2, .int (iI (bz wide))), (3, .int (iI st))] [.int (iI (bz (decide (0 ≤ r ∧ r < 8))))]
  refine go_if_eq O dX3_parse_4 17 (by decide) 7 rfl (bz_r _) (fun h4 => ?_) (fun h4 => ?_)
  · refine go_bipush O dX3_parse_17 (by decide) 19 rfl ?_
    have he := spPrs_b (P := P) (Sc := Sc) (m := m) (reg := rof cs) (tx := tx) (sz := sz) (r := r) (wide := wide) (st := st) (fun e => bzd_z h4 (by omega))
    exact hret _ _ _ (fw, ng, go, ta, tc, cs) dX3_parse_19 rfl ⟨by rw [he], by rw [he]⟩
  · refine go_iload_n O dX3_parse_7 rfl 3 rfl 8 rfl ?_
    refine go_if_lt O dX3_parse_8 17 (by decide) 11 rfl (by omega) (fun h8 => ?_) (fun h8 => ?_)
    · refine go_bipush O dX3_parse_17 (by decide) 19 rfl ?_
      have he := spPrs_b (P := P) (Sc := Sc) (m := m) (reg := rof cs) (tx := tx) (sz := sz) (r := r) (wide := wide) (st := st) (by omega)
      exact hret _ _ _ (fw, ng, go, ta, tc, cs) dX3_parse_19 rfl ⟨by rw [he], by rw [he]⟩
    · refine go_iload_n O dX3_parse_11 rfl 3 rfl 12 rfl ?_
      refine go_bipush O dX3_parse_12 (by decide) 14 rfl ?_
      refine go_icmp_lt O dX3_parse_14 20 (by decide) 17 rfl (by omega) (by omega) (fun h14 => ?_) (fun h14 => ?_)
      · have q1 := bzd_ne h4
        obtain ⟨ρ, rfl⟩ : ∃ ρ : Nat, r = (ρ : Int) := ⟨r.toNat, by omega⟩
        have hρ : ρ < 8 ∧ 0 ≤ st ∧ st < 8 := by omega
        refine go_aload_n O dX3_parse_20 rfl 0 rfl 21 rfl ?_
        refine go_get O hK dX3_parse_21 hinX3 0 rfl rfl 8 (by decide) flX3_56 rfl 24 rfl ?_
        refine go_iconst O dX3_parse_24 25 rfl ?_
        refine go_put O hK dX3_parse_25 hinX1 tyX1 tyX1_ok nmX1 4 rfl rfl 2 (by decide) flX3_178 rfl rfl rfl rfl (Nat.le_of_ble_eq_true rfl) ([(h, .inr (3, [.int (iI ((P : Nat) : Int)), .int (iI ((Sc : Nat) : Int)), .int (iI m), .ref qam, .ref qrat, .ref qrm, .ref hw, .ref hsh, .ref ht])), (qam, .inl (cM, 8, .inr (.inr (.inr (.inr (fun i => some (ad i))))))), (hw, .inr (2, [.ref qrow, .ref qfac, .int (iI (bz ng)), .int (iI (bz go))])), (qrow, .inl (cI, 72, .inl fw)), (ht, .inr (1, [.ref ql, .int (iI ((sz : Nat) : Int)), .int (iI 0), .int (iI tc)])), (ql, .inl (cI, 48, .inl (fun j => iI (tx j))))] ++ RB ad ro cI cs) rfl 28 rfl ?_
        show TGo X ([(h, .inr (3, [.int (iI ((P : Nat) : Int)), .int (iI ((Sc : Nat) : Int)), .int (iI m), .ref qam, .ref qrat, .ref qrm, .ref hw, .ref hsh, .ref ht])), (qam, .inl (cM, 8, .inr (.inr (.inr (.inr (fun i => some (ad i))))))), (hw, .inr (2, [.ref qrow, .ref qfac, .int (iI (bz ng)), .int (iI (bz go))])), (qrow, .inl (cI, 72, .inl fw)), (ht, .inr (1, [.ref ql, .int (iI ((sz : Nat) : Int)), .int (iI ((0 : Nat) : Int)), .int (iI tc)])), (ql, .inl (cI, 48, .inl (fun j => iI (tx j))))] ++ RB ad ro cI cs) 0 0 28 [(0, .ref h), (1, .int (iI ((ρ : Nat) : Int))), (2, .int (iI (bz wide))), (3, .int (iI st))] []
        refine go_aload_n O dX3_parse_28 rfl 0 rfl 29 rfl ?_
        refine go_get O hK dX3_parse_29 hinX3 0 rfl rfl 6 (by decide) flX3_46 rfl 32 rfl ?_
        refine go_callvVT (As := []) (rest := []) (wr := [(h, .inr (3, [.int (iI ((P : Nat) : Int)), .int (iI ((Sc : Nat) : Int)), .int (iI m), .ref qam, .ref qrat, .ref qrm, .ref hw, .ref hsh, .ref ht])), (qam, .inl (cM, 8, .inr (.inr (.inr (.inr (fun i => some (ad i))))))), (ht, .inr (1, [.ref ql, .int (iI ((sz : Nat) : Int)), .int (iI ((0 : Nat) : Int)), .int (iI tc)])), (ql, .inl (cI, 48, .inl (fun j => iI (tx j))))]) (RB ad ro cI cs) O hK hE (c_X2_clear E hE hw qrow qfac cI ng go fw) mlX3_181 imX2_clear seX2_clear inX2 cdX2_clear 0 (by decide +kernel) ⟨Nat.le_of_ble_eq_true rfl, Nat.le_of_ble_eq_true rfl⟩ 2 rfl rfl [0] rfl [2, 3] rfl (by decide) [0, 1, 4, 5] rfl (by decide) (by decide) rfl rfl (Nat.le_of_ble_eq_true rfl) ⟨Nat.zero_le _, Nat.zero_le _⟩ dX3_parse_32 35 rfl (fun u hu => ?_)
        show TGo X ([(h, .inr (3, [.int (iI ((P : Nat) : Int)), .int (iI ((Sc : Nat) : Int)), .int (iI m), .ref qam, .ref qrat, .ref qrm, .ref hw, .ref hsh, .ref ht])), (qam, .inl (cM, 8, .inr (.inr (.inr (.inr (fun i => some (ad i))))))), (ht, .inr (1, [.ref ql, .int (iI ((sz : Nat) : Int)), .int (iI ((0 : Nat) : Int)), .int (iI tc)])), (ql, .inl (cI, 48, .inl (fun j => iI (tx j)))), (hw, .inr (2, [.ref qrow, .ref qfac, .int (iI 0), .int (iI 0)])), (qrow, .inl (cI, 72, .inl (dg 0)))] ++ RB ad ro cI cs) 0 0 35 [(0, .ref h), (1, .int (iI ((ρ : Nat) : Int))), (2, .int (iI (bz wide))), (3, .int (iI st))] []
        refine TGo.subT (w' := [(h, .inr (3, [.int (iI ((P : Nat) : Int)), .int (iI ((Sc : Nat) : Int)), .int (iI m), .ref qam, .ref qrat, .ref qrm, .ref hw, .ref hsh, .ref ht])), (qam, .inl (cM, 8, .inr (.inr (.inr (.inr (fun i => some (ad i))))))), (hw, .inr (2, [.ref qrow, .ref qfac, .int (iI 0), .int (iI 0)])), (qrow, .inl (cI, 72, .inl (dg 0))), (ht, .inr (1, [.ref ql, .int (iI ((sz : Nat) : Int)), .int (iI ((0 : Nat) : Int)), .int (iI tc)])), (ql, .inl (cI, 48, .inl (fun j => iI (tx j))))]) (RB ad ro cI cs) [0, 1, 4, 5, 2, 3] (by decide) rfl ?_
        refine go_aload_n O dX3_parse_35 rfl 0 rfl 36 rfl ?_
        refine go_iload_n O dX3_parse_36 rfl 3 rfl 37 rfl ?_
        refine go_calliVT (As := [.int (iI st)]) (rest := []) (wr := [(qam, .inl (cM, 8, .inr (.inr (.inr (.inr (fun i => some (ad i)))))))]) (RB ad ro cI cs) O hK hE (c_X3_readStyle E hE h qam qrat qrm hw hsh qrow qfac cM ht ql cI tx htx sz tc P Sc m false false st (by omega) hpos hs) mlX3_184 imX3_readStyle seX3_readStyle inX3 cdX3_readStyle 1 (by decide +kernel) ⟨Nat.le_of_ble_eq_true rfl, Nat.le_of_ble_eq_true rfl⟩ 0 rfl rfl [0] rfl [0, 2, 3, 4, 5] rfl (by decide) [1] rfl (by decide) (by decide) rfl rfl (Nat.le_of_ble_eq_true rfl) ⟨Nat.zero_le _, Nat.zero_le _⟩ dX3_parse_37 40 rfl (fun z u hu => ?_)
        obtain ⟨b1, W1, ng1, cu1⟩ := u
        obtain ⟨o1, ho1⟩ : ∃ y, y = (psS tx sz st).1 := ⟨_, rfl⟩
        rw [← ho1] at hu
        obtain ⟨rfl, hb1, hW1, hv⟩ := hu
        have hS : (o1, b1) = psS tx sz st := by rw [ho1, show b1 = _ from hb1]
        replace hv : o1 = true → W1 = psN tx sz st * 10 ^ (20 - psBe tx sz st) ∧ ng1 = psM tx sz st ∧ cu1 = tx (psK tx sz st) - 65 := hv
        have hSl := psS_le tx sz st
        rw [← hS] at hSl
        replace hSl : b1 ≤ sz := hSl
        replace hW1 : W1 < 10 ^ 70 := hW1
        show TGo X ([(qam, .inl (cM, 8, .inr (.inr (.inr (.inr (fun i => some (ad i))))))), (h, .inr (3, [.int (iI ((P : Nat) : Int)), .int (iI ((Sc : Nat) : Int)), .int (iI m), .ref qam, .ref qrat, .ref qrm, .ref hw, .ref hsh, .ref ht])), (hw, .inr (2, [.ref qrow, .ref qfac, .int (iI (bz ng1)), .int (iI 0)])), (qrow, .inl (cI, 72, .inl (dg W1))), (ht, .inr (1, [.ref ql, .int (iI ((sz : Nat) : Int)), .int (iI ((b1 : Nat) : Int)), .int (iI cu1)])), (ql, .inl (cI, 48, .inl (fun j => iI (tx j))))] ++ RB ad ro cI cs) 0 0 40 [(0, .ref h), (1, .int (iI ((ρ : Nat) : Int))), (2, .int (iI (bz wide))), (3, .int (iI st))] [.int (iI (bz o1))]
        refine TGo.subT (w' := [(h, .inr (3, [.int (iI ((P : Nat) : Int)), .int (iI ((Sc : Nat) : Int)), .int (iI m), .ref qam, .ref qrat, .ref qrm, .ref hw, .ref hsh, .ref ht])), (qam, .inl (cM, 8, .inr (.inr (.inr (.inr (fun i => some (ad i))))))), (hw, .inr (2, [.ref qrow, .ref qfac, .int (iI (bz ng1)), .int (iI 0)])), (qrow, .inl (cI, 72, .inl (dg W1))), (ht, .inr (1, [.ref ql, .int (iI ((sz : Nat) : Int)), .int (iI ((b1 : Nat) : Int)), .int (iI cu1)])), (ql, .inl (cI, 48, .inl (fun j => iI (tx j))))]) (RB ad ro cI cs) [1, 0, 2, 3, 4, 5] (by decide) rfl ?_
        refine go_if_eq O dX3_parse_40 60 (by decide) 43 rfl (bz_r _) (fun h40 => ?_) (fun h40 => ?_)
        · refine go_bipush O dX3_parse_60 (by decide) 62 rfl ?_
          refine go_aload_n O dX3_parse_62 rfl 0 rfl 63 rfl ?_
          refine go_get O hK dX3_parse_63 hinX3 0 rfl rfl 8 (by decide) flX3_56 rfl 66 rfl ?_
          refine go_get O hK dX3_parse_66 hinX1 4 rfl rfl 2 (by decide) flX3_178 rfl 69 rfl ?_
          refine go_isub O dX3_parse_69 ((-100) - ((b1 : Nat) : Int)) rfl 70 rfl ?_
          have he := spPrs_x (P := P) (Sc := Sc) (m := m) (reg := rof cs) (wide := wide) hρ hS (Or.inl h40)
          exact hret _ _ _ (dg W1, ng1, false, b1, cu1, cs) dX3_parse_70 rfl ⟨by rw [he], by rw [he]⟩
        · refine go_aload_n O dX3_parse_43 rfl 0 rfl 44 rfl ?_
          refine go_get O hK dX3_parse_44 hinX3 0 rfl rfl 8 (by decide) flX3_56 rfl 47 rfl ?_
          refine go_get O hK dX3_parse_47 hinX1 4 rfl rfl 2 (by decide) flX3_178 rfl 50 rfl ?_
          refine go_aload_n O dX3_parse_50 rfl 0 rfl 51 rfl ?_
          refine go_get O hK dX3_parse_51 hinX3 0 rfl rfl 8 (by decide) flX3_56 rfl 54 rfl ?_
          refine go_get O hK dX3_parse_54 hinX1 4 rfl rfl 1 (by decide) flX3_162 rfl 57 rfl ?_
          refine go_icmp_ge O dX3_parse_57 71 (by decide) 60 rfl (by omega) (by omega) (fun h57 => ?_) (fun h57 => ?_)
          · have eo : o1 = true := bz_ne h40
            obtain ⟨hv1, hv2, hv3⟩ := hv eo
            refine go_aload_n O dX3_parse_71 rfl 0 rfl 72 rfl ?_
            refine go_iload_n O dX3_parse_72 rfl 1 rfl 73 rfl ?_
            refine go_iload_n O dX3_parse_73 rfl 2 rfl 74 rfl ?_
            refine go_aload_n O dX3_parse_74 rfl 0 rfl 75 rfl ?_
            refine go_get O hK dX3_parse_75 hinX3 0 rfl rfl 8 (by decide) flX3_56 rfl 78 rfl ?_
            refine go_get O hK dX3_parse_78 hinX1 4 rfl rfl 3 (by decide) flX3_187 rfl 81 rfl ?_
            refine go_calliVU (As := [.int (iI ((ρ : Nat) : Int)), .int (iI (bz wide)), .int (iI cu1)]) (rest := []) (wr := [(ht, .inr (1, [.ref ql, .int (iI ((sz : Nat) : Int)), .int (iI ((b1 : Nat) : Int)), .int (iI cu1)])), (ql, .inl (cI, 48, .inl (fun j => iI (tx j))))]) (RB ad ro cI cs) O hK hE (c_X3_keep E hE hN h qam qrat qrm hw hsh ht qrow qfac cI cM ad ro cs P Sc m hP hS9 hm ng1 false wide ρ W1 cu1 (by omega) hW1) mlX3_71 imX3_keep seX3_keep inX3 cdX3_keep 3 (by decide +kernel) ⟨Nat.le_of_ble_eq_true rfl, Nat.le_of_ble_eq_true rfl⟩ 0 rfl rfl [0, 1] rfl [0, 1, 2, 3] rfl (by decide) [4, 5] rfl (by decide) (by decide) rfl rfl (Nat.le_of_ble_eq_true rfl) ⟨Nat.zero_le _, Nat.zero_le _⟩ dX3_parse_81 84 rfl (fun z u hu => ?_)
            obtain ⟨W2, g2, cs2⟩ := u
            obtain ⟨rfl, hcs2⟩ := hu
            show TGo X ([(ht, .inr (1, [.ref ql, .int (iI ((sz : Nat) : Int)), .int (iI ((b1 : Nat) : Int)), .int (iI cu1)])), (ql, .inl (cI, 48, .inl (fun j => iI (tx j)))), (h, .inr (3, [.int (iI ((P : Nat) : Int)), .int (iI ((Sc : Nat) : Int)), .int (iI m), .ref qam, .ref qrat, .ref qrm, .ref hw, .ref hsh, .ref ht])), (qam, .inl (cM, 8, .inr (.inr (.inr (.inr (fun i => some (ad i))))))), (hw, .inr (2, [.ref qrow, .ref qfac, .int (iI (bz ng1)), .int (iI (bz g2))])), (qrow, .inl (cI, 72, .inl (dg W2)))] ++ RB ad ro cI cs2) 0 0 84 [(0, .ref h), (1, .int (iI ((ρ : Nat) : Int))), (2, .int (iI (bz wide))), (3, .int (iI st))] [.int (iI (ansO (tkeep P Sc m wide ng1 W1 false)))]
            refine TGo.subT (w' := [(h, .inr (3, [.int (iI ((P : Nat) : Int)), .int (iI ((Sc : Nat) : Int)), .int (iI m), .ref qam, .ref qrat, .ref qrm, .ref hw, .ref hsh, .ref ht])), (qam, .inl (cM, 8, .inr (.inr (.inr (.inr (fun i => some (ad i))))))), (hw, .inr (2, [.ref qrow, .ref qfac, .int (iI (bz ng1)), .int (iI (bz g2))])), (qrow, .inl (cI, 72, .inl (dg W2))), (ht, .inr (1, [.ref ql, .int (iI ((sz : Nat) : Int)), .int (iI ((b1 : Nat) : Int)), .int (iI cu1)])), (ql, .inl (cI, 48, .inl (fun j => iI (tx j))))]) (RB ad ro cI cs2) [2, 3, 4, 5, 0, 1] (by decide) rfl ?_
            have he := spPrs_ok (P := P) (Sc := Sc) (m := m) (reg := rof cs) (wide := wide) hρ hS ⟨eo, by omega⟩ rfl hv3
            rw [prs_k hP hS9 (psBe_le tx sz st), ← hv1, ← hv2] at he
            exact hret _ _ _ (dg W2, ng1, g2, b1, cu1, cs2) dX3_parse_84 rfl ⟨by rw [he], by rw [he]; exact hcs2⟩
          · refine go_bipush O dX3_parse_60 (by decide) 62 rfl ?_
            refine go_aload_n O dX3_parse_62 rfl 0 rfl 63 rfl ?_
            refine go_get O hK dX3_parse_63 hinX3 0 rfl rfl 8 (by decide) flX3_56 rfl 66 rfl ?_
            refine go_get O hK dX3_parse_66 hinX1 4 rfl rfl 2 (by decide) flX3_178 rfl 69 rfl ?_
            refine go_isub O dX3_parse_69 ((-100) - ((b1 : Nat) : Int)) rfl 70 rfl ?_
            have he := spPrs_x (P := P) (Sc := Sc) (m := m) (reg := rof cs) (wide := wide) hρ hS (Or.inr (by omega))
            exact hret _ _ _ (dg W1, ng1, false, b1, cu1, cs) dX3_parse_70 rfl ⟨by rw [he], by rw [he]⟩
      · refine go_bipush O dX3_parse_17 (by decide) 19 rfl ?_
        have he := spPrs_b (P := P) (Sc := Sc) (m := m) (reg := rof cs) (tx := tx) (sz := sz) (r := r) (wide := wide) (st := st) (by omega)
        exact hret _ _ _ (fw, ng, go, ta, tc, cs) dX3_parse_19 rfl ⟨by rw [he], by rw [he]⟩
