/-! The class's two tables. -/
def TbOk (E : TEn) : Prop := ∀ A U, E A U → (∃ t : Nat, va_Z "TwofoldAmounts" "UNIT_DIGITS" "[I" (.ref t) A U U.heap ∧ va_T .int t 6 (fun j => .int (iI ((tdig ((j : Nat) : Int) : Nat) : Int))) A U U.heap) ∧ (∃ t : Nat, va_Z "TwofoldAmounts" "CASH_UNITS" "[I" (.ref t) A U U.heap ∧ va_T .int t 6 (fun j => .int (iI ((tcsh true ((j : Nat) : Int) : Nat) : Int))) A U U.heap)
section STAT
variable {X : TCx} {cc : ByteArray} {own : String} {rm : Room} {nL : Nat} {ws : va_W} {n k pc : Nat} {lv : List (Nat × Value)} {st : List Value} {tys : List (ClassId × FieldType)} {cl : List vw_C} {E : TEn}
theorem go_stat (O : TOk X cc own rm nL cl E) {C nm d : String} {f : Nat → Value} {N index : Nat} (hT : ∃ t : Nat, va_Z C nm d (.ref t) (cx_A X) (cx_s X) (cx_s X).heap ∧ va_T .int t N f (cx_A X) (cx_s X) (cx_s X).heap) (hl : Cond.fieldLink own index C nm d ∈ Gw) (hd : decode cc pc = .ok (.getstatic index, 3)) (pc' : Nat) (hp : pc + 3 = pc') (h : ∀ t : Nat, va_T .int t N f (cx_A X) (cx_s X) (cx_s X).heap → TGo X ws n k pc' lv (.ref t :: st)) : TGo X ws n k pc lv st := by
  subst hp
  intro H locs ls hP hD hS hl'
  obtain ⟨t, hZ, hTT⟩ := hT
  exact va_gets O.1 O.2.1 hZ hS O.2.2.2.2.1 (O.2.2.2.2.2.1 _ hl) (fun _ h => h) hd (h t hTT H locs ls hP hD hS hl')
theorem go_tald (O : TOk X cc own rm nL cl E) {t N : Nat} {f : Nat → Value} {x : Int} (hT : va_T .int t N f (cx_A X) (cx_s X) (cx_s X).heap) (j : Nat) (hx : x = (j : Int)) (hj : j < N) (hN : N < 2147483648) (z : Int) (hz : f j = .int (iI z)) (hd : decode cc pc = .ok (.iaload, 1)) (pc' : Nat) (hp : pc + 1 = pc') (h : TGo X ws n k pc' lv (.int (iI z) :: st)) : TGo X ws n k pc lv (.int (iI x) :: .ref t :: st) := by
  subst hp
  subst hx
  intro H locs ls hP hD hS hl'
  exact va_ti O.1 O.2.1 hT hS (iI_in hj hN) (v := .int (iI z)) (by rw [iI_cl (by omega)]; exact hz) hd (h H locs ls hP hD hS hl')
end STAT
theorem rnd_k {V st d : Nat} {k : Int} {n : Bool} (hd : d ≤ 10) : (2 * (V * 10 ^ 10 % (st * 10 ^ (20 - d))) + false.toNat = 0 ↔ V % (st * 10 ^ (10 - d)) = 0) ∧ trnd k n (V * 10 ^ 10 / (st * 10 ^ (20 - d))) (2 * (V * 10 ^ 10 % (st * 10 ^ (20 - d))) + false.toNat) (2 * (st * 10 ^ (20 - d))) * (st * 10 ^ (20 - d)) = trnd k n (V / (st * 10 ^ (10 - d))) (V % (st * 10 ^ (10 - d))) (st * 10 ^ (10 - d)) * (st * 10 ^ (10 - d)) * 10 ^ 10 := by
  have e : st * 10 ^ (20 - d) = st * 10 ^ (10 - d) * 10 ^ 10 := by
    rw [Nat.mul_assoc, ← p10add]
    congr 2
    omega
  rw [e]
  generalize st * 10 ^ (10 - d) = D
  rw [Nat.mul_div_mul_right _ _ (p10 10), Nat.mul_mod_mul_right]
  have ef : false.toNat = 0 := rfl
  rw [ef]
  refine ⟨by omega, ?_⟩
  unfold trnd
  rw [awy_congr (r' := V % D) (d' := D) (by omega) (by omega) (by omega), ← Nat.mul_assoc]
theorem rnd_bd2 {V D : Nat} {k : Int} {b : Bool} (hV : V < 10 ^ 36) (hD : 0 < D ∧ D ≤ 5 * 10 ^ 10) : trnd k b (V / D) (V % D) D * D < 10 ^ 37 := by
  have h1 := Nat.mul_le_mul_right D (trnd_le k b (V / D) (V % D) D)
  have h2 := Nat.div_mul_le_self V D
  rw [Nat.add_mul] at h1
  omega
set_option maxHeartbeats 4000000 in
set_option maxRecDepth 100000 in
/-- unitPlace -/
theorem c_X3_unitPlace (E : TEn) (hE : EnvOk E) (hT : TbOk E) (c : Int) (hc : 0 ≤ c ∧ c ≤ 5) : Cti vwCl E yX3_unitPlace wsX3_unitPlace (rmn 0 0) [.int (iI c)] [] [] (fun (z : Int) (_ : Unit) => z = ((20 - tdig c : Nat) : Int)) (fun _ => []) := by
  refine enteri (by decide) (Nat.le_of_ble_eq_true rfl) ?_
  intro X O hK hin2 hret
  show TGo X [] 0 0 0 [(0, .int (iI c))] []
  have htd := tdig_le c
  refine go_bipush O dX3_unitPlace_0 (by decide) 2 rfl ?_
  refine go_stat O (hT _ _ O.2.2.2.2.2.2.2.2.2).1 flX3_188 dX3_unitPlace_2 5 rfl (fun t1 ht1 => ?_)
  refine go_iload_n O dX3_unitPlace_5 rfl 0 rfl 6 rfl ?_
  refine go_tald O ht1 c.toNat (by omega) (by omega) (by omega) ((tdig c : Nat) : Int) (by rw [show ((c.toNat : Nat) : Int) = c by omega]) dX3_unitPlace_6 7 rfl ?_
  refine go_isub O dX3_unitPlace_7 ((20 - tdig c : Nat) : Int) (by omega) 8 rfl ?_
  exact hret _ _ _ () dX3_unitPlace_8 rfl rfl
set_option maxHeartbeats 4000000 in
set_option maxRecDepth 100000 in
/-- round -/
theorem c_X3_round (E : TEn) (hE : EnvOk E) (hN : NestOk E) (hT : TbOk E) (h qam qrat qrm hw hsh ht qrow qfac : Nat) (cI cM : ClassId) (ad ro : Nat → Nat) (cs : Cs) (P Sc : Nat) (m : Int) (ng go : Bool) (fw : Nat → Int32) (r a k : Int) (ca : Bool) (hr : r32 r) (ha : r32 a) (hk : r32 k) (hR : RgOk (rof cs)) : Cti vwCl E yX3_round wsX3_round (rmn 4 96) [.ref h, .int (iI r), .int (iI a), .int (iI k), .int (iI (bz ca))] ([(h, .inr (3, [.int (iI ((P : Nat) : Int)), .int (iI ((Sc : Nat) : Int)), .int (iI m), .ref qam, .ref qrat, .ref qrm, .ref hw, .ref hsh, .ref ht])), (qam, .inl (cM, 8, .inr (.inr (.inr (.inr (fun i => some (ad i))))))), (hw, .inr (2, [.ref qrow, .ref qfac, .int (iI (bz ng)), .int (iI (bz go))])), (qrow, .inl (cI, 72, .inl fw))] ++ RB ad ro cI cs) [(cI, .int), (cM, .object "TwofoldAmounts$Amount")] (fun (z : Int) (u : (Nat → Int32) × Bool × Bool × Cs) => z = (spRnd (rof cs) r a k ca).1 ∧ rof u.2.2.2 = (spRnd (rof cs) r a k ca).2) (fun u => ([(h, .inr (3, [.int (iI ((P : Nat) : Int)), .int (iI ((Sc : Nat) : Int)), .int (iI m), .ref qam, .ref qrat, .ref qrm, .ref hw, .ref hsh, .ref ht])), (qam, .inl (cM, 8, .inr (.inr (.inr (.inr (fun i => some (ad i))))))), (hw, .inr (2, [.ref qrow, .ref qfac, .int (iI (bz u.2.1)), .int (iI (bz u.2.2.1))])), (qrow, .inl (cI, 72, .inl u.1))] ++ RB ad ro cI u.2.2.2)) := by
  refine enteri (by decide) (Nat.le_of_ble_eq_true rfl) ?_
  intro X O hK hin2 hret
  show TGo X ([(h, .inr (3, [.int (iI ((P : Nat) : Int)), .int (iI ((Sc : Nat) : Int)), .int (iI m), .ref qam, .ref qrat, .ref qrm, .ref hw, .ref hsh, .ref ht])), (qam, .inl (cM, 8, .inr (.inr (.inr (.inr (fun i => some (ad i))))))), (hw, .inr (2, [.ref qrow, .ref qfac, .int (iI (bz ng)), .int (iI (bz go))])), (qrow, .inl (cI, 72, .inl fw))] ++ RB ad ro cI cs) 0 0 0 [(0, .ref h), (1, .int (iI r)), (2, .int (iI a)), (3, .int (iI k)), (4, .int (iI (bz ca)))] []
  have bc := bz_01 ca
  refine go_iload_n O dX3_round_0 rfl 1 rfl 1 rfl ?_
  refine go_calliST (rest := []) (wr := [(h, .inr (3, [.int (iI ((P : Nat) : Int)), .int (iI ((Sc : Nat) : Int)), .int (iI m), .ref qam, .ref qrat, .ref qrm, .ref hw, .ref hsh, .ref ht])), (qam, .inl (cM, 8, .inr (.inr (.inr (.inr (fun i => some (ad i))))))), (hw, .inr (2, [.ref qrow, .ref qfac, .int (iI (bz ng)), .int (iI (bz go))])), (qrow, .inl (cI, 72, .inl fw))]) (RB ad ro cI cs) O hK hE (c_X3_isRegister E hE r hr) mlX3_60 smX3_isRegister inX3 cdX3_isRegister 1 (by decide +kernel) ⟨Nat.le_of_ble_eq_true rfl, Nat.le_of_ble_eq_true rfl⟩ [] rfl [] rfl (by decide) [0, 1, 2, 3] rfl (by decide) (by decide) rfl rfl (Nat.le_of_ble_eq_true rfl) ⟨Nat.zero_le _, Nat.zero_le _⟩ dX3_round_1 4 rfl (fun z u hu => ?_)
  subst hu
  show TGo X ([(h, .inr (3, [.int (iI ((P : Nat) : Int)), .int (iI ((Sc : Nat) : Int)), .int (iI m), .ref qam, .ref qrat, .ref qrm, .ref hw, .ref hsh, .ref ht])), (qam, .inl (cM, 8, .inr (.inr (.inr (.inr (fun i => some (ad i))))))), (hw, .inr (2, [.ref qrow, .ref qfac, .int (iI (bz ng)), .int (iI (bz go))])), (qrow, .inl (cI, 72, .inl fw))] ++ RB ad ro cI cs) 0 0 4 [(0, .ref h), (1, .int (iI r)), (2, .int (iI a)), (3, .int (iI k)), (4, .int (iI (bz ca)))] [.int (iI (bz (decide (0 ≤ r ∧ r < 8))))]
  refine go_if_eq O dX3_round_4 24 (by decide) 7 rfl (bz_r _) (fun h4 => ?_) (fun h4 => ?_)
  · refine go_bipush O dX3_round_24 (by decide) 26 rfl ?_
    have he := spRnd_bad (reg := rof cs) (r := r) (a := a) (k := k) (ca := ca) (fun e => bzd_z h4 (by omega))
    exact hret _ _ _ (fw, ng, go, cs) dX3_round_26 rfl ⟨by rw [he], by rw [he]⟩
  · refine go_iload_n O dX3_round_7 rfl 2 rfl 8 rfl ?_
    refine go_calliST (rest := []) (wr := [(h, .inr (3, [.int (iI ((P : Nat) : Int)), .int (iI ((Sc : Nat) : Int)), .int (iI m), .ref qam, .ref qrat, .ref qrm, .ref hw, .ref hsh, .ref ht])), (qam, .inl (cM, 8, .inr (.inr (.inr (.inr (fun i => some (ad i))))))), (hw, .inr (2, [.ref qrow, .ref qfac, .int (iI (bz ng)), .int (iI (bz go))])), (qrow, .inl (cI, 72, .inl fw))]) (RB ad ro cI cs) O hK hE (c_X3_isRegister E hE a ha) mlX3_60 smX3_isRegister inX3 cdX3_isRegister 1 (by decide +kernel) ⟨Nat.le_of_ble_eq_true rfl, Nat.le_of_ble_eq_true rfl⟩ [] rfl [] rfl (by decide) [0, 1, 2, 3] rfl (by decide) (by decide) rfl rfl (Nat.le_of_ble_eq_true rfl) ⟨Nat.zero_le _, Nat.zero_le _⟩ dX3_round_8 11 rfl (fun z u hu => ?_)
    subst hu
    show TGo X ([(h, .inr (3, [.int (iI ((P : Nat) : Int)), .int (iI ((Sc : Nat) : Int)), .int (iI m), .ref qam, .ref qrat, .ref qrm, .ref hw, .ref hsh, .ref ht])), (qam, .inl (cM, 8, .inr (.inr (.inr (.inr (fun i => some (ad i))))))), (hw, .inr (2, [.ref qrow, .ref qfac, .int (iI (bz ng)), .int (iI (bz go))])), (qrow, .inl (cI, 72, .inl fw))] ++ RB ad ro cI cs) 0 0 11 [(0, .ref h), (1, .int (iI r)), (2, .int (iI a)), (3, .int (iI k)), (4, .int (iI (bz ca)))] [.int (iI (bz (decide (0 ≤ a ∧ a < 8))))]
    refine go_if_eq O dX3_round_11 24 (by decide) 14 rfl (bz_r _) (fun h11 => ?_) (fun h11 => ?_)
    · refine go_bipush O dX3_round_24 (by decide) 26 rfl ?_
      have he := spRnd_bad (reg := rof cs) (r := r) (a := a) (k := k) (ca := ca) (fun e => bzd_z h11 (by omega))
      exact hret _ _ _ (fw, ng, go, cs) dX3_round_26 rfl ⟨by rw [he], by rw [he]⟩
    · refine go_iload_n O dX3_round_14 rfl 3 rfl 15 rfl ?_
      refine go_if_lt O dX3_round_15 24 (by decide) 18 rfl (by omega) (fun h15 => ?_) (fun h15 => ?_)
      · refine go_bipush O dX3_round_24 (by decide) 26 rfl ?_
        have he := spRnd_bad (reg := rof cs) (r := r) (a := a) (k := k) (ca := ca) (by omega)
        exact hret _ _ _ (fw, ng, go, cs) dX3_round_26 rfl ⟨by rw [he], by rw [he]⟩
      · refine go_iload_n O dX3_round_18 rfl 3 rfl 19 rfl ?_
        refine go_bipush O dX3_round_19 (by decide) 21 rfl ?_
        refine go_icmp_lt O dX3_round_21 27 (by decide) 24 rfl (by omega) (by omega) (fun h21 => ?_) (fun h21 => ?_)
        · have q1 := bzd_ne h4
          have q2 := bzd_ne h11
          obtain ⟨ρ, rfl⟩ : ∃ ρ : Nat, r = (ρ : Int) := ⟨r.toNat, by omega⟩
          obtain ⟨α, rfl⟩ : ∃ α : Nat, a = (α : Int) := ⟨a.toNat, by omega⟩
          have hb3 : ρ < 8 ∧ α < 8 ∧ 0 ≤ k ∧ k < 8 := by omega
          rcases hcs : cs α with ⟨_ | _, w0, n0, c0, V0⟩
          · have hq := rof_n hcs
            refine go_aload_n O dX3_round_27 rfl 0 rfl 28 rfl ?_
            refine go_get O hK dX3_round_28 hinX3 0 rfl rfl 3 (by decide) flX3_30 rfl 31 rfl ?_
            refine go_iload_n O dX3_round_31 rfl 2 rfl 32 rfl ?_
            refine go_aald O hK dX3_round_32 1 1 rfl rfl α rfl (by omega) (by omega) (ad α) rfl 33 rfl ?_
            refine TGo.outC [(h, .inr (3, [.int (iI ((P : Nat) : Int)), .int (iI ((Sc : Nat) : Int)), .int (iI m), .ref qam, .ref qrat, .ref qrm, .ref hw, .ref hsh, .ref ht])), (qam, .inl (cM, 8, .inr (.inr (.inr (.inr (fun i => some (ad i))))))), (hw, .inr (2, [.ref qrow, .ref qfac, .int (iI (bz ng)), .int (iI (bz go))])), (qrow, .inl (cI, 72, .inl fw))] α (by omega) hcs ?_
            show TGo X ([(h, .inr (3, [.int (iI ((P : Nat) : Int)), .int (iI ((Sc : Nat) : Int)), .int (iI m), .ref qam, .ref qrat, .ref qrm, .ref hw, .ref hsh, .ref ht])), (qam, .inl (cM, 8, .inr (.inr (.inr (.inr (fun i => some (ad i))))))), (hw, .inr (2, [.ref qrow, .ref qfac, .int (iI (bz ng)), .int (iI (bz go))])), (qrow, .inl (cI, 72, .inl fw)), ((ad α), .inr (0, [.ref (ro α), .int (iI 0), .int (iI (bz w0)), .int (iI (bz n0)), .int (iI c0)])), ((ro α), .inl (cI, 36, .inl (dg V0)))] ++ RR1 ad ro cI cs α) 0 0 33 [(0, .ref h), (1, .int (iI ((ρ : Nat) : Int))), (2, .int (iI ((α : Nat) : Int))), (3, .int (iI k)), (4, .int (iI (bz ca)))] [.ref (ad α)]
            refine go_astore O dX3_round_33 (by decide) [(5, .ref (ad α)), (0, .ref h), (1, .int (iI ((ρ : Nat) : Int))), (2, .int (iI ((α : Nat) : Int))), (3, .int (iI k)), (4, .int (iI (bz ca)))] rfl 35 rfl ?_
            refine go_aload O dX3_round_35 0 rfl 37 rfl ?_
            refine go_get O hK dX3_round_37 hinX0 4 rfl rfl 1 (by decide) flX3_79 rfl 40 rfl ?_
            refine go_if_ne O dX3_round_40 46 (by decide) 43 rfl (by omega) (fun h40 => by omega) (fun h40 => ?_)
            refine TGo.backC0 [(h, .inr (3, [.int (iI ((P : Nat) : Int)), .int (iI ((Sc : Nat) : Int)), .int (iI m), .ref qam, .ref qrat, .ref qrm, .ref hw, .ref hsh, .ref ht])), (qam, .inl (cM, 8, .inr (.inr (.inr (.inr (fun i => some (ad i))))))), (hw, .inr (2, [.ref qrow, .ref qfac, .int (iI (bz ng)), .int (iI (bz go))])), (qrow, .inl (cI, 72, .inl fw))] α (by omega) hcs ?_
            show TGo X ([(h, .inr (3, [.int (iI ((P : Nat) : Int)), .int (iI ((Sc : Nat) : Int)), .int (iI m), .ref qam, .ref qrat, .ref qrm, .ref hw, .ref hsh, .ref ht])), (qam, .inl (cM, 8, .inr (.inr (.inr (.inr (fun i => some (ad i))))))), (hw, .inr (2, [.ref qrow, .ref qfac, .int (iI (bz ng)), .int (iI (bz go))])), (qrow, .inl (cI, 72, .inl fw))] ++ RB ad ro cI cs) 0 0 43 [(5, .ref (ad α)), (0, .ref h), (1, .int (iI ((ρ : Nat) : Int))), (2, .int (iI ((α : Nat) : Int))), (3, .int (iI k)), (4, .int (iI (bz ca)))] []
            refine go_bipush O dX3_round_43 (by decide) 45 rfl ?_
            have he := spRnd_no (ca := ca) hb3 hq
            exact hret _ _ _ (fw, ng, go, cs) dX3_round_45 rfl ⟨by rw [he], by rw [he]⟩
          · have hq := rof_s hcs
            obtain ⟨hc0, hV0, hz0⟩ := hR α (by omega) _ _ _ _ hq
            have b0 := bz_01 n0
            have b1 := bz_01 w0
            refine go_aload_n O dX3_round_27 rfl 0 rfl 28 rfl ?_
            refine go_get O hK dX3_round_28 hinX3 0 rfl rfl 3 (by decide) flX3_30 rfl 31 rfl ?_
            refine go_iload_n O dX3_round_31 rfl 2 rfl 32 rfl ?_
            refine go_aald O hK dX3_round_32 1 1 rfl rfl α rfl (by omega) (by omega) (ad α) rfl 33 rfl ?_
            refine TGo.outC [(h, .inr (3, [.int (iI ((P : Nat) : Int)), .int (iI ((Sc : Nat) : Int)), .int (iI m), .ref qam, .ref qrat, .ref qrm, .ref hw, .ref hsh, .ref ht])), (qam, .inl (cM, 8, .inr (.inr (.inr (.inr (fun i => some (ad i))))))), (hw, .inr (2, [.ref qrow, .ref qfac, .int (iI (bz ng)), .int (iI (bz go))])), (qrow, .inl (cI, 72, .inl fw))] α (by omega) hcs ?_
            show TGo X ([(h, .inr (3, [.int (iI ((P : Nat) : Int)), .int (iI ((Sc : Nat) : Int)), .int (iI m), .ref qam, .ref qrat, .ref qrm, .ref hw, .ref hsh, .ref ht])), (qam, .inl (cM, 8, .inr (.inr (.inr (.inr (fun i => some (ad i))))))), (hw, .inr (2, [.ref qrow, .ref qfac, .int (iI (bz ng)), .int (iI (bz go))])), (qrow, .inl (cI, 72, .inl fw)), ((ad α), .inr (0, [.ref (ro α), .int (iI 1), .int (iI (bz w0)), .int (iI (bz n0)), .int (iI c0)])), ((ro α), .inl (cI, 36, .inl (dg V0)))] ++ RR1 ad ro cI cs α) 0 0 33 [(0, .ref h), (1, .int (iI ((ρ : Nat) : Int))), (2, .int (iI ((α : Nat) : Int))), (3, .int (iI k)), (4, .int (iI (bz ca)))] [.ref (ad α)]
            refine go_astore O dX3_round_33 (by decide) [(5, .ref (ad α)), (0, .ref h), (1, .int (iI ((ρ : Nat) : Int))), (2, .int (iI ((α : Nat) : Int))), (3, .int (iI k)), (4, .int (iI (bz ca)))] rfl 35 rfl ?_
            refine go_aload O dX3_round_35 0 rfl 37 rfl ?_
            refine go_get O hK dX3_round_37 hinX0 4 rfl rfl 1 (by decide) flX3_79 rfl 40 rfl ?_
            refine go_if_ne O dX3_round_40 46 (by decide) 43 rfl (by omega) (fun h40 => ?_) (fun h40 => by omega)
            refine go_iload O dX3_round_46 5 rfl 48 rfl ?_
            refine go_if_eq O dX3_round_48 63 (by decide) 51 rfl (by omega) (fun h48 => ?_) (fun h48 => ?_)
            · refine go_iconst O dX3_round_63 64 rfl ?_
              refine TGo.topi (y := ((tcsh ca c0 : Nat) : Int)) (tcsh_v (by omega)) ?_
              have hD := tD_bd ca c0
              have htc := tcsh_bd ca c0
              refine go_istore O dX3_round_64 (by decide) [(6, .int (iI ((tcsh ca c0 : Nat) : Int))), (5, .ref (ad α)), (0, .ref h), (1, .int (iI ((ρ : Nat) : Int))), (2, .int (iI ((α : Nat) : Int))), (3, .int (iI k)), (4, .int (iI (bz ca)))] rfl 66 rfl ?_
              refine go_aload_n O dX3_round_66 rfl 2 rfl 67 rfl ?_
              refine go_get O hK dX3_round_67 hinX3 0 rfl rfl 6 (by decide) flX3_46 rfl 70 rfl ?_
              refine go_aload O dX3_round_70 1 rfl 72 rfl ?_
              refine go_get O hK dX3_round_72 hinX0 4 rfl rfl 0 (by decide) flX3_83 rfl 75 rfl ?_
              refine go_bipush O dX3_round_75 (by decide) 77 rfl ?_
              refine go_aload O dX3_round_77 1 rfl 79 rfl ?_
              refine go_get O hK dX3_round_79 hinX0 4 rfl rfl 3 (by decide) flX3_86 rfl 82 rfl ?_
              refine go_callvVT (As := [.ref (ro α), .int (iI 10), .int (iI (bz n0))]) (rest := []) (wr := [(h, .inr (3, [.int (iI ((P : Nat) : Int)), .int (iI ((Sc : Nat) : Int)), .int (iI m), .ref qam, .ref qrat, .ref qrm, .ref hw, .ref hsh, .ref ht])), (qam, .inl (cM, 8, .inr (.inr (.inr (.inr (fun i => some (ad i))))))), ((ad α), .inr (0, [.ref (ro α), .int (iI 1), .int (iI (bz w0)), .int (iI (bz n0)), .int (iI c0)]))]) (RR1 ad ro cI cs α) O hK hE (c_X2_load E hE hw qrow qfac cI ng go (ro α) 36 V0 10 fw n0 (by omega) hV0 (by omega)) mlX3_89 imX2_load seX2_load inX2 cdX2_load 3 (by decide +kernel) ⟨Nat.le_of_ble_eq_true rfl, Nat.le_of_ble_eq_true rfl⟩ 2 rfl rfl [0] rfl [2, 3, 5] rfl (by decide) [0, 1, 4] rfl (by decide) (by decide) rfl rfl (Nat.le_of_ble_eq_true rfl) ⟨Nat.zero_le _, Nat.zero_le _⟩ dX3_round_82 85 rfl (fun u hu => ?_)
              show TGo X ([(h, .inr (3, [.int (iI ((P : Nat) : Int)), .int (iI ((Sc : Nat) : Int)), .int (iI m), .ref qam, .ref qrat, .ref qrm, .ref hw, .ref hsh, .ref ht])), (qam, .inl (cM, 8, .inr (.inr (.inr (.inr (fun i => some (ad i))))))), ((ad α), .inr (0, [.ref (ro α), .int (iI 1), .int (iI (bz w0)), .int (iI (bz n0)), .int (iI c0)])), (hw, .inr (2, [.ref qrow, .ref qfac, .int (iI (bz n0)), .int (iI 0)])), (qrow, .inl (cI, 72, .inl (dg (V0 * 10 ^ 10)))), ((ro α), .inl (cI, 36, .inl (dg V0)))] ++ RR1 ad ro cI cs α) 0 0 85 [(6, .int (iI ((tcsh ca c0 : Nat) : Int))), (5, .ref (ad α)), (0, .ref h), (1, .int (iI ((ρ : Nat) : Int))), (2, .int (iI ((α : Nat) : Int))), (3, .int (iI k)), (4, .int (iI (bz ca)))] []
              refine TGo.subT (w' := [(h, .inr (3, [.int (iI ((P : Nat) : Int)), .int (iI ((Sc : Nat) : Int)), .int (iI m), .ref qam, .ref qrat, .ref qrm, .ref hw, .ref hsh, .ref ht])), (qam, .inl (cM, 8, .inr (.inr (.inr (.inr (fun i => some (ad i))))))), (hw, .inr (2, [.ref qrow, .ref qfac, .int (iI (bz n0)), .int (iI 0)])), (qrow, .inl (cI, 72, .inl (dg (V0 * 10 ^ 10)))), ((ad α), .inr (0, [.ref (ro α), .int (iI 1), .int (iI (bz w0)), .int (iI (bz n0)), .int (iI c0)])), ((ro α), .inl (cI, 36, .inl (dg V0)))]) (RR1 ad ro cI cs α) [0, 1, 3, 4, 2, 5] (by decide) rfl ?_
              refine go_aload_n O dX3_round_85 rfl 2 rfl 86 rfl ?_
              refine go_get O hK dX3_round_86 hinX3 0 rfl rfl 6 (by decide) flX3_46 rfl 89 rfl ?_
              refine go_aload O dX3_round_89 1 rfl 91 rfl ?_
              refine go_get O hK dX3_round_91 hinX0 4 rfl rfl 4 (by decide) flX3_100 rfl 94 rfl ?_
              refine go_calliST (rest := [.ref hw]) (wr := [(h, .inr (3, [.int (iI ((P : Nat) : Int)), .int (iI ((Sc : Nat) : Int)), .int (iI m), .ref qam, .ref qrat, .ref qrm, .ref hw, .ref hsh, .ref ht])), (qam, .inl (cM, 8, .inr (.inr (.inr (.inr (fun i => some (ad i))))))), (hw, .inr (2, [.ref qrow, .ref qfac, .int (iI (bz n0)), .int (iI 0)])), (qrow, .inl (cI, 72, .inl (dg (V0 * 10 ^ 10)))), ((ad α), .inr (0, [.ref (ro α), .int (iI 1), .int (iI (bz w0)), .int (iI (bz n0)), .int (iI c0)])), ((ro α), .inl (cI, 36, .inl (dg V0)))]) (RR1 ad ro cI cs α) O hK hE (c_X3_unitPlace E hE hT c0 (by omega)) mlX3_113 smX3_unitPlace inX3 cdX3_unitPlace 1 (by decide +kernel) ⟨Nat.le_of_ble_eq_true rfl, Nat.le_of_ble_eq_true rfl⟩ [] rfl [] rfl (by decide) [0, 1, 2, 3, 4, 5] rfl (by decide) (by decide) rfl rfl (Nat.le_of_ble_eq_true rfl) ⟨Nat.zero_le _, Nat.zero_le _⟩ dX3_round_94 97 rfl (fun z u hu => ?_)
              subst hu
              have htd := tdig_le c0
              show TGo X ([(h, .inr (3, [.int (iI ((P : Nat) : Int)), .int (iI ((Sc : Nat) : Int)), .int (iI m), .ref qam, .ref qrat, .ref qrm, .ref hw, .ref hsh, .ref ht])), (qam, .inl (cM, 8, .inr (.inr (.inr (.inr (fun i => some (ad i))))))), (hw, .inr (2, [.ref qrow, .ref qfac, .int (iI (bz n0)), .int (iI 0)])), (qrow, .inl (cI, 72, .inl (dg (V0 * 10 ^ 10)))), ((ad α), .inr (0, [.ref (ro α), .int (iI 1), .int (iI (bz w0)), .int (iI (bz n0)), .int (iI c0)])), ((ro α), .inl (cI, 36, .inl (dg V0)))] ++ RR1 ad ro cI cs α) 0 0 97 [(6, .int (iI ((tcsh ca c0 : Nat) : Int))), (5, .ref (ad α)), (0, .ref h), (1, .int (iI ((ρ : Nat) : Int))), (2, .int (iI ((α : Nat) : Int))), (3, .int (iI k)), (4, .int (iI (bz ca)))] [.int (iI ((20 - tdig c0 : Nat) : Int)), .ref hw]
              refine go_iload O dX3_round_97 0 rfl 99 rfl ?_
              refine go_iload_n O dX3_round_99 rfl 5 rfl 100 rfl ?_
              refine go_calliVT (As := [.int (iI ((20 - tdig c0 : Nat) : Int)), .int (iI ((tcsh ca c0 : Nat) : Int)), .int (iI k)]) (rest := []) (wr := [(h, .inr (3, [.int (iI ((P : Nat) : Int)), .int (iI ((Sc : Nat) : Int)), .int (iI m), .ref qam, .ref qrat, .ref qrm, .ref hw, .ref hsh, .ref ht])), (qam, .inl (cM, 8, .inr (.inr (.inr (.inr (fun i => some (ad i))))))), ((ad α), .inr (0, [.ref (ro α), .int (iI 1), .int (iI (bz w0)), .int (iI (bz n0)), .int (iI c0)])), ((ro α), .inl (cI, 36, .inl (dg V0)))]) (RR1 ad ro cI cs α) O hK hE (c_X2_toMultiple E hE hN hw qrow qfac cI n0 false (V0 * 10 ^ 10) (20 - tdig c0) (tcsh ca c0) k (by have := (mul_bd2 (κ := 0) (v := 0) hV0 (by omega)).1; omega) (by omega) (by omega) htc (by omega)) mlX3_117 imX2_toMultiple seX2_toMultiple inX2 cdX2_toMultiple 3 (by decide +kernel) ⟨Nat.le_of_ble_eq_true rfl, Nat.le_of_ble_eq_true rfl⟩ 2 rfl rfl [0] rfl [2, 3] rfl (by decide) [0, 1, 4, 5] rfl (by decide) (by decide) rfl rfl (Nat.le_of_ble_eq_true rfl) ⟨Nat.zero_le _, Nat.zero_le _⟩ dX3_round_100 103 rfl (fun z u hu => ?_)
              obtain ⟨V2, g2⟩ := u
              have hk := rnd_k (V := V0) (st := tcsh ca c0) (d := tdig c0) (k := k) (n := n0) (by omega)
              have hz : (z = 1 ∧ (V0 % (tcsh ca c0 * 10 ^ (10 - tdig c0)) = 0 ∨ k ≠ 7) ∧ V2 = trnd k n0 (V0 / (tcsh ca c0 * 10 ^ (10 - tdig c0))) (V0 % (tcsh ca c0 * 10 ^ (10 - tdig c0))) (tcsh ca c0 * 10 ^ (10 - tdig c0)) * (tcsh ca c0 * 10 ^ (10 - tdig c0)) * 10 ^ 10 ∧ g2 = false) ∨ (z = 0 ∧ ¬ (V0 % (tcsh ca c0 * 10 ^ (10 - tdig c0)) = 0 ∨ k ≠ 7)) := by
                rcases hu with ⟨e1, e2, e3, e4⟩ | ⟨e1, e2, e3, e4⟩
                · exact Or.inl ⟨e1, e2.imp hk.1.mp id, by rw [← hk.2]; exact e3, e4⟩
                · exact Or.inr ⟨e1, fun e => e.elim (fun e => e2 (hk.1.mpr e)) (fun e => e e3)⟩
              have hzr : 0 ≤ z ∧ z ≤ 1 := by rcases hz with e | e <;> omega
              show TGo X ([(h, .inr (3, [.int (iI ((P : Nat) : Int)), .int (iI ((Sc : Nat) : Int)), .int (iI m), .ref qam, .ref qrat, .ref qrm, .ref hw, .ref hsh, .ref ht])), (qam, .inl (cM, 8, .inr (.inr (.inr (.inr (fun i => some (ad i))))))), ((ad α), .inr (0, [.ref (ro α), .int (iI 1), .int (iI (bz w0)), .int (iI (bz n0)), .int (iI c0)])), ((ro α), .inl (cI, 36, .inl (dg V0))), (hw, .inr (2, [.ref qrow, .ref qfac, .int (iI (bz n0)), .int (iI (bz g2))])), (qrow, .inl (cI, 72, .inl (dg V2)))] ++ RR1 ad ro cI cs α) 0 0 103 [(6, .int (iI ((tcsh ca c0 : Nat) : Int))), (5, .ref (ad α)), (0, .ref h), (1, .int (iI ((ρ : Nat) : Int))), (2, .int (iI ((α : Nat) : Int))), (3, .int (iI k)), (4, .int (iI (bz ca)))] [.int (iI z)]
              refine TGo.subT (w' := [(h, .inr (3, [.int (iI ((P : Nat) : Int)), .int (iI ((Sc : Nat) : Int)), .int (iI m), .ref qam, .ref qrat, .ref qrm, .ref hw, .ref hsh, .ref ht])), (qam, .inl (cM, 8, .inr (.inr (.inr (.inr (fun i => some (ad i))))))), (hw, .inr (2, [.ref qrow, .ref qfac, .int (iI (bz n0)), .int (iI (bz g2))])), (qrow, .inl (cI, 72, .inl (dg V2))), ((ad α), .inr (0, [.ref (ro α), .int (iI 1), .int (iI (bz w0)), .int (iI (bz n0)), .int (iI c0)])), ((ro α), .inl (cI, 36, .inl (dg V0)))]) (RR1 ad ro cI cs α) [0, 1, 4, 5, 2, 3] (by decide) rfl ?_
              refine go_if_ne O dX3_round_103 109 (by decide) 106 rfl (by omega) (fun h103 => ?_) (fun h103 => ?_)
              · obtain ⟨_, hx, hV2, rfl⟩ := hz.resolve_right (fun e => by omega)
                subst hV2
                show TGo X ([(h, .inr (3, [.int (iI ((P : Nat) : Int)), .int (iI ((Sc : Nat) : Int)), .int (iI m), .ref qam, .ref qrat, .ref qrm, .ref hw, .ref hsh, .ref ht])), (qam, .inl (cM, 8, .inr (.inr (.inr (.inr (fun i => some (ad i))))))), (hw, .inr (2, [.ref qrow, .ref qfac, .int (iI (bz n0)), .int (iI 0)])), (qrow, .inl (cI, 72, .inl (dg (trnd k n0 (V0 / (tcsh ca c0 * 10 ^ (10 - tdig c0))) (V0 % (tcsh ca c0 * 10 ^ (10 - tdig c0))) (tcsh ca c0 * 10 ^ (10 - tdig c0)) * (tcsh ca c0 * 10 ^ (10 - tdig c0)) * 10 ^ 10)))), ((ad α), .inr (0, [.ref (ro α), .int (iI 1), .int (iI (bz w0)), .int (iI (bz n0)), .int (iI c0)])), ((ro α), .inl (cI, 36, .inl (dg V0)))] ++ RR1 ad ro cI cs α) 0 0 109 [(6, .int (iI ((tcsh ca c0 : Nat) : Int))), (5, .ref (ad α)), (0, .ref h), (1, .int (iI ((ρ : Nat) : Int))), (2, .int (iI ((α : Nat) : Int))), (3, .int (iI k)), (4, .int (iI (bz ca)))] []
                refine go_aload_n O dX3_round_109 rfl 2 rfl 110 rfl ?_
                refine go_iload_n O dX3_round_110 rfl 3 rfl 111 rfl ?_
                refine go_aload O dX3_round_111 1 rfl 113 rfl ?_
                refine go_get O hK dX3_round_113 hinX0 4 rfl rfl 2 (by decide) flX3_97 rfl 116 rfl ?_
                refine go_aload O dX3_round_116 1 rfl 118 rfl ?_
                refine go_get O hK dX3_round_118 hinX0 4 rfl rfl 4 (by decide) flX3_100 rfl 121 rfl ?_
                refine TGo.backC0 [(h, .inr (3, [.int (iI ((P : Nat) : Int)), .int (iI ((Sc : Nat) : Int)), .int (iI m), .ref qam, .ref qrat, .ref qrm, .ref hw, .ref hsh, .ref ht])), (qam, .inl (cM, 8, .inr (.inr (.inr (.inr (fun i => some (ad i))))))), (hw, .inr (2, [.ref qrow, .ref qfac, .int (iI (bz n0)), .int (iI 0)])), (qrow, .inl (cI, 72, .inl (dg (trnd k n0 (V0 / (tcsh ca c0 * 10 ^ (10 - tdig c0))) (V0 % (tcsh ca c0 * 10 ^ (10 - tdig c0))) (tcsh ca c0 * 10 ^ (10 - tdig c0)) * (tcsh ca c0 * 10 ^ (10 - tdig c0)) * 10 ^ 10))))] α (by omega) hcs ?_
                show TGo X ([(h, .inr (3, [.int (iI ((P : Nat) : Int)), .int (iI ((Sc : Nat) : Int)), .int (iI m), .ref qam, .ref qrat, .ref qrm, .ref hw, .ref hsh, .ref ht])), (qam, .inl (cM, 8, .inr (.inr (.inr (.inr (fun i => some (ad i))))))), (hw, .inr (2, [.ref qrow, .ref qfac, .int (iI (bz n0)), .int (iI 0)])), (qrow, .inl (cI, 72, .inl (dg (trnd k n0 (V0 / (tcsh ca c0 * 10 ^ (10 - tdig c0))) (V0 % (tcsh ca c0 * 10 ^ (10 - tdig c0))) (tcsh ca c0 * 10 ^ (10 - tdig c0)) * (tcsh ca c0 * 10 ^ (10 - tdig c0)) * 10 ^ 10))))] ++ RB ad ro cI cs) 0 0 121 [(6, .int (iI ((tcsh ca c0 : Nat) : Int))), (5, .ref (ad α)), (0, .ref h), (1, .int (iI ((ρ : Nat) : Int))), (2, .int (iI ((α : Nat) : Int))), (3, .int (iI k)), (4, .int (iI (bz ca)))] [.int (iI c0), .int (iI (bz w0)), .int (iI ((ρ : Nat) : Int)), .ref h]
                refine go_calliVU (As := [.int (iI ((ρ : Nat) : Int)), .int (iI (bz w0)), .int (iI c0)]) (rest := []) (wr := []) (RB ad ro cI cs) O hK hE (c_X3_store E hE hN h qam qrat qrm hw hsh ht qrow qfac cI cM ad ro cs P Sc m n0 false w0 ρ (trnd k n0 (V0 / (tcsh ca c0 * 10 ^ (10 - tdig c0))) (V0 % (tcsh ca c0 * 10 ^ (10 - tdig c0))) (tcsh ca c0 * 10 ^ (10 - tdig c0)) * (tcsh ca c0 * 10 ^ (10 - tdig c0)) * 10 ^ 10) c0 (by omega) (by have := rnd_bd2 (k := k) (b := n0) hV0 hD; omega)) mlX3_107 imX3_store seX3_store inX3 cdX3_store 3 (by decide +kernel) ⟨Nat.le_of_ble_eq_true rfl, Nat.le_of_ble_eq_true rfl⟩ 0 rfl rfl [0, 1] rfl [0, 1, 2, 3] rfl (by decide) [] rfl (by decide) (by decide) rfl rfl (Nat.le_of_ble_eq_true rfl) ⟨Nat.zero_le _, Nat.zero_le _⟩ dX3_round_121 124 rfl (fun z u hu => ?_)
                obtain ⟨cs2, rfl⟩ : ∃ y, y = u := ⟨_, rfl⟩
                obtain ⟨rfl, hcs2⟩ := hu
                show TGo X ([(h, .inr (3, [.int (iI ((P : Nat) : Int)), .int (iI ((Sc : Nat) : Int)), .int (iI m), .ref qam, .ref qrat, .ref qrm, .ref hw, .ref hsh, .ref ht])), (qam, .inl (cM, 8, .inr (.inr (.inr (.inr (fun i => some (ad i))))))), (hw, .inr (2, [.ref qrow, .ref qfac, .int (iI (bz n0)), .int (iI 0)])), (qrow, .inl (cI, 72, .inl (dg (trnd k n0 (V0 / (tcsh ca c0 * 10 ^ (10 - tdig c0))) (V0 % (tcsh ca c0 * 10 ^ (10 - tdig c0))) (tcsh ca c0 * 10 ^ (10 - tdig c0)) * (tcsh ca c0 * 10 ^ (10 - tdig c0)) * 10 ^ 10))))] ++ RB ad ro cI cs2) 0 0 124 [(6, .int (iI ((tcsh ca c0 : Nat) : Int))), (5, .ref (ad α)), (0, .ref h), (1, .int (iI ((ρ : Nat) : Int))), (2, .int (iI ((α : Nat) : Int))), (3, .int (iI k)), (4, .int (iI (bz ca)))] [.int (iI (ansO (tsto w0 n0 (trnd k n0 (V0 / (tcsh ca c0 * 10 ^ (10 - tdig c0))) (V0 % (tcsh ca c0 * 10 ^ (10 - tdig c0))) (tcsh ca c0 * 10 ^ (10 - tdig c0)) * (tcsh ca c0 * 10 ^ (10 - tdig c0)) * 10 ^ 10) false)))]
                have he := spRnd_ok (ca := ca) hb3 hq hx
                rw [← tsto_fit] at he
                exact hret _ _ _ (dg (trnd k n0 (V0 / (tcsh ca c0 * 10 ^ (10 - tdig c0))) (V0 % (tcsh ca c0 * 10 ^ (10 - tdig c0))) (tcsh ca c0 * 10 ^ (10 - tdig c0)) * (tcsh ca c0 * 10 ^ (10 - tdig c0)) * 10 ^ 10), n0, false, cs2) dX3_round_124 rfl ⟨by rw [he], by rw [he]; exact hcs2⟩
              · refine TGo.backC0 [(h, .inr (3, [.int (iI ((P : Nat) : Int)), .int (iI ((Sc : Nat) : Int)), .int (iI m), .ref qam, .ref qrat, .ref qrm, .ref hw, .ref hsh, .ref ht])), (qam, .inl (cM, 8, .inr (.inr (.inr (.inr (fun i => some (ad i))))))), (hw, .inr (2, [.ref qrow, .ref qfac, .int (iI (bz n0)), .int (iI (bz g2))])), (qrow, .inl (cI, 72, .inl (dg V2)))] α (by omega) hcs ?_
                show TGo X ([(h, .inr (3, [.int (iI ((P : Nat) : Int)), .int (iI ((Sc : Nat) : Int)), .int (iI m), .ref qam, .ref qrat, .ref qrm, .ref hw, .ref hsh, .ref ht])), (qam, .inl (cM, 8, .inr (.inr (.inr (.inr (fun i => some (ad i))))))), (hw, .inr (2, [.ref qrow, .ref qfac, .int (iI (bz n0)), .int (iI (bz g2))])), (qrow, .inl (cI, 72, .inl (dg V2)))] ++ RB ad ro cI cs) 0 0 106 [(6, .int (iI ((tcsh ca c0 : Nat) : Int))), (5, .ref (ad α)), (0, .ref h), (1, .int (iI ((ρ : Nat) : Int))), (2, .int (iI ((α : Nat) : Int))), (3, .int (iI k)), (4, .int (iI (bz ca)))] []
                refine go_bipush O dX3_round_106 (by decide) 108 rfl ?_
                have he := spRnd_x (ca := ca) hb3 hq (hz.resolve_left (fun e => by omega)).2
                exact hret _ _ _ (dg V2, n0, g2, cs) dX3_round_108 rfl ⟨by rw [he], by rw [he]⟩
            · refine go_stat O (hT _ _ O.2.2.2.2.2.2.2.2.2).2 flX3_110 dX3_round_51 54 rfl (fun t1 ht1 => ?_)
              refine go_aload O dX3_round_54 0 rfl 56 rfl ?_
              refine go_get O hK dX3_round_56 hinX0 4 rfl rfl 4 (by decide) flX3_100 rfl 59 rfl ?_
              refine go_tald O ht1 c0.toNat (by omega) (by omega) (by omega) ((tcsh true c0 : Nat) : Int) (by rw [show ((c0.toNat : Nat) : Int) = c0 by omega]) dX3_round_59 60 rfl ?_
              refine go_goto O dX3_round_60 64 (by decide) ?_
              refine TGo.topi (y := ((tcsh ca c0 : Nat) : Int)) (by rw [bz_ne h48]) ?_
              have hD := tD_bd ca c0
              have htc := tcsh_bd ca c0
              refine go_istore O dX3_round_64 (by decide) [(6, .int (iI ((tcsh ca c0 : Nat) : Int))), (5, .ref (ad α)), (0, .ref h), (1, .int (iI ((ρ : Nat) : Int))), (2, .int (iI ((α : Nat) : Int))), (3, .int (iI k)), (4, .int (iI (bz ca)))] rfl 66 rfl ?_
              refine go_aload_n O dX3_round_66 rfl 2 rfl 67 rfl ?_
              refine go_get O hK dX3_round_67 hinX3 0 rfl rfl 6 (by decide) flX3_46 rfl 70 rfl ?_
              refine go_aload O dX3_round_70 1 rfl 72 rfl ?_
              refine go_get O hK dX3_round_72 hinX0 4 rfl rfl 0 (by decide) flX3_83 rfl 75 rfl ?_
              refine go_bipush O dX3_round_75 (by decide) 77 rfl ?_
              refine go_aload O dX3_round_77 1 rfl 79 rfl ?_
              refine go_get O hK dX3_round_79 hinX0 4 rfl rfl 3 (by decide) flX3_86 rfl 82 rfl ?_
              refine go_callvVT (As := [.ref (ro α), .int (iI 10), .int (iI (bz n0))]) (rest := []) (wr := [(h, .inr (3, [.int (iI ((P : Nat) : Int)), .int (iI ((Sc : Nat) : Int)), .int (iI m), .ref qam, .ref qrat, .ref qrm, .ref hw, .ref hsh, .ref ht])), (qam, .inl (cM, 8, .inr (.inr (.inr (.inr (fun i => some (ad i))))))), ((ad α), .inr (0, [.ref (ro α), .int (iI 1), .int (iI (bz w0)), .int (iI (bz n0)), .int (iI c0)]))]) (RR1 ad ro cI cs α) O hK hE (c_X2_load E hE hw qrow qfac cI ng go (ro α) 36 V0 10 fw n0 (by omega) hV0 (by omega)) mlX3_89 imX2_load seX2_load inX2 cdX2_load 3 (by decide +kernel) ⟨Nat.le_of_ble_eq_true rfl, Nat.le_of_ble_eq_true rfl⟩ 2 rfl rfl [0] rfl [2, 3, 5] rfl (by decide) [0, 1, 4] rfl (by decide) (by decide) rfl rfl (Nat.le_of_ble_eq_true rfl) ⟨Nat.zero_le _, Nat.zero_le _⟩ dX3_round_82 85 rfl (fun u hu => ?_)
              show TGo X ([(h, .inr (3, [.int (iI ((P : Nat) : Int)), .int (iI ((Sc : Nat) : Int)), .int (iI m), .ref qam, .ref qrat, .ref qrm, .ref hw, .ref hsh, .ref ht])), (qam, .inl (cM, 8, .inr (.inr (.inr (.inr (fun i => some (ad i))))))), ((ad α), .inr (0, [.ref (ro α), .int (iI 1), .int (iI (bz w0)), .int (iI (bz n0)), .int (iI c0)])), (hw, .inr (2, [.ref qrow, .ref qfac, .int (iI (bz n0)), .int (iI 0)])), (qrow, .inl (cI, 72, .inl (dg (V0 * 10 ^ 10)))), ((ro α), .inl (cI, 36, .inl (dg V0)))] ++ RR1 ad ro cI cs α) 0 0 85 [(6, .int (iI ((tcsh ca c0 : Nat) : Int))), (5, .ref (ad α)), (0, .ref h), (1, .int (iI ((ρ : Nat) : Int))), (2, .int (iI ((α : Nat) : Int))), (3, .int (iI k)), (4, .int (iI (bz ca)))] []
              refine TGo.subT (w' := [(h, .inr (3, [.int (iI ((P : Nat) : Int)), .int (iI ((Sc : Nat) : Int)), .int (iI m), .ref qam, .ref qrat, .ref qrm, .ref hw, .ref hsh, .ref ht])), (qam, .inl (cM, 8, .inr (.inr (.inr (.inr (fun i => some (ad i))))))), (hw, .inr (2, [.ref qrow, .ref qfac, .int (iI (bz n0)), .int (iI 0)])), (qrow, .inl (cI, 72, .inl (dg (V0 * 10 ^ 10)))), ((ad α), .inr (0, [.ref (ro α), .int (iI 1), .int (iI (bz w0)), .int (iI (bz n0)), .int (iI c0)])), ((ro α), .inl (cI, 36, .inl (dg V0)))]) (RR1 ad ro cI cs α) [0, 1, 3, 4, 2, 5] (by decide) rfl ?_
              refine go_aload_n O dX3_round_85 rfl 2 rfl 86 rfl ?_
              refine go_get O hK dX3_round_86 hinX3 0 rfl rfl 6 (by decide) flX3_46 rfl 89 rfl ?_
              refine go_aload O dX3_round_89 1 rfl 91 rfl ?_
              refine go_get O hK dX3_round_91 hinX0 4 rfl rfl 4 (by decide) flX3_100 rfl 94 rfl ?_
              refine go_calliST (rest := [.ref hw]) (wr := [(h, .inr (3, [.int (iI ((P : Nat) : Int)), .int (iI ((Sc : Nat) : Int)), .int (iI m), .ref qam, .ref qrat, .ref qrm, .ref hw, .ref hsh, .ref ht])), (qam, .inl (cM, 8, .inr (.inr (.inr (.inr (fun i => some (ad i))))))), (hw, .inr (2, [.ref qrow, .ref qfac, .int (iI (bz n0)), .int (iI 0)])), (qrow, .inl (cI, 72, .inl (dg (V0 * 10 ^ 10)))), ((ad α), .inr (0, [.ref (ro α), .int (iI 1), .int (iI (bz w0)), .int (iI (bz n0)), .int (iI c0)])), ((ro α), .inl (cI, 36, .inl (dg V0)))]) (RR1 ad ro cI cs α) O hK hE (c_X3_unitPlace E hE hT c0 (by omega)) mlX3_113 smX3_unitPlace inX3 cdX3_unitPlace 1 (by decide +kernel) ⟨Nat.le_of_ble_eq_true rfl, Nat.le_of_ble_eq_true rfl⟩ [] rfl [] rfl (by decide) [0, 1, 2, 3, 4, 5] rfl (by decide) (by decide) rfl rfl (Nat.le_of_ble_eq_true rfl) ⟨Nat.zero_le _, Nat.zero_le _⟩ dX3_round_94 97 rfl (fun z u hu => ?_)
              subst hu
              have htd := tdig_le c0
              show TGo X ([(h, .inr (3, [.int (iI ((P : Nat) : Int)), .int (iI ((Sc : Nat) : Int)), .int (iI m), .ref qam, .ref qrat, .ref qrm, .ref hw, .ref hsh, .ref ht])), (qam, .inl (cM, 8, .inr (.inr (.inr (.inr (fun i => some (ad i))))))), (hw, .inr (2, [.ref qrow, .ref qfac, .int (iI (bz n0)), .int (iI 0)])), (qrow, .inl (cI, 72, .inl (dg (V0 * 10 ^ 10)))), ((ad α), .inr (0, [.ref (ro α), .int (iI 1), .int (iI (bz w0)), .int (iI (bz n0)), .int (iI c0)])), ((ro α), .inl (cI, 36, .inl (dg V0)))] ++ RR1 ad ro cI cs α) 0 0 97 [(6, .int (iI ((tcsh ca c0 : Nat) : Int))), (5, .ref (ad α)), (0, .ref h), (1, .int (iI ((ρ : Nat) : Int))), (2, .int (iI ((α : Nat) : Int))), (3, .int (iI k)), (4, .int (iI (bz ca)))] [.int (iI ((20 - tdig c0 : Nat) : Int)), .ref hw]
              refine go_iload O dX3_round_97 0 rfl 99 rfl ?_
              refine go_iload_n O dX3_round_99 rfl 5 rfl 100 rfl ?_
              refine go_calliVT (As := [.int (iI ((20 - tdig c0 : Nat) : Int)), .int (iI ((tcsh ca c0 : Nat) : Int)), .int (iI k)]) (rest := []) (wr := [(h, .inr (3, [.int (iI ((P : Nat) : Int)), .int (iI ((Sc : Nat) : Int)), .int (iI m), .ref qam, .ref qrat, .ref qrm, .ref hw, .ref hsh, .ref ht])), (qam, .inl (cM, 8, .inr (.inr (.inr (.inr (fun i => some (ad i))))))), ((ad α), .inr (0, [.ref (ro α), .int (iI 1), .int (iI (bz w0)), .int (iI (bz n0)), .int (iI c0)])), ((ro α), .inl (cI, 36, .inl (dg V0)))]) (RR1 ad ro cI cs α) O hK hE (c_X2_toMultiple E hE hN hw qrow qfac cI n0 false (V0 * 10 ^ 10) (20 - tdig c0) (tcsh ca c0) k (by have := (mul_bd2 (κ := 0) (v := 0) hV0 (by omega)).1; omega) (by omega) (by omega) htc (by omega)) mlX3_117 imX2_toMultiple seX2_toMultiple inX2 cdX2_toMultiple 3 (by decide +kernel) ⟨Nat.le_of_ble_eq_true rfl, Nat.le_of_ble_eq_true rfl⟩ 2 rfl rfl [0] rfl [2, 3] rfl (by decide) [0, 1, 4, 5] rfl (by decide) (by decide) rfl rfl (Nat.le_of_ble_eq_true rfl) ⟨Nat.zero_le _, Nat.zero_le _⟩ dX3_round_100 103 rfl (fun z u hu => ?_)
              obtain ⟨V2, g2⟩ := u
              have hk := rnd_k (V := V0) (st := tcsh ca c0) (d := tdig c0) (k := k) (n := n0) (by omega)
              have hz : (z = 1 ∧ (V0 % (tcsh ca c0 * 10 ^ (10 - tdig c0)) = 0 ∨ k ≠ 7) ∧ V2 = trnd k n0 (V0 / (tcsh ca c0 * 10 ^ (10 - tdig c0))) (V0 % (tcsh ca c0 * 10 ^ (10 - tdig c0))) (tcsh ca c0 * 10 ^ (10 - tdig c0)) * (tcsh ca c0 * 10 ^ (10 - tdig c0)) * 10 ^ 10 ∧ g2 = false) ∨ (z = 0 ∧ ¬ (V0 % (tcsh ca c0 * 10 ^ (10 - tdig c0)) = 0 ∨ k ≠ 7)) := by
                rcases hu with ⟨e1, e2, e3, e4⟩ | ⟨e1, e2, e3, e4⟩
                · exact Or.inl ⟨e1, e2.imp hk.1.mp id, by rw [← hk.2]; exact e3, e4⟩
                · exact Or.inr ⟨e1, fun e => e.elim (fun e => e2 (hk.1.mpr e)) (fun e => e e3)⟩
              have hzr : 0 ≤ z ∧ z ≤ 1 := by rcases hz with e | e <;> omega
              show TGo X ([(h, .inr (3, [.int (iI ((P : Nat) : Int)), .int (iI ((Sc : Nat) : Int)), .int (iI m), .ref qam, .ref qrat, .ref qrm, .ref hw, .ref hsh, .ref ht])), (qam, .inl (cM, 8, .inr (.inr (.inr (.inr (fun i => some (ad i))))))), ((ad α), .inr (0, [.ref (ro α), .int (iI 1), .int (iI (bz w0)), .int (iI (bz n0)), .int (iI c0)])), ((ro α), .inl (cI, 36, .inl (dg V0))), (hw, .inr (2, [.ref qrow, .ref qfac, .int (iI (bz n0)), .int (iI (bz g2))])), (qrow, .inl (cI, 72, .inl (dg V2)))] ++ RR1 ad ro cI cs α) 0 0 103 [(6, .int (iI ((tcsh ca c0 : Nat) : Int))), (5, .ref (ad α)), (0, .ref h), (1, .int (iI ((ρ : Nat) : Int))), (2, .int (iI ((α : Nat) : Int))), (3, .int (iI k)), (4, .int (iI (bz ca)))] [.int (iI z)]
              refine TGo.subT (w' := [(h, .inr (3, [.int (iI ((P : Nat) : Int)), .int (iI ((Sc : Nat) : Int)), .int (iI m), .ref qam, .ref qrat, .ref qrm, .ref hw, .ref hsh, .ref ht])), (qam, .inl (cM, 8, .inr (.inr (.inr (.inr (fun i => some (ad i))))))), (hw, .inr (2, [.ref qrow, .ref qfac, .int (iI (bz n0)), .int (iI (bz g2))])), (qrow, .inl (cI, 72, .inl (dg V2))), ((ad α), .inr (0, [.ref (ro α), .int (iI 1), .int (iI (bz w0)), .int (iI (bz n0)), .int (iI c0)])), ((ro α), .inl (cI, 36, .inl (dg V0)))]) (RR1 ad ro cI cs α) [0, 1, 4, 5, 2, 3] (by decide) rfl ?_
              refine go_if_ne O dX3_round_103 109 (by decide) 106 rfl (by omega) (fun h103 => ?_) (fun h103 => ?_)
              · obtain ⟨_, hx, hV2, rfl⟩ := hz.resolve_right (fun e => by omega)
                subst hV2
                show TGo X ([(h, .inr (3, [.int (iI ((P : Nat) : Int)), .int (iI ((Sc : Nat) : Int)), .int (iI m), .ref qam, .ref qrat, .ref qrm, .ref hw, .ref hsh, .ref ht])), (qam, .inl (cM, 8, .inr (.inr (.inr (.inr (fun i => some (ad i))))))), (hw, .inr (2, [.ref qrow, .ref qfac, .int (iI (bz n0)), .int (iI 0)])), (qrow, .inl (cI, 72, .inl (dg (trnd k n0 (V0 / (tcsh ca c0 * 10 ^ (10 - tdig c0))) (V0 % (tcsh ca c0 * 10 ^ (10 - tdig c0))) (tcsh ca c0 * 10 ^ (10 - tdig c0)) * (tcsh ca c0 * 10 ^ (10 - tdig c0)) * 10 ^ 10)))), ((ad α), .inr (0, [.ref (ro α), .int (iI 1), .int (iI (bz w0)), .int (iI (bz n0)), .int (iI c0)])), ((ro α), .inl (cI, 36, .inl (dg V0)))] ++ RR1 ad ro cI cs α) 0 0 109 [(6, .int (iI ((tcsh ca c0 : Nat) : Int))), (5, .ref (ad α)), (0, .ref h), (1, .int (iI ((ρ : Nat) : Int))), (2, .int (iI ((α : Nat) : Int))), (3, .int (iI k)), (4, .int (iI (bz ca)))] []
                refine go_aload_n O dX3_round_109 rfl 2 rfl 110 rfl ?_
                refine go_iload_n O dX3_round_110 rfl 3 rfl 111 rfl ?_
                refine go_aload O dX3_round_111 1 rfl 113 rfl ?_
                refine go_get O hK dX3_round_113 hinX0 4 rfl rfl 2 (by decide) flX3_97 rfl 116 rfl ?_
                refine go_aload O dX3_round_116 1 rfl 118 rfl ?_
                refine go_get O hK dX3_round_118 hinX0 4 rfl rfl 4 (by decide) flX3_100 rfl 121 rfl ?_
                refine TGo.backC0 [(h, .inr (3, [.int (iI ((P : Nat) : Int)), .int (iI ((Sc : Nat) : Int)), .int (iI m), .ref qam, .ref qrat, .ref qrm, .ref hw, .ref hsh, .ref ht])), (qam, .inl (cM, 8, .inr (.inr (.inr (.inr (fun i => some (ad i))))))), (hw, .inr (2, [.ref qrow, .ref qfac, .int (iI (bz n0)), .int (iI 0)])), (qrow, .inl (cI, 72, .inl (dg (trnd k n0 (V0 / (tcsh ca c0 * 10 ^ (10 - tdig c0))) (V0 % (tcsh ca c0 * 10 ^ (10 - tdig c0))) (tcsh ca c0 * 10 ^ (10 - tdig c0)) * (tcsh ca c0 * 10 ^ (10 - tdig c0)) * 10 ^ 10))))] α (by omega) hcs ?_
                show TGo X ([(h, .inr (3, [.int (iI ((P : Nat) : Int)), .int (iI ((Sc : Nat) : Int)), .int (iI m), .ref qam, .ref qrat, .ref qrm, .ref hw, .ref hsh, .ref ht])), (qam, .inl (cM, 8, .inr (.inr (.inr (.inr (fun i => some (ad i))))))), (hw, .inr (2, [.ref qrow, .ref qfac, .int (iI (bz n0)), .int (iI 0)])), (qrow, .inl (cI, 72, .inl (dg (trnd k n0 (V0 / (tcsh ca c0 * 10 ^ (10 - tdig c0))) (V0 % (tcsh ca c0 * 10 ^ (10 - tdig c0))) (tcsh ca c0 * 10 ^ (10 - tdig c0)) * (tcsh ca c0 * 10 ^ (10 - tdig c0)) * 10 ^ 10))))] ++ RB ad ro cI cs) 0 0 121 [(6, .int (iI ((tcsh ca c0 : Nat) : Int))), (5, .ref (ad α)), (0, .ref h), (1, .int (iI ((ρ : Nat) : Int))), (2, .int (iI ((α : Nat) : Int))), (3, .int (iI k)), (4, .int (iI (bz ca)))] [.int (iI c0), .int (iI (bz w0)), .int (iI ((ρ : Nat) : Int)), .ref h]
                refine go_calliVU (As := [.int (iI ((ρ : Nat) : Int)), .int (iI (bz w0)), .int (iI c0)]) (rest := []) (wr := []) (RB ad ro cI cs) O hK hE (c_X3_store E hE hN h qam qrat qrm hw hsh ht qrow qfac cI cM ad ro cs P Sc m n0 false w0 ρ (trnd k n0 (V0 / (tcsh ca c0 * 10 ^ (10 - tdig c0))) (V0 % (tcsh ca c0 * 10 ^ (10 - tdig c0))) (tcsh ca c0 * 10 ^ (10 - tdig c0)) * (tcsh ca c0 * 10 ^ (10 - tdig c0)) * 10 ^ 10) c0 (by omega) (by have := rnd_bd2 (k := k) (b := n0) hV0 hD; omega)) mlX3_107 imX3_store seX3_store inX3 cdX3_store 3 (by decide +kernel) ⟨Nat.le_of_ble_eq_true rfl, Nat.le_of_ble_eq_true rfl⟩ 0 rfl rfl [0, 1] rfl [0, 1, 2, 3] rfl (by decide) [] rfl (by decide) (by decide) rfl rfl (Nat.le_of_ble_eq_true rfl) ⟨Nat.zero_le _, Nat.zero_le _⟩ dX3_round_121 124 rfl (fun z u hu => ?_)
                obtain ⟨cs2, rfl⟩ : ∃ y, y = u := ⟨_, rfl⟩
                obtain ⟨rfl, hcs2⟩ := hu
                show TGo X ([(h, .inr (3, [.int (iI ((P : Nat) : Int)), .int (iI ((Sc : Nat) : Int)), .int (iI m), .ref qam, .ref qrat, .ref qrm, .ref hw, .ref hsh, .ref ht])), (qam, .inl (cM, 8, .inr (.inr (.inr (.inr (fun i => some (ad i))))))), (hw, .inr (2, [.ref qrow, .ref qfac, .int (iI (bz n0)), .int (iI 0)])), (qrow, .inl (cI, 72, .inl (dg (trnd k n0 (V0 / (tcsh ca c0 * 10 ^ (10 - tdig c0))) (V0 % (tcsh ca c0 * 10 ^ (10 - tdig c0))) (tcsh ca c0 * 10 ^ (10 - tdig c0)) * (tcsh ca c0 * 10 ^ (10 - tdig c0)) * 10 ^ 10))))] ++ RB ad ro cI cs2) 0 0 124 [(6, .int (iI ((tcsh ca c0 : Nat) : Int))), (5, .ref (ad α)), (0, .ref h), (1, .int (iI ((ρ : Nat) : Int))), (2, .int (iI ((α : Nat) : Int))), (3, .int (iI k)), (4, .int (iI (bz ca)))] [.int (iI (ansO (tsto w0 n0 (trnd k n0 (V0 / (tcsh ca c0 * 10 ^ (10 - tdig c0))) (V0 % (tcsh ca c0 * 10 ^ (10 - tdig c0))) (tcsh ca c0 * 10 ^ (10 - tdig c0)) * (tcsh ca c0 * 10 ^ (10 - tdig c0)) * 10 ^ 10) false)))]
                have he := spRnd_ok (ca := ca) hb3 hq hx
                rw [← tsto_fit] at he
                exact hret _ _ _ (dg (trnd k n0 (V0 / (tcsh ca c0 * 10 ^ (10 - tdig c0))) (V0 % (tcsh ca c0 * 10 ^ (10 - tdig c0))) (tcsh ca c0 * 10 ^ (10 - tdig c0)) * (tcsh ca c0 * 10 ^ (10 - tdig c0)) * 10 ^ 10), n0, false, cs2) dX3_round_124 rfl ⟨by rw [he], by rw [he]; exact hcs2⟩
              · refine TGo.backC0 [(h, .inr (3, [.int (iI ((P : Nat) : Int)), .int (iI ((Sc : Nat) : Int)), .int (iI m), .ref qam, .ref qrat, .ref qrm, .ref hw, .ref hsh, .ref ht])), (qam, .inl (cM, 8, .inr (.inr (.inr (.inr (fun i => some (ad i))))))), (hw, .inr (2, [.ref qrow, .ref qfac, .int (iI (bz n0)), .int (iI (bz g2))])), (qrow, .inl (cI, 72, .inl (dg V2)))] α (by omega) hcs ?_
                show TGo X ([(h, .inr (3, [.int (iI ((P : Nat) : Int)), .int (iI ((Sc : Nat) : Int)), .int (iI m), .ref qam, .ref qrat, .ref qrm, .ref hw, .ref hsh, .ref ht])), (qam, .inl (cM, 8, .inr (.inr (.inr (.inr (fun i => some (ad i))))))), (hw, .inr (2, [.ref qrow, .ref qfac, .int (iI (bz n0)), .int (iI (bz g2))])), (qrow, .inl (cI, 72, .inl (dg V2)))] ++ RB ad ro cI cs) 0 0 106 [(6, .int (iI ((tcsh ca c0 : Nat) : Int))), (5, .ref (ad α)), (0, .ref h), (1, .int (iI ((ρ : Nat) : Int))), (2, .int (iI ((α : Nat) : Int))), (3, .int (iI k)), (4, .int (iI (bz ca)))] []
                refine go_bipush O dX3_round_106 (by decide) 108 rfl ?_
                have he := spRnd_x (ca := ca) hb3 hq (hz.resolve_left (fun e => by omega)).2
                exact hret _ _ _ (dg V2, n0, g2, cs) dX3_round_108 rfl ⟨by rw [he], by rw [he]⟩
        · refine go_bipush O dX3_round_24 (by decide) 26 rfl ?_
          have he := spRnd_bad (reg := rof cs) (r := r) (a := a) (k := k) (ca := ca) (by omega)
          exact hret _ _ _ (fw, ng, go, cs) dX3_round_26 rfl ⟨by rw [he], by rw [he]⟩
