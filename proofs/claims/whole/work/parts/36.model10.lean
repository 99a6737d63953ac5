set_option maxHeartbeats 4000000 in
set_option maxRecDepth 100000 in
/-- sum -/
theorem c_X4_sum (E : TEn) (hE : EnvOk E) (h : Nat) (fs : List Value) {p s m : Int} {qbase qden qnum qquo qrem qother qcurrency qisWide qnegative qkept qunits : Nat} (f_p : fs[0]? = some (.int (iI p))) (f_s : fs[1]? = some (.int (iI s))) (f_m : fs[2]? = some (.int (iI m))) (f_base : fs[11]? = some (.ref qbase)) (f_den : fs[12]? = some (.ref qden)) (f_num : fs[10]? = some (.ref qnum)) (f_quo : fs[13]? = some (.ref qquo)) (f_rem : fs[14]? = some (.ref qrem)) (f_other : fs[15]? = some (.ref qother)) (f_currency : fs[3]? = some (.ref qcurrency)) (f_isWide : fs[4]? = some (.ref qisWide)) (f_negative : fs[5]? = some (.ref qnegative)) (f_kept : fs[6]? = some (.ref qkept)) (f_units : fs[16]? = some (.ref qunits)) (cI cZ : ClassId) (P Sc : Nat) (hp : p = (P : Int)) (hP : 19 ≤ P ∧ P ≤ 30) (hs : s = (Sc : Int)) (hS : 5 ≤ Sc ∧ Sc ≤ 10) (hm : 0 ≤ m ∧ m ≤ 6) (fnum fb fd fq fr fo fu fc fw fn K : Nat → Int32) (reg : Rg) (r a b : Int) (hr : r32 r) (ha : r32 a) (hb : r32 b) (turn : Bool) (hMR : MR fc fw fn K reg) : Cti vwCl E yX4_sum wsX4_sum (rmn 4 99) [.ref h, .int (iI r), .int (iI a), .int (iI b), .int (iI (bz turn))] [(h, .inr (4, fs)), (qnum, .inl (cI, 80, .inl fnum)), (qbase, .inl (cI, 80, .inl fb)), (qden, .inl (cI, 80, .inl fd)), (qquo, .inl (cI, 80, .inl fq)), (qrem, .inl (cI, 80, .inl fr)), (qother, .inl (cI, 80, .inl fo)), (qunits, .inl (cI, 80, .inl fu)), (qcurrency, .inl (cI, 8, .inl fc)), (qisWide, .inl (cZ, 8, .inl fw)), (qnegative, .inl (cZ, 8, .inl fn)), (qkept, .inl (cI, 320, .inl K))] [(cI, .int), (cZ, .boolean)] (fun (z : Int) (u : (Nat → Int32) × (Nat → Int32) × (Nat → Int32) × (Nat → Int32) × (Nat → Int32) × (Nat → Int32) × (Nat → Int32) × (Nat → Int32) × (Nat → Int32) × (Nat → Int32) × (Nat → Int32)) => z = (spSum P Sc m reg r a b turn).1 ∧ MR u.2.2.2.2.2.2.2.1 u.2.2.2.2.2.2.2.2.1 u.2.2.2.2.2.2.2.2.2.1 u.2.2.2.2.2.2.2.2.2.2 (spSum P Sc m reg r a b turn).2) (fun u => [(h, .inr (4, fs)), (qnum, .inl (cI, 80, .inl u.1)), (qbase, .inl (cI, 80, .inl u.2.1)), (qden, .inl (cI, 80, .inl u.2.2.1)), (qquo, .inl (cI, 80, .inl u.2.2.2.1)), (qrem, .inl (cI, 80, .inl u.2.2.2.2.1)), (qother, .inl (cI, 80, .inl u.2.2.2.2.2.1)), (qunits, .inl (cI, 80, .inl u.2.2.2.2.2.2.1)), (qcurrency, .inl (cI, 8, .inl u.2.2.2.2.2.2.2.1)), (qisWide, .inl (cZ, 8, .inl u.2.2.2.2.2.2.2.2.1)), (qnegative, .inl (cZ, 8, .inl u.2.2.2.2.2.2.2.2.2.1)), (qkept, .inl (cI, 320, .inl u.2.2.2.2.2.2.2.2.2.2))]) := by
  refine enteri (by decide) (Nat.le_of_ble_eq_true rfl) ?_
  intro X O hK hin2 hret
  show TGo X [(h, .inr (4, fs)), (qnum, .inl (cI, 80, .inl fnum)), (qbase, .inl (cI, 80, .inl fb)), (qden, .inl (cI, 80, .inl fd)), (qquo, .inl (cI, 80, .inl fq)), (qrem, .inl (cI, 80, .inl fr)), (qother, .inl (cI, 80, .inl fo)), (qunits, .inl (cI, 80, .inl fu)), (qcurrency, .inl (cI, 8, .inl fc)), (qisWide, .inl (cZ, 8, .inl fw)), (qnegative, .inl (cZ, 8, .inl fn)), (qkept, .inl (cI, 320, .inl K))] 0 0 0 [(0, .ref h), (1, .int (iI r)), (2, .int (iI a)), (3, .int (iI b)), (4, .int (iI (bz turn)))] []
  have o1 := tout_i (x := r) (e := 8)
  have o2 := tout_i (x := a) (e := 8)
  have o3 := tout_i (x := b) (e := 8)
  have bt := bz_01 turn
  refine go_iload_n O dX4_sum_0 rfl 1 rfl 1 rfl ?_
  refine go_bipush O dX4_sum_1 (by decide) 3 rfl ?_
  refine go_calliS (rest := []) (wr := [(h, .inr (4, fs)), (qnum, .inl (cI, 80, .inl fnum)), (qbase, .inl (cI, 80, .inl fb)), (qden, .inl (cI, 80, .inl fd)), (qquo, .inl (cI, 80, .inl fq)), (qrem, .inl (cI, 80, .inl fr)), (qother, .inl (cI, 80, .inl fo)), (qunits, .inl (cI, 80, .inl fu)), (qcurrency, .inl (cI, 8, .inl fc)), (qisWide, .inl (cZ, 8, .inl fw)), (qnegative, .inl (cZ, 8, .inl fn)), (qkept, .inl (cI, 320, .inl K))]) O hK hE (c_X4_outside E hE r 8 (by omega) (by omega)) mlX4_123 smX4_outside inX4 cdX4_outside 2 (by decide +kernel) ⟨Nat.le_of_ble_eq_true rfl, Nat.le_of_ble_eq_true rfl⟩ [] rfl [] rfl (by decide) [0, 1, 2, 3, 4, 5, 6, 7, 8, 9, 10, 11] rfl (by decide) (by decide) rfl rfl (Nat.le_of_ble_eq_true rfl) ⟨Nat.zero_le _, Nat.zero_le _⟩ dX4_sum_3 6 rfl (fun z u hu => ?_)
  subst hu
  show TGo X [(h, .inr (4, fs)), (qnum, .inl (cI, 80, .inl fnum)), (qbase, .inl (cI, 80, .inl fb)), (qden, .inl (cI, 80, .inl fd)), (qquo, .inl (cI, 80, .inl fq)), (qrem, .inl (cI, 80, .inl fr)), (qother, .inl (cI, 80, .inl fo)), (qunits, .inl (cI, 80, .inl fu)), (qcurrency, .inl (cI, 8, .inl fc)), (qisWide, .inl (cZ, 8, .inl fw)), (qnegative, .inl (cZ, 8, .inl fn)), (qkept, .inl (cI, 320, .inl K))] 0 0 6 [(0, .ref h), (1, .int (iI r)), (2, .int (iI a)), (3, .int (iI b)), (4, .int (iI (bz turn)))] [.int (iI (bz (tout r 8)))]
  refine go_if_ne O dX4_sum_6 27 (by decide) 9 rfl (bz_r _) (fun h6 => ?_) (fun h6 => ?_)
  · refine go_bipush O dX4_sum_27 (by decide) 29 rfl ?_
    have he := spSum_bad (P := P) (Sc := Sc) (m := m) (reg := reg) (r := r) (a := a) (b := b) (turn := turn) (by omega)
    exact hret _ _ _ (fnum, fb, fd, fq, fr, fo, fu, fc, fw, fn, K) dX4_sum_29 rfl ⟨by rw [he], by rw [he]; exact hMR⟩
  · refine go_iload_n O dX4_sum_9 rfl 2 rfl 10 rfl ?_
    refine go_bipush O dX4_sum_10 (by decide) 12 rfl ?_
    refine go_calliS (rest := []) (wr := [(h, .inr (4, fs)), (qnum, .inl (cI, 80, .inl fnum)), (qbase, .inl (cI, 80, .inl fb)), (qden, .inl (cI, 80, .inl fd)), (qquo, .inl (cI, 80, .inl fq)), (qrem, .inl (cI, 80, .inl fr)), (qother, .inl (cI, 80, .inl fo)), (qunits, .inl (cI, 80, .inl fu)), (qcurrency, .inl (cI, 8, .inl fc)), (qisWide, .inl (cZ, 8, .inl fw)), (qnegative, .inl (cZ, 8, .inl fn)), (qkept, .inl (cI, 320, .inl K))]) O hK hE (c_X4_outside E hE a 8 (by omega) (by omega)) mlX4_123 smX4_outside inX4 cdX4_outside 2 (by decide +kernel) ⟨Nat.le_of_ble_eq_true rfl, Nat.le_of_ble_eq_true rfl⟩ [] rfl [] rfl (by decide) [0, 1, 2, 3, 4, 5, 6, 7, 8, 9, 10, 11] rfl (by decide) (by decide) rfl rfl (Nat.le_of_ble_eq_true rfl) ⟨Nat.zero_le _, Nat.zero_le _⟩ dX4_sum_12 15 rfl (fun z u hu => ?_)
    subst hu
    show TGo X [(h, .inr (4, fs)), (qnum, .inl (cI, 80, .inl fnum)), (qbase, .inl (cI, 80, .inl fb)), (qden, .inl (cI, 80, .inl fd)), (qquo, .inl (cI, 80, .inl fq)), (qrem, .inl (cI, 80, .inl fr)), (qother, .inl (cI, 80, .inl fo)), (qunits, .inl (cI, 80, .inl fu)), (qcurrency, .inl (cI, 8, .inl fc)), (qisWide, .inl (cZ, 8, .inl fw)), (qnegative, .inl (cZ, 8, .inl fn)), (qkept, .inl (cI, 320, .inl K))] 0 0 15 [(0, .ref h), (1, .int (iI r)), (2, .int (iI a)), (3, .int (iI b)), (4, .int (iI (bz turn)))] [.int (iI (bz (tout a 8)))]
    refine go_if_ne O dX4_sum_15 27 (by decide) 18 rfl (bz_r _) (fun h15 => ?_) (fun h15 => ?_)
    · refine go_bipush O dX4_sum_27 (by decide) 29 rfl ?_
      have he := spSum_bad (P := P) (Sc := Sc) (m := m) (reg := reg) (r := r) (a := a) (b := b) (turn := turn) (by omega)
      exact hret _ _ _ (fnum, fb, fd, fq, fr, fo, fu, fc, fw, fn, K) dX4_sum_29 rfl ⟨by rw [he], by rw [he]; exact hMR⟩
    · refine go_iload_n O dX4_sum_18 rfl 3 rfl 19 rfl ?_
      refine go_bipush O dX4_sum_19 (by decide) 21 rfl ?_
      refine go_calliS (rest := []) (wr := [(h, .inr (4, fs)), (qnum, .inl (cI, 80, .inl fnum)), (qbase, .inl (cI, 80, .inl fb)), (qden, .inl (cI, 80, .inl fd)), (qquo, .inl (cI, 80, .inl fq)), (qrem, .inl (cI, 80, .inl fr)), (qother, .inl (cI, 80, .inl fo)), (qunits, .inl (cI, 80, .inl fu)), (qcurrency, .inl (cI, 8, .inl fc)), (qisWide, .inl (cZ, 8, .inl fw)), (qnegative, .inl (cZ, 8, .inl fn)), (qkept, .inl (cI, 320, .inl K))]) O hK hE (c_X4_outside E hE b 8 (by omega) (by omega)) mlX4_123 smX4_outside inX4 cdX4_outside 2 (by decide +kernel) ⟨Nat.le_of_ble_eq_true rfl, Nat.le_of_ble_eq_true rfl⟩ [] rfl [] rfl (by decide) [0, 1, 2, 3, 4, 5, 6, 7, 8, 9, 10, 11] rfl (by decide) (by decide) rfl rfl (Nat.le_of_ble_eq_true rfl) ⟨Nat.zero_le _, Nat.zero_le _⟩ dX4_sum_21 24 rfl (fun z u hu => ?_)
      subst hu
      show TGo X [(h, .inr (4, fs)), (qnum, .inl (cI, 80, .inl fnum)), (qbase, .inl (cI, 80, .inl fb)), (qden, .inl (cI, 80, .inl fd)), (qquo, .inl (cI, 80, .inl fq)), (qrem, .inl (cI, 80, .inl fr)), (qother, .inl (cI, 80, .inl fo)), (qunits, .inl (cI, 80, .inl fu)), (qcurrency, .inl (cI, 8, .inl fc)), (qisWide, .inl (cZ, 8, .inl fw)), (qnegative, .inl (cZ, 8, .inl fn)), (qkept, .inl (cI, 320, .inl K))] 0 0 24 [(0, .ref h), (1, .int (iI r)), (2, .int (iI a)), (3, .int (iI b)), (4, .int (iI (bz turn)))] [.int (iI (bz (tout b 8)))]
      refine go_if_eq O dX4_sum_24 30 (by decide) 27 rfl (bz_r _) (fun h24 => ?_) (fun h24 => ?_)
      · obtain ⟨ρ, rfl⟩ : ∃ ρ : Nat, r = (ρ : Int) := ⟨r.toNat, by omega⟩
        obtain ⟨α, rfl⟩ : ∃ α : Nat, a = (α : Int) := ⟨a.toNat, by omega⟩
        obtain ⟨β, rfl⟩ : ∃ β : Nat, b = (β : Int) := ⟨b.toNat, by omega⟩
        have hα := hMR α (by omega)
        have hβ := hMR β (by omega)
        have hb3 : ρ < 8 ∧ α < 8 ∧ β < 8 := by omega
        rcases hq : reg α with _ | ⟨c0, w0, n0, V0⟩
        · rw [hq] at hα
          refine go_aload_n O dX4_sum_30 rfl 0 rfl 31 rfl ?_
          refine go_get O hK dX4_sum_31 hinX4 0 rfl rfl 3 (by decide) flX4_7 f_currency 34 rfl ?_
          refine go_iload_n O dX4_sum_34 rfl 2 rfl 35 rfl ?_
          refine go_iald O hK dX4_sum_35 8 0 rfl rfl α rfl (by omega) (by omega) (-1) hα 36 rfl ?_
          refine go_if_lt O dX4_sum_36 48 (by decide) 39 rfl (by omega) (fun h36 => ?_) (fun h36 => by omega)
          refine go_bipush O dX4_sum_48 (by decide) 50 rfl ?_
          have he := spSum_n1 (P := P) (Sc := Sc) (m := m) (turn := turn) hb3 hq
          exact hret _ _ _ (fnum, fb, fd, fq, fr, fo, fu, fc, fw, fn, K) dX4_sum_50 rfl ⟨by rw [he], by rw [he]; exact hMR⟩
        · rw [hq] at hα
          obtain ⟨hc0, e1, e2, e3, hV0, hz0, hK0⟩ := hα
          have b0 := bz_01 n0
          have b1 := bz_01 w0
          rcases hq2 : reg β with _ | ⟨c2, w2, n2, V2⟩
          · rw [hq2] at hβ
            refine go_aload_n O dX4_sum_30 rfl 0 rfl 31 rfl ?_
            refine go_get O hK dX4_sum_31 hinX4 0 rfl rfl 3 (by decide) flX4_7 f_currency 34 rfl ?_
            refine go_iload_n O dX4_sum_34 rfl 2 rfl 35 rfl ?_
            refine go_iald O hK dX4_sum_35 8 0 rfl rfl α rfl (by omega) (by omega) c0 e1 36 rfl ?_
            refine go_if_lt O dX4_sum_36 48 (by decide) 39 rfl (by omega) (fun h36 => by omega) (fun h36 => ?_)
            refine go_aload_n O dX4_sum_39 rfl 0 rfl 40 rfl ?_
            refine go_get O hK dX4_sum_40 hinX4 0 rfl rfl 3 (by decide) flX4_7 f_currency 43 rfl ?_
            refine go_iload_n O dX4_sum_43 rfl 3 rfl 44 rfl ?_
            refine go_iald O hK dX4_sum_44 8 0 rfl rfl β rfl (by omega) (by omega) (-1) hβ 45 rfl ?_
            refine go_if_ge O dX4_sum_45 51 (by decide) 48 rfl (by omega) (fun h45 => by omega) (fun h45 => ?_)
            refine go_bipush O dX4_sum_48 (by decide) 50 rfl ?_
            have he := spSum_n2 (P := P) (Sc := Sc) (m := m) (turn := turn) hb3 hq2
            exact hret _ _ _ (fnum, fb, fd, fq, fr, fo, fu, fc, fw, fn, K) dX4_sum_50 rfl ⟨by rw [he], by rw [he]; exact hMR⟩
          · rw [hq2] at hβ
            obtain ⟨hc2, f1, f2, f3, hV2, hz2, hK2⟩ := hβ
            have b2 := bz_01 n2
            have b3 := bz_01 w2
            refine go_aload_n O dX4_sum_30 rfl 0 rfl 31 rfl ?_
            refine go_get O hK dX4_sum_31 hinX4 0 rfl rfl 3 (by decide) flX4_7 f_currency 34 rfl ?_
            refine go_iload_n O dX4_sum_34 rfl 2 rfl 35 rfl ?_
            refine go_iald O hK dX4_sum_35 8 0 rfl rfl α rfl (by omega) (by omega) c0 e1 36 rfl ?_
            refine go_if_lt O dX4_sum_36 48 (by decide) 39 rfl (by omega) (fun h36 => by omega) (fun h36 => ?_)
            refine go_aload_n O dX4_sum_39 rfl 0 rfl 40 rfl ?_
            refine go_get O hK dX4_sum_40 hinX4 0 rfl rfl 3 (by decide) flX4_7 f_currency 43 rfl ?_
            refine go_iload_n O dX4_sum_43 rfl 3 rfl 44 rfl ?_
            refine go_iald O hK dX4_sum_44 8 0 rfl rfl β rfl (by omega) (by omega) c2 f1 45 rfl ?_
            refine go_if_ge O dX4_sum_45 51 (by decide) 48 rfl (by omega) (fun h45 => ?_) (fun h45 => by omega)
            refine go_aload_n O dX4_sum_51 rfl 0 rfl 52 rfl ?_
            refine go_get O hK dX4_sum_52 hinX4 0 rfl rfl 3 (by decide) flX4_7 f_currency 55 rfl ?_
            refine go_iload_n O dX4_sum_55 rfl 2 rfl 56 rfl ?_
            refine go_iald O hK dX4_sum_56 8 0 rfl rfl α rfl (by omega) (by omega) c0 e1 57 rfl ?_
            refine go_aload_n O dX4_sum_57 rfl 0 rfl 58 rfl ?_
            refine go_get O hK dX4_sum_58 hinX4 0 rfl rfl 3 (by decide) flX4_7 f_currency 61 rfl ?_
            refine go_iload_n O dX4_sum_61 rfl 3 rfl 62 rfl ?_
            refine go_iald O hK dX4_sum_62 8 0 rfl rfl β rfl (by omega) (by omega) c2 f1 63 rfl ?_
            refine go_icmp_ne O dX4_sum_63 81 (by decide) 66 rfl (by omega) (by omega) (fun h63 => ?_) (fun h63 => ?_)
            · refine go_bipush O dX4_sum_81 (by decide) 83 rfl ?_
              have he := spSum_mis (P := P) (Sc := Sc) (m := m) (turn := turn) hb3 hq hq2 (fun e => h63 e.2)
              exact hret _ _ _ (fnum, fb, fd, fq, fr, fo, fu, fc, fw, fn, K) dX4_sum_83 rfl ⟨by rw [he], by rw [he]; exact hMR⟩
            · refine go_aload_n O dX4_sum_66 rfl 0 rfl 67 rfl ?_
              refine go_get O hK dX4_sum_67 hinX4 0 rfl rfl 4 (by decide) flX4_13 f_isWide 70 rfl ?_
              refine go_iload_n O dX4_sum_70 rfl 2 rfl 71 rfl ?_
              refine go_zald O hK dX4_sum_71 9 1 rfl rfl α rfl (by omega) (by omega) (bz w0) e2 72 rfl ?_
              refine go_aload_n O dX4_sum_72 rfl 0 rfl 73 rfl ?_
              refine go_get O hK dX4_sum_73 hinX4 0 rfl rfl 4 (by decide) flX4_13 f_isWide 76 rfl ?_
              refine go_iload_n O dX4_sum_76 rfl 3 rfl 77 rfl ?_
              refine go_zald O hK dX4_sum_77 9 1 rfl rfl β rfl (by omega) (by omega) (bz w2) f2 78 rfl ?_
              refine go_icmp_eq O dX4_sum_78 84 (by decide) 81 rfl (by omega) (by omega) (fun h78 => ?_) (fun h78 => ?_)
              · refine go_aload_n O dX4_sum_84 rfl 0 rfl 85 rfl ?_
                refine go_get O hK dX4_sum_85 hinX4 0 rfl rfl 5 (by decide) flX4_17 f_negative 88 rfl ?_
                refine go_iload_n O dX4_sum_88 rfl 2 rfl 89 rfl ?_
                refine go_zald O hK dX4_sum_89 10 1 rfl rfl α rfl (by omega) (by omega) (bz n0) e3 90 rfl ?_
                refine go_istore O dX4_sum_90 (by decide) [(5, .int (iI (bz n0))), (0, .ref h), (1, .int (iI ((ρ : Nat) : Int))), (2, .int (iI ((α : Nat) : Int))), (3, .int (iI ((β : Nat) : Int))), (4, .int (iI (bz turn)))] rfl 92 rfl ?_
                refine go_aload_n O dX4_sum_92 rfl 1 rfl 93 rfl ?_
                refine go_get O hK dX4_sum_93 hinX4 0 rfl rfl 5 (by decide) flX4_17 f_negative 96 rfl ?_
                refine go_iload_n O dX4_sum_96 rfl 4 rfl 97 rfl ?_
                refine go_zald O hK dX4_sum_97 10 1 rfl rfl β rfl (by omega) (by omega) (bz n2) f3 98 rfl ?_
                refine go_iload O dX4_sum_98 5 rfl 100 rfl ?_
                refine go_icmp_eq O dX4_sum_100 107 (by decide) 103 rfl (by omega) (by omega) (fun h100 => ?_) (fun h100 => ?_)
                · refine go_iconst O dX4_sum_107 108 rfl ?_
                  refine TGo.topi (y := bz (n2 != turn)) (bxor_0 h100) ?_
                  have b5 := bz_01 (n2 != turn)
                  refine go_istore O dX4_sum_108 (by decide) [(6, .int (iI (bz (n2 != turn)))), (5, .int (iI (bz n0))), (0, .ref h), (1, .int (iI ((ρ : Nat) : Int))), (2, .int (iI ((α : Nat) : Int))), (3, .int (iI ((β : Nat) : Int))), (4, .int (iI (bz turn)))] rfl 110 rfl ?_
                  refine go_aload_n O dX4_sum_110 rfl 2 rfl 111 rfl ?_
                  refine go_aload_n O dX4_sum_111 rfl 2 rfl 112 rfl ?_
                  refine go_get O hK dX4_sum_112 hinX4 0 rfl rfl 10 (by decide) flX4_29 f_num 115 rfl ?_
                  refine go_iload_n O dX4_sum_115 rfl 4 rfl 116 rfl ?_
                  refine go_callvV (As := [.ref qnum, .int (iI ((α : Nat) : Int))]) (rest := []) (wr := [(qbase, .inl (cI, 80, .inl fb)), (qden, .inl (cI, 80, .inl fd)), (qquo, .inl (cI, 80, .inl fq)), (qrem, .inl (cI, 80, .inl fr)), (qother, .inl (cI, 80, .inl fo)), (qunits, .inl (cI, 80, .inl fu)), (qcurrency, .inl (cI, 8, .inl fc)), (qisWide, .inl (cZ, 8, .inl fw)), (qnegative, .inl (cZ, 8, .inl fn))]) O hK hE (c_X4_take E hE h fs f_kept qnum cI K (fnum) α V0 (by omega) (by omega) hK0) mlX4_131 imX4_take seX4_take inX4 cdX4_take 2 (by decide +kernel) ⟨Nat.le_of_ble_eq_true rfl, Nat.le_of_ble_eq_true rfl⟩ 0 rfl rfl [0] rfl [0, 11, 1] rfl (by decide) [2, 3, 4, 5, 6, 7, 8, 9, 10] rfl (by decide) (by decide) rfl rfl (Nat.le_of_ble_eq_true rfl) ⟨Nat.zero_le _, Nat.zero_le _⟩ dX4_sum_116 119 rfl (fun u hu => ?_)
                  show TGo X [(qbase, .inl (cI, 80, .inl fb)), (qden, .inl (cI, 80, .inl fd)), (qquo, .inl (cI, 80, .inl fq)), (qrem, .inl (cI, 80, .inl fr)), (qother, .inl (cI, 80, .inl fo)), (qunits, .inl (cI, 80, .inl fu)), (qcurrency, .inl (cI, 8, .inl fc)), (qisWide, .inl (cZ, 8, .inl fw)), (qnegative, .inl (cZ, 8, .inl fn)), (h, .inr (4, fs)), (qkept, .inl (cI, 320, .inl K)), (qnum, .inl (cI, 80, .inl (dg V0)))] 0 0 119 [(6, .int (iI (bz (n2 != turn)))), (5, .int (iI (bz n0))), (0, .ref h), (1, .int (iI ((ρ : Nat) : Int))), (2, .int (iI ((α : Nat) : Int))), (3, .int (iI ((β : Nat) : Int))), (4, .int (iI (bz turn)))] []
                  refine TGo.sub (ws' := [(h, .inr (4, fs)), (qnum, .inl (cI, 80, .inl (dg V0))), (qbase, .inl (cI, 80, .inl fb)), (qden, .inl (cI, 80, .inl fd)), (qquo, .inl (cI, 80, .inl fq)), (qrem, .inl (cI, 80, .inl fr)), (qother, .inl (cI, 80, .inl fo)), (qunits, .inl (cI, 80, .inl fu)), (qcurrency, .inl (cI, 8, .inl fc)), (qisWide, .inl (cZ, 8, .inl fw)), (qnegative, .inl (cZ, 8, .inl fn)), (qkept, .inl (cI, 320, .inl K))]) [9, 11, 0, 1, 2, 3, 4, 5, 6, 7, 8, 10] (by decide) rfl ?_
                  refine go_aload_n O dX4_sum_119 rfl 2 rfl 120 rfl ?_
                  refine go_aload_n O dX4_sum_120 rfl 2 rfl 121 rfl ?_
                  refine go_get O hK dX4_sum_121 hinX4 0 rfl rfl 16 (by decide) flX4_47 f_units 124 rfl ?_
                  refine go_iload_n O dX4_sum_124 rfl 5 rfl 125 rfl ?_
                  refine go_callvV (As := [.ref qunits, .int (iI ((β : Nat) : Int))]) (rest := []) (wr := [(qnum, .inl (cI, 80, .inl (dg V0))), (qbase, .inl (cI, 80, .inl fb)), (qden, .inl (cI, 80, .inl fd)), (qquo, .inl (cI, 80, .inl fq)), (qrem, .inl (cI, 80, .inl fr)), (qother, .inl (cI, 80, .inl fo)), (qcurrency, .inl (cI, 8, .inl fc)), (qisWide, .inl (cZ, 8, .inl fw)), (qnegative, .inl (cZ, 8, .inl fn))]) O hK hE (c_X4_take E hE h fs f_kept qunits cI K (fu) β V2 (by omega) (by omega) hK2) mlX4_131 imX4_take seX4_take inX4 cdX4_take 2 (by decide +kernel) ⟨Nat.le_of_ble_eq_true rfl, Nat.le_of_ble_eq_true rfl⟩ 0 rfl rfl [0] rfl [0, 11, 7] rfl (by decide) [1, 2, 3, 4, 5, 6, 8, 9, 10] rfl (by decide) (by decide) rfl rfl (Nat.le_of_ble_eq_true rfl) ⟨Nat.zero_le _, Nat.zero_le _⟩ dX4_sum_125 128 rfl (fun u hu => ?_)
                  show TGo X [(qnum, .inl (cI, 80, .inl (dg V0))), (qbase, .inl (cI, 80, .inl fb)), (qden, .inl (cI, 80, .inl fd)), (qquo, .inl (cI, 80, .inl fq)), (qrem, .inl (cI, 80, .inl fr)), (qother, .inl (cI, 80, .inl fo)), (qcurrency, .inl (cI, 8, .inl fc)), (qisWide, .inl (cZ, 8, .inl fw)), (qnegative, .inl (cZ, 8, .inl fn)), (h, .inr (4, fs)), (qkept, .inl (cI, 320, .inl K)), (qunits, .inl (cI, 80, .inl (dg V2)))] 0 0 128 [(6, .int (iI (bz (n2 != turn)))), (5, .int (iI (bz n0))), (0, .ref h), (1, .int (iI ((ρ : Nat) : Int))), (2, .int (iI ((α : Nat) : Int))), (3, .int (iI ((β : Nat) : Int))), (4, .int (iI (bz turn)))] []
                  refine TGo.sub (ws' := [(h, .inr (4, fs)), (qnum, .inl (cI, 80, .inl (dg V0))), (qbase, .inl (cI, 80, .inl fb)), (qden, .inl (cI, 80, .inl fd)), (qquo, .inl (cI, 80, .inl fq)), (qrem, .inl (cI, 80, .inl fr)), (qother, .inl (cI, 80, .inl fo)), (qunits, .inl (cI, 80, .inl (dg V2))), (qcurrency, .inl (cI, 8, .inl fc)), (qisWide, .inl (cZ, 8, .inl fw)), (qnegative, .inl (cZ, 8, .inl fn)), (qkept, .inl (cI, 320, .inl K))]) [9, 0, 1, 2, 3, 4, 5, 11, 6, 7, 8, 10] (by decide) rfl ?_
                  refine go_iload O dX4_sum_128 1 rfl 130 rfl ?_
                  refine go_iload O dX4_sum_130 0 rfl 132 rfl ?_
                  refine go_icmp_ne O dX4_sum_132 149 (by decide) 135 rfl (by omega) (by omega) (fun h132 => ?_) (fun h132 => ?_)
                  · refine go_aload_n O dX4_sum_149 rfl 2 rfl 150 rfl ?_
                    refine go_get O hK dX4_sum_150 hinX4 0 rfl rfl 10 (by decide) flX4_29 f_num 153 rfl ?_
                    refine go_aload_n O dX4_sum_153 rfl 2 rfl 154 rfl ?_
                    refine go_get O hK dX4_sum_154 hinX4 0 rfl rfl 16 (by decide) flX4_47 f_units 157 rfl ?_
                    refine go_calliS (rest := []) (wr := [(h, .inr (4, fs)), (qbase, .inl (cI, 80, .inl fb)), (qden, .inl (cI, 80, .inl fd)), (qquo, .inl (cI, 80, .inl fq)), (qrem, .inl (cI, 80, .inl fr)), (qother, .inl (cI, 80, .inl fo)), (qcurrency, .inl (cI, 8, .inl fc)), (qisWide, .inl (cZ, 8, .inl fw)), (qnegative, .inl (cZ, 8, .inl fn)), (qkept, .inl (cI, 320, .inl K))]) O hK hE (c_X4_order E hE qnum qunits cI V0 V2 (by omega) (by omega)) mlX4_86 smX4_order inX4 cdX4_order 2 (by decide +kernel) ⟨Nat.le_of_ble_eq_true rfl, Nat.le_of_ble_eq_true rfl⟩ [0] rfl [1, 7] rfl (by decide) [0, 2, 3, 4, 5, 6, 8, 9, 10, 11] rfl (by decide) (by decide) rfl rfl (Nat.le_of_ble_eq_true rfl) ⟨Nat.zero_le _, Nat.zero_le _⟩ dX4_sum_157 160 rfl (fun z u hu => ?_)
                    subst hu
                    have hcm := cmpN_ge (a := V0) (b := V2)
                    show TGo X [(h, .inr (4, fs)), (qbase, .inl (cI, 80, .inl fb)), (qden, .inl (cI, 80, .inl fd)), (qquo, .inl (cI, 80, .inl fq)), (qrem, .inl (cI, 80, .inl fr)), (qother, .inl (cI, 80, .inl fo)), (qcurrency, .inl (cI, 8, .inl fc)), (qisWide, .inl (cZ, 8, .inl fw)), (qnegative, .inl (cZ, 8, .inl fn)), (qkept, .inl (cI, 320, .inl K)), (qnum, .inl (cI, 80, .inl (dg V0))), (qunits, .inl (cI, 80, .inl (dg V2)))] 0 0 160 [(6, .int (iI (bz (n2 != turn)))), (5, .int (iI (bz n0))), (0, .ref h), (1, .int (iI ((ρ : Nat) : Int))), (2, .int (iI ((α : Nat) : Int))), (3, .int (iI ((β : Nat) : Int))), (4, .int (iI (bz turn)))] [.int (iI (cmpN V0 V2))]
                    refine TGo.sub (ws' := [(h, .inr (4, fs)), (qnum, .inl (cI, 80, .inl (dg V0))), (qbase, .inl (cI, 80, .inl fb)), (qden, .inl (cI, 80, .inl fd)), (qquo, .inl (cI, 80, .inl fq)), (qrem, .inl (cI, 80, .inl fr)), (qother, .inl (cI, 80, .inl fo)), (qunits, .inl (cI, 80, .inl (dg V2))), (qcurrency, .inl (cI, 8, .inl fc)), (qisWide, .inl (cZ, 8, .inl fw)), (qnegative, .inl (cZ, 8, .inl fn)), (qkept, .inl (cI, 320, .inl K))]) [0, 10, 1, 2, 3, 4, 5, 11, 6, 7, 8, 9] (by decide) rfl ?_
                    refine go_if_lt O dX4_sum_160 177 (by decide) 163 rfl (cmpN_r _ _) (fun h160 => ?_) (fun h160 => ?_)
                    · refine go_aload_n O dX4_sum_177 rfl 2 rfl 178 rfl ?_
                      refine go_get O hK dX4_sum_178 hinX4 0 rfl rfl 16 (by decide) flX4_47 f_units 181 rfl ?_
                      refine go_aload_n O dX4_sum_181 rfl 2 rfl 182 rfl ?_
                      refine go_get O hK dX4_sum_182 hinX4 0 rfl rfl 10 (by decide) flX4_29 f_num 185 rfl ?_
                      refine go_callvS (rest := []) (wr := [(h, .inr (4, fs)), (qbase, .inl (cI, 80, .inl fb)), (qden, .inl (cI, 80, .inl fd)), (qquo, .inl (cI, 80, .inl fq)), (qrem, .inl (cI, 80, .inl fr)), (qother, .inl (cI, 80, .inl fo)), (qcurrency, .inl (cI, 8, .inl fc)), (qisWide, .inl (cZ, 8, .inl fw)), (qnegative, .inl (cZ, 8, .inl fn)), (qkept, .inl (cI, 320, .inl K))]) O hK hE (c_X4_decrease E hE qunits qnum cI V2 V0 (by omega)) mlX4_90 smX4_decrease inX4 cdX4_decrease 2 (by decide +kernel) ⟨Nat.le_of_ble_eq_true rfl, Nat.le_of_ble_eq_true rfl⟩ [0] rfl [7, 1] rfl (by decide) [0, 2, 3, 4, 5, 6, 8, 9, 10, 11] rfl (by decide) (by decide) rfl rfl (Nat.le_of_ble_eq_true rfl) ⟨Nat.zero_le _, Nat.zero_le _⟩ dX4_sum_185 188 rfl (fun u hu => ?_)
                      show TGo X [(h, .inr (4, fs)), (qbase, .inl (cI, 80, .inl fb)), (qden, .inl (cI, 80, .inl fd)), (qquo, .inl (cI, 80, .inl fq)), (qrem, .inl (cI, 80, .inl fr)), (qother, .inl (cI, 80, .inl fo)), (qcurrency, .inl (cI, 8, .inl fc)), (qisWide, .inl (cZ, 8, .inl fw)), (qnegative, .inl (cZ, 8, .inl fn)), (qkept, .inl (cI, 320, .inl K)), (qunits, .inl (cI, 80, .inl (dg (V2 - V0)))), (qnum, .inl (cI, 80, .inl (dg V0)))] 0 0 188 [(6, .int (iI (bz (n2 != turn)))), (5, .int (iI (bz n0))), (0, .ref h), (1, .int (iI ((ρ : Nat) : Int))), (2, .int (iI ((α : Nat) : Int))), (3, .int (iI ((β : Nat) : Int))), (4, .int (iI (bz turn)))] []
                      refine TGo.sub (ws' := [(h, .inr (4, fs)), (qnum, .inl (cI, 80, .inl (dg V0))), (qbase, .inl (cI, 80, .inl fb)), (qden, .inl (cI, 80, .inl fd)), (qquo, .inl (cI, 80, .inl fq)), (qrem, .inl (cI, 80, .inl fr)), (qother, .inl (cI, 80, .inl fo)), (qunits, .inl (cI, 80, .inl (dg (V2 - V0)))), (qcurrency, .inl (cI, 8, .inl fc)), (qisWide, .inl (cZ, 8, .inl fw)), (qnegative, .inl (cZ, 8, .inl fn)), (qkept, .inl (cI, 320, .inl K))]) [0, 11, 1, 2, 3, 4, 5, 10, 6, 7, 8, 9] (by decide) rfl ?_
                      refine go_aload_n O dX4_sum_188 rfl 2 rfl 189 rfl ?_
                      refine go_get O hK dX4_sum_189 hinX4 0 rfl rfl 16 (by decide) flX4_47 f_units 192 rfl ?_
                      refine go_aload_n O dX4_sum_192 rfl 2 rfl 193 rfl ?_
                      refine go_get O hK dX4_sum_193 hinX4 0 rfl rfl 10 (by decide) flX4_29 f_num 196 rfl ?_
                      refine go_callvS (rest := []) (wr := [(h, .inr (4, fs)), (qbase, .inl (cI, 80, .inl fb)), (qden, .inl (cI, 80, .inl fd)), (qquo, .inl (cI, 80, .inl fq)), (qrem, .inl (cI, 80, .inl fr)), (qother, .inl (cI, 80, .inl fo)), (qcurrency, .inl (cI, 8, .inl fc)), (qisWide, .inl (cZ, 8, .inl fw)), (qnegative, .inl (cZ, 8, .inl fn)), (qkept, .inl (cI, 320, .inl K))]) O hK hE (c_X4_copy E hE qunits qnum cI (dg (V2 - V0)) (dg V0)) mlX4_94 smX4_copy inX4 cdX4_copy 2 (by decide +kernel) ⟨Nat.le_of_ble_eq_true rfl, Nat.le_of_ble_eq_true rfl⟩ [0] rfl [7, 1] rfl (by decide) [0, 2, 3, 4, 5, 6, 8, 9, 10, 11] rfl (by decide) (by decide) rfl rfl (Nat.le_of_ble_eq_true rfl) ⟨Nat.zero_le _, Nat.zero_le _⟩ dX4_sum_196 199 rfl (fun u hu => ?_)
                      show TGo X [(h, .inr (4, fs)), (qbase, .inl (cI, 80, .inl fb)), (qden, .inl (cI, 80, .inl fd)), (qquo, .inl (cI, 80, .inl fq)), (qrem, .inl (cI, 80, .inl fr)), (qother, .inl (cI, 80, .inl fo)), (qcurrency, .inl (cI, 8, .inl fc)), (qisWide, .inl (cZ, 8, .inl fw)), (qnegative, .inl (cZ, 8, .inl fn)), (qkept, .inl (cI, 320, .inl K)), (qunits, .inl (cI, 80, .inl (dg (V2 - V0)))), (qnum, .inl (cI, 80, .inl (dg (V2 - V0))))] 0 0 199 [(6, .int (iI (bz (n2 != turn)))), (5, .int (iI (bz n0))), (0, .ref h), (1, .int (iI ((ρ : Nat) : Int))), (2, .int (iI ((α : Nat) : Int))), (3, .int (iI ((β : Nat) : Int))), (4, .int (iI (bz turn)))] []
                      refine TGo.sub (ws' := [(h, .inr (4, fs)), (qnum, .inl (cI, 80, .inl (dg (V2 - V0)))), (qbase, .inl (cI, 80, .inl fb)), (qden, .inl (cI, 80, .inl fd)), (qquo, .inl (cI, 80, .inl fq)), (qrem, .inl (cI, 80, .inl fr)), (qother, .inl (cI, 80, .inl fo)), (qunits, .inl (cI, 80, .inl (dg (V2 - V0)))), (qcurrency, .inl (cI, 8, .inl fc)), (qisWide, .inl (cZ, 8, .inl fw)), (qnegative, .inl (cZ, 8, .inl fn)), (qkept, .inl (cI, 320, .inl K))]) [0, 11, 1, 2, 3, 4, 5, 10, 6, 7, 8, 9] (by decide) rfl ?_
                      refine go_iload O dX4_sum_199 0 rfl 201 rfl ?_
                      refine go_istore O dX4_sum_201 (by decide) [(5, .int (iI (bz (n2 != turn)))), (6, .int (iI (bz (n2 != turn)))), (0, .ref h), (1, .int (iI ((ρ : Nat) : Int))), (2, .int (iI ((α : Nat) : Int))), (3, .int (iI ((β : Nat) : Int))), (4, .int (iI (bz turn)))] rfl 203 rfl ?_
                      refine go_aload_n O dX4_sum_203 rfl 2 rfl 204 rfl ?_
                      refine go_get O hK dX4_sum_204 hinX4 0 rfl rfl 11 (by decide) flX4_32 f_base 207 rfl ?_
                      refine go_lconst O dX4_sum_207 1 rfl 208 rfl ?_
                      refine go_callvS (rest := []) (wr := [(h, .inr (4, fs)), (qnum, .inl (cI, 80, .inl (dg (V2 - V0)))), (qden, .inl (cI, 80, .inl fd)), (qquo, .inl (cI, 80, .inl fq)), (qrem, .inl (cI, 80, .inl fr)), (qother, .inl (cI, 80, .inl fo)), (qunits, .inl (cI, 80, .inl (dg (V2 - V0)))), (qcurrency, .inl (cI, 8, .inl fc)), (qisWide, .inl (cZ, 8, .inl fw)), (qnegative, .inl (cZ, 8, .inl fn)), (qkept, .inl (cI, 320, .inl K))]) O hK hE (c_X4_load E hE qbase cI fb 1 (by omega)) mlX4_100 smX4_load inX4 cdX4_load 2 (by decide +kernel) ⟨Nat.le_of_ble_eq_true rfl, Nat.le_of_ble_eq_true rfl⟩ [0] rfl [2] rfl (by decide) [0, 1, 3, 4, 5, 6, 7, 8, 9, 10, 11] rfl (by decide) (by decide) rfl rfl (Nat.le_of_ble_eq_true rfl) ⟨Nat.zero_le _, Nat.zero_le _⟩ dX4_sum_208 211 rfl (fun u hu => ?_)
                      show TGo X [(h, .inr (4, fs)), (qnum, .inl (cI, 80, .inl (dg (V2 - V0)))), (qden, .inl (cI, 80, .inl fd)), (qquo, .inl (cI, 80, .inl fq)), (qrem, .inl (cI, 80, .inl fr)), (qother, .inl (cI, 80, .inl fo)), (qunits, .inl (cI, 80, .inl (dg (V2 - V0)))), (qcurrency, .inl (cI, 8, .inl fc)), (qisWide, .inl (cZ, 8, .inl fw)), (qnegative, .inl (cZ, 8, .inl fn)), (qkept, .inl (cI, 320, .inl K)), (qbase, .inl (cI, 80, .inl (dg (Int.natAbs 1))))] 0 0 211 [(5, .int (iI (bz (n2 != turn)))), (6, .int (iI (bz (n2 != turn)))), (0, .ref h), (1, .int (iI ((ρ : Nat) : Int))), (2, .int (iI ((α : Nat) : Int))), (3, .int (iI ((β : Nat) : Int))), (4, .int (iI (bz turn)))] []
                      refine TGo.sub (ws' := [(h, .inr (4, fs)), (qnum, .inl (cI, 80, .inl (dg (V2 - V0)))), (qbase, .inl (cI, 80, .inl (dg (Int.natAbs 1)))), (qden, .inl (cI, 80, .inl fd)), (qquo, .inl (cI, 80, .inl fq)), (qrem, .inl (cI, 80, .inl fr)), (qother, .inl (cI, 80, .inl fo)), (qunits, .inl (cI, 80, .inl (dg (V2 - V0)))), (qcurrency, .inl (cI, 8, .inl fc)), (qisWide, .inl (cZ, 8, .inl fw)), (qnegative, .inl (cZ, 8, .inl fn)), (qkept, .inl (cI, 320, .inl K))]) [0, 1, 11, 2, 3, 4, 5, 6, 7, 8, 9, 10] (by decide) rfl ?_
                      refine go_aload_n O dX4_sum_211 rfl 2 rfl 212 rfl ?_
                      refine go_iload_n O dX4_sum_212 rfl 3 rfl 213 rfl ?_
                      refine go_aload_n O dX4_sum_213 rfl 2 rfl 214 rfl ?_
                      refine go_get O hK dX4_sum_214 hinX4 0 rfl rfl 3 (by decide) flX4_7 f_currency 217 rfl ?_
                      refine go_iload_n O dX4_sum_217 rfl 4 rfl 218 rfl ?_
                      refine go_iald O hK dX4_sum_218 8 0 rfl rfl α rfl (by omega) (by omega) c0 e1 219 rfl ?_
                      refine go_aload_n O dX4_sum_219 rfl 2 rfl 220 rfl ?_
                      refine go_get O hK dX4_sum_220 hinX4 0 rfl rfl 4 (by decide) flX4_13 f_isWide 223 rfl ?_
                      refine go_iload_n O dX4_sum_223 rfl 4 rfl 224 rfl ?_
                      refine go_zald O hK dX4_sum_224 9 1 rfl rfl α rfl (by omega) (by omega) (bz w0) e2 225 rfl ?_
                      refine go_iload O dX4_sum_225 0 rfl 227 rfl ?_
                      refine go_calliV (As := [.int (iI ((ρ : Nat) : Int)), .int (iI c0), .int (iI (bz w0)), .int (iI (bz (n2 != turn)))]) (rest := []) (wr := [(qunits, .inl (cI, 80, .inl (dg (V2 - V0))))]) O hK hE (c_X4_settle E hE h fs f_p f_s f_m f_base f_den f_num f_quo f_rem f_other f_currency f_isWide f_negative f_kept cI cZ P Sc hp hP hs hS hm ρ (V2 - V0) (Int.natAbs 1) c0 (fd) (fq) (fr) (fo) fc fw fn K reg w0 (n2 != turn) (by omega) (by omega) (by omega) (by decide) (by decide) hMR) mlX4_127 imX4_settle seX4_settle inX4 cdX4_settle 4 (by decide +kernel) ⟨Nat.le_of_ble_eq_true rfl, Nat.le_of_ble_eq_true rfl⟩ 0 rfl rfl [0, 1] rfl [0, 1, 2, 3, 4, 5, 6, 8, 9, 10, 11] rfl (by decide) [7] rfl (by decide) (by decide) rfl rfl (Nat.le_of_ble_eq_true rfl) ⟨Nat.zero_le _, Nat.zero_le _⟩ dX4_sum_227 230 rfl (fun z u hu => ?_)
                      obtain ⟨fd2, fq2, fr2, fo2, fc2, fw2, fn2, K2⟩ := u
                      obtain ⟨rfl, hMR2⟩ := hu
                      show TGo X [(qunits, .inl (cI, 80, .inl (dg (V2 - V0)))), (h, .inr (4, fs)), (qnum, .inl (cI, 80, .inl (dg (V2 - V0)))), (qbase, .inl (cI, 80, .inl (dg (Int.natAbs 1)))), (qden, .inl (cI, 80, .inl fd2)), (qquo, .inl (cI, 80, .inl fq2)), (qrem, .inl (cI, 80, .inl fr2)), (qother, .inl (cI, 80, .inl fo2)), (qcurrency, .inl (cI, 8, .inl fc2)), (qisWide, .inl (cZ, 8, .inl fw2)), (qnegative, .inl (cZ, 8, .inl fn2)), (qkept, .inl (cI, 320, .inl K2))] 0 0 230 [(5, .int (iI (bz (n2 != turn)))), (6, .int (iI (bz (n2 != turn)))), (0, .ref h), (1, .int (iI ((ρ : Nat) : Int))), (2, .int (iI ((α : Nat) : Int))), (3, .int (iI ((β : Nat) : Int))), (4, .int (iI (bz turn)))] [.int (iI (ansO (tstl P Sc m w0 (n2 != turn) (V2 - V0) (Int.natAbs 1))))]
                      refine TGo.sub (ws' := [(h, .inr (4, fs)), (qnum, .inl (cI, 80, .inl (dg (V2 - V0)))), (qbase, .inl (cI, 80, .inl (dg (Int.natAbs 1)))), (qden, .inl (cI, 80, .inl fd2)), (qquo, .inl (cI, 80, .inl fq2)), (qrem, .inl (cI, 80, .inl fr2)), (qother, .inl (cI, 80, .inl fo2)), (qunits, .inl (cI, 80, .inl (dg (V2 - V0)))), (qcurrency, .inl (cI, 8, .inl fc2)), (qisWide, .inl (cZ, 8, .inl fw2)), (qnegative, .inl (cZ, 8, .inl fn2)), (qkept, .inl (cI, 320, .inl K2))]) [1, 2, 3, 4, 5, 6, 7, 0, 8, 9, 10, 11] (by decide) rfl ?_
                      have he := spSum_ok (P := P) (Sc := Sc) (m := m) (turn := turn) hb3 hq hq2 ⟨h78, h63⟩ (tsum_l h132 (by omega))
                      exact hret _ _ _ (dg (V2 - V0), dg (Int.natAbs 1), fd2, fq2, fr2, fo2, dg (V2 - V0), fc2, fw2, fn2, K2) dX4_sum_230 rfl ⟨by rw [he], by rw [he]; exact hMR2⟩
                    · refine go_aload_n O dX4_sum_163 rfl 2 rfl 164 rfl ?_
                      refine go_get O hK dX4_sum_164 hinX4 0 rfl rfl 10 (by decide) flX4_29 f_num 167 rfl ?_
                      refine go_aload_n O dX4_sum_167 rfl 2 rfl 168 rfl ?_
                      refine go_get O hK dX4_sum_168 hinX4 0 rfl rfl 16 (by decide) flX4_47 f_units 171 rfl ?_
                      refine go_callvS (rest := []) (wr := [(h, .inr (4, fs)), (qbase, .inl (cI, 80, .inl fb)), (qden, .inl (cI, 80, .inl fd)), (qquo, .inl (cI, 80, .inl fq)), (qrem, .inl (cI, 80, .inl fr)), (qother, .inl (cI, 80, .inl fo)), (qcurrency, .inl (cI, 8, .inl fc)), (qisWide, .inl (cZ, 8, .inl fw)), (qnegative, .inl (cZ, 8, .inl fn)), (qkept, .inl (cI, 320, .inl K))]) O hK hE (c_X4_decrease E hE qnum qunits cI V0 V2 (by omega)) mlX4_90 smX4_decrease inX4 cdX4_decrease 2 (by decide +kernel) ⟨Nat.le_of_ble_eq_true rfl, Nat.le_of_ble_eq_true rfl⟩ [0] rfl [1, 7] rfl (by decide) [0, 2, 3, 4, 5, 6, 8, 9, 10, 11] rfl (by decide) (by decide) rfl rfl (Nat.le_of_ble_eq_true rfl) ⟨Nat.zero_le _, Nat.zero_le _⟩ dX4_sum_171 174 rfl (fun u hu => ?_)
                      show TGo X [(h, .inr (4, fs)), (qbase, .inl (cI, 80, .inl fb)), (qden, .inl (cI, 80, .inl fd)), (qquo, .inl (cI, 80, .inl fq)), (qrem, .inl (cI, 80, .inl fr)), (qother, .inl (cI, 80, .inl fo)), (qcurrency, .inl (cI, 8, .inl fc)), (qisWide, .inl (cZ, 8, .inl fw)), (qnegative, .inl (cZ, 8, .inl fn)), (qkept, .inl (cI, 320, .inl K)), (qnum, .inl (cI, 80, .inl (dg (V0 - V2)))), (qunits, .inl (cI, 80, .inl (dg V2)))] 0 0 174 [(6, .int (iI (bz (n2 != turn)))), (5, .int (iI (bz n0))), (0, .ref h), (1, .int (iI ((ρ : Nat) : Int))), (2, .int (iI ((α : Nat) : Int))), (3, .int (iI ((β : Nat) : Int))), (4, .int (iI (bz turn)))] []
                      refine TGo.sub (ws' := [(h, .inr (4, fs)), (qnum, .inl (cI, 80, .inl (dg (V0 - V2)))), (qbase, .inl (cI, 80, .inl fb)), (qden, .inl (cI, 80, .inl fd)), (qquo, .inl (cI, 80, .inl fq)), (qrem, .inl (cI, 80, .inl fr)), (qother, .inl (cI, 80, .inl fo)), (qunits, .inl (cI, 80, .inl (dg V2))), (qcurrency, .inl (cI, 8, .inl fc)), (qisWide, .inl (cZ, 8, .inl fw)), (qnegative, .inl (cZ, 8, .inl fn)), (qkept, .inl (cI, 320, .inl K))]) [0, 10, 1, 2, 3, 4, 5, 11, 6, 7, 8, 9] (by decide) rfl ?_
                      refine go_goto O dX4_sum_174 203 (by decide) ?_
                      refine go_aload_n O dX4_sum_203 rfl 2 rfl 204 rfl ?_
                      refine go_get O hK dX4_sum_204 hinX4 0 rfl rfl 11 (by decide) flX4_32 f_base 207 rfl ?_
                      refine go_lconst O dX4_sum_207 1 rfl 208 rfl ?_
                      refine go_callvS (rest := []) (wr := [(h, .inr (4, fs)), (qnum, .inl (cI, 80, .inl (dg (V0 - V2)))), (qden, .inl (cI, 80, .inl fd)), (qquo, .inl (cI, 80, .inl fq)), (qrem, .inl (cI, 80, .inl fr)), (qother, .inl (cI, 80, .inl fo)), (qunits, .inl (cI, 80, .inl (dg V2))), (qcurrency, .inl (cI, 8, .inl fc)), (qisWide, .inl (cZ, 8, .inl fw)), (qnegative, .inl (cZ, 8, .inl fn)), (qkept, .inl (cI, 320, .inl K))]) O hK hE (c_X4_load E hE qbase cI fb 1 (by omega)) mlX4_100 smX4_load inX4 cdX4_load 2 (by decide +kernel) ⟨Nat.le_of_ble_eq_true rfl, Nat.le_of_ble_eq_true rfl⟩ [0] rfl [2] rfl (by decide) [0, 1, 3, 4, 5, 6, 7, 8, 9, 10, 11] rfl (by decide) (by decide) rfl rfl (Nat.le_of_ble_eq_true rfl) ⟨Nat.zero_le _, Nat.zero_le _⟩ dX4_sum_208 211 rfl (fun u hu => ?_)
                      show TGo X [(h, .inr (4, fs)), (qnum, .inl (cI, 80, .inl (dg (V0 - V2)))), (qden, .inl (cI, 80, .inl fd)), (qquo, .inl (cI, 80, .inl fq)), (qrem, .inl (cI, 80, .inl fr)), (qother, .inl (cI, 80, .inl fo)), (qunits, .inl (cI, 80, .inl (dg V2))), (qcurrency, .inl (cI, 8, .inl fc)), (qisWide, .inl (cZ, 8, .inl fw)), (qnegative, .inl (cZ, 8, .inl fn)), (qkept, .inl (cI, 320, .inl K)), (qbase, .inl (cI, 80, .inl (dg (Int.natAbs 1))))] 0 0 211 [(6, .int (iI (bz (n2 != turn)))), (5, .int (iI (bz n0))), (0, .ref h), (1, .int (iI ((ρ : Nat) : Int))), (2, .int (iI ((α : Nat) : Int))), (3, .int (iI ((β : Nat) : Int))), (4, .int (iI (bz turn)))] []
                      refine TGo.sub (ws' := [(h, .inr (4, fs)), (qnum, .inl (cI, 80, .inl (dg (V0 - V2)))), (qbase, .inl (cI, 80, .inl (dg (Int.natAbs 1)))), (qden, .inl (cI, 80, .inl fd)), (qquo, .inl (cI, 80, .inl fq)), (qrem, .inl (cI, 80, .inl fr)), (qother, .inl (cI, 80, .inl fo)), (qunits, .inl (cI, 80, .inl (dg V2))), (qcurrency, .inl (cI, 8, .inl fc)), (qisWide, .inl (cZ, 8, .inl fw)), (qnegative, .inl (cZ, 8, .inl fn)), (qkept, .inl (cI, 320, .inl K))]) [0, 1, 11, 2, 3, 4, 5, 6, 7, 8, 9, 10] (by decide) rfl ?_
                      refine go_aload_n O dX4_sum_211 rfl 2 rfl 212 rfl ?_
                      refine go_iload_n O dX4_sum_212 rfl 3 rfl 213 rfl ?_
                      refine go_aload_n O dX4_sum_213 rfl 2 rfl 214 rfl ?_
                      refine go_get O hK dX4_sum_214 hinX4 0 rfl rfl 3 (by decide) flX4_7 f_currency 217 rfl ?_
                      refine go_iload_n O dX4_sum_217 rfl 4 rfl 218 rfl ?_
                      refine go_iald O hK dX4_sum_218 8 0 rfl rfl α rfl (by omega) (by omega) c0 e1 219 rfl ?_
                      refine go_aload_n O dX4_sum_219 rfl 2 rfl 220 rfl ?_
                      refine go_get O hK dX4_sum_220 hinX4 0 rfl rfl 4 (by decide) flX4_13 f_isWide 223 rfl ?_
                      refine go_iload_n O dX4_sum_223 rfl 4 rfl 224 rfl ?_
                      refine go_zald O hK dX4_sum_224 9 1 rfl rfl α rfl (by omega) (by omega) (bz w0) e2 225 rfl ?_
                      refine go_iload O dX4_sum_225 1 rfl 227 rfl ?_
                      refine go_calliV (As := [.int (iI ((ρ : Nat) : Int)), .int (iI c0), .int (iI (bz w0)), .int (iI (bz n0))]) (rest := []) (wr := [(qunits, .inl (cI, 80, .inl (dg V2)))]) O hK hE (c_X4_settle E hE h fs f_p f_s f_m f_base f_den f_num f_quo f_rem f_other f_currency f_isWide f_negative f_kept cI cZ P Sc hp hP hs hS hm ρ (V0 - V2) (Int.natAbs 1) c0 (fd) (fq) (fr) (fo) fc fw fn K reg w0 n0 (by omega) (by omega) (by omega) (by decide) (by decide) hMR) mlX4_127 imX4_settle seX4_settle inX4 cdX4_settle 4 (by decide +kernel) ⟨Nat.le_of_ble_eq_true rfl, Nat.le_of_ble_eq_true rfl⟩ 0 rfl rfl [0, 1] rfl [0, 1, 2, 3, 4, 5, 6, 8, 9, 10, 11] rfl (by decide) [7] rfl (by decide) (by decide) rfl rfl (Nat.le_of_ble_eq_true rfl) ⟨Nat.zero_le _, Nat.zero_le _⟩ dX4_sum_227 230 rfl (fun z u hu => ?_)
                      obtain ⟨fd2, fq2, fr2, fo2, fc2, fw2, fn2, K2⟩ := u
                      obtain ⟨rfl, hMR2⟩ := hu
                      show TGo X [(qunits, .inl (cI, 80, .inl (dg V2))), (h, .inr (4, fs)), (qnum, .inl (cI, 80, .inl (dg (V0 - V2)))), (qbase, .inl (cI, 80, .inl (dg (Int.natAbs 1)))), (qden, .inl (cI, 80, .inl fd2)), (qquo, .inl (cI, 80, .inl fq2)), (qrem, .inl (cI, 80, .inl fr2)), (qother, .inl (cI, 80, .inl fo2)), (qcurrency, .inl (cI, 8, .inl fc2)), (qisWide, .inl (cZ, 8, .inl fw2)), (qnegative, .inl (cZ, 8, .inl fn2)), (qkept, .inl (cI, 320, .inl K2))] 0 0 230 [(6, .int (iI (bz (n2 != turn)))), (5, .int (iI (bz n0))), (0, .ref h), (1, .int (iI ((ρ : Nat) : Int))), (2, .int (iI ((α : Nat) : Int))), (3, .int (iI ((β : Nat) : Int))), (4, .int (iI (bz turn)))] [.int (iI (ansO (tstl P Sc m w0 n0 (V0 - V2) (Int.natAbs 1))))]
                      refine TGo.sub (ws' := [(h, .inr (4, fs)), (qnum, .inl (cI, 80, .inl (dg (V0 - V2)))), (qbase, .inl (cI, 80, .inl (dg (Int.natAbs 1)))), (qden, .inl (cI, 80, .inl fd2)), (qquo, .inl (cI, 80, .inl fq2)), (qrem, .inl (cI, 80, .inl fr2)), (qother, .inl (cI, 80, .inl fo2)), (qunits, .inl (cI, 80, .inl (dg V2))), (qcurrency, .inl (cI, 8, .inl fc2)), (qisWide, .inl (cZ, 8, .inl fw2)), (qnegative, .inl (cZ, 8, .inl fn2)), (qkept, .inl (cI, 320, .inl K2))]) [1, 2, 3, 4, 5, 6, 7, 0, 8, 9, 10, 11] (by decide) rfl ?_
                      have he := spSum_ok (P := P) (Sc := Sc) (m := m) (turn := turn) hb3 hq hq2 ⟨h78, h63⟩ (tsum_g h132 (by omega))
                      exact hret _ _ _ (dg (V0 - V2), dg (Int.natAbs 1), fd2, fq2, fr2, fo2, dg V2, fc2, fw2, fn2, K2) dX4_sum_230 rfl ⟨by rw [he], by rw [he]; exact hMR2⟩
                  · refine go_aload_n O dX4_sum_135 rfl 2 rfl 136 rfl ?_
                    refine go_get O hK dX4_sum_136 hinX4 0 rfl rfl 10 (by decide) flX4_29 f_num 139 rfl ?_
                    refine go_aload_n O dX4_sum_139 rfl 2 rfl 140 rfl ?_
                    refine go_get O hK dX4_sum_140 hinX4 0 rfl rfl 16 (by decide) flX4_47 f_units 143 rfl ?_
                    refine go_callvS (rest := []) (wr := [(h, .inr (4, fs)), (qbase, .inl (cI, 80, .inl fb)), (qden, .inl (cI, 80, .inl fd)), (qquo, .inl (cI, 80, .inl fq)), (qrem, .inl (cI, 80, .inl fr)), (qother, .inl (cI, 80, .inl fo)), (qcurrency, .inl (cI, 8, .inl fc)), (qisWide, .inl (cZ, 8, .inl fw)), (qnegative, .inl (cZ, 8, .inl fn)), (qkept, .inl (cI, 320, .inl K))]) O hK hE (c_X4_increase E hE qnum qunits cI V0 V2) mlX4_97 smX4_increase inX4 cdX4_increase 2 (by decide +kernel) ⟨Nat.le_of_ble_eq_true rfl, Nat.le_of_ble_eq_true rfl⟩ [0] rfl [1, 7] rfl (by decide) [0, 2, 3, 4, 5, 6, 8, 9, 10, 11] rfl (by decide) (by decide) rfl rfl (Nat.le_of_ble_eq_true rfl) ⟨Nat.zero_le _, Nat.zero_le _⟩ dX4_sum_143 146 rfl (fun u hu => ?_)
                    show TGo X [(h, .inr (4, fs)), (qbase, .inl (cI, 80, .inl fb)), (qden, .inl (cI, 80, .inl fd)), (qquo, .inl (cI, 80, .inl fq)), (qrem, .inl (cI, 80, .inl fr)), (qother, .inl (cI, 80, .inl fo)), (qcurrency, .inl (cI, 8, .inl fc)), (qisWide, .inl (cZ, 8, .inl fw)), (qnegative, .inl (cZ, 8, .inl fn)), (qkept, .inl (cI, 320, .inl K)), (qnum, .inl (cI, 80, .inl (dg (V0 + V2)))), (qunits, .inl (cI, 80, .inl (dg V2)))] 0 0 146 [(6, .int (iI (bz (n2 != turn)))), (5, .int (iI (bz n0))), (0, .ref h), (1, .int (iI ((ρ : Nat) : Int))), (2, .int (iI ((α : Nat) : Int))), (3, .int (iI ((β : Nat) : Int))), (4, .int (iI (bz turn)))] []
                    refine TGo.sub (ws' := [(h, .inr (4, fs)), (qnum, .inl (cI, 80, .inl (dg (V0 + V2)))), (qbase, .inl (cI, 80, .inl fb)), (qden, .inl (cI, 80, .inl fd)), (qquo, .inl (cI, 80, .inl fq)), (qrem, .inl (cI, 80, .inl fr)), (qother, .inl (cI, 80, .inl fo)), (qunits, .inl (cI, 80, .inl (dg V2))), (qcurrency, .inl (cI, 8, .inl fc)), (qisWide, .inl (cZ, 8, .inl fw)), (qnegative, .inl (cZ, 8, .inl fn)), (qkept, .inl (cI, 320, .inl K))]) [0, 10, 1, 2, 3, 4, 5, 11, 6, 7, 8, 9] (by decide) rfl ?_
                    refine go_goto O dX4_sum_146 203 (by decide) ?_
                    refine go_aload_n O dX4_sum_203 rfl 2 rfl 204 rfl ?_
                    refine go_get O hK dX4_sum_204 hinX4 0 rfl rfl 11 (by decide) flX4_32 f_base 207 rfl ?_
                    refine go_lconst O dX4_sum_207 1 rfl 208 rfl ?_
                    refine go_callvS (rest := []) (wr := [(h, .inr (4, fs)), (qnum, .inl (cI, 80, .inl (dg (V0 + V2)))), (qden, .inl (cI, 80, .inl fd)), (qquo, .inl (cI, 80, .inl fq)), (qrem, .inl (cI, 80, .inl fr)), (qother, .inl (cI, 80, .inl fo)), (qunits, .inl (cI, 80, .inl (dg V2))), (qcurrency, .inl (cI, 8, .inl fc)), (qisWide, .inl (cZ, 8, .inl fw)), (qnegative, .inl (cZ, 8, .inl fn)), (qkept, .inl (cI, 320, .inl K))]) O hK hE (c_X4_load E hE qbase cI fb 1 (by omega)) mlX4_100 smX4_load inX4 cdX4_load 2 (by decide +kernel) ⟨Nat.le_of_ble_eq_true rfl, Nat.le_of_ble_eq_true rfl⟩ [0] rfl [2] rfl (by decide) [0, 1, 3, 4, 5, 6, 7, 8, 9, 10, 11] rfl (by decide) (by decide) rfl rfl (Nat.le_of_ble_eq_true rfl) ⟨Nat.zero_le _, Nat.zero_le _⟩ dX4_sum_208 211 rfl (fun u hu => ?_)
                    show TGo X [(h, .inr (4, fs)), (qnum, .inl (cI, 80, .inl (dg (V0 + V2)))), (qden, .inl (cI, 80, .inl fd)), (qquo, .inl (cI, 80, .inl fq)), (qrem, .inl (cI, 80, .inl fr)), (qother, .inl (cI, 80, .inl fo)), (qunits, .inl (cI, 80, .inl (dg V2))), (qcurrency, .inl (cI, 8, .inl fc)), (qisWide, .inl (cZ, 8, .inl fw)), (qnegative, .inl (cZ, 8, .inl fn)), (qkept, .inl (cI, 320, .inl K)), (qbase, .inl (cI, 80, .inl (dg (Int.natAbs 1))))] 0 0 211 [(6, .int (iI (bz (n2 != turn)))), (5, .int (iI (bz n0))), (0, .ref h), (1, .int (iI ((ρ : Nat) : Int))), (2, .int (iI ((α : Nat) : Int))), (3, .int (iI ((β : Nat) : Int))), (4, .int (iI (bz turn)))] []
                    refine TGo.sub (ws' := [(h, .inr (4, fs)), (qnum, .inl (cI, 80, .inl (dg (V0 + V2)))), (qbase, .inl (cI, 80, .inl (dg (Int.natAbs 1)))), (qden, .inl (cI, 80, .inl fd)), (qquo, .inl (cI, 80, .inl fq)), (qrem, .inl (cI, 80, .inl fr)), (qother, .inl (cI, 80, .inl fo)), (qunits, .inl (cI, 80, .inl (dg V2))), (qcurrency, .inl (cI, 8, .inl fc)), (qisWide, .inl (cZ, 8, .inl fw)), (qnegative, .inl (cZ, 8, .inl fn)), (qkept, .inl (cI, 320, .inl K))]) [0, 1, 11, 2, 3, 4, 5, 6, 7, 8, 9, 10] (by decide) rfl ?_
                    refine go_aload_n O dX4_sum_211 rfl 2 rfl 212 rfl ?_
                    refine go_iload_n O dX4_sum_212 rfl 3 rfl 213 rfl ?_
                    refine go_aload_n O dX4_sum_213 rfl 2 rfl 214 rfl ?_
                    refine go_get O hK dX4_sum_214 hinX4 0 rfl rfl 3 (by decide) flX4_7 f_currency 217 rfl ?_
                    refine go_iload_n O dX4_sum_217 rfl 4 rfl 218 rfl ?_
                    refine go_iald O hK dX4_sum_218 8 0 rfl rfl α rfl (by omega) (by omega) c0 e1 219 rfl ?_
                    refine go_aload_n O dX4_sum_219 rfl 2 rfl 220 rfl ?_
                    refine go_get O hK dX4_sum_220 hinX4 0 rfl rfl 4 (by decide) flX4_13 f_isWide 223 rfl ?_
                    refine go_iload_n O dX4_sum_223 rfl 4 rfl 224 rfl ?_
                    refine go_zald O hK dX4_sum_224 9 1 rfl rfl α rfl (by omega) (by omega) (bz w0) e2 225 rfl ?_
                    refine go_iload O dX4_sum_225 1 rfl 227 rfl ?_
                    refine go_calliV (As := [.int (iI ((ρ : Nat) : Int)), .int (iI c0), .int (iI (bz w0)), .int (iI (bz n0))]) (rest := []) (wr := [(qunits, .inl (cI, 80, .inl (dg V2)))]) O hK hE (c_X4_settle E hE h fs f_p f_s f_m f_base f_den f_num f_quo f_rem f_other f_currency f_isWide f_negative f_kept cI cZ P Sc hp hP hs hS hm ρ (V0 + V2) (Int.natAbs 1) c0 (fd) (fq) (fr) (fo) fc fw fn K reg w0 n0 (by omega) (by omega) (by omega) (by decide) (by decide) hMR) mlX4_127 imX4_settle seX4_settle inX4 cdX4_settle 4 (by decide +kernel) ⟨Nat.le_of_ble_eq_true rfl, Nat.le_of_ble_eq_true rfl⟩ 0 rfl rfl [0, 1] rfl [0, 1, 2, 3, 4, 5, 6, 8, 9, 10, 11] rfl (by decide) [7] rfl (by decide) (by decide) rfl rfl (Nat.le_of_ble_eq_true rfl) ⟨Nat.zero_le _, Nat.zero_le _⟩ dX4_sum_227 230 rfl (fun z u hu => ?_)
                    obtain ⟨fd2, fq2, fr2, fo2, fc2, fw2, fn2, K2⟩ := u
                    obtain ⟨rfl, hMR2⟩ := hu
                    show TGo X [(qunits, .inl (cI, 80, .inl (dg V2))), (h, .inr (4, fs)), (qnum, .inl (cI, 80, .inl (dg (V0 + V2)))), (qbase, .inl (cI, 80, .inl (dg (Int.natAbs 1)))), (qden, .inl (cI, 80, .inl fd2)), (qquo, .inl (cI, 80, .inl fq2)), (qrem, .inl (cI, 80, .inl fr2)), (qother, .inl (cI, 80, .inl fo2)), (qcurrency, .inl (cI, 8, .inl fc2)), (qisWide, .inl (cZ, 8, .inl fw2)), (qnegative, .inl (cZ, 8, .inl fn2)), (qkept, .inl (cI, 320, .inl K2))] 0 0 230 [(6, .int (iI (bz (n2 != turn)))), (5, .int (iI (bz n0))), (0, .ref h), (1, .int (iI ((ρ : Nat) : Int))), (2, .int (iI ((α : Nat) : Int))), (3, .int (iI ((β : Nat) : Int))), (4, .int (iI (bz turn)))] [.int (iI (ansO (tstl P Sc m w0 n0 (V0 + V2) (Int.natAbs 1))))]
                    refine TGo.sub (ws' := [(h, .inr (4, fs)), (qnum, .inl (cI, 80, .inl (dg (V0 + V2)))), (qbase, .inl (cI, 80, .inl (dg (Int.natAbs 1)))), (qden, .inl (cI, 80, .inl fd2)), (qquo, .inl (cI, 80, .inl fq2)), (qrem, .inl (cI, 80, .inl fr2)), (qother, .inl (cI, 80, .inl fo2)), (qunits, .inl (cI, 80, .inl (dg V2))), (qcurrency, .inl (cI, 8, .inl fc2)), (qisWide, .inl (cZ, 8, .inl fw2)), (qnegative, .inl (cZ, 8, .inl fn2)), (qkept, .inl (cI, 320, .inl K2))]) [1, 2, 3, 4, 5, 6, 7, 0, 8, 9, 10, 11] (by decide) rfl ?_
                    have he := spSum_ok (P := P) (Sc := Sc) (m := m) (turn := turn) hb3 hq hq2 ⟨h78, h63⟩ (tsum_s h132)
                    exact hret _ _ _ (dg (V0 + V2), dg (Int.natAbs 1), fd2, fq2, fr2, fo2, dg V2, fc2, fw2, fn2, K2) dX4_sum_230 rfl ⟨by rw [he], by rw [he]; exact hMR2⟩
                · refine go_iconst O dX4_sum_103 104 rfl ?_
                  refine go_goto O dX4_sum_104 108 (by decide) ?_
                  refine TGo.topi (y := bz (n2 != turn)) (bxor_1 h100) ?_
                  have b5 := bz_01 (n2 != turn)
                  refine go_istore O dX4_sum_108 (by decide) [(6, .int (iI (bz (n2 != turn)))), (5, .int (iI (bz n0))), (0, .ref h), (1, .int (iI ((ρ : Nat) : Int))), (2, .int (iI ((α : Nat) : Int))), (3, .int (iI ((β : Nat) : Int))), (4, .int (iI (bz turn)))] rfl 110 rfl ?_
                  refine go_aload_n O dX4_sum_110 rfl 2 rfl 111 rfl ?_
                  refine go_aload_n O dX4_sum_111 rfl 2 rfl 112 rfl ?_
                  refine go_get O hK dX4_sum_112 hinX4 0 rfl rfl 10 (by decide) flX4_29 f_num 115 rfl ?_
                  refine go_iload_n O dX4_sum_115 rfl 4 rfl 116 rfl ?_
                  refine go_callvV (As := [.ref qnum, .int (iI ((α : Nat) : Int))]) (rest := []) (wr := [(qbase, .inl (cI, 80, .inl fb)), (qden, .inl (cI, 80, .inl fd)), (qquo, .inl (cI, 80, .inl fq)), (qrem, .inl (cI, 80, .inl fr)), (qother, .inl (cI, 80, .inl fo)), (qunits, .inl (cI, 80, .inl fu)), (qcurrency, .inl (cI, 8, .inl fc)), (qisWide, .inl (cZ, 8, .inl fw)), (qnegative, .inl (cZ, 8, .inl fn))]) O hK hE (c_X4_take E hE h fs f_kept qnum cI K (fnum) α V0 (by omega) (by omega) hK0) mlX4_131 imX4_take seX4_take inX4 cdX4_take 2 (by decide +kernel) ⟨Nat.le_of_ble_eq_true rfl, Nat.le_of_ble_eq_true rfl⟩ 0 rfl rfl [0] rfl [0, 11, 1] rfl (by decide) [2, 3, 4, 5, 6, 7, 8, 9, 10] rfl (by decide) (by decide) rfl rfl (Nat.le_of_ble_eq_true rfl) ⟨Nat.zero_le _, Nat.zero_le _⟩ dX4_sum_116 119 rfl (fun u hu => ?_)
                  show TGo X [(qbase, .inl (cI, 80, .inl fb)), (qden, .inl (cI, 80, .inl fd)), (qquo, .inl (cI, 80, .inl fq)), (qrem, .inl (cI, 80, .inl fr)), (qother, .inl (cI, 80, .inl fo)), (qunits, .inl (cI, 80, .inl fu)), (qcurrency, .inl (cI, 8, .inl fc)), (qisWide, .inl (cZ, 8, .inl fw)), (qnegative, .inl (cZ, 8, .inl fn)), (h, .inr (4, fs)), (qkept, .inl (cI, 320, .inl K)), (qnum, .inl (cI, 80, .inl (dg V0)))] 0 0 119 [(6, .int (iI (bz (n2 != turn)))), (5, .int (iI (bz n0))), (0, .ref h), (1, .int (iI ((ρ : Nat) : Int))), (2, .int (iI ((α : Nat) : Int))), (3, .int (iI ((β : Nat) : Int))), (4, .int (iI (bz turn)))] []
                  refine TGo.sub (ws' := [(h, .inr (4, fs)), (qnum, .inl (cI, 80, .inl (dg V0))), (qbase, .inl (cI, 80, .inl fb)), (qden, .inl (cI, 80, .inl fd)), (qquo, .inl (cI, 80, .inl fq)), (qrem, .inl (cI, 80, .inl fr)), (qother, .inl (cI, 80, .inl fo)), (qunits, .inl (cI, 80, .inl fu)), (qcurrency, .inl (cI, 8, .inl fc)), (qisWide, .inl (cZ, 8, .inl fw)), (qnegative, .inl (cZ, 8, .inl fn)), (qkept, .inl (cI, 320, .inl K))]) [9, 11, 0, 1, 2, 3, 4, 5, 6, 7, 8, 10] (by decide) rfl ?_
                  refine go_aload_n O dX4_sum_119 rfl 2 rfl 120 rfl ?_
                  refine go_aload_n O dX4_sum_120 rfl 2 rfl 121 rfl ?_
                  refine go_get O hK dX4_sum_121 hinX4 0 rfl rfl 16 (by decide) flX4_47 f_units 124 rfl ?_
                  refine go_iload_n O dX4_sum_124 rfl 5 rfl 125 rfl ?_
                  refine go_callvV (As := [.ref qunits, .int (iI ((β : Nat) : Int))]) (rest := []) (wr := [(qnum, .inl (cI, 80, .inl (dg V0))), (qbase, .inl (cI, 80, .inl fb)), (qden, .inl (cI, 80, .inl fd)), (qquo, .inl (cI, 80, .inl fq)), (qrem, .inl (cI, 80, .inl fr)), (qother, .inl (cI, 80, .inl fo)), (qcurrency, .inl (cI, 8, .inl fc)), (qisWide, .inl (cZ, 8, .inl fw)), (qnegative, .inl (cZ, 8, .inl fn))]) O hK hE (c_X4_take E hE h fs f_kept qunits cI K (fu) β V2 (by omega) (by omega) hK2) mlX4_131 imX4_take seX4_take inX4 cdX4_take 2 (by decide +kernel) ⟨Nat.le_of_ble_eq_true rfl, Nat.le_of_ble_eq_true rfl⟩ 0 rfl rfl [0] rfl [0, 11, 7] rfl (by decide) [1, 2, 3, 4, 5, 6, 8, 9, 10] rfl (by decide) (by decide) rfl rfl (Nat.le_of_ble_eq_true rfl) ⟨Nat.zero_le _, Nat.zero_le _⟩ dX4_sum_125 128 rfl (fun u hu => ?_)
                  show TGo X [(qnum, .inl (cI, 80, .inl (dg V0))), (qbase, .inl (cI, 80, .inl fb)), (qden, .inl (cI, 80, .inl fd)), (qquo, .inl (cI, 80, .inl fq)), (qrem, .inl (cI, 80, .inl fr)), (qother, .inl (cI, 80, .inl fo)), (qcurrency, .inl (cI, 8, .inl fc)), (qisWide, .inl (cZ, 8, .inl fw)), (qnegative, .inl (cZ, 8, .inl fn)), (h, .inr (4, fs)), (qkept, .inl (cI, 320, .inl K)), (qunits, .inl (cI, 80, .inl (dg V2)))] 0 0 128 [(6, .int (iI (bz (n2 != turn)))), (5, .int (iI (bz n0))), (0, .ref h), (1, .int (iI ((ρ : Nat) : Int))), (2, .int (iI ((α : Nat) : Int))), (3, .int (iI ((β : Nat) : Int))), (4, .int (iI (bz turn)))] []
                  refine TGo.sub (ws' := [(h, .inr (4, fs)), (qnum, .inl (cI, 80, .inl (dg V0))), (qbase, .inl (cI, 80, .inl fb)), (qden, .inl (cI, 80, .inl fd)), (qquo, .inl (cI, 80, .inl fq)), (qrem, .inl (cI, 80, .inl fr)), (qother, .inl (cI, 80, .inl fo)), (qunits, .inl (cI, 80, .inl (dg V2))), (qcurrency, .inl (cI, 8, .inl fc)), (qisWide, .inl (cZ, 8, .inl fw)), (qnegative, .inl (cZ, 8, .inl fn)), (qkept, .inl (cI, 320, .inl K))]) [9, 0, 1, 2, 3, 4, 5, 11, 6, 7, 8, 10] (by decide) rfl ?_
                  refine go_iload O dX4_sum_128 1 rfl 130 rfl ?_
                  refine go_iload O dX4_sum_130 0 rfl 132 rfl ?_
                  refine go_icmp_ne O dX4_sum_132 149 (by decide) 135 rfl (by omega) (by omega) (fun h132 => ?_) (fun h132 => ?_)
                  · refine go_aload_n O dX4_sum_149 rfl 2 rfl 150 rfl ?_
                    refine go_get O hK dX4_sum_150 hinX4 0 rfl rfl 10 (by decide) flX4_29 f_num 153 rfl ?_
                    refine go_aload_n O dX4_sum_153 rfl 2 rfl 154 rfl ?_
                    refine go_get O hK dX4_sum_154 hinX4 0 rfl rfl 16 (by decide) flX4_47 f_units 157 rfl ?_
                    refine go_calliS (rest := []) (wr := [(h, .inr (4, fs)), (qbase, .inl (cI, 80, .inl fb)), (qden, .inl (cI, 80, .inl fd)), (qquo, .inl (cI, 80, .inl fq)), (qrem, .inl (cI, 80, .inl fr)), (qother, .inl (cI, 80, .inl fo)), (qcurrency, .inl (cI, 8, .inl fc)), (qisWide, .inl (cZ, 8, .inl fw)), (qnegative, .inl (cZ, 8, .inl fn)), (qkept, .inl (cI, 320, .inl K))]) O hK hE (c_X4_order E hE qnum qunits cI V0 V2 (by omega) (by omega)) mlX4_86 smX4_order inX4 cdX4_order 2 (by decide +kernel) ⟨Nat.le_of_ble_eq_true rfl, Nat.le_of_ble_eq_true rfl⟩ [0] rfl [1, 7] rfl (by decide) [0, 2, 3, 4, 5, 6, 8, 9, 10, 11] rfl (by decide) (by decide) rfl rfl (Nat.le_of_ble_eq_true rfl) ⟨Nat.zero_le _, Nat.zero_le _⟩ dX4_sum_157 160 rfl (fun z u hu => ?_)
                    subst hu
                    have hcm := cmpN_ge (a := V0) (b := V2)
                    show TGo X [(h, .inr (4, fs)), (qbase, .inl (cI, 80, .inl fb)), (qden, .inl (cI, 80, .inl fd)), (qquo, .inl (cI, 80, .inl fq)), (qrem, .inl (cI, 80, .inl fr)), (qother, .inl (cI, 80, .inl fo)), (qcurrency, .inl (cI, 8, .inl fc)), (qisWide, .inl (cZ, 8, .inl fw)), (qnegative, .inl (cZ, 8, .inl fn)), (qkept, .inl (cI, 320, .inl K)), (qnum, .inl (cI, 80, .inl (dg V0))), (qunits, .inl (cI, 80, .inl (dg V2)))] 0 0 160 [(6, .int (iI (bz (n2 != turn)))), (5, .int (iI (bz n0))), (0, .ref h), (1, .int (iI ((ρ : Nat) : Int))), (2, .int (iI ((α : Nat) : Int))), (3, .int (iI ((β : Nat) : Int))), (4, .int (iI (bz turn)))] [.int (iI (cmpN V0 V2))]
                    refine TGo.sub (ws' := [(h, .inr (4, fs)), (qnum, .inl (cI, 80, .inl (dg V0))), (qbase, .inl (cI, 80, .inl fb)), (qden, .inl (cI, 80, .inl fd)), (qquo, .inl (cI, 80, .inl fq)), (qrem, .inl (cI, 80, .inl fr)), (qother, .inl (cI, 80, .inl fo)), (qunits, .inl (cI, 80, .inl (dg V2))), (qcurrency, .inl (cI, 8, .inl fc)), (qisWide, .inl (cZ, 8, .inl fw)), (qnegative, .inl (cZ, 8, .inl fn)), (qkept, .inl (cI, 320, .inl K))]) [0, 10, 1, 2, 3, 4, 5, 11, 6, 7, 8, 9] (by decide) rfl ?_
                    refine go_if_lt O dX4_sum_160 177 (by decide) 163 rfl (cmpN_r _ _) (fun h160 => ?_) (fun h160 => ?_)
                    · refine go_aload_n O dX4_sum_177 rfl 2 rfl 178 rfl ?_
                      refine go_get O hK dX4_sum_178 hinX4 0 rfl rfl 16 (by decide) flX4_47 f_units 181 rfl ?_
                      refine go_aload_n O dX4_sum_181 rfl 2 rfl 182 rfl ?_
                      refine go_get O hK dX4_sum_182 hinX4 0 rfl rfl 10 (by decide) flX4_29 f_num 185 rfl ?_
                      refine go_callvS (rest := []) (wr := [(h, .inr (4, fs)), (qbase, .inl (cI, 80, .inl fb)), (qden, .inl (cI, 80, .inl fd)), (qquo, .inl (cI, 80, .inl fq)), (qrem, .inl (cI, 80, .inl fr)), (qother, .inl (cI, 80, .inl fo)), (qcurrency, .inl (cI, 8, .inl fc)), (qisWide, .inl (cZ, 8, .inl fw)), (qnegative, .inl (cZ, 8, .inl fn)), (qkept, .inl (cI, 320, .inl K))]) O hK hE (c_X4_decrease E hE qunits qnum cI V2 V0 (by omega)) mlX4_90 smX4_decrease inX4 cdX4_decrease 2 (by decide +kernel) ⟨Nat.le_of_ble_eq_true rfl, Nat.le_of_ble_eq_true rfl⟩ [0] rfl [7, 1] rfl (by decide) [0, 2, 3, 4, 5, 6, 8, 9, 10, 11] rfl (by decide) (by decide) rfl rfl (Nat.le_of_ble_eq_true rfl) ⟨Nat.zero_le _, Nat.zero_le _⟩ dX4_sum_185 188 rfl (fun u hu => ?_)
                      show TGo X [(h, .inr (4, fs)), (qbase, .inl (cI, 80, .inl fb)), (qden, .inl (cI, 80, .inl fd)), (qquo, .inl (cI, 80, .inl fq)), (qrem, .inl (cI, 80, .inl fr)), (qother, .inl (cI, 80, .inl fo)), (qcurrency, .inl (cI, 8, .inl fc)), (qisWide, .inl (cZ, 8, .inl fw)), (qnegative, .inl (cZ, 8, .inl fn)), (qkept, .inl (cI, 320, .inl K)), (qunits, .inl (cI, 80, .inl (dg (V2 - V0)))), (qnum, .inl (cI, 80, .inl (dg V0)))] 0 0 188 [(6, .int (iI (bz (n2 != turn)))), (5, .int (iI (bz n0))), (0, .ref h), (1, .int (iI ((ρ : Nat) : Int))), (2, .int (iI ((α : Nat) : Int))), (3, .int (iI ((β : Nat) : Int))), (4, .int (iI (bz turn)))] []
                      refine TGo.sub (ws' := [(h, .inr (4, fs)), (qnum, .inl (cI, 80, .inl (dg V0))), (qbase, .inl (cI, 80, .inl fb)), (qden, .inl (cI, 80, .inl fd)), (qquo, .inl (cI, 80, .inl fq)), (qrem, .inl (cI, 80, .inl fr)), (qother, .inl (cI, 80, .inl fo)), (qunits, .inl (cI, 80, .inl (dg (V2 - V0)))), (qcurrency, .inl (cI, 8, .inl fc)), (qisWide, .inl (cZ, 8, .inl fw)), (qnegative, .inl (cZ, 8, .inl fn)), (qkept, .inl (cI, 320, .inl K))]) [0, 11, 1, 2, 3, 4, 5, 10, 6, 7, 8, 9] (by decide) rfl ?_
                      refine go_aload_n O dX4_sum_188 rfl 2 rfl 189 rfl ?_
                      refine go_get O hK dX4_sum_189 hinX4 0 rfl rfl 16 (by decide) flX4_47 f_units 192 rfl ?_
                      refine go_aload_n O dX4_sum_192 rfl 2 rfl 193 rfl ?_
                      refine go_get O hK dX4_sum_193 hinX4 0 rfl rfl 10 (by decide) flX4_29 f_num 196 rfl ?_
                      refine go_callvS (rest := []) (wr := [(h, .inr (4, fs)), (qbase, .inl (cI, 80, .inl fb)), (qden, .inl (cI, 80, .inl fd)), (qquo, .inl (cI, 80, .inl fq)), (qrem, .inl (cI, 80, .inl fr)), (qother, .inl (cI, 80, .inl fo)), (qcurrency, .inl (cI, 8, .inl fc)), (qisWide, .inl (cZ, 8, .inl fw)), (qnegative, .inl (cZ, 8, .inl fn)), (qkept, .inl (cI, 320, .inl K))]) O hK hE (c_X4_copy E hE qunits qnum cI (dg (V2 - V0)) (dg V0)) mlX4_94 smX4_copy inX4 cdX4_copy 2 (by decide +kernel) ⟨Nat.le_of_ble_eq_true rfl, Nat.le_of_ble_eq_true rfl⟩ [0] rfl [7, 1] rfl (by decide) [0, 2, 3, 4, 5, 6, 8, 9, 10, 11] rfl (by decide) (by decide) rfl rfl (Nat.le_of_ble_eq_true rfl) ⟨Nat.zero_le _, Nat.zero_le _⟩ dX4_sum_196 199 rfl (fun u hu => ?_)
                      show TGo X [(h, .inr (4, fs)), (qbase, .inl (cI, 80, .inl fb)), (qden, .inl (cI, 80, .inl fd)), (qquo, .inl (cI, 80, .inl fq)), (qrem, .inl (cI, 80, .inl fr)), (qother, .inl (cI, 80, .inl fo)), (qcurrency, .inl (cI, 8, .inl fc)), (qisWide, .inl (cZ, 8, .inl fw)), (qnegative, .inl (cZ, 8, .inl fn)), (qkept, .inl (cI, 320, .inl K)), (qunits, .inl (cI, 80, .inl (dg (V2 - V0)))), (qnum, .inl (cI, 80, .inl (dg (V2 - V0))))] 0 0 199 [(6, .int (iI (bz (n2 != turn)))), (5, .int (iI (bz n0))), (0, .ref h), (1, .int (iI ((ρ : Nat) : Int))), (2, .int (iI ((α : Nat) : Int))), (3, .int (iI ((β : Nat) : Int))), (4, .int (iI (bz turn)))] []
                      refine TGo.sub (ws' := [(h, .inr (4, fs)), (qnum, .inl (cI, 80, .inl (dg (V2 - V0)))), (qbase, .inl (cI, 80, .inl fb)), (qden, .inl (cI, 80, .inl fd)), (qquo, .inl (cI, 80, .inl fq)), (qrem, .inl (cI, 80, .inl fr)), (qother, .inl (cI, 80, .inl fo)), (qunits, .inl (cI, 80, .inl (dg (V2 - V0)))), (qcurrency, .inl (cI, 8, .inl fc)), (qisWide, .inl (cZ, 8, .inl fw)), (qnegative, .inl (cZ, 8, .inl fn)), (qkept, .inl (cI, 320, .inl K))]) [0, 11, 1, 2, 3, 4, 5, 10, 6, 7, 8, 9] (by decide) rfl ?_
                      refine go_iload O dX4_sum_199 0 rfl 201 rfl ?_
                      refine go_istore O dX4_sum_201 (by decide) [(5, .int (iI (bz (n2 != turn)))), (6, .int (iI (bz (n2 != turn)))), (0, .ref h), (1, .int (iI ((ρ : Nat) : Int))), (2, .int (iI ((α : Nat) : Int))), (3, .int (iI ((β : Nat) : Int))), (4, .int (iI (bz turn)))] rfl 203 rfl ?_
                      refine go_aload_n O dX4_sum_203 rfl 2 rfl 204 rfl ?_
                      refine go_get O hK dX4_sum_204 hinX4 0 rfl rfl 11 (by decide) flX4_32 f_base 207 rfl ?_
                      refine go_lconst O dX4_sum_207 1 rfl 208 rfl ?_
                      refine go_callvS (rest := []) (wr := [(h, .inr (4, fs)), (qnum, .inl (cI, 80, .inl (dg (V2 - V0)))), (qden, .inl (cI, 80, .inl fd)), (qquo, .inl (cI, 80, .inl fq)), (qrem, .inl (cI, 80, .inl fr)), (qother, .inl (cI, 80, .inl fo)), (qunits, .inl (cI, 80, .inl (dg (V2 - V0)))), (qcurrency, .inl (cI, 8, .inl fc)), (qisWide, .inl (cZ, 8, .inl fw)), (qnegative, .inl (cZ, 8, .inl fn)), (qkept, .inl (cI, 320, .inl K))]) O hK hE (c_X4_load E hE qbase cI fb 1 (by omega)) mlX4_100 smX4_load inX4 cdX4_load 2 (by decide +kernel) ⟨Nat.le_of_ble_eq_true rfl, Nat.le_of_ble_eq_true rfl⟩ [0] rfl [2] rfl (by decide) [0, 1, 3, 4, 5, 6, 7, 8, 9, 10, 11] rfl (by decide) (by decide) rfl rfl (Nat.le_of_ble_eq_true rfl) ⟨Nat.zero_le _, Nat.zero_le _⟩ dX4_sum_208 211 rfl (fun u hu => ?_)
                      show TGo X [(h, .inr (4, fs)), (qnum, .inl (cI, 80, .inl (dg (V2 - V0)))), (qden, .inl (cI, 80, .inl fd)), (qquo, .inl (cI, 80, .inl fq)), (qrem, .inl (cI, 80, .inl fr)), (qother, .inl (cI, 80, .inl fo)), (qunits, .inl (cI, 80, .inl (dg (V2 - V0)))), (qcurrency, .inl (cI, 8, .inl fc)), (qisWide, .inl (cZ, 8, .inl fw)), (qnegative, .inl (cZ, 8, .inl fn)), (qkept, .inl (cI, 320, .inl K)), (qbase, .inl (cI, 80, .inl (dg (Int.natAbs 1))))] 0 0 211 [(5, .int (iI (bz (n2 != turn)))), (6, .int (iI (bz (n2 != turn)))), (0, .ref h), (1, .int (iI ((ρ : Nat) : Int))), (2, .int (iI ((α : Nat) : Int))), (3, .int (iI ((β : Nat) : Int))), (4, .int (iI (bz turn)))] []
                      refine TGo.sub (ws' := [(h, .inr (4, fs)), (qnum, .inl (cI, 80, .inl (dg (V2 - V0)))), (qbase, .inl (cI, 80, .inl (dg (Int.natAbs 1)))), (qden, .inl (cI, 80, .inl fd)), (qquo, .inl (cI, 80, .inl fq)), (qrem, .inl (cI, 80, .inl fr)), (qother, .inl (cI, 80, .inl fo)), (qunits, .inl (cI, 80, .inl (dg (V2 - V0)))), (qcurrency, .inl (cI, 8, .inl fc)), (qisWide, .inl (cZ, 8, .inl fw)), (qnegative, .inl (cZ, 8, .inl fn)), (qkept, .inl (cI, 320, .inl K))]) [0, 1, 11, 2, 3, 4, 5, 6, 7, 8, 9, 10] (by decide) rfl ?_
                      refine go_aload_n O dX4_sum_211 rfl 2 rfl 212 rfl ?_
                      refine go_iload_n O dX4_sum_212 rfl 3 rfl 213 rfl ?_
                      refine go_aload_n O dX4_sum_213 rfl 2 rfl 214 rfl ?_
                      refine go_get O hK dX4_sum_214 hinX4 0 rfl rfl 3 (by decide) flX4_7 f_currency 217 rfl ?_
                      refine go_iload_n O dX4_sum_217 rfl 4 rfl 218 rfl ?_
                      refine go_iald O hK dX4_sum_218 8 0 rfl rfl α rfl (by omega) (by omega) c0 e1 219 rfl ?_
                      refine go_aload_n O dX4_sum_219 rfl 2 rfl 220 rfl ?_
                      refine go_get O hK dX4_sum_220 hinX4 0 rfl rfl 4 (by decide) flX4_13 f_isWide 223 rfl ?_
                      refine go_iload_n O dX4_sum_223 rfl 4 rfl 224 rfl ?_
                      refine go_zald O hK dX4_sum_224 9 1 rfl rfl α rfl (by omega) (by omega) (bz w0) e2 225 rfl ?_
                      refine go_iload O dX4_sum_225 0 rfl 227 rfl ?_
                      refine go_calliV (As := [.int (iI ((ρ : Nat) : Int)), .int (iI c0), .int (iI (bz w0)), .int (iI (bz (n2 != turn)))]) (rest := []) (wr := [(qunits, .inl (cI, 80, .inl (dg (V2 - V0))))]) O hK hE (c_X4_settle E hE h fs f_p f_s f_m f_base f_den f_num f_quo f_rem f_other f_currency f_isWide f_negative f_kept cI cZ P Sc hp hP hs hS hm ρ (V2 - V0) (Int.natAbs 1) c0 (fd) (fq) (fr) (fo) fc fw fn K reg w0 (n2 != turn) (by omega) (by omega) (by omega) (by decide) (by decide) hMR) mlX4_127 imX4_settle seX4_settle inX4 cdX4_settle 4 (by decide +kernel) ⟨Nat.le_of_ble_eq_true rfl, Nat.le_of_ble_eq_true rfl⟩ 0 rfl rfl [0, 1] rfl [0, 1, 2, 3, 4, 5, 6, 8, 9, 10, 11] rfl (by decide) [7] rfl (by decide) (by decide) rfl rfl (Nat.le_of_ble_eq_true rfl) ⟨Nat.zero_le _, Nat.zero_le _⟩ dX4_sum_227 230 rfl (fun z u hu => ?_)
                      obtain ⟨fd2, fq2, fr2, fo2, fc2, fw2, fn2, K2⟩ := u
                      obtain ⟨rfl, hMR2⟩ := hu
                      show TGo X [(qunits, .inl (cI, 80, .inl (dg (V2 - V0)))), (h, .inr (4, fs)), (qnum, .inl (cI, 80, .inl (dg (V2 - V0)))), (qbase, .inl (cI, 80, .inl (dg (Int.natAbs 1)))), (qden, .inl (cI, 80, .inl fd2)), (qquo, .inl (cI, 80, .inl fq2)), (qrem, .inl (cI, 80, .inl fr2)), (qother, .inl (cI, 80, .inl fo2)), (qcurrency, .inl (cI, 8, .inl fc2)), (qisWide, .inl (cZ, 8, .inl fw2)), (qnegative, .inl (cZ, 8, .inl fn2)), (qkept, .inl (cI, 320, .inl K2))] 0 0 230 [(5, .int (iI (bz (n2 != turn)))), (6, .int (iI (bz (n2 != turn)))), (0, .ref h), (1, .int (iI ((ρ : Nat) : Int))), (2, .int (iI ((α : Nat) : Int))), (3, .int (iI ((β : Nat) : Int))), (4, .int (iI (bz turn)))] [.int (iI (ansO (tstl P Sc m w0 (n2 != turn) (V2 - V0) (Int.natAbs 1))))]
                      refine TGo.sub (ws' := [(h, .inr (4, fs)), (qnum, .inl (cI, 80, .inl (dg (V2 - V0)))), (qbase, .inl (cI, 80, .inl (dg (Int.natAbs 1)))), (qden, .inl (cI, 80, .inl fd2)), (qquo, .inl (cI, 80, .inl fq2)), (qrem, .inl (cI, 80, .inl fr2)), (qother, .inl (cI, 80, .inl fo2)), (qunits, .inl (cI, 80, .inl (dg (V2 - V0)))), (qcurrency, .inl (cI, 8, .inl fc2)), (qisWide, .inl (cZ, 8, .inl fw2)), (qnegative, .inl (cZ, 8, .inl fn2)), (qkept, .inl (cI, 320, .inl K2))]) [1, 2, 3, 4, 5, 6, 7, 0, 8, 9, 10, 11] (by decide) rfl ?_
                      have he := spSum_ok (P := P) (Sc := Sc) (m := m) (turn := turn) hb3 hq hq2 ⟨h78, h63⟩ (tsum_l h132 (by omega))
                      exact hret _ _ _ (dg (V2 - V0), dg (Int.natAbs 1), fd2, fq2, fr2, fo2, dg (V2 - V0), fc2, fw2, fn2, K2) dX4_sum_230 rfl ⟨by rw [he], by rw [he]; exact hMR2⟩
                    · refine go_aload_n O dX4_sum_163 rfl 2 rfl 164 rfl ?_
                      refine go_get O hK dX4_sum_164 hinX4 0 rfl rfl 10 (by decide) flX4_29 f_num 167 rfl ?_
                      refine go_aload_n O dX4_sum_167 rfl 2 rfl 168 rfl ?_
                      refine go_get O hK dX4_sum_168 hinX4 0 rfl rfl 16 (by decide) flX4_47 f_units 171 rfl ?_
                      refine go_callvS (rest := []) (wr := [(h, .inr (4, fs)), (qbase, .inl (cI, 80, .inl fb)), (qden, .inl (cI, 80, .inl fd)), (qquo, .inl (cI, 80, .inl fq)), (qrem, .inl (cI, 80, .inl fr)), (qother, .inl (cI, 80, .inl fo)), (qcurrency, .inl (cI, 8, .inl fc)), (qisWide, .inl (cZ, 8, .inl fw)), (qnegative, .inl (cZ, 8, .inl fn)), (qkept, .inl (cI, 320, .inl K))]) O hK hE (c_X4_decrease E hE qnum qunits cI V0 V2 (by omega)) mlX4_90 smX4_decrease inX4 cdX4_decrease 2 (by decide +kernel) ⟨Nat.le_of_ble_eq_true rfl, Nat.le_of_ble_eq_true rfl⟩ [0] rfl [1, 7] rfl (by decide) [0, 2, 3, 4, 5, 6, 8, 9, 10, 11] rfl (by decide) (by decide) rfl rfl (Nat.le_of_ble_eq_true rfl) ⟨Nat.zero_le _, Nat.zero_le _⟩ dX4_sum_171 174 rfl (fun u hu => ?_)
                      show TGo X [(h, .inr (4, fs)), (qbase, .inl (cI, 80, .inl fb)), (qden, .inl (cI, 80, .inl fd)), (qquo, .inl (cI, 80, .inl fq)), (qrem, .inl (cI, 80, .inl fr)), (qother, .inl (cI, 80, .inl fo)), (qcurrency, .inl (cI, 8, .inl fc)), (qisWide, .inl (cZ, 8, .inl fw)), (qnegative, .inl (cZ, 8, .inl fn)), (qkept, .inl (cI, 320, .inl K)), (qnum, .inl (cI, 80, .inl (dg (V0 - V2)))), (qunits, .inl (cI, 80, .inl (dg V2)))] 0 0 174 [(6, .int (iI (bz (n2 != turn)))), (5, .int (iI (bz n0))), (0, .ref h), (1, .int (iI ((ρ : Nat) : Int))), (2, .int (iI ((α : Nat) : Int))), (3, .int (iI ((β : Nat) : Int))), (4, .int (iI (bz turn)))] []
                      refine TGo.sub (ws' := [(h, .inr (4, fs)), (qnum, .inl (cI, 80, .inl (dg (V0 - V2)))), (qbase, .inl (cI, 80, .inl fb)), (qden, .inl (cI, 80, .inl fd)), (qquo, .inl (cI, 80, .inl fq)), (qrem, .inl (cI, 80, .inl fr)), (qother, .inl (cI, 80, .inl fo)), (qunits, .inl (cI, 80, .inl (dg V2))), (qcurrency, .inl (cI, 8, .inl fc)), (qisWide, .inl (cZ, 8, .inl fw)), (qnegative, .inl (cZ, 8, .inl fn)), (qkept, .inl (cI, 320, .inl K))]) [0, 10, 1, 2, 3, 4, 5, 11, 6, 7, 8, 9] (by decide) rfl ?_
                      refine go_goto O dX4_sum_174 203 (by decide) ?_
                      refine go_aload_n O dX4_sum_203 rfl 2 rfl 204 rfl ?_
                      refine go_get O hK dX4_sum_204 hinX4 0 rfl rfl 11 (by decide) flX4_32 f_base 207 rfl ?_
                      refine go_lconst O dX4_sum_207 1 rfl 208 rfl ?_
                      refine go_callvS (rest := []) (wr := [(h, .inr (4, fs)), (qnum, .inl (cI, 80, .inl (dg (V0 - V2)))), (qden, .inl (cI, 80, .inl fd)), (qquo, .inl (cI, 80, .inl fq)), (qrem, .inl (cI, 80, .inl fr)), (qother, .inl (cI, 80, .inl fo)), (qunits, .inl (cI, 80, .inl (dg V2))), (qcurrency, .inl (cI, 8, .inl fc)), (qisWide, .inl (cZ, 8, .inl fw)), (qnegative, .inl (cZ, 8, .inl fn)), (qkept, .inl (cI, 320, .inl K))]) O hK hE (c_X4_load E hE qbase cI fb 1 (by omega)) mlX4_100 smX4_load inX4 cdX4_load 2 (by decide +kernel) ⟨Nat.le_of_ble_eq_true rfl, Nat.le_of_ble_eq_true rfl⟩ [0] rfl [2] rfl (by decide) [0, 1, 3, 4, 5, 6, 7, 8, 9, 10, 11] rfl (by decide) (by decide) rfl rfl (Nat.le_of_ble_eq_true rfl) ⟨Nat.zero_le _, Nat.zero_le _⟩ dX4_sum_208 211 rfl (fun u hu => ?_)
                      show TGo X [(h, .inr (4, fs)), (qnum, .inl (cI, 80, .inl (dg (V0 - V2)))), (qden, .inl (cI, 80, .inl fd)), (qquo, .inl (cI, 80, .inl fq)), (qrem, .inl (cI, 80, .inl fr)), (qother, .inl (cI, 80, .inl fo)), (qunits, .inl (cI, 80, .inl (dg V2))), (qcurrency, .inl (cI, 8, .inl fc)), (qisWide, .inl (cZ, 8, .inl fw)), (qnegative, .inl (cZ, 8, .inl fn)), (qkept, .inl (cI, 320, .inl K)), (qbase, .inl (cI, 80, .inl (dg (Int.natAbs 1))))] 0 0 211 [(6, .int (iI (bz (n2 != turn)))), (5, .int (iI (bz n0))), (0, .ref h), (1, .int (iI ((ρ : Nat) : Int))), (2, .int (iI ((α : Nat) : Int))), (3, .int (iI ((β : Nat) : Int))), (4, .int (iI (bz turn)))] []
                      refine TGo.sub (ws' := [(h, .inr (4, fs)), (qnum, .inl (cI, 80, .inl (dg (V0 - V2)))), (qbase, .inl (cI, 80, .inl (dg (Int.natAbs 1)))), (qden, .inl (cI, 80, .inl fd)), (qquo, .inl (cI, 80, .inl fq)), (qrem, .inl (cI, 80, .inl fr)), (qother, .inl (cI, 80, .inl fo)), (qunits, .inl (cI, 80, .inl (dg V2))), (qcurrency, .inl (cI, 8, .inl fc)), (qisWide, .inl (cZ, 8, .inl fw)), (qnegative, .inl (cZ, 8, .inl fn)), (qkept, .inl (cI, 320, .inl K))]) [0, 1, 11, 2, 3, 4, 5, 6, 7, 8, 9, 10] (by decide) rfl ?_
                      refine go_aload_n O dX4_sum_211 rfl 2 rfl 212 rfl ?_
                      refine go_iload_n O dX4_sum_212 rfl 3 rfl 213 rfl ?_
                      refine go_aload_n O dX4_sum_213 rfl 2 rfl 214 rfl ?_
                      refine go_get O hK dX4_sum_214 hinX4 0 rfl rfl 3 (by decide) flX4_7 f_currency 217 rfl ?_
                      refine go_iload_n O dX4_sum_217 rfl 4 rfl 218 rfl ?_
                      refine go_iald O hK dX4_sum_218 8 0 rfl rfl α rfl (by omega) (by omega) c0 e1 219 rfl ?_
                      refine go_aload_n O dX4_sum_219 rfl 2 rfl 220 rfl ?_
                      refine go_get O hK dX4_sum_220 hinX4 0 rfl rfl 4 (by decide) flX4_13 f_isWide 223 rfl ?_
                      refine go_iload_n O dX4_sum_223 rfl 4 rfl 224 rfl ?_
                      refine go_zald O hK dX4_sum_224 9 1 rfl rfl α rfl (by omega) (by omega) (bz w0) e2 225 rfl ?_
                      refine go_iload O dX4_sum_225 1 rfl 227 rfl ?_
                      refine go_calliV (As := [.int (iI ((ρ : Nat) : Int)), .int (iI c0), .int (iI (bz w0)), .int (iI (bz n0))]) (rest := []) (wr := [(qunits, .inl (cI, 80, .inl (dg V2)))]) O hK hE (c_X4_settle E hE h fs f_p f_s f_m f_base f_den f_num f_quo f_rem f_other f_currency f_isWide f_negative f_kept cI cZ P Sc hp hP hs hS hm ρ (V0 - V2) (Int.natAbs 1) c0 (fd) (fq) (fr) (fo) fc fw fn K reg w0 n0 (by omega) (by omega) (by omega) (by decide) (by decide) hMR) mlX4_127 imX4_settle seX4_settle inX4 cdX4_settle 4 (by decide +kernel) ⟨Nat.le_of_ble_eq_true rfl, Nat.le_of_ble_eq_true rfl⟩ 0 rfl rfl [0, 1] rfl [0, 1, 2, 3, 4, 5, 6, 8, 9, 10, 11] rfl (by decide) [7] rfl (by decide) (by decide) rfl rfl (Nat.le_of_ble_eq_true rfl) ⟨Nat.zero_le _, Nat.zero_le _⟩ dX4_sum_227 230 rfl (fun z u hu => ?_)
                      obtain ⟨fd2, fq2, fr2, fo2, fc2, fw2, fn2, K2⟩ := u
                      obtain ⟨rfl, hMR2⟩ := hu
                      show TGo X [(qunits, .inl (cI, 80, .inl (dg V2))), (h, .inr (4, fs)), (qnum, .inl (cI, 80, .inl (dg (V0 - V2)))), (qbase, .inl (cI, 80, .inl (dg (Int.natAbs 1)))), (qden, .inl (cI, 80, .inl fd2)), (qquo, .inl (cI, 80, .inl fq2)), (qrem, .inl (cI, 80, .inl fr2)), (qother, .inl (cI, 80, .inl fo2)), (qcurrency, .inl (cI, 8, .inl fc2)), (qisWide, .inl (cZ, 8, .inl fw2)), (qnegative, .inl (cZ, 8, .inl fn2)), (qkept, .inl (cI, 320, .inl K2))] 0 0 230 [(6, .int (iI (bz (n2 != turn)))), (5, .int (iI (bz n0))), (0, .ref h), (1, .int (iI ((ρ : Nat) : Int))), (2, .int (iI ((α : Nat) : Int))), (3, .int (iI ((β : Nat) : Int))), (4, .int (iI (bz turn)))] [.int (iI (ansO (tstl P Sc m w0 n0 (V0 - V2) (Int.natAbs 1))))]
                      refine TGo.sub (ws' := [(h, .inr (4, fs)), (qnum, .inl (cI, 80, .inl (dg (V0 - V2)))), (qbase, .inl (cI, 80, .inl (dg (Int.natAbs 1)))), (qden, .inl (cI, 80, .inl fd2)), (qquo, .inl (cI, 80, .inl fq2)), (qrem, .inl (cI, 80, .inl fr2)), (qother, .inl (cI, 80, .inl fo2)), (qunits, .inl (cI, 80, .inl (dg V2))), (qcurrency, .inl (cI, 8, .inl fc2)), (qisWide, .inl (cZ, 8, .inl fw2)), (qnegative, .inl (cZ, 8, .inl fn2)), (qkept, .inl (cI, 320, .inl K2))]) [1, 2, 3, 4, 5, 6, 7, 0, 8, 9, 10, 11] (by decide) rfl ?_
                      have he := spSum_ok (P := P) (Sc := Sc) (m := m) (turn := turn) hb3 hq hq2 ⟨h78, h63⟩ (tsum_g h132 (by omega))
                      exact hret _ _ _ (dg (V0 - V2), dg (Int.natAbs 1), fd2, fq2, fr2, fo2, dg V2, fc2, fw2, fn2, K2) dX4_sum_230 rfl ⟨by rw [he], by rw [he]; exact hMR2⟩
                  · refine go_aload_n O dX4_sum_135 rfl 2 rfl 136 rfl ?_
                    refine go_get O hK dX4_sum_136 hinX4 0 rfl rfl 10 (by decide) flX4_29 f_num 139 rfl ?_
                    refine go_aload_n O dX4_sum_139 rfl 2 rfl 140 rfl ?_
                    refine go_get O hK dX4_sum_140 hinX4 0 rfl rfl 16 (by decide) flX4_47 f_units 143 rfl ?_
                    refine go_callvS (rest := []) (wr := [(h, .inr (4, fs)), (qbase, .inl (cI, 80, .inl fb)), (qden, .inl (cI, 80, .inl fd)), (qquo, .inl (cI, 80, .inl fq)), (qrem, .inl (cI, 80, .inl fr)), (qother, .inl (cI, 80, .inl fo)), (qcurrency, .inl (cI, 8, .inl fc)), (qisWide, .inl (cZ, 8, .inl fw)), (qnegative, .inl (cZ, 8, .inl fn)), (qkept, .inl (cI, 320, .inl K))]) O hK hE (c_X4_increase E hE qnum qunits cI V0 V2) mlX4_97 smX4_increase inX4 cdX4_increase 2 (by decide +kernel) ⟨Nat.le_of_ble_eq_true rfl, Nat.le_of_ble_eq_true rfl⟩ [0] rfl [1, 7] rfl (by decide) [0, 2, 3, 4, 5, 6, 8, 9, 10, 11] rfl (by decide) (by decide) rfl rfl (Nat.le_of_ble_eq_true rfl) ⟨Nat.zero_le _, Nat.zero_le _⟩ dX4_sum_143 146 rfl (fun u hu => ?_)
                    show TGo X [(h, .inr (4, fs)), (qbase, .inl (cI, 80, .inl fb)), (qden, .inl (cI, 80, .inl fd)), (qquo, .inl (cI, 80, .inl fq)), (qrem, .inl (cI, 80, .inl fr)), (qother, .inl (cI, 80, .inl fo)), (qcurrency, .inl (cI, 8, .inl fc)), (qisWide, .inl (cZ, 8, .inl fw)), (qnegative, .inl (cZ, 8, .inl fn)), (qkept, .inl (cI, 320, .inl K)), (qnum, .inl (cI, 80, .inl (dg (V0 + V2)))), (qunits, .inl (cI, 80, .inl (dg V2)))] 0 0 146 [(6, .int (iI (bz (n2 != turn)))), (5, .int (iI (bz n0))), (0, .ref h), (1, .int (iI ((ρ : Nat) : Int))), (2, .int (iI ((α : Nat) : Int))), (3, .int (iI ((β : Nat) : Int))), (4, .int (iI (bz turn)))] []
                    refine TGo.sub (ws' := [(h, .inr (4, fs)), (qnum, .inl (cI, 80, .inl (dg (V0 + V2)))), (qbase, .inl (cI, 80, .inl fb)), (qden, .inl (cI, 80, .inl fd)), (qquo, .inl (cI, 80, .inl fq)), (qrem, .inl (cI, 80, .inl fr)), (qother, .inl (cI, 80, .inl fo)), (qunits, .inl (cI, 80, .inl (dg V2))), (qcurrency, .inl (cI, 8, .inl fc)), (qisWide, .inl (cZ, 8, .inl fw)), (qnegative, .inl (cZ, 8, .inl fn)), (qkept, .inl (cI, 320, .inl K))]) [0, 10, 1, 2, 3, 4, 5, 11, 6, 7, 8, 9] (by decide) rfl ?_
                    refine go_goto O dX4_sum_146 203 (by decide) ?_
                    refine go_aload_n O dX4_sum_203 rfl 2 rfl 204 rfl ?_
                    refine go_get O hK dX4_sum_204 hinX4 0 rfl rfl 11 (by decide) flX4_32 f_base 207 rfl ?_
                    refine go_lconst O dX4_sum_207 1 rfl 208 rfl ?_
                    refine go_callvS (rest := []) (wr := [(h, .inr (4, fs)), (qnum, .inl (cI, 80, .inl (dg (V0 + V2)))), (qden, .inl (cI, 80, .inl fd)), (qquo, .inl (cI, 80, .inl fq)), (qrem, .inl (cI, 80, .inl fr)), (qother, .inl (cI, 80, .inl fo)), (qunits, .inl (cI, 80, .inl (dg V2))), (qcurrency, .inl (cI, 8, .inl fc)), (qisWide, .inl (cZ, 8, .inl fw)), (qnegative, .inl (cZ, 8, .inl fn)), (qkept, .inl (cI, 320, .inl K))]) O hK hE (c_X4_load E hE qbase cI fb 1 (by omega)) mlX4_100 smX4_load inX4 cdX4_load 2 (by decide +kernel) ⟨Nat.le_of_ble_eq_true rfl, Nat.le_of_ble_eq_true rfl⟩ [0] rfl [2] rfl (by decide) [0, 1, 3, 4, 5, 6, 7, 8, 9, 10, 11] rfl (by decide) (by decide) rfl rfl (Nat.le_of_ble_eq_true rfl) ⟨Nat.zero_le _, Nat.zero_le _⟩ dX4_sum_208 211 rfl (fun u hu => ?_)
                    show TGo X [(h, .inr (4, fs)), (qnum, .inl (cI, 80, .inl (dg (V0 + V2)))), (qden, .inl (cI, 80, .inl fd)), (qquo, .inl (cI, 80, .inl fq)), (qrem, .inl (cI, 80, .inl fr)), (qother, .inl (cI, 80, .inl fo)), (qunits, .inl (cI, 80, .inl (dg V2))), (qcurrency, .inl (cI, 8, .inl fc)), (qisWide, .inl (cZ, 8, .inl fw)), (qnegative, .inl (cZ, 8, .inl fn)), (qkept, .inl (cI, 320, .inl K)), (qbase, .inl (cI, 80, .inl (dg (Int.natAbs 1))))] 0 0 211 [(6, .int (iI (bz (n2 != turn)))), (5, .int (iI (bz n0))), (0, .ref h), (1, .int (iI ((ρ : Nat) : Int))), (2, .int (iI ((α : Nat) : Int))), (3, .int (iI ((β : Nat) : Int))), (4, .int (iI (bz turn)))] []
                    refine TGo.sub (ws' := [(h, .inr (4, fs)), (qnum, .inl (cI, 80, .inl (dg (V0 + V2)))), (qbase, .inl (cI, 80, .inl (dg (Int.natAbs 1)))), (qden, .inl (cI, 80, .inl fd)), (qquo, .inl (cI, 80, .inl fq)), (qrem, .inl (cI, 80, .inl fr)), (qother, .inl (cI, 80, .inl fo)), (qunits, .inl (cI, 80, .inl (dg V2))), (qcurrency, .inl (cI, 8, .inl fc)), (qisWide, .inl (cZ, 8, .inl fw)), (qnegative, .inl (cZ, 8, .inl fn)), (qkept, .inl (cI, 320, .inl K))]) [0, 1, 11, 2, 3, 4, 5, 6, 7, 8, 9, 10] (by decide) rfl ?_
                    refine go_aload_n O dX4_sum_211 rfl 2 rfl 212 rfl ?_
                    refine go_iload_n O dX4_sum_212 rfl 3 rfl 213 rfl ?_
                    refine go_aload_n O dX4_sum_213 rfl 2 rfl 214 rfl ?_
                    refine go_get O hK dX4_sum_214 hinX4 0 rfl rfl 3 (by decide) flX4_7 f_currency 217 rfl ?_
                    refine go_iload_n O dX4_sum_217 rfl 4 rfl 218 rfl ?_
                    refine go_iald O hK dX4_sum_218 8 0 rfl rfl α rfl (by omega) (by omega) c0 e1 219 rfl ?_
                    refine go_aload_n O dX4_sum_219 rfl 2 rfl 220 rfl ?_
                    refine go_get O hK dX4_sum_220 hinX4 0 rfl rfl 4 (by decide) flX4_13 f_isWide 223 rfl ?_
                    refine go_iload_n O dX4_sum_223 rfl 4 rfl 224 rfl ?_
                    refine go_zald O hK dX4_sum_224 9 1 rfl rfl α rfl (by omega) (by omega) (bz w0) e2 225 rfl ?_
                    refine go_iload O dX4_sum_225 1 rfl 227 rfl ?_
                    refine go_calliV (As := [.int (iI ((ρ : Nat) : Int)), .int (iI c0), .int (iI (bz w0)), .int (iI (bz n0))]) (rest := []) (wr := [(qunits, .inl (cI, 80, .inl (dg V2)))]) O hK hE (c_X4_settle E hE h fs f_p f_s f_m f_base f_den f_num f_quo f_rem f_other f_currency f_isWide f_negative f_kept cI cZ P Sc hp hP hs hS hm ρ (V0 + V2) (Int.natAbs 1) c0 (fd) (fq) (fr) (fo) fc fw fn K reg w0 n0 (by omega) (by omega) (by omega) (by decide) (by decide) hMR) mlX4_127 imX4_settle seX4_settle inX4 cdX4_settle 4 (by decide +kernel) ⟨Nat.le_of_ble_eq_true rfl, Nat.le_of_ble_eq_true rfl⟩ 0 rfl rfl [0, 1] rfl [0, 1, 2, 3, 4, 5, 6, 8, 9, 10, 11] rfl (by decide) [7] rfl (by decide) (by decide) rfl rfl (Nat.le_of_ble_eq_true rfl) ⟨Nat.zero_le _, Nat.zero_le _⟩ dX4_sum_227 230 rfl (fun z u hu => ?_)
                    obtain ⟨fd2, fq2, fr2, fo2, fc2, fw2, fn2, K2⟩ := u
                    obtain ⟨rfl, hMR2⟩ := hu
                    show TGo X [(qunits, .inl (cI, 80, .inl (dg V2))), (h, .inr (4, fs)), (qnum, .inl (cI, 80, .inl (dg (V0 + V2)))), (qbase, .inl (cI, 80, .inl (dg (Int.natAbs 1)))), (qden, .inl (cI, 80, .inl fd2)), (qquo, .inl (cI, 80, .inl fq2)), (qrem, .inl (cI, 80, .inl fr2)), (qother, .inl (cI, 80, .inl fo2)), (qcurrency, .inl (cI, 8, .inl fc2)), (qisWide, .inl (cZ, 8, .inl fw2)), (qnegative, .inl (cZ, 8, .inl fn2)), (qkept, .inl (cI, 320, .inl K2))] 0 0 230 [(6, .int (iI (bz (n2 != turn)))), (5, .int (iI (bz n0))), (0, .ref h), (1, .int (iI ((ρ : Nat) : Int))), (2, .int (iI ((α : Nat) : Int))), (3, .int (iI ((β : Nat) : Int))), (4, .int (iI (bz turn)))] [.int (iI (ansO (tstl P Sc m w0 n0 (V0 + V2) (Int.natAbs 1))))]
                    refine TGo.sub (ws' := [(h, .inr (4, fs)), (qnum, .inl (cI, 80, .inl (dg (V0 + V2)))), (qbase, .inl (cI, 80, .inl (dg (Int.natAbs 1)))), (qden, .inl (cI, 80, .inl fd2)), (qquo, .inl (cI, 80, .inl fq2)), (qrem, .inl (cI, 80, .inl fr2)), (qother, .inl (cI, 80, .inl fo2)), (qunits, .inl (cI, 80, .inl (dg V2))), (qcurrency, .inl (cI, 8, .inl fc2)), (qisWide, .inl (cZ, 8, .inl fw2)), (qnegative, .inl (cZ, 8, .inl fn2)), (qkept, .inl (cI, 320, .inl K2))]) [1, 2, 3, 4, 5, 6, 7, 0, 8, 9, 10, 11] (by decide) rfl ?_
                    have he := spSum_ok (P := P) (Sc := Sc) (m := m) (turn := turn) hb3 hq hq2 ⟨h78, h63⟩ (tsum_s h132)
                    exact hret _ _ _ (dg (V0 + V2), dg (Int.natAbs 1), fd2, fq2, fr2, fo2, dg V2, fc2, fw2, fn2, K2) dX4_sum_230 rfl ⟨by rw [he], by rw [he]; exact hMR2⟩
              · refine go_bipush O dX4_sum_81 (by decide) 83 rfl ?_
                have he := spSum_mis (P := P) (Sc := Sc) (m := m) (turn := turn) hb3 hq hq2 (fun e => h78 e.1)
                exact hret _ _ _ (fnum, fb, fd, fq, fr, fo, fu, fc, fw, fn, K) dX4_sum_83 rfl ⟨by rw [he], by rw [he]; exact hMR⟩
      · refine go_bipush O dX4_sum_27 (by decide) 29 rfl ?_
        have he := spSum_bad (P := P) (Sc := Sc) (m := m) (reg := reg) (r := r) (a := a) (b := b) (turn := turn) (by omega)
        exact hret _ _ _ (fnum, fb, fd, fq, fr, fo, fu, fc, fw, fn, K) dX4_sum_29 rfl ⟨by rw [he], by rw [he]; exact hMR⟩
set_option maxHeartbeats 4000000 in
set_option maxRecDepth 100000 in
/-- add -/
theorem c_X4_add (E : TEn) (hE : EnvOk E) (h : Nat) (fs : List Value) {p s m : Int} {qbase qden qnum qquo qrem qother qcurrency qisWide qnegative qkept qunits : Nat} (f_p : fs[0]? = some (.int (iI p))) (f_s : fs[1]? = some (.int (iI s))) (f_m : fs[2]? = some (.int (iI m))) (f_base : fs[11]? = some (.ref qbase)) (f_den : fs[12]? = some (.ref qden)) (f_num : fs[10]? = some (.ref qnum)) (f_quo : fs[13]? = some (.ref qquo)) (f_rem : fs[14]? = some (.ref qrem)) (f_other : fs[15]? = some (.ref qother)) (f_currency : fs[3]? = some (.ref qcurrency)) (f_isWide : fs[4]? = some (.ref qisWide)) (f_negative : fs[5]? = some (.ref qnegative)) (f_kept : fs[6]? = some (.ref qkept)) (f_units : fs[16]? = some (.ref qunits)) (cI cZ : ClassId) (P Sc : Nat) (hp : p = (P : Int)) (hP : 19 ≤ P ∧ P ≤ 30) (hs : s = (Sc : Int)) (hS : 5 ≤ Sc ∧ Sc ≤ 10) (hm : 0 ≤ m ∧ m ≤ 6) (fnum fb fd fq fr fo fu fc fw fn K : Nat → Int32) (reg : Rg) (r a b : Int) (hr : r32 r) (ha : r32 a) (hb : r32 b) (hMR : MR fc fw fn K reg) : Cti vwCl E yX4_add wsX4_add (rmn 5 125) [.ref h, .int (iI r), .int (iI a), .int (iI b)] [(h, .inr (4, fs)), (qnum, .inl (cI, 80, .inl fnum)), (qbase, .inl (cI, 80, .inl fb)), (qden, .inl (cI, 80, .inl fd)), (qquo, .inl (cI, 80, .inl fq)), (qrem, .inl (cI, 80, .inl fr)), (qother, .inl (cI, 80, .inl fo)), (qunits, .inl (cI, 80, .inl fu)), (qcurrency, .inl (cI, 8, .inl fc)), (qisWide, .inl (cZ, 8, .inl fw)), (qnegative, .inl (cZ, 8, .inl fn)), (qkept, .inl (cI, 320, .inl K))] [(cI, .int), (cZ, .boolean)] (fun (z : Int) (u : (Nat → Int32) × (Nat → Int32) × (Nat → Int32) × (Nat → Int32) × (Nat → Int32) × (Nat → Int32) × (Nat → Int32) × (Nat → Int32) × (Nat → Int32) × (Nat → Int32) × (Nat → Int32)) => z = (spSum P Sc m reg r a b false).1 ∧ MR u.2.2.2.2.2.2.2.1 u.2.2.2.2.2.2.2.2.1 u.2.2.2.2.2.2.2.2.2.1 u.2.2.2.2.2.2.2.2.2.2 (spSum P Sc m reg r a b false).2) (fun u => [(h, .inr (4, fs)), (qnum, .inl (cI, 80, .inl u.1)), (qbase, .inl (cI, 80, .inl u.2.1)), (qden, .inl (cI, 80, .inl u.2.2.1)), (qquo, .inl (cI, 80, .inl u.2.2.2.1)), (qrem, .inl (cI, 80, .inl u.2.2.2.2.1)), (qother, .inl (cI, 80, .inl u.2.2.2.2.2.1)), (qunits, .inl (cI, 80, .inl u.2.2.2.2.2.2.1)), (qcurrency, .inl (cI, 8, .inl u.2.2.2.2.2.2.2.1)), (qisWide, .inl (cZ, 8, .inl u.2.2.2.2.2.2.2.2.1)), (qnegative, .inl (cZ, 8, .inl u.2.2.2.2.2.2.2.2.2.1)), (qkept, .inl (cI, 320, .inl u.2.2.2.2.2.2.2.2.2.2))]) := by
  refine enteri (by decide) (Nat.le_of_ble_eq_true rfl) ?_
  intro X O hK hin2 hret
  show TGo X [(h, .inr (4, fs)), (qnum, .inl (cI, 80, .inl fnum)), (qbase, .inl (cI, 80, .inl fb)), (qden, .inl (cI, 80, .inl fd)), (qquo, .inl (cI, 80, .inl fq)), (qrem, .inl (cI, 80, .inl fr)), (qother, .inl (cI, 80, .inl fo)), (qunits, .inl (cI, 80, .inl fu)), (qcurrency, .inl (cI, 8, .inl fc)), (qisWide, .inl (cZ, 8, .inl fw)), (qnegative, .inl (cZ, 8, .inl fn)), (qkept, .inl (cI, 320, .inl K))] 0 0 0 [(0, .ref h), (1, .int (iI r)), (2, .int (iI a)), (3, .int (iI b))] []
  refine go_aload_n O dX4_add_0 rfl 0 rfl 1 rfl ?_
  refine go_iload_n O dX4_add_1 rfl 1 rfl 2 rfl ?_
  refine go_iload_n O dX4_add_2 rfl 2 rfl 3 rfl ?_
  refine go_iload_n O dX4_add_3 rfl 3 rfl 4 rfl ?_
  refine go_iconst O dX4_add_4 5 rfl ?_
  refine TGo.topi (y := bz false) rfl ?_
  refine go_calliV (As := [.int (iI r), .int (iI a), .int (iI b), .int (iI (bz false))]) (rest := []) (wr := []) O hK hE (c_X4_sum E hE h fs f_p f_s f_m f_base f_den f_num f_quo f_rem f_other f_currency f_isWide f_negative f_kept f_units cI cZ P Sc hp hP hs hS hm fnum fb fd fq fr fo fu fc fw fn K reg r a b hr ha hb false hMR) mlX4_134 imX4_sum seX4_sum inX4 cdX4_sum 4 (by decide +kernel) ⟨Nat.le_of_ble_eq_true rfl, Nat.le_of_ble_eq_true rfl⟩ 0 rfl rfl [0, 1] rfl [0, 1, 2, 3, 4, 5, 6, 7, 8, 9, 10, 11] rfl (by decide) [] rfl (by decide) (by decide) rfl rfl (Nat.le_of_ble_eq_true rfl) ⟨Nat.zero_le _, Nat.zero_le _⟩ dX4_add_5 8 rfl (fun z u hu => ?_)
  obtain ⟨fnum2, fb2, fd2, fq2, fr2, fo2, fu2, fc2, fw2, fn2, K2⟩ := u
  obtain ⟨rfl, hMR2⟩ := hu
  show TGo X [(h, .inr (4, fs)), (qnum, .inl (cI, 80, .inl fnum2)), (qbase, .inl (cI, 80, .inl fb2)), (qden, .inl (cI, 80, .inl fd2)), (qquo, .inl (cI, 80, .inl fq2)), (qrem, .inl (cI, 80, .inl fr2)), (qother, .inl (cI, 80, .inl fo2)), (qunits, .inl (cI, 80, .inl fu2)), (qcurrency, .inl (cI, 8, .inl fc2)), (qisWide, .inl (cZ, 8, .inl fw2)), (qnegative, .inl (cZ, 8, .inl fn2)), (qkept, .inl (cI, 320, .inl K2))] 0 0 8 [(0, .ref h), (1, .int (iI r)), (2, .int (iI a)), (3, .int (iI b))] [.int (iI ((spSum P Sc m reg r a b false).1))]
  exact hret _ _ _ (fnum2, fb2, fd2, fq2, fr2, fo2, fu2, fc2, fw2, fn2, K2) dX4_add_8 rfl ⟨rfl, hMR2⟩
set_option maxHeartbeats 4000000 in
set_option maxRecDepth 100000 in
/-- subtract -/
theorem c_X4_subtract (E : TEn) (hE : EnvOk E) (h : Nat) (fs : List Value) {p s m : Int} {qbase qden qnum qquo qrem qother qcurrency qisWide qnegative qkept qunits : Nat} (f_p : fs[0]? = some (.int (iI p))) (f_s : fs[1]? = some (.int (iI s))) (f_m : fs[2]? = some (.int (iI m))) (f_base : fs[11]? = some (.ref qbase)) (f_den : fs[12]? = some (.ref qden)) (f_num : fs[10]? = some (.ref qnum)) (f_quo : fs[13]? = some (.ref qquo)) (f_rem : fs[14]? = some (.ref qrem)) (f_other : fs[15]? = some (.ref qother)) (f_currency : fs[3]? = some (.ref qcurrency)) (f_isWide : fs[4]? = some (.ref qisWide)) (f_negative : fs[5]? = some (.ref qnegative)) (f_kept : fs[6]? = some (.ref qkept)) (f_units : fs[16]? = some (.ref qunits)) (cI cZ : ClassId) (P Sc : Nat) (hp : p = (P : Int)) (hP : 19 ≤ P ∧ P ≤ 30) (hs : s = (Sc : Int)) (hS : 5 ≤ Sc ∧ Sc ≤ 10) (hm : 0 ≤ m ∧ m ≤ 6) (fnum fb fd fq fr fo fu fc fw fn K : Nat → Int32) (reg : Rg) (r a b : Int) (hr : r32 r) (ha : r32 a) (hb : r32 b) (hMR : MR fc fw fn K reg) : Cti vwCl E yX4_subtract wsX4_subtract (rmn 5 125) [.ref h, .int (iI r), .int (iI a), .int (iI b)] [(h, .inr (4, fs)), (qnum, .inl (cI, 80, .inl fnum)), (qbase, .inl (cI, 80, .inl fb)), (qden, .inl (cI, 80, .inl fd)), (qquo, .inl (cI, 80, .inl fq)), (qrem, .inl (cI, 80, .inl fr)), (qother, .inl (cI, 80, .inl fo)), (qunits, .inl (cI, 80, .inl fu)), (qcurrency, .inl (cI, 8, .inl fc)), (qisWide, .inl (cZ, 8, .inl fw)), (qnegative, .inl (cZ, 8, .inl fn)), (qkept, .inl (cI, 320, .inl K))] [(cI, .int), (cZ, .boolean)] (fun (z : Int) (u : (Nat → Int32) × (Nat → Int32) × (Nat → Int32) × (Nat → Int32) × (Nat → Int32) × (Nat → Int32) × (Nat → Int32) × (Nat → Int32) × (Nat → Int32) × (Nat → Int32) × (Nat → Int32)) => z = (spSum P Sc m reg r a b true).1 ∧ MR u.2.2.2.2.2.2.2.1 u.2.2.2.2.2.2.2.2.1 u.2.2.2.2.2.2.2.2.2.1 u.2.2.2.2.2.2.2.2.2.2 (spSum P Sc m reg r a b true).2) (fun u => [(h, .inr (4, fs)), (qnum, .inl (cI, 80, .inl u.1)), (qbase, .inl (cI, 80, .inl u.2.1)), (qden, .inl (cI, 80, .inl u.2.2.1)), (qquo, .inl (cI, 80, .inl u.2.2.2.1)), (qrem, .inl (cI, 80, .inl u.2.2.2.2.1)), (qother, .inl (cI, 80, .inl u.2.2.2.2.2.1)), (qunits, .inl (cI, 80, .inl u.2.2.2.2.2.2.1)), (qcurrency, .inl (cI, 8, .inl u.2.2.2.2.2.2.2.1)), (qisWide, .inl (cZ, 8, .inl u.2.2.2.2.2.2.2.2.1)), (qnegative, .inl (cZ, 8, .inl u.2.2.2.2.2.2.2.2.2.1)), (qkept, .inl (cI, 320, .inl u.2.2.2.2.2.2.2.2.2.2))]) := by
  refine enteri (by decide) (Nat.le_of_ble_eq_true rfl) ?_
  intro X O hK hin2 hret
  show TGo X [(h, .inr (4, fs)), (qnum, .inl (cI, 80, .inl fnum)), (qbase, .inl (cI, 80, .inl fb)), (qden, .inl (cI, 80, .inl fd)), (qquo, .inl (cI, 80, .inl fq)), (qrem, .inl (cI, 80, .inl fr)), (qother, .inl (cI, 80, .inl fo)), (qunits, .inl (cI, 80, .inl fu)), (qcurrency, .inl (cI, 8, .inl fc)), (qisWide, .inl (cZ, 8, .inl fw)), (qnegative, .inl (cZ, 8, .inl fn)), (qkept, .inl (cI, 320, .inl K))] 0 0 0 [(0, .ref h), (1, .int (iI r)), (2, .int (iI a)), (3, .int (iI b))] []
  refine go_aload_n O dX4_subtract_0 rfl 0 rfl 1 rfl ?_
  refine go_iload_n O dX4_subtract_1 rfl 1 rfl 2 rfl ?_
  refine go_iload_n O dX4_subtract_2 rfl 2 rfl 3 rfl ?_
  refine go_iload_n O dX4_subtract_3 rfl 3 rfl 4 rfl ?_
  refine go_iconst O dX4_subtract_4 5 rfl ?_
  refine TGo.topi (y := bz true) rfl ?_
  refine go_calliV (As := [.int (iI r), .int (iI a), .int (iI b), .int (iI (bz true))]) (rest := []) (wr := []) O hK hE (c_X4_sum E hE h fs f_p f_s f_m f_base f_den f_num f_quo f_rem f_other f_currency f_isWide f_negative f_kept f_units cI cZ P Sc hp hP hs hS hm fnum fb fd fq fr fo fu fc fw fn K reg r a b hr ha hb true hMR) mlX4_134 imX4_sum seX4_sum inX4 cdX4_sum 4 (by decide +kernel) ⟨Nat.le_of_ble_eq_true rfl, Nat.le_of_ble_eq_true rfl⟩ 0 rfl rfl [0, 1] rfl [0, 1, 2, 3, 4, 5, 6, 7, 8, 9, 10, 11] rfl (by decide) [] rfl (by decide) (by decide) rfl rfl (Nat.le_of_ble_eq_true rfl) ⟨Nat.zero_le _, Nat.zero_le _⟩ dX4_subtract_5 8 rfl (fun z u hu => ?_)
  obtain ⟨fnum2, fb2, fd2, fq2, fr2, fo2, fu2, fc2, fw2, fn2, K2⟩ := u
  obtain ⟨rfl, hMR2⟩ := hu
  show TGo X [(h, .inr (4, fs)), (qnum, .inl (cI, 80, .inl fnum2)), (qbase, .inl (cI, 80, .inl fb2)), (qden, .inl (cI, 80, .inl fd2)), (qquo, .inl (cI, 80, .inl fq2)), (qrem, .inl (cI, 80, .inl fr2)), (qother, .inl (cI, 80, .inl fo2)), (qunits, .inl (cI, 80, .inl fu2)), (qcurrency, .inl (cI, 8, .inl fc2)), (qisWide, .inl (cZ, 8, .inl fw2)), (qnegative, .inl (cZ, 8, .inl fn2)), (qkept, .inl (cI, 320, .inl K2))] 0 0 8 [(0, .ref h), (1, .int (iI r)), (2, .int (iI a)), (3, .int (iI b))] [.int (iI ((spSum P Sc m reg r a b true).1))]
  exact hret _ _ _ (fnum2, fb2, fd2, fq2, fr2, fo2, fu2, fc2, fw2, fn2, K2) dX4_subtract_8 rfl ⟨rfl, hMR2⟩
set_option maxHeartbeats 4000000 in
set_option maxRecDepth 100000 in
/-- negate -/
theorem c_X4_negate (E : TEn) (hE : EnvOk E) (h : Nat) (fs : List Value) {qcurrency qisWide qnegative qkept qnum qother : Nat} (f_currency : fs[3]? = some (.ref qcurrency)) (f_isWide : fs[4]? = some (.ref qisWide)) (f_negative : fs[5]? = some (.ref qnegative)) (f_kept : fs[6]? = some (.ref qkept)) (f_num : fs[10]? = some (.ref qnum)) (f_other : fs[15]? = some (.ref qother)) (cI cZ : ClassId) (fc fw fn K fnum fo : Nat → Int32) (reg : Rg) (r a : Int) (hr : r32 r) (ha : r32 a) (hMR : MR fc fw fn K reg) : Cti vwCl E yX4_negate wsX4_negate (rmn 3 71) [.ref h, .int (iI r), .int (iI a)] [(h, .inr (4, fs)), (qcurrency, .inl (cI, 8, .inl fc)), (qisWide, .inl (cZ, 8, .inl fw)), (qnegative, .inl (cZ, 8, .inl fn)), (qkept, .inl (cI, 320, .inl K)), (qnum, .inl (cI, 80, .inl fnum)), (qother, .inl (cI, 80, .inl fo))] [(cI, .int), (cZ, .boolean)] (fun (z : Int) (u : (Nat → Int32) × (Nat → Int32) × (Nat → Int32) × (Nat → Int32) × (Nat → Int32) × (Nat → Int32)) => z = (spNeg reg r a).1 ∧ MR u.1 u.2.1 u.2.2.1 u.2.2.2.1 (spNeg reg r a).2) (fun u => [(h, .inr (4, fs)), (qcurrency, .inl (cI, 8, .inl u.1)), (qisWide, .inl (cZ, 8, .inl u.2.1)), (qnegative, .inl (cZ, 8, .inl u.2.2.1)), (qkept, .inl (cI, 320, .inl u.2.2.2.1)), (qnum, .inl (cI, 80, .inl u.2.2.2.2.1)), (qother, .inl (cI, 80, .inl u.2.2.2.2.2))]) := by
  refine enteri (by decide) (Nat.le_of_ble_eq_true rfl) ?_
  intro X O hK hin2 hret
  show TGo X [(h, .inr (4, fs)), (qcurrency, .inl (cI, 8, .inl fc)), (qisWide, .inl (cZ, 8, .inl fw)), (qnegative, .inl (cZ, 8, .inl fn)), (qkept, .inl (cI, 320, .inl K)), (qnum, .inl (cI, 80, .inl fnum)), (qother, .inl (cI, 80, .inl fo))] 0 0 0 [(0, .ref h), (1, .int (iI r)), (2, .int (iI a))] []
  have o1 := tout_i (x := r) (e := 8)
  have o2 := tout_i (x := a) (e := 8)
  refine go_iload_n O dX4_negate_0 rfl 1 rfl 1 rfl ?_
  refine go_bipush O dX4_negate_1 (by decide) 3 rfl ?_
  refine go_calliS (rest := []) (wr := [(h, .inr (4, fs)), (qcurrency, .inl (cI, 8, .inl fc)), (qisWide, .inl (cZ, 8, .inl fw)), (qnegative, .inl (cZ, 8, .inl fn)), (qkept, .inl (cI, 320, .inl K)), (qnum, .inl (cI, 80, .inl fnum)), (qother, .inl (cI, 80, .inl fo))]) O hK hE (c_X4_outside E hE r 8 (by omega) (by omega)) mlX4_123 smX4_outside inX4 cdX4_outside 2 (by decide +kernel) ⟨Nat.le_of_ble_eq_true rfl, Nat.le_of_ble_eq_true rfl⟩ [] rfl [] rfl (by decide) [0, 1, 2, 3, 4, 5, 6] rfl (by decide) (by decide) rfl rfl (Nat.le_of_ble_eq_true rfl) ⟨Nat.zero_le _, Nat.zero_le _⟩ dX4_negate_3 6 rfl (fun z u hu => ?_)
  subst hu
  show TGo X [(h, .inr (4, fs)), (qcurrency, .inl (cI, 8, .inl fc)), (qisWide, .inl (cZ, 8, .inl fw)), (qnegative, .inl (cZ, 8, .inl fn)), (qkept, .inl (cI, 320, .inl K)), (qnum, .inl (cI, 80, .inl fnum)), (qother, .inl (cI, 80, .inl fo))] 0 0 6 [(0, .ref h), (1, .int (iI r)), (2, .int (iI a))] [.int (iI (bz (tout r 8)))]
  refine go_if_ne O dX4_negate_6 18 (by decide) 9 rfl (bz_r _) (fun h6 => ?_) (fun h6 => ?_)
  · refine go_bipush O dX4_negate_18 (by decide) 20 rfl ?_
    have he := spNeg_bad (reg := reg) (r := r) (a := a) (by omega)
    exact hret _ _ _ (fc, fw, fn, K, fnum, fo) dX4_negate_20 rfl ⟨by rw [he], by rw [he]; exact hMR⟩
  · refine go_iload_n O dX4_negate_9 rfl 2 rfl 10 rfl ?_
    refine go_bipush O dX4_negate_10 (by decide) 12 rfl ?_
    refine go_calliS (rest := []) (wr := [(h, .inr (4, fs)), (qcurrency, .inl (cI, 8, .inl fc)), (qisWide, .inl (cZ, 8, .inl fw)), (qnegative, .inl (cZ, 8, .inl fn)), (qkept, .inl (cI, 320, .inl K)), (qnum, .inl (cI, 80, .inl fnum)), (qother, .inl (cI, 80, .inl fo))]) O hK hE (c_X4_outside E hE a 8 (by omega) (by omega)) mlX4_123 smX4_outside inX4 cdX4_outside 2 (by decide +kernel) ⟨Nat.le_of_ble_eq_true rfl, Nat.le_of_ble_eq_true rfl⟩ [] rfl [] rfl (by decide) [0, 1, 2, 3, 4, 5, 6] rfl (by decide) (by decide) rfl rfl (Nat.le_of_ble_eq_true rfl) ⟨Nat.zero_le _, Nat.zero_le _⟩ dX4_negate_12 15 rfl (fun z u hu => ?_)
    subst hu
    show TGo X [(h, .inr (4, fs)), (qcurrency, .inl (cI, 8, .inl fc)), (qisWide, .inl (cZ, 8, .inl fw)), (qnegative, .inl (cZ, 8, .inl fn)), (qkept, .inl (cI, 320, .inl K)), (qnum, .inl (cI, 80, .inl fnum)), (qother, .inl (cI, 80, .inl fo))] 0 0 15 [(0, .ref h), (1, .int (iI r)), (2, .int (iI a))] [.int (iI (bz (tout a 8)))]
    refine go_if_eq O dX4_negate_15 21 (by decide) 18 rfl (bz_r _) (fun h15 => ?_) (fun h15 => ?_)
    · obtain ⟨ρ, rfl⟩ : ∃ ρ : Nat, r = (ρ : Int) := ⟨r.toNat, by omega⟩
      obtain ⟨α, rfl⟩ : ∃ α : Nat, a = (α : Int) := ⟨a.toNat, by omega⟩
      have hα := hMR α (by omega)
      have hb3 : ρ < 8 ∧ α < 8 := by omega
      rcases hq : reg α with _ | ⟨c0, w0, n0, V0⟩
      · rw [hq] at hα
        refine go_aload_n O dX4_negate_21 rfl 0 rfl 22 rfl ?_
        refine go_get O hK dX4_negate_22 hinX4 0 rfl rfl 3 (by decide) flX4_7 f_currency 25 rfl ?_
        refine go_iload_n O dX4_negate_25 rfl 2 rfl 26 rfl ?_
        refine go_iald O hK dX4_negate_26 1 0 rfl rfl α rfl (by omega) (by omega) (-1) hα 27 rfl ?_
        refine go_if_ge O dX4_negate_27 33 (by decide) 30 rfl (by omega) (fun h27 => by omega) (fun h27 => ?_)
        refine go_bipush O dX4_negate_30 (by decide) 32 rfl ?_
        have he := spNeg_no hb3 hq
        exact hret _ _ _ (fc, fw, fn, K, fnum, fo) dX4_negate_32 rfl ⟨by rw [he], by rw [he]; exact hMR⟩
      · rw [hq] at hα
        obtain ⟨hc0, e1, e2, e3, hV0, hz0, hK0⟩ := hα
        have b0 := bz_01 n0
        have b1 := bz_01 w0
        refine go_aload_n O dX4_negate_21 rfl 0 rfl 22 rfl ?_
        refine go_get O hK dX4_negate_22 hinX4 0 rfl rfl 3 (by decide) flX4_7 f_currency 25 rfl ?_
        refine go_iload_n O dX4_negate_25 rfl 2 rfl 26 rfl ?_
        refine go_iald O hK dX4_negate_26 1 0 rfl rfl α rfl (by omega) (by omega) c0 e1 27 rfl ?_
        refine go_if_ge O dX4_negate_27 33 (by decide) 30 rfl (by omega) (fun h27 => ?_) (fun h27 => by omega)
        refine go_aload_n O dX4_negate_33 rfl 0 rfl 34 rfl ?_
        refine go_aload_n O dX4_negate_34 rfl 0 rfl 35 rfl ?_
        refine go_get O hK dX4_negate_35 hinX4 0 rfl rfl 10 (by decide) flX4_29 f_num 38 rfl ?_
        refine go_iload_n O dX4_negate_38 rfl 2 rfl 39 rfl ?_
        refine go_callvV (As := [.ref qnum, .int (iI ((α : Nat) : Int))]) (rest := []) (wr := [(qcurrency, .inl (cI, 8, .inl fc)), (qisWide, .inl (cZ, 8, .inl fw)), (qnegative, .inl (cZ, 8, .inl fn)), (qother, .inl (cI, 80, .inl fo))]) O hK hE (c_X4_take E hE h fs f_kept qnum cI K (fnum) α V0 (by omega) (by omega) hK0) mlX4_131 imX4_take seX4_take inX4 cdX4_take 2 (by decide +kernel) ⟨Nat.le_of_ble_eq_true rfl, Nat.le_of_ble_eq_true rfl⟩ 0 rfl rfl [0] rfl [0, 4, 5] rfl (by decide) [1, 2, 3, 6] rfl (by decide) (by decide) rfl rfl (Nat.le_of_ble_eq_true rfl) ⟨Nat.zero_le _, Nat.zero_le _⟩ dX4_negate_39 42 rfl (fun u hu => ?_)
        show TGo X [(qcurrency, .inl (cI, 8, .inl fc)), (qisWide, .inl (cZ, 8, .inl fw)), (qnegative, .inl (cZ, 8, .inl fn)), (qother, .inl (cI, 80, .inl fo)), (h, .inr (4, fs)), (qkept, .inl (cI, 320, .inl K)), (qnum, .inl (cI, 80, .inl (dg V0)))] 0 0 42 [(0, .ref h), (1, .int (iI ((ρ : Nat) : Int))), (2, .int (iI ((α : Nat) : Int)))] []
        refine TGo.sub (ws' := [(h, .inr (4, fs)), (qcurrency, .inl (cI, 8, .inl fc)), (qisWide, .inl (cZ, 8, .inl fw)), (qnegative, .inl (cZ, 8, .inl fn)), (qkept, .inl (cI, 320, .inl K)), (qnum, .inl (cI, 80, .inl (dg V0))), (qother, .inl (cI, 80, .inl fo))]) [4, 0, 1, 2, 5, 6, 3] (by decide) rfl ?_
        refine go_aload_n O dX4_negate_42 rfl 0 rfl 43 rfl ?_
        refine go_aload_n O dX4_negate_43 rfl 0 rfl 44 rfl ?_
        refine go_get O hK dX4_negate_44 hinX4 0 rfl rfl 10 (by decide) flX4_29 f_num 47 rfl ?_
        refine go_aload_n O dX4_negate_47 rfl 0 rfl 48 rfl ?_
        refine go_get O hK dX4_negate_48 hinX4 0 rfl rfl 4 (by decide) flX4_13 f_isWide 51 rfl ?_
        refine go_iload_n O dX4_negate_51 rfl 2 rfl 52 rfl ?_
        refine go_zald O hK dX4_negate_52 2 1 rfl rfl α rfl (by omega) (by omega) (bz w0) e2 53 rfl ?_
        refine go_aload_n O dX4_negate_53 rfl 0 rfl 54 rfl ?_
        refine go_get O hK dX4_negate_54 hinX4 0 rfl rfl 5 (by decide) flX4_17 f_negative 57 rfl ?_
        refine go_iload_n O dX4_negate_57 rfl 2 rfl 58 rfl ?_
        refine go_zald O hK dX4_negate_58 3 1 rfl rfl α rfl (by omega) (by omega) (bz n0) e3 59 rfl ?_
        refine go_if_ne O dX4_negate_59 66 (by decide) 62 rfl (by omega) (fun h59 => ?_) (fun h59 => ?_)
        · refine go_iconst O dX4_negate_66 67 rfl ?_
          refine TGo.topi (y := bz (!n0)) (bnot_0 (by omega)) ?_
          refine go_calliV (As := [.ref qnum, .int (iI (bz w0)), .int (iI (bz (!n0)))]) (rest := []) (wr := [(qcurrency, .inl (cI, 8, .inl fc)), (qisWide, .inl (cZ, 8, .inl fw)), (qnegative, .inl (cZ, 8, .inl fn)), (qkept, .inl (cI, 320, .inl K))]) O hK hE (c_X4_fits E hE h fs f_other qnum cI V0 fo w0 (!n0) (by omega)) mlX4_115 imX4_fits seX4_fits inX4 cdX4_fits 3 (by decide +kernel) ⟨Nat.le_of_ble_eq_true rfl, Nat.le_of_ble_eq_true rfl⟩ 0 rfl rfl [0] rfl [0, 6, 5] rfl (by decide) [1, 2, 3, 4] rfl (by decide) (by decide) rfl rfl (Nat.le_of_ble_eq_true rfl) ⟨Nat.zero_le _, Nat.zero_le _⟩ dX4_negate_67 70 rfl (fun z u hu => ?_)
          subst hu
          obtain ⟨fo2, rfl⟩ : ∃ z, z = u := ⟨_, rfl⟩
          show TGo X [(qcurrency, .inl (cI, 8, .inl fc)), (qisWide, .inl (cZ, 8, .inl fw)), (qnegative, .inl (cZ, 8, .inl fn)), (qkept, .inl (cI, 320, .inl K)), (h, .inr (4, fs)), (qother, .inl (cI, 80, .inl fo2)), (qnum, .inl (cI, 80, .inl (dg V0)))] 0 0 70 [(0, .ref h), (1, .int (iI ((ρ : Nat) : Int))), (2, .int (iI ((α : Nat) : Int)))] [.int (iI (bz (tfit w0 (!n0) V0)))]
          refine TGo.sub (ws' := [(h, .inr (4, fs)), (qcurrency, .inl (cI, 8, .inl fc)), (qisWide, .inl (cZ, 8, .inl fw)), (qnegative, .inl (cZ, 8, .inl fn)), (qkept, .inl (cI, 320, .inl K)), (qnum, .inl (cI, 80, .inl (dg V0))), (qother, .inl (cI, 80, .inl fo2))]) [4, 0, 1, 2, 3, 6, 5] (by decide) rfl ?_
          refine go_istore_n O dX4_negate_70 rfl (by decide) [(3, .int (iI (bz (tfit w0 (!n0) V0)))), (0, .ref h), (1, .int (iI ((ρ : Nat) : Int))), (2, .int (iI ((α : Nat) : Int)))] rfl 71 rfl ?_
          refine go_iload_n O dX4_negate_71 rfl 0 rfl 72 rfl ?_
          refine go_if_eq O dX4_negate_72 113 (by decide) 75 rfl (bz_r _) (fun h72 => ?_) (fun h72 => ?_)
          · refine go_bipush O dX4_negate_113 (by decide) 115 rfl ?_
            have he := spNeg_ok hb3 hq
            rw [if_neg (by rw [bz_0.mp h72]; decide)] at he
            exact hret _ _ _ (fc, fw, fn, K, dg V0, fo2) dX4_negate_115 rfl ⟨by rw [he]; rfl, by rw [he]; exact hMR⟩
          · refine go_aload_n O dX4_negate_75 rfl 1 rfl 76 rfl ?_
            refine go_iload_n O dX4_negate_76 rfl 2 rfl 77 rfl ?_
            refine go_aload_n O dX4_negate_77 rfl 1 rfl 78 rfl ?_
            refine go_get O hK dX4_negate_78 hinX4 0 rfl rfl 3 (by decide) flX4_7 f_currency 81 rfl ?_
            refine go_iload_n O dX4_negate_81 rfl 3 rfl 82 rfl ?_
            refine go_iald O hK dX4_negate_82 1 0 rfl rfl α rfl (by omega) (by omega) c0 e1 83 rfl ?_
            refine go_aload_n O dX4_negate_83 rfl 1 rfl 84 rfl ?_
            refine go_get O hK dX4_negate_84 hinX4 0 rfl rfl 4 (by decide) flX4_13 f_isWide 87 rfl ?_
            refine go_iload_n O dX4_negate_87 rfl 3 rfl 88 rfl ?_
            refine go_zald O hK dX4_negate_88 2 1 rfl rfl α rfl (by omega) (by omega) (bz w0) e2 89 rfl ?_
            refine go_aload_n O dX4_negate_89 rfl 1 rfl 90 rfl ?_
            refine go_get O hK dX4_negate_90 hinX4 0 rfl rfl 5 (by decide) flX4_17 f_negative 93 rfl ?_
            refine go_iload_n O dX4_negate_93 rfl 3 rfl 94 rfl ?_
            refine go_zald O hK dX4_negate_94 3 1 rfl rfl α rfl (by omega) (by omega) (bz n0) e3 95 rfl ?_
            refine go_if_ne O dX4_negate_95 102 (by decide) 98 rfl (by omega) (fun h95 => ?_) (fun h95 => by omega)
            refine go_iconst O dX4_negate_102 103 rfl ?_
            refine TGo.topi (y := bz (!n0)) (bnot_0 (by omega)) ?_
            refine go_aload_n O dX4_negate_103 rfl 1 rfl 104 rfl ?_
            refine go_get O hK dX4_negate_104 hinX4 0 rfl rfl 10 (by decide) flX4_29 f_num 107 rfl ?_
            refine go_calliV (As := [.int (iI ((ρ : Nat) : Int)), .int (iI c0), .int (iI (bz w0)), .int (iI (bz (!n0))), .ref qnum]) (rest := []) (wr := [(qother, .inl (cI, 80, .inl fo2))]) O hK hE (c_X4_keep E hE h fs f_currency f_isWide f_negative f_kept qnum cI cZ ρ V0 c0 fc fw fn K reg w0 (!n0) (by omega) (by omega) hV0 hMR) mlX4_119 imX4_keep seX4_keep inX4 cdX4_keep 5 (by decide +kernel) ⟨Nat.le_of_ble_eq_true rfl, Nat.le_of_ble_eq_true rfl⟩ 0 rfl rfl [0, 1] rfl [0, 1, 2, 3, 4, 5] rfl (by decide) [6] rfl (by decide) (by decide) rfl rfl (Nat.le_of_ble_eq_true rfl) ⟨Nat.zero_le _, Nat.zero_le _⟩ dX4_negate_107 110 rfl (fun z u hu => ?_)
            obtain ⟨fc2, fw2, fn2, K2⟩ := u
            obtain ⟨rfl, hMR2⟩ := hu
            show TGo X [(qother, .inl (cI, 80, .inl fo2)), (h, .inr (4, fs)), (qcurrency, .inl (cI, 8, .inl fc2)), (qisWide, .inl (cZ, 8, .inl fw2)), (qnegative, .inl (cZ, 8, .inl fn2)), (qkept, .inl (cI, 320, .inl K2)), (qnum, .inl (cI, 80, .inl (dg V0)))] 0 0 110 [(3, .int (iI (bz (tfit w0 (!n0) V0)))), (0, .ref h), (1, .int (iI ((ρ : Nat) : Int))), (2, .int (iI ((α : Nat) : Int)))] [.int (iI 0)]
            refine TGo.sub (ws' := [(h, .inr (4, fs)), (qcurrency, .inl (cI, 8, .inl fc2)), (qisWide, .inl (cZ, 8, .inl fw2)), (qnegative, .inl (cZ, 8, .inl fn2)), (qkept, .inl (cI, 320, .inl K2)), (qnum, .inl (cI, 80, .inl (dg V0))), (qother, .inl (cI, 80, .inl fo2))]) [1, 2, 3, 4, 5, 6, 0] (by decide) rfl ?_
            refine go_goto O dX4_negate_110 115 (by decide) ?_
            have he := spNeg_ok hb3 hq
            rw [if_pos (bz_ne h72)] at he
            exact hret _ _ _ (fc2, fw2, fn2, K2, dg V0, fo2) dX4_negate_115 rfl ⟨by rw [he]; rfl, by rw [he]; exact hMR2⟩
        · refine go_iconst O dX4_negate_62 63 rfl ?_
          refine go_goto O dX4_negate_63 67 (by decide) ?_
          refine TGo.topi (y := bz (!n0)) (bnot_1 (by omega)) ?_
          refine go_calliV (As := [.ref qnum, .int (iI (bz w0)), .int (iI (bz (!n0)))]) (rest := []) (wr := [(qcurrency, .inl (cI, 8, .inl fc)), (qisWide, .inl (cZ, 8, .inl fw)), (qnegative, .inl (cZ, 8, .inl fn)), (qkept, .inl (cI, 320, .inl K))]) O hK hE (c_X4_fits E hE h fs f_other qnum cI V0 fo w0 (!n0) (by omega)) mlX4_115 imX4_fits seX4_fits inX4 cdX4_fits 3 (by decide +kernel) ⟨Nat.le_of_ble_eq_true rfl, Nat.le_of_ble_eq_true rfl⟩ 0 rfl rfl [0] rfl [0, 6, 5] rfl (by decide) [1, 2, 3, 4] rfl (by decide) (by decide) rfl rfl (Nat.le_of_ble_eq_true rfl) ⟨Nat.zero_le _, Nat.zero_le _⟩ dX4_negate_67 70 rfl (fun z u hu => ?_)
          subst hu
          obtain ⟨fo2, rfl⟩ : ∃ z, z = u := ⟨_, rfl⟩
          show TGo X [(qcurrency, .inl (cI, 8, .inl fc)), (qisWide, .inl (cZ, 8, .inl fw)), (qnegative, .inl (cZ, 8, .inl fn)), (qkept, .inl (cI, 320, .inl K)), (h, .inr (4, fs)), (qother, .inl (cI, 80, .inl fo2)), (qnum, .inl (cI, 80, .inl (dg V0)))] 0 0 70 [(0, .ref h), (1, .int (iI ((ρ : Nat) : Int))), (2, .int (iI ((α : Nat) : Int)))] [.int (iI (bz (tfit w0 (!n0) V0)))]
          refine TGo.sub (ws' := [(h, .inr (4, fs)), (qcurrency, .inl (cI, 8, .inl fc)), (qisWide, .inl (cZ, 8, .inl fw)), (qnegative, .inl (cZ, 8, .inl fn)), (qkept, .inl (cI, 320, .inl K)), (qnum, .inl (cI, 80, .inl (dg V0))), (qother, .inl (cI, 80, .inl fo2))]) [4, 0, 1, 2, 3, 6, 5] (by decide) rfl ?_
          refine go_istore_n O dX4_negate_70 rfl (by decide) [(3, .int (iI (bz (tfit w0 (!n0) V0)))), (0, .ref h), (1, .int (iI ((ρ : Nat) : Int))), (2, .int (iI ((α : Nat) : Int)))] rfl 71 rfl ?_
          refine go_iload_n O dX4_negate_71 rfl 0 rfl 72 rfl ?_
          refine go_if_eq O dX4_negate_72 113 (by decide) 75 rfl (bz_r _) (fun h72 => ?_) (fun h72 => ?_)
          · refine go_bipush O dX4_negate_113 (by decide) 115 rfl ?_
            have he := spNeg_ok hb3 hq
            rw [if_neg (by rw [bz_0.mp h72]; decide)] at he
            exact hret _ _ _ (fc, fw, fn, K, dg V0, fo2) dX4_negate_115 rfl ⟨by rw [he]; rfl, by rw [he]; exact hMR⟩
          · refine go_aload_n O dX4_negate_75 rfl 1 rfl 76 rfl ?_
            refine go_iload_n O dX4_negate_76 rfl 2 rfl 77 rfl ?_
            refine go_aload_n O dX4_negate_77 rfl 1 rfl 78 rfl ?_
            refine go_get O hK dX4_negate_78 hinX4 0 rfl rfl 3 (by decide) flX4_7 f_currency 81 rfl ?_
            refine go_iload_n O dX4_negate_81 rfl 3 rfl 82 rfl ?_
            refine go_iald O hK dX4_negate_82 1 0 rfl rfl α rfl (by omega) (by omega) c0 e1 83 rfl ?_
            refine go_aload_n O dX4_negate_83 rfl 1 rfl 84 rfl ?_
            refine go_get O hK dX4_negate_84 hinX4 0 rfl rfl 4 (by decide) flX4_13 f_isWide 87 rfl ?_
            refine go_iload_n O dX4_negate_87 rfl 3 rfl 88 rfl ?_
            refine go_zald O hK dX4_negate_88 2 1 rfl rfl α rfl (by omega) (by omega) (bz w0) e2 89 rfl ?_
            refine go_aload_n O dX4_negate_89 rfl 1 rfl 90 rfl ?_
            refine go_get O hK dX4_negate_90 hinX4 0 rfl rfl 5 (by decide) flX4_17 f_negative 93 rfl ?_
            refine go_iload_n O dX4_negate_93 rfl 3 rfl 94 rfl ?_
            refine go_zald O hK dX4_negate_94 3 1 rfl rfl α rfl (by omega) (by omega) (bz n0) e3 95 rfl ?_
            refine go_if_ne O dX4_negate_95 102 (by decide) 98 rfl (by omega) (fun h95 => by omega) (fun h95 => ?_)
            refine go_iconst O dX4_negate_98 99 rfl ?_
            refine go_goto O dX4_negate_99 103 (by decide) ?_
            refine TGo.topi (y := bz (!n0)) (bnot_1 (by omega)) ?_
            refine go_aload_n O dX4_negate_103 rfl 1 rfl 104 rfl ?_
            refine go_get O hK dX4_negate_104 hinX4 0 rfl rfl 10 (by decide) flX4_29 f_num 107 rfl ?_
            refine go_calliV (As := [.int (iI ((ρ : Nat) : Int)), .int (iI c0), .int (iI (bz w0)), .int (iI (bz (!n0))), .ref qnum]) (rest := []) (wr := [(qother, .inl (cI, 80, .inl fo2))]) O hK hE (c_X4_keep E hE h fs f_currency f_isWide f_negative f_kept qnum cI cZ ρ V0 c0 fc fw fn K reg w0 (!n0) (by omega) (by omega) hV0 hMR) mlX4_119 imX4_keep seX4_keep inX4 cdX4_keep 5 (by decide +kernel) ⟨Nat.le_of_ble_eq_true rfl, Nat.le_of_ble_eq_true rfl⟩ 0 rfl rfl [0, 1] rfl [0, 1, 2, 3, 4, 5] rfl (by decide) [6] rfl (by decide) (by decide) rfl rfl (Nat.le_of_ble_eq_true rfl) ⟨Nat.zero_le _, Nat.zero_le _⟩ dX4_negate_107 110 rfl (fun z u hu => ?_)
            obtain ⟨fc2, fw2, fn2, K2⟩ := u
            obtain ⟨rfl, hMR2⟩ := hu
            show TGo X [(qother, .inl (cI, 80, .inl fo2)), (h, .inr (4, fs)), (qcurrency, .inl (cI, 8, .inl fc2)), (qisWide, .inl (cZ, 8, .inl fw2)), (qnegative, .inl (cZ, 8, .inl fn2)), (qkept, .inl (cI, 320, .inl K2)), (qnum, .inl (cI, 80, .inl (dg V0)))] 0 0 110 [(3, .int (iI (bz (tfit w0 (!n0) V0)))), (0, .ref h), (1, .int (iI ((ρ : Nat) : Int))), (2, .int (iI ((α : Nat) : Int)))] [.int (iI 0)]
            refine TGo.sub (ws' := [(h, .inr (4, fs)), (qcurrency, .inl (cI, 8, .inl fc2)), (qisWide, .inl (cZ, 8, .inl fw2)), (qnegative, .inl (cZ, 8, .inl fn2)), (qkept, .inl (cI, 320, .inl K2)), (qnum, .inl (cI, 80, .inl (dg V0))), (qother, .inl (cI, 80, .inl fo2))]) [1, 2, 3, 4, 5, 6, 0] (by decide) rfl ?_
            refine go_goto O dX4_negate_110 115 (by decide) ?_
            have he := spNeg_ok hb3 hq
            rw [if_pos (bz_ne h72)] at he
            exact hret _ _ _ (fc2, fw2, fn2, K2, dg V0, fo2) dX4_negate_115 rfl ⟨by rw [he]; rfl, by rw [he]; exact hMR2⟩
    · refine go_bipush O dX4_negate_18 (by decide) 20 rfl ?_
      have he := spNeg_bad (reg := reg) (r := r) (a := a) (by omega)
      exact hret _ _ _ (fc, fw, fn, K, fnum, fo) dX4_negate_20 rfl ⟨by rw [he], by rw [he]; exact hMR⟩
set_option maxHeartbeats 4000000 in
set_option maxRecDepth 100000 in
/-- compare -/
theorem c_X4_compare (E : TEn) (hE : EnvOk E) (h : Nat) (fs : List Value) {qcurrency qisWide qnegative qkept qnum qunits : Nat} (f_currency : fs[3]? = some (.ref qcurrency)) (f_isWide : fs[4]? = some (.ref qisWide)) (f_negative : fs[5]? = some (.ref qnegative)) (f_kept : fs[6]? = some (.ref qkept)) (f_num : fs[10]? = some (.ref qnum)) (f_units : fs[16]? = some (.ref qunits)) (cI cZ : ClassId) (fc fw fn K fnum fu : Nat → Int32) (reg : Rg) (a b : Int) (ha : r32 a) (hb : r32 b) (hMR : MR fc fw fn K reg) : Cti vwCl E yX4_compare wsX4_compare (rmn 2 44) [.ref h, .int (iI a), .int (iI b)] [(h, .inr (4, fs)), (qcurrency, .inl (cI, 8, .inl fc)), (qisWide, .inl (cZ, 8, .inl fw)), (qnegative, .inl (cZ, 8, .inl fn)), (qkept, .inl (cI, 320, .inl K)), (qnum, .inl (cI, 80, .inl fnum)), (qunits, .inl (cI, 80, .inl fu))] [(cI, .int), (cZ, .boolean)] (fun (z : Int) (u : (Nat → Int32) × (Nat → Int32)) => z = spCmp reg a b) (fun u => [(h, .inr (4, fs)), (qcurrency, .inl (cI, 8, .inl fc)), (qisWide, .inl (cZ, 8, .inl fw)), (qnegative, .inl (cZ, 8, .inl fn)), (qkept, .inl (cI, 320, .inl K)), (qnum, .inl (cI, 80, .inl u.1)), (qunits, .inl (cI, 80, .inl u.2))]) := by
  refine enteri (by decide) (Nat.le_of_ble_eq_true rfl) ?_
  intro X O hK hin2 hret
  show TGo X [(h, .inr (4, fs)), (qcurrency, .inl (cI, 8, .inl fc)), (qisWide, .inl (cZ, 8, .inl fw)), (qnegative, .inl (cZ, 8, .inl fn)), (qkept, .inl (cI, 320, .inl K)), (qnum, .inl (cI, 80, .inl fnum)), (qunits, .inl (cI, 80, .inl fu))] 0 0 0 [(0, .ref h), (1, .int (iI a)), (2, .int (iI b))] []
  have o1 := tout_i (x := a) (e := 8)
  have o2 := tout_i (x := b) (e := 8)
  refine go_iload_n O dX4_compare_0 rfl 1 rfl 1 rfl ?_
  refine go_bipush O dX4_compare_1 (by decide) 3 rfl ?_
  refine go_calliS (rest := []) (wr := [(h, .inr (4, fs)), (qcurrency, .inl (cI, 8, .inl fc)), (qisWide, .inl (cZ, 8, .inl fw)), (qnegative, .inl (cZ, 8, .inl fn)), (qkept, .inl (cI, 320, .inl K)), (qnum, .inl (cI, 80, .inl fnum)), (qunits, .inl (cI, 80, .inl fu))]) O hK hE (c_X4_outside E hE a 8 (by omega) (by omega)) mlX4_123 smX4_outside inX4 cdX4_outside 2 (by decide +kernel) ⟨Nat.le_of_ble_eq_true rfl, Nat.le_of_ble_eq_true rfl⟩ [] rfl [] rfl (by decide) [0, 1, 2, 3, 4, 5, 6] rfl (by decide) (by decide) rfl rfl (Nat.le_of_ble_eq_true rfl) ⟨Nat.zero_le _, Nat.zero_le _⟩ dX4_compare_3 6 rfl (fun z u hu => ?_)
  subst hu
  show TGo X [(h, .inr (4, fs)), (qcurrency, .inl (cI, 8, .inl fc)), (qisWide, .inl (cZ, 8, .inl fw)), (qnegative, .inl (cZ, 8, .inl fn)), (qkept, .inl (cI, 320, .inl K)), (qnum, .inl (cI, 80, .inl fnum)), (qunits, .inl (cI, 80, .inl fu))] 0 0 6 [(0, .ref h), (1, .int (iI a)), (2, .int (iI b))] [.int (iI (bz (tout a 8)))]
  refine go_if_ne O dX4_compare_6 18 (by decide) 9 rfl (bz_r _) (fun h6 => ?_) (fun h6 => ?_)
  · refine go_bipush O dX4_compare_18 (by decide) 20 rfl ?_
    exact hret _ _ _ (fnum, fu) dX4_compare_20 rfl (spCmp_bad (by omega))
  · refine go_iload_n O dX4_compare_9 rfl 2 rfl 10 rfl ?_
    refine go_bipush O dX4_compare_10 (by decide) 12 rfl ?_
    refine go_calliS (rest := []) (wr := [(h, .inr (4, fs)), (qcurrency, .inl (cI, 8, .inl fc)), (qisWide, .inl (cZ, 8, .inl fw)), (qnegative, .inl (cZ, 8, .inl fn)), (qkept, .inl (cI, 320, .inl K)), (qnum, .inl (cI, 80, .inl fnum)), (qunits, .inl (cI, 80, .inl fu))]) O hK hE (c_X4_outside E hE b 8 (by omega) (by omega)) mlX4_123 smX4_outside inX4 cdX4_outside 2 (by decide +kernel) ⟨Nat.le_of_ble_eq_true rfl, Nat.le_of_ble_eq_true rfl⟩ [] rfl [] rfl (by decide) [0, 1, 2, 3, 4, 5, 6] rfl (by decide) (by decide) rfl rfl (Nat.le_of_ble_eq_true rfl) ⟨Nat.zero_le _, Nat.zero_le _⟩ dX4_compare_12 15 rfl (fun z u hu => ?_)
    subst hu
    show TGo X [(h, .inr (4, fs)), (qcurrency, .inl (cI, 8, .inl fc)), (qisWide, .inl (cZ, 8, .inl fw)), (qnegative, .inl (cZ, 8, .inl fn)), (qkept, .inl (cI, 320, .inl K)), (qnum, .inl (cI, 80, .inl fnum)), (qunits, .inl (cI, 80, .inl fu))] 0 0 15 [(0, .ref h), (1, .int (iI a)), (2, .int (iI b))] [.int (iI (bz (tout b 8)))]
    refine go_if_eq O dX4_compare_15 21 (by decide) 18 rfl (bz_r _) (fun h15 => ?_) (fun h15 => ?_)
    · obtain ⟨α, rfl⟩ : ∃ α : Nat, a = (α : Int) := ⟨a.toNat, by omega⟩
      obtain ⟨β, rfl⟩ : ∃ β : Nat, b = (β : Int) := ⟨b.toNat, by omega⟩
      have hα := hMR α (by omega)
      have hβ := hMR β (by omega)
      have hb2 : α < 8 ∧ β < 8 := by omega
      rcases hq : reg α with _ | ⟨c0, w0, n0, V0⟩
      · rw [hq] at hα
        refine go_aload_n O dX4_compare_21 rfl 0 rfl 22 rfl ?_
        refine go_get O hK dX4_compare_22 hinX4 0 rfl rfl 3 (by decide) flX4_7 f_currency 25 rfl ?_
        refine go_iload_n O dX4_compare_25 rfl 1 rfl 26 rfl ?_
        refine go_iald O hK dX4_compare_26 1 0 rfl rfl α rfl (by omega) (by omega) (-1) hα 27 rfl ?_
        refine go_if_lt O dX4_compare_27 39 (by decide) 30 rfl (by omega) (fun h27 => ?_) (fun h27 => by omega)
        refine go_bipush O dX4_compare_39 (by decide) 41 rfl ?_
        exact hret _ _ _ (fnum, fu) dX4_compare_41 rfl (spCmp_n1 hb2 hq)
      · rw [hq] at hα
        obtain ⟨hc0, e1, e2, e3, hV0, hz0, hK0⟩ := hα
        have b0 := bz_01 n0
        have b1 := bz_01 w0
        rcases hq2 : reg β with _ | ⟨c2, w2, n2, V2⟩
        · rw [hq2] at hβ
          refine go_aload_n O dX4_compare_21 rfl 0 rfl 22 rfl ?_
          refine go_get O hK dX4_compare_22 hinX4 0 rfl rfl 3 (by decide) flX4_7 f_currency 25 rfl ?_
          refine go_iload_n O dX4_compare_25 rfl 1 rfl 26 rfl ?_
          refine go_iald O hK dX4_compare_26 1 0 rfl rfl α rfl (by omega) (by omega) c0 e1 27 rfl ?_
          refine go_if_lt O dX4_compare_27 39 (by decide) 30 rfl (by omega) (fun h27 => by omega) (fun h27 => ?_)
          refine go_aload_n O dX4_compare_30 rfl 0 rfl 31 rfl ?_
          refine go_get O hK dX4_compare_31 hinX4 0 rfl rfl 3 (by decide) flX4_7 f_currency 34 rfl ?_
          refine go_iload_n O dX4_compare_34 rfl 2 rfl 35 rfl ?_
          refine go_iald O hK dX4_compare_35 1 0 rfl rfl β rfl (by omega) (by omega) (-1) hβ 36 rfl ?_
          refine go_if_ge O dX4_compare_36 42 (by decide) 39 rfl (by omega) (fun h36 => by omega) (fun h36 => ?_)
          refine go_bipush O dX4_compare_39 (by decide) 41 rfl ?_
          exact hret _ _ _ (fnum, fu) dX4_compare_41 rfl (spCmp_n2 hb2 hq2)
        · rw [hq2] at hβ
          obtain ⟨hc2, f1, f2, f3, hV2, hz2, hK2⟩ := hβ
          have b2 := bz_01 n2
          have b3 := bz_01 w2
          refine go_aload_n O dX4_compare_21 rfl 0 rfl 22 rfl ?_
          refine go_get O hK dX4_compare_22 hinX4 0 rfl rfl 3 (by decide) flX4_7 f_currency 25 rfl ?_
          refine go_iload_n O dX4_compare_25 rfl 1 rfl 26 rfl ?_
          refine go_iald O hK dX4_compare_26 1 0 rfl rfl α rfl (by omega) (by omega) c0 e1 27 rfl ?_
          refine go_if_lt O dX4_compare_27 39 (by decide) 30 rfl (by omega) (fun h27 => by omega) (fun h27 => ?_)
          refine go_aload_n O dX4_compare_30 rfl 0 rfl 31 rfl ?_
          refine go_get O hK dX4_compare_31 hinX4 0 rfl rfl 3 (by decide) flX4_7 f_currency 34 rfl ?_
          refine go_iload_n O dX4_compare_34 rfl 2 rfl 35 rfl ?_
          refine go_iald O hK dX4_compare_35 1 0 rfl rfl β rfl (by omega) (by omega) c2 f1 36 rfl ?_
          refine go_if_ge O dX4_compare_36 42 (by decide) 39 rfl (by omega) (fun h36 => ?_) (fun h36 => by omega)
          refine go_aload_n O dX4_compare_42 rfl 0 rfl 43 rfl ?_
          refine go_get O hK dX4_compare_43 hinX4 0 rfl rfl 3 (by decide) flX4_7 f_currency 46 rfl ?_
          refine go_iload_n O dX4_compare_46 rfl 1 rfl 47 rfl ?_
          refine go_iald O hK dX4_compare_47 1 0 rfl rfl α rfl (by omega) (by omega) c0 e1 48 rfl ?_
          refine go_aload_n O dX4_compare_48 rfl 0 rfl 49 rfl ?_
          refine go_get O hK dX4_compare_49 hinX4 0 rfl rfl 3 (by decide) flX4_7 f_currency 52 rfl ?_
          refine go_iload_n O dX4_compare_52 rfl 2 rfl 53 rfl ?_
          refine go_iald O hK dX4_compare_53 1 0 rfl rfl β rfl (by omega) (by omega) c2 f1 54 rfl ?_
          refine go_icmp_ne O dX4_compare_54 72 (by decide) 57 rfl (by omega) (by omega) (fun h54 => ?_) (fun h54 => ?_)
          · refine go_bipush O dX4_compare_72 (by decide) 74 rfl ?_
            exact hret _ _ _ (fnum, fu) dX4_compare_74 rfl (spCmp_ok hb2 hq hq2 (by split <;> (try split) <;> (try split) <;> omega))
          · refine go_aload_n O dX4_compare_57 rfl 0 rfl 58 rfl ?_
            refine go_get O hK dX4_compare_58 hinX4 0 rfl rfl 4 (by decide) flX4_13 f_isWide 61 rfl ?_
            refine go_iload_n O dX4_compare_61 rfl 1 rfl 62 rfl ?_
            refine go_zald O hK dX4_compare_62 2 1 rfl rfl α rfl (by omega) (by omega) (bz w0) e2 63 rfl ?_
            refine go_aload_n O dX4_compare_63 rfl 0 rfl 64 rfl ?_
            refine go_get O hK dX4_compare_64 hinX4 0 rfl rfl 4 (by decide) flX4_13 f_isWide 67 rfl ?_
            refine go_iload_n O dX4_compare_67 rfl 2 rfl 68 rfl ?_
            refine go_zald O hK dX4_compare_68 2 1 rfl rfl β rfl (by omega) (by omega) (bz w2) f2 69 rfl ?_
            refine go_icmp_eq O dX4_compare_69 75 (by decide) 72 rfl (by omega) (by omega) (fun h69 => ?_) (fun h69 => ?_)
            · refine go_aload_n O dX4_compare_75 rfl 0 rfl 76 rfl ?_
              refine go_get O hK dX4_compare_76 hinX4 0 rfl rfl 5 (by decide) flX4_17 f_negative 79 rfl ?_
              refine go_iload_n O dX4_compare_79 rfl 1 rfl 80 rfl ?_
              refine go_zald O hK dX4_compare_80 3 1 rfl rfl α rfl (by omega) (by omega) (bz n0) e3 81 rfl ?_
              refine go_aload_n O dX4_compare_81 rfl 0 rfl 82 rfl ?_
              refine go_get O hK dX4_compare_82 hinX4 0 rfl rfl 5 (by decide) flX4_17 f_negative 85 rfl ?_
              refine go_iload_n O dX4_compare_85 rfl 2 rfl 86 rfl ?_
              refine go_zald O hK dX4_compare_86 3 1 rfl rfl β rfl (by omega) (by omega) (bz n2) f3 87 rfl ?_
              refine go_icmp_eq O dX4_compare_87 105 (by decide) 90 rfl (by omega) (by omega) (fun h87 => ?_) (fun h87 => ?_)
              · refine go_aload_n O dX4_compare_105 rfl 0 rfl 106 rfl ?_
                refine go_aload_n O dX4_compare_106 rfl 0 rfl 107 rfl ?_
                refine go_get O hK dX4_compare_107 hinX4 0 rfl rfl 10 (by decide) flX4_29 f_num 110 rfl ?_
                refine go_iload_n O dX4_compare_110 rfl 1 rfl 111 rfl ?_
                refine go_callvV (As := [.ref qnum, .int (iI ((α : Nat) : Int))]) (rest := []) (wr := [(qcurrency, .inl (cI, 8, .inl fc)), (qisWide, .inl (cZ, 8, .inl fw)), (qnegative, .inl (cZ, 8, .inl fn)), (qunits, .inl (cI, 80, .inl fu))]) O hK hE (c_X4_take E hE h fs f_kept qnum cI K (fnum) α V0 (by omega) (by omega) hK0) mlX4_131 imX4_take seX4_take inX4 cdX4_take 2 (by decide +kernel) ⟨Nat.le_of_ble_eq_true rfl, Nat.le_of_ble_eq_true rfl⟩ 0 rfl rfl [0] rfl [0, 4, 5] rfl (by decide) [1, 2, 3, 6] rfl (by decide) (by decide) rfl rfl (Nat.le_of_ble_eq_true rfl) ⟨Nat.zero_le _, Nat.zero_le _⟩ dX4_compare_111 114 rfl (fun u hu => ?_)
                show TGo X [(qcurrency, .inl (cI, 8, .inl fc)), (qisWide, .inl (cZ, 8, .inl fw)), (qnegative, .inl (cZ, 8, .inl fn)), (qunits, .inl (cI, 80, .inl fu)), (h, .inr (4, fs)), (qkept, .inl (cI, 320, .inl K)), (qnum, .inl (cI, 80, .inl (dg V0)))] 0 0 114 [(0, .ref h), (1, .int (iI ((α : Nat) : Int))), (2, .int (iI ((β : Nat) : Int)))] []
                refine TGo.sub (ws' := [(h, .inr (4, fs)), (qcurrency, .inl (cI, 8, .inl fc)), (qisWide, .inl (cZ, 8, .inl fw)), (qnegative, .inl (cZ, 8, .inl fn)), (qkept, .inl (cI, 320, .inl K)), (qnum, .inl (cI, 80, .inl (dg V0))), (qunits, .inl (cI, 80, .inl fu))]) [4, 0, 1, 2, 5, 6, 3] (by decide) rfl ?_
                refine go_aload_n O dX4_compare_114 rfl 0 rfl 115 rfl ?_
                refine go_aload_n O dX4_compare_115 rfl 0 rfl 116 rfl ?_
                refine go_get O hK dX4_compare_116 hinX4 0 rfl rfl 16 (by decide) flX4_47 f_units 119 rfl ?_
                refine go_iload_n O dX4_compare_119 rfl 2 rfl 120 rfl ?_
                refine go_callvV (As := [.ref qunits, .int (iI ((β : Nat) : Int))]) (rest := []) (wr := [(qcurrency, .inl (cI, 8, .inl fc)), (qisWide, .inl (cZ, 8, .inl fw)), (qnegative, .inl (cZ, 8, .inl fn)), (qnum, .inl (cI, 80, .inl (dg V0)))]) O hK hE (c_X4_take E hE h fs f_kept qunits cI K (fu) β V2 (by omega) (by omega) hK2) mlX4_131 imX4_take seX4_take inX4 cdX4_take 2 (by decide +kernel) ⟨Nat.le_of_ble_eq_true rfl, Nat.le_of_ble_eq_true rfl⟩ 0 rfl rfl [0] rfl [0, 4, 6] rfl (by decide) [1, 2, 3, 5] rfl (by decide) (by decide) rfl rfl (Nat.le_of_ble_eq_true rfl) ⟨Nat.zero_le _, Nat.zero_le _⟩ dX4_compare_120 123 rfl (fun u hu => ?_)
                show TGo X [(qcurrency, .inl (cI, 8, .inl fc)), (qisWide, .inl (cZ, 8, .inl fw)), (qnegative, .inl (cZ, 8, .inl fn)), (qnum, .inl (cI, 80, .inl (dg V0))), (h, .inr (4, fs)), (qkept, .inl (cI, 320, .inl K)), (qunits, .inl (cI, 80, .inl (dg V2)))] 0 0 123 [(0, .ref h), (1, .int (iI ((α : Nat) : Int))), (2, .int (iI ((β : Nat) : Int)))] []
                refine TGo.sub (ws' := [(h, .inr (4, fs)), (qcurrency, .inl (cI, 8, .inl fc)), (qisWide, .inl (cZ, 8, .inl fw)), (qnegative, .inl (cZ, 8, .inl fn)), (qkept, .inl (cI, 320, .inl K)), (qnum, .inl (cI, 80, .inl (dg V0))), (qunits, .inl (cI, 80, .inl (dg V2)))]) [4, 0, 1, 2, 5, 3, 6] (by decide) rfl ?_
                refine go_aload_n O dX4_compare_123 rfl 0 rfl 124 rfl ?_
                refine go_get O hK dX4_compare_124 hinX4 0 rfl rfl 10 (by decide) flX4_29 f_num 127 rfl ?_
                refine go_aload_n O dX4_compare_127 rfl 0 rfl 128 rfl ?_
                refine go_get O hK dX4_compare_128 hinX4 0 rfl rfl 16 (by decide) flX4_47 f_units 131 rfl ?_
                refine go_calliS (rest := []) (wr := [(h, .inr (4, fs)), (qcurrency, .inl (cI, 8, .inl fc)), (qisWide, .inl (cZ, 8, .inl fw)), (qnegative, .inl (cZ, 8, .inl fn)), (qkept, .inl (cI, 320, .inl K))]) O hK hE (c_X4_order E hE qnum qunits cI V0 V2 (by omega) (by omega)) mlX4_86 smX4_order inX4 cdX4_order 2 (by decide +kernel) ⟨Nat.le_of_ble_eq_true rfl, Nat.le_of_ble_eq_true rfl⟩ [0] rfl [5, 6] rfl (by decide) [0, 1, 2, 3, 4] rfl (by decide) (by decide) rfl rfl (Nat.le_of_ble_eq_true rfl) ⟨Nat.zero_le _, Nat.zero_le _⟩ dX4_compare_131 134 rfl (fun z u hu => ?_)
                subst hu
                show TGo X [(h, .inr (4, fs)), (qcurrency, .inl (cI, 8, .inl fc)), (qisWide, .inl (cZ, 8, .inl fw)), (qnegative, .inl (cZ, 8, .inl fn)), (qkept, .inl (cI, 320, .inl K)), (qnum, .inl (cI, 80, .inl (dg V0))), (qunits, .inl (cI, 80, .inl (dg V2)))] 0 0 134 [(0, .ref h), (1, .int (iI ((α : Nat) : Int))), (2, .int (iI ((β : Nat) : Int)))] [.int (iI (cmpN V0 V2))]
                refine go_istore_n O dX4_compare_134 rfl (by decide) [(3, .int (iI (cmpN V0 V2))), (0, .ref h), (1, .int (iI ((α : Nat) : Int))), (2, .int (iI ((β : Nat) : Int)))] rfl 135 rfl ?_
                refine go_aload_n O dX4_compare_135 rfl 1 rfl 136 rfl ?_
                refine go_get O hK dX4_compare_136 hinX4 0 rfl rfl 5 (by decide) flX4_17 f_negative 139 rfl ?_
                refine go_iload_n O dX4_compare_139 rfl 2 rfl 140 rfl ?_
                refine go_zald O hK dX4_compare_140 3 1 rfl rfl α rfl (by omega) (by omega) (bz n0) e3 141 rfl ?_
                refine go_if_eq O dX4_compare_141 149 (by decide) 144 rfl (by omega) (fun h141 => ?_) (fun h141 => ?_)
                · refine go_iload_n O dX4_compare_149 rfl 0 rfl 150 rfl ?_
                  exact hret _ _ _ (dg V0, dg V2) dX4_compare_150 rfl (spCmp_ok hb2 hq hq2 (by split <;> (try split) <;> (try split) <;> omega))
                · refine go_iload_n O dX4_compare_144 rfl 0 rfl 145 rfl ?_
                  refine go_ineg O dX4_compare_145 (-(cmpN V0 V2)) rfl 146 rfl ?_
                  refine go_goto O dX4_compare_146 150 (by decide) ?_
                  exact hret _ _ _ (dg V0, dg V2) dX4_compare_150 rfl (spCmp_ok hb2 hq hq2 (by split <;> (try split) <;> (try split) <;> omega))
              · refine go_aload_n O dX4_compare_90 rfl 0 rfl 91 rfl ?_
                refine go_get O hK dX4_compare_91 hinX4 0 rfl rfl 5 (by decide) flX4_17 f_negative 94 rfl ?_
                refine go_iload_n O dX4_compare_94 rfl 1 rfl 95 rfl ?_
                refine go_zald O hK dX4_compare_95 3 1 rfl rfl α rfl (by omega) (by omega) (bz n0) e3 96 rfl ?_
                refine go_if_eq O dX4_compare_96 103 (by decide) 99 rfl (by omega) (fun h96 => ?_) (fun h96 => ?_)
                · refine go_iconst O dX4_compare_103 104 rfl ?_
                  exact hret _ _ _ (fnum, fu) dX4_compare_104 rfl (spCmp_ok hb2 hq hq2 (by split <;> (try split) <;> (try split) <;> omega))
                · refine go_iconst O dX4_compare_99 100 rfl ?_
                  refine go_goto O dX4_compare_100 104 (by decide) ?_
                  exact hret _ _ _ (fnum, fu) dX4_compare_104 rfl (spCmp_ok hb2 hq hq2 (by split <;> (try split) <;> (try split) <;> omega))
            · refine go_bipush O dX4_compare_72 (by decide) 74 rfl ?_
              exact hret _ _ _ (fnum, fu) dX4_compare_74 rfl (spCmp_ok hb2 hq hq2 (by split <;> (try split) <;> (try split) <;> omega))
    · refine go_bipush O dX4_compare_18 (by decide) 20 rfl ?_
      exact hret _ _ _ (fnum, fu) dX4_compare_20 rfl (spCmp_bad (by omega))
set_option maxHeartbeats 4000000 in
set_option maxRecDepth 100000 in
/-- digits -/
theorem c_X4_digits (E : TEn) (hE : EnvOk E) (h : Nat) (fs : List Value) {qcurrency qkept : Nat} (f_currency : fs[3]? = some (.ref qcurrency)) (f_kept : fs[6]? = some (.ref qkept)) (cI : ClassId) (fc fw fn K : Nat → Int32) (reg : Rg) (a half : Int) (ha : r32 a) (hh : r32 half) (hMR : MR fc fw fn K reg) : Ctl vwCl E yX4_digits wsX4_digits (rmn 1 21) [.ref h, .int (iI a), .int (iI half)] [(h, .inr (4, fs)), (qcurrency, .inl (cI, 8, .inl fc)), (qkept, .inl (cI, 320, .inl K))] [(cI, .int)] (fun (z : Int) (_ : Unit) => z = spDig reg a half) (fun _ => [(h, .inr (4, fs)), (qcurrency, .inl (cI, 8, .inl fc)), (qkept, .inl (cI, 320, .inl K))]) := by
  refine enterl (by decide) (Nat.le_of_ble_eq_true rfl) ?_
  intro X O hK hin2 hret
  show TGo X [(h, .inr (4, fs)), (qcurrency, .inl (cI, 8, .inl fc)), (qkept, .inl (cI, 320, .inl K))] 0 0 0 [(0, .ref h), (1, .int (iI a)), (2, .int (iI half))] []
  have o1 := tout_i (x := a) (e := 8)
  have o2 := tout_i (x := half) (e := 2)
  have lp : ∀ (c : Nat) (α η V0 i : Nat) (c0 : Int) (w0 n0 : Bool) (x : Int) (v : Nat), c = i + 1 → i ≤ 18 → x = (i : Int) - 1 → v = V0 / 10 ^ (η * 18 + i) % 10 ^ (18 - i) → a = (α : Int) → half = (η : Int) → α < 8 → η < 2 → reg α = some (c0, w0, n0, V0) → (∀ j, j < 40 → K (40 * α + j) = dg V0 j) → TGo X [(h, .inr (4, fs)), (qcurrency, .inl (cI, 8, .inl fc)), (qkept, .inl (cI, 320, .inl K))] 0 0 40 [(3, .long (lI ((v : Nat) : Int))), (5, .int (iI x)), (0, .ref h), (1, .int (iI ((α : Nat) : Int))), (2, .int (iI ((η : Nat) : Int)))] [] := by
    intro c
    induction c with
    | zero => intro α η V0 i c0 w0 n0 x v h1 h2 hx hv ea eh hα8 hη2 hq hK0; omega
    | succ c ih =>
      intro α η V0 i c0 w0 n0 x v h1 h2 hx hv ea eh hα8 hη2 hq hK0
      refine go_iload O dX4_digits_40 1 rfl 42 rfl ?_
      refine go_if_lt O dX4_digits_42 76 (by decide) 45 rfl (by omega) (fun h42 => ?_) (fun h42 => ?_)
      · refine go_lload_n O dX4_digits_76 rfl 0 rfl 77 rfl ?_
        exact hret _ _ _ () dX4_digits_77 (by have e : i = 0 := (by omega); subst e; rw [ea, eh, spDig_s ⟨hα8, hη2⟩ hq, hv, Nat.sub_zero, Nat.add_zero])
      · obtain ⟨k, rfl⟩ : ∃ k, i = k + 1 := ⟨i - 1, by omega⟩
        refine go_ldc2 O dX4_digits_45 (10) kcX4_76 (by decide) 48 rfl ?_
        refine go_lload_n O dX4_digits_48 rfl 0 rfl 49 rfl ?_
        refine go_lmul O dX4_digits_49 ((10 * (v) : Nat) : Int) (by omega) 50 rfl ?_
        refine go_aload_n O dX4_digits_50 rfl 2 rfl 51 rfl ?_
        refine go_get O hK dX4_digits_51 hinX4 0 rfl rfl 6 (by decide) flX4_20 f_kept 54 rfl ?_
        refine go_bipush O dX4_digits_54 (by decide) 56 rfl ?_
        refine go_iload_n O dX4_digits_56 rfl 3 rfl 57 rfl ?_
        refine go_imul O dX4_digits_57 ((40 * (α) : Nat) : Int) (by omega) 58 rfl ?_
        refine go_bipush O dX4_digits_58 (by decide) 60 rfl ?_
        refine go_iload_n O dX4_digits_60 rfl 4 rfl 61 rfl ?_
        refine go_imul O dX4_digits_61 ((18 * (η) : Nat) : Int) (by omega) 62 rfl ?_
        refine go_iadd O dX4_digits_62 ((40 * (α) + 18 * (η) : Nat) : Int) (Int.natCast_add _ _).symm 63 rfl ?_
        refine go_iload O dX4_digits_63 1 rfl 65 rfl ?_
        refine go_iadd O dX4_digits_65 ((40 * α + 18 * η + k : Nat) : Int) (by omega) 66 rfl ?_
        refine go_iald O hK dX4_digits_66 2 0 rfl rfl (40 * α + 18 * η + k) rfl (by omega) (by omega) ((V0 / 10 ^ (η * 18 + k) % 10 : Nat) : Int) (by rw [show 40 * α + 18 * η + k = 40 * α + (η * 18 + k) by omega]; exact hK0 _ (by omega)) 67 rfl ?_
        refine go_i2l O dX4_digits_67 (r32_dg _ _) 68 rfl ?_
        refine go_ladd O dX4_digits_68 ((10 * (v) + V0 / 10 ^ (η * 18 + k) % 10 : Nat) : Int) (Int.natCast_add _ _).symm 69 rfl ?_
        refine go_lstore_n O dX4_digits_69 rfl (by decide) [(3, .long (lI ((10 * (v) + V0 / 10 ^ (η * 18 + k) % 10 : Nat) : Int))), (5, .int (iI x)), (0, .ref h), (1, .int (iI ((α : Nat) : Int))), (2, .int (iI ((η : Nat) : Int)))] rfl 70 rfl ?_
        refine go_iinc O dX4_digits_70 1 rfl (x - 1) (by omega) (by decide) [(5, .int (iI (x - 1))), (3, .long (lI ((10 * (v) + V0 / 10 ^ (η * 18 + k) % 10 : Nat) : Int))), (0, .ref h), (1, .int (iI ((α : Nat) : Int))), (2, .int (iI ((η : Nat) : Int)))] rfl 73 rfl ?_
        refine go_goto O dX4_digits_73 40 (by decide) ?_
        refine TGo.lsub (lv' := [(3, .long (lI ((10 * (v) + V0 / 10 ^ (η * 18 + k) % 10 : Nat) : Int))), (5, .int (iI (x - 1))), (0, .ref h), (1, .int (iI ((α : Nat) : Int))), (2, .int (iI ((η : Nat) : Int)))]) [1, 0, 2, 3, 4] rfl ?_
        exact ih α η V0 k c0 w0 n0 _ _ (by omega) (by omega) (by omega) (by rw [show 18 - k = (18 - (k + 1)) + 1 by omega, tmod10s, ← tq10, hv]; show _ = 10 * (V0 / 10 ^ (η * 18 + (k + 1)) % 10 ^ (18 - (k + 1))) + _; omega) ea eh hα8 hη2 hq hK0
  refine go_iload_n O dX4_digits_0 rfl 1 rfl 1 rfl ?_
  refine go_bipush O dX4_digits_1 (by decide) 3 rfl ?_
  refine go_calliS (rest := []) (wr := [(h, .inr (4, fs)), (qcurrency, .inl (cI, 8, .inl fc)), (qkept, .inl (cI, 320, .inl K))]) O hK hE (c_X4_outside E hE a 8 (by omega) (by omega)) mlX4_123 smX4_outside inX4 cdX4_outside 2 (by decide +kernel) ⟨Nat.le_of_ble_eq_true rfl, Nat.le_of_ble_eq_true rfl⟩ [] rfl [] rfl (by decide) [0, 1, 2] rfl (by decide) (by decide) rfl rfl (Nat.le_of_ble_eq_true rfl) ⟨Nat.zero_le _, Nat.zero_le _⟩ dX4_digits_3 6 rfl (fun z u hu => ?_)
  subst hu
  show TGo X [(h, .inr (4, fs)), (qcurrency, .inl (cI, 8, .inl fc)), (qkept, .inl (cI, 320, .inl K))] 0 0 6 [(0, .ref h), (1, .int (iI a)), (2, .int (iI half))] [.int (iI (bz (tout a 8)))]
  refine go_if_ne O dX4_digits_6 17 (by decide) 9 rfl (bz_r _) (fun h6 => ?_) (fun h6 => ?_)
  · refine go_ldc2 O dX4_digits_17 (-15) kcX4_162 (by decide) 20 rfl ?_
    exact hret _ _ _ () dX4_digits_20 (spDig_b (by omega))
  · refine go_iload_n O dX4_digits_9 rfl 2 rfl 10 rfl ?_
    refine go_iconst O dX4_digits_10 11 rfl ?_
    refine go_calliS (rest := []) (wr := [(h, .inr (4, fs)), (qcurrency, .inl (cI, 8, .inl fc)), (qkept, .inl (cI, 320, .inl K))]) O hK hE (c_X4_outside E hE half 2 (by omega) (by omega)) mlX4_123 smX4_outside inX4 cdX4_outside 2 (by decide +kernel) ⟨Nat.le_of_ble_eq_true rfl, Nat.le_of_ble_eq_true rfl⟩ [] rfl [] rfl (by decide) [0, 1, 2] rfl (by decide) (by decide) rfl rfl (Nat.le_of_ble_eq_true rfl) ⟨Nat.zero_le _, Nat.zero_le _⟩ dX4_digits_11 14 rfl (fun z u hu => ?_)
    subst hu
    show TGo X [(h, .inr (4, fs)), (qcurrency, .inl (cI, 8, .inl fc)), (qkept, .inl (cI, 320, .inl K))] 0 0 14 [(0, .ref h), (1, .int (iI a)), (2, .int (iI half))] [.int (iI (bz (tout half 2)))]
    refine go_if_eq O dX4_digits_14 21 (by decide) 17 rfl (bz_r _) (fun h14 => ?_) (fun h14 => ?_)
    · obtain ⟨α, rfl⟩ : ∃ α : Nat, a = (α : Int) := ⟨a.toNat, by omega⟩
      obtain ⟨η, rfl⟩ : ∃ η : Nat, half = (η : Int) := ⟨half.toNat, by omega⟩
      have hα := hMR α (by omega)
      have hb2 : α < 8 ∧ η < 2 := by omega
      rcases hq : reg α with _ | ⟨c0, w0, n0, V0⟩
      · rw [hq] at hα
        refine go_aload_n O dX4_digits_21 rfl 0 rfl 22 rfl ?_
        refine go_get O hK dX4_digits_22 hinX4 0 rfl rfl 3 (by decide) flX4_7 f_currency 25 rfl ?_
        refine go_iload_n O dX4_digits_25 rfl 1 rfl 26 rfl ?_
        refine go_iald O hK dX4_digits_26 1 0 rfl rfl α rfl (by omega) (by omega) (-1) hα 27 rfl ?_
        refine go_if_ge O dX4_digits_27 34 (by decide) 30 rfl (by omega) (fun h27 => by omega) (fun h27 => ?_)
        refine go_ldc2 O dX4_digits_30 (-11) kcX4_164 (by decide) 33 rfl ?_
        exact hret _ _ _ () dX4_digits_33 (spDig_n (by omega) hq)
      · rw [hq] at hα
        obtain ⟨hc0, e1, e2, e3, hV0, hz0, hK0⟩ := hα
        refine go_aload_n O dX4_digits_21 rfl 0 rfl 22 rfl ?_
        refine go_get O hK dX4_digits_22 hinX4 0 rfl rfl 3 (by decide) flX4_7 f_currency 25 rfl ?_
        refine go_iload_n O dX4_digits_25 rfl 1 rfl 26 rfl ?_
        refine go_iald O hK dX4_digits_26 1 0 rfl rfl α rfl (by omega) (by omega) c0 e1 27 rfl ?_
        refine go_if_ge O dX4_digits_27 34 (by decide) 30 rfl (by omega) (fun h27 => ?_) (fun h27 => by omega)
        refine go_lconst O dX4_digits_34 0 rfl 35 rfl ?_
        refine go_lstore_n O dX4_digits_35 rfl (by decide) [(3, .long (lI 0)), (0, .ref h), (1, .int (iI ((α : Nat) : Int))), (2, .int (iI ((η : Nat) : Int)))] rfl 36 rfl ?_
        refine go_bipush O dX4_digits_36 (by decide) 38 rfl ?_
        refine go_istore O dX4_digits_38 (by decide) [(5, .int (iI 17)), (3, .long (lI 0)), (0, .ref h), (1, .int (iI ((α : Nat) : Int))), (2, .int (iI ((η : Nat) : Int)))] rfl 40 rfl ?_
        refine TGo.lsub (lv' := [(3, .long (lI 0)), (5, .int (iI 17)), (0, .ref h), (1, .int (iI ((α : Nat) : Int))), (2, .int (iI ((η : Nat) : Int)))]) [1, 0, 2, 3, 4] rfl ?_
        exact lp 19 α η V0 18 c0 w0 n0 _ 0 rfl (by omega) (by omega) (by rw [Nat.sub_self, Nat.pow_zero, Nat.mod_one]) rfl rfl hb2.1 hb2.2 hq hK0
    · refine go_ldc2 O dX4_digits_17 (-15) kcX4_162 (by decide) 20 rfl ?_
      exact hret _ _ _ () dX4_digits_20 (spDig_b (by omega))
set_option maxHeartbeats 4000000 in
set_option maxRecDepth 100000 in
/-- ratio -/
theorem c_X4_ratio (E : TEn) (hE : EnvOk E) (h : Nat) (fs : List Value) {qratios : Nat} (f_ratios : fs[7]? = some (.ref qratios)) (cI : ClassId) (ra : Nat → Int) (a v : Int) (ha : r32 a) (hv : r32 v) : Cti vwCl E yX4_ratio wsX4_ratio (rmn 1 21) [.ref h, .int (iI a), .int (iI v)] [(h, .inr (4, fs)), (qratios, .inl (cI, 8, .inl (fun j => iI (ra j))))] [(cI, .int)] (fun (z : Int) (u : Nat → Int) => z = (spRat ra a v).1 ∧ u = (spRat ra a v).2) (fun u => [(h, .inr (4, fs)), (qratios, .inl (cI, 8, .inl (fun j => iI (u j))))]) := by
  refine enteri (by decide) (Nat.le_of_ble_eq_true rfl) ?_
  intro X O hK hin2 hret
  show TGo X [(h, .inr (4, fs)), (qratios, .inl (cI, 8, .inl (fun j => iI (ra j))))] 0 0 0 [(0, .ref h), (1, .int (iI a)), (2, .int (iI v))] []
  have o1 := tout_i (x := a) (e := 8)
  have o2 := tout_i (x := v) (e := 1000001)
  refine go_iload_n O dX4_ratio_0 rfl 1 rfl 1 rfl ?_
  refine go_bipush O dX4_ratio_1 (by decide) 3 rfl ?_
  refine go_calliS (rest := []) (wr := [(h, .inr (4, fs)), (qratios, .inl (cI, 8, .inl (fun j => iI (ra j))))]) O hK hE (c_X4_outside E hE a 8 (by omega) (by omega)) mlX4_123 smX4_outside inX4 cdX4_outside 2 (by decide +kernel) ⟨Nat.le_of_ble_eq_true rfl, Nat.le_of_ble_eq_true rfl⟩ [] rfl [] rfl (by decide) [0, 1] rfl (by decide) (by decide) rfl rfl (Nat.le_of_ble_eq_true rfl) ⟨Nat.zero_le _, Nat.zero_le _⟩ dX4_ratio_3 6 rfl (fun z u hu => ?_)
  subst hu
  show TGo X [(h, .inr (4, fs)), (qratios, .inl (cI, 8, .inl (fun j => iI (ra j))))] 0 0 6 [(0, .ref h), (1, .int (iI a)), (2, .int (iI v))] [.int (iI (bz (tout a 8)))]
  refine go_if_ne O dX4_ratio_6 18 (by decide) 9 rfl (bz_r _) (fun h6 => ?_) (fun h6 => ?_)
  · refine go_iconst O dX4_ratio_18 19 rfl ?_
    have he := spRat_b (ra := ra) (i := a) (v := v) (by omega)
    exact hret _ _ _ ra dX4_ratio_19 rfl ⟨by rw [he], by rw [he]⟩
  · refine go_iload_n O dX4_ratio_9 rfl 2 rfl 10 rfl ?_
    refine go_ldc O dX4_ratio_10 (1000001) kcX4_149 (by decide) 12 rfl ?_
    refine go_calliS (rest := []) (wr := [(h, .inr (4, fs)), (qratios, .inl (cI, 8, .inl (fun j => iI (ra j))))]) O hK hE (c_X4_outside E hE v 1000001 (by omega) (by omega)) mlX4_123 smX4_outside inX4 cdX4_outside 2 (by decide +kernel) ⟨Nat.le_of_ble_eq_true rfl, Nat.le_of_ble_eq_true rfl⟩ [] rfl [] rfl (by decide) [0, 1] rfl (by decide) (by decide) rfl rfl (Nat.le_of_ble_eq_true rfl) ⟨Nat.zero_le _, Nat.zero_le _⟩ dX4_ratio_12 15 rfl (fun z u hu => ?_)
    subst hu
    show TGo X [(h, .inr (4, fs)), (qratios, .inl (cI, 8, .inl (fun j => iI (ra j))))] 0 0 15 [(0, .ref h), (1, .int (iI a)), (2, .int (iI v))] [.int (iI (bz (tout v 1000001)))]
    refine go_if_eq O dX4_ratio_15 20 (by decide) 18 rfl (bz_r _) (fun h15 => ?_) (fun h15 => ?_)
    · obtain ⟨α, rfl⟩ : ∃ α : Nat, a = (α : Int) := ⟨a.toNat, by omega⟩
      refine go_aload_n O dX4_ratio_20 rfl 0 rfl 21 rfl ?_
      refine go_get O hK dX4_ratio_21 hinX4 0 rfl rfl 7 (by decide) flX4_23 f_ratios 24 rfl ?_
      refine go_iload_n O dX4_ratio_24 rfl 1 rfl 25 rfl ?_
      refine go_iload_n O dX4_ratio_25 rfl 2 rfl 26 rfl ?_
      refine go_iast O hK dX4_ratio_26 1 0 rfl rfl α rfl (by omega) (by omega) (fun j => iI (txs ra α v j)) (fun j _ => txs_up ra α v j) [(h, .inr (4, fs)), (qratios, .inl (cI, 8, .inl (fun j => iI (txs ra α v j))))] rfl 27 rfl ?_
      refine go_iconst O dX4_ratio_27 28 rfl ?_
      have he := spRat_s (ra := ra) (j := α) (v := v) (by omega)
      exact hret _ _ _ (txs ra α v) dX4_ratio_28 rfl ⟨by rw [he], by rw [he]⟩
    · refine go_iconst O dX4_ratio_18 19 rfl ?_
      have he := spRat_b (ra := ra) (i := a) (v := v) (by omega)
      exact hret _ _ _ ra dX4_ratio_19 rfl ⟨by rw [he], by rw [he]⟩
