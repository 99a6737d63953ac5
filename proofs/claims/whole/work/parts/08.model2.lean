set_option maxHeartbeats 4000000 in
set_option maxRecDepth 100000 in
/-- quotient: num by den, what is over into rem -/
theorem c_X4_quotient (E : TEn) (hE : EnvOk E) (h : Nat) (fs : List Value) {qnum qden qquo qrem : Nat} (f_num : fs[10]? = some (.ref qnum)) (f_den : fs[12]? = some (.ref qden)) (f_quo : fs[13]? = some (.ref qquo)) (f_rem : fs[14]? = some (.ref qrem)) (cI : ClassId) (N D : Nat) (fq fr : Nat → Int32) (hN : N < 10 ^ 80) (hD : 0 < D) (hD2 : 10 * D ≤ 10 ^ 80) : Ctv vwCl E yX4_quotient wsX4_quotient (rmn 1 24) [.ref h] [(h, .inr (4, fs)), (qnum, .inl (cI, 80, .inl (dg N))), (qden, .inl (cI, 80, .inl (dg D))), (qquo, .inl (cI, 80, .inl fq)), (qrem, .inl (cI, 80, .inl fr))] [(cI, .int)] (fun _ : Unit => True) (fun _ => [(h, .inr (4, fs)), (qnum, .inl (cI, 80, .inl (dg N))), (qden, .inl (cI, 80, .inl (dg D))), (qquo, .inl (cI, 80, .inl (dg (N / D)))), (qrem, .inl (cI, 80, .inl (dg (N % D))))]) := by
  refine enterv (by decide) (Nat.le_of_ble_eq_true rfl) ?_
  intro X O hK hin2 hret
  show TGo X [(h, .inr (4, fs)), (qnum, .inl (cI, 80, .inl (dg N))), (qden, .inl (cI, 80, .inl (dg D))), (qquo, .inl (cI, 80, .inl fq)), (qrem, .inl (cI, 80, .inl fr))] 0 0 0 [(0, .ref h)] []
  have lp : ∀ (c i : Nat) (x : Int) (a b : Nat), c = i + 1 → i ≤ 80 → x = (i : Int) - 1 → a = N / 10 ^ i / D * 10 ^ i → b = N / 10 ^ i % D → TGo X [(h, .inr (4, fs)), (qnum, .inl (cI, 80, .inl (dg N))), (qden, .inl (cI, 80, .inl (dg D))), (qquo, .inl (cI, 80, .inl (dg a))), (qrem, .inl (cI, 80, .inl (dg b)))] 0 0 17 [(1, .int (iI x)), (0, .ref h)] [] := by
    intro c
    induction c with
    | zero => intro i x a b h1; omega
    | succ c ih =>
      intro i x a b h1 h2 hx ha hb
      cases i with
      | zero =>
        refine go_iload_n O dX4_quotient_17 rfl 0 rfl 18 rfl ?_
        refine go_if_lt O dX4_quotient_18 96 (by decide) 21 rfl (by omega) (fun h18 => ?_) (fun h18 => by omega)
        rw [tqz] at ha hb
        rw [Nat.pow_zero, Nat.mul_one] at ha
        subst ha; subst hb
        exact hret _ _ () dX4_quotient_96 trivial
      | succ k =>
        have hR : N / 10 ^ (k + 1) % D < D := Nat.mod_lt _ hD
        have hdk : N / 10 ^ k % 10 < 10 := Nat.mod_lt _ (by omega)
        have hxk : x = (k : Int) := by omega
        have inner : ∀ (d t a' b' : Nat), d + t = 10 → t ≤ 9 → a' = N / 10 ^ (k + 1) / D * 10 ^ (k + 1) + t * 10 ^ k → b' + t * D = N / 10 ^ (k + 1) % D * 10 + N / 10 ^ k % 10 → TGo X [(h, .inr (4, fs)), (qnum, .inl (cI, 80, .inl (dg N))), (qden, .inl (cI, 80, .inl (dg D))), (qquo, .inl (cI, 80, .inl (dg a'))), (qrem, .inl (cI, 80, .inl (dg b')))] 0 0 41 [(1, .int (iI x)), (0, .ref h)] [] := by
          intro d
          induction d with
          | zero => intro t a' b' h1; omega
          | succ d ih2 =>
            intro t a' b' h3 h4 ha' hb'
            have hb2 : b' < 10 ^ 80 := by omega
            refine go_aload_n O dX4_quotient_41 rfl 1 rfl 42 rfl ?_
            refine go_get O hK dX4_quotient_42 hinX4 0 rfl rfl 13 (by decide) flX4_38 f_quo 45 rfl ?_
            refine go_iload_n O dX4_quotient_45 rfl 0 rfl 46 rfl ?_
            refine go_iald O hK dX4_quotient_46 3 0 rfl rfl k hxk (by omega) (by omega) ((t : Nat) : Int) (by rw [dg_at, ha', tdig_t h4]) 47 rfl ?_
            refine go_bipush O dX4_quotient_47 (by decide) 49 rfl ?_
            refine go_icmp_ge O dX4_quotient_49 90 (by decide) 52 rfl (by omega) (by omega) (fun h49 => ?_) (fun h49 => ?_)
            · refine go_iinc O dX4_quotient_90 0 rfl (x - 1) (by omega) (by decide) [(1, .int (iI (x - 1))), (0, .ref h)] rfl 93 rfl ?_
              refine go_goto O dX4_quotient_93 17 (by decide) ?_
              have hbD : b' < D := by first | omega | exact Nat.lt_of_not_le (fun z => absurd (cmpN_ge.mpr z) (by omega)) | (have e9 : t = 9 := (by omega); subst e9; omega)
              obtain ⟨e1, e2⟩ := tquo (N := N) (m := k) (t := t) (r := b') hD hbD (by rw [Nat.add_comm]; exact hb')
              exact ih k _ _ _ (by omega) (by omega) (by omega) (by rw [ha', e1, tdig_e]) e2.symm
            · refine go_aload_n O dX4_quotient_52 rfl 1 rfl 53 rfl ?_
              refine go_get O hK dX4_quotient_53 hinX4 0 rfl rfl 14 (by decide) flX4_41 f_rem 56 rfl ?_
              refine go_aload_n O dX4_quotient_56 rfl 1 rfl 57 rfl ?_
              refine go_get O hK dX4_quotient_57 hinX4 0 rfl rfl 12 (by decide) flX4_35 f_den 60 rfl ?_
              refine go_calliS (rest := []) (wr := [(h, .inr (4, fs)), (qnum, .inl (cI, 80, .inl (dg N))), (qquo, .inl (cI, 80, .inl (dg a')))]) O hK hE (c_X4_order E hE qrem qden cI b' D hb2 (by omega)) mlX4_86 smX4_order inX4 cdX4_order 2 (by decide +kernel) ⟨Nat.le_of_ble_eq_true rfl, Nat.le_of_ble_eq_true rfl⟩ [0] rfl [4, 2] rfl (by decide) [0, 1, 3] rfl (by decide) (by decide) rfl rfl (Nat.le_of_ble_eq_true rfl) ⟨Nat.zero_le _, Nat.zero_le _⟩ dX4_quotient_60 63 rfl (fun z u hu => ?_)
              subst hu
              show TGo X [(h, .inr (4, fs)), (qnum, .inl (cI, 80, .inl (dg N))), (qquo, .inl (cI, 80, .inl (dg a'))), (qrem, .inl (cI, 80, .inl (dg b'))), (qden, .inl (cI, 80, .inl (dg D)))] 0 0 63 [(1, .int (iI x)), (0, .ref h)] [.int (iI (cmpN b' D))]
              refine TGo.sub (ws' := [(h, .inr (4, fs)), (qnum, .inl (cI, 80, .inl (dg N))), (qden, .inl (cI, 80, .inl (dg D))), (qquo, .inl (cI, 80, .inl (dg a'))), (qrem, .inl (cI, 80, .inl (dg b')))]) [0, 1, 4, 2, 3] (by decide) rfl ?_
              refine go_if_lt O dX4_quotient_63 90 (by decide) 66 rfl (cmpN_r _ _) (fun hge => ?_) (fun hge => ?_)
              · refine go_iinc O dX4_quotient_90 0 rfl (x - 1) (by omega) (by decide) [(1, .int (iI (x - 1))), (0, .ref h)] rfl 93 rfl ?_
                refine go_goto O dX4_quotient_93 17 (by decide) ?_
                have hbD : b' < D := by first | omega | exact Nat.lt_of_not_le (fun z => absurd (cmpN_ge.mpr z) (by omega)) | (have e9 : t = 9 := (by omega); subst e9; omega)
                obtain ⟨e1, e2⟩ := tquo (N := N) (m := k) (t := t) (r := b') hD hbD (by rw [Nat.add_comm]; exact hb')
                exact ih k _ _ _ (by omega) (by omega) (by omega) (by rw [ha', e1, tdig_e]) e2.symm
              · refine go_aload_n O dX4_quotient_66 rfl 1 rfl 67 rfl ?_
                refine go_get O hK dX4_quotient_67 hinX4 0 rfl rfl 14 (by decide) flX4_41 f_rem 70 rfl ?_
                refine go_aload_n O dX4_quotient_70 rfl 1 rfl 71 rfl ?_
                refine go_get O hK dX4_quotient_71 hinX4 0 rfl rfl 12 (by decide) flX4_35 f_den 74 rfl ?_
                refine go_callvS (rest := []) (wr := [(h, .inr (4, fs)), (qnum, .inl (cI, 80, .inl (dg N))), (qquo, .inl (cI, 80, .inl (dg a')))]) O hK hE (c_X4_decrease E hE qrem qden cI b' D (cmpN_ge.mp hge)) mlX4_90 smX4_decrease inX4 cdX4_decrease 2 (by decide +kernel) ⟨Nat.le_of_ble_eq_true rfl, Nat.le_of_ble_eq_true rfl⟩ [0] rfl [4, 2] rfl (by decide) [0, 1, 3] rfl (by decide) (by decide) rfl rfl (Nat.le_of_ble_eq_true rfl) ⟨Nat.zero_le _, Nat.zero_le _⟩ dX4_quotient_74 77 rfl (fun u hu => ?_)
                show TGo X [(h, .inr (4, fs)), (qnum, .inl (cI, 80, .inl (dg N))), (qquo, .inl (cI, 80, .inl (dg a'))), (qrem, .inl (cI, 80, .inl (dg (b' - D)))), (qden, .inl (cI, 80, .inl (dg D)))] 0 0 77 [(1, .int (iI x)), (0, .ref h)] []
                refine TGo.sub (ws' := [(h, .inr (4, fs)), (qnum, .inl (cI, 80, .inl (dg N))), (qden, .inl (cI, 80, .inl (dg D))), (qquo, .inl (cI, 80, .inl (dg a'))), (qrem, .inl (cI, 80, .inl (dg (b' - D))))]) [0, 1, 4, 2, 3] (by decide) rfl ?_
                refine go_aload_n O dX4_quotient_77 rfl 1 rfl 78 rfl ?_
                refine go_get O hK dX4_quotient_78 hinX4 0 rfl rfl 13 (by decide) flX4_38 f_quo 81 rfl ?_
                refine go_iload_n O dX4_quotient_81 rfl 0 rfl 82 rfl ?_
                refine go_dup2_11 O dX4_quotient_82 rfl rfl 83 rfl ?_
                refine go_iald O hK dX4_quotient_83 3 0 rfl rfl k hxk (by omega) (by omega) ((t : Nat) : Int) (by rw [dg_at, ha', tdig_t h4]) 84 rfl ?_
                refine go_iconst O dX4_quotient_84 85 rfl ?_
                refine go_iadd O dX4_quotient_85 ((t + 1 : Nat) : Int) (by omega) 86 rfl ?_
                refine go_iast O hK dX4_quotient_86 3 0 rfl rfl k hxk (by omega) (by omega) (dg (a' + 10 ^ k)) (fun j _ => dg_bump (by rw [ha', tdig_t h4]) (by omega) j) [(h, .inr (4, fs)), (qnum, .inl (cI, 80, .inl (dg N))), (qden, .inl (cI, 80, .inl (dg D))), (qquo, .inl (cI, 80, .inl (dg (a' + 10 ^ k)))), (qrem, .inl (cI, 80, .inl (dg (b' - D))))] rfl 87 rfl ?_
                refine go_goto O dX4_quotient_87 41 (by decide) ?_
                exact ih2 (t + 1) _ _ (by omega) (by omega) (by rw [ha', tdig_s]) (by have := cmpN_ge.mp hge; rw [Nat.add_mul, Nat.one_mul]; omega)
        refine go_iload_n O dX4_quotient_17 rfl 0 rfl 18 rfl ?_
        refine go_if_lt O dX4_quotient_18 96 (by decide) 21 rfl (by omega) (fun h18 => by omega) (fun h18 => ?_)
        refine go_aload_n O dX4_quotient_21 rfl 1 rfl 22 rfl ?_
        refine go_get O hK dX4_quotient_22 hinX4 0 rfl rfl 14 (by decide) flX4_41 f_rem 25 rfl ?_
        refine go_iconst O dX4_quotient_25 26 rfl ?_
        refine go_callvS (rest := []) (wr := [(h, .inr (4, fs)), (qnum, .inl (cI, 80, .inl (dg N))), (qden, .inl (cI, 80, .inl (dg D))), (qquo, .inl (cI, 80, .inl (dg a)))]) O hK hE (c_X4_shift E hE qrem cI b 1 (by omega)) mlX4_82 smX4_shift inX4 cdX4_shift 2 (by decide +kernel) ⟨Nat.le_of_ble_eq_true rfl, Nat.le_of_ble_eq_true rfl⟩ [0] rfl [4] rfl (by decide) [0, 1, 2, 3] rfl (by decide) (by decide) rfl rfl (Nat.le_of_ble_eq_true rfl) ⟨Nat.zero_le _, Nat.zero_le _⟩ dX4_quotient_26 29 rfl (fun u hu => ?_)
        show TGo X [(h, .inr (4, fs)), (qnum, .inl (cI, 80, .inl (dg N))), (qden, .inl (cI, 80, .inl (dg D))), (qquo, .inl (cI, 80, .inl (dg a))), (qrem, .inl (cI, 80, .inl (dg (b * 10 ^ 1))))] 0 0 29 [(1, .int (iI x)), (0, .ref h)] []
        refine go_aload_n O dX4_quotient_29 rfl 1 rfl 30 rfl ?_
        refine go_get O hK dX4_quotient_30 hinX4 0 rfl rfl 14 (by decide) flX4_41 f_rem 33 rfl ?_
        refine go_iconst O dX4_quotient_33 34 rfl ?_
        refine go_aload_n O dX4_quotient_34 rfl 1 rfl 35 rfl ?_
        refine go_get O hK dX4_quotient_35 hinX4 0 rfl rfl 10 (by decide) flX4_29 f_num 38 rfl ?_
        refine go_iload_n O dX4_quotient_38 rfl 0 rfl 39 rfl ?_
        refine go_iald O hK dX4_quotient_39 1 0 rfl rfl k hxk (by omega) (by omega) ((N / 10 ^ k % 10 : Nat) : Int) rfl 40 rfl ?_
        refine go_iast O hK dX4_quotient_40 4 0 rfl rfl 0 rfl (by omega) (by omega) (dg (b * 10 + N / 10 ^ k % 10)) (fun j _ => dg_unit hdk j) [(h, .inr (4, fs)), (qnum, .inl (cI, 80, .inl (dg N))), (qden, .inl (cI, 80, .inl (dg D))), (qquo, .inl (cI, 80, .inl (dg a))), (qrem, .inl (cI, 80, .inl (dg (b * 10 + N / 10 ^ k % 10))))] rfl 41 rfl ?_
        exact inner 10 0 _ _ (by omega) (by omega) (by rw [ha, Nat.zero_mul]; omega) (by rw [hb, Nat.zero_mul]; omega)
  refine go_aload_n O dX4_quotient_0 rfl 0 rfl 1 rfl ?_
  refine go_get O hK dX4_quotient_1 hinX4 0 rfl rfl 13 (by decide) flX4_38 f_quo 4 rfl ?_
  refine go_callvS (rest := []) (wr := [(h, .inr (4, fs)), (qnum, .inl (cI, 80, .inl (dg N))), (qden, .inl (cI, 80, .inl (dg D))), (qrem, .inl (cI, 80, .inl fr))]) O hK hE (c_X4_clear E hE qquo cI fq) mlX4_72 smX4_clear inX4 cdX4_clear 1 (by decide +kernel) ⟨Nat.le_of_ble_eq_true rfl, Nat.le_of_ble_eq_true rfl⟩ [0] rfl [3] rfl (by decide) [0, 1, 2, 4] rfl (by decide) (by decide) rfl rfl (Nat.le_of_ble_eq_true rfl) ⟨Nat.zero_le _, Nat.zero_le _⟩ dX4_quotient_4 7 rfl (fun u hu => ?_)
  show TGo X [(h, .inr (4, fs)), (qnum, .inl (cI, 80, .inl (dg N))), (qden, .inl (cI, 80, .inl (dg D))), (qrem, .inl (cI, 80, .inl fr)), (qquo, .inl (cI, 80, .inl (dg 0)))] 0 0 7 [(0, .ref h)] []
  refine TGo.sub (ws' := [(h, .inr (4, fs)), (qnum, .inl (cI, 80, .inl (dg N))), (qden, .inl (cI, 80, .inl (dg D))), (qquo, .inl (cI, 80, .inl (dg 0))), (qrem, .inl (cI, 80, .inl fr))]) [0, 1, 2, 4, 3] (by decide) rfl ?_
  refine go_aload_n O dX4_quotient_7 rfl 0 rfl 8 rfl ?_
  refine go_get O hK dX4_quotient_8 hinX4 0 rfl rfl 14 (by decide) flX4_41 f_rem 11 rfl ?_
  refine go_callvS (rest := []) (wr := [(h, .inr (4, fs)), (qnum, .inl (cI, 80, .inl (dg N))), (qden, .inl (cI, 80, .inl (dg D))), (qquo, .inl (cI, 80, .inl (dg 0)))]) O hK hE (c_X4_clear E hE qrem cI fr) mlX4_72 smX4_clear inX4 cdX4_clear 1 (by decide +kernel) ⟨Nat.le_of_ble_eq_true rfl, Nat.le_of_ble_eq_true rfl⟩ [0] rfl [4] rfl (by decide) [0, 1, 2, 3] rfl (by decide) (by decide) rfl rfl (Nat.le_of_ble_eq_true rfl) ⟨Nat.zero_le _, Nat.zero_le _⟩ dX4_quotient_11 14 rfl (fun u hu => ?_)
  show TGo X [(h, .inr (4, fs)), (qnum, .inl (cI, 80, .inl (dg N))), (qden, .inl (cI, 80, .inl (dg D))), (qquo, .inl (cI, 80, .inl (dg 0))), (qrem, .inl (cI, 80, .inl (dg 0)))] 0 0 14 [(0, .ref h)] []
  refine go_bipush O dX4_quotient_14 (by decide) 16 rfl ?_
  refine go_istore_n O dX4_quotient_16 rfl (by decide) [(1, .int (iI 79)), (0, .ref h)] rfl 17 rfl ?_
  exact lp 81 80 _ 0 0 (by omega) (by omega) (by omega) (by rw [q_lt hN, Nat.zero_div, Nat.zero_mul]) (by rw [q_lt hN, Nat.zero_mod])
