/-! The class's writing. -/
theorem tnds_sh {Q k : Nat} (h : 0 < Q) : tnds (Q * 10 ^ k) = tnds Q + k := by
  have h1 := tnds_lt Q
  have h2 := tnds_le h
  have h3 := tnds_pos h
  refine tnds_eq ?_ (Or.inr ?_)
  · rw [p10add]; exact Nat.mul_lt_mul_of_pos_right h1 (p10 k)
  · rw [show tnds Q + k - 1 = (tnds Q - 1) + k by omega, p10add]
    exact Nat.mul_le_mul_right _ h2
theorem tnds_sh0 {Q k : Nat} : tnds (Q * 10 ^ k) = 0 ↔ Q = 0 := by
  rw [tnds_0iff]
  constructor
  · intro h
    rcases Nat.mul_eq_zero.mp h with e | e
    · exact e
    · have := p10 k; omega
  · intro h; rw [h, Nat.zero_mul]
theorem wh_eq {Q d : Nat} {z : Int} (hd : d ≤ 20) (h : z = if (1 : Int) < ((tnds (Q * 10 ^ (20 - d)) : Nat) : Int) - 20 then ((tnds (Q * 10 ^ (20 - d)) : Nat) : Int) - 20 else 1) : z = ((nwd Q d - d : Nat) : Int) := by
  unfold nwd
  by_cases e : Q = 0
  · subst e
    rw [Nat.zero_mul, tnds_zero] at h
    rw [tnds_zero, if_neg (by omega)]
    rw [if_neg (by omega)] at h
    omega
  · rw [tnds_sh (by omega)] at h
    split at h <;> split <;> omega
theorem dgw {Q d k : Nat} (hd : d ≤ 20) : Q * 10 ^ (20 - d) / 10 ^ (20 + k) % 10 = Q / 10 ^ (d + k) % 10 := by
  rw [show 20 + k = (20 - d) + (d + k) by omega, p10add, ← Nat.div_div_eq_div_mul, Nat.mul_div_cancel _ (p10 _)]
theorem dgf {Q d j : Nat} (hd : d ≤ 20) (hj : j < d) : Q * 10 ^ (20 - d) / 10 ^ (19 - j) % 10 = Q / 10 ^ (d - (j + 1)) % 10 := by
  rw [show 19 - j = (20 - d) + (d - (j + 1)) by omega, p10add, ← Nat.div_div_eq_div_mul, Nat.mul_div_cancel _ (p10 _)]
def crm (Q d : Nat) (g : Bool) (i : Nat) : List Int := if i = 0 then (if 0 < d then [46] else []) ++ fb Q d g d else fb Q d g (d + i)
theorem crm_p {Q d i : Nat} {g : Bool} (h : 0 < i) : crm Q d g i = fb Q d g (d + i) := by unfold crm; rw [if_neg (by omega)]
theorem crm_01 {Q d : Nat} {g : Bool} (h : 0 < d) : crm Q d g 0 = 46 :: fb Q d g d := by unfold crm; rw [if_pos rfl, if_pos h]; rfl
theorem crm_00 {Q d : Nat} {g : Bool} (h : ¬ 0 < d) : crm Q d g 0 = fb Q d g d := by unfold crm; rw [if_pos rfl, if_neg h]; rfl
theorem crm_c {Q d k : Nat} {g : Bool} (h : 0 < k ∧ k % 3 = 0 ∧ g = true) : crm Q d g (k + 1) = ((48 + Q / 10 ^ (d + k) % 10 : Nat) : Int) :: 44 :: crm Q d g k := by
  rw [crm_p (by omega), crm_p h.1, ← Nat.add_assoc, fb_c ⟨by omega, by omega, h.2.2⟩]
theorem crm_o {Q d k : Nat} {g : Bool} (h : ¬ (0 < k ∧ k % 3 = 0 ∧ g = true)) : crm Q d g (k + 1) = ((48 + Q / 10 ^ (d + k) % 10 : Nat) : Int) :: crm Q d g k := by
  rw [crm_p (by omega), ← Nat.add_assoc]
  by_cases e : k = 0
  · subst e
    by_cases hd : 0 < d
    · rw [crm_01 hd, Nat.add_zero, fb_p ⟨rfl, hd⟩]; rfl
    · rw [crm_00 hd, Nat.add_zero, fb_o (by omega) (by omega)]; rfl
  · rw [crm_p (by omega), fb_o (fun z => h ⟨by omega, by have := z.2.1; omega, z.2.2⟩) (by omega)]
theorem and4 {st : Int} (h : 0 ≤ st ∧ st < 8) : iI st &&& iI 4 = iI (if 4 ≤ st then 4 else 0) := by
  rcases (show st = 0 ∨ st = 1 ∨ st = 2 ∨ st = 3 ∨ st = 4 ∨ st = 5 ∨ st = 6 ∨ st = 7 by omega) with rfl | rfl | rfl | rfl | rfl | rfl | rfl | rfl <;> rfl
theorem and2 {st : Int} (h : 0 ≤ st ∧ st < 8) : iI st &&& iI 2 = iI (if 2 ≤ st % 4 then 2 else 0) := by
  rcases (show st = 0 ∨ st = 1 ∨ st = 2 ∨ st = 3 ∨ st = 4 ∨ st = 5 ∨ st = 6 ∨ st = 7 by omega) with rfl | rfl | rfl | rfl | rfl | rfl | rfl | rfl <;> rfl
theorem and1 {st : Int} (h : 0 ≤ st ∧ st < 8) : iI st &&& iI 1 = iI (if st % 2 = 1 then 1 else 0) := by
  rcases (show st = 0 ∨ st = 1 ∨ st = 2 ∨ st = 3 ∨ st = 4 ∨ st = 5 ∨ st = 6 ∨ st = 7 by omega) with rfl | rfl | rfl | rfl | rfl | rfl | rfl | rfl <;> rfl
theorem fmW {c : Int} {n : Bool} {V : Nat} : trnd 6 n (V / (1 * 10 ^ (10 - tdig c))) (V % (1 * 10 ^ (10 - tdig c))) (1 * 10 ^ (10 - tdig c)) * (1 * 10 ^ (10 - tdig c)) * 10 ^ 10 = fmQ c n V * 10 ^ (20 - tdig c) := by
  have e : 1 * 10 ^ (10 - tdig c) = 10 ^ (10 - tdig c) := Nat.one_mul _
  unfold fmQ
  rw [e, p20]
  exact Nat.mul_assoc _ _ _
theorem fmQ_72 {c : Int} {n : Bool} {V : Nat} (hV : V < 10 ^ 36) : fmQ c n V * 10 ^ (20 - tdig c) < 10 ^ 72 := by
  have h := fmQ_bd (c := c) (n := n) hV
  have h2 := Nat.mul_lt_mul_of_pos_right h (p10 (20 - tdig c))
  have := tdig_le c
  rw [← p10add, show 27 + tdig c + (20 - tdig c) = 47 by omega] at h2
  exact Nat.lt_trans h2 (by decide)
set_option maxHeartbeats 4000000 in
set_option maxRecDepth 100000 in
/-- Text.appendCode -/
theorem c_X1_appendCode (E : TEn) (hE : EnvOk E) (ht ql : Nat) (cI : ClassId) (tx : Nat → Int) (htx : ∀ j, r32 (tx j)) (sz ta : Nat) (tc : Int) (v : Int) (hv : 0 ≤ v ∧ v ≤ 5) (hs : sz + 3 ≤ 48) : Ctv vwCl E yX1_appendCode wsX1_appendCode (rmn 1 21) [.ref ht, .int (iI v)] [(ht, .inr (1, [.ref ql, .int (iI ((sz : Nat) : Int)), .int (iI ((ta : Nat) : Int)), .int (iI tc)])), (ql, .inl (cI, 48, .inl (fun j => iI (tx j))))] [(cI, .int)] (fun (u : (Nat → Int) × Nat) => u = tapp (tx, sz) (codL v)) (fun u => [(ht, .inr (1, [.ref ql, .int (iI ((u.2 : Nat) : Int)), .int (iI ((ta : Nat) : Int)), .int (iI tc)])), (ql, .inl (cI, 48, .inl (fun j => iI (u.1 j))))]) := by
  refine enterv (by decide) (Nat.le_of_ble_eq_true rfl) ?_
  intro X O hK hin2 hret
  show TGo X [(ht, .inr (1, [.ref ql, .int (iI ((sz : Nat) : Int)), .int (iI ((ta : Nat) : Int)), .int (iI tc)])), (ql, .inl (cI, 48, .inl (fun j => iI (tx j))))] 0 0 0 [(0, .ref ht), (1, .int (iI v))] []
  have lp : ∀ (c : Nat) (i : Nat) (x : Int) (t2 : Nat → Int) (s2 : Nat), c + i = 4 → i ≤ 3 → x = (i : Int) → (∀ j, r32 (t2 j)) → s2 = sz + i → tapp (t2, s2) (List.replicate (3 - i) (65 + v)) = tapp (tx, sz) (codL v) → TGo X [(ht, .inr (1, [.ref ql, .int (iI ((s2 : Nat) : Int)), .int (iI ((ta : Nat) : Int)), .int (iI tc)])), (ql, .inl (cI, 48, .inl (fun j => iI (t2 j))))] 0 0 2 [(2, .int (iI x)), (0, .ref ht), (1, .int (iI v))] [] := by
    intro c
    induction c with
    | zero => intro i x t2 s2 h1 h2 hx ht2 hs2 hF; omega
    | succ c ih =>
      intro i x t2 s2 h1 h2 hx ht2 hs2 hF
      refine go_iload_n O dX1_appendCode_2 rfl 0 rfl 3 rfl ?_
      refine go_iconst O dX1_appendCode_3 4 rfl ?_
      refine go_icmp_ge O dX1_appendCode_4 21 (by decide) 7 rfl (by omega) (by omega) (fun h4 => ?_) (fun h4 => ?_)
      · exact hret _ _ (t2, s2) dX1_appendCode_21 (by rw [← hF, show 3 - i = 0 by omega]; rfl)
      · refine go_aload_n O dX1_appendCode_7 rfl 1 rfl 8 rfl ?_
        refine go_bipush O dX1_appendCode_8 (by decide) 10 rfl ?_
        refine go_iload_n O dX1_appendCode_10 rfl 2 rfl 11 rfl ?_
        refine go_iadd O dX1_appendCode_11 (65 + v) rfl 12 rfl ?_
        refine go_callvV (As := [.int (iI (65 + v))]) (rest := []) (wr := []) O hK hE (c_X1_append E hE ht ql cI t2 ht2 s2 ta tc (65 + v) (by omega)) mlX1_19 imX1_append seX1_append inX1 cdX1_append 1 (by decide +kernel) ⟨Nat.le_of_ble_eq_true rfl, Nat.le_of_ble_eq_true rfl⟩ 0 rfl rfl [0] rfl [0, 1] rfl (by decide) [] rfl (by decide) (by decide) rfl rfl (Nat.le_of_ble_eq_true rfl) ⟨Nat.zero_le _, Nat.zero_le _⟩ dX1_appendCode_12 15 rfl (fun u hu => ?_)
        show TGo X [(ht, .inr (1, [.ref ql, .int (iI ((s2 + 1 : Nat) : Int)), .int (iI ((ta : Nat) : Int)), .int (iI tc)])), (ql, .inl (cI, 48, .inl (fun j => iI (txs t2 s2 (65 + v) j))))] 0 0 15 [(2, .int (iI x)), (0, .ref ht), (1, .int (iI v))] []
        refine go_iinc O dX1_appendCode_15 0 rfl ((i + 1 : Nat) : Int) (by omega) (by decide) [(2, .int (iI ((i + 1 : Nat) : Int))), (0, .ref ht), (1, .int (iI v))] rfl 18 rfl ?_
        refine go_goto O dX1_appendCode_18 2 (by decide) ?_
        refine TGo.lsub (lv' := [(2, .int (iI ((i + 1 : Nat) : Int))), (0, .ref ht), (1, .int (iI v))]) [0, 1, 2] rfl ?_
        exact ih (i + 1) _ _ _ (by omega) (by omega) (by omega) (txs_r ht2 (by omega)) (by omega) (by rw [← hF, show 3 - i = (3 - (i + 1)) + 1 by omega]; rfl)
  refine go_iconst O dX1_appendCode_0 1 rfl ?_
  refine go_istore_n O dX1_appendCode_1 rfl (by decide) [(2, .int (iI 0)), (0, .ref ht), (1, .int (iI v))] rfl 2 rfl ?_
  refine TGo.lsub (lv' := [(2, .int (iI 0)), (0, .ref ht), (1, .int (iI v))]) [0, 1, 2] rfl ?_
  exact lp 4 0 _ tx sz (by omega) (by omega) rfl htx rfl rfl
set_option maxHeartbeats 4000000 in
set_option maxRecDepth 100000 in
/-- writeBody -/
theorem c_X3_writeBody (E : TEn) (hE : EnvOk E) (h qam qrat qrm hw hsh qrow qfac : Nat) (cM : ClassId) (ht ql : Nat) (cI : ClassId) (tx : Nat → Int) (htx : ∀ j, r32 (tx j)) (sz ta : Nat) (tc : Int) (P Sc : Nat) (m : Int) (ng go : Bool) (Q d : Nat) (g : Bool) (hd : d ≤ 4) (hQ : Q < 10 ^ (27 + d)) (hW : Q * 10 ^ (20 - d) < 10 ^ 72) (hb : sz + (fb Q d g (nwd Q d)).length ≤ 48) : Ctv vwCl E yX3_writeBody wsX3_writeBody (rmn 1 21) [.ref h, .int (iI ((d : Nat) : Int)), .int (iI (bz g))] [(h, .inr (3, [.int (iI ((P : Nat) : Int)), .int (iI ((Sc : Nat) : Int)), .int (iI m), .ref qam, .ref qrat, .ref qrm, .ref hw, .ref hsh, .ref ht])), (hw, .inr (2, [.ref qrow, .ref qfac, .int (iI (bz ng)), .int (iI (bz go))])), (qrow, .inl (cI, 72, .inl (dg (Q * 10 ^ (20 - d))))), (ht, .inr (1, [.ref ql, .int (iI ((sz : Nat) : Int)), .int (iI ((ta : Nat) : Int)), .int (iI tc)])), (ql, .inl (cI, 48, .inl (fun j => iI (tx j))))] [(cI, .int)] (fun (u : (Nat → Int) × Nat) => u = tapp (tx, sz) (fb Q d g (nwd Q d))) (fun u => [(h, .inr (3, [.int (iI ((P : Nat) : Int)), .int (iI ((Sc : Nat) : Int)), .int (iI m), .ref qam, .ref qrat, .ref qrm, .ref hw, .ref hsh, .ref ht])), (hw, .inr (2, [.ref qrow, .ref qfac, .int (iI (bz ng)), .int (iI (bz go))])), (qrow, .inl (cI, 72, .inl (dg (Q * 10 ^ (20 - d))))), (ht, .inr (1, [.ref ql, .int (iI ((u.2 : Nat) : Int)), .int (iI ((ta : Nat) : Int)), .int (iI tc)])), (ql, .inl (cI, 48, .inl (fun j => iI (u.1 j))))]) := by
  refine enterv (by decide) (Nat.le_of_ble_eq_true rfl) ?_
  intro X O hK hin2 hret
  show TGo X [(h, .inr (3, [.int (iI ((P : Nat) : Int)), .int (iI ((Sc : Nat) : Int)), .int (iI m), .ref qam, .ref qrat, .ref qrm, .ref hw, .ref hsh, .ref ht])), (hw, .inr (2, [.ref qrow, .ref qfac, .int (iI (bz ng)), .int (iI (bz go))])), (qrow, .inl (cI, 72, .inl (dg (Q * 10 ^ (20 - d))))), (ht, .inr (1, [.ref ql, .int (iI ((sz : Nat) : Int)), .int (iI ((ta : Nat) : Int)), .int (iI tc)])), (ql, .inl (cI, 48, .inl (fun j => iI (tx j))))] 0 0 0 [(0, .ref h), (1, .int (iI ((d : Nat) : Int))), (2, .int (iI (bz g)))] []
  have bg := bz_01 g
  obtain ⟨F, hF0⟩ : ∃ y, y = tapp (tx, sz) (fb Q d g (nwd Q d)) := ⟨_, rfl⟩
  have hng := nwd_gt Q d
  have htQ := tnds_mono hQ
  have hn31 : nwd Q d ≤ 40 := by unfold nwd; split <;> omega
  have ht72 := tnds_mono hW
  have lf : ∀ (c : Nat) (y : Nat) (x : Int) (t2 : Nat → Int) (s2 : Nat), c + y = d + 1 → y ≤ d → x = (y : Int) + 1 → (∀ j, r32 (t2 j)) → tapp (t2, s2) (fb Q d g (d - y)) = F → s2 + (fb Q d g (d - y)).length ≤ 48 → TGo X [(h, .inr (3, [.int (iI ((P : Nat) : Int)), .int (iI ((Sc : Nat) : Int)), .int (iI m), .ref qam, .ref qrat, .ref qrm, .ref hw, .ref hsh, .ref ht])), (hw, .inr (2, [.ref qrow, .ref qfac, .int (iI (bz ng)), .int (iI (bz go))])), (qrow, .inl (cI, 72, .inl (dg (Q * 10 ^ (20 - d))))), (ht, .inr (1, [.ref ql, .int (iI ((s2 : Nat) : Int)), .int (iI ((ta : Nat) : Int)), .int (iI tc)])), (ql, .inl (cI, 48, .inl (fun j => iI (t2 j))))] 0 0 95 [(4, .int (iI x)), (0, .ref h), (1, .int (iI ((d : Nat) : Int))), (2, .int (iI (bz g)))] [] := by
    intro c
    induction c with
    | zero => intro y x t2 s2 h1 h2 hx ht2 hF hb; omega
    | succ c ih =>
      intro y x t2 s2 h1 h2 hx ht2 hF hb
      refine go_iload O dX3_writeBody_95 0 rfl 97 rfl ?_
      refine go_iload_n O dX3_writeBody_97 rfl 2 rfl 98 rfl ?_
      refine go_icmp_gt O dX3_writeBody_98 130 (by decide) 101 rfl (by omega) (by omega) (fun h98 => ?_) (fun h98 => ?_)
      · exact hret _ _ (t2, s2) dX3_writeBody_130 (by rw [show d - y = 0 by omega] at hF; rw [← hF0]; exact hF)
      · have hg1 := fb_ge (Q := Q) (d := d) (g := g) (i := d - (y + 1))
        rw [show d - (y + 1) + 1 = d - y by omega] at hg1
        refine go_aload_n O dX3_writeBody_101 rfl 1 rfl 102 rfl ?_
        refine go_get O hK dX3_writeBody_102 hinX3 0 rfl rfl 8 (by decide) flX3_56 rfl 105 rfl ?_
        refine go_bipush O dX3_writeBody_105 (by decide) 107 rfl ?_
        refine go_aload_n O dX3_writeBody_107 rfl 1 rfl 108 rfl ?_
        refine go_get O hK dX3_writeBody_108 hinX3 0 rfl rfl 6 (by decide) flX3_46 rfl 111 rfl ?_
        refine go_get O hK dX3_writeBody_111 hinX2 1 rfl rfl 0 (by decide) flX3_133 rfl 114 rfl ?_
        refine go_bipush O dX3_writeBody_114 (by decide) 116 rfl ?_
        refine go_iload O dX3_writeBody_116 0 rfl 118 rfl ?_
        refine go_isub O dX3_writeBody_118 ((19 - y : Nat) : Int) (by omega) 119 rfl ?_
        refine go_iald O hK dX3_writeBody_119 2 0 rfl rfl (19 - y) rfl (by omega) (by omega) ((Q / 10 ^ (d - (y + 1)) % 10 : Nat) : Int) (by rw [dg_at, dgf (by omega) (by omega)]) 120 rfl ?_
        refine go_iadd O dX3_writeBody_120 ((48 + Q / 10 ^ (d - (y + 1)) % 10 : Nat) : Int) (by omega) 121 rfl ?_
        refine go_callvV (As := [.int (iI ((48 + Q / 10 ^ (d - (y + 1)) % 10 : Nat) : Int))]) (rest := []) (wr := [(h, .inr (3, [.int (iI ((P : Nat) : Int)), .int (iI ((Sc : Nat) : Int)), .int (iI m), .ref qam, .ref qrat, .ref qrm, .ref hw, .ref hsh, .ref ht])), (hw, .inr (2, [.ref qrow, .ref qfac, .int (iI (bz ng)), .int (iI (bz go))])), (qrow, .inl (cI, 72, .inl (dg (Q * 10 ^ (20 - d)))))]) O hK hE (c_X1_append E hE ht ql cI t2 ht2 s2 ta tc ((48 + Q / 10 ^ (d - (y + 1)) % 10 : Nat) : Int) (by omega)) mlX3_168 imX1_append seX1_append inX1 cdX1_append 1 (by decide +kernel) ⟨Nat.le_of_ble_eq_true rfl, Nat.le_of_ble_eq_true rfl⟩ 3 rfl rfl [0] rfl [3, 4] rfl (by decide) [0, 1, 2] rfl (by decide) (by decide) rfl rfl (Nat.le_of_ble_eq_true rfl) ⟨Nat.zero_le _, Nat.zero_le _⟩ dX3_writeBody_121 124 rfl (fun u hu => ?_)
        show TGo X [(h, .inr (3, [.int (iI ((P : Nat) : Int)), .int (iI ((Sc : Nat) : Int)), .int (iI m), .ref qam, .ref qrat, .ref qrm, .ref hw, .ref hsh, .ref ht])), (hw, .inr (2, [.ref qrow, .ref qfac, .int (iI (bz ng)), .int (iI (bz go))])), (qrow, .inl (cI, 72, .inl (dg (Q * 10 ^ (20 - d))))), (ht, .inr (1, [.ref ql, .int (iI ((s2 + 1 : Nat) : Int)), .int (iI ((ta : Nat) : Int)), .int (iI tc)])), (ql, .inl (cI, 48, .inl (fun j => iI (txs t2 s2 ((48 + Q / 10 ^ (d - (y + 1)) % 10 : Nat) : Int) j))))] 0 0 124 [(4, .int (iI x)), (0, .ref h), (1, .int (iI ((d : Nat) : Int))), (2, .int (iI (bz g)))] []
        refine go_iinc O dX3_writeBody_124 0 rfl ((y + 2 : Nat) : Int) (by omega) (by decide) [(4, .int (iI ((y + 2 : Nat) : Int))), (0, .ref h), (1, .int (iI ((d : Nat) : Int))), (2, .int (iI (bz g)))] rfl 127 rfl ?_
        refine go_goto O dX3_writeBody_127 95 (by decide) ?_
        rw [show d - y = (d - (y + 1)) + 1 by omega, fb_o (by omega) (by omega)] at hF hb
        simp only [List.length_cons] at hb
        refine TGo.lsub (lv' := [(4, .int (iI ((y + 2 : Nat) : Int))), (0, .ref h), (1, .int (iI ((d : Nat) : Int))), (2, .int (iI (bz g)))]) [0, 1, 2, 3] rfl ?_
        exact ih (y + 1) _ _ _ (by omega) (by omega) (by omega) (txs_r ht2 (by omega)) hF (by omega)
  have lw : ∀ (c : Nat) (i : Nat) (x : Int) (t2 : Nat → Int) (s2 : Nat), c = i + 1 → i ≤ 40 → x = (i : Int) - 1 → (∀ j, r32 (t2 j)) → tapp (t2, s2) (crm Q d g i) = F → s2 + (crm Q d g i).length ≤ 48 → TGo X [(h, .inr (3, [.int (iI ((P : Nat) : Int)), .int (iI ((Sc : Nat) : Int)), .int (iI m), .ref qam, .ref qrat, .ref qrm, .ref hw, .ref hsh, .ref ht])), (hw, .inr (2, [.ref qrow, .ref qfac, .int (iI (bz ng)), .int (iI (bz go))])), (qrow, .inl (cI, 72, .inl (dg (Q * 10 ^ (20 - d))))), (ht, .inr (1, [.ref ql, .int (iI ((s2 : Nat) : Int)), .int (iI ((ta : Nat) : Int)), .int (iI tc)])), (ql, .inl (cI, 48, .inl (fun j => iI (t2 j))))] 0 0 20 [(4, .int (iI x)), (0, .ref h), (1, .int (iI ((d : Nat) : Int))), (2, .int (iI (bz g)))] [] := by
    intro c
    induction c with
    | zero => intro i x t2 s2 h1 h2 hx ht2 hF hb; omega
    | succ c ih =>
      intro i x t2 s2 h1 h2 hx ht2 hF hb
      refine go_iload O dX3_writeBody_20 0 rfl 22 rfl ?_
      refine go_if_lt O dX3_writeBody_22 79 (by decide) 25 rfl (by omega) (fun h22 => ?_) (fun h22 => ?_)
      · have ei : i = 0 := by omega
        subst ei
        refine go_iload_n O dX3_writeBody_79 rfl 2 rfl 80 rfl ?_
        refine go_if_le O dX3_writeBody_80 92 (by decide) 83 rfl (by omega) (fun h80 => ?_) (fun h80 => ?_)
        · refine go_iconst O dX3_writeBody_92 93 rfl ?_
          refine go_istore O dX3_writeBody_93 (by decide) [(4, .int (iI 1)), (0, .ref h), (1, .int (iI ((d : Nat) : Int))), (2, .int (iI (bz g)))] rfl 95 rfl ?_
          rw [crm_00 (by omega)] at hF hb
          refine TGo.lsub (lv' := [(4, .int (iI 1)), (0, .ref h), (1, .int (iI ((d : Nat) : Int))), (2, .int (iI (bz g)))]) [0, 1, 2, 3] rfl ?_
          exact lf (d + 1) 0 _ _ _ (by omega) (by omega) rfl ht2 hF (by simp only [Nat.sub_zero]; omega)
        · rw [crm_01 (by omega)] at hF hb
          simp only [List.length_cons] at hb
          refine go_aload_n O dX3_writeBody_83 rfl 1 rfl 84 rfl ?_
          refine go_get O hK dX3_writeBody_84 hinX3 0 rfl rfl 8 (by decide) flX3_56 rfl 87 rfl ?_
          refine go_bipush O dX3_writeBody_87 (by decide) 89 rfl ?_
          refine go_callvV (As := [.int (iI 46)]) (rest := []) (wr := [(h, .inr (3, [.int (iI ((P : Nat) : Int)), .int (iI ((Sc : Nat) : Int)), .int (iI m), .ref qam, .ref qrat, .ref qrm, .ref hw, .ref hsh, .ref ht])), (hw, .inr (2, [.ref qrow, .ref qfac, .int (iI (bz ng)), .int (iI (bz go))])), (qrow, .inl (cI, 72, .inl (dg (Q * 10 ^ (20 - d)))))]) O hK hE (c_X1_append E hE ht ql cI t2 ht2 s2 ta tc 46 (by omega)) mlX3_168 imX1_append seX1_append inX1 cdX1_append 1 (by decide +kernel) ⟨Nat.le_of_ble_eq_true rfl, Nat.le_of_ble_eq_true rfl⟩ 3 rfl rfl [0] rfl [3, 4] rfl (by decide) [0, 1, 2] rfl (by decide) (by decide) rfl rfl (Nat.le_of_ble_eq_true rfl) ⟨Nat.zero_le _, Nat.zero_le _⟩ dX3_writeBody_89 92 rfl (fun u hu => ?_)
          show TGo X [(h, .inr (3, [.int (iI ((P : Nat) : Int)), .int (iI ((Sc : Nat) : Int)), .int (iI m), .ref qam, .ref qrat, .ref qrm, .ref hw, .ref hsh, .ref ht])), (hw, .inr (2, [.ref qrow, .ref qfac, .int (iI (bz ng)), .int (iI (bz go))])), (qrow, .inl (cI, 72, .inl (dg (Q * 10 ^ (20 - d))))), (ht, .inr (1, [.ref ql, .int (iI ((s2 + 1 : Nat) : Int)), .int (iI ((ta : Nat) : Int)), .int (iI tc)])), (ql, .inl (cI, 48, .inl (fun j => iI (txs t2 s2 46 j))))] 0 0 92 [(4, .int (iI x)), (0, .ref h), (1, .int (iI ((d : Nat) : Int))), (2, .int (iI (bz g)))] []
          refine go_iconst O dX3_writeBody_92 93 rfl ?_
          refine go_istore O dX3_writeBody_93 (by decide) [(4, .int (iI 1)), (0, .ref h), (1, .int (iI ((d : Nat) : Int))), (2, .int (iI (bz g)))] rfl 95 rfl ?_
          refine TGo.lsub (lv' := [(4, .int (iI 1)), (0, .ref h), (1, .int (iI ((d : Nat) : Int))), (2, .int (iI (bz g)))]) [0, 1, 2, 3] rfl ?_
          exact lf (d + 1) 0 _ _ _ (by omega) (by omega) rfl (txs_r ht2 (by omega)) hF (by simp only [Nat.sub_zero]; omega)
      · obtain ⟨k, rfl⟩ : ∃ k, i = k + 1 := ⟨i - 1, by omega⟩
        have hg1 : 1 ≤ (crm Q d g (k + 1)).length := by rw [crm_p (by omega), ← Nat.add_assoc]; exact fb_ge
        refine go_aload_n O dX3_writeBody_25 rfl 1 rfl 26 rfl ?_
        refine go_get O hK dX3_writeBody_26 hinX3 0 rfl rfl 8 (by decide) flX3_56 rfl 29 rfl ?_
        refine go_bipush O dX3_writeBody_29 (by decide) 31 rfl ?_
        refine go_aload_n O dX3_writeBody_31 rfl 1 rfl 32 rfl ?_
        refine go_get O hK dX3_writeBody_32 hinX3 0 rfl rfl 6 (by decide) flX3_46 rfl 35 rfl ?_
        refine go_get O hK dX3_writeBody_35 hinX2 1 rfl rfl 0 (by decide) flX3_133 rfl 38 rfl ?_
        refine go_bipush O dX3_writeBody_38 (by decide) 40 rfl ?_
        refine go_iload O dX3_writeBody_40 0 rfl 42 rfl ?_
        refine go_iadd O dX3_writeBody_42 ((20 + k : Nat) : Int) (by omega) 43 rfl ?_
        refine go_iald O hK dX3_writeBody_43 2 0 rfl rfl (20 + k) rfl (by omega) (by omega) ((Q / 10 ^ (d + k) % 10 : Nat) : Int) (by rw [dg_at, dgw (by omega)]) 44 rfl ?_
        refine go_iadd O dX3_writeBody_44 ((48 + Q / 10 ^ (d + k) % 10 : Nat) : Int) (by omega) 45 rfl ?_
        refine go_callvV (As := [.int (iI ((48 + Q / 10 ^ (d + k) % 10 : Nat) : Int))]) (rest := []) (wr := [(h, .inr (3, [.int (iI ((P : Nat) : Int)), .int (iI ((Sc : Nat) : Int)), .int (iI m), .ref qam, .ref qrat, .ref qrm, .ref hw, .ref hsh, .ref ht])), (hw, .inr (2, [.ref qrow, .ref qfac, .int (iI (bz ng)), .int (iI (bz go))])), (qrow, .inl (cI, 72, .inl (dg (Q * 10 ^ (20 - d)))))]) O hK hE (c_X1_append E hE ht ql cI t2 ht2 s2 ta tc ((48 + Q / 10 ^ (d + k) % 10 : Nat) : Int) (by omega)) mlX3_168 imX1_append seX1_append inX1 cdX1_append 1 (by decide +kernel) ⟨Nat.le_of_ble_eq_true rfl, Nat.le_of_ble_eq_true rfl⟩ 3 rfl rfl [0] rfl [3, 4] rfl (by decide) [0, 1, 2] rfl (by decide) (by decide) rfl rfl (Nat.le_of_ble_eq_true rfl) ⟨Nat.zero_le _, Nat.zero_le _⟩ dX3_writeBody_45 48 rfl (fun u hu => ?_)
        show TGo X [(h, .inr (3, [.int (iI ((P : Nat) : Int)), .int (iI ((Sc : Nat) : Int)), .int (iI m), .ref qam, .ref qrat, .ref qrm, .ref hw, .ref hsh, .ref ht])), (hw, .inr (2, [.ref qrow, .ref qfac, .int (iI (bz ng)), .int (iI (bz go))])), (qrow, .inl (cI, 72, .inl (dg (Q * 10 ^ (20 - d))))), (ht, .inr (1, [.ref ql, .int (iI ((s2 + 1 : Nat) : Int)), .int (iI ((ta : Nat) : Int)), .int (iI tc)])), (ql, .inl (cI, 48, .inl (fun j => iI (txs t2 s2 ((48 + Q / 10 ^ (d + k) % 10 : Nat) : Int) j))))] 0 0 48 [(4, .int (iI x)), (0, .ref h), (1, .int (iI ((d : Nat) : Int))), (2, .int (iI (bz g)))] []
        refine go_iload_n O dX3_writeBody_48 rfl 3 rfl 49 rfl ?_
        refine go_if_eq O dX3_writeBody_49 73 (by decide) 52 rfl (by omega) (fun h49 => ?_) (fun h49 => ?_)
        · refine go_iinc O dX3_writeBody_73 0 rfl (x - 1) (by omega) (by decide) [(4, .int (iI (x - 1))), (0, .ref h), (1, .int (iI ((d : Nat) : Int))), (2, .int (iI (bz g)))] rfl 76 rfl ?_
          refine go_goto O dX3_writeBody_76 20 (by decide) ?_
          rw [crm_o (fun e => by have e3 : bz g = 1 := bz_1.mpr e.2.2; omega)] at hF hb
          simp only [List.length_cons] at hb
          refine TGo.lsub (lv' := [(4, .int (iI (x - 1))), (0, .ref h), (1, .int (iI ((d : Nat) : Int))), (2, .int (iI (bz g)))]) [0, 1, 2, 3] rfl ?_
          exact ih k _ _ _ (by omega) (by omega) (by omega) (txs_r ht2 (by omega)) hF (by omega)
        · refine go_iload O dX3_writeBody_52 0 rfl 54 rfl ?_
          refine go_if_le O dX3_writeBody_54 73 (by decide) 57 rfl (by omega) (fun h54 => ?_) (fun h54 => ?_)
          · refine go_iinc O dX3_writeBody_73 0 rfl (x - 1) (by omega) (by decide) [(4, .int (iI (x - 1))), (0, .ref h), (1, .int (iI ((d : Nat) : Int))), (2, .int (iI (bz g)))] rfl 76 rfl ?_
            refine go_goto O dX3_writeBody_76 20 (by decide) ?_
            rw [crm_o (fun e => by have e3 : bz g = 1 := bz_1.mpr e.2.2; omega)] at hF hb
            simp only [List.length_cons] at hb
            refine TGo.lsub (lv' := [(4, .int (iI (x - 1))), (0, .ref h), (1, .int (iI ((d : Nat) : Int))), (2, .int (iI (bz g)))]) [0, 1, 2, 3] rfl ?_
            exact ih k _ _ _ (by omega) (by omega) (by omega) (txs_r ht2 (by omega)) hF (by omega)
          · refine go_iload O dX3_writeBody_57 0 rfl 59 rfl ?_
            refine go_iconst O dX3_writeBody_59 60 rfl ?_
            refine go_irem O dX3_writeBody_60 (by omega) (by omega) (by omega) (by omega) ((k % 3 : Nat) : Int) (by omega) 61 rfl ?_
            refine go_if_ne O dX3_writeBody_61 73 (by decide) 64 rfl (by omega) (fun h61 => ?_) (fun h61 => ?_)
            · refine go_iinc O dX3_writeBody_73 0 rfl (x - 1) (by omega) (by decide) [(4, .int (iI (x - 1))), (0, .ref h), (1, .int (iI ((d : Nat) : Int))), (2, .int (iI (bz g)))] rfl 76 rfl ?_
              refine go_goto O dX3_writeBody_76 20 (by decide) ?_
              rw [crm_o (fun e => by have e3 : bz g = 1 := bz_1.mpr e.2.2; omega)] at hF hb
              simp only [List.length_cons] at hb
              refine TGo.lsub (lv' := [(4, .int (iI (x - 1))), (0, .ref h), (1, .int (iI ((d : Nat) : Int))), (2, .int (iI (bz g)))]) [0, 1, 2, 3] rfl ?_
              exact ih k _ _ _ (by omega) (by omega) (by omega) (txs_r ht2 (by omega)) hF (by omega)
            · rw [crm_c ⟨by omega, by omega, bz_ne h49⟩] at hF hb
              simp only [List.length_cons] at hb
              refine go_aload_n O dX3_writeBody_64 rfl 1 rfl 65 rfl ?_
              refine go_get O hK dX3_writeBody_65 hinX3 0 rfl rfl 8 (by decide) flX3_56 rfl 68 rfl ?_
              refine go_bipush O dX3_writeBody_68 (by decide) 70 rfl ?_
              refine go_callvV (As := [.int (iI 44)]) (rest := []) (wr := [(h, .inr (3, [.int (iI ((P : Nat) : Int)), .int (iI ((Sc : Nat) : Int)), .int (iI m), .ref qam, .ref qrat, .ref qrm, .ref hw, .ref hsh, .ref ht])), (hw, .inr (2, [.ref qrow, .ref qfac, .int (iI (bz ng)), .int (iI (bz go))])), (qrow, .inl (cI, 72, .inl (dg (Q * 10 ^ (20 - d)))))]) O hK hE (c_X1_append E hE ht ql cI (txs t2 s2 ((48 + Q / 10 ^ (d + k) % 10 : Nat) : Int)) (txs_r ht2 (by omega)) (s2 + 1) ta tc 44 (by omega)) mlX3_168 imX1_append seX1_append inX1 cdX1_append 1 (by decide +kernel) ⟨Nat.le_of_ble_eq_true rfl, Nat.le_of_ble_eq_true rfl⟩ 3 rfl rfl [0] rfl [3, 4] rfl (by decide) [0, 1, 2] rfl (by decide) (by decide) rfl rfl (Nat.le_of_ble_eq_true rfl) ⟨Nat.zero_le _, Nat.zero_le _⟩ dX3_writeBody_70 73 rfl (fun u hu => ?_)
              show TGo X [(h, .inr (3, [.int (iI ((P : Nat) : Int)), .int (iI ((Sc : Nat) : Int)), .int (iI m), .ref qam, .ref qrat, .ref qrm, .ref hw, .ref hsh, .ref ht])), (hw, .inr (2, [.ref qrow, .ref qfac, .int (iI (bz ng)), .int (iI (bz go))])), (qrow, .inl (cI, 72, .inl (dg (Q * 10 ^ (20 - d))))), (ht, .inr (1, [.ref ql, .int (iI ((s2 + 1 + 1 : Nat) : Int)), .int (iI ((ta : Nat) : Int)), .int (iI tc)])), (ql, .inl (cI, 48, .inl (fun j => iI (txs (txs t2 s2 ((48 + Q / 10 ^ (d + k) % 10 : Nat) : Int)) (s2 + 1) 44 j))))] 0 0 73 [(4, .int (iI x)), (0, .ref h), (1, .int (iI ((d : Nat) : Int))), (2, .int (iI (bz g)))] []
              refine go_iinc O dX3_writeBody_73 0 rfl (x - 1) (by omega) (by decide) [(4, .int (iI (x - 1))), (0, .ref h), (1, .int (iI ((d : Nat) : Int))), (2, .int (iI (bz g)))] rfl 76 rfl ?_
              refine go_goto O dX3_writeBody_76 20 (by decide) ?_
              refine TGo.lsub (lv' := [(4, .int (iI (x - 1))), (0, .ref h), (1, .int (iI ((d : Nat) : Int))), (2, .int (iI (bz g)))]) [0, 1, 2, 3] rfl ?_
              exact ih k _ _ _ (by omega) (by omega) (by omega) (txs_r (txs_r ht2 (by omega)) (by omega)) hF (by omega)
  refine go_iconst O dX3_writeBody_0 1 rfl ?_
  refine go_aload_n O dX3_writeBody_1 rfl 0 rfl 2 rfl ?_
  refine go_get O hK dX3_writeBody_2 hinX3 0 rfl rfl 6 (by decide) flX3_46 rfl 5 rfl ?_
  refine go_calliV (As := []) (rest := [.int (iI 1)]) (wr := [(h, .inr (3, [.int (iI ((P : Nat) : Int)), .int (iI ((Sc : Nat) : Int)), .int (iI m), .ref qam, .ref qrat, .ref qrm, .ref hw, .ref hsh, .ref ht])), (ht, .inr (1, [.ref ql, .int (iI ((sz : Nat) : Int)), .int (iI ((ta : Nat) : Int)), .int (iI tc)])), (ql, .inl (cI, 48, .inl (fun j => iI (tx j))))]) O hK hE (c_X2_size E hE hw qrow qfac cI ng go (Q * 10 ^ (20 - d)) hW) mlX3_195 imX2_size seX2_size inX2 cdX2_size 0 (by decide +kernel) ⟨Nat.le_of_ble_eq_true rfl, Nat.le_of_ble_eq_true rfl⟩ 1 rfl rfl [0] rfl [1, 2] rfl (by decide) [0, 3, 4] rfl (by decide) (by decide) rfl rfl (Nat.le_of_ble_eq_true rfl) ⟨Nat.zero_le _, Nat.zero_le _⟩ dX3_writeBody_5 8 rfl (fun z u hu => ?_)
  subst hu
  show TGo X [(h, .inr (3, [.int (iI ((P : Nat) : Int)), .int (iI ((Sc : Nat) : Int)), .int (iI m), .ref qam, .ref qrat, .ref qrm, .ref hw, .ref hsh, .ref ht])), (ht, .inr (1, [.ref ql, .int (iI ((sz : Nat) : Int)), .int (iI ((ta : Nat) : Int)), .int (iI tc)])), (ql, .inl (cI, 48, .inl (fun j => iI (tx j)))), (hw, .inr (2, [.ref qrow, .ref qfac, .int (iI (bz ng)), .int (iI (bz go))])), (qrow, .inl (cI, 72, .inl (dg (Q * 10 ^ (20 - d)))))] 0 0 8 [(0, .ref h), (1, .int (iI ((d : Nat) : Int))), (2, .int (iI (bz g)))] [.int (iI ((tnds (Q * 10 ^ (20 - d)) : Nat) : Int)), .int (iI 1)]
  refine TGo.sub (ws' := [(h, .inr (3, [.int (iI ((P : Nat) : Int)), .int (iI ((Sc : Nat) : Int)), .int (iI m), .ref qam, .ref qrat, .ref qrm, .ref hw, .ref hsh, .ref ht])), (hw, .inr (2, [.ref qrow, .ref qfac, .int (iI (bz ng)), .int (iI (bz go))])), (qrow, .inl (cI, 72, .inl (dg (Q * 10 ^ (20 - d))))), (ht, .inr (1, [.ref ql, .int (iI ((sz : Nat) : Int)), .int (iI ((ta : Nat) : Int)), .int (iI tc)])), (ql, .inl (cI, 48, .inl (fun j => iI (tx j))))]) [0, 3, 4, 1, 2] (by decide) rfl ?_
  refine go_bipush O dX3_writeBody_8 (by decide) 10 rfl ?_
  refine go_isub O dX3_writeBody_10 (((tnds (Q * 10 ^ (20 - d)) : Nat) : Int) - 20) rfl 11 rfl ?_
  refine go_calliS (rest := []) (wr := [(h, .inr (3, [.int (iI ((P : Nat) : Int)), .int (iI ((Sc : Nat) : Int)), .int (iI m), .ref qam, .ref qrat, .ref qrm, .ref hw, .ref hsh, .ref ht])), (hw, .inr (2, [.ref qrow, .ref qfac, .int (iI (bz ng)), .int (iI (bz go))])), (qrow, .inl (cI, 72, .inl (dg (Q * 10 ^ (20 - d))))), (ht, .inr (1, [.ref ql, .int (iI ((sz : Nat) : Int)), .int (iI ((ta : Nat) : Int)), .int (iI tc)])), (ql, .inl (cI, 48, .inl (fun j => iI (tx j))))]) O hK hE (c_J9_max E hE 1 (((tnds (Q * 10 ^ (20 - d)) : Nat) : Int) - 20) (by omega) (by omega)) mlX3_15 smJ9_max inJ9 cdJ9_max 2 (by decide +kernel) ⟨Nat.le_of_ble_eq_true rfl, Nat.le_of_ble_eq_true rfl⟩ [] rfl [] rfl (by decide) [0, 1, 2, 3, 4] rfl (by decide) (by decide) rfl rfl (Nat.le_of_ble_eq_true rfl) ⟨Nat.zero_le _, Nat.zero_le _⟩ dX3_writeBody_11 14 rfl (fun z u hu => ?_)
  replace hu := wh_eq (by omega) hu
  subst hu
  show TGo X [(h, .inr (3, [.int (iI ((P : Nat) : Int)), .int (iI ((Sc : Nat) : Int)), .int (iI m), .ref qam, .ref qrat, .ref qrm, .ref hw, .ref hsh, .ref ht])), (hw, .inr (2, [.ref qrow, .ref qfac, .int (iI (bz ng)), .int (iI (bz go))])), (qrow, .inl (cI, 72, .inl (dg (Q * 10 ^ (20 - d))))), (ht, .inr (1, [.ref ql, .int (iI ((sz : Nat) : Int)), .int (iI ((ta : Nat) : Int)), .int (iI tc)])), (ql, .inl (cI, 48, .inl (fun j => iI (tx j))))] 0 0 14 [(0, .ref h), (1, .int (iI ((d : Nat) : Int))), (2, .int (iI (bz g)))] [.int (iI ((nwd Q d - d : Nat) : Int))]
  refine go_istore_n O dX3_writeBody_14 rfl (by decide) [(3, .int (iI ((nwd Q d - d : Nat) : Int))), (0, .ref h), (1, .int (iI ((d : Nat) : Int))), (2, .int (iI (bz g)))] rfl 15 rfl ?_
  refine go_iload_n O dX3_writeBody_15 rfl 0 rfl 16 rfl ?_
  refine go_iconst O dX3_writeBody_16 17 rfl ?_
  refine go_isub O dX3_writeBody_17 (((nwd Q d - d : Nat) : Int) - 1) rfl 18 rfl ?_
  refine go_istore O dX3_writeBody_18 (by decide) [(4, .int (iI (((nwd Q d - d : Nat) : Int) - 1))), (3, .int (iI ((nwd Q d - d : Nat) : Int))), (0, .ref h), (1, .int (iI ((d : Nat) : Int))), (2, .int (iI (bz g)))] rfl 20 rfl ?_
  refine TGo.lsub (lv' := [(4, .int (iI (((nwd Q d - d : Nat) : Int) - 1))), (0, .ref h), (1, .int (iI ((d : Nat) : Int))), (2, .int (iI (bz g)))]) [0, 2, 3, 4] rfl ?_
  exact lw (nwd Q d - d + 1) (nwd Q d - d) _ tx sz rfl (by omega) rfl htx (by rw [hF0, crm_p (by omega), show d + (nwd Q d - d) = nwd Q d by omega]) (by rw [crm_p (by omega), show d + (nwd Q d - d) = nwd Q d by omega]; exact hb)
set_option maxHeartbeats 4000000 in
set_option maxRecDepth 100000 in
/-- writeNumber -/
theorem c_X3_writeNumber (E : TEn) (hE : EnvOk E) (hT : TbOk E) (h qam qrat qrm hw hsh qrow qfac : Nat) (cM : ClassId) (ht ql : Nat) (cI : ClassId) (tx : Nat → Int) (htx : ∀ j, r32 (tx j)) (sz ta : Nat) (tc : Int) (P Sc : Nat) (m : Int) (ng go : Bool) (Q : Nat) (c0 st : Int) (hc0 : 0 ≤ c0 ∧ c0 ≤ 5) (hst : 0 ≤ st ∧ st < 8) (hQ : Q < 10 ^ (27 + tdig c0)) (hW : Q * 10 ^ (20 - tdig c0) < 10 ^ 72) (hb : sz + (numL Q (tdig c0) st (ng && decide (0 < Q))).length ≤ 48) : Ctv vwCl E yX3_writeNumber wsX3_writeNumber (rmn 2 45) [.ref h, .int (iI c0), .int (iI st)] [(h, .inr (3, [.int (iI ((P : Nat) : Int)), .int (iI ((Sc : Nat) : Int)), .int (iI m), .ref qam, .ref qrat, .ref qrm, .ref hw, .ref hsh, .ref ht])), (hw, .inr (2, [.ref qrow, .ref qfac, .int (iI (bz ng)), .int (iI (bz go))])), (qrow, .inl (cI, 72, .inl (dg (Q * 10 ^ (20 - tdig c0))))), (ht, .inr (1, [.ref ql, .int (iI ((sz : Nat) : Int)), .int (iI ((ta : Nat) : Int)), .int (iI tc)])), (ql, .inl (cI, 48, .inl (fun j => iI (tx j))))] [(cI, .int)] (fun (u : (Nat → Int) × Nat) => u = tapp (tx, sz) (numL Q (tdig c0) st (ng && decide (0 < Q)))) (fun u => [(h, .inr (3, [.int (iI ((P : Nat) : Int)), .int (iI ((Sc : Nat) : Int)), .int (iI m), .ref qam, .ref qrat, .ref qrm, .ref hw, .ref hsh, .ref ht])), (hw, .inr (2, [.ref qrow, .ref qfac, .int (iI (bz ng)), .int (iI (bz go))])), (qrow, .inl (cI, 72, .inl (dg (Q * 10 ^ (20 - tdig c0))))), (ht, .inr (1, [.ref ql, .int (iI ((u.2 : Nat) : Int)), .int (iI ((ta : Nat) : Int)), .int (iI tc)])), (ql, .inl (cI, 48, .inl (fun j => iI (u.1 j))))]) := by
  refine enterv (by decide) (Nat.le_of_ble_eq_true rfl) ?_
  intro X O hK hin2 hret
  show TGo X [(h, .inr (3, [.int (iI ((P : Nat) : Int)), .int (iI ((Sc : Nat) : Int)), .int (iI m), .ref qam, .ref qrat, .ref qrm, .ref hw, .ref hsh, .ref ht])), (hw, .inr (2, [.ref qrow, .ref qfac, .int (iI (bz ng)), .int (iI (bz go))])), (qrow, .inl (cI, 72, .inl (dg (Q * 10 ^ (20 - tdig c0))))), (ht, .inr (1, [.ref ql, .int (iI ((sz : Nat) : Int)), .int (iI ((ta : Nat) : Int)), .int (iI tc)])), (ql, .inl (cI, 48, .inl (fun j => iI (tx j))))] 0 0 0 [(0, .ref h), (1, .int (iI c0)), (2, .int (iI st))] []
  have bng := bz_01 ng
  have bm := bz_01 (ng && decide (0 < Q))
  have b4 := bz_01 (decide (4 ≤ st))
  have htd := tdig_le c0
  have ht72 := tnds_mono hW
  have ht0 := tnds_sh0 (Q := Q) (k := 20 - tdig c0)
  have b4i : bz (decide (4 ≤ st)) = 0 ↔ ¬ 4 ≤ st := ⟨bzd_z, fun e => by rw [decide_eq_false e]; rfl⟩
  have hcl := clL_le st (ng && decide (0 < Q))
  have m39 : TGo X [(h, .inr (3, [.int (iI ((P : Nat) : Int)), .int (iI ((Sc : Nat) : Int)), .int (iI m), .ref qam, .ref qrat, .ref qrm, .ref hw, .ref hsh, .ref ht])), (hw, .inr (2, [.ref qrow, .ref qfac, .int (iI (bz ng)), .int (iI (bz go))])), (qrow, .inl (cI, 72, .inl (dg (Q * 10 ^ (20 - tdig c0))))), (ht, .inr (1, [.ref ql, .int (iI ((sz : Nat) : Int)), .int (iI ((ta : Nat) : Int)), .int (iI tc)])), (ql, .inl (cI, 48, .inl (fun j => iI (tx j))))] 0 0 39 [(0, .ref h), (1, .int (iI c0)), (2, .int (iI st)), (3, .int (iI (bz (ng && decide (0 < Q))))), (4, .int (iI (bz (decide (4 ≤ st)))))] [] := by
    refine go_iload_n O dX3_writeNumber_39 rfl 3 rfl 40 rfl ?_
    refine go_if_eq O dX3_writeNumber_40 62 (by decide) 43 rfl (by omega) (fun h40 => ?_) (fun h40 => ?_)
    · refine go_aload_n O dX3_writeNumber_62 rfl 0 rfl 63 rfl ?_
      refine go_stat O (hT _ _ O.2.2.2.2.2.2.2.2.2).1 flX3_188 dX3_writeNumber_63 66 rfl (fun t1 ht1 => ?_)
      refine go_iload_n O dX3_writeNumber_66 rfl 1 rfl 67 rfl ?_
      refine go_tald O ht1 c0.toNat (by omega) (by omega) (by omega) ((tdig c0 : Nat) : Int) (by rw [show ((c0.toNat : Nat) : Int) = c0 by omega]) dX3_writeNumber_67 68 rfl ?_
      refine go_iload_n O dX3_writeNumber_68 rfl 2 rfl 69 rfl ?_
      refine go_iconst O dX3_writeNumber_69 70 rfl ?_
      refine go_iand O dX3_writeNumber_70 (if st % 2 = 1 then 1 else 0) (and1 hst) 71 rfl ?_
      refine go_if_eq O dX3_writeNumber_71 78 (by decide) 74 rfl (by split <;> omega) (fun h71 => ?_) (fun h71 => ?_)
      · refine go_iconst O dX3_writeNumber_78 79 rfl ?_
        refine TGo.topi (y := bz (decide (st % 2 = 1))) (by rw [decide_eq_false (by split at h71 <;> omega)]; rfl) ?_
        have hb0 := hb
        rw [numL_0 (fun e => by rw [e] at h40; cases h40)] at hb0
        simp only [List.length_cons, List.length_append] at hb0
        refine go_callvV (As := [.int (iI ((tdig c0 : Nat) : Int)), .int (iI (bz (decide (st % 2 = 1))))]) (rest := []) (wr := []) O hK hE (c_X3_writeBody E hE h qam qrat qrm hw hsh qrow qfac cM ht ql cI tx htx sz ta tc P Sc m ng go Q (tdig c0) (decide (st % 2 = 1)) htd hQ hW (by omega)) mlX3_206 imX3_writeBody seX3_writeBody inX3 cdX3_writeBody 2 (by decide +kernel) ⟨Nat.le_of_ble_eq_true rfl, Nat.le_of_ble_eq_true rfl⟩ 0 rfl rfl [0] rfl [0, 1, 2, 3, 4] rfl (by decide) [] rfl (by decide) (by decide) rfl rfl (Nat.le_of_ble_eq_true rfl) ⟨Nat.zero_le _, Nat.zero_le _⟩ dX3_writeNumber_79 82 rfl (fun u hu => ?_)
        obtain ⟨t3, s3⟩ := u
        have h3r := tapp_r (fb Q (tdig c0) (decide (st % 2 = 1)) (nwd Q (tdig c0))) (tx, sz) htx (fb_r _)
        rw [← hu] at h3r
        have h3s := tapp_sz (fb Q (tdig c0) (decide (st % 2 = 1)) (nwd Q (tdig c0))) (tx, sz)
        rw [← hu] at h3s
        have h3s2 : s3 = sz + (fb Q (tdig c0) (decide (st % 2 = 1)) (nwd Q (tdig c0))).length := h3s
        have hnu := hu
        show TGo X [(h, .inr (3, [.int (iI ((P : Nat) : Int)), .int (iI ((Sc : Nat) : Int)), .int (iI m), .ref qam, .ref qrat, .ref qrm, .ref hw, .ref hsh, .ref ht])), (hw, .inr (2, [.ref qrow, .ref qfac, .int (iI (bz ng)), .int (iI (bz go))])), (qrow, .inl (cI, 72, .inl (dg (Q * 10 ^ (20 - tdig c0))))), (ht, .inr (1, [.ref ql, .int (iI ((s3 : Nat) : Int)), .int (iI ((ta : Nat) : Int)), .int (iI tc)])), (ql, .inl (cI, 48, .inl (fun j => iI (t3 j))))] 0 0 82 [(0, .ref h), (1, .int (iI c0)), (2, .int (iI st)), (3, .int (iI (bz (ng && decide (0 < Q))))), (4, .int (iI (bz (decide (4 ≤ st)))))] []
        refine go_iload_n O dX3_writeNumber_82 rfl 3 rfl 83 rfl ?_
        refine go_if_eq O dX3_writeNumber_83 100 (by decide) 86 rfl (by omega) (fun h83 => ?_) (fun h83 => by omega)
        exact hret _ _ (t3, s3) dX3_writeNumber_100 (by rw [numL_0 (fun e => by rw [e] at h40; cases h40), tapp_app, ← hnu, clL_0 (fun e => by rw [e.1] at h83; cases h83)]; rfl)
      · refine go_iconst O dX3_writeNumber_74 75 rfl ?_
        refine go_goto O dX3_writeNumber_75 79 (by decide) ?_
        refine TGo.topi (y := bz (decide (st % 2 = 1))) (by rw [decide_eq_true (by split at h71 <;> omega)]; rfl) ?_
        have hb0 := hb
        rw [numL_0 (fun e => by rw [e] at h40; cases h40)] at hb0
        simp only [List.length_cons, List.length_append] at hb0
        refine go_callvV (As := [.int (iI ((tdig c0 : Nat) : Int)), .int (iI (bz (decide (st % 2 = 1))))]) (rest := []) (wr := []) O hK hE (c_X3_writeBody E hE h qam qrat qrm hw hsh qrow qfac cM ht ql cI tx htx sz ta tc P Sc m ng go Q (tdig c0) (decide (st % 2 = 1)) htd hQ hW (by omega)) mlX3_206 imX3_writeBody seX3_writeBody inX3 cdX3_writeBody 2 (by decide +kernel) ⟨Nat.le_of_ble_eq_true rfl, Nat.le_of_ble_eq_true rfl⟩ 0 rfl rfl [0] rfl [0, 1, 2, 3, 4] rfl (by decide) [] rfl (by decide) (by decide) rfl rfl (Nat.le_of_ble_eq_true rfl) ⟨Nat.zero_le _, Nat.zero_le _⟩ dX3_writeNumber_79 82 rfl (fun u hu => ?_)
        obtain ⟨t3, s3⟩ := u
        have h3r := tapp_r (fb Q (tdig c0) (decide (st % 2 = 1)) (nwd Q (tdig c0))) (tx, sz) htx (fb_r _)
        rw [← hu] at h3r
        have h3s := tapp_sz (fb Q (tdig c0) (decide (st % 2 = 1)) (nwd Q (tdig c0))) (tx, sz)
        rw [← hu] at h3s
        have h3s2 : s3 = sz + (fb Q (tdig c0) (decide (st % 2 = 1)) (nwd Q (tdig c0))).length := h3s
        have hnu := hu
        show TGo X [(h, .inr (3, [.int (iI ((P : Nat) : Int)), .int (iI ((Sc : Nat) : Int)), .int (iI m), .ref qam, .ref qrat, .ref qrm, .ref hw, .ref hsh, .ref ht])), (hw, .inr (2, [.ref qrow, .ref qfac, .int (iI (bz ng)), .int (iI (bz go))])), (qrow, .inl (cI, 72, .inl (dg (Q * 10 ^ (20 - tdig c0))))), (ht, .inr (1, [.ref ql, .int (iI ((s3 : Nat) : Int)), .int (iI ((ta : Nat) : Int)), .int (iI tc)])), (ql, .inl (cI, 48, .inl (fun j => iI (t3 j))))] 0 0 82 [(0, .ref h), (1, .int (iI c0)), (2, .int (iI st)), (3, .int (iI (bz (ng && decide (0 < Q))))), (4, .int (iI (bz (decide (4 ≤ st)))))] []
        refine go_iload_n O dX3_writeNumber_82 rfl 3 rfl 83 rfl ?_
        refine go_if_eq O dX3_writeNumber_83 100 (by decide) 86 rfl (by omega) (fun h83 => ?_) (fun h83 => by omega)
        exact hret _ _ (t3, s3) dX3_writeNumber_100 (by rw [numL_0 (fun e => by rw [e] at h40; cases h40), tapp_app, ← hnu, clL_0 (fun e => by rw [e.1] at h83; cases h83)]; rfl)
    · refine go_aload_n O dX3_writeNumber_43 rfl 0 rfl 44 rfl ?_
      refine go_get O hK dX3_writeNumber_44 hinX3 0 rfl rfl 8 (by decide) flX3_56 rfl 47 rfl ?_
      refine go_iload O dX3_writeNumber_47 4 rfl 49 rfl ?_
      refine go_if_eq O dX3_writeNumber_49 57 (by decide) 52 rfl (by omega) (fun h49 => ?_) (fun h49 => ?_)
      · refine go_bipush O dX3_writeNumber_57 (by decide) 59 rfl ?_
        refine go_callvV (As := [.int (iI 45)]) (rest := []) (wr := [(h, .inr (3, [.int (iI ((P : Nat) : Int)), .int (iI ((Sc : Nat) : Int)), .int (iI m), .ref qam, .ref qrat, .ref qrm, .ref hw, .ref hsh, .ref ht])), (hw, .inr (2, [.ref qrow, .ref qfac, .int (iI (bz ng)), .int (iI (bz go))])), (qrow, .inl (cI, 72, .inl (dg (Q * 10 ^ (20 - tdig c0)))))]) O hK hE (c_X1_append E hE ht ql cI tx htx sz ta tc 45 (by rw [numL_5 (bz_ne h40) (by omega)] at hb; simp only [List.length_cons] at hb; omega)) mlX3_168 imX1_append seX1_append inX1 cdX1_append 1 (by decide +kernel) ⟨Nat.le_of_ble_eq_true rfl, Nat.le_of_ble_eq_true rfl⟩ 3 rfl rfl [0] rfl [3, 4] rfl (by decide) [0, 1, 2] rfl (by decide) (by decide) rfl rfl (Nat.le_of_ble_eq_true rfl) ⟨Nat.zero_le _, Nat.zero_le _⟩ dX3_writeNumber_59 62 rfl (fun u hu => ?_)
        show TGo X [(h, .inr (3, [.int (iI ((P : Nat) : Int)), .int (iI ((Sc : Nat) : Int)), .int (iI m), .ref qam, .ref qrat, .ref qrm, .ref hw, .ref hsh, .ref ht])), (hw, .inr (2, [.ref qrow, .ref qfac, .int (iI (bz ng)), .int (iI (bz go))])), (qrow, .inl (cI, 72, .inl (dg (Q * 10 ^ (20 - tdig c0))))), (ht, .inr (1, [.ref ql, .int (iI ((sz + 1 : Nat) : Int)), .int (iI ((ta : Nat) : Int)), .int (iI tc)])), (ql, .inl (cI, 48, .inl (fun j => iI (txs tx sz 45 j))))] 0 0 62 [(0, .ref h), (1, .int (iI c0)), (2, .int (iI st)), (3, .int (iI (bz (ng && decide (0 < Q))))), (4, .int (iI (bz (decide (4 ≤ st)))))] []
        refine go_aload_n O dX3_writeNumber_62 rfl 0 rfl 63 rfl ?_
        refine go_stat O (hT _ _ O.2.2.2.2.2.2.2.2.2).1 flX3_188 dX3_writeNumber_63 66 rfl (fun t1 ht1 => ?_)
        refine go_iload_n O dX3_writeNumber_66 rfl 1 rfl 67 rfl ?_
        refine go_tald O ht1 c0.toNat (by omega) (by omega) (by omega) ((tdig c0 : Nat) : Int) (by rw [show ((c0.toNat : Nat) : Int) = c0 by omega]) dX3_writeNumber_67 68 rfl ?_
        refine go_iload_n O dX3_writeNumber_68 rfl 2 rfl 69 rfl ?_
        refine go_iconst O dX3_writeNumber_69 70 rfl ?_
        refine go_iand O dX3_writeNumber_70 (if st % 2 = 1 then 1 else 0) (and1 hst) 71 rfl ?_
        refine go_if_eq O dX3_writeNumber_71 78 (by decide) 74 rfl (by split <;> omega) (fun h71 => ?_) (fun h71 => ?_)
        · refine go_iconst O dX3_writeNumber_78 79 rfl ?_
          refine TGo.topi (y := bz (decide (st % 2 = 1))) (by rw [decide_eq_false (by split at h71 <;> omega)]; rfl) ?_
          have hb0 := hb
          rw [numL_5 (bz_ne h40) (by omega)] at hb0
          simp only [List.length_cons, List.length_append] at hb0
          refine go_callvV (As := [.int (iI ((tdig c0 : Nat) : Int)), .int (iI (bz (decide (st % 2 = 1))))]) (rest := []) (wr := []) O hK hE (c_X3_writeBody E hE h qam qrat qrm hw hsh qrow qfac cM ht ql cI (txs tx sz 45) (txs_r htx (by omega)) (sz + 1) ta tc P Sc m ng go Q (tdig c0) (decide (st % 2 = 1)) htd hQ hW (by omega)) mlX3_206 imX3_writeBody seX3_writeBody inX3 cdX3_writeBody 2 (by decide +kernel) ⟨Nat.le_of_ble_eq_true rfl, Nat.le_of_ble_eq_true rfl⟩ 0 rfl rfl [0] rfl [0, 1, 2, 3, 4] rfl (by decide) [] rfl (by decide) (by decide) rfl rfl (Nat.le_of_ble_eq_true rfl) ⟨Nat.zero_le _, Nat.zero_le _⟩ dX3_writeNumber_79 82 rfl (fun u hu => ?_)
          obtain ⟨t3, s3⟩ := u
          have h3r := tapp_r (fb Q (tdig c0) (decide (st % 2 = 1)) (nwd Q (tdig c0))) (txs tx sz 45, sz + 1) (txs_r htx (by omega)) (fb_r _)
          rw [← hu] at h3r
          have h3s := tapp_sz (fb Q (tdig c0) (decide (st % 2 = 1)) (nwd Q (tdig c0))) (txs tx sz 45, sz + 1)
          rw [← hu] at h3s
          have h3s2 : s3 = sz + 1 + (fb Q (tdig c0) (decide (st % 2 = 1)) (nwd Q (tdig c0))).length := h3s
          have hnu := hu
          show TGo X [(h, .inr (3, [.int (iI ((P : Nat) : Int)), .int (iI ((Sc : Nat) : Int)), .int (iI m), .ref qam, .ref qrat, .ref qrm, .ref hw, .ref hsh, .ref ht])), (hw, .inr (2, [.ref qrow, .ref qfac, .int (iI (bz ng)), .int (iI (bz go))])), (qrow, .inl (cI, 72, .inl (dg (Q * 10 ^ (20 - tdig c0))))), (ht, .inr (1, [.ref ql, .int (iI ((s3 : Nat) : Int)), .int (iI ((ta : Nat) : Int)), .int (iI tc)])), (ql, .inl (cI, 48, .inl (fun j => iI (t3 j))))] 0 0 82 [(0, .ref h), (1, .int (iI c0)), (2, .int (iI st)), (3, .int (iI (bz (ng && decide (0 < Q))))), (4, .int (iI (bz (decide (4 ≤ st)))))] []
          refine go_iload_n O dX3_writeNumber_82 rfl 3 rfl 83 rfl ?_
          refine go_if_eq O dX3_writeNumber_83 100 (by decide) 86 rfl (by omega) (fun h83 => by omega) (fun h83 => ?_)
          refine go_iload O dX3_writeNumber_86 4 rfl 88 rfl ?_
          refine go_if_eq O dX3_writeNumber_88 100 (by decide) 91 rfl (by omega) (fun h88 => ?_) (fun h88 => by omega)
          exact hret _ _ (t3, s3) dX3_writeNumber_100 (by rw [numL_5 (bz_ne h40) (by omega)]; show _ = tapp _ (_ ++ _); rw [tapp_app]; show _ = tapp (tapp (_, _) _) _; rw [← hnu, clL_0 (fun e => by omega)]; rfl)
        · refine go_iconst O dX3_writeNumber_74 75 rfl ?_
          refine go_goto O dX3_writeNumber_75 79 (by decide) ?_
          refine TGo.topi (y := bz (decide (st % 2 = 1))) (by rw [decide_eq_true (by split at h71 <;> omega)]; rfl) ?_
          have hb0 := hb
          rw [numL_5 (bz_ne h40) (by omega)] at hb0
          simp only [List.length_cons, List.length_append] at hb0
          refine go_callvV (As := [.int (iI ((tdig c0 : Nat) : Int)), .int (iI (bz (decide (st % 2 = 1))))]) (rest := []) (wr := []) O hK hE (c_X3_writeBody E hE h qam qrat qrm hw hsh qrow qfac cM ht ql cI (txs tx sz 45) (txs_r htx (by omega)) (sz + 1) ta tc P Sc m ng go Q (tdig c0) (decide (st % 2 = 1)) htd hQ hW (by omega)) mlX3_206 imX3_writeBody seX3_writeBody inX3 cdX3_writeBody 2 (by decide +kernel) ⟨Nat.le_of_ble_eq_true rfl, Nat.le_of_ble_eq_true rfl⟩ 0 rfl rfl [0] rfl [0, 1, 2, 3, 4] rfl (by decide) [] rfl (by decide) (by decide) rfl rfl (Nat.le_of_ble_eq_true rfl) ⟨Nat.zero_le _, Nat.zero_le _⟩ dX3_writeNumber_79 82 rfl (fun u hu => ?_)
          obtain ⟨t3, s3⟩ := u
          have h3r := tapp_r (fb Q (tdig c0) (decide (st % 2 = 1)) (nwd Q (tdig c0))) (txs tx sz 45, sz + 1) (txs_r htx (by omega)) (fb_r _)
          rw [← hu] at h3r
          have h3s := tapp_sz (fb Q (tdig c0) (decide (st % 2 = 1)) (nwd Q (tdig c0))) (txs tx sz 45, sz + 1)
          rw [← hu] at h3s
          have h3s2 : s3 = sz + 1 + (fb Q (tdig c0) (decide (st % 2 = 1)) (nwd Q (tdig c0))).length := h3s
          have hnu := hu
          show TGo X [(h, .inr (3, [.int (iI ((P : Nat) : Int)), .int (iI ((Sc : Nat) : Int)), .int (iI m), .ref qam, .ref qrat, .ref qrm, .ref hw, .ref hsh, .ref ht])), (hw, .inr (2, [.ref qrow, .ref qfac, .int (iI (bz ng)), .int (iI (bz go))])), (qrow, .inl (cI, 72, .inl (dg (Q * 10 ^ (20 - tdig c0))))), (ht, .inr (1, [.ref ql, .int (iI ((s3 : Nat) : Int)), .int (iI ((ta : Nat) : Int)), .int (iI tc)])), (ql, .inl (cI, 48, .inl (fun j => iI (t3 j))))] 0 0 82 [(0, .ref h), (1, .int (iI c0)), (2, .int (iI st)), (3, .int (iI (bz (ng && decide (0 < Q))))), (4, .int (iI (bz (decide (4 ≤ st)))))] []
          refine go_iload_n O dX3_writeNumber_82 rfl 3 rfl 83 rfl ?_
          refine go_if_eq O dX3_writeNumber_83 100 (by decide) 86 rfl (by omega) (fun h83 => by omega) (fun h83 => ?_)
          refine go_iload O dX3_writeNumber_86 4 rfl 88 rfl ?_
          refine go_if_eq O dX3_writeNumber_88 100 (by decide) 91 rfl (by omega) (fun h88 => ?_) (fun h88 => by omega)
          exact hret _ _ (t3, s3) dX3_writeNumber_100 (by rw [numL_5 (bz_ne h40) (by omega)]; show _ = tapp _ (_ ++ _); rw [tapp_app]; show _ = tapp (tapp (_, _) _) _; rw [← hnu, clL_0 (fun e => by omega)]; rfl)
      · refine go_bipush O dX3_writeNumber_52 (by decide) 54 rfl ?_
        refine go_goto O dX3_writeNumber_54 59 (by decide) ?_
        refine go_callvV (As := [.int (iI 40)]) (rest := []) (wr := [(h, .inr (3, [.int (iI ((P : Nat) : Int)), .int (iI ((Sc : Nat) : Int)), .int (iI m), .ref qam, .ref qrat, .ref qrm, .ref hw, .ref hsh, .ref ht])), (hw, .inr (2, [.ref qrow, .ref qfac, .int (iI (bz ng)), .int (iI (bz go))])), (qrow, .inl (cI, 72, .inl (dg (Q * 10 ^ (20 - tdig c0)))))]) O hK hE (c_X1_append E hE ht ql cI tx htx sz ta tc 40 (by rw [numL_4 (bz_ne h40) (by omega)] at hb; simp only [List.length_cons] at hb; omega)) mlX3_168 imX1_append seX1_append inX1 cdX1_append 1 (by decide +kernel) ⟨Nat.le_of_ble_eq_true rfl, Nat.le_of_ble_eq_true rfl⟩ 3 rfl rfl [0] rfl [3, 4] rfl (by decide) [0, 1, 2] rfl (by decide) (by decide) rfl rfl (Nat.le_of_ble_eq_true rfl) ⟨Nat.zero_le _, Nat.zero_le _⟩ dX3_writeNumber_59 62 rfl (fun u hu => ?_)
        show TGo X [(h, .inr (3, [.int (iI ((P : Nat) : Int)), .int (iI ((Sc : Nat) : Int)), .int (iI m), .ref qam, .ref qrat, .ref qrm, .ref hw, .ref hsh, .ref ht])), (hw, .inr (2, [.ref qrow, .ref qfac, .int (iI (bz ng)), .int (iI (bz go))])), (qrow, .inl (cI, 72, .inl (dg (Q * 10 ^ (20 - tdig c0))))), (ht, .inr (1, [.ref ql, .int (iI ((sz + 1 : Nat) : Int)), .int (iI ((ta : Nat) : Int)), .int (iI tc)])), (ql, .inl (cI, 48, .inl (fun j => iI (txs tx sz 40 j))))] 0 0 62 [(0, .ref h), (1, .int (iI c0)), (2, .int (iI st)), (3, .int (iI (bz (ng && decide (0 < Q))))), (4, .int (iI (bz (decide (4 ≤ st)))))] []
        refine go_aload_n O dX3_writeNumber_62 rfl 0 rfl 63 rfl ?_
        refine go_stat O (hT _ _ O.2.2.2.2.2.2.2.2.2).1 flX3_188 dX3_writeNumber_63 66 rfl (fun t1 ht1 => ?_)
        refine go_iload_n O dX3_writeNumber_66 rfl 1 rfl 67 rfl ?_
        refine go_tald O ht1 c0.toNat (by omega) (by omega) (by omega) ((tdig c0 : Nat) : Int) (by rw [show ((c0.toNat : Nat) : Int) = c0 by omega]) dX3_writeNumber_67 68 rfl ?_
        refine go_iload_n O dX3_writeNumber_68 rfl 2 rfl 69 rfl ?_
        refine go_iconst O dX3_writeNumber_69 70 rfl ?_
        refine go_iand O dX3_writeNumber_70 (if st % 2 = 1 then 1 else 0) (and1 hst) 71 rfl ?_
        refine go_if_eq O dX3_writeNumber_71 78 (by decide) 74 rfl (by split <;> omega) (fun h71 => ?_) (fun h71 => ?_)
        · refine go_iconst O dX3_writeNumber_78 79 rfl ?_
          refine TGo.topi (y := bz (decide (st % 2 = 1))) (by rw [decide_eq_false (by split at h71 <;> omega)]; rfl) ?_
          have hb0 := hb
          rw [numL_4 (bz_ne h40) (by omega)] at hb0
          simp only [List.length_cons, List.length_append] at hb0
          refine go_callvV (As := [.int (iI ((tdig c0 : Nat) : Int)), .int (iI (bz (decide (st % 2 = 1))))]) (rest := []) (wr := []) O hK hE (c_X3_writeBody E hE h qam qrat qrm hw hsh qrow qfac cM ht ql cI (txs tx sz 40) (txs_r htx (by omega)) (sz + 1) ta tc P Sc m ng go Q (tdig c0) (decide (st % 2 = 1)) htd hQ hW (by omega)) mlX3_206 imX3_writeBody seX3_writeBody inX3 cdX3_writeBody 2 (by decide +kernel) ⟨Nat.le_of_ble_eq_true rfl, Nat.le_of_ble_eq_true rfl⟩ 0 rfl rfl [0] rfl [0, 1, 2, 3, 4] rfl (by decide) [] rfl (by decide) (by decide) rfl rfl (Nat.le_of_ble_eq_true rfl) ⟨Nat.zero_le _, Nat.zero_le _⟩ dX3_writeNumber_79 82 rfl (fun u hu => ?_)
          obtain ⟨t3, s3⟩ := u
          have h3r := tapp_r (fb Q (tdig c0) (decide (st % 2 = 1)) (nwd Q (tdig c0))) (txs tx sz 40, sz + 1) (txs_r htx (by omega)) (fb_r _)
          rw [← hu] at h3r
          have h3s := tapp_sz (fb Q (tdig c0) (decide (st % 2 = 1)) (nwd Q (tdig c0))) (txs tx sz 40, sz + 1)
          rw [← hu] at h3s
          have h3s2 : s3 = sz + 1 + (fb Q (tdig c0) (decide (st % 2 = 1)) (nwd Q (tdig c0))).length := h3s
          have hnu := hu
          show TGo X [(h, .inr (3, [.int (iI ((P : Nat) : Int)), .int (iI ((Sc : Nat) : Int)), .int (iI m), .ref qam, .ref qrat, .ref qrm, .ref hw, .ref hsh, .ref ht])), (hw, .inr (2, [.ref qrow, .ref qfac, .int (iI (bz ng)), .int (iI (bz go))])), (qrow, .inl (cI, 72, .inl (dg (Q * 10 ^ (20 - tdig c0))))), (ht, .inr (1, [.ref ql, .int (iI ((s3 : Nat) : Int)), .int (iI ((ta : Nat) : Int)), .int (iI tc)])), (ql, .inl (cI, 48, .inl (fun j => iI (t3 j))))] 0 0 82 [(0, .ref h), (1, .int (iI c0)), (2, .int (iI st)), (3, .int (iI (bz (ng && decide (0 < Q))))), (4, .int (iI (bz (decide (4 ≤ st)))))] []
          refine go_iload_n O dX3_writeNumber_82 rfl 3 rfl 83 rfl ?_
          refine go_if_eq O dX3_writeNumber_83 100 (by decide) 86 rfl (by omega) (fun h83 => by omega) (fun h83 => ?_)
          refine go_iload O dX3_writeNumber_86 4 rfl 88 rfl ?_
          refine go_if_eq O dX3_writeNumber_88 100 (by decide) 91 rfl (by omega) (fun h88 => by omega) (fun h88 => ?_)
          rw [clL_1 ⟨bz_ne h83, by omega⟩] at hb0
          simp only [List.length_cons, List.length_nil] at hb0
          refine go_aload_n O dX3_writeNumber_91 rfl 0 rfl 92 rfl ?_
          refine go_get O hK dX3_writeNumber_92 hinX3 0 rfl rfl 8 (by decide) flX3_56 rfl 95 rfl ?_
          refine go_bipush O dX3_writeNumber_95 (by decide) 97 rfl ?_
          refine go_callvV (As := [.int (iI 41)]) (rest := []) (wr := [(h, .inr (3, [.int (iI ((P : Nat) : Int)), .int (iI ((Sc : Nat) : Int)), .int (iI m), .ref qam, .ref qrat, .ref qrm, .ref hw, .ref hsh, .ref ht])), (hw, .inr (2, [.ref qrow, .ref qfac, .int (iI (bz ng)), .int (iI (bz go))])), (qrow, .inl (cI, 72, .inl (dg (Q * 10 ^ (20 - tdig c0)))))]) O hK hE (c_X1_append E hE ht ql cI t3 h3r s3 ta tc 41 (by omega)) mlX3_168 imX1_append seX1_append inX1 cdX1_append 1 (by decide +kernel) ⟨Nat.le_of_ble_eq_true rfl, Nat.le_of_ble_eq_true rfl⟩ 3 rfl rfl [0] rfl [3, 4] rfl (by decide) [0, 1, 2] rfl (by decide) (by decide) rfl rfl (Nat.le_of_ble_eq_true rfl) ⟨Nat.zero_le _, Nat.zero_le _⟩ dX3_writeNumber_97 100 rfl (fun u hu => ?_)
          show TGo X [(h, .inr (3, [.int (iI ((P : Nat) : Int)), .int (iI ((Sc : Nat) : Int)), .int (iI m), .ref qam, .ref qrat, .ref qrm, .ref hw, .ref hsh, .ref ht])), (hw, .inr (2, [.ref qrow, .ref qfac, .int (iI (bz ng)), .int (iI (bz go))])), (qrow, .inl (cI, 72, .inl (dg (Q * 10 ^ (20 - tdig c0))))), (ht, .inr (1, [.ref ql, .int (iI ((s3 + 1 : Nat) : Int)), .int (iI ((ta : Nat) : Int)), .int (iI tc)])), (ql, .inl (cI, 48, .inl (fun j => iI (txs t3 s3 41 j))))] 0 0 100 [(0, .ref h), (1, .int (iI c0)), (2, .int (iI st)), (3, .int (iI (bz (ng && decide (0 < Q))))), (4, .int (iI (bz (decide (4 ≤ st)))))] []
          exact hret _ _ (txs t3 s3 41, s3 + 1) dX3_writeNumber_100 (by rw [numL_4 (bz_ne h40) (by omega)]; show _ = tapp _ (_ ++ _); rw [tapp_app]; show _ = tapp (tapp (_, _) _) _; rw [← hnu, clL_1 ⟨bz_ne h83, by omega⟩]; rfl)
        · refine go_iconst O dX3_writeNumber_74 75 rfl ?_
          refine go_goto O dX3_writeNumber_75 79 (by decide) ?_
          refine TGo.topi (y := bz (decide (st % 2 = 1))) (by rw [decide_eq_true (by split at h71 <;> omega)]; rfl) ?_
          have hb0 := hb
          rw [numL_4 (bz_ne h40) (by omega)] at hb0
          simp only [List.length_cons, List.length_append] at hb0
          refine go_callvV (As := [.int (iI ((tdig c0 : Nat) : Int)), .int (iI (bz (decide (st % 2 = 1))))]) (rest := []) (wr := []) O hK hE (c_X3_writeBody E hE h qam qrat qrm hw hsh qrow qfac cM ht ql cI (txs tx sz 40) (txs_r htx (by omega)) (sz + 1) ta tc P Sc m ng go Q (tdig c0) (decide (st % 2 = 1)) htd hQ hW (by omega)) mlX3_206 imX3_writeBody seX3_writeBody inX3 cdX3_writeBody 2 (by decide +kernel) ⟨Nat.le_of_ble_eq_true rfl, Nat.le_of_ble_eq_true rfl⟩ 0 rfl rfl [0] rfl [0, 1, 2, 3, 4] rfl (by decide) [] rfl (by decide) (by decide) rfl rfl (Nat.le_of_ble_eq_true rfl) ⟨Nat.zero_le _, Nat.zero_le _⟩ dX3_writeNumber_79 82 rfl (fun u hu => ?_)
          obtain ⟨t3, s3⟩ := u
          have h3r := tapp_r (fb Q (tdig c0) (decide (st % 2 = 1)) (nwd Q (tdig c0))) (txs tx sz 40, sz + 1) (txs_r htx (by omega)) (fb_r _)
          rw [← hu] at h3r
          have h3s := tapp_sz (fb Q (tdig c0) (decide (st % 2 = 1)) (nwd Q (tdig c0))) (txs tx sz 40, sz + 1)
          rw [← hu] at h3s
          have h3s2 : s3 = sz + 1 + (fb Q (tdig c0) (decide (st % 2 = 1)) (nwd Q (tdig c0))).length := h3s
          have hnu := hu
          show TGo X [(h, .inr (3, [.int (iI ((P : Nat) : Int)), .int (iI ((Sc : Nat) : Int)), .int (iI m), .ref qam, .ref qrat, .ref qrm, .ref hw, .ref hsh, .ref ht])), (hw, .inr (2, [.ref qrow, .ref qfac, .int (iI (bz ng)), .int (iI (bz go))])), (qrow, .inl (cI, 72, .inl (dg (Q * 10 ^ (20 - tdig c0))))), (ht, .inr (1, [.ref ql, .int (iI ((s3 : Nat) : Int)), .int (iI ((ta : Nat) : Int)), .int (iI tc)])), (ql, .inl (cI, 48, .inl (fun j => iI (t3 j))))] 0 0 82 [(0, .ref h), (1, .int (iI c0)), (2, .int (iI st)), (3, .int (iI (bz (ng && decide (0 < Q))))), (4, .int (iI (bz (decide (4 ≤ st)))))] []
          refine go_iload_n O dX3_writeNumber_82 rfl 3 rfl 83 rfl ?_
          refine go_if_eq O dX3_writeNumber_83 100 (by decide) 86 rfl (by omega) (fun h83 => by omega) (fun h83 => ?_)
          refine go_iload O dX3_writeNumber_86 4 rfl 88 rfl ?_
          refine go_if_eq O dX3_writeNumber_88 100 (by decide) 91 rfl (by omega) (fun h88 => by omega) (fun h88 => ?_)
          rw [clL_1 ⟨bz_ne h83, by omega⟩] at hb0
          simp only [List.length_cons, List.length_nil] at hb0
          refine go_aload_n O dX3_writeNumber_91 rfl 0 rfl 92 rfl ?_
          refine go_get O hK dX3_writeNumber_92 hinX3 0 rfl rfl 8 (by decide) flX3_56 rfl 95 rfl ?_
          refine go_bipush O dX3_writeNumber_95 (by decide) 97 rfl ?_
          refine go_callvV (As := [.int (iI 41)]) (rest := []) (wr := [(h, .inr (3, [.int (iI ((P : Nat) : Int)), .int (iI ((Sc : Nat) : Int)), .int (iI m), .ref qam, .ref qrat, .ref qrm, .ref hw, .ref hsh, .ref ht])), (hw, .inr (2, [.ref qrow, .ref qfac, .int (iI (bz ng)), .int (iI (bz go))])), (qrow, .inl (cI, 72, .inl (dg (Q * 10 ^ (20 - tdig c0)))))]) O hK hE (c_X1_append E hE ht ql cI t3 h3r s3 ta tc 41 (by omega)) mlX3_168 imX1_append seX1_append inX1 cdX1_append 1 (by decide +kernel) ⟨Nat.le_of_ble_eq_true rfl, Nat.le_of_ble_eq_true rfl⟩ 3 rfl rfl [0] rfl [3, 4] rfl (by decide) [0, 1, 2] rfl (by decide) (by decide) rfl rfl (Nat.le_of_ble_eq_true rfl) ⟨Nat.zero_le _, Nat.zero_le _⟩ dX3_writeNumber_97 100 rfl (fun u hu => ?_)
          show TGo X [(h, .inr (3, [.int (iI ((P : Nat) : Int)), .int (iI ((Sc : Nat) : Int)), .int (iI m), .ref qam, .ref qrat, .ref qrm, .ref hw, .ref hsh, .ref ht])), (hw, .inr (2, [.ref qrow, .ref qfac, .int (iI (bz ng)), .int (iI (bz go))])), (qrow, .inl (cI, 72, .inl (dg (Q * 10 ^ (20 - tdig c0))))), (ht, .inr (1, [.ref ql, .int (iI ((s3 + 1 : Nat) : Int)), .int (iI ((ta : Nat) : Int)), .int (iI tc)])), (ql, .inl (cI, 48, .inl (fun j => iI (txs t3 s3 41 j))))] 0 0 100 [(0, .ref h), (1, .int (iI c0)), (2, .int (iI st)), (3, .int (iI (bz (ng && decide (0 < Q))))), (4, .int (iI (bz (decide (4 ≤ st)))))] []
          exact hret _ _ (txs t3 s3 41, s3 + 1) dX3_writeNumber_100 (by rw [numL_4 (bz_ne h40) (by omega)]; show _ = tapp _ (_ ++ _); rw [tapp_app]; show _ = tapp (tapp (_, _) _) _; rw [← hnu, clL_1 ⟨bz_ne h83, by omega⟩]; rfl)
  refine go_aload_n O dX3_writeNumber_0 rfl 0 rfl 1 rfl ?_
  refine go_get O hK dX3_writeNumber_1 hinX3 0 rfl rfl 6 (by decide) flX3_46 rfl 4 rfl ?_
  refine go_get O hK dX3_writeNumber_4 hinX2 1 rfl rfl 2 (by decide) flX3_205 rfl 7 rfl ?_
  refine go_if_eq O dX3_writeNumber_7 24 (by decide) 10 rfl (by omega) (fun h7 => ?_) (fun h7 => ?_)
  · refine go_iconst O dX3_writeNumber_24 25 rfl ?_
    refine TGo.topi (y := bz (ng && decide (0 < Q))) (band_0 (by omega)) ?_
    refine go_istore_n O dX3_writeNumber_25 rfl (by decide) [(3, .int (iI (bz (ng && decide (0 < Q))))), (0, .ref h), (1, .int (iI c0)), (2, .int (iI st))] rfl 26 rfl ?_
    refine go_iload_n O dX3_writeNumber_26 rfl 3 rfl 27 rfl ?_
    refine go_iconst O dX3_writeNumber_27 28 rfl ?_
    refine go_iand O dX3_writeNumber_28 (if 4 ≤ st then 4 else 0) (and4 hst) 29 rfl ?_
    refine go_if_eq O dX3_writeNumber_29 36 (by decide) 32 rfl (by split <;> omega) (fun h29 => ?_) (fun h29 => ?_)
    · refine go_iconst O dX3_writeNumber_36 37 rfl ?_
      refine TGo.topi (y := bz (decide (4 ≤ st))) (by rw [decide_eq_false (by split at h29 <;> omega)]; rfl) ?_
      refine go_istore O dX3_writeNumber_37 (by decide) [(4, .int (iI (bz (decide (4 ≤ st))))), (3, .int (iI (bz (ng && decide (0 < Q))))), (0, .ref h), (1, .int (iI c0)), (2, .int (iI st))] rfl 39 rfl ?_
      refine TGo.lsub (lv' := [(0, .ref h), (1, .int (iI c0)), (2, .int (iI st)), (3, .int (iI (bz (ng && decide (0 < Q))))), (4, .int (iI (bz (decide (4 ≤ st)))))]) [2, 3, 4, 1, 0] rfl ?_
      exact m39
    · refine go_iconst O dX3_writeNumber_32 33 rfl ?_
      refine go_goto O dX3_writeNumber_33 37 (by decide) ?_
      refine TGo.topi (y := bz (decide (4 ≤ st))) (by rw [decide_eq_true (by split at h29 <;> omega)]; rfl) ?_
      refine go_istore O dX3_writeNumber_37 (by decide) [(4, .int (iI (bz (decide (4 ≤ st))))), (3, .int (iI (bz (ng && decide (0 < Q))))), (0, .ref h), (1, .int (iI c0)), (2, .int (iI st))] rfl 39 rfl ?_
      refine TGo.lsub (lv' := [(0, .ref h), (1, .int (iI c0)), (2, .int (iI st)), (3, .int (iI (bz (ng && decide (0 < Q))))), (4, .int (iI (bz (decide (4 ≤ st)))))]) [2, 3, 4, 1, 0] rfl ?_
      exact m39
  · refine go_aload_n O dX3_writeNumber_10 rfl 0 rfl 11 rfl ?_
    refine go_get O hK dX3_writeNumber_11 hinX3 0 rfl rfl 6 (by decide) flX3_46 rfl 14 rfl ?_
    refine go_calliV (As := []) (rest := []) (wr := [(h, .inr (3, [.int (iI ((P : Nat) : Int)), .int (iI ((Sc : Nat) : Int)), .int (iI m), .ref qam, .ref qrat, .ref qrm, .ref hw, .ref hsh, .ref ht])), (ht, .inr (1, [.ref ql, .int (iI ((sz : Nat) : Int)), .int (iI ((ta : Nat) : Int)), .int (iI tc)])), (ql, .inl (cI, 48, .inl (fun j => iI (tx j))))]) O hK hE (c_X2_size E hE hw qrow qfac cI ng go (Q * 10 ^ (20 - tdig c0)) hW) mlX3_195 imX2_size seX2_size inX2 cdX2_size 0 (by decide +kernel) ⟨Nat.le_of_ble_eq_true rfl, Nat.le_of_ble_eq_true rfl⟩ 1 rfl rfl [0] rfl [1, 2] rfl (by decide) [0, 3, 4] rfl (by decide) (by decide) rfl rfl (Nat.le_of_ble_eq_true rfl) ⟨Nat.zero_le _, Nat.zero_le _⟩ dX3_writeNumber_14 17 rfl (fun z u hu => ?_)
    subst hu
    show TGo X [(h, .inr (3, [.int (iI ((P : Nat) : Int)), .int (iI ((Sc : Nat) : Int)), .int (iI m), .ref qam, .ref qrat, .ref qrm, .ref hw, .ref hsh, .ref ht])), (ht, .inr (1, [.ref ql, .int (iI ((sz : Nat) : Int)), .int (iI ((ta : Nat) : Int)), .int (iI tc)])), (ql, .inl (cI, 48, .inl (fun j => iI (tx j)))), (hw, .inr (2, [.ref qrow, .ref qfac, .int (iI (bz ng)), .int (iI (bz go))])), (qrow, .inl (cI, 72, .inl (dg (Q * 10 ^ (20 - tdig c0)))))] 0 0 17 [(0, .ref h), (1, .int (iI c0)), (2, .int (iI st))] [.int (iI ((tnds (Q * 10 ^ (20 - tdig c0)) : Nat) : Int))]
    refine TGo.sub (ws' := [(h, .inr (3, [.int (iI ((P : Nat) : Int)), .int (iI ((Sc : Nat) : Int)), .int (iI m), .ref qam, .ref qrat, .ref qrm, .ref hw, .ref hsh, .ref ht])), (hw, .inr (2, [.ref qrow, .ref qfac, .int (iI (bz ng)), .int (iI (bz go))])), (qrow, .inl (cI, 72, .inl (dg (Q * 10 ^ (20 - tdig c0))))), (ht, .inr (1, [.ref ql, .int (iI ((sz : Nat) : Int)), .int (iI ((ta : Nat) : Int)), .int (iI tc)])), (ql, .inl (cI, 48, .inl (fun j => iI (tx j))))]) [0, 3, 4, 1, 2] (by decide) rfl ?_
    refine go_if_le O dX3_writeNumber_17 24 (by decide) 20 rfl (by omega) (fun h17 => ?_) (fun h17 => ?_)
    · refine go_iconst O dX3_writeNumber_24 25 rfl ?_
      refine TGo.topi (y := bz (ng && decide (0 < Q))) (band_0 (by omega)) ?_
      refine go_istore_n O dX3_writeNumber_25 rfl (by decide) [(3, .int (iI (bz (ng && decide (0 < Q))))), (0, .ref h), (1, .int (iI c0)), (2, .int (iI st))] rfl 26 rfl ?_
      refine go_iload_n O dX3_writeNumber_26 rfl 3 rfl 27 rfl ?_
      refine go_iconst O dX3_writeNumber_27 28 rfl ?_
      refine go_iand O dX3_writeNumber_28 (if 4 ≤ st then 4 else 0) (and4 hst) 29 rfl ?_
      refine go_if_eq O dX3_writeNumber_29 36 (by decide) 32 rfl (by split <;> omega) (fun h29 => ?_) (fun h29 => ?_)
      · refine go_iconst O dX3_writeNumber_36 37 rfl ?_
        refine TGo.topi (y := bz (decide (4 ≤ st))) (by rw [decide_eq_false (by split at h29 <;> omega)]; rfl) ?_
        refine go_istore O dX3_writeNumber_37 (by decide) [(4, .int (iI (bz (decide (4 ≤ st))))), (3, .int (iI (bz (ng && decide (0 < Q))))), (0, .ref h), (1, .int (iI c0)), (2, .int (iI st))] rfl 39 rfl ?_
        refine TGo.lsub (lv' := [(0, .ref h), (1, .int (iI c0)), (2, .int (iI st)), (3, .int (iI (bz (ng && decide (0 < Q))))), (4, .int (iI (bz (decide (4 ≤ st)))))]) [2, 3, 4, 1, 0] rfl ?_
        exact m39
      · refine go_iconst O dX3_writeNumber_32 33 rfl ?_
        refine go_goto O dX3_writeNumber_33 37 (by decide) ?_
        refine TGo.topi (y := bz (decide (4 ≤ st))) (by rw [decide_eq_true (by split at h29 <;> omega)]; rfl) ?_
        refine go_istore O dX3_writeNumber_37 (by decide) [(4, .int (iI (bz (decide (4 ≤ st))))), (3, .int (iI (bz (ng && decide (0 < Q))))), (0, .ref h), (1, .int (iI c0)), (2, .int (iI st))] rfl 39 rfl ?_
        refine TGo.lsub (lv' := [(0, .ref h), (1, .int (iI c0)), (2, .int (iI st)), (3, .int (iI (bz (ng && decide (0 < Q))))), (4, .int (iI (bz (decide (4 ≤ st)))))]) [2, 3, 4, 1, 0] rfl ?_
        exact m39
    · refine go_iconst O dX3_writeNumber_20 21 rfl ?_
      refine go_goto O dX3_writeNumber_21 25 (by decide) ?_
      refine TGo.topi (y := bz (ng && decide (0 < Q))) (band_1 (by omega) (by omega)) ?_
      refine go_istore_n O dX3_writeNumber_25 rfl (by decide) [(3, .int (iI (bz (ng && decide (0 < Q))))), (0, .ref h), (1, .int (iI c0)), (2, .int (iI st))] rfl 26 rfl ?_
      refine go_iload_n O dX3_writeNumber_26 rfl 3 rfl 27 rfl ?_
      refine go_iconst O dX3_writeNumber_27 28 rfl ?_
      refine go_iand O dX3_writeNumber_28 (if 4 ≤ st then 4 else 0) (and4 hst) 29 rfl ?_
      refine go_if_eq O dX3_writeNumber_29 36 (by decide) 32 rfl (by split <;> omega) (fun h29 => ?_) (fun h29 => ?_)
      · refine go_iconst O dX3_writeNumber_36 37 rfl ?_
        refine TGo.topi (y := bz (decide (4 ≤ st))) (by rw [decide_eq_false (by split at h29 <;> omega)]; rfl) ?_
        refine go_istore O dX3_writeNumber_37 (by decide) [(4, .int (iI (bz (decide (4 ≤ st))))), (3, .int (iI (bz (ng && decide (0 < Q))))), (0, .ref h), (1, .int (iI c0)), (2, .int (iI st))] rfl 39 rfl ?_
        refine TGo.lsub (lv' := [(0, .ref h), (1, .int (iI c0)), (2, .int (iI st)), (3, .int (iI (bz (ng && decide (0 < Q))))), (4, .int (iI (bz (decide (4 ≤ st)))))]) [2, 3, 4, 1, 0] rfl ?_
        exact m39
      · refine go_iconst O dX3_writeNumber_32 33 rfl ?_
        refine go_goto O dX3_writeNumber_33 37 (by decide) ?_
        refine TGo.topi (y := bz (decide (4 ≤ st))) (by rw [decide_eq_true (by split at h29 <;> omega)]; rfl) ?_
        refine go_istore O dX3_writeNumber_37 (by decide) [(4, .int (iI (bz (decide (4 ≤ st))))), (3, .int (iI (bz (ng && decide (0 < Q))))), (0, .ref h), (1, .int (iI c0)), (2, .int (iI st))] rfl 39 rfl ?_
        refine TGo.lsub (lv' := [(0, .ref h), (1, .int (iI c0)), (2, .int (iI st)), (3, .int (iI (bz (ng && decide (0 < Q))))), (4, .int (iI (bz (decide (4 ≤ st)))))]) [2, 3, 4, 1, 0] rfl ?_
        exact m39
set_option maxHeartbeats 4000000 in
set_option maxRecDepth 100000 in
/-- format -/
theorem c_X3_format (E : TEn) (hE : EnvOk E) (hN : NestOk E) (hT : TbOk E) (h qam qrat qrm hw hsh qrow qfac : Nat) (cM : ClassId) (ht ql : Nat) (cI : ClassId) (tx : Nat → Int) (htx : ∀ j, r32 (tx j)) (sz ta : Nat) (tc : Int) (ad ro : Nat → Nat) (cs : Cs) (P Sc : Nat) (m : Int) (ng go : Bool) (fw : Nat → Int32) (a st : Int) (ha : r32 a) (hst : r32 st) (hR : RgOk (rof cs)) : Cti vwCl E yX3_format wsX3_format (rmn 4 96) [.ref h, .int (iI a), .int (iI st)] ([(h, .inr (3, [.int (iI ((P : Nat) : Int)), .int (iI ((Sc : Nat) : Int)), .int (iI m), .ref qam, .ref qrat, .ref qrm, .ref hw, .ref hsh, .ref ht])), (qam, .inl (cM, 8, .inr (.inr (.inr (.inr (fun i => some (ad i))))))), (hw, .inr (2, [.ref qrow, .ref qfac, .int (iI (bz ng)), .int (iI (bz go))])), (qrow, .inl (cI, 72, .inl fw)), (ht, .inr (1, [.ref ql, .int (iI ((sz : Nat) : Int)), .int (iI ((ta : Nat) : Int)), .int (iI tc)])), (ql, .inl (cI, 48, .inl (fun j => iI (tx j))))] ++ RB ad ro cI cs) [(cI, .int), (cM, .object "TwofoldAmounts$Amount")] (fun (z : Int) (u : ((Nat → Int) × Nat) × (Nat → Int32) × Bool × Bool) => z = (spFmt (rof cs) tx sz a st).1 ∧ u.1 = (spFmt (rof cs) tx sz a st).2) (fun u => ([(h, .inr (3, [.int (iI ((P : Nat) : Int)), .int (iI ((Sc : Nat) : Int)), .int (iI m), .ref qam, .ref qrat, .ref qrm, .ref hw, .ref hsh, .ref ht])), (qam, .inl (cM, 8, .inr (.inr (.inr (.inr (fun i => some (ad i))))))), (hw, .inr (2, [.ref qrow, .ref qfac, .int (iI (bz u.2.2.1)), .int (iI (bz u.2.2.2))])), (qrow, .inl (cI, 72, .inl u.2.1)), (ht, .inr (1, [.ref ql, .int (iI ((u.1.2 : Nat) : Int)), .int (iI ((ta : Nat) : Int)), .int (iI tc)])), (ql, .inl (cI, 48, .inl (fun j => iI (u.1.1 j))))] ++ RB ad ro cI cs)) := by
  refine enteri (by decide) (Nat.le_of_ble_eq_true rfl) ?_
  intro X O hK hin2 hret
  show TGo X ([(h, .inr (3, [.int (iI ((P : Nat) : Int)), .int (iI ((Sc : Nat) : Int)), .int (iI m), .ref qam, .ref qrat, .ref qrm, .ref hw, .ref hsh, .ref ht])), (qam, .inl (cM, 8, .inr (.inr (.inr (.inr (fun i => some (ad i))))))), (hw, .inr (2, [.ref qrow, .ref qfac, .int (iI (bz ng)), .int (iI (bz go))])), (qrow, .inl (cI, 72, .inl fw)), (ht, .inr (1, [.ref ql, .int (iI ((sz : Nat) : Int)), .int (iI ((ta : Nat) : Int)), .int (iI tc)])), (ql, .inl (cI, 48, .inl (fun j => iI (tx j))))] ++ RB ad ro cI cs) 0 0 0 [(0, .ref h), (1, .int (iI a)), (2, .int (iI st))] []
  refine go_iload_n O dX3_format_0 rfl 1 rfl 1 rfl ?_
  refine go_calliST (rest := []) (wr := [(h, .inr (3, [.int (iI ((P : Nat) : Int)), .int (iI ((Sc : Nat) : Int)), .int (iI m), .ref qam, .ref qrat, .ref qrm, .ref hw, .ref hsh, .ref ht])), (qam, .inl (cM, 8, .inr (.inr (.inr (.inr (fun i => some (ad i))))))), (hw, .inr (2, [.ref qrow, .ref qfac, .int (iI (bz ng)), .int (iI (bz go))])), (qrow, .inl (cI, 72, .inl fw)), (ht, .inr (1, [.ref ql, .int (iI ((sz : Nat) : Int)), .int (iI ((ta : Nat) : Int)), .int (iI tc)])), (ql, .inl (cI, 48, .inl (fun j => iI (tx j))))]) (RB ad ro cI cs) O hK hE (c_X3_isRegister E hE a ha) mlX3_60 smX3_isRegister inX3 cdX3_isRegister 1 (by decide +kernel) ⟨Nat.le_of_ble_eq_true rfl, Nat.le_of_ble_eq_true rfl⟩ [] rfl [] rfl (by decide) [0, 1, 2, 3, 4, 5] rfl (by decide) (by decide) rfl rfl (Nat.le_of_ble_eq_true rfl) ⟨Nat.zero_le _, Nat.zero_le _⟩ dX3_format_1 4 rfl (fun z u hu => ?_)
  subst hu
  show TGo X ([(h, .inr (3, [.int (iI ((P : Nat) : Int)), .int (iI ((Sc : Nat) : Int)), .int (iI m), .ref qam, .ref qrat, .ref qrm, .ref hw, .ref hsh, .ref ht])), (qam, .inl (cM, 8, .inr (.inr (.inr (.inr (fun i => some (ad i))))))), (hw, .inr (2, [.ref qrow, .ref qfac, .int (iI (bz ng)), .int (iI (bz go))])), (qrow, .inl (cI, 72, .inl fw)), (ht, .inr (1, [.ref ql, .int (iI ((sz : Nat) : Int)), .int (iI ((ta : Nat) : Int)), .int (iI tc)])), (ql, .inl (cI, 48, .inl (fun j => iI (tx j))))] ++ RB ad ro cI cs) 0 0 4 [(0, .ref h), (1, .int (iI a)), (2, .int (iI st))] [.int (iI (bz (decide (0 ≤ a ∧ a < 8))))]
  refine go_if_eq O dX3_format_4 17 (by decide) 7 rfl (bz_r _) (fun h4 => ?_) (fun h4 => ?_)
  · refine go_bipush O dX3_format_17 (by decide) 19 rfl ?_
    have he := spFmt_b (reg := rof cs) (tx := tx) (sz := sz) (a := a) (st := st) (fun e => bzd_z h4 (by omega))
    exact hret _ _ _ ((tx, sz), fw, ng, go) dX3_format_19 rfl ⟨by rw [he], by rw [he]⟩
  · refine go_iload_n O dX3_format_7 rfl 2 rfl 8 rfl ?_
    refine go_if_lt O dX3_format_8 17 (by decide) 11 rfl (by omega) (fun h8 => ?_) (fun h8 => ?_)
    · refine go_bipush O dX3_format_17 (by decide) 19 rfl ?_
      have he := spFmt_b (reg := rof cs) (tx := tx) (sz := sz) (a := a) (st := st) (by omega)
      exact hret _ _ _ ((tx, sz), fw, ng, go) dX3_format_19 rfl ⟨by rw [he], by rw [he]⟩
    · refine go_iload_n O dX3_format_11 rfl 2 rfl 12 rfl ?_
      refine go_bipush O dX3_format_12 (by decide) 14 rfl ?_
      refine go_icmp_lt O dX3_format_14 20 (by decide) 17 rfl (by omega) (by omega) (fun h14 => ?_) (fun h14 => ?_)
      · have q1 := bzd_ne h4
        obtain ⟨α, rfl⟩ : ∃ α : Nat, a = (α : Int) := ⟨a.toNat, by omega⟩
        have hb2 : α < 8 ∧ 0 ≤ st ∧ st < 8 := by omega
        rcases hcs : cs α with ⟨_ | _, w0, n0, c0, V0⟩
        · have hq := rof_n hcs
          refine go_aload_n O dX3_format_20 rfl 0 rfl 21 rfl ?_
          refine go_get O hK dX3_format_21 hinX3 0 rfl rfl 3 (by decide) flX3_30 rfl 24 rfl ?_
          refine go_iload_n O dX3_format_24 rfl 1 rfl 25 rfl ?_
          refine go_aald O hK dX3_format_25 1 1 rfl rfl α rfl (by omega) (by omega) (ad α) rfl 26 rfl ?_
          refine TGo.outC [(h, .inr (3, [.int (iI ((P : Nat) : Int)), .int (iI ((Sc : Nat) : Int)), .int (iI m), .ref qam, .ref qrat, .ref qrm, .ref hw, .ref hsh, .ref ht])), (qam, .inl (cM, 8, .inr (.inr (.inr (.inr (fun i => some (ad i))))))), (hw, .inr (2, [.ref qrow, .ref qfac, .int (iI (bz ng)), .int (iI (bz go))])), (qrow, .inl (cI, 72, .inl fw)), (ht, .inr (1, [.ref ql, .int (iI ((sz : Nat) : Int)), .int (iI ((ta : Nat) : Int)), .int (iI tc)])), (ql, .inl (cI, 48, .inl (fun j => iI (tx j))))] α (by omega) hcs ?_
          show TGo X ([(h, .inr (3, [.int (iI ((P : Nat) : Int)), .int (iI ((Sc : Nat) : Int)), .int (iI m), .ref qam, .ref qrat, .ref qrm, .ref hw, .ref hsh, .ref ht])), (qam, .inl (cM, 8, .inr (.inr (.inr (.inr (fun i => some (ad i))))))), (hw, .inr (2, [.ref qrow, .ref qfac, .int (iI (bz ng)), .int (iI (bz go))])), (qrow, .inl (cI, 72, .inl fw)), (ht, .inr (1, [.ref ql, .int (iI ((sz : Nat) : Int)), .int (iI ((ta : Nat) : Int)), .int (iI tc)])), (ql, .inl (cI, 48, .inl (fun j => iI (tx j)))), ((ad α), .inr (0, [.ref (ro α), .int (iI 0), .int (iI (bz w0)), .int (iI (bz n0)), .int (iI c0)])), ((ro α), .inl (cI, 36, .inl (dg V0)))] ++ RR1 ad ro cI cs α) 0 0 26 [(0, .ref h), (1, .int (iI ((α : Nat) : Int))), (2, .int (iI st))] [.ref (ad α)]
          refine go_astore_n O dX3_format_26 rfl (by decide) [(3, .ref (ad α)), (0, .ref h), (1, .int (iI ((α : Nat) : Int))), (2, .int (iI st))] rfl 27 rfl ?_
          refine go_aload_n O dX3_format_27 rfl 0 rfl 28 rfl ?_
          refine go_get O hK dX3_format_28 hinX0 6 rfl rfl 1 (by decide) flX3_79 rfl 31 rfl ?_
          refine go_if_ne O dX3_format_31 37 (by decide) 34 rfl (by omega) (fun h31 => by omega) (fun h31 => ?_)
          refine TGo.backC0 [(h, .inr (3, [.int (iI ((P : Nat) : Int)), .int (iI ((Sc : Nat) : Int)), .int (iI m), .ref qam, .ref qrat, .ref qrm, .ref hw, .ref hsh, .ref ht])), (qam, .inl (cM, 8, .inr (.inr (.inr (.inr (fun i => some (ad i))))))), (hw, .inr (2, [.ref qrow, .ref qfac, .int (iI (bz ng)), .int (iI (bz go))])), (qrow, .inl (cI, 72, .inl fw)), (ht, .inr (1, [.ref ql, .int (iI ((sz : Nat) : Int)), .int (iI ((ta : Nat) : Int)), .int (iI tc)])), (ql, .inl (cI, 48, .inl (fun j => iI (tx j))))] α (by omega) hcs ?_
          show TGo X ([(h, .inr (3, [.int (iI ((P : Nat) : Int)), .int (iI ((Sc : Nat) : Int)), .int (iI m), .ref qam, .ref qrat, .ref qrm, .ref hw, .ref hsh, .ref ht])), (qam, .inl (cM, 8, .inr (.inr (.inr (.inr (fun i => some (ad i))))))), (hw, .inr (2, [.ref qrow, .ref qfac, .int (iI (bz ng)), .int (iI (bz go))])), (qrow, .inl (cI, 72, .inl fw)), (ht, .inr (1, [.ref ql, .int (iI ((sz : Nat) : Int)), .int (iI ((ta : Nat) : Int)), .int (iI tc)])), (ql, .inl (cI, 48, .inl (fun j => iI (tx j))))] ++ RB ad ro cI cs) 0 0 34 [(3, .ref (ad α)), (0, .ref h), (1, .int (iI ((α : Nat) : Int))), (2, .int (iI st))] []
          refine go_bipush O dX3_format_34 (by decide) 36 rfl ?_
          have he := spFmt_n (tx := tx) (sz := sz) hb2 hq
          exact hret _ _ _ ((tx, sz), fw, ng, go) dX3_format_36 rfl ⟨by rw [he], by rw [he]⟩
        · have hq := rof_s hcs
          obtain ⟨hc0, hV0, hz0⟩ := hR α (by omega) _ _ _ _ hq
          have b0 := bz_01 n0
          have b1 := bz_01 w0
          refine go_aload_n O dX3_format_20 rfl 0 rfl 21 rfl ?_
          refine go_get O hK dX3_format_21 hinX3 0 rfl rfl 3 (by decide) flX3_30 rfl 24 rfl ?_
          refine go_iload_n O dX3_format_24 rfl 1 rfl 25 rfl ?_
          refine go_aald O hK dX3_format_25 1 1 rfl rfl α rfl (by omega) (by omega) (ad α) rfl 26 rfl ?_
          refine TGo.outC [(h, .inr (3, [.int (iI ((P : Nat) : Int)), .int (iI ((Sc : Nat) : Int)), .int (iI m), .ref qam, .ref qrat, .ref qrm, .ref hw, .ref hsh, .ref ht])), (qam, .inl (cM, 8, .inr (.inr (.inr (.inr (fun i => some (ad i))))))), (hw, .inr (2, [.ref qrow, .ref qfac, .int (iI (bz ng)), .int (iI (bz go))])), (qrow, .inl (cI, 72, .inl fw)), (ht, .inr (1, [.ref ql, .int (iI ((sz : Nat) : Int)), .int (iI ((ta : Nat) : Int)), .int (iI tc)])), (ql, .inl (cI, 48, .inl (fun j => iI (tx j))))] α (by omega) hcs ?_
          show TGo X ([(h, .inr (3, [.int (iI ((P : Nat) : Int)), .int (iI ((Sc : Nat) : Int)), .int (iI m), .ref qam, .ref qrat, .ref qrm, .ref hw, .ref hsh, .ref ht])), (qam, .inl (cM, 8, .inr (.inr (.inr (.inr (fun i => some (ad i))))))), (hw, .inr (2, [.ref qrow, .ref qfac, .int (iI (bz ng)), .int (iI (bz go))])), (qrow, .inl (cI, 72, .inl fw)), (ht, .inr (1, [.ref ql, .int (iI ((sz : Nat) : Int)), .int (iI ((ta : Nat) : Int)), .int (iI tc)])), (ql, .inl (cI, 48, .inl (fun j => iI (tx j)))), ((ad α), .inr (0, [.ref (ro α), .int (iI 1), .int (iI (bz w0)), .int (iI (bz n0)), .int (iI c0)])), ((ro α), .inl (cI, 36, .inl (dg V0)))] ++ RR1 ad ro cI cs α) 0 0 26 [(0, .ref h), (1, .int (iI ((α : Nat) : Int))), (2, .int (iI st))] [.ref (ad α)]
          refine go_astore_n O dX3_format_26 rfl (by decide) [(3, .ref (ad α)), (0, .ref h), (1, .int (iI ((α : Nat) : Int))), (2, .int (iI st))] rfl 27 rfl ?_
          refine go_aload_n O dX3_format_27 rfl 0 rfl 28 rfl ?_
          refine go_get O hK dX3_format_28 hinX0 6 rfl rfl 1 (by decide) flX3_79 rfl 31 rfl ?_
          refine go_if_ne O dX3_format_31 37 (by decide) 34 rfl (by omega) (fun h31 => ?_) (fun h31 => by omega)
          refine go_aload_n O dX3_format_37 rfl 1 rfl 38 rfl ?_
          refine go_get O hK dX3_format_38 hinX3 0 rfl rfl 6 (by decide) flX3_46 rfl 41 rfl ?_
          refine go_aload_n O dX3_format_41 rfl 0 rfl 42 rfl ?_
          refine go_get O hK dX3_format_42 hinX0 6 rfl rfl 0 (by decide) flX3_83 rfl 45 rfl ?_
          refine go_bipush O dX3_format_45 (by decide) 47 rfl ?_
          refine go_aload_n O dX3_format_47 rfl 0 rfl 48 rfl ?_
          refine go_get O hK dX3_format_48 hinX0 6 rfl rfl 3 (by decide) flX3_86 rfl 51 rfl ?_
          refine go_callvVT (As := [.ref (ro α), .int (iI 10), .int (iI (bz n0))]) (rest := []) (wr := [(h, .inr (3, [.int (iI ((P : Nat) : Int)), .int (iI ((Sc : Nat) : Int)), .int (iI m), .ref qam, .ref qrat, .ref qrm, .ref hw, .ref hsh, .ref ht])), (qam, .inl (cM, 8, .inr (.inr (.inr (.inr (fun i => some (ad i))))))), (ht, .inr (1, [.ref ql, .int (iI ((sz : Nat) : Int)), .int (iI ((ta : Nat) : Int)), .int (iI tc)])), (ql, .inl (cI, 48, .inl (fun j => iI (tx j)))), ((ad α), .inr (0, [.ref (ro α), .int (iI 1), .int (iI (bz w0)), .int (iI (bz n0)), .int (iI c0)]))]) (RR1 ad ro cI cs α) O hK hE (c_X2_load E hE hw qrow qfac cI ng go (ro α) 36 V0 10 fw n0 (by omega) hV0 (by omega)) mlX3_89 imX2_load seX2_load inX2 cdX2_load 3 (by decide +kernel) ⟨Nat.le_of_ble_eq_true rfl, Nat.le_of_ble_eq_true rfl⟩ 2 rfl rfl [0] rfl [2, 3, 7] rfl (by decide) [0, 1, 4, 5, 6] rfl (by decide) (by decide) rfl rfl (Nat.le_of_ble_eq_true rfl) ⟨Nat.zero_le _, Nat.zero_le _⟩ dX3_format_51 54 rfl (fun u hu => ?_)
          show TGo X ([(h, .inr (3, [.int (iI ((P : Nat) : Int)), .int (iI ((Sc : Nat) : Int)), .int (iI m), .ref qam, .ref qrat, .ref qrm, .ref hw, .ref hsh, .ref ht])), (qam, .inl (cM, 8, .inr (.inr (.inr (.inr (fun i => some (ad i))))))), (ht, .inr (1, [.ref ql, .int (iI ((sz : Nat) : Int)), .int (iI ((ta : Nat) : Int)), .int (iI tc)])), (ql, .inl (cI, 48, .inl (fun j => iI (tx j)))), ((ad α), .inr (0, [.ref (ro α), .int (iI 1), .int (iI (bz w0)), .int (iI (bz n0)), .int (iI c0)])), (hw, .inr (2, [.ref qrow, .ref qfac, .int (iI (bz n0)), .int (iI 0)])), (qrow, .inl (cI, 72, .inl (dg (V0 * 10 ^ 10)))), ((ro α), .inl (cI, 36, .inl (dg V0)))] ++ RR1 ad ro cI cs α) 0 0 54 [(3, .ref (ad α)), (0, .ref h), (1, .int (iI ((α : Nat) : Int))), (2, .int (iI st))] []
          refine TGo.subT (w' := [(h, .inr (3, [.int (iI ((P : Nat) : Int)), .int (iI ((Sc : Nat) : Int)), .int (iI m), .ref qam, .ref qrat, .ref qrm, .ref hw, .ref hsh, .ref ht])), (qam, .inl (cM, 8, .inr (.inr (.inr (.inr (fun i => some (ad i))))))), (hw, .inr (2, [.ref qrow, .ref qfac, .int (iI (bz n0)), .int (iI 0)])), (qrow, .inl (cI, 72, .inl (dg (V0 * 10 ^ 10)))), (ht, .inr (1, [.ref ql, .int (iI ((sz : Nat) : Int)), .int (iI ((ta : Nat) : Int)), .int (iI tc)])), (ql, .inl (cI, 48, .inl (fun j => iI (tx j)))), ((ad α), .inr (0, [.ref (ro α), .int (iI 1), .int (iI (bz w0)), .int (iI (bz n0)), .int (iI c0)])), ((ro α), .inl (cI, 36, .inl (dg V0)))]) (RR1 ad ro cI cs α) [0, 1, 5, 6, 2, 3, 4, 7] (by decide) rfl ?_
          refine go_aload_n O dX3_format_54 rfl 1 rfl 55 rfl ?_
          refine go_get O hK dX3_format_55 hinX3 0 rfl rfl 6 (by decide) flX3_46 rfl 58 rfl ?_
          refine go_aload_n O dX3_format_58 rfl 0 rfl 59 rfl ?_
          refine go_get O hK dX3_format_59 hinX0 6 rfl rfl 4 (by decide) flX3_100 rfl 62 rfl ?_
          refine go_calliST (rest := [.ref hw]) (wr := [(h, .inr (3, [.int (iI ((P : Nat) : Int)), .int (iI ((Sc : Nat) : Int)), .int (iI m), .ref qam, .ref qrat, .ref qrm, .ref hw, .ref hsh, .ref ht])), (qam, .inl (cM, 8, .inr (.inr (.inr (.inr (fun i => some (ad i))))))), (hw, .inr (2, [.ref qrow, .ref qfac, .int (iI (bz n0)), .int (iI 0)])), (qrow, .inl (cI, 72, .inl (dg (V0 * 10 ^ 10)))), (ht, .inr (1, [.ref ql, .int (iI ((sz : Nat) : Int)), .int (iI ((ta : Nat) : Int)), .int (iI tc)])), (ql, .inl (cI, 48, .inl (fun j => iI (tx j)))), ((ad α), .inr (0, [.ref (ro α), .int (iI 1), .int (iI (bz w0)), .int (iI (bz n0)), .int (iI c0)])), ((ro α), .inl (cI, 36, .inl (dg V0)))]) (RR1 ad ro cI cs α) O hK hE (c_X3_unitPlace E hE hT c0 (by omega)) mlX3_113 smX3_unitPlace inX3 cdX3_unitPlace 1 (by decide +kernel) ⟨Nat.le_of_ble_eq_true rfl, Nat.le_of_ble_eq_true rfl⟩ [] rfl [] rfl (by decide) [0, 1, 2, 3, 4, 5, 6, 7] rfl (by decide) (by decide) rfl rfl (Nat.le_of_ble_eq_true rfl) ⟨Nat.zero_le _, Nat.zero_le _⟩ dX3_format_62 65 rfl (fun z u hu => ?_)
          subst hu
          have htd := tdig_le c0
          show TGo X ([(h, .inr (3, [.int (iI ((P : Nat) : Int)), .int (iI ((Sc : Nat) : Int)), .int (iI m), .ref qam, .ref qrat, .ref qrm, .ref hw, .ref hsh, .ref ht])), (qam, .inl (cM, 8, .inr (.inr (.inr (.inr (fun i => some (ad i))))))), (hw, .inr (2, [.ref qrow, .ref qfac, .int (iI (bz n0)), .int (iI 0)])), (qrow, .inl (cI, 72, .inl (dg (V0 * 10 ^ 10)))), (ht, .inr (1, [.ref ql, .int (iI ((sz : Nat) : Int)), .int (iI ((ta : Nat) : Int)), .int (iI tc)])), (ql, .inl (cI, 48, .inl (fun j => iI (tx j)))), ((ad α), .inr (0, [.ref (ro α), .int (iI 1), .int (iI (bz w0)), .int (iI (bz n0)), .int (iI c0)])), ((ro α), .inl (cI, 36, .inl (dg V0)))] ++ RR1 ad ro cI cs α) 0 0 65 [(3, .ref (ad α)), (0, .ref h), (1, .int (iI ((α : Nat) : Int))), (2, .int (iI st))] [.int (iI ((20 - tdig c0 : Nat) : Int)), .ref hw]
          refine go_iconst O dX3_format_65 66 rfl ?_
          refine go_bipush O dX3_format_66 (by decide) 68 rfl ?_
          refine go_calliVT (As := [.int (iI ((20 - tdig c0 : Nat) : Int)), .int (iI 1), .int (iI 6)]) (rest := []) (wr := [(h, .inr (3, [.int (iI ((P : Nat) : Int)), .int (iI ((Sc : Nat) : Int)), .int (iI m), .ref qam, .ref qrat, .ref qrm, .ref hw, .ref hsh, .ref ht])), (qam, .inl (cM, 8, .inr (.inr (.inr (.inr (fun i => some (ad i))))))), (ht, .inr (1, [.ref ql, .int (iI ((sz : Nat) : Int)), .int (iI ((ta : Nat) : Int)), .int (iI tc)])), (ql, .inl (cI, 48, .inl (fun j => iI (tx j)))), ((ad α), .inr (0, [.ref (ro α), .int (iI 1), .int (iI (bz w0)), .int (iI (bz n0)), .int (iI c0)])), ((ro α), .inl (cI, 36, .inl (dg V0)))]) (RR1 ad ro cI cs α) O hK hE (c_X2_toMultiple E hE hN hw qrow qfac cI n0 false (V0 * 10 ^ 10) (20 - tdig c0) 1 6 (by have := (mul_bd2 (κ := 0) (v := 0) hV0 (by omega)).1; omega) (by omega) (by omega) (Or.inl rfl) (by omega)) mlX3_117 imX2_toMultiple seX2_toMultiple inX2 cdX2_toMultiple 3 (by decide +kernel) ⟨Nat.le_of_ble_eq_true rfl, Nat.le_of_ble_eq_true rfl⟩ 2 rfl rfl [0] rfl [2, 3] rfl (by decide) [0, 1, 4, 5, 6, 7] rfl (by decide) (by decide) rfl rfl (Nat.le_of_ble_eq_true rfl) ⟨Nat.zero_le _, Nat.zero_le _⟩ dX3_format_68 71 rfl (fun z u hu => ?_)
          obtain ⟨V2, g2⟩ := u
          have hk := rnd_k (V := V0) (st := 1) (d := tdig c0) (k := 6) (n := n0) (by omega)
          obtain ⟨rfl, hV2, rfl⟩ : z = 1 ∧ V2 = fmQ c0 n0 V0 * 10 ^ (20 - tdig c0) ∧ g2 = false := by
            rcases hu with ⟨e1, e2, e3, e4⟩ | ⟨e1, e2, e3, e4⟩
            · refine ⟨e1, ?_, e4⟩
              have e5 : V2 = _ := e3
              rw [e5, hk.2, fmW]
            · omega
          subst hV2
          show TGo X ([(h, .inr (3, [.int (iI ((P : Nat) : Int)), .int (iI ((Sc : Nat) : Int)), .int (iI m), .ref qam, .ref qrat, .ref qrm, .ref hw, .ref hsh, .ref ht])), (qam, .inl (cM, 8, .inr (.inr (.inr (.inr (fun i => some (ad i))))))), (ht, .inr (1, [.ref ql, .int (iI ((sz : Nat) : Int)), .int (iI ((ta : Nat) : Int)), .int (iI tc)])), (ql, .inl (cI, 48, .inl (fun j => iI (tx j)))), ((ad α), .inr (0, [.ref (ro α), .int (iI 1), .int (iI (bz w0)), .int (iI (bz n0)), .int (iI c0)])), ((ro α), .inl (cI, 36, .inl (dg V0))), (hw, .inr (2, [.ref qrow, .ref qfac, .int (iI (bz n0)), .int (iI 0)])), (qrow, .inl (cI, 72, .inl (dg (fmQ c0 n0 V0 * 10 ^ (20 - tdig c0)))))] ++ RR1 ad ro cI cs α) 0 0 71 [(3, .ref (ad α)), (0, .ref h), (1, .int (iI ((α : Nat) : Int))), (2, .int (iI st))] [.int (iI 1)]
          refine TGo.subT (w' := [(h, .inr (3, [.int (iI ((P : Nat) : Int)), .int (iI ((Sc : Nat) : Int)), .int (iI m), .ref qam, .ref qrat, .ref qrm, .ref hw, .ref hsh, .ref ht])), (qam, .inl (cM, 8, .inr (.inr (.inr (.inr (fun i => some (ad i))))))), (hw, .inr (2, [.ref qrow, .ref qfac, .int (iI (bz n0)), .int (iI 0)])), (qrow, .inl (cI, 72, .inl (dg (fmQ c0 n0 V0 * 10 ^ (20 - tdig c0))))), (ht, .inr (1, [.ref ql, .int (iI ((sz : Nat) : Int)), .int (iI ((ta : Nat) : Int)), .int (iI tc)])), (ql, .inl (cI, 48, .inl (fun j => iI (tx j)))), ((ad α), .inr (0, [.ref (ro α), .int (iI 1), .int (iI (bz w0)), .int (iI (bz n0)), .int (iI c0)])), ((ro α), .inl (cI, 36, .inl (dg V0)))]) (RR1 ad ro cI cs α) [0, 1, 6, 7, 2, 3, 4, 5] (by decide) rfl ?_
          refine go_pop O dX3_format_71 rfl 72 rfl ?_
          have hnl := numL_le (st := st) (mi := (n0 && decide (0 < fmQ c0 n0 V0))) htd (fmQ_bd (c := c0) (n := n0) hV0)
          refine go_aload_n O dX3_format_72 rfl 1 rfl 73 rfl ?_
          refine go_get O hK dX3_format_73 hinX3 0 rfl rfl 8 (by decide) flX3_56 rfl 76 rfl ?_
          refine go_iconst O dX3_format_76 77 rfl ?_
          refine go_put O hK dX3_format_77 hinX1 tyX1 tyX1_ok nmX1 4 rfl rfl 1 (by decide) flX3_162 rfl rfl rfl rfl (Nat.le_of_ble_eq_true rfl) ([(h, .inr (3, [.int (iI ((P : Nat) : Int)), .int (iI ((Sc : Nat) : Int)), .int (iI m), .ref qam, .ref qrat, .ref qrm, .ref hw, .ref hsh, .ref ht])), (qam, .inl (cM, 8, .inr (.inr (.inr (.inr (fun i => some (ad i))))))), (hw, .inr (2, [.ref qrow, .ref qfac, .int (iI (bz n0)), .int (iI 0)])), (qrow, .inl (cI, 72, .inl (dg (fmQ c0 n0 V0 * 10 ^ (20 - tdig c0))))), (ht, .inr (1, [.ref ql, .int (iI 0), .int (iI ((ta : Nat) : Int)), .int (iI tc)])), (ql, .inl (cI, 48, .inl (fun j => iI (tx j)))), ((ad α), .inr (0, [.ref (ro α), .int (iI 1), .int (iI (bz w0)), .int (iI (bz n0)), .int (iI c0)])), ((ro α), .inl (cI, 36, .inl (dg V0)))] ++ RR1 ad ro cI cs α) rfl 80 rfl ?_
          refine go_iload_n O dX3_format_80 rfl 3 rfl 81 rfl ?_
          refine go_iconst O dX3_format_81 82 rfl ?_
          refine go_iand O dX3_format_82 (if 2 ≤ st % 4 then 2 else 0) (and2 (by omega)) 83 rfl ?_
          refine go_if_eq O dX3_format_83 118 (by decide) 86 rfl (by split <;> omega) (fun h83 => ?_) (fun h83 => ?_)
          · refine go_aload_n O dX3_format_118 rfl 1 rfl 119 rfl ?_
            refine go_get O hK dX3_format_119 hinX3 0 rfl rfl 8 (by decide) flX3_56 rfl 122 rfl ?_
            refine go_aload_n O dX3_format_122 rfl 0 rfl 123 rfl ?_
            refine go_get O hK dX3_format_123 hinX0 6 rfl rfl 4 (by decide) flX3_100 rfl 126 rfl ?_
            refine go_callvVT (As := [.int (iI c0)]) (rest := []) (wr := [(h, .inr (3, [.int (iI ((P : Nat) : Int)), .int (iI ((Sc : Nat) : Int)), .int (iI m), .ref qam, .ref qrat, .ref qrm, .ref hw, .ref hsh, .ref ht])), (qam, .inl (cM, 8, .inr (.inr (.inr (.inr (fun i => some (ad i))))))), (hw, .inr (2, [.ref qrow, .ref qfac, .int (iI (bz n0)), .int (iI 0)])), (qrow, .inl (cI, 72, .inl (dg (fmQ c0 n0 V0 * 10 ^ (20 - tdig c0))))), ((ad α), .inr (0, [.ref (ro α), .int (iI 1), .int (iI (bz w0)), .int (iI (bz n0)), .int (iI c0)])), ((ro α), .inl (cI, 36, .inl (dg V0)))]) (RR1 ad ro cI cs α) O hK hE (c_X1_appendCode E hE ht ql cI tx htx 0 ta tc c0 (by omega) (by omega)) mlX3_172 imX1_appendCode seX1_appendCode inX1 cdX1_appendCode 1 (by decide +kernel) ⟨Nat.le_of_ble_eq_true rfl, Nat.le_of_ble_eq_true rfl⟩ 4 rfl rfl [0] rfl [4, 5] rfl (by decide) [0, 1, 2, 3, 6, 7] rfl (by decide) (by decide) rfl rfl (Nat.le_of_ble_eq_true rfl) ⟨Nat.zero_le _, Nat.zero_le _⟩ dX3_format_126 129 rfl (fun u hu => ?_)
            obtain ⟨tA, sA⟩ := u
            have hAr := tapp_r (codL c0) (tx, 0) htx (fun x hx => by have e : x = 65 + c0 := (by simpa [codL] using hx); rw [e]; constructor <;> omega)
            rw [← hu] at hAr
            have hAs := tapp_sz (codL c0) (tx, 0)
            rw [← hu] at hAs
            have hAs2 : sA = 0 + 3 := hAs
            have hcu := hu
            show TGo X ([(h, .inr (3, [.int (iI ((P : Nat) : Int)), .int (iI ((Sc : Nat) : Int)), .int (iI m), .ref qam, .ref qrat, .ref qrm, .ref hw, .ref hsh, .ref ht])), (qam, .inl (cM, 8, .inr (.inr (.inr (.inr (fun i => some (ad i))))))), (hw, .inr (2, [.ref qrow, .ref qfac, .int (iI (bz n0)), .int (iI 0)])), (qrow, .inl (cI, 72, .inl (dg (fmQ c0 n0 V0 * 10 ^ (20 - tdig c0))))), ((ad α), .inr (0, [.ref (ro α), .int (iI 1), .int (iI (bz w0)), .int (iI (bz n0)), .int (iI c0)])), ((ro α), .inl (cI, 36, .inl (dg V0))), (ht, .inr (1, [.ref ql, .int (iI ((sA : Nat) : Int)), .int (iI ((ta : Nat) : Int)), .int (iI tc)])), (ql, .inl (cI, 48, .inl (fun j => iI (tA j))))] ++ RR1 ad ro cI cs α) 0 0 129 [(3, .ref (ad α)), (0, .ref h), (1, .int (iI ((α : Nat) : Int))), (2, .int (iI st))] []
            refine TGo.subT (w' := [(h, .inr (3, [.int (iI ((P : Nat) : Int)), .int (iI ((Sc : Nat) : Int)), .int (iI m), .ref qam, .ref qrat, .ref qrm, .ref hw, .ref hsh, .ref ht])), (qam, .inl (cM, 8, .inr (.inr (.inr (.inr (fun i => some (ad i))))))), (hw, .inr (2, [.ref qrow, .ref qfac, .int (iI (bz n0)), .int (iI 0)])), (qrow, .inl (cI, 72, .inl (dg (fmQ c0 n0 V0 * 10 ^ (20 - tdig c0))))), (ht, .inr (1, [.ref ql, .int (iI ((sA : Nat) : Int)), .int (iI ((ta : Nat) : Int)), .int (iI tc)])), (ql, .inl (cI, 48, .inl (fun j => iI (tA j)))), ((ad α), .inr (0, [.ref (ro α), .int (iI 1), .int (iI (bz w0)), .int (iI (bz n0)), .int (iI c0)])), ((ro α), .inl (cI, 36, .inl (dg V0)))]) (RR1 ad ro cI cs α) [0, 1, 2, 3, 6, 7, 4, 5] (by decide) rfl ?_
            refine go_aload_n O dX3_format_129 rfl 1 rfl 130 rfl ?_
            refine go_get O hK dX3_format_130 hinX3 0 rfl rfl 8 (by decide) flX3_56 rfl 133 rfl ?_
            refine go_bipush O dX3_format_133 (by decide) 135 rfl ?_
            refine go_callvVT (As := [.int (iI 32)]) (rest := []) (wr := [(h, .inr (3, [.int (iI ((P : Nat) : Int)), .int (iI ((Sc : Nat) : Int)), .int (iI m), .ref qam, .ref qrat, .ref qrm, .ref hw, .ref hsh, .ref ht])), (qam, .inl (cM, 8, .inr (.inr (.inr (.inr (fun i => some (ad i))))))), (hw, .inr (2, [.ref qrow, .ref qfac, .int (iI (bz n0)), .int (iI 0)])), (qrow, .inl (cI, 72, .inl (dg (fmQ c0 n0 V0 * 10 ^ (20 - tdig c0))))), ((ad α), .inr (0, [.ref (ro α), .int (iI 1), .int (iI (bz w0)), .int (iI (bz n0)), .int (iI c0)])), ((ro α), .inl (cI, 36, .inl (dg V0)))]) (RR1 ad ro cI cs α) O hK hE (c_X1_append E hE ht ql cI tA hAr sA ta tc 32 (by omega)) mlX3_168 imX1_append seX1_append inX1 cdX1_append 1 (by decide +kernel) ⟨Nat.le_of_ble_eq_true rfl, Nat.le_of_ble_eq_true rfl⟩ 4 rfl rfl [0] rfl [4, 5] rfl (by decide) [0, 1, 2, 3, 6, 7] rfl (by decide) (by decide) rfl rfl (Nat.le_of_ble_eq_true rfl) ⟨Nat.zero_le _, Nat.zero_le _⟩ dX3_format_135 138 rfl (fun u hu => ?_)
            show TGo X ([(h, .inr (3, [.int (iI ((P : Nat) : Int)), .int (iI ((Sc : Nat) : Int)), .int (iI m), .ref qam, .ref qrat, .ref qrm, .ref hw, .ref hsh, .ref ht])), (qam, .inl (cM, 8, .inr (.inr (.inr (.inr (fun i => some (ad i))))))), (hw, .inr (2, [.ref qrow, .ref qfac, .int (iI (bz n0)), .int (iI 0)])), (qrow, .inl (cI, 72, .inl (dg (fmQ c0 n0 V0 * 10 ^ (20 - tdig c0))))), ((ad α), .inr (0, [.ref (ro α), .int (iI 1), .int (iI (bz w0)), .int (iI (bz n0)), .int (iI c0)])), ((ro α), .inl (cI, 36, .inl (dg V0))), (ht, .inr (1, [.ref ql, .int (iI ((sA + 1 : Nat) : Int)), .int (iI ((ta : Nat) : Int)), .int (iI tc)])), (ql, .inl (cI, 48, .inl (fun j => iI (txs tA sA 32 j))))] ++ RR1 ad ro cI cs α) 0 0 138 [(3, .ref (ad α)), (0, .ref h), (1, .int (iI ((α : Nat) : Int))), (2, .int (iI st))] []
            refine TGo.subT (w' := [(h, .inr (3, [.int (iI ((P : Nat) : Int)), .int (iI ((Sc : Nat) : Int)), .int (iI m), .ref qam, .ref qrat, .ref qrm, .ref hw, .ref hsh, .ref ht])), (qam, .inl (cM, 8, .inr (.inr (.inr (.inr (fun i => some (ad i))))))), (hw, .inr (2, [.ref qrow, .ref qfac, .int (iI (bz n0)), .int (iI 0)])), (qrow, .inl (cI, 72, .inl (dg (fmQ c0 n0 V0 * 10 ^ (20 - tdig c0))))), (ht, .inr (1, [.ref ql, .int (iI ((sA + 1 : Nat) : Int)), .int (iI ((ta : Nat) : Int)), .int (iI tc)])), (ql, .inl (cI, 48, .inl (fun j => iI (txs tA sA 32 j)))), ((ad α), .inr (0, [.ref (ro α), .int (iI 1), .int (iI (bz w0)), .int (iI (bz n0)), .int (iI c0)])), ((ro α), .inl (cI, 36, .inl (dg V0)))]) (RR1 ad ro cI cs α) [0, 1, 2, 3, 6, 7, 4, 5] (by decide) rfl ?_
            refine go_aload_n O dX3_format_138 rfl 1 rfl 139 rfl ?_
            refine go_aload_n O dX3_format_139 rfl 0 rfl 140 rfl ?_
            refine go_get O hK dX3_format_140 hinX0 6 rfl rfl 4 (by decide) flX3_100 rfl 143 rfl ?_
            refine go_iload_n O dX3_format_143 rfl 3 rfl 144 rfl ?_
            refine go_callvVT (As := [.int (iI c0), .int (iI st)]) (rest := []) (wr := [(qam, .inl (cM, 8, .inr (.inr (.inr (.inr (fun i => some (ad i))))))), ((ad α), .inr (0, [.ref (ro α), .int (iI 1), .int (iI (bz w0)), .int (iI (bz n0)), .int (iI c0)])), ((ro α), .inl (cI, 36, .inl (dg V0)))]) (RR1 ad ro cI cs α) O hK hE (c_X3_writeNumber E hE hT h qam qrat qrm hw hsh qrow qfac cM ht ql cI (txs tA sA 32) (txs_r hAr (by omega)) (sA + 1) ta tc P Sc m n0 false (fmQ c0 n0 V0) c0 st (by omega) (by omega) (fmQ_bd hV0) (fmQ_72 hV0) (by omega)) mlX3_165 imX3_writeNumber seX3_writeNumber inX3 cdX3_writeNumber 2 (by decide +kernel) ⟨Nat.le_of_ble_eq_true rfl, Nat.le_of_ble_eq_true rfl⟩ 0 rfl rfl [0] rfl [0, 2, 3, 4, 5] rfl (by decide) [1, 6, 7] rfl (by decide) (by decide) rfl rfl (Nat.le_of_ble_eq_true rfl) ⟨Nat.zero_le _, Nat.zero_le _⟩ dX3_format_144 147 rfl (fun u hu => ?_)
            obtain ⟨tN, sN⟩ := u
            have hNr := tapp_r (numL (fmQ c0 n0 V0) (tdig c0) st (n0 && decide (0 < fmQ c0 n0 V0))) (txs tA sA 32, sA + 1) (txs_r hAr (by omega)) numL_r
            rw [← hu] at hNr
            have hNs := tapp_sz (numL (fmQ c0 n0 V0) (tdig c0) st (n0 && decide (0 < fmQ c0 n0 V0))) (txs tA sA 32, sA + 1)
            rw [← hu] at hNs
            have hNs2 : sN = sA + 1 + (numL (fmQ c0 n0 V0) (tdig c0) st (n0 && decide (0 < fmQ c0 n0 V0))).length := hNs
            have hnu := hu
            show TGo X ([(qam, .inl (cM, 8, .inr (.inr (.inr (.inr (fun i => some (ad i))))))), ((ad α), .inr (0, [.ref (ro α), .int (iI 1), .int (iI (bz w0)), .int (iI (bz n0)), .int (iI c0)])), ((ro α), .inl (cI, 36, .inl (dg V0))), (h, .inr (3, [.int (iI ((P : Nat) : Int)), .int (iI ((Sc : Nat) : Int)), .int (iI m), .ref qam, .ref qrat, .ref qrm, .ref hw, .ref hsh, .ref ht])), (hw, .inr (2, [.ref qrow, .ref qfac, .int (iI (bz n0)), .int (iI 0)])), (qrow, .inl (cI, 72, .inl (dg (fmQ c0 n0 V0 * 10 ^ (20 - tdig c0))))), (ht, .inr (1, [.ref ql, .int (iI ((sN : Nat) : Int)), .int (iI ((ta : Nat) : Int)), .int (iI tc)])), (ql, .inl (cI, 48, .inl (fun j => iI (tN j))))] ++ RR1 ad ro cI cs α) 0 0 147 [(3, .ref (ad α)), (0, .ref h), (1, .int (iI ((α : Nat) : Int))), (2, .int (iI st))] []
            refine TGo.subT (w' := [(h, .inr (3, [.int (iI ((P : Nat) : Int)), .int (iI ((Sc : Nat) : Int)), .int (iI m), .ref qam, .ref qrat, .ref qrm, .ref hw, .ref hsh, .ref ht])), (qam, .inl (cM, 8, .inr (.inr (.inr (.inr (fun i => some (ad i))))))), (hw, .inr (2, [.ref qrow, .ref qfac, .int (iI (bz n0)), .int (iI 0)])), (qrow, .inl (cI, 72, .inl (dg (fmQ c0 n0 V0 * 10 ^ (20 - tdig c0))))), (ht, .inr (1, [.ref ql, .int (iI ((sN : Nat) : Int)), .int (iI ((ta : Nat) : Int)), .int (iI tc)])), (ql, .inl (cI, 48, .inl (fun j => iI (tN j)))), ((ad α), .inr (0, [.ref (ro α), .int (iI 1), .int (iI (bz w0)), .int (iI (bz n0)), .int (iI c0)])), ((ro α), .inl (cI, 36, .inl (dg V0)))]) (RR1 ad ro cI cs α) [3, 0, 4, 5, 6, 7, 1, 2] (by decide) rfl ?_
            refine go_aload_n O dX3_format_147 rfl 1 rfl 148 rfl ?_
            refine go_get O hK dX3_format_148 hinX3 0 rfl rfl 8 (by decide) flX3_56 rfl 151 rfl ?_
            refine go_get O hK dX3_format_151 hinX1 4 rfl rfl 1 (by decide) flX3_162 rfl 154 rfl ?_
            refine TGo.backC0 [(h, .inr (3, [.int (iI ((P : Nat) : Int)), .int (iI ((Sc : Nat) : Int)), .int (iI m), .ref qam, .ref qrat, .ref qrm, .ref hw, .ref hsh, .ref ht])), (qam, .inl (cM, 8, .inr (.inr (.inr (.inr (fun i => some (ad i))))))), (hw, .inr (2, [.ref qrow, .ref qfac, .int (iI (bz n0)), .int (iI 0)])), (qrow, .inl (cI, 72, .inl (dg (fmQ c0 n0 V0 * 10 ^ (20 - tdig c0))))), (ht, .inr (1, [.ref ql, .int (iI ((sN : Nat) : Int)), .int (iI ((ta : Nat) : Int)), .int (iI tc)])), (ql, .inl (cI, 48, .inl (fun j => iI (tN j))))] α (by omega) hcs ?_
            show TGo X ([(h, .inr (3, [.int (iI ((P : Nat) : Int)), .int (iI ((Sc : Nat) : Int)), .int (iI m), .ref qam, .ref qrat, .ref qrm, .ref hw, .ref hsh, .ref ht])), (qam, .inl (cM, 8, .inr (.inr (.inr (.inr (fun i => some (ad i))))))), (hw, .inr (2, [.ref qrow, .ref qfac, .int (iI (bz n0)), .int (iI 0)])), (qrow, .inl (cI, 72, .inl (dg (fmQ c0 n0 V0 * 10 ^ (20 - tdig c0))))), (ht, .inr (1, [.ref ql, .int (iI ((sN : Nat) : Int)), .int (iI ((ta : Nat) : Int)), .int (iI tc)])), (ql, .inl (cI, 48, .inl (fun j => iI (tN j))))] ++ RB ad ro cI cs) 0 0 154 [(3, .ref (ad α)), (0, .ref h), (1, .int (iI ((α : Nat) : Int))), (2, .int (iI st))] [.int (iI ((sN : Nat) : Int))]
            have he := spFmt_s (sz := sz) hb2 hq (show (tN, sN) = tapp (tx, 0) (fmtL c0 (fmQ c0 n0 V0) st (n0 && decide (0 < fmQ c0 n0 V0))) from (by rw [fmtL_0 (by split at h83 <;> omega), tapp_app, ← hcu]; exact hnu))
            exact hret _ _ _ ((tN, sN), dg (fmQ c0 n0 V0 * 10 ^ (20 - tdig c0)), n0, false) dX3_format_154 rfl ⟨by rw [he], by rw [he]⟩
          · refine go_aload_n O dX3_format_86 rfl 1 rfl 87 rfl ?_
            refine go_aload_n O dX3_format_87 rfl 0 rfl 88 rfl ?_
            refine go_get O hK dX3_format_88 hinX0 6 rfl rfl 4 (by decide) flX3_100 rfl 91 rfl ?_
            refine go_iload_n O dX3_format_91 rfl 3 rfl 92 rfl ?_
            refine go_callvVT (As := [.int (iI c0), .int (iI st)]) (rest := []) (wr := [(qam, .inl (cM, 8, .inr (.inr (.inr (.inr (fun i => some (ad i))))))), ((ad α), .inr (0, [.ref (ro α), .int (iI 1), .int (iI (bz w0)), .int (iI (bz n0)), .int (iI c0)])), ((ro α), .inl (cI, 36, .inl (dg V0)))]) (RR1 ad ro cI cs α) O hK hE (c_X3_writeNumber E hE hT h qam qrat qrm hw hsh qrow qfac cM ht ql cI tx htx 0 ta tc P Sc m n0 false (fmQ c0 n0 V0) c0 st (by omega) (by omega) (fmQ_bd hV0) (fmQ_72 hV0) (by omega)) mlX3_165 imX3_writeNumber seX3_writeNumber inX3 cdX3_writeNumber 2 (by decide +kernel) ⟨Nat.le_of_ble_eq_true rfl, Nat.le_of_ble_eq_true rfl⟩ 0 rfl rfl [0] rfl [0, 2, 3, 4, 5] rfl (by decide) [1, 6, 7] rfl (by decide) (by decide) rfl rfl (Nat.le_of_ble_eq_true rfl) ⟨Nat.zero_le _, Nat.zero_le _⟩ dX3_format_92 95 rfl (fun u hu => ?_)
            obtain ⟨tN, sN⟩ := u
            have hNr := tapp_r (numL (fmQ c0 n0 V0) (tdig c0) st (n0 && decide (0 < fmQ c0 n0 V0))) (tx, 0) htx numL_r
            rw [← hu] at hNr
            have hNs := tapp_sz (numL (fmQ c0 n0 V0) (tdig c0) st (n0 && decide (0 < fmQ c0 n0 V0))) (tx, 0)
            rw [← hu] at hNs
            have hNs2 : sN = 0 + (numL (fmQ c0 n0 V0) (tdig c0) st (n0 && decide (0 < fmQ c0 n0 V0))).length := hNs
            have hnu := hu
            show TGo X ([(qam, .inl (cM, 8, .inr (.inr (.inr (.inr (fun i => some (ad i))))))), ((ad α), .inr (0, [.ref (ro α), .int (iI 1), .int (iI (bz w0)), .int (iI (bz n0)), .int (iI c0)])), ((ro α), .inl (cI, 36, .inl (dg V0))), (h, .inr (3, [.int (iI ((P : Nat) : Int)), .int (iI ((Sc : Nat) : Int)), .int (iI m), .ref qam, .ref qrat, .ref qrm, .ref hw, .ref hsh, .ref ht])), (hw, .inr (2, [.ref qrow, .ref qfac, .int (iI (bz n0)), .int (iI 0)])), (qrow, .inl (cI, 72, .inl (dg (fmQ c0 n0 V0 * 10 ^ (20 - tdig c0))))), (ht, .inr (1, [.ref ql, .int (iI ((sN : Nat) : Int)), .int (iI ((ta : Nat) : Int)), .int (iI tc)])), (ql, .inl (cI, 48, .inl (fun j => iI (tN j))))] ++ RR1 ad ro cI cs α) 0 0 95 [(3, .ref (ad α)), (0, .ref h), (1, .int (iI ((α : Nat) : Int))), (2, .int (iI st))] []
            refine TGo.subT (w' := [(h, .inr (3, [.int (iI ((P : Nat) : Int)), .int (iI ((Sc : Nat) : Int)), .int (iI m), .ref qam, .ref qrat, .ref qrm, .ref hw, .ref hsh, .ref ht])), (qam, .inl (cM, 8, .inr (.inr (.inr (.inr (fun i => some (ad i))))))), (hw, .inr (2, [.ref qrow, .ref qfac, .int (iI (bz n0)), .int (iI 0)])), (qrow, .inl (cI, 72, .inl (dg (fmQ c0 n0 V0 * 10 ^ (20 - tdig c0))))), (ht, .inr (1, [.ref ql, .int (iI ((sN : Nat) : Int)), .int (iI ((ta : Nat) : Int)), .int (iI tc)])), (ql, .inl (cI, 48, .inl (fun j => iI (tN j)))), ((ad α), .inr (0, [.ref (ro α), .int (iI 1), .int (iI (bz w0)), .int (iI (bz n0)), .int (iI c0)])), ((ro α), .inl (cI, 36, .inl (dg V0)))]) (RR1 ad ro cI cs α) [3, 0, 4, 5, 6, 7, 1, 2] (by decide) rfl ?_
            refine go_aload_n O dX3_format_95 rfl 1 rfl 96 rfl ?_
            refine go_get O hK dX3_format_96 hinX3 0 rfl rfl 8 (by decide) flX3_56 rfl 99 rfl ?_
            refine go_bipush O dX3_format_99 (by decide) 101 rfl ?_
            refine go_callvVT (As := [.int (iI 32)]) (rest := []) (wr := [(h, .inr (3, [.int (iI ((P : Nat) : Int)), .int (iI ((Sc : Nat) : Int)), .int (iI m), .ref qam, .ref qrat, .ref qrm, .ref hw, .ref hsh, .ref ht])), (qam, .inl (cM, 8, .inr (.inr (.inr (.inr (fun i => some (ad i))))))), (hw, .inr (2, [.ref qrow, .ref qfac, .int (iI (bz n0)), .int (iI 0)])), (qrow, .inl (cI, 72, .inl (dg (fmQ c0 n0 V0 * 10 ^ (20 - tdig c0))))), ((ad α), .inr (0, [.ref (ro α), .int (iI 1), .int (iI (bz w0)), .int (iI (bz n0)), .int (iI c0)])), ((ro α), .inl (cI, 36, .inl (dg V0)))]) (RR1 ad ro cI cs α) O hK hE (c_X1_append E hE ht ql cI tN hNr sN ta tc 32 (by omega)) mlX3_168 imX1_append seX1_append inX1 cdX1_append 1 (by decide +kernel) ⟨Nat.le_of_ble_eq_true rfl, Nat.le_of_ble_eq_true rfl⟩ 4 rfl rfl [0] rfl [4, 5] rfl (by decide) [0, 1, 2, 3, 6, 7] rfl (by decide) (by decide) rfl rfl (Nat.le_of_ble_eq_true rfl) ⟨Nat.zero_le _, Nat.zero_le _⟩ dX3_format_101 104 rfl (fun u hu => ?_)
            show TGo X ([(h, .inr (3, [.int (iI ((P : Nat) : Int)), .int (iI ((Sc : Nat) : Int)), .int (iI m), .ref qam, .ref qrat, .ref qrm, .ref hw, .ref hsh, .ref ht])), (qam, .inl (cM, 8, .inr (.inr (.inr (.inr (fun i => some (ad i))))))), (hw, .inr (2, [.ref qrow, .ref qfac, .int (iI (bz n0)), .int (iI 0)])), (qrow, .inl (cI, 72, .inl (dg (fmQ c0 n0 V0 * 10 ^ (20 - tdig c0))))), ((ad α), .inr (0, [.ref (ro α), .int (iI 1), .int (iI (bz w0)), .int (iI (bz n0)), .int (iI c0)])), ((ro α), .inl (cI, 36, .inl (dg V0))), (ht, .inr (1, [.ref ql, .int (iI ((sN + 1 : Nat) : Int)), .int (iI ((ta : Nat) : Int)), .int (iI tc)])), (ql, .inl (cI, 48, .inl (fun j => iI (txs tN sN 32 j))))] ++ RR1 ad ro cI cs α) 0 0 104 [(3, .ref (ad α)), (0, .ref h), (1, .int (iI ((α : Nat) : Int))), (2, .int (iI st))] []
            refine TGo.subT (w' := [(h, .inr (3, [.int (iI ((P : Nat) : Int)), .int (iI ((Sc : Nat) : Int)), .int (iI m), .ref qam, .ref qrat, .ref qrm, .ref hw, .ref hsh, .ref ht])), (qam, .inl (cM, 8, .inr (.inr (.inr (.inr (fun i => some (ad i))))))), (hw, .inr (2, [.ref qrow, .ref qfac, .int (iI (bz n0)), .int (iI 0)])), (qrow, .inl (cI, 72, .inl (dg (fmQ c0 n0 V0 * 10 ^ (20 - tdig c0))))), (ht, .inr (1, [.ref ql, .int (iI ((sN + 1 : Nat) : Int)), .int (iI ((ta : Nat) : Int)), .int (iI tc)])), (ql, .inl (cI, 48, .inl (fun j => iI (txs tN sN 32 j)))), ((ad α), .inr (0, [.ref (ro α), .int (iI 1), .int (iI (bz w0)), .int (iI (bz n0)), .int (iI c0)])), ((ro α), .inl (cI, 36, .inl (dg V0)))]) (RR1 ad ro cI cs α) [0, 1, 2, 3, 6, 7, 4, 5] (by decide) rfl ?_
            refine go_aload_n O dX3_format_104 rfl 1 rfl 105 rfl ?_
            refine go_get O hK dX3_format_105 hinX3 0 rfl rfl 8 (by decide) flX3_56 rfl 108 rfl ?_
            refine go_aload_n O dX3_format_108 rfl 0 rfl 109 rfl ?_
            refine go_get O hK dX3_format_109 hinX0 6 rfl rfl 4 (by decide) flX3_100 rfl 112 rfl ?_
            refine go_callvVT (As := [.int (iI c0)]) (rest := []) (wr := [(h, .inr (3, [.int (iI ((P : Nat) : Int)), .int (iI ((Sc : Nat) : Int)), .int (iI m), .ref qam, .ref qrat, .ref qrm, .ref hw, .ref hsh, .ref ht])), (qam, .inl (cM, 8, .inr (.inr (.inr (.inr (fun i => some (ad i))))))), (hw, .inr (2, [.ref qrow, .ref qfac, .int (iI (bz n0)), .int (iI 0)])), (qrow, .inl (cI, 72, .inl (dg (fmQ c0 n0 V0 * 10 ^ (20 - tdig c0))))), ((ad α), .inr (0, [.ref (ro α), .int (iI 1), .int (iI (bz w0)), .int (iI (bz n0)), .int (iI c0)])), ((ro α), .inl (cI, 36, .inl (dg V0)))]) (RR1 ad ro cI cs α) O hK hE (c_X1_appendCode E hE ht ql cI (txs tN sN 32) (txs_r hNr (by omega)) (sN + 1) ta tc c0 (by omega) (by omega)) mlX3_172 imX1_appendCode seX1_appendCode inX1 cdX1_appendCode 1 (by decide +kernel) ⟨Nat.le_of_ble_eq_true rfl, Nat.le_of_ble_eq_true rfl⟩ 4 rfl rfl [0] rfl [4, 5] rfl (by decide) [0, 1, 2, 3, 6, 7] rfl (by decide) (by decide) rfl rfl (Nat.le_of_ble_eq_true rfl) ⟨Nat.zero_le _, Nat.zero_le _⟩ dX3_format_112 115 rfl (fun u hu => ?_)
            obtain ⟨tA, sA⟩ := u
            have hAr := tapp_r (codL c0) (txs tN sN 32, sN + 1) (txs_r hNr (by omega)) (fun x hx => by have e : x = 65 + c0 := (by simpa [codL] using hx); rw [e]; constructor <;> omega)
            rw [← hu] at hAr
            have hAs := tapp_sz (codL c0) (txs tN sN 32, sN + 1)
            rw [← hu] at hAs
            have hAs2 : sA = sN + 1 + 3 := hAs
            have hcu := hu
            show TGo X ([(h, .inr (3, [.int (iI ((P : Nat) : Int)), .int (iI ((Sc : Nat) : Int)), .int (iI m), .ref qam, .ref qrat, .ref qrm, .ref hw, .ref hsh, .ref ht])), (qam, .inl (cM, 8, .inr (.inr (.inr (.inr (fun i => some (ad i))))))), (hw, .inr (2, [.ref qrow, .ref qfac, .int (iI (bz n0)), .int (iI 0)])), (qrow, .inl (cI, 72, .inl (dg (fmQ c0 n0 V0 * 10 ^ (20 - tdig c0))))), ((ad α), .inr (0, [.ref (ro α), .int (iI 1), .int (iI (bz w0)), .int (iI (bz n0)), .int (iI c0)])), ((ro α), .inl (cI, 36, .inl (dg V0))), (ht, .inr (1, [.ref ql, .int (iI ((sA : Nat) : Int)), .int (iI ((ta : Nat) : Int)), .int (iI tc)])), (ql, .inl (cI, 48, .inl (fun j => iI (tA j))))] ++ RR1 ad ro cI cs α) 0 0 115 [(3, .ref (ad α)), (0, .ref h), (1, .int (iI ((α : Nat) : Int))), (2, .int (iI st))] []
            refine TGo.subT (w' := [(h, .inr (3, [.int (iI ((P : Nat) : Int)), .int (iI ((Sc : Nat) : Int)), .int (iI m), .ref qam, .ref qrat, .ref qrm, .ref hw, .ref hsh, .ref ht])), (qam, .inl (cM, 8, .inr (.inr (.inr (.inr (fun i => some (ad i))))))), (hw, .inr (2, [.ref qrow, .ref qfac, .int (iI (bz n0)), .int (iI 0)])), (qrow, .inl (cI, 72, .inl (dg (fmQ c0 n0 V0 * 10 ^ (20 - tdig c0))))), (ht, .inr (1, [.ref ql, .int (iI ((sA : Nat) : Int)), .int (iI ((ta : Nat) : Int)), .int (iI tc)])), (ql, .inl (cI, 48, .inl (fun j => iI (tA j)))), ((ad α), .inr (0, [.ref (ro α), .int (iI 1), .int (iI (bz w0)), .int (iI (bz n0)), .int (iI c0)])), ((ro α), .inl (cI, 36, .inl (dg V0)))]) (RR1 ad ro cI cs α) [0, 1, 2, 3, 6, 7, 4, 5] (by decide) rfl ?_
            refine go_goto O dX3_format_115 147 (by decide) ?_
            refine go_aload_n O dX3_format_147 rfl 1 rfl 148 rfl ?_
            refine go_get O hK dX3_format_148 hinX3 0 rfl rfl 8 (by decide) flX3_56 rfl 151 rfl ?_
            refine go_get O hK dX3_format_151 hinX1 4 rfl rfl 1 (by decide) flX3_162 rfl 154 rfl ?_
            refine TGo.backC0 [(h, .inr (3, [.int (iI ((P : Nat) : Int)), .int (iI ((Sc : Nat) : Int)), .int (iI m), .ref qam, .ref qrat, .ref qrm, .ref hw, .ref hsh, .ref ht])), (qam, .inl (cM, 8, .inr (.inr (.inr (.inr (fun i => some (ad i))))))), (hw, .inr (2, [.ref qrow, .ref qfac, .int (iI (bz n0)), .int (iI 0)])), (qrow, .inl (cI, 72, .inl (dg (fmQ c0 n0 V0 * 10 ^ (20 - tdig c0))))), (ht, .inr (1, [.ref ql, .int (iI ((sA : Nat) : Int)), .int (iI ((ta : Nat) : Int)), .int (iI tc)])), (ql, .inl (cI, 48, .inl (fun j => iI (tA j))))] α (by omega) hcs ?_
            show TGo X ([(h, .inr (3, [.int (iI ((P : Nat) : Int)), .int (iI ((Sc : Nat) : Int)), .int (iI m), .ref qam, .ref qrat, .ref qrm, .ref hw, .ref hsh, .ref ht])), (qam, .inl (cM, 8, .inr (.inr (.inr (.inr (fun i => some (ad i))))))), (hw, .inr (2, [.ref qrow, .ref qfac, .int (iI (bz n0)), .int (iI 0)])), (qrow, .inl (cI, 72, .inl (dg (fmQ c0 n0 V0 * 10 ^ (20 - tdig c0))))), (ht, .inr (1, [.ref ql, .int (iI ((sA : Nat) : Int)), .int (iI ((ta : Nat) : Int)), .int (iI tc)])), (ql, .inl (cI, 48, .inl (fun j => iI (tA j))))] ++ RB ad ro cI cs) 0 0 154 [(3, .ref (ad α)), (0, .ref h), (1, .int (iI ((α : Nat) : Int))), (2, .int (iI st))] [.int (iI ((sA : Nat) : Int))]
            have he := spFmt_s (sz := sz) hb2 hq (show (tA, sA) = tapp (tx, 0) (fmtL c0 (fmQ c0 n0 V0) st (n0 && decide (0 < fmQ c0 n0 V0))) from (by rw [fmtL_1 (by split at h83 <;> omega), tapp_app, ← hnu]; exact hcu))
            exact hret _ _ _ ((tA, sA), dg (fmQ c0 n0 V0 * 10 ^ (20 - tdig c0)), n0, false) dX3_format_154 rfl ⟨by rw [he], by rw [he]⟩
      · refine go_bipush O dX3_format_17 (by decide) 19 rfl ?_
        have he := spFmt_b (reg := rof cs) (tx := tx) (sz := sz) (a := a) (st := st) (by omega)
        exact hret _ _ _ ((tx, sz), fw, ng, go) dX3_format_19 rfl ⟨by rw [he], by rw [he]⟩
