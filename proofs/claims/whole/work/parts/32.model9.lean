def spKind (reg : Rg) (a : Int) : Int :=
  if 0 ≤ a ∧ a < 8 then (match reg a.toNat with | none => -11 | some (c, w, _, _) => c + (if w = true then 8 else 0)) else -15
def spSign (reg : Rg) (a : Int) : Int :=
  if 0 ≤ a ∧ a < 8 then (match reg a.toNat with | none => -11 | some (_, _, n, V) => if n = true then -1 else if V = 0 then 0 else 1) else -15
def spDisc (reg : Rg) (a : Int) : Int × Rg :=
  if 0 ≤ a ∧ a < 8 then (match reg a.toNat with | none => (0, reg) | some _ => (1, rset reg a.toNat none)) else (0, reg)
theorem spKind_b {reg : Rg} {a : Int} (h : ¬ (0 ≤ a ∧ a < 8)) : -15 = spKind reg a := by unfold spKind; rw [if_neg h]
theorem spKind_n {reg : Rg} {α : Nat} (h : α < 8) (hq : reg α = none) : -11 = spKind reg (α : Int) := by
  unfold spKind; rw [if_pos (by omega), show (α : Int).toNat = α from rfl, hq]
theorem spKind_s {reg : Rg} {α V : Nat} {c : Int} {w n : Bool} (h : α < 8) (hq : reg α = some (c, w, n, V)) : spKind reg (α : Int) = c + 8 * bz w := by
  unfold spKind; rw [if_pos (by omega), show (α : Int).toNat = α from rfl, hq]
  cases w <;> rfl
theorem spSign_b {reg : Rg} {a : Int} (h : ¬ (0 ≤ a ∧ a < 8)) : -15 = spSign reg a := by unfold spSign; rw [if_neg h]
theorem spSign_n {reg : Rg} {α : Nat} (h : α < 8) (hq : reg α = none) : -11 = spSign reg (α : Int) := by
  unfold spSign; rw [if_pos (by omega), show (α : Int).toNat = α from rfl, hq]
theorem spSign_s {reg : Rg} {α V : Nat} {c z : Int} {w n : Bool} (h : α < 8) (hq : reg α = some (c, w, n, V)) (hz : (z = -1 ∧ bz n = 1) ∨ (z = 0 ∧ bz n = 0 ∧ V = 0) ∨ (z = 1 ∧ bz n = 0 ∧ V ≠ 0)) : z = spSign reg (α : Int) := by
  unfold spSign; rw [if_pos (by omega), show (α : Int).toNat = α from rfl, hq]
  show z = if n = true then -1 else if V = 0 then 0 else 1
  rcases hz with ⟨h1, h2⟩ | ⟨h1, h2, h3⟩ | ⟨h1, h2, h3⟩
  · rw [if_pos (bz_1.mp h2)]; exact h1
  · rw [if_neg (by rw [bz_0.mp h2]; decide), if_pos h3]; exact h1
  · rw [if_neg (by rw [bz_0.mp h2]; decide), if_neg h3]; exact h1
theorem spDisc_b {reg : Rg} {a : Int} (h : ¬ (0 ≤ a ∧ a < 8)) : spDisc reg a = (0, reg) := by unfold spDisc; rw [if_neg h]
theorem spDisc_n {reg : Rg} {α : Nat} (h : α < 8) (hq : reg α = none) : spDisc reg (α : Int) = (0, reg) := by
  unfold spDisc; rw [if_pos (by omega), show (α : Int).toNat = α from rfl, hq]
theorem spDisc_s {reg : Rg} {α V : Nat} {c : Int} {w n : Bool} (h : α < 8) (hq : reg α = some (c, w, n, V)) : spDisc reg (α : Int) = (1, rset reg α none) := by
  unfold spDisc; rw [if_pos (by omega), show (α : Int).toNat = α from rfl, hq]
theorem MR_drop {fc fw fn K : Nat → Int32} {reg : Rg} {ρ : Nat} (h : MR fc fw fn K reg) : MR (upd fc ρ (iI (-1))) fw fn K (rset reg ρ none) := by
  intro σ hσ
  unfold rset
  by_cases e : σ = ρ
  · subst e; rw [if_pos rfl]; exact upd_s
  · rw [if_neg e]
    have h3 := h σ hσ
    unfold regM at h3 ⊢
    split
    · next e2 => rw [e2] at h3; rw [upd_n e]; exact h3
    · next e2 => rw [e2] at h3; rw [upd_n e]; exact h3
set_option maxHeartbeats 4000000 in
set_option maxRecDepth 100000 in
/-- kind -/
theorem c_X4_kind (E : TEn) (hE : EnvOk E) (h : Nat) (fs : List Value) {qcurrency qisWide : Nat} (f_currency : fs[3]? = some (.ref qcurrency)) (f_isWide : fs[4]? = some (.ref qisWide)) (cI cZ : ClassId) (fc fw fn K : Nat → Int32) (reg : Rg) (a : Int) (ha : r32 a) (hMR : MR fc fw fn K reg) : Cti vwCl E yX4_kind wsX4_kind (rmn 1 21) [.ref h, .int (iI a)] [(h, .inr (4, fs)), (qcurrency, .inl (cI, 8, .inl fc)), (qisWide, .inl (cZ, 8, .inl fw))] [(cI, .int), (cZ, .boolean)] (fun (z : Int) (_ : Unit) => z = spKind reg a) (fun _ => [(h, .inr (4, fs)), (qcurrency, .inl (cI, 8, .inl fc)), (qisWide, .inl (cZ, 8, .inl fw))]) := by
  refine enteri (by decide) (Nat.le_of_ble_eq_true rfl) ?_
  intro X O hK hin2 hret
  show TGo X [(h, .inr (4, fs)), (qcurrency, .inl (cI, 8, .inl fc)), (qisWide, .inl (cZ, 8, .inl fw))] 0 0 0 [(0, .ref h), (1, .int (iI a))] []
  have o1 := tout_i (x := a) (e := 8)
  refine go_iload_n O dX4_kind_0 rfl 1 rfl 1 rfl ?_
  refine go_bipush O dX4_kind_1 (by decide) 3 rfl ?_
  refine go_calliS (rest := []) (wr := [(h, .inr (4, fs)), (qcurrency, .inl (cI, 8, .inl fc)), (qisWide, .inl (cZ, 8, .inl fw))]) O hK hE (c_X4_outside E hE a 8 (by omega) (by omega)) mlX4_123 smX4_outside inX4 cdX4_outside 2 (by decide +kernel) ⟨Nat.le_of_ble_eq_true rfl, Nat.le_of_ble_eq_true rfl⟩ [] rfl [] rfl (by decide) [0, 1, 2] rfl (by decide) (by decide) rfl rfl (Nat.le_of_ble_eq_true rfl) ⟨Nat.zero_le _, Nat.zero_le _⟩ dX4_kind_3 6 rfl (fun z u hu => ?_)
  subst hu
  show TGo X [(h, .inr (4, fs)), (qcurrency, .inl (cI, 8, .inl fc)), (qisWide, .inl (cZ, 8, .inl fw))] 0 0 6 [(0, .ref h), (1, .int (iI a))] [.int (iI (bz (tout a 8)))]
  refine go_if_eq O dX4_kind_6 14 (by decide) 9 rfl (bz_r _) (fun h6 => ?_) (fun h6 => ?_)
  · obtain ⟨α, rfl⟩ : ∃ α : Nat, a = (α : Int) := ⟨a.toNat, by omega⟩
    have hα8 : α < 8 := by omega
    have hα := hMR α hα8
    rcases hq : reg α with _ | ⟨c0, w0, n0, V0⟩
    · rw [hq] at hα
      refine go_aload_n O dX4_kind_14 rfl 0 rfl 15 rfl ?_
      refine go_get O hK dX4_kind_15 hinX4 0 rfl rfl 3 (by decide) flX4_7 f_currency 18 rfl ?_
      refine go_iload_n O dX4_kind_18 rfl 1 rfl 19 rfl ?_
      refine go_iald O hK dX4_kind_19 1 0 rfl rfl α rfl (by omega) (by omega) (-1) hα 20 rfl ?_
      refine go_if_ge O dX4_kind_20 28 (by decide) 23 rfl (by omega) (fun h20 => by omega) (fun h20 => ?_)
      refine go_bipush O dX4_kind_23 (by decide) 25 rfl ?_
      refine go_goto O dX4_kind_25 50 (by decide) ?_
      exact hret _ _ _ () dX4_kind_50 rfl (spKind_n hα8 hq)
    · rw [hq] at hα
      obtain ⟨hc0, e1, e2, e3, hV0, hz0, hK0⟩ := hα
      have b0 := bz_01 n0
      have b1 := bz_01 w0
      refine go_aload_n O dX4_kind_14 rfl 0 rfl 15 rfl ?_
      refine go_get O hK dX4_kind_15 hinX4 0 rfl rfl 3 (by decide) flX4_7 f_currency 18 rfl ?_
      refine go_iload_n O dX4_kind_18 rfl 1 rfl 19 rfl ?_
      refine go_iald O hK dX4_kind_19 1 0 rfl rfl α rfl (by omega) (by omega) c0 e1 20 rfl ?_
      refine go_if_ge O dX4_kind_20 28 (by decide) 23 rfl (by omega) (fun h20 => ?_) (fun h20 => by omega)
      refine go_aload_n O dX4_kind_28 rfl 0 rfl 29 rfl ?_
      refine go_get O hK dX4_kind_29 hinX4 0 rfl rfl 3 (by decide) flX4_7 f_currency 32 rfl ?_
      refine go_iload_n O dX4_kind_32 rfl 1 rfl 33 rfl ?_
      refine go_iald O hK dX4_kind_33 1 0 rfl rfl α rfl (by omega) (by omega) c0 e1 34 rfl ?_
      refine go_aload_n O dX4_kind_34 rfl 0 rfl 35 rfl ?_
      refine go_get O hK dX4_kind_35 hinX4 0 rfl rfl 4 (by decide) flX4_13 f_isWide 38 rfl ?_
      refine go_iload_n O dX4_kind_38 rfl 1 rfl 39 rfl ?_
      refine go_zald O hK dX4_kind_39 2 1 rfl rfl α rfl (by omega) (by omega) (bz w0) e2 40 rfl ?_
      refine go_if_eq O dX4_kind_40 48 (by decide) 43 rfl (by omega) (fun h40 => ?_) (fun h40 => ?_)
      · refine go_iconst O dX4_kind_48 49 rfl ?_
        refine go_iadd O dX4_kind_49 (c0 + 0) rfl 50 rfl ?_
        exact hret _ _ _ () dX4_kind_50 rfl (by rw [spKind_s hα8 hq]; omega)
      · refine go_bipush O dX4_kind_43 (by decide) 45 rfl ?_
        refine go_goto O dX4_kind_45 49 (by decide) ?_
        refine go_iadd O dX4_kind_49 (c0 + 8) rfl 50 rfl ?_
        exact hret _ _ _ () dX4_kind_50 rfl (by rw [spKind_s hα8 hq]; omega)
  · refine go_bipush O dX4_kind_9 (by decide) 11 rfl ?_
    refine go_goto O dX4_kind_11 50 (by decide) ?_
    exact hret _ _ _ () dX4_kind_50 rfl (spKind_b (by omega))
set_option maxHeartbeats 4000000 in
set_option maxRecDepth 100000 in
/-- sign -/
theorem c_X4_sign (E : TEn) (hE : EnvOk E) (h : Nat) (fs : List Value) {qcurrency qnegative qkept qnum : Nat} (f_currency : fs[3]? = some (.ref qcurrency)) (f_negative : fs[5]? = some (.ref qnegative)) (f_kept : fs[6]? = some (.ref qkept)) (f_num : fs[10]? = some (.ref qnum)) (cI cZ : ClassId) (fc fw fn K fnum : Nat → Int32) (reg : Rg) (a : Int) (ha : r32 a) (hMR : MR fc fw fn K reg) : Cti vwCl E yX4_sign wsX4_sign (rmn 2 44) [.ref h, .int (iI a)] [(h, .inr (4, fs)), (qcurrency, .inl (cI, 8, .inl fc)), (qnegative, .inl (cZ, 8, .inl fn)), (qkept, .inl (cI, 320, .inl K)), (qnum, .inl (cI, 80, .inl fnum))] [(cI, .int), (cZ, .boolean)] (fun (z : Int) (_ : Nat → Int32) => z = spSign reg a) (fun u => [(h, .inr (4, fs)), (qcurrency, .inl (cI, 8, .inl fc)), (qnegative, .inl (cZ, 8, .inl fn)), (qkept, .inl (cI, 320, .inl K)), (qnum, .inl (cI, 80, .inl u))]) := by
  refine enteri (by decide) (Nat.le_of_ble_eq_true rfl) ?_
  intro X O hK hin2 hret
  show TGo X [(h, .inr (4, fs)), (qcurrency, .inl (cI, 8, .inl fc)), (qnegative, .inl (cZ, 8, .inl fn)), (qkept, .inl (cI, 320, .inl K)), (qnum, .inl (cI, 80, .inl fnum))] 0 0 0 [(0, .ref h), (1, .int (iI a))] []
  have o1 := tout_i (x := a) (e := 8)
  refine go_iload_n O dX4_sign_0 rfl 1 rfl 1 rfl ?_
  refine go_bipush O dX4_sign_1 (by decide) 3 rfl ?_
  refine go_calliS (rest := []) (wr := [(h, .inr (4, fs)), (qcurrency, .inl (cI, 8, .inl fc)), (qnegative, .inl (cZ, 8, .inl fn)), (qkept, .inl (cI, 320, .inl K)), (qnum, .inl (cI, 80, .inl fnum))]) O hK hE (c_X4_outside E hE a 8 (by omega) (by omega)) mlX4_123 smX4_outside inX4 cdX4_outside 2 (by decide +kernel) ⟨Nat.le_of_ble_eq_true rfl, Nat.le_of_ble_eq_true rfl⟩ [] rfl [] rfl (by decide) [0, 1, 2, 3, 4] rfl (by decide) (by decide) rfl rfl (Nat.le_of_ble_eq_true rfl) ⟨Nat.zero_le _, Nat.zero_le _⟩ dX4_sign_3 6 rfl (fun z u hu => ?_)
  subst hu
  show TGo X [(h, .inr (4, fs)), (qcurrency, .inl (cI, 8, .inl fc)), (qnegative, .inl (cZ, 8, .inl fn)), (qkept, .inl (cI, 320, .inl K)), (qnum, .inl (cI, 80, .inl fnum))] 0 0 6 [(0, .ref h), (1, .int (iI a))] [.int (iI (bz (tout a 8)))]
  refine go_if_eq O dX4_sign_6 12 (by decide) 9 rfl (bz_r _) (fun h6 => ?_) (fun h6 => ?_)
  · obtain ⟨α, rfl⟩ : ∃ α : Nat, a = (α : Int) := ⟨a.toNat, by omega⟩
    have hα8 : α < 8 := by omega
    have hα := hMR α hα8
    rcases hq : reg α with _ | ⟨c0, w0, n0, V0⟩
    · rw [hq] at hα
      refine go_aload_n O dX4_sign_12 rfl 0 rfl 13 rfl ?_
      refine go_get O hK dX4_sign_13 hinX4 0 rfl rfl 3 (by decide) flX4_7 f_currency 16 rfl ?_
      refine go_iload_n O dX4_sign_16 rfl 1 rfl 17 rfl ?_
      refine go_iald O hK dX4_sign_17 1 0 rfl rfl α rfl (by omega) (by omega) (-1) hα 18 rfl ?_
      refine go_if_ge O dX4_sign_18 24 (by decide) 21 rfl (by omega) (fun h18 => by omega) (fun h18 => ?_)
      refine go_bipush O dX4_sign_21 (by decide) 23 rfl ?_
      exact hret _ _ _ fnum dX4_sign_23 rfl (spSign_n hα8 hq)
    · rw [hq] at hα
      obtain ⟨hc0, e1, e2, e3, hV0, hz0, hK0⟩ := hα
      have b0 := bz_01 n0
      have b1 := bz_01 w0
      refine go_aload_n O dX4_sign_12 rfl 0 rfl 13 rfl ?_
      refine go_get O hK dX4_sign_13 hinX4 0 rfl rfl 3 (by decide) flX4_7 f_currency 16 rfl ?_
      refine go_iload_n O dX4_sign_16 rfl 1 rfl 17 rfl ?_
      refine go_iald O hK dX4_sign_17 1 0 rfl rfl α rfl (by omega) (by omega) c0 e1 18 rfl ?_
      refine go_if_ge O dX4_sign_18 24 (by decide) 21 rfl (by omega) (fun h18 => ?_) (fun h18 => by omega)
      refine go_aload_n O dX4_sign_24 rfl 0 rfl 25 rfl ?_
      refine go_aload_n O dX4_sign_25 rfl 0 rfl 26 rfl ?_
      refine go_get O hK dX4_sign_26 hinX4 0 rfl rfl 10 (by decide) flX4_29 f_num 29 rfl ?_
      refine go_iload_n O dX4_sign_29 rfl 1 rfl 30 rfl ?_
      refine go_callvV (As := [.ref qnum, .int (iI ((α : Nat) : Int))]) (rest := []) (wr := [(qcurrency, .inl (cI, 8, .inl fc)), (qnegative, .inl (cZ, 8, .inl fn))]) O hK hE (c_X4_take E hE h fs f_kept qnum cI K fnum α V0 hα8 (by omega) hK0) mlX4_131 imX4_take seX4_take inX4 cdX4_take 2 (by decide +kernel) ⟨Nat.le_of_ble_eq_true rfl, Nat.le_of_ble_eq_true rfl⟩ 0 rfl rfl [0] rfl [0, 3, 4] rfl (by decide) [1, 2] rfl (by decide) (by decide) rfl rfl (Nat.le_of_ble_eq_true rfl) ⟨Nat.zero_le _, Nat.zero_le _⟩ dX4_sign_30 33 rfl (fun u hu => ?_)
      show TGo X [(qcurrency, .inl (cI, 8, .inl fc)), (qnegative, .inl (cZ, 8, .inl fn)), (h, .inr (4, fs)), (qkept, .inl (cI, 320, .inl K)), (qnum, .inl (cI, 80, .inl (dg V0)))] 0 0 33 [(0, .ref h), (1, .int (iI ((α : Nat) : Int)))] []
      refine TGo.sub (ws' := [(h, .inr (4, fs)), (qcurrency, .inl (cI, 8, .inl fc)), (qnegative, .inl (cZ, 8, .inl fn)), (qkept, .inl (cI, 320, .inl K)), (qnum, .inl (cI, 80, .inl (dg V0)))]) [2, 0, 1, 3, 4] (by decide) rfl ?_
      refine go_aload_n O dX4_sign_33 rfl 0 rfl 34 rfl ?_
      refine go_get O hK dX4_sign_34 hinX4 0 rfl rfl 5 (by decide) flX4_17 f_negative 37 rfl ?_
      refine go_iload_n O dX4_sign_37 rfl 1 rfl 38 rfl ?_
      refine go_zald O hK dX4_sign_38 2 1 rfl rfl α rfl (by omega) (by omega) (bz n0) e3 39 rfl ?_
      refine go_if_eq O dX4_sign_39 46 (by decide) 42 rfl (by omega) (fun h39 => ?_) (fun h39 => ?_)
      · refine go_aload_n O dX4_sign_46 rfl 0 rfl 47 rfl ?_
        refine go_get O hK dX4_sign_47 hinX4 0 rfl rfl 10 (by decide) flX4_29 f_num 50 rfl ?_
        refine go_calliS (rest := []) (wr := [(h, .inr (4, fs)), (qcurrency, .inl (cI, 8, .inl fc)), (qnegative, .inl (cZ, 8, .inl fn)), (qkept, .inl (cI, 320, .inl K))]) O hK hE (c_X4_size E hE qnum cI V0 (Nat.lt_of_lt_of_le hV0 (p10le (by omega)))) mlX4_78 smX4_size inX4 cdX4_size 1 (by decide +kernel) ⟨Nat.le_of_ble_eq_true rfl, Nat.le_of_ble_eq_true rfl⟩ [0] rfl [4] rfl (by decide) [0, 1, 2, 3] rfl (by decide) (by decide) rfl rfl (Nat.le_of_ble_eq_true rfl) ⟨Nat.zero_le _, Nat.zero_le _⟩ dX4_sign_50 53 rfl (fun z u hu => ?_)
        subst hu
        have t0 := tnds_0iff (N := V0)
        have t1 := tnds_mono hV0
        show TGo X [(h, .inr (4, fs)), (qcurrency, .inl (cI, 8, .inl fc)), (qnegative, .inl (cZ, 8, .inl fn)), (qkept, .inl (cI, 320, .inl K)), (qnum, .inl (cI, 80, .inl (dg V0)))] 0 0 53 [(0, .ref h), (1, .int (iI ((α : Nat) : Int)))] [.int (iI ((tnds V0 : Nat) : Int))]
        refine go_if_ne O dX4_sign_53 60 (by decide) 56 rfl (by omega) (fun h53 => ?_) (fun h53 => ?_)
        · refine go_iconst O dX4_sign_60 61 rfl ?_
          exact hret _ _ _ (dg V0) dX4_sign_61 rfl (spSign_s hα8 hq (by omega))
        · refine go_iconst O dX4_sign_56 57 rfl ?_
          refine go_goto O dX4_sign_57 61 (by decide) ?_
          exact hret _ _ _ (dg V0) dX4_sign_61 rfl (spSign_s hα8 hq (by omega))
      · refine go_iconst O dX4_sign_42 43 rfl ?_
        refine go_goto O dX4_sign_43 61 (by decide) ?_
        exact hret _ _ _ (dg V0) dX4_sign_61 rfl (spSign_s hα8 hq (by omega))
  · refine go_bipush O dX4_sign_9 (by decide) 11 rfl ?_
    exact hret _ _ _ fnum dX4_sign_11 rfl (spSign_b (by omega))
set_option maxHeartbeats 4000000 in
set_option maxRecDepth 100000 in
/-- discard -/
theorem c_X4_discard (E : TEn) (hE : EnvOk E) (h : Nat) (fs : List Value) {qcurrency : Nat} (f_currency : fs[3]? = some (.ref qcurrency)) (cI : ClassId) (fc fw fn K : Nat → Int32) (reg : Rg) (a : Int) (ha : r32 a) (hMR : MR fc fw fn K reg) : Cti vwCl E yX4_discard wsX4_discard (rmn 1 21) [.ref h, .int (iI a)] [(h, .inr (4, fs)), (qcurrency, .inl (cI, 8, .inl fc))] [(cI, .int)] (fun (z : Int) (u : Nat → Int32) => z = (spDisc reg a).1 ∧ MR u fw fn K (spDisc reg a).2) (fun u => [(h, .inr (4, fs)), (qcurrency, .inl (cI, 8, .inl u))]) := by
  refine enteri (by decide) (Nat.le_of_ble_eq_true rfl) ?_
  intro X O hK hin2 hret
  show TGo X [(h, .inr (4, fs)), (qcurrency, .inl (cI, 8, .inl fc))] 0 0 0 [(0, .ref h), (1, .int (iI a))] []
  have o1 := tout_i (x := a) (e := 8)
  refine go_iload_n O dX4_discard_0 rfl 1 rfl 1 rfl ?_
  refine go_bipush O dX4_discard_1 (by decide) 3 rfl ?_
  refine go_calliS (rest := []) (wr := [(h, .inr (4, fs)), (qcurrency, .inl (cI, 8, .inl fc))]) O hK hE (c_X4_outside E hE a 8 (by omega) (by omega)) mlX4_123 smX4_outside inX4 cdX4_outside 2 (by decide +kernel) ⟨Nat.le_of_ble_eq_true rfl, Nat.le_of_ble_eq_true rfl⟩ [] rfl [] rfl (by decide) [0, 1] rfl (by decide) (by decide) rfl rfl (Nat.le_of_ble_eq_true rfl) ⟨Nat.zero_le _, Nat.zero_le _⟩ dX4_discard_3 6 rfl (fun z u hu => ?_)
  subst hu
  show TGo X [(h, .inr (4, fs)), (qcurrency, .inl (cI, 8, .inl fc))] 0 0 6 [(0, .ref h), (1, .int (iI a))] [.int (iI (bz (tout a 8)))]
  refine go_if_ne O dX4_discard_6 18 (by decide) 9 rfl (bz_r _) (fun h6 => ?_) (fun h6 => ?_)
  · refine go_iconst O dX4_discard_18 19 rfl ?_
    have he := spDisc_b (reg := reg) (a := a) (by omega)
    exact hret _ _ _ fc dX4_discard_19 rfl ⟨by rw [he], by rw [he]; exact hMR⟩
  · obtain ⟨α, rfl⟩ : ∃ α : Nat, a = (α : Int) := ⟨a.toNat, by omega⟩
    have hα8 : α < 8 := by omega
    have hα := hMR α hα8
    rcases hq : reg α with _ | ⟨c0, w0, n0, V0⟩
    · rw [hq] at hα
      refine go_aload_n O dX4_discard_9 rfl 0 rfl 10 rfl ?_
      refine go_get O hK dX4_discard_10 hinX4 0 rfl rfl 3 (by decide) flX4_7 f_currency 13 rfl ?_
      refine go_iload_n O dX4_discard_13 rfl 1 rfl 14 rfl ?_
      refine go_iald O hK dX4_discard_14 1 0 rfl rfl α rfl (by omega) (by omega) (-1) hα 15 rfl ?_
      refine go_if_ge O dX4_discard_15 20 (by decide) 18 rfl (by omega) (fun h15 => by omega) (fun h15 => ?_)
      refine go_iconst O dX4_discard_18 19 rfl ?_
      have he := spDisc_n hα8 hq
      exact hret _ _ _ fc dX4_discard_19 rfl ⟨by rw [he], by rw [he]; exact hMR⟩
    · rw [hq] at hα
      obtain ⟨hc0, e1, e2, e3, hV0, hz0, hK0⟩ := hα
      have b0 := bz_01 n0
      have b1 := bz_01 w0
      refine go_aload_n O dX4_discard_9 rfl 0 rfl 10 rfl ?_
      refine go_get O hK dX4_discard_10 hinX4 0 rfl rfl 3 (by decide) flX4_7 f_currency 13 rfl ?_
      refine go_iload_n O dX4_discard_13 rfl 1 rfl 14 rfl ?_
      refine go_iald O hK dX4_discard_14 1 0 rfl rfl α rfl (by omega) (by omega) c0 e1 15 rfl ?_
      refine go_if_ge O dX4_discard_15 20 (by decide) 18 rfl (by omega) (fun h15 => ?_) (fun h15 => by omega)
      refine go_aload_n O dX4_discard_20 rfl 0 rfl 21 rfl ?_
      refine go_get O hK dX4_discard_21 hinX4 0 rfl rfl 3 (by decide) flX4_7 f_currency 24 rfl ?_
      refine go_iload_n O dX4_discard_24 rfl 1 rfl 25 rfl ?_
      refine go_iconst O dX4_discard_25 26 rfl ?_
      refine go_iast O hK dX4_discard_26 1 0 rfl rfl α rfl (by omega) (by omega) (upd fc α (iI (-1))) (fun _ _ => rfl) [(h, .inr (4, fs)), (qcurrency, .inl (cI, 8, .inl (upd fc α (iI (-1)))))] rfl 27 rfl ?_
      refine go_iconst O dX4_discard_27 28 rfl ?_
      have he := spDisc_s hα8 hq
      exact hret _ _ _ (upd fc α (iI (-1))) dX4_discard_28 rfl ⟨by rw [he], by rw [he]; exact MR_drop hMR⟩
