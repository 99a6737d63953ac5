theorem wrz_o {tx : Nat → Int} {sz a : Nat} {st : Int} (ok : Bool) : wrz ok a = wrz ok (a + (rdO tx sz st (ok, a)).toNat) := by cases ok <;> rfl
theorem rdE_ok {tx : Nat → Int} {sz b : Nat} {c : Int} {o : Bool} (h : (rdE tx sz c (o, b)).1 = true) : o = true := by
  cases o
  · rw [rdE_f] at h; exact h
  · rfl
theorem rdB_ok {tx : Nat → Int} {sz a : Nat} {g ok : Bool} (h : (rdB tx sz g (ok, a)).1 = true) : ok = true := by
  cases ok
  · rw [rdB_f] at h; exact h
  · rfl
theorem rdN_ok {tx : Nat → Int} {sz a : Nat} {st : Int} {ok : Bool} (h : (rdN tx sz st (ok, a)).1 = true) : ok = true := by
  cases ok
  · rw [rdN_f] at h; exact h
  · rfl
theorem rdN_y {tx : Nat → Int} {sz a : Nat} {st : Int} {ok : Bool} (h : rdO tx sz st (ok, a) = true ∧ 4 ≤ st) : rdN tx sz st (ok, a) = rdE tx sz 41 (rdB tx sz (decide (st % 2 = 1)) (ok, a + (rdO tx sz st (ok, a)).toNat)) := by unfold rdN; rw [if_pos h]; rfl
theorem rdN_n {tx : Nat → Int} {sz a : Nat} {st : Int} {ok : Bool} (h : ¬ (rdO tx sz st (ok, a) = true ∧ 4 ≤ st)) : rdN tx sz st (ok, a) = rdB tx sz (decide (st % 2 = 1)) (ok, a + (rdO tx sz st (ok, a)).toNat) := by unfold rdN; rw [if_neg h]; rfl
theorem rdN0_e {tx : Nat → Int} {sz a : Nat} {st : Int} {ok : Bool} : rdN0 tx sz st (ok, a) = (ok, a + (rdO tx sz st (ok, a)).toNat) := rfl
/-! parse as a function of the text. -/
def psA (tx : Nat → Int) (sz : Nat) (st : Int) : Bool × Nat := if 2 ≤ st % 4 then (true, 0) else rdE tx sz 32 (rdC tx sz (true, 0))
def psK (tx : Nat → Int) (sz : Nat) (st : Int) : Nat := if 2 ≤ st % 4 then (rdE tx sz 32 (rdN tx sz st (true, 0))).2 else 0
def psS (tx : Nat → Int) (sz : Nat) (st : Int) : Bool × Nat := if 2 ≤ st % 4 then rdC tx sz (rdE tx sz 32 (rdN tx sz st (true, 0))) else rdN tx sz st (rdE tx sz 32 (rdC tx sz (true, 0)))
def psN (tx : Nat → Int) (sz : Nat) (st : Int) : Nat := rdBn tx sz (decide (st % 2 = 1)) (rdN0 tx sz st (psA tx sz st))
def psBe (tx : Nat → Int) (sz : Nat) (st : Int) : Nat := rdBe tx sz (decide (st % 2 = 1)) (rdN0 tx sz st (psA tx sz st))
def psM (tx : Nat → Int) (sz : Nat) (st : Int) : Bool := rdO tx sz st (psA tx sz st)
theorem psBe_le (tx : Nat → Int) (sz : Nat) (st : Int) : psBe tx sz st ≤ 10 := by
  unfold psBe rdBe rdPk
  split
  · exact (dct_le tx sz 10 _).1
  · omega
theorem psS_le (tx : Nat → Int) (sz : Nat) (st : Int) : (psS tx sz st).2 ≤ sz := by
  unfold psS
  split
  · exact rdC_le (rdE_le (rdN_le (Nat.zero_le _))).1
  · exact rdN_le (rdE_le (rdC_le (Nat.zero_le _))).1
theorem ps_1 {tx : Nat → Int} {sz : Nat} {st : Int} (h : 2 ≤ st % 4) : psA tx sz st = (true, 0) ∧ psK tx sz st = (rdE tx sz 32 (rdN tx sz st (true, 0))).2 ∧ psS tx sz st = rdC tx sz (rdE tx sz 32 (rdN tx sz st (true, 0))) := by
  unfold psA psK psS
  rw [if_pos h, if_pos h, if_pos h]
  exact ⟨rfl, rfl, rfl⟩
theorem ps_0 {tx : Nat → Int} {sz : Nat} {st : Int} (h : ¬ 2 ≤ st % 4) : psA tx sz st = rdE tx sz 32 (rdC tx sz (true, 0)) ∧ psK tx sz st = 0 ∧ psS tx sz st = rdN tx sz st (rdE tx sz 32 (rdC tx sz (true, 0))) := by
  unfold psA psK psS
  rw [if_neg h, if_neg h, if_neg h]
  exact ⟨rfl, rfl, rfl⟩
/-- what is read is a currency -/
theorem ps_cu {tx : Nat → Int} {sz : Nat} {st : Int} (h : (psS tx sz st).1 = true) : 65 ≤ tx (psK tx sz st) ∧ tx (psK tx sz st) ≤ 70 := by
  by_cases e : 2 ≤ st % 4
  · rw [(ps_1 e).2.2] at h
    rw [(ps_1 e).2.1]
    exact (rdC_ok (ok := (rdE tx sz 32 (rdN tx sz st (true, 0))).1) (a := (rdE tx sz 32 (rdN tx sz st (true, 0))).2) h).2.2
  · rw [(ps_0 e).2.2] at h
    rw [(ps_0 e).2.1]
    have h1 := rdN_ok (ok := (rdE tx sz 32 (rdC tx sz (true, 0))).1) (a := (rdE tx sz 32 (rdC tx sz (true, 0))).2) h
    have h2 := rdE_ok (o := (rdC tx sz (true, 0)).1) (b := (rdC tx sz (true, 0)).2) h1
    exact (rdC_ok h2).2.2
def spPrs (P Sc : Nat) (m : Int) (reg : Rg) (tx : Nat → Int) (sz : Nat) (r : Int) (wide : Bool) (st : Int) : Int × Rg :=
  if (0 ≤ r ∧ r < 8) ∧ (0 ≤ st ∧ st < 8) then
    if (psS tx sz st).1 = true ∧ ¬ (psS tx sz st).2 < sz then
      (fun o => (ansO o, rstp reg r.toNat (tx (psK tx sz st) - 65) wide (psM tx sz st) o)) (tstl P Sc m wide (psM tx sz st) (psN tx sz st * 10 ^ (10 - psBe tx sz st)) 1)
    else (-100 - ((psS tx sz st).2 : Int), reg)
  else (-15, reg)
theorem spPrs_b {P Sc : Nat} {m : Int} {reg : Rg} {tx : Nat → Int} {sz : Nat} {r : Int} {wide : Bool} {st : Int} (h : ¬ ((0 ≤ r ∧ r < 8) ∧ (0 ≤ st ∧ st < 8))) : spPrs P Sc m reg tx sz r wide st = (-15, reg) := by unfold spPrs; rw [if_neg h]
theorem spPrs_x {P Sc : Nat} {m : Int} {reg : Rg} {tx : Nat → Int} {sz ρ : Nat} {wide : Bool} {st : Int} {o : Bool} {b : Nat} (h : ρ < 8 ∧ 0 ≤ st ∧ st < 8) (hS : (o, b) = psS tx sz st) (hx : bz o = 0 ∨ b < sz) : spPrs P Sc m reg tx sz (ρ : Int) wide st = (-100 - (b : Int), reg) := by
  unfold spPrs
  rw [if_pos (by omega), ← hS, if_neg]
  intro e
  rcases hx with hx | hx
  · rw [show o = true from e.1] at hx; cases hx
  · exact e.2 hx
theorem spPrs_ok {P Sc : Nat} {m : Int} {reg : Rg} {tx : Nat → Int} {sz ρ N1 : Nat} {wide : Bool} {st rc : Int} {o : Bool} {b : Nat} (h : ρ < 8 ∧ 0 ≤ st ∧ st < 8) (hS : (o, b) = psS tx sz st) (hx : o = true ∧ ¬ b < sz) (hN : N1 = psN tx sz st) (hc : rc = tx (psK tx sz st) - 65) : spPrs P Sc m reg tx sz (ρ : Int) wide st = (ansO (tstl P Sc m wide (psM tx sz st) (N1 * 10 ^ (10 - psBe tx sz st)) (Int.natAbs 1)), rstp reg ρ rc wide (psM tx sz st) (tstl P Sc m wide (psM tx sz st) (N1 * 10 ^ (10 - psBe tx sz st)) (Int.natAbs 1))) := by
  unfold spPrs
  rw [if_pos (by omega), ← hS, if_pos hx, hN, hc]
  rfl
theorem rdn_lo {g : Nat → Int32} {N q i : Nat} (hi : i < q) (h : ∀ j, q - i ≤ j → j < q → g j = dg N j) : ∀ j, q - (i + 1) ≤ j → j < q → upd g (q - 1 - i) (iI ((N / 10 ^ (q - 1 - i) % 10 : Nat) : Int)) j = dg N j := by
  intro j h1 h2
  by_cases e : j = q - 1 - i
  · subst e; rw [upd_s, dg_at]
  · rw [upd_n e]; exact h j (by omega) h2
theorem rdn_ot {g : Nat → Int32} {q i : Nat} {z : Int} (hi : i < q) (h : ∀ j, ¬ (q - i ≤ j ∧ j < q) → g j = iI 0) : ∀ j, ¬ (q - (i + 1) ≤ j ∧ j < q) → upd g (q - 1 - i) (iI z) j = iI 0 := by
  intro j h1
  rw [upd_n (by omega)]; exact h j (by omega)
theorem prs_bd {N q e : Nat} (h : N < 10 ^ q) (hq : q ≤ 48) : N * 10 ^ (10 - e) < 10 ^ 70 := by
  have h1 := p10le hq
  have h2 := p10le (a := 10 - e) (b := 10) (by omega)
  have h3 := Nat.mul_le_mul (show N ≤ 10 ^ 48 by omega) h2
  omega
theorem rdC_ge {tx : Nat → Int} {sz : Nat} {s : Bool × Nat} (h : s.2 ≤ sz) : s.2 ≤ (rdC tx sz s).2 := by
  unfold rdC
  split
  · have h1 := rdE_le (tx := tx) (c := tx s.2) h
    have h2 := rdE_le (tx := tx) (c := tx s.2) h1.1
    have h3 := rdE_le (tx := tx) (c := tx s.2) h2.1
    omega
  · exact Nat.le_refl _
set_option maxHeartbeats 4000000 in
set_option maxRecDepth 100000 in
/-- readNumber -/
theorem c_X4_readNumber (E : TEn) (hE : EnvOk E) (h : Nat) (p s m : Int) (qcurrency qisWide qnegative qkept qratios qtext qnum qbase qden qquo qrem qother qunits qparts qover qgiven qread : Nat) (cI : ClassId) (sz a : Nat) (ok : Bool) (dc : Nat) (be rc rn : Int) (tx : Nat → Int) (htx : ∀ j, r32 (tx j)) (hs : sz ≤ 48) (ha : a ≤ sz) (rd : Nat → Int32) (st : Int) (hst : 0 ≤ st ∧ st < 8) (hdc0 : dc = 0) (hbe : be = 0) : Ctv vwCl E yX4_readNumber wsX4_readNumber (rmn 4 86) [.ref h, .int (iI st)] [(h, .inr (4, MF p s m qcurrency qisWide qnegative qkept qratios qtext qnum qbase qden qquo qrem qother qunits qparts qover qgiven qread ((sz : Nat) : Int) ((a : Nat) : Int) (wrz ok a) ((dc : Nat) : Int) be rc rn)), (qtext, .inl (cI, 48, .inl (fun j => iI (tx j)))), (qread, .inl (cI, 48, .inl rd))] [(cI, .int)] (fun (u : (Bool × Nat) × Nat × (Nat → Int32) × Nat × Int) => u.1 = rdN tx sz st (ok, a) ∧ u.2.1 ≤ u.1.2 ∧ RDk u.2.2.1 u.2.2.2.1 u.2.1 ∧ (u.1.1 = true → u.2.2.2.1 = rdBn tx sz (decide (st % 2 = 1)) (rdN0 tx sz st (ok, a)) ∧ u.2.2.2.2 = ((rdBe tx sz (decide (st % 2 = 1)) (rdN0 tx sz st (ok, a)) : Nat) : Int))) (fun u => [(h, .inr (4, MF p s m qcurrency qisWide qnegative qkept qratios qtext qnum qbase qden qquo qrem qother qunits qparts qover qgiven qread ((sz : Nat) : Int) ((u.1.2 : Nat) : Int) (wrz u.1.1 u.1.2) ((u.2.1 : Nat) : Int) u.2.2.2.2 rc (bz (rdO tx sz st (ok, a))))), (qtext, .inl (cI, 48, .inl (fun j => iI (tx j)))), (qread, .inl (cI, 48, .inl u.2.2.1))]) := by
  refine enterv (by decide) (Nat.le_of_ble_eq_true rfl) ?_
  intro X O hK hin2 hret
  show TGo X [(h, .inr (4, MF p s m qcurrency qisWide qnegative qkept qratios qtext qnum qbase qden qquo qrem qother qunits qparts qover qgiven qread ((sz : Nat) : Int) ((a : Nat) : Int) (wrz ok a) ((dc : Nat) : Int) be rc rn)), (qtext, .inl (cI, 48, .inl (fun j => iI (tx j)))), (qread, .inl (cI, 48, .inl rd))] 0 0 0 [(0, .ref h), (1, .int (iI st))] []
  have bo := bz_01 (rdO tx sz st (ok, a))
  have hsg : rdSg st = 40 ∨ rdSg st = 45 := by unfold rdSg; split <;> omega
  obtain ⟨a1, ha1⟩ : ∃ y, y = a + (rdO tx sz st (ok, a)).toNat := ⟨_, rfl⟩
  have ha1s : a1 ≤ sz := by rw [ha1]; exact rdN0_le (s := (ok, a)) ha
  have hwo : wrz ok a = wrz ok a1 := by rw [ha1]; exact wrz_o ok
  refine go_aload_n O dX4_readNumber_0 rfl 0 rfl 1 rfl ?_
  refine go_iload_n O dX4_readNumber_1 rfl 1 rfl 2 rfl ?_
  refine go_iconst O dX4_readNumber_2 3 rfl ?_
  refine go_icmp_lt O dX4_readNumber_3 11 (by decide) 6 rfl (by omega) (by omega) (fun h3 => ?_) (fun h3 => ?_)
  · refine go_bipush O dX4_readNumber_11 (by decide) 13 rfl ?_
    refine TGo.topi (y := rdSg st) (by unfold rdSg; rw [if_neg (by omega)]) ?_
    refine go_calliV (As := [.int (iI (rdSg st))]) (rest := []) (wr := [(qread, .inl (cI, 48, .inl rd))]) O hK hE (c_X4_sees E hE h p s m qcurrency qisWide qnegative qkept qratios qtext qnum qbase qden qquo qrem qother qunits qparts qover qgiven qread cI sz a ok dc be rc rn tx htx hs ha (rdSg st) (by omega)) mlX4_186 imX4_sees seX4_sees inX4 cdX4_sees 1 (by decide +kernel) ⟨Nat.le_of_ble_eq_true rfl, Nat.le_of_ble_eq_true rfl⟩ 0 rfl rfl [0] rfl [0, 1] rfl (by decide) [2] rfl (by decide) (by decide) rfl rfl (Nat.le_of_ble_eq_true rfl) ⟨Nat.zero_le _, Nat.zero_le _⟩ dX4_readNumber_13 16 rfl (fun z u hu => ?_)
    subst hu
    show TGo X [(qread, .inl (cI, 48, .inl rd)), (h, .inr (4, MF p s m qcurrency qisWide qnegative qkept qratios qtext qnum qbase qden qquo qrem qother qunits qparts qover qgiven qread ((sz : Nat) : Int) ((a : Nat) : Int) (wrz ok a) ((dc : Nat) : Int) be rc rn)), (qtext, .inl (cI, 48, .inl (fun j => iI (tx j))))] 0 0 16 [(0, .ref h), (1, .int (iI st))] [.int (iI (bz (ok && decide (a < sz ∧ tx a = (rdSg st)))))]
    refine TGo.sub (ws' := [(h, .inr (4, MF p s m qcurrency qisWide qnegative qkept qratios qtext qnum qbase qden qquo qrem qother qunits qparts qover qgiven qread ((sz : Nat) : Int) ((a : Nat) : Int) (wrz ok a) ((dc : Nat) : Int) be rc rn)), (qtext, .inl (cI, 48, .inl (fun j => iI (tx j)))), (qread, .inl (cI, 48, .inl rd))]) [1, 2, 0] (by decide) rfl ?_
    refine TGo.topi (y := bz (rdO tx sz st (ok, a))) rfl ?_
    refine go_istore_n O dX4_readNumber_16 rfl (by decide) [(2, .int (iI (bz (rdO tx sz st (ok, a))))), (0, .ref h), (1, .int (iI st))] rfl 17 rfl ?_
    refine go_aload_n O dX4_readNumber_17 rfl 1 rfl 18 rfl ?_
    refine go_iload_n O dX4_readNumber_18 rfl 0 rfl 19 rfl ?_
    refine go_if_eq O dX4_readNumber_19 31 (by decide) 22 rfl (by omega) (fun h19 => ?_) (fun h19 => ?_)
    · refine go_aload_n O dX4_readNumber_31 rfl 1 rfl 32 rfl ?_
      refine go_get O hK dX4_readNumber_32 hinX4 0 rfl rfl 20 (by decide) flX4_183 rfl 35 rfl ?_
      refine TGo.topi (y := ((a1 : Nat) : Int)) (by rw [ha1, bz_0.mp h19]; rfl) ?_
      refine go_put O hK dX4_readNumber_35 hinX4 tyX4 tyX4_ok nmX4 0 rfl rfl 20 (by decide) flX4_183 rfl rfl rfl rfl (Nat.le_of_ble_eq_true rfl) [(h, .inr (4, MF p s m qcurrency qisWide qnegative qkept qratios qtext qnum qbase qden qquo qrem qother qunits qparts qover qgiven qread ((sz : Nat) : Int) ((a1 : Nat) : Int) (wrz ok a) ((dc : Nat) : Int) be rc rn)), (qtext, .inl (cI, 48, .inl (fun j => iI (tx j)))), (qread, .inl (cI, 48, .inl rd))] rfl 38 rfl ?_
      rw [hwo]
      show TGo X [(h, .inr (4, MF p s m qcurrency qisWide qnegative qkept qratios qtext qnum qbase qden qquo qrem qother qunits qparts qover qgiven qread ((sz : Nat) : Int) ((a1 : Nat) : Int) (wrz ok a1) ((dc : Nat) : Int) be rc rn)), (qtext, .inl (cI, 48, .inl (fun j => iI (tx j)))), (qread, .inl (cI, 48, .inl rd))] 0 0 38 [(2, .int (iI (bz (rdO tx sz st (ok, a))))), (0, .ref h), (1, .int (iI st))] []
      refine go_aload_n O dX4_readNumber_38 rfl 1 rfl 39 rfl ?_
      refine go_iload_n O dX4_readNumber_39 rfl 0 rfl 40 rfl ?_
      refine go_put O hK dX4_readNumber_40 hinX4 tyX4 tyX4_ok nmX4 0 rfl rfl 26 (by decide) flX4_215 rfl rfl (nar_b (bz_01 _)) (fit_b (bz_01 _)) (Nat.le_of_ble_eq_true rfl) [(h, .inr (4, MF p s m qcurrency qisWide qnegative qkept qratios qtext qnum qbase qden qquo qrem qother qunits qparts qover qgiven qread ((sz : Nat) : Int) ((a1 : Nat) : Int) (wrz ok a1) ((dc : Nat) : Int) be rc (bz (rdO tx sz st (ok, a))))), (qtext, .inl (cI, 48, .inl (fun j => iI (tx j)))), (qread, .inl (cI, 48, .inl rd))] rfl 43 rfl ?_
      refine go_aload_n O dX4_readNumber_43 rfl 1 rfl 44 rfl ?_
      refine go_iload_n O dX4_readNumber_44 rfl 2 rfl 45 rfl ?_
      refine go_iconst O dX4_readNumber_45 46 rfl ?_
      refine go_irem O dX4_readNumber_46 (by omega) (by omega) (by omega) (by omega) (st % 2) rfl 47 rfl ?_
      refine go_iconst O dX4_readNumber_47 48 rfl ?_
      refine go_icmp_ne O dX4_readNumber_48 55 (by decide) 51 rfl (by omega) (by omega) (fun h48 => ?_) (fun h48 => ?_)
      · refine go_iconst O dX4_readNumber_55 56 rfl ?_
        refine TGo.topi (y := bz (decide (st % 2 = 1))) (by rw [decide_eq_false (by omega)]; rfl) ?_
        refine go_callvV (As := [.int (iI (bz (decide (st % 2 = 1))))]) (rest := []) (wr := []) O hK hE (c_X4_readBody E hE h p s m qcurrency qisWide qnegative qkept qratios qtext qnum qbase qden qquo qrem qother qunits qparts qover qgiven qread cI sz a1 ok dc be rc ((bz (rdO tx sz st (ok, a)))) tx htx hs ha1s rd (decide (st % 2 = 1)) hdc0 hbe) mlX4_219 imX4_readBody seX4_readBody inX4 cdX4_readBody 1 (by decide +kernel) ⟨Nat.le_of_ble_eq_true rfl, Nat.le_of_ble_eq_true rfl⟩ 0 rfl rfl [0] rfl [0, 1, 2] rfl (by decide) [] rfl (by decide) (by decide) rfl rfl (Nat.le_of_ble_eq_true rfl) ⟨Nat.zero_le _, Nat.zero_le _⟩ dX4_readNumber_56 59 rfl (fun u hu => ?_)
        obtain ⟨⟨o2, b2⟩, q2, rd2, N2, be2⟩ := u
        obtain ⟨hB, hq, hRD, hok⟩ := hu
        replace hB : (o2, b2) = rdB tx sz (decide (st % 2 = 1)) (ok, a1) := hB
        replace hq : q2 ≤ b2 := hq
        have hBl := rdB_le (tx := tx) (g := (decide (st % 2 = 1))) (s := (ok, a1)) ha1s
        rw [← hB] at hBl
        replace hBl : b2 ≤ sz ∧ a1 ≤ b2 := hBl
        show TGo X [(h, .inr (4, MF p s m qcurrency qisWide qnegative qkept qratios qtext qnum qbase qden qquo qrem qother qunits qparts qover qgiven qread ((sz : Nat) : Int) ((b2 : Nat) : Int) (wrz o2 b2) ((q2 : Nat) : Int) be2 rc (bz (rdO tx sz st (ok, a))))), (qtext, .inl (cI, 48, .inl (fun j => iI (tx j)))), (qread, .inl (cI, 48, .inl rd2))] 0 0 59 [(2, .int (iI (bz (rdO tx sz st (ok, a))))), (0, .ref h), (1, .int (iI st))] []
        refine go_iload_n O dX4_readNumber_59 rfl 0 rfl 60 rfl ?_
        refine go_if_eq O dX4_readNumber_60 74 (by decide) 63 rfl (by omega) (fun h60 => ?_) (fun h60 => ?_)
        · exact hret _ _ ((o2, b2), q2, rd2, N2, be2) dX4_readNumber_74 ⟨by rw [rdN_n (fun e => by rw [e.1] at h60; cases h60), ← ha1]; exact hB, hq, hRD, fun e => by rw [rdN0_e, ← ha1]; exact hok e⟩
        · refine go_iload_n O dX4_readNumber_63 rfl 2 rfl 64 rfl ?_
          refine go_iconst O dX4_readNumber_64 65 rfl ?_
          refine go_icmp_lt O dX4_readNumber_65 74 (by decide) 68 rfl (by omega) (by omega) (fun h65 => ?_) (fun h65 => ?_)
          · exact hret _ _ ((o2, b2), q2, rd2, N2, be2) dX4_readNumber_74 ⟨by rw [rdN_n (fun e => by omega), ← ha1]; exact hB, hq, hRD, fun e => by rw [rdN0_e, ← ha1]; exact hok e⟩
          · refine go_aload_n O dX4_readNumber_68 rfl 1 rfl 69 rfl ?_
            refine go_bipush O dX4_readNumber_69 (by decide) 71 rfl ?_
            refine go_callvV (As := [.int (iI 41)]) (rest := []) (wr := [(qread, .inl (cI, 48, .inl rd2))]) O hK hE (c_X4_expect E hE h p s m qcurrency qisWide qnegative qkept qratios qtext qnum qbase qden qquo qrem qother qunits qparts qover qgiven qread cI sz b2 o2 q2 be2 rc ((bz (rdO tx sz st (ok, a)))) tx htx hs hBl.1 41 (by omega)) mlX4_206 imX4_expect seX4_expect inX4 cdX4_expect 1 (by decide +kernel) ⟨Nat.le_of_ble_eq_true rfl, Nat.le_of_ble_eq_true rfl⟩ 0 rfl rfl [0] rfl [0, 1] rfl (by decide) [2] rfl (by decide) (by decide) rfl rfl (Nat.le_of_ble_eq_true rfl) ⟨Nat.zero_le _, Nat.zero_le _⟩ dX4_readNumber_71 74 rfl (fun u hu => ?_)
            obtain ⟨o3, b3⟩ := u
            have h3e := hu
            have h3el := rdE_le (tx := tx) (sz := sz) (c := 41) (s := (o2, b2)) hBl.1
            rw [← h3e] at h3el
            replace h3el : b3 ≤ sz ∧ b2 ≤ b3 := h3el
            show TGo X [(qread, .inl (cI, 48, .inl rd2)), (h, .inr (4, MF p s m qcurrency qisWide qnegative qkept qratios qtext qnum qbase qden qquo qrem qother qunits qparts qover qgiven qread ((sz : Nat) : Int) ((b3 : Nat) : Int) (wrz o3 b3) ((q2 : Nat) : Int) be2 rc (bz (rdO tx sz st (ok, a))))), (qtext, .inl (cI, 48, .inl (fun j => iI (tx j))))] 0 0 74 [(2, .int (iI (bz (rdO tx sz st (ok, a))))), (0, .ref h), (1, .int (iI st))] []
            refine TGo.sub (ws' := [(h, .inr (4, MF p s m qcurrency qisWide qnegative qkept qratios qtext qnum qbase qden qquo qrem qother qunits qparts qover qgiven qread ((sz : Nat) : Int) ((b3 : Nat) : Int) (wrz o3 b3) ((q2 : Nat) : Int) be2 rc (bz (rdO tx sz st (ok, a))))), (qtext, .inl (cI, 48, .inl (fun j => iI (tx j)))), (qread, .inl (cI, 48, .inl rd2))]) [1, 2, 0] (by decide) rfl ?_
            exact hret _ _ ((o3, b3), q2, rd2, N2, be2) dX4_readNumber_74 ⟨by rw [rdN_y ⟨bz_ne h60, by omega⟩, ← ha1, ← hB]; exact h3e, by show q2 ≤ b3; omega, hRD, fun e => by rw [rdN0_e, ← ha1]; exact hok (rdE_ok (by rw [← h3e]; exact e))⟩
      · refine go_iconst O dX4_readNumber_51 52 rfl ?_
        refine go_goto O dX4_readNumber_52 56 (by decide) ?_
        refine TGo.topi (y := bz (decide (st % 2 = 1))) (by rw [decide_eq_true (by omega)]; rfl) ?_
        refine go_callvV (As := [.int (iI (bz (decide (st % 2 = 1))))]) (rest := []) (wr := []) O hK hE (c_X4_readBody E hE h p s m qcurrency qisWide qnegative qkept qratios qtext qnum qbase qden qquo qrem qother qunits qparts qover qgiven qread cI sz a1 ok dc be rc ((bz (rdO tx sz st (ok, a)))) tx htx hs ha1s rd (decide (st % 2 = 1)) hdc0 hbe) mlX4_219 imX4_readBody seX4_readBody inX4 cdX4_readBody 1 (by decide +kernel) ⟨Nat.le_of_ble_eq_true rfl, Nat.le_of_ble_eq_true rfl⟩ 0 rfl rfl [0] rfl [0, 1, 2] rfl (by decide) [] rfl (by decide) (by decide) rfl rfl (Nat.le_of_ble_eq_true rfl) ⟨Nat.zero_le _, Nat.zero_le _⟩ dX4_readNumber_56 59 rfl (fun u hu => ?_)
        obtain ⟨⟨o2, b2⟩, q2, rd2, N2, be2⟩ := u
        obtain ⟨hB, hq, hRD, hok⟩ := hu
        replace hB : (o2, b2) = rdB tx sz (decide (st % 2 = 1)) (ok, a1) := hB
        replace hq : q2 ≤ b2 := hq
        have hBl := rdB_le (tx := tx) (g := (decide (st % 2 = 1))) (s := (ok, a1)) ha1s
        rw [← hB] at hBl
        replace hBl : b2 ≤ sz ∧ a1 ≤ b2 := hBl
        show TGo X [(h, .inr (4, MF p s m qcurrency qisWide qnegative qkept qratios qtext qnum qbase qden qquo qrem qother qunits qparts qover qgiven qread ((sz : Nat) : Int) ((b2 : Nat) : Int) (wrz o2 b2) ((q2 : Nat) : Int) be2 rc (bz (rdO tx sz st (ok, a))))), (qtext, .inl (cI, 48, .inl (fun j => iI (tx j)))), (qread, .inl (cI, 48, .inl rd2))] 0 0 59 [(2, .int (iI (bz (rdO tx sz st (ok, a))))), (0, .ref h), (1, .int (iI st))] []
        refine go_iload_n O dX4_readNumber_59 rfl 0 rfl 60 rfl ?_
        refine go_if_eq O dX4_readNumber_60 74 (by decide) 63 rfl (by omega) (fun h60 => ?_) (fun h60 => ?_)
        · exact hret _ _ ((o2, b2), q2, rd2, N2, be2) dX4_readNumber_74 ⟨by rw [rdN_n (fun e => by rw [e.1] at h60; cases h60), ← ha1]; exact hB, hq, hRD, fun e => by rw [rdN0_e, ← ha1]; exact hok e⟩
        · refine go_iload_n O dX4_readNumber_63 rfl 2 rfl 64 rfl ?_
          refine go_iconst O dX4_readNumber_64 65 rfl ?_
          refine go_icmp_lt O dX4_readNumber_65 74 (by decide) 68 rfl (by omega) (by omega) (fun h65 => ?_) (fun h65 => ?_)
          · exact hret _ _ ((o2, b2), q2, rd2, N2, be2) dX4_readNumber_74 ⟨by rw [rdN_n (fun e => by omega), ← ha1]; exact hB, hq, hRD, fun e => by rw [rdN0_e, ← ha1]; exact hok e⟩
          · refine go_aload_n O dX4_readNumber_68 rfl 1 rfl 69 rfl ?_
            refine go_bipush O dX4_readNumber_69 (by decide) 71 rfl ?_
            refine go_callvV (As := [.int (iI 41)]) (rest := []) (wr := [(qread, .inl (cI, 48, .inl rd2))]) O hK hE (c_X4_expect E hE h p s m qcurrency qisWide qnegative qkept qratios qtext qnum qbase qden qquo qrem qother qunits qparts qover qgiven qread cI sz b2 o2 q2 be2 rc ((bz (rdO tx sz st (ok, a)))) tx htx hs hBl.1 41 (by omega)) mlX4_206 imX4_expect seX4_expect inX4 cdX4_expect 1 (by decide +kernel) ⟨Nat.le_of_ble_eq_true rfl, Nat.le_of_ble_eq_true rfl⟩ 0 rfl rfl [0] rfl [0, 1] rfl (by decide) [2] rfl (by decide) (by decide) rfl rfl (Nat.le_of_ble_eq_true rfl) ⟨Nat.zero_le _, Nat.zero_le _⟩ dX4_readNumber_71 74 rfl (fun u hu => ?_)
            obtain ⟨o3, b3⟩ := u
            have h3e := hu
            have h3el := rdE_le (tx := tx) (sz := sz) (c := 41) (s := (o2, b2)) hBl.1
            rw [← h3e] at h3el
            replace h3el : b3 ≤ sz ∧ b2 ≤ b3 := h3el
            show TGo X [(qread, .inl (cI, 48, .inl rd2)), (h, .inr (4, MF p s m qcurrency qisWide qnegative qkept qratios qtext qnum qbase qden qquo qrem qother qunits qparts qover qgiven qread ((sz : Nat) : Int) ((b3 : Nat) : Int) (wrz o3 b3) ((q2 : Nat) : Int) be2 rc (bz (rdO tx sz st (ok, a))))), (qtext, .inl (cI, 48, .inl (fun j => iI (tx j))))] 0 0 74 [(2, .int (iI (bz (rdO tx sz st (ok, a))))), (0, .ref h), (1, .int (iI st))] []
            refine TGo.sub (ws' := [(h, .inr (4, MF p s m qcurrency qisWide qnegative qkept qratios qtext qnum qbase qden qquo qrem qother qunits qparts qover qgiven qread ((sz : Nat) : Int) ((b3 : Nat) : Int) (wrz o3 b3) ((q2 : Nat) : Int) be2 rc (bz (rdO tx sz st (ok, a))))), (qtext, .inl (cI, 48, .inl (fun j => iI (tx j)))), (qread, .inl (cI, 48, .inl rd2))]) [1, 2, 0] (by decide) rfl ?_
            exact hret _ _ ((o3, b3), q2, rd2, N2, be2) dX4_readNumber_74 ⟨by rw [rdN_y ⟨bz_ne h60, by omega⟩, ← ha1, ← hB]; exact h3e, by show q2 ≤ b3; omega, hRD, fun e => by rw [rdN0_e, ← ha1]; exact hok (rdE_ok (by rw [← h3e]; exact e))⟩
    · refine go_aload_n O dX4_readNumber_22 rfl 1 rfl 23 rfl ?_
      refine go_get O hK dX4_readNumber_23 hinX4 0 rfl rfl 20 (by decide) flX4_183 rfl 26 rfl ?_
      refine go_iconst O dX4_readNumber_26 27 rfl ?_
      refine go_iadd O dX4_readNumber_27 ((a + 1 : Nat) : Int) (by omega) 28 rfl ?_
      refine go_goto O dX4_readNumber_28 35 (by decide) ?_
      refine TGo.topi (y := ((a1 : Nat) : Int)) (by rw [ha1, bz_ne h19]; rfl) ?_
      refine go_put O hK dX4_readNumber_35 hinX4 tyX4 tyX4_ok nmX4 0 rfl rfl 20 (by decide) flX4_183 rfl rfl rfl rfl (Nat.le_of_ble_eq_true rfl) [(h, .inr (4, MF p s m qcurrency qisWide qnegative qkept qratios qtext qnum qbase qden qquo qrem qother qunits qparts qover qgiven qread ((sz : Nat) : Int) ((a1 : Nat) : Int) (wrz ok a) ((dc : Nat) : Int) be rc rn)), (qtext, .inl (cI, 48, .inl (fun j => iI (tx j)))), (qread, .inl (cI, 48, .inl rd))] rfl 38 rfl ?_
      rw [hwo]
      show TGo X [(h, .inr (4, MF p s m qcurrency qisWide qnegative qkept qratios qtext qnum qbase qden qquo qrem qother qunits qparts qover qgiven qread ((sz : Nat) : Int) ((a1 : Nat) : Int) (wrz ok a1) ((dc : Nat) : Int) be rc rn)), (qtext, .inl (cI, 48, .inl (fun j => iI (tx j)))), (qread, .inl (cI, 48, .inl rd))] 0 0 38 [(2, .int (iI (bz (rdO tx sz st (ok, a))))), (0, .ref h), (1, .int (iI st))] []
      refine go_aload_n O dX4_readNumber_38 rfl 1 rfl 39 rfl ?_
      refine go_iload_n O dX4_readNumber_39 rfl 0 rfl 40 rfl ?_
      refine go_put O hK dX4_readNumber_40 hinX4 tyX4 tyX4_ok nmX4 0 rfl rfl 26 (by decide) flX4_215 rfl rfl (nar_b (bz_01 _)) (fit_b (bz_01 _)) (Nat.le_of_ble_eq_true rfl) [(h, .inr (4, MF p s m qcurrency qisWide qnegative qkept qratios qtext qnum qbase qden qquo qrem qother qunits qparts qover qgiven qread ((sz : Nat) : Int) ((a1 : Nat) : Int) (wrz ok a1) ((dc : Nat) : Int) be rc (bz (rdO tx sz st (ok, a))))), (qtext, .inl (cI, 48, .inl (fun j => iI (tx j)))), (qread, .inl (cI, 48, .inl rd))] rfl 43 rfl ?_
      refine go_aload_n O dX4_readNumber_43 rfl 1 rfl 44 rfl ?_
      refine go_iload_n O dX4_readNumber_44 rfl 2 rfl 45 rfl ?_
      refine go_iconst O dX4_readNumber_45 46 rfl ?_
      refine go_irem O dX4_readNumber_46 (by omega) (by omega) (by omega) (by omega) (st % 2) rfl 47 rfl ?_
      refine go_iconst O dX4_readNumber_47 48 rfl ?_
      refine go_icmp_ne O dX4_readNumber_48 55 (by decide) 51 rfl (by omega) (by omega) (fun h48 => ?_) (fun h48 => ?_)
      · refine go_iconst O dX4_readNumber_55 56 rfl ?_
        refine TGo.topi (y := bz (decide (st % 2 = 1))) (by rw [decide_eq_false (by omega)]; rfl) ?_
        refine go_callvV (As := [.int (iI (bz (decide (st % 2 = 1))))]) (rest := []) (wr := []) O hK hE (c_X4_readBody E hE h p s m qcurrency qisWide qnegative qkept qratios qtext qnum qbase qden qquo qrem qother qunits qparts qover qgiven qread cI sz a1 ok dc be rc ((bz (rdO tx sz st (ok, a)))) tx htx hs ha1s rd (decide (st % 2 = 1)) hdc0 hbe) mlX4_219 imX4_readBody seX4_readBody inX4 cdX4_readBody 1 (by decide +kernel) ⟨Nat.le_of_ble_eq_true rfl, Nat.le_of_ble_eq_true rfl⟩ 0 rfl rfl [0] rfl [0, 1, 2] rfl (by decide) [] rfl (by decide) (by decide) rfl rfl (Nat.le_of_ble_eq_true rfl) ⟨Nat.zero_le _, Nat.zero_le _⟩ dX4_readNumber_56 59 rfl (fun u hu => ?_)
        obtain ⟨⟨o2, b2⟩, q2, rd2, N2, be2⟩ := u
        obtain ⟨hB, hq, hRD, hok⟩ := hu
        replace hB : (o2, b2) = rdB tx sz (decide (st % 2 = 1)) (ok, a1) := hB
        replace hq : q2 ≤ b2 := hq
        have hBl := rdB_le (tx := tx) (g := (decide (st % 2 = 1))) (s := (ok, a1)) ha1s
        rw [← hB] at hBl
        replace hBl : b2 ≤ sz ∧ a1 ≤ b2 := hBl
        show TGo X [(h, .inr (4, MF p s m qcurrency qisWide qnegative qkept qratios qtext qnum qbase qden qquo qrem qother qunits qparts qover qgiven qread ((sz : Nat) : Int) ((b2 : Nat) : Int) (wrz o2 b2) ((q2 : Nat) : Int) be2 rc (bz (rdO tx sz st (ok, a))))), (qtext, .inl (cI, 48, .inl (fun j => iI (tx j)))), (qread, .inl (cI, 48, .inl rd2))] 0 0 59 [(2, .int (iI (bz (rdO tx sz st (ok, a))))), (0, .ref h), (1, .int (iI st))] []
        refine go_iload_n O dX4_readNumber_59 rfl 0 rfl 60 rfl ?_
        refine go_if_eq O dX4_readNumber_60 74 (by decide) 63 rfl (by omega) (fun h60 => ?_) (fun h60 => ?_)
        · exact hret _ _ ((o2, b2), q2, rd2, N2, be2) dX4_readNumber_74 ⟨by rw [rdN_n (fun e => by rw [e.1] at h60; cases h60), ← ha1]; exact hB, hq, hRD, fun e => by rw [rdN0_e, ← ha1]; exact hok e⟩
        · refine go_iload_n O dX4_readNumber_63 rfl 2 rfl 64 rfl ?_
          refine go_iconst O dX4_readNumber_64 65 rfl ?_
          refine go_icmp_lt O dX4_readNumber_65 74 (by decide) 68 rfl (by omega) (by omega) (fun h65 => ?_) (fun h65 => ?_)
          · exact hret _ _ ((o2, b2), q2, rd2, N2, be2) dX4_readNumber_74 ⟨by rw [rdN_n (fun e => by omega), ← ha1]; exact hB, hq, hRD, fun e => by rw [rdN0_e, ← ha1]; exact hok e⟩
          · refine go_aload_n O dX4_readNumber_68 rfl 1 rfl 69 rfl ?_
            refine go_bipush O dX4_readNumber_69 (by decide) 71 rfl ?_
            refine go_callvV (As := [.int (iI 41)]) (rest := []) (wr := [(qread, .inl (cI, 48, .inl rd2))]) O hK hE (c_X4_expect E hE h p s m qcurrency qisWide qnegative qkept qratios qtext qnum qbase qden qquo qrem qother qunits qparts qover qgiven qread cI sz b2 o2 q2 be2 rc ((bz (rdO tx sz st (ok, a)))) tx htx hs hBl.1 41 (by omega)) mlX4_206 imX4_expect seX4_expect inX4 cdX4_expect 1 (by decide +kernel) ⟨Nat.le_of_ble_eq_true rfl, Nat.le_of_ble_eq_true rfl⟩ 0 rfl rfl [0] rfl [0, 1] rfl (by decide) [2] rfl (by decide) (by decide) rfl rfl (Nat.le_of_ble_eq_true rfl) ⟨Nat.zero_le _, Nat.zero_le _⟩ dX4_readNumber_71 74 rfl (fun u hu => ?_)
            obtain ⟨o3, b3⟩ := u
            have h3e := hu
            have h3el := rdE_le (tx := tx) (sz := sz) (c := 41) (s := (o2, b2)) hBl.1
            rw [← h3e] at h3el
            replace h3el : b3 ≤ sz ∧ b2 ≤ b3 := h3el
            show TGo X [(qread, .inl (cI, 48, .inl rd2)), (h, .inr (4, MF p s m qcurrency qisWide qnegative qkept qratios qtext qnum qbase qden qquo qrem qother qunits qparts qover qgiven qread ((sz : Nat) : Int) ((b3 : Nat) : Int) (wrz o3 b3) ((q2 : Nat) : Int) be2 rc (bz (rdO tx sz st (ok, a))))), (qtext, .inl (cI, 48, .inl (fun j => iI (tx j))))] 0 0 74 [(2, .int (iI (bz (rdO tx sz st (ok, a))))), (0, .ref h), (1, .int (iI st))] []
            refine TGo.sub (ws' := [(h, .inr (4, MF p s m qcurrency qisWide qnegative qkept qratios qtext qnum qbase qden qquo qrem qother qunits qparts qover qgiven qread ((sz : Nat) : Int) ((b3 : Nat) : Int) (wrz o3 b3) ((q2 : Nat) : Int) be2 rc (bz (rdO tx sz st (ok, a))))), (qtext, .inl (cI, 48, .inl (fun j => iI (tx j)))), (qread, .inl (cI, 48, .inl rd2))]) [1, 2, 0] (by decide) rfl ?_
            exact hret _ _ ((o3, b3), q2, rd2, N2, be2) dX4_readNumber_74 ⟨by rw [rdN_y ⟨bz_ne h60, by omega⟩, ← ha1, ← hB]; exact h3e, by show q2 ≤ b3; omega, hRD, fun e => by rw [rdN0_e, ← ha1]; exact hok (rdE_ok (by rw [← h3e]; exact e))⟩
      · refine go_iconst O dX4_readNumber_51 52 rfl ?_
        refine go_goto O dX4_readNumber_52 56 (by decide) ?_
        refine TGo.topi (y := bz (decide (st % 2 = 1))) (by rw [decide_eq_true (by omega)]; rfl) ?_
        refine go_callvV (As := [.int (iI (bz (decide (st % 2 = 1))))]) (rest := []) (wr := []) O hK hE (c_X4_readBody E hE h p s m qcurrency qisWide qnegative qkept qratios qtext qnum qbase qden qquo qrem qother qunits qparts qover qgiven qread cI sz a1 ok dc be rc ((bz (rdO tx sz st (ok, a)))) tx htx hs ha1s rd (decide (st % 2 = 1)) hdc0 hbe) mlX4_219 imX4_readBody seX4_readBody inX4 cdX4_readBody 1 (by decide +kernel) ⟨Nat.le_of_ble_eq_true rfl, Nat.le_of_ble_eq_true rfl⟩ 0 rfl rfl [0] rfl [0, 1, 2] rfl (by decide) [] rfl (by decide) (by decide) rfl rfl (Nat.le_of_ble_eq_true rfl) ⟨Nat.zero_le _, Nat.zero_le _⟩ dX4_readNumber_56 59 rfl (fun u hu => ?_)
        obtain ⟨⟨o2, b2⟩, q2, rd2, N2, be2⟩ := u
        obtain ⟨hB, hq, hRD, hok⟩ := hu
        replace hB : (o2, b2) = rdB tx sz (decide (st % 2 = 1)) (ok, a1) := hB
        replace hq : q2 ≤ b2 := hq
        have hBl := rdB_le (tx := tx) (g := (decide (st % 2 = 1))) (s := (ok, a1)) ha1s
        rw [← hB] at hBl
        replace hBl : b2 ≤ sz ∧ a1 ≤ b2 := hBl
        show TGo X [(h, .inr (4, MF p s m qcurrency qisWide qnegative qkept qratios qtext qnum qbase qden qquo qrem qother qunits qparts qover qgiven qread ((sz : Nat) : Int) ((b2 : Nat) : Int) (wrz o2 b2) ((q2 : Nat) : Int) be2 rc (bz (rdO tx sz st (ok, a))))), (qtext, .inl (cI, 48, .inl (fun j => iI (tx j)))), (qread, .inl (cI, 48, .inl rd2))] 0 0 59 [(2, .int (iI (bz (rdO tx sz st (ok, a))))), (0, .ref h), (1, .int (iI st))] []
        refine go_iload_n O dX4_readNumber_59 rfl 0 rfl 60 rfl ?_
        refine go_if_eq O dX4_readNumber_60 74 (by decide) 63 rfl (by omega) (fun h60 => ?_) (fun h60 => ?_)
        · exact hret _ _ ((o2, b2), q2, rd2, N2, be2) dX4_readNumber_74 ⟨by rw [rdN_n (fun e => by rw [e.1] at h60; cases h60), ← ha1]; exact hB, hq, hRD, fun e => by rw [rdN0_e, ← ha1]; exact hok e⟩
        · refine go_iload_n O dX4_readNumber_63 rfl 2 rfl 64 rfl ?_
          refine go_iconst O dX4_readNumber_64 65 rfl ?_
          refine go_icmp_lt O dX4_readNumber_65 74 (by decide) 68 rfl (by omega) (by omega) (fun h65 => ?_) (fun h65 => ?_)
          · exact hret _ _ ((o2, b2), q2, rd2, N2, be2) dX4_readNumber_74 ⟨by rw [rdN_n (fun e => by omega), ← ha1]; exact hB, hq, hRD, fun e => by rw [rdN0_e, ← ha1]; exact hok e⟩
          · refine go_aload_n O dX4_readNumber_68 rfl 1 rfl 69 rfl ?_
            refine go_bipush O dX4_readNumber_69 (by decide) 71 rfl ?_
            refine go_callvV (As := [.int (iI 41)]) (rest := []) (wr := [(qread, .inl (cI, 48, .inl rd2))]) O hK hE (c_X4_expect E hE h p s m qcurrency qisWide qnegative qkept qratios qtext qnum qbase qden qquo qrem qother qunits qparts qover qgiven qread cI sz b2 o2 q2 be2 rc ((bz (rdO tx sz st (ok, a)))) tx htx hs hBl.1 41 (by omega)) mlX4_206 imX4_expect seX4_expect inX4 cdX4_expect 1 (by decide +kernel) ⟨Nat.le_of_ble_eq_true rfl, Nat.le_of_ble_eq_true rfl⟩ 0 rfl rfl [0] rfl [0, 1] rfl (by decide) [2] rfl (by decide) (by decide) rfl rfl (Nat.le_of_ble_eq_true rfl) ⟨Nat.zero_le _, Nat.zero_le _⟩ dX4_readNumber_71 74 rfl (fun u hu => ?_)
            obtain ⟨o3, b3⟩ := u
            have h3e := hu
            have h3el := rdE_le (tx := tx) (sz := sz) (c := 41) (s := (o2, b2)) hBl.1
            rw [← h3e] at h3el
            replace h3el : b3 ≤ sz ∧ b2 ≤ b3 := h3el
            show TGo X [(qread, .inl (cI, 48, .inl rd2)), (h, .inr (4, MF p s m qcurrency qisWide qnegative qkept qratios qtext qnum qbase qden qquo qrem qother qunits qparts qover qgiven qread ((sz : Nat) : Int) ((b3 : Nat) : Int) (wrz o3 b3) ((q2 : Nat) : Int) be2 rc (bz (rdO tx sz st (ok, a))))), (qtext, .inl (cI, 48, .inl (fun j => iI (tx j))))] 0 0 74 [(2, .int (iI (bz (rdO tx sz st (ok, a))))), (0, .ref h), (1, .int (iI st))] []
            refine TGo.sub (ws' := [(h, .inr (4, MF p s m qcurrency qisWide qnegative qkept qratios qtext qnum qbase qden qquo qrem qother qunits qparts qover qgiven qread ((sz : Nat) : Int) ((b3 : Nat) : Int) (wrz o3 b3) ((q2 : Nat) : Int) be2 rc (bz (rdO tx sz st (ok, a))))), (qtext, .inl (cI, 48, .inl (fun j => iI (tx j)))), (qread, .inl (cI, 48, .inl rd2))]) [1, 2, 0] (by decide) rfl ?_
            exact hret _ _ ((o3, b3), q2, rd2, N2, be2) dX4_readNumber_74 ⟨by rw [rdN_y ⟨bz_ne h60, by omega⟩, ← ha1, ← hB]; exact h3e, by show q2 ≤ b3; omega, hRD, fun e => by rw [rdN0_e, ← ha1]; exact hok (rdE_ok (by rw [← h3e]; exact e))⟩
  · refine go_bipush O dX4_readNumber_6 (by decide) 8 rfl ?_
    refine go_goto O dX4_readNumber_8 13 (by decide) ?_
    refine TGo.topi (y := rdSg st) (by unfold rdSg; rw [if_pos (by omega)]) ?_
    refine go_calliV (As := [.int (iI (rdSg st))]) (rest := []) (wr := [(qread, .inl (cI, 48, .inl rd))]) O hK hE (c_X4_sees E hE h p s m qcurrency qisWide qnegative qkept qratios qtext qnum qbase qden qquo qrem qother qunits qparts qover qgiven qread cI sz a ok dc be rc rn tx htx hs ha (rdSg st) (by omega)) mlX4_186 imX4_sees seX4_sees inX4 cdX4_sees 1 (by decide +kernel) ⟨Nat.le_of_ble_eq_true rfl, Nat.le_of_ble_eq_true rfl⟩ 0 rfl rfl [0] rfl [0, 1] rfl (by decide) [2] rfl (by decide) (by decide) rfl rfl (Nat.le_of_ble_eq_true rfl) ⟨Nat.zero_le _, Nat.zero_le _⟩ dX4_readNumber_13 16 rfl (fun z u hu => ?_)
    subst hu
    show TGo X [(qread, .inl (cI, 48, .inl rd)), (h, .inr (4, MF p s m qcurrency qisWide qnegative qkept qratios qtext qnum qbase qden qquo qrem qother qunits qparts qover qgiven qread ((sz : Nat) : Int) ((a : Nat) : Int) (wrz ok a) ((dc : Nat) : Int) be rc rn)), (qtext, .inl (cI, 48, .inl (fun j => iI (tx j))))] 0 0 16 [(0, .ref h), (1, .int (iI st))] [.int (iI (bz (ok && decide (a < sz ∧ tx a = (rdSg st)))))]
    refine TGo.sub (ws' := [(h, .inr (4, MF p s m qcurrency qisWide qnegative qkept qratios qtext qnum qbase qden qquo qrem qother qunits qparts qover qgiven qread ((sz : Nat) : Int) ((a : Nat) : Int) (wrz ok a) ((dc : Nat) : Int) be rc rn)), (qtext, .inl (cI, 48, .inl (fun j => iI (tx j)))), (qread, .inl (cI, 48, .inl rd))]) [1, 2, 0] (by decide) rfl ?_
    refine TGo.topi (y := bz (rdO tx sz st (ok, a))) rfl ?_
    refine go_istore_n O dX4_readNumber_16 rfl (by decide) [(2, .int (iI (bz (rdO tx sz st (ok, a))))), (0, .ref h), (1, .int (iI st))] rfl 17 rfl ?_
    refine go_aload_n O dX4_readNumber_17 rfl 1 rfl 18 rfl ?_
    refine go_iload_n O dX4_readNumber_18 rfl 0 rfl 19 rfl ?_
    refine go_if_eq O dX4_readNumber_19 31 (by decide) 22 rfl (by omega) (fun h19 => ?_) (fun h19 => ?_)
    · refine go_aload_n O dX4_readNumber_31 rfl 1 rfl 32 rfl ?_
      refine go_get O hK dX4_readNumber_32 hinX4 0 rfl rfl 20 (by decide) flX4_183 rfl 35 rfl ?_
      refine TGo.topi (y := ((a1 : Nat) : Int)) (by rw [ha1, bz_0.mp h19]; rfl) ?_
      refine go_put O hK dX4_readNumber_35 hinX4 tyX4 tyX4_ok nmX4 0 rfl rfl 20 (by decide) flX4_183 rfl rfl rfl rfl (Nat.le_of_ble_eq_true rfl) [(h, .inr (4, MF p s m qcurrency qisWide qnegative qkept qratios qtext qnum qbase qden qquo qrem qother qunits qparts qover qgiven qread ((sz : Nat) : Int) ((a1 : Nat) : Int) (wrz ok a) ((dc : Nat) : Int) be rc rn)), (qtext, .inl (cI, 48, .inl (fun j => iI (tx j)))), (qread, .inl (cI, 48, .inl rd))] rfl 38 rfl ?_
      rw [hwo]
      show TGo X [(h, .inr (4, MF p s m qcurrency qisWide qnegative qkept qratios qtext qnum qbase qden qquo qrem qother qunits qparts qover qgiven qread ((sz : Nat) : Int) ((a1 : Nat) : Int) (wrz ok a1) ((dc : Nat) : Int) be rc rn)), (qtext, .inl (cI, 48, .inl (fun j => iI (tx j)))), (qread, .inl (cI, 48, .inl rd))] 0 0 38 [(2, .int (iI (bz (rdO tx sz st (ok, a))))), (0, .ref h), (1, .int (iI st))] []
      refine go_aload_n O dX4_readNumber_38 rfl 1 rfl 39 rfl ?_
      refine go_iload_n O dX4_readNumber_39 rfl 0 rfl 40 rfl ?_
      refine go_put O hK dX4_readNumber_40 hinX4 tyX4 tyX4_ok nmX4 0 rfl rfl 26 (by decide) flX4_215 rfl rfl (nar_b (bz_01 _)) (fit_b (bz_01 _)) (Nat.le_of_ble_eq_true rfl) [(h, .inr (4, MF p s m qcurrency qisWide qnegative qkept qratios qtext qnum qbase qden qquo qrem qother qunits qparts qover qgiven qread ((sz : Nat) : Int) ((a1 : Nat) : Int) (wrz ok a1) ((dc : Nat) : Int) be rc (bz (rdO tx sz st (ok, a))))), (qtext, .inl (cI, 48, .inl (fun j => iI (tx j)))), (qread, .inl (cI, 48, .inl rd))] rfl 43 rfl ?_
      refine go_aload_n O dX4_readNumber_43 rfl 1 rfl 44 rfl ?_
      refine go_iload_n O dX4_readNumber_44 rfl 2 rfl 45 rfl ?_
      refine go_iconst O dX4_readNumber_45 46 rfl ?_
      refine go_irem O dX4_readNumber_46 (by omega) (by omega) (by omega) (by omega) (st % 2) rfl 47 rfl ?_
      refine go_iconst O dX4_readNumber_47 48 rfl ?_
      refine go_icmp_ne O dX4_readNumber_48 55 (by decide) 51 rfl (by omega) (by omega) (fun h48 => ?_) (fun h48 => ?_)
      · refine go_iconst O dX4_readNumber_55 56 rfl ?_
        refine TGo.topi (y := bz (decide (st % 2 = 1))) (by rw [decide_eq_false (by omega)]; rfl) ?_
        refine go_callvV (As := [.int (iI (bz (decide (st % 2 = 1))))]) (rest := []) (wr := []) O hK hE (c_X4_readBody E hE h p s m qcurrency qisWide qnegative qkept qratios qtext qnum qbase qden qquo qrem qother qunits qparts qover qgiven qread cI sz a1 ok dc be rc ((bz (rdO tx sz st (ok, a)))) tx htx hs ha1s rd (decide (st % 2 = 1)) hdc0 hbe) mlX4_219 imX4_readBody seX4_readBody inX4 cdX4_readBody 1 (by decide +kernel) ⟨Nat.le_of_ble_eq_true rfl, Nat.le_of_ble_eq_true rfl⟩ 0 rfl rfl [0] rfl [0, 1, 2] rfl (by decide) [] rfl (by decide) (by decide) rfl rfl (Nat.le_of_ble_eq_true rfl) ⟨Nat.zero_le _, Nat.zero_le _⟩ dX4_readNumber_56 59 rfl (fun u hu => ?_)
        obtain ⟨⟨o2, b2⟩, q2, rd2, N2, be2⟩ := u
        obtain ⟨hB, hq, hRD, hok⟩ := hu
        replace hB : (o2, b2) = rdB tx sz (decide (st % 2 = 1)) (ok, a1) := hB
        replace hq : q2 ≤ b2 := hq
        have hBl := rdB_le (tx := tx) (g := (decide (st % 2 = 1))) (s := (ok, a1)) ha1s
        rw [← hB] at hBl
        replace hBl : b2 ≤ sz ∧ a1 ≤ b2 := hBl
        show TGo X [(h, .inr (4, MF p s m qcurrency qisWide qnegative qkept qratios qtext qnum qbase qden qquo qrem qother qunits qparts qover qgiven qread ((sz : Nat) : Int) ((b2 : Nat) : Int) (wrz o2 b2) ((q2 : Nat) : Int) be2 rc (bz (rdO tx sz st (ok, a))))), (qtext, .inl (cI, 48, .inl (fun j => iI (tx j)))), (qread, .inl (cI, 48, .inl rd2))] 0 0 59 [(2, .int (iI (bz (rdO tx sz st (ok, a))))), (0, .ref h), (1, .int (iI st))] []
        refine go_iload_n O dX4_readNumber_59 rfl 0 rfl 60 rfl ?_
        refine go_if_eq O dX4_readNumber_60 74 (by decide) 63 rfl (by omega) (fun h60 => ?_) (fun h60 => ?_)
        · exact hret _ _ ((o2, b2), q2, rd2, N2, be2) dX4_readNumber_74 ⟨by rw [rdN_n (fun e => by rw [e.1] at h60; cases h60), ← ha1]; exact hB, hq, hRD, fun e => by rw [rdN0_e, ← ha1]; exact hok e⟩
        · refine go_iload_n O dX4_readNumber_63 rfl 2 rfl 64 rfl ?_
          refine go_iconst O dX4_readNumber_64 65 rfl ?_
          refine go_icmp_lt O dX4_readNumber_65 74 (by decide) 68 rfl (by omega) (by omega) (fun h65 => ?_) (fun h65 => ?_)
          · exact hret _ _ ((o2, b2), q2, rd2, N2, be2) dX4_readNumber_74 ⟨by rw [rdN_n (fun e => by omega), ← ha1]; exact hB, hq, hRD, fun e => by rw [rdN0_e, ← ha1]; exact hok e⟩
          · refine go_aload_n O dX4_readNumber_68 rfl 1 rfl 69 rfl ?_
            refine go_bipush O dX4_readNumber_69 (by decide) 71 rfl ?_
            refine go_callvV (As := [.int (iI 41)]) (rest := []) (wr := [(qread, .inl (cI, 48, .inl rd2))]) O hK hE (c_X4_expect E hE h p s m qcurrency qisWide qnegative qkept qratios qtext qnum qbase qden qquo qrem qother qunits qparts qover qgiven qread cI sz b2 o2 q2 be2 rc ((bz (rdO tx sz st (ok, a)))) tx htx hs hBl.1 41 (by omega)) mlX4_206 imX4_expect seX4_expect inX4 cdX4_expect 1 (by decide +kernel) ⟨Nat.le_of_ble_eq_true rfl, Nat.le_of_ble_eq_true rfl⟩ 0 rfl rfl [0] rfl [0, 1] rfl (by decide) [2] rfl (by decide) (by decide) rfl rfl (Nat.le_of_ble_eq_true rfl) ⟨Nat.zero_le _, Nat.zero_le _⟩ dX4_readNumber_71 74 rfl (fun u hu => ?_)
            obtain ⟨o3, b3⟩ := u
            have h3e := hu
            have h3el := rdE_le (tx := tx) (sz := sz) (c := 41) (s := (o2, b2)) hBl.1
            rw [← h3e] at h3el
            replace h3el : b3 ≤ sz ∧ b2 ≤ b3 := h3el
            show TGo X [(qread, .inl (cI, 48, .inl rd2)), (h, .inr (4, MF p s m qcurrency qisWide qnegative qkept qratios qtext qnum qbase qden qquo qrem qother qunits qparts qover qgiven qread ((sz : Nat) : Int) ((b3 : Nat) : Int) (wrz o3 b3) ((q2 : Nat) : Int) be2 rc (bz (rdO tx sz st (ok, a))))), (qtext, .inl (cI, 48, .inl (fun j => iI (tx j))))] 0 0 74 [(2, .int (iI (bz (rdO tx sz st (ok, a))))), (0, .ref h), (1, .int (iI st))] []
            refine TGo.sub (ws' := [(h, .inr (4, MF p s m qcurrency qisWide qnegative qkept qratios qtext qnum qbase qden qquo qrem qother qunits qparts qover qgiven qread ((sz : Nat) : Int) ((b3 : Nat) : Int) (wrz o3 b3) ((q2 : Nat) : Int) be2 rc (bz (rdO tx sz st (ok, a))))), (qtext, .inl (cI, 48, .inl (fun j => iI (tx j)))), (qread, .inl (cI, 48, .inl rd2))]) [1, 2, 0] (by decide) rfl ?_
            exact hret _ _ ((o3, b3), q2, rd2, N2, be2) dX4_readNumber_74 ⟨by rw [rdN_y ⟨bz_ne h60, by omega⟩, ← ha1, ← hB]; exact h3e, by show q2 ≤ b3; omega, hRD, fun e => by rw [rdN0_e, ← ha1]; exact hok (rdE_ok (by rw [← h3e]; exact e))⟩
      · refine go_iconst O dX4_readNumber_51 52 rfl ?_
        refine go_goto O dX4_readNumber_52 56 (by decide) ?_
        refine TGo.topi (y := bz (decide (st % 2 = 1))) (by rw [decide_eq_true (by omega)]; rfl) ?_
        refine go_callvV (As := [.int (iI (bz (decide (st % 2 = 1))))]) (rest := []) (wr := []) O hK hE (c_X4_readBody E hE h p s m qcurrency qisWide qnegative qkept qratios qtext qnum qbase qden qquo qrem qother qunits qparts qover qgiven qread cI sz a1 ok dc be rc ((bz (rdO tx sz st (ok, a)))) tx htx hs ha1s rd (decide (st % 2 = 1)) hdc0 hbe) mlX4_219 imX4_readBody seX4_readBody inX4 cdX4_readBody 1 (by decide +kernel) ⟨Nat.le_of_ble_eq_true rfl, Nat.le_of_ble_eq_true rfl⟩ 0 rfl rfl [0] rfl [0, 1, 2] rfl (by decide) [] rfl (by decide) (by decide) rfl rfl (Nat.le_of_ble_eq_true rfl) ⟨Nat.zero_le _, Nat.zero_le _⟩ dX4_readNumber_56 59 rfl (fun u hu => ?_)
        obtain ⟨⟨o2, b2⟩, q2, rd2, N2, be2⟩ := u
        obtain ⟨hB, hq, hRD, hok⟩ := hu
        replace hB : (o2, b2) = rdB tx sz (decide (st % 2 = 1)) (ok, a1) := hB
        replace hq : q2 ≤ b2 := hq
        have hBl := rdB_le (tx := tx) (g := (decide (st % 2 = 1))) (s := (ok, a1)) ha1s
        rw [← hB] at hBl
        replace hBl : b2 ≤ sz ∧ a1 ≤ b2 := hBl
        show TGo X [(h, .inr (4, MF p s m qcurrency qisWide qnegative qkept qratios qtext qnum qbase qden qquo qrem qother qunits qparts qover qgiven qread ((sz : Nat) : Int) ((b2 : Nat) : Int) (wrz o2 b2) ((q2 : Nat) : Int) be2 rc (bz (rdO tx sz st (ok, a))))), (qtext, .inl (cI, 48, .inl (fun j => iI (tx j)))), (qread, .inl (cI, 48, .inl rd2))] 0 0 59 [(2, .int (iI (bz (rdO tx sz st (ok, a))))), (0, .ref h), (1, .int (iI st))] []
        refine go_iload_n O dX4_readNumber_59 rfl 0 rfl 60 rfl ?_
        refine go_if_eq O dX4_readNumber_60 74 (by decide) 63 rfl (by omega) (fun h60 => ?_) (fun h60 => ?_)
        · exact hret _ _ ((o2, b2), q2, rd2, N2, be2) dX4_readNumber_74 ⟨by rw [rdN_n (fun e => by rw [e.1] at h60; cases h60), ← ha1]; exact hB, hq, hRD, fun e => by rw [rdN0_e, ← ha1]; exact hok e⟩
        · refine go_iload_n O dX4_readNumber_63 rfl 2 rfl 64 rfl ?_
          refine go_iconst O dX4_readNumber_64 65 rfl ?_
          refine go_icmp_lt O dX4_readNumber_65 74 (by decide) 68 rfl (by omega) (by omega) (fun h65 => ?_) (fun h65 => ?_)
          · exact hret _ _ ((o2, b2), q2, rd2, N2, be2) dX4_readNumber_74 ⟨by rw [rdN_n (fun e => by omega), ← ha1]; exact hB, hq, hRD, fun e => by rw [rdN0_e, ← ha1]; exact hok e⟩
          · refine go_aload_n O dX4_readNumber_68 rfl 1 rfl 69 rfl ?_
            refine go_bipush O dX4_readNumber_69 (by decide) 71 rfl ?_
            refine go_callvV (As := [.int (iI 41)]) (rest := []) (wr := [(qread, .inl (cI, 48, .inl rd2))]) O hK hE (c_X4_expect E hE h p s m qcurrency qisWide qnegative qkept qratios qtext qnum qbase qden qquo qrem qother qunits qparts qover qgiven qread cI sz b2 o2 q2 be2 rc ((bz (rdO tx sz st (ok, a)))) tx htx hs hBl.1 41 (by omega)) mlX4_206 imX4_expect seX4_expect inX4 cdX4_expect 1 (by decide +kernel) ⟨Nat.le_of_ble_eq_true rfl, Nat.le_of_ble_eq_true rfl⟩ 0 rfl rfl [0] rfl [0, 1] rfl (by decide) [2] rfl (by decide) (by decide) rfl rfl (Nat.le_of_ble_eq_true rfl) ⟨Nat.zero_le _, Nat.zero_le _⟩ dX4_readNumber_71 74 rfl (fun u hu => ?_)
            obtain ⟨o3, b3⟩ := u
            have h3e := hu
            have h3el := rdE_le (tx := tx) (sz := sz) (c := 41) (s := (o2, b2)) hBl.1
            rw [← h3e] at h3el
            replace h3el : b3 ≤ sz ∧ b2 ≤ b3 := h3el
            show TGo X [(qread, .inl (cI, 48, .inl rd2)), (h, .inr (4, MF p s m qcurrency qisWide qnegative qkept qratios qtext qnum qbase qden qquo qrem qother qunits qparts qover qgiven qread ((sz : Nat) : Int) ((b3 : Nat) : Int) (wrz o3 b3) ((q2 : Nat) : Int) be2 rc (bz (rdO tx sz st (ok, a))))), (qtext, .inl (cI, 48, .inl (fun j => iI (tx j))))] 0 0 74 [(2, .int (iI (bz (rdO tx sz st (ok, a))))), (0, .ref h), (1, .int (iI st))] []
            refine TGo.sub (ws' := [(h, .inr (4, MF p s m qcurrency qisWide qnegative qkept qratios qtext qnum qbase qden qquo qrem qother qunits qparts qover qgiven qread ((sz : Nat) : Int) ((b3 : Nat) : Int) (wrz o3 b3) ((q2 : Nat) : Int) be2 rc (bz (rdO tx sz st (ok, a))))), (qtext, .inl (cI, 48, .inl (fun j => iI (tx j)))), (qread, .inl (cI, 48, .inl rd2))]) [1, 2, 0] (by decide) rfl ?_
            exact hret _ _ ((o3, b3), q2, rd2, N2, be2) dX4_readNumber_74 ⟨by rw [rdN_y ⟨bz_ne h60, by omega⟩, ← ha1, ← hB]; exact h3e, by show q2 ≤ b3; omega, hRD, fun e => by rw [rdN0_e, ← ha1]; exact hok (rdE_ok (by rw [← h3e]; exact e))⟩
    · refine go_aload_n O dX4_readNumber_22 rfl 1 rfl 23 rfl ?_
      refine go_get O hK dX4_readNumber_23 hinX4 0 rfl rfl 20 (by decide) flX4_183 rfl 26 rfl ?_
      refine go_iconst O dX4_readNumber_26 27 rfl ?_
      refine go_iadd O dX4_readNumber_27 ((a + 1 : Nat) : Int) (by omega) 28 rfl ?_
      refine go_goto O dX4_readNumber_28 35 (by decide) ?_
      refine TGo.topi (y := ((a1 : Nat) : Int)) (by rw [ha1, bz_ne h19]; rfl) ?_
      refine go_put O hK dX4_readNumber_35 hinX4 tyX4 tyX4_ok nmX4 0 rfl rfl 20 (by decide) flX4_183 rfl rfl rfl rfl (Nat.le_of_ble_eq_true rfl) [(h, .inr (4, MF p s m qcurrency qisWide qnegative qkept qratios qtext qnum qbase qden qquo qrem qother qunits qparts qover qgiven qread ((sz : Nat) : Int) ((a1 : Nat) : Int) (wrz ok a) ((dc : Nat) : Int) be rc rn)), (qtext, .inl (cI, 48, .inl (fun j => iI (tx j)))), (qread, .inl (cI, 48, .inl rd))] rfl 38 rfl ?_
      rw [hwo]
      show TGo X [(h, .inr (4, MF p s m qcurrency qisWide qnegative qkept qratios qtext qnum qbase qden qquo qrem qother qunits qparts qover qgiven qread ((sz : Nat) : Int) ((a1 : Nat) : Int) (wrz ok a1) ((dc : Nat) : Int) be rc rn)), (qtext, .inl (cI, 48, .inl (fun j => iI (tx j)))), (qread, .inl (cI, 48, .inl rd))] 0 0 38 [(2, .int (iI (bz (rdO tx sz st (ok, a))))), (0, .ref h), (1, .int (iI st))] []
      refine go_aload_n O dX4_readNumber_38 rfl 1 rfl 39 rfl ?_
      refine go_iload_n O dX4_readNumber_39 rfl 0 rfl 40 rfl ?_
      refine go_put O hK dX4_readNumber_40 hinX4 tyX4 tyX4_ok nmX4 0 rfl rfl 26 (by decide) flX4_215 rfl rfl (nar_b (bz_01 _)) (fit_b (bz_01 _)) (Nat.le_of_ble_eq_true rfl) [(h, .inr (4, MF p s m qcurrency qisWide qnegative qkept qratios qtext qnum qbase qden qquo qrem qother qunits qparts qover qgiven qread ((sz : Nat) : Int) ((a1 : Nat) : Int) (wrz ok a1) ((dc : Nat) : Int) be rc (bz (rdO tx sz st (ok, a))))), (qtext, .inl (cI, 48, .inl (fun j => iI (tx j)))), (qread, .inl (cI, 48, .inl rd))] rfl 43 rfl ?_
      refine go_aload_n O dX4_readNumber_43 rfl 1 rfl 44 rfl ?_
      refine go_iload_n O dX4_readNumber_44 rfl 2 rfl 45 rfl ?_
      refine go_iconst O dX4_readNumber_45 46 rfl ?_
      refine go_irem O dX4_readNumber_46 (by omega) (by omega) (by omega) (by omega) (st % 2) rfl 47 rfl ?_
      refine go_iconst O dX4_readNumber_47 48 rfl ?_
      refine go_icmp_ne O dX4_readNumber_48 55 (by decide) 51 rfl (by omega) (by omega) (fun h48 => ?_) (fun h48 => ?_)
      · refine go_iconst O dX4_readNumber_55 56 rfl ?_
        refine TGo.topi (y := bz (decide (st % 2 = 1))) (by rw [decide_eq_false (by omega)]; rfl) ?_
        refine go_callvV (As := [.int (iI (bz (decide (st % 2 = 1))))]) (rest := []) (wr := []) O hK hE (c_X4_readBody E hE h p s m qcurrency qisWide qnegative qkept qratios qtext qnum qbase qden qquo qrem qother qunits qparts qover qgiven qread cI sz a1 ok dc be rc ((bz (rdO tx sz st (ok, a)))) tx htx hs ha1s rd (decide (st % 2 = 1)) hdc0 hbe) mlX4_219 imX4_readBody seX4_readBody inX4 cdX4_readBody 1 (by decide +kernel) ⟨Nat.le_of_ble_eq_true rfl, Nat.le_of_ble_eq_true rfl⟩ 0 rfl rfl [0] rfl [0, 1, 2] rfl (by decide) [] rfl (by decide) (by decide) rfl rfl (Nat.le_of_ble_eq_true rfl) ⟨Nat.zero_le _, Nat.zero_le _⟩ dX4_readNumber_56 59 rfl (fun u hu => ?_)
        obtain ⟨⟨o2, b2⟩, q2, rd2, N2, be2⟩ := u
        obtain ⟨hB, hq, hRD, hok⟩ := hu
        replace hB : (o2, b2) = rdB tx sz (decide (st % 2 = 1)) (ok, a1) := hB
        replace hq : q2 ≤ b2 := hq
        have hBl := rdB_le (tx := tx) (g := (decide (st % 2 = 1))) (s := (ok, a1)) ha1s
        rw [← hB] at hBl
        replace hBl : b2 ≤ sz ∧ a1 ≤ b2 := hBl
        show TGo X [(h, .inr (4, MF p s m qcurrency qisWide qnegative qkept qratios qtext qnum qbase qden qquo qrem qother qunits qparts qover qgiven qread ((sz : Nat) : Int) ((b2 : Nat) : Int) (wrz o2 b2) ((q2 : Nat) : Int) be2 rc (bz (rdO tx sz st (ok, a))))), (qtext, .inl (cI, 48, .inl (fun j => iI (tx j)))), (qread, .inl (cI, 48, .inl rd2))] 0 0 59 [(2, .int (iI (bz (rdO tx sz st (ok, a))))), (0, .ref h), (1, .int (iI st))] []
        refine go_iload_n O dX4_readNumber_59 rfl 0 rfl 60 rfl ?_
        refine go_if_eq O dX4_readNumber_60 74 (by decide) 63 rfl (by omega) (fun h60 => ?_) (fun h60 => ?_)
        · exact hret _ _ ((o2, b2), q2, rd2, N2, be2) dX4_readNumber_74 ⟨by rw [rdN_n (fun e => by rw [e.1] at h60; cases h60), ← ha1]; exact hB, hq, hRD, fun e => by rw [rdN0_e, ← ha1]; exact hok e⟩
        · refine go_iload_n O dX4_readNumber_63 rfl 2 rfl 64 rfl ?_
          refine go_iconst O dX4_readNumber_64 65 rfl ?_
          refine go_icmp_lt O dX4_readNumber_65 74 (by decide) 68 rfl (by omega) (by omega) (fun h65 => ?_) (fun h65 => ?_)
          · exact hret _ _ ((o2, b2), q2, rd2, N2, be2) dX4_readNumber_74 ⟨by rw [rdN_n (fun e => by omega), ← ha1]; exact hB, hq, hRD, fun e => by rw [rdN0_e, ← ha1]; exact hok e⟩
          · refine go_aload_n O dX4_readNumber_68 rfl 1 rfl 69 rfl ?_
            refine go_bipush O dX4_readNumber_69 (by decide) 71 rfl ?_
            refine go_callvV (As := [.int (iI 41)]) (rest := []) (wr := [(qread, .inl (cI, 48, .inl rd2))]) O hK hE (c_X4_expect E hE h p s m qcurrency qisWide qnegative qkept qratios qtext qnum qbase qden qquo qrem qother qunits qparts qover qgiven qread cI sz b2 o2 q2 be2 rc ((bz (rdO tx sz st (ok, a)))) tx htx hs hBl.1 41 (by omega)) mlX4_206 imX4_expect seX4_expect inX4 cdX4_expect 1 (by decide +kernel) ⟨Nat.le_of_ble_eq_true rfl, Nat.le_of_ble_eq_true rfl⟩ 0 rfl rfl [0] rfl [0, 1] rfl (by decide) [2] rfl (by decide) (by decide) rfl rfl (Nat.le_of_ble_eq_true rfl) ⟨Nat.zero_le _, Nat.zero_le _⟩ dX4_readNumber_71 74 rfl (fun u hu => ?_)
            obtain ⟨o3, b3⟩ := u
            have h3e := hu
            have h3el := rdE_le (tx := tx) (sz := sz) (c := 41) (s := (o2, b2)) hBl.1
            rw [← h3e] at h3el
            replace h3el : b3 ≤ sz ∧ b2 ≤ b3 := h3el
            show TGo X [(qread, .inl (cI, 48, .inl rd2)), (h, .inr (4, MF p s m qcurrency qisWide qnegative qkept qratios qtext qnum qbase qden qquo qrem qother qunits qparts qover qgiven qread ((sz : Nat) : Int) ((b3 : Nat) : Int) (wrz o3 b3) ((q2 : Nat) : Int) be2 rc (bz (rdO tx sz st (ok, a))))), (qtext, .inl (cI, 48, .inl (fun j => iI (tx j))))] 0 0 74 [(2, .int (iI (bz (rdO tx sz st (ok, a))))), (0, .ref h), (1, .int (iI st))] []
            refine TGo.sub (ws' := [(h, .inr (4, MF p s m qcurrency qisWide qnegative qkept qratios qtext qnum qbase qden qquo qrem qother qunits qparts qover qgiven qread ((sz : Nat) : Int) ((b3 : Nat) : Int) (wrz o3 b3) ((q2 : Nat) : Int) be2 rc (bz (rdO tx sz st (ok, a))))), (qtext, .inl (cI, 48, .inl (fun j => iI (tx j)))), (qread, .inl (cI, 48, .inl rd2))]) [1, 2, 0] (by decide) rfl ?_
            exact hret _ _ ((o3, b3), q2, rd2, N2, be2) dX4_readNumber_74 ⟨by rw [rdN_y ⟨bz_ne h60, by omega⟩, ← ha1, ← hB]; exact h3e, by show q2 ≤ b3; omega, hRD, fun e => by rw [rdN0_e, ← ha1]; exact hok (rdE_ok (by rw [← h3e]; exact e))⟩
      · refine go_iconst O dX4_readNumber_51 52 rfl ?_
        refine go_goto O dX4_readNumber_52 56 (by decide) ?_
        refine TGo.topi (y := bz (decide (st % 2 = 1))) (by rw [decide_eq_true (by omega)]; rfl) ?_
        refine go_callvV (As := [.int (iI (bz (decide (st % 2 = 1))))]) (rest := []) (wr := []) O hK hE (c_X4_readBody E hE h p s m qcurrency qisWide qnegative qkept qratios qtext qnum qbase qden qquo qrem qother qunits qparts qover qgiven qread cI sz a1 ok dc be rc ((bz (rdO tx sz st (ok, a)))) tx htx hs ha1s rd (decide (st % 2 = 1)) hdc0 hbe) mlX4_219 imX4_readBody seX4_readBody inX4 cdX4_readBody 1 (by decide +kernel) ⟨Nat.le_of_ble_eq_true rfl, Nat.le_of_ble_eq_true rfl⟩ 0 rfl rfl [0] rfl [0, 1, 2] rfl (by decide) [] rfl (by decide) (by decide) rfl rfl (Nat.le_of_ble_eq_true rfl) ⟨Nat.zero_le _, Nat.zero_le _⟩ dX4_readNumber_56 59 rfl (fun u hu => ?_)
        obtain ⟨⟨o2, b2⟩, q2, rd2, N2, be2⟩ := u
        obtain ⟨hB, hq, hRD, hok⟩ := hu
        replace hB : (o2, b2) = rdB tx sz (decide (st % 2 = 1)) (ok, a1) := hB
        replace hq : q2 ≤ b2 := hq
        have hBl := rdB_le (tx := tx) (g := (decide (st % 2 = 1))) (s := (ok, a1)) ha1s
        rw [← hB] at hBl
        replace hBl : b2 ≤ sz ∧ a1 ≤ b2 := hBl
        show TGo X [(h, .inr (4, MF p s m qcurrency qisWide qnegative qkept qratios qtext qnum qbase qden qquo qrem qother qunits qparts qover qgiven qread ((sz : Nat) : Int) ((b2 : Nat) : Int) (wrz o2 b2) ((q2 : Nat) : Int) be2 rc (bz (rdO tx sz st (ok, a))))), (qtext, .inl (cI, 48, .inl (fun j => iI (tx j)))), (qread, .inl (cI, 48, .inl rd2))] 0 0 59 [(2, .int (iI (bz (rdO tx sz st (ok, a))))), (0, .ref h), (1, .int (iI st))] []
        refine go_iload_n O dX4_readNumber_59 rfl 0 rfl 60 rfl ?_
        refine go_if_eq O dX4_readNumber_60 74 (by decide) 63 rfl (by omega) (fun h60 => ?_) (fun h60 => ?_)
        · exact hret _ _ ((o2, b2), q2, rd2, N2, be2) dX4_readNumber_74 ⟨by rw [rdN_n (fun e => by rw [e.1] at h60; cases h60), ← ha1]; exact hB, hq, hRD, fun e => by rw [rdN0_e, ← ha1]; exact hok e⟩
        · refine go_iload_n O dX4_readNumber_63 rfl 2 rfl 64 rfl ?_
          refine go_iconst O dX4_readNumber_64 65 rfl ?_
          refine go_icmp_lt O dX4_readNumber_65 74 (by decide) 68 rfl (by omega) (by omega) (fun h65 => ?_) (fun h65 => ?_)
          · exact hret _ _ ((o2, b2), q2, rd2, N2, be2) dX4_readNumber_74 ⟨by rw [rdN_n (fun e => by omega), ← ha1]; exact hB, hq, hRD, fun e => by rw [rdN0_e, ← ha1]; exact hok e⟩
          · refine go_aload_n O dX4_readNumber_68 rfl 1 rfl 69 rfl ?_
            refine go_bipush O dX4_readNumber_69 (by decide) 71 rfl ?_
            refine go_callvV (As := [.int (iI 41)]) (rest := []) (wr := [(qread, .inl (cI, 48, .inl rd2))]) O hK hE (c_X4_expect E hE h p s m qcurrency qisWide qnegative qkept qratios qtext qnum qbase qden qquo qrem qother qunits qparts qover qgiven qread cI sz b2 o2 q2 be2 rc ((bz (rdO tx sz st (ok, a)))) tx htx hs hBl.1 41 (by omega)) mlX4_206 imX4_expect seX4_expect inX4 cdX4_expect 1 (by decide +kernel) ⟨Nat.le_of_ble_eq_true rfl, Nat.le_of_ble_eq_true rfl⟩ 0 rfl rfl [0] rfl [0, 1] rfl (by decide) [2] rfl (by decide) (by decide) rfl rfl (Nat.le_of_ble_eq_true rfl) ⟨Nat.zero_le _, Nat.zero_le _⟩ dX4_readNumber_71 74 rfl (fun u hu => ?_)
            obtain ⟨o3, b3⟩ := u
            have h3e := hu
            have h3el := rdE_le (tx := tx) (sz := sz) (c := 41) (s := (o2, b2)) hBl.1
            rw [← h3e] at h3el
            replace h3el : b3 ≤ sz ∧ b2 ≤ b3 := h3el
            show TGo X [(qread, .inl (cI, 48, .inl rd2)), (h, .inr (4, MF p s m qcurrency qisWide qnegative qkept qratios qtext qnum qbase qden qquo qrem qother qunits qparts qover qgiven qread ((sz : Nat) : Int) ((b3 : Nat) : Int) (wrz o3 b3) ((q2 : Nat) : Int) be2 rc (bz (rdO tx sz st (ok, a))))), (qtext, .inl (cI, 48, .inl (fun j => iI (tx j))))] 0 0 74 [(2, .int (iI (bz (rdO tx sz st (ok, a))))), (0, .ref h), (1, .int (iI st))] []
            refine TGo.sub (ws' := [(h, .inr (4, MF p s m qcurrency qisWide qnegative qkept qratios qtext qnum qbase qden qquo qrem qother qunits qparts qover qgiven qread ((sz : Nat) : Int) ((b3 : Nat) : Int) (wrz o3 b3) ((q2 : Nat) : Int) be2 rc (bz (rdO tx sz st (ok, a))))), (qtext, .inl (cI, 48, .inl (fun j => iI (tx j)))), (qread, .inl (cI, 48, .inl rd2))]) [1, 2, 0] (by decide) rfl ?_
            exact hret _ _ ((o3, b3), q2, rd2, N2, be2) dX4_readNumber_74 ⟨by rw [rdN_y ⟨bz_ne h60, by omega⟩, ← ha1, ← hB]; exact h3e, by show q2 ≤ b3; omega, hRD, fun e => by rw [rdN0_e, ← ha1]; exact hok (rdE_ok (by rw [← h3e]; exact e))⟩
set_option maxHeartbeats 4000000 in
set_option maxRecDepth 100000 in
/-- parse -/
theorem c_X4_parse (E : TEn) (hE : EnvOk E) (h : Nat) (p s m : Int) (qcurrency qisWide qnegative qkept qratios qtext qnum qbase qden qquo qrem qother qunits qparts qover qgiven qread : Nat) (cI cZ : ClassId) (P Sc : Nat) (hp : p = (P : Int)) (hP : 19 ≤ P ∧ P ≤ 30) (hsS : s = (Sc : Int)) (hSc : 5 ≤ Sc ∧ Sc ≤ 10) (hm : 0 ≤ m ∧ m ≤ 6) (sz : Nat) (at0 wr dc be rc rn : Int) (tx : Nat → Int) (htx : ∀ j, r32 (tx j)) (hs : sz ≤ 48) (rd fnum fb fd fq fr fo fc fw fn K : Nat → Int32) (reg : Rg) (r st : Int) (wide : Bool) (hr : r32 r) (hst : r32 st) (hMR : MR fc fw fn K reg) : Cti vwCl E yX4_parse wsX4_parse (rmn 5 108) [.ref h, .int (iI r), .int (iI (bz wide)), .int (iI st)] [(h, .inr (4, MF p s m qcurrency qisWide qnegative qkept qratios qtext qnum qbase qden qquo qrem qother qunits qparts qover qgiven qread ((sz : Nat) : Int) at0 wr dc be rc rn)), (qtext, .inl (cI, 48, .inl (fun j => iI (tx j)))), (qread, .inl (cI, 48, .inl rd)), (qnum, .inl (cI, 80, .inl fnum)), (qbase, .inl (cI, 80, .inl fb)), (qden, .inl (cI, 80, .inl fd)), (qquo, .inl (cI, 80, .inl fq)), (qrem, .inl (cI, 80, .inl fr)), (qother, .inl (cI, 80, .inl fo)), (qcurrency, .inl (cI, 8, .inl fc)), (qisWide, .inl (cZ, 8, .inl fw)), (qnegative, .inl (cZ, 8, .inl fn)), (qkept, .inl (cI, 320, .inl K))] [(cI, .int), (cZ, .boolean)] (fun (z : Int) (u : (Nat → Int32) × (Nat → Int32) × (Nat → Int32) × (Nat → Int32) × (Nat → Int32) × (Nat → Int32) × (Nat → Int32) × (Nat → Int32) × (Nat → Int32) × (Nat → Int32) × (Nat → Int32) × Int × Int × Int × Int × Int × Int) => z = (spPrs P Sc m reg tx sz r wide st).1 ∧ MR u.2.2.2.2.2.2.2.1 u.2.2.2.2.2.2.2.2.1 u.2.2.2.2.2.2.2.2.2.1 u.2.2.2.2.2.2.2.2.2.2.1 (spPrs P Sc m reg tx sz r wide st).2) (fun u => [(h, .inr (4, MF p s m qcurrency qisWide qnegative qkept qratios qtext qnum qbase qden qquo qrem qother qunits qparts qover qgiven qread ((sz : Nat) : Int) u.2.2.2.2.2.2.2.2.2.2.2.1 u.2.2.2.2.2.2.2.2.2.2.2.2.1 u.2.2.2.2.2.2.2.2.2.2.2.2.2.1 u.2.2.2.2.2.2.2.2.2.2.2.2.2.2.1 u.2.2.2.2.2.2.2.2.2.2.2.2.2.2.2.1 u.2.2.2.2.2.2.2.2.2.2.2.2.2.2.2.2)), (qtext, .inl (cI, 48, .inl (fun j => iI (tx j)))), (qread, .inl (cI, 48, .inl u.1)), (qnum, .inl (cI, 80, .inl u.2.1)), (qbase, .inl (cI, 80, .inl u.2.2.1)), (qden, .inl (cI, 80, .inl u.2.2.2.1)), (qquo, .inl (cI, 80, .inl u.2.2.2.2.1)), (qrem, .inl (cI, 80, .inl u.2.2.2.2.2.1)), (qother, .inl (cI, 80, .inl u.2.2.2.2.2.2.1)), (qcurrency, .inl (cI, 8, .inl u.2.2.2.2.2.2.2.1)), (qisWide, .inl (cZ, 8, .inl u.2.2.2.2.2.2.2.2.1)), (qnegative, .inl (cZ, 8, .inl u.2.2.2.2.2.2.2.2.2.1)), (qkept, .inl (cI, 320, .inl u.2.2.2.2.2.2.2.2.2.2.1))]) := by
  refine enteri (by decide) (Nat.le_of_ble_eq_true rfl) ?_
  intro X O hK hin2 hret
  show TGo X [(h, .inr (4, MF p s m qcurrency qisWide qnegative qkept qratios qtext qnum qbase qden qquo qrem qother qunits qparts qover qgiven qread ((sz : Nat) : Int) at0 wr dc be rc rn)), (qtext, .inl (cI, 48, .inl (fun j => iI (tx j)))), (qread, .inl (cI, 48, .inl rd)), (qnum, .inl (cI, 80, .inl fnum)), (qbase, .inl (cI, 80, .inl fb)), (qden, .inl (cI, 80, .inl fd)), (qquo, .inl (cI, 80, .inl fq)), (qrem, .inl (cI, 80, .inl fr)), (qother, .inl (cI, 80, .inl fo)), (qcurrency, .inl (cI, 8, .inl fc)), (qisWide, .inl (cZ, 8, .inl fw)), (qnegative, .inl (cZ, 8, .inl fn)), (qkept, .inl (cI, 320, .inl K))] 0 0 0 [(0, .ref h), (1, .int (iI r)), (2, .int (iI (bz wide))), (3, .int (iI st))] []
  have o1 := tout_i (x := r) (e := 8)
  have o2 := tout_i (x := st) (e := 8)
  have bw := bz_01 wide
  have lp : ∀ (c : Nat) (i : Nat) (x : Int) (ρ b q : Nat) (o : Bool) (be rc rn : Int) (rd : Nat → Int32) (N1 : Nat) (g : Nat → Int32), c + i = q + 1 → i ≤ q → x = (i : Int) → (∀ j, q - i ≤ j → j < q → g j = dg N1 j) → (∀ j, ¬ (q - i ≤ j ∧ j < q) → g j = iI 0) → q ≤ 48 → RDk rd N1 q → r = (ρ : Int) → (ρ < 8 ∧ 0 ≤ st ∧ st < 8) → (o = true ∧ ¬ b < sz) → (o, b) = psS tx sz st → be = ((psBe tx sz st : Nat) : Int) → rc = tx (psK tx sz st) - 65 → rn = bz (psM tx sz st) → N1 = psN tx sz st → TGo X [(h, .inr (4, MF p s m qcurrency qisWide qnegative qkept qratios qtext qnum qbase qden qquo qrem qother qunits qparts qover qgiven qread ((sz : Nat) : Int) ((b : Nat) : Int) (wrz o b) ((q : Nat) : Int) be rc rn)), (qtext, .inl (cI, 48, .inl (fun j => iI (tx j)))), (qread, .inl (cI, 48, .inl rd)), (qnum, .inl (cI, 80, .inl g)), (qbase, .inl (cI, 80, .inl fb)), (qden, .inl (cI, 80, .inl fd)), (qquo, .inl (cI, 80, .inl fq)), (qrem, .inl (cI, 80, .inl fr)), (qother, .inl (cI, 80, .inl fo)), (qcurrency, .inl (cI, 8, .inl fc)), (qisWide, .inl (cZ, 8, .inl fw)), (qnegative, .inl (cZ, 8, .inl fn)), (qkept, .inl (cI, 320, .inl K))] 0 0 121 [(4, .int (iI x)), (0, .ref h), (1, .int (iI ((ρ : Nat) : Int))), (2, .int (iI (bz wide))), (3, .int (iI st))] [] := by
    intro c
    induction c with
    | zero => intro i x ρ b q o be rc rn rd N1 g h1 h2 hx hlo hot hq48 hRD hre hρ hx3 hS hbe hrc hrn hN1; omega
    | succ c ih =>
      intro i x ρ b q o be rc rn rd N1 g h1 h2 hx hlo hot hq48 hRD hre hρ hx3 hS hbe hrc hrn hN1
      refine go_iload O dX4_parse_121 0 rfl 123 rfl ?_
      refine go_aload_n O dX4_parse_123 rfl 1 rfl 124 rfl ?_
      refine go_get O hK dX4_parse_124 hinX4 0 rfl rfl 23 (by decide) flX4_197 rfl 127 rfl ?_
      refine go_icmp_ge O dX4_parse_127 157 (by decide) 130 rfl (by omega) (by omega) (fun h127 => ?_) (fun h127 => ?_)
      · refine TGo.arr 3 rfl (dg N1) (fun j hj => if a : j < q then hlo j (by omega) a else (by rw [hot j (by omega), dg_at, q_lt' (i := q) hRD.1 (by omega)]; rfl)) (ws' := [(h, .inr (4, MF p s m qcurrency qisWide qnegative qkept qratios qtext qnum qbase qden qquo qrem qother qunits qparts qover qgiven qread ((sz : Nat) : Int) ((b : Nat) : Int) (wrz o b) ((q : Nat) : Int) be rc rn)), (qtext, .inl (cI, 48, .inl (fun j => iI (tx j)))), (qread, .inl (cI, 48, .inl rd)), (qnum, .inl (cI, 80, .inl (dg N1))), (qbase, .inl (cI, 80, .inl fb)), (qden, .inl (cI, 80, .inl fd)), (qquo, .inl (cI, 80, .inl fq)), (qrem, .inl (cI, 80, .inl fr)), (qother, .inl (cI, 80, .inl fo)), (qcurrency, .inl (cI, 8, .inl fc)), (qisWide, .inl (cZ, 8, .inl fw)), (qnegative, .inl (cZ, 8, .inl fn)), (qkept, .inl (cI, 320, .inl K))]) rfl ?_
        have hbe10 := psBe_le tx sz st
        have hcu := ps_cu (tx := tx) (sz := sz) (st := st) (by rw [← hS]; exact hx3.1)
        refine go_aload_n O dX4_parse_157 rfl 1 rfl 158 rfl ?_
        refine go_get O hK dX4_parse_158 hinX4 0 rfl rfl 10 (by decide) flX4_29 rfl 161 rfl ?_
        refine go_bipush O dX4_parse_161 (by decide) 163 rfl ?_
        refine go_aload_n O dX4_parse_163 rfl 1 rfl 164 rfl ?_
        refine go_get O hK dX4_parse_164 hinX4 0 rfl rfl 24 (by decide) flX4_212 rfl 167 rfl ?_
        refine go_isub O dX4_parse_167 ((10 - psBe tx sz st : Nat) : Int) (by omega) 168 rfl ?_
        refine go_callvS (rest := []) (wr := [(h, .inr (4, MF p s m qcurrency qisWide qnegative qkept qratios qtext qnum qbase qden qquo qrem qother qunits qparts qover qgiven qread ((sz : Nat) : Int) ((b : Nat) : Int) (wrz o b) ((q : Nat) : Int) be rc rn)), (qtext, .inl (cI, 48, .inl (fun j => iI (tx j)))), (qread, .inl (cI, 48, .inl rd)), (qbase, .inl (cI, 80, .inl fb)), (qden, .inl (cI, 80, .inl fd)), (qquo, .inl (cI, 80, .inl fq)), (qrem, .inl (cI, 80, .inl fr)), (qother, .inl (cI, 80, .inl fo)), (qcurrency, .inl (cI, 8, .inl fc)), (qisWide, .inl (cZ, 8, .inl fw)), (qnegative, .inl (cZ, 8, .inl fn)), (qkept, .inl (cI, 320, .inl K))]) O hK hE (c_X4_shift E hE qnum cI N1 (10 - psBe tx sz st) (by omega)) mlX4_82 smX4_shift inX4 cdX4_shift 2 (by decide +kernel) ⟨Nat.le_of_ble_eq_true rfl, Nat.le_of_ble_eq_true rfl⟩ [0] rfl [3] rfl (by decide) [0, 1, 2, 4, 5, 6, 7, 8, 9, 10, 11, 12] rfl (by decide) (by decide) rfl rfl (Nat.le_of_ble_eq_true rfl) ⟨Nat.zero_le _, Nat.zero_le _⟩ dX4_parse_168 171 rfl (fun u hu => ?_)
        show TGo X [(h, .inr (4, MF p s m qcurrency qisWide qnegative qkept qratios qtext qnum qbase qden qquo qrem qother qunits qparts qover qgiven qread ((sz : Nat) : Int) ((b : Nat) : Int) (wrz o b) ((q : Nat) : Int) be rc rn)), (qtext, .inl (cI, 48, .inl (fun j => iI (tx j)))), (qread, .inl (cI, 48, .inl rd)), (qbase, .inl (cI, 80, .inl fb)), (qden, .inl (cI, 80, .inl fd)), (qquo, .inl (cI, 80, .inl fq)), (qrem, .inl (cI, 80, .inl fr)), (qother, .inl (cI, 80, .inl fo)), (qcurrency, .inl (cI, 8, .inl fc)), (qisWide, .inl (cZ, 8, .inl fw)), (qnegative, .inl (cZ, 8, .inl fn)), (qkept, .inl (cI, 320, .inl K)), (qnum, .inl (cI, 80, .inl (dg (N1 * 10 ^ (10 - psBe tx sz st)))))] 0 0 171 [(4, .int (iI x)), (0, .ref h), (1, .int (iI ((ρ : Nat) : Int))), (2, .int (iI (bz wide))), (3, .int (iI st))] []
        refine TGo.sub (ws' := [(h, .inr (4, MF p s m qcurrency qisWide qnegative qkept qratios qtext qnum qbase qden qquo qrem qother qunits qparts qover qgiven qread ((sz : Nat) : Int) ((b : Nat) : Int) (wrz o b) ((q : Nat) : Int) be rc rn)), (qtext, .inl (cI, 48, .inl (fun j => iI (tx j)))), (qread, .inl (cI, 48, .inl rd)), (qnum, .inl (cI, 80, .inl (dg (N1 * 10 ^ (10 - psBe tx sz st))))), (qbase, .inl (cI, 80, .inl fb)), (qden, .inl (cI, 80, .inl fd)), (qquo, .inl (cI, 80, .inl fq)), (qrem, .inl (cI, 80, .inl fr)), (qother, .inl (cI, 80, .inl fo)), (qcurrency, .inl (cI, 8, .inl fc)), (qisWide, .inl (cZ, 8, .inl fw)), (qnegative, .inl (cZ, 8, .inl fn)), (qkept, .inl (cI, 320, .inl K))]) [0, 1, 2, 12, 3, 4, 5, 6, 7, 8, 9, 10, 11] (by decide) rfl ?_
        refine go_aload_n O dX4_parse_171 rfl 1 rfl 172 rfl ?_
        refine go_get O hK dX4_parse_172 hinX4 0 rfl rfl 11 (by decide) flX4_32 rfl 175 rfl ?_
        refine go_lconst O dX4_parse_175 1 rfl 176 rfl ?_
        refine go_callvS (rest := []) (wr := [(h, .inr (4, MF p s m qcurrency qisWide qnegative qkept qratios qtext qnum qbase qden qquo qrem qother qunits qparts qover qgiven qread ((sz : Nat) : Int) ((b : Nat) : Int) (wrz o b) ((q : Nat) : Int) be rc rn)), (qtext, .inl (cI, 48, .inl (fun j => iI (tx j)))), (qread, .inl (cI, 48, .inl rd)), (qnum, .inl (cI, 80, .inl (dg (N1 * 10 ^ (10 - psBe tx sz st))))), (qden, .inl (cI, 80, .inl fd)), (qquo, .inl (cI, 80, .inl fq)), (qrem, .inl (cI, 80, .inl fr)), (qother, .inl (cI, 80, .inl fo)), (qcurrency, .inl (cI, 8, .inl fc)), (qisWide, .inl (cZ, 8, .inl fw)), (qnegative, .inl (cZ, 8, .inl fn)), (qkept, .inl (cI, 320, .inl K))]) O hK hE (c_X4_load E hE qbase cI fb 1 (by omega)) mlX4_100 smX4_load inX4 cdX4_load 2 (by decide +kernel) ⟨Nat.le_of_ble_eq_true rfl, Nat.le_of_ble_eq_true rfl⟩ [0] rfl [4] rfl (by decide) [0, 1, 2, 3, 5, 6, 7, 8, 9, 10, 11, 12] rfl (by decide) (by decide) rfl rfl (Nat.le_of_ble_eq_true rfl) ⟨Nat.zero_le _, Nat.zero_le _⟩ dX4_parse_176 179 rfl (fun u hu => ?_)
        show TGo X [(h, .inr (4, MF p s m qcurrency qisWide qnegative qkept qratios qtext qnum qbase qden qquo qrem qother qunits qparts qover qgiven qread ((sz : Nat) : Int) ((b : Nat) : Int) (wrz o b) ((q : Nat) : Int) be rc rn)), (qtext, .inl (cI, 48, .inl (fun j => iI (tx j)))), (qread, .inl (cI, 48, .inl rd)), (qnum, .inl (cI, 80, .inl (dg (N1 * 10 ^ (10 - psBe tx sz st))))), (qden, .inl (cI, 80, .inl fd)), (qquo, .inl (cI, 80, .inl fq)), (qrem, .inl (cI, 80, .inl fr)), (qother, .inl (cI, 80, .inl fo)), (qcurrency, .inl (cI, 8, .inl fc)), (qisWide, .inl (cZ, 8, .inl fw)), (qnegative, .inl (cZ, 8, .inl fn)), (qkept, .inl (cI, 320, .inl K)), (qbase, .inl (cI, 80, .inl (dg (Int.natAbs 1))))] 0 0 179 [(4, .int (iI x)), (0, .ref h), (1, .int (iI ((ρ : Nat) : Int))), (2, .int (iI (bz wide))), (3, .int (iI st))] []
        refine TGo.sub (ws' := [(h, .inr (4, MF p s m qcurrency qisWide qnegative qkept qratios qtext qnum qbase qden qquo qrem qother qunits qparts qover qgiven qread ((sz : Nat) : Int) ((b : Nat) : Int) (wrz o b) ((q : Nat) : Int) be rc rn)), (qtext, .inl (cI, 48, .inl (fun j => iI (tx j)))), (qread, .inl (cI, 48, .inl rd)), (qnum, .inl (cI, 80, .inl (dg (N1 * 10 ^ (10 - psBe tx sz st))))), (qbase, .inl (cI, 80, .inl (dg (Int.natAbs 1)))), (qden, .inl (cI, 80, .inl fd)), (qquo, .inl (cI, 80, .inl fq)), (qrem, .inl (cI, 80, .inl fr)), (qother, .inl (cI, 80, .inl fo)), (qcurrency, .inl (cI, 8, .inl fc)), (qisWide, .inl (cZ, 8, .inl fw)), (qnegative, .inl (cZ, 8, .inl fn)), (qkept, .inl (cI, 320, .inl K))]) [0, 1, 2, 3, 12, 4, 5, 6, 7, 8, 9, 10, 11] (by decide) rfl ?_
        refine go_aload_n O dX4_parse_179 rfl 1 rfl 180 rfl ?_
        refine go_iload_n O dX4_parse_180 rfl 2 rfl 181 rfl ?_
        refine go_aload_n O dX4_parse_181 rfl 1 rfl 182 rfl ?_
        refine go_get O hK dX4_parse_182 hinX4 0 rfl rfl 25 (by decide) flX4_203 rfl 185 rfl ?_
        refine go_iload_n O dX4_parse_185 rfl 3 rfl 186 rfl ?_
        refine go_aload_n O dX4_parse_186 rfl 1 rfl 187 rfl ?_
        refine go_get O hK dX4_parse_187 hinX4 0 rfl rfl 26 (by decide) flX4_215 rfl 190 rfl ?_
        refine TGo.topi (y := bz (psM tx sz st)) hrn ?_
        refine go_calliV (As := [.int (iI ((ρ : Nat) : Int)), .int (iI rc), .int (iI (bz wide)), .int (iI (bz (psM tx sz st)))]) (rest := []) (wr := [(qtext, .inl (cI, 48, .inl (fun j => iI (tx j)))), (qread, .inl (cI, 48, .inl rd))]) O hK hE (c_X4_settle E hE h (MF p s m qcurrency qisWide qnegative qkept qratios qtext qnum qbase qden qquo qrem qother qunits qparts qover qgiven qread ((sz : Nat) : Int) ((b : Nat) : Int) (wrz o b) ((q : Nat) : Int) be rc rn) rfl rfl rfl rfl rfl rfl rfl rfl rfl rfl rfl rfl rfl cI cZ P Sc hp hP hsS hSc hm ρ (N1 * 10 ^ (10 - psBe tx sz st)) (Int.natAbs 1) rc fd fq fr fo fc fw fn K reg wide (psM tx sz st) (by omega) (by omega) (prs_bd hRD.1 (by omega)) (by decide) (by decide) hMR) mlX4_127 imX4_settle seX4_settle inX4 cdX4_settle 4 (by decide +kernel) ⟨Nat.le_of_ble_eq_true rfl, Nat.le_of_ble_eq_true rfl⟩ 0 rfl rfl [0, 1] rfl [0, 3, 4, 5, 6, 7, 8, 9, 10, 11, 12] rfl (by decide) [1, 2] rfl (by decide) (by decide) rfl rfl (Nat.le_of_ble_eq_true rfl) ⟨Nat.zero_le _, Nat.zero_le _⟩ dX4_parse_190 193 rfl (fun z u hu => ?_)
        obtain ⟨fd2, fq2, fr2, fo2, fc2, fw2, fn2, K2⟩ := u
        obtain ⟨rfl, hMR2⟩ := hu
        show TGo X [(qtext, .inl (cI, 48, .inl (fun j => iI (tx j)))), (qread, .inl (cI, 48, .inl rd)), (h, .inr (4, MF p s m qcurrency qisWide qnegative qkept qratios qtext qnum qbase qden qquo qrem qother qunits qparts qover qgiven qread ((sz : Nat) : Int) ((b : Nat) : Int) (wrz o b) ((q : Nat) : Int) be rc rn)), (qnum, .inl (cI, 80, .inl (dg (N1 * 10 ^ (10 - psBe tx sz st))))), (qbase, .inl (cI, 80, .inl (dg (Int.natAbs 1)))), (qden, .inl (cI, 80, .inl fd2)), (qquo, .inl (cI, 80, .inl fq2)), (qrem, .inl (cI, 80, .inl fr2)), (qother, .inl (cI, 80, .inl fo2)), (qcurrency, .inl (cI, 8, .inl fc2)), (qisWide, .inl (cZ, 8, .inl fw2)), (qnegative, .inl (cZ, 8, .inl fn2)), (qkept, .inl (cI, 320, .inl K2))] 0 0 193 [(4, .int (iI x)), (0, .ref h), (1, .int (iI ((ρ : Nat) : Int))), (2, .int (iI (bz wide))), (3, .int (iI st))] [.int (iI (ansO (tstl P Sc m wide (psM tx sz st) (N1 * 10 ^ (10 - psBe tx sz st)) (Int.natAbs 1))))]
        refine TGo.sub (ws' := [(h, .inr (4, MF p s m qcurrency qisWide qnegative qkept qratios qtext qnum qbase qden qquo qrem qother qunits qparts qover qgiven qread ((sz : Nat) : Int) ((b : Nat) : Int) (wrz o b) ((q : Nat) : Int) be rc rn)), (qtext, .inl (cI, 48, .inl (fun j => iI (tx j)))), (qread, .inl (cI, 48, .inl rd)), (qnum, .inl (cI, 80, .inl (dg (N1 * 10 ^ (10 - psBe tx sz st))))), (qbase, .inl (cI, 80, .inl (dg (Int.natAbs 1)))), (qden, .inl (cI, 80, .inl fd2)), (qquo, .inl (cI, 80, .inl fq2)), (qrem, .inl (cI, 80, .inl fr2)), (qother, .inl (cI, 80, .inl fo2)), (qcurrency, .inl (cI, 8, .inl fc2)), (qisWide, .inl (cZ, 8, .inl fw2)), (qnegative, .inl (cZ, 8, .inl fn2)), (qkept, .inl (cI, 320, .inl K2))]) [2, 0, 1, 3, 4, 5, 6, 7, 8, 9, 10, 11, 12] (by decide) rfl ?_
        have he := spPrs_ok (P := P) (Sc := Sc) (m := m) (reg := reg) (wide := wide) hρ hS hx3 hN1 hrc
        rw [← hre] at he
        exact hret _ _ _ (rd, dg (N1 * 10 ^ (10 - psBe tx sz st)), dg (Int.natAbs 1), fd2, fq2, fr2, fo2, fc2, fw2, fn2, K2, ((b : Nat) : Int), (wrz o b), ((q : Nat) : Int), be, rc, rn) dX4_parse_193 rfl ⟨by rw [he], by rw [he]; exact hMR2⟩
      · refine go_aload_n O dX4_parse_130 rfl 1 rfl 131 rfl ?_
        refine go_get O hK dX4_parse_131 hinX4 0 rfl rfl 10 (by decide) flX4_29 rfl 134 rfl ?_
        refine go_aload_n O dX4_parse_134 rfl 1 rfl 135 rfl ?_
        refine go_get O hK dX4_parse_135 hinX4 0 rfl rfl 23 (by decide) flX4_197 rfl 138 rfl ?_
        refine go_iconst O dX4_parse_138 139 rfl ?_
        refine go_isub O dX4_parse_139 (((q : Nat) : Int) - 1) rfl 140 rfl ?_
        refine go_iload O dX4_parse_140 0 rfl 142 rfl ?_
        refine go_isub O dX4_parse_142 ((q - 1 - i : Nat) : Int) (by omega) 143 rfl ?_
        refine go_aload_n O dX4_parse_143 rfl 1 rfl 144 rfl ?_
        refine go_get O hK dX4_parse_144 hinX4 0 rfl rfl 22 (by decide) flX4_59 rfl 147 rfl ?_
        refine go_iload O dX4_parse_147 0 rfl 149 rfl ?_
        refine go_iald O hK dX4_parse_149 2 0 rfl rfl i hx (by omega) (by omega) ((N1 / 10 ^ (q - 1 - i) % 10 : Nat) : Int) (hRD.2 i (by omega)) 150 rfl ?_
        refine go_iast O hK dX4_parse_150 3 0 rfl rfl (q - 1 - i) rfl (by omega) (by omega) (upd g (q - 1 - i) (iI ((N1 / 10 ^ (q - 1 - i) % 10 : Nat) : Int))) (fun _ _ => rfl) [(h, .inr (4, MF p s m qcurrency qisWide qnegative qkept qratios qtext qnum qbase qden qquo qrem qother qunits qparts qover qgiven qread ((sz : Nat) : Int) ((b : Nat) : Int) (wrz o b) ((q : Nat) : Int) be rc rn)), (qtext, .inl (cI, 48, .inl (fun j => iI (tx j)))), (qread, .inl (cI, 48, .inl rd)), (qnum, .inl (cI, 80, .inl (upd g (q - 1 - i) (iI ((N1 / 10 ^ (q - 1 - i) % 10 : Nat) : Int))))), (qbase, .inl (cI, 80, .inl fb)), (qden, .inl (cI, 80, .inl fd)), (qquo, .inl (cI, 80, .inl fq)), (qrem, .inl (cI, 80, .inl fr)), (qother, .inl (cI, 80, .inl fo)), (qcurrency, .inl (cI, 8, .inl fc)), (qisWide, .inl (cZ, 8, .inl fw)), (qnegative, .inl (cZ, 8, .inl fn)), (qkept, .inl (cI, 320, .inl K))] rfl 151 rfl ?_
        refine go_iinc O dX4_parse_151 0 rfl ((i + 1 : Nat) : Int) (by omega) (by decide) [(4, .int (iI ((i + 1 : Nat) : Int))), (0, .ref h), (1, .int (iI ((ρ : Nat) : Int))), (2, .int (iI (bz wide))), (3, .int (iI st))] rfl 154 rfl ?_
        refine go_goto O dX4_parse_154 121 (by decide) ?_
        refine TGo.lsub (lv' := [(4, .int (iI ((i + 1 : Nat) : Int))), (0, .ref h), (1, .int (iI ((ρ : Nat) : Int))), (2, .int (iI (bz wide))), (3, .int (iI st))]) [0, 1, 2, 3, 4] rfl ?_
        exact ih (i + 1) _ ρ b q o be rc rn rd N1 _ (by omega) (by omega) (by omega) (rdn_lo (by omega) hlo) (rdn_ot (by omega) hot) hq48 hRD hre hρ hx3 hS hbe hrc hrn hN1
  have m81 : ∀ (ρ b q : Nat) (o : Bool) (be rc rn : Int) (rd : Nat → Int32) (N1 : Nat), r = (ρ : Int) → (ρ < 8 ∧ 0 ≤ st ∧ st < 8) → (o, b) = psS tx sz st → q ≤ b → RDk rd N1 q → (o = true → N1 = psN tx sz st ∧ be = ((psBe tx sz st : Nat) : Int) ∧ rc = tx (psK tx sz st) - 65 ∧ rn = bz (psM tx sz st)) → TGo X [(h, .inr (4, MF p s m qcurrency qisWide qnegative qkept qratios qtext qnum qbase qden qquo qrem qother qunits qparts qover qgiven qread ((sz : Nat) : Int) ((b : Nat) : Int) (wrz o b) ((q : Nat) : Int) be rc rn)), (qtext, .inl (cI, 48, .inl (fun j => iI (tx j)))), (qread, .inl (cI, 48, .inl rd)), (qnum, .inl (cI, 80, .inl fnum)), (qbase, .inl (cI, 80, .inl fb)), (qden, .inl (cI, 80, .inl fd)), (qquo, .inl (cI, 80, .inl fq)), (qrem, .inl (cI, 80, .inl fr)), (qother, .inl (cI, 80, .inl fo)), (qcurrency, .inl (cI, 8, .inl fc)), (qisWide, .inl (cZ, 8, .inl fw)), (qnegative, .inl (cZ, 8, .inl fn)), (qkept, .inl (cI, 320, .inl K))] 0 0 81 [(0, .ref h), (1, .int (iI ((ρ : Nat) : Int))), (2, .int (iI (bz wide))), (3, .int (iI st))] [] := by
    intro ρ b q o be rc rn rd N1 hre hρ hS hqb hRD hok
    have hbs : b ≤ sz := by have e := psS_le tx sz st; rw [← hS] at e; exact e
    have hw := wrz_c o b
    have hwf := wrz_f b
    refine go_aload_n O dX4_parse_81 rfl 0 rfl 82 rfl ?_
    refine go_get O hK dX4_parse_82 hinX4 0 rfl rfl 20 (by decide) flX4_183 rfl 85 rfl ?_
    refine go_aload_n O dX4_parse_85 rfl 0 rfl 86 rfl ?_
    refine go_get O hK dX4_parse_86 hinX4 0 rfl rfl 9 (by decide) flX4_166 rfl 89 rfl ?_
    refine go_icmp_ge O dX4_parse_89 96 (by decide) 92 rfl (by omega) (by omega) (fun h89 => ?_) (fun h89 => ?_)
    · refine go_aload_n O dX4_parse_96 rfl 0 rfl 97 rfl ?_
      refine go_get O hK dX4_parse_97 hinX4 0 rfl rfl 21 (by decide) flX4_180 rfl 100 rfl ?_
      refine go_if_lt O dX4_parse_100 111 (by decide) 103 rfl (by omega) (fun h100 => ?_) (fun h100 => ?_)
      · have eo : o = true := bz_1.mp (by omega)
        obtain ⟨hN1, hbe, hrc, hrn⟩ := hok eo
        refine go_aload_n O dX4_parse_111 rfl 0 rfl 112 rfl ?_
        refine go_get O hK dX4_parse_112 hinX4 0 rfl rfl 10 (by decide) flX4_29 rfl 115 rfl ?_
        refine go_callvS (rest := []) (wr := [(h, .inr (4, MF p s m qcurrency qisWide qnegative qkept qratios qtext qnum qbase qden qquo qrem qother qunits qparts qover qgiven qread ((sz : Nat) : Int) ((b : Nat) : Int) (wrz o b) ((q : Nat) : Int) be rc rn)), (qtext, .inl (cI, 48, .inl (fun j => iI (tx j)))), (qread, .inl (cI, 48, .inl rd)), (qbase, .inl (cI, 80, .inl fb)), (qden, .inl (cI, 80, .inl fd)), (qquo, .inl (cI, 80, .inl fq)), (qrem, .inl (cI, 80, .inl fr)), (qother, .inl (cI, 80, .inl fo)), (qcurrency, .inl (cI, 8, .inl fc)), (qisWide, .inl (cZ, 8, .inl fw)), (qnegative, .inl (cZ, 8, .inl fn)), (qkept, .inl (cI, 320, .inl K))]) O hK hE (c_X4_clear E hE qnum cI fnum) mlX4_72 smX4_clear inX4 cdX4_clear 1 (by decide +kernel) ⟨Nat.le_of_ble_eq_true rfl, Nat.le_of_ble_eq_true rfl⟩ [0] rfl [3] rfl (by decide) [0, 1, 2, 4, 5, 6, 7, 8, 9, 10, 11, 12] rfl (by decide) (by decide) rfl rfl (Nat.le_of_ble_eq_true rfl) ⟨Nat.zero_le _, Nat.zero_le _⟩ dX4_parse_115 118 rfl (fun u hu => ?_)
        show TGo X [(h, .inr (4, MF p s m qcurrency qisWide qnegative qkept qratios qtext qnum qbase qden qquo qrem qother qunits qparts qover qgiven qread ((sz : Nat) : Int) ((b : Nat) : Int) (wrz o b) ((q : Nat) : Int) be rc rn)), (qtext, .inl (cI, 48, .inl (fun j => iI (tx j)))), (qread, .inl (cI, 48, .inl rd)), (qbase, .inl (cI, 80, .inl fb)), (qden, .inl (cI, 80, .inl fd)), (qquo, .inl (cI, 80, .inl fq)), (qrem, .inl (cI, 80, .inl fr)), (qother, .inl (cI, 80, .inl fo)), (qcurrency, .inl (cI, 8, .inl fc)), (qisWide, .inl (cZ, 8, .inl fw)), (qnegative, .inl (cZ, 8, .inl fn)), (qkept, .inl (cI, 320, .inl K)), (qnum, .inl (cI, 80, .inl (dg 0)))] 0 0 118 [(0, .ref h), (1, .int (iI ((ρ : Nat) : Int))), (2, .int (iI (bz wide))), (3, .int (iI st))] []
        refine TGo.sub (ws' := [(h, .inr (4, MF p s m qcurrency qisWide qnegative qkept qratios qtext qnum qbase qden qquo qrem qother qunits qparts qover qgiven qread ((sz : Nat) : Int) ((b : Nat) : Int) (wrz o b) ((q : Nat) : Int) be rc rn)), (qtext, .inl (cI, 48, .inl (fun j => iI (tx j)))), (qread, .inl (cI, 48, .inl rd)), (qnum, .inl (cI, 80, .inl (dg 0))), (qbase, .inl (cI, 80, .inl fb)), (qden, .inl (cI, 80, .inl fd)), (qquo, .inl (cI, 80, .inl fq)), (qrem, .inl (cI, 80, .inl fr)), (qother, .inl (cI, 80, .inl fo)), (qcurrency, .inl (cI, 8, .inl fc)), (qisWide, .inl (cZ, 8, .inl fw)), (qnegative, .inl (cZ, 8, .inl fn)), (qkept, .inl (cI, 320, .inl K))]) [0, 1, 2, 12, 3, 4, 5, 6, 7, 8, 9, 10, 11] (by decide) rfl ?_
        refine go_iconst O dX4_parse_118 119 rfl ?_
        refine go_istore O dX4_parse_119 (by decide) [(4, .int (iI 0)), (0, .ref h), (1, .int (iI ((ρ : Nat) : Int))), (2, .int (iI (bz wide))), (3, .int (iI st))] rfl 121 rfl ?_
        refine TGo.lsub (lv' := [(4, .int (iI 0)), (0, .ref h), (1, .int (iI ((ρ : Nat) : Int))), (2, .int (iI (bz wide))), (3, .int (iI st))]) [0, 1, 2, 3, 4] rfl ?_
        exact lp (q + 1) 0 _ ρ b q o be rc rn rd N1 _ (by omega) (by omega) rfl (fun j e1 e2 => absurd e2 (by omega)) (fun j _ => dg_zero j) (by omega) hRD hre hρ ⟨eo, by omega⟩ hS hbe hrc hrn hN1
      · refine go_bipush O dX4_parse_103 (by decide) 105 rfl ?_
        refine go_aload_n O dX4_parse_105 rfl 0 rfl 106 rfl ?_
        refine go_get O hK dX4_parse_106 hinX4 0 rfl rfl 21 (by decide) flX4_180 rfl 109 rfl ?_
        refine go_isub O dX4_parse_109 ((-100) - (wrz o b)) rfl 110 rfl ?_
        have he := spPrs_x (P := P) (Sc := Sc) (m := m) (reg := reg) (wide := wide) hρ hS (Or.inl (by omega))
        rw [← hre] at he
        exact hret _ _ _ (rd, fnum, fb, fd, fq, fr, fo, fc, fw, fn, K, ((b : Nat) : Int), (wrz o b), ((q : Nat) : Int), be, rc, rn) dX4_parse_110 rfl ⟨by rw [he]; show _ = -100 - (b : Int); omega, by rw [he]; exact hMR⟩
    · refine go_aload_n O dX4_parse_92 rfl 0 rfl 93 rfl ?_
      refine go_callvV (As := []) (rest := []) (wr := [(qread, .inl (cI, 48, .inl rd)), (qnum, .inl (cI, 80, .inl fnum)), (qbase, .inl (cI, 80, .inl fb)), (qden, .inl (cI, 80, .inl fd)), (qquo, .inl (cI, 80, .inl fq)), (qrem, .inl (cI, 80, .inl fr)), (qother, .inl (cI, 80, .inl fo)), (qcurrency, .inl (cI, 8, .inl fc)), (qisWide, .inl (cZ, 8, .inl fw)), (qnegative, .inl (cZ, 8, .inl fn)), (qkept, .inl (cI, 320, .inl K))]) O hK hE (c_X4_fail E hE h p s m qcurrency qisWide qnegative qkept qratios qtext qnum qbase qden qquo qrem qother qunits qparts qover qgiven qread cI sz b o q be rc rn tx htx hs hbs) mlX4_190 imX4_fail seX4_fail inX4 cdX4_fail 0 (by decide +kernel) ⟨Nat.le_of_ble_eq_true rfl, Nat.le_of_ble_eq_true rfl⟩ 0 rfl rfl [0] rfl [0, 1] rfl (by decide) [2, 3, 4, 5, 6, 7, 8, 9, 10, 11, 12] rfl (by decide) (by decide) rfl rfl (Nat.le_of_ble_eq_true rfl) ⟨Nat.zero_le _, Nat.zero_le _⟩ dX4_parse_93 96 rfl (fun u hu => ?_)
      show TGo X [(qread, .inl (cI, 48, .inl rd)), (qnum, .inl (cI, 80, .inl fnum)), (qbase, .inl (cI, 80, .inl fb)), (qden, .inl (cI, 80, .inl fd)), (qquo, .inl (cI, 80, .inl fq)), (qrem, .inl (cI, 80, .inl fr)), (qother, .inl (cI, 80, .inl fo)), (qcurrency, .inl (cI, 8, .inl fc)), (qisWide, .inl (cZ, 8, .inl fw)), (qnegative, .inl (cZ, 8, .inl fn)), (qkept, .inl (cI, 320, .inl K)), (h, .inr (4, MF p s m qcurrency qisWide qnegative qkept qratios qtext qnum qbase qden qquo qrem qother qunits qparts qover qgiven qread ((sz : Nat) : Int) ((b : Nat) : Int) (wrz false b) ((q : Nat) : Int) be rc rn)), (qtext, .inl (cI, 48, .inl (fun j => iI (tx j))))] 0 0 96 [(0, .ref h), (1, .int (iI ((ρ : Nat) : Int))), (2, .int (iI (bz wide))), (3, .int (iI st))] []
      refine TGo.sub (ws' := [(h, .inr (4, MF p s m qcurrency qisWide qnegative qkept qratios qtext qnum qbase qden qquo qrem qother qunits qparts qover qgiven qread ((sz : Nat) : Int) ((b : Nat) : Int) (wrz false b) ((q : Nat) : Int) be rc rn)), (qtext, .inl (cI, 48, .inl (fun j => iI (tx j)))), (qread, .inl (cI, 48, .inl rd)), (qnum, .inl (cI, 80, .inl fnum)), (qbase, .inl (cI, 80, .inl fb)), (qden, .inl (cI, 80, .inl fd)), (qquo, .inl (cI, 80, .inl fq)), (qrem, .inl (cI, 80, .inl fr)), (qother, .inl (cI, 80, .inl fo)), (qcurrency, .inl (cI, 8, .inl fc)), (qisWide, .inl (cZ, 8, .inl fw)), (qnegative, .inl (cZ, 8, .inl fn)), (qkept, .inl (cI, 320, .inl K))]) [11, 12, 0, 1, 2, 3, 4, 5, 6, 7, 8, 9, 10] (by decide) rfl ?_
      refine go_aload_n O dX4_parse_96 rfl 0 rfl 97 rfl ?_
      refine go_get O hK dX4_parse_97 hinX4 0 rfl rfl 21 (by decide) flX4_180 rfl 100 rfl ?_
      refine go_if_lt O dX4_parse_100 111 (by decide) 103 rfl (by omega) (fun h100 => by omega) (fun h100 => ?_)
      refine go_bipush O dX4_parse_103 (by decide) 105 rfl ?_
      refine go_aload_n O dX4_parse_105 rfl 0 rfl 106 rfl ?_
      refine go_get O hK dX4_parse_106 hinX4 0 rfl rfl 21 (by decide) flX4_180 rfl 109 rfl ?_
      refine go_isub O dX4_parse_109 ((-100) - (wrz false b)) rfl 110 rfl ?_
      have he := spPrs_x (P := P) (Sc := Sc) (m := m) (reg := reg) (wide := wide) hρ hS (Or.inr (by omega))
      rw [← hre] at he
      exact hret _ _ _ (rd, fnum, fb, fd, fq, fr, fo, fc, fw, fn, K, ((b : Nat) : Int), (wrz false b), ((q : Nat) : Int), be, rc, rn) dX4_parse_110 rfl ⟨by rw [he]; show _ = -100 - (b : Int); omega, by rw [he]; exact hMR⟩
  refine go_iload_n O dX4_parse_0 rfl 1 rfl 1 rfl ?_
  refine go_bipush O dX4_parse_1 (by decide) 3 rfl ?_
  refine go_calliS (rest := []) (wr := [(h, .inr (4, MF p s m qcurrency qisWide qnegative qkept qratios qtext qnum qbase qden qquo qrem qother qunits qparts qover qgiven qread ((sz : Nat) : Int) at0 wr dc be rc rn)), (qtext, .inl (cI, 48, .inl (fun j => iI (tx j)))), (qread, .inl (cI, 48, .inl rd)), (qnum, .inl (cI, 80, .inl fnum)), (qbase, .inl (cI, 80, .inl fb)), (qden, .inl (cI, 80, .inl fd)), (qquo, .inl (cI, 80, .inl fq)), (qrem, .inl (cI, 80, .inl fr)), (qother, .inl (cI, 80, .inl fo)), (qcurrency, .inl (cI, 8, .inl fc)), (qisWide, .inl (cZ, 8, .inl fw)), (qnegative, .inl (cZ, 8, .inl fn)), (qkept, .inl (cI, 320, .inl K))]) O hK hE (c_X4_outside E hE r 8 (by omega) (by omega)) mlX4_123 smX4_outside inX4 cdX4_outside 2 (by decide +kernel) ⟨Nat.le_of_ble_eq_true rfl, Nat.le_of_ble_eq_true rfl⟩ [] rfl [] rfl (by decide) [0, 1, 2, 3, 4, 5, 6, 7, 8, 9, 10, 11, 12] rfl (by decide) (by decide) rfl rfl (Nat.le_of_ble_eq_true rfl) ⟨Nat.zero_le _, Nat.zero_le _⟩ dX4_parse_3 6 rfl (fun z u hu => ?_)
  subst hu
  show TGo X [(h, .inr (4, MF p s m qcurrency qisWide qnegative qkept qratios qtext qnum qbase qden qquo qrem qother qunits qparts qover qgiven qread ((sz : Nat) : Int) at0 wr dc be rc rn)), (qtext, .inl (cI, 48, .inl (fun j => iI (tx j)))), (qread, .inl (cI, 48, .inl rd)), (qnum, .inl (cI, 80, .inl fnum)), (qbase, .inl (cI, 80, .inl fb)), (qden, .inl (cI, 80, .inl fd)), (qquo, .inl (cI, 80, .inl fq)), (qrem, .inl (cI, 80, .inl fr)), (qother, .inl (cI, 80, .inl fo)), (qcurrency, .inl (cI, 8, .inl fc)), (qisWide, .inl (cZ, 8, .inl fw)), (qnegative, .inl (cZ, 8, .inl fn)), (qkept, .inl (cI, 320, .inl K))] 0 0 6 [(0, .ref h), (1, .int (iI r)), (2, .int (iI (bz wide))), (3, .int (iI st))] [.int (iI (bz (tout r 8)))]
  refine go_if_ne O dX4_parse_6 18 (by decide) 9 rfl (bz_r _) (fun h6 => ?_) (fun h6 => ?_)
  · refine go_bipush O dX4_parse_18 (by decide) 20 rfl ?_
    have he := spPrs_b (P := P) (Sc := Sc) (m := m) (reg := reg) (tx := tx) (sz := sz) (r := r) (wide := wide) (st := st) (by omega)
    exact hret _ _ _ (rd, fnum, fb, fd, fq, fr, fo, fc, fw, fn, K, at0, wr, dc, be, rc, rn) dX4_parse_20 rfl ⟨by rw [he], by rw [he]; exact hMR⟩
  · refine go_iload_n O dX4_parse_9 rfl 3 rfl 10 rfl ?_
    refine go_bipush O dX4_parse_10 (by decide) 12 rfl ?_
    refine go_calliS (rest := []) (wr := [(h, .inr (4, MF p s m qcurrency qisWide qnegative qkept qratios qtext qnum qbase qden qquo qrem qother qunits qparts qover qgiven qread ((sz : Nat) : Int) at0 wr dc be rc rn)), (qtext, .inl (cI, 48, .inl (fun j => iI (tx j)))), (qread, .inl (cI, 48, .inl rd)), (qnum, .inl (cI, 80, .inl fnum)), (qbase, .inl (cI, 80, .inl fb)), (qden, .inl (cI, 80, .inl fd)), (qquo, .inl (cI, 80, .inl fq)), (qrem, .inl (cI, 80, .inl fr)), (qother, .inl (cI, 80, .inl fo)), (qcurrency, .inl (cI, 8, .inl fc)), (qisWide, .inl (cZ, 8, .inl fw)), (qnegative, .inl (cZ, 8, .inl fn)), (qkept, .inl (cI, 320, .inl K))]) O hK hE (c_X4_outside E hE st 8 (by omega) (by omega)) mlX4_123 smX4_outside inX4 cdX4_outside 2 (by decide +kernel) ⟨Nat.le_of_ble_eq_true rfl, Nat.le_of_ble_eq_true rfl⟩ [] rfl [] rfl (by decide) [0, 1, 2, 3, 4, 5, 6, 7, 8, 9, 10, 11, 12] rfl (by decide) (by decide) rfl rfl (Nat.le_of_ble_eq_true rfl) ⟨Nat.zero_le _, Nat.zero_le _⟩ dX4_parse_12 15 rfl (fun z u hu => ?_)
    subst hu
    show TGo X [(h, .inr (4, MF p s m qcurrency qisWide qnegative qkept qratios qtext qnum qbase qden qquo qrem qother qunits qparts qover qgiven qread ((sz : Nat) : Int) at0 wr dc be rc rn)), (qtext, .inl (cI, 48, .inl (fun j => iI (tx j)))), (qread, .inl (cI, 48, .inl rd)), (qnum, .inl (cI, 80, .inl fnum)), (qbase, .inl (cI, 80, .inl fb)), (qden, .inl (cI, 80, .inl fd)), (qquo, .inl (cI, 80, .inl fq)), (qrem, .inl (cI, 80, .inl fr)), (qother, .inl (cI, 80, .inl fo)), (qcurrency, .inl (cI, 8, .inl fc)), (qisWide, .inl (cZ, 8, .inl fw)), (qnegative, .inl (cZ, 8, .inl fn)), (qkept, .inl (cI, 320, .inl K))] 0 0 15 [(0, .ref h), (1, .int (iI r)), (2, .int (iI (bz wide))), (3, .int (iI st))] [.int (iI (bz (tout st 8)))]
    refine go_if_eq O dX4_parse_15 21 (by decide) 18 rfl (bz_r _) (fun h15 => ?_) (fun h15 => ?_)
    · obtain ⟨ρ, hre⟩ : ∃ ρ : Nat, r = (ρ : Int) := ⟨r.toNat, by omega⟩
      have hρ : ρ < 8 ∧ 0 ≤ st ∧ st < 8 := by omega
      refine TGo.eqw rfl ?_
      rw [hre]
      refine go_aload_n O dX4_parse_21 rfl 0 rfl 22 rfl ?_
      refine go_iconst O dX4_parse_22 23 rfl ?_
      refine go_put O hK dX4_parse_23 hinX4 tyX4 tyX4_ok nmX4 0 rfl rfl 20 (by decide) flX4_183 rfl rfl rfl rfl (Nat.le_of_ble_eq_true rfl) [(h, .inr (4, MF p s m qcurrency qisWide qnegative qkept qratios qtext qnum qbase qden qquo qrem qother qunits qparts qover qgiven qread ((sz : Nat) : Int) 0 wr dc be rc rn)), (qtext, .inl (cI, 48, .inl (fun j => iI (tx j)))), (qread, .inl (cI, 48, .inl rd)), (qnum, .inl (cI, 80, .inl fnum)), (qbase, .inl (cI, 80, .inl fb)), (qden, .inl (cI, 80, .inl fd)), (qquo, .inl (cI, 80, .inl fq)), (qrem, .inl (cI, 80, .inl fr)), (qother, .inl (cI, 80, .inl fo)), (qcurrency, .inl (cI, 8, .inl fc)), (qisWide, .inl (cZ, 8, .inl fw)), (qnegative, .inl (cZ, 8, .inl fn)), (qkept, .inl (cI, 320, .inl K))] rfl 26 rfl ?_
      refine go_aload_n O dX4_parse_26 rfl 0 rfl 27 rfl ?_
      refine go_iconst O dX4_parse_27 28 rfl ?_
      refine go_put O hK dX4_parse_28 hinX4 tyX4 tyX4_ok nmX4 0 rfl rfl 21 (by decide) flX4_180 rfl rfl rfl rfl (Nat.le_of_ble_eq_true rfl) [(h, .inr (4, MF p s m qcurrency qisWide qnegative qkept qratios qtext qnum qbase qden qquo qrem qother qunits qparts qover qgiven qread ((sz : Nat) : Int) 0 (-1) dc be rc rn)), (qtext, .inl (cI, 48, .inl (fun j => iI (tx j)))), (qread, .inl (cI, 48, .inl rd)), (qnum, .inl (cI, 80, .inl fnum)), (qbase, .inl (cI, 80, .inl fb)), (qden, .inl (cI, 80, .inl fd)), (qquo, .inl (cI, 80, .inl fq)), (qrem, .inl (cI, 80, .inl fr)), (qother, .inl (cI, 80, .inl fo)), (qcurrency, .inl (cI, 8, .inl fc)), (qisWide, .inl (cZ, 8, .inl fw)), (qnegative, .inl (cZ, 8, .inl fn)), (qkept, .inl (cI, 320, .inl K))] rfl 31 rfl ?_
      refine go_aload_n O dX4_parse_31 rfl 0 rfl 32 rfl ?_
      refine go_iconst O dX4_parse_32 33 rfl ?_
      refine go_put O hK dX4_parse_33 hinX4 tyX4 tyX4_ok nmX4 0 rfl rfl 23 (by decide) flX4_197 rfl rfl rfl rfl (Nat.le_of_ble_eq_true rfl) [(h, .inr (4, MF p s m qcurrency qisWide qnegative qkept qratios qtext qnum qbase qden qquo qrem qother qunits qparts qover qgiven qread ((sz : Nat) : Int) 0 (-1) 0 be rc rn)), (qtext, .inl (cI, 48, .inl (fun j => iI (tx j)))), (qread, .inl (cI, 48, .inl rd)), (qnum, .inl (cI, 80, .inl fnum)), (qbase, .inl (cI, 80, .inl fb)), (qden, .inl (cI, 80, .inl fd)), (qquo, .inl (cI, 80, .inl fq)), (qrem, .inl (cI, 80, .inl fr)), (qother, .inl (cI, 80, .inl fo)), (qcurrency, .inl (cI, 8, .inl fc)), (qisWide, .inl (cZ, 8, .inl fw)), (qnegative, .inl (cZ, 8, .inl fn)), (qkept, .inl (cI, 320, .inl K))] rfl 36 rfl ?_
      refine go_aload_n O dX4_parse_36 rfl 0 rfl 37 rfl ?_
      refine go_iconst O dX4_parse_37 38 rfl ?_
      refine go_put O hK dX4_parse_38 hinX4 tyX4 tyX4_ok nmX4 0 rfl rfl 24 (by decide) flX4_212 rfl rfl rfl rfl (Nat.le_of_ble_eq_true rfl) [(h, .inr (4, MF p s m qcurrency qisWide qnegative qkept qratios qtext qnum qbase qden qquo qrem qother qunits qparts qover qgiven qread ((sz : Nat) : Int) 0 (-1) 0 0 rc rn)), (qtext, .inl (cI, 48, .inl (fun j => iI (tx j)))), (qread, .inl (cI, 48, .inl rd)), (qnum, .inl (cI, 80, .inl fnum)), (qbase, .inl (cI, 80, .inl fb)), (qden, .inl (cI, 80, .inl fd)), (qquo, .inl (cI, 80, .inl fq)), (qrem, .inl (cI, 80, .inl fr)), (qother, .inl (cI, 80, .inl fo)), (qcurrency, .inl (cI, 8, .inl fc)), (qisWide, .inl (cZ, 8, .inl fw)), (qnegative, .inl (cZ, 8, .inl fn)), (qkept, .inl (cI, 320, .inl K))] rfl 41 rfl ?_
      show TGo X [(h, .inr (4, MF p s m qcurrency qisWide qnegative qkept qratios qtext qnum qbase qden qquo qrem qother qunits qparts qover qgiven qread ((sz : Nat) : Int) ((0 : Nat) : Int) (wrz true 0) ((0 : Nat) : Int) 0 rc rn)), (qtext, .inl (cI, 48, .inl (fun j => iI (tx j)))), (qread, .inl (cI, 48, .inl rd)), (qnum, .inl (cI, 80, .inl fnum)), (qbase, .inl (cI, 80, .inl fb)), (qden, .inl (cI, 80, .inl fd)), (qquo, .inl (cI, 80, .inl fq)), (qrem, .inl (cI, 80, .inl fr)), (qother, .inl (cI, 80, .inl fo)), (qcurrency, .inl (cI, 8, .inl fc)), (qisWide, .inl (cZ, 8, .inl fw)), (qnegative, .inl (cZ, 8, .inl fn)), (qkept, .inl (cI, 320, .inl K))] 0 0 41 [(0, .ref h), (1, .int (iI ((ρ : Nat) : Int))), (2, .int (iI (bz wide))), (3, .int (iI st))] []
      refine go_iload_n O dX4_parse_41 rfl 3 rfl 42 rfl ?_
      refine go_iconst O dX4_parse_42 43 rfl ?_
      refine go_irem O dX4_parse_43 (by omega) (by omega) (by omega) (by omega) (st % 4) rfl 44 rfl ?_
      refine go_iconst O dX4_parse_44 45 rfl ?_
      refine go_icmp_lt O dX4_parse_45 66 (by decide) 48 rfl (by omega) (by omega) (fun h45 => ?_) (fun h45 => ?_)
      · have hps : ¬ 2 ≤ st % 4 := by omega
        refine go_aload_n O dX4_parse_66 rfl 0 rfl 67 rfl ?_
        refine go_callvV (As := []) (rest := []) (wr := [(qread, .inl (cI, 48, .inl rd)), (qnum, .inl (cI, 80, .inl fnum)), (qbase, .inl (cI, 80, .inl fb)), (qden, .inl (cI, 80, .inl fd)), (qquo, .inl (cI, 80, .inl fq)), (qrem, .inl (cI, 80, .inl fr)), (qother, .inl (cI, 80, .inl fo)), (qcurrency, .inl (cI, 8, .inl fc)), (qisWide, .inl (cZ, 8, .inl fw)), (qnegative, .inl (cZ, 8, .inl fn)), (qkept, .inl (cI, 320, .inl K))]) O hK hE (c_X4_readCode E hE h p s m qcurrency qisWide qnegative qkept qratios qtext qnum qbase qden qquo qrem qother qunits qparts qover qgiven qread cI sz 0 true 0 0 rc rn tx htx hs (by omega)) mlX4_226 imX4_readCode seX4_readCode inX4 cdX4_readCode 0 (by decide +kernel) ⟨Nat.le_of_ble_eq_true rfl, Nat.le_of_ble_eq_true rfl⟩ 0 rfl rfl [0] rfl [0, 1] rfl (by decide) [2, 3, 4, 5, 6, 7, 8, 9, 10, 11, 12] rfl (by decide) (by decide) rfl rfl (Nat.le_of_ble_eq_true rfl) ⟨Nat.zero_le _, Nat.zero_le _⟩ dX4_parse_67 70 rfl (fun u hu => ?_)
        obtain ⟨⟨o1, b1⟩, rc1⟩ := u
        obtain ⟨hc1, hc2⟩ := hu
        replace hc1 : (o1, b1) = rdC tx sz (true, 0) := hc1
        replace hc2 : o1 = true → rc1 = tx 0 - 65 := hc2
        have hcl := rdC_le (tx := tx) (sz := sz) (s := (true, 0)) (by omega)
        rw [← hc1] at hcl
        replace hcl : b1 ≤ sz := hcl
        have hcg := rdC_ge (tx := tx) (sz := sz) (s := (true, 0)) (by omega)
        rw [← hc1] at hcg
        replace hcg : 0 ≤ b1 := hcg
        show TGo X [(qread, .inl (cI, 48, .inl rd)), (qnum, .inl (cI, 80, .inl fnum)), (qbase, .inl (cI, 80, .inl fb)), (qden, .inl (cI, 80, .inl fd)), (qquo, .inl (cI, 80, .inl fq)), (qrem, .inl (cI, 80, .inl fr)), (qother, .inl (cI, 80, .inl fo)), (qcurrency, .inl (cI, 8, .inl fc)), (qisWide, .inl (cZ, 8, .inl fw)), (qnegative, .inl (cZ, 8, .inl fn)), (qkept, .inl (cI, 320, .inl K)), (h, .inr (4, MF p s m qcurrency qisWide qnegative qkept qratios qtext qnum qbase qden qquo qrem qother qunits qparts qover qgiven qread ((sz : Nat) : Int) ((b1 : Nat) : Int) (wrz o1 b1) ((0 : Nat) : Int) 0 rc1 rn)), (qtext, .inl (cI, 48, .inl (fun j => iI (tx j))))] 0 0 70 [(0, .ref h), (1, .int (iI ((ρ : Nat) : Int))), (2, .int (iI (bz wide))), (3, .int (iI st))] []
        refine TGo.sub (ws' := [(h, .inr (4, MF p s m qcurrency qisWide qnegative qkept qratios qtext qnum qbase qden qquo qrem qother qunits qparts qover qgiven qread ((sz : Nat) : Int) ((b1 : Nat) : Int) (wrz o1 b1) ((0 : Nat) : Int) 0 rc1 rn)), (qtext, .inl (cI, 48, .inl (fun j => iI (tx j)))), (qread, .inl (cI, 48, .inl rd)), (qnum, .inl (cI, 80, .inl fnum)), (qbase, .inl (cI, 80, .inl fb)), (qden, .inl (cI, 80, .inl fd)), (qquo, .inl (cI, 80, .inl fq)), (qrem, .inl (cI, 80, .inl fr)), (qother, .inl (cI, 80, .inl fo)), (qcurrency, .inl (cI, 8, .inl fc)), (qisWide, .inl (cZ, 8, .inl fw)), (qnegative, .inl (cZ, 8, .inl fn)), (qkept, .inl (cI, 320, .inl K))]) [11, 12, 0, 1, 2, 3, 4, 5, 6, 7, 8, 9, 10] (by decide) rfl ?_
        refine go_aload_n O dX4_parse_70 rfl 0 rfl 71 rfl ?_
        refine go_bipush O dX4_parse_71 (by decide) 73 rfl ?_
        refine go_callvV (As := [.int (iI 32)]) (rest := []) (wr := [(qread, .inl (cI, 48, .inl rd)), (qnum, .inl (cI, 80, .inl fnum)), (qbase, .inl (cI, 80, .inl fb)), (qden, .inl (cI, 80, .inl fd)), (qquo, .inl (cI, 80, .inl fq)), (qrem, .inl (cI, 80, .inl fr)), (qother, .inl (cI, 80, .inl fo)), (qcurrency, .inl (cI, 8, .inl fc)), (qisWide, .inl (cZ, 8, .inl fw)), (qnegative, .inl (cZ, 8, .inl fn)), (qkept, .inl (cI, 320, .inl K))]) O hK hE (c_X4_expect E hE h p s m qcurrency qisWide qnegative qkept qratios qtext qnum qbase qden qquo qrem qother qunits qparts qover qgiven qread cI sz b1 o1 0 0 rc1 rn tx htx hs hcl 32 (by omega)) mlX4_206 imX4_expect seX4_expect inX4 cdX4_expect 1 (by decide +kernel) ⟨Nat.le_of_ble_eq_true rfl, Nat.le_of_ble_eq_true rfl⟩ 0 rfl rfl [0] rfl [0, 1] rfl (by decide) [2, 3, 4, 5, 6, 7, 8, 9, 10, 11, 12] rfl (by decide) (by decide) rfl rfl (Nat.le_of_ble_eq_true rfl) ⟨Nat.zero_le _, Nat.zero_le _⟩ dX4_parse_73 76 rfl (fun u hu => ?_)
        obtain ⟨o2, b2⟩ := u
        have he2 := hu
        have he2l := rdE_le (tx := tx) (sz := sz) (c := 32) (s := (o1, b1)) hcl
        rw [← he2] at he2l
        replace he2l : b2 ≤ sz ∧ b1 ≤ b2 := he2l
        show TGo X [(qread, .inl (cI, 48, .inl rd)), (qnum, .inl (cI, 80, .inl fnum)), (qbase, .inl (cI, 80, .inl fb)), (qden, .inl (cI, 80, .inl fd)), (qquo, .inl (cI, 80, .inl fq)), (qrem, .inl (cI, 80, .inl fr)), (qother, .inl (cI, 80, .inl fo)), (qcurrency, .inl (cI, 8, .inl fc)), (qisWide, .inl (cZ, 8, .inl fw)), (qnegative, .inl (cZ, 8, .inl fn)), (qkept, .inl (cI, 320, .inl K)), (h, .inr (4, MF p s m qcurrency qisWide qnegative qkept qratios qtext qnum qbase qden qquo qrem qother qunits qparts qover qgiven qread ((sz : Nat) : Int) ((b2 : Nat) : Int) (wrz o2 b2) ((0 : Nat) : Int) 0 rc1 rn)), (qtext, .inl (cI, 48, .inl (fun j => iI (tx j))))] 0 0 76 [(0, .ref h), (1, .int (iI ((ρ : Nat) : Int))), (2, .int (iI (bz wide))), (3, .int (iI st))] []
        refine TGo.sub (ws' := [(h, .inr (4, MF p s m qcurrency qisWide qnegative qkept qratios qtext qnum qbase qden qquo qrem qother qunits qparts qover qgiven qread ((sz : Nat) : Int) ((b2 : Nat) : Int) (wrz o2 b2) ((0 : Nat) : Int) 0 rc1 rn)), (qtext, .inl (cI, 48, .inl (fun j => iI (tx j)))), (qread, .inl (cI, 48, .inl rd)), (qnum, .inl (cI, 80, .inl fnum)), (qbase, .inl (cI, 80, .inl fb)), (qden, .inl (cI, 80, .inl fd)), (qquo, .inl (cI, 80, .inl fq)), (qrem, .inl (cI, 80, .inl fr)), (qother, .inl (cI, 80, .inl fo)), (qcurrency, .inl (cI, 8, .inl fc)), (qisWide, .inl (cZ, 8, .inl fw)), (qnegative, .inl (cZ, 8, .inl fn)), (qkept, .inl (cI, 320, .inl K))]) [11, 12, 0, 1, 2, 3, 4, 5, 6, 7, 8, 9, 10] (by decide) rfl ?_
        refine go_aload_n O dX4_parse_76 rfl 0 rfl 77 rfl ?_
        refine go_iload_n O dX4_parse_77 rfl 3 rfl 78 rfl ?_
        refine go_callvV (As := [.int (iI st)]) (rest := []) (wr := [(qnum, .inl (cI, 80, .inl fnum)), (qbase, .inl (cI, 80, .inl fb)), (qden, .inl (cI, 80, .inl fd)), (qquo, .inl (cI, 80, .inl fq)), (qrem, .inl (cI, 80, .inl fr)), (qother, .inl (cI, 80, .inl fo)), (qcurrency, .inl (cI, 8, .inl fc)), (qisWide, .inl (cZ, 8, .inl fw)), (qnegative, .inl (cZ, 8, .inl fn)), (qkept, .inl (cI, 320, .inl K))]) O hK hE (c_X4_readNumber E hE h p s m qcurrency qisWide qnegative qkept qratios qtext qnum qbase qden qquo qrem qother qunits qparts qover qgiven qread cI sz b2 o2 0 0 rc1 rn tx htx hs he2l.1 rd st (by omega) rfl rfl) mlX4_223 imX4_readNumber seX4_readNumber inX4 cdX4_readNumber 1 (by decide +kernel) ⟨Nat.le_of_ble_eq_true rfl, Nat.le_of_ble_eq_true rfl⟩ 0 rfl rfl [0] rfl [0, 1, 2] rfl (by decide) [3, 4, 5, 6, 7, 8, 9, 10, 11, 12] rfl (by decide) (by decide) rfl rfl (Nat.le_of_ble_eq_true rfl) ⟨Nat.zero_le _, Nat.zero_le _⟩ dX4_parse_78 81 rfl (fun u hu => ?_)
        obtain ⟨⟨o3, b3⟩, q1, rd1, N1, be1⟩ := u
        obtain ⟨hn1, hn2, hn3, hn4⟩ := hu
        replace hn1 : (o3, b3) = rdN tx sz st (o2, b2) := hn1
        replace hn2 : q1 ≤ b3 := hn2
        have hnl := rdN_le (tx := tx) (sz := sz) (st := st) (s := (o2, b2)) he2l.1
        rw [← hn1] at hnl
        replace hnl : b3 ≤ sz := hnl
        show TGo X [(qnum, .inl (cI, 80, .inl fnum)), (qbase, .inl (cI, 80, .inl fb)), (qden, .inl (cI, 80, .inl fd)), (qquo, .inl (cI, 80, .inl fq)), (qrem, .inl (cI, 80, .inl fr)), (qother, .inl (cI, 80, .inl fo)), (qcurrency, .inl (cI, 8, .inl fc)), (qisWide, .inl (cZ, 8, .inl fw)), (qnegative, .inl (cZ, 8, .inl fn)), (qkept, .inl (cI, 320, .inl K)), (h, .inr (4, MF p s m qcurrency qisWide qnegative qkept qratios qtext qnum qbase qden qquo qrem qother qunits qparts qover qgiven qread ((sz : Nat) : Int) ((b3 : Nat) : Int) (wrz o3 b3) ((q1 : Nat) : Int) be1 rc1 (bz (rdO tx sz st (o2, b2))))), (qtext, .inl (cI, 48, .inl (fun j => iI (tx j)))), (qread, .inl (cI, 48, .inl rd1))] 0 0 81 [(0, .ref h), (1, .int (iI ((ρ : Nat) : Int))), (2, .int (iI (bz wide))), (3, .int (iI st))] []
        refine TGo.sub (ws' := [(h, .inr (4, MF p s m qcurrency qisWide qnegative qkept qratios qtext qnum qbase qden qquo qrem qother qunits qparts qover qgiven qread ((sz : Nat) : Int) ((b3 : Nat) : Int) (wrz o3 b3) ((q1 : Nat) : Int) be1 rc1 (bz (rdO tx sz st (o2, b2))))), (qtext, .inl (cI, 48, .inl (fun j => iI (tx j)))), (qread, .inl (cI, 48, .inl rd1)), (qnum, .inl (cI, 80, .inl fnum)), (qbase, .inl (cI, 80, .inl fb)), (qden, .inl (cI, 80, .inl fd)), (qquo, .inl (cI, 80, .inl fq)), (qrem, .inl (cI, 80, .inl fr)), (qother, .inl (cI, 80, .inl fo)), (qcurrency, .inl (cI, 8, .inl fc)), (qisWide, .inl (cZ, 8, .inl fw)), (qnegative, .inl (cZ, 8, .inl fn)), (qkept, .inl (cI, 320, .inl K))]) [10, 11, 12, 0, 1, 2, 3, 4, 5, 6, 7, 8, 9] (by decide) rfl ?_
        refine TGo.lsub (lv' := [(0, .ref h), (1, .int (iI ((ρ : Nat) : Int))), (2, .int (iI (bz wide))), (3, .int (iI st))]) [0, 1, 2, 3] rfl ?_
        exact m81 ρ b3 q1 o3 be1 rc1 _ rd1 N1 hre hρ (by rw [(ps_0 hps).2.2, ← hc1, ← he2]; exact hn1) hn2 hn3 (fun e => by have e2 : o2 = true := rdN_ok (by rw [← hn1]; exact e); have e1 : o1 = true := rdE_ok (by rw [← he2]; exact e2); have e4 := hn4 e; refine ⟨by unfold psN; rw [(ps_0 hps).1, ← hc1, ← he2]; exact e4.1, by unfold psBe; rw [(ps_0 hps).1, ← hc1, ← he2]; exact e4.2, by rw [hc2 e1, (ps_0 hps).2.1], by unfold psM; rw [(ps_0 hps).1, ← hc1, ← he2]⟩)
      · have hps : 2 ≤ st % 4 := by omega
        refine go_aload_n O dX4_parse_48 rfl 0 rfl 49 rfl ?_
        refine go_iload_n O dX4_parse_49 rfl 3 rfl 50 rfl ?_
        refine go_callvV (As := [.int (iI st)]) (rest := []) (wr := [(qnum, .inl (cI, 80, .inl fnum)), (qbase, .inl (cI, 80, .inl fb)), (qden, .inl (cI, 80, .inl fd)), (qquo, .inl (cI, 80, .inl fq)), (qrem, .inl (cI, 80, .inl fr)), (qother, .inl (cI, 80, .inl fo)), (qcurrency, .inl (cI, 8, .inl fc)), (qisWide, .inl (cZ, 8, .inl fw)), (qnegative, .inl (cZ, 8, .inl fn)), (qkept, .inl (cI, 320, .inl K))]) O hK hE (c_X4_readNumber E hE h p s m qcurrency qisWide qnegative qkept qratios qtext qnum qbase qden qquo qrem qother qunits qparts qover qgiven qread cI sz 0 true 0 0 rc rn tx htx hs (by omega) rd st (by omega) rfl rfl) mlX4_223 imX4_readNumber seX4_readNumber inX4 cdX4_readNumber 1 (by decide +kernel) ⟨Nat.le_of_ble_eq_true rfl, Nat.le_of_ble_eq_true rfl⟩ 0 rfl rfl [0] rfl [0, 1, 2] rfl (by decide) [3, 4, 5, 6, 7, 8, 9, 10, 11, 12] rfl (by decide) (by decide) rfl rfl (Nat.le_of_ble_eq_true rfl) ⟨Nat.zero_le _, Nat.zero_le _⟩ dX4_parse_50 53 rfl (fun u hu => ?_)
        obtain ⟨⟨o1, b1⟩, q1, rd1, N1, be1⟩ := u
        obtain ⟨hn1, hn2, hn3, hn4⟩ := hu
        replace hn1 : (o1, b1) = rdN tx sz st (true, 0) := hn1
        replace hn2 : q1 ≤ b1 := hn2
        have hnl := rdN_le (tx := tx) (sz := sz) (st := st) (s := (true, 0)) (by omega)
        rw [← hn1] at hnl
        replace hnl : b1 ≤ sz := hnl
        show TGo X [(qnum, .inl (cI, 80, .inl fnum)), (qbase, .inl (cI, 80, .inl fb)), (qden, .inl (cI, 80, .inl fd)), (qquo, .inl (cI, 80, .inl fq)), (qrem, .inl (cI, 80, .inl fr)), (qother, .inl (cI, 80, .inl fo)), (qcurrency, .inl (cI, 8, .inl fc)), (qisWide, .inl (cZ, 8, .inl fw)), (qnegative, .inl (cZ, 8, .inl fn)), (qkept, .inl (cI, 320, .inl K)), (h, .inr (4, MF p s m qcurrency qisWide qnegative qkept qratios qtext qnum qbase qden qquo qrem qother qunits qparts qover qgiven qread ((sz : Nat) : Int) ((b1 : Nat) : Int) (wrz o1 b1) ((q1 : Nat) : Int) be1 rc (bz (rdO tx sz st (true, 0))))), (qtext, .inl (cI, 48, .inl (fun j => iI (tx j)))), (qread, .inl (cI, 48, .inl rd1))] 0 0 53 [(0, .ref h), (1, .int (iI ((ρ : Nat) : Int))), (2, .int (iI (bz wide))), (3, .int (iI st))] []
        refine TGo.sub (ws' := [(h, .inr (4, MF p s m qcurrency qisWide qnegative qkept qratios qtext qnum qbase qden qquo qrem qother qunits qparts qover qgiven qread ((sz : Nat) : Int) ((b1 : Nat) : Int) (wrz o1 b1) ((q1 : Nat) : Int) be1 rc (bz (rdO tx sz st (true, 0))))), (qtext, .inl (cI, 48, .inl (fun j => iI (tx j)))), (qread, .inl (cI, 48, .inl rd1)), (qnum, .inl (cI, 80, .inl fnum)), (qbase, .inl (cI, 80, .inl fb)), (qden, .inl (cI, 80, .inl fd)), (qquo, .inl (cI, 80, .inl fq)), (qrem, .inl (cI, 80, .inl fr)), (qother, .inl (cI, 80, .inl fo)), (qcurrency, .inl (cI, 8, .inl fc)), (qisWide, .inl (cZ, 8, .inl fw)), (qnegative, .inl (cZ, 8, .inl fn)), (qkept, .inl (cI, 320, .inl K))]) [10, 11, 12, 0, 1, 2, 3, 4, 5, 6, 7, 8, 9] (by decide) rfl ?_
        refine go_aload_n O dX4_parse_53 rfl 0 rfl 54 rfl ?_
        refine go_bipush O dX4_parse_54 (by decide) 56 rfl ?_
        refine go_callvV (As := [.int (iI 32)]) (rest := []) (wr := [(qread, .inl (cI, 48, .inl rd1)), (qnum, .inl (cI, 80, .inl fnum)), (qbase, .inl (cI, 80, .inl fb)), (qden, .inl (cI, 80, .inl fd)), (qquo, .inl (cI, 80, .inl fq)), (qrem, .inl (cI, 80, .inl fr)), (qother, .inl (cI, 80, .inl fo)), (qcurrency, .inl (cI, 8, .inl fc)), (qisWide, .inl (cZ, 8, .inl fw)), (qnegative, .inl (cZ, 8, .inl fn)), (qkept, .inl (cI, 320, .inl K))]) O hK hE (c_X4_expect E hE h p s m qcurrency qisWide qnegative qkept qratios qtext qnum qbase qden qquo qrem qother qunits qparts qover qgiven qread cI sz b1 o1 q1 be1 rc ((bz (rdO tx sz st (true, 0)))) tx htx hs hnl 32 (by omega)) mlX4_206 imX4_expect seX4_expect inX4 cdX4_expect 1 (by decide +kernel) ⟨Nat.le_of_ble_eq_true rfl, Nat.le_of_ble_eq_true rfl⟩ 0 rfl rfl [0] rfl [0, 1] rfl (by decide) [2, 3, 4, 5, 6, 7, 8, 9, 10, 11, 12] rfl (by decide) (by decide) rfl rfl (Nat.le_of_ble_eq_true rfl) ⟨Nat.zero_le _, Nat.zero_le _⟩ dX4_parse_56 59 rfl (fun u hu => ?_)
        obtain ⟨o2, b2⟩ := u
        have he2 := hu
        have he2l := rdE_le (tx := tx) (sz := sz) (c := 32) (s := (o1, b1)) hnl
        rw [← he2] at he2l
        replace he2l : b2 ≤ sz ∧ b1 ≤ b2 := he2l
        show TGo X [(qread, .inl (cI, 48, .inl rd1)), (qnum, .inl (cI, 80, .inl fnum)), (qbase, .inl (cI, 80, .inl fb)), (qden, .inl (cI, 80, .inl fd)), (qquo, .inl (cI, 80, .inl fq)), (qrem, .inl (cI, 80, .inl fr)), (qother, .inl (cI, 80, .inl fo)), (qcurrency, .inl (cI, 8, .inl fc)), (qisWide, .inl (cZ, 8, .inl fw)), (qnegative, .inl (cZ, 8, .inl fn)), (qkept, .inl (cI, 320, .inl K)), (h, .inr (4, MF p s m qcurrency qisWide qnegative qkept qratios qtext qnum qbase qden qquo qrem qother qunits qparts qover qgiven qread ((sz : Nat) : Int) ((b2 : Nat) : Int) (wrz o2 b2) ((q1 : Nat) : Int) be1 rc (bz (rdO tx sz st (true, 0))))), (qtext, .inl (cI, 48, .inl (fun j => iI (tx j))))] 0 0 59 [(0, .ref h), (1, .int (iI ((ρ : Nat) : Int))), (2, .int (iI (bz wide))), (3, .int (iI st))] []
        refine TGo.sub (ws' := [(h, .inr (4, MF p s m qcurrency qisWide qnegative qkept qratios qtext qnum qbase qden qquo qrem qother qunits qparts qover qgiven qread ((sz : Nat) : Int) ((b2 : Nat) : Int) (wrz o2 b2) ((q1 : Nat) : Int) be1 rc (bz (rdO tx sz st (true, 0))))), (qtext, .inl (cI, 48, .inl (fun j => iI (tx j)))), (qread, .inl (cI, 48, .inl rd1)), (qnum, .inl (cI, 80, .inl fnum)), (qbase, .inl (cI, 80, .inl fb)), (qden, .inl (cI, 80, .inl fd)), (qquo, .inl (cI, 80, .inl fq)), (qrem, .inl (cI, 80, .inl fr)), (qother, .inl (cI, 80, .inl fo)), (qcurrency, .inl (cI, 8, .inl fc)), (qisWide, .inl (cZ, 8, .inl fw)), (qnegative, .inl (cZ, 8, .inl fn)), (qkept, .inl (cI, 320, .inl K))]) [11, 12, 0, 1, 2, 3, 4, 5, 6, 7, 8, 9, 10] (by decide) rfl ?_
        refine go_aload_n O dX4_parse_59 rfl 0 rfl 60 rfl ?_
        refine go_callvV (As := []) (rest := []) (wr := [(qread, .inl (cI, 48, .inl rd1)), (qnum, .inl (cI, 80, .inl fnum)), (qbase, .inl (cI, 80, .inl fb)), (qden, .inl (cI, 80, .inl fd)), (qquo, .inl (cI, 80, .inl fq)), (qrem, .inl (cI, 80, .inl fr)), (qother, .inl (cI, 80, .inl fo)), (qcurrency, .inl (cI, 8, .inl fc)), (qisWide, .inl (cZ, 8, .inl fw)), (qnegative, .inl (cZ, 8, .inl fn)), (qkept, .inl (cI, 320, .inl K))]) O hK hE (c_X4_readCode E hE h p s m qcurrency qisWide qnegative qkept qratios qtext qnum qbase qden qquo qrem qother qunits qparts qover qgiven qread cI sz b2 o2 q1 be1 rc ((bz (rdO tx sz st (true, 0)))) tx htx hs he2l.1) mlX4_226 imX4_readCode seX4_readCode inX4 cdX4_readCode 0 (by decide +kernel) ⟨Nat.le_of_ble_eq_true rfl, Nat.le_of_ble_eq_true rfl⟩ 0 rfl rfl [0] rfl [0, 1] rfl (by decide) [2, 3, 4, 5, 6, 7, 8, 9, 10, 11, 12] rfl (by decide) (by decide) rfl rfl (Nat.le_of_ble_eq_true rfl) ⟨Nat.zero_le _, Nat.zero_le _⟩ dX4_parse_60 63 rfl (fun u hu => ?_)
        obtain ⟨⟨o3, b3⟩, rc1⟩ := u
        obtain ⟨hc1, hc2⟩ := hu
        replace hc1 : (o3, b3) = rdC tx sz (o2, b2) := hc1
        replace hc2 : o3 = true → rc1 = tx b2 - 65 := hc2
        have hcl := rdC_le (tx := tx) (sz := sz) (s := (o2, b2)) he2l.1
        rw [← hc1] at hcl
        replace hcl : b3 ≤ sz := hcl
        have hcg := rdC_ge (tx := tx) (sz := sz) (s := (o2, b2)) he2l.1
        rw [← hc1] at hcg
        replace hcg : b2 ≤ b3 := hcg
        show TGo X [(qread, .inl (cI, 48, .inl rd1)), (qnum, .inl (cI, 80, .inl fnum)), (qbase, .inl (cI, 80, .inl fb)), (qden, .inl (cI, 80, .inl fd)), (qquo, .inl (cI, 80, .inl fq)), (qrem, .inl (cI, 80, .inl fr)), (qother, .inl (cI, 80, .inl fo)), (qcurrency, .inl (cI, 8, .inl fc)), (qisWide, .inl (cZ, 8, .inl fw)), (qnegative, .inl (cZ, 8, .inl fn)), (qkept, .inl (cI, 320, .inl K)), (h, .inr (4, MF p s m qcurrency qisWide qnegative qkept qratios qtext qnum qbase qden qquo qrem qother qunits qparts qover qgiven qread ((sz : Nat) : Int) ((b3 : Nat) : Int) (wrz o3 b3) ((q1 : Nat) : Int) be1 rc1 (bz (rdO tx sz st (true, 0))))), (qtext, .inl (cI, 48, .inl (fun j => iI (tx j))))] 0 0 63 [(0, .ref h), (1, .int (iI ((ρ : Nat) : Int))), (2, .int (iI (bz wide))), (3, .int (iI st))] []
        refine TGo.sub (ws' := [(h, .inr (4, MF p s m qcurrency qisWide qnegative qkept qratios qtext qnum qbase qden qquo qrem qother qunits qparts qover qgiven qread ((sz : Nat) : Int) ((b3 : Nat) : Int) (wrz o3 b3) ((q1 : Nat) : Int) be1 rc1 (bz (rdO tx sz st (true, 0))))), (qtext, .inl (cI, 48, .inl (fun j => iI (tx j)))), (qread, .inl (cI, 48, .inl rd1)), (qnum, .inl (cI, 80, .inl fnum)), (qbase, .inl (cI, 80, .inl fb)), (qden, .inl (cI, 80, .inl fd)), (qquo, .inl (cI, 80, .inl fq)), (qrem, .inl (cI, 80, .inl fr)), (qother, .inl (cI, 80, .inl fo)), (qcurrency, .inl (cI, 8, .inl fc)), (qisWide, .inl (cZ, 8, .inl fw)), (qnegative, .inl (cZ, 8, .inl fn)), (qkept, .inl (cI, 320, .inl K))]) [11, 12, 0, 1, 2, 3, 4, 5, 6, 7, 8, 9, 10] (by decide) rfl ?_
        refine go_goto O dX4_parse_63 81 (by decide) ?_
        refine TGo.lsub (lv' := [(0, .ref h), (1, .int (iI ((ρ : Nat) : Int))), (2, .int (iI (bz wide))), (3, .int (iI st))]) [0, 1, 2, 3] rfl ?_
        exact m81 ρ b3 q1 o3 be1 rc1 _ rd1 N1 hre hρ (by rw [(ps_1 hps).2.2, ← hn1, ← he2]; exact hc1) (by omega) hn3 (fun e => by have e2 : o2 = true := bz_1.mp (rdC_ok (by rw [← hc1]; exact e)).1; have e1 : o1 = true := rdE_ok (by rw [← he2]; exact e2); have e4 := hn4 e1; refine ⟨by unfold psN; rw [(ps_1 hps).1]; exact e4.1, by unfold psBe; rw [(ps_1 hps).1]; exact e4.2, by rw [hc2 e, (ps_1 hps).2.1, ← hn1, ← he2], by unfold psM; rw [(ps_1 hps).1]⟩)
    · refine go_bipush O dX4_parse_18 (by decide) 20 rfl ?_
      have he := spPrs_b (P := P) (Sc := Sc) (m := m) (reg := reg) (tx := tx) (sz := sz) (r := r) (wide := wide) (st := st) (by omega)
      exact hret _ _ _ (rd, fnum, fb, fd, fq, fr, fo, fc, fw, fn, K, at0, wr, dc, be, rc, rn) dX4_parse_20 rfl ⟨by rw [he], by rw [he]; exact hMR⟩
