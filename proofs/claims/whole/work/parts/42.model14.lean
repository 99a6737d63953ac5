abbrev MF (p s m : Int) (qcurrency qisWide qnegative qkept qratios qtext qnum qbase qden qquo qrem qother qunits qparts qover qgiven qread : Nat) (length at0 wr dc be rc rn : Int) : List Value := [.int (iI p), .int (iI s), .int (iI m), .ref qcurrency, .ref qisWide, .ref qnegative, .ref qkept, .ref qratios, .ref qtext, .int (iI length), .ref qnum, .ref qbase, .ref qden, .ref qquo, .ref qrem, .ref qother, .ref qunits, .ref qparts, .ref qover, .ref qgiven, .int (iI at0), .int (iI wr), .ref qread, .int (iI dc), .int (iI be), .int (iI rc), .int (iI rn)]
/-! Writing: letters appended to a text. -/
def tapp : ((Nat → Int) × Nat) → List Int → (Nat → Int) × Nat
  | s, [] => s
  | s, c :: l => tapp (txs s.1 s.2 c, s.2 + 1) l
theorem tapp_app (l1 l2 : List Int) : ∀ s, tapp s (l1 ++ l2) = tapp (tapp s l1) l2 := by
  induction l1 with
  | nil => intro s; rfl
  | cons c l ih => intro s; exact ih _
theorem tapp_sz (l : List Int) : ∀ s, (tapp s l).2 = s.2 + l.length := by
  induction l with
  | nil => intro s; rfl
  | cons c l ih => intro s; show (tapp (txs s.1 s.2 c, s.2 + 1) l).2 = _; rw [ih]; show s.2 + 1 + l.length = s.2 + (l.length + 1); omega
theorem txs_r {tx : Nat → Int} {n : Nat} {c : Int} (h : ∀ j, r32 (tx j)) (hc : r32 c) : ∀ j, r32 (txs tx n c j) := by
  intro j
  unfold txs
  by_cases e : j = n
  · rw [if_pos e]; exact hc
  · rw [if_neg e]; exact h j
theorem tapp_r (l : List Int) : ∀ s : (Nat → Int) × Nat, (∀ j, r32 (s.1 j)) → (∀ c, c ∈ l → r32 c) → ∀ j, r32 ((tapp s l).1 j) := by
  induction l with
  | nil => intro s h _; exact h
  | cons c l ih => intro s h hl; exact ih _ (txs_r h (hl c (List.mem_cons_self ..))) (fun d hd => hl d (List.mem_cons_of_mem _ hd))
def fb (Q d : Nat) (g : Bool) : Nat → List Int
  | 0 => []
  | i + 1 => ((48 + Q / 10 ^ i % 10 : Nat) : Int) :: ((if d < i ∧ (i - d) % 3 = 0 ∧ g = true then [44] else []) ++ ((if i = d ∧ 0 < d then [46] else []) ++ fb Q d g i))
theorem fb_c {Q d i : Nat} {g : Bool} (h : d < i ∧ (i - d) % 3 = 0 ∧ g = true) : fb Q d g (i + 1) = ((48 + Q / 10 ^ i % 10 : Nat) : Int) :: 44 :: fb Q d g i := by
  show _ :: ((if d < i ∧ (i - d) % 3 = 0 ∧ g = true then [44] else []) ++ ((if i = d ∧ 0 < d then [46] else []) ++ fb Q d g i)) = _
  rw [if_pos h, if_neg (by omega)]; rfl
theorem fb_p {Q d i : Nat} {g : Bool} (h : i = d ∧ 0 < d) : fb Q d g (i + 1) = ((48 + Q / 10 ^ i % 10 : Nat) : Int) :: 46 :: fb Q d g i := by
  show _ :: ((if d < i ∧ (i - d) % 3 = 0 ∧ g = true then [44] else []) ++ ((if i = d ∧ 0 < d then [46] else []) ++ fb Q d g i)) = _
  rw [if_neg (by omega), if_pos h]; rfl
theorem fb_o {Q d i : Nat} {g : Bool} (h1 : ¬ (d < i ∧ (i - d) % 3 = 0 ∧ g = true)) (h2 : ¬ (i = d ∧ 0 < d)) : fb Q d g (i + 1) = ((48 + Q / 10 ^ i % 10 : Nat) : Int) :: fb Q d g i := by
  show _ :: ((if d < i ∧ (i - d) % 3 = 0 ∧ g = true then [44] else []) ++ ((if i = d ∧ 0 < d then [46] else []) ++ fb Q d g i)) = _
  rw [if_neg h1, if_neg h2]; rfl
theorem fb_ge {Q d i : Nat} {g : Bool} : 1 ≤ (fb Q d g (i + 1)).length := by
  show 1 ≤ (_ :: _).length
  rw [List.length_cons]; omega
theorem fb_len {Q d : Nat} {g : Bool} (i : Nat) : (i ≤ d → (fb Q d g i).length = i) ∧ (d < i → (fb Q d g i).length ≤ i + (i - 1 - d) / 3 + 1) := by
  induction i with
  | zero => exact ⟨fun _ => rfl, fun h => by omega⟩
  | succ i ih =>
    refine ⟨fun h => ?_, fun h => ?_⟩
    · rw [fb_o (by omega) (by omega), List.length_cons, ih.1 (by omega)]
    · by_cases h1 : d < i ∧ (i - d) % 3 = 0 ∧ g = true
      · have := ih.2 h1.1
        rw [fb_c h1, List.length_cons, List.length_cons]
        omega
      · by_cases h2 : i = d ∧ 0 < d
        · have := ih.1 (by omega)
          rw [fb_p h2, List.length_cons, List.length_cons]
          omega
        · rw [fb_o h1 h2, List.length_cons]
          by_cases h3 : d < i
          · have := ih.2 h3
            omega
          · have := ih.1 (by omega)
            omega
theorem fb_r {Q d : Nat} {g : Bool} (i : Nat) : ∀ c, c ∈ fb Q d g i → r32 c := by
  induction i with
  | zero => intro c h; cases h
  | succ i ih =>
    intro c h
    have hd : r32 ((48 + Q / 10 ^ i % 10 : Nat) : Int) := by have := Nat.mod_lt (Q / 10 ^ i) (show 0 < 10 by omega); constructor <;> omega
    by_cases h1 : d < i ∧ (i - d) % 3 = 0 ∧ g = true
    · rw [fb_c h1] at h
      rcases List.mem_cons.mp h with e | e
      · rw [e]; exact hd
      · rcases List.mem_cons.mp e with e | e
        · rw [e]; constructor <;> omega
        · exact ih c e
    · by_cases h2 : i = d ∧ 0 < d
      · rw [fb_p h2] at h
        rcases List.mem_cons.mp h with e | e
        · rw [e]; exact hd
        · rcases List.mem_cons.mp e with e | e
          · rw [e]; constructor <;> omega
          · exact ih c e
      · rw [fb_o h1 h2] at h
        rcases List.mem_cons.mp h with e | e
        · rw [e]; exact hd
        · exact ih c e
def nwd (Q d : Nat) : Nat := if d < tnds Q then tnds Q else d + 1
theorem nwd_1 {Q d : Nat} (h : d < tnds Q) : tnds Q = nwd Q d := by unfold nwd; rw [if_pos h]
theorem nwd_2 {Q d : Nat} (h : ¬ d < tnds Q) : d + 1 = nwd Q d := by unfold nwd; rw [if_neg h]
theorem nwd_gt (Q d : Nat) : d < nwd Q d := by unfold nwd; split <;> omega
def clL (st : Int) (mi : Bool) : List Int := if mi = true ∧ 4 ≤ st then [41] else []
theorem clL_1 {st : Int} {mi : Bool} (h : mi = true ∧ 4 ≤ st) : clL st mi = [41] := by unfold clL; rw [if_pos h]
theorem clL_0 {st : Int} {mi : Bool} (h : ¬ (mi = true ∧ 4 ≤ st)) : clL st mi = [] := by unfold clL; rw [if_neg h]
theorem clL_le (st : Int) (mi : Bool) : (clL st mi).length ≤ 1 := by unfold clL; split <;> decide
def numL (Q d : Nat) (st : Int) (mi : Bool) : List Int := (if mi = true then [if 4 ≤ st then 40 else 45] else []) ++ (fb Q d (decide (st % 2 = 1)) (nwd Q d) ++ clL st mi)
theorem numL_0 {Q d : Nat} {st : Int} {mi : Bool} (h : ¬ mi = true) : numL Q d st mi = fb Q d (decide (st % 2 = 1)) (nwd Q d) ++ clL st mi := by unfold numL; rw [if_neg h]; rfl
theorem numL_4 {Q d : Nat} {st : Int} {mi : Bool} (h : mi = true) (h4 : 4 ≤ st) : numL Q d st mi = 40 :: (fb Q d (decide (st % 2 = 1)) (nwd Q d) ++ clL st mi) := by unfold numL; rw [if_pos h, if_pos h4]; rfl
theorem numL_5 {Q d : Nat} {st : Int} {mi : Bool} (h : mi = true) (h4 : ¬ 4 ≤ st) : numL Q d st mi = 45 :: (fb Q d (decide (st % 2 = 1)) (nwd Q d) ++ clL st mi) := by unfold numL; rw [if_pos h, if_neg h4]; rfl
theorem numL_le {Q d : Nat} {st : Int} {mi : Bool} (hd : d ≤ 4) (hQ : Q < 10 ^ (27 + d)) : (numL Q d st mi).length ≤ 42 := by
  have h1 := tnds_mono hQ
  have h2 : nwd Q d ≤ 27 + d := by unfold nwd; split <;> omega
  have h3 := (fb_len (Q := Q) (d := d) (g := decide (st % 2 = 1)) (nwd Q d)).2 (nwd_gt Q d)
  have h4 := clL_le st mi
  unfold numL
  rw [List.length_append, List.length_append]
  have h5 : (if mi = true then [if 4 ≤ st then (40 : Int) else 45] else []).length ≤ 1 := by split <;> simp
  omega
theorem numL_r {Q d : Nat} {st : Int} {mi : Bool} : ∀ c, c ∈ numL Q d st mi → r32 c := by
  intro c h
  unfold numL at h
  rcases List.mem_append.mp h with h | h
  · split at h
    · rcases List.mem_cons.mp h with e | e
      · rw [e]; split <;> constructor <;> omega
      · cases e
    · cases h
  · rcases List.mem_append.mp h with h | h
    · exact fb_r _ c h
    · unfold clL at h
      split at h
      · rcases List.mem_cons.mp h with e | e
        · rw [e]; constructor <;> omega
        · cases e
      · cases h
def codL (c : Int) : List Int := [65 + c, 65 + c, 65 + c]
def fmtL (c : Int) (Q : Nat) (st : Int) (mi : Bool) : List Int := if 2 ≤ st % 4 then numL Q (tdig c) st mi ++ (32 :: codL c) else codL c ++ (32 :: numL Q (tdig c) st mi)
theorem fmtL_1 {c : Int} {Q : Nat} {st : Int} {mi : Bool} (h : 2 ≤ st % 4) : fmtL c Q st mi = numL Q (tdig c) st mi ++ (32 :: codL c) := by unfold fmtL; rw [if_pos h]
theorem fmtL_0 {c : Int} {Q : Nat} {st : Int} {mi : Bool} (h : ¬ 2 ≤ st % 4) : fmtL c Q st mi = codL c ++ (32 :: numL Q (tdig c) st mi) := by unfold fmtL; rw [if_neg h]
theorem fmtL_r {c : Int} {Q : Nat} {st : Int} {mi : Bool} (hc : 0 ≤ c ∧ c ≤ 5) : ∀ x, x ∈ fmtL c Q st mi → r32 x := by
  intro x h
  have h1 : ∀ x, x ∈ codL c → r32 x := by
    intro x h
    unfold codL at h
    have e : x = 65 + c := by simpa using h
    rw [e]; constructor <;> omega
  have h2 : r32 32 := by constructor <;> omega
  unfold fmtL at h
  split at h
  · rcases List.mem_append.mp h with h | h
    · exact numL_r x h
    · rcases List.mem_cons.mp h with e | e
      · rw [e]; exact h2
      · exact h1 x e
  · rcases List.mem_append.mp h with h | h
    · exact h1 x h
    · rcases List.mem_cons.mp h with e | e
      · rw [e]; exact h2
      · exact numL_r x e
/-- the amount in units of its currency, rounded half to even -/
def fmQ (c : Int) (n : Bool) (V : Nat) : Nat := trnd 6 n (V / (1 * 10 ^ (10 - tdig c))) (V % (1 * 10 ^ (10 - tdig c))) (1 * 10 ^ (10 - tdig c))
theorem fmQ_bd {c : Int} {n : Bool} {V : Nat} (hV : V < 10 ^ 36) : fmQ c n V < 10 ^ (27 + tdig c) := by
  have h1 := trnd_le 6 n (V / (1 * 10 ^ (10 - tdig c))) (V % (1 * 10 ^ (10 - tdig c))) (1 * 10 ^ (10 - tdig c))
  have h2 : V / (1 * 10 ^ (10 - tdig c)) < 10 ^ (26 + tdig c) := by
    rw [Nat.one_mul]
    refine (Nat.div_lt_iff_lt_mul (p10 _)).mpr ?_
    have := tdig_le c
    rw [← p10add, show 26 + tdig c + (10 - tdig c) = 36 by omega]
    exact hV
  have h3 : 10 ^ (27 + tdig c) = 10 * 10 ^ (26 + tdig c) := by rw [show 27 + tdig c = (26 + tdig c) + 1 by omega, p10s]
  have h4 : fmQ c n V ≤ V / (1 * 10 ^ (10 - tdig c)) + 1 := h1
  have h5 := p10 (26 + tdig c)
  omega
def spFmt (reg : Rg) (tx : Nat → Int) (sz : Nat) (a st : Int) : Int × (Nat → Int) × Nat :=
  if (0 ≤ a ∧ a < 8) ∧ (0 ≤ st ∧ st < 8) then
    match reg a.toNat with
    | none => (-11, tx, sz)
    | some (c, _, n, V) => (fun T => (((T.2 : Nat) : Int), T)) (tapp (tx, 0) (fmtL c (fmQ c n V) st (n && decide (0 < fmQ c n V))))
  else (-15, tx, sz)
theorem spFmt_b {reg : Rg} {tx : Nat → Int} {sz : Nat} {a st : Int} (h : ¬ ((0 ≤ a ∧ a < 8) ∧ (0 ≤ st ∧ st < 8))) : spFmt reg tx sz a st = (-15, tx, sz) := by unfold spFmt; rw [if_neg h]
theorem spFmt_n {reg : Rg} {tx : Nat → Int} {sz α : Nat} {st : Int} (h : α < 8 ∧ 0 ≤ st ∧ st < 8) (hq : reg α = none) : spFmt reg tx sz (α : Int) st = (-11, tx, sz) := by
  unfold spFmt; rw [if_pos (by omega), show (α : Int).toNat = α from rfl, hq]
theorem spFmt_s {reg : Rg} {tx : Nat → Int} {sz α V s2 : Nat} {st c : Int} {w n : Bool} {t2 : Nat → Int} (h : α < 8 ∧ 0 ≤ st ∧ st < 8) (hq : reg α = some (c, w, n, V)) (hT : (t2, s2) = tapp (tx, 0) (fmtL c (fmQ c n V) st (n && decide (0 < fmQ c n V)))) : spFmt reg tx sz (α : Int) st = (((s2 : Nat) : Int), t2, s2) := by
  unfold spFmt; rw [if_pos (by omega), show (α : Int).toNat = α from rfl, hq]
  show (fun T : (Nat → Int) × Nat => (((T.2 : Nat) : Int), T)) (tapp (tx, 0) (fmtL c (fmQ c n V) st (n && decide (0 < fmQ c n V)))) = _
  rw [← hT]
set_option maxHeartbeats 4000000 in
set_option maxRecDepth 100000 in
/-- put -/
theorem c_X4_put (E : TEn) (hE : EnvOk E) (h : Nat) (p s m : Int) (qcurrency qisWide qnegative qkept qratios qtext qnum qbase qden qquo qrem qother qunits qparts qover qgiven qread : Nat) (cI : ClassId) (sz : Nat) (at0 wr dc be rc rn : Int) (tx : Nat → Int) (v : Int) (hs : sz < 48) : Ctv vwCl E yX4_put wsX4_put (rmn 0 0) [.ref h, .int (iI v)] [(h, .inr (4, MF p s m qcurrency qisWide qnegative qkept qratios qtext qnum qbase qden qquo qrem qother qunits qparts qover qgiven qread ((sz : Nat) : Int) at0 wr dc be rc rn)), (qtext, .inl (cI, 48, .inl (fun j => iI (tx j))))] [(cI, .int)] (fun _ : Unit => True) (fun _ => [(h, .inr (4, MF p s m qcurrency qisWide qnegative qkept qratios qtext qnum qbase qden qquo qrem qother qunits qparts qover qgiven qread ((sz + 1 : Nat) : Int) at0 wr dc be rc rn)), (qtext, .inl (cI, 48, .inl (fun j => iI (txs tx sz v j))))]) := by
  refine enterv (by decide) (Nat.le_of_ble_eq_true rfl) ?_
  intro X O hK hin2 hret
  show TGo X [(h, .inr (4, MF p s m qcurrency qisWide qnegative qkept qratios qtext qnum qbase qden qquo qrem qother qunits qparts qover qgiven qread ((sz : Nat) : Int) at0 wr dc be rc rn)), (qtext, .inl (cI, 48, .inl (fun j => iI (tx j))))] 0 0 0 [(0, .ref h), (1, .int (iI v))] []
  refine go_aload_n O dX4_put_0 rfl 0 rfl 1 rfl ?_
  refine go_get O hK dX4_put_1 hinX4 0 rfl rfl 8 (by decide) flX4_26 rfl 4 rfl ?_
  refine go_aload_n O dX4_put_4 rfl 0 rfl 5 rfl ?_
  refine go_get O hK dX4_put_5 hinX4 0 rfl rfl 9 (by decide) flX4_166 rfl 8 rfl ?_
  refine go_iload_n O dX4_put_8 rfl 1 rfl 9 rfl ?_
  refine go_iast O hK dX4_put_9 1 0 rfl rfl sz rfl (by omega) (by omega) (fun j => iI (txs tx sz v j)) (fun j _ => txs_up tx sz v j) [(h, .inr (4, MF p s m qcurrency qisWide qnegative qkept qratios qtext qnum qbase qden qquo qrem qother qunits qparts qover qgiven qread ((sz : Nat) : Int) at0 wr dc be rc rn)), (qtext, .inl (cI, 48, .inl (fun j => iI (txs tx sz v j))))] rfl 10 rfl ?_
  refine go_aload_n O dX4_put_10 rfl 0 rfl 11 rfl ?_
  refine go_dup O dX4_put_11 rfl 12 rfl ?_
  refine go_get O hK dX4_put_12 hinX4 0 rfl rfl 9 (by decide) flX4_166 rfl 15 rfl ?_
  refine go_iconst O dX4_put_15 16 rfl ?_
  refine go_iadd O dX4_put_16 ((sz + 1 : Nat) : Int) (by omega) 17 rfl ?_
  refine go_put O hK dX4_put_17 hinX4 tyX4 tyX4_ok nmX4 0 rfl rfl 9 (by decide) flX4_166 rfl rfl rfl rfl (Nat.le_of_ble_eq_true rfl) [(h, .inr (4, MF p s m qcurrency qisWide qnegative qkept qratios qtext qnum qbase qden qquo qrem qother qunits qparts qover qgiven qread ((sz + 1 : Nat) : Int) at0 wr dc be rc rn)), (qtext, .inl (cI, 48, .inl (fun j => iI (txs tx sz v j))))] rfl 20 rfl ?_
  exact hret _ _ () dX4_put_20 trivial
set_option maxHeartbeats 4000000 in
set_option maxRecDepth 100000 in
/-- putCode -/
theorem c_X4_putCode (E : TEn) (hE : EnvOk E) (h : Nat) (p s m : Int) (qcurrency qisWide qnegative qkept qratios qtext qnum qbase qden qquo qrem qother qunits qparts qover qgiven qread : Nat) (cI : ClassId) (sz : Nat) (at0 wr dc be rc rn : Int) (tx : Nat → Int) (v : Int) (hs : sz + 3 ≤ 48) : Ctv vwCl E yX4_putCode wsX4_putCode (rmn 1 21) [.ref h, .int (iI v)] [(h, .inr (4, MF p s m qcurrency qisWide qnegative qkept qratios qtext qnum qbase qden qquo qrem qother qunits qparts qover qgiven qread ((sz : Nat) : Int) at0 wr dc be rc rn)), (qtext, .inl (cI, 48, .inl (fun j => iI (tx j))))] [(cI, .int)] (fun (u : (Nat → Int) × Nat) => u = tapp (tx, sz) (codL v)) (fun u => [(h, .inr (4, MF p s m qcurrency qisWide qnegative qkept qratios qtext qnum qbase qden qquo qrem qother qunits qparts qover qgiven qread ((u.2 : Nat) : Int) at0 wr dc be rc rn)), (qtext, .inl (cI, 48, .inl (fun j => iI (u.1 j))))]) := by
  refine enterv (by decide) (Nat.le_of_ble_eq_true rfl) ?_
  intro X O hK hin2 hret
  show TGo X [(h, .inr (4, MF p s m qcurrency qisWide qnegative qkept qratios qtext qnum qbase qden qquo qrem qother qunits qparts qover qgiven qread ((sz : Nat) : Int) at0 wr dc be rc rn)), (qtext, .inl (cI, 48, .inl (fun j => iI (tx j))))] 0 0 0 [(0, .ref h), (1, .int (iI v))] []
  have lp : ∀ (c : Nat) (i : Nat) (x : Int) (t2 : Nat → Int) (s2 : Nat), c + i = 4 → i ≤ 3 → x = (i : Int) → s2 = sz + i → tapp (t2, s2) (List.replicate (3 - i) (65 + v)) = tapp (tx, sz) (codL v) → TGo X [(h, .inr (4, MF p s m qcurrency qisWide qnegative qkept qratios qtext qnum qbase qden qquo qrem qother qunits qparts qover qgiven qread ((s2 : Nat) : Int) at0 wr dc be rc rn)), (qtext, .inl (cI, 48, .inl (fun j => iI (t2 j))))] 0 0 2 [(2, .int (iI x)), (0, .ref h), (1, .int (iI v))] [] := by
    intro c
    induction c with
    | zero => intro i x t2 s2 h1 h2 hx hs2 hF; omega
    | succ c ih =>
      intro i x t2 s2 h1 h2 hx hs2 hF
      refine go_iload_n O dX4_putCode_2 rfl 0 rfl 3 rfl ?_
      refine go_iconst O dX4_putCode_3 4 rfl ?_
      refine go_icmp_ge O dX4_putCode_4 21 (by decide) 7 rfl (by omega) (by omega) (fun h4 => ?_) (fun h4 => ?_)
      · exact hret _ _ (t2, s2) dX4_putCode_21 (by rw [← hF, show 3 - i = 0 by omega]; rfl)
      · refine go_aload_n O dX4_putCode_7 rfl 1 rfl 8 rfl ?_
        refine go_bipush O dX4_putCode_8 (by decide) 10 rfl ?_
        refine go_iload_n O dX4_putCode_10 rfl 2 rfl 11 rfl ?_
        refine go_iadd O dX4_putCode_11 (65 + v) rfl 12 rfl ?_
        refine go_callvV (As := [.int (iI (65 + v))]) (rest := []) (wr := []) O hK hE (c_X4_put E hE h p s m qcurrency qisWide qnegative qkept qratios qtext qnum qbase qden qquo qrem qother qunits qparts qover qgiven qread cI s2 at0 wr dc be rc rn t2 (65 + v) (by omega)) mlX4_169 imX4_put seX4_put inX4 cdX4_put 1 (by decide +kernel) ⟨Nat.le_of_ble_eq_true rfl, Nat.le_of_ble_eq_true rfl⟩ 0 rfl rfl [0] rfl [0, 1] rfl (by decide) [] rfl (by decide) (by decide) rfl rfl (Nat.le_of_ble_eq_true rfl) ⟨Nat.zero_le _, Nat.zero_le _⟩ dX4_putCode_12 15 rfl (fun u hu => ?_)
        show TGo X [(h, .inr (4, MF p s m qcurrency qisWide qnegative qkept qratios qtext qnum qbase qden qquo qrem qother qunits qparts qover qgiven qread ((s2 + 1 : Nat) : Int) at0 wr dc be rc rn)), (qtext, .inl (cI, 48, .inl (fun j => iI ((txs t2 s2 (65 + v)) j))))] 0 0 15 [(2, .int (iI x)), (0, .ref h), (1, .int (iI v))] []
        refine go_iinc O dX4_putCode_15 0 rfl ((i + 1 : Nat) : Int) (by omega) (by decide) [(2, .int (iI ((i + 1 : Nat) : Int))), (0, .ref h), (1, .int (iI v))] rfl 18 rfl ?_
        refine go_goto O dX4_putCode_18 2 (by decide) ?_
        refine TGo.lsub (lv' := [(2, .int (iI ((i + 1 : Nat) : Int))), (0, .ref h), (1, .int (iI v))]) [0, 1, 2] rfl ?_
        exact ih (i + 1) _ _ _ (by omega) (by omega) (by omega) (by omega) (by rw [← hF, show 3 - i = (3 - (i + 1)) + 1 by omega]; rfl)
  refine go_iconst O dX4_putCode_0 1 rfl ?_
  refine go_istore_n O dX4_putCode_1 rfl (by decide) [(2, .int (iI 0)), (0, .ref h), (1, .int (iI v))] rfl 2 rfl ?_
  refine TGo.lsub (lv' := [(2, .int (iI 0)), (0, .ref h), (1, .int (iI v))]) [0, 1, 2] rfl ?_
  exact lp 4 0 _ tx sz (by omega) (by omega) rfl rfl rfl
set_option maxHeartbeats 4000000 in
set_option maxRecDepth 100000 in
/-- putNumber -/
theorem c_X4_putNumber (E : TEn) (hE : EnvOk E) (h : Nat) (p s m : Int) (qcurrency qisWide qnegative qkept qratios qtext qnum qbase qden qquo qrem qother qunits qparts qover qgiven qread : Nat) (cI : ClassId) (sz : Nat) (at0 wr dc be rc rn : Int) (tx : Nat → Int) (Q d : Nat) (st : Int) (mi : Bool) (hd : d ≤ 4) (hst : 0 ≤ st ∧ st < 8) (hQ : Q < 10 ^ (27 + d)) (hb : sz + (numL Q d st mi).length ≤ 48) : Ctv vwCl E yX4_putNumber wsX4_putNumber (rmn 1 22) [.ref h, .int (iI ((d : Nat) : Int)), .int (iI st), .int (iI (bz mi))] [(h, .inr (4, MF p s m qcurrency qisWide qnegative qkept qratios qtext qnum qbase qden qquo qrem qother qunits qparts qover qgiven qread ((sz : Nat) : Int) at0 wr dc be rc rn)), (qtext, .inl (cI, 48, .inl (fun j => iI (tx j)))), (qquo, .inl (cI, 80, .inl (dg Q)))] [(cI, .int)] (fun (u : (Nat → Int) × Nat) => u = tapp (tx, sz) (numL Q d st mi)) (fun u => [(h, .inr (4, MF p s m qcurrency qisWide qnegative qkept qratios qtext qnum qbase qden qquo qrem qother qunits qparts qover qgiven qread ((u.2 : Nat) : Int) at0 wr dc be rc rn)), (qtext, .inl (cI, 48, .inl (fun j => iI (u.1 j)))), (qquo, .inl (cI, 80, .inl (dg Q)))]) := by
  refine enterv (by decide) (Nat.le_of_ble_eq_true rfl) ?_
  intro X O hK hin2 hret
  show TGo X [(h, .inr (4, MF p s m qcurrency qisWide qnegative qkept qratios qtext qnum qbase qden qquo qrem qother qunits qparts qover qgiven qread ((sz : Nat) : Int) at0 wr dc be rc rn)), (qtext, .inl (cI, 48, .inl (fun j => iI (tx j)))), (qquo, .inl (cI, 80, .inl (dg Q)))] 0 0 0 [(0, .ref h), (1, .int (iI ((d : Nat) : Int))), (2, .int (iI st)), (3, .int (iI (bz mi)))] []
  have bm := bz_01 mi
  have b4 := bz_01 (decide (4 ≤ st))
  obtain ⟨F, hF0⟩ : ∃ y, y = tapp (tx, sz) (numL Q d st mi) := ⟨_, rfl⟩
  have hng := nwd_gt Q d
  have htQ := tnds_mono hQ
  have hn31 : nwd Q d ≤ 40 := by unfold nwd; split <;> omega
  have b4i : bz (decide (4 ≤ st)) = 0 ↔ ¬ 4 ≤ st := ⟨bzd_z, fun e => by rw [decide_eq_false e]; rfl⟩
  have lp : ∀ (c : Nat) (i : Nat) (x : Int) (t2 : Nat → Int) (s2 : Nat), c = i + 1 → i ≤ 40 → x = (i : Int) - 1 → tapp (t2, s2) (fb Q d (decide (st % 2 = 1)) i ++ clL st mi) = F → s2 + (fb Q d (decide (st % 2 = 1)) i ++ clL st mi).length ≤ 48 → TGo X [(h, .inr (4, MF p s m qcurrency qisWide qnegative qkept qratios qtext qnum qbase qden qquo qrem qother qunits qparts qover qgiven qread ((s2 : Nat) : Int) at0 wr dc be rc rn)), (qtext, .inl (cI, 48, .inl (fun j => iI (t2 j)))), (qquo, .inl (cI, 80, .inl (dg Q)))] 0 0 64 [(6, .int (iI x)), (0, .ref h), (1, .int (iI ((d : Nat) : Int))), (2, .int (iI st)), (3, .int (iI (bz mi))), (4, .int (iI (bz (decide (4 ≤ st)))))] [] := by
    intro c
    induction c with
    | zero => intro i x t2 s2 h1 h2 hx hF hb; omega
    | succ c ih =>
      intro i x t2 s2 h1 h2 hx hF hb
      refine go_iload O dX4_putNumber_64 0 rfl 66 rfl ?_
      refine go_if_lt O dX4_putNumber_66 135 (by decide) 69 rfl (by omega) (fun h66 => ?_) (fun h66 => ?_)
      · have ei : i = 0 := by omega
        subst ei
        refine go_iload_n O dX4_putNumber_135 rfl 4 rfl 136 rfl ?_
        refine go_if_eq O dX4_putNumber_136 150 (by decide) 139 rfl (by omega) (fun h136 => ?_) (fun h136 => ?_)
        · rw [clL_0 (fun e => by rw [e.1] at h136; cases h136)] at hF
          exact hret _ _ (t2, s2) dX4_putNumber_150 (by rw [← hF0]; exact hF)
        · refine go_iload O dX4_putNumber_139 5 rfl 141 rfl ?_
          refine go_if_eq O dX4_putNumber_141 150 (by decide) 144 rfl (by omega) (fun h141 => ?_) (fun h141 => ?_)
          · rw [clL_0 (fun e => by omega)] at hF
            exact hret _ _ (t2, s2) dX4_putNumber_150 (by rw [← hF0]; exact hF)
          · refine go_aload_n O dX4_putNumber_144 rfl 1 rfl 145 rfl ?_
            refine go_bipush O dX4_putNumber_145 (by decide) 147 rfl ?_
            refine go_callvV (As := [.int (iI 41)]) (rest := []) (wr := [(qquo, .inl (cI, 80, .inl (dg Q)))]) O hK hE (c_X4_put E hE h p s m qcurrency qisWide qnegative qkept qratios qtext qnum qbase qden qquo qrem qother qunits qparts qover qgiven qread cI s2 at0 wr dc be rc rn t2 41 (by rw [clL_1 ⟨bz_ne h136, by omega⟩] at hb; have e : (fb Q d (decide (st % 2 = 1)) 0 ++ [41]).length = 1 := rfl; omega)) mlX4_169 imX4_put seX4_put inX4 cdX4_put 1 (by decide +kernel) ⟨Nat.le_of_ble_eq_true rfl, Nat.le_of_ble_eq_true rfl⟩ 0 rfl rfl [0] rfl [0, 1] rfl (by decide) [2] rfl (by decide) (by decide) rfl rfl (Nat.le_of_ble_eq_true rfl) ⟨Nat.zero_le _, Nat.zero_le _⟩ dX4_putNumber_147 150 rfl (fun u hu => ?_)
            show TGo X [(qquo, .inl (cI, 80, .inl (dg Q))), (h, .inr (4, MF p s m qcurrency qisWide qnegative qkept qratios qtext qnum qbase qden qquo qrem qother qunits qparts qover qgiven qread ((s2 + 1 : Nat) : Int) at0 wr dc be rc rn)), (qtext, .inl (cI, 48, .inl (fun j => iI ((txs t2 s2 41) j))))] 0 0 150 [(6, .int (iI x)), (0, .ref h), (1, .int (iI ((d : Nat) : Int))), (2, .int (iI st)), (3, .int (iI (bz mi))), (4, .int (iI (bz (decide (4 ≤ st)))))] []
            refine TGo.sub (ws' := [(h, .inr (4, MF p s m qcurrency qisWide qnegative qkept qratios qtext qnum qbase qden qquo qrem qother qunits qparts qover qgiven qread ((s2 + 1 : Nat) : Int) at0 wr dc be rc rn)), (qtext, .inl (cI, 48, .inl (fun j => iI ((txs t2 s2 41) j)))), (qquo, .inl (cI, 80, .inl (dg Q)))]) [1, 2, 0] (by decide) rfl ?_
            rw [clL_1 ⟨bz_ne h136, by omega⟩] at hF
            exact hret _ _ ((txs t2 s2 41), s2 + 1) dX4_putNumber_150 (by rw [← hF0]; exact hF)
      · obtain ⟨k, rfl⟩ : ∃ k, i = k + 1 := ⟨i - 1, by omega⟩
        have hg1 := fb_ge (Q := Q) (d := d) (g := (decide (st % 2 = 1))) (i := k)
        have hb1 := hb
        rw [List.length_append] at hb1
        refine go_aload_n O dX4_putNumber_69 rfl 1 rfl 70 rfl ?_
        refine go_bipush O dX4_putNumber_70 (by decide) 72 rfl ?_
        refine go_aload_n O dX4_putNumber_72 rfl 1 rfl 73 rfl ?_
        refine go_get O hK dX4_putNumber_73 hinX4 0 rfl rfl 13 (by decide) flX4_38 rfl 76 rfl ?_
        refine go_iload O dX4_putNumber_76 0 rfl 78 rfl ?_
        refine go_iald O hK dX4_putNumber_78 2 0 rfl rfl k (by omega) (by omega) (by omega) ((Q / 10 ^ k % 10 : Nat) : Int) rfl 79 rfl ?_
        refine go_iadd O dX4_putNumber_79 ((48 + Q / 10 ^ k % 10 : Nat) : Int) (by omega) 80 rfl ?_
        refine go_callvV (As := [.int (iI ((48 + Q / 10 ^ k % 10 : Nat) : Int))]) (rest := []) (wr := [(qquo, .inl (cI, 80, .inl (dg Q)))]) O hK hE (c_X4_put E hE h p s m qcurrency qisWide qnegative qkept qratios qtext qnum qbase qden qquo qrem qother qunits qparts qover qgiven qread cI s2 at0 wr dc be rc rn t2 ((48 + Q / 10 ^ k % 10 : Nat) : Int) (by omega)) mlX4_169 imX4_put seX4_put inX4 cdX4_put 1 (by decide +kernel) ⟨Nat.le_of_ble_eq_true rfl, Nat.le_of_ble_eq_true rfl⟩ 0 rfl rfl [0] rfl [0, 1] rfl (by decide) [2] rfl (by decide) (by decide) rfl rfl (Nat.le_of_ble_eq_true rfl) ⟨Nat.zero_le _, Nat.zero_le _⟩ dX4_putNumber_80 83 rfl (fun u hu => ?_)
        show TGo X [(qquo, .inl (cI, 80, .inl (dg Q))), (h, .inr (4, MF p s m qcurrency qisWide qnegative qkept qratios qtext qnum qbase qden qquo qrem qother qunits qparts qover qgiven qread ((s2 + 1 : Nat) : Int) at0 wr dc be rc rn)), (qtext, .inl (cI, 48, .inl (fun j => iI ((txs t2 s2 ((48 + Q / 10 ^ k % 10 : Nat) : Int)) j))))] 0 0 83 [(6, .int (iI x)), (0, .ref h), (1, .int (iI ((d : Nat) : Int))), (2, .int (iI st)), (3, .int (iI (bz mi))), (4, .int (iI (bz (decide (4 ≤ st)))))] []
        refine TGo.sub (ws' := [(h, .inr (4, MF p s m qcurrency qisWide qnegative qkept qratios qtext qnum qbase qden qquo qrem qother qunits qparts qover qgiven qread ((s2 + 1 : Nat) : Int) at0 wr dc be rc rn)), (qtext, .inl (cI, 48, .inl (fun j => iI ((txs t2 s2 ((48 + Q / 10 ^ k % 10 : Nat) : Int)) j)))), (qquo, .inl (cI, 80, .inl (dg Q)))]) [1, 2, 0] (by decide) rfl ?_
        refine go_iload O dX4_putNumber_83 0 rfl 85 rfl ?_
        refine go_iload_n O dX4_putNumber_85 rfl 2 rfl 86 rfl ?_
        refine go_isub O dX4_putNumber_86 (((k : Nat) : Int) - ((d : Nat) : Int)) (by omega) 87 rfl ?_
        refine go_istore O dX4_putNumber_87 (by decide) [(7, .int (iI (((k : Nat) : Int) - ((d : Nat) : Int)))), (6, .int (iI x)), (0, .ref h), (1, .int (iI ((d : Nat) : Int))), (2, .int (iI st)), (3, .int (iI (bz mi))), (4, .int (iI (bz (decide (4 ≤ st)))))] rfl 89 rfl ?_
        refine go_iload O dX4_putNumber_89 0 rfl 91 rfl ?_
        refine go_if_le O dX4_putNumber_91 114 (by decide) 94 rfl (by omega) (fun h91 => ?_) (fun h91 => ?_)
        · refine go_iload O dX4_putNumber_114 0 rfl 116 rfl ?_
          refine go_if_ne O dX4_putNumber_116 129 (by decide) 119 rfl (by omega) (fun h116 => ?_) (fun h116 => ?_)
          · refine go_iinc O dX4_putNumber_129 1 rfl (x - 1) (by omega) (by decide) [(6, .int (iI (x - 1))), (7, .int (iI (((k : Nat) : Int) - ((d : Nat) : Int)))), (0, .ref h), (1, .int (iI ((d : Nat) : Int))), (2, .int (iI st)), (3, .int (iI (bz mi))), (4, .int (iI (bz (decide (4 ≤ st)))))] rfl 132 rfl ?_
            refine go_goto O dX4_putNumber_132 64 (by decide) ?_
            rw [fb_o (by rintro ⟨e1, e2, e3⟩; have e4 := of_decide_eq_true e3; omega) (by omega)] at hF hb
            simp only [List.cons_append, List.length_cons] at hb
            refine TGo.lsub (lv' := [(6, .int (iI (x - 1))), (0, .ref h), (1, .int (iI ((d : Nat) : Int))), (2, .int (iI st)), (3, .int (iI (bz mi))), (4, .int (iI (bz (decide (4 ≤ st)))))]) [0, 2, 3, 4, 5, 6] rfl ?_
            exact ih k _ (txs t2 s2 ((48 + Q / 10 ^ k % 10 : Nat) : Int)) (s2 + 1) (by omega) (by omega) (by omega) hF (by omega)
          · refine go_iload_n O dX4_putNumber_119 rfl 3 rfl 120 rfl ?_
            refine go_if_le O dX4_putNumber_120 129 (by decide) 123 rfl (by omega) (fun h120 => ?_) (fun h120 => ?_)
            · refine go_iinc O dX4_putNumber_129 1 rfl (x - 1) (by omega) (by decide) [(6, .int (iI (x - 1))), (7, .int (iI (((k : Nat) : Int) - ((d : Nat) : Int)))), (0, .ref h), (1, .int (iI ((d : Nat) : Int))), (2, .int (iI st)), (3, .int (iI (bz mi))), (4, .int (iI (bz (decide (4 ≤ st)))))] rfl 132 rfl ?_
              refine go_goto O dX4_putNumber_132 64 (by decide) ?_
              rw [fb_o (by rintro ⟨e1, e2, e3⟩; have e4 := of_decide_eq_true e3; omega) (by omega)] at hF hb
              simp only [List.cons_append, List.length_cons] at hb
              refine TGo.lsub (lv' := [(6, .int (iI (x - 1))), (0, .ref h), (1, .int (iI ((d : Nat) : Int))), (2, .int (iI st)), (3, .int (iI (bz mi))), (4, .int (iI (bz (decide (4 ≤ st)))))]) [0, 2, 3, 4, 5, 6] rfl ?_
              exact ih k _ (txs t2 s2 ((48 + Q / 10 ^ k % 10 : Nat) : Int)) (s2 + 1) (by omega) (by omega) (by omega) hF (by omega)
            · rw [fb_p (by omega)] at hF hb
              simp only [List.cons_append, List.length_cons] at hb
              refine go_aload_n O dX4_putNumber_123 rfl 2 rfl 124 rfl ?_
              refine go_bipush O dX4_putNumber_124 (by decide) 126 rfl ?_
              refine go_callvV (As := [.int (iI 46)]) (rest := []) (wr := [(qquo, .inl (cI, 80, .inl (dg Q)))]) O hK hE (c_X4_put E hE h p s m qcurrency qisWide qnegative qkept qratios qtext qnum qbase qden qquo qrem qother qunits qparts qover qgiven qread cI (s2 + 1) at0 wr dc be rc rn (txs t2 s2 ((48 + Q / 10 ^ k % 10 : Nat) : Int)) 46 (by omega)) mlX4_169 imX4_put seX4_put inX4 cdX4_put 1 (by decide +kernel) ⟨Nat.le_of_ble_eq_true rfl, Nat.le_of_ble_eq_true rfl⟩ 0 rfl rfl [0] rfl [0, 1] rfl (by decide) [2] rfl (by decide) (by decide) rfl rfl (Nat.le_of_ble_eq_true rfl) ⟨Nat.zero_le _, Nat.zero_le _⟩ dX4_putNumber_126 129 rfl (fun u hu => ?_)
              show TGo X [(qquo, .inl (cI, 80, .inl (dg Q))), (h, .inr (4, MF p s m qcurrency qisWide qnegative qkept qratios qtext qnum qbase qden qquo qrem qother qunits qparts qover qgiven qread ((s2 + 1 + 1 : Nat) : Int) at0 wr dc be rc rn)), (qtext, .inl (cI, 48, .inl (fun j => iI ((txs (txs t2 s2 ((48 + Q / 10 ^ k % 10 : Nat) : Int)) (s2 + 1) 46) j))))] 0 0 129 [(7, .int (iI (((k : Nat) : Int) - ((d : Nat) : Int)))), (6, .int (iI x)), (0, .ref h), (1, .int (iI ((d : Nat) : Int))), (2, .int (iI st)), (3, .int (iI (bz mi))), (4, .int (iI (bz (decide (4 ≤ st)))))] []
              refine TGo.sub (ws' := [(h, .inr (4, MF p s m qcurrency qisWide qnegative qkept qratios qtext qnum qbase qden qquo qrem qother qunits qparts qover qgiven qread ((s2 + 1 + 1 : Nat) : Int) at0 wr dc be rc rn)), (qtext, .inl (cI, 48, .inl (fun j => iI ((txs (txs t2 s2 ((48 + Q / 10 ^ k % 10 : Nat) : Int)) (s2 + 1) 46) j)))), (qquo, .inl (cI, 80, .inl (dg Q)))]) [1, 2, 0] (by decide) rfl ?_
              refine go_iinc O dX4_putNumber_129 1 rfl (x - 1) (by omega) (by decide) [(6, .int (iI (x - 1))), (7, .int (iI (((k : Nat) : Int) - ((d : Nat) : Int)))), (0, .ref h), (1, .int (iI ((d : Nat) : Int))), (2, .int (iI st)), (3, .int (iI (bz mi))), (4, .int (iI (bz (decide (4 ≤ st)))))] rfl 132 rfl ?_
              refine go_goto O dX4_putNumber_132 64 (by decide) ?_
              refine TGo.lsub (lv' := [(6, .int (iI (x - 1))), (0, .ref h), (1, .int (iI ((d : Nat) : Int))), (2, .int (iI st)), (3, .int (iI (bz mi))), (4, .int (iI (bz (decide (4 ≤ st)))))]) [0, 2, 3, 4, 5, 6] rfl ?_
              exact ih k _ (txs (txs t2 s2 ((48 + Q / 10 ^ k % 10 : Nat) : Int)) (s2 + 1) 46) (s2 + 1 + 1) (by omega) (by omega) (by omega) hF (by omega)
        · refine go_iload O dX4_putNumber_94 0 rfl 96 rfl ?_
          refine go_iconst O dX4_putNumber_96 97 rfl ?_
          refine go_irem O dX4_putNumber_97 (by omega) (by omega) (by omega) (by omega) (((k - d) % 3 : Nat) : Int) (by omega) 98 rfl ?_
          refine go_if_ne O dX4_putNumber_98 114 (by decide) 101 rfl (by omega) (fun h98 => ?_) (fun h98 => ?_)
          · refine go_iload O dX4_putNumber_114 0 rfl 116 rfl ?_
            refine go_if_ne O dX4_putNumber_116 129 (by decide) 119 rfl (by omega) (fun h116 => ?_) (fun h116 => by omega)
            refine go_iinc O dX4_putNumber_129 1 rfl (x - 1) (by omega) (by decide) [(6, .int (iI (x - 1))), (7, .int (iI (((k : Nat) : Int) - ((d : Nat) : Int)))), (0, .ref h), (1, .int (iI ((d : Nat) : Int))), (2, .int (iI st)), (3, .int (iI (bz mi))), (4, .int (iI (bz (decide (4 ≤ st)))))] rfl 132 rfl ?_
            refine go_goto O dX4_putNumber_132 64 (by decide) ?_
            rw [fb_o (by rintro ⟨e1, e2, e3⟩; have e4 := of_decide_eq_true e3; omega) (by omega)] at hF hb
            simp only [List.cons_append, List.length_cons] at hb
            refine TGo.lsub (lv' := [(6, .int (iI (x - 1))), (0, .ref h), (1, .int (iI ((d : Nat) : Int))), (2, .int (iI st)), (3, .int (iI (bz mi))), (4, .int (iI (bz (decide (4 ≤ st)))))]) [0, 2, 3, 4, 5, 6] rfl ?_
            exact ih k _ (txs t2 s2 ((48 + Q / 10 ^ k % 10 : Nat) : Int)) (s2 + 1) (by omega) (by omega) (by omega) hF (by omega)
          · refine go_iload_n O dX4_putNumber_101 rfl 4 rfl 102 rfl ?_
            refine go_iconst O dX4_putNumber_102 103 rfl ?_
            refine go_irem O dX4_putNumber_103 (by omega) (by omega) (by omega) (by omega) (st % 2) rfl 104 rfl ?_
            refine go_iconst O dX4_putNumber_104 105 rfl ?_
            refine go_icmp_ne O dX4_putNumber_105 114 (by decide) 108 rfl (by omega) (by omega) (fun h105 => ?_) (fun h105 => ?_)
            · refine go_iload O dX4_putNumber_114 0 rfl 116 rfl ?_
              refine go_if_ne O dX4_putNumber_116 129 (by decide) 119 rfl (by omega) (fun h116 => ?_) (fun h116 => by omega)
              refine go_iinc O dX4_putNumber_129 1 rfl (x - 1) (by omega) (by decide) [(6, .int (iI (x - 1))), (7, .int (iI (((k : Nat) : Int) - ((d : Nat) : Int)))), (0, .ref h), (1, .int (iI ((d : Nat) : Int))), (2, .int (iI st)), (3, .int (iI (bz mi))), (4, .int (iI (bz (decide (4 ≤ st)))))] rfl 132 rfl ?_
              refine go_goto O dX4_putNumber_132 64 (by decide) ?_
              rw [fb_o (by rintro ⟨e1, e2, e3⟩; have e4 := of_decide_eq_true e3; omega) (by omega)] at hF hb
              simp only [List.cons_append, List.length_cons] at hb
              refine TGo.lsub (lv' := [(6, .int (iI (x - 1))), (0, .ref h), (1, .int (iI ((d : Nat) : Int))), (2, .int (iI st)), (3, .int (iI (bz mi))), (4, .int (iI (bz (decide (4 ≤ st)))))]) [0, 2, 3, 4, 5, 6] rfl ?_
              exact ih k _ (txs t2 s2 ((48 + Q / 10 ^ k % 10 : Nat) : Int)) (s2 + 1) (by omega) (by omega) (by omega) hF (by omega)
            · rw [fb_c ⟨by omega, by omega, (decide_eq_true (by omega))⟩] at hF hb
              simp only [List.cons_append, List.length_cons] at hb
              refine go_aload_n O dX4_putNumber_108 rfl 2 rfl 109 rfl ?_
              refine go_bipush O dX4_putNumber_109 (by decide) 111 rfl ?_
              refine go_callvV (As := [.int (iI 44)]) (rest := []) (wr := [(qquo, .inl (cI, 80, .inl (dg Q)))]) O hK hE (c_X4_put E hE h p s m qcurrency qisWide qnegative qkept qratios qtext qnum qbase qden qquo qrem qother qunits qparts qover qgiven qread cI (s2 + 1) at0 wr dc be rc rn (txs t2 s2 ((48 + Q / 10 ^ k % 10 : Nat) : Int)) 44 (by omega)) mlX4_169 imX4_put seX4_put inX4 cdX4_put 1 (by decide +kernel) ⟨Nat.le_of_ble_eq_true rfl, Nat.le_of_ble_eq_true rfl⟩ 0 rfl rfl [0] rfl [0, 1] rfl (by decide) [2] rfl (by decide) (by decide) rfl rfl (Nat.le_of_ble_eq_true rfl) ⟨Nat.zero_le _, Nat.zero_le _⟩ dX4_putNumber_111 114 rfl (fun u hu => ?_)
              show TGo X [(qquo, .inl (cI, 80, .inl (dg Q))), (h, .inr (4, MF p s m qcurrency qisWide qnegative qkept qratios qtext qnum qbase qden qquo qrem qother qunits qparts qover qgiven qread ((s2 + 1 + 1 : Nat) : Int) at0 wr dc be rc rn)), (qtext, .inl (cI, 48, .inl (fun j => iI ((txs (txs t2 s2 ((48 + Q / 10 ^ k % 10 : Nat) : Int)) (s2 + 1) 44) j))))] 0 0 114 [(7, .int (iI (((k : Nat) : Int) - ((d : Nat) : Int)))), (6, .int (iI x)), (0, .ref h), (1, .int (iI ((d : Nat) : Int))), (2, .int (iI st)), (3, .int (iI (bz mi))), (4, .int (iI (bz (decide (4 ≤ st)))))] []
              refine TGo.sub (ws' := [(h, .inr (4, MF p s m qcurrency qisWide qnegative qkept qratios qtext qnum qbase qden qquo qrem qother qunits qparts qover qgiven qread ((s2 + 1 + 1 : Nat) : Int) at0 wr dc be rc rn)), (qtext, .inl (cI, 48, .inl (fun j => iI ((txs (txs t2 s2 ((48 + Q / 10 ^ k % 10 : Nat) : Int)) (s2 + 1) 44) j)))), (qquo, .inl (cI, 80, .inl (dg Q)))]) [1, 2, 0] (by decide) rfl ?_
              refine go_iload O dX4_putNumber_114 0 rfl 116 rfl ?_
              refine go_if_ne O dX4_putNumber_116 129 (by decide) 119 rfl (by omega) (fun h116 => ?_) (fun h116 => by omega)
              refine go_iinc O dX4_putNumber_129 1 rfl (x - 1) (by omega) (by decide) [(6, .int (iI (x - 1))), (7, .int (iI (((k : Nat) : Int) - ((d : Nat) : Int)))), (0, .ref h), (1, .int (iI ((d : Nat) : Int))), (2, .int (iI st)), (3, .int (iI (bz mi))), (4, .int (iI (bz (decide (4 ≤ st)))))] rfl 132 rfl ?_
              refine go_goto O dX4_putNumber_132 64 (by decide) ?_
              refine TGo.lsub (lv' := [(6, .int (iI (x - 1))), (0, .ref h), (1, .int (iI ((d : Nat) : Int))), (2, .int (iI st)), (3, .int (iI (bz mi))), (4, .int (iI (bz (decide (4 ≤ st)))))]) [0, 2, 3, 4, 5, 6] rfl ?_
              exact ih k _ (txs (txs t2 s2 ((48 + Q / 10 ^ k % 10 : Nat) : Int)) (s2 + 1) 44) (s2 + 1 + 1) (by omega) (by omega) (by omega) hF (by omega)
  refine go_iload_n O dX4_putNumber_0 rfl 2 rfl 1 rfl ?_
  refine go_iconst O dX4_putNumber_1 2 rfl ?_
  refine go_icmp_lt O dX4_putNumber_2 9 (by decide) 5 rfl (by omega) (by omega) (fun h2 => ?_) (fun h2 => ?_)
  · refine go_iconst O dX4_putNumber_9 10 rfl ?_
    refine TGo.topi (y := bz (decide (4 ≤ st))) (by rw [decide_eq_false (by omega)]; rfl) ?_
    refine go_istore O dX4_putNumber_10 (by decide) [(4, .int (iI (bz (decide (4 ≤ st))))), (0, .ref h), (1, .int (iI ((d : Nat) : Int))), (2, .int (iI st)), (3, .int (iI (bz mi)))] rfl 12 rfl ?_
    refine go_iload_n O dX4_putNumber_12 rfl 4 rfl 13 rfl ?_
    refine go_if_eq O dX4_putNumber_13 32 (by decide) 16 rfl (by omega) (fun h13 => ?_) (fun h13 => ?_)
    · refine go_aload_n O dX4_putNumber_32 rfl 1 rfl 33 rfl ?_
      refine go_get O hK dX4_putNumber_33 hinX4 0 rfl rfl 13 (by decide) flX4_38 rfl 36 rfl ?_
      refine go_calliS (rest := []) (wr := [(h, .inr (4, MF p s m qcurrency qisWide qnegative qkept qratios qtext qnum qbase qden qquo qrem qother qunits qparts qover qgiven qread ((sz : Nat) : Int) at0 wr dc be rc rn)), (qtext, .inl (cI, 48, .inl (fun j => iI (tx j))))]) O hK hE (c_X4_size E hE qquo cI Q (Nat.lt_of_lt_of_le hQ (p10le (by omega)))) mlX4_78 smX4_size inX4 cdX4_size 1 (by decide +kernel) ⟨Nat.le_of_ble_eq_true rfl, Nat.le_of_ble_eq_true rfl⟩ [0] rfl [2] rfl (by decide) [0, 1] rfl (by decide) (by decide) rfl rfl (Nat.le_of_ble_eq_true rfl) ⟨Nat.zero_le _, Nat.zero_le _⟩ dX4_putNumber_36 39 rfl (fun z u hu => ?_)
      subst hu
      show TGo X [(h, .inr (4, MF p s m qcurrency qisWide qnegative qkept qratios qtext qnum qbase qden qquo qrem qother qunits qparts qover qgiven qread ((sz : Nat) : Int) at0 wr dc be rc rn)), (qtext, .inl (cI, 48, .inl (fun j => iI (tx j)))), (qquo, .inl (cI, 80, .inl (dg Q)))] 0 0 39 [(4, .int (iI (bz (decide (4 ≤ st))))), (0, .ref h), (1, .int (iI ((d : Nat) : Int))), (2, .int (iI st)), (3, .int (iI (bz mi)))] [.int (iI ((tnds Q : Nat) : Int))]
      refine go_iload_n O dX4_putNumber_39 rfl 2 rfl 40 rfl ?_
      refine go_icmp_le O dX4_putNumber_40 53 (by decide) 43 rfl (by omega) (by omega) (fun h40 => ?_) (fun h40 => ?_)
      · refine go_iload_n O dX4_putNumber_53 rfl 2 rfl 54 rfl ?_
        refine go_iconst O dX4_putNumber_54 55 rfl ?_
        refine go_iadd O dX4_putNumber_55 ((d + 1 : Nat) : Int) (by omega) 56 rfl ?_
        refine TGo.topi (y := ((nwd Q d : Nat) : Int)) (by rw [nwd_2 (Q := Q) (d := d) (by omega)]) ?_
        refine go_istore O dX4_putNumber_56 (by decide) [(5, .int (iI ((nwd Q d : Nat) : Int))), (4, .int (iI (bz (decide (4 ≤ st))))), (0, .ref h), (1, .int (iI ((d : Nat) : Int))), (2, .int (iI st)), (3, .int (iI (bz mi)))] rfl 58 rfl ?_
        refine go_iload O dX4_putNumber_58 0 rfl 60 rfl ?_
        refine go_iconst O dX4_putNumber_60 61 rfl ?_
        refine go_isub O dX4_putNumber_61 (((nwd Q d : Nat) : Int) - 1) rfl 62 rfl ?_
        refine go_istore O dX4_putNumber_62 (by decide) [(6, .int (iI (((nwd Q d : Nat) : Int) - 1))), (5, .int (iI ((nwd Q d : Nat) : Int))), (4, .int (iI (bz (decide (4 ≤ st))))), (0, .ref h), (1, .int (iI ((d : Nat) : Int))), (2, .int (iI st)), (3, .int (iI (bz mi)))] rfl 64 rfl ?_
        rw [numL_0 (fun e => by rw [e] at h13; cases h13)] at hb hF0
        refine TGo.lsub (lv' := [(6, .int (iI (((nwd Q d : Nat) : Int) - 1))), (0, .ref h), (1, .int (iI ((d : Nat) : Int))), (2, .int (iI st)), (3, .int (iI (bz mi))), (4, .int (iI (bz (decide (4 ≤ st)))))]) [0, 3, 4, 5, 6, 2] rfl ?_
        exact lp (nwd Q d + 1) (nwd Q d) _ tx sz rfl (by omega) rfl hF0.symm (by omega)
      · refine go_aload_n O dX4_putNumber_43 rfl 1 rfl 44 rfl ?_
        refine go_get O hK dX4_putNumber_44 hinX4 0 rfl rfl 13 (by decide) flX4_38 rfl 47 rfl ?_
        refine go_calliS (rest := []) (wr := [(h, .inr (4, MF p s m qcurrency qisWide qnegative qkept qratios qtext qnum qbase qden qquo qrem qother qunits qparts qover qgiven qread ((sz : Nat) : Int) at0 wr dc be rc rn)), (qtext, .inl (cI, 48, .inl (fun j => iI (tx j))))]) O hK hE (c_X4_size E hE qquo cI Q (Nat.lt_of_lt_of_le hQ (p10le (by omega)))) mlX4_78 smX4_size inX4 cdX4_size 1 (by decide +kernel) ⟨Nat.le_of_ble_eq_true rfl, Nat.le_of_ble_eq_true rfl⟩ [0] rfl [2] rfl (by decide) [0, 1] rfl (by decide) (by decide) rfl rfl (Nat.le_of_ble_eq_true rfl) ⟨Nat.zero_le _, Nat.zero_le _⟩ dX4_putNumber_47 50 rfl (fun z u hu => ?_)
        subst hu
        show TGo X [(h, .inr (4, MF p s m qcurrency qisWide qnegative qkept qratios qtext qnum qbase qden qquo qrem qother qunits qparts qover qgiven qread ((sz : Nat) : Int) at0 wr dc be rc rn)), (qtext, .inl (cI, 48, .inl (fun j => iI (tx j)))), (qquo, .inl (cI, 80, .inl (dg Q)))] 0 0 50 [(4, .int (iI (bz (decide (4 ≤ st))))), (0, .ref h), (1, .int (iI ((d : Nat) : Int))), (2, .int (iI st)), (3, .int (iI (bz mi)))] [.int (iI ((tnds Q : Nat) : Int))]
        refine go_goto O dX4_putNumber_50 56 (by decide) ?_
        refine TGo.topi (y := ((nwd Q d : Nat) : Int)) (by rw [nwd_1 (Q := Q) (d := d) (by omega)]) ?_
        refine go_istore O dX4_putNumber_56 (by decide) [(5, .int (iI ((nwd Q d : Nat) : Int))), (4, .int (iI (bz (decide (4 ≤ st))))), (0, .ref h), (1, .int (iI ((d : Nat) : Int))), (2, .int (iI st)), (3, .int (iI (bz mi)))] rfl 58 rfl ?_
        refine go_iload O dX4_putNumber_58 0 rfl 60 rfl ?_
        refine go_iconst O dX4_putNumber_60 61 rfl ?_
        refine go_isub O dX4_putNumber_61 (((nwd Q d : Nat) : Int) - 1) rfl 62 rfl ?_
        refine go_istore O dX4_putNumber_62 (by decide) [(6, .int (iI (((nwd Q d : Nat) : Int) - 1))), (5, .int (iI ((nwd Q d : Nat) : Int))), (4, .int (iI (bz (decide (4 ≤ st))))), (0, .ref h), (1, .int (iI ((d : Nat) : Int))), (2, .int (iI st)), (3, .int (iI (bz mi)))] rfl 64 rfl ?_
        rw [numL_0 (fun e => by rw [e] at h13; cases h13)] at hb hF0
        refine TGo.lsub (lv' := [(6, .int (iI (((nwd Q d : Nat) : Int) - 1))), (0, .ref h), (1, .int (iI ((d : Nat) : Int))), (2, .int (iI st)), (3, .int (iI (bz mi))), (4, .int (iI (bz (decide (4 ≤ st)))))]) [0, 3, 4, 5, 6, 2] rfl ?_
        exact lp (nwd Q d + 1) (nwd Q d) _ tx sz rfl (by omega) rfl hF0.symm (by omega)
    · refine go_aload_n O dX4_putNumber_16 rfl 1 rfl 17 rfl ?_
      refine go_iload O dX4_putNumber_17 0 rfl 19 rfl ?_
      refine go_if_eq O dX4_putNumber_19 27 (by decide) 22 rfl (by omega) (fun h19 => ?_) (fun h19 => ?_)
      · refine go_bipush O dX4_putNumber_27 (by decide) 29 rfl ?_
        refine go_callvV (As := [.int (iI 45)]) (rest := []) (wr := [(qquo, .inl (cI, 80, .inl (dg Q)))]) O hK hE (c_X4_put E hE h p s m qcurrency qisWide qnegative qkept qratios qtext qnum qbase qden qquo qrem qother qunits qparts qover qgiven qread cI sz at0 wr dc be rc rn tx 45 (by rw [numL_5 (bz_ne h13) (by omega)] at hb; simp only [List.length_cons] at hb; omega)) mlX4_169 imX4_put seX4_put inX4 cdX4_put 1 (by decide +kernel) ⟨Nat.le_of_ble_eq_true rfl, Nat.le_of_ble_eq_true rfl⟩ 0 rfl rfl [0] rfl [0, 1] rfl (by decide) [2] rfl (by decide) (by decide) rfl rfl (Nat.le_of_ble_eq_true rfl) ⟨Nat.zero_le _, Nat.zero_le _⟩ dX4_putNumber_29 32 rfl (fun u hu => ?_)
        show TGo X [(qquo, .inl (cI, 80, .inl (dg Q))), (h, .inr (4, MF p s m qcurrency qisWide qnegative qkept qratios qtext qnum qbase qden qquo qrem qother qunits qparts qover qgiven qread ((sz + 1 : Nat) : Int) at0 wr dc be rc rn)), (qtext, .inl (cI, 48, .inl (fun j => iI ((txs tx sz 45) j))))] 0 0 32 [(4, .int (iI (bz (decide (4 ≤ st))))), (0, .ref h), (1, .int (iI ((d : Nat) : Int))), (2, .int (iI st)), (3, .int (iI (bz mi)))] []
        refine TGo.sub (ws' := [(h, .inr (4, MF p s m qcurrency qisWide qnegative qkept qratios qtext qnum qbase qden qquo qrem qother qunits qparts qover qgiven qread ((sz + 1 : Nat) : Int) at0 wr dc be rc rn)), (qtext, .inl (cI, 48, .inl (fun j => iI ((txs tx sz 45) j)))), (qquo, .inl (cI, 80, .inl (dg Q)))]) [1, 2, 0] (by decide) rfl ?_
        refine go_aload_n O dX4_putNumber_32 rfl 1 rfl 33 rfl ?_
        refine go_get O hK dX4_putNumber_33 hinX4 0 rfl rfl 13 (by decide) flX4_38 rfl 36 rfl ?_
        refine go_calliS (rest := []) (wr := [(h, .inr (4, MF p s m qcurrency qisWide qnegative qkept qratios qtext qnum qbase qden qquo qrem qother qunits qparts qover qgiven qread ((sz + 1 : Nat) : Int) at0 wr dc be rc rn)), (qtext, .inl (cI, 48, .inl (fun j => iI ((txs tx sz 45) j))))]) O hK hE (c_X4_size E hE qquo cI Q (Nat.lt_of_lt_of_le hQ (p10le (by omega)))) mlX4_78 smX4_size inX4 cdX4_size 1 (by decide +kernel) ⟨Nat.le_of_ble_eq_true rfl, Nat.le_of_ble_eq_true rfl⟩ [0] rfl [2] rfl (by decide) [0, 1] rfl (by decide) (by decide) rfl rfl (Nat.le_of_ble_eq_true rfl) ⟨Nat.zero_le _, Nat.zero_le _⟩ dX4_putNumber_36 39 rfl (fun z u hu => ?_)
        subst hu
        show TGo X [(h, .inr (4, MF p s m qcurrency qisWide qnegative qkept qratios qtext qnum qbase qden qquo qrem qother qunits qparts qover qgiven qread ((sz + 1 : Nat) : Int) at0 wr dc be rc rn)), (qtext, .inl (cI, 48, .inl (fun j => iI ((txs tx sz 45) j)))), (qquo, .inl (cI, 80, .inl (dg Q)))] 0 0 39 [(4, .int (iI (bz (decide (4 ≤ st))))), (0, .ref h), (1, .int (iI ((d : Nat) : Int))), (2, .int (iI st)), (3, .int (iI (bz mi)))] [.int (iI ((tnds Q : Nat) : Int))]
        refine go_iload_n O dX4_putNumber_39 rfl 2 rfl 40 rfl ?_
        refine go_icmp_le O dX4_putNumber_40 53 (by decide) 43 rfl (by omega) (by omega) (fun h40 => ?_) (fun h40 => ?_)
        · refine go_iload_n O dX4_putNumber_53 rfl 2 rfl 54 rfl ?_
          refine go_iconst O dX4_putNumber_54 55 rfl ?_
          refine go_iadd O dX4_putNumber_55 ((d + 1 : Nat) : Int) (by omega) 56 rfl ?_
          refine TGo.topi (y := ((nwd Q d : Nat) : Int)) (by rw [nwd_2 (Q := Q) (d := d) (by omega)]) ?_
          refine go_istore O dX4_putNumber_56 (by decide) [(5, .int (iI ((nwd Q d : Nat) : Int))), (4, .int (iI (bz (decide (4 ≤ st))))), (0, .ref h), (1, .int (iI ((d : Nat) : Int))), (2, .int (iI st)), (3, .int (iI (bz mi)))] rfl 58 rfl ?_
          refine go_iload O dX4_putNumber_58 0 rfl 60 rfl ?_
          refine go_iconst O dX4_putNumber_60 61 rfl ?_
          refine go_isub O dX4_putNumber_61 (((nwd Q d : Nat) : Int) - 1) rfl 62 rfl ?_
          refine go_istore O dX4_putNumber_62 (by decide) [(6, .int (iI (((nwd Q d : Nat) : Int) - 1))), (5, .int (iI ((nwd Q d : Nat) : Int))), (4, .int (iI (bz (decide (4 ≤ st))))), (0, .ref h), (1, .int (iI ((d : Nat) : Int))), (2, .int (iI st)), (3, .int (iI (bz mi)))] rfl 64 rfl ?_
          rw [numL_5 (bz_ne h13) (by omega)] at hb hF0
          refine TGo.lsub (lv' := [(6, .int (iI (((nwd Q d : Nat) : Int) - 1))), (0, .ref h), (1, .int (iI ((d : Nat) : Int))), (2, .int (iI st)), (3, .int (iI (bz mi))), (4, .int (iI (bz (decide (4 ≤ st)))))]) [0, 3, 4, 5, 6, 2] rfl ?_
          exact lp (nwd Q d + 1) (nwd Q d) _ (txs tx sz 45) (sz + 1) rfl (by omega) rfl hF0.symm (by simp only [List.length_cons] at hb; omega)
        · refine go_aload_n O dX4_putNumber_43 rfl 1 rfl 44 rfl ?_
          refine go_get O hK dX4_putNumber_44 hinX4 0 rfl rfl 13 (by decide) flX4_38 rfl 47 rfl ?_
          refine go_calliS (rest := []) (wr := [(h, .inr (4, MF p s m qcurrency qisWide qnegative qkept qratios qtext qnum qbase qden qquo qrem qother qunits qparts qover qgiven qread ((sz + 1 : Nat) : Int) at0 wr dc be rc rn)), (qtext, .inl (cI, 48, .inl (fun j => iI ((txs tx sz 45) j))))]) O hK hE (c_X4_size E hE qquo cI Q (Nat.lt_of_lt_of_le hQ (p10le (by omega)))) mlX4_78 smX4_size inX4 cdX4_size 1 (by decide +kernel) ⟨Nat.le_of_ble_eq_true rfl, Nat.le_of_ble_eq_true rfl⟩ [0] rfl [2] rfl (by decide) [0, 1] rfl (by decide) (by decide) rfl rfl (Nat.le_of_ble_eq_true rfl) ⟨Nat.zero_le _, Nat.zero_le _⟩ dX4_putNumber_47 50 rfl (fun z u hu => ?_)
          subst hu
          show TGo X [(h, .inr (4, MF p s m qcurrency qisWide qnegative qkept qratios qtext qnum qbase qden qquo qrem qother qunits qparts qover qgiven qread ((sz + 1 : Nat) : Int) at0 wr dc be rc rn)), (qtext, .inl (cI, 48, .inl (fun j => iI ((txs tx sz 45) j)))), (qquo, .inl (cI, 80, .inl (dg Q)))] 0 0 50 [(4, .int (iI (bz (decide (4 ≤ st))))), (0, .ref h), (1, .int (iI ((d : Nat) : Int))), (2, .int (iI st)), (3, .int (iI (bz mi)))] [.int (iI ((tnds Q : Nat) : Int))]
          refine go_goto O dX4_putNumber_50 56 (by decide) ?_
          refine TGo.topi (y := ((nwd Q d : Nat) : Int)) (by rw [nwd_1 (Q := Q) (d := d) (by omega)]) ?_
          refine go_istore O dX4_putNumber_56 (by decide) [(5, .int (iI ((nwd Q d : Nat) : Int))), (4, .int (iI (bz (decide (4 ≤ st))))), (0, .ref h), (1, .int (iI ((d : Nat) : Int))), (2, .int (iI st)), (3, .int (iI (bz mi)))] rfl 58 rfl ?_
          refine go_iload O dX4_putNumber_58 0 rfl 60 rfl ?_
          refine go_iconst O dX4_putNumber_60 61 rfl ?_
          refine go_isub O dX4_putNumber_61 (((nwd Q d : Nat) : Int) - 1) rfl 62 rfl ?_
          refine go_istore O dX4_putNumber_62 (by decide) [(6, .int (iI (((nwd Q d : Nat) : Int) - 1))), (5, .int (iI ((nwd Q d : Nat) : Int))), (4, .int (iI (bz (decide (4 ≤ st))))), (0, .ref h), (1, .int (iI ((d : Nat) : Int))), (2, .int (iI st)), (3, .int (iI (bz mi)))] rfl 64 rfl ?_
          rw [numL_5 (bz_ne h13) (by omega)] at hb hF0
          refine TGo.lsub (lv' := [(6, .int (iI (((nwd Q d : Nat) : Int) - 1))), (0, .ref h), (1, .int (iI ((d : Nat) : Int))), (2, .int (iI st)), (3, .int (iI (bz mi))), (4, .int (iI (bz (decide (4 ≤ st)))))]) [0, 3, 4, 5, 6, 2] rfl ?_
          exact lp (nwd Q d + 1) (nwd Q d) _ (txs tx sz 45) (sz + 1) rfl (by omega) rfl hF0.symm (by simp only [List.length_cons] at hb; omega)
      · refine go_bipush O dX4_putNumber_22 (by decide) 24 rfl ?_
        refine go_goto O dX4_putNumber_24 29 (by decide) ?_
        refine go_callvV (As := [.int (iI 40)]) (rest := []) (wr := [(qquo, .inl (cI, 80, .inl (dg Q)))]) O hK hE (c_X4_put E hE h p s m qcurrency qisWide qnegative qkept qratios qtext qnum qbase qden qquo qrem qother qunits qparts qover qgiven qread cI sz at0 wr dc be rc rn tx 40 (by rw [numL_4 (bz_ne h13) (by omega)] at hb; simp only [List.length_cons] at hb; omega)) mlX4_169 imX4_put seX4_put inX4 cdX4_put 1 (by decide +kernel) ⟨Nat.le_of_ble_eq_true rfl, Nat.le_of_ble_eq_true rfl⟩ 0 rfl rfl [0] rfl [0, 1] rfl (by decide) [2] rfl (by decide) (by decide) rfl rfl (Nat.le_of_ble_eq_true rfl) ⟨Nat.zero_le _, Nat.zero_le _⟩ dX4_putNumber_29 32 rfl (fun u hu => ?_)
        show TGo X [(qquo, .inl (cI, 80, .inl (dg Q))), (h, .inr (4, MF p s m qcurrency qisWide qnegative qkept qratios qtext qnum qbase qden qquo qrem qother qunits qparts qover qgiven qread ((sz + 1 : Nat) : Int) at0 wr dc be rc rn)), (qtext, .inl (cI, 48, .inl (fun j => iI ((txs tx sz 40) j))))] 0 0 32 [(4, .int (iI (bz (decide (4 ≤ st))))), (0, .ref h), (1, .int (iI ((d : Nat) : Int))), (2, .int (iI st)), (3, .int (iI (bz mi)))] []
        refine TGo.sub (ws' := [(h, .inr (4, MF p s m qcurrency qisWide qnegative qkept qratios qtext qnum qbase qden qquo qrem qother qunits qparts qover qgiven qread ((sz + 1 : Nat) : Int) at0 wr dc be rc rn)), (qtext, .inl (cI, 48, .inl (fun j => iI ((txs tx sz 40) j)))), (qquo, .inl (cI, 80, .inl (dg Q)))]) [1, 2, 0] (by decide) rfl ?_
        refine go_aload_n O dX4_putNumber_32 rfl 1 rfl 33 rfl ?_
        refine go_get O hK dX4_putNumber_33 hinX4 0 rfl rfl 13 (by decide) flX4_38 rfl 36 rfl ?_
        refine go_calliS (rest := []) (wr := [(h, .inr (4, MF p s m qcurrency qisWide qnegative qkept qratios qtext qnum qbase qden qquo qrem qother qunits qparts qover qgiven qread ((sz + 1 : Nat) : Int) at0 wr dc be rc rn)), (qtext, .inl (cI, 48, .inl (fun j => iI ((txs tx sz 40) j))))]) O hK hE (c_X4_size E hE qquo cI Q (Nat.lt_of_lt_of_le hQ (p10le (by omega)))) mlX4_78 smX4_size inX4 cdX4_size 1 (by decide +kernel) ⟨Nat.le_of_ble_eq_true rfl, Nat.le_of_ble_eq_true rfl⟩ [0] rfl [2] rfl (by decide) [0, 1] rfl (by decide) (by decide) rfl rfl (Nat.le_of_ble_eq_true rfl) ⟨Nat.zero_le _, Nat.zero_le _⟩ dX4_putNumber_36 39 rfl (fun z u hu => ?_)
        subst hu
        show TGo X [(h, .inr (4, MF p s m qcurrency qisWide qnegative qkept qratios qtext qnum qbase qden qquo qrem qother qunits qparts qover qgiven qread ((sz + 1 : Nat) : Int) at0 wr dc be rc rn)), (qtext, .inl (cI, 48, .inl (fun j => iI ((txs tx sz 40) j)))), (qquo, .inl (cI, 80, .inl (dg Q)))] 0 0 39 [(4, .int (iI (bz (decide (4 ≤ st))))), (0, .ref h), (1, .int (iI ((d : Nat) : Int))), (2, .int (iI st)), (3, .int (iI (bz mi)))] [.int (iI ((tnds Q : Nat) : Int))]
        refine go_iload_n O dX4_putNumber_39 rfl 2 rfl 40 rfl ?_
        refine go_icmp_le O dX4_putNumber_40 53 (by decide) 43 rfl (by omega) (by omega) (fun h40 => ?_) (fun h40 => ?_)
        · refine go_iload_n O dX4_putNumber_53 rfl 2 rfl 54 rfl ?_
          refine go_iconst O dX4_putNumber_54 55 rfl ?_
          refine go_iadd O dX4_putNumber_55 ((d + 1 : Nat) : Int) (by omega) 56 rfl ?_
          refine TGo.topi (y := ((nwd Q d : Nat) : Int)) (by rw [nwd_2 (Q := Q) (d := d) (by omega)]) ?_
          refine go_istore O dX4_putNumber_56 (by decide) [(5, .int (iI ((nwd Q d : Nat) : Int))), (4, .int (iI (bz (decide (4 ≤ st))))), (0, .ref h), (1, .int (iI ((d : Nat) : Int))), (2, .int (iI st)), (3, .int (iI (bz mi)))] rfl 58 rfl ?_
          refine go_iload O dX4_putNumber_58 0 rfl 60 rfl ?_
          refine go_iconst O dX4_putNumber_60 61 rfl ?_
          refine go_isub O dX4_putNumber_61 (((nwd Q d : Nat) : Int) - 1) rfl 62 rfl ?_
          refine go_istore O dX4_putNumber_62 (by decide) [(6, .int (iI (((nwd Q d : Nat) : Int) - 1))), (5, .int (iI ((nwd Q d : Nat) : Int))), (4, .int (iI (bz (decide (4 ≤ st))))), (0, .ref h), (1, .int (iI ((d : Nat) : Int))), (2, .int (iI st)), (3, .int (iI (bz mi)))] rfl 64 rfl ?_
          rw [numL_4 (bz_ne h13) (by omega)] at hb hF0
          refine TGo.lsub (lv' := [(6, .int (iI (((nwd Q d : Nat) : Int) - 1))), (0, .ref h), (1, .int (iI ((d : Nat) : Int))), (2, .int (iI st)), (3, .int (iI (bz mi))), (4, .int (iI (bz (decide (4 ≤ st)))))]) [0, 3, 4, 5, 6, 2] rfl ?_
          exact lp (nwd Q d + 1) (nwd Q d) _ (txs tx sz 40) (sz + 1) rfl (by omega) rfl hF0.symm (by simp only [List.length_cons] at hb; omega)
        · refine go_aload_n O dX4_putNumber_43 rfl 1 rfl 44 rfl ?_
          refine go_get O hK dX4_putNumber_44 hinX4 0 rfl rfl 13 (by decide) flX4_38 rfl 47 rfl ?_
          refine go_calliS (rest := []) (wr := [(h, .inr (4, MF p s m qcurrency qisWide qnegative qkept qratios qtext qnum qbase qden qquo qrem qother qunits qparts qover qgiven qread ((sz + 1 : Nat) : Int) at0 wr dc be rc rn)), (qtext, .inl (cI, 48, .inl (fun j => iI ((txs tx sz 40) j))))]) O hK hE (c_X4_size E hE qquo cI Q (Nat.lt_of_lt_of_le hQ (p10le (by omega)))) mlX4_78 smX4_size inX4 cdX4_size 1 (by decide +kernel) ⟨Nat.le_of_ble_eq_true rfl, Nat.le_of_ble_eq_true rfl⟩ [0] rfl [2] rfl (by decide) [0, 1] rfl (by decide) (by decide) rfl rfl (Nat.le_of_ble_eq_true rfl) ⟨Nat.zero_le _, Nat.zero_le _⟩ dX4_putNumber_47 50 rfl (fun z u hu => ?_)
          subst hu
          show TGo X [(h, .inr (4, MF p s m qcurrency qisWide qnegative qkept qratios qtext qnum qbase qden qquo qrem qother qunits qparts qover qgiven qread ((sz + 1 : Nat) : Int) at0 wr dc be rc rn)), (qtext, .inl (cI, 48, .inl (fun j => iI ((txs tx sz 40) j)))), (qquo, .inl (cI, 80, .inl (dg Q)))] 0 0 50 [(4, .int (iI (bz (decide (4 ≤ st))))), (0, .ref h), (1, .int (iI ((d : Nat) : Int))), (2, .int (iI st)), (3, .int (iI (bz mi)))] [.int (iI ((tnds Q : Nat) : Int))]
          refine go_goto O dX4_putNumber_50 56 (by decide) ?_
          refine TGo.topi (y := ((nwd Q d : Nat) : Int)) (by rw [nwd_1 (Q := Q) (d := d) (by omega)]) ?_
          refine go_istore O dX4_putNumber_56 (by decide) [(5, .int (iI ((nwd Q d : Nat) : Int))), (4, .int (iI (bz (decide (4 ≤ st))))), (0, .ref h), (1, .int (iI ((d : Nat) : Int))), (2, .int (iI st)), (3, .int (iI (bz mi)))] rfl 58 rfl ?_
          refine go_iload O dX4_putNumber_58 0 rfl 60 rfl ?_
          refine go_iconst O dX4_putNumber_60 61 rfl ?_
          refine go_isub O dX4_putNumber_61 (((nwd Q d : Nat) : Int) - 1) rfl 62 rfl ?_
          refine go_istore O dX4_putNumber_62 (by decide) [(6, .int (iI (((nwd Q d : Nat) : Int) - 1))), (5, .int (iI ((nwd Q d : Nat) : Int))), (4, .int (iI (bz (decide (4 ≤ st))))), (0, .ref h), (1, .int (iI ((d : Nat) : Int))), (2, .int (iI st)), (3, .int (iI (bz mi)))] rfl 64 rfl ?_
          rw [numL_4 (bz_ne h13) (by omega)] at hb hF0
          refine TGo.lsub (lv' := [(6, .int (iI (((nwd Q d : Nat) : Int) - 1))), (0, .ref h), (1, .int (iI ((d : Nat) : Int))), (2, .int (iI st)), (3, .int (iI (bz mi))), (4, .int (iI (bz (decide (4 ≤ st)))))]) [0, 3, 4, 5, 6, 2] rfl ?_
          exact lp (nwd Q d + 1) (nwd Q d) _ (txs tx sz 40) (sz + 1) rfl (by omega) rfl hF0.symm (by simp only [List.length_cons] at hb; omega)
  · refine go_iconst O dX4_putNumber_5 6 rfl ?_
    refine go_goto O dX4_putNumber_6 10 (by decide) ?_
    refine TGo.topi (y := bz (decide (4 ≤ st))) (by rw [decide_eq_true (by omega)]; rfl) ?_
    refine go_istore O dX4_putNumber_10 (by decide) [(4, .int (iI (bz (decide (4 ≤ st))))), (0, .ref h), (1, .int (iI ((d : Nat) : Int))), (2, .int (iI st)), (3, .int (iI (bz mi)))] rfl 12 rfl ?_
    refine go_iload_n O dX4_putNumber_12 rfl 4 rfl 13 rfl ?_
    refine go_if_eq O dX4_putNumber_13 32 (by decide) 16 rfl (by omega) (fun h13 => ?_) (fun h13 => ?_)
    · refine go_aload_n O dX4_putNumber_32 rfl 1 rfl 33 rfl ?_
      refine go_get O hK dX4_putNumber_33 hinX4 0 rfl rfl 13 (by decide) flX4_38 rfl 36 rfl ?_
      refine go_calliS (rest := []) (wr := [(h, .inr (4, MF p s m qcurrency qisWide qnegative qkept qratios qtext qnum qbase qden qquo qrem qother qunits qparts qover qgiven qread ((sz : Nat) : Int) at0 wr dc be rc rn)), (qtext, .inl (cI, 48, .inl (fun j => iI (tx j))))]) O hK hE (c_X4_size E hE qquo cI Q (Nat.lt_of_lt_of_le hQ (p10le (by omega)))) mlX4_78 smX4_size inX4 cdX4_size 1 (by decide +kernel) ⟨Nat.le_of_ble_eq_true rfl, Nat.le_of_ble_eq_true rfl⟩ [0] rfl [2] rfl (by decide) [0, 1] rfl (by decide) (by decide) rfl rfl (Nat.le_of_ble_eq_true rfl) ⟨Nat.zero_le _, Nat.zero_le _⟩ dX4_putNumber_36 39 rfl (fun z u hu => ?_)
      subst hu
      show TGo X [(h, .inr (4, MF p s m qcurrency qisWide qnegative qkept qratios qtext qnum qbase qden qquo qrem qother qunits qparts qover qgiven qread ((sz : Nat) : Int) at0 wr dc be rc rn)), (qtext, .inl (cI, 48, .inl (fun j => iI (tx j)))), (qquo, .inl (cI, 80, .inl (dg Q)))] 0 0 39 [(4, .int (iI (bz (decide (4 ≤ st))))), (0, .ref h), (1, .int (iI ((d : Nat) : Int))), (2, .int (iI st)), (3, .int (iI (bz mi)))] [.int (iI ((tnds Q : Nat) : Int))]
      refine go_iload_n O dX4_putNumber_39 rfl 2 rfl 40 rfl ?_
      refine go_icmp_le O dX4_putNumber_40 53 (by decide) 43 rfl (by omega) (by omega) (fun h40 => ?_) (fun h40 => ?_)
      · refine go_iload_n O dX4_putNumber_53 rfl 2 rfl 54 rfl ?_
        refine go_iconst O dX4_putNumber_54 55 rfl ?_
        refine go_iadd O dX4_putNumber_55 ((d + 1 : Nat) : Int) (by omega) 56 rfl ?_
        refine TGo.topi (y := ((nwd Q d : Nat) : Int)) (by rw [nwd_2 (Q := Q) (d := d) (by omega)]) ?_
        refine go_istore O dX4_putNumber_56 (by decide) [(5, .int (iI ((nwd Q d : Nat) : Int))), (4, .int (iI (bz (decide (4 ≤ st))))), (0, .ref h), (1, .int (iI ((d : Nat) : Int))), (2, .int (iI st)), (3, .int (iI (bz mi)))] rfl 58 rfl ?_
        refine go_iload O dX4_putNumber_58 0 rfl 60 rfl ?_
        refine go_iconst O dX4_putNumber_60 61 rfl ?_
        refine go_isub O dX4_putNumber_61 (((nwd Q d : Nat) : Int) - 1) rfl 62 rfl ?_
        refine go_istore O dX4_putNumber_62 (by decide) [(6, .int (iI (((nwd Q d : Nat) : Int) - 1))), (5, .int (iI ((nwd Q d : Nat) : Int))), (4, .int (iI (bz (decide (4 ≤ st))))), (0, .ref h), (1, .int (iI ((d : Nat) : Int))), (2, .int (iI st)), (3, .int (iI (bz mi)))] rfl 64 rfl ?_
        rw [numL_0 (fun e => by rw [e] at h13; cases h13)] at hb hF0
        refine TGo.lsub (lv' := [(6, .int (iI (((nwd Q d : Nat) : Int) - 1))), (0, .ref h), (1, .int (iI ((d : Nat) : Int))), (2, .int (iI st)), (3, .int (iI (bz mi))), (4, .int (iI (bz (decide (4 ≤ st)))))]) [0, 3, 4, 5, 6, 2] rfl ?_
        exact lp (nwd Q d + 1) (nwd Q d) _ tx sz rfl (by omega) rfl hF0.symm (by omega)
      · refine go_aload_n O dX4_putNumber_43 rfl 1 rfl 44 rfl ?_
        refine go_get O hK dX4_putNumber_44 hinX4 0 rfl rfl 13 (by decide) flX4_38 rfl 47 rfl ?_
        refine go_calliS (rest := []) (wr := [(h, .inr (4, MF p s m qcurrency qisWide qnegative qkept qratios qtext qnum qbase qden qquo qrem qother qunits qparts qover qgiven qread ((sz : Nat) : Int) at0 wr dc be rc rn)), (qtext, .inl (cI, 48, .inl (fun j => iI (tx j))))]) O hK hE (c_X4_size E hE qquo cI Q (Nat.lt_of_lt_of_le hQ (p10le (by omega)))) mlX4_78 smX4_size inX4 cdX4_size 1 (by decide +kernel) ⟨Nat.le_of_ble_eq_true rfl, Nat.le_of_ble_eq_true rfl⟩ [0] rfl [2] rfl (by decide) [0, 1] rfl (by decide) (by decide) rfl rfl (Nat.le_of_ble_eq_true rfl) ⟨Nat.zero_le _, Nat.zero_le _⟩ dX4_putNumber_47 50 rfl (fun z u hu => ?_)
        subst hu
        show TGo X [(h, .inr (4, MF p s m qcurrency qisWide qnegative qkept qratios qtext qnum qbase qden qquo qrem qother qunits qparts qover qgiven qread ((sz : Nat) : Int) at0 wr dc be rc rn)), (qtext, .inl (cI, 48, .inl (fun j => iI (tx j)))), (qquo, .inl (cI, 80, .inl (dg Q)))] 0 0 50 [(4, .int (iI (bz (decide (4 ≤ st))))), (0, .ref h), (1, .int (iI ((d : Nat) : Int))), (2, .int (iI st)), (3, .int (iI (bz mi)))] [.int (iI ((tnds Q : Nat) : Int))]
        refine go_goto O dX4_putNumber_50 56 (by decide) ?_
        refine TGo.topi (y := ((nwd Q d : Nat) : Int)) (by rw [nwd_1 (Q := Q) (d := d) (by omega)]) ?_
        refine go_istore O dX4_putNumber_56 (by decide) [(5, .int (iI ((nwd Q d : Nat) : Int))), (4, .int (iI (bz (decide (4 ≤ st))))), (0, .ref h), (1, .int (iI ((d : Nat) : Int))), (2, .int (iI st)), (3, .int (iI (bz mi)))] rfl 58 rfl ?_
        refine go_iload O dX4_putNumber_58 0 rfl 60 rfl ?_
        refine go_iconst O dX4_putNumber_60 61 rfl ?_
        refine go_isub O dX4_putNumber_61 (((nwd Q d : Nat) : Int) - 1) rfl 62 rfl ?_
        refine go_istore O dX4_putNumber_62 (by decide) [(6, .int (iI (((nwd Q d : Nat) : Int) - 1))), (5, .int (iI ((nwd Q d : Nat) : Int))), (4, .int (iI (bz (decide (4 ≤ st))))), (0, .ref h), (1, .int (iI ((d : Nat) : Int))), (2, .int (iI st)), (3, .int (iI (bz mi)))] rfl 64 rfl ?_
        rw [numL_0 (fun e => by rw [e] at h13; cases h13)] at hb hF0
        refine TGo.lsub (lv' := [(6, .int (iI (((nwd Q d : Nat) : Int) - 1))), (0, .ref h), (1, .int (iI ((d : Nat) : Int))), (2, .int (iI st)), (3, .int (iI (bz mi))), (4, .int (iI (bz (decide (4 ≤ st)))))]) [0, 3, 4, 5, 6, 2] rfl ?_
        exact lp (nwd Q d + 1) (nwd Q d) _ tx sz rfl (by omega) rfl hF0.symm (by omega)
    · refine go_aload_n O dX4_putNumber_16 rfl 1 rfl 17 rfl ?_
      refine go_iload O dX4_putNumber_17 0 rfl 19 rfl ?_
      refine go_if_eq O dX4_putNumber_19 27 (by decide) 22 rfl (by omega) (fun h19 => ?_) (fun h19 => ?_)
      · refine go_bipush O dX4_putNumber_27 (by decide) 29 rfl ?_
        refine go_callvV (As := [.int (iI 45)]) (rest := []) (wr := [(qquo, .inl (cI, 80, .inl (dg Q)))]) O hK hE (c_X4_put E hE h p s m qcurrency qisWide qnegative qkept qratios qtext qnum qbase qden qquo qrem qother qunits qparts qover qgiven qread cI sz at0 wr dc be rc rn tx 45 (by rw [numL_5 (bz_ne h13) (by omega)] at hb; simp only [List.length_cons] at hb; omega)) mlX4_169 imX4_put seX4_put inX4 cdX4_put 1 (by decide +kernel) ⟨Nat.le_of_ble_eq_true rfl, Nat.le_of_ble_eq_true rfl⟩ 0 rfl rfl [0] rfl [0, 1] rfl (by decide) [2] rfl (by decide) (by decide) rfl rfl (Nat.le_of_ble_eq_true rfl) ⟨Nat.zero_le _, Nat.zero_le _⟩ dX4_putNumber_29 32 rfl (fun u hu => ?_)
        show TGo X [(qquo, .inl (cI, 80, .inl (dg Q))), (h, .inr (4, MF p s m qcurrency qisWide qnegative qkept qratios qtext qnum qbase qden qquo qrem qother qunits qparts qover qgiven qread ((sz + 1 : Nat) : Int) at0 wr dc be rc rn)), (qtext, .inl (cI, 48, .inl (fun j => iI ((txs tx sz 45) j))))] 0 0 32 [(4, .int (iI (bz (decide (4 ≤ st))))), (0, .ref h), (1, .int (iI ((d : Nat) : Int))), (2, .int (iI st)), (3, .int (iI (bz mi)))] []
        refine TGo.sub (ws' := [(h, .inr (4, MF p s m qcurrency qisWide qnegative qkept qratios qtext qnum qbase qden qquo qrem qother qunits qparts qover qgiven qread ((sz + 1 : Nat) : Int) at0 wr dc be rc rn)), (qtext, .inl (cI, 48, .inl (fun j => iI ((txs tx sz 45) j)))), (qquo, .inl (cI, 80, .inl (dg Q)))]) [1, 2, 0] (by decide) rfl ?_
        refine go_aload_n O dX4_putNumber_32 rfl 1 rfl 33 rfl ?_
        refine go_get O hK dX4_putNumber_33 hinX4 0 rfl rfl 13 (by decide) flX4_38 rfl 36 rfl ?_
        refine go_calliS (rest := []) (wr := [(h, .inr (4, MF p s m qcurrency qisWide qnegative qkept qratios qtext qnum qbase qden qquo qrem qother qunits qparts qover qgiven qread ((sz + 1 : Nat) : Int) at0 wr dc be rc rn)), (qtext, .inl (cI, 48, .inl (fun j => iI ((txs tx sz 45) j))))]) O hK hE (c_X4_size E hE qquo cI Q (Nat.lt_of_lt_of_le hQ (p10le (by omega)))) mlX4_78 smX4_size inX4 cdX4_size 1 (by decide +kernel) ⟨Nat.le_of_ble_eq_true rfl, Nat.le_of_ble_eq_true rfl⟩ [0] rfl [2] rfl (by decide) [0, 1] rfl (by decide) (by decide) rfl rfl (Nat.le_of_ble_eq_true rfl) ⟨Nat.zero_le _, Nat.zero_le _⟩ dX4_putNumber_36 39 rfl (fun z u hu => ?_)
        subst hu
        show TGo X [(h, .inr (4, MF p s m qcurrency qisWide qnegative qkept qratios qtext qnum qbase qden qquo qrem qother qunits qparts qover qgiven qread ((sz + 1 : Nat) : Int) at0 wr dc be rc rn)), (qtext, .inl (cI, 48, .inl (fun j => iI ((txs tx sz 45) j)))), (qquo, .inl (cI, 80, .inl (dg Q)))] 0 0 39 [(4, .int (iI (bz (decide (4 ≤ st))))), (0, .ref h), (1, .int (iI ((d : Nat) : Int))), (2, .int (iI st)), (3, .int (iI (bz mi)))] [.int (iI ((tnds Q : Nat) : Int))]
        refine go_iload_n O dX4_putNumber_39 rfl 2 rfl 40 rfl ?_
        refine go_icmp_le O dX4_putNumber_40 53 (by decide) 43 rfl (by omega) (by omega) (fun h40 => ?_) (fun h40 => ?_)
        · refine go_iload_n O dX4_putNumber_53 rfl 2 rfl 54 rfl ?_
          refine go_iconst O dX4_putNumber_54 55 rfl ?_
          refine go_iadd O dX4_putNumber_55 ((d + 1 : Nat) : Int) (by omega) 56 rfl ?_
          refine TGo.topi (y := ((nwd Q d : Nat) : Int)) (by rw [nwd_2 (Q := Q) (d := d) (by omega)]) ?_
          refine go_istore O dX4_putNumber_56 (by decide) [(5, .int (iI ((nwd Q d : Nat) : Int))), (4, .int (iI (bz (decide (4 ≤ st))))), (0, .ref h), (1, .int (iI ((d : Nat) : Int))), (2, .int (iI st)), (3, .int (iI (bz mi)))] rfl 58 rfl ?_
          refine go_iload O dX4_putNumber_58 0 rfl 60 rfl ?_
          refine go_iconst O dX4_putNumber_60 61 rfl ?_
          refine go_isub O dX4_putNumber_61 (((nwd Q d : Nat) : Int) - 1) rfl 62 rfl ?_
          refine go_istore O dX4_putNumber_62 (by decide) [(6, .int (iI (((nwd Q d : Nat) : Int) - 1))), (5, .int (iI ((nwd Q d : Nat) : Int))), (4, .int (iI (bz (decide (4 ≤ st))))), (0, .ref h), (1, .int (iI ((d : Nat) : Int))), (2, .int (iI st)), (3, .int (iI (bz mi)))] rfl 64 rfl ?_
          rw [numL_5 (bz_ne h13) (by omega)] at hb hF0
          refine TGo.lsub (lv' := [(6, .int (iI (((nwd Q d : Nat) : Int) - 1))), (0, .ref h), (1, .int (iI ((d : Nat) : Int))), (2, .int (iI st)), (3, .int (iI (bz mi))), (4, .int (iI (bz (decide (4 ≤ st)))))]) [0, 3, 4, 5, 6, 2] rfl ?_
          exact lp (nwd Q d + 1) (nwd Q d) _ (txs tx sz 45) (sz + 1) rfl (by omega) rfl hF0.symm (by simp only [List.length_cons] at hb; omega)
        · refine go_aload_n O dX4_putNumber_43 rfl 1 rfl 44 rfl ?_
          refine go_get O hK dX4_putNumber_44 hinX4 0 rfl rfl 13 (by decide) flX4_38 rfl 47 rfl ?_
          refine go_calliS (rest := []) (wr := [(h, .inr (4, MF p s m qcurrency qisWide qnegative qkept qratios qtext qnum qbase qden qquo qrem qother qunits qparts qover qgiven qread ((sz + 1 : Nat) : Int) at0 wr dc be rc rn)), (qtext, .inl (cI, 48, .inl (fun j => iI ((txs tx sz 45) j))))]) O hK hE (c_X4_size E hE qquo cI Q (Nat.lt_of_lt_of_le hQ (p10le (by omega)))) mlX4_78 smX4_size inX4 cdX4_size 1 (by decide +kernel) ⟨Nat.le_of_ble_eq_true rfl, Nat.le_of_ble_eq_true rfl⟩ [0] rfl [2] rfl (by decide) [0, 1] rfl (by decide) (by decide) rfl rfl (Nat.le_of_ble_eq_true rfl) ⟨Nat.zero_le _, Nat.zero_le _⟩ dX4_putNumber_47 50 rfl (fun z u hu => ?_)
          subst hu
          show TGo X [(h, .inr (4, MF p s m qcurrency qisWide qnegative qkept qratios qtext qnum qbase qden qquo qrem qother qunits qparts qover qgiven qread ((sz + 1 : Nat) : Int) at0 wr dc be rc rn)), (qtext, .inl (cI, 48, .inl (fun j => iI ((txs tx sz 45) j)))), (qquo, .inl (cI, 80, .inl (dg Q)))] 0 0 50 [(4, .int (iI (bz (decide (4 ≤ st))))), (0, .ref h), (1, .int (iI ((d : Nat) : Int))), (2, .int (iI st)), (3, .int (iI (bz mi)))] [.int (iI ((tnds Q : Nat) : Int))]
          refine go_goto O dX4_putNumber_50 56 (by decide) ?_
          refine TGo.topi (y := ((nwd Q d : Nat) : Int)) (by rw [nwd_1 (Q := Q) (d := d) (by omega)]) ?_
          refine go_istore O dX4_putNumber_56 (by decide) [(5, .int (iI ((nwd Q d : Nat) : Int))), (4, .int (iI (bz (decide (4 ≤ st))))), (0, .ref h), (1, .int (iI ((d : Nat) : Int))), (2, .int (iI st)), (3, .int (iI (bz mi)))] rfl 58 rfl ?_
          refine go_iload O dX4_putNumber_58 0 rfl 60 rfl ?_
          refine go_iconst O dX4_putNumber_60 61 rfl ?_
          refine go_isub O dX4_putNumber_61 (((nwd Q d : Nat) : Int) - 1) rfl 62 rfl ?_
          refine go_istore O dX4_putNumber_62 (by decide) [(6, .int (iI (((nwd Q d : Nat) : Int) - 1))), (5, .int (iI ((nwd Q d : Nat) : Int))), (4, .int (iI (bz (decide (4 ≤ st))))), (0, .ref h), (1, .int (iI ((d : Nat) : Int))), (2, .int (iI st)), (3, .int (iI (bz mi)))] rfl 64 rfl ?_
          rw [numL_5 (bz_ne h13) (by omega)] at hb hF0
          refine TGo.lsub (lv' := [(6, .int (iI (((nwd Q d : Nat) : Int) - 1))), (0, .ref h), (1, .int (iI ((d : Nat) : Int))), (2, .int (iI st)), (3, .int (iI (bz mi))), (4, .int (iI (bz (decide (4 ≤ st)))))]) [0, 3, 4, 5, 6, 2] rfl ?_
          exact lp (nwd Q d + 1) (nwd Q d) _ (txs tx sz 45) (sz + 1) rfl (by omega) rfl hF0.symm (by simp only [List.length_cons] at hb; omega)
      · refine go_bipush O dX4_putNumber_22 (by decide) 24 rfl ?_
        refine go_goto O dX4_putNumber_24 29 (by decide) ?_
        refine go_callvV (As := [.int (iI 40)]) (rest := []) (wr := [(qquo, .inl (cI, 80, .inl (dg Q)))]) O hK hE (c_X4_put E hE h p s m qcurrency qisWide qnegative qkept qratios qtext qnum qbase qden qquo qrem qother qunits qparts qover qgiven qread cI sz at0 wr dc be rc rn tx 40 (by rw [numL_4 (bz_ne h13) (by omega)] at hb; simp only [List.length_cons] at hb; omega)) mlX4_169 imX4_put seX4_put inX4 cdX4_put 1 (by decide +kernel) ⟨Nat.le_of_ble_eq_true rfl, Nat.le_of_ble_eq_true rfl⟩ 0 rfl rfl [0] rfl [0, 1] rfl (by decide) [2] rfl (by decide) (by decide) rfl rfl (Nat.le_of_ble_eq_true rfl) ⟨Nat.zero_le _, Nat.zero_le _⟩ dX4_putNumber_29 32 rfl (fun u hu => ?_)
        show TGo X [(qquo, .inl (cI, 80, .inl (dg Q))), (h, .inr (4, MF p s m qcurrency qisWide qnegative qkept qratios qtext qnum qbase qden qquo qrem qother qunits qparts qover qgiven qread ((sz + 1 : Nat) : Int) at0 wr dc be rc rn)), (qtext, .inl (cI, 48, .inl (fun j => iI ((txs tx sz 40) j))))] 0 0 32 [(4, .int (iI (bz (decide (4 ≤ st))))), (0, .ref h), (1, .int (iI ((d : Nat) : Int))), (2, .int (iI st)), (3, .int (iI (bz mi)))] []
        refine TGo.sub (ws' := [(h, .inr (4, MF p s m qcurrency qisWide qnegative qkept qratios qtext qnum qbase qden qquo qrem qother qunits qparts qover qgiven qread ((sz + 1 : Nat) : Int) at0 wr dc be rc rn)), (qtext, .inl (cI, 48, .inl (fun j => iI ((txs tx sz 40) j)))), (qquo, .inl (cI, 80, .inl (dg Q)))]) [1, 2, 0] (by decide) rfl ?_
        refine go_aload_n O dX4_putNumber_32 rfl 1 rfl 33 rfl ?_
        refine go_get O hK dX4_putNumber_33 hinX4 0 rfl rfl 13 (by decide) flX4_38 rfl 36 rfl ?_
        refine go_calliS (rest := []) (wr := [(h, .inr (4, MF p s m qcurrency qisWide qnegative qkept qratios qtext qnum qbase qden qquo qrem qother qunits qparts qover qgiven qread ((sz + 1 : Nat) : Int) at0 wr dc be rc rn)), (qtext, .inl (cI, 48, .inl (fun j => iI ((txs tx sz 40) j))))]) O hK hE (c_X4_size E hE qquo cI Q (Nat.lt_of_lt_of_le hQ (p10le (by omega)))) mlX4_78 smX4_size inX4 cdX4_size 1 (by decide +kernel) ⟨Nat.le_of_ble_eq_true rfl, Nat.le_of_ble_eq_true rfl⟩ [0] rfl [2] rfl (by decide) [0, 1] rfl (by decide) (by decide) rfl rfl (Nat.le_of_ble_eq_true rfl) ⟨Nat.zero_le _, Nat.zero_le _⟩ dX4_putNumber_36 39 rfl (fun z u hu => ?_)
        subst hu
        show TGo X [(h, .inr (4, MF p s m qcurrency qisWide qnegative qkept qratios qtext qnum qbase qden qquo qrem qother qunits qparts qover qgiven qread ((sz + 1 : Nat) : Int) at0 wr dc be rc rn)), (qtext, .inl (cI, 48, .inl (fun j => iI ((txs tx sz 40) j)))), (qquo, .inl (cI, 80, .inl (dg Q)))] 0 0 39 [(4, .int (iI (bz (decide (4 ≤ st))))), (0, .ref h), (1, .int (iI ((d : Nat) : Int))), (2, .int (iI st)), (3, .int (iI (bz mi)))] [.int (iI ((tnds Q : Nat) : Int))]
        refine go_iload_n O dX4_putNumber_39 rfl 2 rfl 40 rfl ?_
        refine go_icmp_le O dX4_putNumber_40 53 (by decide) 43 rfl (by omega) (by omega) (fun h40 => ?_) (fun h40 => ?_)
        · refine go_iload_n O dX4_putNumber_53 rfl 2 rfl 54 rfl ?_
          refine go_iconst O dX4_putNumber_54 55 rfl ?_
          refine go_iadd O dX4_putNumber_55 ((d + 1 : Nat) : Int) (by omega) 56 rfl ?_
          refine TGo.topi (y := ((nwd Q d : Nat) : Int)) (by rw [nwd_2 (Q := Q) (d := d) (by omega)]) ?_
          refine go_istore O dX4_putNumber_56 (by decide) [(5, .int (iI ((nwd Q d : Nat) : Int))), (4, .int (iI (bz (decide (4 ≤ st))))), (0, .ref h), (1, .int (iI ((d : Nat) : Int))), (2, .int (iI st)), (3, .int (iI (bz mi)))] rfl 58 rfl ?_
          refine go_iload O dX4_putNumber_58 0 rfl 60 rfl ?_
          refine go_iconst O dX4_putNumber_60 61 rfl ?_
          refine go_isub O dX4_putNumber_61 (((nwd Q d : Nat) : Int) - 1) rfl 62 rfl ?_
          refine go_istore O dX4_putNumber_62 (by decide) [(6, .int (iI (((nwd Q d : Nat) : Int) - 1))), (5, .int (iI ((nwd Q d : Nat) : Int))), (4, .int (iI (bz (decide (4 ≤ st))))), (0, .ref h), (1, .int (iI ((d : Nat) : Int))), (2, .int (iI st)), (3, .int (iI (bz mi)))] rfl 64 rfl ?_
          rw [numL_4 (bz_ne h13) (by omega)] at hb hF0
          refine TGo.lsub (lv' := [(6, .int (iI (((nwd Q d : Nat) : Int) - 1))), (0, .ref h), (1, .int (iI ((d : Nat) : Int))), (2, .int (iI st)), (3, .int (iI (bz mi))), (4, .int (iI (bz (decide (4 ≤ st)))))]) [0, 3, 4, 5, 6, 2] rfl ?_
          exact lp (nwd Q d + 1) (nwd Q d) _ (txs tx sz 40) (sz + 1) rfl (by omega) rfl hF0.symm (by simp only [List.length_cons] at hb; omega)
        · refine go_aload_n O dX4_putNumber_43 rfl 1 rfl 44 rfl ?_
          refine go_get O hK dX4_putNumber_44 hinX4 0 rfl rfl 13 (by decide) flX4_38 rfl 47 rfl ?_
          refine go_calliS (rest := []) (wr := [(h, .inr (4, MF p s m qcurrency qisWide qnegative qkept qratios qtext qnum qbase qden qquo qrem qother qunits qparts qover qgiven qread ((sz + 1 : Nat) : Int) at0 wr dc be rc rn)), (qtext, .inl (cI, 48, .inl (fun j => iI ((txs tx sz 40) j))))]) O hK hE (c_X4_size E hE qquo cI Q (Nat.lt_of_lt_of_le hQ (p10le (by omega)))) mlX4_78 smX4_size inX4 cdX4_size 1 (by decide +kernel) ⟨Nat.le_of_ble_eq_true rfl, Nat.le_of_ble_eq_true rfl⟩ [0] rfl [2] rfl (by decide) [0, 1] rfl (by decide) (by decide) rfl rfl (Nat.le_of_ble_eq_true rfl) ⟨Nat.zero_le _, Nat.zero_le _⟩ dX4_putNumber_47 50 rfl (fun z u hu => ?_)
          subst hu
          show TGo X [(h, .inr (4, MF p s m qcurrency qisWide qnegative qkept qratios qtext qnum qbase qden qquo qrem qother qunits qparts qover qgiven qread ((sz + 1 : Nat) : Int) at0 wr dc be rc rn)), (qtext, .inl (cI, 48, .inl (fun j => iI ((txs tx sz 40) j)))), (qquo, .inl (cI, 80, .inl (dg Q)))] 0 0 50 [(4, .int (iI (bz (decide (4 ≤ st))))), (0, .ref h), (1, .int (iI ((d : Nat) : Int))), (2, .int (iI st)), (3, .int (iI (bz mi)))] [.int (iI ((tnds Q : Nat) : Int))]
          refine go_goto O dX4_putNumber_50 56 (by decide) ?_
          refine TGo.topi (y := ((nwd Q d : Nat) : Int)) (by rw [nwd_1 (Q := Q) (d := d) (by omega)]) ?_
          refine go_istore O dX4_putNumber_56 (by decide) [(5, .int (iI ((nwd Q d : Nat) : Int))), (4, .int (iI (bz (decide (4 ≤ st))))), (0, .ref h), (1, .int (iI ((d : Nat) : Int))), (2, .int (iI st)), (3, .int (iI (bz mi)))] rfl 58 rfl ?_
          refine go_iload O dX4_putNumber_58 0 rfl 60 rfl ?_
          refine go_iconst O dX4_putNumber_60 61 rfl ?_
          refine go_isub O dX4_putNumber_61 (((nwd Q d : Nat) : Int) - 1) rfl 62 rfl ?_
          refine go_istore O dX4_putNumber_62 (by decide) [(6, .int (iI (((nwd Q d : Nat) : Int) - 1))), (5, .int (iI ((nwd Q d : Nat) : Int))), (4, .int (iI (bz (decide (4 ≤ st))))), (0, .ref h), (1, .int (iI ((d : Nat) : Int))), (2, .int (iI st)), (3, .int (iI (bz mi)))] rfl 64 rfl ?_
          rw [numL_4 (bz_ne h13) (by omega)] at hb hF0
          refine TGo.lsub (lv' := [(6, .int (iI (((nwd Q d : Nat) : Int) - 1))), (0, .ref h), (1, .int (iI ((d : Nat) : Int))), (2, .int (iI st)), (3, .int (iI (bz mi))), (4, .int (iI (bz (decide (4 ≤ st)))))]) [0, 3, 4, 5, 6, 2] rfl ?_
          exact lp (nwd Q d + 1) (nwd Q d) _ (txs tx sz 40) (sz + 1) rfl (by omega) rfl hF0.symm (by simp only [List.length_cons] at hb; omega)
set_option maxHeartbeats 4000000 in
set_option maxRecDepth 100000 in
/-- format -/
theorem c_X4_format (E : TEn) (hE : EnvOk E) (h : Nat) (p s m : Int) (qcurrency qisWide qnegative qkept qratios qtext qnum qbase qden qquo qrem qother qunits qparts qover qgiven qread : Nat) (cI cZ : ClassId) (sz : Nat) (at0 wr dc be rc rn : Int) (tx : Nat → Int) (fc fw fn K fnum fd fq fr fo : Nat → Int32) (reg : Rg) (a st : Int) (ha : r32 a) (hst : r32 st) (hMR : MR fc fw fn K reg) : Cti vwCl E yX4_format wsX4_format (rmn 3 73) [.ref h, .int (iI a), .int (iI st)] [(h, .inr (4, MF p s m qcurrency qisWide qnegative qkept qratios qtext qnum qbase qden qquo qrem qother qunits qparts qover qgiven qread ((sz : Nat) : Int) at0 wr dc be rc rn)), (qtext, .inl (cI, 48, .inl (fun j => iI (tx j)))), (qcurrency, .inl (cI, 8, .inl fc)), (qnegative, .inl (cZ, 8, .inl fn)), (qkept, .inl (cI, 320, .inl K)), (qnum, .inl (cI, 80, .inl fnum)), (qden, .inl (cI, 80, .inl fd)), (qquo, .inl (cI, 80, .inl fq)), (qrem, .inl (cI, 80, .inl fr)), (qother, .inl (cI, 80, .inl fo))] [(cI, .int), (cZ, .boolean)] (fun (z : Int) (u : ((Nat → Int) × Nat) × (Nat → Int32) × (Nat → Int32) × (Nat → Int32) × (Nat → Int32) × (Nat → Int32)) => z = (spFmt reg tx sz a st).1 ∧ u.1 = (spFmt reg tx sz a st).2) (fun u => [(h, .inr (4, MF p s m qcurrency qisWide qnegative qkept qratios qtext qnum qbase qden qquo qrem qother qunits qparts qover qgiven qread ((u.1.2 : Nat) : Int) at0 wr dc be rc rn)), (qtext, .inl (cI, 48, .inl (fun j => iI (u.1.1 j)))), (qcurrency, .inl (cI, 8, .inl fc)), (qnegative, .inl (cZ, 8, .inl fn)), (qkept, .inl (cI, 320, .inl K)), (qnum, .inl (cI, 80, .inl u.2.1)), (qden, .inl (cI, 80, .inl u.2.2.1)), (qquo, .inl (cI, 80, .inl u.2.2.2.1)), (qrem, .inl (cI, 80, .inl u.2.2.2.2.1)), (qother, .inl (cI, 80, .inl u.2.2.2.2.2))]) := by
  refine enteri (by decide) (Nat.le_of_ble_eq_true rfl) ?_
  intro X O hK hin2 hret
  show TGo X [(h, .inr (4, MF p s m qcurrency qisWide qnegative qkept qratios qtext qnum qbase qden qquo qrem qother qunits qparts qover qgiven qread ((sz : Nat) : Int) at0 wr dc be rc rn)), (qtext, .inl (cI, 48, .inl (fun j => iI (tx j)))), (qcurrency, .inl (cI, 8, .inl fc)), (qnegative, .inl (cZ, 8, .inl fn)), (qkept, .inl (cI, 320, .inl K)), (qnum, .inl (cI, 80, .inl fnum)), (qden, .inl (cI, 80, .inl fd)), (qquo, .inl (cI, 80, .inl fq)), (qrem, .inl (cI, 80, .inl fr)), (qother, .inl (cI, 80, .inl fo))] 0 0 0 [(0, .ref h), (1, .int (iI a)), (2, .int (iI st))] []
  have o1 := tout_i (x := a) (e := 8)
  have o2 := tout_i (x := st) (e := 8)
  refine go_iload_n O dX4_format_0 rfl 1 rfl 1 rfl ?_
  refine go_bipush O dX4_format_1 (by decide) 3 rfl ?_
  refine go_calliS (rest := []) (wr := [(h, .inr (4, MF p s m qcurrency qisWide qnegative qkept qratios qtext qnum qbase qden qquo qrem qother qunits qparts qover qgiven qread ((sz : Nat) : Int) at0 wr dc be rc rn)), (qtext, .inl (cI, 48, .inl (fun j => iI (tx j)))), (qcurrency, .inl (cI, 8, .inl fc)), (qnegative, .inl (cZ, 8, .inl fn)), (qkept, .inl (cI, 320, .inl K)), (qnum, .inl (cI, 80, .inl fnum)), (qden, .inl (cI, 80, .inl fd)), (qquo, .inl (cI, 80, .inl fq)), (qrem, .inl (cI, 80, .inl fr)), (qother, .inl (cI, 80, .inl fo))]) O hK hE (c_X4_outside E hE a 8 (by omega) (by omega)) mlX4_123 smX4_outside inX4 cdX4_outside 2 (by decide +kernel) ⟨Nat.le_of_ble_eq_true rfl, Nat.le_of_ble_eq_true rfl⟩ [] rfl [] rfl (by decide) [0, 1, 2, 3, 4, 5, 6, 7, 8, 9] rfl (by decide) (by decide) rfl rfl (Nat.le_of_ble_eq_true rfl) ⟨Nat.zero_le _, Nat.zero_le _⟩ dX4_format_3 6 rfl (fun z u hu => ?_)
  subst hu
  show TGo X [(h, .inr (4, MF p s m qcurrency qisWide qnegative qkept qratios qtext qnum qbase qden qquo qrem qother qunits qparts qover qgiven qread ((sz : Nat) : Int) at0 wr dc be rc rn)), (qtext, .inl (cI, 48, .inl (fun j => iI (tx j)))), (qcurrency, .inl (cI, 8, .inl fc)), (qnegative, .inl (cZ, 8, .inl fn)), (qkept, .inl (cI, 320, .inl K)), (qnum, .inl (cI, 80, .inl fnum)), (qden, .inl (cI, 80, .inl fd)), (qquo, .inl (cI, 80, .inl fq)), (qrem, .inl (cI, 80, .inl fr)), (qother, .inl (cI, 80, .inl fo))] 0 0 6 [(0, .ref h), (1, .int (iI a)), (2, .int (iI st))] [.int (iI (bz (tout a 8)))]
  refine go_if_ne O dX4_format_6 18 (by decide) 9 rfl (bz_r _) (fun h6 => ?_) (fun h6 => ?_)
  · refine go_bipush O dX4_format_18 (by decide) 20 rfl ?_
    have he := spFmt_b (reg := reg) (tx := tx) (sz := sz) (a := a) (st := st) (by omega)
    exact hret _ _ _ ((tx, sz), fnum, fd, fq, fr, fo) dX4_format_20 rfl ⟨by rw [he], by rw [he]⟩
  · refine go_iload_n O dX4_format_9 rfl 2 rfl 10 rfl ?_
    refine go_bipush O dX4_format_10 (by decide) 12 rfl ?_
    refine go_calliS (rest := []) (wr := [(h, .inr (4, MF p s m qcurrency qisWide qnegative qkept qratios qtext qnum qbase qden qquo qrem qother qunits qparts qover qgiven qread ((sz : Nat) : Int) at0 wr dc be rc rn)), (qtext, .inl (cI, 48, .inl (fun j => iI (tx j)))), (qcurrency, .inl (cI, 8, .inl fc)), (qnegative, .inl (cZ, 8, .inl fn)), (qkept, .inl (cI, 320, .inl K)), (qnum, .inl (cI, 80, .inl fnum)), (qden, .inl (cI, 80, .inl fd)), (qquo, .inl (cI, 80, .inl fq)), (qrem, .inl (cI, 80, .inl fr)), (qother, .inl (cI, 80, .inl fo))]) O hK hE (c_X4_outside E hE st 8 (by omega) (by omega)) mlX4_123 smX4_outside inX4 cdX4_outside 2 (by decide +kernel) ⟨Nat.le_of_ble_eq_true rfl, Nat.le_of_ble_eq_true rfl⟩ [] rfl [] rfl (by decide) [0, 1, 2, 3, 4, 5, 6, 7, 8, 9] rfl (by decide) (by decide) rfl rfl (Nat.le_of_ble_eq_true rfl) ⟨Nat.zero_le _, Nat.zero_le _⟩ dX4_format_12 15 rfl (fun z u hu => ?_)
    subst hu
    show TGo X [(h, .inr (4, MF p s m qcurrency qisWide qnegative qkept qratios qtext qnum qbase qden qquo qrem qother qunits qparts qover qgiven qread ((sz : Nat) : Int) at0 wr dc be rc rn)), (qtext, .inl (cI, 48, .inl (fun j => iI (tx j)))), (qcurrency, .inl (cI, 8, .inl fc)), (qnegative, .inl (cZ, 8, .inl fn)), (qkept, .inl (cI, 320, .inl K)), (qnum, .inl (cI, 80, .inl fnum)), (qden, .inl (cI, 80, .inl fd)), (qquo, .inl (cI, 80, .inl fq)), (qrem, .inl (cI, 80, .inl fr)), (qother, .inl (cI, 80, .inl fo))] 0 0 15 [(0, .ref h), (1, .int (iI a)), (2, .int (iI st))] [.int (iI (bz (tout st 8)))]
    refine go_if_eq O dX4_format_15 21 (by decide) 18 rfl (bz_r _) (fun h15 => ?_) (fun h15 => ?_)
    · obtain ⟨α, rfl⟩ : ∃ α : Nat, a = (α : Int) := ⟨a.toNat, by omega⟩
      have hα := hMR α (by omega)
      have hb2 : α < 8 ∧ 0 ≤ st ∧ st < 8 := by omega
      rcases hq : reg α with _ | ⟨c0, w0, n0, V0⟩
      · rw [hq] at hα
        refine go_aload_n O dX4_format_21 rfl 0 rfl 22 rfl ?_
        refine go_get O hK dX4_format_22 hinX4 0 rfl rfl 3 (by decide) flX4_7 rfl 25 rfl ?_
        refine go_iload_n O dX4_format_25 rfl 1 rfl 26 rfl ?_
        refine go_iald O hK dX4_format_26 2 0 rfl rfl α rfl (by omega) (by omega) (-1) hα 27 rfl ?_
        refine go_if_ge O dX4_format_27 33 (by decide) 30 rfl (by omega) (fun h27 => by omega) (fun h27 => ?_)
        refine go_bipush O dX4_format_30 (by decide) 32 rfl ?_
        have he := spFmt_n (tx := tx) (sz := sz) hb2 hq
        exact hret _ _ _ ((tx, sz), fnum, fd, fq, fr, fo) dX4_format_32 rfl ⟨by rw [he], by rw [he]⟩
      · rw [hq] at hα
        obtain ⟨hc0, e1, e2, e3, hV0, hz0, hK0⟩ := hα
        have b0 := bz_01 n0
        have hD1 := tD1_bd c0
        have htd := tdig_le c0
        have hm80 : V0 % (1 * 10 ^ (10 - tdig c0)) < 10 ^ 80 := by have := Nat.mod_lt V0 hD1.1; have := hD1.2; omega
        refine go_aload_n O dX4_format_21 rfl 0 rfl 22 rfl ?_
        refine go_get O hK dX4_format_22 hinX4 0 rfl rfl 3 (by decide) flX4_7 rfl 25 rfl ?_
        refine go_iload_n O dX4_format_25 rfl 1 rfl 26 rfl ?_
        refine go_iald O hK dX4_format_26 2 0 rfl rfl α rfl (by omega) (by omega) c0 e1 27 rfl ?_
        refine go_if_ge O dX4_format_27 33 (by decide) 30 rfl (by omega) (fun h27 => ?_) (fun h27 => by omega)
        refine go_aload_n O dX4_format_33 rfl 0 rfl 34 rfl ?_
        refine go_get O hK dX4_format_34 hinX4 0 rfl rfl 3 (by decide) flX4_7 rfl 37 rfl ?_
        refine go_iload_n O dX4_format_37 rfl 1 rfl 38 rfl ?_
        refine go_iald O hK dX4_format_38 2 0 rfl rfl α rfl (by omega) (by omega) c0 e1 39 rfl ?_
        refine go_istore_n O dX4_format_39 rfl (by decide) [(3, .int (iI c0)), (0, .ref h), (1, .int (iI ((α : Nat) : Int))), (2, .int (iI st))] rfl 40 rfl ?_
        refine go_aload_n O dX4_format_40 rfl 1 rfl 41 rfl ?_
        refine go_iload_n O dX4_format_41 rfl 0 rfl 42 rfl ?_
        refine go_iconst O dX4_format_42 43 rfl ?_
        refine TGo.topi (y := ((1 : Nat) : Int)) rfl ?_
        refine go_callvV (As := [.int (iI c0), .int (iI ((1 : Nat) : Int))]) (rest := []) (wr := [(qtext, .inl (cI, 48, .inl (fun j => iI (tx j)))), (qcurrency, .inl (cI, 8, .inl fc)), (qnegative, .inl (cZ, 8, .inl fn)), (qkept, .inl (cI, 320, .inl K)), (qnum, .inl (cI, 80, .inl fnum)), (qquo, .inl (cI, 80, .inl fq)), (qrem, .inl (cI, 80, .inl fr)), (qother, .inl (cI, 80, .inl fo))]) O hK hE (c_X4_step E hE h (MF p s m qcurrency qisWide qnegative qkept qratios qtext qnum qbase qden qquo qrem qother qunits qparts qover qgiven qread ((sz : Nat) : Int) at0 wr dc be rc rn) rfl cI fd c0 (by omega) 1 (by omega)) mlX4_145 imX4_step seX4_step inX4 cdX4_step 2 (by decide +kernel) ⟨Nat.le_of_ble_eq_true rfl, Nat.le_of_ble_eq_true rfl⟩ 0 rfl rfl [0] rfl [0, 6] rfl (by decide) [1, 2, 3, 4, 5, 7, 8, 9] rfl (by decide) (by decide) rfl rfl (Nat.le_of_ble_eq_true rfl) ⟨Nat.zero_le _, Nat.zero_le _⟩ dX4_format_43 46 rfl (fun u hu => ?_)
        show TGo X [(qtext, .inl (cI, 48, .inl (fun j => iI (tx j)))), (qcurrency, .inl (cI, 8, .inl fc)), (qnegative, .inl (cZ, 8, .inl fn)), (qkept, .inl (cI, 320, .inl K)), (qnum, .inl (cI, 80, .inl fnum)), (qquo, .inl (cI, 80, .inl fq)), (qrem, .inl (cI, 80, .inl fr)), (qother, .inl (cI, 80, .inl fo)), (h, .inr (4, MF p s m qcurrency qisWide qnegative qkept qratios qtext qnum qbase qden qquo qrem qother qunits qparts qover qgiven qread ((sz : Nat) : Int) at0 wr dc be rc rn)), (qden, .inl (cI, 80, .inl (dg (1 * 10 ^ (10 - tdig c0)))))] 0 0 46 [(3, .int (iI c0)), (0, .ref h), (1, .int (iI ((α : Nat) : Int))), (2, .int (iI st))] []
        refine TGo.sub (ws' := [(h, .inr (4, MF p s m qcurrency qisWide qnegative qkept qratios qtext qnum qbase qden qquo qrem qother qunits qparts qover qgiven qread ((sz : Nat) : Int) at0 wr dc be rc rn)), (qtext, .inl (cI, 48, .inl (fun j => iI (tx j)))), (qcurrency, .inl (cI, 8, .inl fc)), (qnegative, .inl (cZ, 8, .inl fn)), (qkept, .inl (cI, 320, .inl K)), (qnum, .inl (cI, 80, .inl fnum)), (qden, .inl (cI, 80, .inl (dg (1 * 10 ^ (10 - tdig c0))))), (qquo, .inl (cI, 80, .inl fq)), (qrem, .inl (cI, 80, .inl fr)), (qother, .inl (cI, 80, .inl fo))]) [8, 0, 1, 2, 3, 4, 9, 5, 6, 7] (by decide) rfl ?_
        refine go_aload_n O dX4_format_46 rfl 1 rfl 47 rfl ?_
        refine go_aload_n O dX4_format_47 rfl 1 rfl 48 rfl ?_
        refine go_get O hK dX4_format_48 hinX4 0 rfl rfl 10 (by decide) flX4_29 rfl 51 rfl ?_
        refine go_iload_n O dX4_format_51 rfl 2 rfl 52 rfl ?_
        refine go_callvV (As := [.ref qnum, .int (iI ((α : Nat) : Int))]) (rest := []) (wr := [(qtext, .inl (cI, 48, .inl (fun j => iI (tx j)))), (qcurrency, .inl (cI, 8, .inl fc)), (qnegative, .inl (cZ, 8, .inl fn)), (qden, .inl (cI, 80, .inl (dg (1 * 10 ^ (10 - tdig c0))))), (qquo, .inl (cI, 80, .inl fq)), (qrem, .inl (cI, 80, .inl fr)), (qother, .inl (cI, 80, .inl fo))]) O hK hE (c_X4_take E hE h (MF p s m qcurrency qisWide qnegative qkept qratios qtext qnum qbase qden qquo qrem qother qunits qparts qover qgiven qread ((sz : Nat) : Int) at0 wr dc be rc rn) rfl qnum cI K fnum α V0 (by omega) (by omega) hK0) mlX4_131 imX4_take seX4_take inX4 cdX4_take 2 (by decide +kernel) ⟨Nat.le_of_ble_eq_true rfl, Nat.le_of_ble_eq_true rfl⟩ 0 rfl rfl [0] rfl [0, 4, 5] rfl (by decide) [1, 2, 3, 6, 7, 8, 9] rfl (by decide) (by decide) rfl rfl (Nat.le_of_ble_eq_true rfl) ⟨Nat.zero_le _, Nat.zero_le _⟩ dX4_format_52 55 rfl (fun u hu => ?_)
        show TGo X [(qtext, .inl (cI, 48, .inl (fun j => iI (tx j)))), (qcurrency, .inl (cI, 8, .inl fc)), (qnegative, .inl (cZ, 8, .inl fn)), (qden, .inl (cI, 80, .inl (dg (1 * 10 ^ (10 - tdig c0))))), (qquo, .inl (cI, 80, .inl fq)), (qrem, .inl (cI, 80, .inl fr)), (qother, .inl (cI, 80, .inl fo)), (h, .inr (4, MF p s m qcurrency qisWide qnegative qkept qratios qtext qnum qbase qden qquo qrem qother qunits qparts qover qgiven qread ((sz : Nat) : Int) at0 wr dc be rc rn)), (qkept, .inl (cI, 320, .inl K)), (qnum, .inl (cI, 80, .inl (dg V0)))] 0 0 55 [(3, .int (iI c0)), (0, .ref h), (1, .int (iI ((α : Nat) : Int))), (2, .int (iI st))] []
        refine TGo.sub (ws' := [(h, .inr (4, MF p s m qcurrency qisWide qnegative qkept qratios qtext qnum qbase qden qquo qrem qother qunits qparts qover qgiven qread ((sz : Nat) : Int) at0 wr dc be rc rn)), (qtext, .inl (cI, 48, .inl (fun j => iI (tx j)))), (qcurrency, .inl (cI, 8, .inl fc)), (qnegative, .inl (cZ, 8, .inl fn)), (qkept, .inl (cI, 320, .inl K)), (qnum, .inl (cI, 80, .inl (dg V0))), (qden, .inl (cI, 80, .inl (dg (1 * 10 ^ (10 - tdig c0))))), (qquo, .inl (cI, 80, .inl fq)), (qrem, .inl (cI, 80, .inl fr)), (qother, .inl (cI, 80, .inl fo))]) [7, 0, 1, 2, 8, 9, 3, 4, 5, 6] (by decide) rfl ?_
        refine go_aload_n O dX4_format_55 rfl 1 rfl 56 rfl ?_
        refine go_callvV (As := []) (rest := []) (wr := [(qtext, .inl (cI, 48, .inl (fun j => iI (tx j)))), (qcurrency, .inl (cI, 8, .inl fc)), (qnegative, .inl (cZ, 8, .inl fn)), (qkept, .inl (cI, 320, .inl K)), (qother, .inl (cI, 80, .inl fo))]) O hK hE (c_X4_quotient E hE h (MF p s m qcurrency qisWide qnegative qkept qratios qtext qnum qbase qden qquo qrem qother qunits qparts qover qgiven qread ((sz : Nat) : Int) at0 wr dc be rc rn) rfl rfl rfl rfl cI V0 (1 * 10 ^ (10 - tdig c0)) fq fr (by omega) hD1.1 (by have := hD1.2; omega)) mlX4_108 imX4_quotient seX4_quotient inX4 cdX4_quotient 0 (by decide +kernel) ⟨Nat.le_of_ble_eq_true rfl, Nat.le_of_ble_eq_true rfl⟩ 0 rfl rfl [0] rfl [0, 5, 6, 7, 8] rfl (by decide) [1, 2, 3, 4, 9] rfl (by decide) (by decide) rfl rfl (Nat.le_of_ble_eq_true rfl) ⟨Nat.zero_le _, Nat.zero_le _⟩ dX4_format_56 59 rfl (fun u hu => ?_)
        show TGo X [(qtext, .inl (cI, 48, .inl (fun j => iI (tx j)))), (qcurrency, .inl (cI, 8, .inl fc)), (qnegative, .inl (cZ, 8, .inl fn)), (qkept, .inl (cI, 320, .inl K)), (qother, .inl (cI, 80, .inl fo)), (h, .inr (4, MF p s m qcurrency qisWide qnegative qkept qratios qtext qnum qbase qden qquo qrem qother qunits qparts qover qgiven qread ((sz : Nat) : Int) at0 wr dc be rc rn)), (qnum, .inl (cI, 80, .inl (dg V0))), (qden, .inl (cI, 80, .inl (dg (1 * 10 ^ (10 - tdig c0))))), (qquo, .inl (cI, 80, .inl (dg (V0 / (1 * 10 ^ (10 - tdig c0)))))), (qrem, .inl (cI, 80, .inl (dg (V0 % (1 * 10 ^ (10 - tdig c0))))))] 0 0 59 [(3, .int (iI c0)), (0, .ref h), (1, .int (iI ((α : Nat) : Int))), (2, .int (iI st))] []
        refine TGo.sub (ws' := [(h, .inr (4, MF p s m qcurrency qisWide qnegative qkept qratios qtext qnum qbase qden qquo qrem qother qunits qparts qover qgiven qread ((sz : Nat) : Int) at0 wr dc be rc rn)), (qtext, .inl (cI, 48, .inl (fun j => iI (tx j)))), (qcurrency, .inl (cI, 8, .inl fc)), (qnegative, .inl (cZ, 8, .inl fn)), (qkept, .inl (cI, 320, .inl K)), (qnum, .inl (cI, 80, .inl (dg V0))), (qden, .inl (cI, 80, .inl (dg (1 * 10 ^ (10 - tdig c0))))), (qquo, .inl (cI, 80, .inl (dg (V0 / (1 * 10 ^ (10 - tdig c0)))))), (qrem, .inl (cI, 80, .inl (dg (V0 % (1 * 10 ^ (10 - tdig c0)))))), (qother, .inl (cI, 80, .inl fo))]) [5, 0, 1, 2, 3, 6, 7, 8, 9, 4] (by decide) rfl ?_
        refine go_aload_n O dX4_format_59 rfl 1 rfl 60 rfl ?_
        refine go_aload_n O dX4_format_60 rfl 1 rfl 61 rfl ?_
        refine go_get O hK dX4_format_61 hinX4 0 rfl rfl 5 (by decide) flX4_17 rfl 64 rfl ?_
        refine go_iload_n O dX4_format_64 rfl 2 rfl 65 rfl ?_
        refine go_zald O hK dX4_format_65 3 1 rfl rfl α rfl (by omega) (by omega) (bz n0) e3 66 rfl ?_
        refine go_bipush O dX4_format_66 (by decide) 68 rfl ?_
        refine go_calliV (As := [.int (iI (bz n0)), .int (iI 6)]) (rest := []) (wr := [(qtext, .inl (cI, 48, .inl (fun j => iI (tx j)))), (qcurrency, .inl (cI, 8, .inl fc)), (qnegative, .inl (cZ, 8, .inl fn)), (qkept, .inl (cI, 320, .inl K)), (qnum, .inl (cI, 80, .inl (dg V0)))]) O hK hE (c_X4_rounds E hE h (MF p s m qcurrency qisWide qnegative qkept qratios qtext qnum qbase qden qquo qrem qother qunits qparts qover qgiven qread ((sz : Nat) : Int) at0 wr dc be rc rn) rfl rfl rfl rfl cI (V0 / (1 * 10 ^ (10 - tdig c0))) (V0 % (1 * 10 ^ (10 - tdig c0))) (1 * 10 ^ (10 - tdig c0)) fo n0 6 (by omega) hm80 (by have := Nat.mod_lt V0 hD1.1; have := hD1.2; omega) (by have := hD1.2; omega)) mlX4_111 imX4_rounds seX4_rounds inX4 cdX4_rounds 2 (by decide +kernel) ⟨Nat.le_of_ble_eq_true rfl, Nat.le_of_ble_eq_true rfl⟩ 0 rfl rfl [0] rfl [0, 6, 7, 8, 9] rfl (by decide) [1, 2, 3, 4, 5] rfl (by decide) (by decide) rfl rfl (Nat.le_of_ble_eq_true rfl) ⟨Nat.zero_le _, Nat.zero_le _⟩ dX4_format_68 71 rfl (fun z u hu => ?_)
        obtain ⟨fo3, rfl⟩ : ∃ z, z = u := ⟨_, rfl⟩
        rw [if_pos (Or.inr (by omega))] at hu
        subst hu
        show TGo X [(qtext, .inl (cI, 48, .inl (fun j => iI (tx j)))), (qcurrency, .inl (cI, 8, .inl fc)), (qnegative, .inl (cZ, 8, .inl fn)), (qkept, .inl (cI, 320, .inl K)), (qnum, .inl (cI, 80, .inl (dg V0))), (h, .inr (4, MF p s m qcurrency qisWide qnegative qkept qratios qtext qnum qbase qden qquo qrem qother qunits qparts qover qgiven qread ((sz : Nat) : Int) at0 wr dc be rc rn)), (qden, .inl (cI, 80, .inl (dg (1 * 10 ^ (10 - tdig c0))))), (qquo, .inl (cI, 80, .inl (dg (fmQ c0 n0 V0)))), (qrem, .inl (cI, 80, .inl (dg (V0 % (1 * 10 ^ (10 - tdig c0)))))), (qother, .inl (cI, 80, .inl fo3))] 0 0 71 [(3, .int (iI c0)), (0, .ref h), (1, .int (iI ((α : Nat) : Int))), (2, .int (iI st))] [.int (iI 1)]
        refine TGo.sub (ws' := [(h, .inr (4, MF p s m qcurrency qisWide qnegative qkept qratios qtext qnum qbase qden qquo qrem qother qunits qparts qover qgiven qread ((sz : Nat) : Int) at0 wr dc be rc rn)), (qtext, .inl (cI, 48, .inl (fun j => iI (tx j)))), (qcurrency, .inl (cI, 8, .inl fc)), (qnegative, .inl (cZ, 8, .inl fn)), (qkept, .inl (cI, 320, .inl K)), (qnum, .inl (cI, 80, .inl (dg V0))), (qden, .inl (cI, 80, .inl (dg (1 * 10 ^ (10 - tdig c0))))), (qquo, .inl (cI, 80, .inl (dg (fmQ c0 n0 V0)))), (qrem, .inl (cI, 80, .inl (dg (V0 % (1 * 10 ^ (10 - tdig c0)))))), (qother, .inl (cI, 80, .inl fo3))]) [5, 0, 1, 2, 3, 4, 6, 7, 8, 9] (by decide) rfl ?_
        refine go_istore O dX4_format_71 (by decide) [(4, .int (iI 1)), (3, .int (iI c0)), (0, .ref h), (1, .int (iI ((α : Nat) : Int))), (2, .int (iI st))] rfl 73 rfl ?_
        refine go_aload_n O dX4_format_73 rfl 2 rfl 74 rfl ?_
        refine go_get O hK dX4_format_74 hinX4 0 rfl rfl 5 (by decide) flX4_17 rfl 77 rfl ?_
        refine go_iload_n O dX4_format_77 rfl 3 rfl 78 rfl ?_
        refine go_zald O hK dX4_format_78 3 1 rfl rfl α rfl (by omega) (by omega) (bz n0) e3 79 rfl ?_
        refine go_if_eq O dX4_format_79 96 (by decide) 82 rfl (by omega) (fun h79 => ?_) (fun h79 => ?_)
        · refine go_iconst O dX4_format_96 97 rfl ?_
          refine TGo.topi (y := bz (n0 && decide (0 < fmQ c0 n0 V0))) (band_0 (by omega)) ?_
          refine go_istore O dX4_format_97 (by decide) [(5, .int (iI (bz (n0 && decide (0 < fmQ c0 n0 V0))))), (4, .int (iI 1)), (3, .int (iI c0)), (0, .ref h), (1, .int (iI ((α : Nat) : Int))), (2, .int (iI st))] rfl 99 rfl ?_
          refine go_iload_n O dX4_format_99 rfl 5 rfl 100 rfl ?_
          refine go_iconst O dX4_format_100 101 rfl ?_
          refine go_irem O dX4_format_101 (by omega) (by omega) (by omega) (by omega) (st % 4) rfl 102 rfl ?_
          refine go_iconst O dX4_format_102 103 rfl ?_
          refine go_icmp_lt O dX4_format_103 110 (by decide) 106 rfl (by omega) (by omega) (fun h103 => ?_) (fun h103 => ?_)
          · refine go_iconst O dX4_format_110 111 rfl ?_
            refine go_istore O dX4_format_111 (by decide) [(6, .int (iI 0)), (5, .int (iI (bz (n0 && decide (0 < fmQ c0 n0 V0))))), (4, .int (iI 1)), (3, .int (iI c0)), (0, .ref h), (1, .int (iI ((α : Nat) : Int))), (2, .int (iI st))] rfl 113 rfl ?_
            refine go_aload_n O dX4_format_113 rfl 4 rfl 114 rfl ?_
            refine go_iconst O dX4_format_114 115 rfl ?_
            refine go_put O hK dX4_format_115 hinX4 tyX4 tyX4_ok nmX4 0 rfl rfl 9 (by decide) flX4_166 rfl rfl rfl rfl (Nat.le_of_ble_eq_true rfl) [(h, .inr (4, MF p s m qcurrency qisWide qnegative qkept qratios qtext qnum qbase qden qquo qrem qother qunits qparts qover qgiven qread 0 at0 wr dc be rc rn)), (qtext, .inl (cI, 48, .inl (fun j => iI (tx j)))), (qcurrency, .inl (cI, 8, .inl fc)), (qnegative, .inl (cZ, 8, .inl fn)), (qkept, .inl (cI, 320, .inl K)), (qnum, .inl (cI, 80, .inl (dg V0))), (qden, .inl (cI, 80, .inl (dg (1 * 10 ^ (10 - tdig c0))))), (qquo, .inl (cI, 80, .inl (dg (fmQ c0 n0 V0)))), (qrem, .inl (cI, 80, .inl (dg (V0 % (1 * 10 ^ (10 - tdig c0)))))), (qother, .inl (cI, 80, .inl fo3))] rfl 118 rfl ?_
            refine go_iload O dX4_format_118 0 rfl 120 rfl ?_
            refine go_if_ne O dX4_format_120 134 (by decide) 123 rfl (by omega) (fun h120 => by omega) (fun h120 => ?_)
            refine go_aload_n O dX4_format_123 rfl 4 rfl 124 rfl ?_
            refine go_iload_n O dX4_format_124 rfl 3 rfl 125 rfl ?_
            refine go_callvV (As := [.int (iI c0)]) (rest := []) (wr := [(qcurrency, .inl (cI, 8, .inl fc)), (qnegative, .inl (cZ, 8, .inl fn)), (qkept, .inl (cI, 320, .inl K)), (qnum, .inl (cI, 80, .inl (dg V0))), (qden, .inl (cI, 80, .inl (dg (1 * 10 ^ (10 - tdig c0))))), (qquo, .inl (cI, 80, .inl (dg (fmQ c0 n0 V0)))), (qrem, .inl (cI, 80, .inl (dg (V0 % (1 * 10 ^ (10 - tdig c0)))))), (qother, .inl (cI, 80, .inl fo3))]) O hK hE (c_X4_putCode E hE h p s m qcurrency qisWide qnegative qkept qratios qtext qnum qbase qden qquo qrem qother qunits qparts qover qgiven qread cI 0 at0 wr dc be rc rn tx c0 (by omega)) mlX4_173 imX4_putCode seX4_putCode inX4 cdX4_putCode 1 (by decide +kernel) ⟨Nat.le_of_ble_eq_true rfl, Nat.le_of_ble_eq_true rfl⟩ 0 rfl rfl [0] rfl [0, 1] rfl (by decide) [2, 3, 4, 5, 6, 7, 8, 9] rfl (by decide) (by decide) rfl rfl (Nat.le_of_ble_eq_true rfl) ⟨Nat.zero_le _, Nat.zero_le _⟩ dX4_format_125 128 rfl (fun u hu => ?_)
            obtain ⟨tA1, sA1⟩ := u
            have hA1 := tapp_sz (codL c0) (tx, 0)
            rw [← hu] at hA1
            have hc1 := hu
            have hAL1 : sA1 = 0 + 3 := hA1
            show TGo X [(qcurrency, .inl (cI, 8, .inl fc)), (qnegative, .inl (cZ, 8, .inl fn)), (qkept, .inl (cI, 320, .inl K)), (qnum, .inl (cI, 80, .inl (dg V0))), (qden, .inl (cI, 80, .inl (dg (1 * 10 ^ (10 - tdig c0))))), (qquo, .inl (cI, 80, .inl (dg (fmQ c0 n0 V0)))), (qrem, .inl (cI, 80, .inl (dg (V0 % (1 * 10 ^ (10 - tdig c0)))))), (qother, .inl (cI, 80, .inl fo3)), (h, .inr (4, MF p s m qcurrency qisWide qnegative qkept qratios qtext qnum qbase qden qquo qrem qother qunits qparts qover qgiven qread ((sA1 : Nat) : Int) at0 wr dc be rc rn)), (qtext, .inl (cI, 48, .inl (fun j => iI (tA1 j))))] 0 0 128 [(6, .int (iI 0)), (5, .int (iI (bz (n0 && decide (0 < fmQ c0 n0 V0))))), (4, .int (iI 1)), (3, .int (iI c0)), (0, .ref h), (1, .int (iI ((α : Nat) : Int))), (2, .int (iI st))] []
            refine TGo.sub (ws' := [(h, .inr (4, MF p s m qcurrency qisWide qnegative qkept qratios qtext qnum qbase qden qquo qrem qother qunits qparts qover qgiven qread ((sA1 : Nat) : Int) at0 wr dc be rc rn)), (qtext, .inl (cI, 48, .inl (fun j => iI (tA1 j)))), (qcurrency, .inl (cI, 8, .inl fc)), (qnegative, .inl (cZ, 8, .inl fn)), (qkept, .inl (cI, 320, .inl K)), (qnum, .inl (cI, 80, .inl (dg V0))), (qden, .inl (cI, 80, .inl (dg (1 * 10 ^ (10 - tdig c0))))), (qquo, .inl (cI, 80, .inl (dg (fmQ c0 n0 V0)))), (qrem, .inl (cI, 80, .inl (dg (V0 % (1 * 10 ^ (10 - tdig c0)))))), (qother, .inl (cI, 80, .inl fo3))]) [8, 9, 0, 1, 2, 3, 4, 5, 6, 7] (by decide) rfl ?_
            refine go_aload_n O dX4_format_128 rfl 4 rfl 129 rfl ?_
            refine go_bipush O dX4_format_129 (by decide) 131 rfl ?_
            refine go_callvV (As := [.int (iI 32)]) (rest := []) (wr := [(qcurrency, .inl (cI, 8, .inl fc)), (qnegative, .inl (cZ, 8, .inl fn)), (qkept, .inl (cI, 320, .inl K)), (qnum, .inl (cI, 80, .inl (dg V0))), (qden, .inl (cI, 80, .inl (dg (1 * 10 ^ (10 - tdig c0))))), (qquo, .inl (cI, 80, .inl (dg (fmQ c0 n0 V0)))), (qrem, .inl (cI, 80, .inl (dg (V0 % (1 * 10 ^ (10 - tdig c0)))))), (qother, .inl (cI, 80, .inl fo3))]) O hK hE (c_X4_put E hE h p s m qcurrency qisWide qnegative qkept qratios qtext qnum qbase qden qquo qrem qother qunits qparts qover qgiven qread cI sA1 at0 wr dc be rc rn tA1 32 (by omega)) mlX4_169 imX4_put seX4_put inX4 cdX4_put 1 (by decide +kernel) ⟨Nat.le_of_ble_eq_true rfl, Nat.le_of_ble_eq_true rfl⟩ 0 rfl rfl [0] rfl [0, 1] rfl (by decide) [2, 3, 4, 5, 6, 7, 8, 9] rfl (by decide) (by decide) rfl rfl (Nat.le_of_ble_eq_true rfl) ⟨Nat.zero_le _, Nat.zero_le _⟩ dX4_format_131 134 rfl (fun u hu => ?_)
            show TGo X [(qcurrency, .inl (cI, 8, .inl fc)), (qnegative, .inl (cZ, 8, .inl fn)), (qkept, .inl (cI, 320, .inl K)), (qnum, .inl (cI, 80, .inl (dg V0))), (qden, .inl (cI, 80, .inl (dg (1 * 10 ^ (10 - tdig c0))))), (qquo, .inl (cI, 80, .inl (dg (fmQ c0 n0 V0)))), (qrem, .inl (cI, 80, .inl (dg (V0 % (1 * 10 ^ (10 - tdig c0)))))), (qother, .inl (cI, 80, .inl fo3)), (h, .inr (4, MF p s m qcurrency qisWide qnegative qkept qratios qtext qnum qbase qden qquo qrem qother qunits qparts qover qgiven qread ((sA1 + 1 : Nat) : Int) at0 wr dc be rc rn)), (qtext, .inl (cI, 48, .inl (fun j => iI ((txs tA1 sA1 32) j))))] 0 0 134 [(6, .int (iI 0)), (5, .int (iI (bz (n0 && decide (0 < fmQ c0 n0 V0))))), (4, .int (iI 1)), (3, .int (iI c0)), (0, .ref h), (1, .int (iI ((α : Nat) : Int))), (2, .int (iI st))] []
            refine TGo.sub (ws' := [(h, .inr (4, MF p s m qcurrency qisWide qnegative qkept qratios qtext qnum qbase qden qquo qrem qother qunits qparts qover qgiven qread ((sA1 + 1 : Nat) : Int) at0 wr dc be rc rn)), (qtext, .inl (cI, 48, .inl (fun j => iI ((txs tA1 sA1 32) j)))), (qcurrency, .inl (cI, 8, .inl fc)), (qnegative, .inl (cZ, 8, .inl fn)), (qkept, .inl (cI, 320, .inl K)), (qnum, .inl (cI, 80, .inl (dg V0))), (qden, .inl (cI, 80, .inl (dg (1 * 10 ^ (10 - tdig c0))))), (qquo, .inl (cI, 80, .inl (dg (fmQ c0 n0 V0)))), (qrem, .inl (cI, 80, .inl (dg (V0 % (1 * 10 ^ (10 - tdig c0)))))), (qother, .inl (cI, 80, .inl fo3))]) [8, 9, 0, 1, 2, 3, 4, 5, 6, 7] (by decide) rfl ?_
            refine go_aload_n O dX4_format_134 rfl 4 rfl 135 rfl ?_
            refine go_iload_n O dX4_format_135 rfl 3 rfl 136 rfl ?_
            refine go_calliS (rest := [.ref h]) (wr := [(h, .inr (4, MF p s m qcurrency qisWide qnegative qkept qratios qtext qnum qbase qden qquo qrem qother qunits qparts qover qgiven qread ((sA1 + 1 : Nat) : Int) at0 wr dc be rc rn)), (qtext, .inl (cI, 48, .inl (fun j => iI ((txs tA1 sA1 32) j)))), (qcurrency, .inl (cI, 8, .inl fc)), (qnegative, .inl (cZ, 8, .inl fn)), (qkept, .inl (cI, 320, .inl K)), (qnum, .inl (cI, 80, .inl (dg V0))), (qden, .inl (cI, 80, .inl (dg (1 * 10 ^ (10 - tdig c0))))), (qquo, .inl (cI, 80, .inl (dg (fmQ c0 n0 V0)))), (qrem, .inl (cI, 80, .inl (dg (V0 % (1 * 10 ^ (10 - tdig c0)))))), (qother, .inl (cI, 80, .inl fo3))]) O hK hE (c_X4_digitsOf E hE c0 (by omega)) mlX4_141 smX4_digitsOf inX4 cdX4_digitsOf 1 (by decide +kernel) ⟨Nat.le_of_ble_eq_true rfl, Nat.le_of_ble_eq_true rfl⟩ [] rfl [] rfl (by decide) [0, 1, 2, 3, 4, 5, 6, 7, 8, 9] rfl (by decide) (by decide) rfl rfl (Nat.le_of_ble_eq_true rfl) ⟨Nat.zero_le _, Nat.zero_le _⟩ dX4_format_136 139 rfl (fun z u hu => ?_)
            subst hu
            show TGo X [(h, .inr (4, MF p s m qcurrency qisWide qnegative qkept qratios qtext qnum qbase qden qquo qrem qother qunits qparts qover qgiven qread ((sA1 + 1 : Nat) : Int) at0 wr dc be rc rn)), (qtext, .inl (cI, 48, .inl (fun j => iI ((txs tA1 sA1 32) j)))), (qcurrency, .inl (cI, 8, .inl fc)), (qnegative, .inl (cZ, 8, .inl fn)), (qkept, .inl (cI, 320, .inl K)), (qnum, .inl (cI, 80, .inl (dg V0))), (qden, .inl (cI, 80, .inl (dg (1 * 10 ^ (10 - tdig c0))))), (qquo, .inl (cI, 80, .inl (dg (fmQ c0 n0 V0)))), (qrem, .inl (cI, 80, .inl (dg (V0 % (1 * 10 ^ (10 - tdig c0)))))), (qother, .inl (cI, 80, .inl fo3))] 0 0 139 [(6, .int (iI 0)), (5, .int (iI (bz (n0 && decide (0 < fmQ c0 n0 V0))))), (4, .int (iI 1)), (3, .int (iI c0)), (0, .ref h), (1, .int (iI ((α : Nat) : Int))), (2, .int (iI st))] [.int (iI ((tdig c0 : Nat) : Int)), .ref h]
            refine go_iload_n O dX4_format_139 rfl 6 rfl 140 rfl ?_
            refine go_iload O dX4_format_140 1 rfl 142 rfl ?_
            refine go_callvV (As := [.int (iI ((tdig c0 : Nat) : Int)), .int (iI st), .int (iI (bz (n0 && decide (0 < fmQ c0 n0 V0))))]) (rest := []) (wr := [(qcurrency, .inl (cI, 8, .inl fc)), (qnegative, .inl (cZ, 8, .inl fn)), (qkept, .inl (cI, 320, .inl K)), (qnum, .inl (cI, 80, .inl (dg V0))), (qden, .inl (cI, 80, .inl (dg (1 * 10 ^ (10 - tdig c0))))), (qrem, .inl (cI, 80, .inl (dg (V0 % (1 * 10 ^ (10 - tdig c0)))))), (qother, .inl (cI, 80, .inl fo3))]) O hK hE (c_X4_putNumber E hE h p s m qcurrency qisWide qnegative qkept qratios qtext qnum qbase qden qquo qrem qother qunits qparts qover qgiven qread cI (sA1 + 1) at0 wr dc be rc rn (txs tA1 sA1 32) (fmQ c0 n0 V0) (tdig c0) st (n0 && decide (0 < fmQ c0 n0 V0)) htd (by omega) (fmQ_bd hV0) (by have := numL_le (st := st) (mi := (n0 && decide (0 < fmQ c0 n0 V0))) htd (fmQ_bd (c := c0) (n := n0) hV0); omega)) mlX4_176 imX4_putNumber seX4_putNumber inX4 cdX4_putNumber 3 (by decide +kernel) ⟨Nat.le_of_ble_eq_true rfl, Nat.le_of_ble_eq_true rfl⟩ 0 rfl rfl [0] rfl [0, 1, 7] rfl (by decide) [2, 3, 4, 5, 6, 8, 9] rfl (by decide) (by decide) rfl rfl (Nat.le_of_ble_eq_true rfl) ⟨Nat.zero_le _, Nat.zero_le _⟩ dX4_format_142 145 rfl (fun u hu => ?_)
            obtain ⟨tN, sN⟩ := u
            have hN := tapp_sz (numL (fmQ c0 n0 V0) (tdig c0) st (n0 && decide (0 < fmQ c0 n0 V0))) ((txs tA1 sA1 32), sA1 + 1)
            rw [← hu] at hN
            have hnu := hu
            have hNL : sN = sA1 + 1 + (numL (fmQ c0 n0 V0) (tdig c0) st (n0 && decide (0 < fmQ c0 n0 V0))).length := hN
            have hnl := numL_le (st := st) (mi := (n0 && decide (0 < fmQ c0 n0 V0))) htd (fmQ_bd (c := c0) (n := n0) hV0)
            show TGo X [(qcurrency, .inl (cI, 8, .inl fc)), (qnegative, .inl (cZ, 8, .inl fn)), (qkept, .inl (cI, 320, .inl K)), (qnum, .inl (cI, 80, .inl (dg V0))), (qden, .inl (cI, 80, .inl (dg (1 * 10 ^ (10 - tdig c0))))), (qrem, .inl (cI, 80, .inl (dg (V0 % (1 * 10 ^ (10 - tdig c0)))))), (qother, .inl (cI, 80, .inl fo3)), (h, .inr (4, MF p s m qcurrency qisWide qnegative qkept qratios qtext qnum qbase qden qquo qrem qother qunits qparts qover qgiven qread ((sN : Nat) : Int) at0 wr dc be rc rn)), (qtext, .inl (cI, 48, .inl (fun j => iI (tN j)))), (qquo, .inl (cI, 80, .inl (dg (fmQ c0 n0 V0))))] 0 0 145 [(6, .int (iI 0)), (5, .int (iI (bz (n0 && decide (0 < fmQ c0 n0 V0))))), (4, .int (iI 1)), (3, .int (iI c0)), (0, .ref h), (1, .int (iI ((α : Nat) : Int))), (2, .int (iI st))] []
            refine TGo.sub (ws' := [(h, .inr (4, MF p s m qcurrency qisWide qnegative qkept qratios qtext qnum qbase qden qquo qrem qother qunits qparts qover qgiven qread ((sN : Nat) : Int) at0 wr dc be rc rn)), (qtext, .inl (cI, 48, .inl (fun j => iI (tN j)))), (qcurrency, .inl (cI, 8, .inl fc)), (qnegative, .inl (cZ, 8, .inl fn)), (qkept, .inl (cI, 320, .inl K)), (qnum, .inl (cI, 80, .inl (dg V0))), (qden, .inl (cI, 80, .inl (dg (1 * 10 ^ (10 - tdig c0))))), (qquo, .inl (cI, 80, .inl (dg (fmQ c0 n0 V0)))), (qrem, .inl (cI, 80, .inl (dg (V0 % (1 * 10 ^ (10 - tdig c0)))))), (qother, .inl (cI, 80, .inl fo3))]) [7, 8, 0, 1, 2, 3, 4, 9, 5, 6] (by decide) rfl ?_
            refine go_iload O dX4_format_145 0 rfl 147 rfl ?_
            refine go_if_eq O dX4_format_147 161 (by decide) 150 rfl (by omega) (fun h147 => ?_) (fun h147 => by omega)
            refine go_aload_n O dX4_format_161 rfl 4 rfl 162 rfl ?_
            refine go_get O hK dX4_format_162 hinX4 0 rfl rfl 9 (by decide) flX4_166 rfl 165 rfl ?_
            have he := spFmt_s (sz := sz) hb2 hq (show (tN, sN) = tapp (tx, 0) (fmtL c0 (fmQ c0 n0 V0) st (n0 && decide (0 < fmQ c0 n0 V0))) from (by rw [fmtL_0 (by omega), tapp_app, ← hc1]; exact hnu))
            exact hret _ _ _ ((tN, sN), dg V0, dg (1 * 10 ^ (10 - tdig c0)), dg (fmQ c0 n0 V0), dg (V0 % (1 * 10 ^ (10 - tdig c0))), fo3) dX4_format_165 rfl ⟨by rw [he], by rw [he]⟩
          · refine go_iconst O dX4_format_106 107 rfl ?_
            refine go_goto O dX4_format_107 111 (by decide) ?_
            refine go_istore O dX4_format_111 (by decide) [(6, .int (iI 1)), (5, .int (iI (bz (n0 && decide (0 < fmQ c0 n0 V0))))), (4, .int (iI 1)), (3, .int (iI c0)), (0, .ref h), (1, .int (iI ((α : Nat) : Int))), (2, .int (iI st))] rfl 113 rfl ?_
            refine go_aload_n O dX4_format_113 rfl 4 rfl 114 rfl ?_
            refine go_iconst O dX4_format_114 115 rfl ?_
            refine go_put O hK dX4_format_115 hinX4 tyX4 tyX4_ok nmX4 0 rfl rfl 9 (by decide) flX4_166 rfl rfl rfl rfl (Nat.le_of_ble_eq_true rfl) [(h, .inr (4, MF p s m qcurrency qisWide qnegative qkept qratios qtext qnum qbase qden qquo qrem qother qunits qparts qover qgiven qread 0 at0 wr dc be rc rn)), (qtext, .inl (cI, 48, .inl (fun j => iI (tx j)))), (qcurrency, .inl (cI, 8, .inl fc)), (qnegative, .inl (cZ, 8, .inl fn)), (qkept, .inl (cI, 320, .inl K)), (qnum, .inl (cI, 80, .inl (dg V0))), (qden, .inl (cI, 80, .inl (dg (1 * 10 ^ (10 - tdig c0))))), (qquo, .inl (cI, 80, .inl (dg (fmQ c0 n0 V0)))), (qrem, .inl (cI, 80, .inl (dg (V0 % (1 * 10 ^ (10 - tdig c0)))))), (qother, .inl (cI, 80, .inl fo3))] rfl 118 rfl ?_
            refine go_iload O dX4_format_118 0 rfl 120 rfl ?_
            refine go_if_ne O dX4_format_120 134 (by decide) 123 rfl (by omega) (fun h120 => ?_) (fun h120 => by omega)
            refine go_aload_n O dX4_format_134 rfl 4 rfl 135 rfl ?_
            refine go_iload_n O dX4_format_135 rfl 3 rfl 136 rfl ?_
            refine go_calliS (rest := [.ref h]) (wr := [(h, .inr (4, MF p s m qcurrency qisWide qnegative qkept qratios qtext qnum qbase qden qquo qrem qother qunits qparts qover qgiven qread 0 at0 wr dc be rc rn)), (qtext, .inl (cI, 48, .inl (fun j => iI (tx j)))), (qcurrency, .inl (cI, 8, .inl fc)), (qnegative, .inl (cZ, 8, .inl fn)), (qkept, .inl (cI, 320, .inl K)), (qnum, .inl (cI, 80, .inl (dg V0))), (qden, .inl (cI, 80, .inl (dg (1 * 10 ^ (10 - tdig c0))))), (qquo, .inl (cI, 80, .inl (dg (fmQ c0 n0 V0)))), (qrem, .inl (cI, 80, .inl (dg (V0 % (1 * 10 ^ (10 - tdig c0)))))), (qother, .inl (cI, 80, .inl fo3))]) O hK hE (c_X4_digitsOf E hE c0 (by omega)) mlX4_141 smX4_digitsOf inX4 cdX4_digitsOf 1 (by decide +kernel) ⟨Nat.le_of_ble_eq_true rfl, Nat.le_of_ble_eq_true rfl⟩ [] rfl [] rfl (by decide) [0, 1, 2, 3, 4, 5, 6, 7, 8, 9] rfl (by decide) (by decide) rfl rfl (Nat.le_of_ble_eq_true rfl) ⟨Nat.zero_le _, Nat.zero_le _⟩ dX4_format_136 139 rfl (fun z u hu => ?_)
            subst hu
            show TGo X [(h, .inr (4, MF p s m qcurrency qisWide qnegative qkept qratios qtext qnum qbase qden qquo qrem qother qunits qparts qover qgiven qread 0 at0 wr dc be rc rn)), (qtext, .inl (cI, 48, .inl (fun j => iI (tx j)))), (qcurrency, .inl (cI, 8, .inl fc)), (qnegative, .inl (cZ, 8, .inl fn)), (qkept, .inl (cI, 320, .inl K)), (qnum, .inl (cI, 80, .inl (dg V0))), (qden, .inl (cI, 80, .inl (dg (1 * 10 ^ (10 - tdig c0))))), (qquo, .inl (cI, 80, .inl (dg (fmQ c0 n0 V0)))), (qrem, .inl (cI, 80, .inl (dg (V0 % (1 * 10 ^ (10 - tdig c0)))))), (qother, .inl (cI, 80, .inl fo3))] 0 0 139 [(6, .int (iI 1)), (5, .int (iI (bz (n0 && decide (0 < fmQ c0 n0 V0))))), (4, .int (iI 1)), (3, .int (iI c0)), (0, .ref h), (1, .int (iI ((α : Nat) : Int))), (2, .int (iI st))] [.int (iI ((tdig c0 : Nat) : Int)), .ref h]
            refine go_iload_n O dX4_format_139 rfl 6 rfl 140 rfl ?_
            refine go_iload O dX4_format_140 1 rfl 142 rfl ?_
            refine go_callvV (As := [.int (iI ((tdig c0 : Nat) : Int)), .int (iI st), .int (iI (bz (n0 && decide (0 < fmQ c0 n0 V0))))]) (rest := []) (wr := [(qcurrency, .inl (cI, 8, .inl fc)), (qnegative, .inl (cZ, 8, .inl fn)), (qkept, .inl (cI, 320, .inl K)), (qnum, .inl (cI, 80, .inl (dg V0))), (qden, .inl (cI, 80, .inl (dg (1 * 10 ^ (10 - tdig c0))))), (qrem, .inl (cI, 80, .inl (dg (V0 % (1 * 10 ^ (10 - tdig c0)))))), (qother, .inl (cI, 80, .inl fo3))]) O hK hE (c_X4_putNumber E hE h p s m qcurrency qisWide qnegative qkept qratios qtext qnum qbase qden qquo qrem qother qunits qparts qover qgiven qread cI 0 at0 wr dc be rc rn tx (fmQ c0 n0 V0) (tdig c0) st (n0 && decide (0 < fmQ c0 n0 V0)) htd (by omega) (fmQ_bd hV0) (by have := numL_le (st := st) (mi := (n0 && decide (0 < fmQ c0 n0 V0))) htd (fmQ_bd (c := c0) (n := n0) hV0); omega)) mlX4_176 imX4_putNumber seX4_putNumber inX4 cdX4_putNumber 3 (by decide +kernel) ⟨Nat.le_of_ble_eq_true rfl, Nat.le_of_ble_eq_true rfl⟩ 0 rfl rfl [0] rfl [0, 1, 7] rfl (by decide) [2, 3, 4, 5, 6, 8, 9] rfl (by decide) (by decide) rfl rfl (Nat.le_of_ble_eq_true rfl) ⟨Nat.zero_le _, Nat.zero_le _⟩ dX4_format_142 145 rfl (fun u hu => ?_)
            obtain ⟨tN, sN⟩ := u
            have hN := tapp_sz (numL (fmQ c0 n0 V0) (tdig c0) st (n0 && decide (0 < fmQ c0 n0 V0))) (tx, 0)
            rw [← hu] at hN
            have hnu := hu
            have hNL : sN = 0 + (numL (fmQ c0 n0 V0) (tdig c0) st (n0 && decide (0 < fmQ c0 n0 V0))).length := hN
            have hnl := numL_le (st := st) (mi := (n0 && decide (0 < fmQ c0 n0 V0))) htd (fmQ_bd (c := c0) (n := n0) hV0)
            show TGo X [(qcurrency, .inl (cI, 8, .inl fc)), (qnegative, .inl (cZ, 8, .inl fn)), (qkept, .inl (cI, 320, .inl K)), (qnum, .inl (cI, 80, .inl (dg V0))), (qden, .inl (cI, 80, .inl (dg (1 * 10 ^ (10 - tdig c0))))), (qrem, .inl (cI, 80, .inl (dg (V0 % (1 * 10 ^ (10 - tdig c0)))))), (qother, .inl (cI, 80, .inl fo3)), (h, .inr (4, MF p s m qcurrency qisWide qnegative qkept qratios qtext qnum qbase qden qquo qrem qother qunits qparts qover qgiven qread ((sN : Nat) : Int) at0 wr dc be rc rn)), (qtext, .inl (cI, 48, .inl (fun j => iI (tN j)))), (qquo, .inl (cI, 80, .inl (dg (fmQ c0 n0 V0))))] 0 0 145 [(6, .int (iI 1)), (5, .int (iI (bz (n0 && decide (0 < fmQ c0 n0 V0))))), (4, .int (iI 1)), (3, .int (iI c0)), (0, .ref h), (1, .int (iI ((α : Nat) : Int))), (2, .int (iI st))] []
            refine TGo.sub (ws' := [(h, .inr (4, MF p s m qcurrency qisWide qnegative qkept qratios qtext qnum qbase qden qquo qrem qother qunits qparts qover qgiven qread ((sN : Nat) : Int) at0 wr dc be rc rn)), (qtext, .inl (cI, 48, .inl (fun j => iI (tN j)))), (qcurrency, .inl (cI, 8, .inl fc)), (qnegative, .inl (cZ, 8, .inl fn)), (qkept, .inl (cI, 320, .inl K)), (qnum, .inl (cI, 80, .inl (dg V0))), (qden, .inl (cI, 80, .inl (dg (1 * 10 ^ (10 - tdig c0))))), (qquo, .inl (cI, 80, .inl (dg (fmQ c0 n0 V0)))), (qrem, .inl (cI, 80, .inl (dg (V0 % (1 * 10 ^ (10 - tdig c0)))))), (qother, .inl (cI, 80, .inl fo3))]) [7, 8, 0, 1, 2, 3, 4, 9, 5, 6] (by decide) rfl ?_
            refine go_iload O dX4_format_145 0 rfl 147 rfl ?_
            refine go_if_eq O dX4_format_147 161 (by decide) 150 rfl (by omega) (fun h147 => by omega) (fun h147 => ?_)
            refine go_aload_n O dX4_format_150 rfl 4 rfl 151 rfl ?_
            refine go_bipush O dX4_format_151 (by decide) 153 rfl ?_
            refine go_callvV (As := [.int (iI 32)]) (rest := []) (wr := [(qcurrency, .inl (cI, 8, .inl fc)), (qnegative, .inl (cZ, 8, .inl fn)), (qkept, .inl (cI, 320, .inl K)), (qnum, .inl (cI, 80, .inl (dg V0))), (qden, .inl (cI, 80, .inl (dg (1 * 10 ^ (10 - tdig c0))))), (qquo, .inl (cI, 80, .inl (dg (fmQ c0 n0 V0)))), (qrem, .inl (cI, 80, .inl (dg (V0 % (1 * 10 ^ (10 - tdig c0)))))), (qother, .inl (cI, 80, .inl fo3))]) O hK hE (c_X4_put E hE h p s m qcurrency qisWide qnegative qkept qratios qtext qnum qbase qden qquo qrem qother qunits qparts qover qgiven qread cI sN at0 wr dc be rc rn tN 32 (by omega)) mlX4_169 imX4_put seX4_put inX4 cdX4_put 1 (by decide +kernel) ⟨Nat.le_of_ble_eq_true rfl, Nat.le_of_ble_eq_true rfl⟩ 0 rfl rfl [0] rfl [0, 1] rfl (by decide) [2, 3, 4, 5, 6, 7, 8, 9] rfl (by decide) (by decide) rfl rfl (Nat.le_of_ble_eq_true rfl) ⟨Nat.zero_le _, Nat.zero_le _⟩ dX4_format_153 156 rfl (fun u hu => ?_)
            show TGo X [(qcurrency, .inl (cI, 8, .inl fc)), (qnegative, .inl (cZ, 8, .inl fn)), (qkept, .inl (cI, 320, .inl K)), (qnum, .inl (cI, 80, .inl (dg V0))), (qden, .inl (cI, 80, .inl (dg (1 * 10 ^ (10 - tdig c0))))), (qquo, .inl (cI, 80, .inl (dg (fmQ c0 n0 V0)))), (qrem, .inl (cI, 80, .inl (dg (V0 % (1 * 10 ^ (10 - tdig c0)))))), (qother, .inl (cI, 80, .inl fo3)), (h, .inr (4, MF p s m qcurrency qisWide qnegative qkept qratios qtext qnum qbase qden qquo qrem qother qunits qparts qover qgiven qread ((sN + 1 : Nat) : Int) at0 wr dc be rc rn)), (qtext, .inl (cI, 48, .inl (fun j => iI ((txs tN sN 32) j))))] 0 0 156 [(6, .int (iI 1)), (5, .int (iI (bz (n0 && decide (0 < fmQ c0 n0 V0))))), (4, .int (iI 1)), (3, .int (iI c0)), (0, .ref h), (1, .int (iI ((α : Nat) : Int))), (2, .int (iI st))] []
            refine TGo.sub (ws' := [(h, .inr (4, MF p s m qcurrency qisWide qnegative qkept qratios qtext qnum qbase qden qquo qrem qother qunits qparts qover qgiven qread ((sN + 1 : Nat) : Int) at0 wr dc be rc rn)), (qtext, .inl (cI, 48, .inl (fun j => iI ((txs tN sN 32) j)))), (qcurrency, .inl (cI, 8, .inl fc)), (qnegative, .inl (cZ, 8, .inl fn)), (qkept, .inl (cI, 320, .inl K)), (qnum, .inl (cI, 80, .inl (dg V0))), (qden, .inl (cI, 80, .inl (dg (1 * 10 ^ (10 - tdig c0))))), (qquo, .inl (cI, 80, .inl (dg (fmQ c0 n0 V0)))), (qrem, .inl (cI, 80, .inl (dg (V0 % (1 * 10 ^ (10 - tdig c0)))))), (qother, .inl (cI, 80, .inl fo3))]) [8, 9, 0, 1, 2, 3, 4, 5, 6, 7] (by decide) rfl ?_
            refine go_aload_n O dX4_format_156 rfl 4 rfl 157 rfl ?_
            refine go_iload_n O dX4_format_157 rfl 3 rfl 158 rfl ?_
            refine go_callvV (As := [.int (iI c0)]) (rest := []) (wr := [(qcurrency, .inl (cI, 8, .inl fc)), (qnegative, .inl (cZ, 8, .inl fn)), (qkept, .inl (cI, 320, .inl K)), (qnum, .inl (cI, 80, .inl (dg V0))), (qden, .inl (cI, 80, .inl (dg (1 * 10 ^ (10 - tdig c0))))), (qquo, .inl (cI, 80, .inl (dg (fmQ c0 n0 V0)))), (qrem, .inl (cI, 80, .inl (dg (V0 % (1 * 10 ^ (10 - tdig c0)))))), (qother, .inl (cI, 80, .inl fo3))]) O hK hE (c_X4_putCode E hE h p s m qcurrency qisWide qnegative qkept qratios qtext qnum qbase qden qquo qrem qother qunits qparts qover qgiven qread cI (sN + 1) at0 wr dc be rc rn (txs tN sN 32) c0 (by omega)) mlX4_173 imX4_putCode seX4_putCode inX4 cdX4_putCode 1 (by decide +kernel) ⟨Nat.le_of_ble_eq_true rfl, Nat.le_of_ble_eq_true rfl⟩ 0 rfl rfl [0] rfl [0, 1] rfl (by decide) [2, 3, 4, 5, 6, 7, 8, 9] rfl (by decide) (by decide) rfl rfl (Nat.le_of_ble_eq_true rfl) ⟨Nat.zero_le _, Nat.zero_le _⟩ dX4_format_158 161 rfl (fun u hu => ?_)
            obtain ⟨tA2, sA2⟩ := u
            have hA2 := tapp_sz (codL c0) ((txs tN sN 32), sN + 1)
            rw [← hu] at hA2
            have hc2 := hu
            have hAL2 : sA2 = sN + 1 + 3 := hA2
            show TGo X [(qcurrency, .inl (cI, 8, .inl fc)), (qnegative, .inl (cZ, 8, .inl fn)), (qkept, .inl (cI, 320, .inl K)), (qnum, .inl (cI, 80, .inl (dg V0))), (qden, .inl (cI, 80, .inl (dg (1 * 10 ^ (10 - tdig c0))))), (qquo, .inl (cI, 80, .inl (dg (fmQ c0 n0 V0)))), (qrem, .inl (cI, 80, .inl (dg (V0 % (1 * 10 ^ (10 - tdig c0)))))), (qother, .inl (cI, 80, .inl fo3)), (h, .inr (4, MF p s m qcurrency qisWide qnegative qkept qratios qtext qnum qbase qden qquo qrem qother qunits qparts qover qgiven qread ((sA2 : Nat) : Int) at0 wr dc be rc rn)), (qtext, .inl (cI, 48, .inl (fun j => iI (tA2 j))))] 0 0 161 [(6, .int (iI 1)), (5, .int (iI (bz (n0 && decide (0 < fmQ c0 n0 V0))))), (4, .int (iI 1)), (3, .int (iI c0)), (0, .ref h), (1, .int (iI ((α : Nat) : Int))), (2, .int (iI st))] []
            refine TGo.sub (ws' := [(h, .inr (4, MF p s m qcurrency qisWide qnegative qkept qratios qtext qnum qbase qden qquo qrem qother qunits qparts qover qgiven qread ((sA2 : Nat) : Int) at0 wr dc be rc rn)), (qtext, .inl (cI, 48, .inl (fun j => iI (tA2 j)))), (qcurrency, .inl (cI, 8, .inl fc)), (qnegative, .inl (cZ, 8, .inl fn)), (qkept, .inl (cI, 320, .inl K)), (qnum, .inl (cI, 80, .inl (dg V0))), (qden, .inl (cI, 80, .inl (dg (1 * 10 ^ (10 - tdig c0))))), (qquo, .inl (cI, 80, .inl (dg (fmQ c0 n0 V0)))), (qrem, .inl (cI, 80, .inl (dg (V0 % (1 * 10 ^ (10 - tdig c0)))))), (qother, .inl (cI, 80, .inl fo3))]) [8, 9, 0, 1, 2, 3, 4, 5, 6, 7] (by decide) rfl ?_
            refine go_aload_n O dX4_format_161 rfl 4 rfl 162 rfl ?_
            refine go_get O hK dX4_format_162 hinX4 0 rfl rfl 9 (by decide) flX4_166 rfl 165 rfl ?_
            have he := spFmt_s (sz := sz) hb2 hq (show (tA2, sA2) = tapp (tx, 0) (fmtL c0 (fmQ c0 n0 V0) st (n0 && decide (0 < fmQ c0 n0 V0))) from (by rw [fmtL_1 (by omega), tapp_app, ← hnu]; exact hc2))
            exact hret _ _ _ ((tA2, sA2), dg V0, dg (1 * 10 ^ (10 - tdig c0)), dg (fmQ c0 n0 V0), dg (V0 % (1 * 10 ^ (10 - tdig c0))), fo3) dX4_format_165 rfl ⟨by rw [he], by rw [he]⟩
        · refine go_aload_n O dX4_format_82 rfl 2 rfl 83 rfl ?_
          refine go_get O hK dX4_format_83 hinX4 0 rfl rfl 13 (by decide) flX4_38 rfl 86 rfl ?_
          refine go_calliS (rest := []) (wr := [(h, .inr (4, MF p s m qcurrency qisWide qnegative qkept qratios qtext qnum qbase qden qquo qrem qother qunits qparts qover qgiven qread ((sz : Nat) : Int) at0 wr dc be rc rn)), (qtext, .inl (cI, 48, .inl (fun j => iI (tx j)))), (qcurrency, .inl (cI, 8, .inl fc)), (qnegative, .inl (cZ, 8, .inl fn)), (qkept, .inl (cI, 320, .inl K)), (qnum, .inl (cI, 80, .inl (dg V0))), (qden, .inl (cI, 80, .inl (dg (1 * 10 ^ (10 - tdig c0))))), (qrem, .inl (cI, 80, .inl (dg (V0 % (1 * 10 ^ (10 - tdig c0)))))), (qother, .inl (cI, 80, .inl fo3))]) O hK hE (c_X4_size E hE qquo cI (fmQ c0 n0 V0) (Nat.lt_of_lt_of_le (fmQ_bd hV0) (p10le (by omega)))) mlX4_78 smX4_size inX4 cdX4_size 1 (by decide +kernel) ⟨Nat.le_of_ble_eq_true rfl, Nat.le_of_ble_eq_true rfl⟩ [0] rfl [7] rfl (by decide) [0, 1, 2, 3, 4, 5, 6, 8, 9] rfl (by decide) (by decide) rfl rfl (Nat.le_of_ble_eq_true rfl) ⟨Nat.zero_le _, Nat.zero_le _⟩ dX4_format_86 89 rfl (fun z u hu => ?_)
          subst hu
          have t0 := tnds_0iff (N := fmQ c0 n0 V0)
          have t1 := tnds_mono (Nat.lt_of_lt_of_le (fmQ_bd (c := c0) (n := n0) hV0) (p10le (show 27 + tdig c0 ≤ 80 by omega)))
          show TGo X [(h, .inr (4, MF p s m qcurrency qisWide qnegative qkept qratios qtext qnum qbase qden qquo qrem qother qunits qparts qover qgiven qread ((sz : Nat) : Int) at0 wr dc be rc rn)), (qtext, .inl (cI, 48, .inl (fun j => iI (tx j)))), (qcurrency, .inl (cI, 8, .inl fc)), (qnegative, .inl (cZ, 8, .inl fn)), (qkept, .inl (cI, 320, .inl K)), (qnum, .inl (cI, 80, .inl (dg V0))), (qden, .inl (cI, 80, .inl (dg (1 * 10 ^ (10 - tdig c0))))), (qrem, .inl (cI, 80, .inl (dg (V0 % (1 * 10 ^ (10 - tdig c0)))))), (qother, .inl (cI, 80, .inl fo3)), (qquo, .inl (cI, 80, .inl (dg (fmQ c0 n0 V0))))] 0 0 89 [(4, .int (iI 1)), (3, .int (iI c0)), (0, .ref h), (1, .int (iI ((α : Nat) : Int))), (2, .int (iI st))] [.int (iI ((tnds (fmQ c0 n0 V0) : Nat) : Int))]
          refine TGo.sub (ws' := [(h, .inr (4, MF p s m qcurrency qisWide qnegative qkept qratios qtext qnum qbase qden qquo qrem qother qunits qparts qover qgiven qread ((sz : Nat) : Int) at0 wr dc be rc rn)), (qtext, .inl (cI, 48, .inl (fun j => iI (tx j)))), (qcurrency, .inl (cI, 8, .inl fc)), (qnegative, .inl (cZ, 8, .inl fn)), (qkept, .inl (cI, 320, .inl K)), (qnum, .inl (cI, 80, .inl (dg V0))), (qden, .inl (cI, 80, .inl (dg (1 * 10 ^ (10 - tdig c0))))), (qquo, .inl (cI, 80, .inl (dg (fmQ c0 n0 V0)))), (qrem, .inl (cI, 80, .inl (dg (V0 % (1 * 10 ^ (10 - tdig c0)))))), (qother, .inl (cI, 80, .inl fo3))]) [0, 1, 2, 3, 4, 5, 6, 9, 7, 8] (by decide) rfl ?_
          refine go_if_le O dX4_format_89 96 (by decide) 92 rfl (by omega) (fun h89 => ?_) (fun h89 => ?_)
          · refine go_iconst O dX4_format_96 97 rfl ?_
            refine TGo.topi (y := bz (n0 && decide (0 < fmQ c0 n0 V0))) (band_0 (by omega)) ?_
            refine go_istore O dX4_format_97 (by decide) [(5, .int (iI (bz (n0 && decide (0 < fmQ c0 n0 V0))))), (4, .int (iI 1)), (3, .int (iI c0)), (0, .ref h), (1, .int (iI ((α : Nat) : Int))), (2, .int (iI st))] rfl 99 rfl ?_
            refine go_iload_n O dX4_format_99 rfl 5 rfl 100 rfl ?_
            refine go_iconst O dX4_format_100 101 rfl ?_
            refine go_irem O dX4_format_101 (by omega) (by omega) (by omega) (by omega) (st % 4) rfl 102 rfl ?_
            refine go_iconst O dX4_format_102 103 rfl ?_
            refine go_icmp_lt O dX4_format_103 110 (by decide) 106 rfl (by omega) (by omega) (fun h103 => ?_) (fun h103 => ?_)
            · refine go_iconst O dX4_format_110 111 rfl ?_
              refine go_istore O dX4_format_111 (by decide) [(6, .int (iI 0)), (5, .int (iI (bz (n0 && decide (0 < fmQ c0 n0 V0))))), (4, .int (iI 1)), (3, .int (iI c0)), (0, .ref h), (1, .int (iI ((α : Nat) : Int))), (2, .int (iI st))] rfl 113 rfl ?_
              refine go_aload_n O dX4_format_113 rfl 4 rfl 114 rfl ?_
              refine go_iconst O dX4_format_114 115 rfl ?_
              refine go_put O hK dX4_format_115 hinX4 tyX4 tyX4_ok nmX4 0 rfl rfl 9 (by decide) flX4_166 rfl rfl rfl rfl (Nat.le_of_ble_eq_true rfl) [(h, .inr (4, MF p s m qcurrency qisWide qnegative qkept qratios qtext qnum qbase qden qquo qrem qother qunits qparts qover qgiven qread 0 at0 wr dc be rc rn)), (qtext, .inl (cI, 48, .inl (fun j => iI (tx j)))), (qcurrency, .inl (cI, 8, .inl fc)), (qnegative, .inl (cZ, 8, .inl fn)), (qkept, .inl (cI, 320, .inl K)), (qnum, .inl (cI, 80, .inl (dg V0))), (qden, .inl (cI, 80, .inl (dg (1 * 10 ^ (10 - tdig c0))))), (qquo, .inl (cI, 80, .inl (dg (fmQ c0 n0 V0)))), (qrem, .inl (cI, 80, .inl (dg (V0 % (1 * 10 ^ (10 - tdig c0)))))), (qother, .inl (cI, 80, .inl fo3))] rfl 118 rfl ?_
              refine go_iload O dX4_format_118 0 rfl 120 rfl ?_
              refine go_if_ne O dX4_format_120 134 (by decide) 123 rfl (by omega) (fun h120 => by omega) (fun h120 => ?_)
              refine go_aload_n O dX4_format_123 rfl 4 rfl 124 rfl ?_
              refine go_iload_n O dX4_format_124 rfl 3 rfl 125 rfl ?_
              refine go_callvV (As := [.int (iI c0)]) (rest := []) (wr := [(qcurrency, .inl (cI, 8, .inl fc)), (qnegative, .inl (cZ, 8, .inl fn)), (qkept, .inl (cI, 320, .inl K)), (qnum, .inl (cI, 80, .inl (dg V0))), (qden, .inl (cI, 80, .inl (dg (1 * 10 ^ (10 - tdig c0))))), (qquo, .inl (cI, 80, .inl (dg (fmQ c0 n0 V0)))), (qrem, .inl (cI, 80, .inl (dg (V0 % (1 * 10 ^ (10 - tdig c0)))))), (qother, .inl (cI, 80, .inl fo3))]) O hK hE (c_X4_putCode E hE h p s m qcurrency qisWide qnegative qkept qratios qtext qnum qbase qden qquo qrem qother qunits qparts qover qgiven qread cI 0 at0 wr dc be rc rn tx c0 (by omega)) mlX4_173 imX4_putCode seX4_putCode inX4 cdX4_putCode 1 (by decide +kernel) ⟨Nat.le_of_ble_eq_true rfl, Nat.le_of_ble_eq_true rfl⟩ 0 rfl rfl [0] rfl [0, 1] rfl (by decide) [2, 3, 4, 5, 6, 7, 8, 9] rfl (by decide) (by decide) rfl rfl (Nat.le_of_ble_eq_true rfl) ⟨Nat.zero_le _, Nat.zero_le _⟩ dX4_format_125 128 rfl (fun u hu => ?_)
              obtain ⟨tA1, sA1⟩ := u
              have hA1 := tapp_sz (codL c0) (tx, 0)
              rw [← hu] at hA1
              have hc1 := hu
              have hAL1 : sA1 = 0 + 3 := hA1
              show TGo X [(qcurrency, .inl (cI, 8, .inl fc)), (qnegative, .inl (cZ, 8, .inl fn)), (qkept, .inl (cI, 320, .inl K)), (qnum, .inl (cI, 80, .inl (dg V0))), (qden, .inl (cI, 80, .inl (dg (1 * 10 ^ (10 - tdig c0))))), (qquo, .inl (cI, 80, .inl (dg (fmQ c0 n0 V0)))), (qrem, .inl (cI, 80, .inl (dg (V0 % (1 * 10 ^ (10 - tdig c0)))))), (qother, .inl (cI, 80, .inl fo3)), (h, .inr (4, MF p s m qcurrency qisWide qnegative qkept qratios qtext qnum qbase qden qquo qrem qother qunits qparts qover qgiven qread ((sA1 : Nat) : Int) at0 wr dc be rc rn)), (qtext, .inl (cI, 48, .inl (fun j => iI (tA1 j))))] 0 0 128 [(6, .int (iI 0)), (5, .int (iI (bz (n0 && decide (0 < fmQ c0 n0 V0))))), (4, .int (iI 1)), (3, .int (iI c0)), (0, .ref h), (1, .int (iI ((α : Nat) : Int))), (2, .int (iI st))] []
              refine TGo.sub (ws' := [(h, .inr (4, MF p s m qcurrency qisWide qnegative qkept qratios qtext qnum qbase qden qquo qrem qother qunits qparts qover qgiven qread ((sA1 : Nat) : Int) at0 wr dc be rc rn)), (qtext, .inl (cI, 48, .inl (fun j => iI (tA1 j)))), (qcurrency, .inl (cI, 8, .inl fc)), (qnegative, .inl (cZ, 8, .inl fn)), (qkept, .inl (cI, 320, .inl K)), (qnum, .inl (cI, 80, .inl (dg V0))), (qden, .inl (cI, 80, .inl (dg (1 * 10 ^ (10 - tdig c0))))), (qquo, .inl (cI, 80, .inl (dg (fmQ c0 n0 V0)))), (qrem, .inl (cI, 80, .inl (dg (V0 % (1 * 10 ^ (10 - tdig c0)))))), (qother, .inl (cI, 80, .inl fo3))]) [8, 9, 0, 1, 2, 3, 4, 5, 6, 7] (by decide) rfl ?_
              refine go_aload_n O dX4_format_128 rfl 4 rfl 129 rfl ?_
              refine go_bipush O dX4_format_129 (by decide) 131 rfl ?_
              refine go_callvV (As := [.int (iI 32)]) (rest := []) (wr := [(qcurrency, .inl (cI, 8, .inl fc)), (qnegative, .inl (cZ, 8, .inl fn)), (qkept, .inl (cI, 320, .inl K)), (qnum, .inl (cI, 80, .inl (dg V0))), (qden, .inl (cI, 80, .inl (dg (1 * 10 ^ (10 - tdig c0))))), (qquo, .inl (cI, 80, .inl (dg (fmQ c0 n0 V0)))), (qrem, .inl (cI, 80, .inl (dg (V0 % (1 * 10 ^ (10 - tdig c0)))))), (qother, .inl (cI, 80, .inl fo3))]) O hK hE (c_X4_put E hE h p s m qcurrency qisWide qnegative qkept qratios qtext qnum qbase qden qquo qrem qother qunits qparts qover qgiven qread cI sA1 at0 wr dc be rc rn tA1 32 (by omega)) mlX4_169 imX4_put seX4_put inX4 cdX4_put 1 (by decide +kernel) ⟨Nat.le_of_ble_eq_true rfl, Nat.le_of_ble_eq_true rfl⟩ 0 rfl rfl [0] rfl [0, 1] rfl (by decide) [2, 3, 4, 5, 6, 7, 8, 9] rfl (by decide) (by decide) rfl rfl (Nat.le_of_ble_eq_true rfl) ⟨Nat.zero_le _, Nat.zero_le _⟩ dX4_format_131 134 rfl (fun u hu => ?_)
              show TGo X [(qcurrency, .inl (cI, 8, .inl fc)), (qnegative, .inl (cZ, 8, .inl fn)), (qkept, .inl (cI, 320, .inl K)), (qnum, .inl (cI, 80, .inl (dg V0))), (qden, .inl (cI, 80, .inl (dg (1 * 10 ^ (10 - tdig c0))))), (qquo, .inl (cI, 80, .inl (dg (fmQ c0 n0 V0)))), (qrem, .inl (cI, 80, .inl (dg (V0 % (1 * 10 ^ (10 - tdig c0)))))), (qother, .inl (cI, 80, .inl fo3)), (h, .inr (4, MF p s m qcurrency qisWide qnegative qkept qratios qtext qnum qbase qden qquo qrem qother qunits qparts qover qgiven qread ((sA1 + 1 : Nat) : Int) at0 wr dc be rc rn)), (qtext, .inl (cI, 48, .inl (fun j => iI ((txs tA1 sA1 32) j))))] 0 0 134 [(6, .int (iI 0)), (5, .int (iI (bz (n0 && decide (0 < fmQ c0 n0 V0))))), (4, .int (iI 1)), (3, .int (iI c0)), (0, .ref h), (1, .int (iI ((α : Nat) : Int))), (2, .int (iI st))] []
              refine TGo.sub (ws' := [(h, .inr (4, MF p s m qcurrency qisWide qnegative qkept qratios qtext qnum qbase qden qquo qrem qother qunits qparts qover qgiven qread ((sA1 + 1 : Nat) : Int) at0 wr dc be rc rn)), (qtext, .inl (cI, 48, .inl (fun j => iI ((txs tA1 sA1 32) j)))), (qcurrency, .inl (cI, 8, .inl fc)), (qnegative, .inl (cZ, 8, .inl fn)), (qkept, .inl (cI, 320, .inl K)), (qnum, .inl (cI, 80, .inl (dg V0))), (qden, .inl (cI, 80, .inl (dg (1 * 10 ^ (10 - tdig c0))))), (qquo, .inl (cI, 80, .inl (dg (fmQ c0 n0 V0)))), (qrem, .inl (cI, 80, .inl (dg (V0 % (1 * 10 ^ (10 - tdig c0)))))), (qother, .inl (cI, 80, .inl fo3))]) [8, 9, 0, 1, 2, 3, 4, 5, 6, 7] (by decide) rfl ?_
              refine go_aload_n O dX4_format_134 rfl 4 rfl 135 rfl ?_
              refine go_iload_n O dX4_format_135 rfl 3 rfl 136 rfl ?_
              refine go_calliS (rest := [.ref h]) (wr := [(h, .inr (4, MF p s m qcurrency qisWide qnegative qkept qratios qtext qnum qbase qden qquo qrem qother qunits qparts qover qgiven qread ((sA1 + 1 : Nat) : Int) at0 wr dc be rc rn)), (qtext, .inl (cI, 48, .inl (fun j => iI ((txs tA1 sA1 32) j)))), (qcurrency, .inl (cI, 8, .inl fc)), (qnegative, .inl (cZ, 8, .inl fn)), (qkept, .inl (cI, 320, .inl K)), (qnum, .inl (cI, 80, .inl (dg V0))), (qden, .inl (cI, 80, .inl (dg (1 * 10 ^ (10 - tdig c0))))), (qquo, .inl (cI, 80, .inl (dg (fmQ c0 n0 V0)))), (qrem, .inl (cI, 80, .inl (dg (V0 % (1 * 10 ^ (10 - tdig c0)))))), (qother, .inl (cI, 80, .inl fo3))]) O hK hE (c_X4_digitsOf E hE c0 (by omega)) mlX4_141 smX4_digitsOf inX4 cdX4_digitsOf 1 (by decide +kernel) ⟨Nat.le_of_ble_eq_true rfl, Nat.le_of_ble_eq_true rfl⟩ [] rfl [] rfl (by decide) [0, 1, 2, 3, 4, 5, 6, 7, 8, 9] rfl (by decide) (by decide) rfl rfl (Nat.le_of_ble_eq_true rfl) ⟨Nat.zero_le _, Nat.zero_le _⟩ dX4_format_136 139 rfl (fun z u hu => ?_)
              subst hu
              show TGo X [(h, .inr (4, MF p s m qcurrency qisWide qnegative qkept qratios qtext qnum qbase qden qquo qrem qother qunits qparts qover qgiven qread ((sA1 + 1 : Nat) : Int) at0 wr dc be rc rn)), (qtext, .inl (cI, 48, .inl (fun j => iI ((txs tA1 sA1 32) j)))), (qcurrency, .inl (cI, 8, .inl fc)), (qnegative, .inl (cZ, 8, .inl fn)), (qkept, .inl (cI, 320, .inl K)), (qnum, .inl (cI, 80, .inl (dg V0))), (qden, .inl (cI, 80, .inl (dg (1 * 10 ^ (10 - tdig c0))))), (qquo, .inl (cI, 80, .inl (dg (fmQ c0 n0 V0)))), (qrem, .inl (cI, 80, .inl (dg (V0 % (1 * 10 ^ (10 - tdig c0)))))), (qother, .inl (cI, 80, .inl fo3))] 0 0 139 [(6, .int (iI 0)), (5, .int (iI (bz (n0 && decide (0 < fmQ c0 n0 V0))))), (4, .int (iI 1)), (3, .int (iI c0)), (0, .ref h), (1, .int (iI ((α : Nat) : Int))), (2, .int (iI st))] [.int (iI ((tdig c0 : Nat) : Int)), .ref h]
              refine go_iload_n O dX4_format_139 rfl 6 rfl 140 rfl ?_
              refine go_iload O dX4_format_140 1 rfl 142 rfl ?_
              refine go_callvV (As := [.int (iI ((tdig c0 : Nat) : Int)), .int (iI st), .int (iI (bz (n0 && decide (0 < fmQ c0 n0 V0))))]) (rest := []) (wr := [(qcurrency, .inl (cI, 8, .inl fc)), (qnegative, .inl (cZ, 8, .inl fn)), (qkept, .inl (cI, 320, .inl K)), (qnum, .inl (cI, 80, .inl (dg V0))), (qden, .inl (cI, 80, .inl (dg (1 * 10 ^ (10 - tdig c0))))), (qrem, .inl (cI, 80, .inl (dg (V0 % (1 * 10 ^ (10 - tdig c0)))))), (qother, .inl (cI, 80, .inl fo3))]) O hK hE (c_X4_putNumber E hE h p s m qcurrency qisWide qnegative qkept qratios qtext qnum qbase qden qquo qrem qother qunits qparts qover qgiven qread cI (sA1 + 1) at0 wr dc be rc rn (txs tA1 sA1 32) (fmQ c0 n0 V0) (tdig c0) st (n0 && decide (0 < fmQ c0 n0 V0)) htd (by omega) (fmQ_bd hV0) (by have := numL_le (st := st) (mi := (n0 && decide (0 < fmQ c0 n0 V0))) htd (fmQ_bd (c := c0) (n := n0) hV0); omega)) mlX4_176 imX4_putNumber seX4_putNumber inX4 cdX4_putNumber 3 (by decide +kernel) ⟨Nat.le_of_ble_eq_true rfl, Nat.le_of_ble_eq_true rfl⟩ 0 rfl rfl [0] rfl [0, 1, 7] rfl (by decide) [2, 3, 4, 5, 6, 8, 9] rfl (by decide) (by decide) rfl rfl (Nat.le_of_ble_eq_true rfl) ⟨Nat.zero_le _, Nat.zero_le _⟩ dX4_format_142 145 rfl (fun u hu => ?_)
              obtain ⟨tN, sN⟩ := u
              have hN := tapp_sz (numL (fmQ c0 n0 V0) (tdig c0) st (n0 && decide (0 < fmQ c0 n0 V0))) ((txs tA1 sA1 32), sA1 + 1)
              rw [← hu] at hN
              have hnu := hu
              have hNL : sN = sA1 + 1 + (numL (fmQ c0 n0 V0) (tdig c0) st (n0 && decide (0 < fmQ c0 n0 V0))).length := hN
              have hnl := numL_le (st := st) (mi := (n0 && decide (0 < fmQ c0 n0 V0))) htd (fmQ_bd (c := c0) (n := n0) hV0)
              show TGo X [(qcurrency, .inl (cI, 8, .inl fc)), (qnegative, .inl (cZ, 8, .inl fn)), (qkept, .inl (cI, 320, .inl K)), (qnum, .inl (cI, 80, .inl (dg V0))), (qden, .inl (cI, 80, .inl (dg (1 * 10 ^ (10 - tdig c0))))), (qrem, .inl (cI, 80, .inl (dg (V0 % (1 * 10 ^ (10 - tdig c0)))))), (qother, .inl (cI, 80, .inl fo3)), (h, .inr (4, MF p s m qcurrency qisWide qnegative qkept qratios qtext qnum qbase qden qquo qrem qother qunits qparts qover qgiven qread ((sN : Nat) : Int) at0 wr dc be rc rn)), (qtext, .inl (cI, 48, .inl (fun j => iI (tN j)))), (qquo, .inl (cI, 80, .inl (dg (fmQ c0 n0 V0))))] 0 0 145 [(6, .int (iI 0)), (5, .int (iI (bz (n0 && decide (0 < fmQ c0 n0 V0))))), (4, .int (iI 1)), (3, .int (iI c0)), (0, .ref h), (1, .int (iI ((α : Nat) : Int))), (2, .int (iI st))] []
              refine TGo.sub (ws' := [(h, .inr (4, MF p s m qcurrency qisWide qnegative qkept qratios qtext qnum qbase qden qquo qrem qother qunits qparts qover qgiven qread ((sN : Nat) : Int) at0 wr dc be rc rn)), (qtext, .inl (cI, 48, .inl (fun j => iI (tN j)))), (qcurrency, .inl (cI, 8, .inl fc)), (qnegative, .inl (cZ, 8, .inl fn)), (qkept, .inl (cI, 320, .inl K)), (qnum, .inl (cI, 80, .inl (dg V0))), (qden, .inl (cI, 80, .inl (dg (1 * 10 ^ (10 - tdig c0))))), (qquo, .inl (cI, 80, .inl (dg (fmQ c0 n0 V0)))), (qrem, .inl (cI, 80, .inl (dg (V0 % (1 * 10 ^ (10 - tdig c0)))))), (qother, .inl (cI, 80, .inl fo3))]) [7, 8, 0, 1, 2, 3, 4, 9, 5, 6] (by decide) rfl ?_
              refine go_iload O dX4_format_145 0 rfl 147 rfl ?_
              refine go_if_eq O dX4_format_147 161 (by decide) 150 rfl (by omega) (fun h147 => ?_) (fun h147 => by omega)
              refine go_aload_n O dX4_format_161 rfl 4 rfl 162 rfl ?_
              refine go_get O hK dX4_format_162 hinX4 0 rfl rfl 9 (by decide) flX4_166 rfl 165 rfl ?_
              have he := spFmt_s (sz := sz) hb2 hq (show (tN, sN) = tapp (tx, 0) (fmtL c0 (fmQ c0 n0 V0) st (n0 && decide (0 < fmQ c0 n0 V0))) from (by rw [fmtL_0 (by omega), tapp_app, ← hc1]; exact hnu))
              exact hret _ _ _ ((tN, sN), dg V0, dg (1 * 10 ^ (10 - tdig c0)), dg (fmQ c0 n0 V0), dg (V0 % (1 * 10 ^ (10 - tdig c0))), fo3) dX4_format_165 rfl ⟨by rw [he], by rw [he]⟩
            · refine go_iconst O dX4_format_106 107 rfl ?_
              refine go_goto O dX4_format_107 111 (by decide) ?_
              refine go_istore O dX4_format_111 (by decide) [(6, .int (iI 1)), (5, .int (iI (bz (n0 && decide (0 < fmQ c0 n0 V0))))), (4, .int (iI 1)), (3, .int (iI c0)), (0, .ref h), (1, .int (iI ((α : Nat) : Int))), (2, .int (iI st))] rfl 113 rfl ?_
              refine go_aload_n O dX4_format_113 rfl 4 rfl 114 rfl ?_
              refine go_iconst O dX4_format_114 115 rfl ?_
              refine go_put O hK dX4_format_115 hinX4 tyX4 tyX4_ok nmX4 0 rfl rfl 9 (by decide) flX4_166 rfl rfl rfl rfl (Nat.le_of_ble_eq_true rfl) [(h, .inr (4, MF p s m qcurrency qisWide qnegative qkept qratios qtext qnum qbase qden qquo qrem qother qunits qparts qover qgiven qread 0 at0 wr dc be rc rn)), (qtext, .inl (cI, 48, .inl (fun j => iI (tx j)))), (qcurrency, .inl (cI, 8, .inl fc)), (qnegative, .inl (cZ, 8, .inl fn)), (qkept, .inl (cI, 320, .inl K)), (qnum, .inl (cI, 80, .inl (dg V0))), (qden, .inl (cI, 80, .inl (dg (1 * 10 ^ (10 - tdig c0))))), (qquo, .inl (cI, 80, .inl (dg (fmQ c0 n0 V0)))), (qrem, .inl (cI, 80, .inl (dg (V0 % (1 * 10 ^ (10 - tdig c0)))))), (qother, .inl (cI, 80, .inl fo3))] rfl 118 rfl ?_
              refine go_iload O dX4_format_118 0 rfl 120 rfl ?_
              refine go_if_ne O dX4_format_120 134 (by decide) 123 rfl (by omega) (fun h120 => ?_) (fun h120 => by omega)
              refine go_aload_n O dX4_format_134 rfl 4 rfl 135 rfl ?_
              refine go_iload_n O dX4_format_135 rfl 3 rfl 136 rfl ?_
              refine go_calliS (rest := [.ref h]) (wr := [(h, .inr (4, MF p s m qcurrency qisWide qnegative qkept qratios qtext qnum qbase qden qquo qrem qother qunits qparts qover qgiven qread 0 at0 wr dc be rc rn)), (qtext, .inl (cI, 48, .inl (fun j => iI (tx j)))), (qcurrency, .inl (cI, 8, .inl fc)), (qnegative, .inl (cZ, 8, .inl fn)), (qkept, .inl (cI, 320, .inl K)), (qnum, .inl (cI, 80, .inl (dg V0))), (qden, .inl (cI, 80, .inl (dg (1 * 10 ^ (10 - tdig c0))))), (qquo, .inl (cI, 80, .inl (dg (fmQ c0 n0 V0)))), (qrem, .inl (cI, 80, .inl (dg (V0 % (1 * 10 ^ (10 - tdig c0)))))), (qother, .inl (cI, 80, .inl fo3))]) O hK hE (c_X4_digitsOf E hE c0 (by omega)) mlX4_141 smX4_digitsOf inX4 cdX4_digitsOf 1 (by decide +kernel) ⟨Nat.le_of_ble_eq_true rfl, Nat.le_of_ble_eq_true rfl⟩ [] rfl [] rfl (by decide) [0, 1, 2, 3, 4, 5, 6, 7, 8, 9] rfl (by decide) (by decide) rfl rfl (Nat.le_of_ble_eq_true rfl) ⟨Nat.zero_le _, Nat.zero_le _⟩ dX4_format_136 139 rfl (fun z u hu => ?_)
              subst hu
              show TGo X [(h, .inr (4, MF p s m qcurrency qisWide qnegative qkept qratios qtext qnum qbase qden qquo qrem qother qunits qparts qover qgiven qread 0 at0 wr dc be rc rn)), (qtext, .inl (cI, 48, .inl (fun j => iI (tx j)))), (qcurrency, .inl (cI, 8, .inl fc)), (qnegative, .inl (cZ, 8, .inl fn)), (qkept, .inl (cI, 320, .inl K)), (qnum, .inl (cI, 80, .inl (dg V0))), (qden, .inl (cI, 80, .inl (dg (1 * 10 ^ (10 - tdig c0))))), (qquo, .inl (cI, 80, .inl (dg (fmQ c0 n0 V0)))), (qrem, .inl (cI, 80, .inl (dg (V0 % (1 * 10 ^ (10 - tdig c0)))))), (qother, .inl (cI, 80, .inl fo3))] 0 0 139 [(6, .int (iI 1)), (5, .int (iI (bz (n0 && decide (0 < fmQ c0 n0 V0))))), (4, .int (iI 1)), (3, .int (iI c0)), (0, .ref h), (1, .int (iI ((α : Nat) : Int))), (2, .int (iI st))] [.int (iI ((tdig c0 : Nat) : Int)), .ref h]
              refine go_iload_n O dX4_format_139 rfl 6 rfl 140 rfl ?_
              refine go_iload O dX4_format_140 1 rfl 142 rfl ?_
              refine go_callvV (As := [.int (iI ((tdig c0 : Nat) : Int)), .int (iI st), .int (iI (bz (n0 && decide (0 < fmQ c0 n0 V0))))]) (rest := []) (wr := [(qcurrency, .inl (cI, 8, .inl fc)), (qnegative, .inl (cZ, 8, .inl fn)), (qkept, .inl (cI, 320, .inl K)), (qnum, .inl (cI, 80, .inl (dg V0))), (qden, .inl (cI, 80, .inl (dg (1 * 10 ^ (10 - tdig c0))))), (qrem, .inl (cI, 80, .inl (dg (V0 % (1 * 10 ^ (10 - tdig c0)))))), (qother, .inl (cI, 80, .inl fo3))]) O hK hE (c_X4_putNumber E hE h p s m qcurrency qisWide qnegative qkept qratios qtext qnum qbase qden qquo qrem qother qunits qparts qover qgiven qread cI 0 at0 wr dc be rc rn tx (fmQ c0 n0 V0) (tdig c0) st (n0 && decide (0 < fmQ c0 n0 V0)) htd (by omega) (fmQ_bd hV0) (by have := numL_le (st := st) (mi := (n0 && decide (0 < fmQ c0 n0 V0))) htd (fmQ_bd (c := c0) (n := n0) hV0); omega)) mlX4_176 imX4_putNumber seX4_putNumber inX4 cdX4_putNumber 3 (by decide +kernel) ⟨Nat.le_of_ble_eq_true rfl, Nat.le_of_ble_eq_true rfl⟩ 0 rfl rfl [0] rfl [0, 1, 7] rfl (by decide) [2, 3, 4, 5, 6, 8, 9] rfl (by decide) (by decide) rfl rfl (Nat.le_of_ble_eq_true rfl) ⟨Nat.zero_le _, Nat.zero_le _⟩ dX4_format_142 145 rfl (fun u hu => ?_)
              obtain ⟨tN, sN⟩ := u
              have hN := tapp_sz (numL (fmQ c0 n0 V0) (tdig c0) st (n0 && decide (0 < fmQ c0 n0 V0))) (tx, 0)
              rw [← hu] at hN
              have hnu := hu
              have hNL : sN = 0 + (numL (fmQ c0 n0 V0) (tdig c0) st (n0 && decide (0 < fmQ c0 n0 V0))).length := hN
              have hnl := numL_le (st := st) (mi := (n0 && decide (0 < fmQ c0 n0 V0))) htd (fmQ_bd (c := c0) (n := n0) hV0)
              show TGo X [(qcurrency, .inl (cI, 8, .inl fc)), (qnegative, .inl (cZ, 8, .inl fn)), (qkept, .inl (cI, 320, .inl K)), (qnum, .inl (cI, 80, .inl (dg V0))), (qden, .inl (cI, 80, .inl (dg (1 * 10 ^ (10 - tdig c0))))), (qrem, .inl (cI, 80, .inl (dg (V0 % (1 * 10 ^ (10 - tdig c0)))))), (qother, .inl (cI, 80, .inl fo3)), (h, .inr (4, MF p s m qcurrency qisWide qnegative qkept qratios qtext qnum qbase qden qquo qrem qother qunits qparts qover qgiven qread ((sN : Nat) : Int) at0 wr dc be rc rn)), (qtext, .inl (cI, 48, .inl (fun j => iI (tN j)))), (qquo, .inl (cI, 80, .inl (dg (fmQ c0 n0 V0))))] 0 0 145 [(6, .int (iI 1)), (5, .int (iI (bz (n0 && decide (0 < fmQ c0 n0 V0))))), (4, .int (iI 1)), (3, .int (iI c0)), (0, .ref h), (1, .int (iI ((α : Nat) : Int))), (2, .int (iI st))] []
              refine TGo.sub (ws' := [(h, .inr (4, MF p s m qcurrency qisWide qnegative qkept qratios qtext qnum qbase qden qquo qrem qother qunits qparts qover qgiven qread ((sN : Nat) : Int) at0 wr dc be rc rn)), (qtext, .inl (cI, 48, .inl (fun j => iI (tN j)))), (qcurrency, .inl (cI, 8, .inl fc)), (qnegative, .inl (cZ, 8, .inl fn)), (qkept, .inl (cI, 320, .inl K)), (qnum, .inl (cI, 80, .inl (dg V0))), (qden, .inl (cI, 80, .inl (dg (1 * 10 ^ (10 - tdig c0))))), (qquo, .inl (cI, 80, .inl (dg (fmQ c0 n0 V0)))), (qrem, .inl (cI, 80, .inl (dg (V0 % (1 * 10 ^ (10 - tdig c0)))))), (qother, .inl (cI, 80, .inl fo3))]) [7, 8, 0, 1, 2, 3, 4, 9, 5, 6] (by decide) rfl ?_
              refine go_iload O dX4_format_145 0 rfl 147 rfl ?_
              refine go_if_eq O dX4_format_147 161 (by decide) 150 rfl (by omega) (fun h147 => by omega) (fun h147 => ?_)
              refine go_aload_n O dX4_format_150 rfl 4 rfl 151 rfl ?_
              refine go_bipush O dX4_format_151 (by decide) 153 rfl ?_
              refine go_callvV (As := [.int (iI 32)]) (rest := []) (wr := [(qcurrency, .inl (cI, 8, .inl fc)), (qnegative, .inl (cZ, 8, .inl fn)), (qkept, .inl (cI, 320, .inl K)), (qnum, .inl (cI, 80, .inl (dg V0))), (qden, .inl (cI, 80, .inl (dg (1 * 10 ^ (10 - tdig c0))))), (qquo, .inl (cI, 80, .inl (dg (fmQ c0 n0 V0)))), (qrem, .inl (cI, 80, .inl (dg (V0 % (1 * 10 ^ (10 - tdig c0)))))), (qother, .inl (cI, 80, .inl fo3))]) O hK hE (c_X4_put E hE h p s m qcurrency qisWide qnegative qkept qratios qtext qnum qbase qden qquo qrem qother qunits qparts qover qgiven qread cI sN at0 wr dc be rc rn tN 32 (by omega)) mlX4_169 imX4_put seX4_put inX4 cdX4_put 1 (by decide +kernel) ⟨Nat.le_of_ble_eq_true rfl, Nat.le_of_ble_eq_true rfl⟩ 0 rfl rfl [0] rfl [0, 1] rfl (by decide) [2, 3, 4, 5, 6, 7, 8, 9] rfl (by decide) (by decide) rfl rfl (Nat.le_of_ble_eq_true rfl) ⟨Nat.zero_le _, Nat.zero_le _⟩ dX4_format_153 156 rfl (fun u hu => ?_)
              show TGo X [(qcurrency, .inl (cI, 8, .inl fc)), (qnegative, .inl (cZ, 8, .inl fn)), (qkept, .inl (cI, 320, .inl K)), (qnum, .inl (cI, 80, .inl (dg V0))), (qden, .inl (cI, 80, .inl (dg (1 * 10 ^ (10 - tdig c0))))), (qquo, .inl (cI, 80, .inl (dg (fmQ c0 n0 V0)))), (qrem, .inl (cI, 80, .inl (dg (V0 % (1 * 10 ^ (10 - tdig c0)))))), (qother, .inl (cI, 80, .inl fo3)), (h, .inr (4, MF p s m qcurrency qisWide qnegative qkept qratios qtext qnum qbase qden qquo qrem qother qunits qparts qover qgiven qread ((sN + 1 : Nat) : Int) at0 wr dc be rc rn)), (qtext, .inl (cI, 48, .inl (fun j => iI ((txs tN sN 32) j))))] 0 0 156 [(6, .int (iI 1)), (5, .int (iI (bz (n0 && decide (0 < fmQ c0 n0 V0))))), (4, .int (iI 1)), (3, .int (iI c0)), (0, .ref h), (1, .int (iI ((α : Nat) : Int))), (2, .int (iI st))] []
              refine TGo.sub (ws' := [(h, .inr (4, MF p s m qcurrency qisWide qnegative qkept qratios qtext qnum qbase qden qquo qrem qother qunits qparts qover qgiven qread ((sN + 1 : Nat) : Int) at0 wr dc be rc rn)), (qtext, .inl (cI, 48, .inl (fun j => iI ((txs tN sN 32) j)))), (qcurrency, .inl (cI, 8, .inl fc)), (qnegative, .inl (cZ, 8, .inl fn)), (qkept, .inl (cI, 320, .inl K)), (qnum, .inl (cI, 80, .inl (dg V0))), (qden, .inl (cI, 80, .inl (dg (1 * 10 ^ (10 - tdig c0))))), (qquo, .inl (cI, 80, .inl (dg (fmQ c0 n0 V0)))), (qrem, .inl (cI, 80, .inl (dg (V0 % (1 * 10 ^ (10 - tdig c0)))))), (qother, .inl (cI, 80, .inl fo3))]) [8, 9, 0, 1, 2, 3, 4, 5, 6, 7] (by decide) rfl ?_
              refine go_aload_n O dX4_format_156 rfl 4 rfl 157 rfl ?_
              refine go_iload_n O dX4_format_157 rfl 3 rfl 158 rfl ?_
              refine go_callvV (As := [.int (iI c0)]) (rest := []) (wr := [(qcurrency, .inl (cI, 8, .inl fc)), (qnegative, .inl (cZ, 8, .inl fn)), (qkept, .inl (cI, 320, .inl K)), (qnum, .inl (cI, 80, .inl (dg V0))), (qden, .inl (cI, 80, .inl (dg (1 * 10 ^ (10 - tdig c0))))), (qquo, .inl (cI, 80, .inl (dg (fmQ c0 n0 V0)))), (qrem, .inl (cI, 80, .inl (dg (V0 % (1 * 10 ^ (10 - tdig c0)))))), (qother, .inl (cI, 80, .inl fo3))]) O hK hE (c_X4_putCode E hE h p s m qcurrency qisWide qnegative qkept qratios qtext qnum qbase qden qquo qrem qother qunits qparts qover qgiven qread cI (sN + 1) at0 wr dc be rc rn (txs tN sN 32) c0 (by omega)) mlX4_173 imX4_putCode seX4_putCode inX4 cdX4_putCode 1 (by decide +kernel) ⟨Nat.le_of_ble_eq_true rfl, Nat.le_of_ble_eq_true rfl⟩ 0 rfl rfl [0] rfl [0, 1] rfl (by decide) [2, 3, 4, 5, 6, 7, 8, 9] rfl (by decide) (by decide) rfl rfl (Nat.le_of_ble_eq_true rfl) ⟨Nat.zero_le _, Nat.zero_le _⟩ dX4_format_158 161 rfl (fun u hu => ?_)
              obtain ⟨tA2, sA2⟩ := u
              have hA2 := tapp_sz (codL c0) ((txs tN sN 32), sN + 1)
              rw [← hu] at hA2
              have hc2 := hu
              have hAL2 : sA2 = sN + 1 + 3 := hA2
              show TGo X [(qcurrency, .inl (cI, 8, .inl fc)), (qnegative, .inl (cZ, 8, .inl fn)), (qkept, .inl (cI, 320, .inl K)), (qnum, .inl (cI, 80, .inl (dg V0))), (qden, .inl (cI, 80, .inl (dg (1 * 10 ^ (10 - tdig c0))))), (qquo, .inl (cI, 80, .inl (dg (fmQ c0 n0 V0)))), (qrem, .inl (cI, 80, .inl (dg (V0 % (1 * 10 ^ (10 - tdig c0)))))), (qother, .inl (cI, 80, .inl fo3)), (h, .inr (4, MF p s m qcurrency qisWide qnegative qkept qratios qtext qnum qbase qden qquo qrem qother qunits qparts qover qgiven qread ((sA2 : Nat) : Int) at0 wr dc be rc rn)), (qtext, .inl (cI, 48, .inl (fun j => iI (tA2 j))))] 0 0 161 [(6, .int (iI 1)), (5, .int (iI (bz (n0 && decide (0 < fmQ c0 n0 V0))))), (4, .int (iI 1)), (3, .int (iI c0)), (0, .ref h), (1, .int (iI ((α : Nat) : Int))), (2, .int (iI st))] []
              refine TGo.sub (ws' := [(h, .inr (4, MF p s m qcurrency qisWide qnegative qkept qratios qtext qnum qbase qden qquo qrem qother qunits qparts qover qgiven qread ((sA2 : Nat) : Int) at0 wr dc be rc rn)), (qtext, .inl (cI, 48, .inl (fun j => iI (tA2 j)))), (qcurrency, .inl (cI, 8, .inl fc)), (qnegative, .inl (cZ, 8, .inl fn)), (qkept, .inl (cI, 320, .inl K)), (qnum, .inl (cI, 80, .inl (dg V0))), (qden, .inl (cI, 80, .inl (dg (1 * 10 ^ (10 - tdig c0))))), (qquo, .inl (cI, 80, .inl (dg (fmQ c0 n0 V0)))), (qrem, .inl (cI, 80, .inl (dg (V0 % (1 * 10 ^ (10 - tdig c0)))))), (qother, .inl (cI, 80, .inl fo3))]) [8, 9, 0, 1, 2, 3, 4, 5, 6, 7] (by decide) rfl ?_
              refine go_aload_n O dX4_format_161 rfl 4 rfl 162 rfl ?_
              refine go_get O hK dX4_format_162 hinX4 0 rfl rfl 9 (by decide) flX4_166 rfl 165 rfl ?_
              have he := spFmt_s (sz := sz) hb2 hq (show (tA2, sA2) = tapp (tx, 0) (fmtL c0 (fmQ c0 n0 V0) st (n0 && decide (0 < fmQ c0 n0 V0))) from (by rw [fmtL_1 (by omega), tapp_app, ← hnu]; exact hc2))
              exact hret _ _ _ ((tA2, sA2), dg V0, dg (1 * 10 ^ (10 - tdig c0)), dg (fmQ c0 n0 V0), dg (V0 % (1 * 10 ^ (10 - tdig c0))), fo3) dX4_format_165 rfl ⟨by rw [he], by rw [he]⟩
          · refine go_iconst O dX4_format_92 93 rfl ?_
            refine go_goto O dX4_format_93 97 (by decide) ?_
            refine TGo.topi (y := bz (n0 && decide (0 < fmQ c0 n0 V0))) (band_1 (by omega) (by omega)) ?_
            refine go_istore O dX4_format_97 (by decide) [(5, .int (iI (bz (n0 && decide (0 < fmQ c0 n0 V0))))), (4, .int (iI 1)), (3, .int (iI c0)), (0, .ref h), (1, .int (iI ((α : Nat) : Int))), (2, .int (iI st))] rfl 99 rfl ?_
            refine go_iload_n O dX4_format_99 rfl 5 rfl 100 rfl ?_
            refine go_iconst O dX4_format_100 101 rfl ?_
            refine go_irem O dX4_format_101 (by omega) (by omega) (by omega) (by omega) (st % 4) rfl 102 rfl ?_
            refine go_iconst O dX4_format_102 103 rfl ?_
            refine go_icmp_lt O dX4_format_103 110 (by decide) 106 rfl (by omega) (by omega) (fun h103 => ?_) (fun h103 => ?_)
            · refine go_iconst O dX4_format_110 111 rfl ?_
              refine go_istore O dX4_format_111 (by decide) [(6, .int (iI 0)), (5, .int (iI (bz (n0 && decide (0 < fmQ c0 n0 V0))))), (4, .int (iI 1)), (3, .int (iI c0)), (0, .ref h), (1, .int (iI ((α : Nat) : Int))), (2, .int (iI st))] rfl 113 rfl ?_
              refine go_aload_n O dX4_format_113 rfl 4 rfl 114 rfl ?_
              refine go_iconst O dX4_format_114 115 rfl ?_
              refine go_put O hK dX4_format_115 hinX4 tyX4 tyX4_ok nmX4 0 rfl rfl 9 (by decide) flX4_166 rfl rfl rfl rfl (Nat.le_of_ble_eq_true rfl) [(h, .inr (4, MF p s m qcurrency qisWide qnegative qkept qratios qtext qnum qbase qden qquo qrem qother qunits qparts qover qgiven qread 0 at0 wr dc be rc rn)), (qtext, .inl (cI, 48, .inl (fun j => iI (tx j)))), (qcurrency, .inl (cI, 8, .inl fc)), (qnegative, .inl (cZ, 8, .inl fn)), (qkept, .inl (cI, 320, .inl K)), (qnum, .inl (cI, 80, .inl (dg V0))), (qden, .inl (cI, 80, .inl (dg (1 * 10 ^ (10 - tdig c0))))), (qquo, .inl (cI, 80, .inl (dg (fmQ c0 n0 V0)))), (qrem, .inl (cI, 80, .inl (dg (V0 % (1 * 10 ^ (10 - tdig c0)))))), (qother, .inl (cI, 80, .inl fo3))] rfl 118 rfl ?_
              refine go_iload O dX4_format_118 0 rfl 120 rfl ?_
              refine go_if_ne O dX4_format_120 134 (by decide) 123 rfl (by omega) (fun h120 => by omega) (fun h120 => ?_)
              refine go_aload_n O dX4_format_123 rfl 4 rfl 124 rfl ?_
              refine go_iload_n O dX4_format_124 rfl 3 rfl 125 rfl ?_
              refine go_callvV (As := [.int (iI c0)]) (rest := []) (wr := [(qcurrency, .inl (cI, 8, .inl fc)), (qnegative, .inl (cZ, 8, .inl fn)), (qkept, .inl (cI, 320, .inl K)), (qnum, .inl (cI, 80, .inl (dg V0))), (qden, .inl (cI, 80, .inl (dg (1 * 10 ^ (10 - tdig c0))))), (qquo, .inl (cI, 80, .inl (dg (fmQ c0 n0 V0)))), (qrem, .inl (cI, 80, .inl (dg (V0 % (1 * 10 ^ (10 - tdig c0)))))), (qother, .inl (cI, 80, .inl fo3))]) O hK hE (c_X4_putCode E hE h p s m qcurrency qisWide qnegative qkept qratios qtext qnum qbase qden qquo qrem qother qunits qparts qover qgiven qread cI 0 at0 wr dc be rc rn tx c0 (by omega)) mlX4_173 imX4_putCode seX4_putCode inX4 cdX4_putCode 1 (by decide +kernel) ⟨Nat.le_of_ble_eq_true rfl, Nat.le_of_ble_eq_true rfl⟩ 0 rfl rfl [0] rfl [0, 1] rfl (by decide) [2, 3, 4, 5, 6, 7, 8, 9] rfl (by decide) (by decide) rfl rfl (Nat.le_of_ble_eq_true rfl) ⟨Nat.zero_le _, Nat.zero_le _⟩ dX4_format_125 128 rfl (fun u hu => ?_)
              obtain ⟨tA1, sA1⟩ := u
              have hA1 := tapp_sz (codL c0) (tx, 0)
              rw [← hu] at hA1
              have hc1 := hu
              have hAL1 : sA1 = 0 + 3 := hA1
              show TGo X [(qcurrency, .inl (cI, 8, .inl fc)), (qnegative, .inl (cZ, 8, .inl fn)), (qkept, .inl (cI, 320, .inl K)), (qnum, .inl (cI, 80, .inl (dg V0))), (qden, .inl (cI, 80, .inl (dg (1 * 10 ^ (10 - tdig c0))))), (qquo, .inl (cI, 80, .inl (dg (fmQ c0 n0 V0)))), (qrem, .inl (cI, 80, .inl (dg (V0 % (1 * 10 ^ (10 - tdig c0)))))), (qother, .inl (cI, 80, .inl fo3)), (h, .inr (4, MF p s m qcurrency qisWide qnegative qkept qratios qtext qnum qbase qden qquo qrem qother qunits qparts qover qgiven qread ((sA1 : Nat) : Int) at0 wr dc be rc rn)), (qtext, .inl (cI, 48, .inl (fun j => iI (tA1 j))))] 0 0 128 [(6, .int (iI 0)), (5, .int (iI (bz (n0 && decide (0 < fmQ c0 n0 V0))))), (4, .int (iI 1)), (3, .int (iI c0)), (0, .ref h), (1, .int (iI ((α : Nat) : Int))), (2, .int (iI st))] []
              refine TGo.sub (ws' := [(h, .inr (4, MF p s m qcurrency qisWide qnegative qkept qratios qtext qnum qbase qden qquo qrem qother qunits qparts qover qgiven qread ((sA1 : Nat) : Int) at0 wr dc be rc rn)), (qtext, .inl (cI, 48, .inl (fun j => iI (tA1 j)))), (qcurrency, .inl (cI, 8, .inl fc)), (qnegative, .inl (cZ, 8, .inl fn)), (qkept, .inl (cI, 320, .inl K)), (qnum, .inl (cI, 80, .inl (dg V0))), (qden, .inl (cI, 80, .inl (dg (1 * 10 ^ (10 - tdig c0))))), (qquo, .inl (cI, 80, .inl (dg (fmQ c0 n0 V0)))), (qrem, .inl (cI, 80, .inl (dg (V0 % (1 * 10 ^ (10 - tdig c0)))))), (qother, .inl (cI, 80, .inl fo3))]) [8, 9, 0, 1, 2, 3, 4, 5, 6, 7] (by decide) rfl ?_
              refine go_aload_n O dX4_format_128 rfl 4 rfl 129 rfl ?_
              refine go_bipush O dX4_format_129 (by decide) 131 rfl ?_
              refine go_callvV (As := [.int (iI 32)]) (rest := []) (wr := [(qcurrency, .inl (cI, 8, .inl fc)), (qnegative, .inl (cZ, 8, .inl fn)), (qkept, .inl (cI, 320, .inl K)), (qnum, .inl (cI, 80, .inl (dg V0))), (qden, .inl (cI, 80, .inl (dg (1 * 10 ^ (10 - tdig c0))))), (qquo, .inl (cI, 80, .inl (dg (fmQ c0 n0 V0)))), (qrem, .inl (cI, 80, .inl (dg (V0 % (1 * 10 ^ (10 - tdig c0)))))), (qother, .inl (cI, 80, .inl fo3))]) O hK hE (c_X4_put E hE h p s m qcurrency qisWide qnegative qkept qratios qtext qnum qbase qden qquo qrem qother qunits qparts qover qgiven qread cI sA1 at0 wr dc be rc rn tA1 32 (by omega)) mlX4_169 imX4_put seX4_put inX4 cdX4_put 1 (by decide +kernel) ⟨Nat.le_of_ble_eq_true rfl, Nat.le_of_ble_eq_true rfl⟩ 0 rfl rfl [0] rfl [0, 1] rfl (by decide) [2, 3, 4, 5, 6, 7, 8, 9] rfl (by decide) (by decide) rfl rfl (Nat.le_of_ble_eq_true rfl) ⟨Nat.zero_le _, Nat.zero_le _⟩ dX4_format_131 134 rfl (fun u hu => ?_)
              show TGo X [(qcurrency, .inl (cI, 8, .inl fc)), (qnegative, .inl (cZ, 8, .inl fn)), (qkept, .inl (cI, 320, .inl K)), (qnum, .inl (cI, 80, .inl (dg V0))), (qden, .inl (cI, 80, .inl (dg (1 * 10 ^ (10 - tdig c0))))), (qquo, .inl (cI, 80, .inl (dg (fmQ c0 n0 V0)))), (qrem, .inl (cI, 80, .inl (dg (V0 % (1 * 10 ^ (10 - tdig c0)))))), (qother, .inl (cI, 80, .inl fo3)), (h, .inr (4, MF p s m qcurrency qisWide qnegative qkept qratios qtext qnum qbase qden qquo qrem qother qunits qparts qover qgiven qread ((sA1 + 1 : Nat) : Int) at0 wr dc be rc rn)), (qtext, .inl (cI, 48, .inl (fun j => iI ((txs tA1 sA1 32) j))))] 0 0 134 [(6, .int (iI 0)), (5, .int (iI (bz (n0 && decide (0 < fmQ c0 n0 V0))))), (4, .int (iI 1)), (3, .int (iI c0)), (0, .ref h), (1, .int (iI ((α : Nat) : Int))), (2, .int (iI st))] []
              refine TGo.sub (ws' := [(h, .inr (4, MF p s m qcurrency qisWide qnegative qkept qratios qtext qnum qbase qden qquo qrem qother qunits qparts qover qgiven qread ((sA1 + 1 : Nat) : Int) at0 wr dc be rc rn)), (qtext, .inl (cI, 48, .inl (fun j => iI ((txs tA1 sA1 32) j)))), (qcurrency, .inl (cI, 8, .inl fc)), (qnegative, .inl (cZ, 8, .inl fn)), (qkept, .inl (cI, 320, .inl K)), (qnum, .inl (cI, 80, .inl (dg V0))), (qden, .inl (cI, 80, .inl (dg (1 * 10 ^ (10 - tdig c0))))), (qquo, .inl (cI, 80, .inl (dg (fmQ c0 n0 V0)))), (qrem, .inl (cI, 80, .inl (dg (V0 % (1 * 10 ^ (10 - tdig c0)))))), (qother, .inl (cI, 80, .inl fo3))]) [8, 9, 0, 1, 2, 3, 4, 5, 6, 7] (by decide) rfl ?_
              refine go_aload_n O dX4_format_134 rfl 4 rfl 135 rfl ?_
              refine go_iload_n O dX4_format_135 rfl 3 rfl 136 rfl ?_
              refine go_calliS (rest := [.ref h]) (wr := [(h, .inr (4, MF p s m qcurrency qisWide qnegative qkept qratios qtext qnum qbase qden qquo qrem qother qunits qparts qover qgiven qread ((sA1 + 1 : Nat) : Int) at0 wr dc be rc rn)), (qtext, .inl (cI, 48, .inl (fun j => iI ((txs tA1 sA1 32) j)))), (qcurrency, .inl (cI, 8, .inl fc)), (qnegative, .inl (cZ, 8, .inl fn)), (qkept, .inl (cI, 320, .inl K)), (qnum, .inl (cI, 80, .inl (dg V0))), (qden, .inl (cI, 80, .inl (dg (1 * 10 ^ (10 - tdig c0))))), (qquo, .inl (cI, 80, .inl (dg (fmQ c0 n0 V0)))), (qrem, .inl (cI, 80, .inl (dg (V0 % (1 * 10 ^ (10 - tdig c0)))))), (qother, .inl (cI, 80, .inl fo3))]) O hK hE (c_X4_digitsOf E hE c0 (by omega)) mlX4_141 smX4_digitsOf inX4 cdX4_digitsOf 1 (by decide +kernel) ⟨Nat.le_of_ble_eq_true rfl, Nat.le_of_ble_eq_true rfl⟩ [] rfl [] rfl (by decide) [0, 1, 2, 3, 4, 5, 6, 7, 8, 9] rfl (by decide) (by decide) rfl rfl (Nat.le_of_ble_eq_true rfl) ⟨Nat.zero_le _, Nat.zero_le _⟩ dX4_format_136 139 rfl (fun z u hu => ?_)
              subst hu
              show TGo X [(h, .inr (4, MF p s m qcurrency qisWide qnegative qkept qratios qtext qnum qbase qden qquo qrem qother qunits qparts qover qgiven qread ((sA1 + 1 : Nat) : Int) at0 wr dc be rc rn)), (qtext, .inl (cI, 48, .inl (fun j => iI ((txs tA1 sA1 32) j)))), (qcurrency, .inl (cI, 8, .inl fc)), (qnegative, .inl (cZ, 8, .inl fn)), (qkept, .inl (cI, 320, .inl K)), (qnum, .inl (cI, 80, .inl (dg V0))), (qden, .inl (cI, 80, .inl (dg (1 * 10 ^ (10 - tdig c0))))), (qquo, .inl (cI, 80, .inl (dg (fmQ c0 n0 V0)))), (qrem, .inl (cI, 80, .inl (dg (V0 % (1 * 10 ^ (10 - tdig c0)))))), (qother, .inl (cI, 80, .inl fo3))] 0 0 139 [(6, .int (iI 0)), (5, .int (iI (bz (n0 && decide (0 < fmQ c0 n0 V0))))), (4, .int (iI 1)), (3, .int (iI c0)), (0, .ref h), (1, .int (iI ((α : Nat) : Int))), (2, .int (iI st))] [.int (iI ((tdig c0 : Nat) : Int)), .ref h]
              refine go_iload_n O dX4_format_139 rfl 6 rfl 140 rfl ?_
              refine go_iload O dX4_format_140 1 rfl 142 rfl ?_
              refine go_callvV (As := [.int (iI ((tdig c0 : Nat) : Int)), .int (iI st), .int (iI (bz (n0 && decide (0 < fmQ c0 n0 V0))))]) (rest := []) (wr := [(qcurrency, .inl (cI, 8, .inl fc)), (qnegative, .inl (cZ, 8, .inl fn)), (qkept, .inl (cI, 320, .inl K)), (qnum, .inl (cI, 80, .inl (dg V0))), (qden, .inl (cI, 80, .inl (dg (1 * 10 ^ (10 - tdig c0))))), (qrem, .inl (cI, 80, .inl (dg (V0 % (1 * 10 ^ (10 - tdig c0)))))), (qother, .inl (cI, 80, .inl fo3))]) O hK hE (c_X4_putNumber E hE h p s m qcurrency qisWide qnegative qkept qratios qtext qnum qbase qden qquo qrem qother qunits qparts qover qgiven qread cI (sA1 + 1) at0 wr dc be rc rn (txs tA1 sA1 32) (fmQ c0 n0 V0) (tdig c0) st (n0 && decide (0 < fmQ c0 n0 V0)) htd (by omega) (fmQ_bd hV0) (by have := numL_le (st := st) (mi := (n0 && decide (0 < fmQ c0 n0 V0))) htd (fmQ_bd (c := c0) (n := n0) hV0); omega)) mlX4_176 imX4_putNumber seX4_putNumber inX4 cdX4_putNumber 3 (by decide +kernel) ⟨Nat.le_of_ble_eq_true rfl, Nat.le_of_ble_eq_true rfl⟩ 0 rfl rfl [0] rfl [0, 1, 7] rfl (by decide) [2, 3, 4, 5, 6, 8, 9] rfl (by decide) (by decide) rfl rfl (Nat.le_of_ble_eq_true rfl) ⟨Nat.zero_le _, Nat.zero_le _⟩ dX4_format_142 145 rfl (fun u hu => ?_)
              obtain ⟨tN, sN⟩ := u
              have hN := tapp_sz (numL (fmQ c0 n0 V0) (tdig c0) st (n0 && decide (0 < fmQ c0 n0 V0))) ((txs tA1 sA1 32), sA1 + 1)
              rw [← hu] at hN
              have hnu := hu
              have hNL : sN = sA1 + 1 + (numL (fmQ c0 n0 V0) (tdig c0) st (n0 && decide (0 < fmQ c0 n0 V0))).length := hN
              have hnl := numL_le (st := st) (mi := (n0 && decide (0 < fmQ c0 n0 V0))) htd (fmQ_bd (c := c0) (n := n0) hV0)
              show TGo X [(qcurrency, .inl (cI, 8, .inl fc)), (qnegative, .inl (cZ, 8, .inl fn)), (qkept, .inl (cI, 320, .inl K)), (qnum, .inl (cI, 80, .inl (dg V0))), (qden, .inl (cI, 80, .inl (dg (1 * 10 ^ (10 - tdig c0))))), (qrem, .inl (cI, 80, .inl (dg (V0 % (1 * 10 ^ (10 - tdig c0)))))), (qother, .inl (cI, 80, .inl fo3)), (h, .inr (4, MF p s m qcurrency qisWide qnegative qkept qratios qtext qnum qbase qden qquo qrem qother qunits qparts qover qgiven qread ((sN : Nat) : Int) at0 wr dc be rc rn)), (qtext, .inl (cI, 48, .inl (fun j => iI (tN j)))), (qquo, .inl (cI, 80, .inl (dg (fmQ c0 n0 V0))))] 0 0 145 [(6, .int (iI 0)), (5, .int (iI (bz (n0 && decide (0 < fmQ c0 n0 V0))))), (4, .int (iI 1)), (3, .int (iI c0)), (0, .ref h), (1, .int (iI ((α : Nat) : Int))), (2, .int (iI st))] []
              refine TGo.sub (ws' := [(h, .inr (4, MF p s m qcurrency qisWide qnegative qkept qratios qtext qnum qbase qden qquo qrem qother qunits qparts qover qgiven qread ((sN : Nat) : Int) at0 wr dc be rc rn)), (qtext, .inl (cI, 48, .inl (fun j => iI (tN j)))), (qcurrency, .inl (cI, 8, .inl fc)), (qnegative, .inl (cZ, 8, .inl fn)), (qkept, .inl (cI, 320, .inl K)), (qnum, .inl (cI, 80, .inl (dg V0))), (qden, .inl (cI, 80, .inl (dg (1 * 10 ^ (10 - tdig c0))))), (qquo, .inl (cI, 80, .inl (dg (fmQ c0 n0 V0)))), (qrem, .inl (cI, 80, .inl (dg (V0 % (1 * 10 ^ (10 - tdig c0)))))), (qother, .inl (cI, 80, .inl fo3))]) [7, 8, 0, 1, 2, 3, 4, 9, 5, 6] (by decide) rfl ?_
              refine go_iload O dX4_format_145 0 rfl 147 rfl ?_
              refine go_if_eq O dX4_format_147 161 (by decide) 150 rfl (by omega) (fun h147 => ?_) (fun h147 => by omega)
              refine go_aload_n O dX4_format_161 rfl 4 rfl 162 rfl ?_
              refine go_get O hK dX4_format_162 hinX4 0 rfl rfl 9 (by decide) flX4_166 rfl 165 rfl ?_
              have he := spFmt_s (sz := sz) hb2 hq (show (tN, sN) = tapp (tx, 0) (fmtL c0 (fmQ c0 n0 V0) st (n0 && decide (0 < fmQ c0 n0 V0))) from (by rw [fmtL_0 (by omega), tapp_app, ← hc1]; exact hnu))
              exact hret _ _ _ ((tN, sN), dg V0, dg (1 * 10 ^ (10 - tdig c0)), dg (fmQ c0 n0 V0), dg (V0 % (1 * 10 ^ (10 - tdig c0))), fo3) dX4_format_165 rfl ⟨by rw [he], by rw [he]⟩
            · refine go_iconst O dX4_format_106 107 rfl ?_
              refine go_goto O dX4_format_107 111 (by decide) ?_
              refine go_istore O dX4_format_111 (by decide) [(6, .int (iI 1)), (5, .int (iI (bz (n0 && decide (0 < fmQ c0 n0 V0))))), (4, .int (iI 1)), (3, .int (iI c0)), (0, .ref h), (1, .int (iI ((α : Nat) : Int))), (2, .int (iI st))] rfl 113 rfl ?_
              refine go_aload_n O dX4_format_113 rfl 4 rfl 114 rfl ?_
              refine go_iconst O dX4_format_114 115 rfl ?_
              refine go_put O hK dX4_format_115 hinX4 tyX4 tyX4_ok nmX4 0 rfl rfl 9 (by decide) flX4_166 rfl rfl rfl rfl (Nat.le_of_ble_eq_true rfl) [(h, .inr (4, MF p s m qcurrency qisWide qnegative qkept qratios qtext qnum qbase qden qquo qrem qother qunits qparts qover qgiven qread 0 at0 wr dc be rc rn)), (qtext, .inl (cI, 48, .inl (fun j => iI (tx j)))), (qcurrency, .inl (cI, 8, .inl fc)), (qnegative, .inl (cZ, 8, .inl fn)), (qkept, .inl (cI, 320, .inl K)), (qnum, .inl (cI, 80, .inl (dg V0))), (qden, .inl (cI, 80, .inl (dg (1 * 10 ^ (10 - tdig c0))))), (qquo, .inl (cI, 80, .inl (dg (fmQ c0 n0 V0)))), (qrem, .inl (cI, 80, .inl (dg (V0 % (1 * 10 ^ (10 - tdig c0)))))), (qother, .inl (cI, 80, .inl fo3))] rfl 118 rfl ?_
              refine go_iload O dX4_format_118 0 rfl 120 rfl ?_
              refine go_if_ne O dX4_format_120 134 (by decide) 123 rfl (by omega) (fun h120 => ?_) (fun h120 => by omega)
              refine go_aload_n O dX4_format_134 rfl 4 rfl 135 rfl ?_
              refine go_iload_n O dX4_format_135 rfl 3 rfl 136 rfl ?_
              refine go_calliS (rest := [.ref h]) (wr := [(h, .inr (4, MF p s m qcurrency qisWide qnegative qkept qratios qtext qnum qbase qden qquo qrem qother qunits qparts qover qgiven qread 0 at0 wr dc be rc rn)), (qtext, .inl (cI, 48, .inl (fun j => iI (tx j)))), (qcurrency, .inl (cI, 8, .inl fc)), (qnegative, .inl (cZ, 8, .inl fn)), (qkept, .inl (cI, 320, .inl K)), (qnum, .inl (cI, 80, .inl (dg V0))), (qden, .inl (cI, 80, .inl (dg (1 * 10 ^ (10 - tdig c0))))), (qquo, .inl (cI, 80, .inl (dg (fmQ c0 n0 V0)))), (qrem, .inl (cI, 80, .inl (dg (V0 % (1 * 10 ^ (10 - tdig c0)))))), (qother, .inl (cI, 80, .inl fo3))]) O hK hE (c_X4_digitsOf E hE c0 (by omega)) mlX4_141 smX4_digitsOf inX4 cdX4_digitsOf 1 (by decide +kernel) ⟨Nat.le_of_ble_eq_true rfl, Nat.le_of_ble_eq_true rfl⟩ [] rfl [] rfl (by decide) [0, 1, 2, 3, 4, 5, 6, 7, 8, 9] rfl (by decide) (by decide) rfl rfl (Nat.le_of_ble_eq_true rfl) ⟨Nat.zero_le _, Nat.zero_le _⟩ dX4_format_136 139 rfl (fun z u hu => ?_)
              subst hu
              show TGo X [(h, .inr (4, MF p s m qcurrency qisWide qnegative qkept qratios qtext qnum qbase qden qquo qrem qother qunits qparts qover qgiven qread 0 at0 wr dc be rc rn)), (qtext, .inl (cI, 48, .inl (fun j => iI (tx j)))), (qcurrency, .inl (cI, 8, .inl fc)), (qnegative, .inl (cZ, 8, .inl fn)), (qkept, .inl (cI, 320, .inl K)), (qnum, .inl (cI, 80, .inl (dg V0))), (qden, .inl (cI, 80, .inl (dg (1 * 10 ^ (10 - tdig c0))))), (qquo, .inl (cI, 80, .inl (dg (fmQ c0 n0 V0)))), (qrem, .inl (cI, 80, .inl (dg (V0 % (1 * 10 ^ (10 - tdig c0)))))), (qother, .inl (cI, 80, .inl fo3))] 0 0 139 [(6, .int (iI 1)), (5, .int (iI (bz (n0 && decide (0 < fmQ c0 n0 V0))))), (4, .int (iI 1)), (3, .int (iI c0)), (0, .ref h), (1, .int (iI ((α : Nat) : Int))), (2, .int (iI st))] [.int (iI ((tdig c0 : Nat) : Int)), .ref h]
              refine go_iload_n O dX4_format_139 rfl 6 rfl 140 rfl ?_
              refine go_iload O dX4_format_140 1 rfl 142 rfl ?_
              refine go_callvV (As := [.int (iI ((tdig c0 : Nat) : Int)), .int (iI st), .int (iI (bz (n0 && decide (0 < fmQ c0 n0 V0))))]) (rest := []) (wr := [(qcurrency, .inl (cI, 8, .inl fc)), (qnegative, .inl (cZ, 8, .inl fn)), (qkept, .inl (cI, 320, .inl K)), (qnum, .inl (cI, 80, .inl (dg V0))), (qden, .inl (cI, 80, .inl (dg (1 * 10 ^ (10 - tdig c0))))), (qrem, .inl (cI, 80, .inl (dg (V0 % (1 * 10 ^ (10 - tdig c0)))))), (qother, .inl (cI, 80, .inl fo3))]) O hK hE (c_X4_putNumber E hE h p s m qcurrency qisWide qnegative qkept qratios qtext qnum qbase qden qquo qrem qother qunits qparts qover qgiven qread cI 0 at0 wr dc be rc rn tx (fmQ c0 n0 V0) (tdig c0) st (n0 && decide (0 < fmQ c0 n0 V0)) htd (by omega) (fmQ_bd hV0) (by have := numL_le (st := st) (mi := (n0 && decide (0 < fmQ c0 n0 V0))) htd (fmQ_bd (c := c0) (n := n0) hV0); omega)) mlX4_176 imX4_putNumber seX4_putNumber inX4 cdX4_putNumber 3 (by decide +kernel) ⟨Nat.le_of_ble_eq_true rfl, Nat.le_of_ble_eq_true rfl⟩ 0 rfl rfl [0] rfl [0, 1, 7] rfl (by decide) [2, 3, 4, 5, 6, 8, 9] rfl (by decide) (by decide) rfl rfl (Nat.le_of_ble_eq_true rfl) ⟨Nat.zero_le _, Nat.zero_le _⟩ dX4_format_142 145 rfl (fun u hu => ?_)
              obtain ⟨tN, sN⟩ := u
              have hN := tapp_sz (numL (fmQ c0 n0 V0) (tdig c0) st (n0 && decide (0 < fmQ c0 n0 V0))) (tx, 0)
              rw [← hu] at hN
              have hnu := hu
              have hNL : sN = 0 + (numL (fmQ c0 n0 V0) (tdig c0) st (n0 && decide (0 < fmQ c0 n0 V0))).length := hN
              have hnl := numL_le (st := st) (mi := (n0 && decide (0 < fmQ c0 n0 V0))) htd (fmQ_bd (c := c0) (n := n0) hV0)
              show TGo X [(qcurrency, .inl (cI, 8, .inl fc)), (qnegative, .inl (cZ, 8, .inl fn)), (qkept, .inl (cI, 320, .inl K)), (qnum, .inl (cI, 80, .inl (dg V0))), (qden, .inl (cI, 80, .inl (dg (1 * 10 ^ (10 - tdig c0))))), (qrem, .inl (cI, 80, .inl (dg (V0 % (1 * 10 ^ (10 - tdig c0)))))), (qother, .inl (cI, 80, .inl fo3)), (h, .inr (4, MF p s m qcurrency qisWide qnegative qkept qratios qtext qnum qbase qden qquo qrem qother qunits qparts qover qgiven qread ((sN : Nat) : Int) at0 wr dc be rc rn)), (qtext, .inl (cI, 48, .inl (fun j => iI (tN j)))), (qquo, .inl (cI, 80, .inl (dg (fmQ c0 n0 V0))))] 0 0 145 [(6, .int (iI 1)), (5, .int (iI (bz (n0 && decide (0 < fmQ c0 n0 V0))))), (4, .int (iI 1)), (3, .int (iI c0)), (0, .ref h), (1, .int (iI ((α : Nat) : Int))), (2, .int (iI st))] []
              refine TGo.sub (ws' := [(h, .inr (4, MF p s m qcurrency qisWide qnegative qkept qratios qtext qnum qbase qden qquo qrem qother qunits qparts qover qgiven qread ((sN : Nat) : Int) at0 wr dc be rc rn)), (qtext, .inl (cI, 48, .inl (fun j => iI (tN j)))), (qcurrency, .inl (cI, 8, .inl fc)), (qnegative, .inl (cZ, 8, .inl fn)), (qkept, .inl (cI, 320, .inl K)), (qnum, .inl (cI, 80, .inl (dg V0))), (qden, .inl (cI, 80, .inl (dg (1 * 10 ^ (10 - tdig c0))))), (qquo, .inl (cI, 80, .inl (dg (fmQ c0 n0 V0)))), (qrem, .inl (cI, 80, .inl (dg (V0 % (1 * 10 ^ (10 - tdig c0)))))), (qother, .inl (cI, 80, .inl fo3))]) [7, 8, 0, 1, 2, 3, 4, 9, 5, 6] (by decide) rfl ?_
              refine go_iload O dX4_format_145 0 rfl 147 rfl ?_
              refine go_if_eq O dX4_format_147 161 (by decide) 150 rfl (by omega) (fun h147 => by omega) (fun h147 => ?_)
              refine go_aload_n O dX4_format_150 rfl 4 rfl 151 rfl ?_
              refine go_bipush O dX4_format_151 (by decide) 153 rfl ?_
              refine go_callvV (As := [.int (iI 32)]) (rest := []) (wr := [(qcurrency, .inl (cI, 8, .inl fc)), (qnegative, .inl (cZ, 8, .inl fn)), (qkept, .inl (cI, 320, .inl K)), (qnum, .inl (cI, 80, .inl (dg V0))), (qden, .inl (cI, 80, .inl (dg (1 * 10 ^ (10 - tdig c0))))), (qquo, .inl (cI, 80, .inl (dg (fmQ c0 n0 V0)))), (qrem, .inl (cI, 80, .inl (dg (V0 % (1 * 10 ^ (10 - tdig c0)))))), (qother, .inl (cI, 80, .inl fo3))]) O hK hE (c_X4_put E hE h p s m qcurrency qisWide qnegative qkept qratios qtext qnum qbase qden qquo qrem qother qunits qparts qover qgiven qread cI sN at0 wr dc be rc rn tN 32 (by omega)) mlX4_169 imX4_put seX4_put inX4 cdX4_put 1 (by decide +kernel) ⟨Nat.le_of_ble_eq_true rfl, Nat.le_of_ble_eq_true rfl⟩ 0 rfl rfl [0] rfl [0, 1] rfl (by decide) [2, 3, 4, 5, 6, 7, 8, 9] rfl (by decide) (by decide) rfl rfl (Nat.le_of_ble_eq_true rfl) ⟨Nat.zero_le _, Nat.zero_le _⟩ dX4_format_153 156 rfl (fun u hu => ?_)
              show TGo X [(qcurrency, .inl (cI, 8, .inl fc)), (qnegative, .inl (cZ, 8, .inl fn)), (qkept, .inl (cI, 320, .inl K)), (qnum, .inl (cI, 80, .inl (dg V0))), (qden, .inl (cI, 80, .inl (dg (1 * 10 ^ (10 - tdig c0))))), (qquo, .inl (cI, 80, .inl (dg (fmQ c0 n0 V0)))), (qrem, .inl (cI, 80, .inl (dg (V0 % (1 * 10 ^ (10 - tdig c0)))))), (qother, .inl (cI, 80, .inl fo3)), (h, .inr (4, MF p s m qcurrency qisWide qnegative qkept qratios qtext qnum qbase qden qquo qrem qother qunits qparts qover qgiven qread ((sN + 1 : Nat) : Int) at0 wr dc be rc rn)), (qtext, .inl (cI, 48, .inl (fun j => iI ((txs tN sN 32) j))))] 0 0 156 [(6, .int (iI 1)), (5, .int (iI (bz (n0 && decide (0 < fmQ c0 n0 V0))))), (4, .int (iI 1)), (3, .int (iI c0)), (0, .ref h), (1, .int (iI ((α : Nat) : Int))), (2, .int (iI st))] []
              refine TGo.sub (ws' := [(h, .inr (4, MF p s m qcurrency qisWide qnegative qkept qratios qtext qnum qbase qden qquo qrem qother qunits qparts qover qgiven qread ((sN + 1 : Nat) : Int) at0 wr dc be rc rn)), (qtext, .inl (cI, 48, .inl (fun j => iI ((txs tN sN 32) j)))), (qcurrency, .inl (cI, 8, .inl fc)), (qnegative, .inl (cZ, 8, .inl fn)), (qkept, .inl (cI, 320, .inl K)), (qnum, .inl (cI, 80, .inl (dg V0))), (qden, .inl (cI, 80, .inl (dg (1 * 10 ^ (10 - tdig c0))))), (qquo, .inl (cI, 80, .inl (dg (fmQ c0 n0 V0)))), (qrem, .inl (cI, 80, .inl (dg (V0 % (1 * 10 ^ (10 - tdig c0)))))), (qother, .inl (cI, 80, .inl fo3))]) [8, 9, 0, 1, 2, 3, 4, 5, 6, 7] (by decide) rfl ?_
              refine go_aload_n O dX4_format_156 rfl 4 rfl 157 rfl ?_
              refine go_iload_n O dX4_format_157 rfl 3 rfl 158 rfl ?_
              refine go_callvV (As := [.int (iI c0)]) (rest := []) (wr := [(qcurrency, .inl (cI, 8, .inl fc)), (qnegative, .inl (cZ, 8, .inl fn)), (qkept, .inl (cI, 320, .inl K)), (qnum, .inl (cI, 80, .inl (dg V0))), (qden, .inl (cI, 80, .inl (dg (1 * 10 ^ (10 - tdig c0))))), (qquo, .inl (cI, 80, .inl (dg (fmQ c0 n0 V0)))), (qrem, .inl (cI, 80, .inl (dg (V0 % (1 * 10 ^ (10 - tdig c0)))))), (qother, .inl (cI, 80, .inl fo3))]) O hK hE (c_X4_putCode E hE h p s m qcurrency qisWide qnegative qkept qratios qtext qnum qbase qden qquo qrem qother qunits qparts qover qgiven qread cI (sN + 1) at0 wr dc be rc rn (txs tN sN 32) c0 (by omega)) mlX4_173 imX4_putCode seX4_putCode inX4 cdX4_putCode 1 (by decide +kernel) ⟨Nat.le_of_ble_eq_true rfl, Nat.le_of_ble_eq_true rfl⟩ 0 rfl rfl [0] rfl [0, 1] rfl (by decide) [2, 3, 4, 5, 6, 7, 8, 9] rfl (by decide) (by decide) rfl rfl (Nat.le_of_ble_eq_true rfl) ⟨Nat.zero_le _, Nat.zero_le _⟩ dX4_format_158 161 rfl (fun u hu => ?_)
              obtain ⟨tA2, sA2⟩ := u
              have hA2 := tapp_sz (codL c0) ((txs tN sN 32), sN + 1)
              rw [← hu] at hA2
              have hc2 := hu
              have hAL2 : sA2 = sN + 1 + 3 := hA2
              show TGo X [(qcurrency, .inl (cI, 8, .inl fc)), (qnegative, .inl (cZ, 8, .inl fn)), (qkept, .inl (cI, 320, .inl K)), (qnum, .inl (cI, 80, .inl (dg V0))), (qden, .inl (cI, 80, .inl (dg (1 * 10 ^ (10 - tdig c0))))), (qquo, .inl (cI, 80, .inl (dg (fmQ c0 n0 V0)))), (qrem, .inl (cI, 80, .inl (dg (V0 % (1 * 10 ^ (10 - tdig c0)))))), (qother, .inl (cI, 80, .inl fo3)), (h, .inr (4, MF p s m qcurrency qisWide qnegative qkept qratios qtext qnum qbase qden qquo qrem qother qunits qparts qover qgiven qread ((sA2 : Nat) : Int) at0 wr dc be rc rn)), (qtext, .inl (cI, 48, .inl (fun j => iI (tA2 j))))] 0 0 161 [(6, .int (iI 1)), (5, .int (iI (bz (n0 && decide (0 < fmQ c0 n0 V0))))), (4, .int (iI 1)), (3, .int (iI c0)), (0, .ref h), (1, .int (iI ((α : Nat) : Int))), (2, .int (iI st))] []
              refine TGo.sub (ws' := [(h, .inr (4, MF p s m qcurrency qisWide qnegative qkept qratios qtext qnum qbase qden qquo qrem qother qunits qparts qover qgiven qread ((sA2 : Nat) : Int) at0 wr dc be rc rn)), (qtext, .inl (cI, 48, .inl (fun j => iI (tA2 j)))), (qcurrency, .inl (cI, 8, .inl fc)), (qnegative, .inl (cZ, 8, .inl fn)), (qkept, .inl (cI, 320, .inl K)), (qnum, .inl (cI, 80, .inl (dg V0))), (qden, .inl (cI, 80, .inl (dg (1 * 10 ^ (10 - tdig c0))))), (qquo, .inl (cI, 80, .inl (dg (fmQ c0 n0 V0)))), (qrem, .inl (cI, 80, .inl (dg (V0 % (1 * 10 ^ (10 - tdig c0)))))), (qother, .inl (cI, 80, .inl fo3))]) [8, 9, 0, 1, 2, 3, 4, 5, 6, 7] (by decide) rfl ?_
              refine go_aload_n O dX4_format_161 rfl 4 rfl 162 rfl ?_
              refine go_get O hK dX4_format_162 hinX4 0 rfl rfl 9 (by decide) flX4_166 rfl 165 rfl ?_
              have he := spFmt_s (sz := sz) hb2 hq (show (tA2, sA2) = tapp (tx, 0) (fmtL c0 (fmQ c0 n0 V0) st (n0 && decide (0 < fmQ c0 n0 V0))) from (by rw [fmtL_1 (by omega), tapp_app, ← hnu]; exact hc2))
              exact hret _ _ _ ((tA2, sA2), dg V0, dg (1 * 10 ^ (10 - tdig c0)), dg (fmQ c0 n0 V0), dg (V0 % (1 * 10 ^ (10 - tdig c0))), fo3) dX4_format_165 rfl ⟨by rw [he], by rw [he]⟩
    · refine go_bipush O dX4_format_18 (by decide) 20 rfl ?_
      have he := spFmt_b (reg := reg) (tx := tx) (sz := sz) (a := a) (st := st) (by omega)
      exact hret _ _ _ ((tx, sz), fnum, fd, fq, fr, fo) dX4_format_20 rfl ⟨by rw [he], by rw [he]⟩
set_option maxHeartbeats 4000000 in
set_option maxRecDepth 100000 in
/-- type -/
theorem c_X4_type (E : TEn) (hE : EnvOk E) (h : Nat) (p s m : Int) (qcurrency qisWide qnegative qkept qratios qtext qnum qbase qden qquo qrem qother qunits qparts qover qgiven qread : Nat) (cI : ClassId) (sz : Nat) (at0 wr dc be rc rn : Int) (tx : Nat → Int) (v : Int) (hv : r32 v) (hs : sz ≤ 48) : Cti vwCl E yX4_type wsX4_type (rmn 1 21) [.ref h, .int (iI v)] [(h, .inr (4, MF p s m qcurrency qisWide qnegative qkept qratios qtext qnum qbase qden qquo qrem qother qunits qparts qover qgiven qread ((sz : Nat) : Int) at0 wr dc be rc rn)), (qtext, .inl (cI, 48, .inl (fun j => iI (tx j))))] [(cI, .int)] (fun (z : Int) (u : (Nat → Int) × Nat) => z = (spType tx sz v).1 ∧ u = (spType tx sz v).2) (fun u => [(h, .inr (4, MF p s m qcurrency qisWide qnegative qkept qratios qtext qnum qbase qden qquo qrem qother qunits qparts qover qgiven qread ((u.2 : Nat) : Int) at0 wr dc be rc rn)), (qtext, .inl (cI, 48, .inl (fun j => iI (u.1 j))))]) := by
  refine enteri (by decide) (Nat.le_of_ble_eq_true rfl) ?_
  intro X O hK hin2 hret
  show TGo X [(h, .inr (4, MF p s m qcurrency qisWide qnegative qkept qratios qtext qnum qbase qden qquo qrem qother qunits qparts qover qgiven qread ((sz : Nat) : Int) at0 wr dc be rc rn)), (qtext, .inl (cI, 48, .inl (fun j => iI (tx j))))] 0 0 0 [(0, .ref h), (1, .int (iI v))] []
  refine go_iload_n O dX4_type_0 rfl 1 rfl 1 rfl ?_
  refine go_bipush O dX4_type_1 (by decide) 3 rfl ?_
  refine go_icmp_lt O dX4_type_3 21 (by decide) 6 rfl (by omega) (by omega) (fun h3 => ?_) (fun h3 => ?_)
  · refine go_bipush O dX4_type_21 (by decide) 23 rfl ?_
    have he := spType_b (tx := tx) (sz := sz) (c := v) (by omega)
    exact hret _ _ _ (tx, sz) dX4_type_23 rfl ⟨by rw [he], by rw [he]⟩
  · refine go_iload_n O dX4_type_6 rfl 1 rfl 7 rfl ?_
    refine go_bipush O dX4_type_7 (by decide) 9 rfl ?_
    refine go_icmp_gt O dX4_type_9 21 (by decide) 12 rfl (by omega) (by omega) (fun h9 => ?_) (fun h9 => ?_)
    · refine go_bipush O dX4_type_21 (by decide) 23 rfl ?_
      have he := spType_b (tx := tx) (sz := sz) (c := v) (by omega)
      exact hret _ _ _ (tx, sz) dX4_type_23 rfl ⟨by rw [he], by rw [he]⟩
    · refine go_aload_n O dX4_type_12 rfl 0 rfl 13 rfl ?_
      refine go_get O hK dX4_type_13 hinX4 0 rfl rfl 9 (by decide) flX4_166 rfl 16 rfl ?_
      refine go_bipush O dX4_type_16 (by decide) 18 rfl ?_
      refine go_icmp_ne O dX4_type_18 24 (by decide) 21 rfl (by omega) (by omega) (fun h18 => ?_) (fun h18 => ?_)
      · refine go_aload_n O dX4_type_24 rfl 0 rfl 25 rfl ?_
        refine go_iload_n O dX4_type_25 rfl 1 rfl 26 rfl ?_
        refine go_callvV (As := [.int (iI v)]) (rest := []) (wr := []) O hK hE (c_X4_put E hE h p s m qcurrency qisWide qnegative qkept qratios qtext qnum qbase qden qquo qrem qother qunits qparts qover qgiven qread cI sz at0 wr dc be rc rn tx v (by omega)) mlX4_169 imX4_put seX4_put inX4 cdX4_put 1 (by decide +kernel) ⟨Nat.le_of_ble_eq_true rfl, Nat.le_of_ble_eq_true rfl⟩ 0 rfl rfl [0] rfl [0, 1] rfl (by decide) [] rfl (by decide) (by decide) rfl rfl (Nat.le_of_ble_eq_true rfl) ⟨Nat.zero_le _, Nat.zero_le _⟩ dX4_type_26 29 rfl (fun u hu => ?_)
        show TGo X [(h, .inr (4, MF p s m qcurrency qisWide qnegative qkept qratios qtext qnum qbase qden qquo qrem qother qunits qparts qover qgiven qread ((sz + 1 : Nat) : Int) at0 wr dc be rc rn)), (qtext, .inl (cI, 48, .inl (fun j => iI ((txs tx sz v) j))))] 0 0 29 [(0, .ref h), (1, .int (iI v))] []
        refine go_aload_n O dX4_type_29 rfl 0 rfl 30 rfl ?_
        refine go_get O hK dX4_type_30 hinX4 0 rfl rfl 9 (by decide) flX4_166 rfl 33 rfl ?_
        have he := spType_s (tx := tx) (sz := sz) (c := v) (by omega)
        exact hret _ _ _ (txs tx sz v, sz + 1) dX4_type_33 rfl ⟨by rw [he]; exact Int.natCast_add _ _, by rw [he]⟩
      · refine go_bipush O dX4_type_21 (by decide) 23 rfl ?_
        have he := spType_b (tx := tx) (sz := sz) (c := v) (by omega)
        exact hret _ _ _ (tx, sz) dX4_type_23 rfl ⟨by rw [he], by rw [he]⟩
set_option maxHeartbeats 4000000 in
set_option maxRecDepth 100000 in
/-- wipe -/
theorem c_X4_wipe (E : TEn) (hE : EnvOk E) (h : Nat) (p s m : Int) (qcurrency qisWide qnegative qkept qratios qtext qnum qbase qden qquo qrem qother qunits qparts qover qgiven qread : Nat) (cI : ClassId) (sz : Nat) (at0 wr dc be rc rn : Int) : Ctv vwCl E yX4_wipe wsX4_wipe (rmn 0 0) [.ref h] [(h, .inr (4, MF p s m qcurrency qisWide qnegative qkept qratios qtext qnum qbase qden qquo qrem qother qunits qparts qover qgiven qread ((sz : Nat) : Int) at0 wr dc be rc rn))] [] (fun _ : Unit => True) (fun _ => [(h, .inr (4, MF p s m qcurrency qisWide qnegative qkept qratios qtext qnum qbase qden qquo qrem qother qunits qparts qover qgiven qread 0 at0 wr dc be rc rn))]) := by
  refine enterv (by decide) (Nat.le_of_ble_eq_true rfl) ?_
  intro X O hK hin2 hret
  show TGo X [(h, .inr (4, MF p s m qcurrency qisWide qnegative qkept qratios qtext qnum qbase qden qquo qrem qother qunits qparts qover qgiven qread ((sz : Nat) : Int) at0 wr dc be rc rn))] 0 0 0 [(0, .ref h)] []
  refine go_aload_n O dX4_wipe_0 rfl 0 rfl 1 rfl ?_
  refine go_iconst O dX4_wipe_1 2 rfl ?_
  refine go_put O hK dX4_wipe_2 hinX4 tyX4 tyX4_ok nmX4 0 rfl rfl 9 (by decide) flX4_166 rfl rfl rfl rfl (Nat.le_of_ble_eq_true rfl) [(h, .inr (4, MF p s m qcurrency qisWide qnegative qkept qratios qtext qnum qbase qden qquo qrem qother qunits qparts qover qgiven qread 0 at0 wr dc be rc rn))] rfl 5 rfl ?_
  exact hret _ _ () dX4_wipe_5 trivial
set_option maxHeartbeats 4000000 in
set_option maxRecDepth 100000 in
/-- letter -/
theorem c_X4_letter (E : TEn) (hE : EnvOk E) (h : Nat) (p s m : Int) (qcurrency qisWide qnegative qkept qratios qtext qnum qbase qden qquo qrem qother qunits qparts qover qgiven qread : Nat) (cI : ClassId) (sz : Nat) (at0 wr dc be rc rn : Int) (tx : Nat → Int) (v : Int) (hv : r32 v) (hs : sz ≤ 48) : Cti vwCl E yX4_letter wsX4_letter (rmn 0 0) [.ref h, .int (iI v)] [(h, .inr (4, MF p s m qcurrency qisWide qnegative qkept qratios qtext qnum qbase qden qquo qrem qother qunits qparts qover qgiven qread ((sz : Nat) : Int) at0 wr dc be rc rn)), (qtext, .inl (cI, 48, .inl (fun j => iI (tx j))))] [(cI, .int)] (fun (z : Int) (_ : Unit) => z = spLet tx sz v) (fun _ => [(h, .inr (4, MF p s m qcurrency qisWide qnegative qkept qratios qtext qnum qbase qden qquo qrem qother qunits qparts qover qgiven qread ((sz : Nat) : Int) at0 wr dc be rc rn)), (qtext, .inl (cI, 48, .inl (fun j => iI (tx j))))]) := by
  refine enteri (by decide) (Nat.le_of_ble_eq_true rfl) ?_
  intro X O hK hin2 hret
  show TGo X [(h, .inr (4, MF p s m qcurrency qisWide qnegative qkept qratios qtext qnum qbase qden qquo qrem qother qunits qparts qover qgiven qread ((sz : Nat) : Int) at0 wr dc be rc rn)), (qtext, .inl (cI, 48, .inl (fun j => iI (tx j))))] 0 0 0 [(0, .ref h), (1, .int (iI v))] []
  refine go_iload_n O dX4_letter_0 rfl 1 rfl 1 rfl ?_
  refine go_if_lt O dX4_letter_1 12 (by decide) 4 rfl (by omega) (fun h1 => ?_) (fun h1 => ?_)
  · refine go_bipush O dX4_letter_12 (by decide) 14 rfl ?_
    refine go_goto O dX4_letter_14 23 (by decide) ?_
    exact hret _ _ _ () dX4_letter_23 rfl (spLet_b (by omega))
  · refine go_iload_n O dX4_letter_4 rfl 1 rfl 5 rfl ?_
    refine go_aload_n O dX4_letter_5 rfl 0 rfl 6 rfl ?_
    refine go_get O hK dX4_letter_6 hinX4 0 rfl rfl 9 (by decide) flX4_166 rfl 9 rfl ?_
    refine go_icmp_lt O dX4_letter_9 17 (by decide) 12 rfl (by omega) (by omega) (fun h9 => ?_) (fun h9 => ?_)
    · obtain ⟨j, rfl⟩ : ∃ j : Nat, v = (j : Int) := ⟨v.toNat, by omega⟩
      refine go_aload_n O dX4_letter_17 rfl 0 rfl 18 rfl ?_
      refine go_get O hK dX4_letter_18 hinX4 0 rfl rfl 8 (by decide) flX4_26 rfl 21 rfl ?_
      refine go_iload_n O dX4_letter_21 rfl 1 rfl 22 rfl ?_
      refine go_iald O hK dX4_letter_22 1 0 rfl rfl j rfl (by omega) (by omega) (tx j) rfl 23 rfl ?_
      exact hret _ _ _ () dX4_letter_23 rfl (spLet_s (by omega))
    · refine go_bipush O dX4_letter_12 (by decide) 14 rfl ?_
      refine go_goto O dX4_letter_14 23 (by decide) ?_
      exact hret _ _ _ () dX4_letter_23 rfl (spLet_b (by omega))
