/-! The law's own state. -/
theorem i32_r (x : Int32) : r32 x.toInt := ⟨by have := x.le_toInt; omega, by have := x.toInt_lt; omega⟩
theorem i64_r (x : Int64) : r64 x.toInt := ⟨by have := x.le_toInt; omega, by have := x.toInt_lt; omega⟩
def vsh (a : Int) : Int := (lI a <<< ((iI 32).toInt64 &&& 63)).toInt
def vnd (a : Int) : Int := (lI a &&& lI 4294967295).toInt
def vor (a b : Int) : Int := (lI a ||| lI b).toInt
theorem go_same {X : TCx} {cc : ByteArray} {own : String} {rm : Room} {nL : Nat} {ws : va_W} {n k pc : Nat} {lv : List (Nat × Value)} {st : List Value} {cl : List vw_C} {E : TEn} (O : TOk X cc own rm nL cl E) {a off : Int} (hd : decode cc pc = .ok (.if_icmp .eq off, 3)) (tgt : Nat) (ht : (pc : Int) + off = (tgt : Int)) (h1 : TGo X ws n k tgt lv st) : TGo X ws n k pc lv (.int (iI a) :: .int (iI a) :: st) := by
  intro H locs ls hP hD hS hl
  exact lv_icmp_eq O.1 O.2.1 hd ht (fun _ => h1 H locs ls hP hD hS hl) (fun q => absurd rfl q)
theorem spDig_r {reg : Rg} {a half : Int} : r64 (spDig reg a half) := by
  unfold spDig
  split
  · split
    · constructor <;> omega
    · next V _ => have := Nat.mod_lt (V / 10 ^ (half.toNat * 18)) (p10 18); constructor <;> omega
  · constructor <;> omega
def TxOk (tx : Nat → Int) : Prop := ∀ j, 0 ≤ tx j ∧ tx j ≤ 200
theorem TxOk_r {tx : Nat → Int} (h : TxOk tx) : ∀ j, r32 (tx j) := fun j => by have := h j; constructor <;> omega
theorem tapp_p {p : Int → Prop} (l : List Int) : ∀ s : (Nat → Int) × Nat, (∀ j, p (s.1 j)) → (∀ c, c ∈ l → p c) → ∀ j, p ((tapp s l).1 j) := by
  induction l with
  | nil => intro s h _; exact h
  | cons c l ih =>
    intro s h hl
    refine ih _ (fun j => ?_) (fun d hd => hl d (List.mem_cons_of_mem _ hd))
    show p (txs s.1 s.2 c j)
    unfold txs
    split
    · exact hl c (List.mem_cons_self ..)
    · exact h j
theorem fb_p200 {Q d : Nat} {g : Bool} (i : Nat) : ∀ c, c ∈ fb Q d g i → 0 ≤ c ∧ c ≤ 200 := by
  induction i with
  | zero => intro c h; cases h
  | succ i ih =>
    intro c h
    have hd : 0 ≤ ((48 + Q / 10 ^ i % 10 : Nat) : Int) ∧ ((48 + Q / 10 ^ i % 10 : Nat) : Int) ≤ 200 := by have := Nat.mod_lt (Q / 10 ^ i) (show 0 < 10 by omega); constructor <;> omega
    by_cases h1 : d < i ∧ (i - d) % 3 = 0 ∧ g = true
    · rw [fb_c h1] at h
      rcases List.mem_cons.mp h with e | e
      · rw [e]; exact hd
      · rcases List.mem_cons.mp e with e | e
        · rw [e]; constructor <;> omega
        · exact ih c e
    · by_cases h2 : i = d ∧ 0 < d
      · rw [fb_p h2] at h
        rcases List.mem_cons.mp h with e | e
        · rw [e]; exact hd
        · rcases List.mem_cons.mp e with e | e
          · rw [e]; constructor <;> omega
          · exact ih c e
      · rw [fb_o h1 h2] at h
        rcases List.mem_cons.mp h with e | e
        · rw [e]; exact hd
        · exact ih c e
theorem numL_p {Q d : Nat} {st : Int} {mi : Bool} : ∀ c, c ∈ numL Q d st mi → 0 ≤ c ∧ c ≤ 200 := by
  intro c h
  unfold numL at h
  rcases List.mem_append.mp h with h | h
  · split at h
    · rcases List.mem_cons.mp h with e | e
      · rw [e]; split <;> constructor <;> omega
      · cases e
    · cases h
  · rcases List.mem_append.mp h with h | h
    · exact fb_p200 _ c h
    · unfold clL at h
      split at h
      · rcases List.mem_cons.mp h with e | e
        · rw [e]; constructor <;> omega
        · cases e
      · cases h
theorem fmtL_p {c : Int} {Q : Nat} {st : Int} {mi : Bool} (hc : 0 ≤ c ∧ c ≤ 5) : ∀ x, x ∈ fmtL c Q st mi → 0 ≤ x ∧ x ≤ 200 := by
  intro x h
  have h1 : ∀ x, x ∈ codL c → 0 ≤ x ∧ x ≤ 200 := by
    intro x h
    unfold codL at h
    have e : x = 65 + c := by simpa using h
    rw [e]; constructor <;> omega
  have h2 : (0 : Int) ≤ 32 ∧ (32 : Int) ≤ 200 := by constructor <;> omega
  unfold fmtL at h
  split at h
  · rcases List.mem_append.mp h with h | h
    · exact numL_p x h
    · rcases List.mem_cons.mp h with e | e
      · rw [e]; exact h2
      · exact h1 x e
  · rcases List.mem_append.mp h with h | h
    · exact h1 x h
    · rcases List.mem_cons.mp h with e | e
      · rw [e]; exact h2
      · exact numL_p x e
theorem spType_t {tx : Nat → Int} {sz : Nat} {v : Int} (h : TxOk tx) (hs : sz ≤ 48) : TxOk (spType tx sz v).2.1 ∧ (spType tx sz v).2.2 ≤ 48 := by
  by_cases e : 32 ≤ v ∧ v ≤ 126 ∧ sz < 48
  · rw [spType_s e]
    refine ⟨fun j => ?_, e.2.2⟩
    show 0 ≤ txs tx sz v j ∧ txs tx sz v j ≤ 200
    unfold txs
    split
    · omega
    · exact h j
  · rw [spType_b e]; exact ⟨h, hs⟩
theorem spFmt_t {reg : Rg} {tx : Nat → Int} {sz : Nat} {a st : Int} (hR : RgOk reg) (h : TxOk tx) (hs : sz ≤ 48) : TxOk (spFmt reg tx sz a st).2.1 ∧ (spFmt reg tx sz a st).2.2 ≤ 48 := by
  by_cases e : (0 ≤ a ∧ a < 8) ∧ (0 ≤ st ∧ st < 8)
  · obtain ⟨α, rfl⟩ : ∃ α : Nat, a = (α : Int) := ⟨a.toNat, by omega⟩
    rcases hq : reg α with _ | ⟨c, w, n, V⟩
    · rw [spFmt_n (by omega) hq]; exact ⟨h, hs⟩
    · obtain ⟨hc, hV, _⟩ := hR α (by omega) _ _ _ _ hq
      rw [spFmt_s (t2 := (tapp (tx, 0) (fmtL c (fmQ c n V) st (n && decide (0 < fmQ c n V)))).1) (s2 := (tapp (tx, 0) (fmtL c (fmQ c n V) st (n && decide (0 < fmQ c n V)))).2) (by omega) hq rfl]
      refine ⟨tapp_p (p := fun z => 0 ≤ z ∧ z ≤ 200) _ _ h (fmtL_p hc), ?_⟩
      show (tapp (tx, 0) _).2 ≤ 48
      rw [tapp_sz]
      have h1 := numL_le (st := st) (mi := n && decide (0 < fmQ c n V)) (tdig_le c) (fmQ_bd (c := c) (n := n) hV)
      have h2 : (codL c).length = 3 := rfl
      show 0 + (fmtL c (fmQ c n V) st (n && decide (0 < fmQ c n V))).length ≤ 48
      unfold fmtL
      split <;> simp only [List.length_append, List.length_cons] <;> omega
  · rw [spFmt_b e]; exact ⟨h, hs⟩
theorem spRat_t {ra : Nat → Int} {a v : Int} (h : RaOk ra) : RaOk (spRat ra a v).2 := by
  by_cases e : (0 ≤ a ∧ a < 8) ∧ (0 ≤ v ∧ v < 1000001)
  · obtain ⟨j, rfl⟩ : ∃ j : Nat, a = (j : Int) := ⟨a.toNat, by omega⟩
    rw [spRat_s (by omega)]
    intro k
    show 0 ≤ txs ra j v k ∧ txs ra j v k ≤ 1000000
    unfold txs
    split
    · omega
    · exact h k
  · rw [spRat_b e]; exact h
abbrev LSt : Type := (Nat → Int32) × (Nat → Int32) × (Nat → Int32) × (Nat → Int32) × (Nat → Int64) × (Bool) × (Bool) × (Bool) × (Bool) × (Nat → Int) × (Nat → Int) × (Nat) × (Nat) × (Int) × (Cs) × (Nat → Int32) × (Nat → Int32) × (Nat → Int32) × (Nat → Int32) × (Nat → Int32) × (Nat → Int32) × (Nat → Int32) × (Nat → Int32) × (Nat → Int32) × (Nat → Int32) × (Nat → Int32) × (Nat → Int32) × (Nat → Int32) × (Nat → Int32) × (Nat → Int32) × (Int) × (Int) × (Int) × (Int) × (Int) × (Int)
abbrev LWd (h qam qrat qrm hw hsh ht qrow qfac qsr qsf ql hm qcurrency qisWide qnegative qkept qratios qtext qnum qbase qden qquo qrem qother qunits qparts qover qgiven qread : Nat) (cI cZ cL cM : ClassId) (ad ro : Nat → Nat) (P Sc : Nat) (m : Int) (σ : LSt) : va_W := ([(h, .inr (3, [.int (iI ((P : Nat) : Int)), .int (iI ((Sc : Nat) : Int)), .int (iI m), .ref qam, .ref qrat, .ref qrm, .ref hw, .ref hsh, .ref ht])), (qam, .inl (cM, 8, .inr (.inr (.inr (.inr (fun i => some (ad i))))))), (hw, .inr (2, [.ref qrow, .ref qfac, .int (iI (bz σ.2.2.2.2.2.1)), .int (iI (bz σ.2.2.2.2.2.2.1))])), (qrow, .inl (cI, 72, .inl σ.1)), (qfac, .inl (cI, 19, .inl σ.2.1)), (hsh, .inr (2, [.ref qsr, .ref qsf, .int (iI (bz σ.2.2.2.2.2.2.2.1)), .int (iI (bz σ.2.2.2.2.2.2.2.2.1))])), (qsr, .inl (cI, 72, .inl σ.2.2.1)), (qsf, .inl (cI, 19, .inl σ.2.2.2.1)), (qrat, .inl (cI, 8, .inl (fun j => iI (σ.2.2.2.2.2.2.2.2.2.1 j)))), (qrm, .inl (cL, 8, .inr (.inl σ.2.2.2.2.1))), (ht, .inr (1, [.ref ql, .int (iI ((σ.2.2.2.2.2.2.2.2.2.2.2.1 : Nat) : Int)), .int (iI ((σ.2.2.2.2.2.2.2.2.2.2.2.2.1 : Nat) : Int)), .int (iI σ.2.2.2.2.2.2.2.2.2.2.2.2.2.1)])), (ql, .inl (cI, 48, .inl (fun j => iI (σ.2.2.2.2.2.2.2.2.2.2.1 j)))), (hm, .inr (4, MF ((P : Nat) : Int) ((Sc : Nat) : Int) m qcurrency qisWide qnegative qkept qratios qtext qnum qbase qden qquo qrem qother qunits qparts qover qgiven qread ((σ.2.2.2.2.2.2.2.2.2.2.2.1 : Nat) : Int) σ.2.2.2.2.2.2.2.2.2.2.2.2.2.2.2.2.2.2.2.2.2.2.2.2.2.2.2.2.2.2.1 σ.2.2.2.2.2.2.2.2.2.2.2.2.2.2.2.2.2.2.2.2.2.2.2.2.2.2.2.2.2.2.2.1 σ.2.2.2.2.2.2.2.2.2.2.2.2.2.2.2.2.2.2.2.2.2.2.2.2.2.2.2.2.2.2.2.2.1 σ.2.2.2.2.2.2.2.2.2.2.2.2.2.2.2.2.2.2.2.2.2.2.2.2.2.2.2.2.2.2.2.2.2.1 σ.2.2.2.2.2.2.2.2.2.2.2.2.2.2.2.2.2.2.2.2.2.2.2.2.2.2.2.2.2.2.2.2.2.2.1 σ.2.2.2.2.2.2.2.2.2.2.2.2.2.2.2.2.2.2.2.2.2.2.2.2.2.2.2.2.2.2.2.2.2.2.2)), (qcurrency, .inl (cI, 8, .inl σ.2.2.2.2.2.2.2.2.2.2.2.2.2.2.2.2.2.2.2.2.2.2.2.2.2.2.1)), (qisWide, .inl (cZ, 8, .inl σ.2.2.2.2.2.2.2.2.2.2.2.2.2.2.2.2.2.2.2.2.2.2.2.2.2.2.2.1)), (qnegative, .inl (cZ, 8, .inl σ.2.2.2.2.2.2.2.2.2.2.2.2.2.2.2.2.2.2.2.2.2.2.2.2.2.2.2.2.1)), (qkept, .inl (cI, 320, .inl σ.2.2.2.2.2.2.2.2.2.2.2.2.2.2.2.2.2.2.2.2.2.2.2.2.2.2.2.2.2.1)), (qratios, .inl (cI, 8, .inl (fun j => iI (σ.2.2.2.2.2.2.2.2.2.1 j)))), (qtext, .inl (cI, 48, .inl (fun j => iI (σ.2.2.2.2.2.2.2.2.2.2.1 j)))), (qnum, .inl (cI, 80, .inl σ.2.2.2.2.2.2.2.2.2.2.2.2.2.2.2.2.1)), (qbase, .inl (cI, 80, .inl σ.2.2.2.2.2.2.2.2.2.2.2.2.2.2.2.2.2.1)), (qden, .inl (cI, 80, .inl σ.2.2.2.2.2.2.2.2.2.2.2.2.2.2.2.2.2.2.1)), (qquo, .inl (cI, 80, .inl σ.2.2.2.2.2.2.2.2.2.2.2.2.2.2.2.2.2.2.2.1)), (qrem, .inl (cI, 80, .inl σ.2.2.2.2.2.2.2.2.2.2.2.2.2.2.2.2.2.2.2.2.1)), (qother, .inl (cI, 80, .inl σ.2.2.2.2.2.2.2.2.2.2.2.2.2.2.2.2.2.2.2.2.2.1)), (qunits, .inl (cI, 80, .inl σ.2.2.2.2.2.2.2.2.2.2.2.2.2.2.2.2.2.2.2.2.2.2.1)), (qparts, .inl (cI, 320, .inl σ.2.2.2.2.2.2.2.2.2.2.2.2.2.2.2.2.2.2.2.2.2.2.2.1)), (qover, .inl (cI, 8, .inl σ.2.2.2.2.2.2.2.2.2.2.2.2.2.2.2.2.2.2.2.2.2.2.2.2.1)), (qgiven, .inl (cZ, 8, .inl σ.2.2.2.2.2.2.2.2.2.2.2.2.2.2.2.2.2.2.2.2.2.2.2.2.2.1)), (qread, .inl (cI, 48, .inl σ.2.2.2.2.2.2.2.2.2.2.2.2.2.2.2.1))] ++ RB ad ro cI σ.2.2.2.2.2.2.2.2.2.2.2.2.2.2.1)
def LInv (σ : LSt) : Prop := MR σ.2.2.2.2.2.2.2.2.2.2.2.2.2.2.2.2.2.2.2.2.2.2.2.2.2.2.1 σ.2.2.2.2.2.2.2.2.2.2.2.2.2.2.2.2.2.2.2.2.2.2.2.2.2.2.2.1 σ.2.2.2.2.2.2.2.2.2.2.2.2.2.2.2.2.2.2.2.2.2.2.2.2.2.2.2.2.1 σ.2.2.2.2.2.2.2.2.2.2.2.2.2.2.2.2.2.2.2.2.2.2.2.2.2.2.2.2.2.1 (rof σ.2.2.2.2.2.2.2.2.2.2.2.2.2.2.1) ∧ RaOk σ.2.2.2.2.2.2.2.2.2.1 ∧ σ.2.2.2.2.2.2.2.2.2.2.2.1 ≤ 48 ∧ TxOk σ.2.2.2.2.2.2.2.2.2.2.1
