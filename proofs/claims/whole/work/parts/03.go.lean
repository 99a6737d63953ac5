/-! Ints and longs by their numbers. -/
def iI (z : Int) : Int32 := Int32.ofInt z
def lI (z : Int) : Int64 := Int64.ofInt z
abbrev r32 (z : Int) : Prop := -2147483648 ≤ z ∧ z < 2147483648
abbrev r64 (z : Int) : Prop := -9223372036854775808 ≤ z ∧ z < 9223372036854775808
theorem iI_t {z : Int} (h : r32 z) : (iI z).toInt = z := Int32.toInt_ofInt_of_le (by have := h.1; omega) (by have := h.2; omega)
theorem lI_t {z : Int} (h : r64 z) : (lI z).toInt = z := Int64.toInt_ofInt_of_le (by have := h.1; omega) (by have := h.2; omega)
theorem iI_of (x : Int32) : x = iI x.toInt := (Int32.ofInt_toInt x).symm
theorem lI_of (x : Int64) : x = lI x.toInt := (Int64.ofInt_toInt x).symm
theorem iI_r (x : Int32) : r32 x.toInt := by have h1 := x.le_toInt; have h2 := x.toInt_lt; constructor <;> omega
theorem lI_r (x : Int64) : r64 x.toInt := by have h1 := x.le_toInt; have h2 := x.toInt_lt; constructor <;> omega
theorem iI_ex (x : Int32) : ∃ z, r32 z ∧ x = iI z := ⟨x.toInt, iI_r x, iI_of x⟩
theorem lI_ex (x : Int64) : ∃ z, r64 z ∧ x = lI z := ⟨x.toInt, lI_r x, lI_of x⟩
theorem iI_add (a b : Int) : iI a + iI b = iI (a + b) := (Int32.ofInt_add a b).symm
theorem iI_sub (a b : Int) : iI a - iI b = iI (a - b) := (Int32.ofInt_sub a b).symm
theorem iI_mul (a b : Int) : iI a * iI b = iI (a * b) := (Int32.ofInt_mul a b).symm
theorem iI_neg (a : Int) : -iI a = iI (-a) := (Int32.ofInt_neg a).symm
theorem lI_add (a b : Int) : lI a + lI b = lI (a + b) := (Int64.ofInt_add a b).symm
theorem lI_sub (a b : Int) : lI a - lI b = lI (a - b) := (Int64.ofInt_sub a b).symm
theorem lI_mul (a b : Int) : lI a * lI b = lI (a * b) := (Int64.ofInt_mul a b).symm
theorem lI_neg (a : Int) : -lI a = lI (-a) := (Int64.ofInt_neg a).symm
theorem iI_inj {a b : Int} (ha : r32 a) (hb : r32 b) : iI a = iI b ↔ a = b := by
  rw [← Int32.toInt_inj, iI_t ha, iI_t hb]
theorem iI_lt {a b : Int} (ha : r32 a) (hb : r32 b) : iI a < iI b ↔ a < b := by
  rw [Int32.lt_iff_toInt_lt, iI_t ha, iI_t hb]
theorem iI_le {a b : Int} (ha : r32 a) (hb : r32 b) : iI a ≤ iI b ↔ a ≤ b := by
  rw [Int32.le_iff_toInt_le, iI_t ha, iI_t hb]
theorem lI_inj {a b : Int} (ha : r64 a) (hb : r64 b) : lI a = lI b ↔ a = b := by
  rw [← Int64.toInt_inj, lI_t ha, lI_t hb]
theorem lI_lt {a b : Int} (ha : r64 a) (hb : r64 b) : lI a < lI b ↔ a < b := by
  rw [Int64.lt_iff_toInt_lt, lI_t ha, lI_t hb]
theorem iI_0 : iI 0 = 0 := rfl
theorem lI_0 : lI 0 = 0 := rfl
theorem r32_0 : r32 0 := by constructor <;> omega
theorem iI_nat (j : Nat) : iI (j : Int) = nI j := Int32.ofInt_eq_ofNat
theorem iI_div {a b : Int} (ha : 0 ≤ a) (ha2 : a < 2147483648) (hb : 0 < b) (hb2 : b < 2147483648) : iI a / iI b = iI (a / b) := by
  have h1 : iI b ≠ -1 := by
    intro h
    have := congrArg Int32.toInt h
    rw [iI_t ⟨by omega, hb2⟩] at this
    have h3 : (-1 : Int32).toInt = -1 := by decide
    omega
  apply Int32.toInt_inj.mp
  have hq0 : 0 ≤ a / b := Int.ediv_nonneg ha (by omega)
  have hq1 : a / b ≤ a := Int.ediv_le_self b ha
  rw [Int32.toInt_div_of_ne_right _ _ h1, iI_t ⟨by omega, ha2⟩, iI_t ⟨by omega, hb2⟩, Int.tdiv_eq_ediv_of_nonneg ha, iI_t ⟨by omega, by omega⟩]
theorem iI_rem {a b : Int} (ha : 0 ≤ a) (ha2 : a < 2147483648) (hb : 0 < b) (hb2 : b < 2147483648) : iI a - iI a / iI b * iI b = iI (a % b) := by
  rw [iI_div ha ha2 hb hb2, iI_mul, iI_sub]
  congr 1
  have := Int.emod_add_mul_ediv a b
  rw [Int.mul_comm] at this
  omega
theorem lI_quo {a b : Int} (ha : r64 a) (hb : r64 b) (h1 : b ≠ -1) : lI a / lI b = lI (a.tdiv b) := by
  have h2 : lI b ≠ -1 := by
    intro h
    have := congrArg Int64.toInt h
    rw [lI_t hb] at this
    have h3 : (-1 : Int64).toInt = -1 := by decide
    omega
  have h3 : (lI a / lI b).toInt = a.tdiv b := by rw [Int64.toInt_div_of_ne_right _ _ h2, lI_t ha, lI_t hb]
  rw [← h3, ← lI_of]
theorem lI_mod {a b : Int} (ha : r64 a) (hb : r64 b) (h1 : b ≠ -1) : lI a - lI a / lI b * lI b = lI (a.tmod b) := by
  rw [lI_quo ha hb h1, lI_mul, lI_sub]
  congr 1
  have := Int.tmod_add_mul_tdiv a b
  rw [Int.mul_comm] at this
  omega
theorem iI_64 {a : Int} (h : r32 a) : (iI a).toInt64 = lI a := by
  apply Int64.toInt_inj.mp
  rw [Int32.toInt_toInt64, iI_t h, lI_t ⟨by have := h.1; omega, by have := h.2; omega⟩]
theorem lI_32 (a : Int) : (lI a).toInt32 = iI a := Int64.toInt32_ofInt
def cmpZ (a b : Int) : Int := if b < a then 1 else if a = b then 0 else -1
theorem lI_cmp {a b : Int} (ha : r64 a) (hb : r64 b) : lg_cmp (lI a) (lI b) = iI (cmpZ a b) := by
  unfold lg_cmp cmpZ
  by_cases h1 : b < a
  · rw [if_pos h1, if_pos ((lI_lt hb ha).mpr h1)]; rfl
  · rw [if_neg h1, if_neg (fun h => h1 ((lI_lt hb ha).mp h))]
    by_cases h2 : a = b
    · rw [if_pos h2, if_pos ((lI_inj ha hb).mpr h2)]; rfl
    · rw [if_neg h2, if_neg (fun h => h2 ((lI_inj ha hb).mp h))]; rfl
theorem cmpZ_r (a b : Int) : r32 (cmpZ a b) := by unfold cmpZ; split <;> (try split) <;> constructor <;> omega
theorem cmpZ_ge {a b : Int} : 0 ≤ cmpZ a b ↔ b ≤ a := by unfold cmpZ; split <;> (try split) <;> omega
theorem cmpZ_lt {a b : Int} : cmpZ a b < 0 ↔ a < b := by unfold cmpZ; split <;> (try split) <;> omega
theorem cmpZ_gt {a b : Int} : 0 < cmpZ a b ↔ b < a := by unfold cmpZ; split <;> (try split) <;> omega
theorem cmpZ_le {a b : Int} : cmpZ a b ≤ 0 ↔ a ≤ b := by unfold cmpZ; split <;> (try split) <;> omega
theorem cmpZ_eq {a b : Int} : cmpZ a b = 0 ↔ a = b := by unfold cmpZ; split <;> (try split) <;> omega
/-! The judgement Go: from every heap and locals that the lists picture, the machine comes to its end. A row an instruction, over the kit's rows. -/
abbrev TCx : Type := Program × Launch × Env × Room × State × MethodId × Array Value × List Frame × Method × Code × (State → Prop) × (Nat → Prop) × va_G × List vw_C × Nat
abbrev cx_p (X : TCx) : Program := X.1
abbrev cx_l (X : TCx) : Launch := X.2.1
abbrev cx_e (X : TCx) : Env := X.2.2.1
abbrev cx_R (X : TCx) : Room := X.2.2.2.1
abbrev cx_s (X : TCx) : State := X.2.2.2.2.1
abbrev cx_m (X : TCx) : MethodId := X.2.2.2.2.2.1
abbrev cx_a (X : TCx) : Array Value := X.2.2.2.2.2.2.1
abbrev cx_b (X : TCx) : List Frame := X.2.2.2.2.2.2.2.1
abbrev cx_M (X : TCx) : Method := X.2.2.2.2.2.2.2.2.1
abbrev cx_c (X : TCx) : Code := X.2.2.2.2.2.2.2.2.2.1
abbrev cx_Q (X : TCx) : State → Prop := X.2.2.2.2.2.2.2.2.2.2.1
abbrev cx_A (X : TCx) : Nat → Prop := X.2.2.2.2.2.2.2.2.2.2.2.1
abbrev cx_D (X : TCx) : va_G := X.2.2.2.2.2.2.2.2.2.2.2.2.1
abbrev cx_C (X : TCx) : List vw_C := X.2.2.2.2.2.2.2.2.2.2.2.2.2.1
abbrev cx_n (X : TCx) : Nat := X.2.2.2.2.2.2.2.2.2.2.2.2.2.2
abbrev TWx (X : TCx) (H : Heap) (locs : List Loc) (n k : Nat) (g : JFrame) : Prop := W (cx_p X) (cx_l X) (cx_e X) (cx_R X) (cx_s X) (cx_m X) (cx_a X) (cx_b X) (cx_M X) (cx_c X) H locs n k (cx_Q X) g
def TGo (X : TCx) (ws : va_W) (n k pc : Nat) (lv : List (Nat × Value)) (st : List Value) : Prop :=
  ∀ (H : Heap) (locs : List Loc) (ls : Array Slot), va_P (cx_D X) (cx_C X) ws H → va_D (cx_A X) ws → va_S (cx_A X) (cx_s X).heap H locs → lv_has ls (cx_n X) lv → TWx X H locs n k (F0 (cx_m X) pc ls st)
/-- what a method may count on besides its cells: the statics, the nest; it must stay as the heap goes on -/
abbrev TEn : Type := (Nat → Prop) → State → Prop
def TOk (X : TCx) (cc : ByteArray) (own : String) (rm : Room) (nL : Nat) (cl : List vw_C) (E : TEn) : Prop :=
  (cx_p X).tables.exec = Jvm.exec ∧ (cx_c X).code = cc ∧ (cx_c X).maxLocals = nL ∧ cx_n X = nL ∧ (cx_s X).vm.findClass own = some (cx_m X).cls ∧ (∀ w ∈ Gw, w.before (cx_a X) (cx_s X) = true) ∧ (∀ q, (cx_s X).heap.size ≤ q → cx_A X q) ∧ cx_R X = rm ∧ cx_C X = cl ∧ E (cx_A X) (cx_s X)
def TKn (X : TCx) (tys : List (ClassId × FieldType)) : Prop := va_K (cx_D X) (cx_C X) tys (cx_s X)
section GO
variable {X : TCx} {cc : ByteArray} {own : String} {rm : Room} {nL : Nat} {ws : va_W} {n k pc : Nat} {lv : List (Nat × Value)} {st : List Value} {tys : List (ClassId × FieldType)} {cl : List vw_C} {E : TEn}
theorem TWx_vi {H : Heap} {locs : List Loc} {ls : Array Slot} {x y : Int32} (e : x = y) (h : TWx X H locs n k (F0 (cx_m X) pc ls (.int y :: st))) : TWx X H locs n k (F0 (cx_m X) pc ls (.int x :: st)) := e ▸ h
theorem TWx_vl {H : Heap} {locs : List Loc} {ls : Array Slot} {x y : Int64} (e : x = y) (h : TWx X H locs n k (F0 (cx_m X) pc ls (.long y :: st))) : TWx X H locs n k (F0 (cx_m X) pc ls (.long x :: st)) := e ▸ h
theorem iI_cl {j : Nat} (h : j < 2147483648) : (iI (j : Int)).toNatClampNeg = j := by rw [iI_nat, nI_clamp (by omega)]
theorem iI_in {j N : Nat} (h : j < N) (hN : N < 2147483648) : vp_in (iI (j : Int)) N := by rw [iI_nat]; exact vp_in_nI h hN
theorem TGo.sub {ws' : va_W} (is : List Nat) (hn : va_nd is = true) (hs : is.map (fun i => ws[i]?) = ws'.map some) (h : TGo X ws' n k pc lv st) : TGo X ws n k pc lv st := by
  intro H locs ls hP hD hS hl
  refine h H locs ls (fun j q hj => ?_) (hD.sub is hn hs) hS hl
  have h1 : (is.map (fun i => ws[i]?))[j]? = some (some q) := by rw [hs, List.getElem?_map, hj]; rfl
  rw [List.getElem?_map] at h1
  cases hi : is[j]? with
  | none => rw [hi] at h1; cases h1
  | some i => rw [hi] at h1; exact hP i q (Option.some.inj h1)
theorem TGo.lsub {lv' : List (Nat × Value)} (ks : List Nat) (hk : lv_pick lv ks = lv') (h : TGo X ws n k pc lv' st) : TGo X ws n k pc lv st :=
  fun H locs ls hP hD hS hl => h H locs ls hP hD hS (lv_sub hl ks hk)
theorem TGo.eqw {ws' : va_W} (e : ws = ws') (h : TGo X ws' n k pc lv st) : TGo X ws n k pc lv st := e ▸ h
theorem vp_cell_ext (cA : ClassId) (N : Nat) {f g : Nat → Int32} (h : ∀ i, i < N → f i = g i) : vp_cell cA (N, .inl f) = vp_cell cA (N, .inl g) := by
  rw [vp_cell_i, vp_cell_i]
  unfold arrV
  congr 2
  funext j
  exact congrArg Value.int (h j.val j.isLt)
theorem vp_cell_extL (cA : ClassId) (N : Nat) {f g : Nat → Int64} (h : ∀ i, i < N → f i = g i) : vp_cell cA (N, .inr (.inl f)) = vp_cell cA (N, .inr (.inl g)) := by
  rw [vp_cell_l, vp_cell_l]
  unfold arrV
  congr 2
  funext j
  exact congrArg Value.long (h j.val j.isLt)
theorem va_P_ext {D : va_G} {cl : List vw_C} {q0 a : Nat} {e e' : va_E} {H : Heap} (hq : q0 < ws.length) (h : va_P D cl (ws.set q0 (a, e)) H) (he : va_at D cl (a, e) H → va_at D cl (a, e') H) : va_P D cl (ws.set q0 (a, e')) H := by
  intro j q hj
  by_cases hjq : j = q0
  · subst hjq
    rw [List.getElem?_set_self hq] at hj
    cases hj
    exact he (h j (a, e) (List.getElem?_set_self hq))
  · rw [List.getElem?_set_ne (Ne.symm hjq)] at hj
    exact h j q (by rw [List.getElem?_set_ne (Ne.symm hjq)]; exact hj)
/-- another picture of an int array, equal below its length -/
theorem TGo.arr (q0 : Nat) {a : Nat} {cA : ClassId} {N : Nat} {f : Nat → Int32} (hq : ws[q0]? = some (a, .inl (cA, N, .inl f))) (g : Nat → Int32) (hg : ∀ i, i < N → f i = g i) {ws' : va_W} (hw : ws.set q0 (a, .inl (cA, N, .inl g)) = ws') (h : TGo X ws' n k pc lv st) : TGo X ws n k pc lv st := by
  subst hw
  intro H locs ls hP hD hS hl
  have hlt := (List.getElem?_eq_some_iff.mp hq).1
  refine h H locs ls ?_ (va_D.set hD hq) hS hl
  intro j q hj
  by_cases hjq : j = q0
  · subst hjq
    rw [List.getElem?_set_self hlt] at hj
    cases hj
    have h1 : H[a]? = some (vp_cell cA (N, .inl f)) := hP j _ hq
    show H[a]? = some (vp_cell cA (N, .inl g))
    rw [h1, vp_cell_ext cA N hg]
  · rw [List.getElem?_set_ne (Ne.symm hjq)] at hj
    exact hP j q hj

theorem go_iconst (O : TOk X cc own rm nL cl E) {z : Int} (hd : decode cc pc = .ok (.iconst z, 1))  (pc' : Nat) (hp : pc + 1 = pc') (h : TGo X ws n k pc' lv (.int (iI z) :: st)) : TGo X ws n k pc lv st := by
  subst hp
  intro H locs ls hP hD hS hl
  exact lv_iconst O.1 O.2.1 hd rfl (h H locs ls hP hD hS hl)
theorem go_bipush (O : TOk X cc own rm nL cl E) {z : Int} (hd : decode cc pc = .ok (.bipush z, 2)) (hv : (Int8.ofInt z).toInt32 = iI z) (pc' : Nat) (hp : pc + 2 = pc') (h : TGo X ws n k pc' lv (.int (iI z) :: st)) : TGo X ws n k pc lv st := by
  subst hp
  intro H locs ls hP hD hS hl
  exact lv_bipush O.1 O.2.1 hd hv (h H locs ls hP hD hS hl)
theorem go_sipush (O : TOk X cc own rm nL cl E) {z : Int} (hd : decode cc pc = .ok (.sipush z, 3)) (hv : (Int16.ofInt z).toInt32 = iI z) (pc' : Nat) (hp : pc + 3 = pc') (h : TGo X ws n k pc' lv (.int (iI z) :: st)) : TGo X ws n k pc lv st := by
  subst hp
  intro H locs ls hP hD hS hl
  exact lv_sipush O.1 O.2.1 hd hv (h H locs ls hP hD hS hl)
theorem go_lconst (O : TOk X cc own rm nL cl E) {c : Fin 2} (hd : decode cc pc = .ok (.lconst c, 1)) (z : Int) (hv : Int64.ofNat (c : Nat) = lI z) (pc' : Nat) (hp : pc + 1 = pc') (h : TGo X ws n k pc' lv (.long (lI z) :: st)) : TGo X ws n k pc lv st := by
  subst hp
  intro H locs ls hP hD hS hl
  exact lv_lconst O.1 O.2.1 hd hv (h H locs ls hP hD hS hl)
theorem go_ldc (O : TOk X cc own rm nL cl E) {index : Nat} {v : Int32} (hd : decode cc pc = .ok (.ldc index, 2)) (z : Int) (hw : Cond.constant own index v ∈ Gw) (hv : v = iI z) (pc' : Nat) (hp : pc + 2 = pc') (h : TGo X ws n k pc' lv (.int (iI z) :: st)) : TGo X ws n k pc lv st := by
  subst hp
  intro H locs ls hP hD hS hl
  exact lv_ldc O.1 O.2.1 O.2.2.2.2.1 (hv ▸ O.2.2.2.2.2.1 _ hw) hd (h H locs ls hP hD hS hl)
theorem go_ldc2 (O : TOk X cc own rm nL cl E) {index : Nat} {v : Int64} (hd : decode cc pc = .ok (.ldc2_w index, 3)) (z : Int) (hw : Cond.constantLong own index v ∈ Gw) (hv : v = lI z) (pc' : Nat) (hp : pc + 3 = pc') (h : TGo X ws n k pc' lv (.long (lI z) :: st)) : TGo X ws n k pc lv st := by
  subst hp
  intro H locs ls hP hD hS hl
  exact lv_ldc2 O.1 O.2.1 O.2.2.2.2.1 (hv ▸ O.2.2.2.2.2.1 _ hw) hd (h H locs ls hP hD hS hl)
theorem go_iload_n (O : TOk X cc own rm nL cl E) {i : Nat} {x : Int32} {q : Fin 4} (hd : decode cc pc = .ok (.iload_n q, 1)) (hi : (q : Nat) = i) (j : Nat) (hj : lv[j]? = some (i, .int x)) (pc' : Nat) (hp : pc + 1 = pc') (h : TGo X ws n k pc' lv (.int x :: st)) : TGo X ws n k pc lv st := by
  subst hp
  intro H locs ls hP hD hS hl
  exact lv_iload_n O.1 O.2.1 hd hi (lv_at hl j hj) (h H locs ls hP hD hS hl)
theorem go_iload (O : TOk X cc own rm nL cl E) {i : Nat} {x : Int32} (hd : decode cc pc = .ok (.iload i, 2)) (j : Nat) (hj : lv[j]? = some (i, .int x)) (pc' : Nat) (hp : pc + 2 = pc') (h : TGo X ws n k pc' lv (.int x :: st)) : TGo X ws n k pc lv st := by
  subst hp
  intro H locs ls hP hD hS hl
  exact lv_iload O.1 O.2.1 hd (lv_at hl j hj) (h H locs ls hP hD hS hl)
theorem go_lload_n (O : TOk X cc own rm nL cl E) {i : Nat} {x : Int64} {q : Fin 4} (hd : decode cc pc = .ok (.lload_n q, 1)) (hi : (q : Nat) = i) (j : Nat) (hj : lv[j]? = some (i, .long x)) (pc' : Nat) (hp : pc + 1 = pc') (h : TGo X ws n k pc' lv (.long x :: st)) : TGo X ws n k pc lv st := by
  subst hp
  intro H locs ls hP hD hS hl
  exact lv_lload_n O.1 O.2.1 hd hi (lv_at hl j hj) (h H locs ls hP hD hS hl)
theorem go_lload (O : TOk X cc own rm nL cl E) {i : Nat} {x : Int64} (hd : decode cc pc = .ok (.lload i, 2)) (j : Nat) (hj : lv[j]? = some (i, .long x)) (pc' : Nat) (hp : pc + 2 = pc') (h : TGo X ws n k pc' lv (.long x :: st)) : TGo X ws n k pc lv st := by
  subst hp
  intro H locs ls hP hD hS hl
  exact lv_lload O.1 O.2.1 hd (lv_at hl j hj) (h H locs ls hP hD hS hl)
theorem go_aload_n (O : TOk X cc own rm nL cl E) {i : Nat} {x : Nat} {q : Fin 4} (hd : decode cc pc = .ok (.aload_n q, 1)) (hi : (q : Nat) = i) (j : Nat) (hj : lv[j]? = some (i, .ref x)) (pc' : Nat) (hp : pc + 1 = pc') (h : TGo X ws n k pc' lv (.ref x :: st)) : TGo X ws n k pc lv st := by
  subst hp
  intro H locs ls hP hD hS hl
  exact lv_aload_n O.1 O.2.1 hd hi (lv_at hl j hj) (h H locs ls hP hD hS hl)
theorem go_aload (O : TOk X cc own rm nL cl E) {i : Nat} {x : Nat} (hd : decode cc pc = .ok (.aload i, 2)) (j : Nat) (hj : lv[j]? = some (i, .ref x)) (pc' : Nat) (hp : pc + 2 = pc') (h : TGo X ws n k pc' lv (.ref x :: st)) : TGo X ws n k pc lv st := by
  subst hp
  intro H locs ls hP hD hS hl
  exact lv_aload O.1 O.2.1 hd (lv_at hl j hj) (h H locs ls hP hD hS hl)
theorem go_istore_n (O : TOk X cc own rm nL cl E) {i : Nat} {x : Int32} {q : Fin 4} (hd : decode cc pc = .ok (.istore_n q, 1)) (hi : (q : Nat) = i) (hn : i < nL) (lv' : List (Nat × Value)) (hl' : (i, Value.int x) :: lv.filter (fun q => !(q.1 == i) && !(q.1 + 1 == i && q.2.category == 2)) = lv') (pc' : Nat) (hp : pc + 1 = pc') (h : TGo X ws n k pc' lv' st) : TGo X ws n k pc lv (.int x :: st) := by
  subst hp
  intro H locs ls hP hD hS hl
  exact lv_istore_n O.1 O.2.1 hd hi hl (by rw [O.2.2.2.1]; exact hn) hl' (fun ls' h' => h H locs ls' hP hD hS h')
theorem go_istore (O : TOk X cc own rm nL cl E) {i : Nat} {x : Int32} (hd : decode cc pc = .ok (.istore i, 2)) (hn : i < nL) (lv' : List (Nat × Value)) (hl' : (i, Value.int x) :: lv.filter (fun q => !(q.1 == i) && !(q.1 + 1 == i && q.2.category == 2)) = lv') (pc' : Nat) (hp : pc + 2 = pc') (h : TGo X ws n k pc' lv' st) : TGo X ws n k pc lv (.int x :: st) := by
  subst hp
  intro H locs ls hP hD hS hl
  exact lv_istore O.1 O.2.1 hd hl (by rw [O.2.2.2.1]; exact hn) hl' (fun ls' h' => h H locs ls' hP hD hS h')
theorem go_lstore_n (O : TOk X cc own rm nL cl E) {i : Nat} {x : Int64} {q : Fin 4} (hd : decode cc pc = .ok (.lstore_n q, 1)) (hi : (q : Nat) = i) (hn : i + 1 < nL) (lv' : List (Nat × Value)) (hl' : (i, Value.long x) :: lv.filter (fun q => !(q.1 == i) && (!(q.1 == i + 1) && !(q.1 + 1 == i && q.2.category == 2))) = lv') (pc' : Nat) (hp : pc + 1 = pc') (h : TGo X ws n k pc' lv' st) : TGo X ws n k pc lv (.long x :: st) := by
  subst hp
  intro H locs ls hP hD hS hl
  exact lv_lstore_n O.1 O.2.1 hd hi hl (by rw [O.2.2.2.1]; exact hn) hl' (fun ls' h' => h H locs ls' hP hD hS h')
theorem go_lstore (O : TOk X cc own rm nL cl E) {i : Nat} {x : Int64} (hd : decode cc pc = .ok (.lstore i, 2)) (hn : i + 1 < nL) (lv' : List (Nat × Value)) (hl' : (i, Value.long x) :: lv.filter (fun q => !(q.1 == i) && (!(q.1 == i + 1) && !(q.1 + 1 == i && q.2.category == 2))) = lv') (pc' : Nat) (hp : pc + 2 = pc') (h : TGo X ws n k pc' lv' st) : TGo X ws n k pc lv (.long x :: st) := by
  subst hp
  intro H locs ls hP hD hS hl
  exact lv_lstore O.1 O.2.1 hd hl (by rw [O.2.2.2.1]; exact hn) hl' (fun ls' h' => h H locs ls' hP hD hS h')
theorem go_astore_n (O : TOk X cc own rm nL cl E) {i : Nat} {x : Nat} {q : Fin 4} (hd : decode cc pc = .ok (.astore_n q, 1)) (hi : (q : Nat) = i) (hn : i < nL) (lv' : List (Nat × Value)) (hl' : (i, Value.ref x) :: lv.filter (fun q => !(q.1 == i) && !(q.1 + 1 == i && q.2.category == 2)) = lv') (pc' : Nat) (hp : pc + 1 = pc') (h : TGo X ws n k pc' lv' st) : TGo X ws n k pc lv (.ref x :: st) := by
  subst hp
  intro H locs ls hP hD hS hl
  exact lv_astore_n O.1 O.2.1 hd hi hl (by rw [O.2.2.2.1]; exact hn) hl' (fun ls' h' => h H locs ls' hP hD hS h')
theorem go_astore (O : TOk X cc own rm nL cl E) {i : Nat} {x : Nat} (hd : decode cc pc = .ok (.astore i, 2)) (hn : i < nL) (lv' : List (Nat × Value)) (hl' : (i, Value.ref x) :: lv.filter (fun q => !(q.1 == i) && !(q.1 + 1 == i && q.2.category == 2)) = lv') (pc' : Nat) (hp : pc + 2 = pc') (h : TGo X ws n k pc' lv' st) : TGo X ws n k pc lv (.ref x :: st) := by
  subst hp
  intro H locs ls hP hD hS hl
  exact lv_astore O.1 O.2.1 hd hl (by rw [O.2.2.2.1]; exact hn) hl' (fun ls' h' => h H locs ls' hP hD hS h')
theorem go_iinc (O : TOk X cc own rm nL cl E) {i : Nat} {a c : Int} (hd : decode cc pc = .ok (.iinc i c, 3)) (j : Nat) (hj : lv[j]? = some (i, .int (iI a))) (z : Int) (hz : a + c = z) (hn : i < nL) (lv' : List (Nat × Value)) (hl' : (i, Value.int (iI z)) :: lv.filter (fun q => !(q.1 == i) && !(q.1 + 1 == i && q.2.category == 2)) = lv') (pc' : Nat) (hp : pc + 3 = pc') (h : TGo X ws n k pc' lv' st) : TGo X ws n k pc lv st := by
  subst hp
  intro H locs ls hP hD hS hl
  exact lv_iinc O.1 O.2.1 hd hl hj (by rw [← hz, ← iI_add]; rfl) (by rw [O.2.2.2.1]; exact hn) hl' (fun ls' h' => h H locs ls' hP hD hS h')
theorem go_iadd (O : TOk X cc own rm nL cl E) {a b : Int} (hd : decode cc pc = .ok (.iadd, 1)) (z : Int) (hz : a + b = z) (pc' : Nat) (hp : pc + 1 = pc') (h : TGo X ws n k pc' lv (.int (iI z) :: st)) : TGo X ws n k pc lv (.int (iI b) :: .int (iI a) :: st) := by
  subst hp
  intro H locs ls hP hD hS hl
  exact lv_iadd O.1 O.2.1 hd (TWx_vi (by rw [iI_add, hz]) (h H locs ls hP hD hS hl))
theorem go_isub (O : TOk X cc own rm nL cl E) {a b : Int} (hd : decode cc pc = .ok (.isub, 1)) (z : Int) (hz : a - b = z) (pc' : Nat) (hp : pc + 1 = pc') (h : TGo X ws n k pc' lv (.int (iI z) :: st)) : TGo X ws n k pc lv (.int (iI b) :: .int (iI a) :: st) := by
  subst hp
  intro H locs ls hP hD hS hl
  exact lv_isub O.1 O.2.1 hd (TWx_vi (by rw [iI_sub, hz]) (h H locs ls hP hD hS hl))
theorem go_imul (O : TOk X cc own rm nL cl E) {a b : Int} (hd : decode cc pc = .ok (.imul, 1)) (z : Int) (hz : a * b = z) (pc' : Nat) (hp : pc + 1 = pc') (h : TGo X ws n k pc' lv (.int (iI z) :: st)) : TGo X ws n k pc lv (.int (iI b) :: .int (iI a) :: st) := by
  subst hp
  intro H locs ls hP hD hS hl
  exact lv_imul O.1 O.2.1 hd (TWx_vi (by rw [iI_mul, hz]) (h H locs ls hP hD hS hl))
theorem go_ladd (O : TOk X cc own rm nL cl E) {a b : Int} (hd : decode cc pc = .ok (.ladd, 1)) (z : Int) (hz : a + b = z) (pc' : Nat) (hp : pc + 1 = pc') (h : TGo X ws n k pc' lv (.long (lI z) :: st)) : TGo X ws n k pc lv (.long (lI b) :: .long (lI a) :: st) := by
  subst hp
  intro H locs ls hP hD hS hl
  exact lv_ladd O.1 O.2.1 hd (TWx_vl (by rw [lI_add, hz]) (h H locs ls hP hD hS hl))
theorem go_lsub (O : TOk X cc own rm nL cl E) {a b : Int} (hd : decode cc pc = .ok (.lsub, 1)) (z : Int) (hz : a - b = z) (pc' : Nat) (hp : pc + 1 = pc') (h : TGo X ws n k pc' lv (.long (lI z) :: st)) : TGo X ws n k pc lv (.long (lI b) :: .long (lI a) :: st) := by
  subst hp
  intro H locs ls hP hD hS hl
  exact lv_lsub O.1 O.2.1 hd (TWx_vl (by rw [lI_sub, hz]) (h H locs ls hP hD hS hl))
theorem go_lmul (O : TOk X cc own rm nL cl E) {a b : Int} (hd : decode cc pc = .ok (.lmul, 1)) (z : Int) (hz : a * b = z) (pc' : Nat) (hp : pc + 1 = pc') (h : TGo X ws n k pc' lv (.long (lI z) :: st)) : TGo X ws n k pc lv (.long (lI b) :: .long (lI a) :: st) := by
  subst hp
  intro H locs ls hP hD hS hl
  exact lv_lmul O.1 O.2.1 hd (TWx_vl (by rw [lI_mul, hz]) (h H locs ls hP hD hS hl))
theorem go_ineg (O : TOk X cc own rm nL cl E) {a : Int} (hd : decode cc pc = .ok (.ineg, 1)) (z : Int) (hz : -a = z) (pc' : Nat) (hp : pc + 1 = pc') (h : TGo X ws n k pc' lv (.int (iI z) :: st)) : TGo X ws n k pc lv (.int (iI a) :: st) := by
  subst hp
  intro H locs ls hP hD hS hl
  exact lv_ineg O.1 O.2.1 hd (TWx_vi (by rw [iI_neg, hz]) (h H locs ls hP hD hS hl))
theorem go_lneg (O : TOk X cc own rm nL cl E) {a : Int} (hd : decode cc pc = .ok (.lneg, 1)) (z : Int) (hz : -a = z) (pc' : Nat) (hp : pc + 1 = pc') (h : TGo X ws n k pc' lv (.long (lI z) :: st)) : TGo X ws n k pc lv (.long (lI a) :: st) := by
  subst hp
  intro H locs ls hP hD hS hl
  exact lv_lneg O.1 O.2.1 hd (TWx_vl (by rw [lI_neg, hz]) (h H locs ls hP hD hS hl))
theorem go_iand (O : TOk X cc own rm nL cl E) {a b : Int} (hd : decode cc pc = .ok (.iand, 1)) (z : Int) (hz : iI a &&& iI b = iI z) (pc' : Nat) (hp : pc + 1 = pc') (h : TGo X ws n k pc' lv (.int (iI z) :: st)) : TGo X ws n k pc lv (.int (iI b) :: .int (iI a) :: st) := by
  subst hp
  intro H locs ls hP hD hS hl
  exact lv_iand O.1 O.2.1 hd (TWx_vi hz (h H locs ls hP hD hS hl))
theorem go_ior (O : TOk X cc own rm nL cl E) {a b : Int} (hd : decode cc pc = .ok (.ior, 1)) (z : Int) (hz : iI a ||| iI b = iI z) (pc' : Nat) (hp : pc + 1 = pc') (h : TGo X ws n k pc' lv (.int (iI z) :: st)) : TGo X ws n k pc lv (.int (iI b) :: .int (iI a) :: st) := by
  subst hp
  intro H locs ls hP hD hS hl
  exact lv_ior O.1 O.2.1 hd (TWx_vi hz (h H locs ls hP hD hS hl))
theorem go_land (O : TOk X cc own rm nL cl E) {a b : Int} (hd : decode cc pc = .ok (.land, 1)) (z : Int) (hz : lI a &&& lI b = lI z) (pc' : Nat) (hp : pc + 1 = pc') (h : TGo X ws n k pc' lv (.long (lI z) :: st)) : TGo X ws n k pc lv (.long (lI b) :: .long (lI a) :: st) := by
  subst hp
  intro H locs ls hP hD hS hl
  exact lv_land O.1 O.2.1 hd (TWx_vl hz (h H locs ls hP hD hS hl))
theorem go_lor (O : TOk X cc own rm nL cl E) {a b : Int} (hd : decode cc pc = .ok (.lor, 1)) (z : Int) (hz : lI a ||| lI b = lI z) (pc' : Nat) (hp : pc + 1 = pc') (h : TGo X ws n k pc' lv (.long (lI z) :: st)) : TGo X ws n k pc lv (.long (lI b) :: .long (lI a) :: st) := by
  subst hp
  intro H locs ls hP hD hS hl
  exact lv_lor O.1 O.2.1 hd (TWx_vl hz (h H locs ls hP hD hS hl))
theorem go_idiv (O : TOk X cc own rm nL cl E) {a b : Int} (hd : decode cc pc = .ok (.idiv, 1)) (ha : 0 ≤ a) (ha2 : a < 2147483648) (hb : 0 < b) (hb2 : b < 2147483648) (z : Int) (hz : a / b = z) (pc' : Nat) (hp : pc + 1 = pc') (h : TGo X ws n k pc' lv (.int (iI z) :: st)) : TGo X ws n k pc lv (.int (iI b) :: .int (iI a) :: st) := by
  subst hp
  intro H locs ls hP hD hS hl
  exact lv_idiv O.1 O.2.1 hd (by
    intro q
    have := (iI_inj ⟨by omega, hb2⟩ r32_0).mp (q.trans iI_0.symm)
    omega) (TWx_vi (by rw [iI_div ha ha2 hb hb2, hz]) (h H locs ls hP hD hS hl))
theorem go_irem (O : TOk X cc own rm nL cl E) {a b : Int} (hd : decode cc pc = .ok (.irem, 1)) (ha : 0 ≤ a) (ha2 : a < 2147483648) (hb : 0 < b) (hb2 : b < 2147483648) (z : Int) (hz : a % b = z) (pc' : Nat) (hp : pc + 1 = pc') (h : TGo X ws n k pc' lv (.int (iI z) :: st)) : TGo X ws n k pc lv (.int (iI b) :: .int (iI a) :: st) := by
  subst hp
  intro H locs ls hP hD hS hl
  exact lv_irem O.1 O.2.1 hd (by
    intro q
    have := (iI_inj ⟨by omega, hb2⟩ r32_0).mp (q.trans iI_0.symm)
    omega) (TWx_vi (by rw [iI_rem ha ha2 hb hb2, hz]) (h H locs ls hP hD hS hl))
theorem go_ldiv (O : TOk X cc own rm nL cl E) {a b : Int} (hd : decode cc pc = .ok (.ldiv, 1)) (ha : r64 a) (hb : r64 b) (h0 : b ≠ 0) (h1 : b ≠ -1) (z : Int) (hz : a.tdiv b = z) (pc' : Nat) (hp : pc + 1 = pc') (h : TGo X ws n k pc' lv (.long (lI z) :: st)) : TGo X ws n k pc lv (.long (lI b) :: .long (lI a) :: st) := by
  subst hp
  intro H locs ls hP hD hS hl
  exact lv_ldiv O.1 O.2.1 hd (by
    intro q
    have := (lI_inj hb ⟨by omega, by omega⟩).mp (q.trans lI_0.symm)
    omega) (TWx_vl (by rw [lI_quo ha hb h1, hz]) (h H locs ls hP hD hS hl))
theorem go_lrem (O : TOk X cc own rm nL cl E) {a b : Int} (hd : decode cc pc = .ok (.lrem, 1)) (ha : r64 a) (hb : r64 b) (h0 : b ≠ 0) (h1 : b ≠ -1) (z : Int) (hz : a.tmod b = z) (pc' : Nat) (hp : pc + 1 = pc') (h : TGo X ws n k pc' lv (.long (lI z) :: st)) : TGo X ws n k pc lv (.long (lI b) :: .long (lI a) :: st) := by
  subst hp
  intro H locs ls hP hD hS hl
  exact lv_lrem O.1 O.2.1 hd (by
    intro q
    have := (lI_inj hb ⟨by omega, by omega⟩).mp (q.trans lI_0.symm)
    omega) (TWx_vl (by rw [lI_mod ha hb h1, hz]) (h H locs ls hP hD hS hl))
theorem go_i2l (O : TOk X cc own rm nL cl E) {a : Int} (hd : decode cc pc = .ok (.i2l, 1)) (ha : r32 a) (pc' : Nat) (hp : pc + 1 = pc') (h : TGo X ws n k pc' lv (.long (lI a) :: st)) : TGo X ws n k pc lv (.int (iI a) :: st) := by
  subst hp
  intro H locs ls hP hD hS hl
  exact lv_i2l O.1 O.2.1 hd (iI_64 ha) (h H locs ls hP hD hS hl)
theorem go_l2i (O : TOk X cc own rm nL cl E) {a : Int} (hd : decode cc pc = .ok (.l2i, 1))  (pc' : Nat) (hp : pc + 1 = pc') (h : TGo X ws n k pc' lv (.int (iI a) :: st)) : TGo X ws n k pc lv (.long (lI a) :: st) := by
  subst hp
  intro H locs ls hP hD hS hl
  exact lv_l2i O.1 O.2.1 hd (lI_32 a) (h H locs ls hP hD hS hl)
theorem go_lshl (O : TOk X cc own rm nL cl E) {a : Int} {b : Int} (hd : decode cc pc = .ok (.lshl, 1)) (z : Int) (hz : lI a <<< ((iI b).toInt64 &&& 63) = lI z) (pc' : Nat) (hp : pc + 1 = pc') (h : TGo X ws n k pc' lv (.long (lI z) :: st)) : TGo X ws n k pc lv (.int (iI b) :: .long (lI a) :: st) := by
  subst hp
  intro H locs ls hP hD hS hl
  exact lv_lshl O.1 O.2.1 hd hz (h H locs ls hP hD hS hl)
theorem go_lcmp (O : TOk X cc own rm nL cl E) {a b : Int} (hd : decode cc pc = .ok (.lcmp, 1)) (ha : r64 a) (hb : r64 b) (pc' : Nat) (hp : pc + 1 = pc') (h : TGo X ws n k pc' lv (.int (iI (cmpZ a b)) :: st)) : TGo X ws n k pc lv (.long (lI b) :: .long (lI a) :: st) := by
  subst hp
  intro H locs ls hP hD hS hl
  exact W.lcmp O.1 O.2.1 hd (TWx_vi (lI_cmp ha hb) (h H locs ls hP hD hS hl))
theorem go_dup (O : TOk X cc own rm nL cl E) {v : Value} (hd : decode cc pc = .ok (.dup, 1)) (hv : v.category = 1) (pc' : Nat) (hp : pc + 1 = pc') (h : TGo X ws n k pc' lv (v :: v :: st)) : TGo X ws n k pc lv (v :: st) := by
  subst hp
  intro H locs ls hP hD hS hl
  exact lv_dup O.1 O.2.1 hd hv (h H locs ls hP hD hS hl)
theorem go_pop (O : TOk X cc own rm nL cl E) {v : Value} (hd : decode cc pc = .ok (.pop, 1)) (hv : v.category = 1) (pc' : Nat) (hp : pc + 1 = pc') (h : TGo X ws n k pc' lv st) : TGo X ws n k pc lv (v :: st) := by
  subst hp
  intro H locs ls hP hD hS hl
  exact lv_pop O.1 O.2.1 hd hv (h H locs ls hP hD hS hl)
theorem go_dup_x1 (O : TOk X cc own rm nL cl E) {v u : Value} (hd : decode cc pc = .ok (.dup_x1, 1)) (hv : v.category = 1) (hu : u.category = 1) (pc' : Nat) (hp : pc + 1 = pc') (h : TGo X ws n k pc' lv (v :: u :: v :: st)) : TGo X ws n k pc lv (v :: u :: st) := by
  subst hp
  intro H locs ls hP hD hS hl
  exact lv_dup_x1 O.1 O.2.1 hd hv hu (h H locs ls hP hD hS hl)
theorem go_dup2_11 (O : TOk X cc own rm nL cl E) {v u : Value} (hd : decode cc pc = .ok (.dup2, 1)) (hv : v.category = 1) (hu : u.category = 1) (pc' : Nat) (hp : pc + 1 = pc') (h : TGo X ws n k pc' lv (v :: u :: v :: u :: st)) : TGo X ws n k pc lv (v :: u :: st) := by
  subst hp
  intro H locs ls hP hD hS hl
  exact lv_dup2_11 O.1 O.2.1 hd hv hu (h H locs ls hP hD hS hl)
theorem go_dup2_2 (O : TOk X cc own rm nL cl E) {v : Value} (hd : decode cc pc = .ok (.dup2, 1)) (hv : v.category = 2) (pc' : Nat) (hp : pc + 1 = pc') (h : TGo X ws n k pc' lv (v :: v :: st)) : TGo X ws n k pc lv (v :: st) := by
  subst hp
  intro H locs ls hP hD hS hl
  exact lv_dup2_2 O.1 O.2.1 hd hv (h H locs ls hP hD hS hl)
theorem go_pop2_2 (O : TOk X cc own rm nL cl E) {v : Value} (hd : decode cc pc = .ok (.pop2, 1)) (hv : v.category = 2) (pc' : Nat) (hp : pc + 1 = pc') (h : TGo X ws n k pc' lv st) : TGo X ws n k pc lv (v :: st) := by
  subst hp
  intro H locs ls hP hD hS hl
  exact lv_pop2_2 O.1 O.2.1 hd hv (h H locs ls hP hD hS hl)
theorem go_if_eq (O : TOk X cc own rm nL cl E) {a off : Int} (hd : decode cc pc = .ok (.ifCond .eq off, 3)) (tgt : Nat) (ht : (pc : Int) + off = (tgt : Int)) (pc' : Nat) (hp : pc + 3 = pc') (ha : r32 a) (h1 : a = 0 → TGo X ws n k tgt lv st) (h2 : ¬ a = 0 → TGo X ws n k pc' lv st) : TGo X ws n k pc lv (.int (iI a) :: st) := by
  subst hp
  intro H locs ls hP hD hS hl
  exact lv_if_eq O.1 O.2.1 hd ht (fun q => h1 ((iI_inj ha r32_0).mp q) H locs ls hP hD hS hl) (fun q => h2 (fun e => q ((iI_inj ha r32_0).mpr e)) H locs ls hP hD hS hl)
theorem go_if_ne (O : TOk X cc own rm nL cl E) {a off : Int} (hd : decode cc pc = .ok (.ifCond .ne off, 3)) (tgt : Nat) (ht : (pc : Int) + off = (tgt : Int)) (pc' : Nat) (hp : pc + 3 = pc') (ha : r32 a) (h1 : ¬ a = 0 → TGo X ws n k tgt lv st) (h2 : a = 0 → TGo X ws n k pc' lv st) : TGo X ws n k pc lv (.int (iI a) :: st) := by
  subst hp
  intro H locs ls hP hD hS hl
  exact lv_if_ne O.1 O.2.1 hd ht (fun q => h1 (fun e => q ((iI_inj ha r32_0).mpr e)) H locs ls hP hD hS hl) (fun q => h2 ((iI_inj ha r32_0).mp q) H locs ls hP hD hS hl)
theorem go_if_lt (O : TOk X cc own rm nL cl E) {a off : Int} (hd : decode cc pc = .ok (.ifCond .lt off, 3)) (tgt : Nat) (ht : (pc : Int) + off = (tgt : Int)) (pc' : Nat) (hp : pc + 3 = pc') (ha : r32 a) (h1 : a < 0 → TGo X ws n k tgt lv st) (h2 : 0 ≤ a → TGo X ws n k pc' lv st) : TGo X ws n k pc lv (.int (iI a) :: st) := by
  subst hp
  intro H locs ls hP hD hS hl
  exact lv_if_lt O.1 O.2.1 hd ht (fun q => h1 ((iI_lt ha r32_0).mp q) H locs ls hP hD hS hl) (fun q => h2 (Int.not_lt.mp fun e => q ((iI_lt ha r32_0).mpr e)) H locs ls hP hD hS hl)
theorem go_if_ge (O : TOk X cc own rm nL cl E) {a off : Int} (hd : decode cc pc = .ok (.ifCond .ge off, 3)) (tgt : Nat) (ht : (pc : Int) + off = (tgt : Int)) (pc' : Nat) (hp : pc + 3 = pc') (ha : r32 a) (h1 : 0 ≤ a → TGo X ws n k tgt lv st) (h2 : a < 0 → TGo X ws n k pc' lv st) : TGo X ws n k pc lv (.int (iI a) :: st) := by
  subst hp
  intro H locs ls hP hD hS hl
  exact lv_if_ge O.1 O.2.1 hd ht (fun q => h1 ((iI_le r32_0 ha).mp q) H locs ls hP hD hS hl) (fun q => h2 (Int.not_le.mp fun e => q ((iI_le r32_0 ha).mpr e)) H locs ls hP hD hS hl)
theorem go_if_gt (O : TOk X cc own rm nL cl E) {a off : Int} (hd : decode cc pc = .ok (.ifCond .gt off, 3)) (tgt : Nat) (ht : (pc : Int) + off = (tgt : Int)) (pc' : Nat) (hp : pc + 3 = pc') (ha : r32 a) (h1 : 0 < a → TGo X ws n k tgt lv st) (h2 : a ≤ 0 → TGo X ws n k pc' lv st) : TGo X ws n k pc lv (.int (iI a) :: st) := by
  subst hp
  intro H locs ls hP hD hS hl
  exact lv_if_gt O.1 O.2.1 hd ht (fun q => h1 ((iI_lt r32_0 ha).mp q) H locs ls hP hD hS hl) (fun q => h2 (Int.not_lt.mp fun e => q ((iI_lt r32_0 ha).mpr e)) H locs ls hP hD hS hl)
theorem go_if_le (O : TOk X cc own rm nL cl E) {a off : Int} (hd : decode cc pc = .ok (.ifCond .le off, 3)) (tgt : Nat) (ht : (pc : Int) + off = (tgt : Int)) (pc' : Nat) (hp : pc + 3 = pc') (ha : r32 a) (h1 : a ≤ 0 → TGo X ws n k tgt lv st) (h2 : 0 < a → TGo X ws n k pc' lv st) : TGo X ws n k pc lv (.int (iI a) :: st) := by
  subst hp
  intro H locs ls hP hD hS hl
  exact lv_if_le O.1 O.2.1 hd ht (fun q => h1 ((iI_le ha r32_0).mp q) H locs ls hP hD hS hl) (fun q => h2 (Int.not_le.mp fun e => q ((iI_le ha r32_0).mpr e)) H locs ls hP hD hS hl)
theorem go_icmp_eq (O : TOk X cc own rm nL cl E) {a b off : Int} (hd : decode cc pc = .ok (.if_icmp .eq off, 3)) (tgt : Nat) (ht : (pc : Int) + off = (tgt : Int)) (pc' : Nat) (hp : pc + 3 = pc') (ha : r32 a) (hb : r32 b) (h1 : a = b → TGo X ws n k tgt lv st) (h2 : ¬ a = b → TGo X ws n k pc' lv st) : TGo X ws n k pc lv (.int (iI b) :: .int (iI a) :: st) := by
  subst hp
  intro H locs ls hP hD hS hl
  exact lv_icmp_eq O.1 O.2.1 hd ht (fun q => h1 ((iI_inj ha hb).mp q) H locs ls hP hD hS hl) (fun q => h2 (fun e => q ((iI_inj ha hb).mpr e)) H locs ls hP hD hS hl)
theorem go_icmp_ne (O : TOk X cc own rm nL cl E) {a b off : Int} (hd : decode cc pc = .ok (.if_icmp .ne off, 3)) (tgt : Nat) (ht : (pc : Int) + off = (tgt : Int)) (pc' : Nat) (hp : pc + 3 = pc') (ha : r32 a) (hb : r32 b) (h1 : ¬ a = b → TGo X ws n k tgt lv st) (h2 : a = b → TGo X ws n k pc' lv st) : TGo X ws n k pc lv (.int (iI b) :: .int (iI a) :: st) := by
  subst hp
  intro H locs ls hP hD hS hl
  exact lv_icmp_ne O.1 O.2.1 hd ht (fun q => h1 (fun e => q ((iI_inj ha hb).mpr e)) H locs ls hP hD hS hl) (fun q => h2 ((iI_inj ha hb).mp q) H locs ls hP hD hS hl)
theorem go_icmp_lt (O : TOk X cc own rm nL cl E) {a b off : Int} (hd : decode cc pc = .ok (.if_icmp .lt off, 3)) (tgt : Nat) (ht : (pc : Int) + off = (tgt : Int)) (pc' : Nat) (hp : pc + 3 = pc') (ha : r32 a) (hb : r32 b) (h1 : a < b → TGo X ws n k tgt lv st) (h2 : b ≤ a → TGo X ws n k pc' lv st) : TGo X ws n k pc lv (.int (iI b) :: .int (iI a) :: st) := by
  subst hp
  intro H locs ls hP hD hS hl
  exact lv_icmp_lt O.1 O.2.1 hd ht (fun q => h1 ((iI_lt ha hb).mp q) H locs ls hP hD hS hl) (fun q => h2 (Int.not_lt.mp fun e => q ((iI_lt ha hb).mpr e)) H locs ls hP hD hS hl)
theorem go_icmp_ge (O : TOk X cc own rm nL cl E) {a b off : Int} (hd : decode cc pc = .ok (.if_icmp .ge off, 3)) (tgt : Nat) (ht : (pc : Int) + off = (tgt : Int)) (pc' : Nat) (hp : pc + 3 = pc') (ha : r32 a) (hb : r32 b) (h1 : b ≤ a → TGo X ws n k tgt lv st) (h2 : a < b → TGo X ws n k pc' lv st) : TGo X ws n k pc lv (.int (iI b) :: .int (iI a) :: st) := by
  subst hp
  intro H locs ls hP hD hS hl
  exact lv_icmp_ge O.1 O.2.1 hd ht (fun q => h1 ((iI_le hb ha).mp q) H locs ls hP hD hS hl) (fun q => h2 (Int.not_le.mp fun e => q ((iI_le hb ha).mpr e)) H locs ls hP hD hS hl)
theorem go_icmp_gt (O : TOk X cc own rm nL cl E) {a b off : Int} (hd : decode cc pc = .ok (.if_icmp .gt off, 3)) (tgt : Nat) (ht : (pc : Int) + off = (tgt : Int)) (pc' : Nat) (hp : pc + 3 = pc') (ha : r32 a) (hb : r32 b) (h1 : b < a → TGo X ws n k tgt lv st) (h2 : a ≤ b → TGo X ws n k pc' lv st) : TGo X ws n k pc lv (.int (iI b) :: .int (iI a) :: st) := by
  subst hp
  intro H locs ls hP hD hS hl
  exact lv_icmp_gt O.1 O.2.1 hd ht (fun q => h1 ((iI_lt hb ha).mp q) H locs ls hP hD hS hl) (fun q => h2 (Int.not_lt.mp fun e => q ((iI_lt hb ha).mpr e)) H locs ls hP hD hS hl)
theorem go_icmp_le (O : TOk X cc own rm nL cl E) {a b off : Int} (hd : decode cc pc = .ok (.if_icmp .le off, 3)) (tgt : Nat) (ht : (pc : Int) + off = (tgt : Int)) (pc' : Nat) (hp : pc + 3 = pc') (ha : r32 a) (hb : r32 b) (h1 : a ≤ b → TGo X ws n k tgt lv st) (h2 : b < a → TGo X ws n k pc' lv st) : TGo X ws n k pc lv (.int (iI b) :: .int (iI a) :: st) := by
  subst hp
  intro H locs ls hP hD hS hl
  exact lv_icmp_le O.1 O.2.1 hd ht (fun q => h1 ((iI_le ha hb).mp q) H locs ls hP hD hS hl) (fun q => h2 (Int.not_le.mp fun e => q ((iI_le ha hb).mpr e)) H locs ls hP hD hS hl)
theorem go_goto (O : TOk X cc own rm nL cl E) {off : Int} (hd : decode cc pc = .ok (.goto off, 3)) (tgt : Nat) (ht : (pc : Int) + off = (tgt : Int)) (h : TGo X ws n k tgt lv st) : TGo X ws n k pc lv st :=
  fun H locs ls hP hD hS hl => lv_goto O.1 O.2.1 hd ht (h H locs ls hP hD hS hl)
theorem go_get (O : TOk X cc own rm nL cl E) (hK : TKn X tys) {C : String} {T : u_T} {N ci index a : Nat} (hd : decode cc pc = .ok (.getfield index, 3)) (hin : ∀ w ∈ u_ws C T N, w ∈ Gw) (q0 : Nat) {fs : List Value} (he : ws[q0]? = some (a, .inr (ci, fs))) (hc : cl[ci]? = some (C, T, N)) (f : Nat) (hf : f < N) (hlink : Cond.fieldLink own index (T f).1 (T f).2.1 (T f).2.2.1 ∈ Gw) {v : Value} (hv : fs[f]? = some v) (pc' : Nat) (hp : pc + 3 = pc') (h : TGo X ws n k pc' lv (v :: st)) : TGo X ws n k pc lv (.ref a :: st) := by
  subst hp
  intro H locs ls hP hD hS hl
  exact va_get O.1 O.2.1 O.2.2.2.2.2.1 hin O.2.2.2.2.1 hK hP q0 he (by rw [O.2.2.2.2.2.2.2.2.1]; exact hc) f hf (O.2.2.2.2.2.1 _ hlink) (fun _ e => e) hv hd (h H locs ls hP hD hS hl)
theorem go_put (O : TOk X cc own rm nL cl E) (hK : TKn X tys) {C : String} {T : u_T} {N ci index a : Nat} (hd : decode cc pc = .ok (.putfield index, 3)) (hin : ∀ w ∈ u_ws C T N, w ∈ Gw) (ty0 : Nat → FieldType) (hty : ∀ k, k < N → parseFieldDescriptor (T k).2.2.1 = some (ty0 k)) (hnm : ∀ a, a < N → ∀ b, b < N → a ≠ b → (T a).2.1 ≠ (T b).2.1) (q0 : Nat) {fs : List Value} (he : ws[q0]? = some (a, .inr (ci, fs))) (hc : cl[ci]? = some (C, T, N)) (f : Nat) (hf : f < N) (hlink : Cond.fieldLink own index (T f).1 (T f).2.1 (T f).2.2.1 ∈ Gw) (hfin : (T f).2.2.2 = false) {ty : FieldType} {v : Value} (hdd : parseFieldDescriptor (T f).2.2.1 = some ty) (hn : narrow ty v = v) (hfit : fits ty v = true) (hl0 : f < fs.length) (ws' : va_W) (hw : ws.set q0 (a, .inr (ci, fs.set f v)) = ws') (pc' : Nat) (hp : pc + 3 = pc') (h : TGo X ws' n k pc' lv st) : TGo X ws n k pc lv (v :: .ref a :: st) := by
  subst hp; subst hw
  intro H locs ls hP hD hS hl
  exact va_put O.1 O.2.1 O.2.2.2.2.2.1 hin ty0 hty hnm O.2.2.2.2.1 hK hP hD hS q0 he (by rw [O.2.2.2.2.2.2.2.2.1]; exact hc) f hf (O.2.2.2.2.2.1 _ hlink) (fun _ e => e) hfin hdd hn hfit hl0 hd (fun H1 locs1 hP1 hD1 hS1 => h H1 locs1 ls hP1 hD1 hS1 hl)
theorem go_putF (O : TOk X cc own rm nL cl E) (hK : TKn X tys) (hin2 : (cx_M X).name = "<init>") {C : String} {T : u_T} {N ci index a : Nat} (hd : decode cc pc = .ok (.putfield index, 3)) (hin : ∀ w ∈ u_ws C T N, w ∈ Gw) (ty0 : Nat → FieldType) (hty : ∀ k, k < N → parseFieldDescriptor (T k).2.2.1 = some (ty0 k)) (hnm : ∀ a, a < N → ∀ b, b < N → a ≠ b → (T a).2.1 ≠ (T b).2.1) (q0 : Nat) {fs : List Value} (he : ws[q0]? = some (a, .inr (ci, fs))) (hc : cl[ci]? = some (C, T, N)) (f : Nat) (hf : f < N) (hlink : Cond.fieldLink own index (T f).1 (T f).2.1 (T f).2.2.1 ∈ Gw) (hfin : (T f).2.2.2 = true) (hdecl : (T f).1 = own) {ty : FieldType} {v : Value} (hdd : parseFieldDescriptor (T f).2.2.1 = some ty) (hn : narrow ty v = v) (hfit : fits ty v = true) (hl0 : f < fs.length) (ws' : va_W) (hw : ws.set q0 (a, .inr (ci, fs.set f v)) = ws') (pc' : Nat) (hp : pc + 3 = pc') (h : TGo X ws' n k pc' lv st) : TGo X ws n k pc lv (v :: .ref a :: st) := by
  subst hp; subst hw
  intro H locs ls hP hD hS hl
  exact va_putF O.1 O.2.1 O.2.2.2.2.2.1 hin ty0 hty hnm O.2.2.2.2.1 hK hP hD hS q0 he (by rw [O.2.2.2.2.2.2.2.2.1]; exact hc) f hf (O.2.2.2.2.2.1 _ hlink) (fun _ e => e) hfin hin2 hdecl hdd hn hfit hl0 hd (fun H1 locs1 hP1 hD1 hS1 => h H1 locs1 ls hP1 hD1 hS1 hl)
theorem go_iald (O : TOk X cc own rm nL cl E) (hK : TKn X tys) (hd : decode cc pc = .ok (.iaload, 1)) (q0 t0 : Nat) {a : Nat} {cA : ClassId} {N : Nat} {f : Nat → Int32} (hq : ws[q0]? = some (a, .inl (cA, N, .inl f))) (ht : tys[t0]? = some (cA, .int)) {x : Int} (j : Nat) (hx : x = (j : Int)) (hj : j < N) (hN : N < 2147483648) (z : Int) (hz : f j = iI z) (pc' : Nat) (hp : pc + 1 = pc') (h : TGo X ws n k pc' lv (.int (iI z) :: st)) : TGo X ws n k pc lv (.int (iI x) :: .ref a :: st) := by
  subst hp; subst hx
  intro H locs ls hP hD hS hl
  exact va_iald O.1 O.2.1 hK hP q0 t0 hq ht (iI_in hj hN) hd (TWx_vi (by rw [iI_cl (by omega), hz]) (h H locs ls hP hD hS hl))
theorem go_zald (O : TOk X cc own rm nL cl E) (hK : TKn X tys) (hd : decode cc pc = .ok (.baload, 1)) (q0 t0 : Nat) {a : Nat} {cA : ClassId} {N : Nat} {f : Nat → Int32} (hq : ws[q0]? = some (a, .inl (cA, N, .inl f))) (ht : tys[t0]? = some (cA, .boolean)) {x : Int} (j : Nat) (hx : x = (j : Int)) (hj : j < N) (hN : N < 2147483648) (z : Int) (hz : f j = iI z) (pc' : Nat) (hp : pc + 1 = pc') (h : TGo X ws n k pc' lv (.int (iI z) :: st)) : TGo X ws n k pc lv (.int (iI x) :: .ref a :: st) := by
  subst hp; subst hx
  intro H locs ls hP hD hS hl
  exact va_zald O.1 O.2.1 hK hP q0 t0 hq ht (iI_in hj hN) hd (TWx_vi (by rw [iI_cl (by omega), hz]) (h H locs ls hP hD hS hl))
theorem go_lald (O : TOk X cc own rm nL cl E) (hK : TKn X tys) (hd : decode cc pc = .ok (.laload, 1)) (q0 t0 : Nat) {a : Nat} {cA : ClassId} {N : Nat} {f : Nat → Int64} (hq : ws[q0]? = some (a, .inl (cA, N, .inr (.inl f)))) (ht : tys[t0]? = some (cA, .long)) {x : Int} (j : Nat) (hx : x = (j : Int)) (hj : j < N) (hN : N < 2147483648) (z : Int) (hz : f j = lI z) (pc' : Nat) (hp : pc + 1 = pc') (h : TGo X ws n k pc' lv (.long (lI z) :: st)) : TGo X ws n k pc lv (.int (iI x) :: .ref a :: st) := by
  subst hp; subst hx
  intro H locs ls hP hD hS hl
  exact va_lald O.1 O.2.1 hK hP q0 t0 hq ht (iI_in hj hN) hd (TWx_vl (by rw [iI_cl (by omega), hz]) (h H locs ls hP hD hS hl))
theorem go_aald (O : TOk X cc own rm nL cl E) (hK : TKn X tys) (hd : decode cc pc = .ok (.aaload, 1)) (q0 t0 : Nat) {a : Nat} {cA : ClassId} {N : Nat} {C : String} {f : Nat → Option Nat} (hq : ws[q0]? = some (a, .inl (cA, N, .inr (.inr (.inr (.inr f)))))) (ht : tys[t0]? = some (cA, .object C)) {x : Int} (j : Nat) (hx : x = (j : Int)) (hj : j < N) (hN : N < 2147483648) (b : Nat) (hz : f j = some b) (pc' : Nat) (hp : pc + 1 = pc') (h : TGo X ws n k pc' lv (.ref b :: st)) : TGo X ws n k pc lv (.int (iI x) :: .ref a :: st) := by
  subst hp; subst hx
  intro H locs ls hP hD hS hl
  refine va_aldq O.1 O.2.1 hK hP q0 t0 hq ht (iI_in hj hN) hd ?_
  have e : va_rf (f (iI (j : Int)).toNatClampNeg) = .ref b := by rw [iI_cl (by omega), hz]; rfl
  rw [e]
  exact h H locs ls hP hD hS hl
theorem go_iast (O : TOk X cc own rm nL cl E) (hK : TKn X tys) (hd : decode cc pc = .ok (.iastore, 1)) (q0 t0 : Nat) {a : Nat} {cA : ClassId} {N : Nat} {f : Nat → Int32} (hq : ws[q0]? = some (a, .inl (cA, N, .inl f))) (ht : tys[t0]? = some (cA, .int)) {x : Int} (j : Nat) (hx : x = (j : Int)) (hj : j < N) (hN : N < 2147483648) {z : Int} (g : Nat → Int32) (hg : ∀ i, i < N → upd f j (iI z) i = g i) (ws' : va_W) (hw : ws.set q0 (a, .inl (cA, N, .inl g)) = ws') (pc' : Nat) (hp : pc + 1 = pc') (h : TGo X ws' n k pc' lv st) : TGo X ws n k pc lv (.int (iI z) :: .int (iI x) :: .ref a :: st) := by
  subst hp; subst hx; subst hw
  intro H locs ls hP hD hS hl
  have hlt := (List.getElem?_eq_some_iff.mp hq).1
  refine va_iast O.1 O.2.1 hK hP hD hS q0 t0 hq ht (iI_in hj hN) hd (fun H1 locs1 hP1 hD1 hS1 => ?_)
  rw [iI_cl (by omega)] at hP1 hD1
  refine h H1 locs1 ls (va_P_ext hlt hP1 (fun e => ?_)) (va_D.set hD hq) hS1 hl
  have e : H1[a]? = some (vp_cell cA (N, .inl (upd f j (iI z)))) := e
  show H1[a]? = some (vp_cell cA (N, .inl g))
  rw [e, vp_cell_ext cA N hg]
theorem go_zast (O : TOk X cc own rm nL cl E) (hK : TKn X tys) (hd : decode cc pc = .ok (.bastore, 1)) (q0 t0 : Nat) {a : Nat} {cA : ClassId} {N : Nat} {f : Nat → Int32} (hq : ws[q0]? = some (a, .inl (cA, N, .inl f))) (ht : tys[t0]? = some (cA, .boolean)) {x : Int} (j : Nat) (hx : x = (j : Int)) (hj : j < N) (hN : N < 2147483648) {z : Int} (hz : vp_nar .boolean (iI z) = iI z) (g : Nat → Int32) (hg : ∀ i, i < N → upd f j (iI z) i = g i) (ws' : va_W) (hw : ws.set q0 (a, .inl (cA, N, .inl g)) = ws') (pc' : Nat) (hp : pc + 1 = pc') (h : TGo X ws' n k pc' lv st) : TGo X ws n k pc lv (.int (iI z) :: .int (iI x) :: .ref a :: st) := by
  subst hp; subst hx; subst hw
  intro H locs ls hP hD hS hl
  have hlt := (List.getElem?_eq_some_iff.mp hq).1
  refine va_zast O.1 O.2.1 hK hP hD hS q0 t0 hq ht (iI_in hj hN) hd (fun H1 locs1 hP1 hD1 hS1 => ?_)
  rw [iI_cl (by omega), hz] at hP1 hD1
  refine h H1 locs1 ls (va_P_ext hlt hP1 (fun e => ?_)) (va_D.set hD hq) hS1 hl
  have e : H1[a]? = some (vp_cell cA (N, .inl (upd f j (iI z)))) := e
  show H1[a]? = some (vp_cell cA (N, .inl g))
  rw [e, vp_cell_ext cA N hg]
theorem go_last (O : TOk X cc own rm nL cl E) (hK : TKn X tys) (hd : decode cc pc = .ok (.lastore, 1)) (q0 t0 : Nat) {a : Nat} {cA : ClassId} {N : Nat} {f : Nat → Int64} (hq : ws[q0]? = some (a, .inl (cA, N, .inr (.inl f)))) (ht : tys[t0]? = some (cA, .long)) {x : Int} (j : Nat) (hx : x = (j : Int)) (hj : j < N) (hN : N < 2147483648) {z : Int} (g : Nat → Int64) (hg : ∀ i, i < N → vp_updL f j (lI z) i = g i) (ws' : va_W) (hw : ws.set q0 (a, .inl (cA, N, .inr (.inl g))) = ws') (pc' : Nat) (hp : pc + 1 = pc') (h : TGo X ws' n k pc' lv st) : TGo X ws n k pc lv (.long (lI z) :: .int (iI x) :: .ref a :: st) := by
  subst hp; subst hx; subst hw
  intro H locs ls hP hD hS hl
  have hlt := (List.getElem?_eq_some_iff.mp hq).1
  refine va_last O.1 O.2.1 hK hP hD hS q0 t0 hq ht (iI_in hj hN) hd (fun H1 locs1 hP1 hD1 hS1 => ?_)
  rw [iI_cl (by omega)] at hP1 hD1
  refine h H1 locs1 ls (va_P_ext hlt hP1 (fun e => ?_)) (va_D.set hD hq) hS1 hl
  have e : H1[a]? = some (vp_cell cA (N, .inr (.inl (vp_updL f j (lI z))))) := e
  show H1[a]? = some (vp_cell cA (N, .inr (.inl g)))
  rw [e, vp_cell_extL cA N hg]
theorem go_alen (O : TOk X cc own rm nL cl E) (hK : TKn X tys) (hd : decode cc pc = .ok (.arraylength, 1)) (q0 t0 : Nat) {a : Nat} {cA : ClassId} {x : vp_A} {ty : FieldType} (hq : ws[q0]? = some (a, .inl (cA, x))) (ht : tys[t0]? = some (cA, ty)) (z : Int) (hz : Int32.ofNat x.1 = iI z) (pc' : Nat) (hp : pc + 1 = pc') (h : TGo X ws n k pc' lv (.int (iI z) :: st)) : TGo X ws n k pc lv (.ref a :: st) := by
  subst hp
  intro H locs ls hP hD hS hl
  exact va_alen O.1 O.2.1 hK hP q0 t0 hq ht hz hd (h H locs ls hP hD hS hl)
end GO
theorem gw_all {c1 : Cond} (h : c1 ∈ Gw) : GoodIn Gw (c1 :: Gw) := fun w hw => (List.mem_cons.mp hw).elim (fun e => e ▸ ⟨h, gw_good h⟩) (fun h2 => ⟨h2, gw_good h2⟩)
theorem gw_S {own : String} {idx : Nat} {y : MethodName} {c1 : Cond} (h1 : Cond.methodLink own idx y ∈ Gw) (h2 : Cond.static y ∈ Gw) (h3 : Cond.initialized y.cls ∈ Gw) (h4 : c1 ∈ Gw) : GoodIn Gw (va_wsS own idx y (c1 :: Gw)) := by
  intro w hw
  unfold va_wsS at hw
  rcases List.mem_append.mp hw with h | h
  · simp only [List.mem_cons, List.not_mem_nil, or_false] at h
    rcases h with rfl | rfl | rfl
    · exact ⟨h1, gw_good h1⟩
    · exact ⟨h2, gw_good h2⟩
    · exact ⟨h3, gw_good h3⟩
  · exact gw_all h4 w h
theorem gw_V {own C : String} {idx : Nat} {y : MethodName} {c1 : Cond} (h1 : Cond.methodLink own idx y ∈ Gw) (h2 : Cond.instanceMethod y ∈ Gw) (h3 : Cond.selects C y y ∈ Gw) (h5 : Cond.initialized C ∈ Gw) (h4 : c1 ∈ Gw) : GoodIn Gw (wsV own idx C y (c1 :: Gw)) := by
  intro w hw
  unfold wsV at hw
  rcases List.mem_append.mp hw with h | h
  · simp only [List.mem_cons, List.not_mem_nil, or_false] at h
    rcases h with rfl | rfl | rfl | rfl
    · exact ⟨h1, gw_good h1⟩
    · exact ⟨h2, gw_good h2⟩
    · exact ⟨h3, gw_good h3⟩
    · exact ⟨h5, gw_good h5⟩
  · exact gw_all h4 w h
/-! Contracts over Go: what a method asks and gives, its entry, its end, a call of it. -/
abbrev rmn (f lo : Nat) : Room := { frames := f, cells := 0, slots := 0, locals := lo }
def ct_Pc (E : TEn) (D : va_G) (cl : List vw_C) (av : List Value) (w0 : va_W) (tys : List (ClassId × FieldType)) (sz : Nat) : Array Value → State → Prop :=
  va_Pc av (fun U => U.heap.size = sz ∧ va_P D cl w0 U.heap ∧ va_K D cl tys U ∧ va_D (fun _ => True) w0 ∧ E (va_A w0 sz) U)
def ct_B {S : Type} (D : va_G) (cl : List vw_C) (A : Nat → Prop) (tys : List (ClassId × FieldType)) (w1 : S → va_W) : S → State → Prop :=
  fun u t => va_P D cl (w1 u) t.heap ∧ va_K D cl tys t ∧ va_D A (w1 u)
def EnvOk (E : TEn) : Prop := (∀ (A : Nat → Prop) (U : State) (g : JFrame) (mk : MethodId) (a : Array Value), E A U → E A (U.calling g mk a)) ∧ ∀ (A A' : Nat → Prop) (s U : State) (locs : List Loc), va_S A s.heap U.heap locs → s.WarmedH U.vm → (∀ q, A' q → A q) → E A s → E A' U
theorem ct_blind {E : TEn} (hE : EnvOk E) (D : va_G) (cl : List vw_C) (av : List Value) (w0 : va_W) (tys : List (ClassId × FieldType)) (sz : Nat) : FrameBlind (ct_Pc E D cl av w0 tys sz) := by
  intro a U g mk q
  obtain ⟨q0, q1, qP, qK, qD, qE⟩ := q
  exact ⟨q0, q1, qP, va_K.moved (u := U) (U := U.calling g mk a) (Vm.Alike.refl U.vm) qK, qD, hE.1 _ U g mk a qE⟩

def Cti {S : Type} (cl : List vw_C) (E : TEn) (y : MethodName) (wsy : List Cond) (rm : Room) (av : List Value) (w0 : va_W) (tys : List (ClassId × FieldType)) (post : Int → S → Prop) (w1 : S → va_W) : Prop :=
  ∀ (l : Launch) (D : va_G) (sz : Nat), Met l y wsy rm (ct_Pc E D cl av w0 tys sz) (va_Qi (fun r u => ∃ z, r = iI z ∧ post z u) (ct_B D cl (va_A w0 sz) tys w1) (va_A w0 sz)) 0 0 (va_A w0 sz)
def Ctl {S : Type} (cl : List vw_C) (E : TEn) (y : MethodName) (wsy : List Cond) (rm : Room) (av : List Value) (w0 : va_W) (tys : List (ClassId × FieldType)) (post : Int → S → Prop) (w1 : S → va_W) : Prop :=
  ∀ (l : Launch) (D : va_G) (sz : Nat), Met l y wsy rm (ct_Pc E D cl av w0 tys sz) (va_Ql (fun r u => ∃ z, r = lI z ∧ post z u) (ct_B D cl (va_A w0 sz) tys w1) (va_A w0 sz)) 0 0 (va_A w0 sz)
def Ctv {S : Type} (cl : List vw_C) (E : TEn) (y : MethodName) (wsy : List Cond) (rm : Room) (av : List Value) (w0 : va_W) (tys : List (ClassId × FieldType)) (post : S → Prop) (w1 : S → va_W) : Prop :=
  ∀ (l : Launch) (D : va_G) (sz : Nat), Met l y wsy rm (ct_Pc E D cl av w0 tys sz) (va_Qv post (ct_B D cl (va_A w0 sz) tys w1) (va_A w0 sz)) 0 0 (va_A w0 sz)
theorem enteri {S : Type} {cl : List vw_C} {E : TEn} {y : MethodName} {rm : Room} {av : List Value} {w0 : va_W} {tys : List (ClassId × FieldType)} {post : Int → S → Prop} {w1 : S → va_W} {cc : ByteArray} {maxL : Nat} {ty : FieldType} (hy : plainName y.cls = true) (hsl : (lg_sl av).length ≤ maxL)
    (body : ∀ X : TCx, TOk X cc y.cls rm maxL cl E → TKn X tys → ((cx_M X).name = y.name) → (∀ (pc : Nat) (lv : List (Nat × Value)) (z : Int) (u : S), decode cc pc = .ok (.ireturn, 1) → narrow ty (.int (iI z)) = .int (iI z) → post z u → TGo X (w1 u) 0 0 pc lv [.int (iI z)]) → TGo X w0 0 0 0 (lv_args 0 av) []) : Cti cl E y (Cond.code y cc maxL (some ty) :: Gw) rm av w0 tys post w1 := by
  intro l D sz
  refine Met.ofW (cc := cc) (maxL := maxL) (ret := (some ty)) hy rfl ?_
  intro p e s m args below meth c s₁ B hml hv
  obtain ⟨rfl, hsz, hP, hK, hD0, hE⟩ := hv
  have hts0 := atoms_spec (ws := Cond.code y cc maxL (some ty) :: Gw) B.pre
  have hts : ∀ w ∈ Gw, w.before av.toArray s = true := fun w h => hts0 w (List.mem_cons_of_mem _ h)
  have hown : s.vm.findClass y.cls = some m.cls := findClass_of_methodNamed B.named
  subst hsz
  have hD := hD0.self (sz := s.heap.size)
  rw [lg_entry_eq]
  refine body (p, l, e, (headSpec (Cond.code y cc maxL (some ty) :: Gw) rm).room, s, m, av.toArray, below, meth, c, MQ below (va_Qi (fun r u => ∃ z, r = iI z ∧ post z u) (ct_B D cl (va_A w0 s.heap.size) tys w1) (va_A w0 s.heap.size)) av.toArray s 0 0 (va_A w0 s.heap.size), va_A w0 s.heap.size, D, cl, maxL) ⟨B.exec, B.bytes, hml, rfl, hown, hts, fun q h => Or.inr h, rfl, rfl, hE⟩ hK (name_of_methodNamed B.named B.method).1 ?_ s.heap [] _ hP hD va_S.rf (lv_entry av hsl)
  · intro pc lv z u hd hnar hpost H locs ls hP hD hS hl
    exact W.zret B.exec B.bytes B.returns hnar (fun t ht hW => ⟨⟨iI z, u, rfl, ⟨z, rfl, hpost⟩, by rw [ht]; exact hP, va_K.moved hW.alike hK, hD⟩, hS.F ht⟩) hS.2.2 hd B.notSynchronized
theorem enterl {S : Type} {cl : List vw_C} {E : TEn} {y : MethodName} {rm : Room} {av : List Value} {w0 : va_W} {tys : List (ClassId × FieldType)} {post : Int → S → Prop} {w1 : S → va_W} {cc : ByteArray} {maxL : Nat} (hy : plainName y.cls = true) (hsl : (lg_sl av).length ≤ maxL)
    (body : ∀ X : TCx, TOk X cc y.cls rm maxL cl E → TKn X tys → ((cx_M X).name = y.name) → (∀ (pc : Nat) (lv : List (Nat × Value)) (z : Int) (u : S), decode cc pc = .ok (.lreturn, 1) → post z u → TGo X (w1 u) 0 0 pc lv [.long (lI z)]) → TGo X w0 0 0 0 (lv_args 0 av) []) : Ctl cl E y (Cond.code y cc maxL (some .long) :: Gw) rm av w0 tys post w1 := by
  intro l D sz
  refine Met.ofW (cc := cc) (maxL := maxL) (ret := (some .long)) hy rfl ?_
  intro p e s m args below meth c s₁ B hml hv
  obtain ⟨rfl, hsz, hP, hK, hD0, hE⟩ := hv
  have hts0 := atoms_spec (ws := Cond.code y cc maxL (some .long) :: Gw) B.pre
  have hts : ∀ w ∈ Gw, w.before av.toArray s = true := fun w h => hts0 w (List.mem_cons_of_mem _ h)
  have hown : s.vm.findClass y.cls = some m.cls := findClass_of_methodNamed B.named
  subst hsz
  have hD := hD0.self (sz := s.heap.size)
  rw [lg_entry_eq]
  refine body (p, l, e, (headSpec (Cond.code y cc maxL (some .long) :: Gw) rm).room, s, m, av.toArray, below, meth, c, MQ below (va_Ql (fun r u => ∃ z, r = lI z ∧ post z u) (ct_B D cl (va_A w0 s.heap.size) tys w1) (va_A w0 s.heap.size)) av.toArray s 0 0 (va_A w0 s.heap.size), va_A w0 s.heap.size, D, cl, maxL) ⟨B.exec, B.bytes, hml, rfl, hown, hts, fun q h => Or.inr h, rfl, rfl, hE⟩ hK (name_of_methodNamed B.named B.method).1 ?_ s.heap [] _ hP hD va_S.rf (lv_entry av hsl)
  · intro pc lv z u hd hpost H locs ls hP hD hS hl
    exact W.lret B.exec B.bytes B.returns (fun t ht hW => ⟨⟨lI z, u, rfl, ⟨z, rfl, hpost⟩, by rw [ht]; exact hP, va_K.moved hW.alike hK, hD⟩, hS.F ht⟩) hS.2.2 hd B.notSynchronized
theorem enterv {S : Type} {cl : List vw_C} {E : TEn} {y : MethodName} {rm : Room} {av : List Value} {w0 : va_W} {tys : List (ClassId × FieldType)} {post : S → Prop} {w1 : S → va_W} {cc : ByteArray} {maxL : Nat} (hy : plainName y.cls = true) (hsl : (lg_sl av).length ≤ maxL)
    (body : ∀ X : TCx, TOk X cc y.cls rm maxL cl E → TKn X tys → ((cx_M X).name = y.name) → (∀ (pc : Nat) (lv : List (Nat × Value)) (u : S), decode cc pc = .ok (.return_, 1) → post u → TGo X (w1 u) 0 0 pc lv []) → TGo X w0 0 0 0 (lv_args 0 av) []) : Ctv cl E y (Cond.code y cc maxL none :: Gw) rm av w0 tys post w1 := by
  intro l D sz
  refine Met.ofW (cc := cc) (maxL := maxL) (ret := none) hy rfl ?_
  intro p e s m args below meth c s₁ B hml hv
  obtain ⟨rfl, hsz, hP, hK, hD0, hE⟩ := hv
  have hts0 := atoms_spec (ws := Cond.code y cc maxL none :: Gw) B.pre
  have hts : ∀ w ∈ Gw, w.before av.toArray s = true := fun w h => hts0 w (List.mem_cons_of_mem _ h)
  have hown : s.vm.findClass y.cls = some m.cls := findClass_of_methodNamed B.named
  subst hsz
  have hD := hD0.self (sz := s.heap.size)
  rw [lg_entry_eq]
  refine body (p, l, e, (headSpec (Cond.code y cc maxL none :: Gw) rm).room, s, m, av.toArray, below, meth, c, MQ below (va_Qv post (ct_B D cl (va_A w0 s.heap.size) tys w1) (va_A w0 s.heap.size)) av.toArray s 0 0 (va_A w0 s.heap.size), va_A w0 s.heap.size, D, cl, maxL) ⟨B.exec, B.bytes, hml, rfl, hown, hts, fun q h => Or.inr h, rfl, rfl, hE⟩ hK (name_of_methodNamed B.named B.method).1 ?_ s.heap [] _ hP hD va_S.rf (lv_entry av hsl)
  · intro pc lv u hd hpost H locs ls hP hD hS hl
    exact W.vret B.exec B.bytes B.returns (fun t ht hW => ⟨⟨u, rfl, hpost, by rw [ht]; exact hP, va_K.moved hW.alike hK, hD⟩, hS.F ht⟩) hS.2.2 hd B.notSynchronized
theorem go_calliS {X : TCx} {cc : ByteArray} {own : String} {rm : Room} {nL : Nat} {ws : va_W} {n k pc : Nat} {lv : List (Nat × Value)} {st : List Value} {tys : List (ClassId × FieldType)} {cl : List vw_C} {E : TEn} {S : Type} {y : MethodName} {fr lo : Nat} {w0 wr : va_W} {tys0 : List (ClassId × FieldType)} {bytes : ByteArray} {maxL index : Nat} {ret : Option FieldType} {rest : List Value} {av : List Value} {post : Int → S → Prop} {w1 : S → va_W} (O : TOk X cc own rm nL cl E) (hK : TKn X tys) (hE : EnvOk E) (hM : Cti cl E y (Cond.code y bytes maxL ret :: Gw) (rmn fr lo) av w0 tys0 post w1) (hml : Cond.methodLink own index y ∈ Gw) (hst0 : Cond.static y ∈ Gw) (hin0 : Cond.initialized y.cls ∈ Gw) (hcd : Cond.code y bytes maxL ret ∈ Gw) (na : Nat) (hdd : y.cls ≠ "java/lang/invoke/MethodHandle" ∧ y.cls ≠ "java/lang/invoke/VarHandle" ∧ (parseMethodDescriptor y.desc).map (fun d => d.parameters.length) = some na) (hR : fr + 1 ≤ rm.frames ∧ 8 + (maxL + 11) + lo ≤ rm.locals)
    (isK : List Nat) (hKs : isK.filterMap (fun i => tys[i]?) = tys0) (isC : List Nat) (hC : isC.map (fun i => ws[i]?) = w0.map some) (hn1 : va_nd isC = true) (isR : List Nat) (hRr : isR.map (fun i => ws[i]?) = wr.map some) (hn2 : va_nd isR = true) (hdis : ∀ i ∈ isR, i ∉ isC) (hst : st = (av.reverse ++ rest)) (hn : av.length = na) (hcat : (rest.map fun v => v.category).sum ≤ 8) (hcells : n ≤ rm.cells ∧ k ≤ rm.slots) (hd : decode cc pc = .ok (.invokestatic index, 3)) (pc' : Nat) (hp : pc + 3 = pc') (h : ∀ (z : Int) (u : S), post z u → TGo X (wr ++ w1 u) n k pc' lv (.int (iI z) :: rest)) : TGo X ws n k pc lv st := by
  subst hst
  subst hp
  intro H locs ls hP hD hS hl
  have hRm := O.2.2.2.2.2.2.2.1
  have hcl0 := O.2.2.2.2.2.2.2.2.1
  subst hcl0
  have hFc := va_free (wc := w0) hD hS O.2.2.2.2.2.2.1 isC hC
  have hR' : fr + 1 ≤ (cx_R X).frames ∧ 8 + (maxL + 11) + lo ≤ (cx_R X).locals := by rw [hRm]; exact hR
  have hcl : n + 0 ≤ (cx_R X).cells ∧ k + 0 ≤ (cx_R X).slots := by rw [hRm]; exact hcells
  have hsz : ls.size = nL := hl.1.trans O.2.2.2.1
  have hPc : va_P (cx_D X) (cx_C X) w0 H := by
    intro j q hj
    have h1 : (isC.map (fun i => ws[i]?))[j]? = some (some q) := by rw [hC, List.getElem?_map, hj]; rfl
    rw [List.getElem?_map] at h1
    cases hi : isC[j]? with
    | none => rw [hi] at h1; cases h1
    | some i => rw [hi] at h1; exact hP i q (Option.some.inj h1)
  have hDc := hD.sub isC hn1 hC
  have hKc : va_K (cx_D X) (cx_C X) tys0 (cx_s X) := va_K.sub hK isK hKs
  have hpre : ∀ U : State, U.heap = H → (cx_s X).WarmedH U.vm → ct_Pc E (cx_D X) (cx_C X) av w0 tys0 H.size av.toArray U := by
    intro U hU hW
    subst hU
    exact ⟨rfl, rfl, hPc, va_K.moved hW.alike hKc, hDc.weaken (fun _ _ _ _ => trivial), hE.2 _ _ (cx_s X) U locs hS hW hFc O.2.2.2.2.2.2.2.2.2⟩
  refine va_calli (va_runS ⟨O.1, O.2.1, O.2.2.1, O.2.2.2.2.1, O.2.2.2.2.2.1⟩ (hM (cx_l X) (cx_D X) H.size) (va_cwS na O.2.2.2.2.2.1 (gw_S hml hst0 hin0 hcd) rfl rfl rfl hdd hR') ⟨ct_blind hE _ _ _ _ _ _, hpre⟩ rfl hn hsz rfl (lv_room hcat) hd hcl) hS (fun q _ h => hFc q h) hFc (fun r u t H1 locs1 ht hvm hw hB hz1 hk1 hS1 => ?_)
  obtain ⟨z, rfl, hpost⟩ := hw
  obtain ⟨hP1, hK1, hD1⟩ := hB
  rw [ht] at hP1
  obtain ⟨hP2, hD2⟩ := va_join (wr := wr) (w1 := w1 u) hP hD isC isR hC hRr hn2 hdis hk1 hFc hP1 hD1
  exact h z u hpost H1 locs1 ls hP2 hD2 hS1 hl
theorem go_calliV {X : TCx} {cc : ByteArray} {own : String} {rm : Room} {nL : Nat} {ws : va_W} {n k pc : Nat} {lv : List (Nat × Value)} {st : List Value} {tys : List (ClassId × FieldType)} {cl : List vw_C} {E : TEn} {S : Type} {y : MethodName} {fr lo : Nat} {w0 wr : va_W} {tys0 : List (ClassId × FieldType)} {bytes : ByteArray} {maxL index : Nat} {ret : Option FieldType} {rest : List Value} {As : List Value} {b ci : Nat} {rc : vw_C} {fs : List Value} {post : Int → S → Prop} {w1 : S → va_W} (O : TOk X cc own rm nL cl E) (hK : TKn X tys) (hE : EnvOk E) (hM : Cti cl E y (Cond.code y bytes maxL ret :: Gw) (rmn fr lo) (.ref b :: As) w0 tys0 post w1) (hml : Cond.methodLink own index y ∈ Gw) (him : Cond.instanceMethod y ∈ Gw) (hse : Cond.selects rc.1 y y ∈ Gw) (hin0 : Cond.initialized rc.1 ∈ Gw) (hcd : Cond.code y bytes maxL ret ∈ Gw) (na : Nat) (hdd : y.cls = rc.1 ∧ y.cls ≠ "java/lang/invoke/MethodHandle" ∧ y.cls ≠ "java/lang/invoke/VarHandle" ∧ (parseMethodDescriptor y.desc).map (fun d => d.parameters.length) = some na) (hR : fr + 1 ≤ rm.frames ∧ 8 + (maxL + 11) + lo ≤ rm.locals) (qb : Nat) (hqb : ws[qb]? = some (b, .inr (ci, fs))) (hci : cl[ci]? = some rc)
    (isK : List Nat) (hKs : isK.filterMap (fun i => tys[i]?) = tys0) (isC : List Nat) (hC : isC.map (fun i => ws[i]?) = w0.map some) (hn1 : va_nd isC = true) (isR : List Nat) (hRr : isR.map (fun i => ws[i]?) = wr.map some) (hn2 : va_nd isR = true) (hdis : ∀ i ∈ isR, i ∉ isC) (hst : st = (As.reverse ++ .ref b :: rest)) (hn : As.length = na) (hcat : (rest.map fun v => v.category).sum ≤ 8) (hcells : n ≤ rm.cells ∧ k ≤ rm.slots) (hd : decode cc pc = .ok (.invokevirtual index, 3)) (pc' : Nat) (hp : pc + 3 = pc') (h : ∀ (z : Int) (u : S), post z u → TGo X (wr ++ w1 u) n k pc' lv (.int (iI z) :: rest)) : TGo X ws n k pc lv st := by
  subst hst
  subst hp
  intro H locs ls hP hD hS hl
  have hRm := O.2.2.2.2.2.2.2.1
  have hcl0 := O.2.2.2.2.2.2.2.2.1
  subst hcl0
  have hFc := va_free (wc := w0) hD hS O.2.2.2.2.2.2.1 isC hC
  have hR' : fr + 1 ≤ (cx_R X).frames ∧ 8 + (maxL + 11) + lo ≤ (cx_R X).locals := by rw [hRm]; exact hR
  have hcl : n + 0 ≤ (cx_R X).cells ∧ k + 0 ≤ (cx_R X).slots := by rw [hRm]; exact hcells
  have hsz : ls.size = nL := hl.1.trans O.2.2.2.1
  have hPc : va_P (cx_D X) (cx_C X) w0 H := by
    intro j q hj
    have h1 : (isC.map (fun i => ws[i]?))[j]? = some (some q) := by rw [hC, List.getElem?_map, hj]; rfl
    rw [List.getElem?_map] at h1
    cases hi : isC[j]? with
    | none => rw [hi] at h1; cases h1
    | some i => rw [hi] at h1; exact hP i q (Option.some.inj h1)
  have hDc := hD.sub isC hn1 hC
  have hKc : va_K (cx_D X) (cx_C X) tys0 (cx_s X) := va_K.sub hK isK hKs
  have hpre : ∀ U : State, U.heap = H → (cx_s X).WarmedH U.vm → ct_Pc E (cx_D X) (cx_C X) (.ref b :: As) w0 tys0 H.size (.ref b :: As).toArray U := by
    intro U hU hW
    subst hU
    exact ⟨rfl, rfl, hPc, va_K.moved hW.alike hKc, hDc.weaken (fun _ _ _ _ => trivial), hE.2 _ _ (cx_s X) U locs hS hW hFc O.2.2.2.2.2.2.2.2.2⟩
  refine va_calli (va_runV ⟨O.1, O.2.1, O.2.2.1, O.2.2.2.2.1, O.2.2.2.2.2.1⟩ (hM (cx_l X) (cx_D X) H.size) (cwV na O.2.2.2.2.2.1 (gw_V hml him hse hin0 hcd) rfl rfl rfl hdd hR') ⟨ct_blind hE _ _ _ _ _ _, va_recv hK hP hci hqb, hpre⟩ rfl hn hsz rfl (lv_room hcat) hd hcl) hS (fun q _ h => hFc q h) hFc (fun r u t H1 locs1 ht hvm hw hB hz1 hk1 hS1 => ?_)
  obtain ⟨z, rfl, hpost⟩ := hw
  obtain ⟨hP1, hK1, hD1⟩ := hB
  rw [ht] at hP1
  obtain ⟨hP2, hD2⟩ := va_join (wr := wr) (w1 := w1 u) hP hD isC isR hC hRr hn2 hdis hk1 hFc hP1 hD1
  exact h z u hpost H1 locs1 ls hP2 hD2 hS1 hl
theorem go_calliSN {X : TCx} {cc : ByteArray} {own : String} {rm : Room} {nL : Nat} {ws : va_W} {n k pc : Nat} {lv : List (Nat × Value)} {st : List Value} {tys : List (ClassId × FieldType)} {cl : List vw_C} {E : TEn} {S : Type} {y : MethodName} {fr lo : Nat} {w0 wr : va_W} {tys0 : List (ClassId × FieldType)} {bytes : ByteArray} {maxL index : Nat} {ret : Option FieldType} {rest : List Value} {av : List Value} {host : String} {post : Int → S → Prop} {w1 : S → va_W} (O : TOk X cc own rm nL cl E) (hK : TKn X tys) (hE : EnvOk E) (hM : Cti cl E y (Cond.code y bytes maxL ret :: Gw) (rmn fr lo) av w0 tys0 post w1) (hli : va_Nw (.methodLinkNest own index y host) (cx_s X)) (hst0 : Cond.static y ∈ Gw) (hin0 : Cond.initialized y.cls ∈ Gw) (hcd : Cond.code y bytes maxL ret ∈ Gw) (na : Nat) (hdd : y.cls ≠ "java/lang/invoke/MethodHandle" ∧ y.cls ≠ "java/lang/invoke/VarHandle" ∧ (parseMethodDescriptor y.desc).map (fun d => d.parameters.length) = some na) (hR : fr + 1 ≤ rm.frames ∧ 8 + (maxL + 11) + lo ≤ rm.locals)
    (isK : List Nat) (hKs : isK.filterMap (fun i => tys[i]?) = tys0) (isC : List Nat) (hC : isC.map (fun i => ws[i]?) = w0.map some) (hn1 : va_nd isC = true) (isR : List Nat) (hRr : isR.map (fun i => ws[i]?) = wr.map some) (hn2 : va_nd isR = true) (hdis : ∀ i ∈ isR, i ∉ isC) (hst : st = (av.reverse ++ rest)) (hn : av.length = na) (hcat : (rest.map fun v => v.category).sum ≤ 8) (hcells : n ≤ rm.cells ∧ k ≤ rm.slots) (hd : decode cc pc = .ok (.invokestatic index, 3)) (pc' : Nat) (hp : pc + 3 = pc') (h : ∀ (z : Int) (u : S), post z u → TGo X (wr ++ w1 u) n k pc' lv (.int (iI z) :: rest)) : TGo X ws n k pc lv st := by
  subst hst
  subst hp
  intro H locs ls hP hD hS hl
  have hRm := O.2.2.2.2.2.2.2.1
  have hcl0 := O.2.2.2.2.2.2.2.2.1
  subst hcl0
  have hFc := va_free (wc := w0) hD hS O.2.2.2.2.2.2.1 isC hC
  have hR' : fr + 1 ≤ (cx_R X).frames ∧ 8 + (maxL + 11) + lo ≤ (cx_R X).locals := by rw [hRm]; exact hR
  have hcl : n + 0 ≤ (cx_R X).cells ∧ k + 0 ≤ (cx_R X).slots := by rw [hRm]; exact hcells
  have hsz : ls.size = nL := hl.1.trans O.2.2.2.1
  have hPc : va_P (cx_D X) (cx_C X) w0 H := by
    intro j q hj
    have h1 : (isC.map (fun i => ws[i]?))[j]? = some (some q) := by rw [hC, List.getElem?_map, hj]; rfl
    rw [List.getElem?_map] at h1
    cases hi : isC[j]? with
    | none => rw [hi] at h1; cases h1
    | some i => rw [hi] at h1; exact hP i q (Option.some.inj h1)
  have hDc := hD.sub isC hn1 hC
  have hKc : va_K (cx_D X) (cx_C X) tys0 (cx_s X) := va_K.sub hK isK hKs
  have hpre : ∀ U : State, U.heap = H → (cx_s X).WarmedH U.vm → ct_Pc E (cx_D X) (cx_C X) av w0 tys0 H.size av.toArray U := by
    intro U hU hW
    subst hU
    exact ⟨rfl, rfl, hPc, va_K.moved hW.alike hKc, hDc.weaken (fun _ _ _ _ => trivial), hE.2 _ _ (cx_s X) U locs hS hW hFc O.2.2.2.2.2.2.2.2.2⟩
  refine va_calli (va_runSN ⟨O.1, O.2.1, O.2.2.1, O.2.2.2.2.1, O.2.2.2.2.2.1⟩ (hM (cx_l X) (cx_D X) H.size) ⟨va_cnB na O.2.2.2.2.2.1 (gw_all hcd) rfl rfl rfl hli (O.2.2.2.2.2.1 _ hin0) hdd hR', O.2.2.2.2.2.1 _ hst0, trivial⟩ ⟨ct_blind hE _ _ _ _ _ _, hpre⟩ rfl hn hsz rfl (lv_room hcat) hd hcl) hS (fun q _ h => hFc q h) hFc (fun r u t H1 locs1 ht hvm hw hB hz1 hk1 hS1 => ?_)
  obtain ⟨z, rfl, hpost⟩ := hw
  obtain ⟨hP1, hK1, hD1⟩ := hB
  rw [ht] at hP1
  obtain ⟨hP2, hD2⟩ := va_join (wr := wr) (w1 := w1 u) hP hD isC isR hC hRr hn2 hdis hk1 hFc hP1 hD1
  exact h z u hpost H1 locs1 ls hP2 hD2 hS1 hl
theorem go_calllS {X : TCx} {cc : ByteArray} {own : String} {rm : Room} {nL : Nat} {ws : va_W} {n k pc : Nat} {lv : List (Nat × Value)} {st : List Value} {tys : List (ClassId × FieldType)} {cl : List vw_C} {E : TEn} {S : Type} {y : MethodName} {fr lo : Nat} {w0 wr : va_W} {tys0 : List (ClassId × FieldType)} {bytes : ByteArray} {maxL index : Nat} {ret : Option FieldType} {rest : List Value} {av : List Value} {post : Int → S → Prop} {w1 : S → va_W} (O : TOk X cc own rm nL cl E) (hK : TKn X tys) (hE : EnvOk E) (hM : Ctl cl E y (Cond.code y bytes maxL ret :: Gw) (rmn fr lo) av w0 tys0 post w1) (hml : Cond.methodLink own index y ∈ Gw) (hst0 : Cond.static y ∈ Gw) (hin0 : Cond.initialized y.cls ∈ Gw) (hcd : Cond.code y bytes maxL ret ∈ Gw) (na : Nat) (hdd : y.cls ≠ "java/lang/invoke/MethodHandle" ∧ y.cls ≠ "java/lang/invoke/VarHandle" ∧ (parseMethodDescriptor y.desc).map (fun d => d.parameters.length) = some na) (hR : fr + 1 ≤ rm.frames ∧ 8 + (maxL + 11) + lo ≤ rm.locals)
    (isK : List Nat) (hKs : isK.filterMap (fun i => tys[i]?) = tys0) (isC : List Nat) (hC : isC.map (fun i => ws[i]?) = w0.map some) (hn1 : va_nd isC = true) (isR : List Nat) (hRr : isR.map (fun i => ws[i]?) = wr.map some) (hn2 : va_nd isR = true) (hdis : ∀ i ∈ isR, i ∉ isC) (hst : st = (av.reverse ++ rest)) (hn : av.length = na) (hcat : (rest.map fun v => v.category).sum ≤ 8) (hcells : n ≤ rm.cells ∧ k ≤ rm.slots) (hd : decode cc pc = .ok (.invokestatic index, 3)) (pc' : Nat) (hp : pc + 3 = pc') (h : ∀ (z : Int) (u : S), post z u → TGo X (wr ++ w1 u) n k pc' lv (.long (lI z) :: rest)) : TGo X ws n k pc lv st := by
  subst hst
  subst hp
  intro H locs ls hP hD hS hl
  have hRm := O.2.2.2.2.2.2.2.1
  have hcl0 := O.2.2.2.2.2.2.2.2.1
  subst hcl0
  have hFc := va_free (wc := w0) hD hS O.2.2.2.2.2.2.1 isC hC
  have hR' : fr + 1 ≤ (cx_R X).frames ∧ 8 + (maxL + 11) + lo ≤ (cx_R X).locals := by rw [hRm]; exact hR
  have hcl : n + 0 ≤ (cx_R X).cells ∧ k + 0 ≤ (cx_R X).slots := by rw [hRm]; exact hcells
  have hsz : ls.size = nL := hl.1.trans O.2.2.2.1
  have hPc : va_P (cx_D X) (cx_C X) w0 H := by
    intro j q hj
    have h1 : (isC.map (fun i => ws[i]?))[j]? = some (some q) := by rw [hC, List.getElem?_map, hj]; rfl
    rw [List.getElem?_map] at h1
    cases hi : isC[j]? with
    | none => rw [hi] at h1; cases h1
    | some i => rw [hi] at h1; exact hP i q (Option.some.inj h1)
  have hDc := hD.sub isC hn1 hC
  have hKc : va_K (cx_D X) (cx_C X) tys0 (cx_s X) := va_K.sub hK isK hKs
  have hpre : ∀ U : State, U.heap = H → (cx_s X).WarmedH U.vm → ct_Pc E (cx_D X) (cx_C X) av w0 tys0 H.size av.toArray U := by
    intro U hU hW
    subst hU
    exact ⟨rfl, rfl, hPc, va_K.moved hW.alike hKc, hDc.weaken (fun _ _ _ _ => trivial), hE.2 _ _ (cx_s X) U locs hS hW hFc O.2.2.2.2.2.2.2.2.2⟩
  refine va_calll (va_runS ⟨O.1, O.2.1, O.2.2.1, O.2.2.2.2.1, O.2.2.2.2.2.1⟩ (hM (cx_l X) (cx_D X) H.size) (va_cwS na O.2.2.2.2.2.1 (gw_S hml hst0 hin0 hcd) rfl rfl rfl hdd hR') ⟨ct_blind hE _ _ _ _ _ _, hpre⟩ rfl hn hsz rfl (lv_room hcat) hd hcl) hS (fun q _ h => hFc q h) hFc (fun r u t H1 locs1 ht hvm hw hB hz1 hk1 hS1 => ?_)
  obtain ⟨z, rfl, hpost⟩ := hw
  obtain ⟨hP1, hK1, hD1⟩ := hB
  rw [ht] at hP1
  obtain ⟨hP2, hD2⟩ := va_join (wr := wr) (w1 := w1 u) hP hD isC isR hC hRr hn2 hdis hk1 hFc hP1 hD1
  exact h z u hpost H1 locs1 ls hP2 hD2 hS1 hl
theorem go_calllV {X : TCx} {cc : ByteArray} {own : String} {rm : Room} {nL : Nat} {ws : va_W} {n k pc : Nat} {lv : List (Nat × Value)} {st : List Value} {tys : List (ClassId × FieldType)} {cl : List vw_C} {E : TEn} {S : Type} {y : MethodName} {fr lo : Nat} {w0 wr : va_W} {tys0 : List (ClassId × FieldType)} {bytes : ByteArray} {maxL index : Nat} {ret : Option FieldType} {rest : List Value} {As : List Value} {b ci : Nat} {rc : vw_C} {fs : List Value} {post : Int → S → Prop} {w1 : S → va_W} (O : TOk X cc own rm nL cl E) (hK : TKn X tys) (hE : EnvOk E) (hM : Ctl cl E y (Cond.code y bytes maxL ret :: Gw) (rmn fr lo) (.ref b :: As) w0 tys0 post w1) (hml : Cond.methodLink own index y ∈ Gw) (him : Cond.instanceMethod y ∈ Gw) (hse : Cond.selects rc.1 y y ∈ Gw) (hin0 : Cond.initialized rc.1 ∈ Gw) (hcd : Cond.code y bytes maxL ret ∈ Gw) (na : Nat) (hdd : y.cls = rc.1 ∧ y.cls ≠ "java/lang/invoke/MethodHandle" ∧ y.cls ≠ "java/lang/invoke/VarHandle" ∧ (parseMethodDescriptor y.desc).map (fun d => d.parameters.length) = some na) (hR : fr + 1 ≤ rm.frames ∧ 8 + (maxL + 11) + lo ≤ rm.locals) (qb : Nat) (hqb : ws[qb]? = some (b, .inr (ci, fs))) (hci : cl[ci]? = some rc)
    (isK : List Nat) (hKs : isK.filterMap (fun i => tys[i]?) = tys0) (isC : List Nat) (hC : isC.map (fun i => ws[i]?) = w0.map some) (hn1 : va_nd isC = true) (isR : List Nat) (hRr : isR.map (fun i => ws[i]?) = wr.map some) (hn2 : va_nd isR = true) (hdis : ∀ i ∈ isR, i ∉ isC) (hst : st = (As.reverse ++ .ref b :: rest)) (hn : As.length = na) (hcat : (rest.map fun v => v.category).sum ≤ 8) (hcells : n ≤ rm.cells ∧ k ≤ rm.slots) (hd : decode cc pc = .ok (.invokevirtual index, 3)) (pc' : Nat) (hp : pc + 3 = pc') (h : ∀ (z : Int) (u : S), post z u → TGo X (wr ++ w1 u) n k pc' lv (.long (lI z) :: rest)) : TGo X ws n k pc lv st := by
  subst hst
  subst hp
  intro H locs ls hP hD hS hl
  have hRm := O.2.2.2.2.2.2.2.1
  have hcl0 := O.2.2.2.2.2.2.2.2.1
  subst hcl0
  have hFc := va_free (wc := w0) hD hS O.2.2.2.2.2.2.1 isC hC
  have hR' : fr + 1 ≤ (cx_R X).frames ∧ 8 + (maxL + 11) + lo ≤ (cx_R X).locals := by rw [hRm]; exact hR
  have hcl : n + 0 ≤ (cx_R X).cells ∧ k + 0 ≤ (cx_R X).slots := by rw [hRm]; exact hcells
  have hsz : ls.size = nL := hl.1.trans O.2.2.2.1
  have hPc : va_P (cx_D X) (cx_C X) w0 H := by
    intro j q hj
    have h1 : (isC.map (fun i => ws[i]?))[j]? = some (some q) := by rw [hC, List.getElem?_map, hj]; rfl
    rw [List.getElem?_map] at h1
    cases hi : isC[j]? with
    | none => rw [hi] at h1; cases h1
    | some i => rw [hi] at h1; exact hP i q (Option.some.inj h1)
  have hDc := hD.sub isC hn1 hC
  have hKc : va_K (cx_D X) (cx_C X) tys0 (cx_s X) := va_K.sub hK isK hKs
  have hpre : ∀ U : State, U.heap = H → (cx_s X).WarmedH U.vm → ct_Pc E (cx_D X) (cx_C X) (.ref b :: As) w0 tys0 H.size (.ref b :: As).toArray U := by
    intro U hU hW
    subst hU
    exact ⟨rfl, rfl, hPc, va_K.moved hW.alike hKc, hDc.weaken (fun _ _ _ _ => trivial), hE.2 _ _ (cx_s X) U locs hS hW hFc O.2.2.2.2.2.2.2.2.2⟩
  refine va_calll (va_runV ⟨O.1, O.2.1, O.2.2.1, O.2.2.2.2.1, O.2.2.2.2.2.1⟩ (hM (cx_l X) (cx_D X) H.size) (cwV na O.2.2.2.2.2.1 (gw_V hml him hse hin0 hcd) rfl rfl rfl hdd hR') ⟨ct_blind hE _ _ _ _ _ _, va_recv hK hP hci hqb, hpre⟩ rfl hn hsz rfl (lv_room hcat) hd hcl) hS (fun q _ h => hFc q h) hFc (fun r u t H1 locs1 ht hvm hw hB hz1 hk1 hS1 => ?_)
  obtain ⟨z, rfl, hpost⟩ := hw
  obtain ⟨hP1, hK1, hD1⟩ := hB
  rw [ht] at hP1
  obtain ⟨hP2, hD2⟩ := va_join (wr := wr) (w1 := w1 u) hP hD isC isR hC hRr hn2 hdis hk1 hFc hP1 hD1
  exact h z u hpost H1 locs1 ls hP2 hD2 hS1 hl
theorem go_calllSN {X : TCx} {cc : ByteArray} {own : String} {rm : Room} {nL : Nat} {ws : va_W} {n k pc : Nat} {lv : List (Nat × Value)} {st : List Value} {tys : List (ClassId × FieldType)} {cl : List vw_C} {E : TEn} {S : Type} {y : MethodName} {fr lo : Nat} {w0 wr : va_W} {tys0 : List (ClassId × FieldType)} {bytes : ByteArray} {maxL index : Nat} {ret : Option FieldType} {rest : List Value} {av : List Value} {host : String} {post : Int → S → Prop} {w1 : S → va_W} (O : TOk X cc own rm nL cl E) (hK : TKn X tys) (hE : EnvOk E) (hM : Ctl cl E y (Cond.code y bytes maxL ret :: Gw) (rmn fr lo) av w0 tys0 post w1) (hli : va_Nw (.methodLinkNest own index y host) (cx_s X)) (hst0 : Cond.static y ∈ Gw) (hin0 : Cond.initialized y.cls ∈ Gw) (hcd : Cond.code y bytes maxL ret ∈ Gw) (na : Nat) (hdd : y.cls ≠ "java/lang/invoke/MethodHandle" ∧ y.cls ≠ "java/lang/invoke/VarHandle" ∧ (parseMethodDescriptor y.desc).map (fun d => d.parameters.length) = some na) (hR : fr + 1 ≤ rm.frames ∧ 8 + (maxL + 11) + lo ≤ rm.locals)
    (isK : List Nat) (hKs : isK.filterMap (fun i => tys[i]?) = tys0) (isC : List Nat) (hC : isC.map (fun i => ws[i]?) = w0.map some) (hn1 : va_nd isC = true) (isR : List Nat) (hRr : isR.map (fun i => ws[i]?) = wr.map some) (hn2 : va_nd isR = true) (hdis : ∀ i ∈ isR, i ∉ isC) (hst : st = (av.reverse ++ rest)) (hn : av.length = na) (hcat : (rest.map fun v => v.category).sum ≤ 8) (hcells : n ≤ rm.cells ∧ k ≤ rm.slots) (hd : decode cc pc = .ok (.invokestatic index, 3)) (pc' : Nat) (hp : pc + 3 = pc') (h : ∀ (z : Int) (u : S), post z u → TGo X (wr ++ w1 u) n k pc' lv (.long (lI z) :: rest)) : TGo X ws n k pc lv st := by
  subst hst
  subst hp
  intro H locs ls hP hD hS hl
  have hRm := O.2.2.2.2.2.2.2.1
  have hcl0 := O.2.2.2.2.2.2.2.2.1
  subst hcl0
  have hFc := va_free (wc := w0) hD hS O.2.2.2.2.2.2.1 isC hC
  have hR' : fr + 1 ≤ (cx_R X).frames ∧ 8 + (maxL + 11) + lo ≤ (cx_R X).locals := by rw [hRm]; exact hR
  have hcl : n + 0 ≤ (cx_R X).cells ∧ k + 0 ≤ (cx_R X).slots := by rw [hRm]; exact hcells
  have hsz : ls.size = nL := hl.1.trans O.2.2.2.1
  have hPc : va_P (cx_D X) (cx_C X) w0 H := by
    intro j q hj
    have h1 : (isC.map (fun i => ws[i]?))[j]? = some (some q) := by rw [hC, List.getElem?_map, hj]; rfl
    rw [List.getElem?_map] at h1
    cases hi : isC[j]? with
    | none => rw [hi] at h1; cases h1
    | some i => rw [hi] at h1; exact hP i q (Option.some.inj h1)
  have hDc := hD.sub isC hn1 hC
  have hKc : va_K (cx_D X) (cx_C X) tys0 (cx_s X) := va_K.sub hK isK hKs
  have hpre : ∀ U : State, U.heap = H → (cx_s X).WarmedH U.vm → ct_Pc E (cx_D X) (cx_C X) av w0 tys0 H.size av.toArray U := by
    intro U hU hW
    subst hU
    exact ⟨rfl, rfl, hPc, va_K.moved hW.alike hKc, hDc.weaken (fun _ _ _ _ => trivial), hE.2 _ _ (cx_s X) U locs hS hW hFc O.2.2.2.2.2.2.2.2.2⟩
  refine va_calll (va_runSN ⟨O.1, O.2.1, O.2.2.1, O.2.2.2.2.1, O.2.2.2.2.2.1⟩ (hM (cx_l X) (cx_D X) H.size) ⟨va_cnB na O.2.2.2.2.2.1 (gw_all hcd) rfl rfl rfl hli (O.2.2.2.2.2.1 _ hin0) hdd hR', O.2.2.2.2.2.1 _ hst0, trivial⟩ ⟨ct_blind hE _ _ _ _ _ _, hpre⟩ rfl hn hsz rfl (lv_room hcat) hd hcl) hS (fun q _ h => hFc q h) hFc (fun r u t H1 locs1 ht hvm hw hB hz1 hk1 hS1 => ?_)
  obtain ⟨z, rfl, hpost⟩ := hw
  obtain ⟨hP1, hK1, hD1⟩ := hB
  rw [ht] at hP1
  obtain ⟨hP2, hD2⟩ := va_join (wr := wr) (w1 := w1 u) hP hD isC isR hC hRr hn2 hdis hk1 hFc hP1 hD1
  exact h z u hpost H1 locs1 ls hP2 hD2 hS1 hl
theorem go_callvS {X : TCx} {cc : ByteArray} {own : String} {rm : Room} {nL : Nat} {ws : va_W} {n k pc : Nat} {lv : List (Nat × Value)} {st : List Value} {tys : List (ClassId × FieldType)} {cl : List vw_C} {E : TEn} {S : Type} {y : MethodName} {fr lo : Nat} {w0 wr : va_W} {tys0 : List (ClassId × FieldType)} {bytes : ByteArray} {maxL index : Nat} {ret : Option FieldType} {rest : List Value} {av : List Value} {post : S → Prop} {w1 : S → va_W} (O : TOk X cc own rm nL cl E) (hK : TKn X tys) (hE : EnvOk E) (hM : Ctv cl E y (Cond.code y bytes maxL ret :: Gw) (rmn fr lo) av w0 tys0 post w1) (hml : Cond.methodLink own index y ∈ Gw) (hst0 : Cond.static y ∈ Gw) (hin0 : Cond.initialized y.cls ∈ Gw) (hcd : Cond.code y bytes maxL ret ∈ Gw) (na : Nat) (hdd : y.cls ≠ "java/lang/invoke/MethodHandle" ∧ y.cls ≠ "java/lang/invoke/VarHandle" ∧ (parseMethodDescriptor y.desc).map (fun d => d.parameters.length) = some na) (hR : fr + 1 ≤ rm.frames ∧ 8 + (maxL + 11) + lo ≤ rm.locals)
    (isK : List Nat) (hKs : isK.filterMap (fun i => tys[i]?) = tys0) (isC : List Nat) (hC : isC.map (fun i => ws[i]?) = w0.map some) (hn1 : va_nd isC = true) (isR : List Nat) (hRr : isR.map (fun i => ws[i]?) = wr.map some) (hn2 : va_nd isR = true) (hdis : ∀ i ∈ isR, i ∉ isC) (hst : st = (av.reverse ++ rest)) (hn : av.length = na) (hcat : (rest.map fun v => v.category).sum ≤ 8) (hcells : n ≤ rm.cells ∧ k ≤ rm.slots) (hd : decode cc pc = .ok (.invokestatic index, 3)) (pc' : Nat) (hp : pc + 3 = pc') (h : ∀ (u : S), post u → TGo X (wr ++ w1 u) n k pc' lv rest) : TGo X ws n k pc lv st := by
  subst hst
  subst hp
  intro H locs ls hP hD hS hl
  have hRm := O.2.2.2.2.2.2.2.1
  have hcl0 := O.2.2.2.2.2.2.2.2.1
  subst hcl0
  have hFc := va_free (wc := w0) hD hS O.2.2.2.2.2.2.1 isC hC
  have hR' : fr + 1 ≤ (cx_R X).frames ∧ 8 + (maxL + 11) + lo ≤ (cx_R X).locals := by rw [hRm]; exact hR
  have hcl : n + 0 ≤ (cx_R X).cells ∧ k + 0 ≤ (cx_R X).slots := by rw [hRm]; exact hcells
  have hsz : ls.size = nL := hl.1.trans O.2.2.2.1
  have hPc : va_P (cx_D X) (cx_C X) w0 H := by
    intro j q hj
    have h1 : (isC.map (fun i => ws[i]?))[j]? = some (some q) := by rw [hC, List.getElem?_map, hj]; rfl
    rw [List.getElem?_map] at h1
    cases hi : isC[j]? with
    | none => rw [hi] at h1; cases h1
    | some i => rw [hi] at h1; exact hP i q (Option.some.inj h1)
  have hDc := hD.sub isC hn1 hC
  have hKc : va_K (cx_D X) (cx_C X) tys0 (cx_s X) := va_K.sub hK isK hKs
  have hpre : ∀ U : State, U.heap = H → (cx_s X).WarmedH U.vm → ct_Pc E (cx_D X) (cx_C X) av w0 tys0 H.size av.toArray U := by
    intro U hU hW
    subst hU
    exact ⟨rfl, rfl, hPc, va_K.moved hW.alike hKc, hDc.weaken (fun _ _ _ _ => trivial), hE.2 _ _ (cx_s X) U locs hS hW hFc O.2.2.2.2.2.2.2.2.2⟩
  refine va_callv (va_runS ⟨O.1, O.2.1, O.2.2.1, O.2.2.2.2.1, O.2.2.2.2.2.1⟩ (hM (cx_l X) (cx_D X) H.size) (va_cwS na O.2.2.2.2.2.1 (gw_S hml hst0 hin0 hcd) rfl rfl rfl hdd hR') ⟨ct_blind hE _ _ _ _ _ _, hpre⟩ rfl hn hsz rfl (lv_room hcat) hd hcl) hS (fun q _ h => hFc q h) hFc (fun u t H1 locs1 ht hvm hpost hB hz1 hk1 hS1 => ?_)
  obtain ⟨hP1, hK1, hD1⟩ := hB
  rw [ht] at hP1
  obtain ⟨hP2, hD2⟩ := va_join (wr := wr) (w1 := w1 u) hP hD isC isR hC hRr hn2 hdis hk1 hFc hP1 hD1
  exact h u hpost H1 locs1 ls hP2 hD2 hS1 hl
theorem go_callvV {X : TCx} {cc : ByteArray} {own : String} {rm : Room} {nL : Nat} {ws : va_W} {n k pc : Nat} {lv : List (Nat × Value)} {st : List Value} {tys : List (ClassId × FieldType)} {cl : List vw_C} {E : TEn} {S : Type} {y : MethodName} {fr lo : Nat} {w0 wr : va_W} {tys0 : List (ClassId × FieldType)} {bytes : ByteArray} {maxL index : Nat} {ret : Option FieldType} {rest : List Value} {As : List Value} {b ci : Nat} {rc : vw_C} {fs : List Value} {post : S → Prop} {w1 : S → va_W} (O : TOk X cc own rm nL cl E) (hK : TKn X tys) (hE : EnvOk E) (hM : Ctv cl E y (Cond.code y bytes maxL ret :: Gw) (rmn fr lo) (.ref b :: As) w0 tys0 post w1) (hml : Cond.methodLink own index y ∈ Gw) (him : Cond.instanceMethod y ∈ Gw) (hse : Cond.selects rc.1 y y ∈ Gw) (hin0 : Cond.initialized rc.1 ∈ Gw) (hcd : Cond.code y bytes maxL ret ∈ Gw) (na : Nat) (hdd : y.cls = rc.1 ∧ y.cls ≠ "java/lang/invoke/MethodHandle" ∧ y.cls ≠ "java/lang/invoke/VarHandle" ∧ (parseMethodDescriptor y.desc).map (fun d => d.parameters.length) = some na) (hR : fr + 1 ≤ rm.frames ∧ 8 + (maxL + 11) + lo ≤ rm.locals) (qb : Nat) (hqb : ws[qb]? = some (b, .inr (ci, fs))) (hci : cl[ci]? = some rc)
    (isK : List Nat) (hKs : isK.filterMap (fun i => tys[i]?) = tys0) (isC : List Nat) (hC : isC.map (fun i => ws[i]?) = w0.map some) (hn1 : va_nd isC = true) (isR : List Nat) (hRr : isR.map (fun i => ws[i]?) = wr.map some) (hn2 : va_nd isR = true) (hdis : ∀ i ∈ isR, i ∉ isC) (hst : st = (As.reverse ++ .ref b :: rest)) (hn : As.length = na) (hcat : (rest.map fun v => v.category).sum ≤ 8) (hcells : n ≤ rm.cells ∧ k ≤ rm.slots) (hd : decode cc pc = .ok (.invokevirtual index, 3)) (pc' : Nat) (hp : pc + 3 = pc') (h : ∀ (u : S), post u → TGo X (wr ++ w1 u) n k pc' lv rest) : TGo X ws n k pc lv st := by
  subst hst
  subst hp
  intro H locs ls hP hD hS hl
  have hRm := O.2.2.2.2.2.2.2.1
  have hcl0 := O.2.2.2.2.2.2.2.2.1
  subst hcl0
  have hFc := va_free (wc := w0) hD hS O.2.2.2.2.2.2.1 isC hC
  have hR' : fr + 1 ≤ (cx_R X).frames ∧ 8 + (maxL + 11) + lo ≤ (cx_R X).locals := by rw [hRm]; exact hR
  have hcl : n + 0 ≤ (cx_R X).cells ∧ k + 0 ≤ (cx_R X).slots := by rw [hRm]; exact hcells
  have hsz : ls.size = nL := hl.1.trans O.2.2.2.1
  have hPc : va_P (cx_D X) (cx_C X) w0 H := by
    intro j q hj
    have h1 : (isC.map (fun i => ws[i]?))[j]? = some (some q) := by rw [hC, List.getElem?_map, hj]; rfl
    rw [List.getElem?_map] at h1
    cases hi : isC[j]? with
    | none => rw [hi] at h1; cases h1
    | some i => rw [hi] at h1; exact hP i q (Option.some.inj h1)
  have hDc := hD.sub isC hn1 hC
  have hKc : va_K (cx_D X) (cx_C X) tys0 (cx_s X) := va_K.sub hK isK hKs
  have hpre : ∀ U : State, U.heap = H → (cx_s X).WarmedH U.vm → ct_Pc E (cx_D X) (cx_C X) (.ref b :: As) w0 tys0 H.size (.ref b :: As).toArray U := by
    intro U hU hW
    subst hU
    exact ⟨rfl, rfl, hPc, va_K.moved hW.alike hKc, hDc.weaken (fun _ _ _ _ => trivial), hE.2 _ _ (cx_s X) U locs hS hW hFc O.2.2.2.2.2.2.2.2.2⟩
  refine va_callv (va_runV ⟨O.1, O.2.1, O.2.2.1, O.2.2.2.2.1, O.2.2.2.2.2.1⟩ (hM (cx_l X) (cx_D X) H.size) (cwV na O.2.2.2.2.2.1 (gw_V hml him hse hin0 hcd) rfl rfl rfl hdd hR') ⟨ct_blind hE _ _ _ _ _ _, va_recv hK hP hci hqb, hpre⟩ rfl hn hsz rfl (lv_room hcat) hd hcl) hS (fun q _ h => hFc q h) hFc (fun u t H1 locs1 ht hvm hpost hB hz1 hk1 hS1 => ?_)
  obtain ⟨hP1, hK1, hD1⟩ := hB
  rw [ht] at hP1
  obtain ⟨hP2, hD2⟩ := va_join (wr := wr) (w1 := w1 u) hP hD isC isR hC hRr hn2 hdis hk1 hFc hP1 hD1
  exact h u hpost H1 locs1 ls hP2 hD2 hS1 hl
theorem go_callvSN {X : TCx} {cc : ByteArray} {own : String} {rm : Room} {nL : Nat} {ws : va_W} {n k pc : Nat} {lv : List (Nat × Value)} {st : List Value} {tys : List (ClassId × FieldType)} {cl : List vw_C} {E : TEn} {S : Type} {y : MethodName} {fr lo : Nat} {w0 wr : va_W} {tys0 : List (ClassId × FieldType)} {bytes : ByteArray} {maxL index : Nat} {ret : Option FieldType} {rest : List Value} {av : List Value} {host : String} {post : S → Prop} {w1 : S → va_W} (O : TOk X cc own rm nL cl E) (hK : TKn X tys) (hE : EnvOk E) (hM : Ctv cl E y (Cond.code y bytes maxL ret :: Gw) (rmn fr lo) av w0 tys0 post w1) (hli : va_Nw (.methodLinkNest own index y host) (cx_s X)) (hst0 : Cond.static y ∈ Gw) (hin0 : Cond.initialized y.cls ∈ Gw) (hcd : Cond.code y bytes maxL ret ∈ Gw) (na : Nat) (hdd : y.cls ≠ "java/lang/invoke/MethodHandle" ∧ y.cls ≠ "java/lang/invoke/VarHandle" ∧ (parseMethodDescriptor y.desc).map (fun d => d.parameters.length) = some na) (hR : fr + 1 ≤ rm.frames ∧ 8 + (maxL + 11) + lo ≤ rm.locals)
    (isK : List Nat) (hKs : isK.filterMap (fun i => tys[i]?) = tys0) (isC : List Nat) (hC : isC.map (fun i => ws[i]?) = w0.map some) (hn1 : va_nd isC = true) (isR : List Nat) (hRr : isR.map (fun i => ws[i]?) = wr.map some) (hn2 : va_nd isR = true) (hdis : ∀ i ∈ isR, i ∉ isC) (hst : st = (av.reverse ++ rest)) (hn : av.length = na) (hcat : (rest.map fun v => v.category).sum ≤ 8) (hcells : n ≤ rm.cells ∧ k ≤ rm.slots) (hd : decode cc pc = .ok (.invokestatic index, 3)) (pc' : Nat) (hp : pc + 3 = pc') (h : ∀ (u : S), post u → TGo X (wr ++ w1 u) n k pc' lv rest) : TGo X ws n k pc lv st := by
  subst hst
  subst hp
  intro H locs ls hP hD hS hl
  have hRm := O.2.2.2.2.2.2.2.1
  have hcl0 := O.2.2.2.2.2.2.2.2.1
  subst hcl0
  have hFc := va_free (wc := w0) hD hS O.2.2.2.2.2.2.1 isC hC
  have hR' : fr + 1 ≤ (cx_R X).frames ∧ 8 + (maxL + 11) + lo ≤ (cx_R X).locals := by rw [hRm]; exact hR
  have hcl : n + 0 ≤ (cx_R X).cells ∧ k + 0 ≤ (cx_R X).slots := by rw [hRm]; exact hcells
  have hsz : ls.size = nL := hl.1.trans O.2.2.2.1
  have hPc : va_P (cx_D X) (cx_C X) w0 H := by
    intro j q hj
    have h1 : (isC.map (fun i => ws[i]?))[j]? = some (some q) := by rw [hC, List.getElem?_map, hj]; rfl
    rw [List.getElem?_map] at h1
    cases hi : isC[j]? with
    | none => rw [hi] at h1; cases h1
    | some i => rw [hi] at h1; exact hP i q (Option.some.inj h1)
  have hDc := hD.sub isC hn1 hC
  have hKc : va_K (cx_D X) (cx_C X) tys0 (cx_s X) := va_K.sub hK isK hKs
  have hpre : ∀ U : State, U.heap = H → (cx_s X).WarmedH U.vm → ct_Pc E (cx_D X) (cx_C X) av w0 tys0 H.size av.toArray U := by
    intro U hU hW
    subst hU
    exact ⟨rfl, rfl, hPc, va_K.moved hW.alike hKc, hDc.weaken (fun _ _ _ _ => trivial), hE.2 _ _ (cx_s X) U locs hS hW hFc O.2.2.2.2.2.2.2.2.2⟩
  refine va_callv (va_runSN ⟨O.1, O.2.1, O.2.2.1, O.2.2.2.2.1, O.2.2.2.2.2.1⟩ (hM (cx_l X) (cx_D X) H.size) ⟨va_cnB na O.2.2.2.2.2.1 (gw_all hcd) rfl rfl rfl hli (O.2.2.2.2.2.1 _ hin0) hdd hR', O.2.2.2.2.2.1 _ hst0, trivial⟩ ⟨ct_blind hE _ _ _ _ _ _, hpre⟩ rfl hn hsz rfl (lv_room hcat) hd hcl) hS (fun q _ h => hFc q h) hFc (fun u t H1 locs1 ht hvm hpost hB hz1 hk1 hS1 => ?_)
  obtain ⟨hP1, hK1, hD1⟩ := hB
  rw [ht] at hP1
  obtain ⟨hP2, hD2⟩ := va_join (wr := wr) (w1 := w1 u) hP hD isC isR hC hRr hn2 hdis hk1 hFc hP1 hD1
  exact h u hpost H1 locs1 ls hP2 hD2 hS1 hl
