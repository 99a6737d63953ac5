theorem enterFi {S : Type} {cl : List vw_C} {E : TEn} {y : MethodName} {rm : Room} {av : List Value} {w0 : va_W} {tys : List (ClassId × FieldType)} {post : Int → S → Prop} {w1 : S → va_W} {cc : ByteArray} {maxL : Nat} {ty : FieldType} (hy : plainFor y = true) (hsl : (lg_sl av).length ≤ maxL)
    (body : ∀ X : TCx, TOk X cc y.cls rm maxL cl E → TKn X tys → ((cx_M X).name = y.name) → (∀ (pc : Nat) (lv : List (Nat × Value)) (z : Int) (u : S), decode cc pc = .ok (.ireturn, 1) → narrow ty (.int (iI z)) = .int (iI z) → post z u → TGo X (w1 u) 0 0 pc lv [.int (iI z)]) → TGo X w0 0 0 0 (lv_args 0 av) []) : Cti cl E y (Cond.code y cc maxL (some ty) :: Gw) rm av w0 tys post w1 := by
  intro l D sz
  refine va_MetF (cc := cc) (maxL := maxL) (ret := (some ty)) hy rfl ?_
  intro p e s m args below meth c s₁ B hml hv
  obtain ⟨rfl, hsz, hP, hK, hD0, hE⟩ := hv
  have hts0 := atoms_spec (ws := Cond.code y cc maxL (some ty) :: Gw) B.pre
  have hts : ∀ w ∈ Gw, w.before av.toArray s = true := fun w h => hts0 w (List.mem_cons_of_mem _ h)
  have hown : s.vm.findClass y.cls = some m.cls := findClass_of_methodNamed B.named
  subst hsz
  have hD := hD0.self (sz := s.heap.size)
  rw [lg_entry_eq]
  refine body (p, l, e, (headSpec (Cond.code y cc maxL (some ty) :: Gw) rm).room, s, m, av.toArray, below, meth, c, MQ below (va_Qi (fun r u => ∃ z, r = iI z ∧ post z u) (ct_B D cl (va_A w0 s.heap.size) tys w1) (va_A w0 s.heap.size)) av.toArray s 0 0 (va_A w0 s.heap.size), va_A w0 s.heap.size, D, cl, maxL) ⟨B.exec, B.bytes, hml, rfl, hown, hts, fun q h => Or.inr h, rfl, rfl, hE⟩ hK (name_of_methodNamed B.named B.method).1 ?_ s.heap [] _ hP hD va_S.rf (lv_entry av hsl)
  · intro pc lv z u hd hnar hpost H locs ls hP hD hS hl
    exact W.zret B.exec B.bytes B.returns hnar (fun t ht hW => ⟨⟨iI z, u, rfl, ⟨z, rfl, hpost⟩, by rw [ht]; exact hP, va_K.moved hW.alike hK, hD⟩, hS.F ht⟩) hS.2.2 hd B.notSynchronized
theorem enterFl {S : Type} {cl : List vw_C} {E : TEn} {y : MethodName} {rm : Room} {av : List Value} {w0 : va_W} {tys : List (ClassId × FieldType)} {post : Int → S → Prop} {w1 : S → va_W} {cc : ByteArray} {maxL : Nat} (hy : plainFor y = true) (hsl : (lg_sl av).length ≤ maxL)
    (body : ∀ X : TCx, TOk X cc y.cls rm maxL cl E → TKn X tys → ((cx_M X).name = y.name) → (∀ (pc : Nat) (lv : List (Nat × Value)) (z : Int) (u : S), decode cc pc = .ok (.lreturn, 1) → post z u → TGo X (w1 u) 0 0 pc lv [.long (lI z)]) → TGo X w0 0 0 0 (lv_args 0 av) []) : Ctl cl E y (Cond.code y cc maxL (some .long) :: Gw) rm av w0 tys post w1 := by
  intro l D sz
  refine va_MetF (cc := cc) (maxL := maxL) (ret := (some .long)) hy rfl ?_
  intro p e s m args below meth c s₁ B hml hv
  obtain ⟨rfl, hsz, hP, hK, hD0, hE⟩ := hv
  have hts0 := atoms_spec (ws := Cond.code y cc maxL (some .long) :: Gw) B.pre
  have hts : ∀ w ∈ Gw, w.before av.toArray s = true := fun w h => hts0 w (List.mem_cons_of_mem _ h)
  have hown : s.vm.findClass y.cls = some m.cls := findClass_of_methodNamed B.named
  subst hsz
  have hD := hD0.self (sz := s.heap.size)
  rw [lg_entry_eq]
  refine body (p, l, e, (headSpec (Cond.code y cc maxL (some .long) :: Gw) rm).room, s, m, av.toArray, below, meth, c, MQ below (va_Ql (fun r u => ∃ z, r = lI z ∧ post z u) (ct_B D cl (va_A w0 s.heap.size) tys w1) (va_A w0 s.heap.size)) av.toArray s 0 0 (va_A w0 s.heap.size), va_A w0 s.heap.size, D, cl, maxL) ⟨B.exec, B.bytes, hml, rfl, hown, hts, fun q h => Or.inr h, rfl, rfl, hE⟩ hK (name_of_methodNamed B.named B.method).1 ?_ s.heap [] _ hP hD va_S.rf (lv_entry av hsl)
  · intro pc lv z u hd hpost H locs ls hP hD hS hl
    exact W.lret B.exec B.bytes B.returns (fun t ht hW => ⟨⟨lI z, u, rfl, ⟨z, rfl, hpost⟩, by rw [ht]; exact hP, va_K.moved hW.alike hK, hD⟩, hS.F ht⟩) hS.2.2 hd B.notSynchronized
theorem enterFv {S : Type} {cl : List vw_C} {E : TEn} {y : MethodName} {rm : Room} {av : List Value} {w0 : va_W} {tys : List (ClassId × FieldType)} {post : S → Prop} {w1 : S → va_W} {cc : ByteArray} {maxL : Nat} (hy : plainFor y = true) (hsl : (lg_sl av).length ≤ maxL)
    (body : ∀ X : TCx, TOk X cc y.cls rm maxL cl E → TKn X tys → ((cx_M X).name = y.name) → (∀ (pc : Nat) (lv : List (Nat × Value)) (u : S), decode cc pc = .ok (.return_, 1) → post u → TGo X (w1 u) 0 0 pc lv []) → TGo X w0 0 0 0 (lv_args 0 av) []) : Ctv cl E y (Cond.code y cc maxL none :: Gw) rm av w0 tys post w1 := by
  intro l D sz
  refine va_MetF (cc := cc) (maxL := maxL) (ret := none) hy rfl ?_
  intro p e s m args below meth c s₁ B hml hv
  obtain ⟨rfl, hsz, hP, hK, hD0, hE⟩ := hv
  have hts0 := atoms_spec (ws := Cond.code y cc maxL none :: Gw) B.pre
  have hts : ∀ w ∈ Gw, w.before av.toArray s = true := fun w h => hts0 w (List.mem_cons_of_mem _ h)
  have hown : s.vm.findClass y.cls = some m.cls := findClass_of_methodNamed B.named
  subst hsz
  have hD := hD0.self (sz := s.heap.size)
  rw [lg_entry_eq]
  refine body (p, l, e, (headSpec (Cond.code y cc maxL none :: Gw) rm).room, s, m, av.toArray, below, meth, c, MQ below (va_Qv post (ct_B D cl (va_A w0 s.heap.size) tys w1) (va_A w0 s.heap.size)) av.toArray s 0 0 (va_A w0 s.heap.size), va_A w0 s.heap.size, D, cl, maxL) ⟨B.exec, B.bytes, hml, rfl, hown, hts, fun q h => Or.inr h, rfl, rfl, hE⟩ hK (name_of_methodNamed B.named B.method).1 ?_ s.heap [] _ hP hD va_S.rf (lv_entry av hsl)
  · intro pc lv u hd hpost H locs ls hP hD hS hl
    exact W.vret B.exec B.bytes B.returns (fun t ht hW => ⟨⟨u, rfl, hpost, by rw [ht]; exact hP, va_K.moved hW.alike hK, hD⟩, hS.F ht⟩) hS.2.2 hd B.notSynchronized
/-! Signed ints; rows of signed ints that stand for a number; more rows of instructions. -/
theorem iI_quo {a b : Int} (ha : r32 a) (hb : r32 b) (h1 : b ≠ -1) : iI a / iI b = iI (a.tdiv b) := by
  have h2 : iI b ≠ -1 := by
    intro h
    have := congrArg Int32.toInt h
    rw [iI_t hb] at this
    have h3 : (-1 : Int32).toInt = -1 := by decide
    omega
  have h3 : (iI a / iI b).toInt = a.tdiv b := by rw [Int32.toInt_div_of_ne_right _ _ h2, iI_t ha, iI_t hb]
  rw [← h3, ← iI_of]
theorem iI_mod {a b : Int} (ha : r32 a) (hb : r32 b) (h1 : b ≠ -1) : iI a - iI a / iI b * iI b = iI (a.tmod b) := by
  rw [iI_quo ha hb h1, iI_mul, iI_sub]
  congr 1
  have := Int.tmod_add_tdiv_mul a b
  omega
theorem iI_xor10 {a : Int} (ha : r32 a) : ∃ z, r32 z ∧ iI a ^^^ iI 10 = iI z ∧ (0 ≤ z ↔ 0 ≤ a) := by
  refine ⟨(iI a ^^^ iI 10).toInt, iI_r _, iI_of _, ?_⟩
  have h1 : (iI a ^^^ iI 10).toBitVec.msb = ((iI a).toBitVec.msb ^^ (iI 10).toBitVec.msb) := by rw [Int32.toBitVec_xor, BitVec.msb_xor]
  have h2 : (iI 10).toBitVec.msb = false := by decide
  rw [h2, Bool.xor_false, BitVec.msb_eq_toInt, BitVec.msb_eq_toInt, decide_eq_decide] at h1
  have h3 : (iI a).toBitVec.toInt = a := iI_t ha
  rw [h3] at h1
  have h4 : (iI a ^^^ iI 10).toBitVec.toInt = (iI a ^^^ iI 10).toInt := rfl
  rw [h4] at h1
  omega
theorem tdm10 (a : Int) : a.tmod 10 + a.tdiv 10 * 10 = a ∧ (0 ≤ a → 0 ≤ a.tmod 10 ∧ a.tmod 10 < 10) ∧ (a < 0 → -10 < a.tmod 10 ∧ a.tmod 10 ≤ 0) := by
  refine ⟨Int.tmod_add_tdiv_mul a 10, fun h => ?_, fun h => ?_⟩
  · have h1 := Int.tmod_nonneg 10 h
    have := (tm10 a).2.1
    omega
  · have h1 := Int.tmod_nonneg 10 (show 0 ≤ -a by omega)
    rw [Int.neg_tmod] at h1
    have := (tm10 a).1
    omega
section GO2
variable {X : TCx} {cc : ByteArray} {own : String} {rm : Room} {nL : Nat} {ws : va_W} {n k pc : Nat} {lv : List (Nat × Value)} {st : List Value} {tys : List (ClassId × FieldType)} {cl : List vw_C} {E : TEn}
theorem go_ixor (O : TOk X cc own rm nL cl E) {a b : Int} (hd : decode cc pc = .ok (.ixor, 1)) (z : Int) (hz : iI a ^^^ iI b = iI z) (pc' : Nat) (hp : pc + 1 = pc') (h : TGo X ws n k pc' lv (.int (iI z) :: st)) : TGo X ws n k pc lv (.int (iI b) :: .int (iI a) :: st) := by
  subst hp
  intro H locs ls hP hD hS hl
  exact lv_ixor O.1 O.2.1 hd (TWx_vi hz (h H locs ls hP hD hS hl))
theorem go_idivT (O : TOk X cc own rm nL cl E) {a b : Int} (hd : decode cc pc = .ok (.idiv, 1)) (ha : r32 a) (hb : r32 b) (h0 : b ≠ 0) (h1 : b ≠ -1) (z : Int) (hz : a.tdiv b = z) (pc' : Nat) (hp : pc + 1 = pc') (h : TGo X ws n k pc' lv (.int (iI z) :: st)) : TGo X ws n k pc lv (.int (iI b) :: .int (iI a) :: st) := by
  subst hp
  intro H locs ls hP hD hS hl
  exact lv_idiv O.1 O.2.1 hd (fun q => h0 ((iI_inj hb r32_0).mp (q.trans iI_0.symm))) (TWx_vi (by rw [iI_quo ha hb h1, hz]) (h H locs ls hP hD hS hl))
theorem go_iremT (O : TOk X cc own rm nL cl E) {a b : Int} (hd : decode cc pc = .ok (.irem, 1)) (ha : r32 a) (hb : r32 b) (h0 : b ≠ 0) (h1 : b ≠ -1) (z : Int) (hz : a.tmod b = z) (pc' : Nat) (hp : pc + 1 = pc') (h : TGo X ws n k pc' lv (.int (iI z) :: st)) : TGo X ws n k pc lv (.int (iI b) :: .int (iI a) :: st) := by
  subst hp
  intro H locs ls hP hD hS hl
  exact lv_irem O.1 O.2.1 hd (fun q => h0 ((iI_inj hb r32_0).mp (q.trans iI_0.symm))) (TWx_vi (by rw [iI_mod ha hb h1, hz]) (h H locs ls hP hD hS hl))
theorem TGo.topi {x y : Int} (e : x = y) (h : TGo X ws n k pc lv (.int (iI y) :: st)) : TGo X ws n k pc lv (.int (iI x) :: st) := e ▸ h
theorem TGo.topl {x y : Int} (e : x = y) (h : TGo X ws n k pc lv (.long (lI y) :: st)) : TGo X ws n k pc lv (.long (lI x) :: st) := e ▸ h
/-- System.arraycopy between two int arrays of the world -/
theorem go_copyi (O : TOk X cc own rm nL cl E) (hK : TKn X tys) {index : Nat} (hd : decode cc pc = .ok (.invokestatic index, 3)) (hml : Cond.methodLink own index arraycopyName ∈ Gw) (hna : Cond.native arraycopyName ∈ Gw) (hst : Cond.static arraycopyName ∈ Gw) (hin : Cond.initialized "java/lang/System" ∈ Gw) (q0 q1 t0 t1 : Nat) {a a0 : Nat} {c0 c1 : ClassId} {n0 n1 : Nat} {f g : Nat → Int32} (ha0 : ws[q0]? = some (a0, .inl (c0, n0, .inl f))) (ha1 : ws[q1]? = some (a, .inl (c1, n1, .inl g))) (ht0 : tys[t0]? = some (c0, .int)) (ht1 : tys[t1]? = some (c1, .int))
    {x y z : Int} (sp dp m : Nat) (hx : x = (sp : Int)) (hy : y = (dp : Int)) (hz : z = (m : Int)) (h4 : sp + m ≤ n0) (h5 : dp + m ≤ n1) (hn0 : n0 < 2147483648) (hn1 : n1 < 2147483648) (g' : Nat → Int32) (hg : ∀ i, i < n1 → va_cpy f g sp dp m i = g' i) (ws' : va_W) (hw : ws.set q1 (a, .inl (c1, n1, .inl g')) = ws') (hfr : 1 ≤ rm.frames) (hlo : (st.map fun v => v.category).sum + (nativeFrameWords "java/lang/System" "arraycopy" 5 + 11) ≤ rm.locals) (pc' : Nat) (hp : pc + 3 = pc') (h : TGo X ws' n k pc' lv st) : TGo X ws n k pc lv (.int (iI z) :: .int (iI y) :: .ref a :: .int (iI x) :: .ref a0 :: st) := by
  subst hp; subst hx; subst hy; subst hz; subst hw
  intro H locs ls hP hD hS hl
  have hlt := (List.getElem?_eq_some_iff.mp ha1).1
  have hts := O.2.2.2.2.2.1
  have hRm := O.2.2.2.2.2.2.2.1
  have e1 : (iI (sp : Int)).toNatClampNeg = sp := iI_cl (by omega)
  have e2 : (iI (dp : Int)).toNatClampNeg = dp := iI_cl (by omega)
  have e3 : (iI (m : Int)).toNatClampNeg = m := iI_cl (by omega)
  have nn : ∀ j : Nat, j < 2147483648 → ¬ iI (j : Int) < 0 := fun j hj => by rw [iI_nat]; exact nI_pos (by omega)
  refine va_copyi O.1 O.2.1 (O.2.2.1.trans (O.2.2.2.1.symm.trans hl.1.symm)) O.2.2.2.2.1 (hts _ hml) (hts _ hna) (hts _ hst) (hts _ hin) hK hP hD hS q0 q1 t0 t1 (ty := .int) ha0 ha1 ht0 ht1 rfl (nn sp (by omega)) (nn dp (by omega)) (nn m (by omega)) (by rw [e1, e3]; exact h4) (by rw [e2, e3]; exact h5) (fun _ _ => rfl) (by rw [hRm]; exact hfr) (by rw [hRm]; exact hlo) hd (fun H1 locs1 hP1 hD1 hS1 => ?_)
  rw [e1, e2, e3] at hP1 hD1
  refine h H1 locs1 ls (va_P_ext hlt hP1 (fun e => ?_)) (va_D.set hD ha1) hS1 hl
  have e : H1[a]? = some (vp_cell c1 (n1, .inl (va_cpy f g sp dp m))) := e
  show H1[a]? = some (vp_cell c1 (n1, .inl g'))
  rw [e, vp_cell_ext c1 n1 hg]
end GO2
/-- the number that a row of signed ints stands for, from place i on, d places -/
def tv (z : Nat → Int) : Nat → Nat → Int
  | _, 0 => 0
  | i, d + 1 => z i + 10 * tv z (i + 1) d
theorem tv_0 (z : Nat → Int) (i : Nat) : tv z i 0 = 0 := rfl
theorem tv_s (z : Nat → Int) (i d : Nat) : tv z i (d + 1) = z i + 10 * tv z (i + 1) d := rfl
theorem tv_congr {z y : Nat → Int} : ∀ (d i : Nat), (∀ j, i ≤ j → j < i + d → z j = y j) → tv z i d = tv y i d := by
  intro d
  induction d with
  | zero => intro i _; rfl
  | succ d ih =>
    intro i h
    rw [tv_s, tv_s, h i (by omega) (by omega), ih (i + 1) (fun j a b => h j (by omega) (by omega))]
theorem tv_dg (W : Nat) : ∀ (d i : Nat), tv (fun j => ((W / 10 ^ j % 10 : Nat) : Int)) i d = ((W / 10 ^ i % 10 ^ d : Nat) : Int) := by
  intro d
  induction d with
  | zero => intro i; rw [tv_0, Nat.pow_zero, Nat.mod_one]; rfl
  | succ d ih =>
    intro i
    rw [tv_s, ih (i + 1), tq10, Nat.pow_succ, Nat.mul_comm, Nat.mod_mul]
    omega
theorem tv_add (z y : Nat → Int) : ∀ (d i : Nat), tv (fun j => z j + y j) i d = tv z i d + tv y i d := by
  intro d
  induction d with
  | zero => intro i; rfl
  | succ d ih => intro i; rw [tv_s, tv_s, tv_s, ih (i + 1)]; omega
theorem tv_upd (z : Nat → Int) (p : Nat) (x : Int) : ∀ (d i : Nat), i ≤ p → p < i + d → tv (fun j => if j = p then x else z j) i d = tv z i d + (x - z p) * (10 ^ (p - i) : Nat) := by
  intro d
  induction d with
  | zero => intro i h1 h2; omega
  | succ d ih =>
    intro i h1 h2
    rw [tv_s, tv_s]
    by_cases e : i = p
    · subst e
      rw [if_pos rfl, Nat.sub_self, Nat.pow_zero]
      rw [tv_congr (y := z) d (i + 1) (fun j a b => if_neg (by omega))]
      omega
    · rw [if_neg e, ih (i + 1) (by omega) (by omega)]
      have e2 : p - i = (p - (i + 1)) + 1 := by omega
      rw [e2, p10s, Int.natCast_mul, Int.mul_add, Int.mul_left_comm (10 : Int)]
      show z i + (10 * tv z (i + 1) d + (x - z p) * (10 * ((10 ^ (p - (i + 1)) : Nat) : Int))) = z i + 10 * tv z (i + 1) d + (x - z p) * (10 * ((10 ^ (p - (i + 1)) : Nat) : Int))
      rw [Int.add_assoc]
set_option maxHeartbeats 4000000 in
set_option maxRecDepth 100000 in
/-- Math.floorMod by 10 -/
theorem c_J9_floorMod (E : TEn) (hE : EnvOk E) (a : Int) (ha : r32 a) : Cti vwCl E yJ9_floorMod wsJ9_floorMod (rmn 0 0) [.int (iI a), .int (iI 10)] [] [] (fun (z : Int) (_ : Unit) => z = a % 10) (fun _ => []) := by
  refine enterFi (by decide +kernel) (Nat.le_of_ble_eq_true rfl) ?_
  intro X O hK hin2 hret
  show TGo X [] 0 0 0 [(0, .int (iI a)), (1, .int (iI 10))] []
  obtain ⟨y, hy, hxo, hys⟩ := iI_xor10 ha
  have td := tdm10 a
  refine go_iload_n O dJ9_floorMod_0 rfl 0 rfl 1 rfl ?_
  refine go_iload_n O dJ9_floorMod_1 rfl 1 rfl 2 rfl ?_
  refine go_iremT O dJ9_floorMod_2 (by omega) (by omega) (by omega) (by omega) (a.tmod 10) rfl 3 rfl ?_
  refine go_istore_n O dJ9_floorMod_3 rfl (by decide) [(2, .int (iI (a.tmod 10))), (0, .int (iI a)), (1, .int (iI 10))] rfl 4 rfl ?_
  refine go_iload_n O dJ9_floorMod_4 rfl 1 rfl 5 rfl ?_
  refine go_iload_n O dJ9_floorMod_5 rfl 2 rfl 6 rfl ?_
  refine go_ixor O dJ9_floorMod_6 y hxo 7 rfl ?_
  refine go_if_ge O dJ9_floorMod_7 18 (by decide) 10 rfl hy (fun h7 => ?_) (fun h7 => ?_)
  · refine go_iload_n O dJ9_floorMod_18 rfl 0 rfl 19 rfl ?_
    exact hret _ _ _ () dJ9_floorMod_19 rfl (by omega)
  · refine go_iload_n O dJ9_floorMod_10 rfl 0 rfl 11 rfl ?_
    refine go_if_eq O dJ9_floorMod_11 18 (by decide) 14 rfl (by omega) (fun h11 => ?_) (fun h11 => ?_)
    · refine go_iload_n O dJ9_floorMod_18 rfl 0 rfl 19 rfl ?_
      exact hret _ _ _ () dJ9_floorMod_19 rfl (by omega)
    · refine go_iload_n O dJ9_floorMod_14 rfl 0 rfl 15 rfl ?_
      refine go_iload_n O dJ9_floorMod_15 rfl 2 rfl 16 rfl ?_
      refine go_iadd O dJ9_floorMod_16 ((a.tmod 10) + 10) rfl 17 rfl ?_
      exact hret _ _ _ () dJ9_floorMod_17 rfl (by omega)
set_option maxHeartbeats 4000000 in
set_option maxRecDepth 100000 in
/-- Math.floorDiv by 10 -/
theorem c_J9_floorDiv (E : TEn) (hE : EnvOk E) (a : Int) (ha : r32 a) : Cti vwCl E yJ9_floorDiv wsJ9_floorDiv (rmn 0 0) [.int (iI a), .int (iI 10)] [] [] (fun (z : Int) (_ : Unit) => z = a / 10) (fun _ => []) := by
  refine enterFi (by decide +kernel) (Nat.le_of_ble_eq_true rfl) ?_
  intro X O hK hin2 hret
  show TGo X [] 0 0 0 [(0, .int (iI a)), (1, .int (iI 10))] []
  obtain ⟨y, hy, hxo, hys⟩ := iI_xor10 ha
  have td := tdm10 a
  refine go_iload_n O dJ9_floorDiv_0 rfl 0 rfl 1 rfl ?_
  refine go_iload_n O dJ9_floorDiv_1 rfl 1 rfl 2 rfl ?_
  refine go_idivT O dJ9_floorDiv_2 (by omega) (by omega) (by omega) (by omega) (a.tdiv 10) rfl 3 rfl ?_
  refine go_istore_n O dJ9_floorDiv_3 rfl (by decide) [(2, .int (iI (a.tdiv 10))), (0, .int (iI a)), (1, .int (iI 10))] rfl 4 rfl ?_
  refine go_iload_n O dJ9_floorDiv_4 rfl 1 rfl 5 rfl ?_
  refine go_iload_n O dJ9_floorDiv_5 rfl 2 rfl 6 rfl ?_
  refine go_ixor O dJ9_floorDiv_6 y hxo 7 rfl ?_
  refine go_if_ge O dJ9_floorDiv_7 21 (by decide) 10 rfl hy (fun h7 => ?_) (fun h7 => ?_)
  · refine go_iload_n O dJ9_floorDiv_21 rfl 0 rfl 22 rfl ?_
    exact hret _ _ _ () dJ9_floorDiv_22 rfl (by omega)
  · refine go_iload_n O dJ9_floorDiv_10 rfl 0 rfl 11 rfl ?_
    refine go_iload_n O dJ9_floorDiv_11 rfl 2 rfl 12 rfl ?_
    refine go_imul O dJ9_floorDiv_12 ((a.tdiv 10) * 10) rfl 13 rfl ?_
    refine go_iload_n O dJ9_floorDiv_13 rfl 1 rfl 14 rfl ?_
    refine go_icmp_eq O dJ9_floorDiv_14 21 (by decide) 17 rfl (by omega) (by omega) (fun h14 => ?_) (fun h14 => ?_)
    · refine go_iload_n O dJ9_floorDiv_21 rfl 0 rfl 22 rfl ?_
      exact hret _ _ _ () dJ9_floorDiv_22 rfl (by omega)
    · refine go_iload_n O dJ9_floorDiv_17 rfl 0 rfl 18 rfl ?_
      refine go_iconst O dJ9_floorDiv_18 19 rfl ?_
      refine go_isub O dJ9_floorDiv_19 ((a.tdiv 10) - 1) rfl 20 rfl ?_
      exact hret _ _ _ () dJ9_floorDiv_20 rfl (by omega)
set_option maxHeartbeats 4000000 in
set_option maxRecDepth 100000 in
/-- Math.abs -/
theorem c_J9_abs (E : TEn) (hE : EnvOk E) (a : Int) (ha : r64 a) : Ctl vwCl E yJ9_abs wsJ9_abs (rmn 0 0) [.long (lI a)] [] [] (fun (z : Int) (_ : Unit) => z = (a.natAbs : Int)) (fun _ => []) := by
  refine enterFl (by decide +kernel) (Nat.le_of_ble_eq_true rfl) ?_
  intro X O hK hin2 hret
  show TGo X [] 0 0 0 [(0, .long (lI a))] []
  have hc := cmpZ_ge (a := a) (b := 0)
  refine go_lload_n O dJ9_abs_0 rfl 0 rfl 1 rfl ?_
  refine go_lconst O dJ9_abs_1 0 rfl 2 rfl ?_
  refine go_lcmp O dJ9_abs_2 (by omega) (by omega) 3 rfl ?_
  refine go_if_ge O dJ9_abs_3 11 (by decide) 6 rfl (cmpZ_r _ _) (fun h3 => ?_) (fun h3 => ?_)
  · refine go_lload_n O dJ9_abs_11 rfl 0 rfl 12 rfl ?_
    exact hret _ _ _ () dJ9_abs_12 (by omega)
  · refine go_lload_n O dJ9_abs_6 rfl 0 rfl 7 rfl ?_
    refine go_lneg O dJ9_abs_7 (-a) rfl 8 rfl ?_
    refine go_goto O dJ9_abs_8 12 (by decide) ?_
    exact hret _ _ _ () dJ9_abs_12 (by omega)
set_option maxHeartbeats 4000000 in
set_option maxRecDepth 100000 in
/-- Math.max -/
theorem c_J9_max (E : TEn) (hE : EnvOk E) (a b : Int) (ha : r32 a) (hb : r32 b) : Cti vwCl E yJ9_max wsJ9_max (rmn 0 0) [.int (iI a), .int (iI b)] [] [] (fun (z : Int) (_ : Unit) => z = if a < b then b else a) (fun _ => []) := by
  refine enterFi (by decide +kernel) (Nat.le_of_ble_eq_true rfl) ?_
  intro X O hK hin2 hret
  show TGo X [] 0 0 0 [(0, .int (iI a)), (1, .int (iI b))] []
  refine go_iload_n O dJ9_max_0 rfl 0 rfl 1 rfl ?_
  refine go_iload_n O dJ9_max_1 rfl 1 rfl 2 rfl ?_
  refine go_icmp_lt O dJ9_max_2 9 (by decide) 5 rfl (by omega) (by omega) (fun h2 => ?_) (fun h2 => ?_)
  · refine go_iload_n O dJ9_max_9 rfl 1 rfl 10 rfl ?_
    exact hret _ _ _ () dJ9_max_10 rfl (by split <;> omega)
  · refine go_iload_n O dJ9_max_5 rfl 0 rfl 6 rfl ?_
    refine go_goto O dJ9_max_6 10 (by decide) ?_
    exact hret _ _ _ () dJ9_max_10 rfl (by split <;> omega)
set_option maxHeartbeats 4000000 in
set_option maxRecDepth 100000 in
/-- Math.min -/
theorem c_J9_min (E : TEn) (hE : EnvOk E) (a b : Int) (ha : r32 a) (hb : r32 b) : Cti vwCl E yJ9_min wsJ9_min (rmn 0 0) [.int (iI a), .int (iI b)] [] [] (fun (z : Int) (_ : Unit) => z = if b < a then b else a) (fun _ => []) := by
  refine enterFi (by decide +kernel) (Nat.le_of_ble_eq_true rfl) ?_
  intro X O hK hin2 hret
  show TGo X [] 0 0 0 [(0, .int (iI a)), (1, .int (iI b))] []
  refine go_iload_n O dJ9_min_0 rfl 0 rfl 1 rfl ?_
  refine go_iload_n O dJ9_min_1 rfl 1 rfl 2 rfl ?_
  refine go_icmp_gt O dJ9_min_2 9 (by decide) 5 rfl (by omega) (by omega) (fun h2 => ?_) (fun h2 => ?_)
  · refine go_iload_n O dJ9_min_9 rfl 1 rfl 10 rfl ?_
    exact hret _ _ _ () dJ9_min_10 rfl (by split <;> omega)
  · refine go_iload_n O dJ9_min_5 rfl 0 rfl 6 rfl ?_
    refine go_goto O dJ9_min_6 10 (by decide) ?_
    exact hret _ _ _ () dJ9_min_10 rfl (by split <;> omega)
set_option maxHeartbeats 4000000 in
set_option maxRecDepth 100000 in
/-- Integer.compare -/
theorem c_J6_compare (E : TEn) (hE : EnvOk E) (a b : Int) (ha : r32 a) (hb : r32 b) : Cti vwCl E yJ6_compare wsJ6_compare (rmn 0 0) [.int (iI a), .int (iI b)] [] [] (fun (z : Int) (_ : Unit) => z = if a < b then -1 else if a = b then 0 else 1) (fun _ => []) := by
  refine enterFi (by decide +kernel) (Nat.le_of_ble_eq_true rfl) ?_
  intro X O hK hin2 hret
  show TGo X [] 0 0 0 [(0, .int (iI a)), (1, .int (iI b))] []
  refine go_iload_n O dJ6_compare_0 rfl 0 rfl 1 rfl ?_
  refine go_iload_n O dJ6_compare_1 rfl 1 rfl 2 rfl ?_
  refine go_icmp_ge O dJ6_compare_2 9 (by decide) 5 rfl (by omega) (by omega) (fun h2 => ?_) (fun h2 => ?_)
  · refine go_iload_n O dJ6_compare_9 rfl 0 rfl 10 rfl ?_
    refine go_iload_n O dJ6_compare_10 rfl 1 rfl 11 rfl ?_
    refine go_icmp_ne O dJ6_compare_11 18 (by decide) 14 rfl (by omega) (by omega) (fun h11 => ?_) (fun h11 => ?_)
    · refine go_iconst O dJ6_compare_18 19 rfl ?_
      exact hret _ _ _ () dJ6_compare_19 rfl (by split <;> (try split) <;> omega)
    · refine go_iconst O dJ6_compare_14 15 rfl ?_
      refine go_goto O dJ6_compare_15 19 (by decide) ?_
      exact hret _ _ _ () dJ6_compare_19 rfl (by split <;> (try split) <;> omega)
  · refine go_iconst O dJ6_compare_5 6 rfl ?_
    refine go_goto O dJ6_compare_6 19 (by decide) ?_
    exact hret _ _ _ () dJ6_compare_19 rfl (by split <;> (try split) <;> omega)
set_option maxHeartbeats 4000000 in
set_option maxRecDepth 100000 in
/-- Arrays.fill of 72 ints -/
theorem c_J7_fill (E : TEn) (hE : EnvOk E) (q : Nat) (cI : ClassId) (f : Nat → Int32) (v : Int) (hv : r32 v) : Ctv vwCl E yJ7_fill wsJ7_fill (rmn 0 0) [.ref q, .int (iI v)] [(q, .inl (cI, 72, .inl f))] [(cI, .int)] (fun _ : Unit => True) (fun _ => [(q, .inl (cI, 72, .inl (fun _ => iI v)))]) := by
  refine enterFv (by decide +kernel) (Nat.le_of_ble_eq_true rfl) ?_
  intro X O hK hin2 hret
  show TGo X [(q, .inl (cI, 72, .inl f))] 0 0 0 [(0, .ref q), (1, .int (iI v))] []
  have lp : ∀ (c : Nat) (i : Nat) (x : Int) (g : Nat → Int32), c + i = 73 → i ≤ 72 → x = (i : Int) → (∀ j, j < i → g j = iI v) → TGo X [(q, .inl (cI, 72, .inl g))] 0 0 5 [(2, .int (iI x)), (3, .int (iI 72)), (0, .ref q), (1, .int (iI v))] [] := by
    intro c
    induction c with
    | zero => intro i x g h1 h2 hx hg; omega
    | succ c ih =>
      intro i x g h1 h2 hx hg
      refine go_iload_n O dJ7_fill_5 rfl 0 rfl 6 rfl ?_
      refine go_iload_n O dJ7_fill_6 rfl 1 rfl 7 rfl ?_
      refine go_icmp_ge O dJ7_fill_7 20 (by decide) 10 rfl (by omega) (by omega) (fun h7 => ?_) (fun h7 => ?_)
      · refine TGo.arr 0 rfl (fun _ => iI v) (fun j hj => hg j (by omega)) (ws' := [(q, .inl (cI, 72, .inl (fun _ => iI v)))]) rfl ?_
        exact hret _ _ () dJ7_fill_20 trivial
      · refine go_aload_n O dJ7_fill_10 rfl 2 rfl 11 rfl ?_
        refine go_iload_n O dJ7_fill_11 rfl 0 rfl 12 rfl ?_
        refine go_iload_n O dJ7_fill_12 rfl 3 rfl 13 rfl ?_
        refine go_iast O hK dJ7_fill_13 0 0 rfl rfl i hx (by omega) (by omega) (upd g i (iI v)) (fun _ _ => rfl) [(q, .inl (cI, 72, .inl (upd g i (iI v))))] rfl 14 rfl ?_
        refine go_iinc O dJ7_fill_14 0 rfl ((i + 1 : Nat) : Int) (by omega) (by decide) [(2, .int (iI ((i + 1 : Nat) : Int))), (3, .int (iI 72)), (0, .ref q), (1, .int (iI v))] rfl 17 rfl ?_
        refine go_goto O dJ7_fill_17 5 (by decide) ?_
        refine TGo.lsub (lv' := [(2, .int (iI ((i + 1 : Nat) : Int))), (3, .int (iI 72)), (0, .ref q), (1, .int (iI v))]) [0, 1, 2, 3] rfl ?_
        exact ih (i + 1) _ _ (by omega) (by omega) (by omega) (lo_upd (F := fun _ => iI v) hg rfl)
  refine go_iconst O dJ7_fill_0 1 rfl ?_
  refine go_istore_n O dJ7_fill_1 rfl (by decide) [(2, .int (iI 0)), (0, .ref q), (1, .int (iI v))] rfl 2 rfl ?_
  refine go_aload_n O dJ7_fill_2 rfl 1 rfl 3 rfl ?_
  refine go_alen O hK dJ7_fill_3 0 0 rfl rfl 72 rfl 4 rfl ?_
  refine go_istore_n O dJ7_fill_4 rfl (by decide) [(3, .int (iI 72)), (2, .int (iI 0)), (0, .ref q), (1, .int (iI v))] rfl 5 rfl ?_
  refine TGo.lsub (lv' := [(2, .int (iI 0)), (3, .int (iI 72)), (0, .ref q), (1, .int (iI v))]) [1, 0, 2, 3] rfl ?_
  exact lp 73 0 _ _ (by omega) (by omega) (by omega) (fun j a => absurd a (by omega))
