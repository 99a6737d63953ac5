/-! A world with a tail that a stretch of code doesn't touch; cells of registers, by their numbers. -/
theorem vnd_iff : ∀ l : List Nat, va_nd l = true ↔ l.Nodup := by
  intro l
  induction l with
  | nil => simp [va_nd]
  | cons a l ih => simp [va_nd, ih]
theorem vnd_tail (a n : Nat) : va_nd ((List.range n).map (fun j => a + j)) = true := by
  rw [vnd_iff]
  exact List.Pairwise.map _ (fun x y (h : x ≠ y) => by omega) List.nodup_range
theorem ix_lt {ws1 w' : va_W} {is : List Nat} (h : is.map (fun i => ws1[i]?) = w'.map some) : ∀ i ∈ is, i < ws1.length := by
  intro i hi
  have h1 : ws1[i]? ∈ is.map (fun i => ws1[i]?) := List.mem_map.mpr ⟨i, hi, rfl⟩
  rw [h] at h1
  obtain ⟨q, -, hq⟩ := List.mem_map.mp h1
  exact (List.getElem?_eq_some_iff.mp hq.symm).1
theorem ix_l {ws1 w' : va_W} (T : va_W) {is : List Nat} (h : is.map (fun i => ws1[i]?) = w'.map some) : is.map (fun i => (ws1 ++ T)[i]?) = w'.map some := by
  rw [← h]
  exact List.map_congr_left (fun i hi => List.getElem?_append_left (ix_lt h i hi))
theorem ix_t (ws1 T : va_W) : ((List.range T.length).map (fun j => ws1.length + j)).map (fun i => (ws1 ++ T)[i]?) = T.map some := by
  rw [List.map_map]
  apply List.ext_getElem?
  intro k
  rw [List.getElem?_map, List.getElem?_map]
  by_cases hk : k < T.length
  · rw [List.getElem?_range hk, List.getElem?_eq_getElem hk]
    show some ((ws1 ++ T)[ws1.length + k]?) = _
    rw [List.getElem?_append_right (by omega), Nat.add_sub_cancel_left, List.getElem?_eq_getElem hk]
    rfl
  · rw [List.getElem?_eq_none (by rw [List.length_range]; omega), List.getElem?_eq_none (by omega)]
    rfl
theorem ix_lT {ws1 w' : va_W} (T : va_W) {is : List Nat} (h : is.map (fun i => ws1[i]?) = w'.map some) : (is ++ (List.range T.length).map (fun j => ws1.length + j)).map (fun i => (ws1 ++ T)[i]?) = (w' ++ T).map some := by
  rw [List.map_append, List.map_append, ix_l T h, ix_t]
theorem vnd_lT {ws1 w' : va_W} (T : va_W) {is : List Nat} (h : is.map (fun i => ws1[i]?) = w'.map some) (hn : va_nd is = true) : va_nd (is ++ (List.range T.length).map (fun j => ws1.length + j)) = true := by
  rw [vnd_iff, List.nodup_append]
  refine ⟨(vnd_iff _).mp hn, (vnd_iff _).mp (vnd_tail _ _), fun a ha b hb => ?_⟩
  obtain ⟨j, -, rfl⟩ := List.mem_map.mp hb
  have := ix_lt h a ha
  omega
theorem TGo.subT {X : TCx} {n k pc : Nat} {lv : List (Nat × Value)} {st : List Value} {ws1 w' : va_W} (T : va_W) (is : List Nat) (hn : va_nd is = true) (hs : is.map (fun i => ws1[i]?) = w'.map some) (h : TGo X (w' ++ T) n k pc lv st) : TGo X (ws1 ++ T) n k pc lv st :=
  TGo.sub (is ++ (List.range T.length).map (fun j => ws1.length + j)) (vnd_lT T hs hn) (ix_lT T hs) h
/-- any other order of the same cells -/
theorem TGo.perm {X : TCx} {n k pc : Nat} {lv : List (Nat × Value)} {st : List Value} {ws ws' : va_W} (h : ws.Perm ws') (hg : TGo X ws' n k pc lv st) : TGo X ws n k pc lv st := by
  intro H locs ls hP hD hS hl
  have nd : (ws.map Prod.fst).Nodup := by
    refine List.pairwise_iff_getElem.mpr (fun i j hi hj hij e => ?_)
    rw [List.length_map] at hi hj
    rw [List.getElem_map, List.getElem_map] at e
    have := hD.1 i j _ _ (List.getElem?_eq_getElem hi) (List.getElem?_eq_getElem hj) e
    omega
  have nd' : (ws'.map Prod.fst).Nodup := (h.map Prod.fst).nodup_iff.mp nd
  refine hg H locs ls (fun j q hj => ?_) ⟨fun i j p q hi hj e => ?_, fun j q hj => ?_⟩ hS hl
  · obtain ⟨i, hi⟩ := List.getElem?_of_mem (h.mem_iff.mpr (List.mem_of_getElem? hj))
    exact hP i q hi
  · have hi2 : (ws'.map Prod.fst)[i]? = some p.1 := by rw [List.getElem?_map, hi]; rfl
    have hj2 : (ws'.map Prod.fst)[j]? = some q.1 := by rw [List.getElem?_map, hj]; rfl
    exact (List.getElem?_inj (List.getElem?_eq_some_iff.mp hi2).1 nd').mp (by rw [hi2, hj2, e])
  · obtain ⟨i, hi⟩ := List.getElem?_of_mem (h.mem_iff.mpr (List.mem_of_getElem? hj))
    exact hD.2 i q hi
def rgB (c : Nat → va_W) : Nat → va_W
  | 0 => []
  | n + 1 => rgB c n ++ c n
def rgR (c : Nat → va_W) (ρ : Nat) : Nat → va_W
  | 0 => []
  | n + 1 => if n = ρ then rgR c ρ n else rgR c ρ n ++ c n
theorem rgR_le (c : Nat → va_W) (ρ : Nat) : ∀ n, n ≤ ρ → rgR c ρ n = rgB c n := by
  intro n
  induction n with
  | zero => intro _; rfl
  | succ n ih =>
    intro h
    show (if n = ρ then rgR c ρ n else rgR c ρ n ++ c n) = rgB c n ++ c n
    rw [if_neg (by omega), ih (by omega)]
theorem rgB_perm (c : Nat → va_W) (ρ : Nat) : ∀ n, ρ < n → (rgB c n).Perm (c ρ ++ rgR c ρ n) := by
  intro n
  induction n with
  | zero => intro h; omega
  | succ n ih =>
    intro h
    show (rgB c n ++ c n).Perm (c ρ ++ (if n = ρ then rgR c ρ n else rgR c ρ n ++ c n))
    by_cases e : n = ρ
    · rw [if_pos e, e, rgR_le c ρ ρ (Nat.le_refl _)]
      exact List.perm_append_comm
    · rw [if_neg e, ← List.append_assoc]
      exact (ih (by omega)).append_right _
theorem rgR_congr {c c' : Nat → va_W} {ρ : Nat} (h : ∀ i, i ≠ ρ → c i = c' i) : ∀ n, rgR c ρ n = rgR c' ρ n := by
  intro n
  induction n with
  | zero => rfl
  | succ n ih =>
    show (if n = ρ then rgR c ρ n else rgR c ρ n ++ c n) = if n = ρ then rgR c' ρ n else rgR c' ρ n ++ c' n
    by_cases e : n = ρ
    · rw [if_pos e, if_pos e, ih]
    · rw [if_neg e, if_neg e, ih, h n e]
/-- a register's cells brought to the front of the tail, and put back changed -/
theorem TGo.out {X : TCx} {n k pc : Nat} {lv : List (Nat × Value)} {st : List Value} {w : va_W} (c : Nat → va_W) (ρ : Nat) (hρ : ρ < 8) (h : TGo X ((w ++ c ρ) ++ rgR c ρ 8) n k pc lv st) : TGo X (w ++ rgB c 8) n k pc lv st := by
  refine TGo.perm ?_ h
  rw [List.append_assoc]
  exact (rgB_perm c ρ 8 hρ).append_left w
theorem TGo.back {X : TCx} {n k pc : Nat} {lv : List (Nat × Value)} {st : List Value} {w : va_W} (c c' : Nat → va_W) (ρ : Nat) (hρ : ρ < 8) (hc : ∀ i, i ≠ ρ → c i = c' i) (h : TGo X (w ++ rgB c' 8) n k pc lv st) : TGo X ((w ++ c' ρ) ++ rgR c ρ 8) n k pc lv st := by
  rw [rgR_congr hc 8]
  refine TGo.perm ?_ h
  rw [List.append_assoc]
  exact ((rgB_perm c' ρ 8 hρ).symm).append_left w
theorem go_calliST {X : TCx} {cc : ByteArray} {own : String} {rm : Room} {nL : Nat} {ws : va_W} (T : va_W) {n k pc : Nat} {lv : List (Nat × Value)} {st : List Value} {tys : List (ClassId × FieldType)} {cl : List vw_C} {E : TEn} {S : Type} {y : MethodName} {fr lo : Nat} {w0 wr : va_W} {tys0 : List (ClassId × FieldType)} {bytes : ByteArray} {maxL index : Nat} {ret : Option FieldType} {rest : List Value} {av : List Value} {post : Int → S → Prop} {w1 : S → va_W} (O : TOk X cc own rm nL cl E) (hK : TKn X tys) (hE : EnvOk E) (hM : Cti cl E y (Cond.code y bytes maxL ret :: Gw) (rmn fr lo) av w0 tys0 post w1) (hml : Cond.methodLink own index y ∈ Gw) (hst0 : Cond.static y ∈ Gw) (hin0 : Cond.initialized y.cls ∈ Gw) (hcd : Cond.code y bytes maxL ret ∈ Gw) (na : Nat) (hdd : y.cls ≠ "java/lang/invoke/MethodHandle" ∧ y.cls ≠ "java/lang/invoke/VarHandle" ∧ (parseMethodDescriptor y.desc).map (fun d => d.parameters.length) = some na) (hR : fr + 1 ≤ rm.frames ∧ 8 + (maxL + 11) + lo ≤ rm.locals)
    (isK : List Nat) (hKs : isK.filterMap (fun i => tys[i]?) = tys0) (isC : List Nat) (hC : isC.map (fun i => ws[i]?) = w0.map some) (hn1 : va_nd isC = true) (isR : List Nat) (hRr : isR.map (fun i => ws[i]?) = wr.map some) (hn2 : va_nd isR = true) (hdis : ∀ i ∈ isR, i ∉ isC) (hst : st = (av.reverse ++ rest)) (hn : av.length = na) (hcat : (rest.map fun v => v.category).sum ≤ 8) (hcells : n ≤ rm.cells ∧ k ≤ rm.slots) (hd : decode cc pc = .ok (.invokestatic index, 3)) (pc' : Nat) (hp : pc + 3 = pc') (h : ∀ (z : Int) (u : S), post z u → TGo X ((wr ++ w1 u) ++ T) n k pc' lv (.int (iI z) :: rest)) : TGo X (ws ++ T) n k pc lv st := by
  refine go_calliS (wr := wr ++ T) O hK hE hM hml hst0 hin0 hcd na hdd hR isK hKs isC (ix_l T hC) hn1 (isR ++ (List.range T.length).map (fun j => ws.length + j)) (ix_lT T hRr) (vnd_lT T hRr hn2) (fun i hi => ?_) hst hn hcat hcells hd pc' hp (fun z u hu => ?_)
  · rcases List.mem_append.mp hi with e | e
    · exact hdis i e
    · obtain ⟨j, -, rfl⟩ := List.mem_map.mp e
      intro e2
      have := ix_lt hC _ e2
      omega
  · refine TGo.perm ?_ (h z u hu)
    rw [List.append_assoc, List.append_assoc]
    exact List.perm_append_comm.append_left wr
theorem go_calliVT {X : TCx} {cc : ByteArray} {own : String} {rm : Room} {nL : Nat} {ws : va_W} (T : va_W) {n k pc : Nat} {lv : List (Nat × Value)} {st : List Value} {tys : List (ClassId × FieldType)} {cl : List vw_C} {E : TEn} {S : Type} {y : MethodName} {fr lo : Nat} {w0 wr : va_W} {tys0 : List (ClassId × FieldType)} {bytes : ByteArray} {maxL index : Nat} {ret : Option FieldType} {rest : List Value} {As : List Value} {b ci : Nat} {rc : vw_C} {fs : List Value} {post : Int → S → Prop} {w1 : S → va_W} (O : TOk X cc own rm nL cl E) (hK : TKn X tys) (hE : EnvOk E) (hM : Cti cl E y (Cond.code y bytes maxL ret :: Gw) (rmn fr lo) (.ref b :: As) w0 tys0 post w1) (hml : Cond.methodLink own index y ∈ Gw) (him : Cond.instanceMethod y ∈ Gw) (hse : Cond.selects rc.1 y y ∈ Gw) (hin0 : Cond.initialized rc.1 ∈ Gw) (hcd : Cond.code y bytes maxL ret ∈ Gw) (na : Nat) (hdd : y.cls = rc.1 ∧ y.cls ≠ "java/lang/invoke/MethodHandle" ∧ y.cls ≠ "java/lang/invoke/VarHandle" ∧ (parseMethodDescriptor y.desc).map (fun d => d.parameters.length) = some na) (hR : fr + 1 ≤ rm.frames ∧ 8 + (maxL + 11) + lo ≤ rm.locals) (qb : Nat) (hqb : ws[qb]? = some (b, .inr (ci, fs))) (hci : cl[ci]? = some rc)
    (isK : List Nat) (hKs : isK.filterMap (fun i => tys[i]?) = tys0) (isC : List Nat) (hC : isC.map (fun i => ws[i]?) = w0.map some) (hn1 : va_nd isC = true) (isR : List Nat) (hRr : isR.map (fun i => ws[i]?) = wr.map some) (hn2 : va_nd isR = true) (hdis : ∀ i ∈ isR, i ∉ isC) (hst : st = (As.reverse ++ .ref b :: rest)) (hn : As.length = na) (hcat : (rest.map fun v => v.category).sum ≤ 8) (hcells : n ≤ rm.cells ∧ k ≤ rm.slots) (hd : decode cc pc = .ok (.invokevirtual index, 3)) (pc' : Nat) (hp : pc + 3 = pc') (h : ∀ (z : Int) (u : S), post z u → TGo X ((wr ++ w1 u) ++ T) n k pc' lv (.int (iI z) :: rest)) : TGo X (ws ++ T) n k pc lv st := by
  refine go_calliV (wr := wr ++ T) O hK hE hM hml him hse hin0 hcd na hdd hR qb (by rw [List.getElem?_append_left (List.getElem?_eq_some_iff.mp hqb).1]; exact hqb) hci isK hKs isC (ix_l T hC) hn1 (isR ++ (List.range T.length).map (fun j => ws.length + j)) (ix_lT T hRr) (vnd_lT T hRr hn2) (fun i hi => ?_) hst hn hcat hcells hd pc' hp (fun z u hu => ?_)
  · rcases List.mem_append.mp hi with e | e
    · exact hdis i e
    · obtain ⟨j, -, rfl⟩ := List.mem_map.mp e
      intro e2
      have := ix_lt hC _ e2
      omega
  · refine TGo.perm ?_ (h z u hu)
    rw [List.append_assoc, List.append_assoc]
    exact List.perm_append_comm.append_left wr
theorem go_calliSNT {X : TCx} {cc : ByteArray} {own : String} {rm : Room} {nL : Nat} {ws : va_W} (T : va_W) {n k pc : Nat} {lv : List (Nat × Value)} {st : List Value} {tys : List (ClassId × FieldType)} {cl : List vw_C} {E : TEn} {S : Type} {y : MethodName} {fr lo : Nat} {w0 wr : va_W} {tys0 : List (ClassId × FieldType)} {bytes : ByteArray} {maxL index : Nat} {ret : Option FieldType} {rest : List Value} {av : List Value} {host : String} {post : Int → S → Prop} {w1 : S → va_W} (O : TOk X cc own rm nL cl E) (hK : TKn X tys) (hE : EnvOk E) (hM : Cti cl E y (Cond.code y bytes maxL ret :: Gw) (rmn fr lo) av w0 tys0 post w1) (hli : va_Nw (.methodLinkNest own index y host) (cx_s X)) (hst0 : Cond.static y ∈ Gw) (hin0 : Cond.initialized y.cls ∈ Gw) (hcd : Cond.code y bytes maxL ret ∈ Gw) (na : Nat) (hdd : y.cls ≠ "java/lang/invoke/MethodHandle" ∧ y.cls ≠ "java/lang/invoke/VarHandle" ∧ (parseMethodDescriptor y.desc).map (fun d => d.parameters.length) = some na) (hR : fr + 1 ≤ rm.frames ∧ 8 + (maxL + 11) + lo ≤ rm.locals)
    (isK : List Nat) (hKs : isK.filterMap (fun i => tys[i]?) = tys0) (isC : List Nat) (hC : isC.map (fun i => ws[i]?) = w0.map some) (hn1 : va_nd isC = true) (isR : List Nat) (hRr : isR.map (fun i => ws[i]?) = wr.map some) (hn2 : va_nd isR = true) (hdis : ∀ i ∈ isR, i ∉ isC) (hst : st = (av.reverse ++ rest)) (hn : av.length = na) (hcat : (rest.map fun v => v.category).sum ≤ 8) (hcells : n ≤ rm.cells ∧ k ≤ rm.slots) (hd : decode cc pc = .ok (.invokestatic index, 3)) (pc' : Nat) (hp : pc + 3 = pc') (h : ∀ (z : Int) (u : S), post z u → TGo X ((wr ++ w1 u) ++ T) n k pc' lv (.int (iI z) :: rest)) : TGo X (ws ++ T) n k pc lv st := by
  refine go_calliSN (wr := wr ++ T) O hK hE hM hli hst0 hin0 hcd na hdd hR isK hKs isC (ix_l T hC) hn1 (isR ++ (List.range T.length).map (fun j => ws.length + j)) (ix_lT T hRr) (vnd_lT T hRr hn2) (fun i hi => ?_) hst hn hcat hcells hd pc' hp (fun z u hu => ?_)
  · rcases List.mem_append.mp hi with e | e
    · exact hdis i e
    · obtain ⟨j, -, rfl⟩ := List.mem_map.mp e
      intro e2
      have := ix_lt hC _ e2
      omega
  · refine TGo.perm ?_ (h z u hu)
    rw [List.append_assoc, List.append_assoc]
    exact List.perm_append_comm.append_left wr
theorem go_calllST {X : TCx} {cc : ByteArray} {own : String} {rm : Room} {nL : Nat} {ws : va_W} (T : va_W) {n k pc : Nat} {lv : List (Nat × Value)} {st : List Value} {tys : List (ClassId × FieldType)} {cl : List vw_C} {E : TEn} {S : Type} {y : MethodName} {fr lo : Nat} {w0 wr : va_W} {tys0 : List (ClassId × FieldType)} {bytes : ByteArray} {maxL index : Nat} {ret : Option FieldType} {rest : List Value} {av : List Value} {post : Int → S → Prop} {w1 : S → va_W} (O : TOk X cc own rm nL cl E) (hK : TKn X tys) (hE : EnvOk E) (hM : Ctl cl E y (Cond.code y bytes maxL ret :: Gw) (rmn fr lo) av w0 tys0 post w1) (hml : Cond.methodLink own index y ∈ Gw) (hst0 : Cond.static y ∈ Gw) (hin0 : Cond.initialized y.cls ∈ Gw) (hcd : Cond.code y bytes maxL ret ∈ Gw) (na : Nat) (hdd : y.cls ≠ "java/lang/invoke/MethodHandle" ∧ y.cls ≠ "java/lang/invoke/VarHandle" ∧ (parseMethodDescriptor y.desc).map (fun d => d.parameters.length) = some na) (hR : fr + 1 ≤ rm.frames ∧ 8 + (maxL + 11) + lo ≤ rm.locals)
    (isK : List Nat) (hKs : isK.filterMap (fun i => tys[i]?) = tys0) (isC : List Nat) (hC : isC.map (fun i => ws[i]?) = w0.map some) (hn1 : va_nd isC = true) (isR : List Nat) (hRr : isR.map (fun i => ws[i]?) = wr.map some) (hn2 : va_nd isR = true) (hdis : ∀ i ∈ isR, i ∉ isC) (hst : st = (av.reverse ++ rest)) (hn : av.length = na) (hcat : (rest.map fun v => v.category).sum ≤ 8) (hcells : n ≤ rm.cells ∧ k ≤ rm.slots) (hd : decode cc pc = .ok (.invokestatic index, 3)) (pc' : Nat) (hp : pc + 3 = pc') (h : ∀ (z : Int) (u : S), post z u → TGo X ((wr ++ w1 u) ++ T) n k pc' lv (.long (lI z) :: rest)) : TGo X (ws ++ T) n k pc lv st := by
  refine go_calllS (wr := wr ++ T) O hK hE hM hml hst0 hin0 hcd na hdd hR isK hKs isC (ix_l T hC) hn1 (isR ++ (List.range T.length).map (fun j => ws.length + j)) (ix_lT T hRr) (vnd_lT T hRr hn2) (fun i hi => ?_) hst hn hcat hcells hd pc' hp (fun z u hu => ?_)
  · rcases List.mem_append.mp hi with e | e
    · exact hdis i e
    · obtain ⟨j, -, rfl⟩ := List.mem_map.mp e
      intro e2
      have := ix_lt hC _ e2
      omega
  · refine TGo.perm ?_ (h z u hu)
    rw [List.append_assoc, List.append_assoc]
    exact List.perm_append_comm.append_left wr
theorem go_calllVT {X : TCx} {cc : ByteArray} {own : String} {rm : Room} {nL : Nat} {ws : va_W} (T : va_W) {n k pc : Nat} {lv : List (Nat × Value)} {st : List Value} {tys : List (ClassId × FieldType)} {cl : List vw_C} {E : TEn} {S : Type} {y : MethodName} {fr lo : Nat} {w0 wr : va_W} {tys0 : List (ClassId × FieldType)} {bytes : ByteArray} {maxL index : Nat} {ret : Option FieldType} {rest : List Value} {As : List Value} {b ci : Nat} {rc : vw_C} {fs : List Value} {post : Int → S → Prop} {w1 : S → va_W} (O : TOk X cc own rm nL cl E) (hK : TKn X tys) (hE : EnvOk E) (hM : Ctl cl E y (Cond.code y bytes maxL ret :: Gw) (rmn fr lo) (.ref b :: As) w0 tys0 post w1) (hml : Cond.methodLink own index y ∈ Gw) (him : Cond.instanceMethod y ∈ Gw) (hse : Cond.selects rc.1 y y ∈ Gw) (hin0 : Cond.initialized rc.1 ∈ Gw) (hcd : Cond.code y bytes maxL ret ∈ Gw) (na : Nat) (hdd : y.cls = rc.1 ∧ y.cls ≠ "java/lang/invoke/MethodHandle" ∧ y.cls ≠ "java/lang/invoke/VarHandle" ∧ (parseMethodDescriptor y.desc).map (fun d => d.parameters.length) = some na) (hR : fr + 1 ≤ rm.frames ∧ 8 + (maxL + 11) + lo ≤ rm.locals) (qb : Nat) (hqb : ws[qb]? = some (b, .inr (ci, fs))) (hci : cl[ci]? = some rc)
    (isK : List Nat) (hKs : isK.filterMap (fun i => tys[i]?) = tys0) (isC : List Nat) (hC : isC.map (fun i => ws[i]?) = w0.map some) (hn1 : va_nd isC = true) (isR : List Nat) (hRr : isR.map (fun i => ws[i]?) = wr.map some) (hn2 : va_nd isR = true) (hdis : ∀ i ∈ isR, i ∉ isC) (hst : st = (As.reverse ++ .ref b :: rest)) (hn : As.length = na) (hcat : (rest.map fun v => v.category).sum ≤ 8) (hcells : n ≤ rm.cells ∧ k ≤ rm.slots) (hd : decode cc pc = .ok (.invokevirtual index, 3)) (pc' : Nat) (hp : pc + 3 = pc') (h : ∀ (z : Int) (u : S), post z u → TGo X ((wr ++ w1 u) ++ T) n k pc' lv (.long (lI z) :: rest)) : TGo X (ws ++ T) n k pc lv st := by
  refine go_calllV (wr := wr ++ T) O hK hE hM hml him hse hin0 hcd na hdd hR qb (by rw [List.getElem?_append_left (List.getElem?_eq_some_iff.mp hqb).1]; exact hqb) hci isK hKs isC (ix_l T hC) hn1 (isR ++ (List.range T.length).map (fun j => ws.length + j)) (ix_lT T hRr) (vnd_lT T hRr hn2) (fun i hi => ?_) hst hn hcat hcells hd pc' hp (fun z u hu => ?_)
  · rcases List.mem_append.mp hi with e | e
    · exact hdis i e
    · obtain ⟨j, -, rfl⟩ := List.mem_map.mp e
      intro e2
      have := ix_lt hC _ e2
      omega
  · refine TGo.perm ?_ (h z u hu)
    rw [List.append_assoc, List.append_assoc]
    exact List.perm_append_comm.append_left wr
theorem go_calllSNT {X : TCx} {cc : ByteArray} {own : String} {rm : Room} {nL : Nat} {ws : va_W} (T : va_W) {n k pc : Nat} {lv : List (Nat × Value)} {st : List Value} {tys : List (ClassId × FieldType)} {cl : List vw_C} {E : TEn} {S : Type} {y : MethodName} {fr lo : Nat} {w0 wr : va_W} {tys0 : List (ClassId × FieldType)} {bytes : ByteArray} {maxL index : Nat} {ret : Option FieldType} {rest : List Value} {av : List Value} {host : String} {post : Int → S → Prop} {w1 : S → va_W} (O : TOk X cc own rm nL cl E) (hK : TKn X tys) (hE : EnvOk E) (hM : Ctl cl E y (Cond.code y bytes maxL ret :: Gw) (rmn fr lo) av w0 tys0 post w1) (hli : va_Nw (.methodLinkNest own index y host) (cx_s X)) (hst0 : Cond.static y ∈ Gw) (hin0 : Cond.initialized y.cls ∈ Gw) (hcd : Cond.code y bytes maxL ret ∈ Gw) (na : Nat) (hdd : y.cls ≠ "java/lang/invoke/MethodHandle" ∧ y.cls ≠ "java/lang/invoke/VarHandle" ∧ (parseMethodDescriptor y.desc).map (fun d => d.parameters.length) = some na) (hR : fr + 1 ≤ rm.frames ∧ 8 + (maxL + 11) + lo ≤ rm.locals)
    (isK : List Nat) (hKs : isK.filterMap (fun i => tys[i]?) = tys0) (isC : List Nat) (hC : isC.map (fun i => ws[i]?) = w0.map some) (hn1 : va_nd isC = true) (isR : List Nat) (hRr : isR.map (fun i => ws[i]?) = wr.map some) (hn2 : va_nd isR = true) (hdis : ∀ i ∈ isR, i ∉ isC) (hst : st = (av.reverse ++ rest)) (hn : av.length = na) (hcat : (rest.map fun v => v.category).sum ≤ 8) (hcells : n ≤ rm.cells ∧ k ≤ rm.slots) (hd : decode cc pc = .ok (.invokestatic index, 3)) (pc' : Nat) (hp : pc + 3 = pc') (h : ∀ (z : Int) (u : S), post z u → TGo X ((wr ++ w1 u) ++ T) n k pc' lv (.long (lI z) :: rest)) : TGo X (ws ++ T) n k pc lv st := by
  refine go_calllSN (wr := wr ++ T) O hK hE hM hli hst0 hin0 hcd na hdd hR isK hKs isC (ix_l T hC) hn1 (isR ++ (List.range T.length).map (fun j => ws.length + j)) (ix_lT T hRr) (vnd_lT T hRr hn2) (fun i hi => ?_) hst hn hcat hcells hd pc' hp (fun z u hu => ?_)
  · rcases List.mem_append.mp hi with e | e
    · exact hdis i e
    · obtain ⟨j, -, rfl⟩ := List.mem_map.mp e
      intro e2
      have := ix_lt hC _ e2
      omega
  · refine TGo.perm ?_ (h z u hu)
    rw [List.append_assoc, List.append_assoc]
    exact List.perm_append_comm.append_left wr
theorem go_callvST {X : TCx} {cc : ByteArray} {own : String} {rm : Room} {nL : Nat} {ws : va_W} (T : va_W) {n k pc : Nat} {lv : List (Nat × Value)} {st : List Value} {tys : List (ClassId × FieldType)} {cl : List vw_C} {E : TEn} {S : Type} {y : MethodName} {fr lo : Nat} {w0 wr : va_W} {tys0 : List (ClassId × FieldType)} {bytes : ByteArray} {maxL index : Nat} {ret : Option FieldType} {rest : List Value} {av : List Value} {post : S → Prop} {w1 : S → va_W} (O : TOk X cc own rm nL cl E) (hK : TKn X tys) (hE : EnvOk E) (hM : Ctv cl E y (Cond.code y bytes maxL ret :: Gw) (rmn fr lo) av w0 tys0 post w1) (hml : Cond.methodLink own index y ∈ Gw) (hst0 : Cond.static y ∈ Gw) (hin0 : Cond.initialized y.cls ∈ Gw) (hcd : Cond.code y bytes maxL ret ∈ Gw) (na : Nat) (hdd : y.cls ≠ "java/lang/invoke/MethodHandle" ∧ y.cls ≠ "java/lang/invoke/VarHandle" ∧ (parseMethodDescriptor y.desc).map (fun d => d.parameters.length) = some na) (hR : fr + 1 ≤ rm.frames ∧ 8 + (maxL + 11) + lo ≤ rm.locals)
    (isK : List Nat) (hKs : isK.filterMap (fun i => tys[i]?) = tys0) (isC : List Nat) (hC : isC.map (fun i => ws[i]?) = w0.map some) (hn1 : va_nd isC = true) (isR : List Nat) (hRr : isR.map (fun i => ws[i]?) = wr.map some) (hn2 : va_nd isR = true) (hdis : ∀ i ∈ isR, i ∉ isC) (hst : st = (av.reverse ++ rest)) (hn : av.length = na) (hcat : (rest.map fun v => v.category).sum ≤ 8) (hcells : n ≤ rm.cells ∧ k ≤ rm.slots) (hd : decode cc pc = .ok (.invokestatic index, 3)) (pc' : Nat) (hp : pc + 3 = pc') (h : ∀ (u : S), post u → TGo X ((wr ++ w1 u) ++ T) n k pc' lv rest) : TGo X (ws ++ T) n k pc lv st := by
  refine go_callvS (wr := wr ++ T) O hK hE hM hml hst0 hin0 hcd na hdd hR isK hKs isC (ix_l T hC) hn1 (isR ++ (List.range T.length).map (fun j => ws.length + j)) (ix_lT T hRr) (vnd_lT T hRr hn2) (fun i hi => ?_) hst hn hcat hcells hd pc' hp (fun u hu => ?_)
  · rcases List.mem_append.mp hi with e | e
    · exact hdis i e
    · obtain ⟨j, -, rfl⟩ := List.mem_map.mp e
      intro e2
      have := ix_lt hC _ e2
      omega
  · refine TGo.perm ?_ (h u hu)
    rw [List.append_assoc, List.append_assoc]
    exact List.perm_append_comm.append_left wr
theorem go_callvVT {X : TCx} {cc : ByteArray} {own : String} {rm : Room} {nL : Nat} {ws : va_W} (T : va_W) {n k pc : Nat} {lv : List (Nat × Value)} {st : List Value} {tys : List (ClassId × FieldType)} {cl : List vw_C} {E : TEn} {S : Type} {y : MethodName} {fr lo : Nat} {w0 wr : va_W} {tys0 : List (ClassId × FieldType)} {bytes : ByteArray} {maxL index : Nat} {ret : Option FieldType} {rest : List Value} {As : List Value} {b ci : Nat} {rc : vw_C} {fs : List Value} {post : S → Prop} {w1 : S → va_W} (O : TOk X cc own rm nL cl E) (hK : TKn X tys) (hE : EnvOk E) (hM : Ctv cl E y (Cond.code y bytes maxL ret :: Gw) (rmn fr lo) (.ref b :: As) w0 tys0 post w1) (hml : Cond.methodLink own index y ∈ Gw) (him : Cond.instanceMethod y ∈ Gw) (hse : Cond.selects rc.1 y y ∈ Gw) (hin0 : Cond.initialized rc.1 ∈ Gw) (hcd : Cond.code y bytes maxL ret ∈ Gw) (na : Nat) (hdd : y.cls = rc.1 ∧ y.cls ≠ "java/lang/invoke/MethodHandle" ∧ y.cls ≠ "java/lang/invoke/VarHandle" ∧ (parseMethodDescriptor y.desc).map (fun d => d.parameters.length) = some na) (hR : fr + 1 ≤ rm.frames ∧ 8 + (maxL + 11) + lo ≤ rm.locals) (qb : Nat) (hqb : ws[qb]? = some (b, .inr (ci, fs))) (hci : cl[ci]? = some rc)
    (isK : List Nat) (hKs : isK.filterMap (fun i => tys[i]?) = tys0) (isC : List Nat) (hC : isC.map (fun i => ws[i]?) = w0.map some) (hn1 : va_nd isC = true) (isR : List Nat) (hRr : isR.map (fun i => ws[i]?) = wr.map some) (hn2 : va_nd isR = true) (hdis : ∀ i ∈ isR, i ∉ isC) (hst : st = (As.reverse ++ .ref b :: rest)) (hn : As.length = na) (hcat : (rest.map fun v => v.category).sum ≤ 8) (hcells : n ≤ rm.cells ∧ k ≤ rm.slots) (hd : decode cc pc = .ok (.invokevirtual index, 3)) (pc' : Nat) (hp : pc + 3 = pc') (h : ∀ (u : S), post u → TGo X ((wr ++ w1 u) ++ T) n k pc' lv rest) : TGo X (ws ++ T) n k pc lv st := by
  refine go_callvV (wr := wr ++ T) O hK hE hM hml him hse hin0 hcd na hdd hR qb (by rw [List.getElem?_append_left (List.getElem?_eq_some_iff.mp hqb).1]; exact hqb) hci isK hKs isC (ix_l T hC) hn1 (isR ++ (List.range T.length).map (fun j => ws.length + j)) (ix_lT T hRr) (vnd_lT T hRr hn2) (fun i hi => ?_) hst hn hcat hcells hd pc' hp (fun u hu => ?_)
  · rcases List.mem_append.mp hi with e | e
    · exact hdis i e
    · obtain ⟨j, -, rfl⟩ := List.mem_map.mp e
      intro e2
      have := ix_lt hC _ e2
      omega
  · refine TGo.perm ?_ (h u hu)
    rw [List.append_assoc, List.append_assoc]
    exact List.perm_append_comm.append_left wr
theorem go_callvSNT {X : TCx} {cc : ByteArray} {own : String} {rm : Room} {nL : Nat} {ws : va_W} (T : va_W) {n k pc : Nat} {lv : List (Nat × Value)} {st : List Value} {tys : List (ClassId × FieldType)} {cl : List vw_C} {E : TEn} {S : Type} {y : MethodName} {fr lo : Nat} {w0 wr : va_W} {tys0 : List (ClassId × FieldType)} {bytes : ByteArray} {maxL index : Nat} {ret : Option FieldType} {rest : List Value} {av : List Value} {host : String} {post : S → Prop} {w1 : S → va_W} (O : TOk X cc own rm nL cl E) (hK : TKn X tys) (hE : EnvOk E) (hM : Ctv cl E y (Cond.code y bytes maxL ret :: Gw) (rmn fr lo) av w0 tys0 post w1) (hli : va_Nw (.methodLinkNest own index y host) (cx_s X)) (hst0 : Cond.static y ∈ Gw) (hin0 : Cond.initialized y.cls ∈ Gw) (hcd : Cond.code y bytes maxL ret ∈ Gw) (na : Nat) (hdd : y.cls ≠ "java/lang/invoke/MethodHandle" ∧ y.cls ≠ "java/lang/invoke/VarHandle" ∧ (parseMethodDescriptor y.desc).map (fun d => d.parameters.length) = some na) (hR : fr + 1 ≤ rm.frames ∧ 8 + (maxL + 11) + lo ≤ rm.locals)
    (isK : List Nat) (hKs : isK.filterMap (fun i => tys[i]?) = tys0) (isC : List Nat) (hC : isC.map (fun i => ws[i]?) = w0.map some) (hn1 : va_nd isC = true) (isR : List Nat) (hRr : isR.map (fun i => ws[i]?) = wr.map some) (hn2 : va_nd isR = true) (hdis : ∀ i ∈ isR, i ∉ isC) (hst : st = (av.reverse ++ rest)) (hn : av.length = na) (hcat : (rest.map fun v => v.category).sum ≤ 8) (hcells : n ≤ rm.cells ∧ k ≤ rm.slots) (hd : decode cc pc = .ok (.invokestatic index, 3)) (pc' : Nat) (hp : pc + 3 = pc') (h : ∀ (u : S), post u → TGo X ((wr ++ w1 u) ++ T) n k pc' lv rest) : TGo X (ws ++ T) n k pc lv st := by
  refine go_callvSN (wr := wr ++ T) O hK hE hM hli hst0 hin0 hcd na hdd hR isK hKs isC (ix_l T hC) hn1 (isR ++ (List.range T.length).map (fun j => ws.length + j)) (ix_lT T hRr) (vnd_lT T hRr hn2) (fun i hi => ?_) hst hn hcat hcells hd pc' hp (fun u hu => ?_)
  · rcases List.mem_append.mp hi with e | e
    · exact hdis i e
    · obtain ⟨j, -, rfl⟩ := List.mem_map.mp e
      intro e2
      have := ix_lt hC _ e2
      omega
  · refine TGo.perm ?_ (h u hu)
    rw [List.append_assoc, List.append_assoc]
    exact List.perm_append_comm.append_left wr

