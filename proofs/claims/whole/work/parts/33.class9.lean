theorem go_calliSU {X : TCx} {cc : ByteArray} {own : String} {rm : Room} {nL : Nat} {ws : va_W} (T : va_W) {n k pc : Nat} {lv : List (Nat × Value)} {st : List Value} {tys : List (ClassId × FieldType)} {cl : List vw_C} {E : TEn} {S : Type} {y : MethodName} {fr lo : Nat} {w0 wr : va_W} {tys0 : List (ClassId × FieldType)} {bytes : ByteArray} {maxL index : Nat} {ret : Option FieldType} {rest : List Value} {av : List Value} {post : Int → S → Prop} {w1 : S → va_W} (O : TOk X cc own rm nL cl E) (hK : TKn X tys) (hE : EnvOk E) (hM : Cti cl E y (Cond.code y bytes maxL ret :: Gw) (rmn fr lo) av (w0 ++ T) tys0 post w1) (hml : Cond.methodLink own index y ∈ Gw) (hst0 : Cond.static y ∈ Gw) (hin0 : Cond.initialized y.cls ∈ Gw) (hcd : Cond.code y bytes maxL ret ∈ Gw) (na : Nat) (hdd : y.cls ≠ "java/lang/invoke/MethodHandle" ∧ y.cls ≠ "java/lang/invoke/VarHandle" ∧ (parseMethodDescriptor y.desc).map (fun d => d.parameters.length) = some na) (hR : fr + 1 ≤ rm.frames ∧ 8 + (maxL + 11) + lo ≤ rm.locals)
    (isK : List Nat) (hKs : isK.filterMap (fun i => tys[i]?) = tys0) (isC : List Nat) (hC : isC.map (fun i => ws[i]?) = w0.map some) (hn1 : va_nd isC = true) (isR : List Nat) (hRr : isR.map (fun i => ws[i]?) = wr.map some) (hn2 : va_nd isR = true) (hdis : ∀ i ∈ isR, i ∉ isC) (hst : st = (av.reverse ++ rest)) (hn : av.length = na) (hcat : (rest.map fun v => v.category).sum ≤ 8) (hcells : n ≤ rm.cells ∧ k ≤ rm.slots) (hd : decode cc pc = .ok (.invokestatic index, 3)) (pc' : Nat) (hp : pc + 3 = pc') (h : ∀ (z : Int) (u : S), post z u → TGo X (wr ++ w1 u) n k pc' lv (.int (iI z) :: rest)) : TGo X (ws ++ T) n k pc lv st := by
  refine go_calliS (wr := wr) O hK hE hM hml hst0 hin0 hcd na hdd hR isK hKs (isC ++ (List.range T.length).map (fun j => ws.length + j)) (ix_lT T hC) (vnd_lT T hC hn1) isR (ix_l T hRr) hn2 (fun i hi => ?_) hst hn hcat hcells hd pc' hp h
  intro e
  rcases List.mem_append.mp e with e | e
  · exact hdis i hi e
  · obtain ⟨j, -, rfl⟩ := List.mem_map.mp e
    have := ix_lt hRr _ hi
    omega
theorem go_calliVU {X : TCx} {cc : ByteArray} {own : String} {rm : Room} {nL : Nat} {ws : va_W} (T : va_W) {n k pc : Nat} {lv : List (Nat × Value)} {st : List Value} {tys : List (ClassId × FieldType)} {cl : List vw_C} {E : TEn} {S : Type} {y : MethodName} {fr lo : Nat} {w0 wr : va_W} {tys0 : List (ClassId × FieldType)} {bytes : ByteArray} {maxL index : Nat} {ret : Option FieldType} {rest : List Value} {As : List Value} {b ci : Nat} {rc : vw_C} {fs : List Value} {post : Int → S → Prop} {w1 : S → va_W} (O : TOk X cc own rm nL cl E) (hK : TKn X tys) (hE : EnvOk E) (hM : Cti cl E y (Cond.code y bytes maxL ret :: Gw) (rmn fr lo) (.ref b :: As) (w0 ++ T) tys0 post w1) (hml : Cond.methodLink own index y ∈ Gw) (him : Cond.instanceMethod y ∈ Gw) (hse : Cond.selects rc.1 y y ∈ Gw) (hin0 : Cond.initialized rc.1 ∈ Gw) (hcd : Cond.code y bytes maxL ret ∈ Gw) (na : Nat) (hdd : y.cls = rc.1 ∧ y.cls ≠ "java/lang/invoke/MethodHandle" ∧ y.cls ≠ "java/lang/invoke/VarHandle" ∧ (parseMethodDescriptor y.desc).map (fun d => d.parameters.length) = some na) (hR : fr + 1 ≤ rm.frames ∧ 8 + (maxL + 11) + lo ≤ rm.locals) (qb : Nat) (hqb : ws[qb]? = some (b, .inr (ci, fs))) (hci : cl[ci]? = some rc)
    (isK : List Nat) (hKs : isK.filterMap (fun i => tys[i]?) = tys0) (isC : List Nat) (hC : isC.map (fun i => ws[i]?) = w0.map some) (hn1 : va_nd isC = true) (isR : List Nat) (hRr : isR.map (fun i => ws[i]?) = wr.map some) (hn2 : va_nd isR = true) (hdis : ∀ i ∈ isR, i ∉ isC) (hst : st = (As.reverse ++ .ref b :: rest)) (hn : As.length = na) (hcat : (rest.map fun v => v.category).sum ≤ 8) (hcells : n ≤ rm.cells ∧ k ≤ rm.slots) (hd : decode cc pc = .ok (.invokevirtual index, 3)) (pc' : Nat) (hp : pc + 3 = pc') (h : ∀ (z : Int) (u : S), post z u → TGo X (wr ++ w1 u) n k pc' lv (.int (iI z) :: rest)) : TGo X (ws ++ T) n k pc lv st := by
  refine go_calliV (wr := wr) O hK hE hM hml him hse hin0 hcd na hdd hR qb (by rw [List.getElem?_append_left (List.getElem?_eq_some_iff.mp hqb).1]; exact hqb) hci isK hKs (isC ++ (List.range T.length).map (fun j => ws.length + j)) (ix_lT T hC) (vnd_lT T hC hn1) isR (ix_l T hRr) hn2 (fun i hi => ?_) hst hn hcat hcells hd pc' hp h
  intro e
  rcases List.mem_append.mp e with e | e
  · exact hdis i hi e
  · obtain ⟨j, -, rfl⟩ := List.mem_map.mp e
    have := ix_lt hRr _ hi
    omega
theorem go_calliSNU {X : TCx} {cc : ByteArray} {own : String} {rm : Room} {nL : Nat} {ws : va_W} (T : va_W) {n k pc : Nat} {lv : List (Nat × Value)} {st : List Value} {tys : List (ClassId × FieldType)} {cl : List vw_C} {E : TEn} {S : Type} {y : MethodName} {fr lo : Nat} {w0 wr : va_W} {tys0 : List (ClassId × FieldType)} {bytes : ByteArray} {maxL index : Nat} {ret : Option FieldType} {rest : List Value} {av : List Value} {host : String} {post : Int → S → Prop} {w1 : S → va_W} (O : TOk X cc own rm nL cl E) (hK : TKn X tys) (hE : EnvOk E) (hM : Cti cl E y (Cond.code y bytes maxL ret :: Gw) (rmn fr lo) av (w0 ++ T) tys0 post w1) (hli : va_Nw (.methodLinkNest own index y host) (cx_s X)) (hst0 : Cond.static y ∈ Gw) (hin0 : Cond.initialized y.cls ∈ Gw) (hcd : Cond.code y bytes maxL ret ∈ Gw) (na : Nat) (hdd : y.cls ≠ "java/lang/invoke/MethodHandle" ∧ y.cls ≠ "java/lang/invoke/VarHandle" ∧ (parseMethodDescriptor y.desc).map (fun d => d.parameters.length) = some na) (hR : fr + 1 ≤ rm.frames ∧ 8 + (maxL + 11) + lo ≤ rm.locals)
    (isK : List Nat) (hKs : isK.filterMap (fun i => tys[i]?) = tys0) (isC : List Nat) (hC : isC.map (fun i => ws[i]?) = w0.map some) (hn1 : va_nd isC = true) (isR : List Nat) (hRr : isR.map (fun i => ws[i]?) = wr.map some) (hn2 : va_nd isR = true) (hdis : ∀ i ∈ isR, i ∉ isC) (hst : st = (av.reverse ++ rest)) (hn : av.length = na) (hcat : (rest.map fun v => v.category).sum ≤ 8) (hcells : n ≤ rm.cells ∧ k ≤ rm.slots) (hd : decode cc pc = .ok (.invokestatic index, 3)) (pc' : Nat) (hp : pc + 3 = pc') (h : ∀ (z : Int) (u : S), post z u → TGo X (wr ++ w1 u) n k pc' lv (.int (iI z) :: rest)) : TGo X (ws ++ T) n k pc lv st := by
  refine go_calliSN (wr := wr) O hK hE hM hli hst0 hin0 hcd na hdd hR isK hKs (isC ++ (List.range T.length).map (fun j => ws.length + j)) (ix_lT T hC) (vnd_lT T hC hn1) isR (ix_l T hRr) hn2 (fun i hi => ?_) hst hn hcat hcells hd pc' hp h
  intro e
  rcases List.mem_append.mp e with e | e
  · exact hdis i hi e
  · obtain ⟨j, -, rfl⟩ := List.mem_map.mp e
    have := ix_lt hRr _ hi
    omega
theorem go_calllSU {X : TCx} {cc : ByteArray} {own : String} {rm : Room} {nL : Nat} {ws : va_W} (T : va_W) {n k pc : Nat} {lv : List (Nat × Value)} {st : List Value} {tys : List (ClassId × FieldType)} {cl : List vw_C} {E : TEn} {S : Type} {y : MethodName} {fr lo : Nat} {w0 wr : va_W} {tys0 : List (ClassId × FieldType)} {bytes : ByteArray} {maxL index : Nat} {ret : Option FieldType} {rest : List Value} {av : List Value} {post : Int → S → Prop} {w1 : S → va_W} (O : TOk X cc own rm nL cl E) (hK : TKn X tys) (hE : EnvOk E) (hM : Ctl cl E y (Cond.code y bytes maxL ret :: Gw) (rmn fr lo) av (w0 ++ T) tys0 post w1) (hml : Cond.methodLink own index y ∈ Gw) (hst0 : Cond.static y ∈ Gw) (hin0 : Cond.initialized y.cls ∈ Gw) (hcd : Cond.code y bytes maxL ret ∈ Gw) (na : Nat) (hdd : y.cls ≠ "java/lang/invoke/MethodHandle" ∧ y.cls ≠ "java/lang/invoke/VarHandle" ∧ (parseMethodDescriptor y.desc).map (fun d => d.parameters.length) = some na) (hR : fr + 1 ≤ rm.frames ∧ 8 + (maxL + 11) + lo ≤ rm.locals)
    (isK : List Nat) (hKs : isK.filterMap (fun i => tys[i]?) = tys0) (isC : List Nat) (hC : isC.map (fun i => ws[i]?) = w0.map some) (hn1 : va_nd isC = true) (isR : List Nat) (hRr : isR.map (fun i => ws[i]?) = wr.map some) (hn2 : va_nd isR = true) (hdis : ∀ i ∈ isR, i ∉ isC) (hst : st = (av.reverse ++ rest)) (hn : av.length = na) (hcat : (rest.map fun v => v.category).sum ≤ 8) (hcells : n ≤ rm.cells ∧ k ≤ rm.slots) (hd : decode cc pc = .ok (.invokestatic index, 3)) (pc' : Nat) (hp : pc + 3 = pc') (h : ∀ (z : Int) (u : S), post z u → TGo X (wr ++ w1 u) n k pc' lv (.long (lI z) :: rest)) : TGo X (ws ++ T) n k pc lv st := by
  refine go_calllS (wr := wr) O hK hE hM hml hst0 hin0 hcd na hdd hR isK hKs (isC ++ (List.range T.length).map (fun j => ws.length + j)) (ix_lT T hC) (vnd_lT T hC hn1) isR (ix_l T hRr) hn2 (fun i hi => ?_) hst hn hcat hcells hd pc' hp h
  intro e
  rcases List.mem_append.mp e with e | e
  · exact hdis i hi e
  · obtain ⟨j, -, rfl⟩ := List.mem_map.mp e
    have := ix_lt hRr _ hi
    omega
theorem go_calllVU {X : TCx} {cc : ByteArray} {own : String} {rm : Room} {nL : Nat} {ws : va_W} (T : va_W) {n k pc : Nat} {lv : List (Nat × Value)} {st : List Value} {tys : List (ClassId × FieldType)} {cl : List vw_C} {E : TEn} {S : Type} {y : MethodName} {fr lo : Nat} {w0 wr : va_W} {tys0 : List (ClassId × FieldType)} {bytes : ByteArray} {maxL index : Nat} {ret : Option FieldType} {rest : List Value} {As : List Value} {b ci : Nat} {rc : vw_C} {fs : List Value} {post : Int → S → Prop} {w1 : S → va_W} (O : TOk X cc own rm nL cl E) (hK : TKn X tys) (hE : EnvOk E) (hM : Ctl cl E y (Cond.code y bytes maxL ret :: Gw) (rmn fr lo) (.ref b :: As) (w0 ++ T) tys0 post w1) (hml : Cond.methodLink own index y ∈ Gw) (him : Cond.instanceMethod y ∈ Gw) (hse : Cond.selects rc.1 y y ∈ Gw) (hin0 : Cond.initialized rc.1 ∈ Gw) (hcd : Cond.code y bytes maxL ret ∈ Gw) (na : Nat) (hdd : y.cls = rc.1 ∧ y.cls ≠ "java/lang/invoke/MethodHandle" ∧ y.cls ≠ "java/lang/invoke/VarHandle" ∧ (parseMethodDescriptor y.desc).map (fun d => d.parameters.length) = some na) (hR : fr + 1 ≤ rm.frames ∧ 8 + (maxL + 11) + lo ≤ rm.locals) (qb : Nat) (hqb : ws[qb]? = some (b, .inr (ci, fs))) (hci : cl[ci]? = some rc)
    (isK : List Nat) (hKs : isK.filterMap (fun i => tys[i]?) = tys0) (isC : List Nat) (hC : isC.map (fun i => ws[i]?) = w0.map some) (hn1 : va_nd isC = true) (isR : List Nat) (hRr : isR.map (fun i => ws[i]?) = wr.map some) (hn2 : va_nd isR = true) (hdis : ∀ i ∈ isR, i ∉ isC) (hst : st = (As.reverse ++ .ref b :: rest)) (hn : As.length = na) (hcat : (rest.map fun v => v.category).sum ≤ 8) (hcells : n ≤ rm.cells ∧ k ≤ rm.slots) (hd : decode cc pc = .ok (.invokevirtual index, 3)) (pc' : Nat) (hp : pc + 3 = pc') (h : ∀ (z : Int) (u : S), post z u → TGo X (wr ++ w1 u) n k pc' lv (.long (lI z) :: rest)) : TGo X (ws ++ T) n k pc lv st := by
  refine go_calllV (wr := wr) O hK hE hM hml him hse hin0 hcd na hdd hR qb (by rw [List.getElem?_append_left (List.getElem?_eq_some_iff.mp hqb).1]; exact hqb) hci isK hKs (isC ++ (List.range T.length).map (fun j => ws.length + j)) (ix_lT T hC) (vnd_lT T hC hn1) isR (ix_l T hRr) hn2 (fun i hi => ?_) hst hn hcat hcells hd pc' hp h
  intro e
  rcases List.mem_append.mp e with e | e
  · exact hdis i hi e
  · obtain ⟨j, -, rfl⟩ := List.mem_map.mp e
    have := ix_lt hRr _ hi
    omega
theorem go_calllSNU {X : TCx} {cc : ByteArray} {own : String} {rm : Room} {nL : Nat} {ws : va_W} (T : va_W) {n k pc : Nat} {lv : List (Nat × Value)} {st : List Value} {tys : List (ClassId × FieldType)} {cl : List vw_C} {E : TEn} {S : Type} {y : MethodName} {fr lo : Nat} {w0 wr : va_W} {tys0 : List (ClassId × FieldType)} {bytes : ByteArray} {maxL index : Nat} {ret : Option FieldType} {rest : List Value} {av : List Value} {host : String} {post : Int → S → Prop} {w1 : S → va_W} (O : TOk X cc own rm nL cl E) (hK : TKn X tys) (hE : EnvOk E) (hM : Ctl cl E y (Cond.code y bytes maxL ret :: Gw) (rmn fr lo) av (w0 ++ T) tys0 post w1) (hli : va_Nw (.methodLinkNest own index y host) (cx_s X)) (hst0 : Cond.static y ∈ Gw) (hin0 : Cond.initialized y.cls ∈ Gw) (hcd : Cond.code y bytes maxL ret ∈ Gw) (na : Nat) (hdd : y.cls ≠ "java/lang/invoke/MethodHandle" ∧ y.cls ≠ "java/lang/invoke/VarHandle" ∧ (parseMethodDescriptor y.desc).map (fun d => d.parameters.length) = some na) (hR : fr + 1 ≤ rm.frames ∧ 8 + (maxL + 11) + lo ≤ rm.locals)
    (isK : List Nat) (hKs : isK.filterMap (fun i => tys[i]?) = tys0) (isC : List Nat) (hC : isC.map (fun i => ws[i]?) = w0.map some) (hn1 : va_nd isC = true) (isR : List Nat) (hRr : isR.map (fun i => ws[i]?) = wr.map some) (hn2 : va_nd isR = true) (hdis : ∀ i ∈ isR, i ∉ isC) (hst : st = (av.reverse ++ rest)) (hn : av.length = na) (hcat : (rest.map fun v => v.category).sum ≤ 8) (hcells : n ≤ rm.cells ∧ k ≤ rm.slots) (hd : decode cc pc = .ok (.invokestatic index, 3)) (pc' : Nat) (hp : pc + 3 = pc') (h : ∀ (z : Int) (u : S), post z u → TGo X (wr ++ w1 u) n k pc' lv (.long (lI z) :: rest)) : TGo X (ws ++ T) n k pc lv st := by
  refine go_calllSN (wr := wr) O hK hE hM hli hst0 hin0 hcd na hdd hR isK hKs (isC ++ (List.range T.length).map (fun j => ws.length + j)) (ix_lT T hC) (vnd_lT T hC hn1) isR (ix_l T hRr) hn2 (fun i hi => ?_) hst hn hcat hcells hd pc' hp h
  intro e
  rcases List.mem_append.mp e with e | e
  · exact hdis i hi e
  · obtain ⟨j, -, rfl⟩ := List.mem_map.mp e
    have := ix_lt hRr _ hi
    omega
theorem go_callvSU {X : TCx} {cc : ByteArray} {own : String} {rm : Room} {nL : Nat} {ws : va_W} (T : va_W) {n k pc : Nat} {lv : List (Nat × Value)} {st : List Value} {tys : List (ClassId × FieldType)} {cl : List vw_C} {E : TEn} {S : Type} {y : MethodName} {fr lo : Nat} {w0 wr : va_W} {tys0 : List (ClassId × FieldType)} {bytes : ByteArray} {maxL index : Nat} {ret : Option FieldType} {rest : List Value} {av : List Value} {post : S → Prop} {w1 : S → va_W} (O : TOk X cc own rm nL cl E) (hK : TKn X tys) (hE : EnvOk E) (hM : Ctv cl E y (Cond.code y bytes maxL ret :: Gw) (rmn fr lo) av (w0 ++ T) tys0 post w1) (hml : Cond.methodLink own index y ∈ Gw) (hst0 : Cond.static y ∈ Gw) (hin0 : Cond.initialized y.cls ∈ Gw) (hcd : Cond.code y bytes maxL ret ∈ Gw) (na : Nat) (hdd : y.cls ≠ "java/lang/invoke/MethodHandle" ∧ y.cls ≠ "java/lang/invoke/VarHandle" ∧ (parseMethodDescriptor y.desc).map (fun d => d.parameters.length) = some na) (hR : fr + 1 ≤ rm.frames ∧ 8 + (maxL + 11) + lo ≤ rm.locals)
    (isK : List Nat) (hKs : isK.filterMap (fun i => tys[i]?) = tys0) (isC : List Nat) (hC : isC.map (fun i => ws[i]?) = w0.map some) (hn1 : va_nd isC = true) (isR : List Nat) (hRr : isR.map (fun i => ws[i]?) = wr.map some) (hn2 : va_nd isR = true) (hdis : ∀ i ∈ isR, i ∉ isC) (hst : st = (av.reverse ++ rest)) (hn : av.length = na) (hcat : (rest.map fun v => v.category).sum ≤ 8) (hcells : n ≤ rm.cells ∧ k ≤ rm.slots) (hd : decode cc pc = .ok (.invokestatic index, 3)) (pc' : Nat) (hp : pc + 3 = pc') (h : ∀ (u : S), post u → TGo X (wr ++ w1 u) n k pc' lv rest) : TGo X (ws ++ T) n k pc lv st := by
  refine go_callvS (wr := wr) O hK hE hM hml hst0 hin0 hcd na hdd hR isK hKs (isC ++ (List.range T.length).map (fun j => ws.length + j)) (ix_lT T hC) (vnd_lT T hC hn1) isR (ix_l T hRr) hn2 (fun i hi => ?_) hst hn hcat hcells hd pc' hp h
  intro e
  rcases List.mem_append.mp e with e | e
  · exact hdis i hi e
  · obtain ⟨j, -, rfl⟩ := List.mem_map.mp e
    have := ix_lt hRr _ hi
    omega
theorem go_callvVU {X : TCx} {cc : ByteArray} {own : String} {rm : Room} {nL : Nat} {ws : va_W} (T : va_W) {n k pc : Nat} {lv : List (Nat × Value)} {st : List Value} {tys : List (ClassId × FieldType)} {cl : List vw_C} {E : TEn} {S : Type} {y : MethodName} {fr lo : Nat} {w0 wr : va_W} {tys0 : List (ClassId × FieldType)} {bytes : ByteArray} {maxL index : Nat} {ret : Option FieldType} {rest : List Value} {As : List Value} {b ci : Nat} {rc : vw_C} {fs : List Value} {post : S → Prop} {w1 : S → va_W} (O : TOk X cc own rm nL cl E) (hK : TKn X tys) (hE : EnvOk E) (hM : Ctv cl E y (Cond.code y bytes maxL ret :: Gw) (rmn fr lo) (.ref b :: As) (w0 ++ T) tys0 post w1) (hml : Cond.methodLink own index y ∈ Gw) (him : Cond.instanceMethod y ∈ Gw) (hse : Cond.selects rc.1 y y ∈ Gw) (hin0 : Cond.initialized rc.1 ∈ Gw) (hcd : Cond.code y bytes maxL ret ∈ Gw) (na : Nat) (hdd : y.cls = rc.1 ∧ y.cls ≠ "java/lang/invoke/MethodHandle" ∧ y.cls ≠ "java/lang/invoke/VarHandle" ∧ (parseMethodDescriptor y.desc).map (fun d => d.parameters.length) = some na) (hR : fr + 1 ≤ rm.frames ∧ 8 + (maxL + 11) + lo ≤ rm.locals) (qb : Nat) (hqb : ws[qb]? = some (b, .inr (ci, fs))) (hci : cl[ci]? = some rc)
    (isK : List Nat) (hKs : isK.filterMap (fun i => tys[i]?) = tys0) (isC : List Nat) (hC : isC.map (fun i => ws[i]?) = w0.map some) (hn1 : va_nd isC = true) (isR : List Nat) (hRr : isR.map (fun i => ws[i]?) = wr.map some) (hn2 : va_nd isR = true) (hdis : ∀ i ∈ isR, i ∉ isC) (hst : st = (As.reverse ++ .ref b :: rest)) (hn : As.length = na) (hcat : (rest.map fun v => v.category).sum ≤ 8) (hcells : n ≤ rm.cells ∧ k ≤ rm.slots) (hd : decode cc pc = .ok (.invokevirtual index, 3)) (pc' : Nat) (hp : pc + 3 = pc') (h : ∀ (u : S), post u → TGo X (wr ++ w1 u) n k pc' lv rest) : TGo X (ws ++ T) n k pc lv st := by
  refine go_callvV (wr := wr) O hK hE hM hml him hse hin0 hcd na hdd hR qb (by rw [List.getElem?_append_left (List.getElem?_eq_some_iff.mp hqb).1]; exact hqb) hci isK hKs (isC ++ (List.range T.length).map (fun j => ws.length + j)) (ix_lT T hC) (vnd_lT T hC hn1) isR (ix_l T hRr) hn2 (fun i hi => ?_) hst hn hcat hcells hd pc' hp h
  intro e
  rcases List.mem_append.mp e with e | e
  · exact hdis i hi e
  · obtain ⟨j, -, rfl⟩ := List.mem_map.mp e
    have := ix_lt hRr _ hi
    omega
theorem go_callvSNU {X : TCx} {cc : ByteArray} {own : String} {rm : Room} {nL : Nat} {ws : va_W} (T : va_W) {n k pc : Nat} {lv : List (Nat × Value)} {st : List Value} {tys : List (ClassId × FieldType)} {cl : List vw_C} {E : TEn} {S : Type} {y : MethodName} {fr lo : Nat} {w0 wr : va_W} {tys0 : List (ClassId × FieldType)} {bytes : ByteArray} {maxL index : Nat} {ret : Option FieldType} {rest : List Value} {av : List Value} {host : String} {post : S → Prop} {w1 : S → va_W} (O : TOk X cc own rm nL cl E) (hK : TKn X tys) (hE : EnvOk E) (hM : Ctv cl E y (Cond.code y bytes maxL ret :: Gw) (rmn fr lo) av (w0 ++ T) tys0 post w1) (hli : va_Nw (.methodLinkNest own index y host) (cx_s X)) (hst0 : Cond.static y ∈ Gw) (hin0 : Cond.initialized y.cls ∈ Gw) (hcd : Cond.code y bytes maxL ret ∈ Gw) (na : Nat) (hdd : y.cls ≠ "java/lang/invoke/MethodHandle" ∧ y.cls ≠ "java/lang/invoke/VarHandle" ∧ (parseMethodDescriptor y.desc).map (fun d => d.parameters.length) = some na) (hR : fr + 1 ≤ rm.frames ∧ 8 + (maxL + 11) + lo ≤ rm.locals)
    (isK : List Nat) (hKs : isK.filterMap (fun i => tys[i]?) = tys0) (isC : List Nat) (hC : isC.map (fun i => ws[i]?) = w0.map some) (hn1 : va_nd isC = true) (isR : List Nat) (hRr : isR.map (fun i => ws[i]?) = wr.map some) (hn2 : va_nd isR = true) (hdis : ∀ i ∈ isR, i ∉ isC) (hst : st = (av.reverse ++ rest)) (hn : av.length = na) (hcat : (rest.map fun v => v.category).sum ≤ 8) (hcells : n ≤ rm.cells ∧ k ≤ rm.slots) (hd : decode cc pc = .ok (.invokestatic index, 3)) (pc' : Nat) (hp : pc + 3 = pc') (h : ∀ (u : S), post u → TGo X (wr ++ w1 u) n k pc' lv rest) : TGo X (ws ++ T) n k pc lv st := by
  refine go_callvSN (wr := wr) O hK hE hM hli hst0 hin0 hcd na hdd hR isK hKs (isC ++ (List.range T.length).map (fun j => ws.length + j)) (ix_lT T hC) (vnd_lT T hC hn1) isR (ix_l T hRr) hn2 (fun i hi => ?_) hst hn hcat hcells hd pc' hp h
  intro e
  rcases List.mem_append.mp e with e | e
  · exact hdis i hi e
  · obtain ⟨j, -, rfl⟩ := List.mem_map.mp e
    have := ix_lt hRr _ hi
    omega
/-! The class's registers: eight Amounts and their rows, by number. -/
abbrev Cs : Type := Nat → Bool × Bool × Bool × Int × Nat
def acl (a q : Nat) (cI : ClassId) (v : Bool × Bool × Bool × Int × Nat) : va_W := [(a, .inr (0, [.ref q, .int (iI (bz v.1)), .int (iI (bz v.2.1)), .int (iI (bz v.2.2.1)), .int (iI v.2.2.2.1)])), (q, .inl (cI, 36, .inl (dg v.2.2.2.2)))]
def rcl (ad ro : Nat → Nat) (cI : ClassId) (cs : Cs) (i : Nat) : va_W := acl (ad i) (ro i) cI (cs i)
def cset (cs : Cs) (ρ : Nat) (v : Bool × Bool × Bool × Int × Nat) : Cs := fun j => if j = ρ then v else cs j
def rof (cs : Cs) : Rg := fun i => if (cs i).1 = true then some ((cs i).2.2.2.1, (cs i).2.1, (cs i).2.2.1, (cs i).2.2.2.2) else none
abbrev RB (ad ro : Nat → Nat) (cI : ClassId) (cs : Cs) : va_W := rgB (rcl ad ro cI cs) 8
abbrev RR1 (ad ro : Nat → Nat) (cI : ClassId) (cs : Cs) (α : Nat) : va_W := rgR (rcl ad ro cI cs) α 8
def cdel (c : Nat → va_W) (α : Nat) : Nat → va_W := fun i => if i = α then [] else c i
abbrev RR2 (ad ro : Nat → Nat) (cI : ClassId) (cs : Cs) (α β : Nat) : va_W := rgR (cdel (rcl ad ro cI cs) α) β 8
theorem rgR_del (c : Nat → va_W) (α : Nat) : ∀ n, rgR c α n = rgB (cdel c α) n := by
  intro n
  induction n with
  | zero => rfl
  | succ n ih =>
    show (if n = α then rgR c α n else rgR c α n ++ c n) = rgB (cdel c α) n ++ (if n = α then [] else c n)
    by_cases e : n = α
    · rw [if_pos e, if_pos e, ih, List.append_nil]
    · rw [if_neg e, if_neg e, ih]
theorem TGo.outC {X : TCx} {n k pc : Nat} {lv : List (Nat × Value)} {st : List Value} (w : va_W) {ad ro : Nat → Nat} {cI : ClassId} {cs : Cs} (ρ : Nat) (hρ : ρ < 8) {v : Bool × Bool × Bool × Int × Nat} (e : cs ρ = v) (h : TGo X ((w ++ acl (ad ρ) (ro ρ) cI v) ++ RR1 ad ro cI cs ρ) n k pc lv st) : TGo X (w ++ RB ad ro cI cs) n k pc lv st := by
  subst e
  exact TGo.out _ ρ hρ h
theorem TGo.backC {X : TCx} {n k pc : Nat} {lv : List (Nat × Value)} {st : List Value} (w : va_W) {ad ro : Nat → Nat} {cI : ClassId} {cs : Cs} (ρ : Nat) (hρ : ρ < 8) (v : Bool × Bool × Bool × Int × Nat) (h : TGo X (w ++ RB ad ro cI (cset cs ρ v)) n k pc lv st) : TGo X ((w ++ acl (ad ρ) (ro ρ) cI v) ++ RR1 ad ro cI cs ρ) n k pc lv st := by
  have h1 : ∀ i, i ≠ ρ → rcl ad ro cI cs i = rcl ad ro cI (cset cs ρ v) i := by
    intro i hi
    show acl (ad i) (ro i) cI (cs i) = acl (ad i) (ro i) cI (if i = ρ then v else cs i)
    rw [if_neg hi]
  have h2 : rcl ad ro cI (cset cs ρ v) ρ = acl (ad ρ) (ro ρ) cI v := by
    show acl (ad ρ) (ro ρ) cI (if ρ = ρ then v else cs ρ) = _
    rw [if_pos rfl]
  rw [← h2]
  exact TGo.back _ _ ρ hρ h1 h
theorem TGo.backC0 {X : TCx} {n k pc : Nat} {lv : List (Nat × Value)} {st : List Value} (w : va_W) {ad ro : Nat → Nat} {cI : ClassId} {cs : Cs} (ρ : Nat) (hρ : ρ < 8) {v : Bool × Bool × Bool × Int × Nat} (e : cs ρ = v) (h : TGo X (w ++ RB ad ro cI cs) n k pc lv st) : TGo X ((w ++ acl (ad ρ) (ro ρ) cI v) ++ RR1 ad ro cI cs ρ) n k pc lv st := by
  subst e
  exact TGo.back _ _ ρ hρ (fun _ _ => rfl) h
theorem TGo.outD {X : TCx} {n k pc : Nat} {lv : List (Nat × Value)} {st : List Value} (w : va_W) {ad ro : Nat → Nat} {cI : ClassId} {cs : Cs} (α β : Nat) (hβ : β < 8) (hne : β ≠ α) {v : Bool × Bool × Bool × Int × Nat} (e : cs β = v) (h : TGo X ((w ++ acl (ad β) (ro β) cI v) ++ RR2 ad ro cI cs α β) n k pc lv st) : TGo X (w ++ RR1 ad ro cI cs α) n k pc lv st := by
  subst e
  unfold RR1
  rw [rgR_del]
  refine TGo.out _ β hβ ?_
  have h2 : cdel (rcl ad ro cI cs) α β = acl (ad β) (ro β) cI (cs β) := by unfold cdel; rw [if_neg hne]; rfl
  rw [h2]
  exact h
theorem TGo.backD {X : TCx} {n k pc : Nat} {lv : List (Nat × Value)} {st : List Value} (w : va_W) {ad ro : Nat → Nat} {cI : ClassId} {cs : Cs} (α β : Nat) (hβ : β < 8) (hne : β ≠ α) {v : Bool × Bool × Bool × Int × Nat} (e : cs β = v) (h : TGo X (w ++ RR1 ad ro cI cs α) n k pc lv st) : TGo X ((w ++ acl (ad β) (ro β) cI v) ++ RR2 ad ro cI cs α β) n k pc lv st := by
  subst e
  unfold RR1 at h
  rw [rgR_del] at h
  have h2 : cdel (rcl ad ro cI cs) α β = acl (ad β) (ro β) cI (cs β) := by unfold cdel; rw [if_neg hne]; rfl
  rw [← h2]
  exact TGo.back _ _ β hβ (fun _ _ => rfl) h
theorem rof_n {cs : Cs} {α : Nat} {w n : Bool} {c : Int} {V : Nat} (e : cs α = (false, w, n, c, V)) : rof cs α = none := by
  unfold rof; rw [e]; rfl
theorem rof_s {cs : Cs} {α : Nat} {w n : Bool} {c : Int} {V : Nat} (e : cs α = (true, w, n, c, V)) : rof cs α = some (c, w, n, V) := by
  unfold rof; rw [e]; rfl
theorem rof_set {cs : Cs} {ρ : Nat} {w n : Bool} {c : Int} {V : Nat} : rof (cset cs ρ (true, w, n, c, V)) = rset (rof cs) ρ (some (c, w, n, V)) := by
  funext i
  unfold rof cset rset
  by_cases e : i = ρ
  · rw [if_pos e, if_pos e]; rfl
  · rw [if_neg e, if_neg e]
theorem rof_drop {cs : Cs} {ρ : Nat} {w n : Bool} {c : Int} {V : Nat} : rof (cset cs ρ (false, w, n, c, V)) = rset (rof cs) ρ none := by
  funext i
  unfold rof cset rset
  by_cases e : i = ρ
  · rw [if_pos e, if_pos e]; rfl
  · rw [if_neg e, if_neg e]
/-- what a register may hold -/
def RgOk (reg : Rg) : Prop := ∀ α, α < 8 → ∀ c w n V, reg α = some (c, w, n, V) → (0 ≤ c ∧ c ≤ 5) ∧ V < 10 ^ 36 ∧ (V = 0 → n = false)
theorem RgOk_of {fc fw fn K : Nat → Int32} {reg : Rg} (h : MR fc fw fn K reg) : RgOk reg := by
  intro α hα c w n V e
  have h1 := h α hα
  rw [e] at h1
  exact ⟨h1.1, h1.2.2.2.2.1, h1.2.2.2.2.2.1⟩
/-- an exact or rounded row W put into a register as it is -/
def tsto (wide ng : Bool) (W : Nat) (g : Bool) : Option Nat :=
  if wide = true then (if W < 10 ^ 46 then some (W / 10 ^ 10) else none)
  else if g = false ∧ W % 10 ^ 15 = 0 ∧ W / 10 ^ 15 ≤ tlim ng then some (W / 10 ^ 10) else none
theorem tsto_w1 {wide ng g : Bool} {W : Nat} (hw : ¬ bz wide = 0) (h : W < 10 ^ 46) : tsto wide ng W g = some (W / 10 ^ 10) := by
  unfold tsto; rw [if_pos (bz_ne hw), if_pos h]
theorem tsto_w0 {wide ng g : Bool} {W : Nat} (hw : ¬ bz wide = 0) (h : ¬ W < 10 ^ 46) : tsto wide ng W g = none := by
  unfold tsto; rw [if_pos (bz_ne hw), if_neg h]
theorem tsto_f1 {wide ng g : Bool} {W : Nat} (hw : bz wide = 0) (h : g = false ∧ W % 10 ^ 15 = 0 ∧ W / 10 ^ 15 ≤ tlim ng) : tsto wide ng W g = some (W / 10 ^ 10) := by
  unfold tsto; rw [if_neg (by rw [bz_0.mp hw]; decide), if_pos h]
theorem tsto_f0 {wide ng g : Bool} {W : Nat} (hw : bz wide = 0) (h : ¬ (g = false ∧ W % 10 ^ 15 = 0 ∧ W / 10 ^ 15 ≤ tlim ng)) : tsto wide ng W g = none := by
  unfold tsto; rw [if_neg (by rw [bz_0.mp hw]; decide), if_neg h]
theorem fast_lt {ng : Bool} {W : Nat} (h : W / 10 ^ 15 ≤ tlim ng) : W < 10 ^ 46 := by
  have h1 := (tlim_le (ng := ng) (V := W / 10 ^ 15)).mp h
  have h2 : W / 10 ^ 15 < 10 ^ 31 := by omega
  have h3 := (Nat.div_lt_iff_lt_mul (p10 15)).mp h2
  rw [← p10add] at h3
  exact h3
theorem bzd_ne {p : Prop} [Decidable p] (h : ¬ bz (decide p) = 0) : p := of_decide_eq_true (bz_ne h)
theorem bzd_z {p : Prop} [Decidable p] (h : bz (decide p) = 0) : ¬ p := of_decide_eq_false (bz_0.mp h)
theorem tkeep_w {p s : Nat} {m : Int} {wide ng g : Bool} {W : Nat} (hw : ¬ bz wide = 0) : tkeep p s m wide ng W g = tsto wide ng (trnd m ng (W / 10 ^ (10 + tstp p s (tnds W - 20))) (2 * (W % 10 ^ (10 + tstp p s (tnds W - 20))) + g.toNat) (2 * 10 ^ (10 + tstp p s (tnds W - 20))) * 10 ^ (10 + tstp p s (tnds W - 20))) false := by
  unfold tkeep tsto; rw [if_pos (bz_ne hw), if_pos (bz_ne hw)]
theorem tkeep_f {p s : Nat} {m : Int} {wide ng g : Bool} {W : Nat} (hw : bz wide = 0) : tkeep p s m wide ng W g = tsto wide ng W g := by
  have e : ¬ wide = true := by rw [bz_0.mp hw]; decide
  unfold tkeep tsto; rw [if_neg e, if_neg e]
theorem tst_1 {p s : Nat} {m : Int} {wide ng : Bool} {A : Nat} (hp : 19 ≤ p ∧ p ≤ 30) (hs : 5 ≤ s ∧ s ≤ 10) : tstl p s m wide ng A 1 = tkeep p s m wide ng (A * 10 ^ 10) false := by
  rw [tstl_keep hp.1 hp.2 hs.1 hs.2 (by decide), Nat.div_one, Nat.mod_one]; rfl
theorem p1010 {κ A : Nat} (h : κ ≤ 10) : A * 10 ^ (10 - κ) * 10 ^ 10 = A * 10 ^ (20 - κ) := by
  rw [Nat.mul_assoc, ← p10add, show 10 - κ + 10 = 20 - κ by omega]
theorem keep_bd {m : Int} {ng g : Bool} {W P : Nat} (hW : W < 10 ^ 70) (hP : P ≤ 70) : trnd m ng (W / 10 ^ P) (2 * (W % 10 ^ P) + g.toNat) (2 * 10 ^ P) * 10 ^ P < 10 ^ 72 := by
  have h1 := Nat.mul_le_mul_right (10 ^ P) (trnd_le m ng (W / 10 ^ P) (2 * (W % 10 ^ P) + g.toNat) (2 * 10 ^ P))
  rw [Nat.add_mul, Nat.one_mul] at h1
  have h2 := Nat.div_mul_le_self W (10 ^ P)
  have h3 := p10le hP
  omega
theorem set_bd2 {v : Int} {κ : Nat} (hv : r64 v) : v.natAbs * 10 ^ (20 - κ) < 10 ^ 40 := by
  have h1 : v.natAbs ≤ 10 ^ 19 := by omega
  have h2 := p10le (a := 20 - κ) (b := 20) (by omega)
  have h3 := Nat.mul_le_mul h1 h2
  omega
set_option maxHeartbeats 4000000 in
set_option maxRecDepth 100000 in
/-- store -/
theorem c_X3_store (E : TEn) (hE : EnvOk E) (hN : NestOk E) (h qam qrat qrm hw hsh ht qrow qfac : Nat) (cI cM : ClassId) (ad ro : Nat → Nat) (cs : Cs) (P Sc : Nat) (m : Int) (ng go wide : Bool) (ρ W : Nat) (cu : Int) (hρ : ρ < 8) (hW : W < 10 ^ 72) : Cti vwCl E yX3_store wsX3_store (rmn 2 63) [.ref h, .int (iI ((ρ : Nat) : Int)), .int (iI (bz wide)), .int (iI cu)] ([(h, .inr (3, [.int (iI ((P : Nat) : Int)), .int (iI ((Sc : Nat) : Int)), .int (iI m), .ref qam, .ref qrat, .ref qrm, .ref hw, .ref hsh, .ref ht])), (qam, .inl (cM, 8, .inr (.inr (.inr (.inr (fun i => some (ad i))))))), (hw, .inr (2, [.ref qrow, .ref qfac, .int (iI (bz ng)), .int (iI (bz go))])), (qrow, .inl (cI, 72, .inl (dg W)))] ++ RB ad ro cI cs) [(cI, .int), (cM, .object "TwofoldAmounts$Amount")] (fun (z : Int) (u : Cs) => z = ansO (tsto wide ng W go) ∧ rof u = rstp (rof cs) ρ cu wide ng (tsto wide ng W go)) (fun u => ([(h, .inr (3, [.int (iI ((P : Nat) : Int)), .int (iI ((Sc : Nat) : Int)), .int (iI m), .ref qam, .ref qrat, .ref qrm, .ref hw, .ref hsh, .ref ht])), (qam, .inl (cM, 8, .inr (.inr (.inr (.inr (fun i => some (ad i))))))), (hw, .inr (2, [.ref qrow, .ref qfac, .int (iI (bz ng)), .int (iI (bz go))])), (qrow, .inl (cI, 72, .inl (dg W)))] ++ RB ad ro cI u)) := by
  refine enteri (by decide) (Nat.le_of_ble_eq_true rfl) ?_
  intro X O hK hin2 hret
  show TGo X ([(h, .inr (3, [.int (iI ((P : Nat) : Int)), .int (iI ((Sc : Nat) : Int)), .int (iI m), .ref qam, .ref qrat, .ref qrm, .ref hw, .ref hsh, .ref ht])), (qam, .inl (cM, 8, .inr (.inr (.inr (.inr (fun i => some (ad i))))))), (hw, .inr (2, [.ref qrow, .ref qfac, .int (iI (bz ng)), .int (iI (bz go))])), (qrow, .inl (cI, 72, .inl (dg W)))] ++ RB ad ro cI cs) 0 0 0 [(0, .ref h), (1, .int (iI ((ρ : Nat) : Int))), (2, .int (iI (bz wide))), (3, .int (iI cu))] []
  have bw := bz_01 wide
  rcases hcs : cs ρ with ⟨d1, w1, n1, c1, V1⟩
  refine go_iload_n O dX3_store_0 rfl 2 rfl 1 rfl ?_
  refine go_if_eq O dX3_store_1 17 (by decide) 4 rfl (by omega) (fun h1 => ?_) (fun h1 => ?_)
  · refine go_aload_n O dX3_store_17 rfl 0 rfl 18 rfl ?_
    refine go_get O hK dX3_store_18 hinX3 0 rfl rfl 6 (by decide) flX3_46 rfl 21 rfl ?_
    refine go_calliVT (As := []) (rest := []) (wr := [(h, .inr (3, [.int (iI ((P : Nat) : Int)), .int (iI ((Sc : Nat) : Int)), .int (iI m), .ref qam, .ref qrat, .ref qrm, .ref hw, .ref hsh, .ref ht])), (qam, .inl (cM, 8, .inr (.inr (.inr (.inr (fun i => some (ad i)))))))]) (RB ad ro cI cs) O hK hE (c_X2_fitsFast E hE hN hw qrow qfac cI ng go W hW) mlX3_202 imX2_fitsFast seX2_fitsFast inX2 cdX2_fitsFast 0 (by decide +kernel) ⟨Nat.le_of_ble_eq_true rfl, Nat.le_of_ble_eq_true rfl⟩ 2 rfl rfl [0] rfl [2, 3] rfl (by decide) [0, 1] rfl (by decide) (by decide) rfl rfl (Nat.le_of_ble_eq_true rfl) ⟨Nat.zero_le _, Nat.zero_le _⟩ dX3_store_21 24 rfl (fun z u hu => ?_)
    subst hu
    show TGo X ([(h, .inr (3, [.int (iI ((P : Nat) : Int)), .int (iI ((Sc : Nat) : Int)), .int (iI m), .ref qam, .ref qrat, .ref qrm, .ref hw, .ref hsh, .ref ht])), (qam, .inl (cM, 8, .inr (.inr (.inr (.inr (fun i => some (ad i))))))), (hw, .inr (2, [.ref qrow, .ref qfac, .int (iI (bz ng)), .int (iI (bz go))])), (qrow, .inl (cI, 72, .inl (dg W)))] ++ RB ad ro cI cs) 0 0 24 [(0, .ref h), (1, .int (iI ((ρ : Nat) : Int))), (2, .int (iI (bz wide))), (3, .int (iI cu))] [.int (iI (bz (decide (go = false ∧ W % 10 ^ 15 = 0 ∧ W / 10 ^ 15 ≤ tlim ng))))]
    refine go_if_ne O dX3_store_24 30 (by decide) 27 rfl (bz_r _) (fun h24 => ?_) (fun h24 => ?_)
    · have hs := tsto_f1 h1 (bzd_ne h24)
      have hW46 := fast_lt (bzd_ne h24).2.2
      refine go_aload_n O dX3_store_30 rfl 0 rfl 31 rfl ?_
      refine go_get O hK dX3_store_31 hinX3 0 rfl rfl 3 (by decide) flX3_30 rfl 34 rfl ?_
      refine go_iload_n O dX3_store_34 rfl 1 rfl 35 rfl ?_
      refine go_aald O hK dX3_store_35 1 1 rfl rfl ρ rfl (by omega) (by omega) (ad ρ) rfl 36 rfl ?_
      refine TGo.outC [(h, .inr (3, [.int (iI ((P : Nat) : Int)), .int (iI ((Sc : Nat) : Int)), .int (iI m), .ref qam, .ref qrat, .ref qrm, .ref hw, .ref hsh, .ref ht])), (qam, .inl (cM, 8, .inr (.inr (.inr (.inr (fun i => some (ad i))))))), (hw, .inr (2, [.ref qrow, .ref qfac, .int (iI (bz ng)), .int (iI (bz go))])), (qrow, .inl (cI, 72, .inl (dg W)))] ρ hρ hcs ?_
      show TGo X ([(h, .inr (3, [.int (iI ((P : Nat) : Int)), .int (iI ((Sc : Nat) : Int)), .int (iI m), .ref qam, .ref qrat, .ref qrm, .ref hw, .ref hsh, .ref ht])), (qam, .inl (cM, 8, .inr (.inr (.inr (.inr (fun i => some (ad i))))))), (hw, .inr (2, [.ref qrow, .ref qfac, .int (iI (bz ng)), .int (iI (bz go))])), (qrow, .inl (cI, 72, .inl (dg W))), ((ad ρ), .inr (0, [.ref (ro ρ), .int (iI (bz d1)), .int (iI (bz w1)), .int (iI (bz n1)), .int (iI c1)])), ((ro ρ), .inl (cI, 36, .inl (dg V1)))] ++ RR1 ad ro cI cs ρ) 0 0 36 [(0, .ref h), (1, .int (iI ((ρ : Nat) : Int))), (2, .int (iI (bz wide))), (3, .int (iI cu))] [.ref (ad ρ)]
      refine go_aload_n O dX3_store_36 rfl 0 rfl 37 rfl ?_
      refine go_get O hK dX3_store_37 hinX3 0 rfl rfl 6 (by decide) flX3_46 rfl 40 rfl ?_
      refine go_iload_n O dX3_store_40 rfl 2 rfl 41 rfl ?_
      refine go_iload_n O dX3_store_41 rfl 3 rfl 42 rfl ?_
      refine go_callvVT (As := [.ref hw, .int (iI (bz wide)), .int (iI cu)]) (rest := []) (wr := [(h, .inr (3, [.int (iI ((P : Nat) : Int)), .int (iI ((Sc : Nat) : Int)), .int (iI m), .ref qam, .ref qrat, .ref qrm, .ref hw, .ref hsh, .ref ht])), (qam, .inl (cM, 8, .inr (.inr (.inr (.inr (fun i => some (ad i)))))))]) (RR1 ad ro cI cs ρ) O hK hE (c_X0_take E hE hN (ad ρ) (ro ρ) hw qrow qfac cI ng go W (dg V1) d1 w1 n1 wide c1 cu hW46) mlX3_138 imX0_take seX0_take inX0 cdX0_take 3 (by decide +kernel) ⟨Nat.le_of_ble_eq_true rfl, Nat.le_of_ble_eq_true rfl⟩ 4 rfl rfl [0] rfl [4, 5, 2, 3] rfl (by decide) [0, 1] rfl (by decide) (by decide) rfl rfl (Nat.le_of_ble_eq_true rfl) ⟨Nat.zero_le _, Nat.zero_le _⟩ dX3_store_42 45 rfl (fun u hu => ?_)
      show TGo X ([(h, .inr (3, [.int (iI ((P : Nat) : Int)), .int (iI ((Sc : Nat) : Int)), .int (iI m), .ref qam, .ref qrat, .ref qrm, .ref hw, .ref hsh, .ref ht])), (qam, .inl (cM, 8, .inr (.inr (.inr (.inr (fun i => some (ad i))))))), ((ad ρ), .inr (0, [.ref (ro ρ), .int (iI 1), .int (iI (bz wide)), .int (iI (bz (ng && decide (0 < W / 10 ^ 10)))), .int (iI cu)])), ((ro ρ), .inl (cI, 36, .inl (dg (W / 10 ^ 10)))), (hw, .inr (2, [.ref qrow, .ref qfac, .int (iI (bz ng)), .int (iI (bz go))])), (qrow, .inl (cI, 72, .inl (dg W)))] ++ RR1 ad ro cI cs ρ) 0 0 45 [(0, .ref h), (1, .int (iI ((ρ : Nat) : Int))), (2, .int (iI (bz wide))), (3, .int (iI cu))] []
      refine TGo.subT (w' := [(h, .inr (3, [.int (iI ((P : Nat) : Int)), .int (iI ((Sc : Nat) : Int)), .int (iI m), .ref qam, .ref qrat, .ref qrm, .ref hw, .ref hsh, .ref ht])), (qam, .inl (cM, 8, .inr (.inr (.inr (.inr (fun i => some (ad i))))))), (hw, .inr (2, [.ref qrow, .ref qfac, .int (iI (bz ng)), .int (iI (bz go))])), (qrow, .inl (cI, 72, .inl (dg W))), ((ad ρ), .inr (0, [.ref (ro ρ), .int (iI 1), .int (iI (bz wide)), .int (iI (bz (ng && decide (0 < W / 10 ^ 10)))), .int (iI cu)])), ((ro ρ), .inl (cI, 36, .inl (dg (W / 10 ^ 10))))]) (RR1 ad ro cI cs ρ) [0, 1, 4, 5, 2, 3] (by decide) rfl ?_
      refine TGo.backC [(h, .inr (3, [.int (iI ((P : Nat) : Int)), .int (iI ((Sc : Nat) : Int)), .int (iI m), .ref qam, .ref qrat, .ref qrm, .ref hw, .ref hsh, .ref ht])), (qam, .inl (cM, 8, .inr (.inr (.inr (.inr (fun i => some (ad i))))))), (hw, .inr (2, [.ref qrow, .ref qfac, .int (iI (bz ng)), .int (iI (bz go))])), (qrow, .inl (cI, 72, .inl (dg W)))] ρ hρ (true, wide, (ng && decide (0 < W / 10 ^ 10)), cu, W / 10 ^ 10) ?_
      show TGo X ([(h, .inr (3, [.int (iI ((P : Nat) : Int)), .int (iI ((Sc : Nat) : Int)), .int (iI m), .ref qam, .ref qrat, .ref qrm, .ref hw, .ref hsh, .ref ht])), (qam, .inl (cM, 8, .inr (.inr (.inr (.inr (fun i => some (ad i))))))), (hw, .inr (2, [.ref qrow, .ref qfac, .int (iI (bz ng)), .int (iI (bz go))])), (qrow, .inl (cI, 72, .inl (dg W)))] ++ RB ad ro cI (cset cs ρ (true, wide, (ng && decide (0 < W / 10 ^ 10)), cu, W / 10 ^ 10))) 0 0 45 [(0, .ref h), (1, .int (iI ((ρ : Nat) : Int))), (2, .int (iI (bz wide))), (3, .int (iI cu))] []
      refine go_iconst O dX3_store_45 46 rfl ?_
      exact hret _ _ _ (cset cs ρ (true, wide, (ng && decide (0 < W / 10 ^ 10)), cu, W / 10 ^ 10)) dX3_store_46 rfl ⟨by rw [hs]; rfl, by rw [hs]; exact rof_set⟩
    · refine go_bipush O dX3_store_27 (by decide) 29 rfl ?_
      have hs := tsto_f0 h1 (bzd_z h24)
      exact hret _ _ _ cs dX3_store_29 rfl ⟨by rw [hs]; rfl, by rw [hs]; rfl⟩
  · refine go_aload_n O dX3_store_4 rfl 0 rfl 5 rfl ?_
    refine go_get O hK dX3_store_5 hinX3 0 rfl rfl 6 (by decide) flX3_46 rfl 8 rfl ?_
    refine go_calliVT (As := []) (rest := []) (wr := [(h, .inr (3, [.int (iI ((P : Nat) : Int)), .int (iI ((Sc : Nat) : Int)), .int (iI m), .ref qam, .ref qrat, .ref qrm, .ref hw, .ref hsh, .ref ht])), (qam, .inl (cM, 8, .inr (.inr (.inr (.inr (fun i => some (ad i)))))))]) (RB ad ro cI cs) O hK hE (c_X2_fitsWide E hE hN hw qrow qfac cI ng go W hW) mlX3_198 imX2_fitsWide seX2_fitsWide inX2 cdX2_fitsWide 0 (by decide +kernel) ⟨Nat.le_of_ble_eq_true rfl, Nat.le_of_ble_eq_true rfl⟩ 2 rfl rfl [0] rfl [2, 3] rfl (by decide) [0, 1] rfl (by decide) (by decide) rfl rfl (Nat.le_of_ble_eq_true rfl) ⟨Nat.zero_le _, Nat.zero_le _⟩ dX3_store_8 11 rfl (fun z u hu => ?_)
    subst hu
    show TGo X ([(h, .inr (3, [.int (iI ((P : Nat) : Int)), .int (iI ((Sc : Nat) : Int)), .int (iI m), .ref qam, .ref qrat, .ref qrm, .ref hw, .ref hsh, .ref ht])), (qam, .inl (cM, 8, .inr (.inr (.inr (.inr (fun i => some (ad i))))))), (hw, .inr (2, [.ref qrow, .ref qfac, .int (iI (bz ng)), .int (iI (bz go))])), (qrow, .inl (cI, 72, .inl (dg W)))] ++ RB ad ro cI cs) 0 0 11 [(0, .ref h), (1, .int (iI ((ρ : Nat) : Int))), (2, .int (iI (bz wide))), (3, .int (iI cu))] [.int (iI (bz (decide (W < 10 ^ 46))))]
    refine go_if_eq O dX3_store_11 27 (by decide) 14 rfl (bz_r _) (fun h11 => ?_) (fun h11 => ?_)
    · refine go_bipush O dX3_store_27 (by decide) 29 rfl ?_
      have hs := tsto_w0 (ng := ng) (g := go) h1 (bzd_z h11)
      exact hret _ _ _ cs dX3_store_29 rfl ⟨by rw [hs]; rfl, by rw [hs]; rfl⟩
    · refine go_goto O dX3_store_14 30 (by decide) ?_
      have hs := tsto_w1 (ng := ng) (g := go) h1 (bzd_ne h11)
      have hW46 := bzd_ne h11
      refine go_aload_n O dX3_store_30 rfl 0 rfl 31 rfl ?_
      refine go_get O hK dX3_store_31 hinX3 0 rfl rfl 3 (by decide) flX3_30 rfl 34 rfl ?_
      refine go_iload_n O dX3_store_34 rfl 1 rfl 35 rfl ?_
      refine go_aald O hK dX3_store_35 1 1 rfl rfl ρ rfl (by omega) (by omega) (ad ρ) rfl 36 rfl ?_
      refine TGo.outC [(h, .inr (3, [.int (iI ((P : Nat) : Int)), .int (iI ((Sc : Nat) : Int)), .int (iI m), .ref qam, .ref qrat, .ref qrm, .ref hw, .ref hsh, .ref ht])), (qam, .inl (cM, 8, .inr (.inr (.inr (.inr (fun i => some (ad i))))))), (hw, .inr (2, [.ref qrow, .ref qfac, .int (iI (bz ng)), .int (iI (bz go))])), (qrow, .inl (cI, 72, .inl (dg W)))] ρ hρ hcs ?_
      show TGo X ([(h, .inr (3, [.int (iI ((P : Nat) : Int)), .int (iI ((Sc : Nat) : Int)), .int (iI m), .ref qam, .ref qrat, .ref qrm, .ref hw, .ref hsh, .ref ht])), (qam, .inl (cM, 8, .inr (.inr (.inr (.inr (fun i => some (ad i))))))), (hw, .inr (2, [.ref qrow, .ref qfac, .int (iI (bz ng)), .int (iI (bz go))])), (qrow, .inl (cI, 72, .inl (dg W))), ((ad ρ), .inr (0, [.ref (ro ρ), .int (iI (bz d1)), .int (iI (bz w1)), .int (iI (bz n1)), .int (iI c1)])), ((ro ρ), .inl (cI, 36, .inl (dg V1)))] ++ RR1 ad ro cI cs ρ) 0 0 36 [(0, .ref h), (1, .int (iI ((ρ : Nat) : Int))), (2, .int (iI (bz wide))), (3, .int (iI cu))] [.ref (ad ρ)]
      refine go_aload_n O dX3_store_36 rfl 0 rfl 37 rfl ?_
      refine go_get O hK dX3_store_37 hinX3 0 rfl rfl 6 (by decide) flX3_46 rfl 40 rfl ?_
      refine go_iload_n O dX3_store_40 rfl 2 rfl 41 rfl ?_
      refine go_iload_n O dX3_store_41 rfl 3 rfl 42 rfl ?_
      refine go_callvVT (As := [.ref hw, .int (iI (bz wide)), .int (iI cu)]) (rest := []) (wr := [(h, .inr (3, [.int (iI ((P : Nat) : Int)), .int (iI ((Sc : Nat) : Int)), .int (iI m), .ref qam, .ref qrat, .ref qrm, .ref hw, .ref hsh, .ref ht])), (qam, .inl (cM, 8, .inr (.inr (.inr (.inr (fun i => some (ad i)))))))]) (RR1 ad ro cI cs ρ) O hK hE (c_X0_take E hE hN (ad ρ) (ro ρ) hw qrow qfac cI ng go W (dg V1) d1 w1 n1 wide c1 cu hW46) mlX3_138 imX0_take seX0_take inX0 cdX0_take 3 (by decide +kernel) ⟨Nat.le_of_ble_eq_true rfl, Nat.le_of_ble_eq_true rfl⟩ 4 rfl rfl [0] rfl [4, 5, 2, 3] rfl (by decide) [0, 1] rfl (by decide) (by decide) rfl rfl (Nat.le_of_ble_eq_true rfl) ⟨Nat.zero_le _, Nat.zero_le _⟩ dX3_store_42 45 rfl (fun u hu => ?_)
      show TGo X ([(h, .inr (3, [.int (iI ((P : Nat) : Int)), .int (iI ((Sc : Nat) : Int)), .int (iI m), .ref qam, .ref qrat, .ref qrm, .ref hw, .ref hsh, .ref ht])), (qam, .inl (cM, 8, .inr (.inr (.inr (.inr (fun i => some (ad i))))))), ((ad ρ), .inr (0, [.ref (ro ρ), .int (iI 1), .int (iI (bz wide)), .int (iI (bz (ng && decide (0 < W / 10 ^ 10)))), .int (iI cu)])), ((ro ρ), .inl (cI, 36, .inl (dg (W / 10 ^ 10)))), (hw, .inr (2, [.ref qrow, .ref qfac, .int (iI (bz ng)), .int (iI (bz go))])), (qrow, .inl (cI, 72, .inl (dg W)))] ++ RR1 ad ro cI cs ρ) 0 0 45 [(0, .ref h), (1, .int (iI ((ρ : Nat) : Int))), (2, .int (iI (bz wide))), (3, .int (iI cu))] []
      refine TGo.subT (w' := [(h, .inr (3, [.int (iI ((P : Nat) : Int)), .int (iI ((Sc : Nat) : Int)), .int (iI m), .ref qam, .ref qrat, .ref qrm, .ref hw, .ref hsh, .ref ht])), (qam, .inl (cM, 8, .inr (.inr (.inr (.inr (fun i => some (ad i))))))), (hw, .inr (2, [.ref qrow, .ref qfac, .int (iI (bz ng)), .int (iI (bz go))])), (qrow, .inl (cI, 72, .inl (dg W))), ((ad ρ), .inr (0, [.ref (ro ρ), .int (iI 1), .int (iI (bz wide)), .int (iI (bz (ng && decide (0 < W / 10 ^ 10)))), .int (iI cu)])), ((ro ρ), .inl (cI, 36, .inl (dg (W / 10 ^ 10))))]) (RR1 ad ro cI cs ρ) [0, 1, 4, 5, 2, 3] (by decide) rfl ?_
      refine TGo.backC [(h, .inr (3, [.int (iI ((P : Nat) : Int)), .int (iI ((Sc : Nat) : Int)), .int (iI m), .ref qam, .ref qrat, .ref qrm, .ref hw, .ref hsh, .ref ht])), (qam, .inl (cM, 8, .inr (.inr (.inr (.inr (fun i => some (ad i))))))), (hw, .inr (2, [.ref qrow, .ref qfac, .int (iI (bz ng)), .int (iI (bz go))])), (qrow, .inl (cI, 72, .inl (dg W)))] ρ hρ (true, wide, (ng && decide (0 < W / 10 ^ 10)), cu, W / 10 ^ 10) ?_
      show TGo X ([(h, .inr (3, [.int (iI ((P : Nat) : Int)), .int (iI ((Sc : Nat) : Int)), .int (iI m), .ref qam, .ref qrat, .ref qrm, .ref hw, .ref hsh, .ref ht])), (qam, .inl (cM, 8, .inr (.inr (.inr (.inr (fun i => some (ad i))))))), (hw, .inr (2, [.ref qrow, .ref qfac, .int (iI (bz ng)), .int (iI (bz go))])), (qrow, .inl (cI, 72, .inl (dg W)))] ++ RB ad ro cI (cset cs ρ (true, wide, (ng && decide (0 < W / 10 ^ 10)), cu, W / 10 ^ 10))) 0 0 45 [(0, .ref h), (1, .int (iI ((ρ : Nat) : Int))), (2, .int (iI (bz wide))), (3, .int (iI cu))] []
      refine go_iconst O dX3_store_45 46 rfl ?_
      exact hret _ _ _ (cset cs ρ (true, wide, (ng && decide (0 < W / 10 ^ 10)), cu, W / 10 ^ 10)) dX3_store_46 rfl ⟨by rw [hs]; rfl, by rw [hs]; exact rof_set⟩
set_option maxHeartbeats 4000000 in
set_option maxRecDepth 100000 in
/-- keep -/
theorem c_X3_keep (E : TEn) (hE : EnvOk E) (hN : NestOk E) (h qam qrat qrm hw hsh ht qrow qfac : Nat) (cI cM : ClassId) (ad ro : Nat → Nat) (cs : Cs) (P Sc : Nat) (m : Int) (hP : 19 ≤ P ∧ P ≤ 30) (hS : 5 ≤ Sc ∧ Sc ≤ 10) (hm : 0 ≤ m ∧ m ≤ 6) (ng go wide : Bool) (ρ W : Nat) (cu : Int) (hρ : ρ < 8) (hW : W < 10 ^ 70) : Cti vwCl E yX3_keep wsX3_keep (rmn 4 96) [.ref h, .int (iI ((ρ : Nat) : Int)), .int (iI (bz wide)), .int (iI cu)] ([(h, .inr (3, [.int (iI ((P : Nat) : Int)), .int (iI ((Sc : Nat) : Int)), .int (iI m), .ref qam, .ref qrat, .ref qrm, .ref hw, .ref hsh, .ref ht])), (qam, .inl (cM, 8, .inr (.inr (.inr (.inr (fun i => some (ad i))))))), (hw, .inr (2, [.ref qrow, .ref qfac, .int (iI (bz ng)), .int (iI (bz go))])), (qrow, .inl (cI, 72, .inl (dg W)))] ++ RB ad ro cI cs) [(cI, .int), (cM, .object "TwofoldAmounts$Amount")] (fun (z : Int) (u : Nat × Bool × Cs) => z = ansO (tkeep P Sc m wide ng W go) ∧ rof u.2.2 = rstp (rof cs) ρ cu wide ng (tkeep P Sc m wide ng W go)) (fun u => ([(h, .inr (3, [.int (iI ((P : Nat) : Int)), .int (iI ((Sc : Nat) : Int)), .int (iI m), .ref qam, .ref qrat, .ref qrm, .ref hw, .ref hsh, .ref ht])), (qam, .inl (cM, 8, .inr (.inr (.inr (.inr (fun i => some (ad i))))))), (hw, .inr (2, [.ref qrow, .ref qfac, .int (iI (bz ng)), .int (iI (bz u.2.1))])), (qrow, .inl (cI, 72, .inl (dg u.1)))] ++ RB ad ro cI u.2.2)) := by
  refine enteri (by decide) (Nat.le_of_ble_eq_true rfl) ?_
  intro X O hK hin2 hret
  show TGo X ([(h, .inr (3, [.int (iI ((P : Nat) : Int)), .int (iI ((Sc : Nat) : Int)), .int (iI m), .ref qam, .ref qrat, .ref qrm, .ref hw, .ref hsh, .ref ht])), (qam, .inl (cM, 8, .inr (.inr (.inr (.inr (fun i => some (ad i))))))), (hw, .inr (2, [.ref qrow, .ref qfac, .int (iI (bz ng)), .int (iI (bz go))])), (qrow, .inl (cI, 72, .inl (dg W)))] ++ RB ad ro cI cs) 0 0 0 [(0, .ref h), (1, .int (iI ((ρ : Nat) : Int))), (2, .int (iI (bz wide))), (3, .int (iI cu))] []
  have bw := bz_01 wide
  have ht70 := tnds_mono hW
  refine go_iload_n O dX3_keep_0 rfl 2 rfl 1 rfl ?_
  refine go_if_eq O dX3_keep_1 54 (by decide) 4 rfl (by omega) (fun h1 => ?_) (fun h1 => ?_)
  · refine go_aload_n O dX3_keep_54 rfl 0 rfl 55 rfl ?_
    refine go_iload_n O dX3_keep_55 rfl 1 rfl 56 rfl ?_
    refine go_iload_n O dX3_keep_56 rfl 2 rfl 57 rfl ?_
    refine go_iload_n O dX3_keep_57 rfl 3 rfl 58 rfl ?_
    refine go_calliVU (As := [.int (iI ((ρ : Nat) : Int)), .int (iI (bz wide)), .int (iI cu)]) (rest := []) (wr := []) (RB ad ro cI cs) O hK hE (c_X3_store E hE hN h qam qrat qrm hw hsh ht qrow qfac cI cM ad ro cs P Sc m ng go wide ρ (W) cu hρ (Nat.lt_of_lt_of_le hW (p10le (by omega)))) mlX3_107 imX3_store seX3_store inX3 cdX3_store 3 (by decide +kernel) ⟨Nat.le_of_ble_eq_true rfl, Nat.le_of_ble_eq_true rfl⟩ 0 rfl rfl [0, 1] rfl [0, 1, 2, 3] rfl (by decide) [] rfl (by decide) (by decide) rfl rfl (Nat.le_of_ble_eq_true rfl) ⟨Nat.zero_le _, Nat.zero_le _⟩ dX3_keep_58 61 rfl (fun z u hu => ?_)
    obtain ⟨cs2, rfl⟩ : ∃ y, y = u := ⟨_, rfl⟩
    obtain ⟨rfl, hcs2⟩ := hu
    show TGo X ([(h, .inr (3, [.int (iI ((P : Nat) : Int)), .int (iI ((Sc : Nat) : Int)), .int (iI m), .ref qam, .ref qrat, .ref qrm, .ref hw, .ref hsh, .ref ht])), (qam, .inl (cM, 8, .inr (.inr (.inr (.inr (fun i => some (ad i))))))), (hw, .inr (2, [.ref qrow, .ref qfac, .int (iI (bz ng)), .int (iI (bz go))])), (qrow, .inl (cI, 72, .inl (dg (W))))] ++ RB ad ro cI cs2) 0 0 61 [(0, .ref h), (1, .int (iI ((ρ : Nat) : Int))), (2, .int (iI (bz wide))), (3, .int (iI cu))] [.int (iI (ansO (tsto wide ng (W) go)))]
    have hk := tkeep_f (p := P) (s := Sc) (m := m) (ng := ng) (g := go) (W := W) h1
    exact hret _ _ _ (W, go, cs2) dX3_keep_61 rfl ⟨by rw [hk], by rw [hk]; exact hcs2⟩
  · refine go_iconst O dX3_keep_4 5 rfl ?_
    refine go_aload_n O dX3_keep_5 rfl 0 rfl 6 rfl ?_
    refine go_get O hK dX3_keep_6 hinX3 0 rfl rfl 6 (by decide) flX3_46 rfl 9 rfl ?_
    refine go_calliVT (As := []) (rest := [.int (iI 0)]) (wr := [(h, .inr (3, [.int (iI ((P : Nat) : Int)), .int (iI ((Sc : Nat) : Int)), .int (iI m), .ref qam, .ref qrat, .ref qrm, .ref hw, .ref hsh, .ref ht])), (qam, .inl (cM, 8, .inr (.inr (.inr (.inr (fun i => some (ad i)))))))]) (RB ad ro cI cs) O hK hE (c_X2_size E hE hw qrow qfac cI ng go W (Nat.lt_of_lt_of_le hW (p10le (by omega)))) mlX3_195 imX2_size seX2_size inX2 cdX2_size 0 (by decide +kernel) ⟨Nat.le_of_ble_eq_true rfl, Nat.le_of_ble_eq_true rfl⟩ 2 rfl rfl [0] rfl [2, 3] rfl (by decide) [0, 1] rfl (by decide) (by decide) rfl rfl (Nat.le_of_ble_eq_true rfl) ⟨Nat.zero_le _, Nat.zero_le _⟩ dX3_keep_9 12 rfl (fun z u hu => ?_)
    subst hu
    show TGo X ([(h, .inr (3, [.int (iI ((P : Nat) : Int)), .int (iI ((Sc : Nat) : Int)), .int (iI m), .ref qam, .ref qrat, .ref qrm, .ref hw, .ref hsh, .ref ht])), (qam, .inl (cM, 8, .inr (.inr (.inr (.inr (fun i => some (ad i))))))), (hw, .inr (2, [.ref qrow, .ref qfac, .int (iI (bz ng)), .int (iI (bz go))])), (qrow, .inl (cI, 72, .inl (dg W)))] ++ RB ad ro cI cs) 0 0 12 [(0, .ref h), (1, .int (iI ((ρ : Nat) : Int))), (2, .int (iI (bz wide))), (3, .int (iI cu))] [.int (iI ((tnds W : Nat) : Int)), .int (iI 0)]
    refine go_bipush O dX3_keep_12 (by decide) 14 rfl ?_
    refine go_isub O dX3_keep_14 (((tnds W : Nat) : Int) - 20) rfl 15 rfl ?_
    refine go_calliST (rest := []) (wr := [(h, .inr (3, [.int (iI ((P : Nat) : Int)), .int (iI ((Sc : Nat) : Int)), .int (iI m), .ref qam, .ref qrat, .ref qrm, .ref hw, .ref hsh, .ref ht])), (qam, .inl (cM, 8, .inr (.inr (.inr (.inr (fun i => some (ad i))))))), (hw, .inr (2, [.ref qrow, .ref qfac, .int (iI (bz ng)), .int (iI (bz go))])), (qrow, .inl (cI, 72, .inl (dg W)))]) (RB ad ro cI cs) O hK hE (c_J9_max E hE 0 ((tnds W : Int) - 20) (by omega) (by omega)) mlX3_15 smJ9_max inJ9 cdJ9_max 2 (by decide +kernel) ⟨Nat.le_of_ble_eq_true rfl, Nat.le_of_ble_eq_true rfl⟩ [] rfl [] rfl (by decide) [0, 1, 2, 3] rfl (by decide) (by decide) rfl rfl (Nat.le_of_ble_eq_true rfl) ⟨Nat.zero_le _, Nat.zero_le _⟩ dX3_keep_15 18 rfl (fun z u hu => ?_)
    obtain rfl : z = ((tnds W - 20 : Nat) : Int) := by rw [hu]; split <;> omega
    show TGo X ([(h, .inr (3, [.int (iI ((P : Nat) : Int)), .int (iI ((Sc : Nat) : Int)), .int (iI m), .ref qam, .ref qrat, .ref qrm, .ref hw, .ref hsh, .ref ht])), (qam, .inl (cM, 8, .inr (.inr (.inr (.inr (fun i => some (ad i))))))), (hw, .inr (2, [.ref qrow, .ref qfac, .int (iI (bz ng)), .int (iI (bz go))])), (qrow, .inl (cI, 72, .inl (dg W)))] ++ RB ad ro cI cs) 0 0 18 [(0, .ref h), (1, .int (iI ((ρ : Nat) : Int))), (2, .int (iI (bz wide))), (3, .int (iI cu))] [.int (iI ((tnds W - 20 : Nat) : Int))]
    refine go_istore O dX3_keep_18 (by decide) [(4, .int (iI ((tnds W - 20 : Nat) : Int))), (0, .ref h), (1, .int (iI ((ρ : Nat) : Int))), (2, .int (iI (bz wide))), (3, .int (iI cu))] rfl 20 rfl ?_
    refine go_aload_n O dX3_keep_20 rfl 1 rfl 21 rfl ?_
    refine go_get O hK dX3_keep_21 hinX3 0 rfl rfl 1 (by decide) flX3_22 rfl 24 rfl ?_
    refine go_aload_n O dX3_keep_24 rfl 1 rfl 25 rfl ?_
    refine go_get O hK dX3_keep_25 hinX3 0 rfl rfl 0 (by decide) flX3_18 rfl 28 rfl ?_
    refine go_iload O dX3_keep_28 0 rfl 30 rfl ?_
    refine go_isub O dX3_keep_30 (((P : Nat) : Int) - ((tnds W - 20 : Nat) : Int)) rfl 31 rfl ?_
    refine go_calliST (rest := []) (wr := [(h, .inr (3, [.int (iI ((P : Nat) : Int)), .int (iI ((Sc : Nat) : Int)), .int (iI m), .ref qam, .ref qrat, .ref qrm, .ref hw, .ref hsh, .ref ht])), (qam, .inl (cM, 8, .inr (.inr (.inr (.inr (fun i => some (ad i))))))), (hw, .inr (2, [.ref qrow, .ref qfac, .int (iI (bz ng)), .int (iI (bz go))])), (qrow, .inl (cI, 72, .inl (dg W)))]) (RB ad ro cI cs) O hK hE (c_J9_min E hE ((Sc : Nat) : Int) ((P : Int) - ((tnds W - 20 : Nat) : Int)) (by omega) (by omega)) mlX3_9 smJ9_min inJ9 cdJ9_min 2 (by decide +kernel) ⟨Nat.le_of_ble_eq_true rfl, Nat.le_of_ble_eq_true rfl⟩ [] rfl [] rfl (by decide) [0, 1, 2, 3] rfl (by decide) (by decide) rfl rfl (Nat.le_of_ble_eq_true rfl) ⟨Nat.zero_le _, Nat.zero_le _⟩ dX3_keep_31 34 rfl (fun z u hu => ?_)
    obtain rfl : z = 20 - (((10 + tstp P Sc (tnds W - 20)) : Nat) : Int) := by rw [hu]; unfold tstp; split <;> split <;> omega
    have hPP : 10 ≤ (10 + tstp P Sc (tnds W - 20)) ∧ (10 + tstp P Sc (tnds W - 20)) ≤ 70 := by unfold tstp; split <;> omega
    show TGo X ([(h, .inr (3, [.int (iI ((P : Nat) : Int)), .int (iI ((Sc : Nat) : Int)), .int (iI m), .ref qam, .ref qrat, .ref qrm, .ref hw, .ref hsh, .ref ht])), (qam, .inl (cM, 8, .inr (.inr (.inr (.inr (fun i => some (ad i))))))), (hw, .inr (2, [.ref qrow, .ref qfac, .int (iI (bz ng)), .int (iI (bz go))])), (qrow, .inl (cI, 72, .inl (dg W)))] ++ RB ad ro cI cs) 0 0 34 [(4, .int (iI ((tnds W - 20 : Nat) : Int))), (0, .ref h), (1, .int (iI ((ρ : Nat) : Int))), (2, .int (iI (bz wide))), (3, .int (iI cu))] [.int (iI (20 - (((10 + tstp P Sc (tnds W - 20)) : Nat) : Int)))]
    refine go_istore O dX3_keep_34 (by decide) [(5, .int (iI (20 - (((10 + tstp P Sc (tnds W - 20)) : Nat) : Int)))), (4, .int (iI ((tnds W - 20 : Nat) : Int))), (0, .ref h), (1, .int (iI ((ρ : Nat) : Int))), (2, .int (iI (bz wide))), (3, .int (iI cu))] rfl 36 rfl ?_
    refine go_aload_n O dX3_keep_36 rfl 2 rfl 37 rfl ?_
    refine go_get O hK dX3_keep_37 hinX3 0 rfl rfl 6 (by decide) flX3_46 rfl 40 rfl ?_
    refine go_bipush O dX3_keep_40 (by decide) 42 rfl ?_
    refine go_iload O dX3_keep_42 0 rfl 44 rfl ?_
    refine go_isub O dX3_keep_44 (((10 + tstp P Sc (tnds W - 20)) : Nat) : Int) (by omega) 45 rfl ?_
    refine go_iconst O dX3_keep_45 46 rfl ?_
    refine go_aload_n O dX3_keep_46 rfl 2 rfl 47 rfl ?_
    refine go_get O hK dX3_keep_47 hinX3 0 rfl rfl 2 (by decide) flX3_25 rfl 50 rfl ?_
    refine go_calliVT (As := [.int (iI (((10 + tstp P Sc (tnds W - 20)) : Nat) : Int)), .int (iI 1), .int (iI m)]) (rest := []) (wr := [(h, .inr (3, [.int (iI ((P : Nat) : Int)), .int (iI ((Sc : Nat) : Int)), .int (iI m), .ref qam, .ref qrat, .ref qrm, .ref hw, .ref hsh, .ref ht])), (qam, .inl (cM, 8, .inr (.inr (.inr (.inr (fun i => some (ad i)))))))]) (RB ad ro cI cs) O hK hE (c_X2_toMultiple E hE hN hw qrow qfac cI ng go W (10 + tstp P Sc (tnds W - 20)) 1 m (Nat.lt_of_lt_of_le hW (p10le (by omega))) (by omega) (by omega) (Or.inl rfl) (by omega)) mlX3_117 imX2_toMultiple seX2_toMultiple inX2 cdX2_toMultiple 3 (by decide +kernel) ⟨Nat.le_of_ble_eq_true rfl, Nat.le_of_ble_eq_true rfl⟩ 2 rfl rfl [0] rfl [2, 3] rfl (by decide) [0, 1] rfl (by decide) (by decide) rfl rfl (Nat.le_of_ble_eq_true rfl) ⟨Nat.zero_le _, Nat.zero_le _⟩ dX3_keep_50 53 rfl (fun z u hu => ?_)
    obtain ⟨V2, g2⟩ := u
    obtain ⟨rfl, hV2, rfl⟩ : z = 1 ∧ V2 = trnd m ng (W / 10 ^ (10 + tstp P Sc (tnds W - 20))) (2 * (W % 10 ^ (10 + tstp P Sc (tnds W - 20))) + go.toNat) (2 * 10 ^ (10 + tstp P Sc (tnds W - 20))) * 10 ^ (10 + tstp P Sc (tnds W - 20)) ∧ g2 = false := by
      rcases hu with ⟨e1, e2, e3, e4⟩ | ⟨e1, e2, e3, e4⟩
      · rw [Nat.one_mul] at e3; exact ⟨e1, e3, e4⟩
      · omega
    subst hV2
    show TGo X ([(h, .inr (3, [.int (iI ((P : Nat) : Int)), .int (iI ((Sc : Nat) : Int)), .int (iI m), .ref qam, .ref qrat, .ref qrm, .ref hw, .ref hsh, .ref ht])), (qam, .inl (cM, 8, .inr (.inr (.inr (.inr (fun i => some (ad i))))))), (hw, .inr (2, [.ref qrow, .ref qfac, .int (iI (bz ng)), .int (iI 0)])), (qrow, .inl (cI, 72, .inl (dg (trnd m ng (W / 10 ^ (10 + tstp P Sc (tnds W - 20))) (2 * (W % 10 ^ (10 + tstp P Sc (tnds W - 20))) + go.toNat) (2 * 10 ^ (10 + tstp P Sc (tnds W - 20))) * 10 ^ (10 + tstp P Sc (tnds W - 20))))))] ++ RB ad ro cI cs) 0 0 53 [(5, .int (iI (20 - (((10 + tstp P Sc (tnds W - 20)) : Nat) : Int)))), (4, .int (iI ((tnds W - 20 : Nat) : Int))), (0, .ref h), (1, .int (iI ((ρ : Nat) : Int))), (2, .int (iI (bz wide))), (3, .int (iI cu))] [.int (iI 1)]
    refine go_pop O dX3_keep_53 rfl 54 rfl ?_
    refine go_aload_n O dX3_keep_54 rfl 2 rfl 55 rfl ?_
    refine go_iload_n O dX3_keep_55 rfl 3 rfl 56 rfl ?_
    refine go_iload_n O dX3_keep_56 rfl 4 rfl 57 rfl ?_
    refine go_iload_n O dX3_keep_57 rfl 5 rfl 58 rfl ?_
    refine go_calliVU (As := [.int (iI ((ρ : Nat) : Int)), .int (iI (bz wide)), .int (iI cu)]) (rest := []) (wr := []) (RB ad ro cI cs) O hK hE (c_X3_store E hE hN h qam qrat qrm hw hsh ht qrow qfac cI cM ad ro cs P Sc m ng false wide ρ (trnd m ng (W / 10 ^ (10 + tstp P Sc (tnds W - 20))) (2 * (W % 10 ^ (10 + tstp P Sc (tnds W - 20))) + go.toNat) (2 * 10 ^ (10 + tstp P Sc (tnds W - 20))) * 10 ^ (10 + tstp P Sc (tnds W - 20))) cu hρ (keep_bd hW (by omega))) mlX3_107 imX3_store seX3_store inX3 cdX3_store 3 (by decide +kernel) ⟨Nat.le_of_ble_eq_true rfl, Nat.le_of_ble_eq_true rfl⟩ 0 rfl rfl [0, 1] rfl [0, 1, 2, 3] rfl (by decide) [] rfl (by decide) (by decide) rfl rfl (Nat.le_of_ble_eq_true rfl) ⟨Nat.zero_le _, Nat.zero_le _⟩ dX3_keep_58 61 rfl (fun z u hu => ?_)
    obtain ⟨cs2, rfl⟩ : ∃ y, y = u := ⟨_, rfl⟩
    obtain ⟨rfl, hcs2⟩ := hu
    show TGo X ([(h, .inr (3, [.int (iI ((P : Nat) : Int)), .int (iI ((Sc : Nat) : Int)), .int (iI m), .ref qam, .ref qrat, .ref qrm, .ref hw, .ref hsh, .ref ht])), (qam, .inl (cM, 8, .inr (.inr (.inr (.inr (fun i => some (ad i))))))), (hw, .inr (2, [.ref qrow, .ref qfac, .int (iI (bz ng)), .int (iI 0)])), (qrow, .inl (cI, 72, .inl (dg (trnd m ng (W / 10 ^ (10 + tstp P Sc (tnds W - 20))) (2 * (W % 10 ^ (10 + tstp P Sc (tnds W - 20))) + go.toNat) (2 * 10 ^ (10 + tstp P Sc (tnds W - 20))) * 10 ^ (10 + tstp P Sc (tnds W - 20))))))] ++ RB ad ro cI cs2) 0 0 61 [(5, .int (iI (20 - (((10 + tstp P Sc (tnds W - 20)) : Nat) : Int)))), (4, .int (iI ((tnds W - 20 : Nat) : Int))), (0, .ref h), (1, .int (iI ((ρ : Nat) : Int))), (2, .int (iI (bz wide))), (3, .int (iI cu))] [.int (iI (ansO (tsto wide ng (trnd m ng (W / 10 ^ (10 + tstp P Sc (tnds W - 20))) (2 * (W % 10 ^ (10 + tstp P Sc (tnds W - 20))) + go.toNat) (2 * 10 ^ (10 + tstp P Sc (tnds W - 20))) * 10 ^ (10 + tstp P Sc (tnds W - 20))) false)))]
    have hk := tkeep_w (p := P) (s := Sc) (m := m) (ng := ng) (g := go) (W := W) h1
    exact hret _ _ _ (trnd m ng (W / 10 ^ (10 + tstp P Sc (tnds W - 20))) (2 * (W % 10 ^ (10 + tstp P Sc (tnds W - 20))) + go.toNat) (2 * 10 ^ (10 + tstp P Sc (tnds W - 20))) * 10 ^ (10 + tstp P Sc (tnds W - 20)), false, cs2) dX3_keep_61 rfl ⟨by rw [hk], by rw [hk]; exact hcs2⟩
set_option maxHeartbeats 4000000 in
set_option maxRecDepth 100000 in
/-- set -/
theorem c_X3_set (E : TEn) (hE : EnvOk E) (hN : NestOk E) (h qam qrat qrm hw hsh ht qrow qfac : Nat) (cI cM : ClassId) (ad ro : Nat → Nat) (cs : Cs) (P Sc : Nat) (m : Int) (hP : 19 ≤ P ∧ P ≤ 30) (hS : 5 ≤ Sc ∧ Sc ≤ 10) (hm : 0 ≤ m ∧ m ≤ 6) (ng go wide : Bool) (fw : Nat → Int32) (r cu v k : Int) (hr : r32 r) (hcu : r32 cu) (hk : r32 k) (hv : r64 v) : Cti vwCl E yX3_set wsX3_set (rmn 5 121) [.ref h, .int (iI r), .int (iI (bz wide)), .int (iI cu), .long (lI v), .int (iI k)] ([(h, .inr (3, [.int (iI ((P : Nat) : Int)), .int (iI ((Sc : Nat) : Int)), .int (iI m), .ref qam, .ref qrat, .ref qrm, .ref hw, .ref hsh, .ref ht])), (qam, .inl (cM, 8, .inr (.inr (.inr (.inr (fun i => some (ad i))))))), (hw, .inr (2, [.ref qrow, .ref qfac, .int (iI (bz ng)), .int (iI (bz go))])), (qrow, .inl (cI, 72, .inl fw))] ++ RB ad ro cI cs) [(cI, .int), (cM, .object "TwofoldAmounts$Amount")] (fun (z : Int) (u : (Nat → Int32) × Bool × Bool × Cs) => z = (spSet P Sc m (rof cs) r wide cu v k).1 ∧ rof u.2.2.2 = (spSet P Sc m (rof cs) r wide cu v k).2) (fun u => ([(h, .inr (3, [.int (iI ((P : Nat) : Int)), .int (iI ((Sc : Nat) : Int)), .int (iI m), .ref qam, .ref qrat, .ref qrm, .ref hw, .ref hsh, .ref ht])), (qam, .inl (cM, 8, .inr (.inr (.inr (.inr (fun i => some (ad i))))))), (hw, .inr (2, [.ref qrow, .ref qfac, .int (iI (bz u.2.1)), .int (iI (bz u.2.2.1))])), (qrow, .inl (cI, 72, .inl u.1))] ++ RB ad ro cI u.2.2.2)) := by
  refine enteri (by decide) (Nat.le_of_ble_eq_true rfl) ?_
  intro X O hK hin2 hret
  show TGo X ([(h, .inr (3, [.int (iI ((P : Nat) : Int)), .int (iI ((Sc : Nat) : Int)), .int (iI m), .ref qam, .ref qrat, .ref qrm, .ref hw, .ref hsh, .ref ht])), (qam, .inl (cM, 8, .inr (.inr (.inr (.inr (fun i => some (ad i))))))), (hw, .inr (2, [.ref qrow, .ref qfac, .int (iI (bz ng)), .int (iI (bz go))])), (qrow, .inl (cI, 72, .inl fw))] ++ RB ad ro cI cs) 0 0 0 [(0, .ref h), (1, .int (iI r)), (2, .int (iI (bz wide))), (3, .int (iI cu)), (4, .long (lI v)), (6, .int (iI k))] []
  refine go_iload_n O dX3_set_0 rfl 1 rfl 1 rfl ?_
  refine go_calliST (rest := []) (wr := [(h, .inr (3, [.int (iI ((P : Nat) : Int)), .int (iI ((Sc : Nat) : Int)), .int (iI m), .ref qam, .ref qrat, .ref qrm, .ref hw, .ref hsh, .ref ht])), (qam, .inl (cM, 8, .inr (.inr (.inr (.inr (fun i => some (ad i))))))), (hw, .inr (2, [.ref qrow, .ref qfac, .int (iI (bz ng)), .int (iI (bz go))])), (qrow, .inl (cI, 72, .inl fw))]) (RB ad ro cI cs) O hK hE (c_X3_isRegister E hE r hr) mlX3_60 smX3_isRegister inX3 cdX3_isRegister 1 (by decide +kernel) ⟨Nat.le_of_ble_eq_true rfl, Nat.le_of_ble_eq_true rfl⟩ [] rfl [] rfl (by decide) [0, 1, 2, 3] rfl (by decide) (by decide) rfl rfl (Nat.le_of_ble_eq_true rfl) ⟨Nat.zero_le _, Nat.zero_le _⟩ dX3_set_1 4 rfl (fun z u hu => ?_)
  subst hu
  show TGo X ([(h, .inr (3, [.int (iI ((P : Nat) : Int)), .int (iI ((Sc : Nat) : Int)), .int (iI m), .ref qam, .ref qrat, .ref qrm, .ref hw, .ref hsh, .ref ht])), (qam, .inl (cM, 8, .inr (.inr (.inr (.inr (fun i => some (ad i))))))), (hw, .inr (2, [.ref qrow, .ref qfac, .int (iI (bz ng)), .int (iI (bz go))])), (qrow, .inl (cI, 72, .inl fw))] ++ RB ad ro cI cs) 0 0 4 [(0, .ref h), (1, .int (iI r)), (2, .int (iI (bz wide))), (3, .int (iI cu)), (4, .long (lI v)), (6, .int (iI k))] [.int (iI (bz (decide (0 ≤ r ∧ r < 8))))]
  refine go_if_eq O dX3_set_4 25 (by decide) 7 rfl (bz_r _) (fun h4 => ?_) (fun h4 => ?_)
  · refine go_bipush O dX3_set_25 (by decide) 27 rfl ?_
    have he := spSet_bad (P := P) (Sc := Sc) (m := m) (reg := rof cs) (r := r) (wide := wide) (cu := cu) (v := v) (k := k) (fun e => bzd_z h4 (by omega))
    exact hret _ _ _ (fw, ng, go, cs) dX3_set_27 rfl ⟨by rw [he], by rw [he]⟩
  · refine go_iload_n O dX3_set_7 rfl 3 rfl 8 rfl ?_
    refine go_if_lt O dX3_set_8 25 (by decide) 11 rfl (by omega) (fun h8 => ?_) (fun h8 => ?_)
    · refine go_bipush O dX3_set_25 (by decide) 27 rfl ?_
      have he := spSet_bad (P := P) (Sc := Sc) (m := m) (reg := rof cs) (r := r) (wide := wide) (cu := cu) (v := v) (k := k) (by omega)
      exact hret _ _ _ (fw, ng, go, cs) dX3_set_27 rfl ⟨by rw [he], by rw [he]⟩
    · refine go_iload_n O dX3_set_11 rfl 3 rfl 12 rfl ?_
      refine go_bipush O dX3_set_12 (by decide) 14 rfl ?_
      refine go_icmp_ge O dX3_set_14 25 (by decide) 17 rfl (by omega) (by omega) (fun h14 => ?_) (fun h14 => ?_)
      · refine go_bipush O dX3_set_25 (by decide) 27 rfl ?_
        have he := spSet_bad (P := P) (Sc := Sc) (m := m) (reg := rof cs) (r := r) (wide := wide) (cu := cu) (v := v) (k := k) (by omega)
        exact hret _ _ _ (fw, ng, go, cs) dX3_set_27 rfl ⟨by rw [he], by rw [he]⟩
      · refine go_iload O dX3_set_17 5 rfl 19 rfl ?_
        refine go_calliST (rest := []) (wr := [(h, .inr (3, [.int (iI ((P : Nat) : Int)), .int (iI ((Sc : Nat) : Int)), .int (iI m), .ref qam, .ref qrat, .ref qrm, .ref hw, .ref hsh, .ref ht])), (qam, .inl (cM, 8, .inr (.inr (.inr (.inr (fun i => some (ad i))))))), (hw, .inr (2, [.ref qrow, .ref qfac, .int (iI (bz ng)), .int (iI (bz go))])), (qrow, .inl (cI, 72, .inl fw))]) (RB ad ro cI cs) O hK hE (c_X3_isPower E hE k hk) mlX3_64 smX3_isPower inX3 cdX3_isPower 1 (by decide +kernel) ⟨Nat.le_of_ble_eq_true rfl, Nat.le_of_ble_eq_true rfl⟩ [] rfl [] rfl (by decide) [0, 1, 2, 3] rfl (by decide) (by decide) rfl rfl (Nat.le_of_ble_eq_true rfl) ⟨Nat.zero_le _, Nat.zero_le _⟩ dX3_set_19 22 rfl (fun z u hu => ?_)
        subst hu
        show TGo X ([(h, .inr (3, [.int (iI ((P : Nat) : Int)), .int (iI ((Sc : Nat) : Int)), .int (iI m), .ref qam, .ref qrat, .ref qrm, .ref hw, .ref hsh, .ref ht])), (qam, .inl (cM, 8, .inr (.inr (.inr (.inr (fun i => some (ad i))))))), (hw, .inr (2, [.ref qrow, .ref qfac, .int (iI (bz ng)), .int (iI (bz go))])), (qrow, .inl (cI, 72, .inl fw))] ++ RB ad ro cI cs) 0 0 22 [(0, .ref h), (1, .int (iI r)), (2, .int (iI (bz wide))), (3, .int (iI cu)), (4, .long (lI v)), (6, .int (iI k))] [.int (iI (bz (decide (0 ≤ k ∧ k ≤ 9))))]
        refine go_if_ne O dX3_set_22 28 (by decide) 25 rfl (bz_r _) (fun h22 => ?_) (fun h22 => ?_)
        · have hr8 := bzd_ne h4
          have hk9 := bzd_ne h22
          obtain ⟨ρ, rfl⟩ : ∃ ρ : Nat, r = (ρ : Int) := ⟨r.toNat, by omega⟩
          obtain ⟨κ, rfl⟩ : ∃ κ : Nat, k = (κ : Int) := ⟨k.toNat, by omega⟩
          refine go_aload_n O dX3_set_28 rfl 0 rfl 29 rfl ?_
          refine go_get O hK dX3_set_29 hinX3 0 rfl rfl 6 (by decide) flX3_46 rfl 32 rfl ?_
          refine go_lload O dX3_set_32 4 rfl 34 rfl ?_
          refine go_bipush O dX3_set_34 (by decide) 36 rfl ?_
          refine go_iload O dX3_set_36 5 rfl 38 rfl ?_
          refine go_isub O dX3_set_38 ((20 - κ : Nat) : Int) (by omega) 39 rfl ?_
          refine go_callvVT (As := [.long (lI v), .int (iI ((20 - κ : Nat) : Int))]) (rest := []) (wr := [(h, .inr (3, [.int (iI ((P : Nat) : Int)), .int (iI ((Sc : Nat) : Int)), .int (iI m), .ref qam, .ref qrat, .ref qrm, .ref hw, .ref hsh, .ref ht])), (qam, .inl (cM, 8, .inr (.inr (.inr (.inr (fun i => some (ad i)))))))]) (RB ad ro cI cs) O hK hE (c_X2_loadNumber E hE hw qrow qfac cI ng go (20 - κ) fw v hv (by omega)) mlX3_67 imX2_loadNumber seX2_loadNumber inX2 cdX2_loadNumber 2 (by decide +kernel) ⟨Nat.le_of_ble_eq_true rfl, Nat.le_of_ble_eq_true rfl⟩ 2 rfl rfl [0] rfl [2, 3] rfl (by decide) [0, 1] rfl (by decide) (by decide) rfl rfl (Nat.le_of_ble_eq_true rfl) ⟨Nat.zero_le _, Nat.zero_le _⟩ dX3_set_39 42 rfl (fun u hu => ?_)
          show TGo X ([(h, .inr (3, [.int (iI ((P : Nat) : Int)), .int (iI ((Sc : Nat) : Int)), .int (iI m), .ref qam, .ref qrat, .ref qrm, .ref hw, .ref hsh, .ref ht])), (qam, .inl (cM, 8, .inr (.inr (.inr (.inr (fun i => some (ad i))))))), (hw, .inr (2, [.ref qrow, .ref qfac, .int (iI (bz (decide (v < 0)))), .int (iI 0)])), (qrow, .inl (cI, 72, .inl (dg (v.natAbs * 10 ^ (20 - κ)))))] ++ RB ad ro cI cs) 0 0 42 [(0, .ref h), (1, .int (iI ((ρ : Nat) : Int))), (2, .int (iI (bz wide))), (3, .int (iI cu)), (4, .long (lI v)), (6, .int (iI ((κ : Nat) : Int)))] []
          refine go_aload_n O dX3_set_42 rfl 0 rfl 43 rfl ?_
          refine go_iload_n O dX3_set_43 rfl 1 rfl 44 rfl ?_
          refine go_iload_n O dX3_set_44 rfl 2 rfl 45 rfl ?_
          refine go_iload_n O dX3_set_45 rfl 3 rfl 46 rfl ?_
          refine go_calliVU (As := [.int (iI ((ρ : Nat) : Int)), .int (iI (bz wide)), .int (iI cu)]) (rest := []) (wr := []) (RB ad ro cI cs) O hK hE (c_X3_keep E hE hN h qam qrat qrm hw hsh ht qrow qfac cI cM ad ro cs P Sc m hP hS hm (decide (v < 0)) false wide ρ (v.natAbs * 10 ^ (20 - κ)) cu (by omega) (by have := set_bd2 (κ := κ) hv; omega)) mlX3_71 imX3_keep seX3_keep inX3 cdX3_keep 3 (by decide +kernel) ⟨Nat.le_of_ble_eq_true rfl, Nat.le_of_ble_eq_true rfl⟩ 0 rfl rfl [0, 1] rfl [0, 1, 2, 3] rfl (by decide) [] rfl (by decide) (by decide) rfl rfl (Nat.le_of_ble_eq_true rfl) ⟨Nat.zero_le _, Nat.zero_le _⟩ dX3_set_46 49 rfl (fun z u hu => ?_)
          obtain ⟨W2, g2, cs2⟩ := u
          obtain ⟨rfl, hcs2⟩ := hu
          show TGo X ([(h, .inr (3, [.int (iI ((P : Nat) : Int)), .int (iI ((Sc : Nat) : Int)), .int (iI m), .ref qam, .ref qrat, .ref qrm, .ref hw, .ref hsh, .ref ht])), (qam, .inl (cM, 8, .inr (.inr (.inr (.inr (fun i => some (ad i))))))), (hw, .inr (2, [.ref qrow, .ref qfac, .int (iI (bz (decide (v < 0)))), .int (iI (bz g2))])), (qrow, .inl (cI, 72, .inl (dg W2)))] ++ RB ad ro cI cs2) 0 0 49 [(0, .ref h), (1, .int (iI ((ρ : Nat) : Int))), (2, .int (iI (bz wide))), (3, .int (iI cu)), (4, .long (lI v)), (6, .int (iI ((κ : Nat) : Int)))] [.int (iI (ansO (tkeep P Sc m wide (decide (v < 0)) (v.natAbs * 10 ^ (20 - κ)) false)))]
          have he := spSet_ok (P := P) (Sc := Sc) (m := m) (reg := rof cs) (ρ := ρ) (κ := κ) (wide := wide) (mi := decide (v < 0)) (cu := cu) (v := v) ⟨by omega, by omega, by omega⟩ rfl
          rw [show Int.natAbs 1 = 1 from rfl, tst_1 hP hS, p1010 (by omega)] at he
          exact hret _ _ _ (dg W2, decide (v < 0), g2, cs2) dX3_set_49 rfl ⟨by rw [he], by rw [he]; exact hcs2⟩
        · refine go_bipush O dX3_set_25 (by decide) 27 rfl ?_
          have he := spSet_bad (P := P) (Sc := Sc) (m := m) (reg := rof cs) (r := r) (wide := wide) (cu := cu) (v := v) (k := k) (fun e => bzd_z h22 (by omega))
          exact hret _ _ _ (fw, ng, go, cs) dX3_set_27 rfl ⟨by rw [he], by rw [he]⟩
