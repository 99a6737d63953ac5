section
-- ===== PART A: goes FIRST, ahead of the names: the tables' words, and 'selects' of the private methods out of them =====
/-- a private method of a class that the tables say can be made, by its rows of tables_1 -/
def lw_okq (q : MethodName × Nat) : Prop := (q.1.cls ≠ "java/lang/invoke/MethodHandle" ∧ q.1.cls ≠ "java/lang/invoke/VarHandle") ∧ Cond.instantiable q.1.cls q.2 ∈ tables_1 ∧ Cond.privateMethod q.1 ∈ tables_1 ∧ Cond.instanceMethod q.1 ∈ tables_1
theorem lw_p0 : lw_okq (⟨"TwofoldAmounts", "keep", "(IZI)I"⟩, 9) := ⟨⟨by decide +kernel, by decide +kernel⟩, List.mem_of_getElem? (i := 11) (by decide +kernel), List.mem_of_getElem? (i := 157) (by decide +kernel), List.mem_of_getElem? (i := 158) (by decide +kernel)⟩
theorem lw_p1 : lw_okq (⟨"TwofoldAmounts$Work", "goesAway", "(IIZ)Z"⟩, 4) := ⟨⟨by decide +kernel, by decide +kernel⟩, List.mem_of_getElem? (i := 54) (by decide +kernel), List.mem_of_getElem? (i := 175) (by decide +kernel), List.mem_of_getElem? (i := 176) (by decide +kernel)⟩
theorem lw_p2 : lw_okq (⟨"TwofoldAmounts", "store", "(IZI)I"⟩, 9) := ⟨⟨by decide +kernel, by decide +kernel⟩, List.mem_of_getElem? (i := 11) (by decide +kernel), List.mem_of_getElem? (i := 193) (by decide +kernel), List.mem_of_getElem? (i := 194) (by decide +kernel)⟩
theorem lw_p3 : lw_okq (⟨"TwofoldAmounts", "combine", "(IIIZ)I"⟩, 9) := ⟨⟨by decide +kernel, by decide +kernel⟩, List.mem_of_getElem? (i := 11) (by decide +kernel), List.mem_of_getElem? (i := 222) (by decide +kernel), List.mem_of_getElem? (i := 223) (by decide +kernel)⟩
theorem lw_p4 : lw_okq (⟨"TwofoldAmounts", "sumOfRatios", "(I)J"⟩, 9) := ⟨⟨by decide +kernel, by decide +kernel⟩, List.mem_of_getElem? (i := 11) (by decide +kernel), List.mem_of_getElem? (i := 288) (by decide +kernel), List.mem_of_getElem? (i := 289) (by decide +kernel)⟩
theorem lw_p5 : lw_okq (⟨"TwofoldAmounts", "splitRest", "(JJI)J"⟩, 9) := ⟨⟨by decide +kernel, by decide +kernel⟩, List.mem_of_getElem? (i := 11) (by decide +kernel), List.mem_of_getElem? (i := 292) (by decide +kernel), List.mem_of_getElem? (i := 293) (by decide +kernel)⟩
theorem lw_p6 : lw_okq (⟨"TwofoldAmounts", "rankOf", "(II)I"⟩, 9) := ⟨⟨by decide +kernel, by decide +kernel⟩, List.mem_of_getElem? (i := 11) (by decide +kernel), List.mem_of_getElem? (i := 296) (by decide +kernel), List.mem_of_getElem? (i := 297) (by decide +kernel)⟩
theorem lw_p7 : lw_okq (⟨"TwofoldAmounts", "writeNumber", "(II)V"⟩, 9) := ⟨⟨by decide +kernel, by decide +kernel⟩, List.mem_of_getElem? (i := 11) (by decide +kernel), List.mem_of_getElem? (i := 329) (by decide +kernel), List.mem_of_getElem? (i := 330) (by decide +kernel)⟩
theorem lw_p8 : lw_okq (⟨"TwofoldAmounts", "writeBody", "(IZ)V"⟩, 9) := ⟨⟨by decide +kernel, by decide +kernel⟩, List.mem_of_getElem? (i := 11) (by decide +kernel), List.mem_of_getElem? (i := 337) (by decide +kernel), List.mem_of_getElem? (i := 338) (by decide +kernel)⟩
theorem lw_p9 : lw_okq (⟨"TwofoldAmounts", "readStyle", "(I)Z"⟩, 9) := ⟨⟨by decide +kernel, by decide +kernel⟩, List.mem_of_getElem? (i := 11) (by decide +kernel), List.mem_of_getElem? (i := 363) (by decide +kernel), List.mem_of_getElem? (i := 364) (by decide +kernel)⟩
theorem lw_p10 : lw_okq (⟨"TwofoldAmounts", "readNumber", "(I)Z"⟩, 9) := ⟨⟨by decide +kernel, by decide +kernel⟩, List.mem_of_getElem? (i := 11) (by decide +kernel), List.mem_of_getElem? (i := 367) (by decide +kernel), List.mem_of_getElem? (i := 368) (by decide +kernel)⟩
theorem lw_p11 : lw_okq (⟨"TwofoldAmounts", "readBody", "(Z)Z"⟩, 9) := ⟨⟨by decide +kernel, by decide +kernel⟩, List.mem_of_getElem? (i := 11) (by decide +kernel), List.mem_of_getElem? (i := 375) (by decide +kernel), List.mem_of_getElem? (i := 376) (by decide +kernel)⟩
theorem lw_p12 : lw_okq (⟨"TwofoldAmounts", "takeWhole", "(II)V"⟩, 9) := ⟨⟨by decide +kernel, by decide +kernel⟩, List.mem_of_getElem? (i := 11) (by decide +kernel), List.mem_of_getElem? (i := 388) (by decide +kernel), List.mem_of_getElem? (i := 389) (by decide +kernel)⟩
theorem lw_p13 : lw_okq (⟨"TwofoldAmountsModel", "settle", "(IIZZ)I"⟩, 27) := ⟨⟨by decide +kernel, by decide +kernel⟩, List.mem_of_getElem? (i := 400) (by decide +kernel), List.mem_of_getElem? (i := 506) (by decide +kernel), List.mem_of_getElem? (i := 507) (by decide +kernel)⟩
theorem lw_p14 : lw_okq (⟨"TwofoldAmountsModel", "quotient", "()V"⟩, 27) := ⟨⟨by decide +kernel, by decide +kernel⟩, List.mem_of_getElem? (i := 400) (by decide +kernel), List.mem_of_getElem? (i := 513) (by decide +kernel), List.mem_of_getElem? (i := 514) (by decide +kernel)⟩
theorem lw_p15 : lw_okq (⟨"TwofoldAmountsModel", "rounds", "(ZI)Z"⟩, 27) := ⟨⟨by decide +kernel, by decide +kernel⟩, List.mem_of_getElem? (i := 400) (by decide +kernel), List.mem_of_getElem? (i := 526) (by decide +kernel), List.mem_of_getElem? (i := 527) (by decide +kernel)⟩
def lw_privs_1 : List (MethodName × Nat) := [(⟨"TwofoldAmounts", "keep", "(IZI)I"⟩, 9), (⟨"TwofoldAmounts$Work", "goesAway", "(IIZ)Z"⟩, 4), (⟨"TwofoldAmounts", "store", "(IZI)I"⟩, 9), (⟨"TwofoldAmounts", "combine", "(IIIZ)I"⟩, 9), (⟨"TwofoldAmounts", "sumOfRatios", "(I)J"⟩, 9), (⟨"TwofoldAmounts", "splitRest", "(JJI)J"⟩, 9), (⟨"TwofoldAmounts", "rankOf", "(II)I"⟩, 9), (⟨"TwofoldAmounts", "writeNumber", "(II)V"⟩, 9), (⟨"TwofoldAmounts", "writeBody", "(IZ)V"⟩, 9), (⟨"TwofoldAmounts", "readStyle", "(I)Z"⟩, 9), (⟨"TwofoldAmounts", "readNumber", "(I)Z"⟩, 9), (⟨"TwofoldAmounts", "readBody", "(Z)Z"⟩, 9), (⟨"TwofoldAmounts", "takeWhole", "(II)V"⟩, 9), (⟨"TwofoldAmountsModel", "settle", "(IIZZ)I"⟩, 27), (⟨"TwofoldAmountsModel", "quotient", "()V"⟩, 27), (⟨"TwofoldAmountsModel", "rounds", "(ZI)Z"⟩, 27)]
theorem lw_r1 : ∀ q ∈ lw_privs_1, lw_okq q := List.forall_mem_cons.mpr ⟨lw_p0, List.forall_mem_cons.mpr ⟨lw_p1, List.forall_mem_cons.mpr ⟨lw_p2, List.forall_mem_cons.mpr ⟨lw_p3, List.forall_mem_cons.mpr ⟨lw_p4, List.forall_mem_cons.mpr ⟨lw_p5, List.forall_mem_cons.mpr ⟨lw_p6, List.forall_mem_cons.mpr ⟨lw_p7, List.forall_mem_cons.mpr ⟨lw_p8, List.forall_mem_cons.mpr ⟨lw_p9, List.forall_mem_cons.mpr ⟨lw_p10, List.forall_mem_cons.mpr ⟨lw_p11, List.forall_mem_cons.mpr ⟨lw_p12, List.forall_mem_cons.mpr ⟨lw_p13, List.forall_mem_cons.mpr ⟨lw_p14, List.forall_mem_cons.mpr ⟨lw_p15, fun _ h => absurd h List.not_mem_nil⟩⟩⟩⟩⟩⟩⟩⟩⟩⟩⟩⟩⟩⟩⟩⟩
theorem lw_p16 : lw_okq (⟨"TwofoldAmountsModel", "fits", "([IZZ)Z"⟩, 27) := ⟨⟨by decide +kernel, by decide +kernel⟩, List.mem_of_getElem? (i := 400) (by decide +kernel), List.mem_of_getElem? (i := 533) (by decide +kernel), List.mem_of_getElem? (i := 534) (by decide +kernel)⟩
theorem lw_p17 : lw_okq (⟨"TwofoldAmountsModel", "keep", "(IIZZ[I)I"⟩, 27) := ⟨⟨by decide +kernel, by decide +kernel⟩, List.mem_of_getElem? (i := 400) (by decide +kernel), List.mem_of_getElem? (i := 539) (by decide +kernel), List.mem_of_getElem? (i := 540) (by decide +kernel)⟩
theorem lw_p18 : lw_okq (⟨"TwofoldAmountsModel", "sum", "(IIIZ)I"⟩, 27) := ⟨⟨by decide +kernel, by decide +kernel⟩, List.mem_of_getElem? (i := 400) (by decide +kernel), List.mem_of_getElem? (i := 547) (by decide +kernel), List.mem_of_getElem? (i := 548) (by decide +kernel)⟩
theorem lw_p19 : lw_okq (⟨"TwofoldAmountsModel", "take", "([II)V"⟩, 27) := ⟨⟨by decide +kernel, by decide +kernel⟩, List.mem_of_getElem? (i := 400) (by decide +kernel), List.mem_of_getElem? (i := 551) (by decide +kernel), List.mem_of_getElem? (i := 552) (by decide +kernel)⟩
theorem lw_p20 : lw_okq (⟨"TwofoldAmountsModel", "product", "([I[I)V"⟩, 27) := ⟨⟨by decide +kernel, by decide +kernel⟩, List.mem_of_getElem? (i := 400) (by decide +kernel), List.mem_of_getElem? (i := 563) (by decide +kernel), List.mem_of_getElem? (i := 564) (by decide +kernel)⟩
theorem lw_p21 : lw_okq (⟨"TwofoldAmountsModel", "step", "(II)V"⟩, 27) := ⟨⟨by decide +kernel, by decide +kernel⟩, List.mem_of_getElem? (i := 400) (by decide +kernel), List.mem_of_getElem? (i := 579) (by decide +kernel), List.mem_of_getElem? (i := 580) (by decide +kernel)⟩
theorem lw_p22 : lw_okq (⟨"TwofoldAmountsModel", "cut", "(II)V"⟩, 27) := ⟨⟨by decide +kernel, by decide +kernel⟩, List.mem_of_getElem? (i := 400) (by decide +kernel), List.mem_of_getElem? (i := 595) (by decide +kernel), List.mem_of_getElem? (i := 596) (by decide +kernel)⟩
theorem lw_p23 : lw_okq (⟨"TwofoldAmountsModel", "left", "(I)I"⟩, 27) := ⟨⟨by decide +kernel, by decide +kernel⟩, List.mem_of_getElem? (i := 400) (by decide +kernel), List.mem_of_getElem? (i := 602) (by decide +kernel), List.mem_of_getElem? (i := 603) (by decide +kernel)⟩
theorem lw_p24 : lw_okq (⟨"TwofoldAmountsModel", "part", "(II)V"⟩, 27) := ⟨⟨by decide +kernel, by decide +kernel⟩, List.mem_of_getElem? (i := 400) (by decide +kernel), List.mem_of_getElem? (i := 606) (by decide +kernel), List.mem_of_getElem? (i := 607) (by decide +kernel)⟩
theorem lw_p25 : lw_okq (⟨"TwofoldAmountsModel", "putCode", "(I)V"⟩, 27) := ⟨⟨by decide +kernel, by decide +kernel⟩, List.mem_of_getElem? (i := 400) (by decide +kernel), List.mem_of_getElem? (i := 636) (by decide +kernel), List.mem_of_getElem? (i := 637) (by decide +kernel)⟩
theorem lw_p26 : lw_okq (⟨"TwofoldAmountsModel", "put", "(I)V"⟩, 27) := ⟨⟨by decide +kernel, by decide +kernel⟩, List.mem_of_getElem? (i := 400) (by decide +kernel), List.mem_of_getElem? (i := 640) (by decide +kernel), List.mem_of_getElem? (i := 641) (by decide +kernel)⟩
theorem lw_p27 : lw_okq (⟨"TwofoldAmountsModel", "putNumber", "(IIZ)V"⟩, 27) := ⟨⟨by decide +kernel, by decide +kernel⟩, List.mem_of_getElem? (i := 400) (by decide +kernel), List.mem_of_getElem? (i := 644) (by decide +kernel), List.mem_of_getElem? (i := 645) (by decide +kernel)⟩
theorem lw_p28 : lw_okq (⟨"TwofoldAmountsModel", "readNumber", "(I)V"⟩, 27) := ⟨⟨by decide +kernel, by decide +kernel⟩, List.mem_of_getElem? (i := 400) (by decide +kernel), List.mem_of_getElem? (i := 664) (by decide +kernel), List.mem_of_getElem? (i := 665) (by decide +kernel)⟩
theorem lw_p29 : lw_okq (⟨"TwofoldAmountsModel", "sees", "(I)Z"⟩, 27) := ⟨⟨by decide +kernel, by decide +kernel⟩, List.mem_of_getElem? (i := 400) (by decide +kernel), List.mem_of_getElem? (i := 668) (by decide +kernel), List.mem_of_getElem? (i := 669) (by decide +kernel)⟩
theorem lw_p30 : lw_okq (⟨"TwofoldAmountsModel", "readBody", "(Z)V"⟩, 27) := ⟨⟨by decide +kernel, by decide +kernel⟩, List.mem_of_getElem? (i := 400) (by decide +kernel), List.mem_of_getElem? (i := 672) (by decide +kernel), List.mem_of_getElem? (i := 673) (by decide +kernel)⟩
theorem lw_p31 : lw_okq (⟨"TwofoldAmountsModel", "need", "(II)V"⟩, 27) := ⟨⟨by decide +kernel, by decide +kernel⟩, List.mem_of_getElem? (i := 400) (by decide +kernel), List.mem_of_getElem? (i := 676) (by decide +kernel), List.mem_of_getElem? (i := 677) (by decide +kernel)⟩
def lw_privs_2 : List (MethodName × Nat) := [(⟨"TwofoldAmountsModel", "fits", "([IZZ)Z"⟩, 27), (⟨"TwofoldAmountsModel", "keep", "(IIZZ[I)I"⟩, 27), (⟨"TwofoldAmountsModel", "sum", "(IIIZ)I"⟩, 27), (⟨"TwofoldAmountsModel", "take", "([II)V"⟩, 27), (⟨"TwofoldAmountsModel", "product", "([I[I)V"⟩, 27), (⟨"TwofoldAmountsModel", "step", "(II)V"⟩, 27), (⟨"TwofoldAmountsModel", "cut", "(II)V"⟩, 27), (⟨"TwofoldAmountsModel", "left", "(I)I"⟩, 27), (⟨"TwofoldAmountsModel", "part", "(II)V"⟩, 27), (⟨"TwofoldAmountsModel", "putCode", "(I)V"⟩, 27), (⟨"TwofoldAmountsModel", "put", "(I)V"⟩, 27), (⟨"TwofoldAmountsModel", "putNumber", "(IIZ)V"⟩, 27), (⟨"TwofoldAmountsModel", "readNumber", "(I)V"⟩, 27), (⟨"TwofoldAmountsModel", "sees", "(I)Z"⟩, 27), (⟨"TwofoldAmountsModel", "readBody", "(Z)V"⟩, 27), (⟨"TwofoldAmountsModel", "need", "(II)V"⟩, 27)]
theorem lw_r2 : ∀ q ∈ lw_privs_2, lw_okq q := List.forall_mem_cons.mpr ⟨lw_p16, List.forall_mem_cons.mpr ⟨lw_p17, List.forall_mem_cons.mpr ⟨lw_p18, List.forall_mem_cons.mpr ⟨lw_p19, List.forall_mem_cons.mpr ⟨lw_p20, List.forall_mem_cons.mpr ⟨lw_p21, List.forall_mem_cons.mpr ⟨lw_p22, List.forall_mem_cons.mpr ⟨lw_p23, List.forall_mem_cons.mpr ⟨lw_p24, List.forall_mem_cons.mpr ⟨lw_p25, List.forall_mem_cons.mpr ⟨lw_p26, List.forall_mem_cons.mpr ⟨lw_p27, List.forall_mem_cons.mpr ⟨lw_p28, List.forall_mem_cons.mpr ⟨lw_p29, List.forall_mem_cons.mpr ⟨lw_p30, List.forall_mem_cons.mpr ⟨lw_p31, fun _ h => absurd h List.not_mem_nil⟩⟩⟩⟩⟩⟩⟩⟩⟩⟩⟩⟩⟩⟩⟩⟩
theorem lw_p32 : lw_okq (⟨"TwofoldAmountsModel", "digitsUpTo", "(I)I"⟩, 27) := ⟨⟨by decide +kernel, by decide +kernel⟩, List.mem_of_getElem? (i := 400) (by decide +kernel), List.mem_of_getElem? (i := 680) (by decide +kernel), List.mem_of_getElem? (i := 681) (by decide +kernel)⟩
theorem lw_p33 : lw_okq (⟨"TwofoldAmountsModel", "seesDigit", "()Z"⟩, 27) := ⟨⟨by decide +kernel, by decide +kernel⟩, List.mem_of_getElem? (i := 400) (by decide +kernel), List.mem_of_getElem? (i := 684) (by decide +kernel), List.mem_of_getElem? (i := 685) (by decide +kernel)⟩
theorem lw_p34 : lw_okq (⟨"TwofoldAmountsModel", "fail", "()V"⟩, 27) := ⟨⟨by decide +kernel, by decide +kernel⟩, List.mem_of_getElem? (i := 400) (by decide +kernel), List.mem_of_getElem? (i := 688) (by decide +kernel), List.mem_of_getElem? (i := 689) (by decide +kernel)⟩
theorem lw_p35 : lw_okq (⟨"TwofoldAmountsModel", "expect", "(I)V"⟩, 27) := ⟨⟨by decide +kernel, by decide +kernel⟩, List.mem_of_getElem? (i := 400) (by decide +kernel), List.mem_of_getElem? (i := 692) (by decide +kernel), List.mem_of_getElem? (i := 693) (by decide +kernel)⟩
theorem lw_p36 : lw_okq (⟨"TwofoldAmountsModel", "readCode", "()V"⟩, 27) := ⟨⟨by decide +kernel, by decide +kernel⟩, List.mem_of_getElem? (i := 400) (by decide +kernel), List.mem_of_getElem? (i := 696) (by decide +kernel), List.mem_of_getElem? (i := 697) (by decide +kernel)⟩
def lw_privs_3 : List (MethodName × Nat) := [(⟨"TwofoldAmountsModel", "digitsUpTo", "(I)I"⟩, 27), (⟨"TwofoldAmountsModel", "seesDigit", "()Z"⟩, 27), (⟨"TwofoldAmountsModel", "fail", "()V"⟩, 27), (⟨"TwofoldAmountsModel", "expect", "(I)V"⟩, 27), (⟨"TwofoldAmountsModel", "readCode", "()V"⟩, 27)]
theorem lw_r3 : ∀ q ∈ lw_privs_3, lw_okq q := List.forall_mem_cons.mpr ⟨lw_p32, List.forall_mem_cons.mpr ⟨lw_p33, List.forall_mem_cons.mpr ⟨lw_p34, List.forall_mem_cons.mpr ⟨lw_p35, List.forall_mem_cons.mpr ⟨lw_p36, fun _ h => absurd h List.not_mem_nil⟩⟩⟩⟩⟩
def lw_privs : List (MethodName × Nat) := lw_privs_1 ++ (lw_privs_2 ++ (lw_privs_3))
def lw_tbl : List Cond := k2_sels lw_privs ++ tables_1
theorem lw_privs_ok : ∀ q ∈ lw_privs, lw_okq q := by
  show ∀ q ∈ lw_privs_1 ++ (lw_privs_2 ++ (lw_privs_3)), lw_okq q
  exact List.forall_mem_append.mpr ⟨lw_r1, List.forall_mem_append.mpr ⟨lw_r2, lw_r3⟩⟩
end
section
/-! Names, fields, words of the tables by their places, decode rows: written by program (wip/whole-gen/names.py). -/
def Gw : List Cond := lw_tbl.filter goodWord
theorem gw_of {w : Cond} (k : Nat) (h : lw_tbl[k]? = some w) (hg : goodWord w = true) : w ∈ Gw := List.mem_filter.mpr ⟨List.mem_of_getElem? h, hg⟩
theorem gw_good {w : Cond} (h : w ∈ Gw) : (w.onTables && w.keeps) = true ∨ ∃ ty, w = .arrayClass ty := good_of_word (List.mem_filter.mp h).2
def RX0 : String := "TwofoldAmounts$Amount"
def TX0 : u_T := fun k => match k with
  | 0 => ("TwofoldAmounts$Amount", "row", "[I", true)
  | 1 => ("TwofoldAmounts$Amount", "held", "Z", false)
  | 2 => ("TwofoldAmounts$Amount", "wide", "Z", false)
  | 3 => ("TwofoldAmounts$Amount", "negative", "Z", false)
  | _ => ("TwofoldAmounts$Amount", "currency", "I", false)
def tyX0 : Nat → FieldType := fun k => match k with
  | 0 => .array .int
  | 1 => .boolean
  | 2 => .boolean
  | 3 => .boolean
  | _ => .int
abbrev wsX00 : List Cond := u_ws RX0 TX0 5
theorem nmX0 : ∀ a, a < 5 → ∀ b, b < 5 → a ≠ b → (TX0 a).2.1 ≠ (TX0 b).2.1 := by decide +kernel
theorem tyX0_ok : ∀ k, k < 5 → parseFieldDescriptor (TX0 k).2.2.1 = some (tyX0 k) := by decide +kernel
def RX1 : String := "TwofoldAmounts$Text"
def TX1 : u_T := fun k => match k with
  | 0 => ("TwofoldAmounts$Text", "letters", "[I", true)
  | 1 => ("TwofoldAmounts$Text", "size", "I", false)
  | 2 => ("TwofoldAmounts$Text", "at", "I", false)
  | _ => ("TwofoldAmounts$Text", "currency", "I", false)
def tyX1 : Nat → FieldType := fun k => match k with
  | 0 => .array .int
  | 1 => .int
  | 2 => .int
  | _ => .int
abbrev wsX10 : List Cond := u_ws RX1 TX1 4
theorem nmX1 : ∀ a, a < 4 → ∀ b, b < 4 → a ≠ b → (TX1 a).2.1 ≠ (TX1 b).2.1 := by decide +kernel
theorem tyX1_ok : ∀ k, k < 4 → parseFieldDescriptor (TX1 k).2.2.1 = some (tyX1 k) := by decide +kernel
def RX2 : String := "TwofoldAmounts$Work"
def TX2 : u_T := fun k => match k with
  | 0 => ("TwofoldAmounts$Work", "row", "[I", true)
  | 1 => ("TwofoldAmounts$Work", "factor", "[I", true)
  | 2 => ("TwofoldAmounts$Work", "negative", "Z", false)
  | _ => ("TwofoldAmounts$Work", "goesOn", "Z", false)
def tyX2 : Nat → FieldType := fun k => match k with
  | 0 => .array .int
  | 1 => .array .int
  | 2 => .boolean
  | _ => .boolean
abbrev wsX20 : List Cond := u_ws RX2 TX2 4
theorem nmX2 : ∀ a, a < 4 → ∀ b, b < 4 → a ≠ b → (TX2 a).2.1 ≠ (TX2 b).2.1 := by decide +kernel
theorem tyX2_ok : ∀ k, k < 4 → parseFieldDescriptor (TX2 k).2.2.1 = some (tyX2 k) := by decide +kernel
def RX3 : String := "TwofoldAmounts"
def TX3 : u_T := fun k => match k with
  | 0 => ("TwofoldAmounts", "contextPrecision", "I", true)
  | 1 => ("TwofoldAmounts", "contextScale", "I", true)
  | 2 => ("TwofoldAmounts", "contextMode", "I", true)
  | 3 => ("TwofoldAmounts", "amounts", "[LTwofoldAmounts$Amount;", true)
  | 4 => ("TwofoldAmounts", "ratios", "[I", true)
  | 5 => ("TwofoldAmounts", "remainders", "[J", true)
  | 6 => ("TwofoldAmounts", "work", "LTwofoldAmounts$Work;", true)
  | 7 => ("TwofoldAmounts", "share", "LTwofoldAmounts$Work;", true)
  | _ => ("TwofoldAmounts", "text", "LTwofoldAmounts$Text;", true)
def tyX3 : Nat → FieldType := fun k => match k with
  | 0 => .int
  | 1 => .int
  | 2 => .int
  | 3 => .array (.object "TwofoldAmounts$Amount")
  | 4 => .array .int
  | 5 => .array .long
  | 6 => .object "TwofoldAmounts$Work"
  | 7 => .object "TwofoldAmounts$Work"
  | _ => .object "TwofoldAmounts$Text"
abbrev wsX30 : List Cond := u_ws RX3 TX3 9
theorem nmX3 : ∀ a, a < 9 → ∀ b, b < 9 → a ≠ b → (TX3 a).2.1 ≠ (TX3 b).2.1 := by decide +kernel
theorem tyX3_ok : ∀ k, k < 9 → parseFieldDescriptor (TX3 k).2.2.1 = some (tyX3 k) := by decide +kernel
def RX4 : String := "TwofoldAmountsModel"
def TX4 : u_T := fun k => match k with
  | 0 => ("TwofoldAmountsModel", "p", "I", true)
  | 1 => ("TwofoldAmountsModel", "s", "I", true)
  | 2 => ("TwofoldAmountsModel", "m", "I", true)
  | 3 => ("TwofoldAmountsModel", "currency", "[I", true)
  | 4 => ("TwofoldAmountsModel", "isWide", "[Z", true)
  | 5 => ("TwofoldAmountsModel", "negative", "[Z", true)
  | 6 => ("TwofoldAmountsModel", "kept", "[I", true)
  | 7 => ("TwofoldAmountsModel", "ratios", "[I", true)
  | 8 => ("TwofoldAmountsModel", "text", "[I", true)
  | 9 => ("TwofoldAmountsModel", "length", "I", false)
  | 10 => ("TwofoldAmountsModel", "num", "[I", true)
  | 11 => ("TwofoldAmountsModel", "base", "[I", true)
  | 12 => ("TwofoldAmountsModel", "den", "[I", true)
  | 13 => ("TwofoldAmountsModel", "quo", "[I", true)
  | 14 => ("TwofoldAmountsModel", "rem", "[I", true)
  | 15 => ("TwofoldAmountsModel", "other", "[I", true)
  | 16 => ("TwofoldAmountsModel", "units", "[I", true)
  | 17 => ("TwofoldAmountsModel", "parts", "[I", true)
  | 18 => ("TwofoldAmountsModel", "over", "[I", true)
  | 19 => ("TwofoldAmountsModel", "given", "[Z", true)
  | 20 => ("TwofoldAmountsModel", "at", "I", false)
  | 21 => ("TwofoldAmountsModel", "wrong", "I", false)
  | 22 => ("TwofoldAmountsModel", "read", "[I", true)
  | 23 => ("TwofoldAmountsModel", "digitCount", "I", false)
  | 24 => ("TwofoldAmountsModel", "behind", "I", false)
  | 25 => ("TwofoldAmountsModel", "readCurrency", "I", false)
  | _ => ("TwofoldAmountsModel", "readMinus", "Z", false)
def tyX4 : Nat → FieldType := fun k => match k with
  | 0 => .int
  | 1 => .int
  | 2 => .int
  | 3 => .array .int
  | 4 => .array .boolean
  | 5 => .array .boolean
  | 6 => .array .int
  | 7 => .array .int
  | 8 => .array .int
  | 9 => .int
  | 10 => .array .int
  | 11 => .array .int
  | 12 => .array .int
  | 13 => .array .int
  | 14 => .array .int
  | 15 => .array .int
  | 16 => .array .int
  | 17 => .array .int
  | 18 => .array .int
  | 19 => .array .boolean
  | 20 => .int
  | 21 => .int
  | 22 => .array .int
  | 23 => .int
  | 24 => .int
  | 25 => .int
  | _ => .boolean
abbrev wsX40 : List Cond := u_ws RX4 TX4 27
theorem nmX4 : ∀ a, a < 27 → ∀ b, b < 27 → a ≠ b → (TX4 a).2.1 ≠ (TX4 b).2.1 := by decide +kernel
theorem tyX4_ok : ∀ k, k < 27 → parseFieldDescriptor (TX4 k).2.2.1 = some (tyX4 k) := by decide +kernel
def RJ6 : String := "java/lang/Integer"
def RJ9 : String := "java/lang/Math"
def RJ10 : String := "java/lang/System"
def RJ7 : String := "java/util/Arrays"
def RL : String := "TwofoldAmountsLaw"
abbrev cX3_init : ByteArray := prog_1_method_1_code
def yX3_init : MethodName := ⟨RX3, "<init>", "(III)V"⟩
abbrev kX3_init : Cond := .code yX3_init cX3_init 5 none
abbrev wsX3_init : List Cond := kX3_init :: Gw
abbrev cJ9_min : ByteArray := prog_8_method_69_code
def yJ9_min : MethodName := ⟨RJ9, "min", "(II)I"⟩
abbrev kJ9_min : Cond := .code yJ9_min cJ9_min 2 (some .int)
abbrev wsJ9_min : List Cond := kJ9_min :: Gw
abbrev cJ9_max : ByteArray := prog_8_method_65_code
def yJ9_max : MethodName := ⟨RJ9, "max", "(II)I"⟩
abbrev kJ9_max : Cond := .code yJ9_max cJ9_max 2 (some .int)
abbrev wsJ9_max : List Cond := kJ9_max :: Gw
abbrev cX0_init : ByteArray := prog_2_method_1_code
def yX0_init : MethodName := ⟨RX0, "<init>", "()V"⟩
abbrev kX0_init : Cond := .code yX0_init cX0_init 1 none
abbrev wsX0_init : List Cond := kX0_init :: Gw
abbrev cX2_init : ByteArray := prog_4_method_1_code
def yX2_init : MethodName := ⟨RX2, "<init>", "()V"⟩
abbrev kX2_init : Cond := .code yX2_init cX2_init 1 none
abbrev wsX2_init : List Cond := kX2_init :: Gw
abbrev cX1_init : ByteArray := prog_3_method_1_code
def yX1_init : MethodName := ⟨RX1, "<init>", "()V"⟩
abbrev kX1_init : Cond := .code yX1_init cX1_init 1 none
abbrev wsX1_init : List Cond := kX1_init :: Gw
abbrev cX3_set : ByteArray := prog_1_method_2_code
def yX3_set : MethodName := ⟨RX3, "set", "(IZIJI)I"⟩
abbrev kX3_set : Cond := .code yX3_set cX3_set 7 (some .int)
abbrev wsX3_set : List Cond := kX3_set :: Gw
abbrev cX3_isRegister : ByteArray := prog_1_method_21_code
def yX3_isRegister : MethodName := ⟨RX3, "isRegister", "(I)Z"⟩
abbrev kX3_isRegister : Cond := .code yX3_isRegister cX3_isRegister 1 (some .boolean)
abbrev wsX3_isRegister : List Cond := kX3_isRegister :: Gw
abbrev cX3_isPower : ByteArray := prog_1_method_22_code
def yX3_isPower : MethodName := ⟨RX3, "isPower", "(I)Z"⟩
abbrev kX3_isPower : Cond := .code yX3_isPower cX3_isPower 1 (some .boolean)
abbrev wsX3_isPower : List Cond := kX3_isPower :: Gw
abbrev cX2_loadNumber : ByteArray := prog_4_method_4_code
def yX2_loadNumber : MethodName := ⟨RX2, "loadNumber", "(JI)V"⟩
abbrev kX2_loadNumber : Cond := .code yX2_loadNumber cX2_loadNumber 4 none
abbrev wsX2_loadNumber : List Cond := kX2_loadNumber :: Gw
abbrev cX2_clear : ByteArray := prog_4_method_2_code
def yX2_clear : MethodName := ⟨RX2, "clear", "()V"⟩
abbrev kX2_clear : Cond := .code yX2_clear cX2_clear 1 none
abbrev wsX2_clear : List Cond := kX2_clear :: Gw
abbrev cJ7_fill : ByteArray := prog_10_method_103_code
def yJ7_fill : MethodName := ⟨RJ7, "fill", "([II)V"⟩
abbrev kJ7_fill : Cond := .code yJ7_fill cJ7_fill 4 none
abbrev wsJ7_fill : List Cond := kJ7_fill :: Gw
abbrev cX2_spell : ByteArray := prog_4_method_5_code
def yX2_spell : MethodName := ⟨RX2, "spell", "(J[II)V"⟩
abbrev kX2_spell : Cond := .code yX2_spell cX2_spell 7 none
abbrev wsX2_spell : List Cond := kX2_spell :: Gw
abbrev cJ9_abs : ByteArray := prog_8_method_61_code
def yJ9_abs : MethodName := ⟨RJ9, "abs", "(J)J"⟩
abbrev kJ9_abs : Cond := .code yJ9_abs cJ9_abs 2 (some .long)
abbrev wsJ9_abs : List Cond := kJ9_abs :: Gw
abbrev cX3_keep : ByteArray := prog_1_method_25_code
def yX3_keep : MethodName := ⟨RX3, "keep", "(IZI)I"⟩
abbrev kX3_keep : Cond := .code yX3_keep cX3_keep 6 (some .int)
abbrev wsX3_keep : List Cond := kX3_keep :: Gw
abbrev cX2_size : ByteArray := prog_4_method_6_code
def yX2_size : MethodName := ⟨RX2, "size", "()I"⟩
abbrev kX2_size : Cond := .code yX2_size cX2_size 2 (some .int)
abbrev wsX2_size : List Cond := kX2_size :: Gw
abbrev cX2_toMultiple : ByteArray := prog_4_method_12_code
def yX2_toMultiple : MethodName := ⟨RX2, "toMultiple", "(III)Z"⟩
abbrev kX2_toMultiple : Cond := .code yX2_toMultiple cX2_toMultiple 10 (some .boolean)
abbrev wsX2_toMultiple : List Cond := kX2_toMultiple :: Gw
abbrev cX3_isZero : ByteArray := prog_1_method_37_code
def yX3_isZero : MethodName := ⟨RX3, "isZero", "([III)Z"⟩
abbrev kX3_isZero : Cond := .code yX3_isZero cX3_isZero 4 (some .boolean)
abbrev wsX3_isZero : List Cond := kX3_isZero :: Gw
abbrev cJ6_compare : ByteArray := prog_7_method_40_code
def yJ6_compare : MethodName := ⟨RJ6, "compare", "(II)I"⟩
abbrev kJ6_compare : Cond := .code yJ6_compare cJ6_compare 2 (some .int)
abbrev wsJ6_compare : List Cond := kJ6_compare :: Gw
abbrev cX2_goesAway : ByteArray := prog_4_method_13_code
def yX2_goesAway : MethodName := ⟨RX2, "goesAway", "(IIZ)Z"⟩
abbrev kX2_goesAway : Cond := .code yX2_goesAway cX2_goesAway 4 (some .boolean)
abbrev wsX2_goesAway : List Cond := kX2_goesAway :: Gw
abbrev cX2_increase : ByteArray := prog_4_method_8_code
def yX2_increase : MethodName := ⟨RX2, "increase", "(II)V"⟩
abbrev kX2_increase : Cond := .code yX2_increase cX2_increase 3 none
abbrev wsX2_increase : List Cond := kX2_increase :: Gw
abbrev cX2_carry : ByteArray := prog_4_method_7_code
def yX2_carry : MethodName := ⟨RX2, "carry", "()V"⟩
abbrev kX2_carry : Cond := .code yX2_carry cX2_carry 4 none
abbrev wsX2_carry : List Cond := kX2_carry :: Gw
abbrev cJ9_floorMod : ByteArray := prog_8_method_50_code
def yJ9_floorMod : MethodName := ⟨RJ9, "floorMod", "(II)I"⟩
abbrev kJ9_floorMod : Cond := .code yJ9_floorMod cJ9_floorMod 3 (some .int)
abbrev wsJ9_floorMod : List Cond := kJ9_floorMod :: Gw
abbrev cJ9_floorDiv : ByteArray := prog_8_method_47_code
def yJ9_floorDiv : MethodName := ⟨RJ9, "floorDiv", "(II)I"⟩
abbrev kJ9_floorDiv : Cond := .code yJ9_floorDiv cJ9_floorDiv 3 (some .int)
abbrev wsJ9_floorDiv : List Cond := kJ9_floorDiv :: Gw
abbrev cX3_store : ByteArray := prog_1_method_26_code
def yX3_store : MethodName := ⟨RX3, "store", "(IZI)I"⟩
abbrev kX3_store : Cond := .code yX3_store cX3_store 4 (some .int)
abbrev wsX3_store : List Cond := kX3_store :: Gw
abbrev cX2_fitsWide : ByteArray := prog_4_method_14_code
def yX2_fitsWide : MethodName := ⟨RX2, "fitsWide", "()Z"⟩
abbrev kX2_fitsWide : Cond := .code yX2_fitsWide cX2_fitsWide 1 (some .boolean)
abbrev wsX2_fitsWide : List Cond := kX2_fitsWide :: Gw
abbrev cX2_fitsFast : ByteArray := prog_4_method_15_code
def yX2_fitsFast : MethodName := ⟨RX2, "fitsFast", "()Z"⟩
abbrev kX2_fitsFast : Cond := .code yX2_fitsFast cX2_fitsFast 4 (some .boolean)
abbrev wsX2_fitsFast : List Cond := kX2_fitsFast :: Gw
abbrev cX3_asLong : ByteArray := prog_1_method_38_code
def yX3_asLong : MethodName := ⟨RX3, "asLong", "([III)J"⟩
abbrev kX3_asLong : Cond := .code yX3_asLong cX3_asLong 6 (some .long)
abbrev wsX3_asLong : List Cond := kX3_asLong :: Gw
abbrev cX0_take : ByteArray := prog_2_method_3_code
def yX0_take : MethodName := ⟨RX0, "take", "(LTwofoldAmounts$Work;ZI)V"⟩
abbrev kX0_take : Cond := .code yX0_take cX0_take 4 none
abbrev wsX0_take : List Cond := kX0_take :: Gw
abbrev cX3_add : ByteArray := prog_1_method_3_code
def yX3_add : MethodName := ⟨RX3, "add", "(III)I"⟩
abbrev kX3_add : Cond := .code yX3_add cX3_add 4 (some .int)
abbrev wsX3_add : List Cond := kX3_add :: Gw
abbrev cX3_combine : ByteArray := prog_1_method_24_code
def yX3_combine : MethodName := ⟨RX3, "combine", "(IIIZ)I"⟩
abbrev kX3_combine : Cond := .code yX3_combine cX3_combine 8 (some .int)
abbrev wsX3_combine : List Cond := kX3_combine :: Gw
abbrev cX0_isLike : ByteArray := prog_2_method_2_code
def yX0_isLike : MethodName := ⟨RX0, "isLike", "(LTwofoldAmounts$Amount;)Z"⟩
abbrev kX0_isLike : Cond := .code yX0_isLike cX0_isLike 2 (some .boolean)
abbrev wsX0_isLike : List Cond := kX0_isLike :: Gw
abbrev cX2_load : ByteArray := prog_4_method_3_code
def yX2_load : MethodName := ⟨RX2, "load", "([IIZ)V"⟩
abbrev kX2_load : Cond := .code yX2_load cX2_load 4 none
abbrev wsX2_load : List Cond := kX2_load :: Gw
abbrev cX2_join : ByteArray := prog_4_method_9_code
def yX2_join : MethodName := ⟨RX2, "join", "([III)V"⟩
abbrev kX2_join : Cond := .code yX2_join cX2_join 5 none
abbrev wsX2_join : List Cond := kX2_join :: Gw
abbrev cX3_compareRows : ByteArray := prog_1_method_36_code
def yX3_compareRows : MethodName := ⟨RX3, "compareRows", "([I[I)I"⟩
abbrev kX3_compareRows : Cond := .code yX3_compareRows cX3_compareRows 3 (some .int)
abbrev wsX3_compareRows : List Cond := kX3_compareRows :: Gw
abbrev cX3_subtract : ByteArray := prog_1_method_4_code
def yX3_subtract : MethodName := ⟨RX3, "subtract", "(III)I"⟩
abbrev kX3_subtract : Cond := .code yX3_subtract cX3_subtract 4 (some .int)
abbrev wsX3_subtract : List Cond := kX3_subtract :: Gw
abbrev cX3_multiply : ByteArray := prog_1_method_5_code
def yX3_multiply : MethodName := ⟨RX3, "multiply", "(IIJI)I"⟩
abbrev kX3_multiply : Cond := .code yX3_multiply cX3_multiply 7 (some .int)
abbrev wsX3_multiply : List Cond := kX3_multiply :: Gw
abbrev cX2_times : ByteArray := prog_4_method_10_code
def yX2_times : MethodName := ⟨RX2, "times", "(J)V"⟩
abbrev kX2_times : Cond := .code yX2_times cX2_times 6 none
abbrev wsX2_times : List Cond := kX2_times :: Gw
abbrev cX3_divide : ByteArray := prog_1_method_6_code
def yX3_divide : MethodName := ⟨RX3, "divide", "(IIJI)I"⟩
abbrev kX3_divide : Cond := .code yX3_divide cX3_divide 7 (some .int)
abbrev wsX3_divide : List Cond := kX3_divide :: Gw
abbrev cX2_over : ByteArray := prog_4_method_11_code
def yX2_over : MethodName := ⟨RX2, "over", "(JI)J"⟩
abbrev kX2_over : Cond := .code yX2_over cX2_over 17 (some .long)
abbrev wsX2_over : List Cond := kX2_over :: Gw
abbrev cX3_negate : ByteArray := prog_1_method_7_code
def yX3_negate : MethodName := ⟨RX3, "negate", "(II)I"⟩
abbrev kX3_negate : Cond := .code yX3_negate cX3_negate 4 (some .int)
abbrev wsX3_negate : List Cond := kX3_negate :: Gw
abbrev cX3_round : ByteArray := prog_1_method_8_code
def yX3_round : MethodName := ⟨RX3, "round", "(IIIZ)I"⟩
abbrev kX3_round : Cond := .code yX3_round cX3_round 7 (some .int)
abbrev wsX3_round : List Cond := kX3_round :: Gw
abbrev cX3_unitPlace : ByteArray := prog_1_method_23_code
def yX3_unitPlace : MethodName := ⟨RX3, "unitPlace", "(I)I"⟩
abbrev kX3_unitPlace : Cond := .code yX3_unitPlace cX3_unitPlace 1 (some .int)
abbrev wsX3_unitPlace : List Cond := kX3_unitPlace :: Gw
abbrev cX3_ratio : ByteArray := prog_1_method_9_code
def yX3_ratio : MethodName := ⟨RX3, "ratio", "(II)Z"⟩
abbrev kX3_ratio : Cond := .code yX3_ratio cX3_ratio 3 (some .boolean)
abbrev wsX3_ratio : List Cond := kX3_ratio :: Gw
abbrev cX3_allocate : ByteArray := prog_1_method_10_code
def yX3_allocate : MethodName := ⟨RX3, "allocate", "(III)I"⟩
abbrev kX3_allocate : Cond := .code yX3_allocate cX3_allocate 15 (some .int)
abbrev wsX3_allocate : List Cond := kX3_allocate :: Gw
abbrev cX3_sumOfRatios : ByteArray := prog_1_method_27_code
def yX3_sumOfRatios : MethodName := ⟨RX3, "sumOfRatios", "(I)J"⟩
abbrev kX3_sumOfRatios : Cond := .code yX3_sumOfRatios cX3_sumOfRatios 5 (some .long)
abbrev wsX3_sumOfRatios : List Cond := kX3_sumOfRatios :: Gw
abbrev cX3_splitRest : ByteArray := prog_1_method_28_code
def yX3_splitRest : MethodName := ⟨RX3, "splitRest", "(JJI)J"⟩
abbrev kX3_splitRest : Cond := .code yX3_splitRest cX3_splitRest 9 (some .long)
abbrev wsX3_splitRest : List Cond := kX3_splitRest :: Gw
abbrev cX3_rankOf : ByteArray := prog_1_method_29_code
def yX3_rankOf : MethodName := ⟨RX3, "rankOf", "(II)I"⟩
abbrev kX3_rankOf : Cond := .code yX3_rankOf cX3_rankOf 5 (some .int)
abbrev wsX3_rankOf : List Cond := kX3_rankOf :: Gw
abbrev cX3_compare : ByteArray := prog_1_method_11_code
def yX3_compare : MethodName := ⟨RX3, "compare", "(II)I"⟩
abbrev kX3_compare : Cond := .code yX3_compare cX3_compare 6 (some .int)
abbrev wsX3_compare : List Cond := kX3_compare :: Gw
abbrev cX3_sign : ByteArray := prog_1_method_12_code
def yX3_sign : MethodName := ⟨RX3, "sign", "(I)I"⟩
abbrev kX3_sign : Cond := .code yX3_sign cX3_sign 3 (some .int)
abbrev wsX3_sign : List Cond := kX3_sign :: Gw
abbrev cX3_kind : ByteArray := prog_1_method_13_code
def yX3_kind : MethodName := ⟨RX3, "kind", "(I)I"⟩
abbrev kX3_kind : Cond := .code yX3_kind cX3_kind 3 (some .int)
abbrev wsX3_kind : List Cond := kX3_kind :: Gw
abbrev cX3_digits : ByteArray := prog_1_method_14_code
def yX3_digits : MethodName := ⟨RX3, "digits", "(II)J"⟩
abbrev kX3_digits : Cond := .code yX3_digits cX3_digits 4 (some .long)
abbrev wsX3_digits : List Cond := kX3_digits :: Gw
abbrev cX3_discard : ByteArray := prog_1_method_15_code
def yX3_discard : MethodName := ⟨RX3, "discard", "(I)Z"⟩
abbrev kX3_discard : Cond := .code yX3_discard cX3_discard 2 (some .boolean)
abbrev wsX3_discard : List Cond := kX3_discard :: Gw
abbrev cX3_format : ByteArray := prog_1_method_16_code
def yX3_format : MethodName := ⟨RX3, "format", "(II)I"⟩
abbrev kX3_format : Cond := .code yX3_format cX3_format 4 (some .int)
abbrev wsX3_format : List Cond := kX3_format :: Gw
abbrev cX3_writeNumber : ByteArray := prog_1_method_30_code
def yX3_writeNumber : MethodName := ⟨RX3, "writeNumber", "(II)V"⟩
abbrev kX3_writeNumber : Cond := .code yX3_writeNumber cX3_writeNumber 5 none
abbrev wsX3_writeNumber : List Cond := kX3_writeNumber :: Gw
abbrev cX1_append : ByteArray := prog_3_method_2_code
def yX1_append : MethodName := ⟨RX1, "append", "(I)V"⟩
abbrev kX1_append : Cond := .code yX1_append cX1_append 2 none
abbrev wsX1_append : List Cond := kX1_append :: Gw
abbrev cX3_writeBody : ByteArray := prog_1_method_31_code
def yX3_writeBody : MethodName := ⟨RX3, "writeBody", "(IZ)V"⟩
abbrev kX3_writeBody : Cond := .code yX3_writeBody cX3_writeBody 5 none
abbrev wsX3_writeBody : List Cond := kX3_writeBody :: Gw
abbrev cX1_appendCode : ByteArray := prog_3_method_3_code
def yX1_appendCode : MethodName := ⟨RX1, "appendCode", "(I)V"⟩
abbrev kX1_appendCode : Cond := .code yX1_appendCode cX1_appendCode 3 none
abbrev wsX1_appendCode : List Cond := kX1_appendCode :: Gw
abbrev cX3_type : ByteArray := prog_1_method_17_code
def yX3_type : MethodName := ⟨RX3, "type", "(I)I"⟩
abbrev kX3_type : Cond := .code yX3_type cX3_type 2 (some .int)
abbrev wsX3_type : List Cond := kX3_type :: Gw
abbrev cX3_wipe : ByteArray := prog_1_method_18_code
def yX3_wipe : MethodName := ⟨RX3, "wipe", "()V"⟩
abbrev kX3_wipe : Cond := .code yX3_wipe cX3_wipe 1 none
abbrev wsX3_wipe : List Cond := kX3_wipe :: Gw
abbrev cX3_letter : ByteArray := prog_1_method_19_code
def yX3_letter : MethodName := ⟨RX3, "letter", "(I)I"⟩
abbrev kX3_letter : Cond := .code yX3_letter cX3_letter 2 (some .int)
abbrev wsX3_letter : List Cond := kX3_letter :: Gw
abbrev cX3_parse : ByteArray := prog_1_method_20_code
def yX3_parse : MethodName := ⟨RX3, "parse", "(IZI)I"⟩
abbrev kX3_parse : Cond := .code yX3_parse cX3_parse 4 (some .int)
abbrev wsX3_parse : List Cond := kX3_parse :: Gw
abbrev cX3_readStyle : ByteArray := prog_1_method_32_code
def yX3_readStyle : MethodName := ⟨RX3, "readStyle", "(I)Z"⟩
abbrev kX3_readStyle : Cond := .code yX3_readStyle cX3_readStyle 2 (some .boolean)
abbrev wsX3_readStyle : List Cond := kX3_readStyle :: Gw
abbrev cX3_readNumber : ByteArray := prog_1_method_33_code
def yX3_readNumber : MethodName := ⟨RX3, "readNumber", "(I)Z"⟩
abbrev kX3_readNumber : Cond := .code yX3_readNumber cX3_readNumber 3 (some .boolean)
abbrev wsX3_readNumber : List Cond := kX3_readNumber :: Gw
abbrev cX1_skip : ByteArray := prog_3_method_4_code
def yX1_skip : MethodName := ⟨RX1, "skip", "(I)Z"⟩
abbrev kX1_skip : Cond := .code yX1_skip cX1_skip 2 (some .boolean)
abbrev wsX1_skip : List Cond := kX1_skip :: Gw
abbrev cX3_readBody : ByteArray := prog_1_method_34_code
def yX3_readBody : MethodName := ⟨RX3, "readBody", "(Z)Z"⟩
abbrev kX3_readBody : Cond := .code yX3_readBody cX3_readBody 6 (some .boolean)
abbrev wsX3_readBody : List Cond := kX3_readBody :: Gw
abbrev cX1_skipWhole : ByteArray := prog_3_method_7_code
def yX1_skipWhole : MethodName := ⟨RX1, "skipWhole", "(Z)Z"⟩
abbrev kX1_skipWhole : Cond := .code yX1_skipWhole cX1_skipWhole 3 (some .boolean)
abbrev wsX1_skipWhole : List Cond := kX1_skipWhole :: Gw
abbrev cX1_skipDigits : ByteArray := prog_3_method_6_code
def yX1_skipDigits : MethodName := ⟨RX1, "skipDigits", "(I)I"⟩
abbrev kX1_skipDigits : Cond := .code yX1_skipDigits cX1_skipDigits 3 (some .int)
abbrev wsX1_skipDigits : List Cond := kX1_skipDigits :: Gw
abbrev cX3_takeWhole : ByteArray := prog_1_method_35_code
def yX3_takeWhole : MethodName := ⟨RX3, "takeWhole", "(II)V"⟩
abbrev kX3_takeWhole : Cond := .code yX3_takeWhole cX3_takeWhole 5 none
abbrev wsX3_takeWhole : List Cond := kX3_takeWhole :: Gw
abbrev cX1_skipCode : ByteArray := prog_3_method_5_code
def yX1_skipCode : MethodName := ⟨RX1, "skipCode", "()Z"⟩
abbrev kX1_skipCode : Cond := .code yX1_skipCode cX1_skipCode 2 (some .boolean)
abbrev wsX1_skipCode : List Cond := kX1_skipCode :: Gw
abbrev cL_cell : ByteArray := method_2_code
def yL_cell : MethodName := ⟨RL, "cell", "([II)I"⟩
abbrev kL_cell : Cond := .code yL_cell cL_cell 2 (some .int)
abbrev wsL_cell : List Cond := kL_cell :: Gw
abbrev cX4_init : ByteArray := prog_6_method_1_code
def yX4_init : MethodName := ⟨RX4, "<init>", "(III)V"⟩
abbrev kX4_init : Cond := .code yX4_init cX4_init 5 none
abbrev wsX4_init : List Cond := kX4_init :: Gw
abbrev cX4_set : ByteArray := prog_6_method_18_code
def yX4_set : MethodName := ⟨RX4, "set", "(IZIJI)I"⟩
abbrev kX4_set : Cond := .code yX4_set cX4_set 7 (some .int)
abbrev wsX4_set : List Cond := kX4_set :: Gw
abbrev cX4_outside : ByteArray := prog_6_method_17_code
def yX4_outside : MethodName := ⟨RX4, "outside", "(II)Z"⟩
abbrev kX4_outside : Cond := .code yX4_outside cX4_outside 2 (some .boolean)
abbrev wsX4_outside : List Cond := kX4_outside :: Gw
abbrev cX4_load : ByteArray := prog_6_method_4_code
def yX4_load : MethodName := ⟨RX4, "load", "([IJ)V"⟩
abbrev kX4_load : Cond := .code yX4_load cX4_load 7 none
abbrev wsX4_load : List Cond := kX4_load :: Gw
abbrev cX4_clear : ByteArray := prog_6_method_2_code
def yX4_clear : MethodName := ⟨RX4, "clear", "([I)V"⟩
abbrev kX4_clear : Cond := .code yX4_clear cX4_clear 2 none
abbrev wsX4_clear : List Cond := kX4_clear :: Gw
abbrev cX4_shift : ByteArray := prog_6_method_6_code
def yX4_shift : MethodName := ⟨RX4, "shift", "([II)V"⟩
abbrev kX4_shift : Cond := .code yX4_shift cX4_shift 3 none
abbrev wsX4_shift : List Cond := kX4_shift :: Gw
abbrev cX4_settle : ByteArray := prog_6_method_16_code
def yX4_settle : MethodName := ⟨RX4, "settle", "(IIZZ)I"⟩
abbrev kX4_settle : Cond := .code yX4_settle cX4_settle 7 (some .int)
abbrev wsX4_settle : List Cond := kX4_settle :: Gw
abbrev cX4_copy : ByteArray := prog_6_method_3_code
def yX4_copy : MethodName := ⟨RX4, "copy", "([I[I)V"⟩
abbrev kX4_copy : Cond := .code yX4_copy cX4_copy 3 none
abbrev wsX4_copy : List Cond := kX4_copy :: Gw
abbrev cX4_quotient : ByteArray := prog_6_method_12_code
def yX4_quotient : MethodName := ⟨RX4, "quotient", "()V"⟩
abbrev kX4_quotient : Cond := .code yX4_quotient cX4_quotient 2 none
abbrev wsX4_quotient : List Cond := kX4_quotient :: Gw
abbrev cX4_order : ByteArray := prog_6_method_8_code
def yX4_order : MethodName := ⟨RX4, "order", "([I[I)I"⟩
abbrev kX4_order : Cond := .code yX4_order cX4_order 3 (some .int)
abbrev wsX4_order : List Cond := kX4_order :: Gw
abbrev cX4_decrease : ByteArray := prog_6_method_10_code
def yX4_decrease : MethodName := ⟨RX4, "decrease", "([I[I)V"⟩
abbrev kX4_decrease : Cond := .code yX4_decrease cX4_decrease 5 none
abbrev wsX4_decrease : List Cond := kX4_decrease :: Gw
abbrev cX4_size : ByteArray := prog_6_method_7_code
def yX4_size : MethodName := ⟨RX4, "size", "([I)I"⟩
abbrev kX4_size : Cond := .code yX4_size cX4_size 3 (some .int)
abbrev wsX4_size : List Cond := kX4_size :: Gw
abbrev cX4_rounds : ByteArray := prog_6_method_13_code
def yX4_rounds : MethodName := ⟨RX4, "rounds", "(ZI)Z"⟩
abbrev kX4_rounds : Cond := .code yX4_rounds cX4_rounds 7 (some .boolean)
abbrev wsX4_rounds : List Cond := kX4_rounds :: Gw
abbrev cX4_increase : ByteArray := prog_6_method_9_code
def yX4_increase : MethodName := ⟨RX4, "increase", "([I[I)V"⟩
abbrev kX4_increase : Cond := .code yX4_increase cX4_increase 5 none
abbrev wsX4_increase : List Cond := kX4_increase :: Gw
abbrev cX4_fits : ByteArray := prog_6_method_14_code
def yX4_fits : MethodName := ⟨RX4, "fits", "([IZZ)Z"⟩
abbrev kX4_fits : Cond := .code yX4_fits cX4_fits 5 (some .boolean)
abbrev wsX4_fits : List Cond := kX4_fits :: Gw
abbrev cX4_keep : ByteArray := prog_6_method_15_code
def yX4_keep : MethodName := ⟨RX4, "keep", "(IIZZ[I)I"⟩
abbrev kX4_keep : Cond := .code yX4_keep cX4_keep 7 (some .int)
abbrev wsX4_keep : List Cond := kX4_keep :: Gw
abbrev cX4_add : ByteArray := prog_6_method_20_code
def yX4_add : MethodName := ⟨RX4, "add", "(III)I"⟩
abbrev kX4_add : Cond := .code yX4_add cX4_add 4 (some .int)
abbrev wsX4_add : List Cond := kX4_add :: Gw
abbrev cX4_sum : ByteArray := prog_6_method_19_code
def yX4_sum : MethodName := ⟨RX4, "sum", "(IIIZ)I"⟩
abbrev kX4_sum : Cond := .code yX4_sum cX4_sum 7 (some .int)
abbrev wsX4_sum : List Cond := kX4_sum :: Gw
abbrev cX4_take : ByteArray := prog_6_method_5_code
def yX4_take : MethodName := ⟨RX4, "take", "([II)V"⟩
abbrev kX4_take : Cond := .code yX4_take cX4_take 4 none
abbrev wsX4_take : List Cond := kX4_take :: Gw
abbrev cX4_subtract : ByteArray := prog_6_method_21_code
def yX4_subtract : MethodName := ⟨RX4, "subtract", "(III)I"⟩
abbrev kX4_subtract : Cond := .code yX4_subtract cX4_subtract 4 (some .int)
abbrev wsX4_subtract : List Cond := kX4_subtract :: Gw
abbrev cX4_multiply : ByteArray := prog_6_method_22_code
def yX4_multiply : MethodName := ⟨RX4, "multiply", "(IIJI)I"⟩
abbrev kX4_multiply : Cond := .code yX4_multiply cX4_multiply 6 (some .int)
abbrev wsX4_multiply : List Cond := kX4_multiply :: Gw
abbrev cX4_product : ByteArray := prog_6_method_11_code
def yX4_product : MethodName := ⟨RX4, "product", "([I[I)V"⟩
abbrev kX4_product : Cond := .code yX4_product cX4_product 9 none
abbrev wsX4_product : List Cond := kX4_product :: Gw
abbrev cX4_divide : ByteArray := prog_6_method_23_code
def yX4_divide : MethodName := ⟨RX4, "divide", "(IIJI)I"⟩
abbrev kX4_divide : Cond := .code yX4_divide cX4_divide 6 (some .int)
abbrev wsX4_divide : List Cond := kX4_divide :: Gw
abbrev cX4_negate : ByteArray := prog_6_method_24_code
def yX4_negate : MethodName := ⟨RX4, "negate", "(II)I"⟩
abbrev kX4_negate : Cond := .code yX4_negate cX4_negate 4 (some .int)
abbrev wsX4_negate : List Cond := kX4_negate :: Gw
abbrev cX4_round : ByteArray := prog_6_method_27_code
def yX4_round : MethodName := ⟨RX4, "round", "(IIIZ)I"⟩
abbrev kX4_round : Cond := .code yX4_round cX4_round 6 (some .int)
abbrev wsX4_round : List Cond := kX4_round :: Gw
abbrev cX4_step : ByteArray := prog_6_method_26_code
def yX4_step : MethodName := ⟨RX4, "step", "(II)V"⟩
abbrev kX4_step : Cond := .code yX4_step cX4_step 3 none
abbrev wsX4_step : List Cond := kX4_step :: Gw
abbrev cX4_digitsOf : ByteArray := prog_6_method_25_code
def yX4_digitsOf : MethodName := ⟨RX4, "digitsOf", "(I)I"⟩
abbrev kX4_digitsOf : Cond := .code yX4_digitsOf cX4_digitsOf 1 (some .int)
abbrev wsX4_digitsOf : List Cond := kX4_digitsOf :: Gw
abbrev cX4_ratio : ByteArray := prog_6_method_28_code
def yX4_ratio : MethodName := ⟨RX4, "ratio", "(II)Z"⟩
abbrev kX4_ratio : Cond := .code yX4_ratio cX4_ratio 3 (some .boolean)
abbrev wsX4_ratio : List Cond := kX4_ratio :: Gw
abbrev cX4_allocate : ByteArray := prog_6_method_31_code
def yX4_allocate : MethodName := ⟨RX4, "allocate", "(III)I"⟩
abbrev kX4_allocate : Cond := .code yX4_allocate cX4_allocate 9 (some .int)
abbrev wsX4_allocate : List Cond := kX4_allocate :: Gw
abbrev cX4_cut : ByteArray := prog_6_method_30_code
def yX4_cut : MethodName := ⟨RX4, "cut", "(II)V"⟩
abbrev kX4_cut : Cond := .code yX4_cut cX4_cut 4 none
abbrev wsX4_cut : List Cond := kX4_cut :: Gw
abbrev cX4_small : ByteArray := prog_6_method_29_code
def yX4_small : MethodName := ⟨RX4, "small", "([I)I"⟩
abbrev kX4_small : Cond := .code yX4_small cX4_small 3 (some .int)
abbrev wsX4_small : List Cond := kX4_small :: Gw
abbrev cX4_left : ByteArray := prog_6_method_32_code
def yX4_left : MethodName := ⟨RX4, "left", "(I)I"⟩
abbrev kX4_left : Cond := .code yX4_left cX4_left 4 (some .int)
abbrev wsX4_left : List Cond := kX4_left :: Gw
abbrev cX4_part : ByteArray := prog_6_method_33_code
def yX4_part : MethodName := ⟨RX4, "part", "(II)V"⟩
abbrev kX4_part : Cond := .code yX4_part cX4_part 4 none
abbrev wsX4_part : List Cond := kX4_part :: Gw
abbrev cX4_compare : ByteArray := prog_6_method_34_code
def yX4_compare : MethodName := ⟨RX4, "compare", "(II)I"⟩
abbrev kX4_compare : Cond := .code yX4_compare cX4_compare 4 (some .int)
abbrev wsX4_compare : List Cond := kX4_compare :: Gw
abbrev cX4_sign : ByteArray := prog_6_method_35_code
def yX4_sign : MethodName := ⟨RX4, "sign", "(I)I"⟩
abbrev kX4_sign : Cond := .code yX4_sign cX4_sign 2 (some .int)
abbrev wsX4_sign : List Cond := kX4_sign :: Gw
abbrev cX4_kind : ByteArray := prog_6_method_36_code
def yX4_kind : MethodName := ⟨RX4, "kind", "(I)I"⟩
abbrev kX4_kind : Cond := .code yX4_kind cX4_kind 2 (some .int)
abbrev wsX4_kind : List Cond := kX4_kind :: Gw
abbrev cX4_digits : ByteArray := prog_6_method_37_code
def yX4_digits : MethodName := ⟨RX4, "digits", "(II)J"⟩
abbrev kX4_digits : Cond := .code yX4_digits cX4_digits 6 (some .long)
abbrev wsX4_digits : List Cond := kX4_digits :: Gw
abbrev cX4_discard : ByteArray := prog_6_method_38_code
def yX4_discard : MethodName := ⟨RX4, "discard", "(I)Z"⟩
abbrev kX4_discard : Cond := .code yX4_discard cX4_discard 2 (some .boolean)
abbrev wsX4_discard : List Cond := kX4_discard :: Gw
abbrev cX4_format : ByteArray := prog_6_method_42_code
def yX4_format : MethodName := ⟨RX4, "format", "(II)I"⟩
abbrev kX4_format : Cond := .code yX4_format cX4_format 7 (some .int)
abbrev wsX4_format : List Cond := kX4_format :: Gw
abbrev cX4_putCode : ByteArray := prog_6_method_40_code
def yX4_putCode : MethodName := ⟨RX4, "putCode", "(I)V"⟩
abbrev kX4_putCode : Cond := .code yX4_putCode cX4_putCode 3 none
abbrev wsX4_putCode : List Cond := kX4_putCode :: Gw
abbrev cX4_put : ByteArray := prog_6_method_39_code
def yX4_put : MethodName := ⟨RX4, "put", "(I)V"⟩
abbrev kX4_put : Cond := .code yX4_put cX4_put 2 none
abbrev wsX4_put : List Cond := kX4_put :: Gw
abbrev cX4_putNumber : ByteArray := prog_6_method_41_code
def yX4_putNumber : MethodName := ⟨RX4, "putNumber", "(IIZ)V"⟩
abbrev kX4_putNumber : Cond := .code yX4_putNumber cX4_putNumber 8 none
abbrev wsX4_putNumber : List Cond := kX4_putNumber :: Gw
abbrev cX4_type : ByteArray := prog_6_method_43_code
def yX4_type : MethodName := ⟨RX4, "type", "(I)I"⟩
abbrev kX4_type : Cond := .code yX4_type cX4_type 2 (some .int)
abbrev wsX4_type : List Cond := kX4_type :: Gw
abbrev cX4_wipe : ByteArray := prog_6_method_44_code
def yX4_wipe : MethodName := ⟨RX4, "wipe", "()V"⟩
abbrev kX4_wipe : Cond := .code yX4_wipe cX4_wipe 1 none
abbrev wsX4_wipe : List Cond := kX4_wipe :: Gw
abbrev cX4_letter : ByteArray := prog_6_method_45_code
def yX4_letter : MethodName := ⟨RX4, "letter", "(I)I"⟩
abbrev kX4_letter : Cond := .code yX4_letter cX4_letter 2 (some .int)
abbrev wsX4_letter : List Cond := kX4_letter :: Gw
abbrev cX4_parse : ByteArray := prog_6_method_55_code
def yX4_parse : MethodName := ⟨RX4, "parse", "(IZI)I"⟩
abbrev kX4_parse : Cond := .code yX4_parse cX4_parse 5 (some .int)
abbrev wsX4_parse : List Cond := kX4_parse :: Gw
abbrev cX4_readNumber : ByteArray := prog_6_method_54_code
def yX4_readNumber : MethodName := ⟨RX4, "readNumber", "(I)V"⟩
abbrev kX4_readNumber : Cond := .code yX4_readNumber cX4_readNumber 3 none
abbrev wsX4_readNumber : List Cond := kX4_readNumber :: Gw
abbrev cX4_sees : ByteArray := prog_6_method_46_code
def yX4_sees : MethodName := ⟨RX4, "sees", "(I)Z"⟩
abbrev kX4_sees : Cond := .code yX4_sees cX4_sees 2 (some .boolean)
abbrev wsX4_sees : List Cond := kX4_sees :: Gw
abbrev cX4_readBody : ByteArray := prog_6_method_53_code
def yX4_readBody : MethodName := ⟨RX4, "readBody", "(Z)V"⟩
abbrev kX4_readBody : Cond := .code yX4_readBody cX4_readBody 3 none
abbrev wsX4_readBody : List Cond := kX4_readBody :: Gw
abbrev cX4_need : ByteArray := prog_6_method_51_code
def yX4_need : MethodName := ⟨RX4, "need", "(II)V"⟩
abbrev kX4_need : Cond := .code yX4_need cX4_need 3 none
abbrev wsX4_need : List Cond := kX4_need :: Gw
abbrev cX4_digitsUpTo : ByteArray := prog_6_method_50_code
def yX4_digitsUpTo : MethodName := ⟨RX4, "digitsUpTo", "(I)I"⟩
abbrev kX4_digitsUpTo : Cond := .code yX4_digitsUpTo cX4_digitsUpTo 3 (some .int)
abbrev wsX4_digitsUpTo : List Cond := kX4_digitsUpTo :: Gw
abbrev cX4_seesDigit : ByteArray := prog_6_method_47_code
def yX4_seesDigit : MethodName := ⟨RX4, "seesDigit", "()Z"⟩
abbrev kX4_seesDigit : Cond := .code yX4_seesDigit cX4_seesDigit 1 (some .boolean)
abbrev wsX4_seesDigit : List Cond := kX4_seesDigit :: Gw
abbrev cX4_fail : ByteArray := prog_6_method_48_code
def yX4_fail : MethodName := ⟨RX4, "fail", "()V"⟩
abbrev kX4_fail : Cond := .code yX4_fail cX4_fail 1 none
abbrev wsX4_fail : List Cond := kX4_fail :: Gw
abbrev cX4_expect : ByteArray := prog_6_method_49_code
def yX4_expect : MethodName := ⟨RX4, "expect", "(I)V"⟩
abbrev kX4_expect : Cond := .code yX4_expect cX4_expect 2 none
abbrev wsX4_expect : List Cond := kX4_expect :: Gw
abbrev cX4_readCode : ByteArray := prog_6_method_52_code
def yX4_readCode : MethodName := ⟨RX4, "readCode", "()V"⟩
abbrev kX4_readCode : Cond := .code yX4_readCode cX4_readCode 3 none
abbrev wsX4_readCode : List Cond := kX4_readCode :: Gw
abbrev cL_law : ByteArray := code
abbrev vwCl : List vw_C := [(RX0, TX0, 5), (RX1, TX1, 4), (RX2, TX2, 4), (RX3, TX3, 9), (RX4, TX4, 27)]
theorem inL : Cond.initialized RL ∈ Gw := gw_of 37 (by decide +kernel) rfl
theorem inX3 : Cond.initialized RX3 ∈ Gw := gw_of 38 (by decide +kernel) rfl
theorem inJ9 : Cond.initialized RJ9 ∈ Gw := gw_of 39 (by decide +kernel) rfl
theorem inX0 : Cond.initialized RX0 ∈ Gw := gw_of 40 (by decide +kernel) rfl
theorem inX2 : Cond.initialized RX2 ∈ Gw := gw_of 41 (by decide +kernel) rfl
theorem inX1 : Cond.initialized RX1 ∈ Gw := gw_of 42 (by decide +kernel) rfl
theorem inX4 : Cond.initialized RX4 ∈ Gw := gw_of 43 (by decide +kernel) rfl
theorem inJ7 : Cond.initialized RJ7 ∈ Gw := gw_of 44 (by decide +kernel) rfl
theorem inJ6 : Cond.initialized RJ6 ∈ Gw := gw_of 45 (by decide +kernel) rfl
theorem inJ10 : Cond.initialized RJ10 ∈ Gw := gw_of 46 (by decide +kernel) rfl
theorem clL_7 : Cond.classLink RL 7 RX3 ∈ Gw := gw_of 47 (by decide +kernel) rfl
theorem isX3 : Cond.instantiable RX3 9 ∈ Gw := gw_of 48 (by decide +kernel) rfl
theorem mlL_15 : Cond.methodLink RL 15 yX3_init ∈ Gw := gw_of 49 (by decide +kernel) rfl
theorem imX3_init : Cond.instanceMethod yX3_init ∈ Gw := gw_of 50 (by decide +kernel) rfl
theorem cdX3_init : kX3_init ∈ Gw := gw_of 51 (by decide +kernel) rfl
theorem mlX3_3 : Cond.methodLink RX3 3 objectInit ∈ Gw := gw_of 52 (by decide +kernel) rfl
theorem mlX3_9 : Cond.methodLink RX3 9 yJ9_min ∈ Gw := gw_of 55 (by decide +kernel) rfl
theorem smJ9_min : Cond.static yJ9_min ∈ Gw := gw_of 56 (by decide +kernel) rfl
theorem cdJ9_min : kJ9_min ∈ Gw := gw_of 57 (by decide +kernel) rfl
theorem mlX3_15 : Cond.methodLink RX3 15 yJ9_max ∈ Gw := gw_of 58 (by decide +kernel) rfl
theorem smJ9_max : Cond.static yJ9_max ∈ Gw := gw_of 59 (by decide +kernel) rfl
theorem cdJ9_max : kJ9_max ∈ Gw := gw_of 60 (by decide +kernel) rfl
theorem clX3_28 : Cond.classLink RX3 28 RX0 ∈ Gw := gw_of 61 (by decide +kernel) rfl
theorem isX0 : Cond.instantiable RX0 5 ∈ Gw := gw_of 63 (by decide +kernel) rfl
theorem imX0_init : Cond.instanceMethod yX0_init ∈ Gw := gw_of 65 (by decide +kernel) rfl
theorem cdX0_init : kX0_init ∈ Gw := gw_of 66 (by decide +kernel) rfl
theorem mlX0_3 : Cond.methodLink RX0 3 objectInit ∈ Gw := gw_of 67 (by decide +kernel) rfl
theorem flX0_9 : Cond.fieldLink RX0 9 "TwofoldAmounts$Amount" "row" "[I" ∈ Gw := gw_of 68 (by decide +kernel) rfl
theorem flX3_83 : Cond.fieldLink RX3 83 "TwofoldAmounts$Amount" "row" "[I" ∈ Gw := gw_of 69 (by decide +kernel) rfl
theorem flX0_32 : Cond.fieldLink RX0 32 "TwofoldAmounts$Amount" "held" "Z" ∈ Gw := gw_of 70 (by decide +kernel) rfl
theorem flX3_79 : Cond.fieldLink RX3 79 "TwofoldAmounts$Amount" "held" "Z" ∈ Gw := gw_of 71 (by decide +kernel) rfl
theorem flX0_15 : Cond.fieldLink RX0 15 "TwofoldAmounts$Amount" "wide" "Z" ∈ Gw := gw_of 72 (by decide +kernel) rfl
theorem flX3_97 : Cond.fieldLink RX3 97 "TwofoldAmounts$Amount" "wide" "Z" ∈ Gw := gw_of 73 (by decide +kernel) rfl
theorem flX0_42 : Cond.fieldLink RX0 42 "TwofoldAmounts$Amount" "negative" "Z" ∈ Gw := gw_of 74 (by decide +kernel) rfl
theorem flX3_86 : Cond.fieldLink RX3 86 "TwofoldAmounts$Amount" "negative" "Z" ∈ Gw := gw_of 75 (by decide +kernel) rfl
theorem flX0_19 : Cond.fieldLink RX0 19 "TwofoldAmounts$Amount" "currency" "I" ∈ Gw := gw_of 76 (by decide +kernel) rfl
theorem flX3_100 : Cond.fieldLink RX3 100 "TwofoldAmounts$Amount" "currency" "I" ∈ Gw := gw_of 77 (by decide +kernel) rfl
theorem clX3_43 : Cond.classLink RX3 43 RX2 ∈ Gw := gw_of 90 (by decide +kernel) rfl
theorem isX2 : Cond.instantiable RX2 4 ∈ Gw := gw_of 91 (by decide +kernel) rfl
theorem imX2_init : Cond.instanceMethod yX2_init ∈ Gw := gw_of 93 (by decide +kernel) rfl
theorem cdX2_init : kX2_init ∈ Gw := gw_of 94 (by decide +kernel) rfl
theorem mlX2_3 : Cond.methodLink RX2 3 objectInit ∈ Gw := gw_of 95 (by decide +kernel) rfl
theorem flX2_9 : Cond.fieldLink RX2 9 "TwofoldAmounts$Work" "row" "[I" ∈ Gw := gw_of 96 (by decide +kernel) rfl
theorem flX0_23 : Cond.fieldLink RX0 23 "TwofoldAmounts$Work" "row" "[I" ∈ Gw := gw_of 97 (by decide +kernel) rfl
theorem flX3_133 : Cond.fieldLink RX3 133 "TwofoldAmounts$Work" "row" "[I" ∈ Gw := gw_of 98 (by decide +kernel) rfl
theorem flX2_15 : Cond.fieldLink RX2 15 "TwofoldAmounts$Work" "factor" "[I" ∈ Gw := gw_of 99 (by decide +kernel) rfl
theorem flX2_24 : Cond.fieldLink RX2 24 "TwofoldAmounts$Work" "negative" "Z" ∈ Gw := gw_of 100 (by decide +kernel) rfl
theorem flX0_35 : Cond.fieldLink RX0 35 "TwofoldAmounts$Work" "negative" "Z" ∈ Gw := gw_of 101 (by decide +kernel) rfl
theorem flX3_205 : Cond.fieldLink RX3 205 "TwofoldAmounts$Work" "negative" "Z" ∈ Gw := gw_of 102 (by decide +kernel) rfl
theorem flX2_28 : Cond.fieldLink RX2 28 "TwofoldAmounts$Work" "goesOn" "Z" ∈ Gw := gw_of 103 (by decide +kernel) rfl
theorem clX3_53 : Cond.classLink RX3 53 RX1 ∈ Gw := gw_of 114 (by decide +kernel) rfl
theorem isX1 : Cond.instantiable RX1 4 ∈ Gw := gw_of 115 (by decide +kernel) rfl
theorem imX1_init : Cond.instanceMethod yX1_init ∈ Gw := gw_of 117 (by decide +kernel) rfl
theorem cdX1_init : kX1_init ∈ Gw := gw_of 118 (by decide +kernel) rfl
theorem mlX1_3 : Cond.methodLink RX1 3 objectInit ∈ Gw := gw_of 119 (by decide +kernel) rfl
theorem flX1_9 : Cond.fieldLink RX1 9 "TwofoldAmounts$Text" "letters" "[I" ∈ Gw := gw_of 120 (by decide +kernel) rfl
theorem flX3_175 : Cond.fieldLink RX3 175 "TwofoldAmounts$Text" "letters" "[I" ∈ Gw := gw_of 121 (by decide +kernel) rfl
theorem flX1_15 : Cond.fieldLink RX1 15 "TwofoldAmounts$Text" "size" "I" ∈ Gw := gw_of 122 (by decide +kernel) rfl
theorem flX3_162 : Cond.fieldLink RX3 162 "TwofoldAmounts$Text" "size" "I" ∈ Gw := gw_of 123 (by decide +kernel) rfl
theorem flX1_23 : Cond.fieldLink RX1 23 "TwofoldAmounts$Text" "at" "I" ∈ Gw := gw_of 124 (by decide +kernel) rfl
theorem flX3_178 : Cond.fieldLink RX3 178 "TwofoldAmounts$Text" "at" "I" ∈ Gw := gw_of 125 (by decide +kernel) rfl
theorem flX1_26 : Cond.fieldLink RX1 26 "TwofoldAmounts$Text" "currency" "I" ∈ Gw := gw_of 126 (by decide +kernel) rfl
theorem flX3_187 : Cond.fieldLink RX3 187 "TwofoldAmounts$Text" "currency" "I" ∈ Gw := gw_of 127 (by decide +kernel) rfl
theorem flX3_18 : Cond.fieldLink RX3 18 "TwofoldAmounts" "contextPrecision" "I" ∈ Gw := gw_of 137 (by decide +kernel) rfl
theorem flX3_22 : Cond.fieldLink RX3 22 "TwofoldAmounts" "contextScale" "I" ∈ Gw := gw_of 138 (by decide +kernel) rfl
theorem flX3_25 : Cond.fieldLink RX3 25 "TwofoldAmounts" "contextMode" "I" ∈ Gw := gw_of 139 (by decide +kernel) rfl
theorem flX3_30 : Cond.fieldLink RX3 30 "TwofoldAmounts" "amounts" "[LTwofoldAmounts$Amount;" ∈ Gw := gw_of 140 (by decide +kernel) rfl
theorem flX3_35 : Cond.fieldLink RX3 35 "TwofoldAmounts" "ratios" "[I" ∈ Gw := gw_of 141 (by decide +kernel) rfl
theorem flX3_39 : Cond.fieldLink RX3 39 "TwofoldAmounts" "remainders" "[J" ∈ Gw := gw_of 142 (by decide +kernel) rfl
theorem flX3_46 : Cond.fieldLink RX3 46 "TwofoldAmounts" "work" "LTwofoldAmounts$Work;" ∈ Gw := gw_of 143 (by decide +kernel) rfl
theorem flX3_50 : Cond.fieldLink RX3 50 "TwofoldAmounts" "share" "LTwofoldAmounts$Work;" ∈ Gw := gw_of 144 (by decide +kernel) rfl
theorem flX3_56 : Cond.fieldLink RX3 56 "TwofoldAmounts" "text" "LTwofoldAmounts$Text;" ∈ Gw := gw_of 145 (by decide +kernel) rfl
theorem mlL_23 : Cond.methodLink RL 23 yX3_set ∈ Gw := gw_of 165 (by decide +kernel) rfl
theorem imX3_set : Cond.instanceMethod yX3_set ∈ Gw := gw_of 166 (by decide +kernel) rfl
theorem seX3_set : Cond.selects RX3 yX3_set yX3_set ∈ Gw := gw_of 167 (by decide +kernel) rfl
theorem cdX3_set : kX3_set ∈ Gw := gw_of 168 (by decide +kernel) rfl
theorem mlX3_60 : Cond.methodLink RX3 60 yX3_isRegister ∈ Gw := gw_of 169 (by decide +kernel) rfl
theorem smX3_isRegister : Cond.static yX3_isRegister ∈ Gw := gw_of 170 (by decide +kernel) rfl
theorem cdX3_isRegister : kX3_isRegister ∈ Gw := gw_of 171 (by decide +kernel) rfl
theorem mlX3_64 : Cond.methodLink RX3 64 yX3_isPower ∈ Gw := gw_of 172 (by decide +kernel) rfl
theorem smX3_isPower : Cond.static yX3_isPower ∈ Gw := gw_of 173 (by decide +kernel) rfl
theorem cdX3_isPower : kX3_isPower ∈ Gw := gw_of 174 (by decide +kernel) rfl
theorem mlX3_67 : Cond.methodLink RX3 67 yX2_loadNumber ∈ Gw := gw_of 175 (by decide +kernel) rfl
theorem imX2_loadNumber : Cond.instanceMethod yX2_loadNumber ∈ Gw := gw_of 176 (by decide +kernel) rfl
theorem seX2_loadNumber : Cond.selects RX2 yX2_loadNumber yX2_loadNumber ∈ Gw := gw_of 177 (by decide +kernel) rfl
theorem cdX2_loadNumber : kX2_loadNumber ∈ Gw := gw_of 178 (by decide +kernel) rfl
theorem mlX2_31 : Cond.methodLink RX2 31 yX2_clear ∈ Gw := gw_of 179 (by decide +kernel) rfl
theorem imX2_clear : Cond.instanceMethod yX2_clear ∈ Gw := gw_of 180 (by decide +kernel) rfl
theorem seX2_clear : Cond.selects RX2 yX2_clear yX2_clear ∈ Gw := gw_of 181 (by decide +kernel) rfl
theorem cdX2_clear : kX2_clear ∈ Gw := gw_of 182 (by decide +kernel) rfl
theorem mlX2_18 : Cond.methodLink RX2 18 yJ7_fill ∈ Gw := gw_of 183 (by decide +kernel) rfl
theorem smJ7_fill : Cond.static yJ7_fill ∈ Gw := gw_of 184 (by decide +kernel) rfl
theorem cdJ7_fill : kJ7_fill ∈ Gw := gw_of 185 (by decide +kernel) rfl
theorem mlX2_40 : Cond.methodLink RX2 40 yX2_spell ∈ Gw := gw_of 186 (by decide +kernel) rfl
theorem smX2_spell : Cond.static yX2_spell ∈ Gw := gw_of 187 (by decide +kernel) rfl
theorem cdX2_spell : kX2_spell ∈ Gw := gw_of 188 (by decide +kernel) rfl
theorem kcX2_44 : Cond.constantLong RX2 44 (10 : Int64) ∈ Gw := gw_of 189 (by decide +kernel) rfl
theorem mlX2_46 : Cond.methodLink RX2 46 yJ9_abs ∈ Gw := gw_of 190 (by decide +kernel) rfl
theorem smJ9_abs : Cond.static yJ9_abs ∈ Gw := gw_of 191 (by decide +kernel) rfl
theorem cdJ9_abs : kJ9_abs ∈ Gw := gw_of 192 (by decide +kernel) rfl
theorem mlX3_71 : Cond.methodLink RX3 71 yX3_keep ∈ Gw := gw_of 193 (by decide +kernel) rfl
theorem imX3_keep : Cond.instanceMethod yX3_keep ∈ Gw := gw_of 195 (by decide +kernel) rfl
theorem cdX3_keep : kX3_keep ∈ Gw := gw_of 196 (by decide +kernel) rfl
theorem mlX3_195 : Cond.methodLink RX3 195 yX2_size ∈ Gw := gw_of 197 (by decide +kernel) rfl
theorem imX2_size : Cond.instanceMethod yX2_size ∈ Gw := gw_of 198 (by decide +kernel) rfl
theorem seX2_size : Cond.selects RX2 yX2_size yX2_size ∈ Gw := gw_of 199 (by decide +kernel) rfl
theorem cdX2_size : kX2_size ∈ Gw := gw_of 200 (by decide +kernel) rfl
theorem mlX3_117 : Cond.methodLink RX3 117 yX2_toMultiple ∈ Gw := gw_of 201 (by decide +kernel) rfl
theorem imX2_toMultiple : Cond.instanceMethod yX2_toMultiple ∈ Gw := gw_of 202 (by decide +kernel) rfl
theorem seX2_toMultiple : Cond.selects RX2 yX2_toMultiple yX2_toMultiple ∈ Gw := gw_of 203 (by decide +kernel) rfl
theorem cdX2_toMultiple : kX2_toMultiple ∈ Gw := gw_of 204 (by decide +kernel) rfl
theorem smX3_isZero : Cond.static yX3_isZero ∈ Gw := gw_of 206 (by decide +kernel) rfl
theorem cdX3_isZero : kX3_isZero ∈ Gw := gw_of 207 (by decide +kernel) rfl
theorem mlX2_72 : Cond.methodLink RX2 72 yJ6_compare ∈ Gw := gw_of 208 (by decide +kernel) rfl
theorem smJ6_compare : Cond.static yJ6_compare ∈ Gw := gw_of 209 (by decide +kernel) rfl
theorem cdJ6_compare : kJ6_compare ∈ Gw := gw_of 210 (by decide +kernel) rfl
theorem mlX2_77 : Cond.methodLink RX2 77 yX2_goesAway ∈ Gw := gw_of 211 (by decide +kernel) rfl
theorem imX2_goesAway : Cond.instanceMethod yX2_goesAway ∈ Gw := gw_of 213 (by decide +kernel) rfl
theorem cdX2_goesAway : kX2_goesAway ∈ Gw := gw_of 214 (by decide +kernel) rfl
theorem mlX2_81 : Cond.methodLink RX2 81 yX2_increase ∈ Gw := gw_of 215 (by decide +kernel) rfl
theorem imX2_increase : Cond.instanceMethod yX2_increase ∈ Gw := gw_of 216 (by decide +kernel) rfl
theorem seX2_increase : Cond.selects RX2 yX2_increase yX2_increase ∈ Gw := gw_of 217 (by decide +kernel) rfl
theorem cdX2_increase : kX2_increase ∈ Gw := gw_of 218 (by decide +kernel) rfl
theorem mlX2_59 : Cond.methodLink RX2 59 yX2_carry ∈ Gw := gw_of 219 (by decide +kernel) rfl
theorem imX2_carry : Cond.instanceMethod yX2_carry ∈ Gw := gw_of 220 (by decide +kernel) rfl
theorem seX2_carry : Cond.selects RX2 yX2_carry yX2_carry ∈ Gw := gw_of 221 (by decide +kernel) rfl
theorem cdX2_carry : kX2_carry ∈ Gw := gw_of 222 (by decide +kernel) rfl
theorem mlX2_52 : Cond.methodLink RX2 52 yJ9_floorMod ∈ Gw := gw_of 223 (by decide +kernel) rfl
theorem smJ9_floorMod : Cond.static yJ9_floorMod ∈ Gw := gw_of 224 (by decide +kernel) rfl
theorem cdJ9_floorMod : kJ9_floorMod ∈ Gw := gw_of 225 (by decide +kernel) rfl
theorem mlX2_56 : Cond.methodLink RX2 56 yJ9_floorDiv ∈ Gw := gw_of 226 (by decide +kernel) rfl
theorem smJ9_floorDiv : Cond.static yJ9_floorDiv ∈ Gw := gw_of 227 (by decide +kernel) rfl
theorem cdJ9_floorDiv : kJ9_floorDiv ∈ Gw := gw_of 228 (by decide +kernel) rfl
theorem mlX3_107 : Cond.methodLink RX3 107 yX3_store ∈ Gw := gw_of 229 (by decide +kernel) rfl
theorem imX3_store : Cond.instanceMethod yX3_store ∈ Gw := gw_of 231 (by decide +kernel) rfl
theorem cdX3_store : kX3_store ∈ Gw := gw_of 232 (by decide +kernel) rfl
theorem mlX3_198 : Cond.methodLink RX3 198 yX2_fitsWide ∈ Gw := gw_of 233 (by decide +kernel) rfl
theorem imX2_fitsWide : Cond.instanceMethod yX2_fitsWide ∈ Gw := gw_of 234 (by decide +kernel) rfl
theorem seX2_fitsWide : Cond.selects RX2 yX2_fitsWide yX2_fitsWide ∈ Gw := gw_of 235 (by decide +kernel) rfl
theorem cdX2_fitsWide : kX2_fitsWide ∈ Gw := gw_of 236 (by decide +kernel) rfl
theorem mlX3_202 : Cond.methodLink RX3 202 yX2_fitsFast ∈ Gw := gw_of 237 (by decide +kernel) rfl
theorem imX2_fitsFast : Cond.instanceMethod yX2_fitsFast ∈ Gw := gw_of 238 (by decide +kernel) rfl
theorem seX2_fitsFast : Cond.selects RX2 yX2_fitsFast yX2_fitsFast ∈ Gw := gw_of 239 (by decide +kernel) rfl
theorem cdX2_fitsFast : kX2_fitsFast ∈ Gw := gw_of 240 (by decide +kernel) rfl
theorem smX3_asLong : Cond.static yX3_asLong ∈ Gw := gw_of 242 (by decide +kernel) rfl
theorem cdX3_asLong : kX3_asLong ∈ Gw := gw_of 243 (by decide +kernel) rfl
theorem kcX3_232 : Cond.constantLong RX3 232 (10 : Int64) ∈ Gw := gw_of 244 (by decide +kernel) rfl
theorem kcX2_89 : Cond.constantLong RX2 89 (-9223372036854775808 : Int64) ∈ Gw := gw_of 245 (by decide +kernel) rfl
theorem mlX3_138 : Cond.methodLink RX3 138 yX0_take ∈ Gw := gw_of 246 (by decide +kernel) rfl
theorem imX0_take : Cond.instanceMethod yX0_take ∈ Gw := gw_of 247 (by decide +kernel) rfl
theorem seX0_take : Cond.selects RX0 yX0_take yX0_take ∈ Gw := gw_of 248 (by decide +kernel) rfl
theorem cdX0_take : kX0_take ∈ Gw := gw_of 249 (by decide +kernel) rfl
theorem mlX0_26 : Cond.methodLink RX0 26 arraycopyName ∈ Gw := gw_of 250 (by decide +kernel) rfl
theorem mlL_28 : Cond.methodLink RL 28 yX3_add ∈ Gw := gw_of 254 (by decide +kernel) rfl
theorem imX3_add : Cond.instanceMethod yX3_add ∈ Gw := gw_of 255 (by decide +kernel) rfl
theorem seX3_add : Cond.selects RX3 yX3_add yX3_add ∈ Gw := gw_of 256 (by decide +kernel) rfl
theorem cdX3_add : kX3_add ∈ Gw := gw_of 257 (by decide +kernel) rfl
theorem mlX3_75 : Cond.methodLink RX3 75 yX3_combine ∈ Gw := gw_of 258 (by decide +kernel) rfl
theorem imX3_combine : Cond.instanceMethod yX3_combine ∈ Gw := gw_of 260 (by decide +kernel) rfl
theorem cdX3_combine : kX3_combine ∈ Gw := gw_of 261 (by decide +kernel) rfl
theorem mlX3_142 : Cond.methodLink RX3 142 yX0_isLike ∈ Gw := gw_of 262 (by decide +kernel) rfl
theorem imX0_isLike : Cond.instanceMethod yX0_isLike ∈ Gw := gw_of 263 (by decide +kernel) rfl
theorem seX0_isLike : Cond.selects RX0 yX0_isLike yX0_isLike ∈ Gw := gw_of 264 (by decide +kernel) rfl
theorem cdX0_isLike : kX0_isLike ∈ Gw := gw_of 265 (by decide +kernel) rfl
theorem mlX3_89 : Cond.methodLink RX3 89 yX2_load ∈ Gw := gw_of 266 (by decide +kernel) rfl
theorem imX2_load : Cond.instanceMethod yX2_load ∈ Gw := gw_of 267 (by decide +kernel) rfl
theorem seX2_load : Cond.selects RX2 yX2_load yX2_load ∈ Gw := gw_of 268 (by decide +kernel) rfl
theorem cdX2_load : kX2_load ∈ Gw := gw_of 269 (by decide +kernel) rfl
theorem mlX2_34 : Cond.methodLink RX2 34 arraycopyName ∈ Gw := gw_of 270 (by decide +kernel) rfl
theorem mlX3_191 : Cond.methodLink RX3 191 yX2_join ∈ Gw := gw_of 271 (by decide +kernel) rfl
theorem imX2_join : Cond.instanceMethod yX2_join ∈ Gw := gw_of 272 (by decide +kernel) rfl
theorem seX2_join : Cond.selects RX2 yX2_join yX2_join ∈ Gw := gw_of 273 (by decide +kernel) rfl
theorem cdX2_join : kX2_join ∈ Gw := gw_of 274 (by decide +kernel) rfl
theorem mlX3_146 : Cond.methodLink RX3 146 yX3_compareRows ∈ Gw := gw_of 275 (by decide +kernel) rfl
theorem smX3_compareRows : Cond.static yX3_compareRows ∈ Gw := gw_of 276 (by decide +kernel) rfl
theorem cdX3_compareRows : kX3_compareRows ∈ Gw := gw_of 277 (by decide +kernel) rfl
theorem mlL_33 : Cond.methodLink RL 33 yX3_subtract ∈ Gw := gw_of 278 (by decide +kernel) rfl
theorem imX3_subtract : Cond.instanceMethod yX3_subtract ∈ Gw := gw_of 279 (by decide +kernel) rfl
theorem seX3_subtract : Cond.selects RX3 yX3_subtract yX3_subtract ∈ Gw := gw_of 280 (by decide +kernel) rfl
theorem cdX3_subtract : kX3_subtract ∈ Gw := gw_of 281 (by decide +kernel) rfl
theorem mlL_37 : Cond.methodLink RL 37 yX3_multiply ∈ Gw := gw_of 282 (by decide +kernel) rfl
theorem imX3_multiply : Cond.instanceMethod yX3_multiply ∈ Gw := gw_of 283 (by decide +kernel) rfl
theorem seX3_multiply : Cond.selects RX3 yX3_multiply yX3_multiply ∈ Gw := gw_of 284 (by decide +kernel) rfl
theorem cdX3_multiply : kX3_multiply ∈ Gw := gw_of 285 (by decide +kernel) rfl
theorem mlX3_93 : Cond.methodLink RX3 93 yX2_times ∈ Gw := gw_of 286 (by decide +kernel) rfl
theorem imX2_times : Cond.instanceMethod yX2_times ∈ Gw := gw_of 287 (by decide +kernel) rfl
theorem seX2_times : Cond.selects RX2 yX2_times yX2_times ∈ Gw := gw_of 288 (by decide +kernel) rfl
theorem cdX2_times : kX2_times ∈ Gw := gw_of 289 (by decide +kernel) rfl
theorem mlX2_62 : Cond.methodLink RX2 62 yX2_size ∈ Gw := gw_of 290 (by decide +kernel) rfl
theorem mlL_42 : Cond.methodLink RL 42 yX3_divide ∈ Gw := gw_of 291 (by decide +kernel) rfl
theorem imX3_divide : Cond.instanceMethod yX3_divide ∈ Gw := gw_of 292 (by decide +kernel) rfl
theorem seX3_divide : Cond.selects RX3 yX3_divide yX3_divide ∈ Gw := gw_of 293 (by decide +kernel) rfl
theorem cdX3_divide : kX3_divide ∈ Gw := gw_of 294 (by decide +kernel) rfl
theorem mlX3_103 : Cond.methodLink RX3 103 yX2_over ∈ Gw := gw_of 295 (by decide +kernel) rfl
theorem imX2_over : Cond.instanceMethod yX2_over ∈ Gw := gw_of 296 (by decide +kernel) rfl
theorem seX2_over : Cond.selects RX2 yX2_over yX2_over ∈ Gw := gw_of 297 (by decide +kernel) rfl
theorem cdX2_over : kX2_over ∈ Gw := gw_of 298 (by decide +kernel) rfl
theorem kcX2_66 : Cond.constantLong RX2 66 (-1 : Int64) ∈ Gw := gw_of 299 (by decide +kernel) rfl
theorem mlL_46 : Cond.methodLink RL 46 yX3_negate ∈ Gw := gw_of 300 (by decide +kernel) rfl
theorem imX3_negate : Cond.instanceMethod yX3_negate ∈ Gw := gw_of 301 (by decide +kernel) rfl
theorem seX3_negate : Cond.selects RX3 yX3_negate yX3_negate ∈ Gw := gw_of 302 (by decide +kernel) rfl
theorem cdX3_negate : kX3_negate ∈ Gw := gw_of 303 (by decide +kernel) rfl
theorem mlL_51 : Cond.methodLink RL 51 yX3_round ∈ Gw := gw_of 304 (by decide +kernel) rfl
theorem imX3_round : Cond.instanceMethod yX3_round ∈ Gw := gw_of 305 (by decide +kernel) rfl
theorem seX3_round : Cond.selects RX3 yX3_round yX3_round ∈ Gw := gw_of 306 (by decide +kernel) rfl
theorem cdX3_round : kX3_round ∈ Gw := gw_of 307 (by decide +kernel) rfl
theorem flX3_110 : Cond.fieldLink RX3 110 "TwofoldAmounts" "CASH_UNITS" "[I" ∈ Gw := gw_of 308 (by decide +kernel) rfl
theorem mlX3_113 : Cond.methodLink RX3 113 yX3_unitPlace ∈ Gw := gw_of 310 (by decide +kernel) rfl
theorem smX3_unitPlace : Cond.static yX3_unitPlace ∈ Gw := gw_of 311 (by decide +kernel) rfl
theorem cdX3_unitPlace : kX3_unitPlace ∈ Gw := gw_of 312 (by decide +kernel) rfl
theorem flX3_188 : Cond.fieldLink RX3 188 "TwofoldAmounts" "UNIT_DIGITS" "[I" ∈ Gw := gw_of 313 (by decide +kernel) rfl
theorem mlL_56 : Cond.methodLink RL 56 yX3_ratio ∈ Gw := gw_of 315 (by decide +kernel) rfl
theorem imX3_ratio : Cond.instanceMethod yX3_ratio ∈ Gw := gw_of 316 (by decide +kernel) rfl
theorem seX3_ratio : Cond.selects RX3 yX3_ratio yX3_ratio ∈ Gw := gw_of 317 (by decide +kernel) rfl
theorem cdX3_ratio : kX3_ratio ∈ Gw := gw_of 318 (by decide +kernel) rfl
theorem kcX3_121 : Cond.constant RX3 121 (1000000 : Int32) ∈ Gw := gw_of 319 (by decide +kernel) rfl
theorem mlL_61 : Cond.methodLink RL 61 yX3_allocate ∈ Gw := gw_of 320 (by decide +kernel) rfl
theorem imX3_allocate : Cond.instanceMethod yX3_allocate ∈ Gw := gw_of 321 (by decide +kernel) rfl
theorem seX3_allocate : Cond.selects RX3 yX3_allocate yX3_allocate ∈ Gw := gw_of 322 (by decide +kernel) rfl
theorem cdX3_allocate : kX3_allocate ∈ Gw := gw_of 323 (by decide +kernel) rfl
theorem mlX3_122 : Cond.methodLink RX3 122 yX3_sumOfRatios ∈ Gw := gw_of 324 (by decide +kernel) rfl
theorem imX3_sumOfRatios : Cond.instanceMethod yX3_sumOfRatios ∈ Gw := gw_of 326 (by decide +kernel) rfl
theorem cdX3_sumOfRatios : kX3_sumOfRatios ∈ Gw := gw_of 327 (by decide +kernel) rfl
theorem mlX3_126 : Cond.methodLink RX3 126 yX3_splitRest ∈ Gw := gw_of 328 (by decide +kernel) rfl
theorem imX3_splitRest : Cond.instanceMethod yX3_splitRest ∈ Gw := gw_of 330 (by decide +kernel) rfl
theorem cdX3_splitRest : kX3_splitRest ∈ Gw := gw_of 331 (by decide +kernel) rfl
theorem mlX3_130 : Cond.methodLink RX3 130 yX3_rankOf ∈ Gw := gw_of 332 (by decide +kernel) rfl
theorem imX3_rankOf : Cond.instanceMethod yX3_rankOf ∈ Gw := gw_of 334 (by decide +kernel) rfl
theorem cdX3_rankOf : kX3_rankOf ∈ Gw := gw_of 335 (by decide +kernel) rfl
theorem mlX3_134 : Cond.methodLink RX3 134 yX2_increase ∈ Gw := gw_of 336 (by decide +kernel) rfl
theorem mlL_65 : Cond.methodLink RL 65 yX3_compare ∈ Gw := gw_of 337 (by decide +kernel) rfl
theorem imX3_compare : Cond.instanceMethod yX3_compare ∈ Gw := gw_of 338 (by decide +kernel) rfl
theorem seX3_compare : Cond.selects RX3 yX3_compare yX3_compare ∈ Gw := gw_of 339 (by decide +kernel) rfl
theorem cdX3_compare : kX3_compare ∈ Gw := gw_of 340 (by decide +kernel) rfl
theorem mlL_69 : Cond.methodLink RL 69 yX3_sign ∈ Gw := gw_of 341 (by decide +kernel) rfl
theorem imX3_sign : Cond.instanceMethod yX3_sign ∈ Gw := gw_of 342 (by decide +kernel) rfl
theorem seX3_sign : Cond.selects RX3 yX3_sign yX3_sign ∈ Gw := gw_of 343 (by decide +kernel) rfl
theorem cdX3_sign : kX3_sign ∈ Gw := gw_of 344 (by decide +kernel) rfl
theorem mlX3_150 : Cond.methodLink RX3 150 yX3_isZero ∈ Gw := gw_of 345 (by decide +kernel) rfl
theorem mlL_74 : Cond.methodLink RL 74 yX3_kind ∈ Gw := gw_of 346 (by decide +kernel) rfl
theorem imX3_kind : Cond.instanceMethod yX3_kind ∈ Gw := gw_of 347 (by decide +kernel) rfl
theorem seX3_kind : Cond.selects RX3 yX3_kind yX3_kind ∈ Gw := gw_of 348 (by decide +kernel) rfl
theorem cdX3_kind : kX3_kind ∈ Gw := gw_of 349 (by decide +kernel) rfl
theorem mlL_78 : Cond.methodLink RL 78 yX3_digits ∈ Gw := gw_of 350 (by decide +kernel) rfl
theorem imX3_digits : Cond.instanceMethod yX3_digits ∈ Gw := gw_of 351 (by decide +kernel) rfl
theorem seX3_digits : Cond.selects RX3 yX3_digits yX3_digits ∈ Gw := gw_of 352 (by decide +kernel) rfl
theorem cdX3_digits : kX3_digits ∈ Gw := gw_of 353 (by decide +kernel) rfl
theorem kcX3_154 : Cond.constantLong RX3 154 (-15 : Int64) ∈ Gw := gw_of 354 (by decide +kernel) rfl
theorem kcX3_156 : Cond.constantLong RX3 156 (-11 : Int64) ∈ Gw := gw_of 355 (by decide +kernel) rfl
theorem mlX3_158 : Cond.methodLink RX3 158 yX3_asLong ∈ Gw := gw_of 356 (by decide +kernel) rfl
theorem mlL_83 : Cond.methodLink RL 83 yX3_discard ∈ Gw := gw_of 357 (by decide +kernel) rfl
theorem imX3_discard : Cond.instanceMethod yX3_discard ∈ Gw := gw_of 358 (by decide +kernel) rfl
theorem seX3_discard : Cond.selects RX3 yX3_discard yX3_discard ∈ Gw := gw_of 359 (by decide +kernel) rfl
theorem cdX3_discard : kX3_discard ∈ Gw := gw_of 360 (by decide +kernel) rfl
theorem mlL_88 : Cond.methodLink RL 88 yX3_format ∈ Gw := gw_of 361 (by decide +kernel) rfl
theorem imX3_format : Cond.instanceMethod yX3_format ∈ Gw := gw_of 362 (by decide +kernel) rfl
theorem seX3_format : Cond.selects RX3 yX3_format yX3_format ∈ Gw := gw_of 363 (by decide +kernel) rfl
theorem cdX3_format : kX3_format ∈ Gw := gw_of 364 (by decide +kernel) rfl
theorem mlX3_165 : Cond.methodLink RX3 165 yX3_writeNumber ∈ Gw := gw_of 365 (by decide +kernel) rfl
theorem imX3_writeNumber : Cond.instanceMethod yX3_writeNumber ∈ Gw := gw_of 367 (by decide +kernel) rfl
theorem cdX3_writeNumber : kX3_writeNumber ∈ Gw := gw_of 368 (by decide +kernel) rfl
theorem mlX3_168 : Cond.methodLink RX3 168 yX1_append ∈ Gw := gw_of 369 (by decide +kernel) rfl
theorem imX1_append : Cond.instanceMethod yX1_append ∈ Gw := gw_of 370 (by decide +kernel) rfl
theorem seX1_append : Cond.selects RX1 yX1_append yX1_append ∈ Gw := gw_of 371 (by decide +kernel) rfl
theorem cdX1_append : kX1_append ∈ Gw := gw_of 372 (by decide +kernel) rfl
theorem mlX3_206 : Cond.methodLink RX3 206 yX3_writeBody ∈ Gw := gw_of 373 (by decide +kernel) rfl
theorem imX3_writeBody : Cond.instanceMethod yX3_writeBody ∈ Gw := gw_of 375 (by decide +kernel) rfl
theorem cdX3_writeBody : kX3_writeBody ∈ Gw := gw_of 376 (by decide +kernel) rfl
theorem mlX3_172 : Cond.methodLink RX3 172 yX1_appendCode ∈ Gw := gw_of 377 (by decide +kernel) rfl
theorem imX1_appendCode : Cond.instanceMethod yX1_appendCode ∈ Gw := gw_of 378 (by decide +kernel) rfl
theorem seX1_appendCode : Cond.selects RX1 yX1_appendCode yX1_appendCode ∈ Gw := gw_of 379 (by decide +kernel) rfl
theorem cdX1_appendCode : kX1_appendCode ∈ Gw := gw_of 380 (by decide +kernel) rfl
theorem mlX1_19 : Cond.methodLink RX1 19 yX1_append ∈ Gw := gw_of 381 (by decide +kernel) rfl
theorem mlL_92 : Cond.methodLink RL 92 yX3_type ∈ Gw := gw_of 382 (by decide +kernel) rfl
theorem imX3_type : Cond.instanceMethod yX3_type ∈ Gw := gw_of 383 (by decide +kernel) rfl
theorem seX3_type : Cond.selects RX3 yX3_type yX3_type ∈ Gw := gw_of 384 (by decide +kernel) rfl
theorem cdX3_type : kX3_type ∈ Gw := gw_of 385 (by decide +kernel) rfl
theorem mlL_96 : Cond.methodLink RL 96 yX3_wipe ∈ Gw := gw_of 386 (by decide +kernel) rfl
theorem imX3_wipe : Cond.instanceMethod yX3_wipe ∈ Gw := gw_of 387 (by decide +kernel) rfl
theorem seX3_wipe : Cond.selects RX3 yX3_wipe yX3_wipe ∈ Gw := gw_of 388 (by decide +kernel) rfl
theorem cdX3_wipe : kX3_wipe ∈ Gw := gw_of 389 (by decide +kernel) rfl
theorem mlL_100 : Cond.methodLink RL 100 yX3_letter ∈ Gw := gw_of 390 (by decide +kernel) rfl
theorem imX3_letter : Cond.instanceMethod yX3_letter ∈ Gw := gw_of 391 (by decide +kernel) rfl
theorem seX3_letter : Cond.selects RX3 yX3_letter yX3_letter ∈ Gw := gw_of 392 (by decide +kernel) rfl
theorem cdX3_letter : kX3_letter ∈ Gw := gw_of 393 (by decide +kernel) rfl
theorem mlL_104 : Cond.methodLink RL 104 yX3_parse ∈ Gw := gw_of 394 (by decide +kernel) rfl
theorem imX3_parse : Cond.instanceMethod yX3_parse ∈ Gw := gw_of 395 (by decide +kernel) rfl
theorem seX3_parse : Cond.selects RX3 yX3_parse yX3_parse ∈ Gw := gw_of 396 (by decide +kernel) rfl
theorem cdX3_parse : kX3_parse ∈ Gw := gw_of 397 (by decide +kernel) rfl
theorem mlX3_181 : Cond.methodLink RX3 181 yX2_clear ∈ Gw := gw_of 398 (by decide +kernel) rfl
theorem mlX3_184 : Cond.methodLink RX3 184 yX3_readStyle ∈ Gw := gw_of 399 (by decide +kernel) rfl
theorem imX3_readStyle : Cond.instanceMethod yX3_readStyle ∈ Gw := gw_of 401 (by decide +kernel) rfl
theorem cdX3_readStyle : kX3_readStyle ∈ Gw := gw_of 402 (by decide +kernel) rfl
theorem mlX3_210 : Cond.methodLink RX3 210 yX3_readNumber ∈ Gw := gw_of 403 (by decide +kernel) rfl
theorem imX3_readNumber : Cond.instanceMethod yX3_readNumber ∈ Gw := gw_of 405 (by decide +kernel) rfl
theorem cdX3_readNumber : kX3_readNumber ∈ Gw := gw_of 406 (by decide +kernel) rfl
theorem mlX3_213 : Cond.methodLink RX3 213 yX1_skip ∈ Gw := gw_of 407 (by decide +kernel) rfl
theorem imX1_skip : Cond.instanceMethod yX1_skip ∈ Gw := gw_of 408 (by decide +kernel) rfl
theorem seX1_skip : Cond.selects RX1 yX1_skip yX1_skip ∈ Gw := gw_of 409 (by decide +kernel) rfl
theorem cdX1_skip : kX1_skip ∈ Gw := gw_of 410 (by decide +kernel) rfl
theorem mlX3_219 : Cond.methodLink RX3 219 yX3_readBody ∈ Gw := gw_of 411 (by decide +kernel) rfl
theorem imX3_readBody : Cond.instanceMethod yX3_readBody ∈ Gw := gw_of 413 (by decide +kernel) rfl
theorem cdX3_readBody : kX3_readBody ∈ Gw := gw_of 414 (by decide +kernel) rfl
theorem mlX3_223 : Cond.methodLink RX3 223 yX1_skipWhole ∈ Gw := gw_of 415 (by decide +kernel) rfl
theorem imX1_skipWhole : Cond.instanceMethod yX1_skipWhole ∈ Gw := gw_of 416 (by decide +kernel) rfl
theorem seX1_skipWhole : Cond.selects RX1 yX1_skipWhole yX1_skipWhole ∈ Gw := gw_of 417 (by decide +kernel) rfl
theorem cdX1_skipWhole : kX1_skipWhole ∈ Gw := gw_of 418 (by decide +kernel) rfl
theorem mlX1_33 : Cond.methodLink RX1 33 yX1_skipDigits ∈ Gw := gw_of 419 (by decide +kernel) rfl
theorem imX1_skipDigits : Cond.instanceMethod yX1_skipDigits ∈ Gw := gw_of 420 (by decide +kernel) rfl
theorem seX1_skipDigits : Cond.selects RX1 yX1_skipDigits yX1_skipDigits ∈ Gw := gw_of 421 (by decide +kernel) rfl
theorem cdX1_skipDigits : kX1_skipDigits ∈ Gw := gw_of 422 (by decide +kernel) rfl
theorem mlX1_29 : Cond.methodLink RX1 29 yX1_skip ∈ Gw := gw_of 423 (by decide +kernel) rfl
theorem mlX3_226 : Cond.methodLink RX3 226 yX3_takeWhole ∈ Gw := gw_of 424 (by decide +kernel) rfl
theorem imX3_takeWhole : Cond.instanceMethod yX3_takeWhole ∈ Gw := gw_of 426 (by decide +kernel) rfl
theorem cdX3_takeWhole : kX3_takeWhole ∈ Gw := gw_of 427 (by decide +kernel) rfl
theorem mlX3_229 : Cond.methodLink RX3 229 yX1_skipDigits ∈ Gw := gw_of 428 (by decide +kernel) rfl
theorem mlX3_216 : Cond.methodLink RX3 216 yX1_skipCode ∈ Gw := gw_of 429 (by decide +kernel) rfl
theorem imX1_skipCode : Cond.instanceMethod yX1_skipCode ∈ Gw := gw_of 430 (by decide +kernel) rfl
theorem seX1_skipCode : Cond.selects RX1 yX1_skipCode yX1_skipCode ∈ Gw := gw_of 431 (by decide +kernel) rfl
theorem cdX1_skipCode : kX1_skipCode ∈ Gw := gw_of 432 (by decide +kernel) rfl
theorem mlL_9 : Cond.methodLink RL 9 yL_cell ∈ Gw := gw_of 433 (by decide +kernel) rfl
theorem smL_cell : Cond.static yL_cell ∈ Gw := gw_of 434 (by decide +kernel) rfl
theorem cdL_cell : kL_cell ∈ Gw := gw_of 435 (by decide +kernel) rfl
theorem clL_18 : Cond.classLink RL 18 RX4 ∈ Gw := gw_of 436 (by decide +kernel) rfl
theorem isX4 : Cond.instantiable RX4 27 ∈ Gw := gw_of 437 (by decide +kernel) rfl
theorem mlL_20 : Cond.methodLink RL 20 yX4_init ∈ Gw := gw_of 438 (by decide +kernel) rfl
theorem imX4_init : Cond.instanceMethod yX4_init ∈ Gw := gw_of 439 (by decide +kernel) rfl
theorem cdX4_init : kX4_init ∈ Gw := gw_of 440 (by decide +kernel) rfl
theorem mlX4_1 : Cond.methodLink RX4 1 objectInit ∈ Gw := gw_of 441 (by decide +kernel) rfl
theorem flX4_62 : Cond.fieldLink RX4 62 "TwofoldAmountsModel" "p" "I" ∈ Gw := gw_of 442 (by decide +kernel) rfl
theorem flX4_66 : Cond.fieldLink RX4 66 "TwofoldAmountsModel" "s" "I" ∈ Gw := gw_of 443 (by decide +kernel) rfl
theorem flX4_69 : Cond.fieldLink RX4 69 "TwofoldAmountsModel" "m" "I" ∈ Gw := gw_of 444 (by decide +kernel) rfl
theorem flX4_7 : Cond.fieldLink RX4 7 "TwofoldAmountsModel" "currency" "[I" ∈ Gw := gw_of 445 (by decide +kernel) rfl
theorem flX4_13 : Cond.fieldLink RX4 13 "TwofoldAmountsModel" "isWide" "[Z" ∈ Gw := gw_of 446 (by decide +kernel) rfl
theorem flX4_17 : Cond.fieldLink RX4 17 "TwofoldAmountsModel" "negative" "[Z" ∈ Gw := gw_of 447 (by decide +kernel) rfl
theorem flX4_20 : Cond.fieldLink RX4 20 "TwofoldAmountsModel" "kept" "[I" ∈ Gw := gw_of 448 (by decide +kernel) rfl
theorem flX4_23 : Cond.fieldLink RX4 23 "TwofoldAmountsModel" "ratios" "[I" ∈ Gw := gw_of 449 (by decide +kernel) rfl
theorem flX4_26 : Cond.fieldLink RX4 26 "TwofoldAmountsModel" "text" "[I" ∈ Gw := gw_of 450 (by decide +kernel) rfl
theorem flX4_166 : Cond.fieldLink RX4 166 "TwofoldAmountsModel" "length" "I" ∈ Gw := gw_of 451 (by decide +kernel) rfl
theorem flX4_29 : Cond.fieldLink RX4 29 "TwofoldAmountsModel" "num" "[I" ∈ Gw := gw_of 452 (by decide +kernel) rfl
theorem flX4_32 : Cond.fieldLink RX4 32 "TwofoldAmountsModel" "base" "[I" ∈ Gw := gw_of 453 (by decide +kernel) rfl
theorem flX4_35 : Cond.fieldLink RX4 35 "TwofoldAmountsModel" "den" "[I" ∈ Gw := gw_of 454 (by decide +kernel) rfl
theorem flX4_38 : Cond.fieldLink RX4 38 "TwofoldAmountsModel" "quo" "[I" ∈ Gw := gw_of 455 (by decide +kernel) rfl
theorem flX4_41 : Cond.fieldLink RX4 41 "TwofoldAmountsModel" "rem" "[I" ∈ Gw := gw_of 456 (by decide +kernel) rfl
theorem flX4_44 : Cond.fieldLink RX4 44 "TwofoldAmountsModel" "other" "[I" ∈ Gw := gw_of 457 (by decide +kernel) rfl
theorem flX4_47 : Cond.fieldLink RX4 47 "TwofoldAmountsModel" "units" "[I" ∈ Gw := gw_of 458 (by decide +kernel) rfl
theorem flX4_50 : Cond.fieldLink RX4 50 "TwofoldAmountsModel" "parts" "[I" ∈ Gw := gw_of 459 (by decide +kernel) rfl
theorem flX4_53 : Cond.fieldLink RX4 53 "TwofoldAmountsModel" "over" "[I" ∈ Gw := gw_of 460 (by decide +kernel) rfl
theorem flX4_56 : Cond.fieldLink RX4 56 "TwofoldAmountsModel" "given" "[Z" ∈ Gw := gw_of 461 (by decide +kernel) rfl
theorem flX4_183 : Cond.fieldLink RX4 183 "TwofoldAmountsModel" "at" "I" ∈ Gw := gw_of 462 (by decide +kernel) rfl
theorem flX4_180 : Cond.fieldLink RX4 180 "TwofoldAmountsModel" "wrong" "I" ∈ Gw := gw_of 463 (by decide +kernel) rfl
theorem flX4_59 : Cond.fieldLink RX4 59 "TwofoldAmountsModel" "read" "[I" ∈ Gw := gw_of 464 (by decide +kernel) rfl
theorem flX4_197 : Cond.fieldLink RX4 197 "TwofoldAmountsModel" "digitCount" "I" ∈ Gw := gw_of 465 (by decide +kernel) rfl
theorem flX4_212 : Cond.fieldLink RX4 212 "TwofoldAmountsModel" "behind" "I" ∈ Gw := gw_of 466 (by decide +kernel) rfl
theorem flX4_203 : Cond.fieldLink RX4 203 "TwofoldAmountsModel" "readCurrency" "I" ∈ Gw := gw_of 467 (by decide +kernel) rfl
theorem flX4_215 : Cond.fieldLink RX4 215 "TwofoldAmountsModel" "readMinus" "Z" ∈ Gw := gw_of 468 (by decide +kernel) rfl
theorem mlL_27 : Cond.methodLink RL 27 yX4_set ∈ Gw := gw_of 525 (by decide +kernel) rfl
theorem imX4_set : Cond.instanceMethod yX4_set ∈ Gw := gw_of 526 (by decide +kernel) rfl
theorem seX4_set : Cond.selects RX4 yX4_set yX4_set ∈ Gw := gw_of 527 (by decide +kernel) rfl
theorem cdX4_set : kX4_set ∈ Gw := gw_of 528 (by decide +kernel) rfl
theorem mlX4_123 : Cond.methodLink RX4 123 yX4_outside ∈ Gw := gw_of 529 (by decide +kernel) rfl
theorem smX4_outside : Cond.static yX4_outside ∈ Gw := gw_of 530 (by decide +kernel) rfl
theorem cdX4_outside : kX4_outside ∈ Gw := gw_of 531 (by decide +kernel) rfl
theorem mlX4_100 : Cond.methodLink RX4 100 yX4_load ∈ Gw := gw_of 532 (by decide +kernel) rfl
theorem smX4_load : Cond.static yX4_load ∈ Gw := gw_of 533 (by decide +kernel) rfl
theorem cdX4_load : kX4_load ∈ Gw := gw_of 534 (by decide +kernel) rfl
theorem mlX4_72 : Cond.methodLink RX4 72 yX4_clear ∈ Gw := gw_of 535 (by decide +kernel) rfl
theorem smX4_clear : Cond.static yX4_clear ∈ Gw := gw_of 536 (by decide +kernel) rfl
theorem cdX4_clear : kX4_clear ∈ Gw := gw_of 537 (by decide +kernel) rfl
theorem kcX4_76 : Cond.constantLong RX4 76 (10 : Int64) ∈ Gw := gw_of 538 (by decide +kernel) rfl
theorem mlX4_82 : Cond.methodLink RX4 82 yX4_shift ∈ Gw := gw_of 539 (by decide +kernel) rfl
theorem smX4_shift : Cond.static yX4_shift ∈ Gw := gw_of 540 (by decide +kernel) rfl
theorem cdX4_shift : kX4_shift ∈ Gw := gw_of 541 (by decide +kernel) rfl
theorem mlX4_127 : Cond.methodLink RX4 127 yX4_settle ∈ Gw := gw_of 542 (by decide +kernel) rfl
theorem imX4_settle : Cond.instanceMethod yX4_settle ∈ Gw := gw_of 544 (by decide +kernel) rfl
theorem cdX4_settle : kX4_settle ∈ Gw := gw_of 545 (by decide +kernel) rfl
theorem mlX4_94 : Cond.methodLink RX4 94 yX4_copy ∈ Gw := gw_of 546 (by decide +kernel) rfl
theorem smX4_copy : Cond.static yX4_copy ∈ Gw := gw_of 547 (by decide +kernel) rfl
theorem cdX4_copy : kX4_copy ∈ Gw := gw_of 548 (by decide +kernel) rfl
theorem mlX4_108 : Cond.methodLink RX4 108 yX4_quotient ∈ Gw := gw_of 549 (by decide +kernel) rfl
theorem imX4_quotient : Cond.instanceMethod yX4_quotient ∈ Gw := gw_of 551 (by decide +kernel) rfl
theorem cdX4_quotient : kX4_quotient ∈ Gw := gw_of 552 (by decide +kernel) rfl
theorem mlX4_86 : Cond.methodLink RX4 86 yX4_order ∈ Gw := gw_of 553 (by decide +kernel) rfl
theorem smX4_order : Cond.static yX4_order ∈ Gw := gw_of 554 (by decide +kernel) rfl
theorem cdX4_order : kX4_order ∈ Gw := gw_of 555 (by decide +kernel) rfl
theorem mlX4_90 : Cond.methodLink RX4 90 yX4_decrease ∈ Gw := gw_of 556 (by decide +kernel) rfl
theorem smX4_decrease : Cond.static yX4_decrease ∈ Gw := gw_of 557 (by decide +kernel) rfl
theorem cdX4_decrease : kX4_decrease ∈ Gw := gw_of 558 (by decide +kernel) rfl
theorem mlX4_78 : Cond.methodLink RX4 78 yX4_size ∈ Gw := gw_of 559 (by decide +kernel) rfl
theorem smX4_size : Cond.static yX4_size ∈ Gw := gw_of 560 (by decide +kernel) rfl
theorem cdX4_size : kX4_size ∈ Gw := gw_of 561 (by decide +kernel) rfl
theorem mlX4_111 : Cond.methodLink RX4 111 yX4_rounds ∈ Gw := gw_of 562 (by decide +kernel) rfl
theorem imX4_rounds : Cond.instanceMethod yX4_rounds ∈ Gw := gw_of 564 (by decide +kernel) rfl
theorem cdX4_rounds : kX4_rounds ∈ Gw := gw_of 565 (by decide +kernel) rfl
theorem mlX4_97 : Cond.methodLink RX4 97 yX4_increase ∈ Gw := gw_of 566 (by decide +kernel) rfl
theorem smX4_increase : Cond.static yX4_increase ∈ Gw := gw_of 567 (by decide +kernel) rfl
theorem cdX4_increase : kX4_increase ∈ Gw := gw_of 568 (by decide +kernel) rfl
theorem mlX4_115 : Cond.methodLink RX4 115 yX4_fits ∈ Gw := gw_of 569 (by decide +kernel) rfl
theorem imX4_fits : Cond.instanceMethod yX4_fits ∈ Gw := gw_of 571 (by decide +kernel) rfl
theorem cdX4_fits : kX4_fits ∈ Gw := gw_of 572 (by decide +kernel) rfl
theorem kcX4_104 : Cond.constantLong RX4 104 (-9223372036854775808 : Int64) ∈ Gw := gw_of 573 (by decide +kernel) rfl
theorem kcX4_106 : Cond.constantLong RX4 106 (9223372036854775807 : Int64) ∈ Gw := gw_of 574 (by decide +kernel) rfl
theorem mlX4_119 : Cond.methodLink RX4 119 yX4_keep ∈ Gw := gw_of 575 (by decide +kernel) rfl
theorem imX4_keep : Cond.instanceMethod yX4_keep ∈ Gw := gw_of 577 (by decide +kernel) rfl
theorem cdX4_keep : kX4_keep ∈ Gw := gw_of 578 (by decide +kernel) rfl
theorem mlL_32 : Cond.methodLink RL 32 yX4_add ∈ Gw := gw_of 579 (by decide +kernel) rfl
theorem imX4_add : Cond.instanceMethod yX4_add ∈ Gw := gw_of 580 (by decide +kernel) rfl
theorem seX4_add : Cond.selects RX4 yX4_add yX4_add ∈ Gw := gw_of 581 (by decide +kernel) rfl
theorem cdX4_add : kX4_add ∈ Gw := gw_of 582 (by decide +kernel) rfl
theorem mlX4_134 : Cond.methodLink RX4 134 yX4_sum ∈ Gw := gw_of 583 (by decide +kernel) rfl
theorem imX4_sum : Cond.instanceMethod yX4_sum ∈ Gw := gw_of 585 (by decide +kernel) rfl
theorem cdX4_sum : kX4_sum ∈ Gw := gw_of 586 (by decide +kernel) rfl
theorem mlX4_131 : Cond.methodLink RX4 131 yX4_take ∈ Gw := gw_of 587 (by decide +kernel) rfl
theorem imX4_take : Cond.instanceMethod yX4_take ∈ Gw := gw_of 589 (by decide +kernel) rfl
theorem cdX4_take : kX4_take ∈ Gw := gw_of 590 (by decide +kernel) rfl
theorem mlL_36 : Cond.methodLink RL 36 yX4_subtract ∈ Gw := gw_of 591 (by decide +kernel) rfl
theorem imX4_subtract : Cond.instanceMethod yX4_subtract ∈ Gw := gw_of 592 (by decide +kernel) rfl
theorem seX4_subtract : Cond.selects RX4 yX4_subtract yX4_subtract ∈ Gw := gw_of 593 (by decide +kernel) rfl
theorem cdX4_subtract : kX4_subtract ∈ Gw := gw_of 594 (by decide +kernel) rfl
theorem mlL_41 : Cond.methodLink RL 41 yX4_multiply ∈ Gw := gw_of 595 (by decide +kernel) rfl
theorem imX4_multiply : Cond.instanceMethod yX4_multiply ∈ Gw := gw_of 596 (by decide +kernel) rfl
theorem seX4_multiply : Cond.selects RX4 yX4_multiply yX4_multiply ∈ Gw := gw_of 597 (by decide +kernel) rfl
theorem cdX4_multiply : kX4_multiply ∈ Gw := gw_of 598 (by decide +kernel) rfl
theorem mlX4_138 : Cond.methodLink RX4 138 yX4_product ∈ Gw := gw_of 599 (by decide +kernel) rfl
theorem imX4_product : Cond.instanceMethod yX4_product ∈ Gw := gw_of 601 (by decide +kernel) rfl
theorem cdX4_product : kX4_product ∈ Gw := gw_of 602 (by decide +kernel) rfl
theorem mlL_45 : Cond.methodLink RL 45 yX4_divide ∈ Gw := gw_of 603 (by decide +kernel) rfl
theorem imX4_divide : Cond.instanceMethod yX4_divide ∈ Gw := gw_of 604 (by decide +kernel) rfl
theorem seX4_divide : Cond.selects RX4 yX4_divide yX4_divide ∈ Gw := gw_of 605 (by decide +kernel) rfl
theorem cdX4_divide : kX4_divide ∈ Gw := gw_of 606 (by decide +kernel) rfl
theorem mlL_50 : Cond.methodLink RL 50 yX4_negate ∈ Gw := gw_of 607 (by decide +kernel) rfl
theorem imX4_negate : Cond.instanceMethod yX4_negate ∈ Gw := gw_of 608 (by decide +kernel) rfl
theorem seX4_negate : Cond.selects RX4 yX4_negate yX4_negate ∈ Gw := gw_of 609 (by decide +kernel) rfl
theorem cdX4_negate : kX4_negate ∈ Gw := gw_of 610 (by decide +kernel) rfl
theorem mlL_55 : Cond.methodLink RL 55 yX4_round ∈ Gw := gw_of 611 (by decide +kernel) rfl
theorem imX4_round : Cond.instanceMethod yX4_round ∈ Gw := gw_of 612 (by decide +kernel) rfl
theorem seX4_round : Cond.selects RX4 yX4_round yX4_round ∈ Gw := gw_of 613 (by decide +kernel) rfl
theorem cdX4_round : kX4_round ∈ Gw := gw_of 614 (by decide +kernel) rfl
theorem mlX4_145 : Cond.methodLink RX4 145 yX4_step ∈ Gw := gw_of 615 (by decide +kernel) rfl
theorem imX4_step : Cond.instanceMethod yX4_step ∈ Gw := gw_of 617 (by decide +kernel) rfl
theorem cdX4_step : kX4_step ∈ Gw := gw_of 618 (by decide +kernel) rfl
theorem mlX4_141 : Cond.methodLink RX4 141 yX4_digitsOf ∈ Gw := gw_of 619 (by decide +kernel) rfl
theorem smX4_digitsOf : Cond.static yX4_digitsOf ∈ Gw := gw_of 620 (by decide +kernel) rfl
theorem cdX4_digitsOf : kX4_digitsOf ∈ Gw := gw_of 621 (by decide +kernel) rfl
theorem mlL_60 : Cond.methodLink RL 60 yX4_ratio ∈ Gw := gw_of 622 (by decide +kernel) rfl
theorem imX4_ratio : Cond.instanceMethod yX4_ratio ∈ Gw := gw_of 623 (by decide +kernel) rfl
theorem seX4_ratio : Cond.selects RX4 yX4_ratio yX4_ratio ∈ Gw := gw_of 624 (by decide +kernel) rfl
theorem cdX4_ratio : kX4_ratio ∈ Gw := gw_of 625 (by decide +kernel) rfl
theorem kcX4_149 : Cond.constant RX4 149 (1000001 : Int32) ∈ Gw := gw_of 626 (by decide +kernel) rfl
theorem mlL_64 : Cond.methodLink RL 64 yX4_allocate ∈ Gw := gw_of 627 (by decide +kernel) rfl
theorem imX4_allocate : Cond.instanceMethod yX4_allocate ∈ Gw := gw_of 628 (by decide +kernel) rfl
theorem seX4_allocate : Cond.selects RX4 yX4_allocate yX4_allocate ∈ Gw := gw_of 629 (by decide +kernel) rfl
theorem cdX4_allocate : kX4_allocate ∈ Gw := gw_of 630 (by decide +kernel) rfl
theorem mlX4_153 : Cond.methodLink RX4 153 yX4_cut ∈ Gw := gw_of 631 (by decide +kernel) rfl
theorem imX4_cut : Cond.instanceMethod yX4_cut ∈ Gw := gw_of 633 (by decide +kernel) rfl
theorem cdX4_cut : kX4_cut ∈ Gw := gw_of 634 (by decide +kernel) rfl
theorem mlX4_150 : Cond.methodLink RX4 150 yX4_small ∈ Gw := gw_of 635 (by decide +kernel) rfl
theorem smX4_small : Cond.static yX4_small ∈ Gw := gw_of 636 (by decide +kernel) rfl
theorem cdX4_small : kX4_small ∈ Gw := gw_of 637 (by decide +kernel) rfl
theorem mlX4_156 : Cond.methodLink RX4 156 yX4_left ∈ Gw := gw_of 638 (by decide +kernel) rfl
theorem imX4_left : Cond.instanceMethod yX4_left ∈ Gw := gw_of 640 (by decide +kernel) rfl
theorem cdX4_left : kX4_left ∈ Gw := gw_of 641 (by decide +kernel) rfl
theorem mlX4_159 : Cond.methodLink RX4 159 yX4_part ∈ Gw := gw_of 642 (by decide +kernel) rfl
theorem imX4_part : Cond.instanceMethod yX4_part ∈ Gw := gw_of 644 (by decide +kernel) rfl
theorem cdX4_part : kX4_part ∈ Gw := gw_of 645 (by decide +kernel) rfl
theorem mlL_68 : Cond.methodLink RL 68 yX4_compare ∈ Gw := gw_of 646 (by decide +kernel) rfl
theorem imX4_compare : Cond.instanceMethod yX4_compare ∈ Gw := gw_of 647 (by decide +kernel) rfl
theorem seX4_compare : Cond.selects RX4 yX4_compare yX4_compare ∈ Gw := gw_of 648 (by decide +kernel) rfl
theorem cdX4_compare : kX4_compare ∈ Gw := gw_of 649 (by decide +kernel) rfl
theorem mlL_73 : Cond.methodLink RL 73 yX4_sign ∈ Gw := gw_of 650 (by decide +kernel) rfl
theorem imX4_sign : Cond.instanceMethod yX4_sign ∈ Gw := gw_of 651 (by decide +kernel) rfl
theorem seX4_sign : Cond.selects RX4 yX4_sign yX4_sign ∈ Gw := gw_of 652 (by decide +kernel) rfl
theorem cdX4_sign : kX4_sign ∈ Gw := gw_of 653 (by decide +kernel) rfl
theorem mlL_77 : Cond.methodLink RL 77 yX4_kind ∈ Gw := gw_of 654 (by decide +kernel) rfl
theorem imX4_kind : Cond.instanceMethod yX4_kind ∈ Gw := gw_of 655 (by decide +kernel) rfl
theorem seX4_kind : Cond.selects RX4 yX4_kind yX4_kind ∈ Gw := gw_of 656 (by decide +kernel) rfl
theorem cdX4_kind : kX4_kind ∈ Gw := gw_of 657 (by decide +kernel) rfl
theorem mlL_82 : Cond.methodLink RL 82 yX4_digits ∈ Gw := gw_of 658 (by decide +kernel) rfl
theorem imX4_digits : Cond.instanceMethod yX4_digits ∈ Gw := gw_of 659 (by decide +kernel) rfl
theorem seX4_digits : Cond.selects RX4 yX4_digits yX4_digits ∈ Gw := gw_of 660 (by decide +kernel) rfl
theorem cdX4_digits : kX4_digits ∈ Gw := gw_of 661 (by decide +kernel) rfl
theorem kcX4_162 : Cond.constantLong RX4 162 (-15 : Int64) ∈ Gw := gw_of 662 (by decide +kernel) rfl
theorem kcX4_164 : Cond.constantLong RX4 164 (-11 : Int64) ∈ Gw := gw_of 663 (by decide +kernel) rfl
theorem mlL_87 : Cond.methodLink RL 87 yX4_discard ∈ Gw := gw_of 664 (by decide +kernel) rfl
theorem imX4_discard : Cond.instanceMethod yX4_discard ∈ Gw := gw_of 665 (by decide +kernel) rfl
theorem seX4_discard : Cond.selects RX4 yX4_discard yX4_discard ∈ Gw := gw_of 666 (by decide +kernel) rfl
theorem cdX4_discard : kX4_discard ∈ Gw := gw_of 667 (by decide +kernel) rfl
theorem mlL_91 : Cond.methodLink RL 91 yX4_format ∈ Gw := gw_of 668 (by decide +kernel) rfl
theorem imX4_format : Cond.instanceMethod yX4_format ∈ Gw := gw_of 669 (by decide +kernel) rfl
theorem seX4_format : Cond.selects RX4 yX4_format yX4_format ∈ Gw := gw_of 670 (by decide +kernel) rfl
theorem cdX4_format : kX4_format ∈ Gw := gw_of 671 (by decide +kernel) rfl
theorem mlX4_173 : Cond.methodLink RX4 173 yX4_putCode ∈ Gw := gw_of 672 (by decide +kernel) rfl
theorem imX4_putCode : Cond.instanceMethod yX4_putCode ∈ Gw := gw_of 674 (by decide +kernel) rfl
theorem cdX4_putCode : kX4_putCode ∈ Gw := gw_of 675 (by decide +kernel) rfl
theorem mlX4_169 : Cond.methodLink RX4 169 yX4_put ∈ Gw := gw_of 676 (by decide +kernel) rfl
theorem imX4_put : Cond.instanceMethod yX4_put ∈ Gw := gw_of 678 (by decide +kernel) rfl
theorem cdX4_put : kX4_put ∈ Gw := gw_of 679 (by decide +kernel) rfl
theorem mlX4_176 : Cond.methodLink RX4 176 yX4_putNumber ∈ Gw := gw_of 680 (by decide +kernel) rfl
theorem imX4_putNumber : Cond.instanceMethod yX4_putNumber ∈ Gw := gw_of 682 (by decide +kernel) rfl
theorem cdX4_putNumber : kX4_putNumber ∈ Gw := gw_of 683 (by decide +kernel) rfl
theorem mlL_95 : Cond.methodLink RL 95 yX4_type ∈ Gw := gw_of 684 (by decide +kernel) rfl
theorem imX4_type : Cond.instanceMethod yX4_type ∈ Gw := gw_of 685 (by decide +kernel) rfl
theorem seX4_type : Cond.selects RX4 yX4_type yX4_type ∈ Gw := gw_of 686 (by decide +kernel) rfl
theorem cdX4_type : kX4_type ∈ Gw := gw_of 687 (by decide +kernel) rfl
theorem mlL_99 : Cond.methodLink RL 99 yX4_wipe ∈ Gw := gw_of 688 (by decide +kernel) rfl
theorem imX4_wipe : Cond.instanceMethod yX4_wipe ∈ Gw := gw_of 689 (by decide +kernel) rfl
theorem seX4_wipe : Cond.selects RX4 yX4_wipe yX4_wipe ∈ Gw := gw_of 690 (by decide +kernel) rfl
theorem cdX4_wipe : kX4_wipe ∈ Gw := gw_of 691 (by decide +kernel) rfl
theorem mlL_103 : Cond.methodLink RL 103 yX4_letter ∈ Gw := gw_of 692 (by decide +kernel) rfl
theorem imX4_letter : Cond.instanceMethod yX4_letter ∈ Gw := gw_of 693 (by decide +kernel) rfl
theorem seX4_letter : Cond.selects RX4 yX4_letter yX4_letter ∈ Gw := gw_of 694 (by decide +kernel) rfl
theorem cdX4_letter : kX4_letter ∈ Gw := gw_of 695 (by decide +kernel) rfl
theorem mlL_108 : Cond.methodLink RL 108 yX4_parse ∈ Gw := gw_of 696 (by decide +kernel) rfl
theorem imX4_parse : Cond.instanceMethod yX4_parse ∈ Gw := gw_of 697 (by decide +kernel) rfl
theorem seX4_parse : Cond.selects RX4 yX4_parse yX4_parse ∈ Gw := gw_of 698 (by decide +kernel) rfl
theorem cdX4_parse : kX4_parse ∈ Gw := gw_of 699 (by decide +kernel) rfl
theorem mlX4_223 : Cond.methodLink RX4 223 yX4_readNumber ∈ Gw := gw_of 700 (by decide +kernel) rfl
theorem imX4_readNumber : Cond.instanceMethod yX4_readNumber ∈ Gw := gw_of 702 (by decide +kernel) rfl
theorem cdX4_readNumber : kX4_readNumber ∈ Gw := gw_of 703 (by decide +kernel) rfl
theorem mlX4_186 : Cond.methodLink RX4 186 yX4_sees ∈ Gw := gw_of 704 (by decide +kernel) rfl
theorem imX4_sees : Cond.instanceMethod yX4_sees ∈ Gw := gw_of 706 (by decide +kernel) rfl
theorem cdX4_sees : kX4_sees ∈ Gw := gw_of 707 (by decide +kernel) rfl
theorem mlX4_219 : Cond.methodLink RX4 219 yX4_readBody ∈ Gw := gw_of 708 (by decide +kernel) rfl
theorem imX4_readBody : Cond.instanceMethod yX4_readBody ∈ Gw := gw_of 710 (by decide +kernel) rfl
theorem cdX4_readBody : kX4_readBody ∈ Gw := gw_of 711 (by decide +kernel) rfl
theorem mlX4_209 : Cond.methodLink RX4 209 yX4_need ∈ Gw := gw_of 712 (by decide +kernel) rfl
theorem imX4_need : Cond.instanceMethod yX4_need ∈ Gw := gw_of 714 (by decide +kernel) rfl
theorem cdX4_need : kX4_need ∈ Gw := gw_of 715 (by decide +kernel) rfl
theorem mlX4_200 : Cond.methodLink RX4 200 yX4_digitsUpTo ∈ Gw := gw_of 716 (by decide +kernel) rfl
theorem imX4_digitsUpTo : Cond.instanceMethod yX4_digitsUpTo ∈ Gw := gw_of 718 (by decide +kernel) rfl
theorem cdX4_digitsUpTo : kX4_digitsUpTo ∈ Gw := gw_of 719 (by decide +kernel) rfl
theorem mlX4_193 : Cond.methodLink RX4 193 yX4_seesDigit ∈ Gw := gw_of 720 (by decide +kernel) rfl
theorem imX4_seesDigit : Cond.instanceMethod yX4_seesDigit ∈ Gw := gw_of 722 (by decide +kernel) rfl
theorem cdX4_seesDigit : kX4_seesDigit ∈ Gw := gw_of 723 (by decide +kernel) rfl
theorem mlX4_190 : Cond.methodLink RX4 190 yX4_fail ∈ Gw := gw_of 724 (by decide +kernel) rfl
theorem imX4_fail : Cond.instanceMethod yX4_fail ∈ Gw := gw_of 726 (by decide +kernel) rfl
theorem cdX4_fail : kX4_fail ∈ Gw := gw_of 727 (by decide +kernel) rfl
theorem mlX4_206 : Cond.methodLink RX4 206 yX4_expect ∈ Gw := gw_of 728 (by decide +kernel) rfl
theorem imX4_expect : Cond.instanceMethod yX4_expect ∈ Gw := gw_of 730 (by decide +kernel) rfl
theorem cdX4_expect : kX4_expect ∈ Gw := gw_of 731 (by decide +kernel) rfl
theorem mlX4_226 : Cond.methodLink RX4 226 yX4_readCode ∈ Gw := gw_of 732 (by decide +kernel) rfl
theorem imX4_readCode : Cond.instanceMethod yX4_readCode ∈ Gw := gw_of 734 (by decide +kernel) rfl
theorem cdX4_readCode : kX4_readCode ∈ Gw := gw_of 735 (by decide +kernel) rfl
theorem kcL_21 : Cond.constantLong RL 21 (4294967295 : Int64) ∈ Gw := gw_of 736 (by decide +kernel) rfl
theorem seX3_keep : Cond.selects RX3 yX3_keep yX3_keep ∈ Gw := gw_of 0 (by decide +kernel) rfl
theorem seX2_goesAway : Cond.selects RX2 yX2_goesAway yX2_goesAway ∈ Gw := gw_of 1 (by decide +kernel) rfl
theorem seX3_store : Cond.selects RX3 yX3_store yX3_store ∈ Gw := gw_of 2 (by decide +kernel) rfl
theorem seX3_combine : Cond.selects RX3 yX3_combine yX3_combine ∈ Gw := gw_of 3 (by decide +kernel) rfl
theorem seX3_sumOfRatios : Cond.selects RX3 yX3_sumOfRatios yX3_sumOfRatios ∈ Gw := gw_of 4 (by decide +kernel) rfl
theorem seX3_splitRest : Cond.selects RX3 yX3_splitRest yX3_splitRest ∈ Gw := gw_of 5 (by decide +kernel) rfl
theorem seX3_rankOf : Cond.selects RX3 yX3_rankOf yX3_rankOf ∈ Gw := gw_of 6 (by decide +kernel) rfl
theorem seX3_writeNumber : Cond.selects RX3 yX3_writeNumber yX3_writeNumber ∈ Gw := gw_of 7 (by decide +kernel) rfl
theorem seX3_writeBody : Cond.selects RX3 yX3_writeBody yX3_writeBody ∈ Gw := gw_of 8 (by decide +kernel) rfl
theorem seX3_readStyle : Cond.selects RX3 yX3_readStyle yX3_readStyle ∈ Gw := gw_of 9 (by decide +kernel) rfl
theorem seX3_readNumber : Cond.selects RX3 yX3_readNumber yX3_readNumber ∈ Gw := gw_of 10 (by decide +kernel) rfl
theorem seX3_readBody : Cond.selects RX3 yX3_readBody yX3_readBody ∈ Gw := gw_of 11 (by decide +kernel) rfl
theorem seX3_takeWhole : Cond.selects RX3 yX3_takeWhole yX3_takeWhole ∈ Gw := gw_of 12 (by decide +kernel) rfl
theorem seX4_settle : Cond.selects RX4 yX4_settle yX4_settle ∈ Gw := gw_of 13 (by decide +kernel) rfl
theorem seX4_quotient : Cond.selects RX4 yX4_quotient yX4_quotient ∈ Gw := gw_of 14 (by decide +kernel) rfl
theorem seX4_rounds : Cond.selects RX4 yX4_rounds yX4_rounds ∈ Gw := gw_of 15 (by decide +kernel) rfl
theorem seX4_fits : Cond.selects RX4 yX4_fits yX4_fits ∈ Gw := gw_of 16 (by decide +kernel) rfl
theorem seX4_keep : Cond.selects RX4 yX4_keep yX4_keep ∈ Gw := gw_of 17 (by decide +kernel) rfl
theorem seX4_sum : Cond.selects RX4 yX4_sum yX4_sum ∈ Gw := gw_of 18 (by decide +kernel) rfl
theorem seX4_take : Cond.selects RX4 yX4_take yX4_take ∈ Gw := gw_of 19 (by decide +kernel) rfl
theorem seX4_product : Cond.selects RX4 yX4_product yX4_product ∈ Gw := gw_of 20 (by decide +kernel) rfl
theorem seX4_step : Cond.selects RX4 yX4_step yX4_step ∈ Gw := gw_of 21 (by decide +kernel) rfl
theorem seX4_cut : Cond.selects RX4 yX4_cut yX4_cut ∈ Gw := gw_of 22 (by decide +kernel) rfl
theorem seX4_left : Cond.selects RX4 yX4_left yX4_left ∈ Gw := gw_of 23 (by decide +kernel) rfl
theorem seX4_part : Cond.selects RX4 yX4_part yX4_part ∈ Gw := gw_of 24 (by decide +kernel) rfl
theorem seX4_putCode : Cond.selects RX4 yX4_putCode yX4_putCode ∈ Gw := gw_of 25 (by decide +kernel) rfl
theorem seX4_put : Cond.selects RX4 yX4_put yX4_put ∈ Gw := gw_of 26 (by decide +kernel) rfl
theorem seX4_putNumber : Cond.selects RX4 yX4_putNumber yX4_putNumber ∈ Gw := gw_of 27 (by decide +kernel) rfl
theorem seX4_readNumber : Cond.selects RX4 yX4_readNumber yX4_readNumber ∈ Gw := gw_of 28 (by decide +kernel) rfl
theorem seX4_sees : Cond.selects RX4 yX4_sees yX4_sees ∈ Gw := gw_of 29 (by decide +kernel) rfl
theorem seX4_readBody : Cond.selects RX4 yX4_readBody yX4_readBody ∈ Gw := gw_of 30 (by decide +kernel) rfl
theorem seX4_need : Cond.selects RX4 yX4_need yX4_need ∈ Gw := gw_of 31 (by decide +kernel) rfl
theorem seX4_digitsUpTo : Cond.selects RX4 yX4_digitsUpTo yX4_digitsUpTo ∈ Gw := gw_of 32 (by decide +kernel) rfl
theorem seX4_seesDigit : Cond.selects RX4 yX4_seesDigit yX4_seesDigit ∈ Gw := gw_of 33 (by decide +kernel) rfl
theorem seX4_fail : Cond.selects RX4 yX4_fail yX4_fail ∈ Gw := gw_of 34 (by decide +kernel) rfl
theorem seX4_expect : Cond.selects RX4 yX4_expect yX4_expect ∈ Gw := gw_of 35 (by decide +kernel) rfl
theorem seX4_readCode : Cond.selects RX4 yX4_readCode yX4_readCode ∈ Gw := gw_of 36 (by decide +kernel) rfl
theorem hinX0 : ∀ w ∈ wsX00, w ∈ Gw := by decide +kernel
theorem hinX1 : ∀ w ∈ wsX10, w ∈ Gw := by decide +kernel
theorem hinX2 : ∀ w ∈ wsX20, w ∈ Gw := by decide +kernel
theorem hinX3 : ∀ w ∈ wsX30, w ∈ Gw := by decide +kernel
theorem hinX4 : ∀ w ∈ wsX40, w ∈ Gw := by decide +kernel
end
section
/-! Ints and longs by their numbers. -/
def iI (z : Int) : Int32 := Int32.ofInt z
def lI (z : Int) : Int64 := Int64.ofInt z
abbrev r32 (z : Int) : Prop := -2147483648 ≤ z ∧ z < 2147483648
abbrev r64 (z : Int) : Prop := -9223372036854775808 ≤ z ∧ z < 9223372036854775808
theorem iI_t {z : Int} (h : r32 z) : (iI z).toInt = z := Int32.toInt_ofInt_of_le (by have := h.1; omega) (by have := h.2; omega)
theorem lI_t {z : Int} (h : r64 z) : (lI z).toInt = z := Int64.toInt_ofInt_of_le (by have := h.1; omega) (by have := h.2; omega)
theorem iI_of (x : Int32) : x = iI x.toInt := (Int32.ofInt_toInt x).symm
theorem lI_of (x : Int64) : x = lI x.toInt := (Int64.ofInt_toInt x).symm
theorem iI_r (x : Int32) : r32 x.toInt := by have h1 := x.le_toInt; have h2 := x.toInt_lt; constructor <;> omega
theorem lI_r (x : Int64) : r64 x.toInt := by have h1 := x.le_toInt; have h2 := x.toInt_lt; constructor <;> omega
theorem iI_ex (x : Int32) : ∃ z, r32 z ∧ x = iI z := ⟨x.toInt, iI_r x, iI_of x⟩
theorem lI_ex (x : Int64) : ∃ z, r64 z ∧ x = lI z := ⟨x.toInt, lI_r x, lI_of x⟩
theorem iI_add (a b : Int) : iI a + iI b = iI (a + b) := (Int32.ofInt_add a b).symm
theorem iI_sub (a b : Int) : iI a - iI b = iI (a - b) := (Int32.ofInt_sub a b).symm
theorem iI_mul (a b : Int) : iI a * iI b = iI (a * b) := (Int32.ofInt_mul a b).symm
theorem iI_neg (a : Int) : -iI a = iI (-a) := (Int32.ofInt_neg a).symm
theorem lI_add (a b : Int) : lI a + lI b = lI (a + b) := (Int64.ofInt_add a b).symm
theorem lI_sub (a b : Int) : lI a - lI b = lI (a - b) := (Int64.ofInt_sub a b).symm
theorem lI_mul (a b : Int) : lI a * lI b = lI (a * b) := (Int64.ofInt_mul a b).symm
theorem lI_neg (a : Int) : -lI a = lI (-a) := (Int64.ofInt_neg a).symm
theorem iI_inj {a b : Int} (ha : r32 a) (hb : r32 b) : iI a = iI b ↔ a = b := by
  rw [← Int32.toInt_inj, iI_t ha, iI_t hb]
theorem iI_lt {a b : Int} (ha : r32 a) (hb : r32 b) : iI a < iI b ↔ a < b := by
  rw [Int32.lt_iff_toInt_lt, iI_t ha, iI_t hb]
theorem iI_le {a b : Int} (ha : r32 a) (hb : r32 b) : iI a ≤ iI b ↔ a ≤ b := by
  rw [Int32.le_iff_toInt_le, iI_t ha, iI_t hb]
theorem lI_inj {a b : Int} (ha : r64 a) (hb : r64 b) : lI a = lI b ↔ a = b := by
  rw [← Int64.toInt_inj, lI_t ha, lI_t hb]
theorem lI_lt {a b : Int} (ha : r64 a) (hb : r64 b) : lI a < lI b ↔ a < b := by
  rw [Int64.lt_iff_toInt_lt, lI_t ha, lI_t hb]
theorem iI_0 : iI 0 = 0 := rfl
theorem lI_0 : lI 0 = 0 := rfl
theorem r32_0 : r32 0 := by constructor <;> omega
theorem iI_nat (j : Nat) : iI (j : Int) = nI j := Int32.ofInt_eq_ofNat
theorem iI_div {a b : Int} (ha : 0 ≤ a) (ha2 : a < 2147483648) (hb : 0 < b) (hb2 : b < 2147483648) : iI a / iI b = iI (a / b) := by
  have h1 : iI b ≠ -1 := by
    intro h
    have := congrArg Int32.toInt h
    rw [iI_t ⟨by omega, hb2⟩] at this
    have h3 : (-1 : Int32).toInt = -1 := by decide
    omega
  apply Int32.toInt_inj.mp
  have hq0 : 0 ≤ a / b := Int.ediv_nonneg ha (by omega)
  have hq1 : a / b ≤ a := Int.ediv_le_self b ha
  rw [Int32.toInt_div_of_ne_right _ _ h1, iI_t ⟨by omega, ha2⟩, iI_t ⟨by omega, hb2⟩, Int.tdiv_eq_ediv_of_nonneg ha, iI_t ⟨by omega, by omega⟩]
theorem iI_rem {a b : Int} (ha : 0 ≤ a) (ha2 : a < 2147483648) (hb : 0 < b) (hb2 : b < 2147483648) : iI a - iI a / iI b * iI b = iI (a % b) := by
  rw [iI_div ha ha2 hb hb2, iI_mul, iI_sub]
  congr 1
  have := Int.emod_add_mul_ediv a b
  rw [Int.mul_comm] at this
  omega
theorem lI_quo {a b : Int} (ha : r64 a) (hb : r64 b) (h1 : b ≠ -1) : lI a / lI b = lI (a.tdiv b) := by
  have h2 : lI b ≠ -1 := by
    intro h
    have := congrArg Int64.toInt h
    rw [lI_t hb] at this
    have h3 : (-1 : Int64).toInt = -1 := by decide
    omega
  have h3 : (lI a / lI b).toInt = a.tdiv b := by rw [Int64.toInt_div_of_ne_right _ _ h2, lI_t ha, lI_t hb]
  rw [← h3, ← lI_of]
theorem lI_mod {a b : Int} (ha : r64 a) (hb : r64 b) (h1 : b ≠ -1) : lI a - lI a / lI b * lI b = lI (a.tmod b) := by
  rw [lI_quo ha hb h1, lI_mul, lI_sub]
  congr 1
  have := Int.tmod_add_mul_tdiv a b
  rw [Int.mul_comm] at this
  omega
theorem iI_64 {a : Int} (h : r32 a) : (iI a).toInt64 = lI a := by
  apply Int64.toInt_inj.mp
  rw [Int32.toInt_toInt64, iI_t h, lI_t ⟨by have := h.1; omega, by have := h.2; omega⟩]
theorem lI_32 (a : Int) : (lI a).toInt32 = iI a := Int64.toInt32_ofInt
def cmpZ (a b : Int) : Int := if b < a then 1 else if a = b then 0 else -1
theorem lI_cmp {a b : Int} (ha : r64 a) (hb : r64 b) : lg_cmp (lI a) (lI b) = iI (cmpZ a b) := by
  unfold lg_cmp cmpZ
  by_cases h1 : b < a
  · rw [if_pos h1, if_pos ((lI_lt hb ha).mpr h1)]; rfl
  · rw [if_neg h1, if_neg (fun h => h1 ((lI_lt hb ha).mp h))]
    by_cases h2 : a = b
    · rw [if_pos h2, if_pos ((lI_inj ha hb).mpr h2)]; rfl
    · rw [if_neg h2, if_neg (fun h => h2 ((lI_inj ha hb).mp h))]; rfl
theorem cmpZ_r (a b : Int) : r32 (cmpZ a b) := by unfold cmpZ; split <;> (try split) <;> constructor <;> omega
theorem cmpZ_ge {a b : Int} : 0 ≤ cmpZ a b ↔ b ≤ a := by unfold cmpZ; split <;> (try split) <;> omega
theorem cmpZ_lt {a b : Int} : cmpZ a b < 0 ↔ a < b := by unfold cmpZ; split <;> (try split) <;> omega
theorem cmpZ_gt {a b : Int} : 0 < cmpZ a b ↔ b < a := by unfold cmpZ; split <;> (try split) <;> omega
theorem cmpZ_le {a b : Int} : cmpZ a b ≤ 0 ↔ a ≤ b := by unfold cmpZ; split <;> (try split) <;> omega
theorem cmpZ_eq {a b : Int} : cmpZ a b = 0 ↔ a = b := by unfold cmpZ; split <;> (try split) <;> omega
/-! The judgement Go: from every heap and locals that the lists picture, the machine comes to its end. A row an instruction, over the kit's rows. -/
abbrev TCx : Type := Program × Launch × Env × Room × State × MethodId × Array Value × List Frame × Method × Code × (State → Prop) × (Nat → Prop) × va_G × List vw_C × Nat
abbrev cx_p (X : TCx) : Program := X.1
abbrev cx_l (X : TCx) : Launch := X.2.1
abbrev cx_e (X : TCx) : Env := X.2.2.1
abbrev cx_R (X : TCx) : Room := X.2.2.2.1
abbrev cx_s (X : TCx) : State := X.2.2.2.2.1
abbrev cx_m (X : TCx) : MethodId := X.2.2.2.2.2.1
abbrev cx_a (X : TCx) : Array Value := X.2.2.2.2.2.2.1
abbrev cx_b (X : TCx) : List Frame := X.2.2.2.2.2.2.2.1
abbrev cx_M (X : TCx) : Method := X.2.2.2.2.2.2.2.2.1
abbrev cx_c (X : TCx) : Code := X.2.2.2.2.2.2.2.2.2.1
abbrev cx_Q (X : TCx) : State → Prop := X.2.2.2.2.2.2.2.2.2.2.1
abbrev cx_A (X : TCx) : Nat → Prop := X.2.2.2.2.2.2.2.2.2.2.2.1
abbrev cx_D (X : TCx) : va_G := X.2.2.2.2.2.2.2.2.2.2.2.2.1
abbrev cx_C (X : TCx) : List vw_C := X.2.2.2.2.2.2.2.2.2.2.2.2.2.1
abbrev cx_n (X : TCx) : Nat := X.2.2.2.2.2.2.2.2.2.2.2.2.2.2
abbrev TWx (X : TCx) (H : Heap) (locs : List Loc) (n k : Nat) (g : JFrame) : Prop := W (cx_p X) (cx_l X) (cx_e X) (cx_R X) (cx_s X) (cx_m X) (cx_a X) (cx_b X) (cx_M X) (cx_c X) H locs n k (cx_Q X) g
def TGo (X : TCx) (ws : va_W) (n k pc : Nat) (lv : List (Nat × Value)) (st : List Value) : Prop :=
  ∀ (H : Heap) (locs : List Loc) (ls : Array Slot), va_P (cx_D X) (cx_C X) ws H → va_D (cx_A X) ws → va_S (cx_A X) (cx_s X).heap H locs → lv_has ls (cx_n X) lv → TWx X H locs n k (F0 (cx_m X) pc ls st)
/-- what a method may count on besides its cells: the statics, the nest; it must stay as the heap goes on -/
abbrev TEn : Type := (Nat → Prop) → State → Prop
def TOk (X : TCx) (cc : ByteArray) (own : String) (rm : Room) (nL : Nat) (cl : List vw_C) (E : TEn) : Prop :=
  (cx_p X).tables.exec = Jvm.exec ∧ (cx_c X).code = cc ∧ (cx_c X).maxLocals = nL ∧ cx_n X = nL ∧ (cx_s X).vm.findClass own = some (cx_m X).cls ∧ (∀ w ∈ Gw, w.before (cx_a X) (cx_s X) = true) ∧ (∀ q, (cx_s X).heap.size ≤ q → cx_A X q) ∧ cx_R X = rm ∧ cx_C X = cl ∧ E (cx_A X) (cx_s X)
def TKn (X : TCx) (tys : List (ClassId × FieldType)) : Prop := va_K (cx_D X) (cx_C X) tys (cx_s X)
section GO
variable {X : TCx} {cc : ByteArray} {own : String} {rm : Room} {nL : Nat} {ws : va_W} {n k pc : Nat} {lv : List (Nat × Value)} {st : List Value} {tys : List (ClassId × FieldType)} {cl : List vw_C} {E : TEn}
theorem TWx_vi {H : Heap} {locs : List Loc} {ls : Array Slot} {x y : Int32} (e : x = y) (h : TWx X H locs n k (F0 (cx_m X) pc ls (.int y :: st))) : TWx X H locs n k (F0 (cx_m X) pc ls (.int x :: st)) := e ▸ h
theorem TWx_vl {H : Heap} {locs : List Loc} {ls : Array Slot} {x y : Int64} (e : x = y) (h : TWx X H locs n k (F0 (cx_m X) pc ls (.long y :: st))) : TWx X H locs n k (F0 (cx_m X) pc ls (.long x :: st)) := e ▸ h
theorem iI_cl {j : Nat} (h : j < 2147483648) : (iI (j : Int)).toNatClampNeg = j := by rw [iI_nat, nI_clamp (by omega)]
theorem iI_in {j N : Nat} (h : j < N) (hN : N < 2147483648) : vp_in (iI (j : Int)) N := by rw [iI_nat]; exact vp_in_nI h hN
theorem TGo.sub {ws' : va_W} (is : List Nat) (hn : va_nd is = true) (hs : is.map (fun i => ws[i]?) = ws'.map some) (h : TGo X ws' n k pc lv st) : TGo X ws n k pc lv st := by
  intro H locs ls hP hD hS hl
  refine h H locs ls (fun j q hj => ?_) (hD.sub is hn hs) hS hl
  have h1 : (is.map (fun i => ws[i]?))[j]? = some (some q) := by rw [hs, List.getElem?_map, hj]; rfl
  rw [List.getElem?_map] at h1
  cases hi : is[j]? with
  | none => rw [hi] at h1; cases h1
  | some i => rw [hi] at h1; exact hP i q (Option.some.inj h1)
theorem TGo.lsub {lv' : List (Nat × Value)} (ks : List Nat) (hk : lv_pick lv ks = lv') (h : TGo X ws n k pc lv' st) : TGo X ws n k pc lv st :=
  fun H locs ls hP hD hS hl => h H locs ls hP hD hS (lv_sub hl ks hk)
theorem TGo.eqw {ws' : va_W} (e : ws = ws') (h : TGo X ws' n k pc lv st) : TGo X ws n k pc lv st := e ▸ h
theorem vp_cell_ext (cA : ClassId) (N : Nat) {f g : Nat → Int32} (h : ∀ i, i < N → f i = g i) : vp_cell cA (N, .inl f) = vp_cell cA (N, .inl g) := by
  rw [vp_cell_i, vp_cell_i]
  unfold arrV
  congr 2
  funext j
  exact congrArg Value.int (h j.val j.isLt)
theorem vp_cell_extL (cA : ClassId) (N : Nat) {f g : Nat → Int64} (h : ∀ i, i < N → f i = g i) : vp_cell cA (N, .inr (.inl f)) = vp_cell cA (N, .inr (.inl g)) := by
  rw [vp_cell_l, vp_cell_l]
  unfold arrV
  congr 2
  funext j
  exact congrArg Value.long (h j.val j.isLt)
theorem va_P_ext {D : va_G} {cl : List vw_C} {q0 a : Nat} {e e' : va_E} {H : Heap} (hq : q0 < ws.length) (h : va_P D cl (ws.set q0 (a, e)) H) (he : va_at D cl (a, e) H → va_at D cl (a, e') H) : va_P D cl (ws.set q0 (a, e')) H := by
  intro j q hj
  by_cases hjq : j = q0
  · subst hjq
    rw [List.getElem?_set_self hq] at hj
    cases hj
    exact he (h j (a, e) (List.getElem?_set_self hq))
  · rw [List.getElem?_set_ne (Ne.symm hjq)] at hj
    exact h j q (by rw [List.getElem?_set_ne (Ne.symm hjq)]; exact hj)
/-- another picture of an int array, equal below its length -/
theorem TGo.arr (q0 : Nat) {a : Nat} {cA : ClassId} {N : Nat} {f : Nat → Int32} (hq : ws[q0]? = some (a, .inl (cA, N, .inl f))) (g : Nat → Int32) (hg : ∀ i, i < N → f i = g i) {ws' : va_W} (hw : ws.set q0 (a, .inl (cA, N, .inl g)) = ws') (h : TGo X ws' n k pc lv st) : TGo X ws n k pc lv st := by
  subst hw
  intro H locs ls hP hD hS hl
  have hlt := (List.getElem?_eq_some_iff.mp hq).1
  refine h H locs ls ?_ (va_D.set hD hq) hS hl
  intro j q hj
  by_cases hjq : j = q0
  · subst hjq
    rw [List.getElem?_set_self hlt] at hj
    cases hj
    have h1 : H[a]? = some (vp_cell cA (N, .inl f)) := hP j _ hq
    show H[a]? = some (vp_cell cA (N, .inl g))
    rw [h1, vp_cell_ext cA N hg]
  · rw [List.getElem?_set_ne (Ne.symm hjq)] at hj
    exact hP j q hj

theorem go_iconst (O : TOk X cc own rm nL cl E) {z : Int} (hd : decode cc pc = .ok (.iconst z, 1))  (pc' : Nat) (hp : pc + 1 = pc') (h : TGo X ws n k pc' lv (.int (iI z) :: st)) : TGo X ws n k pc lv st := by
  subst hp
  intro H locs ls hP hD hS hl
  exact lv_iconst O.1 O.2.1 hd rfl (h H locs ls hP hD hS hl)
theorem go_bipush (O : TOk X cc own rm nL cl E) {z : Int} (hd : decode cc pc = .ok (.bipush z, 2)) (hv : (Int8.ofInt z).toInt32 = iI z) (pc' : Nat) (hp : pc + 2 = pc') (h : TGo X ws n k pc' lv (.int (iI z) :: st)) : TGo X ws n k pc lv st := by
  subst hp
  intro H locs ls hP hD hS hl
  exact lv_bipush O.1 O.2.1 hd hv (h H locs ls hP hD hS hl)
theorem go_sipush (O : TOk X cc own rm nL cl E) {z : Int} (hd : decode cc pc = .ok (.sipush z, 3)) (hv : (Int16.ofInt z).toInt32 = iI z) (pc' : Nat) (hp : pc + 3 = pc') (h : TGo X ws n k pc' lv (.int (iI z) :: st)) : TGo X ws n k pc lv st := by
  subst hp
  intro H locs ls hP hD hS hl
  exact lv_sipush O.1 O.2.1 hd hv (h H locs ls hP hD hS hl)
theorem go_lconst (O : TOk X cc own rm nL cl E) {c : Fin 2} (hd : decode cc pc = .ok (.lconst c, 1)) (z : Int) (hv : Int64.ofNat (c : Nat) = lI z) (pc' : Nat) (hp : pc + 1 = pc') (h : TGo X ws n k pc' lv (.long (lI z) :: st)) : TGo X ws n k pc lv st := by
  subst hp
  intro H locs ls hP hD hS hl
  exact lv_lconst O.1 O.2.1 hd hv (h H locs ls hP hD hS hl)
theorem go_ldc (O : TOk X cc own rm nL cl E) {index : Nat} {v : Int32} (hd : decode cc pc = .ok (.ldc index, 2)) (z : Int) (hw : Cond.constant own index v ∈ Gw) (hv : v = iI z) (pc' : Nat) (hp : pc + 2 = pc') (h : TGo X ws n k pc' lv (.int (iI z) :: st)) : TGo X ws n k pc lv st := by
  subst hp
  intro H locs ls hP hD hS hl
  exact lv_ldc O.1 O.2.1 O.2.2.2.2.1 (hv ▸ O.2.2.2.2.2.1 _ hw) hd (h H locs ls hP hD hS hl)
theorem go_ldc2 (O : TOk X cc own rm nL cl E) {index : Nat} {v : Int64} (hd : decode cc pc = .ok (.ldc2_w index, 3)) (z : Int) (hw : Cond.constantLong own index v ∈ Gw) (hv : v = lI z) (pc' : Nat) (hp : pc + 3 = pc') (h : TGo X ws n k pc' lv (.long (lI z) :: st)) : TGo X ws n k pc lv st := by
  subst hp
  intro H locs ls hP hD hS hl
  exact lv_ldc2 O.1 O.2.1 O.2.2.2.2.1 (hv ▸ O.2.2.2.2.2.1 _ hw) hd (h H locs ls hP hD hS hl)
theorem go_iload_n (O : TOk X cc own rm nL cl E) {i : Nat} {x : Int32} {q : Fin 4} (hd : decode cc pc = .ok (.iload_n q, 1)) (hi : (q : Nat) = i) (j : Nat) (hj : lv[j]? = some (i, .int x)) (pc' : Nat) (hp : pc + 1 = pc') (h : TGo X ws n k pc' lv (.int x :: st)) : TGo X ws n k pc lv st := by
  subst hp
  intro H locs ls hP hD hS hl
  exact lv_iload_n O.1 O.2.1 hd hi (lv_at hl j hj) (h H locs ls hP hD hS hl)
theorem go_iload (O : TOk X cc own rm nL cl E) {i : Nat} {x : Int32} (hd : decode cc pc = .ok (.iload i, 2)) (j : Nat) (hj : lv[j]? = some (i, .int x)) (pc' : Nat) (hp : pc + 2 = pc') (h : TGo X ws n k pc' lv (.int x :: st)) : TGo X ws n k pc lv st := by
  subst hp
  intro H locs ls hP hD hS hl
  exact lv_iload O.1 O.2.1 hd (lv_at hl j hj) (h H locs ls hP hD hS hl)
theorem go_lload_n (O : TOk X cc own rm nL cl E) {i : Nat} {x : Int64} {q : Fin 4} (hd : decode cc pc = .ok (.lload_n q, 1)) (hi : (q : Nat) = i) (j : Nat) (hj : lv[j]? = some (i, .long x)) (pc' : Nat) (hp : pc + 1 = pc') (h : TGo X ws n k pc' lv (.long x :: st)) : TGo X ws n k pc lv st := by
  subst hp
  intro H locs ls hP hD hS hl
  exact lv_lload_n O.1 O.2.1 hd hi (lv_at hl j hj) (h H locs ls hP hD hS hl)
theorem go_lload (O : TOk X cc own rm nL cl E) {i : Nat} {x : Int64} (hd : decode cc pc = .ok (.lload i, 2)) (j : Nat) (hj : lv[j]? = some (i, .long x)) (pc' : Nat) (hp : pc + 2 = pc') (h : TGo X ws n k pc' lv (.long x :: st)) : TGo X ws n k pc lv st := by
  subst hp
  intro H locs ls hP hD hS hl
  exact lv_lload O.1 O.2.1 hd (lv_at hl j hj) (h H locs ls hP hD hS hl)
theorem go_aload_n (O : TOk X cc own rm nL cl E) {i : Nat} {x : Nat} {q : Fin 4} (hd : decode cc pc = .ok (.aload_n q, 1)) (hi : (q : Nat) = i) (j : Nat) (hj : lv[j]? = some (i, .ref x)) (pc' : Nat) (hp : pc + 1 = pc') (h : TGo X ws n k pc' lv (.ref x :: st)) : TGo X ws n k pc lv st := by
  subst hp
  intro H locs ls hP hD hS hl
  exact lv_aload_n O.1 O.2.1 hd hi (lv_at hl j hj) (h H locs ls hP hD hS hl)
theorem go_aload (O : TOk X cc own rm nL cl E) {i : Nat} {x : Nat} (hd : decode cc pc = .ok (.aload i, 2)) (j : Nat) (hj : lv[j]? = some (i, .ref x)) (pc' : Nat) (hp : pc + 2 = pc') (h : TGo X ws n k pc' lv (.ref x :: st)) : TGo X ws n k pc lv st := by
  subst hp
  intro H locs ls hP hD hS hl
  exact lv_aload O.1 O.2.1 hd (lv_at hl j hj) (h H locs ls hP hD hS hl)
theorem go_istore_n (O : TOk X cc own rm nL cl E) {i : Nat} {x : Int32} {q : Fin 4} (hd : decode cc pc = .ok (.istore_n q, 1)) (hi : (q : Nat) = i) (hn : i < nL) (lv' : List (Nat × Value)) (hl' : (i, Value.int x) :: lv.filter (fun q => !(q.1 == i) && !(q.1 + 1 == i && q.2.category == 2)) = lv') (pc' : Nat) (hp : pc + 1 = pc') (h : TGo X ws n k pc' lv' st) : TGo X ws n k pc lv (.int x :: st) := by
  subst hp
  intro H locs ls hP hD hS hl
  exact lv_istore_n O.1 O.2.1 hd hi hl (by rw [O.2.2.2.1]; exact hn) hl' (fun ls' h' => h H locs ls' hP hD hS h')
theorem go_istore (O : TOk X cc own rm nL cl E) {i : Nat} {x : Int32} (hd : decode cc pc = .ok (.istore i, 2)) (hn : i < nL) (lv' : List (Nat × Value)) (hl' : (i, Value.int x) :: lv.filter (fun q => !(q.1 == i) && !(q.1 + 1 == i && q.2.category == 2)) = lv') (pc' : Nat) (hp : pc + 2 = pc') (h : TGo X ws n k pc' lv' st) : TGo X ws n k pc lv (.int x :: st) := by
  subst hp
  intro H locs ls hP hD hS hl
  exact lv_istore O.1 O.2.1 hd hl (by rw [O.2.2.2.1]; exact hn) hl' (fun ls' h' => h H locs ls' hP hD hS h')
theorem go_lstore_n (O : TOk X cc own rm nL cl E) {i : Nat} {x : Int64} {q : Fin 4} (hd : decode cc pc = .ok (.lstore_n q, 1)) (hi : (q : Nat) = i) (hn : i + 1 < nL) (lv' : List (Nat × Value)) (hl' : (i, Value.long x) :: lv.filter (fun q => !(q.1 == i) && (!(q.1 == i + 1) && !(q.1 + 1 == i && q.2.category == 2))) = lv') (pc' : Nat) (hp : pc + 1 = pc') (h : TGo X ws n k pc' lv' st) : TGo X ws n k pc lv (.long x :: st) := by
  subst hp
  intro H locs ls hP hD hS hl
  exact lv_lstore_n O.1 O.2.1 hd hi hl (by rw [O.2.2.2.1]; exact hn) hl' (fun ls' h' => h H locs ls' hP hD hS h')
theorem go_lstore (O : TOk X cc own rm nL cl E) {i : Nat} {x : Int64} (hd : decode cc pc = .ok (.lstore i, 2)) (hn : i + 1 < nL) (lv' : List (Nat × Value)) (hl' : (i, Value.long x) :: lv.filter (fun q => !(q.1 == i) && (!(q.1 == i + 1) && !(q.1 + 1 == i && q.2.category == 2))) = lv') (pc' : Nat) (hp : pc + 2 = pc') (h : TGo X ws n k pc' lv' st) : TGo X ws n k pc lv (.long x :: st) := by
  subst hp
  intro H locs ls hP hD hS hl
  exact lv_lstore O.1 O.2.1 hd hl (by rw [O.2.2.2.1]; exact hn) hl' (fun ls' h' => h H locs ls' hP hD hS h')
theorem go_astore_n (O : TOk X cc own rm nL cl E) {i : Nat} {x : Nat} {q : Fin 4} (hd : decode cc pc = .ok (.astore_n q, 1)) (hi : (q : Nat) = i) (hn : i < nL) (lv' : List (Nat × Value)) (hl' : (i, Value.ref x) :: lv.filter (fun q => !(q.1 == i) && !(q.1 + 1 == i && q.2.category == 2)) = lv') (pc' : Nat) (hp : pc + 1 = pc') (h : TGo X ws n k pc' lv' st) : TGo X ws n k pc lv (.ref x :: st) := by
  subst hp
  intro H locs ls hP hD hS hl
  exact lv_astore_n O.1 O.2.1 hd hi hl (by rw [O.2.2.2.1]; exact hn) hl' (fun ls' h' => h H locs ls' hP hD hS h')
theorem go_astore (O : TOk X cc own rm nL cl E) {i : Nat} {x : Nat} (hd : decode cc pc = .ok (.astore i, 2)) (hn : i < nL) (lv' : List (Nat × Value)) (hl' : (i, Value.ref x) :: lv.filter (fun q => !(q.1 == i) && !(q.1 + 1 == i && q.2.category == 2)) = lv') (pc' : Nat) (hp : pc + 2 = pc') (h : TGo X ws n k pc' lv' st) : TGo X ws n k pc lv (.ref x :: st) := by
  subst hp
  intro H locs ls hP hD hS hl
  exact lv_astore O.1 O.2.1 hd hl (by rw [O.2.2.2.1]; exact hn) hl' (fun ls' h' => h H locs ls' hP hD hS h')
theorem go_iinc (O : TOk X cc own rm nL cl E) {i : Nat} {a c : Int} (hd : decode cc pc = .ok (.iinc i c, 3)) (j : Nat) (hj : lv[j]? = some (i, .int (iI a))) (z : Int) (hz : a + c = z) (hn : i < nL) (lv' : List (Nat × Value)) (hl' : (i, Value.int (iI z)) :: lv.filter (fun q => !(q.1 == i) && !(q.1 + 1 == i && q.2.category == 2)) = lv') (pc' : Nat) (hp : pc + 3 = pc') (h : TGo X ws n k pc' lv' st) : TGo X ws n k pc lv st := by
  subst hp
  intro H locs ls hP hD hS hl
  exact lv_iinc O.1 O.2.1 hd hl hj (by rw [← hz, ← iI_add]; rfl) (by rw [O.2.2.2.1]; exact hn) hl' (fun ls' h' => h H locs ls' hP hD hS h')
theorem go_iadd (O : TOk X cc own rm nL cl E) {a b : Int} (hd : decode cc pc = .ok (.iadd, 1)) (z : Int) (hz : a + b = z) (pc' : Nat) (hp : pc + 1 = pc') (h : TGo X ws n k pc' lv (.int (iI z) :: st)) : TGo X ws n k pc lv (.int (iI b) :: .int (iI a) :: st) := by
  subst hp
  intro H locs ls hP hD hS hl
  exact lv_iadd O.1 O.2.1 hd (TWx_vi (by rw [iI_add, hz]) (h H locs ls hP hD hS hl))
theorem go_isub (O : TOk X cc own rm nL cl E) {a b : Int} (hd : decode cc pc = .ok (.isub, 1)) (z : Int) (hz : a - b = z) (pc' : Nat) (hp : pc + 1 = pc') (h : TGo X ws n k pc' lv (.int (iI z) :: st)) : TGo X ws n k pc lv (.int (iI b) :: .int (iI a) :: st) := by
  subst hp
  intro H locs ls hP hD hS hl
  exact lv_isub O.1 O.2.1 hd (TWx_vi (by rw [iI_sub, hz]) (h H locs ls hP hD hS hl))
theorem go_imul (O : TOk X cc own rm nL cl E) {a b : Int} (hd : decode cc pc = .ok (.imul, 1)) (z : Int) (hz : a * b = z) (pc' : Nat) (hp : pc + 1 = pc') (h : TGo X ws n k pc' lv (.int (iI z) :: st)) : TGo X ws n k pc lv (.int (iI b) :: .int (iI a) :: st) := by
  subst hp
  intro H locs ls hP hD hS hl
  exact lv_imul O.1 O.2.1 hd (TWx_vi (by rw [iI_mul, hz]) (h H locs ls hP hD hS hl))
theorem go_ladd (O : TOk X cc own rm nL cl E) {a b : Int} (hd : decode cc pc = .ok (.ladd, 1)) (z : Int) (hz : a + b = z) (pc' : Nat) (hp : pc + 1 = pc') (h : TGo X ws n k pc' lv (.long (lI z) :: st)) : TGo X ws n k pc lv (.long (lI b) :: .long (lI a) :: st) := by
  subst hp
  intro H locs ls hP hD hS hl
  exact lv_ladd O.1 O.2.1 hd (TWx_vl (by rw [lI_add, hz]) (h H locs ls hP hD hS hl))
theorem go_lsub (O : TOk X cc own rm nL cl E) {a b : Int} (hd : decode cc pc = .ok (.lsub, 1)) (z : Int) (hz : a - b = z) (pc' : Nat) (hp : pc + 1 = pc') (h : TGo X ws n k pc' lv (.long (lI z) :: st)) : TGo X ws n k pc lv (.long (lI b) :: .long (lI a) :: st) := by
  subst hp
  intro H locs ls hP hD hS hl
  exact lv_lsub O.1 O.2.1 hd (TWx_vl (by rw [lI_sub, hz]) (h H locs ls hP hD hS hl))
theorem go_lmul (O : TOk X cc own rm nL cl E) {a b : Int} (hd : decode cc pc = .ok (.lmul, 1)) (z : Int) (hz : a * b = z) (pc' : Nat) (hp : pc + 1 = pc') (h : TGo X ws n k pc' lv (.long (lI z) :: st)) : TGo X ws n k pc lv (.long (lI b) :: .long (lI a) :: st) := by
  subst hp
  intro H locs ls hP hD hS hl
  exact lv_lmul O.1 O.2.1 hd (TWx_vl (by rw [lI_mul, hz]) (h H locs ls hP hD hS hl))
theorem go_ineg (O : TOk X cc own rm nL cl E) {a : Int} (hd : decode cc pc = .ok (.ineg, 1)) (z : Int) (hz : -a = z) (pc' : Nat) (hp : pc + 1 = pc') (h : TGo X ws n k pc' lv (.int (iI z) :: st)) : TGo X ws n k pc lv (.int (iI a) :: st) := by
  subst hp
  intro H locs ls hP hD hS hl
  exact lv_ineg O.1 O.2.1 hd (TWx_vi (by rw [iI_neg, hz]) (h H locs ls hP hD hS hl))
theorem go_lneg (O : TOk X cc own rm nL cl E) {a : Int} (hd : decode cc pc = .ok (.lneg, 1)) (z : Int) (hz : -a = z) (pc' : Nat) (hp : pc + 1 = pc') (h : TGo X ws n k pc' lv (.long (lI z) :: st)) : TGo X ws n k pc lv (.long (lI a) :: st) := by
  subst hp
  intro H locs ls hP hD hS hl
  exact lv_lneg O.1 O.2.1 hd (TWx_vl (by rw [lI_neg, hz]) (h H locs ls hP hD hS hl))
theorem go_iand (O : TOk X cc own rm nL cl E) {a b : Int} (hd : decode cc pc = .ok (.iand, 1)) (z : Int) (hz : iI a &&& iI b = iI z) (pc' : Nat) (hp : pc + 1 = pc') (h : TGo X ws n k pc' lv (.int (iI z) :: st)) : TGo X ws n k pc lv (.int (iI b) :: .int (iI a) :: st) := by
  subst hp
  intro H locs ls hP hD hS hl
  exact lv_iand O.1 O.2.1 hd (TWx_vi hz (h H locs ls hP hD hS hl))
theorem go_ior (O : TOk X cc own rm nL cl E) {a b : Int} (hd : decode cc pc = .ok (.ior, 1)) (z : Int) (hz : iI a ||| iI b = iI z) (pc' : Nat) (hp : pc + 1 = pc') (h : TGo X ws n k pc' lv (.int (iI z) :: st)) : TGo X ws n k pc lv (.int (iI b) :: .int (iI a) :: st) := by
  subst hp
  intro H locs ls hP hD hS hl
  exact lv_ior O.1 O.2.1 hd (TWx_vi hz (h H locs ls hP hD hS hl))
theorem go_land (O : TOk X cc own rm nL cl E) {a b : Int} (hd : decode cc pc = .ok (.land, 1)) (z : Int) (hz : lI a &&& lI b = lI z) (pc' : Nat) (hp : pc + 1 = pc') (h : TGo X ws n k pc' lv (.long (lI z) :: st)) : TGo X ws n k pc lv (.long (lI b) :: .long (lI a) :: st) := by
  subst hp
  intro H locs ls hP hD hS hl
  exact lv_land O.1 O.2.1 hd (TWx_vl hz (h H locs ls hP hD hS hl))
theorem go_lor (O : TOk X cc own rm nL cl E) {a b : Int} (hd : decode cc pc = .ok (.lor, 1)) (z : Int) (hz : lI a ||| lI b = lI z) (pc' : Nat) (hp : pc + 1 = pc') (h : TGo X ws n k pc' lv (.long (lI z) :: st)) : TGo X ws n k pc lv (.long (lI b) :: .long (lI a) :: st) := by
  subst hp
  intro H locs ls hP hD hS hl
  exact lv_lor O.1 O.2.1 hd (TWx_vl hz (h H locs ls hP hD hS hl))
theorem go_idiv (O : TOk X cc own rm nL cl E) {a b : Int} (hd : decode cc pc = .ok (.idiv, 1)) (ha : 0 ≤ a) (ha2 : a < 2147483648) (hb : 0 < b) (hb2 : b < 2147483648) (z : Int) (hz : a / b = z) (pc' : Nat) (hp : pc + 1 = pc') (h : TGo X ws n k pc' lv (.int (iI z) :: st)) : TGo X ws n k pc lv (.int (iI b) :: .int (iI a) :: st) := by
  subst hp
  intro H locs ls hP hD hS hl
  exact lv_idiv O.1 O.2.1 hd (by
    intro q
    have := (iI_inj ⟨by omega, hb2⟩ r32_0).mp (q.trans iI_0.symm)
    omega) (TWx_vi (by rw [iI_div ha ha2 hb hb2, hz]) (h H locs ls hP hD hS hl))
theorem go_irem (O : TOk X cc own rm nL cl E) {a b : Int} (hd : decode cc pc = .ok (.irem, 1)) (ha : 0 ≤ a) (ha2 : a < 2147483648) (hb : 0 < b) (hb2 : b < 2147483648) (z : Int) (hz : a % b = z) (pc' : Nat) (hp : pc + 1 = pc') (h : TGo X ws n k pc' lv (.int (iI z) :: st)) : TGo X ws n k pc lv (.int (iI b) :: .int (iI a) :: st) := by
  subst hp
  intro H locs ls hP hD hS hl
  exact lv_irem O.1 O.2.1 hd (by
    intro q
    have := (iI_inj ⟨by omega, hb2⟩ r32_0).mp (q.trans iI_0.symm)
    omega) (TWx_vi (by rw [iI_rem ha ha2 hb hb2, hz]) (h H locs ls hP hD hS hl))
theorem go_ldiv (O : TOk X cc own rm nL cl E) {a b : Int} (hd : decode cc pc = .ok (.ldiv, 1)) (ha : r64 a) (hb : r64 b) (h0 : b ≠ 0) (h1 : b ≠ -1) (z : Int) (hz : a.tdiv b = z) (pc' : Nat) (hp : pc + 1 = pc') (h : TGo X ws n k pc' lv (.long (lI z) :: st)) : TGo X ws n k pc lv (.long (lI b) :: .long (lI a) :: st) := by
  subst hp
  intro H locs ls hP hD hS hl
  exact lv_ldiv O.1 O.2.1 hd (by
    intro q
    have := (lI_inj hb ⟨by omega, by omega⟩).mp (q.trans lI_0.symm)
    omega) (TWx_vl (by rw [lI_quo ha hb h1, hz]) (h H locs ls hP hD hS hl))
theorem go_lrem (O : TOk X cc own rm nL cl E) {a b : Int} (hd : decode cc pc = .ok (.lrem, 1)) (ha : r64 a) (hb : r64 b) (h0 : b ≠ 0) (h1 : b ≠ -1) (z : Int) (hz : a.tmod b = z) (pc' : Nat) (hp : pc + 1 = pc') (h : TGo X ws n k pc' lv (.long (lI z) :: st)) : TGo X ws n k pc lv (.long (lI b) :: .long (lI a) :: st) := by
  subst hp
  intro H locs ls hP hD hS hl
  exact lv_lrem O.1 O.2.1 hd (by
    intro q
    have := (lI_inj hb ⟨by omega, by omega⟩).mp (q.trans lI_0.symm)
    omega) (TWx_vl (by rw [lI_mod ha hb h1, hz]) (h H locs ls hP hD hS hl))
theorem go_i2l (O : TOk X cc own rm nL cl E) {a : Int} (hd : decode cc pc = .ok (.i2l, 1)) (ha : r32 a) (pc' : Nat) (hp : pc + 1 = pc') (h : TGo X ws n k pc' lv (.long (lI a) :: st)) : TGo X ws n k pc lv (.int (iI a) :: st) := by
  subst hp
  intro H locs ls hP hD hS hl
  exact lv_i2l O.1 O.2.1 hd (iI_64 ha) (h H locs ls hP hD hS hl)
theorem go_l2i (O : TOk X cc own rm nL cl E) {a : Int} (hd : decode cc pc = .ok (.l2i, 1))  (pc' : Nat) (hp : pc + 1 = pc') (h : TGo X ws n k pc' lv (.int (iI a) :: st)) : TGo X ws n k pc lv (.long (lI a) :: st) := by
  subst hp
  intro H locs ls hP hD hS hl
  exact lv_l2i O.1 O.2.1 hd (lI_32 a) (h H locs ls hP hD hS hl)
theorem go_lshl (O : TOk X cc own rm nL cl E) {a : Int} {b : Int} (hd : decode cc pc = .ok (.lshl, 1)) (z : Int) (hz : lI a <<< ((iI b).toInt64 &&& 63) = lI z) (pc' : Nat) (hp : pc + 1 = pc') (h : TGo X ws n k pc' lv (.long (lI z) :: st)) : TGo X ws n k pc lv (.int (iI b) :: .long (lI a) :: st) := by
  subst hp
  intro H locs ls hP hD hS hl
  exact lv_lshl O.1 O.2.1 hd hz (h H locs ls hP hD hS hl)
theorem go_lcmp (O : TOk X cc own rm nL cl E) {a b : Int} (hd : decode cc pc = .ok (.lcmp, 1)) (ha : r64 a) (hb : r64 b) (pc' : Nat) (hp : pc + 1 = pc') (h : TGo X ws n k pc' lv (.int (iI (cmpZ a b)) :: st)) : TGo X ws n k pc lv (.long (lI b) :: .long (lI a) :: st) := by
  subst hp
  intro H locs ls hP hD hS hl
  exact W.lcmp O.1 O.2.1 hd (TWx_vi (lI_cmp ha hb) (h H locs ls hP hD hS hl))
theorem go_dup (O : TOk X cc own rm nL cl E) {v : Value} (hd : decode cc pc = .ok (.dup, 1)) (hv : v.category = 1) (pc' : Nat) (hp : pc + 1 = pc') (h : TGo X ws n k pc' lv (v :: v :: st)) : TGo X ws n k pc lv (v :: st) := by
  subst hp
  intro H locs ls hP hD hS hl
  exact lv_dup O.1 O.2.1 hd hv (h H locs ls hP hD hS hl)
theorem go_pop (O : TOk X cc own rm nL cl E) {v : Value} (hd : decode cc pc = .ok (.pop, 1)) (hv : v.category = 1) (pc' : Nat) (hp : pc + 1 = pc') (h : TGo X ws n k pc' lv st) : TGo X ws n k pc lv (v :: st) := by
  subst hp
  intro H locs ls hP hD hS hl
  exact lv_pop O.1 O.2.1 hd hv (h H locs ls hP hD hS hl)
theorem go_dup_x1 (O : TOk X cc own rm nL cl E) {v u : Value} (hd : decode cc pc = .ok (.dup_x1, 1)) (hv : v.category = 1) (hu : u.category = 1) (pc' : Nat) (hp : pc + 1 = pc') (h : TGo X ws n k pc' lv (v :: u :: v :: st)) : TGo X ws n k pc lv (v :: u :: st) := by
  subst hp
  intro H locs ls hP hD hS hl
  exact lv_dup_x1 O.1 O.2.1 hd hv hu (h H locs ls hP hD hS hl)
theorem go_dup2_11 (O : TOk X cc own rm nL cl E) {v u : Value} (hd : decode cc pc = .ok (.dup2, 1)) (hv : v.category = 1) (hu : u.category = 1) (pc' : Nat) (hp : pc + 1 = pc') (h : TGo X ws n k pc' lv (v :: u :: v :: u :: st)) : TGo X ws n k pc lv (v :: u :: st) := by
  subst hp
  intro H locs ls hP hD hS hl
  exact lv_dup2_11 O.1 O.2.1 hd hv hu (h H locs ls hP hD hS hl)
theorem go_dup2_2 (O : TOk X cc own rm nL cl E) {v : Value} (hd : decode cc pc = .ok (.dup2, 1)) (hv : v.category = 2) (pc' : Nat) (hp : pc + 1 = pc') (h : TGo X ws n k pc' lv (v :: v :: st)) : TGo X ws n k pc lv (v :: st) := by
  subst hp
  intro H locs ls hP hD hS hl
  exact lv_dup2_2 O.1 O.2.1 hd hv (h H locs ls hP hD hS hl)
theorem go_pop2_2 (O : TOk X cc own rm nL cl E) {v : Value} (hd : decode cc pc = .ok (.pop2, 1)) (hv : v.category = 2) (pc' : Nat) (hp : pc + 1 = pc') (h : TGo X ws n k pc' lv st) : TGo X ws n k pc lv (v :: st) := by
  subst hp
  intro H locs ls hP hD hS hl
  exact lv_pop2_2 O.1 O.2.1 hd hv (h H locs ls hP hD hS hl)
theorem go_if_eq (O : TOk X cc own rm nL cl E) {a off : Int} (hd : decode cc pc = .ok (.ifCond .eq off, 3)) (tgt : Nat) (ht : (pc : Int) + off = (tgt : Int)) (pc' : Nat) (hp : pc + 3 = pc') (ha : r32 a) (h1 : a = 0 → TGo X ws n k tgt lv st) (h2 : ¬ a = 0 → TGo X ws n k pc' lv st) : TGo X ws n k pc lv (.int (iI a) :: st) := by
  subst hp
  intro H locs ls hP hD hS hl
  exact lv_if_eq O.1 O.2.1 hd ht (fun q => h1 ((iI_inj ha r32_0).mp q) H locs ls hP hD hS hl) (fun q => h2 (fun e => q ((iI_inj ha r32_0).mpr e)) H locs ls hP hD hS hl)
theorem go_if_ne (O : TOk X cc own rm nL cl E) {a off : Int} (hd : decode cc pc = .ok (.ifCond .ne off, 3)) (tgt : Nat) (ht : (pc : Int) + off = (tgt : Int)) (pc' : Nat) (hp : pc + 3 = pc') (ha : r32 a) (h1 : ¬ a = 0 → TGo X ws n k tgt lv st) (h2 : a = 0 → TGo X ws n k pc' lv st) : TGo X ws n k pc lv (.int (iI a) :: st) := by
  subst hp
  intro H locs ls hP hD hS hl
  exact lv_if_ne O.1 O.2.1 hd ht (fun q => h1 (fun e => q ((iI_inj ha r32_0).mpr e)) H locs ls hP hD hS hl) (fun q => h2 ((iI_inj ha r32_0).mp q) H locs ls hP hD hS hl)
theorem go_if_lt (O : TOk X cc own rm nL cl E) {a off : Int} (hd : decode cc pc = .ok (.ifCond .lt off, 3)) (tgt : Nat) (ht : (pc : Int) + off = (tgt : Int)) (pc' : Nat) (hp : pc + 3 = pc') (ha : r32 a) (h1 : a < 0 → TGo X ws n k tgt lv st) (h2 : 0 ≤ a → TGo X ws n k pc' lv st) : TGo X ws n k pc lv (.int (iI a) :: st) := by
  subst hp
  intro H locs ls hP hD hS hl
  exact lv_if_lt O.1 O.2.1 hd ht (fun q => h1 ((iI_lt ha r32_0).mp q) H locs ls hP hD hS hl) (fun q => h2 (Int.not_lt.mp fun e => q ((iI_lt ha r32_0).mpr e)) H locs ls hP hD hS hl)
theorem go_if_ge (O : TOk X cc own rm nL cl E) {a off : Int} (hd : decode cc pc = .ok (.ifCond .ge off, 3)) (tgt : Nat) (ht : (pc : Int) + off = (tgt : Int)) (pc' : Nat) (hp : pc + 3 = pc') (ha : r32 a) (h1 : 0 ≤ a → TGo X ws n k tgt lv st) (h2 : a < 0 → TGo X ws n k pc' lv st) : TGo X ws n k pc lv (.int (iI a) :: st) := by
  subst hp
  intro H locs ls hP hD hS hl
  exact lv_if_ge O.1 O.2.1 hd ht (fun q => h1 ((iI_le r32_0 ha).mp q) H locs ls hP hD hS hl) (fun q => h2 (Int.not_le.mp fun e => q ((iI_le r32_0 ha).mpr e)) H locs ls hP hD hS hl)
theorem go_if_gt (O : TOk X cc own rm nL cl E) {a off : Int} (hd : decode cc pc = .ok (.ifCond .gt off, 3)) (tgt : Nat) (ht : (pc : Int) + off = (tgt : Int)) (pc' : Nat) (hp : pc + 3 = pc') (ha : r32 a) (h1 : 0 < a → TGo X ws n k tgt lv st) (h2 : a ≤ 0 → TGo X ws n k pc' lv st) : TGo X ws n k pc lv (.int (iI a) :: st) := by
  subst hp
  intro H locs ls hP hD hS hl
  exact lv_if_gt O.1 O.2.1 hd ht (fun q => h1 ((iI_lt r32_0 ha).mp q) H locs ls hP hD hS hl) (fun q => h2 (Int.not_lt.mp fun e => q ((iI_lt r32_0 ha).mpr e)) H locs ls hP hD hS hl)
theorem go_if_le (O : TOk X cc own rm nL cl E) {a off : Int} (hd : decode cc pc = .ok (.ifCond .le off, 3)) (tgt : Nat) (ht : (pc : Int) + off = (tgt : Int)) (pc' : Nat) (hp : pc + 3 = pc') (ha : r32 a) (h1 : a ≤ 0 → TGo X ws n k tgt lv st) (h2 : 0 < a → TGo X ws n k pc' lv st) : TGo X ws n k pc lv (.int (iI a) :: st) := by
  subst hp
  intro H locs ls hP hD hS hl
  exact lv_if_le O.1 O.2.1 hd ht (fun q => h1 ((iI_le ha r32_0).mp q) H locs ls hP hD hS hl) (fun q => h2 (Int.not_le.mp fun e => q ((iI_le ha r32_0).mpr e)) H locs ls hP hD hS hl)
theorem go_icmp_eq (O : TOk X cc own rm nL cl E) {a b off : Int} (hd : decode cc pc = .ok (.if_icmp .eq off, 3)) (tgt : Nat) (ht : (pc : Int) + off = (tgt : Int)) (pc' : Nat) (hp : pc + 3 = pc') (ha : r32 a) (hb : r32 b) (h1 : a = b → TGo X ws n k tgt lv st) (h2 : ¬ a = b → TGo X ws n k pc' lv st) : TGo X ws n k pc lv (.int (iI b) :: .int (iI a) :: st) := by
  subst hp
  intro H locs ls hP hD hS hl
  exact lv_icmp_eq O.1 O.2.1 hd ht (fun q => h1 ((iI_inj ha hb).mp q) H locs ls hP hD hS hl) (fun q => h2 (fun e => q ((iI_inj ha hb).mpr e)) H locs ls hP hD hS hl)
theorem go_icmp_ne (O : TOk X cc own rm nL cl E) {a b off : Int} (hd : decode cc pc = .ok (.if_icmp .ne off, 3)) (tgt : Nat) (ht : (pc : Int) + off = (tgt : Int)) (pc' : Nat) (hp : pc + 3 = pc') (ha : r32 a) (hb : r32 b) (h1 : ¬ a = b → TGo X ws n k tgt lv st) (h2 : a = b → TGo X ws n k pc' lv st) : TGo X ws n k pc lv (.int (iI b) :: .int (iI a) :: st) := by
  subst hp
  intro H locs ls hP hD hS hl
  exact lv_icmp_ne O.1 O.2.1 hd ht (fun q => h1 (fun e => q ((iI_inj ha hb).mpr e)) H locs ls hP hD hS hl) (fun q => h2 ((iI_inj ha hb).mp q) H locs ls hP hD hS hl)
theorem go_icmp_lt (O : TOk X cc own rm nL cl E) {a b off : Int} (hd : decode cc pc = .ok (.if_icmp .lt off, 3)) (tgt : Nat) (ht : (pc : Int) + off = (tgt : Int)) (pc' : Nat) (hp : pc + 3 = pc') (ha : r32 a) (hb : r32 b) (h1 : a < b → TGo X ws n k tgt lv st) (h2 : b ≤ a → TGo X ws n k pc' lv st) : TGo X ws n k pc lv (.int (iI b) :: .int (iI a) :: st) := by
  subst hp
  intro H locs ls hP hD hS hl
  exact lv_icmp_lt O.1 O.2.1 hd ht (fun q => h1 ((iI_lt ha hb).mp q) H locs ls hP hD hS hl) (fun q => h2 (Int.not_lt.mp fun e => q ((iI_lt ha hb).mpr e)) H locs ls hP hD hS hl)
theorem go_icmp_ge (O : TOk X cc own rm nL cl E) {a b off : Int} (hd : decode cc pc = .ok (.if_icmp .ge off, 3)) (tgt : Nat) (ht : (pc : Int) + off = (tgt : Int)) (pc' : Nat) (hp : pc + 3 = pc') (ha : r32 a) (hb : r32 b) (h1 : b ≤ a → TGo X ws n k tgt lv st) (h2 : a < b → TGo X ws n k pc' lv st) : TGo X ws n k pc lv (.int (iI b) :: .int (iI a) :: st) := by
  subst hp
  intro H locs ls hP hD hS hl
  exact lv_icmp_ge O.1 O.2.1 hd ht (fun q => h1 ((iI_le hb ha).mp q) H locs ls hP hD hS hl) (fun q => h2 (Int.not_le.mp fun e => q ((iI_le hb ha).mpr e)) H locs ls hP hD hS hl)
theorem go_icmp_gt (O : TOk X cc own rm nL cl E) {a b off : Int} (hd : decode cc pc = .ok (.if_icmp .gt off, 3)) (tgt : Nat) (ht : (pc : Int) + off = (tgt : Int)) (pc' : Nat) (hp : pc + 3 = pc') (ha : r32 a) (hb : r32 b) (h1 : b < a → TGo X ws n k tgt lv st) (h2 : a ≤ b → TGo X ws n k pc' lv st) : TGo X ws n k pc lv (.int (iI b) :: .int (iI a) :: st) := by
  subst hp
  intro H locs ls hP hD hS hl
  exact lv_icmp_gt O.1 O.2.1 hd ht (fun q => h1 ((iI_lt hb ha).mp q) H locs ls hP hD hS hl) (fun q => h2 (Int.not_lt.mp fun e => q ((iI_lt hb ha).mpr e)) H locs ls hP hD hS hl)
theorem go_icmp_le (O : TOk X cc own rm nL cl E) {a b off : Int} (hd : decode cc pc = .ok (.if_icmp .le off, 3)) (tgt : Nat) (ht : (pc : Int) + off = (tgt : Int)) (pc' : Nat) (hp : pc + 3 = pc') (ha : r32 a) (hb : r32 b) (h1 : a ≤ b → TGo X ws n k tgt lv st) (h2 : b < a → TGo X ws n k pc' lv st) : TGo X ws n k pc lv (.int (iI b) :: .int (iI a) :: st) := by
  subst hp
  intro H locs ls hP hD hS hl
  exact lv_icmp_le O.1 O.2.1 hd ht (fun q => h1 ((iI_le ha hb).mp q) H locs ls hP hD hS hl) (fun q => h2 (Int.not_le.mp fun e => q ((iI_le ha hb).mpr e)) H locs ls hP hD hS hl)
theorem go_goto (O : TOk X cc own rm nL cl E) {off : Int} (hd : decode cc pc = .ok (.goto off, 3)) (tgt : Nat) (ht : (pc : Int) + off = (tgt : Int)) (h : TGo X ws n k tgt lv st) : TGo X ws n k pc lv st :=
  fun H locs ls hP hD hS hl => lv_goto O.1 O.2.1 hd ht (h H locs ls hP hD hS hl)
theorem go_get (O : TOk X cc own rm nL cl E) (hK : TKn X tys) {C : String} {T : u_T} {N ci index a : Nat} (hd : decode cc pc = .ok (.getfield index, 3)) (hin : ∀ w ∈ u_ws C T N, w ∈ Gw) (q0 : Nat) {fs : List Value} (he : ws[q0]? = some (a, .inr (ci, fs))) (hc : cl[ci]? = some (C, T, N)) (f : Nat) (hf : f < N) (hlink : Cond.fieldLink own index (T f).1 (T f).2.1 (T f).2.2.1 ∈ Gw) {v : Value} (hv : fs[f]? = some v) (pc' : Nat) (hp : pc + 3 = pc') (h : TGo X ws n k pc' lv (v :: st)) : TGo X ws n k pc lv (.ref a :: st) := by
  subst hp
  intro H locs ls hP hD hS hl
  exact va_get O.1 O.2.1 O.2.2.2.2.2.1 hin O.2.2.2.2.1 hK hP q0 he (by rw [O.2.2.2.2.2.2.2.2.1]; exact hc) f hf (O.2.2.2.2.2.1 _ hlink) (fun _ e => e) hv hd (h H locs ls hP hD hS hl)
theorem go_put (O : TOk X cc own rm nL cl E) (hK : TKn X tys) {C : String} {T : u_T} {N ci index a : Nat} (hd : decode cc pc = .ok (.putfield index, 3)) (hin : ∀ w ∈ u_ws C T N, w ∈ Gw) (ty0 : Nat → FieldType) (hty : ∀ k, k < N → parseFieldDescriptor (T k).2.2.1 = some (ty0 k)) (hnm : ∀ a, a < N → ∀ b, b < N → a ≠ b → (T a).2.1 ≠ (T b).2.1) (q0 : Nat) {fs : List Value} (he : ws[q0]? = some (a, .inr (ci, fs))) (hc : cl[ci]? = some (C, T, N)) (f : Nat) (hf : f < N) (hlink : Cond.fieldLink own index (T f).1 (T f).2.1 (T f).2.2.1 ∈ Gw) (hfin : (T f).2.2.2 = false) {ty : FieldType} {v : Value} (hdd : parseFieldDescriptor (T f).2.2.1 = some ty) (hn : narrow ty v = v) (hfit : fits ty v = true) (hl0 : f < fs.length) (ws' : va_W) (hw : ws.set q0 (a, .inr (ci, fs.set f v)) = ws') (pc' : Nat) (hp : pc + 3 = pc') (h : TGo X ws' n k pc' lv st) : TGo X ws n k pc lv (v :: .ref a :: st) := by
  subst hp; subst hw
  intro H locs ls hP hD hS hl
  exact va_put O.1 O.2.1 O.2.2.2.2.2.1 hin ty0 hty hnm O.2.2.2.2.1 hK hP hD hS q0 he (by rw [O.2.2.2.2.2.2.2.2.1]; exact hc) f hf (O.2.2.2.2.2.1 _ hlink) (fun _ e => e) hfin hdd hn hfit hl0 hd (fun H1 locs1 hP1 hD1 hS1 => h H1 locs1 ls hP1 hD1 hS1 hl)
theorem go_putF (O : TOk X cc own rm nL cl E) (hK : TKn X tys) (hin2 : (cx_M X).name = "<init>") {C : String} {T : u_T} {N ci index a : Nat} (hd : decode cc pc = .ok (.putfield index, 3)) (hin : ∀ w ∈ u_ws C T N, w ∈ Gw) (ty0 : Nat → FieldType) (hty : ∀ k, k < N → parseFieldDescriptor (T k).2.2.1 = some (ty0 k)) (hnm : ∀ a, a < N → ∀ b, b < N → a ≠ b → (T a).2.1 ≠ (T b).2.1) (q0 : Nat) {fs : List Value} (he : ws[q0]? = some (a, .inr (ci, fs))) (hc : cl[ci]? = some (C, T, N)) (f : Nat) (hf : f < N) (hlink : Cond.fieldLink own index (T f).1 (T f).2.1 (T f).2.2.1 ∈ Gw) (hfin : (T f).2.2.2 = true) (hdecl : (T f).1 = own) {ty : FieldType} {v : Value} (hdd : parseFieldDescriptor (T f).2.2.1 = some ty) (hn : narrow ty v = v) (hfit : fits ty v = true) (hl0 : f < fs.length) (ws' : va_W) (hw : ws.set q0 (a, .inr (ci, fs.set f v)) = ws') (pc' : Nat) (hp : pc + 3 = pc') (h : TGo X ws' n k pc' lv st) : TGo X ws n k pc lv (v :: .ref a :: st) := by
  subst hp; subst hw
  intro H locs ls hP hD hS hl
  exact va_putF O.1 O.2.1 O.2.2.2.2.2.1 hin ty0 hty hnm O.2.2.2.2.1 hK hP hD hS q0 he (by rw [O.2.2.2.2.2.2.2.2.1]; exact hc) f hf (O.2.2.2.2.2.1 _ hlink) (fun _ e => e) hfin hin2 hdecl hdd hn hfit hl0 hd (fun H1 locs1 hP1 hD1 hS1 => h H1 locs1 ls hP1 hD1 hS1 hl)
theorem go_iald (O : TOk X cc own rm nL cl E) (hK : TKn X tys) (hd : decode cc pc = .ok (.iaload, 1)) (q0 t0 : Nat) {a : Nat} {cA : ClassId} {N : Nat} {f : Nat → Int32} (hq : ws[q0]? = some (a, .inl (cA, N, .inl f))) (ht : tys[t0]? = some (cA, .int)) {x : Int} (j : Nat) (hx : x = (j : Int)) (hj : j < N) (hN : N < 2147483648) (z : Int) (hz : f j = iI z) (pc' : Nat) (hp : pc + 1 = pc') (h : TGo X ws n k pc' lv (.int (iI z) :: st)) : TGo X ws n k pc lv (.int (iI x) :: .ref a :: st) := by
  subst hp; subst hx
  intro H locs ls hP hD hS hl
  exact va_iald O.1 O.2.1 hK hP q0 t0 hq ht (iI_in hj hN) hd (TWx_vi (by rw [iI_cl (by omega), hz]) (h H locs ls hP hD hS hl))
theorem go_zald (O : TOk X cc own rm nL cl E) (hK : TKn X tys) (hd : decode cc pc = .ok (.baload, 1)) (q0 t0 : Nat) {a : Nat} {cA : ClassId} {N : Nat} {f : Nat → Int32} (hq : ws[q0]? = some (a, .inl (cA, N, .inl f))) (ht : tys[t0]? = some (cA, .boolean)) {x : Int} (j : Nat) (hx : x = (j : Int)) (hj : j < N) (hN : N < 2147483648) (z : Int) (hz : f j = iI z) (pc' : Nat) (hp : pc + 1 = pc') (h : TGo X ws n k pc' lv (.int (iI z) :: st)) : TGo X ws n k pc lv (.int (iI x) :: .ref a :: st) := by
  subst hp; subst hx
  intro H locs ls hP hD hS hl
  exact va_zald O.1 O.2.1 hK hP q0 t0 hq ht (iI_in hj hN) hd (TWx_vi (by rw [iI_cl (by omega), hz]) (h H locs ls hP hD hS hl))
theorem go_lald (O : TOk X cc own rm nL cl E) (hK : TKn X tys) (hd : decode cc pc = .ok (.laload, 1)) (q0 t0 : Nat) {a : Nat} {cA : ClassId} {N : Nat} {f : Nat → Int64} (hq : ws[q0]? = some (a, .inl (cA, N, .inr (.inl f)))) (ht : tys[t0]? = some (cA, .long)) {x : Int} (j : Nat) (hx : x = (j : Int)) (hj : j < N) (hN : N < 2147483648) (z : Int) (hz : f j = lI z) (pc' : Nat) (hp : pc + 1 = pc') (h : TGo X ws n k pc' lv (.long (lI z) :: st)) : TGo X ws n k pc lv (.int (iI x) :: .ref a :: st) := by
  subst hp; subst hx
  intro H locs ls hP hD hS hl
  exact va_lald O.1 O.2.1 hK hP q0 t0 hq ht (iI_in hj hN) hd (TWx_vl (by rw [iI_cl (by omega), hz]) (h H locs ls hP hD hS hl))
theorem go_aald (O : TOk X cc own rm nL cl E) (hK : TKn X tys) (hd : decode cc pc = .ok (.aaload, 1)) (q0 t0 : Nat) {a : Nat} {cA : ClassId} {N : Nat} {C : String} {f : Nat → Option Nat} (hq : ws[q0]? = some (a, .inl (cA, N, .inr (.inr (.inr (.inr f)))))) (ht : tys[t0]? = some (cA, .object C)) {x : Int} (j : Nat) (hx : x = (j : Int)) (hj : j < N) (hN : N < 2147483648) (b : Nat) (hz : f j = some b) (pc' : Nat) (hp : pc + 1 = pc') (h : TGo X ws n k pc' lv (.ref b :: st)) : TGo X ws n k pc lv (.int (iI x) :: .ref a :: st) := by
  subst hp; subst hx
  intro H locs ls hP hD hS hl
  refine va_aldq O.1 O.2.1 hK hP q0 t0 hq ht (iI_in hj hN) hd ?_
  have e : va_rf (f (iI (j : Int)).toNatClampNeg) = .ref b := by rw [iI_cl (by omega), hz]; rfl
  rw [e]
  exact h H locs ls hP hD hS hl
theorem go_iast (O : TOk X cc own rm nL cl E) (hK : TKn X tys) (hd : decode cc pc = .ok (.iastore, 1)) (q0 t0 : Nat) {a : Nat} {cA : ClassId} {N : Nat} {f : Nat → Int32} (hq : ws[q0]? = some (a, .inl (cA, N, .inl f))) (ht : tys[t0]? = some (cA, .int)) {x : Int} (j : Nat) (hx : x = (j : Int)) (hj : j < N) (hN : N < 2147483648) {z : Int} (g : Nat → Int32) (hg : ∀ i, i < N → upd f j (iI z) i = g i) (ws' : va_W) (hw : ws.set q0 (a, .inl (cA, N, .inl g)) = ws') (pc' : Nat) (hp : pc + 1 = pc') (h : TGo X ws' n k pc' lv st) : TGo X ws n k pc lv (.int (iI z) :: .int (iI x) :: .ref a :: st) := by
  subst hp; subst hx; subst hw
  intro H locs ls hP hD hS hl
  have hlt := (List.getElem?_eq_some_iff.mp hq).1
  refine va_iast O.1 O.2.1 hK hP hD hS q0 t0 hq ht (iI_in hj hN) hd (fun H1 locs1 hP1 hD1 hS1 => ?_)
  rw [iI_cl (by omega)] at hP1 hD1
  refine h H1 locs1 ls (va_P_ext hlt hP1 (fun e => ?_)) (va_D.set hD hq) hS1 hl
  have e : H1[a]? = some (vp_cell cA (N, .inl (upd f j (iI z)))) := e
  show H1[a]? = some (vp_cell cA (N, .inl g))
  rw [e, vp_cell_ext cA N hg]
theorem go_zast (O : TOk X cc own rm nL cl E) (hK : TKn X tys) (hd : decode cc pc = .ok (.bastore, 1)) (q0 t0 : Nat) {a : Nat} {cA : ClassId} {N : Nat} {f : Nat → Int32} (hq : ws[q0]? = some (a, .inl (cA, N, .inl f))) (ht : tys[t0]? = some (cA, .boolean)) {x : Int} (j : Nat) (hx : x = (j : Int)) (hj : j < N) (hN : N < 2147483648) {z : Int} (hz : vp_nar .boolean (iI z) = iI z) (g : Nat → Int32) (hg : ∀ i, i < N → upd f j (iI z) i = g i) (ws' : va_W) (hw : ws.set q0 (a, .inl (cA, N, .inl g)) = ws') (pc' : Nat) (hp : pc + 1 = pc') (h : TGo X ws' n k pc' lv st) : TGo X ws n k pc lv (.int (iI z) :: .int (iI x) :: .ref a :: st) := by
  subst hp; subst hx; subst hw
  intro H locs ls hP hD hS hl
  have hlt := (List.getElem?_eq_some_iff.mp hq).1
  refine va_zast O.1 O.2.1 hK hP hD hS q0 t0 hq ht (iI_in hj hN) hd (fun H1 locs1 hP1 hD1 hS1 => ?_)
  rw [iI_cl (by omega), hz] at hP1 hD1
  refine h H1 locs1 ls (va_P_ext hlt hP1 (fun e => ?_)) (va_D.set hD hq) hS1 hl
  have e : H1[a]? = some (vp_cell cA (N, .inl (upd f j (iI z)))) := e
  show H1[a]? = some (vp_cell cA (N, .inl g))
  rw [e, vp_cell_ext cA N hg]
theorem go_last (O : TOk X cc own rm nL cl E) (hK : TKn X tys) (hd : decode cc pc = .ok (.lastore, 1)) (q0 t0 : Nat) {a : Nat} {cA : ClassId} {N : Nat} {f : Nat → Int64} (hq : ws[q0]? = some (a, .inl (cA, N, .inr (.inl f)))) (ht : tys[t0]? = some (cA, .long)) {x : Int} (j : Nat) (hx : x = (j : Int)) (hj : j < N) (hN : N < 2147483648) {z : Int} (g : Nat → Int64) (hg : ∀ i, i < N → vp_updL f j (lI z) i = g i) (ws' : va_W) (hw : ws.set q0 (a, .inl (cA, N, .inr (.inl g))) = ws') (pc' : Nat) (hp : pc + 1 = pc') (h : TGo X ws' n k pc' lv st) : TGo X ws n k pc lv (.long (lI z) :: .int (iI x) :: .ref a :: st) := by
  subst hp; subst hx; subst hw
  intro H locs ls hP hD hS hl
  have hlt := (List.getElem?_eq_some_iff.mp hq).1
  refine va_last O.1 O.2.1 hK hP hD hS q0 t0 hq ht (iI_in hj hN) hd (fun H1 locs1 hP1 hD1 hS1 => ?_)
  rw [iI_cl (by omega)] at hP1 hD1
  refine h H1 locs1 ls (va_P_ext hlt hP1 (fun e => ?_)) (va_D.set hD hq) hS1 hl
  have e : H1[a]? = some (vp_cell cA (N, .inr (.inl (vp_updL f j (lI z))))) := e
  show H1[a]? = some (vp_cell cA (N, .inr (.inl g)))
  rw [e, vp_cell_extL cA N hg]
theorem go_alen (O : TOk X cc own rm nL cl E) (hK : TKn X tys) (hd : decode cc pc = .ok (.arraylength, 1)) (q0 t0 : Nat) {a : Nat} {cA : ClassId} {x : vp_A} {ty : FieldType} (hq : ws[q0]? = some (a, .inl (cA, x))) (ht : tys[t0]? = some (cA, ty)) (z : Int) (hz : Int32.ofNat x.1 = iI z) (pc' : Nat) (hp : pc + 1 = pc') (h : TGo X ws n k pc' lv (.int (iI z) :: st)) : TGo X ws n k pc lv (.ref a :: st) := by
  subst hp
  intro H locs ls hP hD hS hl
  exact va_alen O.1 O.2.1 hK hP q0 t0 hq ht hz hd (h H locs ls hP hD hS hl)
end GO
theorem gw_all {c1 : Cond} (h : c1 ∈ Gw) : GoodIn Gw (c1 :: Gw) := fun w hw => (List.mem_cons.mp hw).elim (fun e => e ▸ ⟨h, gw_good h⟩) (fun h2 => ⟨h2, gw_good h2⟩)
theorem gw_S {own : String} {idx : Nat} {y : MethodName} {c1 : Cond} (h1 : Cond.methodLink own idx y ∈ Gw) (h2 : Cond.static y ∈ Gw) (h3 : Cond.initialized y.cls ∈ Gw) (h4 : c1 ∈ Gw) : GoodIn Gw (va_wsS own idx y (c1 :: Gw)) := by
  intro w hw
  unfold va_wsS at hw
  rcases List.mem_append.mp hw with h | h
  · simp only [List.mem_cons, List.not_mem_nil, or_false] at h
    rcases h with rfl | rfl | rfl
    · exact ⟨h1, gw_good h1⟩
    · exact ⟨h2, gw_good h2⟩
    · exact ⟨h3, gw_good h3⟩
  · exact gw_all h4 w h
theorem gw_V {own C : String} {idx : Nat} {y : MethodName} {c1 : Cond} (h1 : Cond.methodLink own idx y ∈ Gw) (h2 : Cond.instanceMethod y ∈ Gw) (h3 : Cond.selects C y y ∈ Gw) (h5 : Cond.initialized C ∈ Gw) (h4 : c1 ∈ Gw) : GoodIn Gw (wsV own idx C y (c1 :: Gw)) := by
  intro w hw
  unfold wsV at hw
  rcases List.mem_append.mp hw with h | h
  · simp only [List.mem_cons, List.not_mem_nil, or_false] at h
    rcases h with rfl | rfl | rfl | rfl
    · exact ⟨h1, gw_good h1⟩
    · exact ⟨h2, gw_good h2⟩
    · exact ⟨h3, gw_good h3⟩
    · exact ⟨h5, gw_good h5⟩
  · exact gw_all h4 w h
/-! Contracts over Go: what a method asks and gives, its entry, its end, a call of it. -/
abbrev rmn (f lo : Nat) : Room := { frames := f, cells := 0, slots := 0, locals := lo }
def ct_Pc (E : TEn) (D : va_G) (cl : List vw_C) (av : List Value) (w0 : va_W) (tys : List (ClassId × FieldType)) (sz : Nat) : Array Value → State → Prop :=
  va_Pc av (fun U => U.heap.size = sz ∧ va_P D cl w0 U.heap ∧ va_K D cl tys U ∧ va_D (fun _ => True) w0 ∧ E (va_A w0 sz) U)
def ct_B {S : Type} (D : va_G) (cl : List vw_C) (A : Nat → Prop) (tys : List (ClassId × FieldType)) (w1 : S → va_W) : S → State → Prop :=
  fun u t => va_P D cl (w1 u) t.heap ∧ va_K D cl tys t ∧ va_D A (w1 u)
def EnvOk (E : TEn) : Prop := (∀ (A : Nat → Prop) (U : State) (g : JFrame) (mk : MethodId) (a : Array Value), E A U → E A (U.calling g mk a)) ∧ ∀ (A A' : Nat → Prop) (s U : State) (locs : List Loc), va_S A s.heap U.heap locs → s.WarmedH U.vm → (∀ q, A' q → A q) → E A s → E A' U
theorem ct_blind {E : TEn} (hE : EnvOk E) (D : va_G) (cl : List vw_C) (av : List Value) (w0 : va_W) (tys : List (ClassId × FieldType)) (sz : Nat) : FrameBlind (ct_Pc E D cl av w0 tys sz) := by
  intro a U g mk q
  obtain ⟨q0, q1, qP, qK, qD, qE⟩ := q
  exact ⟨q0, q1, qP, va_K.moved (u := U) (U := U.calling g mk a) (Vm.Alike.refl U.vm) qK, qD, hE.1 _ U g mk a qE⟩

def Cti {S : Type} (cl : List vw_C) (E : TEn) (y : MethodName) (wsy : List Cond) (rm : Room) (av : List Value) (w0 : va_W) (tys : List (ClassId × FieldType)) (post : Int → S → Prop) (w1 : S → va_W) : Prop :=
  ∀ (l : Launch) (D : va_G) (sz : Nat), Met l y wsy rm (ct_Pc E D cl av w0 tys sz) (va_Qi (fun r u => ∃ z, r = iI z ∧ post z u) (ct_B D cl (va_A w0 sz) tys w1) (va_A w0 sz)) 0 0 (va_A w0 sz)
def Ctl {S : Type} (cl : List vw_C) (E : TEn) (y : MethodName) (wsy : List Cond) (rm : Room) (av : List Value) (w0 : va_W) (tys : List (ClassId × FieldType)) (post : Int → S → Prop) (w1 : S → va_W) : Prop :=
  ∀ (l : Launch) (D : va_G) (sz : Nat), Met l y wsy rm (ct_Pc E D cl av w0 tys sz) (va_Ql (fun r u => ∃ z, r = lI z ∧ post z u) (ct_B D cl (va_A w0 sz) tys w1) (va_A w0 sz)) 0 0 (va_A w0 sz)
def Ctv {S : Type} (cl : List vw_C) (E : TEn) (y : MethodName) (wsy : List Cond) (rm : Room) (av : List Value) (w0 : va_W) (tys : List (ClassId × FieldType)) (post : S → Prop) (w1 : S → va_W) : Prop :=
  ∀ (l : Launch) (D : va_G) (sz : Nat), Met l y wsy rm (ct_Pc E D cl av w0 tys sz) (va_Qv post (ct_B D cl (va_A w0 sz) tys w1) (va_A w0 sz)) 0 0 (va_A w0 sz)
theorem enteri {S : Type} {cl : List vw_C} {E : TEn} {y : MethodName} {rm : Room} {av : List Value} {w0 : va_W} {tys : List (ClassId × FieldType)} {post : Int → S → Prop} {w1 : S → va_W} {cc : ByteArray} {maxL : Nat} {ty : FieldType} (hy : plainName y.cls = true) (hsl : (lg_sl av).length ≤ maxL)
    (body : ∀ X : TCx, TOk X cc y.cls rm maxL cl E → TKn X tys → ((cx_M X).name = y.name) → (∀ (pc : Nat) (lv : List (Nat × Value)) (z : Int) (u : S), decode cc pc = .ok (.ireturn, 1) → narrow ty (.int (iI z)) = .int (iI z) → post z u → TGo X (w1 u) 0 0 pc lv [.int (iI z)]) → TGo X w0 0 0 0 (lv_args 0 av) []) : Cti cl E y (Cond.code y cc maxL (some ty) :: Gw) rm av w0 tys post w1 := by
  intro l D sz
  refine Met.ofW (cc := cc) (maxL := maxL) (ret := (some ty)) hy rfl ?_
  intro p e s m args below meth c s₁ B hml hv
  obtain ⟨rfl, hsz, hP, hK, hD0, hE⟩ := hv
  have hts0 := atoms_spec (ws := Cond.code y cc maxL (some ty) :: Gw) B.pre
  have hts : ∀ w ∈ Gw, w.before av.toArray s = true := fun w h => hts0 w (List.mem_cons_of_mem _ h)
  have hown : s.vm.findClass y.cls = some m.cls := findClass_of_methodNamed B.named
  subst hsz
  have hD := hD0.self (sz := s.heap.size)
  rw [lg_entry_eq]
  refine body (p, l, e, (headSpec (Cond.code y cc maxL (some ty) :: Gw) rm).room, s, m, av.toArray, below, meth, c, MQ below (va_Qi (fun r u => ∃ z, r = iI z ∧ post z u) (ct_B D cl (va_A w0 s.heap.size) tys w1) (va_A w0 s.heap.size)) av.toArray s 0 0 (va_A w0 s.heap.size), va_A w0 s.heap.size, D, cl, maxL) ⟨B.exec, B.bytes, hml, rfl, hown, hts, fun q h => Or.inr h, rfl, rfl, hE⟩ hK (name_of_methodNamed B.named B.method).1 ?_ s.heap [] _ hP hD va_S.rf (lv_entry av hsl)
  · intro pc lv z u hd hnar hpost H locs ls hP hD hS hl
    exact W.zret B.exec B.bytes B.returns hnar (fun t ht hW => ⟨⟨iI z, u, rfl, ⟨z, rfl, hpost⟩, by rw [ht]; exact hP, va_K.moved hW.alike hK, hD⟩, hS.F ht⟩) hS.2.2 hd B.notSynchronized
theorem enterl {S : Type} {cl : List vw_C} {E : TEn} {y : MethodName} {rm : Room} {av : List Value} {w0 : va_W} {tys : List (ClassId × FieldType)} {post : Int → S → Prop} {w1 : S → va_W} {cc : ByteArray} {maxL : Nat} (hy : plainName y.cls = true) (hsl : (lg_sl av).length ≤ maxL)
    (body : ∀ X : TCx, TOk X cc y.cls rm maxL cl E → TKn X tys → ((cx_M X).name = y.name) → (∀ (pc : Nat) (lv : List (Nat × Value)) (z : Int) (u : S), decode cc pc = .ok (.lreturn, 1) → post z u → TGo X (w1 u) 0 0 pc lv [.long (lI z)]) → TGo X w0 0 0 0 (lv_args 0 av) []) : Ctl cl E y (Cond.code y cc maxL (some .long) :: Gw) rm av w0 tys post w1 := by
  intro l D sz
  refine Met.ofW (cc := cc) (maxL := maxL) (ret := (some .long)) hy rfl ?_
  intro p e s m args below meth c s₁ B hml hv
  obtain ⟨rfl, hsz, hP, hK, hD0, hE⟩ := hv
  have hts0 := atoms_spec (ws := Cond.code y cc maxL (some .long) :: Gw) B.pre
  have hts : ∀ w ∈ Gw, w.before av.toArray s = true := fun w h => hts0 w (List.mem_cons_of_mem _ h)
  have hown : s.vm.findClass y.cls = some m.cls := findClass_of_methodNamed B.named
  subst hsz
  have hD := hD0.self (sz := s.heap.size)
  rw [lg_entry_eq]
  refine body (p, l, e, (headSpec (Cond.code y cc maxL (some .long) :: Gw) rm).room, s, m, av.toArray, below, meth, c, MQ below (va_Ql (fun r u => ∃ z, r = lI z ∧ post z u) (ct_B D cl (va_A w0 s.heap.size) tys w1) (va_A w0 s.heap.size)) av.toArray s 0 0 (va_A w0 s.heap.size), va_A w0 s.heap.size, D, cl, maxL) ⟨B.exec, B.bytes, hml, rfl, hown, hts, fun q h => Or.inr h, rfl, rfl, hE⟩ hK (name_of_methodNamed B.named B.method).1 ?_ s.heap [] _ hP hD va_S.rf (lv_entry av hsl)
  · intro pc lv z u hd hpost H locs ls hP hD hS hl
    exact W.lret B.exec B.bytes B.returns (fun t ht hW => ⟨⟨lI z, u, rfl, ⟨z, rfl, hpost⟩, by rw [ht]; exact hP, va_K.moved hW.alike hK, hD⟩, hS.F ht⟩) hS.2.2 hd B.notSynchronized
theorem enterv {S : Type} {cl : List vw_C} {E : TEn} {y : MethodName} {rm : Room} {av : List Value} {w0 : va_W} {tys : List (ClassId × FieldType)} {post : S → Prop} {w1 : S → va_W} {cc : ByteArray} {maxL : Nat} (hy : plainName y.cls = true) (hsl : (lg_sl av).length ≤ maxL)
    (body : ∀ X : TCx, TOk X cc y.cls rm maxL cl E → TKn X tys → ((cx_M X).name = y.name) → (∀ (pc : Nat) (lv : List (Nat × Value)) (u : S), decode cc pc = .ok (.return_, 1) → post u → TGo X (w1 u) 0 0 pc lv []) → TGo X w0 0 0 0 (lv_args 0 av) []) : Ctv cl E y (Cond.code y cc maxL none :: Gw) rm av w0 tys post w1 := by
  intro l D sz
  refine Met.ofW (cc := cc) (maxL := maxL) (ret := none) hy rfl ?_
  intro p e s m args below meth c s₁ B hml hv
  obtain ⟨rfl, hsz, hP, hK, hD0, hE⟩ := hv
  have hts0 := atoms_spec (ws := Cond.code y cc maxL none :: Gw) B.pre
  have hts : ∀ w ∈ Gw, w.before av.toArray s = true := fun w h => hts0 w (List.mem_cons_of_mem _ h)
  have hown : s.vm.findClass y.cls = some m.cls := findClass_of_methodNamed B.named
  subst hsz
  have hD := hD0.self (sz := s.heap.size)
  rw [lg_entry_eq]
  refine body (p, l, e, (headSpec (Cond.code y cc maxL none :: Gw) rm).room, s, m, av.toArray, below, meth, c, MQ below (va_Qv post (ct_B D cl (va_A w0 s.heap.size) tys w1) (va_A w0 s.heap.size)) av.toArray s 0 0 (va_A w0 s.heap.size), va_A w0 s.heap.size, D, cl, maxL) ⟨B.exec, B.bytes, hml, rfl, hown, hts, fun q h => Or.inr h, rfl, rfl, hE⟩ hK (name_of_methodNamed B.named B.method).1 ?_ s.heap [] _ hP hD va_S.rf (lv_entry av hsl)
  · intro pc lv u hd hpost H locs ls hP hD hS hl
    exact W.vret B.exec B.bytes B.returns (fun t ht hW => ⟨⟨u, rfl, hpost, by rw [ht]; exact hP, va_K.moved hW.alike hK, hD⟩, hS.F ht⟩) hS.2.2 hd B.notSynchronized
theorem go_calliS {X : TCx} {cc : ByteArray} {own : String} {rm : Room} {nL : Nat} {ws : va_W} {n k pc : Nat} {lv : List (Nat × Value)} {st : List Value} {tys : List (ClassId × FieldType)} {cl : List vw_C} {E : TEn} {S : Type} {y : MethodName} {fr lo : Nat} {w0 wr : va_W} {tys0 : List (ClassId × FieldType)} {bytes : ByteArray} {maxL index : Nat} {ret : Option FieldType} {rest : List Value} {av : List Value} {post : Int → S → Prop} {w1 : S → va_W} (O : TOk X cc own rm nL cl E) (hK : TKn X tys) (hE : EnvOk E) (hM : Cti cl E y (Cond.code y bytes maxL ret :: Gw) (rmn fr lo) av w0 tys0 post w1) (hml : Cond.methodLink own index y ∈ Gw) (hst0 : Cond.static y ∈ Gw) (hin0 : Cond.initialized y.cls ∈ Gw) (hcd : Cond.code y bytes maxL ret ∈ Gw) (na : Nat) (hdd : y.cls ≠ "java/lang/invoke/MethodHandle" ∧ y.cls ≠ "java/lang/invoke/VarHandle" ∧ (parseMethodDescriptor y.desc).map (fun d => d.parameters.length) = some na) (hR : fr + 1 ≤ rm.frames ∧ 8 + (maxL + 11) + lo ≤ rm.locals)
    (isK : List Nat) (hKs : isK.filterMap (fun i => tys[i]?) = tys0) (isC : List Nat) (hC : isC.map (fun i => ws[i]?) = w0.map some) (hn1 : va_nd isC = true) (isR : List Nat) (hRr : isR.map (fun i => ws[i]?) = wr.map some) (hn2 : va_nd isR = true) (hdis : ∀ i ∈ isR, i ∉ isC) (hst : st = (av.reverse ++ rest)) (hn : av.length = na) (hcat : (rest.map fun v => v.category).sum ≤ 8) (hcells : n ≤ rm.cells ∧ k ≤ rm.slots) (hd : decode cc pc = .ok (.invokestatic index, 3)) (pc' : Nat) (hp : pc + 3 = pc') (h : ∀ (z : Int) (u : S), post z u → TGo X (wr ++ w1 u) n k pc' lv (.int (iI z) :: rest)) : TGo X ws n k pc lv st := by
  subst hst
  subst hp
  intro H locs ls hP hD hS hl
  have hRm := O.2.2.2.2.2.2.2.1
  have hcl0 := O.2.2.2.2.2.2.2.2.1
  subst hcl0
  have hFc := va_free (wc := w0) hD hS O.2.2.2.2.2.2.1 isC hC
  have hR' : fr + 1 ≤ (cx_R X).frames ∧ 8 + (maxL + 11) + lo ≤ (cx_R X).locals := by rw [hRm]; exact hR
  have hcl : n + 0 ≤ (cx_R X).cells ∧ k + 0 ≤ (cx_R X).slots := by rw [hRm]; exact hcells
  have hsz : ls.size = nL := hl.1.trans O.2.2.2.1
  have hPc : va_P (cx_D X) (cx_C X) w0 H := by
    intro j q hj
    have h1 : (isC.map (fun i => ws[i]?))[j]? = some (some q) := by rw [hC, List.getElem?_map, hj]; rfl
    rw [List.getElem?_map] at h1
    cases hi : isC[j]? with
    | none => rw [hi] at h1; cases h1
    | some i => rw [hi] at h1; exact hP i q (Option.some.inj h1)
  have hDc := hD.sub isC hn1 hC
  have hKc : va_K (cx_D X) (cx_C X) tys0 (cx_s X) := va_K.sub hK isK hKs
  have hpre : ∀ U : State, U.heap = H → (cx_s X).WarmedH U.vm → ct_Pc E (cx_D X) (cx_C X) av w0 tys0 H.size av.toArray U := by
    intro U hU hW
    subst hU
    exact ⟨rfl, rfl, hPc, va_K.moved hW.alike hKc, hDc.weaken (fun _ _ _ _ => trivial), hE.2 _ _ (cx_s X) U locs hS hW hFc O.2.2.2.2.2.2.2.2.2⟩
  refine va_calli (va_runS ⟨O.1, O.2.1, O.2.2.1, O.2.2.2.2.1, O.2.2.2.2.2.1⟩ (hM (cx_l X) (cx_D X) H.size) (va_cwS na O.2.2.2.2.2.1 (gw_S hml hst0 hin0 hcd) rfl rfl rfl hdd hR') ⟨ct_blind hE _ _ _ _ _ _, hpre⟩ rfl hn hsz rfl (lv_room hcat) hd hcl) hS (fun q _ h => hFc q h) hFc (fun r u t H1 locs1 ht hvm hw hB hz1 hk1 hS1 => ?_)
  obtain ⟨z, rfl, hpost⟩ := hw
  obtain ⟨hP1, hK1, hD1⟩ := hB
  rw [ht] at hP1
  obtain ⟨hP2, hD2⟩ := va_join (wr := wr) (w1 := w1 u) hP hD isC isR hC hRr hn2 hdis hk1 hFc hP1 hD1
  exact h z u hpost H1 locs1 ls hP2 hD2 hS1 hl
theorem go_calliV {X : TCx} {cc : ByteArray} {own : String} {rm : Room} {nL : Nat} {ws : va_W} {n k pc : Nat} {lv : List (Nat × Value)} {st : List Value} {tys : List (ClassId × FieldType)} {cl : List vw_C} {E : TEn} {S : Type} {y : MethodName} {fr lo : Nat} {w0 wr : va_W} {tys0 : List (ClassId × FieldType)} {bytes : ByteArray} {maxL index : Nat} {ret : Option FieldType} {rest : List Value} {As : List Value} {b ci : Nat} {rc : vw_C} {fs : List Value} {post : Int → S → Prop} {w1 : S → va_W} (O : TOk X cc own rm nL cl E) (hK : TKn X tys) (hE : EnvOk E) (hM : Cti cl E y (Cond.code y bytes maxL ret :: Gw) (rmn fr lo) (.ref b :: As) w0 tys0 post w1) (hml : Cond.methodLink own index y ∈ Gw) (him : Cond.instanceMethod y ∈ Gw) (hse : Cond.selects rc.1 y y ∈ Gw) (hin0 : Cond.initialized rc.1 ∈ Gw) (hcd : Cond.code y bytes maxL ret ∈ Gw) (na : Nat) (hdd : y.cls = rc.1 ∧ y.cls ≠ "java/lang/invoke/MethodHandle" ∧ y.cls ≠ "java/lang/invoke/VarHandle" ∧ (parseMethodDescriptor y.desc).map (fun d => d.parameters.length) = some na) (hR : fr + 1 ≤ rm.frames ∧ 8 + (maxL + 11) + lo ≤ rm.locals) (qb : Nat) (hqb : ws[qb]? = some (b, .inr (ci, fs))) (hci : cl[ci]? = some rc)
    (isK : List Nat) (hKs : isK.filterMap (fun i => tys[i]?) = tys0) (isC : List Nat) (hC : isC.map (fun i => ws[i]?) = w0.map some) (hn1 : va_nd isC = true) (isR : List Nat) (hRr : isR.map (fun i => ws[i]?) = wr.map some) (hn2 : va_nd isR = true) (hdis : ∀ i ∈ isR, i ∉ isC) (hst : st = (As.reverse ++ .ref b :: rest)) (hn : As.length = na) (hcat : (rest.map fun v => v.category).sum ≤ 8) (hcells : n ≤ rm.cells ∧ k ≤ rm.slots) (hd : decode cc pc = .ok (.invokevirtual index, 3)) (pc' : Nat) (hp : pc + 3 = pc') (h : ∀ (z : Int) (u : S), post z u → TGo X (wr ++ w1 u) n k pc' lv (.int (iI z) :: rest)) : TGo X ws n k pc lv st := by
  subst hst
  subst hp
  intro H locs ls hP hD hS hl
  have hRm := O.2.2.2.2.2.2.2.1
  have hcl0 := O.2.2.2.2.2.2.2.2.1
  subst hcl0
  have hFc := va_free (wc := w0) hD hS O.2.2.2.2.2.2.1 isC hC
  have hR' : fr + 1 ≤ (cx_R X).frames ∧ 8 + (maxL + 11) + lo ≤ (cx_R X).locals := by rw [hRm]; exact hR
  have hcl : n + 0 ≤ (cx_R X).cells ∧ k + 0 ≤ (cx_R X).slots := by rw [hRm]; exact hcells
  have hsz : ls.size = nL := hl.1.trans O.2.2.2.1
  have hPc : va_P (cx_D X) (cx_C X) w0 H := by
    intro j q hj
    have h1 : (isC.map (fun i => ws[i]?))[j]? = some (some q) := by rw [hC, List.getElem?_map, hj]; rfl
    rw [List.getElem?_map] at h1
    cases hi : isC[j]? with
    | none => rw [hi] at h1; cases h1
    | some i => rw [hi] at h1; exact hP i q (Option.some.inj h1)
  have hDc := hD.sub isC hn1 hC
  have hKc : va_K (cx_D X) (cx_C X) tys0 (cx_s X) := va_K.sub hK isK hKs
  have hpre : ∀ U : State, U.heap = H → (cx_s X).WarmedH U.vm → ct_Pc E (cx_D X) (cx_C X) (.ref b :: As) w0 tys0 H.size (.ref b :: As).toArray U := by
    intro U hU hW
    subst hU
    exact ⟨rfl, rfl, hPc, va_K.moved hW.alike hKc, hDc.weaken (fun _ _ _ _ => trivial), hE.2 _ _ (cx_s X) U locs hS hW hFc O.2.2.2.2.2.2.2.2.2⟩
  refine va_calli (va_runV ⟨O.1, O.2.1, O.2.2.1, O.2.2.2.2.1, O.2.2.2.2.2.1⟩ (hM (cx_l X) (cx_D X) H.size) (cwV na O.2.2.2.2.2.1 (gw_V hml him hse hin0 hcd) rfl rfl rfl hdd hR') ⟨ct_blind hE _ _ _ _ _ _, va_recv hK hP hci hqb, hpre⟩ rfl hn hsz rfl (lv_room hcat) hd hcl) hS (fun q _ h => hFc q h) hFc (fun r u t H1 locs1 ht hvm hw hB hz1 hk1 hS1 => ?_)
  obtain ⟨z, rfl, hpost⟩ := hw
  obtain ⟨hP1, hK1, hD1⟩ := hB
  rw [ht] at hP1
  obtain ⟨hP2, hD2⟩ := va_join (wr := wr) (w1 := w1 u) hP hD isC isR hC hRr hn2 hdis hk1 hFc hP1 hD1
  exact h z u hpost H1 locs1 ls hP2 hD2 hS1 hl
theorem go_calliSN {X : TCx} {cc : ByteArray} {own : String} {rm : Room} {nL : Nat} {ws : va_W} {n k pc : Nat} {lv : List (Nat × Value)} {st : List Value} {tys : List (ClassId × FieldType)} {cl : List vw_C} {E : TEn} {S : Type} {y : MethodName} {fr lo : Nat} {w0 wr : va_W} {tys0 : List (ClassId × FieldType)} {bytes : ByteArray} {maxL index : Nat} {ret : Option FieldType} {rest : List Value} {av : List Value} {host : String} {post : Int → S → Prop} {w1 : S → va_W} (O : TOk X cc own rm nL cl E) (hK : TKn X tys) (hE : EnvOk E) (hM : Cti cl E y (Cond.code y bytes maxL ret :: Gw) (rmn fr lo) av w0 tys0 post w1) (hli : va_Nw (.methodLinkNest own index y host) (cx_s X)) (hst0 : Cond.static y ∈ Gw) (hin0 : Cond.initialized y.cls ∈ Gw) (hcd : Cond.code y bytes maxL ret ∈ Gw) (na : Nat) (hdd : y.cls ≠ "java/lang/invoke/MethodHandle" ∧ y.cls ≠ "java/lang/invoke/VarHandle" ∧ (parseMethodDescriptor y.desc).map (fun d => d.parameters.length) = some na) (hR : fr + 1 ≤ rm.frames ∧ 8 + (maxL + 11) + lo ≤ rm.locals)
    (isK : List Nat) (hKs : isK.filterMap (fun i => tys[i]?) = tys0) (isC : List Nat) (hC : isC.map (fun i => ws[i]?) = w0.map some) (hn1 : va_nd isC = true) (isR : List Nat) (hRr : isR.map (fun i => ws[i]?) = wr.map some) (hn2 : va_nd isR = true) (hdis : ∀ i ∈ isR, i ∉ isC) (hst : st = (av.reverse ++ rest)) (hn : av.length = na) (hcat : (rest.map fun v => v.category).sum ≤ 8) (hcells : n ≤ rm.cells ∧ k ≤ rm.slots) (hd : decode cc pc = .ok (.invokestatic index, 3)) (pc' : Nat) (hp : pc + 3 = pc') (h : ∀ (z : Int) (u : S), post z u → TGo X (wr ++ w1 u) n k pc' lv (.int (iI z) :: rest)) : TGo X ws n k pc lv st := by
  subst hst
  subst hp
  intro H locs ls hP hD hS hl
  have hRm := O.2.2.2.2.2.2.2.1
  have hcl0 := O.2.2.2.2.2.2.2.2.1
  subst hcl0
  have hFc := va_free (wc := w0) hD hS O.2.2.2.2.2.2.1 isC hC
  have hR' : fr + 1 ≤ (cx_R X).frames ∧ 8 + (maxL + 11) + lo ≤ (cx_R X).locals := by rw [hRm]; exact hR
  have hcl : n + 0 ≤ (cx_R X).cells ∧ k + 0 ≤ (cx_R X).slots := by rw [hRm]; exact hcells
  have hsz : ls.size = nL := hl.1.trans O.2.2.2.1
  have hPc : va_P (cx_D X) (cx_C X) w0 H := by
    intro j q hj
    have h1 : (isC.map (fun i => ws[i]?))[j]? = some (some q) := by rw [hC, List.getElem?_map, hj]; rfl
    rw [List.getElem?_map] at h1
    cases hi : isC[j]? with
    | none => rw [hi] at h1; cases h1
    | some i => rw [hi] at h1; exact hP i q (Option.some.inj h1)
  have hDc := hD.sub isC hn1 hC
  have hKc : va_K (cx_D X) (cx_C X) tys0 (cx_s X) := va_K.sub hK isK hKs
  have hpre : ∀ U : State, U.heap = H → (cx_s X).WarmedH U.vm → ct_Pc E (cx_D X) (cx_C X) av w0 tys0 H.size av.toArray U := by
    intro U hU hW
    subst hU
    exact ⟨rfl, rfl, hPc, va_K.moved hW.alike hKc, hDc.weaken (fun _ _ _ _ => trivial), hE.2 _ _ (cx_s X) U locs hS hW hFc O.2.2.2.2.2.2.2.2.2⟩
  refine va_calli (va_runSN ⟨O.1, O.2.1, O.2.2.1, O.2.2.2.2.1, O.2.2.2.2.2.1⟩ (hM (cx_l X) (cx_D X) H.size) ⟨va_cnB na O.2.2.2.2.2.1 (gw_all hcd) rfl rfl rfl hli (O.2.2.2.2.2.1 _ hin0) hdd hR', O.2.2.2.2.2.1 _ hst0, trivial⟩ ⟨ct_blind hE _ _ _ _ _ _, hpre⟩ rfl hn hsz rfl (lv_room hcat) hd hcl) hS (fun q _ h => hFc q h) hFc (fun r u t H1 locs1 ht hvm hw hB hz1 hk1 hS1 => ?_)
  obtain ⟨z, rfl, hpost⟩ := hw
  obtain ⟨hP1, hK1, hD1⟩ := hB
  rw [ht] at hP1
  obtain ⟨hP2, hD2⟩ := va_join (wr := wr) (w1 := w1 u) hP hD isC isR hC hRr hn2 hdis hk1 hFc hP1 hD1
  exact h z u hpost H1 locs1 ls hP2 hD2 hS1 hl
theorem go_calllS {X : TCx} {cc : ByteArray} {own : String} {rm : Room} {nL : Nat} {ws : va_W} {n k pc : Nat} {lv : List (Nat × Value)} {st : List Value} {tys : List (ClassId × FieldType)} {cl : List vw_C} {E : TEn} {S : Type} {y : MethodName} {fr lo : Nat} {w0 wr : va_W} {tys0 : List (ClassId × FieldType)} {bytes : ByteArray} {maxL index : Nat} {ret : Option FieldType} {rest : List Value} {av : List Value} {post : Int → S → Prop} {w1 : S → va_W} (O : TOk X cc own rm nL cl E) (hK : TKn X tys) (hE : EnvOk E) (hM : Ctl cl E y (Cond.code y bytes maxL ret :: Gw) (rmn fr lo) av w0 tys0 post w1) (hml : Cond.methodLink own index y ∈ Gw) (hst0 : Cond.static y ∈ Gw) (hin0 : Cond.initialized y.cls ∈ Gw) (hcd : Cond.code y bytes maxL ret ∈ Gw) (na : Nat) (hdd : y.cls ≠ "java/lang/invoke/MethodHandle" ∧ y.cls ≠ "java/lang/invoke/VarHandle" ∧ (parseMethodDescriptor y.desc).map (fun d => d.parameters.length) = some na) (hR : fr + 1 ≤ rm.frames ∧ 8 + (maxL + 11) + lo ≤ rm.locals)
    (isK : List Nat) (hKs : isK.filterMap (fun i => tys[i]?) = tys0) (isC : List Nat) (hC : isC.map (fun i => ws[i]?) = w0.map some) (hn1 : va_nd isC = true) (isR : List Nat) (hRr : isR.map (fun i => ws[i]?) = wr.map some) (hn2 : va_nd isR = true) (hdis : ∀ i ∈ isR, i ∉ isC) (hst : st = (av.reverse ++ rest)) (hn : av.length = na) (hcat : (rest.map fun v => v.category).sum ≤ 8) (hcells : n ≤ rm.cells ∧ k ≤ rm.slots) (hd : decode cc pc = .ok (.invokestatic index, 3)) (pc' : Nat) (hp : pc + 3 = pc') (h : ∀ (z : Int) (u : S), post z u → TGo X (wr ++ w1 u) n k pc' lv (.long (lI z) :: rest)) : TGo X ws n k pc lv st := by
  subst hst
  subst hp
  intro H locs ls hP hD hS hl
  have hRm := O.2.2.2.2.2.2.2.1
  have hcl0 := O.2.2.2.2.2.2.2.2.1
  subst hcl0
  have hFc := va_free (wc := w0) hD hS O.2.2.2.2.2.2.1 isC hC
  have hR' : fr + 1 ≤ (cx_R X).frames ∧ 8 + (maxL + 11) + lo ≤ (cx_R X).locals := by rw [hRm]; exact hR
  have hcl : n + 0 ≤ (cx_R X).cells ∧ k + 0 ≤ (cx_R X).slots := by rw [hRm]; exact hcells
  have hsz : ls.size = nL := hl.1.trans O.2.2.2.1
  have hPc : va_P (cx_D X) (cx_C X) w0 H := by
    intro j q hj
    have h1 : (isC.map (fun i => ws[i]?))[j]? = some (some q) := by rw [hC, List.getElem?_map, hj]; rfl
    rw [List.getElem?_map] at h1
    cases hi : isC[j]? with
    | none => rw [hi] at h1; cases h1
    | some i => rw [hi] at h1; exact hP i q (Option.some.inj h1)
  have hDc := hD.sub isC hn1 hC
  have hKc : va_K (cx_D X) (cx_C X) tys0 (cx_s X) := va_K.sub hK isK hKs
  have hpre : ∀ U : State, U.heap = H → (cx_s X).WarmedH U.vm → ct_Pc E (cx_D X) (cx_C X) av w0 tys0 H.size av.toArray U := by
    intro U hU hW
    subst hU
    exact ⟨rfl, rfl, hPc, va_K.moved hW.alike hKc, hDc.weaken (fun _ _ _ _ => trivial), hE.2 _ _ (cx_s X) U locs hS hW hFc O.2.2.2.2.2.2.2.2.2⟩
  refine va_calll (va_runS ⟨O.1, O.2.1, O.2.2.1, O.2.2.2.2.1, O.2.2.2.2.2.1⟩ (hM (cx_l X) (cx_D X) H.size) (va_cwS na O.2.2.2.2.2.1 (gw_S hml hst0 hin0 hcd) rfl rfl rfl hdd hR') ⟨ct_blind hE _ _ _ _ _ _, hpre⟩ rfl hn hsz rfl (lv_room hcat) hd hcl) hS (fun q _ h => hFc q h) hFc (fun r u t H1 locs1 ht hvm hw hB hz1 hk1 hS1 => ?_)
  obtain ⟨z, rfl, hpost⟩ := hw
  obtain ⟨hP1, hK1, hD1⟩ := hB
  rw [ht] at hP1
  obtain ⟨hP2, hD2⟩ := va_join (wr := wr) (w1 := w1 u) hP hD isC isR hC hRr hn2 hdis hk1 hFc hP1 hD1
  exact h z u hpost H1 locs1 ls hP2 hD2 hS1 hl
theorem go_calllV {X : TCx} {cc : ByteArray} {own : String} {rm : Room} {nL : Nat} {ws : va_W} {n k pc : Nat} {lv : List (Nat × Value)} {st : List Value} {tys : List (ClassId × FieldType)} {cl : List vw_C} {E : TEn} {S : Type} {y : MethodName} {fr lo : Nat} {w0 wr : va_W} {tys0 : List (ClassId × FieldType)} {bytes : ByteArray} {maxL index : Nat} {ret : Option FieldType} {rest : List Value} {As : List Value} {b ci : Nat} {rc : vw_C} {fs : List Value} {post : Int → S → Prop} {w1 : S → va_W} (O : TOk X cc own rm nL cl E) (hK : TKn X tys) (hE : EnvOk E) (hM : Ctl cl E y (Cond.code y bytes maxL ret :: Gw) (rmn fr lo) (.ref b :: As) w0 tys0 post w1) (hml : Cond.methodLink own index y ∈ Gw) (him : Cond.instanceMethod y ∈ Gw) (hse : Cond.selects rc.1 y y ∈ Gw) (hin0 : Cond.initialized rc.1 ∈ Gw) (hcd : Cond.code y bytes maxL ret ∈ Gw) (na : Nat) (hdd : y.cls = rc.1 ∧ y.cls ≠ "java/lang/invoke/MethodHandle" ∧ y.cls ≠ "java/lang/invoke/VarHandle" ∧ (parseMethodDescriptor y.desc).map (fun d => d.parameters.length) = some na) (hR : fr + 1 ≤ rm.frames ∧ 8 + (maxL + 11) + lo ≤ rm.locals) (qb : Nat) (hqb : ws[qb]? = some (b, .inr (ci, fs))) (hci : cl[ci]? = some rc)
    (isK : List Nat) (hKs : isK.filterMap (fun i => tys[i]?) = tys0) (isC : List Nat) (hC : isC.map (fun i => ws[i]?) = w0.map some) (hn1 : va_nd isC = true) (isR : List Nat) (hRr : isR.map (fun i => ws[i]?) = wr.map some) (hn2 : va_nd isR = true) (hdis : ∀ i ∈ isR, i ∉ isC) (hst : st = (As.reverse ++ .ref b :: rest)) (hn : As.length = na) (hcat : (rest.map fun v => v.category).sum ≤ 8) (hcells : n ≤ rm.cells ∧ k ≤ rm.slots) (hd : decode cc pc = .ok (.invokevirtual index, 3)) (pc' : Nat) (hp : pc + 3 = pc') (h : ∀ (z : Int) (u : S), post z u → TGo X (wr ++ w1 u) n k pc' lv (.long (lI z) :: rest)) : TGo X ws n k pc lv st := by
  subst hst
  subst hp
  intro H locs ls hP hD hS hl
  have hRm := O.2.2.2.2.2.2.2.1
  have hcl0 := O.2.2.2.2.2.2.2.2.1
  subst hcl0
  have hFc := va_free (wc := w0) hD hS O.2.2.2.2.2.2.1 isC hC
  have hR' : fr + 1 ≤ (cx_R X).frames ∧ 8 + (maxL + 11) + lo ≤ (cx_R X).locals := by rw [hRm]; exact hR
  have hcl : n + 0 ≤ (cx_R X).cells ∧ k + 0 ≤ (cx_R X).slots := by rw [hRm]; exact hcells
  have hsz : ls.size = nL := hl.1.trans O.2.2.2.1
  have hPc : va_P (cx_D X) (cx_C X) w0 H := by
    intro j q hj
    have h1 : (isC.map (fun i => ws[i]?))[j]? = some (some q) := by rw [hC, List.getElem?_map, hj]; rfl
    rw [List.getElem?_map] at h1
    cases hi : isC[j]? with
    | none => rw [hi] at h1; cases h1
    | some i => rw [hi] at h1; exact hP i q (Option.some.inj h1)
  have hDc := hD.sub isC hn1 hC
  have hKc : va_K (cx_D X) (cx_C X) tys0 (cx_s X) := va_K.sub hK isK hKs
  have hpre : ∀ U : State, U.heap = H → (cx_s X).WarmedH U.vm → ct_Pc E (cx_D X) (cx_C X) (.ref b :: As) w0 tys0 H.size (.ref b :: As).toArray U := by
    intro U hU hW
    subst hU
    exact ⟨rfl, rfl, hPc, va_K.moved hW.alike hKc, hDc.weaken (fun _ _ _ _ => trivial), hE.2 _ _ (cx_s X) U locs hS hW hFc O.2.2.2.2.2.2.2.2.2⟩
  refine va_calll (va_runV ⟨O.1, O.2.1, O.2.2.1, O.2.2.2.2.1, O.2.2.2.2.2.1⟩ (hM (cx_l X) (cx_D X) H.size) (cwV na O.2.2.2.2.2.1 (gw_V hml him hse hin0 hcd) rfl rfl rfl hdd hR') ⟨ct_blind hE _ _ _ _ _ _, va_recv hK hP hci hqb, hpre⟩ rfl hn hsz rfl (lv_room hcat) hd hcl) hS (fun q _ h => hFc q h) hFc (fun r u t H1 locs1 ht hvm hw hB hz1 hk1 hS1 => ?_)
  obtain ⟨z, rfl, hpost⟩ := hw
  obtain ⟨hP1, hK1, hD1⟩ := hB
  rw [ht] at hP1
  obtain ⟨hP2, hD2⟩ := va_join (wr := wr) (w1 := w1 u) hP hD isC isR hC hRr hn2 hdis hk1 hFc hP1 hD1
  exact h z u hpost H1 locs1 ls hP2 hD2 hS1 hl
theorem go_calllSN {X : TCx} {cc : ByteArray} {own : String} {rm : Room} {nL : Nat} {ws : va_W} {n k pc : Nat} {lv : List (Nat × Value)} {st : List Value} {tys : List (ClassId × FieldType)} {cl : List vw_C} {E : TEn} {S : Type} {y : MethodName} {fr lo : Nat} {w0 wr : va_W} {tys0 : List (ClassId × FieldType)} {bytes : ByteArray} {maxL index : Nat} {ret : Option FieldType} {rest : List Value} {av : List Value} {host : String} {post : Int → S → Prop} {w1 : S → va_W} (O : TOk X cc own rm nL cl E) (hK : TKn X tys) (hE : EnvOk E) (hM : Ctl cl E y (Cond.code y bytes maxL ret :: Gw) (rmn fr lo) av w0 tys0 post w1) (hli : va_Nw (.methodLinkNest own index y host) (cx_s X)) (hst0 : Cond.static y ∈ Gw) (hin0 : Cond.initialized y.cls ∈ Gw) (hcd : Cond.code y bytes maxL ret ∈ Gw) (na : Nat) (hdd : y.cls ≠ "java/lang/invoke/MethodHandle" ∧ y.cls ≠ "java/lang/invoke/VarHandle" ∧ (parseMethodDescriptor y.desc).map (fun d => d.parameters.length) = some na) (hR : fr + 1 ≤ rm.frames ∧ 8 + (maxL + 11) + lo ≤ rm.locals)
    (isK : List Nat) (hKs : isK.filterMap (fun i => tys[i]?) = tys0) (isC : List Nat) (hC : isC.map (fun i => ws[i]?) = w0.map some) (hn1 : va_nd isC = true) (isR : List Nat) (hRr : isR.map (fun i => ws[i]?) = wr.map some) (hn2 : va_nd isR = true) (hdis : ∀ i ∈ isR, i ∉ isC) (hst : st = (av.reverse ++ rest)) (hn : av.length = na) (hcat : (rest.map fun v => v.category).sum ≤ 8) (hcells : n ≤ rm.cells ∧ k ≤ rm.slots) (hd : decode cc pc = .ok (.invokestatic index, 3)) (pc' : Nat) (hp : pc + 3 = pc') (h : ∀ (z : Int) (u : S), post z u → TGo X (wr ++ w1 u) n k pc' lv (.long (lI z) :: rest)) : TGo X ws n k pc lv st := by
  subst hst
  subst hp
  intro H locs ls hP hD hS hl
  have hRm := O.2.2.2.2.2.2.2.1
  have hcl0 := O.2.2.2.2.2.2.2.2.1
  subst hcl0
  have hFc := va_free (wc := w0) hD hS O.2.2.2.2.2.2.1 isC hC
  have hR' : fr + 1 ≤ (cx_R X).frames ∧ 8 + (maxL + 11) + lo ≤ (cx_R X).locals := by rw [hRm]; exact hR
  have hcl : n + 0 ≤ (cx_R X).cells ∧ k + 0 ≤ (cx_R X).slots := by rw [hRm]; exact hcells
  have hsz : ls.size = nL := hl.1.trans O.2.2.2.1
  have hPc : va_P (cx_D X) (cx_C X) w0 H := by
    intro j q hj
    have h1 : (isC.map (fun i => ws[i]?))[j]? = some (some q) := by rw [hC, List.getElem?_map, hj]; rfl
    rw [List.getElem?_map] at h1
    cases hi : isC[j]? with
    | none => rw [hi] at h1; cases h1
    | some i => rw [hi] at h1; exact hP i q (Option.some.inj h1)
  have hDc := hD.sub isC hn1 hC
  have hKc : va_K (cx_D X) (cx_C X) tys0 (cx_s X) := va_K.sub hK isK hKs
  have hpre : ∀ U : State, U.heap = H → (cx_s X).WarmedH U.vm → ct_Pc E (cx_D X) (cx_C X) av w0 tys0 H.size av.toArray U := by
    intro U hU hW
    subst hU
    exact ⟨rfl, rfl, hPc, va_K.moved hW.alike hKc, hDc.weaken (fun _ _ _ _ => trivial), hE.2 _ _ (cx_s X) U locs hS hW hFc O.2.2.2.2.2.2.2.2.2⟩
  refine va_calll (va_runSN ⟨O.1, O.2.1, O.2.2.1, O.2.2.2.2.1, O.2.2.2.2.2.1⟩ (hM (cx_l X) (cx_D X) H.size) ⟨va_cnB na O.2.2.2.2.2.1 (gw_all hcd) rfl rfl rfl hli (O.2.2.2.2.2.1 _ hin0) hdd hR', O.2.2.2.2.2.1 _ hst0, trivial⟩ ⟨ct_blind hE _ _ _ _ _ _, hpre⟩ rfl hn hsz rfl (lv_room hcat) hd hcl) hS (fun q _ h => hFc q h) hFc (fun r u t H1 locs1 ht hvm hw hB hz1 hk1 hS1 => ?_)
  obtain ⟨z, rfl, hpost⟩ := hw
  obtain ⟨hP1, hK1, hD1⟩ := hB
  rw [ht] at hP1
  obtain ⟨hP2, hD2⟩ := va_join (wr := wr) (w1 := w1 u) hP hD isC isR hC hRr hn2 hdis hk1 hFc hP1 hD1
  exact h z u hpost H1 locs1 ls hP2 hD2 hS1 hl
theorem go_callvS {X : TCx} {cc : ByteArray} {own : String} {rm : Room} {nL : Nat} {ws : va_W} {n k pc : Nat} {lv : List (Nat × Value)} {st : List Value} {tys : List (ClassId × FieldType)} {cl : List vw_C} {E : TEn} {S : Type} {y : MethodName} {fr lo : Nat} {w0 wr : va_W} {tys0 : List (ClassId × FieldType)} {bytes : ByteArray} {maxL index : Nat} {ret : Option FieldType} {rest : List Value} {av : List Value} {post : S → Prop} {w1 : S → va_W} (O : TOk X cc own rm nL cl E) (hK : TKn X tys) (hE : EnvOk E) (hM : Ctv cl E y (Cond.code y bytes maxL ret :: Gw) (rmn fr lo) av w0 tys0 post w1) (hml : Cond.methodLink own index y ∈ Gw) (hst0 : Cond.static y ∈ Gw) (hin0 : Cond.initialized y.cls ∈ Gw) (hcd : Cond.code y bytes maxL ret ∈ Gw) (na : Nat) (hdd : y.cls ≠ "java/lang/invoke/MethodHandle" ∧ y.cls ≠ "java/lang/invoke/VarHandle" ∧ (parseMethodDescriptor y.desc).map (fun d => d.parameters.length) = some na) (hR : fr + 1 ≤ rm.frames ∧ 8 + (maxL + 11) + lo ≤ rm.locals)
    (isK : List Nat) (hKs : isK.filterMap (fun i => tys[i]?) = tys0) (isC : List Nat) (hC : isC.map (fun i => ws[i]?) = w0.map some) (hn1 : va_nd isC = true) (isR : List Nat) (hRr : isR.map (fun i => ws[i]?) = wr.map some) (hn2 : va_nd isR = true) (hdis : ∀ i ∈ isR, i ∉ isC) (hst : st = (av.reverse ++ rest)) (hn : av.length = na) (hcat : (rest.map fun v => v.category).sum ≤ 8) (hcells : n ≤ rm.cells ∧ k ≤ rm.slots) (hd : decode cc pc = .ok (.invokestatic index, 3)) (pc' : Nat) (hp : pc + 3 = pc') (h : ∀ (u : S), post u → TGo X (wr ++ w1 u) n k pc' lv rest) : TGo X ws n k pc lv st := by
  subst hst
  subst hp
  intro H locs ls hP hD hS hl
  have hRm := O.2.2.2.2.2.2.2.1
  have hcl0 := O.2.2.2.2.2.2.2.2.1
  subst hcl0
  have hFc := va_free (wc := w0) hD hS O.2.2.2.2.2.2.1 isC hC
  have hR' : fr + 1 ≤ (cx_R X).frames ∧ 8 + (maxL + 11) + lo ≤ (cx_R X).locals := by rw [hRm]; exact hR
  have hcl : n + 0 ≤ (cx_R X).cells ∧ k + 0 ≤ (cx_R X).slots := by rw [hRm]; exact hcells
  have hsz : ls.size = nL := hl.1.trans O.2.2.2.1
  have hPc : va_P (cx_D X) (cx_C X) w0 H := by
    intro j q hj
    have h1 : (isC.map (fun i => ws[i]?))[j]? = some (some q) := by rw [hC, List.getElem?_map, hj]; rfl
    rw [List.getElem?_map] at h1
    cases hi : isC[j]? with
    | none => rw [hi] at h1; cases h1
    | some i => rw [hi] at h1; exact hP i q (Option.some.inj h1)
  have hDc := hD.sub isC hn1 hC
  have hKc : va_K (cx_D X) (cx_C X) tys0 (cx_s X) := va_K.sub hK isK hKs
  have hpre : ∀ U : State, U.heap = H → (cx_s X).WarmedH U.vm → ct_Pc E (cx_D X) (cx_C X) av w0 tys0 H.size av.toArray U := by
    intro U hU hW
    subst hU
    exact ⟨rfl, rfl, hPc, va_K.moved hW.alike hKc, hDc.weaken (fun _ _ _ _ => trivial), hE.2 _ _ (cx_s X) U locs hS hW hFc O.2.2.2.2.2.2.2.2.2⟩
  refine va_callv (va_runS ⟨O.1, O.2.1, O.2.2.1, O.2.2.2.2.1, O.2.2.2.2.2.1⟩ (hM (cx_l X) (cx_D X) H.size) (va_cwS na O.2.2.2.2.2.1 (gw_S hml hst0 hin0 hcd) rfl rfl rfl hdd hR') ⟨ct_blind hE _ _ _ _ _ _, hpre⟩ rfl hn hsz rfl (lv_room hcat) hd hcl) hS (fun q _ h => hFc q h) hFc (fun u t H1 locs1 ht hvm hpost hB hz1 hk1 hS1 => ?_)
  obtain ⟨hP1, hK1, hD1⟩ := hB
  rw [ht] at hP1
  obtain ⟨hP2, hD2⟩ := va_join (wr := wr) (w1 := w1 u) hP hD isC isR hC hRr hn2 hdis hk1 hFc hP1 hD1
  exact h u hpost H1 locs1 ls hP2 hD2 hS1 hl
theorem go_callvV {X : TCx} {cc : ByteArray} {own : String} {rm : Room} {nL : Nat} {ws : va_W} {n k pc : Nat} {lv : List (Nat × Value)} {st : List Value} {tys : List (ClassId × FieldType)} {cl : List vw_C} {E : TEn} {S : Type} {y : MethodName} {fr lo : Nat} {w0 wr : va_W} {tys0 : List (ClassId × FieldType)} {bytes : ByteArray} {maxL index : Nat} {ret : Option FieldType} {rest : List Value} {As : List Value} {b ci : Nat} {rc : vw_C} {fs : List Value} {post : S → Prop} {w1 : S → va_W} (O : TOk X cc own rm nL cl E) (hK : TKn X tys) (hE : EnvOk E) (hM : Ctv cl E y (Cond.code y bytes maxL ret :: Gw) (rmn fr lo) (.ref b :: As) w0 tys0 post w1) (hml : Cond.methodLink own index y ∈ Gw) (him : Cond.instanceMethod y ∈ Gw) (hse : Cond.selects rc.1 y y ∈ Gw) (hin0 : Cond.initialized rc.1 ∈ Gw) (hcd : Cond.code y bytes maxL ret ∈ Gw) (na : Nat) (hdd : y.cls = rc.1 ∧ y.cls ≠ "java/lang/invoke/MethodHandle" ∧ y.cls ≠ "java/lang/invoke/VarHandle" ∧ (parseMethodDescriptor y.desc).map (fun d => d.parameters.length) = some na) (hR : fr + 1 ≤ rm.frames ∧ 8 + (maxL + 11) + lo ≤ rm.locals) (qb : Nat) (hqb : ws[qb]? = some (b, .inr (ci, fs))) (hci : cl[ci]? = some rc)
    (isK : List Nat) (hKs : isK.filterMap (fun i => tys[i]?) = tys0) (isC : List Nat) (hC : isC.map (fun i => ws[i]?) = w0.map some) (hn1 : va_nd isC = true) (isR : List Nat) (hRr : isR.map (fun i => ws[i]?) = wr.map some) (hn2 : va_nd isR = true) (hdis : ∀ i ∈ isR, i ∉ isC) (hst : st = (As.reverse ++ .ref b :: rest)) (hn : As.length = na) (hcat : (rest.map fun v => v.category).sum ≤ 8) (hcells : n ≤ rm.cells ∧ k ≤ rm.slots) (hd : decode cc pc = .ok (.invokevirtual index, 3)) (pc' : Nat) (hp : pc + 3 = pc') (h : ∀ (u : S), post u → TGo X (wr ++ w1 u) n k pc' lv rest) : TGo X ws n k pc lv st := by
  subst hst
  subst hp
  intro H locs ls hP hD hS hl
  have hRm := O.2.2.2.2.2.2.2.1
  have hcl0 := O.2.2.2.2.2.2.2.2.1
  subst hcl0
  have hFc := va_free (wc := w0) hD hS O.2.2.2.2.2.2.1 isC hC
  have hR' : fr + 1 ≤ (cx_R X).frames ∧ 8 + (maxL + 11) + lo ≤ (cx_R X).locals := by rw [hRm]; exact hR
  have hcl : n + 0 ≤ (cx_R X).cells ∧ k + 0 ≤ (cx_R X).slots := by rw [hRm]; exact hcells
  have hsz : ls.size = nL := hl.1.trans O.2.2.2.1
  have hPc : va_P (cx_D X) (cx_C X) w0 H := by
    intro j q hj
    have h1 : (isC.map (fun i => ws[i]?))[j]? = some (some q) := by rw [hC, List.getElem?_map, hj]; rfl
    rw [List.getElem?_map] at h1
    cases hi : isC[j]? with
    | none => rw [hi] at h1; cases h1
    | some i => rw [hi] at h1; exact hP i q (Option.some.inj h1)
  have hDc := hD.sub isC hn1 hC
  have hKc : va_K (cx_D X) (cx_C X) tys0 (cx_s X) := va_K.sub hK isK hKs
  have hpre : ∀ U : State, U.heap = H → (cx_s X).WarmedH U.vm → ct_Pc E (cx_D X) (cx_C X) (.ref b :: As) w0 tys0 H.size (.ref b :: As).toArray U := by
    intro U hU hW
    subst hU
    exact ⟨rfl, rfl, hPc, va_K.moved hW.alike hKc, hDc.weaken (fun _ _ _ _ => trivial), hE.2 _ _ (cx_s X) U locs hS hW hFc O.2.2.2.2.2.2.2.2.2⟩
  refine va_callv (va_runV ⟨O.1, O.2.1, O.2.2.1, O.2.2.2.2.1, O.2.2.2.2.2.1⟩ (hM (cx_l X) (cx_D X) H.size) (cwV na O.2.2.2.2.2.1 (gw_V hml him hse hin0 hcd) rfl rfl rfl hdd hR') ⟨ct_blind hE _ _ _ _ _ _, va_recv hK hP hci hqb, hpre⟩ rfl hn hsz rfl (lv_room hcat) hd hcl) hS (fun q _ h => hFc q h) hFc (fun u t H1 locs1 ht hvm hpost hB hz1 hk1 hS1 => ?_)
  obtain ⟨hP1, hK1, hD1⟩ := hB
  rw [ht] at hP1
  obtain ⟨hP2, hD2⟩ := va_join (wr := wr) (w1 := w1 u) hP hD isC isR hC hRr hn2 hdis hk1 hFc hP1 hD1
  exact h u hpost H1 locs1 ls hP2 hD2 hS1 hl
theorem go_callvSN {X : TCx} {cc : ByteArray} {own : String} {rm : Room} {nL : Nat} {ws : va_W} {n k pc : Nat} {lv : List (Nat × Value)} {st : List Value} {tys : List (ClassId × FieldType)} {cl : List vw_C} {E : TEn} {S : Type} {y : MethodName} {fr lo : Nat} {w0 wr : va_W} {tys0 : List (ClassId × FieldType)} {bytes : ByteArray} {maxL index : Nat} {ret : Option FieldType} {rest : List Value} {av : List Value} {host : String} {post : S → Prop} {w1 : S → va_W} (O : TOk X cc own rm nL cl E) (hK : TKn X tys) (hE : EnvOk E) (hM : Ctv cl E y (Cond.code y bytes maxL ret :: Gw) (rmn fr lo) av w0 tys0 post w1) (hli : va_Nw (.methodLinkNest own index y host) (cx_s X)) (hst0 : Cond.static y ∈ Gw) (hin0 : Cond.initialized y.cls ∈ Gw) (hcd : Cond.code y bytes maxL ret ∈ Gw) (na : Nat) (hdd : y.cls ≠ "java/lang/invoke/MethodHandle" ∧ y.cls ≠ "java/lang/invoke/VarHandle" ∧ (parseMethodDescriptor y.desc).map (fun d => d.parameters.length) = some na) (hR : fr + 1 ≤ rm.frames ∧ 8 + (maxL + 11) + lo ≤ rm.locals)
    (isK : List Nat) (hKs : isK.filterMap (fun i => tys[i]?) = tys0) (isC : List Nat) (hC : isC.map (fun i => ws[i]?) = w0.map some) (hn1 : va_nd isC = true) (isR : List Nat) (hRr : isR.map (fun i => ws[i]?) = wr.map some) (hn2 : va_nd isR = true) (hdis : ∀ i ∈ isR, i ∉ isC) (hst : st = (av.reverse ++ rest)) (hn : av.length = na) (hcat : (rest.map fun v => v.category).sum ≤ 8) (hcells : n ≤ rm.cells ∧ k ≤ rm.slots) (hd : decode cc pc = .ok (.invokestatic index, 3)) (pc' : Nat) (hp : pc + 3 = pc') (h : ∀ (u : S), post u → TGo X (wr ++ w1 u) n k pc' lv rest) : TGo X ws n k pc lv st := by
  subst hst
  subst hp
  intro H locs ls hP hD hS hl
  have hRm := O.2.2.2.2.2.2.2.1
  have hcl0 := O.2.2.2.2.2.2.2.2.1
  subst hcl0
  have hFc := va_free (wc := w0) hD hS O.2.2.2.2.2.2.1 isC hC
  have hR' : fr + 1 ≤ (cx_R X).frames ∧ 8 + (maxL + 11) + lo ≤ (cx_R X).locals := by rw [hRm]; exact hR
  have hcl : n + 0 ≤ (cx_R X).cells ∧ k + 0 ≤ (cx_R X).slots := by rw [hRm]; exact hcells
  have hsz : ls.size = nL := hl.1.trans O.2.2.2.1
  have hPc : va_P (cx_D X) (cx_C X) w0 H := by
    intro j q hj
    have h1 : (isC.map (fun i => ws[i]?))[j]? = some (some q) := by rw [hC, List.getElem?_map, hj]; rfl
    rw [List.getElem?_map] at h1
    cases hi : isC[j]? with
    | none => rw [hi] at h1; cases h1
    | some i => rw [hi] at h1; exact hP i q (Option.some.inj h1)
  have hDc := hD.sub isC hn1 hC
  have hKc : va_K (cx_D X) (cx_C X) tys0 (cx_s X) := va_K.sub hK isK hKs
  have hpre : ∀ U : State, U.heap = H → (cx_s X).WarmedH U.vm → ct_Pc E (cx_D X) (cx_C X) av w0 tys0 H.size av.toArray U := by
    intro U hU hW
    subst hU
    exact ⟨rfl, rfl, hPc, va_K.moved hW.alike hKc, hDc.weaken (fun _ _ _ _ => trivial), hE.2 _ _ (cx_s X) U locs hS hW hFc O.2.2.2.2.2.2.2.2.2⟩
  refine va_callv (va_runSN ⟨O.1, O.2.1, O.2.2.1, O.2.2.2.2.1, O.2.2.2.2.2.1⟩ (hM (cx_l X) (cx_D X) H.size) ⟨va_cnB na O.2.2.2.2.2.1 (gw_all hcd) rfl rfl rfl hli (O.2.2.2.2.2.1 _ hin0) hdd hR', O.2.2.2.2.2.1 _ hst0, trivial⟩ ⟨ct_blind hE _ _ _ _ _ _, hpre⟩ rfl hn hsz rfl (lv_room hcat) hd hcl) hS (fun q _ h => hFc q h) hFc (fun u t H1 locs1 ht hvm hpost hB hz1 hk1 hS1 => ?_)
  obtain ⟨hP1, hK1, hD1⟩ := hB
  rw [ht] at hP1
  obtain ⟨hP2, hD2⟩ := va_join (wr := wr) (w1 := w1 u) hP hD isC isR hC hRr hn2 hdis hk1 hFc hP1 hD1
  exact h u hpost H1 locs1 ls hP2 hD2 hS1 hl
end
section
/-! Numbers as rows of decimal digits, the lowest first. -/
def dg (N : Nat) : Nat → Int32 := fun i => iI ((N / 10 ^ i % 10 : Nat) : Int)
theorem dg_at (N i : Nat) : dg N i = iI ((N / 10 ^ i % 10 : Nat) : Int) := rfl
theorem dg_zero (i : Nat) : dg 0 i = iI 0 := by
  unfold dg
  rw [Nat.zero_div]
  rfl
theorem tq10 (N i : Nat) : N / 10 ^ (i + 1) = N / 10 ^ i / 10 := by
  rw [Nat.pow_succ, Nat.div_div_eq_div_mul]
theorem tqz (N : Nat) : N / 10 ^ 0 = N := by rw [Nat.pow_zero, Nat.div_one]
theorem p10 (i : Nat) : 0 < 10 ^ i := Nat.pow_pos (by omega)
theorem p10s (i : Nat) : 10 ^ (i + 1) = 10 * 10 ^ i := by rw [Nat.pow_succ, Nat.mul_comm]
theorem p10le {a b : Nat} (h : a ≤ b) : 10 ^ a ≤ 10 ^ b := Nat.pow_le_pow_right (by omega) h
theorem p10lt {a b : Nat} (h : a < b) : 10 ^ a < 10 ^ b := Nat.pow_lt_pow_right (by omega) h
theorem p10add (a b : Nat) : 10 ^ (a + b) = 10 ^ a * 10 ^ b := Nat.pow_add 10 a b
theorem q_lt {N i : Nat} (h : N < 10 ^ i) : N / 10 ^ i = 0 := Nat.div_eq_of_lt h
theorem q_lt' {N i j : Nat} (h : N < 10 ^ i) (hij : i ≤ j) : N / 10 ^ j = 0 := Nat.div_eq_of_lt (Nat.lt_of_lt_of_le h (p10le hij))
/-- zero digits from s on: the number is below 10^s -/
theorem lt_of_digits {N s e : Nat} (he : N < 10 ^ e) (hs : s ≤ e) (h : ∀ j, s ≤ j → j < e → N / 10 ^ j % 10 = 0) : N < 10 ^ s := by
  have key : ∀ d, d ≤ e - s → N / 10 ^ (e - d) = 0 := by
    intro d
    induction d with
    | zero => intro _; exact q_lt he
    | succ d ih =>
      intro hd
      have h1 := ih (by omega)
      have h2 : e - d = (e - (d + 1)) + 1 := by omega
      rw [h2, tq10] at h1
      have h3 := h (e - (d + 1)) (by omega) (by omega)
      omega
  have h1 := key (e - s) (Nat.le_refl _)
  have h2 : e - (e - s) = s := by omega
  rw [h2] at h1
  exact (Nat.div_eq_zero_iff_lt (p10 s)).mp h1
/-- how many digits a number has; none for zero -/
def tnd : Nat → Nat → Nat
  | 0, _ => 0
  | f + 1, N => if N = 0 then 0 else tnd f (N / 10) + 1
def tnds (N : Nat) : Nat := tnd N N
theorem tnd_lt : ∀ (f N : Nat), N ≤ f → N < 10 ^ tnd f N ∧ (0 < N → 0 < tnd f N ∧ 10 ^ (tnd f N - 1) ≤ N) := by
  intro f
  induction f with
  | zero =>
    intro N h
    have : N = 0 := by omega
    subst this
    exact ⟨by decide, fun h => absurd h (by omega)⟩
  | succ f ih =>
    intro N h
    unfold tnd
    by_cases h0 : N = 0
    · rw [if_pos h0]; subst h0; exact ⟨by decide, fun h => absurd h (by omega)⟩
    · rw [if_neg h0]
      obtain ⟨h1, h2⟩ := ih (N / 10) (by omega)
      refine ⟨by rw [p10s]; omega, fun _ => ⟨by omega, ?_⟩⟩
      rw [Nat.add_sub_cancel]
      by_cases h3 : N / 10 = 0
      · rw [h3]
        have : tnd f 0 = 0 := by cases f with
          | zero => rfl
          | succ f => unfold tnd; rw [if_pos rfl]
        rw [this, Nat.pow_zero]; omega
      · obtain ⟨h4, h5⟩ := h2 (by omega)
        have h6 : tnd f (N / 10) = (tnd f (N / 10) - 1) + 1 := by omega
        rw [h6, p10s]
        omega
theorem tnds_lt (N : Nat) : N < 10 ^ tnds N := (tnd_lt N N (Nat.le_refl _)).1
theorem tnds_pos {N : Nat} (h : 0 < N) : 0 < tnds N := ((tnd_lt N N (Nat.le_refl _)).2 h).1
theorem tnds_le {N : Nat} (h : 0 < N) : 10 ^ (tnds N - 1) ≤ N := ((tnd_lt N N (Nat.le_refl _)).2 h).2
theorem tnds_zero : tnds 0 = 0 := rfl
theorem tnds_eq {N s : Nat} (h1 : N < 10 ^ s) (h2 : s = 0 ∨ 10 ^ (s - 1) ≤ N) : tnds N = s := by
  rcases h2 with h2 | h2
  · subst h2
    have : N = 0 := by rw [Nat.pow_zero] at h1; omega
    subst this; rfl
  · have hN : 0 < N := Nat.lt_of_lt_of_le (p10 _) h2
    have a1 := tnds_lt N
    have a2 := tnds_le hN
    have a3 := tnds_pos hN
    by_cases h3 : tnds N < s
    · have := p10le (a := tnds N) (b := s - 1) (by omega)
      omega
    · by_cases h4 : s < tnds N
      · have := p10le (a := s) (b := tnds N - 1) (by omega)
        omega
      · omega
theorem tnds_mono {N e : Nat} (h : N < 10 ^ e) : tnds N ≤ e := by
  by_cases h0 : N = 0
  · subst h0; rw [tnds_zero]; omega
  · by_cases h1 : e < tnds N
    · have a2 := tnds_le (N := N) (by omega)
      have := p10le (a := e) (b := tnds N - 1) (by omega)
      omega
    · omega
theorem tnds_gt {N e : Nat} (h : 10 ^ e ≤ N) : e < tnds N := by
  by_cases h1 : e < tnds N
  · exact h1
  · have := tnds_lt N
    have := p10le (a := tnds N) (b := e) (by omega)
    omega
/-- a digit row scanned from below -/
theorem tnds_scan {N s e : Nat} (he : N < 10 ^ e) (hs : s ≤ e) (h : ∀ j, s ≤ j → j < e → N / 10 ^ j % 10 = 0) (hd : s = 0 ∨ N / 10 ^ (s - 1) % 10 ≠ 0) : tnds N = s := by
  refine tnds_eq (lt_of_digits he hs h) ?_
  rcases hd with hd | hd
  · exact Or.inl hd
  · refine Or.inr ?_
    by_cases h1 : N < 10 ^ (s - 1)
    · rw [q_lt h1] at hd; exact absurd rfl hd
    · omega
theorem mulp_hi {N k j : Nat} (h : k ≤ j) : N * 10 ^ k / 10 ^ j = N / 10 ^ (j - k) := by
  have : 10 ^ j = 10 ^ k * 10 ^ (j - k) := by rw [← p10add]; congr 1; omega
  rw [this, Nat.mul_comm N, Nat.mul_div_mul_left _ _ (p10 k)]
theorem mulp_lo {N k j : Nat} (h : j < k) : N * 10 ^ k / 10 ^ j % 10 = 0 := by
  have : 10 ^ k = 10 ^ j * (10 * 10 ^ (k - j - 1)) := by rw [← p10s, ← p10add]; congr 1; omega
  rw [this, ← Nat.mul_assoc, Nat.mul_comm N, Nat.mul_assoc, Nat.mul_div_cancel_left _ (p10 j), ← Nat.mul_assoc, Nat.mul_comm N, Nat.mul_assoc, Nat.mul_mod_right]
theorem dg_shift (N k j : Nat) : dg (N * 10 ^ k) j = if k ≤ j then dg N (j - k) else iI 0 := by
  unfold dg
  split
  · next h => rw [mulp_hi h]
  · next h => rw [mulp_lo (by omega)]; rfl
theorem r32_dg (N i : Nat) : r32 ((N / 10 ^ i % 10 : Nat) : Int) := by
  have : N / 10 ^ i % 10 < 10 := Nat.mod_lt _ (by omega)
  constructor <;> omega
theorem r32_nat {j : Nat} (h : j < 2147483648) : r32 (j : Int) := by constructor <;> omega
/-- a number of a given length is told by its digits -/
theorem dg_inj {N M e : Nat} (hN : N < 10 ^ e) (hM : M < 10 ^ e) (h : ∀ j, j < e → N / 10 ^ j % 10 = M / 10 ^ j % 10) : N = M := by
  have key : ∀ d, d ≤ e → N / 10 ^ (e - d) = M / 10 ^ (e - d) := by
    intro d
    induction d with
    | zero => intro _; rw [Nat.sub_zero, q_lt hN, q_lt hM]
    | succ d ih =>
      intro hd
      have h1 := ih (by omega)
      have h2 : e - d = (e - (d + 1)) + 1 := by omega
      rw [h2, tq10, tq10] at h1
      have h3 := h (e - (d + 1)) (by omega)
      omega
  have h1 := key e (Nat.le_refl _)
  rw [Nat.sub_self, tqz, tqz] at h1
  exact h1
def cmpN (a b : Nat) : Int := if a < b then -1 else if a = b then 0 else 1
theorem cmpN_r (a b : Nat) : r32 (cmpN a b) := by unfold cmpN; split <;> (try split) <;> constructor <;> omega
theorem cmpN_ge {a b : Nat} : 0 ≤ cmpN a b ↔ b ≤ a := by unfold cmpN; split <;> (try split) <;> omega
theorem cmpN_gt {a b : Nat} : 0 < cmpN a b ↔ b < a := by unfold cmpN; split <;> (try split) <;> omega
theorem cmpN_le {a b : Nat} : cmpN a b ≤ 0 ↔ a ≤ b := by unfold cmpN; split <;> (try split) <;> omega
theorem cmpN_eq {a b : Nat} : cmpN a b = 0 ↔ a = b := by unfold cmpN; split <;> (try split) <;> omega
theorem lt_of_q {N M : Nat} (i : Nat) (h : N / 10 ^ i < M / 10 ^ i) : N < M := by
  by_cases h1 : M ≤ N
  · have := Nat.div_le_div_right (c := 10 ^ i) h1
    omega
  · omega
/-! Steps of loops over rows. -/
theorem lo_upd {g F : Nat → Int32} {i : Nat} {z : Int} (h : ∀ j, j < i → g j = F j) (hz : iI z = F i) : ∀ j, j < i + 1 → upd g i (iI z) j = F j := by
  intro j hj
  unfold upd
  by_cases e : j = i
  · rw [if_pos e, hz, e]
  · rw [if_neg e]; exact h j (by omega)
theorem hi_upd {g F : Nat → Int32} {i : Nat} {z : Int} (h : ∀ j, i ≤ j → g j = F j) : ∀ j, i + 1 ≤ j → upd g i (iI z) j = F j := by
  intro j hj
  unfold upd
  rw [if_neg (by omega)]
  exact h j (by omega)
theorem dlo_upd {g F : Nat → Int32} {m : Nat} {z : Int} (h : ∀ j, j < m + 1 → g j = F j) : ∀ j, j < m → upd g m (iI z) j = F j := by
  intro j hj
  unfold upd
  rw [if_neg (by omega)]
  exact h j (by omega)
theorem dhi_upd {g F : Nat → Int32} {m : Nat} {z : Int} (h : ∀ j, m + 1 ≤ j → g j = F j) (hz : iI z = F m) : ∀ j, m ≤ j → upd g m (iI z) j = F j := by
  intro j hj
  unfold upd
  by_cases e : j = m
  · rw [if_pos e, hz, e]
  · rw [if_neg e]; exact h j (by omega)
theorem dhi_updN {g F : Nat → Int32} {m N : Nat} {z : Int} (h : ∀ j, m + 1 ≤ j → j < N → g j = F j) (hz : iI z = F m) : ∀ j, m ≤ j → j < N → upd g m (iI z) j = F j := by
  intro j hj hN
  unfold upd
  by_cases e : j = m
  · rw [if_pos e, hz, e]
  · rw [if_neg e]; exact h j (by omega) hN
theorem inc_dig {N M i c : Nat} (hc : (N + M) / 10 ^ i = N / 10 ^ i + M / 10 ^ i + c) : (N + M) / 10 ^ i % 10 = (N / 10 ^ i % 10 + M / 10 ^ i % 10 + c) % 10 := by omega
theorem inc_step {N M i c : Nat} (hc : (N + M) / 10 ^ i = N / 10 ^ i + M / 10 ^ i + c) : (N + M) / 10 ^ (i + 1) = N / 10 ^ (i + 1) + M / 10 ^ (i + 1) + (N / 10 ^ i % 10 + M / 10 ^ i % 10 + c) / 10 := by
  rw [tq10, tq10, tq10]; omega
theorem dec_dig {N M i b : Nat} (hc : (N - M) / 10 ^ i + M / 10 ^ i + b = N / 10 ^ i) (hb : b ≤ 1) :
    (((N - M) / 10 ^ i % 10 : Nat) : Int) = (if ((N / 10 ^ i % 10 : Nat) : Int) - ((M / 10 ^ i % 10 : Nat) : Int) - (b : Int) < 0 then ((N / 10 ^ i % 10 : Nat) : Int) - ((M / 10 ^ i % 10 : Nat) : Int) - (b : Int) + 10 else ((N / 10 ^ i % 10 : Nat) : Int) - ((M / 10 ^ i % 10 : Nat) : Int) - (b : Int)) := by
  split <;> omega
theorem dec_step {N M i b b' : Nat} (hc : (N - M) / 10 ^ i + M / 10 ^ i + b = N / 10 ^ i) (hb : b ≤ 1) (hb' : (b' = 1 ∧ ((N / 10 ^ i % 10 : Nat) : Int) - ((M / 10 ^ i % 10 : Nat) : Int) - (b : Int) < 0) ∨ (b' = 0 ∧ 0 ≤ ((N / 10 ^ i % 10 : Nat) : Int) - ((M / 10 ^ i % 10 : Nat) : Int) - (b : Int))) : (N - M) / 10 ^ (i + 1) + M / 10 ^ (i + 1) + b' = N / 10 ^ (i + 1) := by
  rw [tq10, tq10, tq10]
  rcases hb' with ⟨h1, h2⟩ | ⟨h1, h2⟩ <;> omega
theorem tm10 (r : Int) : -10 < r.tmod 10 ∧ r.tmod 10 < 10 ∧ (r.tmod 10).natAbs = r.natAbs % 10 ∧ (r.tdiv 10).natAbs = r.natAbs / 10 := by
  have h1 := Int.natAbs_tmod r 10
  have h2 := Int.natAbs_tdiv r 10
  have h3 : (10 : Int).natAbs = 10 := rfl
  rw [h3] at h1 h2
  refine ⟨?_, ?_, h1, h2⟩ <;> omega
/-! Digits that change by one place; long division. -/
theorem tqadd (N a b : Nat) : N / 10 ^ (a + b) = N / 10 ^ a / 10 ^ b := by rw [p10add, Nat.div_div_eq_div_mul]
theorem tbump_hi {N m j : Nat} (h : N / 10 ^ m % 10 + 1 < 10) (hj : m < j) : (N + 10 ^ m) / 10 ^ j = N / 10 ^ j := by
  have e : j = m + (1 + (j - m - 1)) := by omega
  have h1 : (N + 10 ^ m) / 10 ^ m = N / 10 ^ m + 1 := Nat.add_div_right _ (p10 m)
  rw [e, tqadd, tqadd, tqadd N, tqadd (N / 10 ^ m), h1]
  have h2 : (N / 10 ^ m + 1) / 10 ^ 1 = N / 10 ^ m / 10 ^ 1 := by rw [Nat.pow_one]; omega
  rw [h2]
theorem tbump_lo {N m j : Nat} (hj : j < m) : (N + 10 ^ m) / 10 ^ j % 10 = N / 10 ^ j % 10 := by
  have e : 10 ^ m = 10 ^ j * (10 * 10 ^ (m - j - 1)) := by rw [← p10s, ← p10add]; congr 1; omega
  rw [e, Nat.add_mul_div_left _ _ (p10 j)]
  omega
theorem dg_bump {N m t : Nat} (ht : N / 10 ^ m % 10 = t) (h : t + 1 < 10) : ∀ j, upd (dg N) m (iI ((t + 1 : Nat) : Int)) j = dg (N + 10 ^ m) j := by
  intro j
  unfold upd
  by_cases e : j = m
  · subst e
    rw [if_pos rfl, dg_at]
    have h1 : (N + 10 ^ j) / 10 ^ j = N / 10 ^ j + 1 := Nat.add_div_right _ (p10 j)
    rw [h1]
    congr 1
    omega
  · rw [if_neg e, dg_at, dg_at]
    by_cases h1 : j < m
    · rw [tbump_lo h1]
    · rw [tbump_hi (by omega) (by omega)]
theorem dg_unit {R a : Nat} (ha : a < 10) : ∀ j, upd (dg (R * 10 ^ 1)) 0 (iI (a : Int)) j = dg (R * 10 + a) j := by
  intro j
  unfold upd
  by_cases e : j = 0
  · subst e
    rw [if_pos rfl, dg_at, tqz]
    congr 1
    omega
  · rw [if_neg e, dg_at, dg_at]
    have h1 : j = 1 + (j - 1) := by omega
    rw [h1, tqadd, tqadd (R * 10 + a), Nat.pow_one]
    have h2 : R * 10 / 10 = (R * 10 + a) / 10 := by omega
    rw [h2]
theorem tquo {N D m t r : Nat} (hD : 0 < D) (hr : r < D) (h : t * D + r = (N / 10 ^ (m + 1) % D) * 10 + N / 10 ^ m % 10) : N / 10 ^ m / D = 10 * (N / 10 ^ (m + 1) / D) + t ∧ N / 10 ^ m % D = r := by
  have h1 := Nat.div_add_mod (N / 10 ^ (m + 1)) D
  have h2 : N / 10 ^ m = 10 * (N / 10 ^ (m + 1)) + N / 10 ^ m % 10 := by rw [tq10]; omega
  refine (Nat.div_mod_unique hD).mpr ⟨?_, hr⟩
  generalize N / 10 ^ (m + 1) / D = Q at *
  generalize N / 10 ^ (m + 1) % D = R at *
  generalize N / 10 ^ (m + 1) = A at *
  generalize N / 10 ^ m % 10 = a at *
  rw [h2]
  have h3 : D * (10 * Q + t) = 10 * (D * Q) + t * D := by rw [Nat.mul_add, Nat.mul_left_comm, Nat.mul_comm D t]
  omega
theorem tdig_t {Q t k : Nat} (h : t ≤ 9) : (Q * 10 ^ (k + 1) + t * 10 ^ k) / 10 ^ k % 10 = t := by
  have e : Q * 10 ^ (k + 1) + t * 10 ^ k = (Q * 10 + t) * 10 ^ k := by rw [p10s, Nat.add_mul, Nat.mul_assoc]
  rw [e, Nat.mul_div_cancel _ (p10 k)]
  omega
theorem tdig_s {Q t k : Nat} : Q * 10 ^ (k + 1) + (t + 1) * 10 ^ k = Q * 10 ^ (k + 1) + t * 10 ^ k + 10 ^ k := by rw [Nat.add_mul, Nat.one_mul, Nat.add_assoc]
theorem tdig_e {Q t k : Nat} : Q * 10 ^ (k + 1) + t * 10 ^ k = (10 * Q + t) * 10 ^ k := by rw [p10s, Nat.add_mul, ← Nat.mul_assoc, Nat.mul_comm Q 10]
end
section
theorem dX3_init_0 : decode cX3_init 0 = .ok (.aload_n 0, 1) := by decide +kernel
theorem dX3_init_1 : decode cX3_init 1 = .ok (.invokespecial 3, 3) := by decide +kernel
theorem dX3_init_4 : decode cX3_init 4 = .ok (.aload_n 0, 1) := by decide +kernel
theorem dX3_init_5 : decode cX3_init 5 = .ok (.bipush 19, 2) := by decide +kernel
theorem dX3_init_7 : decode cX3_init 7 = .ok (.bipush 30, 2) := by decide +kernel
theorem dX3_init_9 : decode cX3_init 9 = .ok (.iload_n 1, 1) := by decide +kernel
theorem dX3_init_10 : decode cX3_init 10 = .ok (.invokestatic 9, 3) := by decide +kernel
theorem dX3_init_13 : decode cX3_init 13 = .ok (.invokestatic 15, 3) := by decide +kernel
theorem dX3_init_16 : decode cX3_init 16 = .ok (.putfield 18, 3) := by decide +kernel
theorem dX3_init_19 : decode cX3_init 19 = .ok (.aload_n 0, 1) := by decide +kernel
theorem dX3_init_20 : decode cX3_init 20 = .ok (.iconst 5, 1) := by decide +kernel
theorem dX3_init_21 : decode cX3_init 21 = .ok (.bipush 10, 2) := by decide +kernel
theorem dX3_init_23 : decode cX3_init 23 = .ok (.iload_n 2, 1) := by decide +kernel
theorem dX3_init_24 : decode cX3_init 24 = .ok (.invokestatic 9, 3) := by decide +kernel
theorem dX3_init_27 : decode cX3_init 27 = .ok (.invokestatic 15, 3) := by decide +kernel
theorem dX3_init_30 : decode cX3_init 30 = .ok (.putfield 22, 3) := by decide +kernel
theorem dX3_init_33 : decode cX3_init 33 = .ok (.aload_n 0, 1) := by decide +kernel
theorem dX3_init_34 : decode cX3_init 34 = .ok (.iconst 0, 1) := by decide +kernel
theorem dX3_init_35 : decode cX3_init 35 = .ok (.bipush 6, 2) := by decide +kernel
theorem dX3_init_37 : decode cX3_init 37 = .ok (.iload_n 3, 1) := by decide +kernel
theorem dX3_init_38 : decode cX3_init 38 = .ok (.invokestatic 9, 3) := by decide +kernel
theorem dX3_init_41 : decode cX3_init 41 = .ok (.invokestatic 15, 3) := by decide +kernel
theorem dX3_init_44 : decode cX3_init 44 = .ok (.putfield 25, 3) := by decide +kernel
theorem dX3_init_47 : decode cX3_init 47 = .ok (.aload_n 0, 1) := by decide +kernel
theorem dX3_init_48 : decode cX3_init 48 = .ok (.bipush 8, 2) := by decide +kernel
theorem dX3_init_50 : decode cX3_init 50 = .ok (.anewarray 28, 3) := by decide +kernel
theorem dX3_init_53 : decode cX3_init 53 = .ok (.putfield 30, 3) := by decide +kernel
theorem dX3_init_56 : decode cX3_init 56 = .ok (.iconst 0, 1) := by decide +kernel
theorem dX3_init_57 : decode cX3_init 57 = .ok (.istore 4, 2) := by decide +kernel
theorem dX3_init_59 : decode cX3_init 59 = .ok (.iload 4, 2) := by decide +kernel
theorem dX3_init_61 : decode cX3_init 61 = .ok (.bipush 8, 2) := by decide +kernel
theorem dX3_init_63 : decode cX3_init 63 = .ok (.if_icmp .ge 23, 3) := by decide +kernel
theorem dX3_init_66 : decode cX3_init 66 = .ok (.aload_n 0, 1) := by decide +kernel
theorem dX3_init_67 : decode cX3_init 67 = .ok (.getfield 30, 3) := by decide +kernel
theorem dX3_init_70 : decode cX3_init 70 = .ok (.iload 4, 2) := by decide +kernel
theorem dX3_init_72 : decode cX3_init 72 = .ok (.new 28, 3) := by decide +kernel
theorem dX3_init_75 : decode cX3_init 75 = .ok (.dup, 1) := by decide +kernel
theorem dX3_init_76 : decode cX3_init 76 = .ok (.invokespecial 34, 3) := by decide +kernel
theorem dX3_init_79 : decode cX3_init 79 = .ok (.aastore, 1) := by decide +kernel
theorem dX3_init_80 : decode cX3_init 80 = .ok (.iinc 4 1, 3) := by decide +kernel
theorem dX3_init_83 : decode cX3_init 83 = .ok (.goto (-24), 3) := by decide +kernel
theorem dX3_init_86 : decode cX3_init 86 = .ok (.aload_n 0, 1) := by decide +kernel
theorem dX3_init_87 : decode cX3_init 87 = .ok (.bipush 8, 2) := by decide +kernel
theorem dX3_init_89 : decode cX3_init 89 = .ok (.newarray .int, 2) := by decide +kernel
theorem dX3_init_91 : decode cX3_init 91 = .ok (.putfield 35, 3) := by decide +kernel
theorem dX3_init_94 : decode cX3_init 94 = .ok (.aload_n 0, 1) := by decide +kernel
theorem dX3_init_95 : decode cX3_init 95 = .ok (.bipush 8, 2) := by decide +kernel
theorem dX3_init_97 : decode cX3_init 97 = .ok (.newarray .long, 2) := by decide +kernel
theorem dX3_init_99 : decode cX3_init 99 = .ok (.putfield 39, 3) := by decide +kernel
theorem dX3_init_102 : decode cX3_init 102 = .ok (.aload_n 0, 1) := by decide +kernel
theorem dX3_init_103 : decode cX3_init 103 = .ok (.new 43, 3) := by decide +kernel
theorem dX3_init_106 : decode cX3_init 106 = .ok (.dup, 1) := by decide +kernel
theorem dX3_init_107 : decode cX3_init 107 = .ok (.invokespecial 45, 3) := by decide +kernel
theorem dX3_init_110 : decode cX3_init 110 = .ok (.putfield 46, 3) := by decide +kernel
theorem dX3_init_113 : decode cX3_init 113 = .ok (.aload_n 0, 1) := by decide +kernel
theorem dX3_init_114 : decode cX3_init 114 = .ok (.new 43, 3) := by decide +kernel
theorem dX3_init_117 : decode cX3_init 117 = .ok (.dup, 1) := by decide +kernel
theorem dX3_init_118 : decode cX3_init 118 = .ok (.invokespecial 45, 3) := by decide +kernel
theorem dX3_init_121 : decode cX3_init 121 = .ok (.putfield 50, 3) := by decide +kernel
theorem dX3_init_124 : decode cX3_init 124 = .ok (.aload_n 0, 1) := by decide +kernel
theorem dX3_init_125 : decode cX3_init 125 = .ok (.new 53, 3) := by decide +kernel
theorem dX3_init_128 : decode cX3_init 128 = .ok (.dup, 1) := by decide +kernel
theorem dX3_init_129 : decode cX3_init 129 = .ok (.invokespecial 55, 3) := by decide +kernel
theorem dX3_init_132 : decode cX3_init 132 = .ok (.putfield 56, 3) := by decide +kernel
theorem dX3_init_135 : decode cX3_init 135 = .ok (.return_, 1) := by decide +kernel
theorem dX3_set_0 : decode cX3_set 0 = .ok (.iload_n 1, 1) := by decide +kernel
theorem dX3_set_1 : decode cX3_set 1 = .ok (.invokestatic 60, 3) := by decide +kernel
theorem dX3_set_4 : decode cX3_set 4 = .ok (.ifCond .eq 21, 3) := by decide +kernel
theorem dX3_set_7 : decode cX3_set 7 = .ok (.iload_n 3, 1) := by decide +kernel
theorem dX3_set_8 : decode cX3_set 8 = .ok (.ifCond .lt 17, 3) := by decide +kernel
theorem dX3_set_11 : decode cX3_set 11 = .ok (.iload_n 3, 1) := by decide +kernel
theorem dX3_set_12 : decode cX3_set 12 = .ok (.bipush 6, 2) := by decide +kernel
theorem dX3_set_14 : decode cX3_set 14 = .ok (.if_icmp .ge 11, 3) := by decide +kernel
theorem dX3_set_17 : decode cX3_set 17 = .ok (.iload 6, 2) := by decide +kernel
theorem dX3_set_19 : decode cX3_set 19 = .ok (.invokestatic 64, 3) := by decide +kernel
theorem dX3_set_22 : decode cX3_set 22 = .ok (.ifCond .ne 6, 3) := by decide +kernel
theorem dX3_set_25 : decode cX3_set 25 = .ok (.bipush (-15), 2) := by decide +kernel
theorem dX3_set_27 : decode cX3_set 27 = .ok (.ireturn, 1) := by decide +kernel
theorem dX3_set_28 : decode cX3_set 28 = .ok (.aload_n 0, 1) := by decide +kernel
theorem dX3_set_29 : decode cX3_set 29 = .ok (.getfield 46, 3) := by decide +kernel
theorem dX3_set_32 : decode cX3_set 32 = .ok (.lload 4, 2) := by decide +kernel
theorem dX3_set_34 : decode cX3_set 34 = .ok (.bipush 20, 2) := by decide +kernel
theorem dX3_set_36 : decode cX3_set 36 = .ok (.iload 6, 2) := by decide +kernel
theorem dX3_set_38 : decode cX3_set 38 = .ok (.isub, 1) := by decide +kernel
theorem dX3_set_39 : decode cX3_set 39 = .ok (.invokevirtual 67, 3) := by decide +kernel
theorem dX3_set_42 : decode cX3_set 42 = .ok (.aload_n 0, 1) := by decide +kernel
theorem dX3_set_43 : decode cX3_set 43 = .ok (.iload_n 1, 1) := by decide +kernel
theorem dX3_set_44 : decode cX3_set 44 = .ok (.iload_n 2, 1) := by decide +kernel
theorem dX3_set_45 : decode cX3_set 45 = .ok (.iload_n 3, 1) := by decide +kernel
theorem dX3_set_46 : decode cX3_set 46 = .ok (.invokevirtual 71, 3) := by decide +kernel
theorem dX3_set_49 : decode cX3_set 49 = .ok (.ireturn, 1) := by decide +kernel
theorem dX3_isRegister_0 : decode cX3_isRegister 0 = .ok (.iload_n 0, 1) := by decide +kernel
theorem dX3_isRegister_1 : decode cX3_isRegister 1 = .ok (.ifCond .lt 13, 3) := by decide +kernel
theorem dX3_isRegister_4 : decode cX3_isRegister 4 = .ok (.iload_n 0, 1) := by decide +kernel
theorem dX3_isRegister_5 : decode cX3_isRegister 5 = .ok (.bipush 8, 2) := by decide +kernel
theorem dX3_isRegister_7 : decode cX3_isRegister 7 = .ok (.if_icmp .ge 7, 3) := by decide +kernel
theorem dX3_isRegister_10 : decode cX3_isRegister 10 = .ok (.iconst 1, 1) := by decide +kernel
theorem dX3_isRegister_11 : decode cX3_isRegister 11 = .ok (.goto 4, 3) := by decide +kernel
theorem dX3_isRegister_14 : decode cX3_isRegister 14 = .ok (.iconst 0, 1) := by decide +kernel
theorem dX3_isRegister_15 : decode cX3_isRegister 15 = .ok (.ireturn, 1) := by decide +kernel
theorem dX3_isPower_0 : decode cX3_isPower 0 = .ok (.iload_n 0, 1) := by decide +kernel
theorem dX3_isPower_1 : decode cX3_isPower 1 = .ok (.ifCond .lt 13, 3) := by decide +kernel
theorem dX3_isPower_4 : decode cX3_isPower 4 = .ok (.iload_n 0, 1) := by decide +kernel
theorem dX3_isPower_5 : decode cX3_isPower 5 = .ok (.bipush 9, 2) := by decide +kernel
theorem dX3_isPower_7 : decode cX3_isPower 7 = .ok (.if_icmp .gt 7, 3) := by decide +kernel
theorem dX3_isPower_10 : decode cX3_isPower 10 = .ok (.iconst 1, 1) := by decide +kernel
theorem dX3_isPower_11 : decode cX3_isPower 11 = .ok (.goto 4, 3) := by decide +kernel
theorem dX3_isPower_14 : decode cX3_isPower 14 = .ok (.iconst 0, 1) := by decide +kernel
theorem dX3_isPower_15 : decode cX3_isPower 15 = .ok (.ireturn, 1) := by decide +kernel
theorem dX3_keep_0 : decode cX3_keep 0 = .ok (.iload_n 2, 1) := by decide +kernel
theorem dX3_keep_1 : decode cX3_keep 1 = .ok (.ifCond .eq 53, 3) := by decide +kernel
theorem dX3_keep_4 : decode cX3_keep 4 = .ok (.iconst 0, 1) := by decide +kernel
theorem dX3_keep_5 : decode cX3_keep 5 = .ok (.aload_n 0, 1) := by decide +kernel
theorem dX3_keep_6 : decode cX3_keep 6 = .ok (.getfield 46, 3) := by decide +kernel
theorem dX3_keep_9 : decode cX3_keep 9 = .ok (.invokevirtual 195, 3) := by decide +kernel
theorem dX3_keep_12 : decode cX3_keep 12 = .ok (.bipush 20, 2) := by decide +kernel
theorem dX3_keep_14 : decode cX3_keep 14 = .ok (.isub, 1) := by decide +kernel
theorem dX3_keep_15 : decode cX3_keep 15 = .ok (.invokestatic 15, 3) := by decide +kernel
theorem dX3_keep_18 : decode cX3_keep 18 = .ok (.istore 4, 2) := by decide +kernel
theorem dX3_keep_20 : decode cX3_keep 20 = .ok (.aload_n 0, 1) := by decide +kernel
theorem dX3_keep_21 : decode cX3_keep 21 = .ok (.getfield 22, 3) := by decide +kernel
theorem dX3_keep_24 : decode cX3_keep 24 = .ok (.aload_n 0, 1) := by decide +kernel
theorem dX3_keep_25 : decode cX3_keep 25 = .ok (.getfield 18, 3) := by decide +kernel
theorem dX3_keep_28 : decode cX3_keep 28 = .ok (.iload 4, 2) := by decide +kernel
theorem dX3_keep_30 : decode cX3_keep 30 = .ok (.isub, 1) := by decide +kernel
theorem dX3_keep_31 : decode cX3_keep 31 = .ok (.invokestatic 9, 3) := by decide +kernel
theorem dX3_keep_34 : decode cX3_keep 34 = .ok (.istore 5, 2) := by decide +kernel
theorem dX3_keep_36 : decode cX3_keep 36 = .ok (.aload_n 0, 1) := by decide +kernel
theorem dX3_keep_37 : decode cX3_keep 37 = .ok (.getfield 46, 3) := by decide +kernel
theorem dX3_keep_40 : decode cX3_keep 40 = .ok (.bipush 20, 2) := by decide +kernel
theorem dX3_keep_42 : decode cX3_keep 42 = .ok (.iload 5, 2) := by decide +kernel
theorem dX3_keep_44 : decode cX3_keep 44 = .ok (.isub, 1) := by decide +kernel
theorem dX3_keep_45 : decode cX3_keep 45 = .ok (.iconst 1, 1) := by decide +kernel
theorem dX3_keep_46 : decode cX3_keep 46 = .ok (.aload_n 0, 1) := by decide +kernel
theorem dX3_keep_47 : decode cX3_keep 47 = .ok (.getfield 25, 3) := by decide +kernel
theorem dX3_keep_50 : decode cX3_keep 50 = .ok (.invokevirtual 117, 3) := by decide +kernel
theorem dX3_keep_53 : decode cX3_keep 53 = .ok (.pop, 1) := by decide +kernel
theorem dX3_keep_54 : decode cX3_keep 54 = .ok (.aload_n 0, 1) := by decide +kernel
theorem dX3_keep_55 : decode cX3_keep 55 = .ok (.iload_n 1, 1) := by decide +kernel
theorem dX3_keep_56 : decode cX3_keep 56 = .ok (.iload_n 2, 1) := by decide +kernel
theorem dX3_keep_57 : decode cX3_keep 57 = .ok (.iload_n 3, 1) := by decide +kernel
theorem dX3_keep_58 : decode cX3_keep 58 = .ok (.invokevirtual 107, 3) := by decide +kernel
theorem dX3_keep_61 : decode cX3_keep 61 = .ok (.ireturn, 1) := by decide +kernel
theorem dX3_isZero_0 : decode cX3_isZero 0 = .ok (.iload_n 1, 1) := by decide +kernel
theorem dX3_isZero_1 : decode cX3_isZero 1 = .ok (.istore_n 3, 1) := by decide +kernel
theorem dX3_isZero_2 : decode cX3_isZero 2 = .ok (.iload_n 3, 1) := by decide +kernel
theorem dX3_isZero_3 : decode cX3_isZero 3 = .ok (.iload_n 2, 1) := by decide +kernel
theorem dX3_isZero_4 : decode cX3_isZero 4 = .ok (.if_icmp .ge 17, 3) := by decide +kernel
theorem dX3_isZero_7 : decode cX3_isZero 7 = .ok (.aload_n 0, 1) := by decide +kernel
theorem dX3_isZero_8 : decode cX3_isZero 8 = .ok (.iload_n 3, 1) := by decide +kernel
theorem dX3_isZero_9 : decode cX3_isZero 9 = .ok (.iaload, 1) := by decide +kernel
theorem dX3_isZero_10 : decode cX3_isZero 10 = .ok (.ifCond .eq 5, 3) := by decide +kernel
theorem dX3_isZero_13 : decode cX3_isZero 13 = .ok (.iconst 0, 1) := by decide +kernel
theorem dX3_isZero_14 : decode cX3_isZero 14 = .ok (.ireturn, 1) := by decide +kernel
theorem dX3_isZero_15 : decode cX3_isZero 15 = .ok (.iinc 3 1, 3) := by decide +kernel
theorem dX3_isZero_18 : decode cX3_isZero 18 = .ok (.goto (-16), 3) := by decide +kernel
theorem dX3_isZero_21 : decode cX3_isZero 21 = .ok (.iconst 1, 1) := by decide +kernel
theorem dX3_isZero_22 : decode cX3_isZero 22 = .ok (.ireturn, 1) := by decide +kernel
theorem dX3_store_0 : decode cX3_store 0 = .ok (.iload_n 2, 1) := by decide +kernel
theorem dX3_store_1 : decode cX3_store 1 = .ok (.ifCond .eq 16, 3) := by decide +kernel
theorem dX3_store_4 : decode cX3_store 4 = .ok (.aload_n 0, 1) := by decide +kernel
theorem dX3_store_5 : decode cX3_store 5 = .ok (.getfield 46, 3) := by decide +kernel
theorem dX3_store_8 : decode cX3_store 8 = .ok (.invokevirtual 198, 3) := by decide +kernel
theorem dX3_store_11 : decode cX3_store 11 = .ok (.ifCond .eq 16, 3) := by decide +kernel
theorem dX3_store_14 : decode cX3_store 14 = .ok (.goto 16, 3) := by decide +kernel
theorem dX3_store_17 : decode cX3_store 17 = .ok (.aload_n 0, 1) := by decide +kernel
theorem dX3_store_18 : decode cX3_store 18 = .ok (.getfield 46, 3) := by decide +kernel
theorem dX3_store_21 : decode cX3_store 21 = .ok (.invokevirtual 202, 3) := by decide +kernel
theorem dX3_store_24 : decode cX3_store 24 = .ok (.ifCond .ne 6, 3) := by decide +kernel
theorem dX3_store_27 : decode cX3_store 27 = .ok (.bipush (-13), 2) := by decide +kernel
theorem dX3_store_29 : decode cX3_store 29 = .ok (.ireturn, 1) := by decide +kernel
theorem dX3_store_30 : decode cX3_store 30 = .ok (.aload_n 0, 1) := by decide +kernel
theorem dX3_store_31 : decode cX3_store 31 = .ok (.getfield 30, 3) := by decide +kernel
theorem dX3_store_34 : decode cX3_store 34 = .ok (.iload_n 1, 1) := by decide +kernel
theorem dX3_store_35 : decode cX3_store 35 = .ok (.aaload, 1) := by decide +kernel
theorem dX3_store_36 : decode cX3_store 36 = .ok (.aload_n 0, 1) := by decide +kernel
theorem dX3_store_37 : decode cX3_store 37 = .ok (.getfield 46, 3) := by decide +kernel
theorem dX3_store_40 : decode cX3_store 40 = .ok (.iload_n 2, 1) := by decide +kernel
theorem dX3_store_41 : decode cX3_store 41 = .ok (.iload_n 3, 1) := by decide +kernel
theorem dX3_store_42 : decode cX3_store 42 = .ok (.invokevirtual 138, 3) := by decide +kernel
theorem dX3_store_45 : decode cX3_store 45 = .ok (.iconst 0, 1) := by decide +kernel
theorem dX3_store_46 : decode cX3_store 46 = .ok (.ireturn, 1) := by decide +kernel
theorem dX3_asLong_0 : decode cX3_asLong 0 = .ok (.lconst 0, 1) := by decide +kernel
theorem dX3_asLong_1 : decode cX3_asLong 1 = .ok (.lstore_n 3, 1) := by decide +kernel
theorem dX3_asLong_2 : decode cX3_asLong 2 = .ok (.iload_n 1, 1) := by decide +kernel
theorem dX3_asLong_3 : decode cX3_asLong 3 = .ok (.iload_n 2, 1) := by decide +kernel
theorem dX3_asLong_4 : decode cX3_asLong 4 = .ok (.iadd, 1) := by decide +kernel
theorem dX3_asLong_5 : decode cX3_asLong 5 = .ok (.iconst 1, 1) := by decide +kernel
theorem dX3_asLong_6 : decode cX3_asLong 6 = .ok (.isub, 1) := by decide +kernel
theorem dX3_asLong_7 : decode cX3_asLong 7 = .ok (.istore 5, 2) := by decide +kernel
theorem dX3_asLong_9 : decode cX3_asLong 9 = .ok (.iload 5, 2) := by decide +kernel
theorem dX3_asLong_11 : decode cX3_asLong 11 = .ok (.iload_n 1, 1) := by decide +kernel
theorem dX3_asLong_12 : decode cX3_asLong 12 = .ok (.if_icmp .lt 21, 3) := by decide +kernel
theorem dX3_asLong_15 : decode cX3_asLong 15 = .ok (.lload_n 3, 1) := by decide +kernel
theorem dX3_asLong_16 : decode cX3_asLong 16 = .ok (.ldc2_w 232, 3) := by decide +kernel
theorem dX3_asLong_19 : decode cX3_asLong 19 = .ok (.lmul, 1) := by decide +kernel
theorem dX3_asLong_20 : decode cX3_asLong 20 = .ok (.aload_n 0, 1) := by decide +kernel
theorem dX3_asLong_21 : decode cX3_asLong 21 = .ok (.iload 5, 2) := by decide +kernel
theorem dX3_asLong_23 : decode cX3_asLong 23 = .ok (.iaload, 1) := by decide +kernel
theorem dX3_asLong_24 : decode cX3_asLong 24 = .ok (.i2l, 1) := by decide +kernel
theorem dX3_asLong_25 : decode cX3_asLong 25 = .ok (.ladd, 1) := by decide +kernel
theorem dX3_asLong_26 : decode cX3_asLong 26 = .ok (.lstore_n 3, 1) := by decide +kernel
theorem dX3_asLong_27 : decode cX3_asLong 27 = .ok (.iinc 5 (-1), 3) := by decide +kernel
theorem dX3_asLong_30 : decode cX3_asLong 30 = .ok (.goto (-21), 3) := by decide +kernel
theorem dX3_asLong_33 : decode cX3_asLong 33 = .ok (.lload_n 3, 1) := by decide +kernel
theorem dX3_asLong_34 : decode cX3_asLong 34 = .ok (.lreturn, 1) := by decide +kernel
theorem dX3_add_0 : decode cX3_add 0 = .ok (.aload_n 0, 1) := by decide +kernel
theorem dX3_add_1 : decode cX3_add 1 = .ok (.iload_n 1, 1) := by decide +kernel
theorem dX3_add_2 : decode cX3_add 2 = .ok (.iload_n 2, 1) := by decide +kernel
theorem dX3_add_3 : decode cX3_add 3 = .ok (.iload_n 3, 1) := by decide +kernel
theorem dX3_add_4 : decode cX3_add 4 = .ok (.iconst 0, 1) := by decide +kernel
theorem dX3_add_5 : decode cX3_add 5 = .ok (.invokevirtual 75, 3) := by decide +kernel
theorem dX3_add_8 : decode cX3_add 8 = .ok (.ireturn, 1) := by decide +kernel
theorem dX3_combine_0 : decode cX3_combine 0 = .ok (.iload_n 1, 1) := by decide +kernel
theorem dX3_combine_1 : decode cX3_combine 1 = .ok (.invokestatic 60, 3) := by decide +kernel
theorem dX3_combine_4 : decode cX3_combine 4 = .ok (.ifCond .eq 17, 3) := by decide +kernel
theorem dX3_combine_7 : decode cX3_combine 7 = .ok (.iload_n 2, 1) := by decide +kernel
theorem dX3_combine_8 : decode cX3_combine 8 = .ok (.invokestatic 60, 3) := by decide +kernel
theorem dX3_combine_11 : decode cX3_combine 11 = .ok (.ifCond .eq 10, 3) := by decide +kernel
theorem dX3_combine_14 : decode cX3_combine 14 = .ok (.iload_n 3, 1) := by decide +kernel
theorem dX3_combine_15 : decode cX3_combine 15 = .ok (.invokestatic 60, 3) := by decide +kernel
theorem dX3_combine_18 : decode cX3_combine 18 = .ok (.ifCond .ne 6, 3) := by decide +kernel
theorem dX3_combine_21 : decode cX3_combine 21 = .ok (.bipush (-15), 2) := by decide +kernel
theorem dX3_combine_23 : decode cX3_combine 23 = .ok (.ireturn, 1) := by decide +kernel
theorem dX3_combine_24 : decode cX3_combine 24 = .ok (.aload_n 0, 1) := by decide +kernel
theorem dX3_combine_25 : decode cX3_combine 25 = .ok (.getfield 30, 3) := by decide +kernel
theorem dX3_combine_28 : decode cX3_combine 28 = .ok (.iload_n 2, 1) := by decide +kernel
theorem dX3_combine_29 : decode cX3_combine 29 = .ok (.aaload, 1) := by decide +kernel
theorem dX3_combine_30 : decode cX3_combine 30 = .ok (.astore 5, 2) := by decide +kernel
theorem dX3_combine_32 : decode cX3_combine 32 = .ok (.aload_n 0, 1) := by decide +kernel
theorem dX3_combine_33 : decode cX3_combine 33 = .ok (.getfield 30, 3) := by decide +kernel
theorem dX3_combine_36 : decode cX3_combine 36 = .ok (.iload_n 3, 1) := by decide +kernel
theorem dX3_combine_37 : decode cX3_combine 37 = .ok (.aaload, 1) := by decide +kernel
theorem dX3_combine_38 : decode cX3_combine 38 = .ok (.astore 6, 2) := by decide +kernel
theorem dX3_combine_40 : decode cX3_combine 40 = .ok (.aload 5, 2) := by decide +kernel
theorem dX3_combine_42 : decode cX3_combine 42 = .ok (.getfield 79, 3) := by decide +kernel
theorem dX3_combine_45 : decode cX3_combine 45 = .ok (.ifCond .eq 11, 3) := by decide +kernel
theorem dX3_combine_48 : decode cX3_combine 48 = .ok (.aload 6, 2) := by decide +kernel
theorem dX3_combine_50 : decode cX3_combine 50 = .ok (.getfield 79, 3) := by decide +kernel
theorem dX3_combine_53 : decode cX3_combine 53 = .ok (.ifCond .ne 6, 3) := by decide +kernel
theorem dX3_combine_56 : decode cX3_combine 56 = .ok (.bipush (-11), 2) := by decide +kernel
theorem dX3_combine_58 : decode cX3_combine 58 = .ok (.ireturn, 1) := by decide +kernel
theorem dX3_combine_59 : decode cX3_combine 59 = .ok (.aload 5, 2) := by decide +kernel
theorem dX3_combine_61 : decode cX3_combine 61 = .ok (.aload 6, 2) := by decide +kernel
theorem dX3_combine_63 : decode cX3_combine 63 = .ok (.invokevirtual 142, 3) := by decide +kernel
theorem dX3_combine_66 : decode cX3_combine 66 = .ok (.ifCond .ne 6, 3) := by decide +kernel
theorem dX3_combine_69 : decode cX3_combine 69 = .ok (.bipush (-12), 2) := by decide +kernel
theorem dX3_combine_71 : decode cX3_combine 71 = .ok (.ireturn, 1) := by decide +kernel
theorem dX3_combine_72 : decode cX3_combine 72 = .ok (.aload 6, 2) := by decide +kernel
theorem dX3_combine_74 : decode cX3_combine 74 = .ok (.getfield 86, 3) := by decide +kernel
theorem dX3_combine_77 : decode cX3_combine 77 = .ok (.iload 4, 2) := by decide +kernel
theorem dX3_combine_79 : decode cX3_combine 79 = .ok (.if_icmp .eq 7, 3) := by decide +kernel
theorem dX3_combine_82 : decode cX3_combine 82 = .ok (.iconst 1, 1) := by decide +kernel
theorem dX3_combine_83 : decode cX3_combine 83 = .ok (.goto 4, 3) := by decide +kernel
theorem dX3_combine_86 : decode cX3_combine 86 = .ok (.iconst 0, 1) := by decide +kernel
theorem dX3_combine_87 : decode cX3_combine 87 = .ok (.istore 7, 2) := by decide +kernel
theorem dX3_combine_89 : decode cX3_combine 89 = .ok (.aload 5, 2) := by decide +kernel
theorem dX3_combine_91 : decode cX3_combine 91 = .ok (.getfield 86, 3) := by decide +kernel
theorem dX3_combine_94 : decode cX3_combine 94 = .ok (.iload 7, 2) := by decide +kernel
theorem dX3_combine_96 : decode cX3_combine 96 = .ok (.if_icmp .ne 40, 3) := by decide +kernel
theorem dX3_combine_99 : decode cX3_combine 99 = .ok (.aload_n 0, 1) := by decide +kernel
theorem dX3_combine_100 : decode cX3_combine 100 = .ok (.getfield 46, 3) := by decide +kernel
theorem dX3_combine_103 : decode cX3_combine 103 = .ok (.aload 5, 2) := by decide +kernel
theorem dX3_combine_105 : decode cX3_combine 105 = .ok (.getfield 83, 3) := by decide +kernel
theorem dX3_combine_108 : decode cX3_combine 108 = .ok (.bipush 10, 2) := by decide +kernel
theorem dX3_combine_110 : decode cX3_combine 110 = .ok (.aload 5, 2) := by decide +kernel
theorem dX3_combine_112 : decode cX3_combine 112 = .ok (.getfield 86, 3) := by decide +kernel
theorem dX3_combine_115 : decode cX3_combine 115 = .ok (.invokevirtual 89, 3) := by decide +kernel
theorem dX3_combine_118 : decode cX3_combine 118 = .ok (.aload_n 0, 1) := by decide +kernel
theorem dX3_combine_119 : decode cX3_combine 119 = .ok (.getfield 46, 3) := by decide +kernel
theorem dX3_combine_122 : decode cX3_combine 122 = .ok (.aload 6, 2) := by decide +kernel
theorem dX3_combine_124 : decode cX3_combine 124 = .ok (.getfield 83, 3) := by decide +kernel
theorem dX3_combine_127 : decode cX3_combine 127 = .ok (.bipush 10, 2) := by decide +kernel
theorem dX3_combine_129 : decode cX3_combine 129 = .ok (.iconst 1, 1) := by decide +kernel
theorem dX3_combine_130 : decode cX3_combine 130 = .ok (.invokevirtual 191, 3) := by decide +kernel
theorem dX3_combine_133 : decode cX3_combine 133 = .ok (.goto 87, 3) := by decide +kernel
theorem dX3_combine_136 : decode cX3_combine 136 = .ok (.aload 5, 2) := by decide +kernel
theorem dX3_combine_138 : decode cX3_combine 138 = .ok (.getfield 83, 3) := by decide +kernel
theorem dX3_combine_141 : decode cX3_combine 141 = .ok (.aload 6, 2) := by decide +kernel
theorem dX3_combine_143 : decode cX3_combine 143 = .ok (.getfield 83, 3) := by decide +kernel
theorem dX3_combine_146 : decode cX3_combine 146 = .ok (.invokestatic 146, 3) := by decide +kernel
theorem dX3_combine_149 : decode cX3_combine 149 = .ok (.ifCond .lt 40, 3) := by decide +kernel
theorem dX3_combine_152 : decode cX3_combine 152 = .ok (.aload_n 0, 1) := by decide +kernel
theorem dX3_combine_153 : decode cX3_combine 153 = .ok (.getfield 46, 3) := by decide +kernel
theorem dX3_combine_156 : decode cX3_combine 156 = .ok (.aload 5, 2) := by decide +kernel
theorem dX3_combine_158 : decode cX3_combine 158 = .ok (.getfield 83, 3) := by decide +kernel
theorem dX3_combine_161 : decode cX3_combine 161 = .ok (.bipush 10, 2) := by decide +kernel
theorem dX3_combine_163 : decode cX3_combine 163 = .ok (.aload 5, 2) := by decide +kernel
theorem dX3_combine_165 : decode cX3_combine 165 = .ok (.getfield 86, 3) := by decide +kernel
theorem dX3_combine_168 : decode cX3_combine 168 = .ok (.invokevirtual 89, 3) := by decide +kernel
theorem dX3_combine_171 : decode cX3_combine 171 = .ok (.aload_n 0, 1) := by decide +kernel
theorem dX3_combine_172 : decode cX3_combine 172 = .ok (.getfield 46, 3) := by decide +kernel
theorem dX3_combine_175 : decode cX3_combine 175 = .ok (.aload 6, 2) := by decide +kernel
theorem dX3_combine_177 : decode cX3_combine 177 = .ok (.getfield 83, 3) := by decide +kernel
theorem dX3_combine_180 : decode cX3_combine 180 = .ok (.bipush 10, 2) := by decide +kernel
theorem dX3_combine_182 : decode cX3_combine 182 = .ok (.iconst (-1), 1) := by decide +kernel
theorem dX3_combine_183 : decode cX3_combine 183 = .ok (.invokevirtual 191, 3) := by decide +kernel
theorem dX3_combine_186 : decode cX3_combine 186 = .ok (.goto 34, 3) := by decide +kernel
theorem dX3_combine_189 : decode cX3_combine 189 = .ok (.aload_n 0, 1) := by decide +kernel
theorem dX3_combine_190 : decode cX3_combine 190 = .ok (.getfield 46, 3) := by decide +kernel
theorem dX3_combine_193 : decode cX3_combine 193 = .ok (.aload 6, 2) := by decide +kernel
theorem dX3_combine_195 : decode cX3_combine 195 = .ok (.getfield 83, 3) := by decide +kernel
theorem dX3_combine_198 : decode cX3_combine 198 = .ok (.bipush 10, 2) := by decide +kernel
theorem dX3_combine_200 : decode cX3_combine 200 = .ok (.iload 7, 2) := by decide +kernel
theorem dX3_combine_202 : decode cX3_combine 202 = .ok (.invokevirtual 89, 3) := by decide +kernel
theorem dX3_combine_205 : decode cX3_combine 205 = .ok (.aload_n 0, 1) := by decide +kernel
theorem dX3_combine_206 : decode cX3_combine 206 = .ok (.getfield 46, 3) := by decide +kernel
theorem dX3_combine_209 : decode cX3_combine 209 = .ok (.aload 5, 2) := by decide +kernel
theorem dX3_combine_211 : decode cX3_combine 211 = .ok (.getfield 83, 3) := by decide +kernel
theorem dX3_combine_214 : decode cX3_combine 214 = .ok (.bipush 10, 2) := by decide +kernel
theorem dX3_combine_216 : decode cX3_combine 216 = .ok (.iconst (-1), 1) := by decide +kernel
theorem dX3_combine_217 : decode cX3_combine 217 = .ok (.invokevirtual 191, 3) := by decide +kernel
theorem dX3_combine_220 : decode cX3_combine 220 = .ok (.aload_n 0, 1) := by decide +kernel
theorem dX3_combine_221 : decode cX3_combine 221 = .ok (.iload_n 1, 1) := by decide +kernel
theorem dX3_combine_222 : decode cX3_combine 222 = .ok (.aload 5, 2) := by decide +kernel
theorem dX3_combine_224 : decode cX3_combine 224 = .ok (.getfield 97, 3) := by decide +kernel
theorem dX3_combine_227 : decode cX3_combine 227 = .ok (.aload 5, 2) := by decide +kernel
theorem dX3_combine_229 : decode cX3_combine 229 = .ok (.getfield 100, 3) := by decide +kernel
theorem dX3_combine_232 : decode cX3_combine 232 = .ok (.invokevirtual 71, 3) := by decide +kernel
theorem dX3_combine_235 : decode cX3_combine 235 = .ok (.ireturn, 1) := by decide +kernel
theorem dX3_compareRows_0 : decode cX3_compareRows 0 = .ok (.bipush 35, 2) := by decide +kernel
theorem dX3_compareRows_2 : decode cX3_compareRows 2 = .ok (.istore_n 2, 1) := by decide +kernel
theorem dX3_compareRows_3 : decode cX3_compareRows 3 = .ok (.iload_n 2, 1) := by decide +kernel
theorem dX3_compareRows_4 : decode cX3_compareRows 4 = .ok (.ifCond .lt 33, 3) := by decide +kernel
theorem dX3_compareRows_7 : decode cX3_compareRows 7 = .ok (.aload_n 0, 1) := by decide +kernel
theorem dX3_compareRows_8 : decode cX3_compareRows 8 = .ok (.iload_n 2, 1) := by decide +kernel
theorem dX3_compareRows_9 : decode cX3_compareRows 9 = .ok (.iaload, 1) := by decide +kernel
theorem dX3_compareRows_10 : decode cX3_compareRows 10 = .ok (.aload_n 1, 1) := by decide +kernel
theorem dX3_compareRows_11 : decode cX3_compareRows 11 = .ok (.iload_n 2, 1) := by decide +kernel
theorem dX3_compareRows_12 : decode cX3_compareRows 12 = .ok (.iaload, 1) := by decide +kernel
theorem dX3_compareRows_13 : decode cX3_compareRows 13 = .ok (.if_icmp .eq 18, 3) := by decide +kernel
theorem dX3_compareRows_16 : decode cX3_compareRows 16 = .ok (.aload_n 0, 1) := by decide +kernel
theorem dX3_compareRows_17 : decode cX3_compareRows 17 = .ok (.iload_n 2, 1) := by decide +kernel
theorem dX3_compareRows_18 : decode cX3_compareRows 18 = .ok (.iaload, 1) := by decide +kernel
theorem dX3_compareRows_19 : decode cX3_compareRows 19 = .ok (.aload_n 1, 1) := by decide +kernel
theorem dX3_compareRows_20 : decode cX3_compareRows 20 = .ok (.iload_n 2, 1) := by decide +kernel
theorem dX3_compareRows_21 : decode cX3_compareRows 21 = .ok (.iaload, 1) := by decide +kernel
theorem dX3_compareRows_22 : decode cX3_compareRows 22 = .ok (.if_icmp .ge 7, 3) := by decide +kernel
theorem dX3_compareRows_25 : decode cX3_compareRows 25 = .ok (.iconst (-1), 1) := by decide +kernel
theorem dX3_compareRows_26 : decode cX3_compareRows 26 = .ok (.goto 4, 3) := by decide +kernel
theorem dX3_compareRows_29 : decode cX3_compareRows 29 = .ok (.iconst 1, 1) := by decide +kernel
theorem dX3_compareRows_30 : decode cX3_compareRows 30 = .ok (.ireturn, 1) := by decide +kernel
theorem dX3_compareRows_31 : decode cX3_compareRows 31 = .ok (.iinc 2 (-1), 3) := by decide +kernel
theorem dX3_compareRows_34 : decode cX3_compareRows 34 = .ok (.goto (-31), 3) := by decide +kernel
theorem dX3_compareRows_37 : decode cX3_compareRows 37 = .ok (.iconst 0, 1) := by decide +kernel
theorem dX3_compareRows_38 : decode cX3_compareRows 38 = .ok (.ireturn, 1) := by decide +kernel
theorem dX3_subtract_0 : decode cX3_subtract 0 = .ok (.aload_n 0, 1) := by decide +kernel
theorem dX3_subtract_1 : decode cX3_subtract 1 = .ok (.iload_n 1, 1) := by decide +kernel
theorem dX3_subtract_2 : decode cX3_subtract 2 = .ok (.iload_n 2, 1) := by decide +kernel
theorem dX3_subtract_3 : decode cX3_subtract 3 = .ok (.iload_n 3, 1) := by decide +kernel
theorem dX3_subtract_4 : decode cX3_subtract 4 = .ok (.iconst 1, 1) := by decide +kernel
theorem dX3_subtract_5 : decode cX3_subtract 5 = .ok (.invokevirtual 75, 3) := by decide +kernel
theorem dX3_subtract_8 : decode cX3_subtract 8 = .ok (.ireturn, 1) := by decide +kernel
theorem dX3_multiply_0 : decode cX3_multiply 0 = .ok (.iload_n 1, 1) := by decide +kernel
theorem dX3_multiply_1 : decode cX3_multiply 1 = .ok (.invokestatic 60, 3) := by decide +kernel
theorem dX3_multiply_4 : decode cX3_multiply 4 = .ok (.ifCond .eq 18, 3) := by decide +kernel
theorem dX3_multiply_7 : decode cX3_multiply 7 = .ok (.iload_n 2, 1) := by decide +kernel
theorem dX3_multiply_8 : decode cX3_multiply 8 = .ok (.invokestatic 60, 3) := by decide +kernel
theorem dX3_multiply_11 : decode cX3_multiply 11 = .ok (.ifCond .eq 11, 3) := by decide +kernel
theorem dX3_multiply_14 : decode cX3_multiply 14 = .ok (.iload 5, 2) := by decide +kernel
theorem dX3_multiply_16 : decode cX3_multiply 16 = .ok (.invokestatic 64, 3) := by decide +kernel
theorem dX3_multiply_19 : decode cX3_multiply 19 = .ok (.ifCond .ne 6, 3) := by decide +kernel
theorem dX3_multiply_22 : decode cX3_multiply 22 = .ok (.bipush (-15), 2) := by decide +kernel
theorem dX3_multiply_24 : decode cX3_multiply 24 = .ok (.ireturn, 1) := by decide +kernel
theorem dX3_multiply_25 : decode cX3_multiply 25 = .ok (.aload_n 0, 1) := by decide +kernel
theorem dX3_multiply_26 : decode cX3_multiply 26 = .ok (.getfield 30, 3) := by decide +kernel
theorem dX3_multiply_29 : decode cX3_multiply 29 = .ok (.iload_n 2, 1) := by decide +kernel
theorem dX3_multiply_30 : decode cX3_multiply 30 = .ok (.aaload, 1) := by decide +kernel
theorem dX3_multiply_31 : decode cX3_multiply 31 = .ok (.astore 6, 2) := by decide +kernel
theorem dX3_multiply_33 : decode cX3_multiply 33 = .ok (.aload 6, 2) := by decide +kernel
theorem dX3_multiply_35 : decode cX3_multiply 35 = .ok (.getfield 79, 3) := by decide +kernel
theorem dX3_multiply_38 : decode cX3_multiply 38 = .ok (.ifCond .ne 6, 3) := by decide +kernel
theorem dX3_multiply_41 : decode cX3_multiply 41 = .ok (.bipush (-11), 2) := by decide +kernel
theorem dX3_multiply_43 : decode cX3_multiply 43 = .ok (.ireturn, 1) := by decide +kernel
theorem dX3_multiply_44 : decode cX3_multiply 44 = .ok (.aload_n 0, 1) := by decide +kernel
theorem dX3_multiply_45 : decode cX3_multiply 45 = .ok (.getfield 46, 3) := by decide +kernel
theorem dX3_multiply_48 : decode cX3_multiply 48 = .ok (.aload 6, 2) := by decide +kernel
theorem dX3_multiply_50 : decode cX3_multiply 50 = .ok (.getfield 83, 3) := by decide +kernel
theorem dX3_multiply_53 : decode cX3_multiply 53 = .ok (.bipush 10, 2) := by decide +kernel
theorem dX3_multiply_55 : decode cX3_multiply 55 = .ok (.iload 5, 2) := by decide +kernel
theorem dX3_multiply_57 : decode cX3_multiply 57 = .ok (.isub, 1) := by decide +kernel
theorem dX3_multiply_58 : decode cX3_multiply 58 = .ok (.aload 6, 2) := by decide +kernel
theorem dX3_multiply_60 : decode cX3_multiply 60 = .ok (.getfield 86, 3) := by decide +kernel
theorem dX3_multiply_63 : decode cX3_multiply 63 = .ok (.invokevirtual 89, 3) := by decide +kernel
theorem dX3_multiply_66 : decode cX3_multiply 66 = .ok (.aload_n 0, 1) := by decide +kernel
theorem dX3_multiply_67 : decode cX3_multiply 67 = .ok (.getfield 46, 3) := by decide +kernel
theorem dX3_multiply_70 : decode cX3_multiply 70 = .ok (.lload_n 3, 1) := by decide +kernel
theorem dX3_multiply_71 : decode cX3_multiply 71 = .ok (.invokevirtual 93, 3) := by decide +kernel
theorem dX3_multiply_74 : decode cX3_multiply 74 = .ok (.aload_n 0, 1) := by decide +kernel
theorem dX3_multiply_75 : decode cX3_multiply 75 = .ok (.iload_n 1, 1) := by decide +kernel
theorem dX3_multiply_76 : decode cX3_multiply 76 = .ok (.aload 6, 2) := by decide +kernel
theorem dX3_multiply_78 : decode cX3_multiply 78 = .ok (.getfield 97, 3) := by decide +kernel
theorem dX3_multiply_81 : decode cX3_multiply 81 = .ok (.aload 6, 2) := by decide +kernel
theorem dX3_multiply_83 : decode cX3_multiply 83 = .ok (.getfield 100, 3) := by decide +kernel
theorem dX3_multiply_86 : decode cX3_multiply 86 = .ok (.invokevirtual 71, 3) := by decide +kernel
theorem dX3_multiply_89 : decode cX3_multiply 89 = .ok (.ireturn, 1) := by decide +kernel
theorem dX3_divide_0 : decode cX3_divide 0 = .ok (.iload_n 1, 1) := by decide +kernel
theorem dX3_divide_1 : decode cX3_divide 1 = .ok (.invokestatic 60, 3) := by decide +kernel
theorem dX3_divide_4 : decode cX3_divide 4 = .ok (.ifCond .eq 18, 3) := by decide +kernel
theorem dX3_divide_7 : decode cX3_divide 7 = .ok (.iload_n 2, 1) := by decide +kernel
theorem dX3_divide_8 : decode cX3_divide 8 = .ok (.invokestatic 60, 3) := by decide +kernel
theorem dX3_divide_11 : decode cX3_divide 11 = .ok (.ifCond .eq 11, 3) := by decide +kernel
theorem dX3_divide_14 : decode cX3_divide 14 = .ok (.iload 5, 2) := by decide +kernel
theorem dX3_divide_16 : decode cX3_divide 16 = .ok (.invokestatic 64, 3) := by decide +kernel
theorem dX3_divide_19 : decode cX3_divide 19 = .ok (.ifCond .ne 6, 3) := by decide +kernel
theorem dX3_divide_22 : decode cX3_divide 22 = .ok (.bipush (-15), 2) := by decide +kernel
theorem dX3_divide_24 : decode cX3_divide 24 = .ok (.ireturn, 1) := by decide +kernel
theorem dX3_divide_25 : decode cX3_divide 25 = .ok (.aload_n 0, 1) := by decide +kernel
theorem dX3_divide_26 : decode cX3_divide 26 = .ok (.getfield 30, 3) := by decide +kernel
theorem dX3_divide_29 : decode cX3_divide 29 = .ok (.iload_n 2, 1) := by decide +kernel
theorem dX3_divide_30 : decode cX3_divide 30 = .ok (.aaload, 1) := by decide +kernel
theorem dX3_divide_31 : decode cX3_divide 31 = .ok (.astore 6, 2) := by decide +kernel
theorem dX3_divide_33 : decode cX3_divide 33 = .ok (.aload 6, 2) := by decide +kernel
theorem dX3_divide_35 : decode cX3_divide 35 = .ok (.getfield 79, 3) := by decide +kernel
theorem dX3_divide_38 : decode cX3_divide 38 = .ok (.ifCond .ne 6, 3) := by decide +kernel
theorem dX3_divide_41 : decode cX3_divide 41 = .ok (.bipush (-11), 2) := by decide +kernel
theorem dX3_divide_43 : decode cX3_divide 43 = .ok (.ireturn, 1) := by decide +kernel
theorem dX3_divide_44 : decode cX3_divide 44 = .ok (.lload_n 3, 1) := by decide +kernel
theorem dX3_divide_45 : decode cX3_divide 45 = .ok (.lconst 0, 1) := by decide +kernel
theorem dX3_divide_46 : decode cX3_divide 46 = .ok (.lcmp, 1) := by decide +kernel
theorem dX3_divide_47 : decode cX3_divide 47 = .ok (.ifCond .ne 6, 3) := by decide +kernel
theorem dX3_divide_50 : decode cX3_divide 50 = .ok (.bipush (-14), 2) := by decide +kernel
theorem dX3_divide_52 : decode cX3_divide 52 = .ok (.ireturn, 1) := by decide +kernel
theorem dX3_divide_53 : decode cX3_divide 53 = .ok (.aload_n 0, 1) := by decide +kernel
theorem dX3_divide_54 : decode cX3_divide 54 = .ok (.getfield 46, 3) := by decide +kernel
theorem dX3_divide_57 : decode cX3_divide 57 = .ok (.aload 6, 2) := by decide +kernel
theorem dX3_divide_59 : decode cX3_divide 59 = .ok (.getfield 83, 3) := by decide +kernel
theorem dX3_divide_62 : decode cX3_divide 62 = .ok (.bipush 10, 2) := by decide +kernel
theorem dX3_divide_64 : decode cX3_divide 64 = .ok (.iload 5, 2) := by decide +kernel
theorem dX3_divide_66 : decode cX3_divide 66 = .ok (.iadd, 1) := by decide +kernel
theorem dX3_divide_67 : decode cX3_divide 67 = .ok (.aload 6, 2) := by decide +kernel
theorem dX3_divide_69 : decode cX3_divide 69 = .ok (.getfield 86, 3) := by decide +kernel
theorem dX3_divide_72 : decode cX3_divide 72 = .ok (.invokevirtual 89, 3) := by decide +kernel
theorem dX3_divide_75 : decode cX3_divide 75 = .ok (.aload_n 0, 1) := by decide +kernel
theorem dX3_divide_76 : decode cX3_divide 76 = .ok (.getfield 46, 3) := by decide +kernel
theorem dX3_divide_79 : decode cX3_divide 79 = .ok (.lload_n 3, 1) := by decide +kernel
theorem dX3_divide_80 : decode cX3_divide 80 = .ok (.iconst 0, 1) := by decide +kernel
theorem dX3_divide_81 : decode cX3_divide 81 = .ok (.invokevirtual 103, 3) := by decide +kernel
theorem dX3_divide_84 : decode cX3_divide 84 = .ok (.pop2, 1) := by decide +kernel
theorem dX3_divide_85 : decode cX3_divide 85 = .ok (.aload_n 0, 1) := by decide +kernel
theorem dX3_divide_86 : decode cX3_divide 86 = .ok (.iload_n 1, 1) := by decide +kernel
theorem dX3_divide_87 : decode cX3_divide 87 = .ok (.aload 6, 2) := by decide +kernel
theorem dX3_divide_89 : decode cX3_divide 89 = .ok (.getfield 97, 3) := by decide +kernel
theorem dX3_divide_92 : decode cX3_divide 92 = .ok (.aload 6, 2) := by decide +kernel
theorem dX3_divide_94 : decode cX3_divide 94 = .ok (.getfield 100, 3) := by decide +kernel
theorem dX3_divide_97 : decode cX3_divide 97 = .ok (.invokevirtual 71, 3) := by decide +kernel
theorem dX3_divide_100 : decode cX3_divide 100 = .ok (.ireturn, 1) := by decide +kernel
theorem dX3_negate_0 : decode cX3_negate 0 = .ok (.iload_n 1, 1) := by decide +kernel
theorem dX3_negate_1 : decode cX3_negate 1 = .ok (.invokestatic 60, 3) := by decide +kernel
theorem dX3_negate_4 : decode cX3_negate 4 = .ok (.ifCond .eq 10, 3) := by decide +kernel
theorem dX3_negate_7 : decode cX3_negate 7 = .ok (.iload_n 2, 1) := by decide +kernel
theorem dX3_negate_8 : decode cX3_negate 8 = .ok (.invokestatic 60, 3) := by decide +kernel
theorem dX3_negate_11 : decode cX3_negate 11 = .ok (.ifCond .ne 6, 3) := by decide +kernel
theorem dX3_negate_14 : decode cX3_negate 14 = .ok (.bipush (-15), 2) := by decide +kernel
theorem dX3_negate_16 : decode cX3_negate 16 = .ok (.ireturn, 1) := by decide +kernel
theorem dX3_negate_17 : decode cX3_negate 17 = .ok (.aload_n 0, 1) := by decide +kernel
theorem dX3_negate_18 : decode cX3_negate 18 = .ok (.getfield 30, 3) := by decide +kernel
theorem dX3_negate_21 : decode cX3_negate 21 = .ok (.iload_n 2, 1) := by decide +kernel
theorem dX3_negate_22 : decode cX3_negate 22 = .ok (.aaload, 1) := by decide +kernel
theorem dX3_negate_23 : decode cX3_negate 23 = .ok (.astore_n 3, 1) := by decide +kernel
theorem dX3_negate_24 : decode cX3_negate 24 = .ok (.aload_n 3, 1) := by decide +kernel
theorem dX3_negate_25 : decode cX3_negate 25 = .ok (.getfield 79, 3) := by decide +kernel
theorem dX3_negate_28 : decode cX3_negate 28 = .ok (.ifCond .ne 6, 3) := by decide +kernel
theorem dX3_negate_31 : decode cX3_negate 31 = .ok (.bipush (-11), 2) := by decide +kernel
theorem dX3_negate_33 : decode cX3_negate 33 = .ok (.ireturn, 1) := by decide +kernel
theorem dX3_negate_34 : decode cX3_negate 34 = .ok (.aload_n 0, 1) := by decide +kernel
theorem dX3_negate_35 : decode cX3_negate 35 = .ok (.getfield 46, 3) := by decide +kernel
theorem dX3_negate_38 : decode cX3_negate 38 = .ok (.aload_n 3, 1) := by decide +kernel
theorem dX3_negate_39 : decode cX3_negate 39 = .ok (.getfield 83, 3) := by decide +kernel
theorem dX3_negate_42 : decode cX3_negate 42 = .ok (.bipush 10, 2) := by decide +kernel
theorem dX3_negate_44 : decode cX3_negate 44 = .ok (.aload_n 3, 1) := by decide +kernel
theorem dX3_negate_45 : decode cX3_negate 45 = .ok (.getfield 86, 3) := by decide +kernel
theorem dX3_negate_48 : decode cX3_negate 48 = .ok (.ifCond .ne 7, 3) := by decide +kernel
theorem dX3_negate_51 : decode cX3_negate 51 = .ok (.iconst 1, 1) := by decide +kernel
theorem dX3_negate_52 : decode cX3_negate 52 = .ok (.goto 4, 3) := by decide +kernel
theorem dX3_negate_55 : decode cX3_negate 55 = .ok (.iconst 0, 1) := by decide +kernel
theorem dX3_negate_56 : decode cX3_negate 56 = .ok (.invokevirtual 89, 3) := by decide +kernel
theorem dX3_negate_59 : decode cX3_negate 59 = .ok (.aload_n 0, 1) := by decide +kernel
theorem dX3_negate_60 : decode cX3_negate 60 = .ok (.iload_n 1, 1) := by decide +kernel
theorem dX3_negate_61 : decode cX3_negate 61 = .ok (.aload_n 3, 1) := by decide +kernel
theorem dX3_negate_62 : decode cX3_negate 62 = .ok (.getfield 97, 3) := by decide +kernel
theorem dX3_negate_65 : decode cX3_negate 65 = .ok (.aload_n 3, 1) := by decide +kernel
theorem dX3_negate_66 : decode cX3_negate 66 = .ok (.getfield 100, 3) := by decide +kernel
theorem dX3_negate_69 : decode cX3_negate 69 = .ok (.invokevirtual 107, 3) := by decide +kernel
theorem dX3_negate_72 : decode cX3_negate 72 = .ok (.ireturn, 1) := by decide +kernel
theorem dX3_round_0 : decode cX3_round 0 = .ok (.iload_n 1, 1) := by decide +kernel
theorem dX3_round_1 : decode cX3_round 1 = .ok (.invokestatic 60, 3) := by decide +kernel
theorem dX3_round_4 : decode cX3_round 4 = .ok (.ifCond .eq 20, 3) := by decide +kernel
theorem dX3_round_7 : decode cX3_round 7 = .ok (.iload_n 2, 1) := by decide +kernel
theorem dX3_round_8 : decode cX3_round 8 = .ok (.invokestatic 60, 3) := by decide +kernel
theorem dX3_round_11 : decode cX3_round 11 = .ok (.ifCond .eq 13, 3) := by decide +kernel
theorem dX3_round_14 : decode cX3_round 14 = .ok (.iload_n 3, 1) := by decide +kernel
theorem dX3_round_15 : decode cX3_round 15 = .ok (.ifCond .lt 9, 3) := by decide +kernel
theorem dX3_round_18 : decode cX3_round 18 = .ok (.iload_n 3, 1) := by decide +kernel
theorem dX3_round_19 : decode cX3_round 19 = .ok (.bipush 8, 2) := by decide +kernel
theorem dX3_round_21 : decode cX3_round 21 = .ok (.if_icmp .lt 6, 3) := by decide +kernel
theorem dX3_round_24 : decode cX3_round 24 = .ok (.bipush (-15), 2) := by decide +kernel
theorem dX3_round_26 : decode cX3_round 26 = .ok (.ireturn, 1) := by decide +kernel
theorem dX3_round_27 : decode cX3_round 27 = .ok (.aload_n 0, 1) := by decide +kernel
theorem dX3_round_28 : decode cX3_round 28 = .ok (.getfield 30, 3) := by decide +kernel
theorem dX3_round_31 : decode cX3_round 31 = .ok (.iload_n 2, 1) := by decide +kernel
theorem dX3_round_32 : decode cX3_round 32 = .ok (.aaload, 1) := by decide +kernel
theorem dX3_round_33 : decode cX3_round 33 = .ok (.astore 5, 2) := by decide +kernel
theorem dX3_round_35 : decode cX3_round 35 = .ok (.aload 5, 2) := by decide +kernel
theorem dX3_round_37 : decode cX3_round 37 = .ok (.getfield 79, 3) := by decide +kernel
theorem dX3_round_40 : decode cX3_round 40 = .ok (.ifCond .ne 6, 3) := by decide +kernel
theorem dX3_round_43 : decode cX3_round 43 = .ok (.bipush (-11), 2) := by decide +kernel
theorem dX3_round_45 : decode cX3_round 45 = .ok (.ireturn, 1) := by decide +kernel
theorem dX3_round_46 : decode cX3_round 46 = .ok (.iload 4, 2) := by decide +kernel
theorem dX3_round_48 : decode cX3_round 48 = .ok (.ifCond .eq 15, 3) := by decide +kernel
theorem dX3_round_51 : decode cX3_round 51 = .ok (.getstatic 110, 3) := by decide +kernel
theorem dX3_round_54 : decode cX3_round 54 = .ok (.aload 5, 2) := by decide +kernel
theorem dX3_round_56 : decode cX3_round 56 = .ok (.getfield 100, 3) := by decide +kernel
theorem dX3_round_59 : decode cX3_round 59 = .ok (.iaload, 1) := by decide +kernel
theorem dX3_round_60 : decode cX3_round 60 = .ok (.goto 4, 3) := by decide +kernel
theorem dX3_round_63 : decode cX3_round 63 = .ok (.iconst 1, 1) := by decide +kernel
theorem dX3_round_64 : decode cX3_round 64 = .ok (.istore 6, 2) := by decide +kernel
theorem dX3_round_66 : decode cX3_round 66 = .ok (.aload_n 0, 1) := by decide +kernel
theorem dX3_round_67 : decode cX3_round 67 = .ok (.getfield 46, 3) := by decide +kernel
theorem dX3_round_70 : decode cX3_round 70 = .ok (.aload 5, 2) := by decide +kernel
theorem dX3_round_72 : decode cX3_round 72 = .ok (.getfield 83, 3) := by decide +kernel
theorem dX3_round_75 : decode cX3_round 75 = .ok (.bipush 10, 2) := by decide +kernel
theorem dX3_round_77 : decode cX3_round 77 = .ok (.aload 5, 2) := by decide +kernel
theorem dX3_round_79 : decode cX3_round 79 = .ok (.getfield 86, 3) := by decide +kernel
theorem dX3_round_82 : decode cX3_round 82 = .ok (.invokevirtual 89, 3) := by decide +kernel
theorem dX3_round_85 : decode cX3_round 85 = .ok (.aload_n 0, 1) := by decide +kernel
theorem dX3_round_86 : decode cX3_round 86 = .ok (.getfield 46, 3) := by decide +kernel
theorem dX3_round_89 : decode cX3_round 89 = .ok (.aload 5, 2) := by decide +kernel
theorem dX3_round_91 : decode cX3_round 91 = .ok (.getfield 100, 3) := by decide +kernel
theorem dX3_round_94 : decode cX3_round 94 = .ok (.invokestatic 113, 3) := by decide +kernel
theorem dX3_round_97 : decode cX3_round 97 = .ok (.iload 6, 2) := by decide +kernel
theorem dX3_round_99 : decode cX3_round 99 = .ok (.iload_n 3, 1) := by decide +kernel
theorem dX3_round_100 : decode cX3_round 100 = .ok (.invokevirtual 117, 3) := by decide +kernel
theorem dX3_round_103 : decode cX3_round 103 = .ok (.ifCond .ne 6, 3) := by decide +kernel
theorem dX3_round_106 : decode cX3_round 106 = .ok (.bipush (-16), 2) := by decide +kernel
theorem dX3_round_108 : decode cX3_round 108 = .ok (.ireturn, 1) := by decide +kernel
theorem dX3_round_109 : decode cX3_round 109 = .ok (.aload_n 0, 1) := by decide +kernel
theorem dX3_round_110 : decode cX3_round 110 = .ok (.iload_n 1, 1) := by decide +kernel
theorem dX3_round_111 : decode cX3_round 111 = .ok (.aload 5, 2) := by decide +kernel
theorem dX3_round_113 : decode cX3_round 113 = .ok (.getfield 97, 3) := by decide +kernel
theorem dX3_round_116 : decode cX3_round 116 = .ok (.aload 5, 2) := by decide +kernel
theorem dX3_round_118 : decode cX3_round 118 = .ok (.getfield 100, 3) := by decide +kernel
theorem dX3_round_121 : decode cX3_round 121 = .ok (.invokevirtual 107, 3) := by decide +kernel
theorem dX3_round_124 : decode cX3_round 124 = .ok (.ireturn, 1) := by decide +kernel
theorem dX3_unitPlace_0 : decode cX3_unitPlace 0 = .ok (.bipush 20, 2) := by decide +kernel
theorem dX3_unitPlace_2 : decode cX3_unitPlace 2 = .ok (.getstatic 188, 3) := by decide +kernel
theorem dX3_unitPlace_5 : decode cX3_unitPlace 5 = .ok (.iload_n 0, 1) := by decide +kernel
theorem dX3_unitPlace_6 : decode cX3_unitPlace 6 = .ok (.iaload, 1) := by decide +kernel
theorem dX3_unitPlace_7 : decode cX3_unitPlace 7 = .ok (.isub, 1) := by decide +kernel
theorem dX3_unitPlace_8 : decode cX3_unitPlace 8 = .ok (.ireturn, 1) := by decide +kernel
theorem dX3_ratio_0 : decode cX3_ratio 0 = .ok (.iload_n 1, 1) := by decide +kernel
theorem dX3_ratio_1 : decode cX3_ratio 1 = .ok (.invokestatic 60, 3) := by decide +kernel
theorem dX3_ratio_4 : decode cX3_ratio 4 = .ok (.ifCond .eq 13, 3) := by decide +kernel
theorem dX3_ratio_7 : decode cX3_ratio 7 = .ok (.iload_n 2, 1) := by decide +kernel
theorem dX3_ratio_8 : decode cX3_ratio 8 = .ok (.ifCond .lt 9, 3) := by decide +kernel
theorem dX3_ratio_11 : decode cX3_ratio 11 = .ok (.iload_n 2, 1) := by decide +kernel
theorem dX3_ratio_12 : decode cX3_ratio 12 = .ok (.ldc 121, 2) := by decide +kernel
theorem dX3_ratio_14 : decode cX3_ratio 14 = .ok (.if_icmp .le 5, 3) := by decide +kernel
theorem dX3_ratio_17 : decode cX3_ratio 17 = .ok (.iconst 0, 1) := by decide +kernel
theorem dX3_ratio_18 : decode cX3_ratio 18 = .ok (.ireturn, 1) := by decide +kernel
theorem dX3_ratio_19 : decode cX3_ratio 19 = .ok (.aload_n 0, 1) := by decide +kernel
theorem dX3_ratio_20 : decode cX3_ratio 20 = .ok (.getfield 35, 3) := by decide +kernel
theorem dX3_ratio_23 : decode cX3_ratio 23 = .ok (.iload_n 1, 1) := by decide +kernel
theorem dX3_ratio_24 : decode cX3_ratio 24 = .ok (.iload_n 2, 1) := by decide +kernel
theorem dX3_ratio_25 : decode cX3_ratio 25 = .ok (.iastore, 1) := by decide +kernel
theorem dX3_ratio_26 : decode cX3_ratio 26 = .ok (.iconst 1, 1) := by decide +kernel
theorem dX3_ratio_27 : decode cX3_ratio 27 = .ok (.ireturn, 1) := by decide +kernel
theorem dX3_allocate_0 : decode cX3_allocate 0 = .ok (.iload_n 1, 1) := by decide +kernel
theorem dX3_allocate_1 : decode cX3_allocate 1 = .ok (.invokestatic 60, 3) := by decide +kernel
theorem dX3_allocate_4 : decode cX3_allocate 4 = .ok (.ifCond .eq 23, 3) := by decide +kernel
theorem dX3_allocate_7 : decode cX3_allocate 7 = .ok (.iload_n 2, 1) := by decide +kernel
theorem dX3_allocate_8 : decode cX3_allocate 8 = .ok (.invokestatic 60, 3) := by decide +kernel
theorem dX3_allocate_11 : decode cX3_allocate 11 = .ok (.ifCond .eq 16, 3) := by decide +kernel
theorem dX3_allocate_14 : decode cX3_allocate 14 = .ok (.iload_n 3, 1) := by decide +kernel
theorem dX3_allocate_15 : decode cX3_allocate 15 = .ok (.iconst 1, 1) := by decide +kernel
theorem dX3_allocate_16 : decode cX3_allocate 16 = .ok (.if_icmp .lt 11, 3) := by decide +kernel
theorem dX3_allocate_19 : decode cX3_allocate 19 = .ok (.iload_n 3, 1) := by decide +kernel
theorem dX3_allocate_20 : decode cX3_allocate 20 = .ok (.bipush 8, 2) := by decide +kernel
theorem dX3_allocate_22 : decode cX3_allocate 22 = .ok (.iload_n 2, 1) := by decide +kernel
theorem dX3_allocate_23 : decode cX3_allocate 23 = .ok (.isub, 1) := by decide +kernel
theorem dX3_allocate_24 : decode cX3_allocate 24 = .ok (.if_icmp .le 6, 3) := by decide +kernel
theorem dX3_allocate_27 : decode cX3_allocate 27 = .ok (.bipush (-15), 2) := by decide +kernel
theorem dX3_allocate_29 : decode cX3_allocate 29 = .ok (.ireturn, 1) := by decide +kernel
theorem dX3_allocate_30 : decode cX3_allocate 30 = .ok (.aload_n 0, 1) := by decide +kernel
theorem dX3_allocate_31 : decode cX3_allocate 31 = .ok (.iload_n 3, 1) := by decide +kernel
theorem dX3_allocate_32 : decode cX3_allocate 32 = .ok (.invokevirtual 122, 3) := by decide +kernel
theorem dX3_allocate_35 : decode cX3_allocate 35 = .ok (.lstore 4, 2) := by decide +kernel
theorem dX3_allocate_37 : decode cX3_allocate 37 = .ok (.iload_n 1, 1) := by decide +kernel
theorem dX3_allocate_38 : decode cX3_allocate 38 = .ok (.iload_n 2, 1) := by decide +kernel
theorem dX3_allocate_39 : decode cX3_allocate 39 = .ok (.if_icmp .lt 10, 3) := by decide +kernel
theorem dX3_allocate_42 : decode cX3_allocate 42 = .ok (.iload_n 1, 1) := by decide +kernel
theorem dX3_allocate_43 : decode cX3_allocate 43 = .ok (.iload_n 2, 1) := by decide +kernel
theorem dX3_allocate_44 : decode cX3_allocate 44 = .ok (.iload_n 3, 1) := by decide +kernel
theorem dX3_allocate_45 : decode cX3_allocate 45 = .ok (.iadd, 1) := by decide +kernel
theorem dX3_allocate_46 : decode cX3_allocate 46 = .ok (.if_icmp .lt 10, 3) := by decide +kernel
theorem dX3_allocate_49 : decode cX3_allocate 49 = .ok (.lload 4, 2) := by decide +kernel
theorem dX3_allocate_51 : decode cX3_allocate 51 = .ok (.lconst 0, 1) := by decide +kernel
theorem dX3_allocate_52 : decode cX3_allocate 52 = .ok (.lcmp, 1) := by decide +kernel
theorem dX3_allocate_53 : decode cX3_allocate 53 = .ok (.ifCond .ne 6, 3) := by decide +kernel
theorem dX3_allocate_56 : decode cX3_allocate 56 = .ok (.bipush (-15), 2) := by decide +kernel
end
section
theorem dX3_allocate_58 : decode cX3_allocate 58 = .ok (.ireturn, 1) := by decide +kernel
theorem dX3_allocate_59 : decode cX3_allocate 59 = .ok (.aload_n 0, 1) := by decide +kernel
theorem dX3_allocate_60 : decode cX3_allocate 60 = .ok (.getfield 30, 3) := by decide +kernel
theorem dX3_allocate_63 : decode cX3_allocate 63 = .ok (.iload_n 1, 1) := by decide +kernel
theorem dX3_allocate_64 : decode cX3_allocate 64 = .ok (.aaload, 1) := by decide +kernel
theorem dX3_allocate_65 : decode cX3_allocate 65 = .ok (.astore 6, 2) := by decide +kernel
theorem dX3_allocate_67 : decode cX3_allocate 67 = .ok (.aload 6, 2) := by decide +kernel
theorem dX3_allocate_69 : decode cX3_allocate 69 = .ok (.getfield 79, 3) := by decide +kernel
theorem dX3_allocate_72 : decode cX3_allocate 72 = .ok (.ifCond .ne 6, 3) := by decide +kernel
theorem dX3_allocate_75 : decode cX3_allocate 75 = .ok (.bipush (-11), 2) := by decide +kernel
theorem dX3_allocate_77 : decode cX3_allocate 77 = .ok (.ireturn, 1) := by decide +kernel
theorem dX3_allocate_78 : decode cX3_allocate 78 = .ok (.aload 6, 2) := by decide +kernel
theorem dX3_allocate_80 : decode cX3_allocate 80 = .ok (.getfield 100, 3) := by decide +kernel
theorem dX3_allocate_83 : decode cX3_allocate 83 = .ok (.invokestatic 113, 3) := by decide +kernel
theorem dX3_allocate_86 : decode cX3_allocate 86 = .ok (.istore 7, 2) := by decide +kernel
theorem dX3_allocate_88 : decode cX3_allocate 88 = .ok (.aload_n 0, 1) := by decide +kernel
theorem dX3_allocate_89 : decode cX3_allocate 89 = .ok (.getfield 46, 3) := by decide +kernel
theorem dX3_allocate_92 : decode cX3_allocate 92 = .ok (.aload 6, 2) := by decide +kernel
theorem dX3_allocate_94 : decode cX3_allocate 94 = .ok (.getfield 83, 3) := by decide +kernel
theorem dX3_allocate_97 : decode cX3_allocate 97 = .ok (.bipush 10, 2) := by decide +kernel
theorem dX3_allocate_99 : decode cX3_allocate 99 = .ok (.aload 6, 2) := by decide +kernel
theorem dX3_allocate_101 : decode cX3_allocate 101 = .ok (.getfield 86, 3) := by decide +kernel
theorem dX3_allocate_104 : decode cX3_allocate 104 = .ok (.invokevirtual 89, 3) := by decide +kernel
theorem dX3_allocate_107 : decode cX3_allocate 107 = .ok (.aload_n 0, 1) := by decide +kernel
theorem dX3_allocate_108 : decode cX3_allocate 108 = .ok (.getfield 46, 3) := by decide +kernel
theorem dX3_allocate_111 : decode cX3_allocate 111 = .ok (.iload 7, 2) := by decide +kernel
theorem dX3_allocate_113 : decode cX3_allocate 113 = .ok (.iconst 1, 1) := by decide +kernel
theorem dX3_allocate_114 : decode cX3_allocate 114 = .ok (.bipush 7, 2) := by decide +kernel
theorem dX3_allocate_116 : decode cX3_allocate 116 = .ok (.invokevirtual 117, 3) := by decide +kernel
theorem dX3_allocate_119 : decode cX3_allocate 119 = .ok (.ifCond .ne 6, 3) := by decide +kernel
theorem dX3_allocate_122 : decode cX3_allocate 122 = .ok (.bipush (-16), 2) := by decide +kernel
theorem dX3_allocate_124 : decode cX3_allocate 124 = .ok (.ireturn, 1) := by decide +kernel
theorem dX3_allocate_125 : decode cX3_allocate 125 = .ok (.aload_n 0, 1) := by decide +kernel
theorem dX3_allocate_126 : decode cX3_allocate 126 = .ok (.getfield 46, 3) := by decide +kernel
theorem dX3_allocate_129 : decode cX3_allocate 129 = .ok (.lload 4, 2) := by decide +kernel
theorem dX3_allocate_131 : decode cX3_allocate 131 = .ok (.iload 7, 2) := by decide +kernel
theorem dX3_allocate_133 : decode cX3_allocate 133 = .ok (.invokevirtual 103, 3) := by decide +kernel
theorem dX3_allocate_136 : decode cX3_allocate 136 = .ok (.lstore 8, 2) := by decide +kernel
theorem dX3_allocate_138 : decode cX3_allocate 138 = .ok (.aload_n 0, 1) := by decide +kernel
theorem dX3_allocate_139 : decode cX3_allocate 139 = .ok (.lload 8, 2) := by decide +kernel
theorem dX3_allocate_141 : decode cX3_allocate 141 = .ok (.lload 4, 2) := by decide +kernel
theorem dX3_allocate_143 : decode cX3_allocate 143 = .ok (.iload_n 3, 1) := by decide +kernel
theorem dX3_allocate_144 : decode cX3_allocate 144 = .ok (.invokevirtual 126, 3) := by decide +kernel
theorem dX3_allocate_147 : decode cX3_allocate 147 = .ok (.lstore 10, 2) := by decide +kernel
theorem dX3_allocate_149 : decode cX3_allocate 149 = .ok (.iconst 0, 1) := by decide +kernel
theorem dX3_allocate_150 : decode cX3_allocate 150 = .ok (.istore 12, 2) := by decide +kernel
theorem dX3_allocate_152 : decode cX3_allocate 152 = .ok (.iload 12, 2) := by decide +kernel
theorem dX3_allocate_154 : decode cX3_allocate 154 = .ok (.iload_n 3, 1) := by decide +kernel
theorem dX3_allocate_155 : decode cX3_allocate 155 = .ok (.if_icmp .ge 119, 3) := by decide +kernel
theorem dX3_allocate_158 : decode cX3_allocate 158 = .ok (.lload 8, 2) := by decide +kernel
theorem dX3_allocate_160 : decode cX3_allocate 160 = .ok (.aload_n 0, 1) := by decide +kernel
theorem dX3_allocate_161 : decode cX3_allocate 161 = .ok (.getfield 35, 3) := by decide +kernel
theorem dX3_allocate_164 : decode cX3_allocate 164 = .ok (.iload 12, 2) := by decide +kernel
theorem dX3_allocate_166 : decode cX3_allocate 166 = .ok (.iaload, 1) := by decide +kernel
theorem dX3_allocate_167 : decode cX3_allocate 167 = .ok (.i2l, 1) := by decide +kernel
theorem dX3_allocate_168 : decode cX3_allocate 168 = .ok (.lmul, 1) := by decide +kernel
theorem dX3_allocate_169 : decode cX3_allocate 169 = .ok (.lload 4, 2) := by decide +kernel
theorem dX3_allocate_171 : decode cX3_allocate 171 = .ok (.ldiv, 1) := by decide +kernel
theorem dX3_allocate_172 : decode cX3_allocate 172 = .ok (.aload_n 0, 1) := by decide +kernel
theorem dX3_allocate_173 : decode cX3_allocate 173 = .ok (.iload 12, 2) := by decide +kernel
theorem dX3_allocate_175 : decode cX3_allocate 175 = .ok (.iload_n 3, 1) := by decide +kernel
theorem dX3_allocate_176 : decode cX3_allocate 176 = .ok (.invokevirtual 130, 3) := by decide +kernel
theorem dX3_allocate_179 : decode cX3_allocate 179 = .ok (.i2l, 1) := by decide +kernel
theorem dX3_allocate_180 : decode cX3_allocate 180 = .ok (.lload 10, 2) := by decide +kernel
theorem dX3_allocate_182 : decode cX3_allocate 182 = .ok (.lcmp, 1) := by decide +kernel
theorem dX3_allocate_183 : decode cX3_allocate 183 = .ok (.ifCond .ge 7, 3) := by decide +kernel
theorem dX3_allocate_186 : decode cX3_allocate 186 = .ok (.iconst 1, 1) := by decide +kernel
theorem dX3_allocate_187 : decode cX3_allocate 187 = .ok (.goto 4, 3) := by decide +kernel
theorem dX3_allocate_190 : decode cX3_allocate 190 = .ok (.iconst 0, 1) := by decide +kernel
theorem dX3_allocate_191 : decode cX3_allocate 191 = .ok (.i2l, 1) := by decide +kernel
theorem dX3_allocate_192 : decode cX3_allocate 192 = .ok (.ladd, 1) := by decide +kernel
theorem dX3_allocate_193 : decode cX3_allocate 193 = .ok (.lstore 13, 2) := by decide +kernel
theorem dX3_allocate_195 : decode cX3_allocate 195 = .ok (.aload_n 0, 1) := by decide +kernel
theorem dX3_allocate_196 : decode cX3_allocate 196 = .ok (.getfield 50, 3) := by decide +kernel
theorem dX3_allocate_199 : decode cX3_allocate 199 = .ok (.aload_n 0, 1) := by decide +kernel
theorem dX3_allocate_200 : decode cX3_allocate 200 = .ok (.getfield 46, 3) := by decide +kernel
theorem dX3_allocate_203 : decode cX3_allocate 203 = .ok (.getfield 133, 3) := by decide +kernel
theorem dX3_allocate_206 : decode cX3_allocate 206 = .ok (.iconst 0, 1) := by decide +kernel
theorem dX3_allocate_207 : decode cX3_allocate 207 = .ok (.aload 6, 2) := by decide +kernel
theorem dX3_allocate_209 : decode cX3_allocate 209 = .ok (.getfield 86, 3) := by decide +kernel
theorem dX3_allocate_212 : decode cX3_allocate 212 = .ok (.invokevirtual 89, 3) := by decide +kernel
theorem dX3_allocate_215 : decode cX3_allocate 215 = .ok (.aload_n 0, 1) := by decide +kernel
theorem dX3_allocate_216 : decode cX3_allocate 216 = .ok (.getfield 50, 3) := by decide +kernel
theorem dX3_allocate_219 : decode cX3_allocate 219 = .ok (.aload_n 0, 1) := by decide +kernel
theorem dX3_allocate_220 : decode cX3_allocate 220 = .ok (.getfield 35, 3) := by decide +kernel
theorem dX3_allocate_223 : decode cX3_allocate 223 = .ok (.iload 12, 2) := by decide +kernel
theorem dX3_allocate_225 : decode cX3_allocate 225 = .ok (.iaload, 1) := by decide +kernel
theorem dX3_allocate_226 : decode cX3_allocate 226 = .ok (.i2l, 1) := by decide +kernel
theorem dX3_allocate_227 : decode cX3_allocate 227 = .ok (.invokevirtual 93, 3) := by decide +kernel
theorem dX3_allocate_230 : decode cX3_allocate 230 = .ok (.aload_n 0, 1) := by decide +kernel
theorem dX3_allocate_231 : decode cX3_allocate 231 = .ok (.getfield 50, 3) := by decide +kernel
theorem dX3_allocate_234 : decode cX3_allocate 234 = .ok (.iload 7, 2) := by decide +kernel
theorem dX3_allocate_236 : decode cX3_allocate 236 = .ok (.lload 13, 2) := by decide +kernel
theorem dX3_allocate_238 : decode cX3_allocate 238 = .ok (.l2i, 1) := by decide +kernel
theorem dX3_allocate_239 : decode cX3_allocate 239 = .ok (.invokevirtual 134, 3) := by decide +kernel
theorem dX3_allocate_242 : decode cX3_allocate 242 = .ok (.aload_n 0, 1) := by decide +kernel
theorem dX3_allocate_243 : decode cX3_allocate 243 = .ok (.getfield 30, 3) := by decide +kernel
theorem dX3_allocate_246 : decode cX3_allocate 246 = .ok (.iload_n 2, 1) := by decide +kernel
theorem dX3_allocate_247 : decode cX3_allocate 247 = .ok (.iload 12, 2) := by decide +kernel
theorem dX3_allocate_249 : decode cX3_allocate 249 = .ok (.iadd, 1) := by decide +kernel
theorem dX3_allocate_250 : decode cX3_allocate 250 = .ok (.aaload, 1) := by decide +kernel
theorem dX3_allocate_251 : decode cX3_allocate 251 = .ok (.aload_n 0, 1) := by decide +kernel
theorem dX3_allocate_252 : decode cX3_allocate 252 = .ok (.getfield 50, 3) := by decide +kernel
theorem dX3_allocate_255 : decode cX3_allocate 255 = .ok (.aload 6, 2) := by decide +kernel
theorem dX3_allocate_257 : decode cX3_allocate 257 = .ok (.getfield 97, 3) := by decide +kernel
theorem dX3_allocate_260 : decode cX3_allocate 260 = .ok (.aload 6, 2) := by decide +kernel
theorem dX3_allocate_262 : decode cX3_allocate 262 = .ok (.getfield 100, 3) := by decide +kernel
theorem dX3_allocate_265 : decode cX3_allocate 265 = .ok (.invokevirtual 138, 3) := by decide +kernel
theorem dX3_allocate_268 : decode cX3_allocate 268 = .ok (.iinc 12 1, 3) := by decide +kernel
theorem dX3_allocate_271 : decode cX3_allocate 271 = .ok (.goto (-119), 3) := by decide +kernel
theorem dX3_allocate_274 : decode cX3_allocate 274 = .ok (.iconst 0, 1) := by decide +kernel
theorem dX3_allocate_275 : decode cX3_allocate 275 = .ok (.ireturn, 1) := by decide +kernel
theorem dX3_sumOfRatios_0 : decode cX3_sumOfRatios 0 = .ok (.lconst 0, 1) := by decide +kernel
theorem dX3_sumOfRatios_1 : decode cX3_sumOfRatios 1 = .ok (.lstore_n 2, 1) := by decide +kernel
theorem dX3_sumOfRatios_2 : decode cX3_sumOfRatios 2 = .ok (.iconst 0, 1) := by decide +kernel
theorem dX3_sumOfRatios_3 : decode cX3_sumOfRatios 3 = .ok (.istore 4, 2) := by decide +kernel
theorem dX3_sumOfRatios_5 : decode cX3_sumOfRatios 5 = .ok (.iload 4, 2) := by decide +kernel
theorem dX3_sumOfRatios_7 : decode cX3_sumOfRatios 7 = .ok (.iload_n 1, 1) := by decide +kernel
theorem dX3_sumOfRatios_8 : decode cX3_sumOfRatios 8 = .ok (.if_icmp .ge 20, 3) := by decide +kernel
theorem dX3_sumOfRatios_11 : decode cX3_sumOfRatios 11 = .ok (.lload_n 2, 1) := by decide +kernel
theorem dX3_sumOfRatios_12 : decode cX3_sumOfRatios 12 = .ok (.aload_n 0, 1) := by decide +kernel
theorem dX3_sumOfRatios_13 : decode cX3_sumOfRatios 13 = .ok (.getfield 35, 3) := by decide +kernel
theorem dX3_sumOfRatios_16 : decode cX3_sumOfRatios 16 = .ok (.iload 4, 2) := by decide +kernel
theorem dX3_sumOfRatios_18 : decode cX3_sumOfRatios 18 = .ok (.iaload, 1) := by decide +kernel
theorem dX3_sumOfRatios_19 : decode cX3_sumOfRatios 19 = .ok (.i2l, 1) := by decide +kernel
theorem dX3_sumOfRatios_20 : decode cX3_sumOfRatios 20 = .ok (.ladd, 1) := by decide +kernel
theorem dX3_sumOfRatios_21 : decode cX3_sumOfRatios 21 = .ok (.lstore_n 2, 1) := by decide +kernel
theorem dX3_sumOfRatios_22 : decode cX3_sumOfRatios 22 = .ok (.iinc 4 1, 3) := by decide +kernel
theorem dX3_sumOfRatios_25 : decode cX3_sumOfRatios 25 = .ok (.goto (-20), 3) := by decide +kernel
theorem dX3_sumOfRatios_28 : decode cX3_sumOfRatios 28 = .ok (.lload_n 2, 1) := by decide +kernel
theorem dX3_sumOfRatios_29 : decode cX3_sumOfRatios 29 = .ok (.lreturn, 1) := by decide +kernel
theorem dX3_splitRest_0 : decode cX3_splitRest 0 = .ok (.lconst 0, 1) := by decide +kernel
theorem dX3_splitRest_1 : decode cX3_splitRest 1 = .ok (.lstore 6, 2) := by decide +kernel
theorem dX3_splitRest_3 : decode cX3_splitRest 3 = .ok (.iconst 0, 1) := by decide +kernel
theorem dX3_splitRest_4 : decode cX3_splitRest 4 = .ok (.istore 8, 2) := by decide +kernel
theorem dX3_splitRest_6 : decode cX3_splitRest 6 = .ok (.iload 8, 2) := by decide +kernel
theorem dX3_splitRest_8 : decode cX3_splitRest 8 = .ok (.iload 5, 2) := by decide +kernel
theorem dX3_splitRest_10 : decode cX3_splitRest 10 = .ok (.if_icmp .ge 40, 3) := by decide +kernel
theorem dX3_splitRest_13 : decode cX3_splitRest 13 = .ok (.aload_n 0, 1) := by decide +kernel
theorem dX3_splitRest_14 : decode cX3_splitRest 14 = .ok (.getfield 39, 3) := by decide +kernel
theorem dX3_splitRest_17 : decode cX3_splitRest 17 = .ok (.iload 8, 2) := by decide +kernel
theorem dX3_splitRest_19 : decode cX3_splitRest 19 = .ok (.lload_n 1, 1) := by decide +kernel
theorem dX3_splitRest_20 : decode cX3_splitRest 20 = .ok (.aload_n 0, 1) := by decide +kernel
theorem dX3_splitRest_21 : decode cX3_splitRest 21 = .ok (.getfield 35, 3) := by decide +kernel
theorem dX3_splitRest_24 : decode cX3_splitRest 24 = .ok (.iload 8, 2) := by decide +kernel
theorem dX3_splitRest_26 : decode cX3_splitRest 26 = .ok (.iaload, 1) := by decide +kernel
theorem dX3_splitRest_27 : decode cX3_splitRest 27 = .ok (.i2l, 1) := by decide +kernel
theorem dX3_splitRest_28 : decode cX3_splitRest 28 = .ok (.lmul, 1) := by decide +kernel
theorem dX3_splitRest_29 : decode cX3_splitRest 29 = .ok (.lload_n 3, 1) := by decide +kernel
theorem dX3_splitRest_30 : decode cX3_splitRest 30 = .ok (.lrem, 1) := by decide +kernel
theorem dX3_splitRest_31 : decode cX3_splitRest 31 = .ok (.lastore, 1) := by decide +kernel
theorem dX3_splitRest_32 : decode cX3_splitRest 32 = .ok (.lload 6, 2) := by decide +kernel
theorem dX3_splitRest_34 : decode cX3_splitRest 34 = .ok (.aload_n 0, 1) := by decide +kernel
theorem dX3_splitRest_35 : decode cX3_splitRest 35 = .ok (.getfield 39, 3) := by decide +kernel
theorem dX3_splitRest_38 : decode cX3_splitRest 38 = .ok (.iload 8, 2) := by decide +kernel
theorem dX3_splitRest_40 : decode cX3_splitRest 40 = .ok (.laload, 1) := by decide +kernel
theorem dX3_splitRest_41 : decode cX3_splitRest 41 = .ok (.ladd, 1) := by decide +kernel
theorem dX3_splitRest_42 : decode cX3_splitRest 42 = .ok (.lstore 6, 2) := by decide +kernel
theorem dX3_splitRest_44 : decode cX3_splitRest 44 = .ok (.iinc 8 1, 3) := by decide +kernel
theorem dX3_splitRest_47 : decode cX3_splitRest 47 = .ok (.goto (-41), 3) := by decide +kernel
theorem dX3_splitRest_50 : decode cX3_splitRest 50 = .ok (.lload 6, 2) := by decide +kernel
theorem dX3_splitRest_52 : decode cX3_splitRest 52 = .ok (.lload_n 3, 1) := by decide +kernel
theorem dX3_splitRest_53 : decode cX3_splitRest 53 = .ok (.ldiv, 1) := by decide +kernel
theorem dX3_splitRest_54 : decode cX3_splitRest 54 = .ok (.lreturn, 1) := by decide +kernel
theorem dX3_rankOf_0 : decode cX3_rankOf 0 = .ok (.iconst 0, 1) := by decide +kernel
theorem dX3_rankOf_1 : decode cX3_rankOf 1 = .ok (.istore_n 3, 1) := by decide +kernel
theorem dX3_rankOf_2 : decode cX3_rankOf 2 = .ok (.iconst 0, 1) := by decide +kernel
theorem dX3_rankOf_3 : decode cX3_rankOf 3 = .ok (.istore 4, 2) := by decide +kernel
theorem dX3_rankOf_5 : decode cX3_rankOf 5 = .ok (.iload 4, 2) := by decide +kernel
theorem dX3_rankOf_7 : decode cX3_rankOf 7 = .ok (.iload_n 2, 1) := by decide +kernel
theorem dX3_rankOf_8 : decode cX3_rankOf 8 = .ok (.if_icmp .ge 52, 3) := by decide +kernel
theorem dX3_rankOf_11 : decode cX3_rankOf 11 = .ok (.aload_n 0, 1) := by decide +kernel
theorem dX3_rankOf_12 : decode cX3_rankOf 12 = .ok (.getfield 39, 3) := by decide +kernel
theorem dX3_rankOf_15 : decode cX3_rankOf 15 = .ok (.iload 4, 2) := by decide +kernel
theorem dX3_rankOf_17 : decode cX3_rankOf 17 = .ok (.laload, 1) := by decide +kernel
theorem dX3_rankOf_18 : decode cX3_rankOf 18 = .ok (.aload_n 0, 1) := by decide +kernel
theorem dX3_rankOf_19 : decode cX3_rankOf 19 = .ok (.getfield 39, 3) := by decide +kernel
theorem dX3_rankOf_22 : decode cX3_rankOf 22 = .ok (.iload_n 1, 1) := by decide +kernel
theorem dX3_rankOf_23 : decode cX3_rankOf 23 = .ok (.laload, 1) := by decide +kernel
theorem dX3_rankOf_24 : decode cX3_rankOf 24 = .ok (.lcmp, 1) := by decide +kernel
theorem dX3_rankOf_25 : decode cX3_rankOf 25 = .ok (.ifCond .gt 26, 3) := by decide +kernel
theorem dX3_rankOf_28 : decode cX3_rankOf 28 = .ok (.aload_n 0, 1) := by decide +kernel
theorem dX3_rankOf_29 : decode cX3_rankOf 29 = .ok (.getfield 39, 3) := by decide +kernel
theorem dX3_rankOf_32 : decode cX3_rankOf 32 = .ok (.iload 4, 2) := by decide +kernel
theorem dX3_rankOf_34 : decode cX3_rankOf 34 = .ok (.laload, 1) := by decide +kernel
theorem dX3_rankOf_35 : decode cX3_rankOf 35 = .ok (.aload_n 0, 1) := by decide +kernel
theorem dX3_rankOf_36 : decode cX3_rankOf 36 = .ok (.getfield 39, 3) := by decide +kernel
theorem dX3_rankOf_39 : decode cX3_rankOf 39 = .ok (.iload_n 1, 1) := by decide +kernel
theorem dX3_rankOf_40 : decode cX3_rankOf 40 = .ok (.laload, 1) := by decide +kernel
theorem dX3_rankOf_41 : decode cX3_rankOf 41 = .ok (.lcmp, 1) := by decide +kernel
theorem dX3_rankOf_42 : decode cX3_rankOf 42 = .ok (.ifCond .ne 12, 3) := by decide +kernel
theorem dX3_rankOf_45 : decode cX3_rankOf 45 = .ok (.iload 4, 2) := by decide +kernel
theorem dX3_rankOf_47 : decode cX3_rankOf 47 = .ok (.iload_n 1, 1) := by decide +kernel
theorem dX3_rankOf_48 : decode cX3_rankOf 48 = .ok (.if_icmp .ge 6, 3) := by decide +kernel
theorem dX3_rankOf_51 : decode cX3_rankOf 51 = .ok (.iinc 3 1, 3) := by decide +kernel
theorem dX3_rankOf_54 : decode cX3_rankOf 54 = .ok (.iinc 4 1, 3) := by decide +kernel
theorem dX3_rankOf_57 : decode cX3_rankOf 57 = .ok (.goto (-52), 3) := by decide +kernel
theorem dX3_rankOf_60 : decode cX3_rankOf 60 = .ok (.iload_n 3, 1) := by decide +kernel
theorem dX3_rankOf_61 : decode cX3_rankOf 61 = .ok (.ireturn, 1) := by decide +kernel
theorem dX3_compare_0 : decode cX3_compare 0 = .ok (.iload_n 1, 1) := by decide +kernel
theorem dX3_compare_1 : decode cX3_compare 1 = .ok (.invokestatic 60, 3) := by decide +kernel
theorem dX3_compare_4 : decode cX3_compare 4 = .ok (.ifCond .eq 10, 3) := by decide +kernel
theorem dX3_compare_7 : decode cX3_compare 7 = .ok (.iload_n 2, 1) := by decide +kernel
theorem dX3_compare_8 : decode cX3_compare 8 = .ok (.invokestatic 60, 3) := by decide +kernel
theorem dX3_compare_11 : decode cX3_compare 11 = .ok (.ifCond .ne 6, 3) := by decide +kernel
theorem dX3_compare_14 : decode cX3_compare 14 = .ok (.bipush (-15), 2) := by decide +kernel
theorem dX3_compare_16 : decode cX3_compare 16 = .ok (.ireturn, 1) := by decide +kernel
theorem dX3_compare_17 : decode cX3_compare 17 = .ok (.aload_n 0, 1) := by decide +kernel
theorem dX3_compare_18 : decode cX3_compare 18 = .ok (.getfield 30, 3) := by decide +kernel
theorem dX3_compare_21 : decode cX3_compare 21 = .ok (.iload_n 1, 1) := by decide +kernel
theorem dX3_compare_22 : decode cX3_compare 22 = .ok (.aaload, 1) := by decide +kernel
theorem dX3_compare_23 : decode cX3_compare 23 = .ok (.astore_n 3, 1) := by decide +kernel
theorem dX3_compare_24 : decode cX3_compare 24 = .ok (.aload_n 0, 1) := by decide +kernel
theorem dX3_compare_25 : decode cX3_compare 25 = .ok (.getfield 30, 3) := by decide +kernel
theorem dX3_compare_28 : decode cX3_compare 28 = .ok (.iload_n 2, 1) := by decide +kernel
theorem dX3_compare_29 : decode cX3_compare 29 = .ok (.aaload, 1) := by decide +kernel
theorem dX3_compare_30 : decode cX3_compare 30 = .ok (.astore 4, 2) := by decide +kernel
theorem dX3_compare_32 : decode cX3_compare 32 = .ok (.aload_n 3, 1) := by decide +kernel
theorem dX3_compare_33 : decode cX3_compare 33 = .ok (.getfield 79, 3) := by decide +kernel
theorem dX3_compare_36 : decode cX3_compare 36 = .ok (.ifCond .eq 11, 3) := by decide +kernel
theorem dX3_compare_39 : decode cX3_compare 39 = .ok (.aload 4, 2) := by decide +kernel
theorem dX3_compare_41 : decode cX3_compare 41 = .ok (.getfield 79, 3) := by decide +kernel
theorem dX3_compare_44 : decode cX3_compare 44 = .ok (.ifCond .ne 6, 3) := by decide +kernel
theorem dX3_compare_47 : decode cX3_compare 47 = .ok (.bipush (-11), 2) := by decide +kernel
theorem dX3_compare_49 : decode cX3_compare 49 = .ok (.ireturn, 1) := by decide +kernel
theorem dX3_compare_50 : decode cX3_compare 50 = .ok (.aload_n 3, 1) := by decide +kernel
theorem dX3_compare_51 : decode cX3_compare 51 = .ok (.aload 4, 2) := by decide +kernel
theorem dX3_compare_53 : decode cX3_compare 53 = .ok (.invokevirtual 142, 3) := by decide +kernel
theorem dX3_compare_56 : decode cX3_compare 56 = .ok (.ifCond .ne 6, 3) := by decide +kernel
theorem dX3_compare_59 : decode cX3_compare 59 = .ok (.bipush (-12), 2) := by decide +kernel
theorem dX3_compare_61 : decode cX3_compare 61 = .ok (.ireturn, 1) := by decide +kernel
theorem dX3_compare_62 : decode cX3_compare 62 = .ok (.aload_n 3, 1) := by decide +kernel
theorem dX3_compare_63 : decode cX3_compare 63 = .ok (.getfield 86, 3) := by decide +kernel
theorem dX3_compare_66 : decode cX3_compare 66 = .ok (.aload 4, 2) := by decide +kernel
theorem dX3_compare_68 : decode cX3_compare 68 = .ok (.getfield 86, 3) := by decide +kernel
theorem dX3_compare_71 : decode cX3_compare 71 = .ok (.if_icmp .eq 16, 3) := by decide +kernel
theorem dX3_compare_74 : decode cX3_compare 74 = .ok (.aload_n 3, 1) := by decide +kernel
theorem dX3_compare_75 : decode cX3_compare 75 = .ok (.getfield 86, 3) := by decide +kernel
theorem dX3_compare_78 : decode cX3_compare 78 = .ok (.ifCond .eq 7, 3) := by decide +kernel
theorem dX3_compare_81 : decode cX3_compare 81 = .ok (.iconst (-1), 1) := by decide +kernel
theorem dX3_compare_82 : decode cX3_compare 82 = .ok (.goto 4, 3) := by decide +kernel
theorem dX3_compare_85 : decode cX3_compare 85 = .ok (.iconst 1, 1) := by decide +kernel
theorem dX3_compare_86 : decode cX3_compare 86 = .ok (.ireturn, 1) := by decide +kernel
theorem dX3_compare_87 : decode cX3_compare 87 = .ok (.aload_n 3, 1) := by decide +kernel
theorem dX3_compare_88 : decode cX3_compare 88 = .ok (.getfield 83, 3) := by decide +kernel
theorem dX3_compare_91 : decode cX3_compare 91 = .ok (.aload 4, 2) := by decide +kernel
theorem dX3_compare_93 : decode cX3_compare 93 = .ok (.getfield 83, 3) := by decide +kernel
theorem dX3_compare_96 : decode cX3_compare 96 = .ok (.invokestatic 146, 3) := by decide +kernel
theorem dX3_compare_99 : decode cX3_compare 99 = .ok (.istore 5, 2) := by decide +kernel
theorem dX3_compare_101 : decode cX3_compare 101 = .ok (.aload_n 3, 1) := by decide +kernel
theorem dX3_compare_102 : decode cX3_compare 102 = .ok (.getfield 86, 3) := by decide +kernel
theorem dX3_compare_105 : decode cX3_compare 105 = .ok (.ifCond .eq 9, 3) := by decide +kernel
theorem dX3_compare_108 : decode cX3_compare 108 = .ok (.iload 5, 2) := by decide +kernel
theorem dX3_compare_110 : decode cX3_compare 110 = .ok (.ineg, 1) := by decide +kernel
theorem dX3_compare_111 : decode cX3_compare 111 = .ok (.goto 5, 3) := by decide +kernel
theorem dX3_compare_114 : decode cX3_compare 114 = .ok (.iload 5, 2) := by decide +kernel
theorem dX3_compare_116 : decode cX3_compare 116 = .ok (.ireturn, 1) := by decide +kernel
theorem dX3_sign_0 : decode cX3_sign 0 = .ok (.iload_n 1, 1) := by decide +kernel
theorem dX3_sign_1 : decode cX3_sign 1 = .ok (.invokestatic 60, 3) := by decide +kernel
theorem dX3_sign_4 : decode cX3_sign 4 = .ok (.ifCond .ne 6, 3) := by decide +kernel
theorem dX3_sign_7 : decode cX3_sign 7 = .ok (.bipush (-15), 2) := by decide +kernel
theorem dX3_sign_9 : decode cX3_sign 9 = .ok (.ireturn, 1) := by decide +kernel
theorem dX3_sign_10 : decode cX3_sign 10 = .ok (.aload_n 0, 1) := by decide +kernel
theorem dX3_sign_11 : decode cX3_sign 11 = .ok (.getfield 30, 3) := by decide +kernel
theorem dX3_sign_14 : decode cX3_sign 14 = .ok (.iload_n 1, 1) := by decide +kernel
theorem dX3_sign_15 : decode cX3_sign 15 = .ok (.aaload, 1) := by decide +kernel
theorem dX3_sign_16 : decode cX3_sign 16 = .ok (.astore_n 2, 1) := by decide +kernel
theorem dX3_sign_17 : decode cX3_sign 17 = .ok (.aload_n 2, 1) := by decide +kernel
theorem dX3_sign_18 : decode cX3_sign 18 = .ok (.getfield 79, 3) := by decide +kernel
theorem dX3_sign_21 : decode cX3_sign 21 = .ok (.ifCond .ne 6, 3) := by decide +kernel
theorem dX3_sign_24 : decode cX3_sign 24 = .ok (.bipush (-11), 2) := by decide +kernel
theorem dX3_sign_26 : decode cX3_sign 26 = .ok (.ireturn, 1) := by decide +kernel
theorem dX3_sign_27 : decode cX3_sign 27 = .ok (.aload_n 2, 1) := by decide +kernel
theorem dX3_sign_28 : decode cX3_sign 28 = .ok (.getfield 86, 3) := by decide +kernel
theorem dX3_sign_31 : decode cX3_sign 31 = .ok (.ifCond .eq 5, 3) := by decide +kernel
theorem dX3_sign_34 : decode cX3_sign 34 = .ok (.iconst (-1), 1) := by decide +kernel
theorem dX3_sign_35 : decode cX3_sign 35 = .ok (.ireturn, 1) := by decide +kernel
theorem dX3_sign_36 : decode cX3_sign 36 = .ok (.aload_n 2, 1) := by decide +kernel
theorem dX3_sign_37 : decode cX3_sign 37 = .ok (.getfield 83, 3) := by decide +kernel
theorem dX3_sign_40 : decode cX3_sign 40 = .ok (.iconst 0, 1) := by decide +kernel
theorem dX3_sign_41 : decode cX3_sign 41 = .ok (.bipush 36, 2) := by decide +kernel
theorem dX3_sign_43 : decode cX3_sign 43 = .ok (.invokestatic 150, 3) := by decide +kernel
theorem dX3_sign_46 : decode cX3_sign 46 = .ok (.ifCond .eq 7, 3) := by decide +kernel
theorem dX3_sign_49 : decode cX3_sign 49 = .ok (.iconst 0, 1) := by decide +kernel
theorem dX3_sign_50 : decode cX3_sign 50 = .ok (.goto 4, 3) := by decide +kernel
theorem dX3_sign_53 : decode cX3_sign 53 = .ok (.iconst 1, 1) := by decide +kernel
theorem dX3_sign_54 : decode cX3_sign 54 = .ok (.ireturn, 1) := by decide +kernel
theorem dX3_kind_0 : decode cX3_kind 0 = .ok (.iload_n 1, 1) := by decide +kernel
theorem dX3_kind_1 : decode cX3_kind 1 = .ok (.invokestatic 60, 3) := by decide +kernel
theorem dX3_kind_4 : decode cX3_kind 4 = .ok (.ifCond .ne 6, 3) := by decide +kernel
theorem dX3_kind_7 : decode cX3_kind 7 = .ok (.bipush (-15), 2) := by decide +kernel
theorem dX3_kind_9 : decode cX3_kind 9 = .ok (.ireturn, 1) := by decide +kernel
theorem dX3_kind_10 : decode cX3_kind 10 = .ok (.aload_n 0, 1) := by decide +kernel
theorem dX3_kind_11 : decode cX3_kind 11 = .ok (.getfield 30, 3) := by decide +kernel
theorem dX3_kind_14 : decode cX3_kind 14 = .ok (.iload_n 1, 1) := by decide +kernel
theorem dX3_kind_15 : decode cX3_kind 15 = .ok (.aaload, 1) := by decide +kernel
theorem dX3_kind_16 : decode cX3_kind 16 = .ok (.astore_n 2, 1) := by decide +kernel
theorem dX3_kind_17 : decode cX3_kind 17 = .ok (.aload_n 2, 1) := by decide +kernel
theorem dX3_kind_18 : decode cX3_kind 18 = .ok (.getfield 79, 3) := by decide +kernel
theorem dX3_kind_21 : decode cX3_kind 21 = .ok (.ifCond .ne 6, 3) := by decide +kernel
theorem dX3_kind_24 : decode cX3_kind 24 = .ok (.bipush (-11), 2) := by decide +kernel
theorem dX3_kind_26 : decode cX3_kind 26 = .ok (.ireturn, 1) := by decide +kernel
theorem dX3_kind_27 : decode cX3_kind 27 = .ok (.aload_n 2, 1) := by decide +kernel
theorem dX3_kind_28 : decode cX3_kind 28 = .ok (.getfield 100, 3) := by decide +kernel
theorem dX3_kind_31 : decode cX3_kind 31 = .ok (.aload_n 2, 1) := by decide +kernel
theorem dX3_kind_32 : decode cX3_kind 32 = .ok (.getfield 97, 3) := by decide +kernel
theorem dX3_kind_35 : decode cX3_kind 35 = .ok (.ifCond .eq 8, 3) := by decide +kernel
theorem dX3_kind_38 : decode cX3_kind 38 = .ok (.bipush 8, 2) := by decide +kernel
theorem dX3_kind_40 : decode cX3_kind 40 = .ok (.goto 4, 3) := by decide +kernel
theorem dX3_kind_43 : decode cX3_kind 43 = .ok (.iconst 0, 1) := by decide +kernel
theorem dX3_kind_44 : decode cX3_kind 44 = .ok (.iadd, 1) := by decide +kernel
theorem dX3_kind_45 : decode cX3_kind 45 = .ok (.ireturn, 1) := by decide +kernel
theorem dX3_digits_0 : decode cX3_digits 0 = .ok (.iload_n 1, 1) := by decide +kernel
theorem dX3_digits_1 : decode cX3_digits 1 = .ok (.invokestatic 60, 3) := by decide +kernel
theorem dX3_digits_4 : decode cX3_digits 4 = .ok (.ifCond .eq 12, 3) := by decide +kernel
theorem dX3_digits_7 : decode cX3_digits 7 = .ok (.iload_n 2, 1) := by decide +kernel
theorem dX3_digits_8 : decode cX3_digits 8 = .ok (.ifCond .lt 8, 3) := by decide +kernel
theorem dX3_digits_11 : decode cX3_digits 11 = .ok (.iload_n 2, 1) := by decide +kernel
theorem dX3_digits_12 : decode cX3_digits 12 = .ok (.iconst 1, 1) := by decide +kernel
theorem dX3_digits_13 : decode cX3_digits 13 = .ok (.if_icmp .le 7, 3) := by decide +kernel
theorem dX3_digits_16 : decode cX3_digits 16 = .ok (.ldc2_w 154, 3) := by decide +kernel
theorem dX3_digits_19 : decode cX3_digits 19 = .ok (.lreturn, 1) := by decide +kernel
theorem dX3_digits_20 : decode cX3_digits 20 = .ok (.aload_n 0, 1) := by decide +kernel
theorem dX3_digits_21 : decode cX3_digits 21 = .ok (.getfield 30, 3) := by decide +kernel
theorem dX3_digits_24 : decode cX3_digits 24 = .ok (.iload_n 1, 1) := by decide +kernel
theorem dX3_digits_25 : decode cX3_digits 25 = .ok (.aaload, 1) := by decide +kernel
theorem dX3_digits_26 : decode cX3_digits 26 = .ok (.astore_n 3, 1) := by decide +kernel
theorem dX3_digits_27 : decode cX3_digits 27 = .ok (.aload_n 3, 1) := by decide +kernel
theorem dX3_digits_28 : decode cX3_digits 28 = .ok (.getfield 79, 3) := by decide +kernel
theorem dX3_digits_31 : decode cX3_digits 31 = .ok (.ifCond .ne 7, 3) := by decide +kernel
theorem dX3_digits_34 : decode cX3_digits 34 = .ok (.ldc2_w 156, 3) := by decide +kernel
theorem dX3_digits_37 : decode cX3_digits 37 = .ok (.lreturn, 1) := by decide +kernel
theorem dX3_digits_38 : decode cX3_digits 38 = .ok (.aload_n 3, 1) := by decide +kernel
theorem dX3_digits_39 : decode cX3_digits 39 = .ok (.getfield 83, 3) := by decide +kernel
theorem dX3_digits_42 : decode cX3_digits 42 = .ok (.iload_n 2, 1) := by decide +kernel
theorem dX3_digits_43 : decode cX3_digits 43 = .ok (.bipush 18, 2) := by decide +kernel
theorem dX3_digits_45 : decode cX3_digits 45 = .ok (.imul, 1) := by decide +kernel
theorem dX3_digits_46 : decode cX3_digits 46 = .ok (.bipush 18, 2) := by decide +kernel
theorem dX3_digits_48 : decode cX3_digits 48 = .ok (.invokestatic 158, 3) := by decide +kernel
theorem dX3_digits_51 : decode cX3_digits 51 = .ok (.lreturn, 1) := by decide +kernel
theorem dX3_discard_0 : decode cX3_discard 0 = .ok (.iload_n 1, 1) := by decide +kernel
theorem dX3_discard_1 : decode cX3_discard 1 = .ok (.invokestatic 60, 3) := by decide +kernel
theorem dX3_discard_4 : decode cX3_discard 4 = .ok (.ifCond .eq 15, 3) := by decide +kernel
theorem dX3_discard_7 : decode cX3_discard 7 = .ok (.aload_n 0, 1) := by decide +kernel
theorem dX3_discard_8 : decode cX3_discard 8 = .ok (.getfield 30, 3) := by decide +kernel
theorem dX3_discard_11 : decode cX3_discard 11 = .ok (.iload_n 1, 1) := by decide +kernel
theorem dX3_discard_12 : decode cX3_discard 12 = .ok (.aaload, 1) := by decide +kernel
theorem dX3_discard_13 : decode cX3_discard 13 = .ok (.getfield 79, 3) := by decide +kernel
theorem dX3_discard_16 : decode cX3_discard 16 = .ok (.ifCond .ne 5, 3) := by decide +kernel
theorem dX3_discard_19 : decode cX3_discard 19 = .ok (.iconst 0, 1) := by decide +kernel
theorem dX3_discard_20 : decode cX3_discard 20 = .ok (.ireturn, 1) := by decide +kernel
theorem dX3_discard_21 : decode cX3_discard 21 = .ok (.aload_n 0, 1) := by decide +kernel
theorem dX3_discard_22 : decode cX3_discard 22 = .ok (.getfield 30, 3) := by decide +kernel
theorem dX3_discard_25 : decode cX3_discard 25 = .ok (.iload_n 1, 1) := by decide +kernel
theorem dX3_discard_26 : decode cX3_discard 26 = .ok (.aaload, 1) := by decide +kernel
theorem dX3_discard_27 : decode cX3_discard 27 = .ok (.iconst 0, 1) := by decide +kernel
theorem dX3_discard_28 : decode cX3_discard 28 = .ok (.putfield 79, 3) := by decide +kernel
theorem dX3_discard_31 : decode cX3_discard 31 = .ok (.iconst 1, 1) := by decide +kernel
theorem dX3_discard_32 : decode cX3_discard 32 = .ok (.ireturn, 1) := by decide +kernel
theorem dX3_format_0 : decode cX3_format 0 = .ok (.iload_n 1, 1) := by decide +kernel
theorem dX3_format_1 : decode cX3_format 1 = .ok (.invokestatic 60, 3) := by decide +kernel
theorem dX3_format_4 : decode cX3_format 4 = .ok (.ifCond .eq 13, 3) := by decide +kernel
theorem dX3_format_7 : decode cX3_format 7 = .ok (.iload_n 2, 1) := by decide +kernel
theorem dX3_format_8 : decode cX3_format 8 = .ok (.ifCond .lt 9, 3) := by decide +kernel
theorem dX3_format_11 : decode cX3_format 11 = .ok (.iload_n 2, 1) := by decide +kernel
theorem dX3_format_12 : decode cX3_format 12 = .ok (.bipush 8, 2) := by decide +kernel
theorem dX3_format_14 : decode cX3_format 14 = .ok (.if_icmp .lt 6, 3) := by decide +kernel
theorem dX3_format_17 : decode cX3_format 17 = .ok (.bipush (-15), 2) := by decide +kernel
theorem dX3_format_19 : decode cX3_format 19 = .ok (.ireturn, 1) := by decide +kernel
theorem dX3_format_20 : decode cX3_format 20 = .ok (.aload_n 0, 1) := by decide +kernel
theorem dX3_format_21 : decode cX3_format 21 = .ok (.getfield 30, 3) := by decide +kernel
theorem dX3_format_24 : decode cX3_format 24 = .ok (.iload_n 1, 1) := by decide +kernel
theorem dX3_format_25 : decode cX3_format 25 = .ok (.aaload, 1) := by decide +kernel
theorem dX3_format_26 : decode cX3_format 26 = .ok (.astore_n 3, 1) := by decide +kernel
theorem dX3_format_27 : decode cX3_format 27 = .ok (.aload_n 3, 1) := by decide +kernel
theorem dX3_format_28 : decode cX3_format 28 = .ok (.getfield 79, 3) := by decide +kernel
theorem dX3_format_31 : decode cX3_format 31 = .ok (.ifCond .ne 6, 3) := by decide +kernel
theorem dX3_format_34 : decode cX3_format 34 = .ok (.bipush (-11), 2) := by decide +kernel
theorem dX3_format_36 : decode cX3_format 36 = .ok (.ireturn, 1) := by decide +kernel
theorem dX3_format_37 : decode cX3_format 37 = .ok (.aload_n 0, 1) := by decide +kernel
theorem dX3_format_38 : decode cX3_format 38 = .ok (.getfield 46, 3) := by decide +kernel
theorem dX3_format_41 : decode cX3_format 41 = .ok (.aload_n 3, 1) := by decide +kernel
theorem dX3_format_42 : decode cX3_format 42 = .ok (.getfield 83, 3) := by decide +kernel
theorem dX3_format_45 : decode cX3_format 45 = .ok (.bipush 10, 2) := by decide +kernel
theorem dX3_format_47 : decode cX3_format 47 = .ok (.aload_n 3, 1) := by decide +kernel
theorem dX3_format_48 : decode cX3_format 48 = .ok (.getfield 86, 3) := by decide +kernel
theorem dX3_format_51 : decode cX3_format 51 = .ok (.invokevirtual 89, 3) := by decide +kernel
theorem dX3_format_54 : decode cX3_format 54 = .ok (.aload_n 0, 1) := by decide +kernel
theorem dX3_format_55 : decode cX3_format 55 = .ok (.getfield 46, 3) := by decide +kernel
theorem dX3_format_58 : decode cX3_format 58 = .ok (.aload_n 3, 1) := by decide +kernel
theorem dX3_format_59 : decode cX3_format 59 = .ok (.getfield 100, 3) := by decide +kernel
theorem dX3_format_62 : decode cX3_format 62 = .ok (.invokestatic 113, 3) := by decide +kernel
theorem dX3_format_65 : decode cX3_format 65 = .ok (.iconst 1, 1) := by decide +kernel
theorem dX3_format_66 : decode cX3_format 66 = .ok (.bipush 6, 2) := by decide +kernel
theorem dX3_format_68 : decode cX3_format 68 = .ok (.invokevirtual 117, 3) := by decide +kernel
theorem dX3_format_71 : decode cX3_format 71 = .ok (.pop, 1) := by decide +kernel
theorem dX3_format_72 : decode cX3_format 72 = .ok (.aload_n 0, 1) := by decide +kernel
theorem dX3_format_73 : decode cX3_format 73 = .ok (.getfield 56, 3) := by decide +kernel
theorem dX3_format_76 : decode cX3_format 76 = .ok (.iconst 0, 1) := by decide +kernel
theorem dX3_format_77 : decode cX3_format 77 = .ok (.putfield 162, 3) := by decide +kernel
theorem dX3_format_80 : decode cX3_format 80 = .ok (.iload_n 2, 1) := by decide +kernel
theorem dX3_format_81 : decode cX3_format 81 = .ok (.iconst 2, 1) := by decide +kernel
theorem dX3_format_82 : decode cX3_format 82 = .ok (.iand, 1) := by decide +kernel
theorem dX3_format_83 : decode cX3_format 83 = .ok (.ifCond .eq 35, 3) := by decide +kernel
theorem dX3_format_86 : decode cX3_format 86 = .ok (.aload_n 0, 1) := by decide +kernel
theorem dX3_format_87 : decode cX3_format 87 = .ok (.aload_n 3, 1) := by decide +kernel
theorem dX3_format_88 : decode cX3_format 88 = .ok (.getfield 100, 3) := by decide +kernel
theorem dX3_format_91 : decode cX3_format 91 = .ok (.iload_n 2, 1) := by decide +kernel
theorem dX3_format_92 : decode cX3_format 92 = .ok (.invokevirtual 165, 3) := by decide +kernel
theorem dX3_format_95 : decode cX3_format 95 = .ok (.aload_n 0, 1) := by decide +kernel
theorem dX3_format_96 : decode cX3_format 96 = .ok (.getfield 56, 3) := by decide +kernel
theorem dX3_format_99 : decode cX3_format 99 = .ok (.bipush 32, 2) := by decide +kernel
theorem dX3_format_101 : decode cX3_format 101 = .ok (.invokevirtual 168, 3) := by decide +kernel
theorem dX3_format_104 : decode cX3_format 104 = .ok (.aload_n 0, 1) := by decide +kernel
theorem dX3_format_105 : decode cX3_format 105 = .ok (.getfield 56, 3) := by decide +kernel
theorem dX3_format_108 : decode cX3_format 108 = .ok (.aload_n 3, 1) := by decide +kernel
theorem dX3_format_109 : decode cX3_format 109 = .ok (.getfield 100, 3) := by decide +kernel
theorem dX3_format_112 : decode cX3_format 112 = .ok (.invokevirtual 172, 3) := by decide +kernel
theorem dX3_format_115 : decode cX3_format 115 = .ok (.goto 32, 3) := by decide +kernel
theorem dX3_format_118 : decode cX3_format 118 = .ok (.aload_n 0, 1) := by decide +kernel
theorem dX3_format_119 : decode cX3_format 119 = .ok (.getfield 56, 3) := by decide +kernel
theorem dX3_format_122 : decode cX3_format 122 = .ok (.aload_n 3, 1) := by decide +kernel
theorem dX3_format_123 : decode cX3_format 123 = .ok (.getfield 100, 3) := by decide +kernel
theorem dX3_format_126 : decode cX3_format 126 = .ok (.invokevirtual 172, 3) := by decide +kernel
theorem dX3_format_129 : decode cX3_format 129 = .ok (.aload_n 0, 1) := by decide +kernel
theorem dX3_format_130 : decode cX3_format 130 = .ok (.getfield 56, 3) := by decide +kernel
theorem dX3_format_133 : decode cX3_format 133 = .ok (.bipush 32, 2) := by decide +kernel
theorem dX3_format_135 : decode cX3_format 135 = .ok (.invokevirtual 168, 3) := by decide +kernel
theorem dX3_format_138 : decode cX3_format 138 = .ok (.aload_n 0, 1) := by decide +kernel
theorem dX3_format_139 : decode cX3_format 139 = .ok (.aload_n 3, 1) := by decide +kernel
theorem dX3_format_140 : decode cX3_format 140 = .ok (.getfield 100, 3) := by decide +kernel
theorem dX3_format_143 : decode cX3_format 143 = .ok (.iload_n 2, 1) := by decide +kernel
theorem dX3_format_144 : decode cX3_format 144 = .ok (.invokevirtual 165, 3) := by decide +kernel
theorem dX3_format_147 : decode cX3_format 147 = .ok (.aload_n 0, 1) := by decide +kernel
theorem dX3_format_148 : decode cX3_format 148 = .ok (.getfield 56, 3) := by decide +kernel
theorem dX3_format_151 : decode cX3_format 151 = .ok (.getfield 162, 3) := by decide +kernel
theorem dX3_format_154 : decode cX3_format 154 = .ok (.ireturn, 1) := by decide +kernel
theorem dX3_writeNumber_0 : decode cX3_writeNumber 0 = .ok (.aload_n 0, 1) := by decide +kernel
theorem dX3_writeNumber_1 : decode cX3_writeNumber 1 = .ok (.getfield 46, 3) := by decide +kernel
theorem dX3_writeNumber_4 : decode cX3_writeNumber 4 = .ok (.getfield 205, 3) := by decide +kernel
theorem dX3_writeNumber_7 : decode cX3_writeNumber 7 = .ok (.ifCond .eq 17, 3) := by decide +kernel
theorem dX3_writeNumber_10 : decode cX3_writeNumber 10 = .ok (.aload_n 0, 1) := by decide +kernel
theorem dX3_writeNumber_11 : decode cX3_writeNumber 11 = .ok (.getfield 46, 3) := by decide +kernel
theorem dX3_writeNumber_14 : decode cX3_writeNumber 14 = .ok (.invokevirtual 195, 3) := by decide +kernel
theorem dX3_writeNumber_17 : decode cX3_writeNumber 17 = .ok (.ifCond .le 7, 3) := by decide +kernel
theorem dX3_writeNumber_20 : decode cX3_writeNumber 20 = .ok (.iconst 1, 1) := by decide +kernel
theorem dX3_writeNumber_21 : decode cX3_writeNumber 21 = .ok (.goto 4, 3) := by decide +kernel
theorem dX3_writeNumber_24 : decode cX3_writeNumber 24 = .ok (.iconst 0, 1) := by decide +kernel
theorem dX3_writeNumber_25 : decode cX3_writeNumber 25 = .ok (.istore_n 3, 1) := by decide +kernel
theorem dX3_writeNumber_26 : decode cX3_writeNumber 26 = .ok (.iload_n 2, 1) := by decide +kernel
theorem dX3_writeNumber_27 : decode cX3_writeNumber 27 = .ok (.iconst 4, 1) := by decide +kernel
theorem dX3_writeNumber_28 : decode cX3_writeNumber 28 = .ok (.iand, 1) := by decide +kernel
theorem dX3_writeNumber_29 : decode cX3_writeNumber 29 = .ok (.ifCond .eq 7, 3) := by decide +kernel
theorem dX3_writeNumber_32 : decode cX3_writeNumber 32 = .ok (.iconst 1, 1) := by decide +kernel
theorem dX3_writeNumber_33 : decode cX3_writeNumber 33 = .ok (.goto 4, 3) := by decide +kernel
theorem dX3_writeNumber_36 : decode cX3_writeNumber 36 = .ok (.iconst 0, 1) := by decide +kernel
theorem dX3_writeNumber_37 : decode cX3_writeNumber 37 = .ok (.istore 4, 2) := by decide +kernel
theorem dX3_writeNumber_39 : decode cX3_writeNumber 39 = .ok (.iload_n 3, 1) := by decide +kernel
theorem dX3_writeNumber_40 : decode cX3_writeNumber 40 = .ok (.ifCond .eq 22, 3) := by decide +kernel
theorem dX3_writeNumber_43 : decode cX3_writeNumber 43 = .ok (.aload_n 0, 1) := by decide +kernel
theorem dX3_writeNumber_44 : decode cX3_writeNumber 44 = .ok (.getfield 56, 3) := by decide +kernel
theorem dX3_writeNumber_47 : decode cX3_writeNumber 47 = .ok (.iload 4, 2) := by decide +kernel
theorem dX3_writeNumber_49 : decode cX3_writeNumber 49 = .ok (.ifCond .eq 8, 3) := by decide +kernel
theorem dX3_writeNumber_52 : decode cX3_writeNumber 52 = .ok (.bipush 40, 2) := by decide +kernel
theorem dX3_writeNumber_54 : decode cX3_writeNumber 54 = .ok (.goto 5, 3) := by decide +kernel
theorem dX3_writeNumber_57 : decode cX3_writeNumber 57 = .ok (.bipush 45, 2) := by decide +kernel
theorem dX3_writeNumber_59 : decode cX3_writeNumber 59 = .ok (.invokevirtual 168, 3) := by decide +kernel
theorem dX3_writeNumber_62 : decode cX3_writeNumber 62 = .ok (.aload_n 0, 1) := by decide +kernel
theorem dX3_writeNumber_63 : decode cX3_writeNumber 63 = .ok (.getstatic 188, 3) := by decide +kernel
theorem dX3_writeNumber_66 : decode cX3_writeNumber 66 = .ok (.iload_n 1, 1) := by decide +kernel
theorem dX3_writeNumber_67 : decode cX3_writeNumber 67 = .ok (.iaload, 1) := by decide +kernel
theorem dX3_writeNumber_68 : decode cX3_writeNumber 68 = .ok (.iload_n 2, 1) := by decide +kernel
theorem dX3_writeNumber_69 : decode cX3_writeNumber 69 = .ok (.iconst 1, 1) := by decide +kernel
theorem dX3_writeNumber_70 : decode cX3_writeNumber 70 = .ok (.iand, 1) := by decide +kernel
theorem dX3_writeNumber_71 : decode cX3_writeNumber 71 = .ok (.ifCond .eq 7, 3) := by decide +kernel
theorem dX3_writeNumber_74 : decode cX3_writeNumber 74 = .ok (.iconst 1, 1) := by decide +kernel
theorem dX3_writeNumber_75 : decode cX3_writeNumber 75 = .ok (.goto 4, 3) := by decide +kernel
theorem dX3_writeNumber_78 : decode cX3_writeNumber 78 = .ok (.iconst 0, 1) := by decide +kernel
theorem dX3_writeNumber_79 : decode cX3_writeNumber 79 = .ok (.invokevirtual 206, 3) := by decide +kernel
theorem dX3_writeNumber_82 : decode cX3_writeNumber 82 = .ok (.iload_n 3, 1) := by decide +kernel
theorem dX3_writeNumber_83 : decode cX3_writeNumber 83 = .ok (.ifCond .eq 17, 3) := by decide +kernel
theorem dX3_writeNumber_86 : decode cX3_writeNumber 86 = .ok (.iload 4, 2) := by decide +kernel
theorem dX3_writeNumber_88 : decode cX3_writeNumber 88 = .ok (.ifCond .eq 12, 3) := by decide +kernel
theorem dX3_writeNumber_91 : decode cX3_writeNumber 91 = .ok (.aload_n 0, 1) := by decide +kernel
theorem dX3_writeNumber_92 : decode cX3_writeNumber 92 = .ok (.getfield 56, 3) := by decide +kernel
theorem dX3_writeNumber_95 : decode cX3_writeNumber 95 = .ok (.bipush 41, 2) := by decide +kernel
theorem dX3_writeNumber_97 : decode cX3_writeNumber 97 = .ok (.invokevirtual 168, 3) := by decide +kernel
theorem dX3_writeNumber_100 : decode cX3_writeNumber 100 = .ok (.return_, 1) := by decide +kernel
theorem dX3_writeBody_0 : decode cX3_writeBody 0 = .ok (.iconst 1, 1) := by decide +kernel
theorem dX3_writeBody_1 : decode cX3_writeBody 1 = .ok (.aload_n 0, 1) := by decide +kernel
theorem dX3_writeBody_2 : decode cX3_writeBody 2 = .ok (.getfield 46, 3) := by decide +kernel
theorem dX3_writeBody_5 : decode cX3_writeBody 5 = .ok (.invokevirtual 195, 3) := by decide +kernel
theorem dX3_writeBody_8 : decode cX3_writeBody 8 = .ok (.bipush 20, 2) := by decide +kernel
theorem dX3_writeBody_10 : decode cX3_writeBody 10 = .ok (.isub, 1) := by decide +kernel
theorem dX3_writeBody_11 : decode cX3_writeBody 11 = .ok (.invokestatic 15, 3) := by decide +kernel
theorem dX3_writeBody_14 : decode cX3_writeBody 14 = .ok (.istore_n 3, 1) := by decide +kernel
theorem dX3_writeBody_15 : decode cX3_writeBody 15 = .ok (.iload_n 3, 1) := by decide +kernel
theorem dX3_writeBody_16 : decode cX3_writeBody 16 = .ok (.iconst 1, 1) := by decide +kernel
theorem dX3_writeBody_17 : decode cX3_writeBody 17 = .ok (.isub, 1) := by decide +kernel
theorem dX3_writeBody_18 : decode cX3_writeBody 18 = .ok (.istore 4, 2) := by decide +kernel
theorem dX3_writeBody_20 : decode cX3_writeBody 20 = .ok (.iload 4, 2) := by decide +kernel
theorem dX3_writeBody_22 : decode cX3_writeBody 22 = .ok (.ifCond .lt 57, 3) := by decide +kernel
theorem dX3_writeBody_25 : decode cX3_writeBody 25 = .ok (.aload_n 0, 1) := by decide +kernel
theorem dX3_writeBody_26 : decode cX3_writeBody 26 = .ok (.getfield 56, 3) := by decide +kernel
theorem dX3_writeBody_29 : decode cX3_writeBody 29 = .ok (.bipush 48, 2) := by decide +kernel
theorem dX3_writeBody_31 : decode cX3_writeBody 31 = .ok (.aload_n 0, 1) := by decide +kernel
theorem dX3_writeBody_32 : decode cX3_writeBody 32 = .ok (.getfield 46, 3) := by decide +kernel
theorem dX3_writeBody_35 : decode cX3_writeBody 35 = .ok (.getfield 133, 3) := by decide +kernel
theorem dX3_writeBody_38 : decode cX3_writeBody 38 = .ok (.bipush 20, 2) := by decide +kernel
theorem dX3_writeBody_40 : decode cX3_writeBody 40 = .ok (.iload 4, 2) := by decide +kernel
theorem dX3_writeBody_42 : decode cX3_writeBody 42 = .ok (.iadd, 1) := by decide +kernel
theorem dX3_writeBody_43 : decode cX3_writeBody 43 = .ok (.iaload, 1) := by decide +kernel
theorem dX3_writeBody_44 : decode cX3_writeBody 44 = .ok (.iadd, 1) := by decide +kernel
theorem dX3_writeBody_45 : decode cX3_writeBody 45 = .ok (.invokevirtual 168, 3) := by decide +kernel
theorem dX3_writeBody_48 : decode cX3_writeBody 48 = .ok (.iload_n 2, 1) := by decide +kernel
theorem dX3_writeBody_49 : decode cX3_writeBody 49 = .ok (.ifCond .eq 24, 3) := by decide +kernel
theorem dX3_writeBody_52 : decode cX3_writeBody 52 = .ok (.iload 4, 2) := by decide +kernel
theorem dX3_writeBody_54 : decode cX3_writeBody 54 = .ok (.ifCond .le 19, 3) := by decide +kernel
theorem dX3_writeBody_57 : decode cX3_writeBody 57 = .ok (.iload 4, 2) := by decide +kernel
theorem dX3_writeBody_59 : decode cX3_writeBody 59 = .ok (.iconst 3, 1) := by decide +kernel
theorem dX3_writeBody_60 : decode cX3_writeBody 60 = .ok (.irem, 1) := by decide +kernel
theorem dX3_writeBody_61 : decode cX3_writeBody 61 = .ok (.ifCond .ne 12, 3) := by decide +kernel
theorem dX3_writeBody_64 : decode cX3_writeBody 64 = .ok (.aload_n 0, 1) := by decide +kernel
theorem dX3_writeBody_65 : decode cX3_writeBody 65 = .ok (.getfield 56, 3) := by decide +kernel
theorem dX3_writeBody_68 : decode cX3_writeBody 68 = .ok (.bipush 44, 2) := by decide +kernel
theorem dX3_writeBody_70 : decode cX3_writeBody 70 = .ok (.invokevirtual 168, 3) := by decide +kernel
theorem dX3_writeBody_73 : decode cX3_writeBody 73 = .ok (.iinc 4 (-1), 3) := by decide +kernel
theorem dX3_writeBody_76 : decode cX3_writeBody 76 = .ok (.goto (-56), 3) := by decide +kernel
theorem dX3_writeBody_79 : decode cX3_writeBody 79 = .ok (.iload_n 1, 1) := by decide +kernel
theorem dX3_writeBody_80 : decode cX3_writeBody 80 = .ok (.ifCond .le 12, 3) := by decide +kernel
theorem dX3_writeBody_83 : decode cX3_writeBody 83 = .ok (.aload_n 0, 1) := by decide +kernel
theorem dX3_writeBody_84 : decode cX3_writeBody 84 = .ok (.getfield 56, 3) := by decide +kernel
theorem dX3_writeBody_87 : decode cX3_writeBody 87 = .ok (.bipush 46, 2) := by decide +kernel
theorem dX3_writeBody_89 : decode cX3_writeBody 89 = .ok (.invokevirtual 168, 3) := by decide +kernel
theorem dX3_writeBody_92 : decode cX3_writeBody 92 = .ok (.iconst 1, 1) := by decide +kernel
theorem dX3_writeBody_93 : decode cX3_writeBody 93 = .ok (.istore 4, 2) := by decide +kernel
theorem dX3_writeBody_95 : decode cX3_writeBody 95 = .ok (.iload 4, 2) := by decide +kernel
theorem dX3_writeBody_97 : decode cX3_writeBody 97 = .ok (.iload_n 1, 1) := by decide +kernel
theorem dX3_writeBody_98 : decode cX3_writeBody 98 = .ok (.if_icmp .gt 32, 3) := by decide +kernel
theorem dX3_writeBody_101 : decode cX3_writeBody 101 = .ok (.aload_n 0, 1) := by decide +kernel
theorem dX3_writeBody_102 : decode cX3_writeBody 102 = .ok (.getfield 56, 3) := by decide +kernel
theorem dX3_writeBody_105 : decode cX3_writeBody 105 = .ok (.bipush 48, 2) := by decide +kernel
theorem dX3_writeBody_107 : decode cX3_writeBody 107 = .ok (.aload_n 0, 1) := by decide +kernel
theorem dX3_writeBody_108 : decode cX3_writeBody 108 = .ok (.getfield 46, 3) := by decide +kernel
theorem dX3_writeBody_111 : decode cX3_writeBody 111 = .ok (.getfield 133, 3) := by decide +kernel
theorem dX3_writeBody_114 : decode cX3_writeBody 114 = .ok (.bipush 20, 2) := by decide +kernel
theorem dX3_writeBody_116 : decode cX3_writeBody 116 = .ok (.iload 4, 2) := by decide +kernel
theorem dX3_writeBody_118 : decode cX3_writeBody 118 = .ok (.isub, 1) := by decide +kernel
theorem dX3_writeBody_119 : decode cX3_writeBody 119 = .ok (.iaload, 1) := by decide +kernel
theorem dX3_writeBody_120 : decode cX3_writeBody 120 = .ok (.iadd, 1) := by decide +kernel
theorem dX3_writeBody_121 : decode cX3_writeBody 121 = .ok (.invokevirtual 168, 3) := by decide +kernel
theorem dX3_writeBody_124 : decode cX3_writeBody 124 = .ok (.iinc 4 1, 3) := by decide +kernel
theorem dX3_writeBody_127 : decode cX3_writeBody 127 = .ok (.goto (-32), 3) := by decide +kernel
theorem dX3_writeBody_130 : decode cX3_writeBody 130 = .ok (.return_, 1) := by decide +kernel
theorem dX3_type_0 : decode cX3_type 0 = .ok (.iload_n 1, 1) := by decide +kernel
theorem dX3_type_1 : decode cX3_type 1 = .ok (.bipush 32, 2) := by decide +kernel
theorem dX3_type_3 : decode cX3_type 3 = .ok (.if_icmp .lt 21, 3) := by decide +kernel
theorem dX3_type_6 : decode cX3_type 6 = .ok (.iload_n 1, 1) := by decide +kernel
theorem dX3_type_7 : decode cX3_type 7 = .ok (.bipush 126, 2) := by decide +kernel
theorem dX3_type_9 : decode cX3_type 9 = .ok (.if_icmp .gt 15, 3) := by decide +kernel
theorem dX3_type_12 : decode cX3_type 12 = .ok (.aload_n 0, 1) := by decide +kernel
theorem dX3_type_13 : decode cX3_type 13 = .ok (.getfield 56, 3) := by decide +kernel
theorem dX3_type_16 : decode cX3_type 16 = .ok (.getfield 162, 3) := by decide +kernel
theorem dX3_type_19 : decode cX3_type 19 = .ok (.bipush 48, 2) := by decide +kernel
theorem dX3_type_21 : decode cX3_type 21 = .ok (.if_icmp .lt 6, 3) := by decide +kernel
theorem dX3_type_24 : decode cX3_type 24 = .ok (.bipush (-15), 2) := by decide +kernel
theorem dX3_type_26 : decode cX3_type 26 = .ok (.ireturn, 1) := by decide +kernel
theorem dX3_type_27 : decode cX3_type 27 = .ok (.aload_n 0, 1) := by decide +kernel
theorem dX3_type_28 : decode cX3_type 28 = .ok (.getfield 56, 3) := by decide +kernel
theorem dX3_type_31 : decode cX3_type 31 = .ok (.iload_n 1, 1) := by decide +kernel
theorem dX3_type_32 : decode cX3_type 32 = .ok (.invokevirtual 168, 3) := by decide +kernel
theorem dX3_type_35 : decode cX3_type 35 = .ok (.aload_n 0, 1) := by decide +kernel
theorem dX3_type_36 : decode cX3_type 36 = .ok (.getfield 56, 3) := by decide +kernel
theorem dX3_type_39 : decode cX3_type 39 = .ok (.getfield 162, 3) := by decide +kernel
theorem dX3_type_42 : decode cX3_type 42 = .ok (.ireturn, 1) := by decide +kernel
theorem dX3_wipe_0 : decode cX3_wipe 0 = .ok (.aload_n 0, 1) := by decide +kernel
theorem dX3_wipe_1 : decode cX3_wipe 1 = .ok (.getfield 56, 3) := by decide +kernel
theorem dX3_wipe_4 : decode cX3_wipe 4 = .ok (.iconst 0, 1) := by decide +kernel
theorem dX3_wipe_5 : decode cX3_wipe 5 = .ok (.putfield 162, 3) := by decide +kernel
theorem dX3_wipe_8 : decode cX3_wipe 8 = .ok (.return_, 1) := by decide +kernel
theorem dX3_letter_0 : decode cX3_letter 0 = .ok (.iload_n 1, 1) := by decide +kernel
theorem dX3_letter_1 : decode cX3_letter 1 = .ok (.ifCond .lt 14, 3) := by decide +kernel
theorem dX3_letter_4 : decode cX3_letter 4 = .ok (.iload_n 1, 1) := by decide +kernel
theorem dX3_letter_5 : decode cX3_letter 5 = .ok (.aload_n 0, 1) := by decide +kernel
theorem dX3_letter_6 : decode cX3_letter 6 = .ok (.getfield 56, 3) := by decide +kernel
theorem dX3_letter_9 : decode cX3_letter 9 = .ok (.getfield 162, 3) := by decide +kernel
theorem dX3_letter_12 : decode cX3_letter 12 = .ok (.if_icmp .lt 6, 3) := by decide +kernel
theorem dX3_letter_15 : decode cX3_letter 15 = .ok (.bipush (-15), 2) := by decide +kernel
theorem dX3_letter_17 : decode cX3_letter 17 = .ok (.ireturn, 1) := by decide +kernel
theorem dX3_letter_18 : decode cX3_letter 18 = .ok (.aload_n 0, 1) := by decide +kernel
theorem dX3_letter_19 : decode cX3_letter 19 = .ok (.getfield 56, 3) := by decide +kernel
theorem dX3_letter_22 : decode cX3_letter 22 = .ok (.getfield 175, 3) := by decide +kernel
theorem dX3_letter_25 : decode cX3_letter 25 = .ok (.iload_n 1, 1) := by decide +kernel
theorem dX3_letter_26 : decode cX3_letter 26 = .ok (.iaload, 1) := by decide +kernel
theorem dX3_letter_27 : decode cX3_letter 27 = .ok (.ireturn, 1) := by decide +kernel
theorem dX3_parse_0 : decode cX3_parse 0 = .ok (.iload_n 1, 1) := by decide +kernel
theorem dX3_parse_1 : decode cX3_parse 1 = .ok (.invokestatic 60, 3) := by decide +kernel
theorem dX3_parse_4 : decode cX3_parse 4 = .ok (.ifCond .eq 13, 3) := by decide +kernel
theorem dX3_parse_7 : decode cX3_parse 7 = .ok (.iload_n 3, 1) := by decide +kernel
theorem dX3_parse_8 : decode cX3_parse 8 = .ok (.ifCond .lt 9, 3) := by decide +kernel
end
section
theorem dX3_parse_11 : decode cX3_parse 11 = .ok (.iload_n 3, 1) := by decide +kernel
theorem dX3_parse_12 : decode cX3_parse 12 = .ok (.bipush 8, 2) := by decide +kernel
theorem dX3_parse_14 : decode cX3_parse 14 = .ok (.if_icmp .lt 6, 3) := by decide +kernel
theorem dX3_parse_17 : decode cX3_parse 17 = .ok (.bipush (-15), 2) := by decide +kernel
theorem dX3_parse_19 : decode cX3_parse 19 = .ok (.ireturn, 1) := by decide +kernel
theorem dX3_parse_20 : decode cX3_parse 20 = .ok (.aload_n 0, 1) := by decide +kernel
theorem dX3_parse_21 : decode cX3_parse 21 = .ok (.getfield 56, 3) := by decide +kernel
theorem dX3_parse_24 : decode cX3_parse 24 = .ok (.iconst 0, 1) := by decide +kernel
theorem dX3_parse_25 : decode cX3_parse 25 = .ok (.putfield 178, 3) := by decide +kernel
theorem dX3_parse_28 : decode cX3_parse 28 = .ok (.aload_n 0, 1) := by decide +kernel
theorem dX3_parse_29 : decode cX3_parse 29 = .ok (.getfield 46, 3) := by decide +kernel
theorem dX3_parse_32 : decode cX3_parse 32 = .ok (.invokevirtual 181, 3) := by decide +kernel
theorem dX3_parse_35 : decode cX3_parse 35 = .ok (.aload_n 0, 1) := by decide +kernel
theorem dX3_parse_36 : decode cX3_parse 36 = .ok (.iload_n 3, 1) := by decide +kernel
theorem dX3_parse_37 : decode cX3_parse 37 = .ok (.invokevirtual 184, 3) := by decide +kernel
theorem dX3_parse_40 : decode cX3_parse 40 = .ok (.ifCond .eq 20, 3) := by decide +kernel
theorem dX3_parse_43 : decode cX3_parse 43 = .ok (.aload_n 0, 1) := by decide +kernel
theorem dX3_parse_44 : decode cX3_parse 44 = .ok (.getfield 56, 3) := by decide +kernel
theorem dX3_parse_47 : decode cX3_parse 47 = .ok (.getfield 178, 3) := by decide +kernel
theorem dX3_parse_50 : decode cX3_parse 50 = .ok (.aload_n 0, 1) := by decide +kernel
theorem dX3_parse_51 : decode cX3_parse 51 = .ok (.getfield 56, 3) := by decide +kernel
theorem dX3_parse_54 : decode cX3_parse 54 = .ok (.getfield 162, 3) := by decide +kernel
theorem dX3_parse_57 : decode cX3_parse 57 = .ok (.if_icmp .ge 14, 3) := by decide +kernel
theorem dX3_parse_60 : decode cX3_parse 60 = .ok (.bipush (-100), 2) := by decide +kernel
theorem dX3_parse_62 : decode cX3_parse 62 = .ok (.aload_n 0, 1) := by decide +kernel
theorem dX3_parse_63 : decode cX3_parse 63 = .ok (.getfield 56, 3) := by decide +kernel
theorem dX3_parse_66 : decode cX3_parse 66 = .ok (.getfield 178, 3) := by decide +kernel
theorem dX3_parse_69 : decode cX3_parse 69 = .ok (.isub, 1) := by decide +kernel
theorem dX3_parse_70 : decode cX3_parse 70 = .ok (.ireturn, 1) := by decide +kernel
theorem dX3_parse_71 : decode cX3_parse 71 = .ok (.aload_n 0, 1) := by decide +kernel
theorem dX3_parse_72 : decode cX3_parse 72 = .ok (.iload_n 1, 1) := by decide +kernel
theorem dX3_parse_73 : decode cX3_parse 73 = .ok (.iload_n 2, 1) := by decide +kernel
theorem dX3_parse_74 : decode cX3_parse 74 = .ok (.aload_n 0, 1) := by decide +kernel
theorem dX3_parse_75 : decode cX3_parse 75 = .ok (.getfield 56, 3) := by decide +kernel
theorem dX3_parse_78 : decode cX3_parse 78 = .ok (.getfield 187, 3) := by decide +kernel
theorem dX3_parse_81 : decode cX3_parse 81 = .ok (.invokevirtual 71, 3) := by decide +kernel
theorem dX3_parse_84 : decode cX3_parse 84 = .ok (.ireturn, 1) := by decide +kernel
theorem dX3_readStyle_0 : decode cX3_readStyle 0 = .ok (.iload_n 1, 1) := by decide +kernel
theorem dX3_readStyle_1 : decode cX3_readStyle 1 = .ok (.iconst 2, 1) := by decide +kernel
theorem dX3_readStyle_2 : decode cX3_readStyle 2 = .ok (.iand, 1) := by decide +kernel
theorem dX3_readStyle_3 : decode cX3_readStyle 3 = .ok (.ifCond .eq 39, 3) := by decide +kernel
theorem dX3_readStyle_6 : decode cX3_readStyle 6 = .ok (.aload_n 0, 1) := by decide +kernel
theorem dX3_readStyle_7 : decode cX3_readStyle 7 = .ok (.iload_n 1, 1) := by decide +kernel
theorem dX3_readStyle_8 : decode cX3_readStyle 8 = .ok (.invokevirtual 210, 3) := by decide +kernel
theorem dX3_readStyle_11 : decode cX3_readStyle 11 = .ok (.ifCond .eq 29, 3) := by decide +kernel
theorem dX3_readStyle_14 : decode cX3_readStyle 14 = .ok (.aload_n 0, 1) := by decide +kernel
theorem dX3_readStyle_15 : decode cX3_readStyle 15 = .ok (.getfield 56, 3) := by decide +kernel
theorem dX3_readStyle_18 : decode cX3_readStyle 18 = .ok (.bipush 32, 2) := by decide +kernel
theorem dX3_readStyle_20 : decode cX3_readStyle 20 = .ok (.invokevirtual 213, 3) := by decide +kernel
theorem dX3_readStyle_23 : decode cX3_readStyle 23 = .ok (.ifCond .eq 17, 3) := by decide +kernel
theorem dX3_readStyle_26 : decode cX3_readStyle 26 = .ok (.aload_n 0, 1) := by decide +kernel
theorem dX3_readStyle_27 : decode cX3_readStyle 27 = .ok (.getfield 56, 3) := by decide +kernel
theorem dX3_readStyle_30 : decode cX3_readStyle 30 = .ok (.invokevirtual 216, 3) := by decide +kernel
theorem dX3_readStyle_33 : decode cX3_readStyle 33 = .ok (.ifCond .eq 7, 3) := by decide +kernel
theorem dX3_readStyle_36 : decode cX3_readStyle 36 = .ok (.iconst 1, 1) := by decide +kernel
theorem dX3_readStyle_37 : decode cX3_readStyle 37 = .ok (.goto 4, 3) := by decide +kernel
theorem dX3_readStyle_40 : decode cX3_readStyle 40 = .ok (.iconst 0, 1) := by decide +kernel
theorem dX3_readStyle_41 : decode cX3_readStyle 41 = .ok (.ireturn, 1) := by decide +kernel
theorem dX3_readStyle_42 : decode cX3_readStyle 42 = .ok (.aload_n 0, 1) := by decide +kernel
theorem dX3_readStyle_43 : decode cX3_readStyle 43 = .ok (.getfield 56, 3) := by decide +kernel
theorem dX3_readStyle_46 : decode cX3_readStyle 46 = .ok (.invokevirtual 216, 3) := by decide +kernel
theorem dX3_readStyle_49 : decode cX3_readStyle 49 = .ok (.ifCond .eq 27, 3) := by decide +kernel
theorem dX3_readStyle_52 : decode cX3_readStyle 52 = .ok (.aload_n 0, 1) := by decide +kernel
theorem dX3_readStyle_53 : decode cX3_readStyle 53 = .ok (.getfield 56, 3) := by decide +kernel
theorem dX3_readStyle_56 : decode cX3_readStyle 56 = .ok (.bipush 32, 2) := by decide +kernel
theorem dX3_readStyle_58 : decode cX3_readStyle 58 = .ok (.invokevirtual 213, 3) := by decide +kernel
theorem dX3_readStyle_61 : decode cX3_readStyle 61 = .ok (.ifCond .eq 15, 3) := by decide +kernel
theorem dX3_readStyle_64 : decode cX3_readStyle 64 = .ok (.aload_n 0, 1) := by decide +kernel
theorem dX3_readStyle_65 : decode cX3_readStyle 65 = .ok (.iload_n 1, 1) := by decide +kernel
theorem dX3_readStyle_66 : decode cX3_readStyle 66 = .ok (.invokevirtual 210, 3) := by decide +kernel
theorem dX3_readStyle_69 : decode cX3_readStyle 69 = .ok (.ifCond .eq 7, 3) := by decide +kernel
theorem dX3_readStyle_72 : decode cX3_readStyle 72 = .ok (.iconst 1, 1) := by decide +kernel
theorem dX3_readStyle_73 : decode cX3_readStyle 73 = .ok (.goto 4, 3) := by decide +kernel
theorem dX3_readStyle_76 : decode cX3_readStyle 76 = .ok (.iconst 0, 1) := by decide +kernel
theorem dX3_readStyle_77 : decode cX3_readStyle 77 = .ok (.ireturn, 1) := by decide +kernel
theorem dX3_readNumber_0 : decode cX3_readNumber 0 = .ok (.iload_n 1, 1) := by decide +kernel
theorem dX3_readNumber_1 : decode cX3_readNumber 1 = .ok (.iconst 4, 1) := by decide +kernel
theorem dX3_readNumber_2 : decode cX3_readNumber 2 = .ok (.iand, 1) := by decide +kernel
theorem dX3_readNumber_3 : decode cX3_readNumber 3 = .ok (.ifCond .eq 7, 3) := by decide +kernel
theorem dX3_readNumber_6 : decode cX3_readNumber 6 = .ok (.iconst 1, 1) := by decide +kernel
theorem dX3_readNumber_7 : decode cX3_readNumber 7 = .ok (.goto 4, 3) := by decide +kernel
theorem dX3_readNumber_10 : decode cX3_readNumber 10 = .ok (.iconst 0, 1) := by decide +kernel
theorem dX3_readNumber_11 : decode cX3_readNumber 11 = .ok (.istore_n 2, 1) := by decide +kernel
theorem dX3_readNumber_12 : decode cX3_readNumber 12 = .ok (.aload_n 0, 1) := by decide +kernel
theorem dX3_readNumber_13 : decode cX3_readNumber 13 = .ok (.getfield 46, 3) := by decide +kernel
theorem dX3_readNumber_16 : decode cX3_readNumber 16 = .ok (.aload_n 0, 1) := by decide +kernel
theorem dX3_readNumber_17 : decode cX3_readNumber 17 = .ok (.getfield 56, 3) := by decide +kernel
theorem dX3_readNumber_20 : decode cX3_readNumber 20 = .ok (.iload_n 2, 1) := by decide +kernel
theorem dX3_readNumber_21 : decode cX3_readNumber 21 = .ok (.ifCond .eq 8, 3) := by decide +kernel
theorem dX3_readNumber_24 : decode cX3_readNumber 24 = .ok (.bipush 40, 2) := by decide +kernel
theorem dX3_readNumber_26 : decode cX3_readNumber 26 = .ok (.goto 5, 3) := by decide +kernel
theorem dX3_readNumber_29 : decode cX3_readNumber 29 = .ok (.bipush 45, 2) := by decide +kernel
theorem dX3_readNumber_31 : decode cX3_readNumber 31 = .ok (.invokevirtual 213, 3) := by decide +kernel
theorem dX3_readNumber_34 : decode cX3_readNumber 34 = .ok (.putfield 205, 3) := by decide +kernel
theorem dX3_readNumber_37 : decode cX3_readNumber 37 = .ok (.aload_n 0, 1) := by decide +kernel
theorem dX3_readNumber_38 : decode cX3_readNumber 38 = .ok (.iload_n 1, 1) := by decide +kernel
theorem dX3_readNumber_39 : decode cX3_readNumber 39 = .ok (.iconst 1, 1) := by decide +kernel
theorem dX3_readNumber_40 : decode cX3_readNumber 40 = .ok (.iand, 1) := by decide +kernel
theorem dX3_readNumber_41 : decode cX3_readNumber 41 = .ok (.ifCond .eq 7, 3) := by decide +kernel
theorem dX3_readNumber_44 : decode cX3_readNumber 44 = .ok (.iconst 1, 1) := by decide +kernel
theorem dX3_readNumber_45 : decode cX3_readNumber 45 = .ok (.goto 4, 3) := by decide +kernel
theorem dX3_readNumber_48 : decode cX3_readNumber 48 = .ok (.iconst 0, 1) := by decide +kernel
theorem dX3_readNumber_49 : decode cX3_readNumber 49 = .ok (.invokevirtual 219, 3) := by decide +kernel
theorem dX3_readNumber_52 : decode cX3_readNumber 52 = .ok (.ifCond .ne 5, 3) := by decide +kernel
theorem dX3_readNumber_55 : decode cX3_readNumber 55 = .ok (.iconst 0, 1) := by decide +kernel
theorem dX3_readNumber_56 : decode cX3_readNumber 56 = .ok (.ireturn, 1) := by decide +kernel
theorem dX3_readNumber_57 : decode cX3_readNumber 57 = .ok (.iload_n 2, 1) := by decide +kernel
theorem dX3_readNumber_58 : decode cX3_readNumber 58 = .ok (.ifCond .eq 25, 3) := by decide +kernel
theorem dX3_readNumber_61 : decode cX3_readNumber 61 = .ok (.aload_n 0, 1) := by decide +kernel
theorem dX3_readNumber_62 : decode cX3_readNumber 62 = .ok (.getfield 46, 3) := by decide +kernel
theorem dX3_readNumber_65 : decode cX3_readNumber 65 = .ok (.getfield 205, 3) := by decide +kernel
theorem dX3_readNumber_68 : decode cX3_readNumber 68 = .ok (.ifCond .eq 15, 3) := by decide +kernel
theorem dX3_readNumber_71 : decode cX3_readNumber 71 = .ok (.aload_n 0, 1) := by decide +kernel
theorem dX3_readNumber_72 : decode cX3_readNumber 72 = .ok (.getfield 56, 3) := by decide +kernel
theorem dX3_readNumber_75 : decode cX3_readNumber 75 = .ok (.bipush 41, 2) := by decide +kernel
theorem dX3_readNumber_77 : decode cX3_readNumber 77 = .ok (.invokevirtual 213, 3) := by decide +kernel
theorem dX3_readNumber_80 : decode cX3_readNumber 80 = .ok (.ifCond .eq 7, 3) := by decide +kernel
theorem dX3_readNumber_83 : decode cX3_readNumber 83 = .ok (.iconst 1, 1) := by decide +kernel
theorem dX3_readNumber_84 : decode cX3_readNumber 84 = .ok (.goto 4, 3) := by decide +kernel
theorem dX3_readNumber_87 : decode cX3_readNumber 87 = .ok (.iconst 0, 1) := by decide +kernel
theorem dX3_readNumber_88 : decode cX3_readNumber 88 = .ok (.ireturn, 1) := by decide +kernel
theorem dX3_readBody_0 : decode cX3_readBody 0 = .ok (.aload_n 0, 1) := by decide +kernel
theorem dX3_readBody_1 : decode cX3_readBody 1 = .ok (.getfield 56, 3) := by decide +kernel
theorem dX3_readBody_4 : decode cX3_readBody 4 = .ok (.getfield 178, 3) := by decide +kernel
theorem dX3_readBody_7 : decode cX3_readBody 7 = .ok (.istore_n 2, 1) := by decide +kernel
theorem dX3_readBody_8 : decode cX3_readBody 8 = .ok (.aload_n 0, 1) := by decide +kernel
theorem dX3_readBody_9 : decode cX3_readBody 9 = .ok (.getfield 56, 3) := by decide +kernel
theorem dX3_readBody_12 : decode cX3_readBody 12 = .ok (.iload_n 1, 1) := by decide +kernel
theorem dX3_readBody_13 : decode cX3_readBody 13 = .ok (.invokevirtual 223, 3) := by decide +kernel
theorem dX3_readBody_16 : decode cX3_readBody 16 = .ok (.ifCond .ne 5, 3) := by decide +kernel
theorem dX3_readBody_19 : decode cX3_readBody 19 = .ok (.iconst 0, 1) := by decide +kernel
theorem dX3_readBody_20 : decode cX3_readBody 20 = .ok (.ireturn, 1) := by decide +kernel
theorem dX3_readBody_21 : decode cX3_readBody 21 = .ok (.aload_n 0, 1) := by decide +kernel
theorem dX3_readBody_22 : decode cX3_readBody 22 = .ok (.iload_n 2, 1) := by decide +kernel
theorem dX3_readBody_23 : decode cX3_readBody 23 = .ok (.aload_n 0, 1) := by decide +kernel
theorem dX3_readBody_24 : decode cX3_readBody 24 = .ok (.getfield 56, 3) := by decide +kernel
theorem dX3_readBody_27 : decode cX3_readBody 27 = .ok (.getfield 178, 3) := by decide +kernel
theorem dX3_readBody_30 : decode cX3_readBody 30 = .ok (.invokevirtual 226, 3) := by decide +kernel
theorem dX3_readBody_33 : decode cX3_readBody 33 = .ok (.aload_n 0, 1) := by decide +kernel
theorem dX3_readBody_34 : decode cX3_readBody 34 = .ok (.getfield 56, 3) := by decide +kernel
theorem dX3_readBody_37 : decode cX3_readBody 37 = .ok (.bipush 46, 2) := by decide +kernel
theorem dX3_readBody_39 : decode cX3_readBody 39 = .ok (.invokevirtual 213, 3) := by decide +kernel
theorem dX3_readBody_42 : decode cX3_readBody 42 = .ok (.ifCond .ne 5, 3) := by decide +kernel
theorem dX3_readBody_45 : decode cX3_readBody 45 = .ok (.iconst 1, 1) := by decide +kernel
theorem dX3_readBody_46 : decode cX3_readBody 46 = .ok (.ireturn, 1) := by decide +kernel
theorem dX3_readBody_47 : decode cX3_readBody 47 = .ok (.aload_n 0, 1) := by decide +kernel
theorem dX3_readBody_48 : decode cX3_readBody 48 = .ok (.getfield 56, 3) := by decide +kernel
theorem dX3_readBody_51 : decode cX3_readBody 51 = .ok (.getfield 178, 3) := by decide +kernel
theorem dX3_readBody_54 : decode cX3_readBody 54 = .ok (.istore_n 3, 1) := by decide +kernel
theorem dX3_readBody_55 : decode cX3_readBody 55 = .ok (.aload_n 0, 1) := by decide +kernel
theorem dX3_readBody_56 : decode cX3_readBody 56 = .ok (.getfield 56, 3) := by decide +kernel
theorem dX3_readBody_59 : decode cX3_readBody 59 = .ok (.bipush 10, 2) := by decide +kernel
theorem dX3_readBody_61 : decode cX3_readBody 61 = .ok (.invokevirtual 229, 3) := by decide +kernel
theorem dX3_readBody_64 : decode cX3_readBody 64 = .ok (.istore 4, 2) := by decide +kernel
theorem dX3_readBody_66 : decode cX3_readBody 66 = .ok (.iconst 0, 1) := by decide +kernel
theorem dX3_readBody_67 : decode cX3_readBody 67 = .ok (.istore 5, 2) := by decide +kernel
theorem dX3_readBody_69 : decode cX3_readBody 69 = .ok (.iload 5, 2) := by decide +kernel
theorem dX3_readBody_71 : decode cX3_readBody 71 = .ok (.iload 4, 2) := by decide +kernel
theorem dX3_readBody_73 : decode cX3_readBody 73 = .ok (.if_icmp .ge 37, 3) := by decide +kernel
theorem dX3_readBody_76 : decode cX3_readBody 76 = .ok (.aload_n 0, 1) := by decide +kernel
theorem dX3_readBody_77 : decode cX3_readBody 77 = .ok (.getfield 46, 3) := by decide +kernel
theorem dX3_readBody_80 : decode cX3_readBody 80 = .ok (.getfield 133, 3) := by decide +kernel
theorem dX3_readBody_83 : decode cX3_readBody 83 = .ok (.bipush 19, 2) := by decide +kernel
theorem dX3_readBody_85 : decode cX3_readBody 85 = .ok (.iload 5, 2) := by decide +kernel
theorem dX3_readBody_87 : decode cX3_readBody 87 = .ok (.isub, 1) := by decide +kernel
theorem dX3_readBody_88 : decode cX3_readBody 88 = .ok (.aload_n 0, 1) := by decide +kernel
theorem dX3_readBody_89 : decode cX3_readBody 89 = .ok (.getfield 56, 3) := by decide +kernel
theorem dX3_readBody_92 : decode cX3_readBody 92 = .ok (.getfield 175, 3) := by decide +kernel
theorem dX3_readBody_95 : decode cX3_readBody 95 = .ok (.iload_n 3, 1) := by decide +kernel
theorem dX3_readBody_96 : decode cX3_readBody 96 = .ok (.iload 5, 2) := by decide +kernel
theorem dX3_readBody_98 : decode cX3_readBody 98 = .ok (.iadd, 1) := by decide +kernel
theorem dX3_readBody_99 : decode cX3_readBody 99 = .ok (.iaload, 1) := by decide +kernel
theorem dX3_readBody_100 : decode cX3_readBody 100 = .ok (.bipush 48, 2) := by decide +kernel
theorem dX3_readBody_102 : decode cX3_readBody 102 = .ok (.isub, 1) := by decide +kernel
theorem dX3_readBody_103 : decode cX3_readBody 103 = .ok (.iastore, 1) := by decide +kernel
theorem dX3_readBody_104 : decode cX3_readBody 104 = .ok (.iinc 5 1, 3) := by decide +kernel
theorem dX3_readBody_107 : decode cX3_readBody 107 = .ok (.goto (-38), 3) := by decide +kernel
theorem dX3_readBody_110 : decode cX3_readBody 110 = .ok (.iload 4, 2) := by decide +kernel
theorem dX3_readBody_112 : decode cX3_readBody 112 = .ok (.ifCond .le 7, 3) := by decide +kernel
theorem dX3_readBody_115 : decode cX3_readBody 115 = .ok (.iconst 1, 1) := by decide +kernel
theorem dX3_readBody_116 : decode cX3_readBody 116 = .ok (.goto 4, 3) := by decide +kernel
theorem dX3_readBody_119 : decode cX3_readBody 119 = .ok (.iconst 0, 1) := by decide +kernel
theorem dX3_readBody_120 : decode cX3_readBody 120 = .ok (.ireturn, 1) := by decide +kernel
theorem dX3_takeWhole_0 : decode cX3_takeWhole 0 = .ok (.bipush 20, 2) := by decide +kernel
theorem dX3_takeWhole_2 : decode cX3_takeWhole 2 = .ok (.istore_n 3, 1) := by decide +kernel
theorem dX3_takeWhole_3 : decode cX3_takeWhole 3 = .ok (.iload_n 2, 1) := by decide +kernel
theorem dX3_takeWhole_4 : decode cX3_takeWhole 4 = .ok (.iconst 1, 1) := by decide +kernel
theorem dX3_takeWhole_5 : decode cX3_takeWhole 5 = .ok (.isub, 1) := by decide +kernel
theorem dX3_takeWhole_6 : decode cX3_takeWhole 6 = .ok (.istore 4, 2) := by decide +kernel
theorem dX3_takeWhole_8 : decode cX3_takeWhole 8 = .ok (.iload 4, 2) := by decide +kernel
theorem dX3_takeWhole_10 : decode cX3_takeWhole 10 = .ok (.iload_n 1, 1) := by decide +kernel
theorem dX3_takeWhole_11 : decode cX3_takeWhole 11 = .ok (.if_icmp .lt 49, 3) := by decide +kernel
theorem dX3_takeWhole_14 : decode cX3_takeWhole 14 = .ok (.aload_n 0, 1) := by decide +kernel
theorem dX3_takeWhole_15 : decode cX3_takeWhole 15 = .ok (.getfield 56, 3) := by decide +kernel
theorem dX3_takeWhole_18 : decode cX3_takeWhole 18 = .ok (.getfield 175, 3) := by decide +kernel
theorem dX3_takeWhole_21 : decode cX3_takeWhole 21 = .ok (.iload 4, 2) := by decide +kernel
theorem dX3_takeWhole_23 : decode cX3_takeWhole 23 = .ok (.iaload, 1) := by decide +kernel
theorem dX3_takeWhole_24 : decode cX3_takeWhole 24 = .ok (.bipush 44, 2) := by decide +kernel
theorem dX3_takeWhole_26 : decode cX3_takeWhole 26 = .ok (.if_icmp .eq 28, 3) := by decide +kernel
theorem dX3_takeWhole_29 : decode cX3_takeWhole 29 = .ok (.aload_n 0, 1) := by decide +kernel
theorem dX3_takeWhole_30 : decode cX3_takeWhole 30 = .ok (.getfield 46, 3) := by decide +kernel
theorem dX3_takeWhole_33 : decode cX3_takeWhole 33 = .ok (.getfield 133, 3) := by decide +kernel
theorem dX3_takeWhole_36 : decode cX3_takeWhole 36 = .ok (.iload_n 3, 1) := by decide +kernel
theorem dX3_takeWhole_37 : decode cX3_takeWhole 37 = .ok (.aload_n 0, 1) := by decide +kernel
theorem dX3_takeWhole_38 : decode cX3_takeWhole 38 = .ok (.getfield 56, 3) := by decide +kernel
theorem dX3_takeWhole_41 : decode cX3_takeWhole 41 = .ok (.getfield 175, 3) := by decide +kernel
theorem dX3_takeWhole_44 : decode cX3_takeWhole 44 = .ok (.iload 4, 2) := by decide +kernel
theorem dX3_takeWhole_46 : decode cX3_takeWhole 46 = .ok (.iaload, 1) := by decide +kernel
theorem dX3_takeWhole_47 : decode cX3_takeWhole 47 = .ok (.bipush 48, 2) := by decide +kernel
theorem dX3_takeWhole_49 : decode cX3_takeWhole 49 = .ok (.isub, 1) := by decide +kernel
theorem dX3_takeWhole_50 : decode cX3_takeWhole 50 = .ok (.iastore, 1) := by decide +kernel
theorem dX3_takeWhole_51 : decode cX3_takeWhole 51 = .ok (.iinc 3 1, 3) := by decide +kernel
theorem dX3_takeWhole_54 : decode cX3_takeWhole 54 = .ok (.iinc 4 (-1), 3) := by decide +kernel
theorem dX3_takeWhole_57 : decode cX3_takeWhole 57 = .ok (.goto (-49), 3) := by decide +kernel
theorem dX3_takeWhole_60 : decode cX3_takeWhole 60 = .ok (.return_, 1) := by decide +kernel
theorem dJ9_min_0 : decode cJ9_min 0 = .ok (.iload_n 0, 1) := by decide +kernel
theorem dJ9_min_1 : decode cJ9_min 1 = .ok (.iload_n 1, 1) := by decide +kernel
theorem dJ9_min_2 : decode cJ9_min 2 = .ok (.if_icmp .gt 7, 3) := by decide +kernel
theorem dJ9_min_5 : decode cJ9_min 5 = .ok (.iload_n 0, 1) := by decide +kernel
theorem dJ9_min_6 : decode cJ9_min 6 = .ok (.goto 4, 3) := by decide +kernel
theorem dJ9_min_9 : decode cJ9_min 9 = .ok (.iload_n 1, 1) := by decide +kernel
theorem dJ9_min_10 : decode cJ9_min 10 = .ok (.ireturn, 1) := by decide +kernel
theorem dJ9_max_0 : decode cJ9_max 0 = .ok (.iload_n 0, 1) := by decide +kernel
theorem dJ9_max_1 : decode cJ9_max 1 = .ok (.iload_n 1, 1) := by decide +kernel
theorem dJ9_max_2 : decode cJ9_max 2 = .ok (.if_icmp .lt 7, 3) := by decide +kernel
theorem dJ9_max_5 : decode cJ9_max 5 = .ok (.iload_n 0, 1) := by decide +kernel
theorem dJ9_max_6 : decode cJ9_max 6 = .ok (.goto 4, 3) := by decide +kernel
theorem dJ9_max_9 : decode cJ9_max 9 = .ok (.iload_n 1, 1) := by decide +kernel
theorem dJ9_max_10 : decode cJ9_max 10 = .ok (.ireturn, 1) := by decide +kernel
theorem dJ9_abs_0 : decode cJ9_abs 0 = .ok (.lload_n 0, 1) := by decide +kernel
theorem dJ9_abs_1 : decode cJ9_abs 1 = .ok (.lconst 0, 1) := by decide +kernel
theorem dJ9_abs_2 : decode cJ9_abs 2 = .ok (.lcmp, 1) := by decide +kernel
theorem dJ9_abs_3 : decode cJ9_abs 3 = .ok (.ifCond .ge 8, 3) := by decide +kernel
theorem dJ9_abs_6 : decode cJ9_abs 6 = .ok (.lload_n 0, 1) := by decide +kernel
theorem dJ9_abs_7 : decode cJ9_abs 7 = .ok (.lneg, 1) := by decide +kernel
theorem dJ9_abs_8 : decode cJ9_abs 8 = .ok (.goto 4, 3) := by decide +kernel
theorem dJ9_abs_11 : decode cJ9_abs 11 = .ok (.lload_n 0, 1) := by decide +kernel
theorem dJ9_abs_12 : decode cJ9_abs 12 = .ok (.lreturn, 1) := by decide +kernel
theorem dJ9_floorMod_0 : decode cJ9_floorMod 0 = .ok (.iload_n 0, 1) := by decide +kernel
theorem dJ9_floorMod_1 : decode cJ9_floorMod 1 = .ok (.iload_n 1, 1) := by decide +kernel
theorem dJ9_floorMod_2 : decode cJ9_floorMod 2 = .ok (.irem, 1) := by decide +kernel
theorem dJ9_floorMod_3 : decode cJ9_floorMod 3 = .ok (.istore_n 2, 1) := by decide +kernel
theorem dJ9_floorMod_4 : decode cJ9_floorMod 4 = .ok (.iload_n 0, 1) := by decide +kernel
theorem dJ9_floorMod_5 : decode cJ9_floorMod 5 = .ok (.iload_n 1, 1) := by decide +kernel
theorem dJ9_floorMod_6 : decode cJ9_floorMod 6 = .ok (.ixor, 1) := by decide +kernel
theorem dJ9_floorMod_7 : decode cJ9_floorMod 7 = .ok (.ifCond .ge 11, 3) := by decide +kernel
theorem dJ9_floorMod_10 : decode cJ9_floorMod 10 = .ok (.iload_n 2, 1) := by decide +kernel
theorem dJ9_floorMod_11 : decode cJ9_floorMod 11 = .ok (.ifCond .eq 7, 3) := by decide +kernel
theorem dJ9_floorMod_14 : decode cJ9_floorMod 14 = .ok (.iload_n 2, 1) := by decide +kernel
theorem dJ9_floorMod_15 : decode cJ9_floorMod 15 = .ok (.iload_n 1, 1) := by decide +kernel
theorem dJ9_floorMod_16 : decode cJ9_floorMod 16 = .ok (.iadd, 1) := by decide +kernel
theorem dJ9_floorMod_17 : decode cJ9_floorMod 17 = .ok (.ireturn, 1) := by decide +kernel
theorem dJ9_floorMod_18 : decode cJ9_floorMod 18 = .ok (.iload_n 2, 1) := by decide +kernel
theorem dJ9_floorMod_19 : decode cJ9_floorMod 19 = .ok (.ireturn, 1) := by decide +kernel
theorem dJ9_floorDiv_0 : decode cJ9_floorDiv 0 = .ok (.iload_n 0, 1) := by decide +kernel
theorem dJ9_floorDiv_1 : decode cJ9_floorDiv 1 = .ok (.iload_n 1, 1) := by decide +kernel
theorem dJ9_floorDiv_2 : decode cJ9_floorDiv 2 = .ok (.idiv, 1) := by decide +kernel
theorem dJ9_floorDiv_3 : decode cJ9_floorDiv 3 = .ok (.istore_n 2, 1) := by decide +kernel
theorem dJ9_floorDiv_4 : decode cJ9_floorDiv 4 = .ok (.iload_n 0, 1) := by decide +kernel
theorem dJ9_floorDiv_5 : decode cJ9_floorDiv 5 = .ok (.iload_n 1, 1) := by decide +kernel
theorem dJ9_floorDiv_6 : decode cJ9_floorDiv 6 = .ok (.ixor, 1) := by decide +kernel
theorem dJ9_floorDiv_7 : decode cJ9_floorDiv 7 = .ok (.ifCond .ge 14, 3) := by decide +kernel
theorem dJ9_floorDiv_10 : decode cJ9_floorDiv 10 = .ok (.iload_n 2, 1) := by decide +kernel
theorem dJ9_floorDiv_11 : decode cJ9_floorDiv 11 = .ok (.iload_n 1, 1) := by decide +kernel
theorem dJ9_floorDiv_12 : decode cJ9_floorDiv 12 = .ok (.imul, 1) := by decide +kernel
theorem dJ9_floorDiv_13 : decode cJ9_floorDiv 13 = .ok (.iload_n 0, 1) := by decide +kernel
theorem dJ9_floorDiv_14 : decode cJ9_floorDiv 14 = .ok (.if_icmp .eq 7, 3) := by decide +kernel
theorem dJ9_floorDiv_17 : decode cJ9_floorDiv 17 = .ok (.iload_n 2, 1) := by decide +kernel
theorem dJ9_floorDiv_18 : decode cJ9_floorDiv 18 = .ok (.iconst 1, 1) := by decide +kernel
theorem dJ9_floorDiv_19 : decode cJ9_floorDiv 19 = .ok (.isub, 1) := by decide +kernel
theorem dJ9_floorDiv_20 : decode cJ9_floorDiv 20 = .ok (.ireturn, 1) := by decide +kernel
theorem dJ9_floorDiv_21 : decode cJ9_floorDiv 21 = .ok (.iload_n 2, 1) := by decide +kernel
theorem dJ9_floorDiv_22 : decode cJ9_floorDiv 22 = .ok (.ireturn, 1) := by decide +kernel
theorem dX0_init_0 : decode cX0_init 0 = .ok (.aload_n 0, 1) := by decide +kernel
theorem dX0_init_1 : decode cX0_init 1 = .ok (.invokespecial 3, 3) := by decide +kernel
theorem dX0_init_4 : decode cX0_init 4 = .ok (.aload_n 0, 1) := by decide +kernel
theorem dX0_init_5 : decode cX0_init 5 = .ok (.bipush 36, 2) := by decide +kernel
theorem dX0_init_7 : decode cX0_init 7 = .ok (.newarray .int, 2) := by decide +kernel
theorem dX0_init_9 : decode cX0_init 9 = .ok (.putfield 9, 3) := by decide +kernel
theorem dX0_init_12 : decode cX0_init 12 = .ok (.return_, 1) := by decide +kernel
theorem dX0_take_0 : decode cX0_take 0 = .ok (.aload_n 1, 1) := by decide +kernel
theorem dX0_take_1 : decode cX0_take 1 = .ok (.getfield 23, 3) := by decide +kernel
theorem dX0_take_4 : decode cX0_take 4 = .ok (.bipush 10, 2) := by decide +kernel
theorem dX0_take_6 : decode cX0_take 6 = .ok (.aload_n 0, 1) := by decide +kernel
theorem dX0_take_7 : decode cX0_take 7 = .ok (.getfield 9, 3) := by decide +kernel
theorem dX0_take_10 : decode cX0_take 10 = .ok (.iconst 0, 1) := by decide +kernel
theorem dX0_take_11 : decode cX0_take 11 = .ok (.bipush 36, 2) := by decide +kernel
theorem dX0_take_13 : decode cX0_take 13 = .ok (.invokestatic 26, 3) := by decide +kernel
theorem dX0_take_16 : decode cX0_take 16 = .ok (.aload_n 0, 1) := by decide +kernel
theorem dX0_take_17 : decode cX0_take 17 = .ok (.iconst 1, 1) := by decide +kernel
theorem dX0_take_18 : decode cX0_take 18 = .ok (.putfield 32, 3) := by decide +kernel
theorem dX0_take_21 : decode cX0_take 21 = .ok (.aload_n 0, 1) := by decide +kernel
theorem dX0_take_22 : decode cX0_take 22 = .ok (.iload_n 2, 1) := by decide +kernel
theorem dX0_take_23 : decode cX0_take 23 = .ok (.putfield 15, 3) := by decide +kernel
theorem dX0_take_26 : decode cX0_take 26 = .ok (.aload_n 0, 1) := by decide +kernel
theorem dX0_take_27 : decode cX0_take 27 = .ok (.iload_n 3, 1) := by decide +kernel
theorem dX0_take_28 : decode cX0_take 28 = .ok (.putfield 19, 3) := by decide +kernel
theorem dX0_take_31 : decode cX0_take 31 = .ok (.aload_n 0, 1) := by decide +kernel
theorem dX0_take_32 : decode cX0_take 32 = .ok (.aload_n 1, 1) := by decide +kernel
theorem dX0_take_33 : decode cX0_take 33 = .ok (.getfield 35, 3) := by decide +kernel
theorem dX0_take_36 : decode cX0_take 36 = .ok (.ifCond .eq 20, 3) := by decide +kernel
theorem dX0_take_39 : decode cX0_take 39 = .ok (.aload_n 0, 1) := by decide +kernel
theorem dX0_take_40 : decode cX0_take 40 = .ok (.getfield 9, 3) := by decide +kernel
theorem dX0_take_43 : decode cX0_take 43 = .ok (.iconst 0, 1) := by decide +kernel
theorem dX0_take_44 : decode cX0_take 44 = .ok (.bipush 36, 2) := by decide +kernel
theorem dX0_take_46 : decode cX0_take 46 = .ok (.invokestatic 38, 3) := by decide +kernel
theorem dX0_take_49 : decode cX0_take 49 = .ok (.ifCond .ne 7, 3) := by decide +kernel
theorem dX0_take_52 : decode cX0_take 52 = .ok (.iconst 1, 1) := by decide +kernel
theorem dX0_take_53 : decode cX0_take 53 = .ok (.goto 4, 3) := by decide +kernel
theorem dX0_take_56 : decode cX0_take 56 = .ok (.iconst 0, 1) := by decide +kernel
theorem dX0_take_57 : decode cX0_take 57 = .ok (.putfield 42, 3) := by decide +kernel
theorem dX0_take_60 : decode cX0_take 60 = .ok (.return_, 1) := by decide +kernel
theorem dX0_isLike_0 : decode cX0_isLike 0 = .ok (.aload_n 0, 1) := by decide +kernel
theorem dX0_isLike_1 : decode cX0_isLike 1 = .ok (.getfield 15, 3) := by decide +kernel
theorem dX0_isLike_4 : decode cX0_isLike 4 = .ok (.aload_n 1, 1) := by decide +kernel
theorem dX0_isLike_5 : decode cX0_isLike 5 = .ok (.getfield 15, 3) := by decide +kernel
theorem dX0_isLike_8 : decode cX0_isLike 8 = .ok (.if_icmp .ne 18, 3) := by decide +kernel
theorem dX0_isLike_11 : decode cX0_isLike 11 = .ok (.aload_n 0, 1) := by decide +kernel
theorem dX0_isLike_12 : decode cX0_isLike 12 = .ok (.getfield 19, 3) := by decide +kernel
theorem dX0_isLike_15 : decode cX0_isLike 15 = .ok (.aload_n 1, 1) := by decide +kernel
theorem dX0_isLike_16 : decode cX0_isLike 16 = .ok (.getfield 19, 3) := by decide +kernel
theorem dX0_isLike_19 : decode cX0_isLike 19 = .ok (.if_icmp .ne 7, 3) := by decide +kernel
theorem dX0_isLike_22 : decode cX0_isLike 22 = .ok (.iconst 1, 1) := by decide +kernel
theorem dX0_isLike_23 : decode cX0_isLike 23 = .ok (.goto 4, 3) := by decide +kernel
theorem dX0_isLike_26 : decode cX0_isLike 26 = .ok (.iconst 0, 1) := by decide +kernel
theorem dX0_isLike_27 : decode cX0_isLike 27 = .ok (.ireturn, 1) := by decide +kernel
theorem dX2_init_0 : decode cX2_init 0 = .ok (.aload_n 0, 1) := by decide +kernel
theorem dX2_init_1 : decode cX2_init 1 = .ok (.invokespecial 3, 3) := by decide +kernel
theorem dX2_init_4 : decode cX2_init 4 = .ok (.aload_n 0, 1) := by decide +kernel
theorem dX2_init_5 : decode cX2_init 5 = .ok (.bipush 72, 2) := by decide +kernel
theorem dX2_init_7 : decode cX2_init 7 = .ok (.newarray .int, 2) := by decide +kernel
theorem dX2_init_9 : decode cX2_init 9 = .ok (.putfield 9, 3) := by decide +kernel
theorem dX2_init_12 : decode cX2_init 12 = .ok (.aload_n 0, 1) := by decide +kernel
theorem dX2_init_13 : decode cX2_init 13 = .ok (.bipush 19, 2) := by decide +kernel
theorem dX2_init_15 : decode cX2_init 15 = .ok (.newarray .int, 2) := by decide +kernel
theorem dX2_init_17 : decode cX2_init 17 = .ok (.putfield 15, 3) := by decide +kernel
theorem dX2_init_20 : decode cX2_init 20 = .ok (.return_, 1) := by decide +kernel
theorem dX2_loadNumber_0 : decode cX2_loadNumber 0 = .ok (.aload_n 0, 1) := by decide +kernel
theorem dX2_loadNumber_1 : decode cX2_loadNumber 1 = .ok (.invokevirtual 31, 3) := by decide +kernel
theorem dX2_loadNumber_4 : decode cX2_loadNumber 4 = .ok (.lload_n 1, 1) := by decide +kernel
theorem dX2_loadNumber_5 : decode cX2_loadNumber 5 = .ok (.aload_n 0, 1) := by decide +kernel
theorem dX2_loadNumber_6 : decode cX2_loadNumber 6 = .ok (.getfield 9, 3) := by decide +kernel
theorem dX2_loadNumber_9 : decode cX2_loadNumber 9 = .ok (.iload_n 3, 1) := by decide +kernel
theorem dX2_loadNumber_10 : decode cX2_loadNumber 10 = .ok (.invokestatic 40, 3) := by decide +kernel
theorem dX2_loadNumber_13 : decode cX2_loadNumber 13 = .ok (.aload_n 0, 1) := by decide +kernel
theorem dX2_loadNumber_14 : decode cX2_loadNumber 14 = .ok (.lload_n 1, 1) := by decide +kernel
theorem dX2_loadNumber_15 : decode cX2_loadNumber 15 = .ok (.lconst 0, 1) := by decide +kernel
theorem dX2_loadNumber_16 : decode cX2_loadNumber 16 = .ok (.lcmp, 1) := by decide +kernel
theorem dX2_loadNumber_17 : decode cX2_loadNumber 17 = .ok (.ifCond .ge 7, 3) := by decide +kernel
theorem dX2_loadNumber_20 : decode cX2_loadNumber 20 = .ok (.iconst 1, 1) := by decide +kernel
theorem dX2_loadNumber_21 : decode cX2_loadNumber 21 = .ok (.goto 4, 3) := by decide +kernel
theorem dX2_loadNumber_24 : decode cX2_loadNumber 24 = .ok (.iconst 0, 1) := by decide +kernel
theorem dX2_loadNumber_25 : decode cX2_loadNumber 25 = .ok (.putfield 24, 3) := by decide +kernel
theorem dX2_loadNumber_28 : decode cX2_loadNumber 28 = .ok (.return_, 1) := by decide +kernel
theorem dX2_clear_0 : decode cX2_clear 0 = .ok (.aload_n 0, 1) := by decide +kernel
theorem dX2_clear_1 : decode cX2_clear 1 = .ok (.getfield 9, 3) := by decide +kernel
theorem dX2_clear_4 : decode cX2_clear 4 = .ok (.iconst 0, 1) := by decide +kernel
theorem dX2_clear_5 : decode cX2_clear 5 = .ok (.invokestatic 18, 3) := by decide +kernel
theorem dX2_clear_8 : decode cX2_clear 8 = .ok (.aload_n 0, 1) := by decide +kernel
theorem dX2_clear_9 : decode cX2_clear 9 = .ok (.iconst 0, 1) := by decide +kernel
theorem dX2_clear_10 : decode cX2_clear 10 = .ok (.putfield 24, 3) := by decide +kernel
theorem dX2_clear_13 : decode cX2_clear 13 = .ok (.aload_n 0, 1) := by decide +kernel
theorem dX2_clear_14 : decode cX2_clear 14 = .ok (.iconst 0, 1) := by decide +kernel
theorem dX2_clear_15 : decode cX2_clear 15 = .ok (.putfield 28, 3) := by decide +kernel
theorem dX2_clear_18 : decode cX2_clear 18 = .ok (.return_, 1) := by decide +kernel
theorem dX2_spell_0 : decode cX2_spell 0 = .ok (.lload_n 0, 1) := by decide +kernel
theorem dX2_spell_1 : decode cX2_spell 1 = .ok (.lstore 4, 2) := by decide +kernel
theorem dX2_spell_3 : decode cX2_spell 3 = .ok (.iconst 0, 1) := by decide +kernel
theorem dX2_spell_4 : decode cX2_spell 4 = .ok (.istore 6, 2) := by decide +kernel
theorem dX2_spell_6 : decode cX2_spell 6 = .ok (.iload 6, 2) := by decide +kernel
theorem dX2_spell_8 : decode cX2_spell 8 = .ok (.bipush 19, 2) := by decide +kernel
theorem dX2_spell_10 : decode cX2_spell 10 = .ok (.if_icmp .ge 33, 3) := by decide +kernel
theorem dX2_spell_13 : decode cX2_spell 13 = .ok (.aload_n 2, 1) := by decide +kernel
theorem dX2_spell_14 : decode cX2_spell 14 = .ok (.iload_n 3, 1) := by decide +kernel
theorem dX2_spell_15 : decode cX2_spell 15 = .ok (.iload 6, 2) := by decide +kernel
theorem dX2_spell_17 : decode cX2_spell 17 = .ok (.iadd, 1) := by decide +kernel
theorem dX2_spell_18 : decode cX2_spell 18 = .ok (.lload 4, 2) := by decide +kernel
theorem dX2_spell_20 : decode cX2_spell 20 = .ok (.ldc2_w 44, 3) := by decide +kernel
theorem dX2_spell_23 : decode cX2_spell 23 = .ok (.lrem, 1) := by decide +kernel
theorem dX2_spell_24 : decode cX2_spell 24 = .ok (.invokestatic 46, 3) := by decide +kernel
theorem dX2_spell_27 : decode cX2_spell 27 = .ok (.l2i, 1) := by decide +kernel
theorem dX2_spell_28 : decode cX2_spell 28 = .ok (.iastore, 1) := by decide +kernel
theorem dX2_spell_29 : decode cX2_spell 29 = .ok (.lload 4, 2) := by decide +kernel
theorem dX2_spell_31 : decode cX2_spell 31 = .ok (.ldc2_w 44, 3) := by decide +kernel
theorem dX2_spell_34 : decode cX2_spell 34 = .ok (.ldiv, 1) := by decide +kernel
theorem dX2_spell_35 : decode cX2_spell 35 = .ok (.lstore 4, 2) := by decide +kernel
theorem dX2_spell_37 : decode cX2_spell 37 = .ok (.iinc 6 1, 3) := by decide +kernel
theorem dX2_spell_40 : decode cX2_spell 40 = .ok (.goto (-34), 3) := by decide +kernel
theorem dX2_spell_43 : decode cX2_spell 43 = .ok (.return_, 1) := by decide +kernel
theorem dX2_size_0 : decode cX2_size 0 = .ok (.bipush 72, 2) := by decide +kernel
theorem dX2_size_2 : decode cX2_size 2 = .ok (.istore_n 1, 1) := by decide +kernel
theorem dX2_size_3 : decode cX2_size 3 = .ok (.iload_n 1, 1) := by decide +kernel
theorem dX2_size_4 : decode cX2_size 4 = .ok (.ifCond .le 22, 3) := by decide +kernel
theorem dX2_size_7 : decode cX2_size 7 = .ok (.aload_n 0, 1) := by decide +kernel
theorem dX2_size_8 : decode cX2_size 8 = .ok (.getfield 9, 3) := by decide +kernel
theorem dX2_size_11 : decode cX2_size 11 = .ok (.iload_n 1, 1) := by decide +kernel
theorem dX2_size_12 : decode cX2_size 12 = .ok (.iconst 1, 1) := by decide +kernel
theorem dX2_size_13 : decode cX2_size 13 = .ok (.isub, 1) := by decide +kernel
theorem dX2_size_14 : decode cX2_size 14 = .ok (.iaload, 1) := by decide +kernel
theorem dX2_size_15 : decode cX2_size 15 = .ok (.ifCond .eq 5, 3) := by decide +kernel
theorem dX2_size_18 : decode cX2_size 18 = .ok (.iload_n 1, 1) := by decide +kernel
theorem dX2_size_19 : decode cX2_size 19 = .ok (.ireturn, 1) := by decide +kernel
theorem dX2_size_20 : decode cX2_size 20 = .ok (.iinc 1 (-1), 3) := by decide +kernel
theorem dX2_size_23 : decode cX2_size 23 = .ok (.goto (-20), 3) := by decide +kernel
theorem dX2_size_26 : decode cX2_size 26 = .ok (.iconst 0, 1) := by decide +kernel
theorem dX2_size_27 : decode cX2_size 27 = .ok (.ireturn, 1) := by decide +kernel
theorem dX2_toMultiple_0 : decode cX2_toMultiple 0 = .ok (.aload_n 0, 1) := by decide +kernel
theorem dX2_toMultiple_1 : decode cX2_toMultiple 1 = .ok (.getfield 9, 3) := by decide +kernel
theorem dX2_toMultiple_4 : decode cX2_toMultiple 4 = .ok (.iload_n 1, 1) := by decide +kernel
theorem dX2_toMultiple_5 : decode cX2_toMultiple 5 = .ok (.iconst 1, 1) := by decide +kernel
theorem dX2_toMultiple_6 : decode cX2_toMultiple 6 = .ok (.iadd, 1) := by decide +kernel
theorem dX2_toMultiple_7 : decode cX2_toMultiple 7 = .ok (.iaload, 1) := by decide +kernel
theorem dX2_toMultiple_8 : decode cX2_toMultiple 8 = .ok (.bipush 10, 2) := by decide +kernel
theorem dX2_toMultiple_10 : decode cX2_toMultiple 10 = .ok (.imul, 1) := by decide +kernel
theorem dX2_toMultiple_11 : decode cX2_toMultiple 11 = .ok (.aload_n 0, 1) := by decide +kernel
theorem dX2_toMultiple_12 : decode cX2_toMultiple 12 = .ok (.getfield 9, 3) := by decide +kernel
theorem dX2_toMultiple_15 : decode cX2_toMultiple 15 = .ok (.iload_n 1, 1) := by decide +kernel
theorem dX2_toMultiple_16 : decode cX2_toMultiple 16 = .ok (.iaload, 1) := by decide +kernel
theorem dX2_toMultiple_17 : decode cX2_toMultiple 17 = .ok (.iadd, 1) := by decide +kernel
theorem dX2_toMultiple_18 : decode cX2_toMultiple 18 = .ok (.istore 4, 2) := by decide +kernel
theorem dX2_toMultiple_20 : decode cX2_toMultiple 20 = .ok (.iload 4, 2) := by decide +kernel
theorem dX2_toMultiple_22 : decode cX2_toMultiple 22 = .ok (.iload_n 2, 1) := by decide +kernel
theorem dX2_toMultiple_23 : decode cX2_toMultiple 23 = .ok (.irem, 1) := by decide +kernel
theorem dX2_toMultiple_24 : decode cX2_toMultiple 24 = .ok (.bipush 10, 2) := by decide +kernel
theorem dX2_toMultiple_26 : decode cX2_toMultiple 26 = .ok (.imul, 1) := by decide +kernel
theorem dX2_toMultiple_27 : decode cX2_toMultiple 27 = .ok (.aload_n 0, 1) := by decide +kernel
theorem dX2_toMultiple_28 : decode cX2_toMultiple 28 = .ok (.getfield 9, 3) := by decide +kernel
theorem dX2_toMultiple_31 : decode cX2_toMultiple 31 = .ok (.iload_n 1, 1) := by decide +kernel
theorem dX2_toMultiple_32 : decode cX2_toMultiple 32 = .ok (.iconst 1, 1) := by decide +kernel
theorem dX2_toMultiple_33 : decode cX2_toMultiple 33 = .ok (.isub, 1) := by decide +kernel
theorem dX2_toMultiple_34 : decode cX2_toMultiple 34 = .ok (.iaload, 1) := by decide +kernel
theorem dX2_toMultiple_35 : decode cX2_toMultiple 35 = .ok (.iadd, 1) := by decide +kernel
theorem dX2_toMultiple_36 : decode cX2_toMultiple 36 = .ok (.istore 5, 2) := by decide +kernel
theorem dX2_toMultiple_38 : decode cX2_toMultiple 38 = .ok (.aload_n 0, 1) := by decide +kernel
theorem dX2_toMultiple_39 : decode cX2_toMultiple 39 = .ok (.getfield 28, 3) := by decide +kernel
theorem dX2_toMultiple_42 : decode cX2_toMultiple 42 = .ok (.ifCond .ne 17, 3) := by decide +kernel
theorem dX2_toMultiple_45 : decode cX2_toMultiple 45 = .ok (.aload_n 0, 1) := by decide +kernel
theorem dX2_toMultiple_46 : decode cX2_toMultiple 46 = .ok (.getfield 9, 3) := by decide +kernel
theorem dX2_toMultiple_49 : decode cX2_toMultiple 49 = .ok (.iconst 0, 1) := by decide +kernel
theorem dX2_toMultiple_50 : decode cX2_toMultiple 50 = .ok (.iload_n 1, 1) := by decide +kernel
theorem dX2_toMultiple_51 : decode cX2_toMultiple 51 = .ok (.iconst 1, 1) := by decide +kernel
theorem dX2_toMultiple_52 : decode cX2_toMultiple 52 = .ok (.isub, 1) := by decide +kernel
theorem dX2_toMultiple_53 : decode cX2_toMultiple 53 = .ok (.invokestatic 68, 3) := by decide +kernel
theorem dX2_toMultiple_56 : decode cX2_toMultiple 56 = .ok (.ifCond .ne 7, 3) := by decide +kernel
theorem dX2_toMultiple_59 : decode cX2_toMultiple 59 = .ok (.iconst 1, 1) := by decide +kernel
theorem dX2_toMultiple_60 : decode cX2_toMultiple 60 = .ok (.goto 4, 3) := by decide +kernel
theorem dX2_toMultiple_63 : decode cX2_toMultiple 63 = .ok (.iconst 0, 1) := by decide +kernel
theorem dX2_toMultiple_64 : decode cX2_toMultiple 64 = .ok (.istore 6, 2) := by decide +kernel
theorem dX2_toMultiple_66 : decode cX2_toMultiple 66 = .ok (.iload 5, 2) := by decide +kernel
theorem dX2_toMultiple_68 : decode cX2_toMultiple 68 = .ok (.ifCond .ne 10, 3) := by decide +kernel
theorem dX2_toMultiple_71 : decode cX2_toMultiple 71 = .ok (.iload 6, 2) := by decide +kernel
theorem dX2_toMultiple_73 : decode cX2_toMultiple 73 = .ok (.ifCond .ne 5, 3) := by decide +kernel
theorem dX2_toMultiple_76 : decode cX2_toMultiple 76 = .ok (.iconst 1, 1) := by decide +kernel
theorem dX2_toMultiple_77 : decode cX2_toMultiple 77 = .ok (.ireturn, 1) := by decide +kernel
theorem dX2_toMultiple_78 : decode cX2_toMultiple 78 = .ok (.iload_n 3, 1) := by decide +kernel
theorem dX2_toMultiple_79 : decode cX2_toMultiple 79 = .ok (.bipush 7, 2) := by decide +kernel
theorem dX2_toMultiple_81 : decode cX2_toMultiple 81 = .ok (.if_icmp .ne 5, 3) := by decide +kernel
theorem dX2_toMultiple_84 : decode cX2_toMultiple 84 = .ok (.iconst 0, 1) := by decide +kernel
theorem dX2_toMultiple_85 : decode cX2_toMultiple 85 = .ok (.ireturn, 1) := by decide +kernel
theorem dX2_toMultiple_86 : decode cX2_toMultiple 86 = .ok (.iload 5, 2) := by decide +kernel
theorem dX2_toMultiple_88 : decode cX2_toMultiple 88 = .ok (.iload_n 2, 1) := by decide +kernel
theorem dX2_toMultiple_89 : decode cX2_toMultiple 89 = .ok (.iconst 5, 1) := by decide +kernel
theorem dX2_toMultiple_90 : decode cX2_toMultiple 90 = .ok (.imul, 1) := by decide +kernel
theorem dX2_toMultiple_91 : decode cX2_toMultiple 91 = .ok (.invokestatic 72, 3) := by decide +kernel
theorem dX2_toMultiple_94 : decode cX2_toMultiple 94 = .ok (.istore 7, 2) := by decide +kernel
theorem dX2_toMultiple_96 : decode cX2_toMultiple 96 = .ok (.iload 7, 2) := by decide +kernel
theorem dX2_toMultiple_98 : decode cX2_toMultiple 98 = .ok (.ifCond .ne 11, 3) := by decide +kernel
theorem dX2_toMultiple_101 : decode cX2_toMultiple 101 = .ok (.iload 6, 2) := by decide +kernel
theorem dX2_toMultiple_103 : decode cX2_toMultiple 103 = .ok (.ifCond .eq 6, 3) := by decide +kernel
theorem dX2_toMultiple_106 : decode cX2_toMultiple 106 = .ok (.iconst 1, 1) := by decide +kernel
theorem dX2_toMultiple_107 : decode cX2_toMultiple 107 = .ok (.istore 7, 2) := by decide +kernel
theorem dX2_toMultiple_109 : decode cX2_toMultiple 109 = .ok (.aload_n 0, 1) := by decide +kernel
theorem dX2_toMultiple_110 : decode cX2_toMultiple 110 = .ok (.iload_n 3, 1) := by decide +kernel
theorem dX2_toMultiple_111 : decode cX2_toMultiple 111 = .ok (.iload 7, 2) := by decide +kernel
theorem dX2_toMultiple_113 : decode cX2_toMultiple 113 = .ok (.iload 4, 2) := by decide +kernel
theorem dX2_toMultiple_115 : decode cX2_toMultiple 115 = .ok (.iload_n 2, 1) := by decide +kernel
theorem dX2_toMultiple_116 : decode cX2_toMultiple 116 = .ok (.idiv, 1) := by decide +kernel
theorem dX2_toMultiple_117 : decode cX2_toMultiple 117 = .ok (.iconst 2, 1) := by decide +kernel
theorem dX2_toMultiple_118 : decode cX2_toMultiple 118 = .ok (.irem, 1) := by decide +kernel
theorem dX2_toMultiple_119 : decode cX2_toMultiple 119 = .ok (.ifCond .eq 7, 3) := by decide +kernel
theorem dX2_toMultiple_122 : decode cX2_toMultiple 122 = .ok (.iconst 1, 1) := by decide +kernel
theorem dX2_toMultiple_123 : decode cX2_toMultiple 123 = .ok (.goto 4, 3) := by decide +kernel
theorem dX2_toMultiple_126 : decode cX2_toMultiple 126 = .ok (.iconst 0, 1) := by decide +kernel
theorem dX2_toMultiple_127 : decode cX2_toMultiple 127 = .ok (.invokevirtual 77, 3) := by decide +kernel
theorem dX2_toMultiple_130 : decode cX2_toMultiple 130 = .ok (.istore 8, 2) := by decide +kernel
theorem dX2_toMultiple_132 : decode cX2_toMultiple 132 = .ok (.iconst 0, 1) := by decide +kernel
theorem dX2_toMultiple_133 : decode cX2_toMultiple 133 = .ok (.istore 9, 2) := by decide +kernel
theorem dX2_toMultiple_135 : decode cX2_toMultiple 135 = .ok (.iload 9, 2) := by decide +kernel
theorem dX2_toMultiple_137 : decode cX2_toMultiple 137 = .ok (.iload_n 1, 1) := by decide +kernel
theorem dX2_toMultiple_138 : decode cX2_toMultiple 138 = .ok (.if_icmp .ge 17, 3) := by decide +kernel
theorem dX2_toMultiple_141 : decode cX2_toMultiple 141 = .ok (.aload_n 0, 1) := by decide +kernel
theorem dX2_toMultiple_142 : decode cX2_toMultiple 142 = .ok (.getfield 9, 3) := by decide +kernel
theorem dX2_toMultiple_145 : decode cX2_toMultiple 145 = .ok (.iload 9, 2) := by decide +kernel
theorem dX2_toMultiple_147 : decode cX2_toMultiple 147 = .ok (.iconst 0, 1) := by decide +kernel
theorem dX2_toMultiple_148 : decode cX2_toMultiple 148 = .ok (.iastore, 1) := by decide +kernel
theorem dX2_toMultiple_149 : decode cX2_toMultiple 149 = .ok (.iinc 9 1, 3) := by decide +kernel
theorem dX2_toMultiple_152 : decode cX2_toMultiple 152 = .ok (.goto (-17), 3) := by decide +kernel
theorem dX2_toMultiple_155 : decode cX2_toMultiple 155 = .ok (.aload_n 0, 1) := by decide +kernel
theorem dX2_toMultiple_156 : decode cX2_toMultiple 156 = .ok (.iconst 0, 1) := by decide +kernel
theorem dX2_toMultiple_157 : decode cX2_toMultiple 157 = .ok (.putfield 28, 3) := by decide +kernel
theorem dX2_toMultiple_160 : decode cX2_toMultiple 160 = .ok (.aload_n 0, 1) := by decide +kernel
theorem dX2_toMultiple_161 : decode cX2_toMultiple 161 = .ok (.iload_n 1, 1) := by decide +kernel
theorem dX2_toMultiple_162 : decode cX2_toMultiple 162 = .ok (.iload 8, 2) := by decide +kernel
theorem dX2_toMultiple_164 : decode cX2_toMultiple 164 = .ok (.ifCond .eq 7, 3) := by decide +kernel
theorem dX2_toMultiple_167 : decode cX2_toMultiple 167 = .ok (.iload_n 2, 1) := by decide +kernel
theorem dX2_toMultiple_168 : decode cX2_toMultiple 168 = .ok (.goto 4, 3) := by decide +kernel
theorem dX2_toMultiple_171 : decode cX2_toMultiple 171 = .ok (.iconst 0, 1) := by decide +kernel
theorem dX2_toMultiple_172 : decode cX2_toMultiple 172 = .ok (.iload 4, 2) := by decide +kernel
theorem dX2_toMultiple_174 : decode cX2_toMultiple 174 = .ok (.iload_n 2, 1) := by decide +kernel
theorem dX2_toMultiple_175 : decode cX2_toMultiple 175 = .ok (.irem, 1) := by decide +kernel
theorem dX2_toMultiple_176 : decode cX2_toMultiple 176 = .ok (.isub, 1) := by decide +kernel
theorem dX2_toMultiple_177 : decode cX2_toMultiple 177 = .ok (.invokevirtual 81, 3) := by decide +kernel
theorem dX2_toMultiple_180 : decode cX2_toMultiple 180 = .ok (.iconst 1, 1) := by decide +kernel
theorem dX2_toMultiple_181 : decode cX2_toMultiple 181 = .ok (.ireturn, 1) := by decide +kernel
theorem dX2_goesAway_0 : decode cX2_goesAway 0 = .ok (.iload_n 1, 1) := by decide +kernel
theorem dX2_goesAway_1 : decode cX2_goesAway 1 = .ok (.tableswitch 81 0 5 #[39, 41, 43, 56, 61, 71], 39) := by decide +kernel
theorem dX2_goesAway_40 : decode cX2_goesAway 40 = .ok (.iconst 1, 1) := by decide +kernel
theorem dX2_goesAway_41 : decode cX2_goesAway 41 = .ok (.ireturn, 1) := by decide +kernel
theorem dX2_goesAway_42 : decode cX2_goesAway 42 = .ok (.iconst 0, 1) := by decide +kernel
theorem dX2_goesAway_43 : decode cX2_goesAway 43 = .ok (.ireturn, 1) := by decide +kernel
theorem dX2_goesAway_44 : decode cX2_goesAway 44 = .ok (.aload_n 0, 1) := by decide +kernel
theorem dX2_goesAway_45 : decode cX2_goesAway 45 = .ok (.getfield 24, 3) := by decide +kernel
theorem dX2_goesAway_48 : decode cX2_goesAway 48 = .ok (.ifCond .ne 7, 3) := by decide +kernel
theorem dX2_goesAway_51 : decode cX2_goesAway 51 = .ok (.iconst 1, 1) := by decide +kernel
theorem dX2_goesAway_52 : decode cX2_goesAway 52 = .ok (.goto 4, 3) := by decide +kernel
theorem dX2_goesAway_55 : decode cX2_goesAway 55 = .ok (.iconst 0, 1) := by decide +kernel
theorem dX2_goesAway_56 : decode cX2_goesAway 56 = .ok (.ireturn, 1) := by decide +kernel
theorem dX2_goesAway_57 : decode cX2_goesAway 57 = .ok (.aload_n 0, 1) := by decide +kernel
theorem dX2_goesAway_58 : decode cX2_goesAway 58 = .ok (.getfield 24, 3) := by decide +kernel
theorem dX2_goesAway_61 : decode cX2_goesAway 61 = .ok (.ireturn, 1) := by decide +kernel
theorem dX2_goesAway_62 : decode cX2_goesAway 62 = .ok (.iload_n 2, 1) := by decide +kernel
theorem dX2_goesAway_63 : decode cX2_goesAway 63 = .ok (.ifCond .lt 7, 3) := by decide +kernel
theorem dX2_goesAway_66 : decode cX2_goesAway 66 = .ok (.iconst 1, 1) := by decide +kernel
theorem dX2_goesAway_67 : decode cX2_goesAway 67 = .ok (.goto 4, 3) := by decide +kernel
theorem dX2_goesAway_70 : decode cX2_goesAway 70 = .ok (.iconst 0, 1) := by decide +kernel
theorem dX2_goesAway_71 : decode cX2_goesAway 71 = .ok (.ireturn, 1) := by decide +kernel
theorem dX2_goesAway_72 : decode cX2_goesAway 72 = .ok (.iload_n 2, 1) := by decide +kernel
theorem dX2_goesAway_73 : decode cX2_goesAway 73 = .ok (.ifCond .le 7, 3) := by decide +kernel
theorem dX2_goesAway_76 : decode cX2_goesAway 76 = .ok (.iconst 1, 1) := by decide +kernel
theorem dX2_goesAway_77 : decode cX2_goesAway 77 = .ok (.goto 4, 3) := by decide +kernel
theorem dX2_goesAway_80 : decode cX2_goesAway 80 = .ok (.iconst 0, 1) := by decide +kernel
theorem dX2_goesAway_81 : decode cX2_goesAway 81 = .ok (.ireturn, 1) := by decide +kernel
theorem dX2_goesAway_82 : decode cX2_goesAway 82 = .ok (.iload_n 2, 1) := by decide +kernel
theorem dX2_goesAway_83 : decode cX2_goesAway 83 = .ok (.ifCond .gt 11, 3) := by decide +kernel
theorem dX2_goesAway_86 : decode cX2_goesAway 86 = .ok (.iload_n 2, 1) := by decide +kernel
theorem dX2_goesAway_87 : decode cX2_goesAway 87 = .ok (.ifCond .ne 11, 3) := by decide +kernel
theorem dX2_goesAway_90 : decode cX2_goesAway 90 = .ok (.iload_n 3, 1) := by decide +kernel
theorem dX2_goesAway_91 : decode cX2_goesAway 91 = .ok (.ifCond .eq 7, 3) := by decide +kernel
theorem dX2_goesAway_94 : decode cX2_goesAway 94 = .ok (.iconst 1, 1) := by decide +kernel
theorem dX2_goesAway_95 : decode cX2_goesAway 95 = .ok (.goto 4, 3) := by decide +kernel
theorem dX2_goesAway_98 : decode cX2_goesAway 98 = .ok (.iconst 0, 1) := by decide +kernel
theorem dX2_goesAway_99 : decode cX2_goesAway 99 = .ok (.ireturn, 1) := by decide +kernel
theorem dX2_increase_0 : decode cX2_increase 0 = .ok (.aload_n 0, 1) := by decide +kernel
theorem dX2_increase_1 : decode cX2_increase 1 = .ok (.getfield 9, 3) := by decide +kernel
theorem dX2_increase_4 : decode cX2_increase 4 = .ok (.iload_n 1, 1) := by decide +kernel
theorem dX2_increase_5 : decode cX2_increase 5 = .ok (.dup2, 1) := by decide +kernel
theorem dX2_increase_6 : decode cX2_increase 6 = .ok (.iaload, 1) := by decide +kernel
theorem dX2_increase_7 : decode cX2_increase 7 = .ok (.iload_n 2, 1) := by decide +kernel
theorem dX2_increase_8 : decode cX2_increase 8 = .ok (.iadd, 1) := by decide +kernel
theorem dX2_increase_9 : decode cX2_increase 9 = .ok (.iastore, 1) := by decide +kernel
theorem dX2_increase_10 : decode cX2_increase 10 = .ok (.aload_n 0, 1) := by decide +kernel
theorem dX2_increase_11 : decode cX2_increase 11 = .ok (.invokevirtual 59, 3) := by decide +kernel
theorem dX2_increase_14 : decode cX2_increase 14 = .ok (.return_, 1) := by decide +kernel
theorem dX2_carry_0 : decode cX2_carry 0 = .ok (.iconst 0, 1) := by decide +kernel
theorem dX2_carry_1 : decode cX2_carry 1 = .ok (.istore_n 1, 1) := by decide +kernel
theorem dX2_carry_2 : decode cX2_carry 2 = .ok (.iconst 0, 1) := by decide +kernel
theorem dX2_carry_3 : decode cX2_carry 3 = .ok (.istore_n 2, 1) := by decide +kernel
theorem dX2_carry_4 : decode cX2_carry 4 = .ok (.iload_n 2, 1) := by decide +kernel
theorem dX2_carry_5 : decode cX2_carry 5 = .ok (.bipush 72, 2) := by decide +kernel
theorem dX2_carry_7 : decode cX2_carry 7 = .ok (.if_icmp .ge 37, 3) := by decide +kernel
theorem dX2_carry_10 : decode cX2_carry 10 = .ok (.aload_n 0, 1) := by decide +kernel
theorem dX2_carry_11 : decode cX2_carry 11 = .ok (.getfield 9, 3) := by decide +kernel
theorem dX2_carry_14 : decode cX2_carry 14 = .ok (.iload_n 2, 1) := by decide +kernel
theorem dX2_carry_15 : decode cX2_carry 15 = .ok (.iaload, 1) := by decide +kernel
theorem dX2_carry_16 : decode cX2_carry 16 = .ok (.iload_n 1, 1) := by decide +kernel
theorem dX2_carry_17 : decode cX2_carry 17 = .ok (.iadd, 1) := by decide +kernel
theorem dX2_carry_18 : decode cX2_carry 18 = .ok (.istore_n 3, 1) := by decide +kernel
theorem dX2_carry_19 : decode cX2_carry 19 = .ok (.aload_n 0, 1) := by decide +kernel
theorem dX2_carry_20 : decode cX2_carry 20 = .ok (.getfield 9, 3) := by decide +kernel
theorem dX2_carry_23 : decode cX2_carry 23 = .ok (.iload_n 2, 1) := by decide +kernel
theorem dX2_carry_24 : decode cX2_carry 24 = .ok (.iload_n 3, 1) := by decide +kernel
theorem dX2_carry_25 : decode cX2_carry 25 = .ok (.bipush 10, 2) := by decide +kernel
theorem dX2_carry_27 : decode cX2_carry 27 = .ok (.invokestatic 52, 3) := by decide +kernel
theorem dX2_carry_30 : decode cX2_carry 30 = .ok (.iastore, 1) := by decide +kernel
theorem dX2_carry_31 : decode cX2_carry 31 = .ok (.iload_n 3, 1) := by decide +kernel
theorem dX2_carry_32 : decode cX2_carry 32 = .ok (.bipush 10, 2) := by decide +kernel
theorem dX2_carry_34 : decode cX2_carry 34 = .ok (.invokestatic 56, 3) := by decide +kernel
theorem dX2_carry_37 : decode cX2_carry 37 = .ok (.istore_n 1, 1) := by decide +kernel
theorem dX2_carry_38 : decode cX2_carry 38 = .ok (.iinc 2 1, 3) := by decide +kernel
theorem dX2_carry_41 : decode cX2_carry 41 = .ok (.goto (-37), 3) := by decide +kernel
theorem dX2_carry_44 : decode cX2_carry 44 = .ok (.return_, 1) := by decide +kernel
theorem dX2_fitsWide_0 : decode cX2_fitsWide 0 = .ok (.aload_n 0, 1) := by decide +kernel
theorem dX2_fitsWide_1 : decode cX2_fitsWide 1 = .ok (.getfield 9, 3) := by decide +kernel
theorem dX2_fitsWide_4 : decode cX2_fitsWide 4 = .ok (.bipush 46, 2) := by decide +kernel
theorem dX2_fitsWide_6 : decode cX2_fitsWide 6 = .ok (.bipush 72, 2) := by decide +kernel
theorem dX2_fitsWide_8 : decode cX2_fitsWide 8 = .ok (.invokestatic 68, 3) := by decide +kernel
theorem dX2_fitsWide_11 : decode cX2_fitsWide 11 = .ok (.ireturn, 1) := by decide +kernel
theorem dX2_fitsFast_0 : decode cX2_fitsFast 0 = .ok (.bipush 15, 2) := by decide +kernel
theorem dX2_fitsFast_2 : decode cX2_fitsFast 2 = .ok (.istore_n 1, 1) := by decide +kernel
theorem dX2_fitsFast_3 : decode cX2_fitsFast 3 = .ok (.aload_n 0, 1) := by decide +kernel
end
section
theorem dX2_fitsFast_4 : decode cX2_fitsFast 4 = .ok (.getfield 28, 3) := by decide +kernel
theorem dX2_fitsFast_7 : decode cX2_fitsFast 7 = .ok (.ifCond .ne 31, 3) := by decide +kernel
theorem dX2_fitsFast_10 : decode cX2_fitsFast 10 = .ok (.aload_n 0, 1) := by decide +kernel
theorem dX2_fitsFast_11 : decode cX2_fitsFast 11 = .ok (.getfield 9, 3) := by decide +kernel
theorem dX2_fitsFast_14 : decode cX2_fitsFast 14 = .ok (.iconst 0, 1) := by decide +kernel
theorem dX2_fitsFast_15 : decode cX2_fitsFast 15 = .ok (.iload_n 1, 1) := by decide +kernel
theorem dX2_fitsFast_16 : decode cX2_fitsFast 16 = .ok (.invokestatic 68, 3) := by decide +kernel
theorem dX2_fitsFast_19 : decode cX2_fitsFast 19 = .ok (.ifCond .eq 19, 3) := by decide +kernel
theorem dX2_fitsFast_22 : decode cX2_fitsFast 22 = .ok (.aload_n 0, 1) := by decide +kernel
theorem dX2_fitsFast_23 : decode cX2_fitsFast 23 = .ok (.getfield 9, 3) := by decide +kernel
theorem dX2_fitsFast_26 : decode cX2_fitsFast 26 = .ok (.iload_n 1, 1) := by decide +kernel
theorem dX2_fitsFast_27 : decode cX2_fitsFast 27 = .ok (.bipush 19, 2) := by decide +kernel
theorem dX2_fitsFast_29 : decode cX2_fitsFast 29 = .ok (.iadd, 1) := by decide +kernel
theorem dX2_fitsFast_30 : decode cX2_fitsFast 30 = .ok (.bipush 72, 2) := by decide +kernel
theorem dX2_fitsFast_32 : decode cX2_fitsFast 32 = .ok (.invokestatic 68, 3) := by decide +kernel
theorem dX2_fitsFast_35 : decode cX2_fitsFast 35 = .ok (.ifCond .ne 5, 3) := by decide +kernel
theorem dX2_fitsFast_38 : decode cX2_fitsFast 38 = .ok (.iconst 0, 1) := by decide +kernel
theorem dX2_fitsFast_39 : decode cX2_fitsFast 39 = .ok (.ireturn, 1) := by decide +kernel
theorem dX2_fitsFast_40 : decode cX2_fitsFast 40 = .ok (.aload_n 0, 1) := by decide +kernel
theorem dX2_fitsFast_41 : decode cX2_fitsFast 41 = .ok (.getfield 9, 3) := by decide +kernel
theorem dX2_fitsFast_44 : decode cX2_fitsFast 44 = .ok (.iload_n 1, 1) := by decide +kernel
theorem dX2_fitsFast_45 : decode cX2_fitsFast 45 = .ok (.bipush 19, 2) := by decide +kernel
theorem dX2_fitsFast_47 : decode cX2_fitsFast 47 = .ok (.invokestatic 85, 3) := by decide +kernel
theorem dX2_fitsFast_50 : decode cX2_fitsFast 50 = .ok (.lstore_n 2, 1) := by decide +kernel
theorem dX2_fitsFast_51 : decode cX2_fitsFast 51 = .ok (.lload_n 2, 1) := by decide +kernel
theorem dX2_fitsFast_52 : decode cX2_fitsFast 52 = .ok (.lconst 0, 1) := by decide +kernel
theorem dX2_fitsFast_53 : decode cX2_fitsFast 53 = .ok (.lcmp, 1) := by decide +kernel
theorem dX2_fitsFast_54 : decode cX2_fitsFast 54 = .ok (.ifCond .ge 18, 3) := by decide +kernel
theorem dX2_fitsFast_57 : decode cX2_fitsFast 57 = .ok (.aload_n 0, 1) := by decide +kernel
theorem dX2_fitsFast_58 : decode cX2_fitsFast 58 = .ok (.getfield 24, 3) := by decide +kernel
theorem dX2_fitsFast_61 : decode cX2_fitsFast 61 = .ok (.ifCond .eq 15, 3) := by decide +kernel
theorem dX2_fitsFast_64 : decode cX2_fitsFast 64 = .ok (.lload_n 2, 1) := by decide +kernel
theorem dX2_fitsFast_65 : decode cX2_fitsFast 65 = .ok (.ldc2_w 89, 3) := by decide +kernel
theorem dX2_fitsFast_68 : decode cX2_fitsFast 68 = .ok (.lcmp, 1) := by decide +kernel
theorem dX2_fitsFast_69 : decode cX2_fitsFast 69 = .ok (.ifCond .ne 7, 3) := by decide +kernel
theorem dX2_fitsFast_72 : decode cX2_fitsFast 72 = .ok (.iconst 1, 1) := by decide +kernel
theorem dX2_fitsFast_73 : decode cX2_fitsFast 73 = .ok (.goto 4, 3) := by decide +kernel
theorem dX2_fitsFast_76 : decode cX2_fitsFast 76 = .ok (.iconst 0, 1) := by decide +kernel
theorem dX2_fitsFast_77 : decode cX2_fitsFast 77 = .ok (.ireturn, 1) := by decide +kernel
theorem dX2_load_0 : decode cX2_load 0 = .ok (.aload_n 0, 1) := by decide +kernel
theorem dX2_load_1 : decode cX2_load 1 = .ok (.invokevirtual 31, 3) := by decide +kernel
theorem dX2_load_4 : decode cX2_load 4 = .ok (.aload_n 1, 1) := by decide +kernel
theorem dX2_load_5 : decode cX2_load 5 = .ok (.iconst 0, 1) := by decide +kernel
theorem dX2_load_6 : decode cX2_load 6 = .ok (.aload_n 0, 1) := by decide +kernel
theorem dX2_load_7 : decode cX2_load 7 = .ok (.getfield 9, 3) := by decide +kernel
theorem dX2_load_10 : decode cX2_load 10 = .ok (.iload_n 2, 1) := by decide +kernel
theorem dX2_load_11 : decode cX2_load 11 = .ok (.aload_n 1, 1) := by decide +kernel
theorem dX2_load_12 : decode cX2_load 12 = .ok (.arraylength, 1) := by decide +kernel
theorem dX2_load_13 : decode cX2_load 13 = .ok (.invokestatic 34, 3) := by decide +kernel
theorem dX2_load_16 : decode cX2_load 16 = .ok (.aload_n 0, 1) := by decide +kernel
theorem dX2_load_17 : decode cX2_load 17 = .ok (.iload_n 3, 1) := by decide +kernel
theorem dX2_load_18 : decode cX2_load 18 = .ok (.putfield 24, 3) := by decide +kernel
theorem dX2_load_21 : decode cX2_load 21 = .ok (.return_, 1) := by decide +kernel
theorem dX2_join_0 : decode cX2_join 0 = .ok (.iconst 0, 1) := by decide +kernel
theorem dX2_join_1 : decode cX2_join 1 = .ok (.istore 4, 2) := by decide +kernel
theorem dX2_join_3 : decode cX2_join 3 = .ok (.iload 4, 2) := by decide +kernel
theorem dX2_join_5 : decode cX2_join 5 = .ok (.bipush 36, 2) := by decide +kernel
theorem dX2_join_7 : decode cX2_join 7 = .ok (.if_icmp .ge 27, 3) := by decide +kernel
theorem dX2_join_10 : decode cX2_join 10 = .ok (.aload_n 0, 1) := by decide +kernel
theorem dX2_join_11 : decode cX2_join 11 = .ok (.getfield 9, 3) := by decide +kernel
theorem dX2_join_14 : decode cX2_join 14 = .ok (.iload_n 2, 1) := by decide +kernel
theorem dX2_join_15 : decode cX2_join 15 = .ok (.iload 4, 2) := by decide +kernel
theorem dX2_join_17 : decode cX2_join 17 = .ok (.iadd, 1) := by decide +kernel
theorem dX2_join_18 : decode cX2_join 18 = .ok (.dup2, 1) := by decide +kernel
theorem dX2_join_19 : decode cX2_join 19 = .ok (.iaload, 1) := by decide +kernel
theorem dX2_join_20 : decode cX2_join 20 = .ok (.iload_n 3, 1) := by decide +kernel
theorem dX2_join_21 : decode cX2_join 21 = .ok (.aload_n 1, 1) := by decide +kernel
theorem dX2_join_22 : decode cX2_join 22 = .ok (.iload 4, 2) := by decide +kernel
theorem dX2_join_24 : decode cX2_join 24 = .ok (.iaload, 1) := by decide +kernel
theorem dX2_join_25 : decode cX2_join 25 = .ok (.imul, 1) := by decide +kernel
theorem dX2_join_26 : decode cX2_join 26 = .ok (.iadd, 1) := by decide +kernel
theorem dX2_join_27 : decode cX2_join 27 = .ok (.iastore, 1) := by decide +kernel
theorem dX2_join_28 : decode cX2_join 28 = .ok (.iinc 4 1, 3) := by decide +kernel
theorem dX2_join_31 : decode cX2_join 31 = .ok (.goto (-28), 3) := by decide +kernel
theorem dX2_join_34 : decode cX2_join 34 = .ok (.aload_n 0, 1) := by decide +kernel
theorem dX2_join_35 : decode cX2_join 35 = .ok (.invokevirtual 59, 3) := by decide +kernel
theorem dX2_join_38 : decode cX2_join 38 = .ok (.return_, 1) := by decide +kernel
theorem dX2_times_0 : decode cX2_times 0 = .ok (.lload_n 1, 1) := by decide +kernel
theorem dX2_times_1 : decode cX2_times 1 = .ok (.aload_n 0, 1) := by decide +kernel
theorem dX2_times_2 : decode cX2_times 2 = .ok (.getfield 15, 3) := by decide +kernel
theorem dX2_times_5 : decode cX2_times 5 = .ok (.iconst 0, 1) := by decide +kernel
theorem dX2_times_6 : decode cX2_times 6 = .ok (.invokestatic 40, 3) := by decide +kernel
theorem dX2_times_9 : decode cX2_times 9 = .ok (.aload_n 0, 1) := by decide +kernel
theorem dX2_times_10 : decode cX2_times 10 = .ok (.invokevirtual 62, 3) := by decide +kernel
theorem dX2_times_13 : decode cX2_times 13 = .ok (.iconst 1, 1) := by decide +kernel
theorem dX2_times_14 : decode cX2_times 14 = .ok (.isub, 1) := by decide +kernel
theorem dX2_times_15 : decode cX2_times 15 = .ok (.istore_n 3, 1) := by decide +kernel
theorem dX2_times_16 : decode cX2_times 16 = .ok (.iload_n 3, 1) := by decide +kernel
theorem dX2_times_17 : decode cX2_times 17 = .ok (.ifCond .lt 71, 3) := by decide +kernel
theorem dX2_times_20 : decode cX2_times 20 = .ok (.aload_n 0, 1) := by decide +kernel
theorem dX2_times_21 : decode cX2_times 21 = .ok (.getfield 9, 3) := by decide +kernel
theorem dX2_times_24 : decode cX2_times 24 = .ok (.iload_n 3, 1) := by decide +kernel
theorem dX2_times_25 : decode cX2_times 25 = .ok (.iaload, 1) := by decide +kernel
theorem dX2_times_26 : decode cX2_times 26 = .ok (.istore 4, 2) := by decide +kernel
theorem dX2_times_28 : decode cX2_times 28 = .ok (.aload_n 0, 1) := by decide +kernel
theorem dX2_times_29 : decode cX2_times 29 = .ok (.getfield 9, 3) := by decide +kernel
theorem dX2_times_32 : decode cX2_times 32 = .ok (.iload_n 3, 1) := by decide +kernel
theorem dX2_times_33 : decode cX2_times 33 = .ok (.iconst 0, 1) := by decide +kernel
theorem dX2_times_34 : decode cX2_times 34 = .ok (.iastore, 1) := by decide +kernel
theorem dX2_times_35 : decode cX2_times 35 = .ok (.iconst 0, 1) := by decide +kernel
theorem dX2_times_36 : decode cX2_times 36 = .ok (.istore 5, 2) := by decide +kernel
theorem dX2_times_38 : decode cX2_times 38 = .ok (.iload 5, 2) := by decide +kernel
theorem dX2_times_40 : decode cX2_times 40 = .ok (.bipush 19, 2) := by decide +kernel
theorem dX2_times_42 : decode cX2_times 42 = .ok (.if_icmp .ge 40, 3) := by decide +kernel
theorem dX2_times_45 : decode cX2_times 45 = .ok (.iload_n 3, 1) := by decide +kernel
theorem dX2_times_46 : decode cX2_times 46 = .ok (.iload 5, 2) := by decide +kernel
theorem dX2_times_48 : decode cX2_times 48 = .ok (.iadd, 1) := by decide +kernel
theorem dX2_times_49 : decode cX2_times 49 = .ok (.bipush 72, 2) := by decide +kernel
theorem dX2_times_51 : decode cX2_times 51 = .ok (.if_icmp .ge 31, 3) := by decide +kernel
theorem dX2_times_54 : decode cX2_times 54 = .ok (.aload_n 0, 1) := by decide +kernel
theorem dX2_times_55 : decode cX2_times 55 = .ok (.getfield 9, 3) := by decide +kernel
theorem dX2_times_58 : decode cX2_times 58 = .ok (.iload_n 3, 1) := by decide +kernel
theorem dX2_times_59 : decode cX2_times 59 = .ok (.iload 5, 2) := by decide +kernel
theorem dX2_times_61 : decode cX2_times 61 = .ok (.iadd, 1) := by decide +kernel
theorem dX2_times_62 : decode cX2_times 62 = .ok (.dup2, 1) := by decide +kernel
theorem dX2_times_63 : decode cX2_times 63 = .ok (.iaload, 1) := by decide +kernel
theorem dX2_times_64 : decode cX2_times 64 = .ok (.iload 4, 2) := by decide +kernel
theorem dX2_times_66 : decode cX2_times 66 = .ok (.aload_n 0, 1) := by decide +kernel
theorem dX2_times_67 : decode cX2_times 67 = .ok (.getfield 15, 3) := by decide +kernel
theorem dX2_times_70 : decode cX2_times 70 = .ok (.iload 5, 2) := by decide +kernel
theorem dX2_times_72 : decode cX2_times 72 = .ok (.iaload, 1) := by decide +kernel
theorem dX2_times_73 : decode cX2_times 73 = .ok (.imul, 1) := by decide +kernel
theorem dX2_times_74 : decode cX2_times 74 = .ok (.iadd, 1) := by decide +kernel
theorem dX2_times_75 : decode cX2_times 75 = .ok (.iastore, 1) := by decide +kernel
theorem dX2_times_76 : decode cX2_times 76 = .ok (.iinc 5 1, 3) := by decide +kernel
theorem dX2_times_79 : decode cX2_times 79 = .ok (.goto (-41), 3) := by decide +kernel
theorem dX2_times_82 : decode cX2_times 82 = .ok (.iinc 3 (-1), 3) := by decide +kernel
theorem dX2_times_85 : decode cX2_times 85 = .ok (.goto (-69), 3) := by decide +kernel
theorem dX2_times_88 : decode cX2_times 88 = .ok (.aload_n 0, 1) := by decide +kernel
theorem dX2_times_89 : decode cX2_times 89 = .ok (.invokevirtual 59, 3) := by decide +kernel
theorem dX2_times_92 : decode cX2_times 92 = .ok (.aload_n 0, 1) := by decide +kernel
theorem dX2_times_93 : decode cX2_times 93 = .ok (.aload_n 0, 1) := by decide +kernel
theorem dX2_times_94 : decode cX2_times 94 = .ok (.getfield 24, 3) := by decide +kernel
theorem dX2_times_97 : decode cX2_times 97 = .ok (.lload_n 1, 1) := by decide +kernel
theorem dX2_times_98 : decode cX2_times 98 = .ok (.lconst 0, 1) := by decide +kernel
theorem dX2_times_99 : decode cX2_times 99 = .ok (.lcmp, 1) := by decide +kernel
theorem dX2_times_100 : decode cX2_times 100 = .ok (.ifCond .ge 7, 3) := by decide +kernel
theorem dX2_times_103 : decode cX2_times 103 = .ok (.iconst 1, 1) := by decide +kernel
theorem dX2_times_104 : decode cX2_times 104 = .ok (.goto 4, 3) := by decide +kernel
theorem dX2_times_107 : decode cX2_times 107 = .ok (.iconst 0, 1) := by decide +kernel
theorem dX2_times_108 : decode cX2_times 108 = .ok (.if_icmp .eq 7, 3) := by decide +kernel
theorem dX2_times_111 : decode cX2_times 111 = .ok (.iconst 1, 1) := by decide +kernel
theorem dX2_times_112 : decode cX2_times 112 = .ok (.goto 4, 3) := by decide +kernel
theorem dX2_times_115 : decode cX2_times 115 = .ok (.iconst 0, 1) := by decide +kernel
theorem dX2_times_116 : decode cX2_times 116 = .ok (.putfield 24, 3) := by decide +kernel
theorem dX2_times_119 : decode cX2_times 119 = .ok (.return_, 1) := by decide +kernel
theorem dX2_over_0 : decode cX2_over 0 = .ok (.lload_n 1, 1) := by decide +kernel
theorem dX2_over_1 : decode cX2_over 1 = .ok (.lconst 0, 1) := by decide +kernel
theorem dX2_over_2 : decode cX2_over 2 = .ok (.lcmp, 1) := by decide +kernel
theorem dX2_over_3 : decode cX2_over 3 = .ok (.ifCond .ge 7, 3) := by decide +kernel
theorem dX2_over_6 : decode cX2_over 6 = .ok (.lload_n 1, 1) := by decide +kernel
theorem dX2_over_7 : decode cX2_over 7 = .ok (.goto 5, 3) := by decide +kernel
theorem dX2_over_10 : decode cX2_over 10 = .ok (.lload_n 1, 1) := by decide +kernel
theorem dX2_over_11 : decode cX2_over 11 = .ok (.lneg, 1) := by decide +kernel
theorem dX2_over_12 : decode cX2_over 12 = .ok (.lstore 4, 2) := by decide +kernel
theorem dX2_over_14 : decode cX2_over 14 = .ok (.lconst 0, 1) := by decide +kernel
theorem dX2_over_15 : decode cX2_over 15 = .ok (.lstore 6, 2) := by decide +kernel
theorem dX2_over_17 : decode cX2_over 17 = .ok (.aload_n 0, 1) := by decide +kernel
theorem dX2_over_18 : decode cX2_over 18 = .ok (.invokevirtual 62, 3) := by decide +kernel
theorem dX2_over_21 : decode cX2_over 21 = .ok (.iconst 1, 1) := by decide +kernel
theorem dX2_over_22 : decode cX2_over 22 = .ok (.isub, 1) := by decide +kernel
theorem dX2_over_23 : decode cX2_over 23 = .ok (.istore 8, 2) := by decide +kernel
theorem dX2_over_25 : decode cX2_over 25 = .ok (.iload 8, 2) := by decide +kernel
theorem dX2_over_27 : decode cX2_over 27 = .ok (.iload_n 3, 1) := by decide +kernel
theorem dX2_over_28 : decode cX2_over 28 = .ok (.if_icmp .lt 104, 3) := by decide +kernel
theorem dX2_over_31 : decode cX2_over 31 = .ok (.iconst 0, 1) := by decide +kernel
theorem dX2_over_32 : decode cX2_over 32 = .ok (.istore 9, 2) := by decide +kernel
theorem dX2_over_34 : decode cX2_over 34 = .ok (.lconst 0, 1) := by decide +kernel
theorem dX2_over_35 : decode cX2_over 35 = .ok (.lstore 10, 2) := by decide +kernel
theorem dX2_over_37 : decode cX2_over 37 = .ok (.iconst 0, 1) := by decide +kernel
theorem dX2_over_38 : decode cX2_over 38 = .ok (.istore 12, 2) := by decide +kernel
theorem dX2_over_40 : decode cX2_over 40 = .ok (.iload 12, 2) := by decide +kernel
theorem dX2_over_42 : decode cX2_over 42 = .ok (.bipush 10, 2) := by decide +kernel
theorem dX2_over_44 : decode cX2_over 44 = .ok (.aload_n 0, 1) := by decide +kernel
theorem dX2_over_45 : decode cX2_over 45 = .ok (.getfield 9, 3) := by decide +kernel
theorem dX2_over_48 : decode cX2_over 48 = .ok (.iload 8, 2) := by decide +kernel
theorem dX2_over_50 : decode cX2_over 50 = .ok (.iaload, 1) := by decide +kernel
theorem dX2_over_51 : decode cX2_over 51 = .ok (.iadd, 1) := by decide +kernel
theorem dX2_over_52 : decode cX2_over 52 = .ok (.if_icmp .ge 61, 3) := by decide +kernel
theorem dX2_over_55 : decode cX2_over 55 = .ok (.iload 12, 2) := by decide +kernel
theorem dX2_over_57 : decode cX2_over 57 = .ok (.bipush 10, 2) := by decide +kernel
theorem dX2_over_59 : decode cX2_over 59 = .ok (.if_icmp .ge 8, 3) := by decide +kernel
theorem dX2_over_62 : decode cX2_over 62 = .ok (.lload 6, 2) := by decide +kernel
theorem dX2_over_64 : decode cX2_over 64 = .ok (.goto 6, 3) := by decide +kernel
theorem dX2_over_67 : decode cX2_over 67 = .ok (.ldc2_w 66, 3) := by decide +kernel
theorem dX2_over_70 : decode cX2_over 70 = .ok (.lstore 13, 2) := by decide +kernel
theorem dX2_over_72 : decode cX2_over 72 = .ok (.lload 4, 2) := by decide +kernel
theorem dX2_over_74 : decode cX2_over 74 = .ok (.lload 10, 2) := by decide +kernel
theorem dX2_over_76 : decode cX2_over 76 = .ok (.lsub, 1) := by decide +kernel
theorem dX2_over_77 : decode cX2_over 77 = .ok (.lstore 15, 2) := by decide +kernel
theorem dX2_over_79 : decode cX2_over 79 = .ok (.lload 13, 2) := by decide +kernel
theorem dX2_over_81 : decode cX2_over 81 = .ok (.lload 15, 2) := by decide +kernel
theorem dX2_over_83 : decode cX2_over 83 = .ok (.lcmp, 1) := by decide +kernel
theorem dX2_over_84 : decode cX2_over 84 = .ok (.ifCond .gt 16, 3) := by decide +kernel
theorem dX2_over_87 : decode cX2_over 87 = .ok (.lload 13, 2) := by decide +kernel
theorem dX2_over_89 : decode cX2_over 89 = .ok (.lload 15, 2) := by decide +kernel
theorem dX2_over_91 : decode cX2_over 91 = .ok (.lsub, 1) := by decide +kernel
theorem dX2_over_92 : decode cX2_over 92 = .ok (.lstore 10, 2) := by decide +kernel
theorem dX2_over_94 : decode cX2_over 94 = .ok (.iinc 9 1, 3) := by decide +kernel
theorem dX2_over_97 : decode cX2_over 97 = .ok (.goto 10, 3) := by decide +kernel
theorem dX2_over_100 : decode cX2_over 100 = .ok (.lload 10, 2) := by decide +kernel
theorem dX2_over_102 : decode cX2_over 102 = .ok (.lload 13, 2) := by decide +kernel
theorem dX2_over_104 : decode cX2_over 104 = .ok (.ladd, 1) := by decide +kernel
theorem dX2_over_105 : decode cX2_over 105 = .ok (.lstore 10, 2) := by decide +kernel
theorem dX2_over_107 : decode cX2_over 107 = .ok (.iinc 12 1, 3) := by decide +kernel
theorem dX2_over_110 : decode cX2_over 110 = .ok (.goto (-70), 3) := by decide +kernel
theorem dX2_over_113 : decode cX2_over 113 = .ok (.aload_n 0, 1) := by decide +kernel
theorem dX2_over_114 : decode cX2_over 114 = .ok (.getfield 9, 3) := by decide +kernel
theorem dX2_over_117 : decode cX2_over 117 = .ok (.iload 8, 2) := by decide +kernel
theorem dX2_over_119 : decode cX2_over 119 = .ok (.iload 9, 2) := by decide +kernel
theorem dX2_over_121 : decode cX2_over 121 = .ok (.iastore, 1) := by decide +kernel
theorem dX2_over_122 : decode cX2_over 122 = .ok (.lload 10, 2) := by decide +kernel
theorem dX2_over_124 : decode cX2_over 124 = .ok (.lstore 6, 2) := by decide +kernel
theorem dX2_over_126 : decode cX2_over 126 = .ok (.iinc 8 (-1), 3) := by decide +kernel
theorem dX2_over_129 : decode cX2_over 129 = .ok (.goto (-104), 3) := by decide +kernel
theorem dX2_over_132 : decode cX2_over 132 = .ok (.aload_n 0, 1) := by decide +kernel
theorem dX2_over_133 : decode cX2_over 133 = .ok (.lload 6, 2) := by decide +kernel
theorem dX2_over_135 : decode cX2_over 135 = .ok (.lconst 0, 1) := by decide +kernel
theorem dX2_over_136 : decode cX2_over 136 = .ok (.lcmp, 1) := by decide +kernel
theorem dX2_over_137 : decode cX2_over 137 = .ok (.ifCond .eq 7, 3) := by decide +kernel
theorem dX2_over_140 : decode cX2_over 140 = .ok (.iconst 1, 1) := by decide +kernel
theorem dX2_over_141 : decode cX2_over 141 = .ok (.goto 4, 3) := by decide +kernel
theorem dX2_over_144 : decode cX2_over 144 = .ok (.iconst 0, 1) := by decide +kernel
theorem dX2_over_145 : decode cX2_over 145 = .ok (.putfield 28, 3) := by decide +kernel
theorem dX2_over_148 : decode cX2_over 148 = .ok (.aload_n 0, 1) := by decide +kernel
theorem dX2_over_149 : decode cX2_over 149 = .ok (.aload_n 0, 1) := by decide +kernel
theorem dX2_over_150 : decode cX2_over 150 = .ok (.getfield 24, 3) := by decide +kernel
theorem dX2_over_153 : decode cX2_over 153 = .ok (.lload_n 1, 1) := by decide +kernel
theorem dX2_over_154 : decode cX2_over 154 = .ok (.lconst 0, 1) := by decide +kernel
theorem dX2_over_155 : decode cX2_over 155 = .ok (.lcmp, 1) := by decide +kernel
theorem dX2_over_156 : decode cX2_over 156 = .ok (.ifCond .ge 7, 3) := by decide +kernel
theorem dX2_over_159 : decode cX2_over 159 = .ok (.iconst 1, 1) := by decide +kernel
theorem dX2_over_160 : decode cX2_over 160 = .ok (.goto 4, 3) := by decide +kernel
theorem dX2_over_163 : decode cX2_over 163 = .ok (.iconst 0, 1) := by decide +kernel
theorem dX2_over_164 : decode cX2_over 164 = .ok (.if_icmp .eq 7, 3) := by decide +kernel
theorem dX2_over_167 : decode cX2_over 167 = .ok (.iconst 1, 1) := by decide +kernel
theorem dX2_over_168 : decode cX2_over 168 = .ok (.goto 4, 3) := by decide +kernel
theorem dX2_over_171 : decode cX2_over 171 = .ok (.iconst 0, 1) := by decide +kernel
theorem dX2_over_172 : decode cX2_over 172 = .ok (.putfield 24, 3) := by decide +kernel
theorem dX2_over_175 : decode cX2_over 175 = .ok (.lload 6, 2) := by decide +kernel
theorem dX2_over_177 : decode cX2_over 177 = .ok (.lneg, 1) := by decide +kernel
theorem dX2_over_178 : decode cX2_over 178 = .ok (.lreturn, 1) := by decide +kernel
theorem dX1_init_0 : decode cX1_init 0 = .ok (.aload_n 0, 1) := by decide +kernel
theorem dX1_init_1 : decode cX1_init 1 = .ok (.invokespecial 3, 3) := by decide +kernel
theorem dX1_init_4 : decode cX1_init 4 = .ok (.aload_n 0, 1) := by decide +kernel
theorem dX1_init_5 : decode cX1_init 5 = .ok (.bipush 48, 2) := by decide +kernel
theorem dX1_init_7 : decode cX1_init 7 = .ok (.newarray .int, 2) := by decide +kernel
theorem dX1_init_9 : decode cX1_init 9 = .ok (.putfield 9, 3) := by decide +kernel
theorem dX1_init_12 : decode cX1_init 12 = .ok (.return_, 1) := by decide +kernel
theorem dX1_append_0 : decode cX1_append 0 = .ok (.aload_n 0, 1) := by decide +kernel
theorem dX1_append_1 : decode cX1_append 1 = .ok (.getfield 15, 3) := by decide +kernel
theorem dX1_append_4 : decode cX1_append 4 = .ok (.bipush 48, 2) := by decide +kernel
theorem dX1_append_6 : decode cX1_append 6 = .ok (.if_icmp .ge 23, 3) := by decide +kernel
theorem dX1_append_9 : decode cX1_append 9 = .ok (.aload_n 0, 1) := by decide +kernel
theorem dX1_append_10 : decode cX1_append 10 = .ok (.getfield 9, 3) := by decide +kernel
theorem dX1_append_13 : decode cX1_append 13 = .ok (.aload_n 0, 1) := by decide +kernel
theorem dX1_append_14 : decode cX1_append 14 = .ok (.getfield 15, 3) := by decide +kernel
theorem dX1_append_17 : decode cX1_append 17 = .ok (.iload_n 1, 1) := by decide +kernel
theorem dX1_append_18 : decode cX1_append 18 = .ok (.iastore, 1) := by decide +kernel
theorem dX1_append_19 : decode cX1_append 19 = .ok (.aload_n 0, 1) := by decide +kernel
theorem dX1_append_20 : decode cX1_append 20 = .ok (.dup, 1) := by decide +kernel
theorem dX1_append_21 : decode cX1_append 21 = .ok (.getfield 15, 3) := by decide +kernel
theorem dX1_append_24 : decode cX1_append 24 = .ok (.iconst 1, 1) := by decide +kernel
theorem dX1_append_25 : decode cX1_append 25 = .ok (.iadd, 1) := by decide +kernel
theorem dX1_append_26 : decode cX1_append 26 = .ok (.putfield 15, 3) := by decide +kernel
theorem dX1_append_29 : decode cX1_append 29 = .ok (.return_, 1) := by decide +kernel
theorem dX1_appendCode_0 : decode cX1_appendCode 0 = .ok (.iconst 0, 1) := by decide +kernel
theorem dX1_appendCode_1 : decode cX1_appendCode 1 = .ok (.istore_n 2, 1) := by decide +kernel
theorem dX1_appendCode_2 : decode cX1_appendCode 2 = .ok (.iload_n 2, 1) := by decide +kernel
theorem dX1_appendCode_3 : decode cX1_appendCode 3 = .ok (.iconst 3, 1) := by decide +kernel
theorem dX1_appendCode_4 : decode cX1_appendCode 4 = .ok (.if_icmp .ge 17, 3) := by decide +kernel
theorem dX1_appendCode_7 : decode cX1_appendCode 7 = .ok (.aload_n 0, 1) := by decide +kernel
theorem dX1_appendCode_8 : decode cX1_appendCode 8 = .ok (.bipush 65, 2) := by decide +kernel
theorem dX1_appendCode_10 : decode cX1_appendCode 10 = .ok (.iload_n 1, 1) := by decide +kernel
theorem dX1_appendCode_11 : decode cX1_appendCode 11 = .ok (.iadd, 1) := by decide +kernel
theorem dX1_appendCode_12 : decode cX1_appendCode 12 = .ok (.invokevirtual 19, 3) := by decide +kernel
theorem dX1_appendCode_15 : decode cX1_appendCode 15 = .ok (.iinc 2 1, 3) := by decide +kernel
theorem dX1_appendCode_18 : decode cX1_appendCode 18 = .ok (.goto (-16), 3) := by decide +kernel
theorem dX1_appendCode_21 : decode cX1_appendCode 21 = .ok (.return_, 1) := by decide +kernel
theorem dX1_skip_0 : decode cX1_skip 0 = .ok (.aload_n 0, 1) := by decide +kernel
theorem dX1_skip_1 : decode cX1_skip 1 = .ok (.getfield 23, 3) := by decide +kernel
theorem dX1_skip_4 : decode cX1_skip 4 = .ok (.aload_n 0, 1) := by decide +kernel
theorem dX1_skip_5 : decode cX1_skip 5 = .ok (.getfield 15, 3) := by decide +kernel
theorem dX1_skip_8 : decode cX1_skip 8 = .ok (.if_icmp .ge 16, 3) := by decide +kernel
theorem dX1_skip_11 : decode cX1_skip 11 = .ok (.aload_n 0, 1) := by decide +kernel
theorem dX1_skip_12 : decode cX1_skip 12 = .ok (.getfield 9, 3) := by decide +kernel
theorem dX1_skip_15 : decode cX1_skip 15 = .ok (.aload_n 0, 1) := by decide +kernel
theorem dX1_skip_16 : decode cX1_skip 16 = .ok (.getfield 23, 3) := by decide +kernel
theorem dX1_skip_19 : decode cX1_skip 19 = .ok (.iaload, 1) := by decide +kernel
theorem dX1_skip_20 : decode cX1_skip 20 = .ok (.iload_n 1, 1) := by decide +kernel
theorem dX1_skip_21 : decode cX1_skip 21 = .ok (.if_icmp .eq 5, 3) := by decide +kernel
theorem dX1_skip_24 : decode cX1_skip 24 = .ok (.iconst 0, 1) := by decide +kernel
theorem dX1_skip_25 : decode cX1_skip 25 = .ok (.ireturn, 1) := by decide +kernel
theorem dX1_skip_26 : decode cX1_skip 26 = .ok (.aload_n 0, 1) := by decide +kernel
theorem dX1_skip_27 : decode cX1_skip 27 = .ok (.dup, 1) := by decide +kernel
theorem dX1_skip_28 : decode cX1_skip 28 = .ok (.getfield 23, 3) := by decide +kernel
theorem dX1_skip_31 : decode cX1_skip 31 = .ok (.iconst 1, 1) := by decide +kernel
theorem dX1_skip_32 : decode cX1_skip 32 = .ok (.iadd, 1) := by decide +kernel
theorem dX1_skip_33 : decode cX1_skip 33 = .ok (.putfield 23, 3) := by decide +kernel
theorem dX1_skip_36 : decode cX1_skip 36 = .ok (.iconst 1, 1) := by decide +kernel
theorem dX1_skip_37 : decode cX1_skip 37 = .ok (.ireturn, 1) := by decide +kernel
theorem dX1_skipWhole_0 : decode cX1_skipWhole 0 = .ok (.iload_n 1, 1) := by decide +kernel
theorem dX1_skipWhole_1 : decode cX1_skipWhole 1 = .ok (.ifCond .ne 18, 3) := by decide +kernel
theorem dX1_skipWhole_4 : decode cX1_skipWhole 4 = .ok (.aload_n 0, 1) := by decide +kernel
theorem dX1_skipWhole_5 : decode cX1_skipWhole 5 = .ok (.bipush 48, 2) := by decide +kernel
theorem dX1_skipWhole_7 : decode cX1_skipWhole 7 = .ok (.invokevirtual 33, 3) := by decide +kernel
theorem dX1_skipWhole_10 : decode cX1_skipWhole 10 = .ok (.ifCond .le 7, 3) := by decide +kernel
theorem dX1_skipWhole_13 : decode cX1_skipWhole 13 = .ok (.iconst 1, 1) := by decide +kernel
theorem dX1_skipWhole_14 : decode cX1_skipWhole 14 = .ok (.goto 4, 3) := by decide +kernel
theorem dX1_skipWhole_17 : decode cX1_skipWhole 17 = .ok (.iconst 0, 1) := by decide +kernel
theorem dX1_skipWhole_18 : decode cX1_skipWhole 18 = .ok (.ireturn, 1) := by decide +kernel
theorem dX1_skipWhole_19 : decode cX1_skipWhole 19 = .ok (.aload_n 0, 1) := by decide +kernel
theorem dX1_skipWhole_20 : decode cX1_skipWhole 20 = .ok (.iconst 3, 1) := by decide +kernel
theorem dX1_skipWhole_21 : decode cX1_skipWhole 21 = .ok (.invokevirtual 33, 3) := by decide +kernel
theorem dX1_skipWhole_24 : decode cX1_skipWhole 24 = .ok (.ifCond .ne 5, 3) := by decide +kernel
theorem dX1_skipWhole_27 : decode cX1_skipWhole 27 = .ok (.iconst 0, 1) := by decide +kernel
theorem dX1_skipWhole_28 : decode cX1_skipWhole 28 = .ok (.ireturn, 1) := by decide +kernel
theorem dX1_skipWhole_29 : decode cX1_skipWhole 29 = .ok (.iconst 0, 1) := by decide +kernel
theorem dX1_skipWhole_30 : decode cX1_skipWhole 30 = .ok (.istore_n 2, 1) := by decide +kernel
theorem dX1_skipWhole_31 : decode cX1_skipWhole 31 = .ok (.iload_n 2, 1) := by decide +kernel
theorem dX1_skipWhole_32 : decode cX1_skipWhole 32 = .ok (.bipush 48, 2) := by decide +kernel
theorem dX1_skipWhole_34 : decode cX1_skipWhole 34 = .ok (.if_icmp .ge 29, 3) := by decide +kernel
theorem dX1_skipWhole_37 : decode cX1_skipWhole 37 = .ok (.aload_n 0, 1) := by decide +kernel
theorem dX1_skipWhole_38 : decode cX1_skipWhole 38 = .ok (.bipush 44, 2) := by decide +kernel
theorem dX1_skipWhole_40 : decode cX1_skipWhole 40 = .ok (.invokevirtual 29, 3) := by decide +kernel
theorem dX1_skipWhole_43 : decode cX1_skipWhole 43 = .ok (.ifCond .eq 20, 3) := by decide +kernel
theorem dX1_skipWhole_46 : decode cX1_skipWhole 46 = .ok (.aload_n 0, 1) := by decide +kernel
theorem dX1_skipWhole_47 : decode cX1_skipWhole 47 = .ok (.iconst 3, 1) := by decide +kernel
theorem dX1_skipWhole_48 : decode cX1_skipWhole 48 = .ok (.invokevirtual 33, 3) := by decide +kernel
theorem dX1_skipWhole_51 : decode cX1_skipWhole 51 = .ok (.iconst 3, 1) := by decide +kernel
theorem dX1_skipWhole_52 : decode cX1_skipWhole 52 = .ok (.if_icmp .ge 5, 3) := by decide +kernel
theorem dX1_skipWhole_55 : decode cX1_skipWhole 55 = .ok (.iconst 0, 1) := by decide +kernel
theorem dX1_skipWhole_56 : decode cX1_skipWhole 56 = .ok (.ireturn, 1) := by decide +kernel
theorem dX1_skipWhole_57 : decode cX1_skipWhole 57 = .ok (.iinc 2 1, 3) := by decide +kernel
theorem dX1_skipWhole_60 : decode cX1_skipWhole 60 = .ok (.goto (-29), 3) := by decide +kernel
theorem dX1_skipWhole_63 : decode cX1_skipWhole 63 = .ok (.iconst 1, 1) := by decide +kernel
theorem dX1_skipWhole_64 : decode cX1_skipWhole 64 = .ok (.ireturn, 1) := by decide +kernel
theorem dX1_skipDigits_0 : decode cX1_skipDigits 0 = .ok (.iconst 0, 1) := by decide +kernel
theorem dX1_skipDigits_1 : decode cX1_skipDigits 1 = .ok (.istore_n 2, 1) := by decide +kernel
theorem dX1_skipDigits_2 : decode cX1_skipDigits 2 = .ok (.iload_n 2, 1) := by decide +kernel
theorem dX1_skipDigits_3 : decode cX1_skipDigits 3 = .ok (.iload_n 1, 1) := by decide +kernel
theorem dX1_skipDigits_4 : decode cX1_skipDigits 4 = .ok (.if_icmp .ge 58, 3) := by decide +kernel
theorem dX1_skipDigits_7 : decode cX1_skipDigits 7 = .ok (.aload_n 0, 1) := by decide +kernel
theorem dX1_skipDigits_8 : decode cX1_skipDigits 8 = .ok (.getfield 23, 3) := by decide +kernel
theorem dX1_skipDigits_11 : decode cX1_skipDigits 11 = .ok (.aload_n 0, 1) := by decide +kernel
theorem dX1_skipDigits_12 : decode cX1_skipDigits 12 = .ok (.getfield 15, 3) := by decide +kernel
theorem dX1_skipDigits_15 : decode cX1_skipDigits 15 = .ok (.if_icmp .ge 47, 3) := by decide +kernel
theorem dX1_skipDigits_18 : decode cX1_skipDigits 18 = .ok (.aload_n 0, 1) := by decide +kernel
theorem dX1_skipDigits_19 : decode cX1_skipDigits 19 = .ok (.getfield 9, 3) := by decide +kernel
theorem dX1_skipDigits_22 : decode cX1_skipDigits 22 = .ok (.aload_n 0, 1) := by decide +kernel
theorem dX1_skipDigits_23 : decode cX1_skipDigits 23 = .ok (.getfield 23, 3) := by decide +kernel
theorem dX1_skipDigits_26 : decode cX1_skipDigits 26 = .ok (.iaload, 1) := by decide +kernel
theorem dX1_skipDigits_27 : decode cX1_skipDigits 27 = .ok (.bipush 48, 2) := by decide +kernel
theorem dX1_skipDigits_29 : decode cX1_skipDigits 29 = .ok (.if_icmp .lt 33, 3) := by decide +kernel
theorem dX1_skipDigits_32 : decode cX1_skipDigits 32 = .ok (.aload_n 0, 1) := by decide +kernel
theorem dX1_skipDigits_33 : decode cX1_skipDigits 33 = .ok (.getfield 9, 3) := by decide +kernel
theorem dX1_skipDigits_36 : decode cX1_skipDigits 36 = .ok (.aload_n 0, 1) := by decide +kernel
theorem dX1_skipDigits_37 : decode cX1_skipDigits 37 = .ok (.getfield 23, 3) := by decide +kernel
theorem dX1_skipDigits_40 : decode cX1_skipDigits 40 = .ok (.iaload, 1) := by decide +kernel
theorem dX1_skipDigits_41 : decode cX1_skipDigits 41 = .ok (.bipush 57, 2) := by decide +kernel
theorem dX1_skipDigits_43 : decode cX1_skipDigits 43 = .ok (.if_icmp .gt 19, 3) := by decide +kernel
theorem dX1_skipDigits_46 : decode cX1_skipDigits 46 = .ok (.aload_n 0, 1) := by decide +kernel
theorem dX1_skipDigits_47 : decode cX1_skipDigits 47 = .ok (.dup, 1) := by decide +kernel
theorem dX1_skipDigits_48 : decode cX1_skipDigits 48 = .ok (.getfield 23, 3) := by decide +kernel
theorem dX1_skipDigits_51 : decode cX1_skipDigits 51 = .ok (.iconst 1, 1) := by decide +kernel
theorem dX1_skipDigits_52 : decode cX1_skipDigits 52 = .ok (.iadd, 1) := by decide +kernel
theorem dX1_skipDigits_53 : decode cX1_skipDigits 53 = .ok (.putfield 23, 3) := by decide +kernel
theorem dX1_skipDigits_56 : decode cX1_skipDigits 56 = .ok (.iinc 2 1, 3) := by decide +kernel
theorem dX1_skipDigits_59 : decode cX1_skipDigits 59 = .ok (.goto (-57), 3) := by decide +kernel
theorem dX1_skipDigits_62 : decode cX1_skipDigits 62 = .ok (.iload_n 2, 1) := by decide +kernel
theorem dX1_skipDigits_63 : decode cX1_skipDigits 63 = .ok (.ireturn, 1) := by decide +kernel
theorem dX1_skipCode_0 : decode cX1_skipCode 0 = .ok (.aload_n 0, 1) := by decide +kernel
theorem dX1_skipCode_1 : decode cX1_skipCode 1 = .ok (.aload_n 0, 1) := by decide +kernel
theorem dX1_skipCode_2 : decode cX1_skipCode 2 = .ok (.getfield 23, 3) := by decide +kernel
theorem dX1_skipCode_5 : decode cX1_skipCode 5 = .ok (.aload_n 0, 1) := by decide +kernel
theorem dX1_skipCode_6 : decode cX1_skipCode 6 = .ok (.getfield 15, 3) := by decide +kernel
theorem dX1_skipCode_9 : decode cX1_skipCode 9 = .ok (.if_icmp .ge 18, 3) := by decide +kernel
theorem dX1_skipCode_12 : decode cX1_skipCode 12 = .ok (.aload_n 0, 1) := by decide +kernel
theorem dX1_skipCode_13 : decode cX1_skipCode 13 = .ok (.getfield 9, 3) := by decide +kernel
theorem dX1_skipCode_16 : decode cX1_skipCode 16 = .ok (.aload_n 0, 1) := by decide +kernel
theorem dX1_skipCode_17 : decode cX1_skipCode 17 = .ok (.getfield 23, 3) := by decide +kernel
theorem dX1_skipCode_20 : decode cX1_skipCode 20 = .ok (.iaload, 1) := by decide +kernel
theorem dX1_skipCode_21 : decode cX1_skipCode 21 = .ok (.bipush 65, 2) := by decide +kernel
theorem dX1_skipCode_23 : decode cX1_skipCode 23 = .ok (.isub, 1) := by decide +kernel
theorem dX1_skipCode_24 : decode cX1_skipCode 24 = .ok (.goto 4, 3) := by decide +kernel
theorem dX1_skipCode_27 : decode cX1_skipCode 27 = .ok (.iconst (-1), 1) := by decide +kernel
theorem dX1_skipCode_28 : decode cX1_skipCode 28 = .ok (.putfield 26, 3) := by decide +kernel
theorem dX1_skipCode_31 : decode cX1_skipCode 31 = .ok (.aload_n 0, 1) := by decide +kernel
theorem dX1_skipCode_32 : decode cX1_skipCode 32 = .ok (.getfield 26, 3) := by decide +kernel
theorem dX1_skipCode_35 : decode cX1_skipCode 35 = .ok (.ifCond .lt 12, 3) := by decide +kernel
theorem dX1_skipCode_38 : decode cX1_skipCode 38 = .ok (.aload_n 0, 1) := by decide +kernel
theorem dX1_skipCode_39 : decode cX1_skipCode 39 = .ok (.getfield 26, 3) := by decide +kernel
theorem dX1_skipCode_42 : decode cX1_skipCode 42 = .ok (.bipush 6, 2) := by decide +kernel
theorem dX1_skipCode_44 : decode cX1_skipCode 44 = .ok (.if_icmp .lt 5, 3) := by decide +kernel
theorem dX1_skipCode_47 : decode cX1_skipCode 47 = .ok (.iconst 0, 1) := by decide +kernel
theorem dX1_skipCode_48 : decode cX1_skipCode 48 = .ok (.ireturn, 1) := by decide +kernel
theorem dX1_skipCode_49 : decode cX1_skipCode 49 = .ok (.iconst 0, 1) := by decide +kernel
theorem dX1_skipCode_50 : decode cX1_skipCode 50 = .ok (.istore_n 1, 1) := by decide +kernel
theorem dX1_skipCode_51 : decode cX1_skipCode 51 = .ok (.iload_n 1, 1) := by decide +kernel
theorem dX1_skipCode_52 : decode cX1_skipCode 52 = .ok (.iconst 3, 1) := by decide +kernel
theorem dX1_skipCode_53 : decode cX1_skipCode 53 = .ok (.if_icmp .ge 25, 3) := by decide +kernel
theorem dX1_skipCode_56 : decode cX1_skipCode 56 = .ok (.aload_n 0, 1) := by decide +kernel
theorem dX1_skipCode_57 : decode cX1_skipCode 57 = .ok (.bipush 65, 2) := by decide +kernel
theorem dX1_skipCode_59 : decode cX1_skipCode 59 = .ok (.aload_n 0, 1) := by decide +kernel
theorem dX1_skipCode_60 : decode cX1_skipCode 60 = .ok (.getfield 26, 3) := by decide +kernel
theorem dX1_skipCode_63 : decode cX1_skipCode 63 = .ok (.iadd, 1) := by decide +kernel
theorem dX1_skipCode_64 : decode cX1_skipCode 64 = .ok (.invokevirtual 29, 3) := by decide +kernel
theorem dX1_skipCode_67 : decode cX1_skipCode 67 = .ok (.ifCond .ne 5, 3) := by decide +kernel
theorem dX1_skipCode_70 : decode cX1_skipCode 70 = .ok (.iconst 0, 1) := by decide +kernel
theorem dX1_skipCode_71 : decode cX1_skipCode 71 = .ok (.ireturn, 1) := by decide +kernel
theorem dX1_skipCode_72 : decode cX1_skipCode 72 = .ok (.iinc 1 1, 3) := by decide +kernel
theorem dX1_skipCode_75 : decode cX1_skipCode 75 = .ok (.goto (-24), 3) := by decide +kernel
theorem dX1_skipCode_78 : decode cX1_skipCode 78 = .ok (.iconst 1, 1) := by decide +kernel
theorem dX1_skipCode_79 : decode cX1_skipCode 79 = .ok (.ireturn, 1) := by decide +kernel
theorem dJ7_fill_0 : decode cJ7_fill 0 = .ok (.iconst 0, 1) := by decide +kernel
theorem dJ7_fill_1 : decode cJ7_fill 1 = .ok (.istore_n 2, 1) := by decide +kernel
theorem dJ7_fill_2 : decode cJ7_fill 2 = .ok (.aload_n 0, 1) := by decide +kernel
theorem dJ7_fill_3 : decode cJ7_fill 3 = .ok (.arraylength, 1) := by decide +kernel
theorem dJ7_fill_4 : decode cJ7_fill 4 = .ok (.istore_n 3, 1) := by decide +kernel
theorem dJ7_fill_5 : decode cJ7_fill 5 = .ok (.iload_n 2, 1) := by decide +kernel
theorem dJ7_fill_6 : decode cJ7_fill 6 = .ok (.iload_n 3, 1) := by decide +kernel
theorem dJ7_fill_7 : decode cJ7_fill 7 = .ok (.if_icmp .ge 13, 3) := by decide +kernel
theorem dJ7_fill_10 : decode cJ7_fill 10 = .ok (.aload_n 0, 1) := by decide +kernel
theorem dJ7_fill_11 : decode cJ7_fill 11 = .ok (.iload_n 2, 1) := by decide +kernel
theorem dJ7_fill_12 : decode cJ7_fill 12 = .ok (.iload_n 1, 1) := by decide +kernel
theorem dJ7_fill_13 : decode cJ7_fill 13 = .ok (.iastore, 1) := by decide +kernel
theorem dJ7_fill_14 : decode cJ7_fill 14 = .ok (.iinc 2 1, 3) := by decide +kernel
theorem dJ7_fill_17 : decode cJ7_fill 17 = .ok (.goto (-12), 3) := by decide +kernel
theorem dJ7_fill_20 : decode cJ7_fill 20 = .ok (.return_, 1) := by decide +kernel
theorem dJ6_compare_0 : decode cJ6_compare 0 = .ok (.iload_n 0, 1) := by decide +kernel
theorem dJ6_compare_1 : decode cJ6_compare 1 = .ok (.iload_n 1, 1) := by decide +kernel
theorem dJ6_compare_2 : decode cJ6_compare 2 = .ok (.if_icmp .ge 7, 3) := by decide +kernel
theorem dJ6_compare_5 : decode cJ6_compare 5 = .ok (.iconst (-1), 1) := by decide +kernel
theorem dJ6_compare_6 : decode cJ6_compare 6 = .ok (.goto 13, 3) := by decide +kernel
theorem dJ6_compare_9 : decode cJ6_compare 9 = .ok (.iload_n 0, 1) := by decide +kernel
theorem dJ6_compare_10 : decode cJ6_compare 10 = .ok (.iload_n 1, 1) := by decide +kernel
theorem dJ6_compare_11 : decode cJ6_compare 11 = .ok (.if_icmp .ne 7, 3) := by decide +kernel
theorem dJ6_compare_14 : decode cJ6_compare 14 = .ok (.iconst 0, 1) := by decide +kernel
theorem dJ6_compare_15 : decode cJ6_compare 15 = .ok (.goto 4, 3) := by decide +kernel
theorem dJ6_compare_18 : decode cJ6_compare 18 = .ok (.iconst 1, 1) := by decide +kernel
theorem dJ6_compare_19 : decode cJ6_compare 19 = .ok (.ireturn, 1) := by decide +kernel
theorem dL_cell_0 : decode cL_cell 0 = .ok (.iload_n 1, 1) := by decide +kernel
theorem dL_cell_1 : decode cL_cell 1 = .ok (.aload_n 0, 1) := by decide +kernel
theorem dL_cell_2 : decode cL_cell 2 = .ok (.arraylength, 1) := by decide +kernel
theorem dL_cell_3 : decode cL_cell 3 = .ok (.if_icmp .ge 9, 3) := by decide +kernel
theorem dL_cell_6 : decode cL_cell 6 = .ok (.aload_n 0, 1) := by decide +kernel
theorem dL_cell_7 : decode cL_cell 7 = .ok (.iload_n 1, 1) := by decide +kernel
theorem dL_cell_8 : decode cL_cell 8 = .ok (.iaload, 1) := by decide +kernel
theorem dL_cell_9 : decode cL_cell 9 = .ok (.goto 4, 3) := by decide +kernel
theorem dL_cell_12 : decode cL_cell 12 = .ok (.iconst 0, 1) := by decide +kernel
theorem dL_cell_13 : decode cL_cell 13 = .ok (.ireturn, 1) := by decide +kernel
end
section
theorem dX4_init_0 : decode cX4_init 0 = .ok (.aload_n 0, 1) := by decide +kernel
theorem dX4_init_1 : decode cX4_init 1 = .ok (.invokespecial 1, 3) := by decide +kernel
theorem dX4_init_4 : decode cX4_init 4 = .ok (.aload_n 0, 1) := by decide +kernel
theorem dX4_init_5 : decode cX4_init 5 = .ok (.bipush 8, 2) := by decide +kernel
theorem dX4_init_7 : decode cX4_init 7 = .ok (.newarray .int, 2) := by decide +kernel
theorem dX4_init_9 : decode cX4_init 9 = .ok (.putfield 7, 3) := by decide +kernel
theorem dX4_init_12 : decode cX4_init 12 = .ok (.aload_n 0, 1) := by decide +kernel
theorem dX4_init_13 : decode cX4_init 13 = .ok (.bipush 8, 2) := by decide +kernel
theorem dX4_init_15 : decode cX4_init 15 = .ok (.newarray .boolean, 2) := by decide +kernel
theorem dX4_init_17 : decode cX4_init 17 = .ok (.putfield 13, 3) := by decide +kernel
theorem dX4_init_20 : decode cX4_init 20 = .ok (.aload_n 0, 1) := by decide +kernel
theorem dX4_init_21 : decode cX4_init 21 = .ok (.bipush 8, 2) := by decide +kernel
theorem dX4_init_23 : decode cX4_init 23 = .ok (.newarray .boolean, 2) := by decide +kernel
theorem dX4_init_25 : decode cX4_init 25 = .ok (.putfield 17, 3) := by decide +kernel
theorem dX4_init_28 : decode cX4_init 28 = .ok (.aload_n 0, 1) := by decide +kernel
theorem dX4_init_29 : decode cX4_init 29 = .ok (.sipush 320, 3) := by decide +kernel
theorem dX4_init_32 : decode cX4_init 32 = .ok (.newarray .int, 2) := by decide +kernel
theorem dX4_init_34 : decode cX4_init 34 = .ok (.putfield 20, 3) := by decide +kernel
theorem dX4_init_37 : decode cX4_init 37 = .ok (.aload_n 0, 1) := by decide +kernel
theorem dX4_init_38 : decode cX4_init 38 = .ok (.bipush 8, 2) := by decide +kernel
theorem dX4_init_40 : decode cX4_init 40 = .ok (.newarray .int, 2) := by decide +kernel
theorem dX4_init_42 : decode cX4_init 42 = .ok (.putfield 23, 3) := by decide +kernel
theorem dX4_init_45 : decode cX4_init 45 = .ok (.aload_n 0, 1) := by decide +kernel
theorem dX4_init_46 : decode cX4_init 46 = .ok (.bipush 48, 2) := by decide +kernel
theorem dX4_init_48 : decode cX4_init 48 = .ok (.newarray .int, 2) := by decide +kernel
theorem dX4_init_50 : decode cX4_init 50 = .ok (.putfield 26, 3) := by decide +kernel
theorem dX4_init_53 : decode cX4_init 53 = .ok (.aload_n 0, 1) := by decide +kernel
theorem dX4_init_54 : decode cX4_init 54 = .ok (.bipush 80, 2) := by decide +kernel
theorem dX4_init_56 : decode cX4_init 56 = .ok (.newarray .int, 2) := by decide +kernel
theorem dX4_init_58 : decode cX4_init 58 = .ok (.putfield 29, 3) := by decide +kernel
theorem dX4_init_61 : decode cX4_init 61 = .ok (.aload_n 0, 1) := by decide +kernel
theorem dX4_init_62 : decode cX4_init 62 = .ok (.bipush 80, 2) := by decide +kernel
theorem dX4_init_64 : decode cX4_init 64 = .ok (.newarray .int, 2) := by decide +kernel
theorem dX4_init_66 : decode cX4_init 66 = .ok (.putfield 32, 3) := by decide +kernel
theorem dX4_init_69 : decode cX4_init 69 = .ok (.aload_n 0, 1) := by decide +kernel
theorem dX4_init_70 : decode cX4_init 70 = .ok (.bipush 80, 2) := by decide +kernel
theorem dX4_init_72 : decode cX4_init 72 = .ok (.newarray .int, 2) := by decide +kernel
theorem dX4_init_74 : decode cX4_init 74 = .ok (.putfield 35, 3) := by decide +kernel
theorem dX4_init_77 : decode cX4_init 77 = .ok (.aload_n 0, 1) := by decide +kernel
theorem dX4_init_78 : decode cX4_init 78 = .ok (.bipush 80, 2) := by decide +kernel
theorem dX4_init_80 : decode cX4_init 80 = .ok (.newarray .int, 2) := by decide +kernel
theorem dX4_init_82 : decode cX4_init 82 = .ok (.putfield 38, 3) := by decide +kernel
theorem dX4_init_85 : decode cX4_init 85 = .ok (.aload_n 0, 1) := by decide +kernel
theorem dX4_init_86 : decode cX4_init 86 = .ok (.bipush 80, 2) := by decide +kernel
theorem dX4_init_88 : decode cX4_init 88 = .ok (.newarray .int, 2) := by decide +kernel
theorem dX4_init_90 : decode cX4_init 90 = .ok (.putfield 41, 3) := by decide +kernel
theorem dX4_init_93 : decode cX4_init 93 = .ok (.aload_n 0, 1) := by decide +kernel
theorem dX4_init_94 : decode cX4_init 94 = .ok (.bipush 80, 2) := by decide +kernel
theorem dX4_init_96 : decode cX4_init 96 = .ok (.newarray .int, 2) := by decide +kernel
theorem dX4_init_98 : decode cX4_init 98 = .ok (.putfield 44, 3) := by decide +kernel
theorem dX4_init_101 : decode cX4_init 101 = .ok (.aload_n 0, 1) := by decide +kernel
theorem dX4_init_102 : decode cX4_init 102 = .ok (.bipush 80, 2) := by decide +kernel
theorem dX4_init_104 : decode cX4_init 104 = .ok (.newarray .int, 2) := by decide +kernel
theorem dX4_init_106 : decode cX4_init 106 = .ok (.putfield 47, 3) := by decide +kernel
theorem dX4_init_109 : decode cX4_init 109 = .ok (.aload_n 0, 1) := by decide +kernel
theorem dX4_init_110 : decode cX4_init 110 = .ok (.sipush 320, 3) := by decide +kernel
theorem dX4_init_113 : decode cX4_init 113 = .ok (.newarray .int, 2) := by decide +kernel
theorem dX4_init_115 : decode cX4_init 115 = .ok (.putfield 50, 3) := by decide +kernel
theorem dX4_init_118 : decode cX4_init 118 = .ok (.aload_n 0, 1) := by decide +kernel
theorem dX4_init_119 : decode cX4_init 119 = .ok (.bipush 8, 2) := by decide +kernel
theorem dX4_init_121 : decode cX4_init 121 = .ok (.newarray .int, 2) := by decide +kernel
theorem dX4_init_123 : decode cX4_init 123 = .ok (.putfield 53, 3) := by decide +kernel
theorem dX4_init_126 : decode cX4_init 126 = .ok (.aload_n 0, 1) := by decide +kernel
theorem dX4_init_127 : decode cX4_init 127 = .ok (.bipush 8, 2) := by decide +kernel
theorem dX4_init_129 : decode cX4_init 129 = .ok (.newarray .boolean, 2) := by decide +kernel
theorem dX4_init_131 : decode cX4_init 131 = .ok (.putfield 56, 3) := by decide +kernel
theorem dX4_init_134 : decode cX4_init 134 = .ok (.aload_n 0, 1) := by decide +kernel
theorem dX4_init_135 : decode cX4_init 135 = .ok (.bipush 48, 2) := by decide +kernel
theorem dX4_init_137 : decode cX4_init 137 = .ok (.newarray .int, 2) := by decide +kernel
theorem dX4_init_139 : decode cX4_init 139 = .ok (.putfield 59, 3) := by decide +kernel
theorem dX4_init_142 : decode cX4_init 142 = .ok (.aload_n 0, 1) := by decide +kernel
theorem dX4_init_143 : decode cX4_init 143 = .ok (.iload_n 1, 1) := by decide +kernel
theorem dX4_init_144 : decode cX4_init 144 = .ok (.bipush 19, 2) := by decide +kernel
theorem dX4_init_146 : decode cX4_init 146 = .ok (.if_icmp .ge 8, 3) := by decide +kernel
theorem dX4_init_149 : decode cX4_init 149 = .ok (.bipush 19, 2) := by decide +kernel
theorem dX4_init_151 : decode cX4_init 151 = .ok (.goto 15, 3) := by decide +kernel
theorem dX4_init_154 : decode cX4_init 154 = .ok (.iload_n 1, 1) := by decide +kernel
theorem dX4_init_155 : decode cX4_init 155 = .ok (.bipush 30, 2) := by decide +kernel
theorem dX4_init_157 : decode cX4_init 157 = .ok (.if_icmp .le 8, 3) := by decide +kernel
theorem dX4_init_160 : decode cX4_init 160 = .ok (.bipush 30, 2) := by decide +kernel
theorem dX4_init_162 : decode cX4_init 162 = .ok (.goto 4, 3) := by decide +kernel
theorem dX4_init_165 : decode cX4_init 165 = .ok (.iload_n 1, 1) := by decide +kernel
theorem dX4_init_166 : decode cX4_init 166 = .ok (.putfield 62, 3) := by decide +kernel
theorem dX4_init_169 : decode cX4_init 169 = .ok (.aload_n 0, 1) := by decide +kernel
theorem dX4_init_170 : decode cX4_init 170 = .ok (.iload_n 2, 1) := by decide +kernel
theorem dX4_init_171 : decode cX4_init 171 = .ok (.iconst 5, 1) := by decide +kernel
theorem dX4_init_172 : decode cX4_init 172 = .ok (.if_icmp .ge 7, 3) := by decide +kernel
theorem dX4_init_175 : decode cX4_init 175 = .ok (.iconst 5, 1) := by decide +kernel
theorem dX4_init_176 : decode cX4_init 176 = .ok (.goto 15, 3) := by decide +kernel
theorem dX4_init_179 : decode cX4_init 179 = .ok (.iload_n 2, 1) := by decide +kernel
theorem dX4_init_180 : decode cX4_init 180 = .ok (.bipush 10, 2) := by decide +kernel
theorem dX4_init_182 : decode cX4_init 182 = .ok (.if_icmp .le 8, 3) := by decide +kernel
theorem dX4_init_185 : decode cX4_init 185 = .ok (.bipush 10, 2) := by decide +kernel
theorem dX4_init_187 : decode cX4_init 187 = .ok (.goto 4, 3) := by decide +kernel
theorem dX4_init_190 : decode cX4_init 190 = .ok (.iload_n 2, 1) := by decide +kernel
theorem dX4_init_191 : decode cX4_init 191 = .ok (.putfield 66, 3) := by decide +kernel
theorem dX4_init_194 : decode cX4_init 194 = .ok (.aload_n 0, 1) := by decide +kernel
theorem dX4_init_195 : decode cX4_init 195 = .ok (.iload_n 3, 1) := by decide +kernel
theorem dX4_init_196 : decode cX4_init 196 = .ok (.ifCond .ge 7, 3) := by decide +kernel
theorem dX4_init_199 : decode cX4_init 199 = .ok (.iconst 0, 1) := by decide +kernel
theorem dX4_init_200 : decode cX4_init 200 = .ok (.goto 15, 3) := by decide +kernel
theorem dX4_init_203 : decode cX4_init 203 = .ok (.iload_n 3, 1) := by decide +kernel
theorem dX4_init_204 : decode cX4_init 204 = .ok (.bipush 6, 2) := by decide +kernel
theorem dX4_init_206 : decode cX4_init 206 = .ok (.if_icmp .le 8, 3) := by decide +kernel
theorem dX4_init_209 : decode cX4_init 209 = .ok (.bipush 6, 2) := by decide +kernel
theorem dX4_init_211 : decode cX4_init 211 = .ok (.goto 4, 3) := by decide +kernel
theorem dX4_init_214 : decode cX4_init 214 = .ok (.iload_n 3, 1) := by decide +kernel
theorem dX4_init_215 : decode cX4_init 215 = .ok (.putfield 69, 3) := by decide +kernel
theorem dX4_init_218 : decode cX4_init 218 = .ok (.iconst 0, 1) := by decide +kernel
theorem dX4_init_219 : decode cX4_init 219 = .ok (.istore 4, 2) := by decide +kernel
theorem dX4_init_221 : decode cX4_init 221 = .ok (.iload 4, 2) := by decide +kernel
theorem dX4_init_223 : decode cX4_init 223 = .ok (.bipush 8, 2) := by decide +kernel
theorem dX4_init_225 : decode cX4_init 225 = .ok (.if_icmp .ge 17, 3) := by decide +kernel
theorem dX4_init_228 : decode cX4_init 228 = .ok (.aload_n 0, 1) := by decide +kernel
theorem dX4_init_229 : decode cX4_init 229 = .ok (.getfield 7, 3) := by decide +kernel
theorem dX4_init_232 : decode cX4_init 232 = .ok (.iload 4, 2) := by decide +kernel
theorem dX4_init_234 : decode cX4_init 234 = .ok (.iconst (-1), 1) := by decide +kernel
theorem dX4_init_235 : decode cX4_init 235 = .ok (.iastore, 1) := by decide +kernel
theorem dX4_init_236 : decode cX4_init 236 = .ok (.iinc 4 1, 3) := by decide +kernel
theorem dX4_init_239 : decode cX4_init 239 = .ok (.goto (-18), 3) := by decide +kernel
theorem dX4_init_242 : decode cX4_init 242 = .ok (.return_, 1) := by decide +kernel
theorem dX4_set_0 : decode cX4_set 0 = .ok (.iload_n 1, 1) := by decide +kernel
theorem dX4_set_1 : decode cX4_set 1 = .ok (.bipush 8, 2) := by decide +kernel
theorem dX4_set_3 : decode cX4_set 3 = .ok (.invokestatic 123, 3) := by decide +kernel
theorem dX4_set_6 : decode cX4_set 6 = .ok (.ifCond .ne 22, 3) := by decide +kernel
theorem dX4_set_9 : decode cX4_set 9 = .ok (.iload_n 3, 1) := by decide +kernel
theorem dX4_set_10 : decode cX4_set 10 = .ok (.bipush 6, 2) := by decide +kernel
theorem dX4_set_12 : decode cX4_set 12 = .ok (.invokestatic 123, 3) := by decide +kernel
theorem dX4_set_15 : decode cX4_set 15 = .ok (.ifCond .ne 13, 3) := by decide +kernel
theorem dX4_set_18 : decode cX4_set 18 = .ok (.iload 6, 2) := by decide +kernel
theorem dX4_set_20 : decode cX4_set 20 = .ok (.bipush 10, 2) := by decide +kernel
theorem dX4_set_22 : decode cX4_set 22 = .ok (.invokestatic 123, 3) := by decide +kernel
theorem dX4_set_25 : decode cX4_set 25 = .ok (.ifCond .eq 6, 3) := by decide +kernel
theorem dX4_set_28 : decode cX4_set 28 = .ok (.bipush (-15), 2) := by decide +kernel
theorem dX4_set_30 : decode cX4_set 30 = .ok (.ireturn, 1) := by decide +kernel
theorem dX4_set_31 : decode cX4_set 31 = .ok (.aload_n 0, 1) := by decide +kernel
theorem dX4_set_32 : decode cX4_set 32 = .ok (.getfield 29, 3) := by decide +kernel
theorem dX4_set_35 : decode cX4_set 35 = .ok (.lload 4, 2) := by decide +kernel
theorem dX4_set_37 : decode cX4_set 37 = .ok (.invokestatic 100, 3) := by decide +kernel
theorem dX4_set_40 : decode cX4_set 40 = .ok (.aload_n 0, 1) := by decide +kernel
theorem dX4_set_41 : decode cX4_set 41 = .ok (.getfield 29, 3) := by decide +kernel
theorem dX4_set_44 : decode cX4_set 44 = .ok (.bipush 10, 2) := by decide +kernel
theorem dX4_set_46 : decode cX4_set 46 = .ok (.iload 6, 2) := by decide +kernel
theorem dX4_set_48 : decode cX4_set 48 = .ok (.isub, 1) := by decide +kernel
theorem dX4_set_49 : decode cX4_set 49 = .ok (.invokestatic 82, 3) := by decide +kernel
theorem dX4_set_52 : decode cX4_set 52 = .ok (.aload_n 0, 1) := by decide +kernel
theorem dX4_set_53 : decode cX4_set 53 = .ok (.getfield 32, 3) := by decide +kernel
theorem dX4_set_56 : decode cX4_set 56 = .ok (.lconst 1, 1) := by decide +kernel
theorem dX4_set_57 : decode cX4_set 57 = .ok (.invokestatic 100, 3) := by decide +kernel
theorem dX4_set_60 : decode cX4_set 60 = .ok (.aload_n 0, 1) := by decide +kernel
theorem dX4_set_61 : decode cX4_set 61 = .ok (.iload_n 1, 1) := by decide +kernel
theorem dX4_set_62 : decode cX4_set 62 = .ok (.iload_n 3, 1) := by decide +kernel
theorem dX4_set_63 : decode cX4_set 63 = .ok (.iload_n 2, 1) := by decide +kernel
theorem dX4_set_64 : decode cX4_set 64 = .ok (.lload 4, 2) := by decide +kernel
theorem dX4_set_66 : decode cX4_set 66 = .ok (.lconst 0, 1) := by decide +kernel
theorem dX4_set_67 : decode cX4_set 67 = .ok (.lcmp, 1) := by decide +kernel
theorem dX4_set_68 : decode cX4_set 68 = .ok (.ifCond .ge 7, 3) := by decide +kernel
theorem dX4_set_71 : decode cX4_set 71 = .ok (.iconst 1, 1) := by decide +kernel
theorem dX4_set_72 : decode cX4_set 72 = .ok (.goto 4, 3) := by decide +kernel
theorem dX4_set_75 : decode cX4_set 75 = .ok (.iconst 0, 1) := by decide +kernel
theorem dX4_set_76 : decode cX4_set 76 = .ok (.invokevirtual 127, 3) := by decide +kernel
theorem dX4_set_79 : decode cX4_set 79 = .ok (.ireturn, 1) := by decide +kernel
theorem dX4_outside_0 : decode cX4_outside 0 = .ok (.iload_n 0, 1) := by decide +kernel
theorem dX4_outside_1 : decode cX4_outside 1 = .ok (.ifCond .lt 8, 3) := by decide +kernel
theorem dX4_outside_4 : decode cX4_outside 4 = .ok (.iload_n 0, 1) := by decide +kernel
theorem dX4_outside_5 : decode cX4_outside 5 = .ok (.iload_n 1, 1) := by decide +kernel
theorem dX4_outside_6 : decode cX4_outside 6 = .ok (.if_icmp .lt 7, 3) := by decide +kernel
theorem dX4_outside_9 : decode cX4_outside 9 = .ok (.iconst 1, 1) := by decide +kernel
theorem dX4_outside_10 : decode cX4_outside 10 = .ok (.goto 4, 3) := by decide +kernel
theorem dX4_outside_13 : decode cX4_outside 13 = .ok (.iconst 0, 1) := by decide +kernel
theorem dX4_outside_14 : decode cX4_outside 14 = .ok (.ireturn, 1) := by decide +kernel
theorem dX4_load_0 : decode cX4_load 0 = .ok (.aload_n 0, 1) := by decide +kernel
theorem dX4_load_1 : decode cX4_load 1 = .ok (.invokestatic 72, 3) := by decide +kernel
theorem dX4_load_4 : decode cX4_load 4 = .ok (.lload_n 1, 1) := by decide +kernel
theorem dX4_load_5 : decode cX4_load 5 = .ok (.lstore_n 3, 1) := by decide +kernel
theorem dX4_load_6 : decode cX4_load 6 = .ok (.iconst 0, 1) := by decide +kernel
theorem dX4_load_7 : decode cX4_load 7 = .ok (.istore 5, 2) := by decide +kernel
theorem dX4_load_9 : decode cX4_load 9 = .ok (.iload 5, 2) := by decide +kernel
theorem dX4_load_11 : decode cX4_load 11 = .ok (.bipush 20, 2) := by decide +kernel
theorem dX4_load_13 : decode cX4_load 13 = .ok (.if_icmp .ge 40, 3) := by decide +kernel
theorem dX4_load_16 : decode cX4_load 16 = .ok (.lload_n 3, 1) := by decide +kernel
theorem dX4_load_17 : decode cX4_load 17 = .ok (.ldc2_w 76, 3) := by decide +kernel
theorem dX4_load_20 : decode cX4_load 20 = .ok (.lrem, 1) := by decide +kernel
theorem dX4_load_21 : decode cX4_load 21 = .ok (.l2i, 1) := by decide +kernel
theorem dX4_load_22 : decode cX4_load 22 = .ok (.istore 6, 2) := by decide +kernel
theorem dX4_load_24 : decode cX4_load 24 = .ok (.aload_n 0, 1) := by decide +kernel
theorem dX4_load_25 : decode cX4_load 25 = .ok (.iload 5, 2) := by decide +kernel
theorem dX4_load_27 : decode cX4_load 27 = .ok (.iload 6, 2) := by decide +kernel
theorem dX4_load_29 : decode cX4_load 29 = .ok (.ifCond .ge 9, 3) := by decide +kernel
theorem dX4_load_32 : decode cX4_load 32 = .ok (.iload 6, 2) := by decide +kernel
theorem dX4_load_34 : decode cX4_load 34 = .ok (.ineg, 1) := by decide +kernel
theorem dX4_load_35 : decode cX4_load 35 = .ok (.goto 5, 3) := by decide +kernel
theorem dX4_load_38 : decode cX4_load 38 = .ok (.iload 6, 2) := by decide +kernel
theorem dX4_load_40 : decode cX4_load 40 = .ok (.iastore, 1) := by decide +kernel
theorem dX4_load_41 : decode cX4_load 41 = .ok (.lload_n 3, 1) := by decide +kernel
theorem dX4_load_42 : decode cX4_load 42 = .ok (.ldc2_w 76, 3) := by decide +kernel
theorem dX4_load_45 : decode cX4_load 45 = .ok (.ldiv, 1) := by decide +kernel
theorem dX4_load_46 : decode cX4_load 46 = .ok (.lstore_n 3, 1) := by decide +kernel
theorem dX4_load_47 : decode cX4_load 47 = .ok (.iinc 5 1, 3) := by decide +kernel
theorem dX4_load_50 : decode cX4_load 50 = .ok (.goto (-41), 3) := by decide +kernel
theorem dX4_load_53 : decode cX4_load 53 = .ok (.return_, 1) := by decide +kernel
theorem dX4_clear_0 : decode cX4_clear 0 = .ok (.iconst 0, 1) := by decide +kernel
theorem dX4_clear_1 : decode cX4_clear 1 = .ok (.istore_n 1, 1) := by decide +kernel
theorem dX4_clear_2 : decode cX4_clear 2 = .ok (.iload_n 1, 1) := by decide +kernel
theorem dX4_clear_3 : decode cX4_clear 3 = .ok (.bipush 80, 2) := by decide +kernel
theorem dX4_clear_5 : decode cX4_clear 5 = .ok (.if_icmp .ge 13, 3) := by decide +kernel
theorem dX4_clear_8 : decode cX4_clear 8 = .ok (.aload_n 0, 1) := by decide +kernel
theorem dX4_clear_9 : decode cX4_clear 9 = .ok (.iload_n 1, 1) := by decide +kernel
theorem dX4_clear_10 : decode cX4_clear 10 = .ok (.iconst 0, 1) := by decide +kernel
theorem dX4_clear_11 : decode cX4_clear 11 = .ok (.iastore, 1) := by decide +kernel
theorem dX4_clear_12 : decode cX4_clear 12 = .ok (.iinc 1 1, 3) := by decide +kernel
theorem dX4_clear_15 : decode cX4_clear 15 = .ok (.goto (-13), 3) := by decide +kernel
theorem dX4_clear_18 : decode cX4_clear 18 = .ok (.return_, 1) := by decide +kernel
theorem dX4_shift_0 : decode cX4_shift 0 = .ok (.bipush 79, 2) := by decide +kernel
theorem dX4_shift_2 : decode cX4_shift 2 = .ok (.istore_n 2, 1) := by decide +kernel
theorem dX4_shift_3 : decode cX4_shift 3 = .ok (.iload_n 2, 1) := by decide +kernel
theorem dX4_shift_4 : decode cX4_shift 4 = .ok (.ifCond .lt 26, 3) := by decide +kernel
theorem dX4_shift_7 : decode cX4_shift 7 = .ok (.aload_n 0, 1) := by decide +kernel
theorem dX4_shift_8 : decode cX4_shift 8 = .ok (.iload_n 2, 1) := by decide +kernel
theorem dX4_shift_9 : decode cX4_shift 9 = .ok (.iload_n 2, 1) := by decide +kernel
theorem dX4_shift_10 : decode cX4_shift 10 = .ok (.iload_n 1, 1) := by decide +kernel
theorem dX4_shift_11 : decode cX4_shift 11 = .ok (.if_icmp .lt 11, 3) := by decide +kernel
theorem dX4_shift_14 : decode cX4_shift 14 = .ok (.aload_n 0, 1) := by decide +kernel
theorem dX4_shift_15 : decode cX4_shift 15 = .ok (.iload_n 2, 1) := by decide +kernel
theorem dX4_shift_16 : decode cX4_shift 16 = .ok (.iload_n 1, 1) := by decide +kernel
theorem dX4_shift_17 : decode cX4_shift 17 = .ok (.isub, 1) := by decide +kernel
theorem dX4_shift_18 : decode cX4_shift 18 = .ok (.iaload, 1) := by decide +kernel
theorem dX4_shift_19 : decode cX4_shift 19 = .ok (.goto 4, 3) := by decide +kernel
theorem dX4_shift_22 : decode cX4_shift 22 = .ok (.iconst 0, 1) := by decide +kernel
theorem dX4_shift_23 : decode cX4_shift 23 = .ok (.iastore, 1) := by decide +kernel
theorem dX4_shift_24 : decode cX4_shift 24 = .ok (.iinc 2 (-1), 3) := by decide +kernel
theorem dX4_shift_27 : decode cX4_shift 27 = .ok (.goto (-24), 3) := by decide +kernel
theorem dX4_shift_30 : decode cX4_shift 30 = .ok (.return_, 1) := by decide +kernel
theorem dX4_settle_0 : decode cX4_settle 0 = .ok (.iconst 0, 1) := by decide +kernel
theorem dX4_settle_1 : decode cX4_settle 1 = .ok (.istore 5, 2) := by decide +kernel
theorem dX4_settle_3 : decode cX4_settle 3 = .ok (.iload_n 3, 1) := by decide +kernel
theorem dX4_settle_4 : decode cX4_settle 4 = .ok (.ifCond .eq 79, 3) := by decide +kernel
theorem dX4_settle_7 : decode cX4_settle 7 = .ok (.aload_n 0, 1) := by decide +kernel
theorem dX4_settle_8 : decode cX4_settle 8 = .ok (.getfield 32, 3) := by decide +kernel
theorem dX4_settle_11 : decode cX4_settle 11 = .ok (.aload_n 0, 1) := by decide +kernel
theorem dX4_settle_12 : decode cX4_settle 12 = .ok (.getfield 35, 3) := by decide +kernel
theorem dX4_settle_15 : decode cX4_settle 15 = .ok (.invokestatic 94, 3) := by decide +kernel
theorem dX4_settle_18 : decode cX4_settle 18 = .ok (.aload_n 0, 1) := by decide +kernel
theorem dX4_settle_19 : decode cX4_settle 19 = .ok (.getfield 35, 3) := by decide +kernel
theorem dX4_settle_22 : decode cX4_settle 22 = .ok (.bipush 10, 2) := by decide +kernel
theorem dX4_settle_24 : decode cX4_settle 24 = .ok (.invokestatic 82, 3) := by decide +kernel
theorem dX4_settle_27 : decode cX4_settle 27 = .ok (.aload_n 0, 1) := by decide +kernel
theorem dX4_settle_28 : decode cX4_settle 28 = .ok (.invokevirtual 108, 3) := by decide +kernel
theorem dX4_settle_31 : decode cX4_settle 31 = .ok (.aload_n 0, 1) := by decide +kernel
theorem dX4_settle_32 : decode cX4_settle 32 = .ok (.getfield 38, 3) := by decide +kernel
theorem dX4_settle_35 : decode cX4_settle 35 = .ok (.invokestatic 78, 3) := by decide +kernel
theorem dX4_settle_38 : decode cX4_settle 38 = .ok (.istore 6, 2) := by decide +kernel
theorem dX4_settle_40 : decode cX4_settle 40 = .ok (.iload 6, 2) := by decide +kernel
theorem dX4_settle_42 : decode cX4_settle 42 = .ok (.bipush 26, 2) := by decide +kernel
theorem dX4_settle_44 : decode cX4_settle 44 = .ok (.if_icmp .le 6, 3) := by decide +kernel
theorem dX4_settle_47 : decode cX4_settle 47 = .ok (.bipush (-13), 2) := by decide +kernel
theorem dX4_settle_49 : decode cX4_settle 49 = .ok (.ireturn, 1) := by decide +kernel
theorem dX4_settle_50 : decode cX4_settle 50 = .ok (.bipush 10, 2) := by decide +kernel
theorem dX4_settle_52 : decode cX4_settle 52 = .ok (.aload_n 0, 1) := by decide +kernel
theorem dX4_settle_53 : decode cX4_settle 53 = .ok (.getfield 66, 3) := by decide +kernel
theorem dX4_settle_56 : decode cX4_settle 56 = .ok (.aload_n 0, 1) := by decide +kernel
theorem dX4_settle_57 : decode cX4_settle 57 = .ok (.getfield 62, 3) := by decide +kernel
theorem dX4_settle_60 : decode cX4_settle 60 = .ok (.iload 6, 2) := by decide +kernel
theorem dX4_settle_62 : decode cX4_settle 62 = .ok (.isub, 1) := by decide +kernel
theorem dX4_settle_63 : decode cX4_settle 63 = .ok (.if_icmp .ge 10, 3) := by decide +kernel
theorem dX4_settle_66 : decode cX4_settle 66 = .ok (.aload_n 0, 1) := by decide +kernel
theorem dX4_settle_67 : decode cX4_settle 67 = .ok (.getfield 66, 3) := by decide +kernel
theorem dX4_settle_70 : decode cX4_settle 70 = .ok (.goto 10, 3) := by decide +kernel
theorem dX4_settle_73 : decode cX4_settle 73 = .ok (.aload_n 0, 1) := by decide +kernel
theorem dX4_settle_74 : decode cX4_settle 74 = .ok (.getfield 62, 3) := by decide +kernel
theorem dX4_settle_77 : decode cX4_settle 77 = .ok (.iload 6, 2) := by decide +kernel
theorem dX4_settle_79 : decode cX4_settle 79 = .ok (.isub, 1) := by decide +kernel
theorem dX4_settle_80 : decode cX4_settle 80 = .ok (.isub, 1) := by decide +kernel
theorem dX4_settle_81 : decode cX4_settle 81 = .ok (.istore 5, 2) := by decide +kernel
theorem dX4_settle_83 : decode cX4_settle 83 = .ok (.aload_n 0, 1) := by decide +kernel
theorem dX4_settle_84 : decode cX4_settle 84 = .ok (.getfield 32, 3) := by decide +kernel
theorem dX4_settle_87 : decode cX4_settle 87 = .ok (.aload_n 0, 1) := by decide +kernel
theorem dX4_settle_88 : decode cX4_settle 88 = .ok (.getfield 35, 3) := by decide +kernel
theorem dX4_settle_91 : decode cX4_settle 91 = .ok (.invokestatic 94, 3) := by decide +kernel
theorem dX4_settle_94 : decode cX4_settle 94 = .ok (.aload_n 0, 1) := by decide +kernel
theorem dX4_settle_95 : decode cX4_settle 95 = .ok (.getfield 35, 3) := by decide +kernel
theorem dX4_settle_98 : decode cX4_settle 98 = .ok (.iload 5, 2) := by decide +kernel
theorem dX4_settle_100 : decode cX4_settle 100 = .ok (.invokestatic 82, 3) := by decide +kernel
theorem dX4_settle_103 : decode cX4_settle 103 = .ok (.aload_n 0, 1) := by decide +kernel
theorem dX4_settle_104 : decode cX4_settle 104 = .ok (.invokevirtual 108, 3) := by decide +kernel
theorem dX4_settle_107 : decode cX4_settle 107 = .ok (.aload_n 0, 1) := by decide +kernel
theorem dX4_settle_108 : decode cX4_settle 108 = .ok (.getfield 41, 3) := by decide +kernel
theorem dX4_settle_111 : decode cX4_settle 111 = .ok (.invokestatic 78, 3) := by decide +kernel
theorem dX4_settle_114 : decode cX4_settle 114 = .ok (.ifCond .ne 7, 3) := by decide +kernel
theorem dX4_settle_117 : decode cX4_settle 117 = .ok (.iconst 1, 1) := by decide +kernel
theorem dX4_settle_118 : decode cX4_settle 118 = .ok (.goto 4, 3) := by decide +kernel
theorem dX4_settle_121 : decode cX4_settle 121 = .ok (.iconst 0, 1) := by decide +kernel
theorem dX4_settle_122 : decode cX4_settle 122 = .ok (.istore 6, 2) := by decide +kernel
theorem dX4_settle_124 : decode cX4_settle 124 = .ok (.iload_n 3, 1) := by decide +kernel
theorem dX4_settle_125 : decode cX4_settle 125 = .ok (.ifCond .eq 15, 3) := by decide +kernel
theorem dX4_settle_128 : decode cX4_settle 128 = .ok (.aload_n 0, 1) := by decide +kernel
theorem dX4_settle_129 : decode cX4_settle 129 = .ok (.iload 4, 2) := by decide +kernel
theorem dX4_settle_131 : decode cX4_settle 131 = .ok (.aload_n 0, 1) := by decide +kernel
theorem dX4_settle_132 : decode cX4_settle 132 = .ok (.getfield 69, 3) := by decide +kernel
theorem dX4_settle_135 : decode cX4_settle 135 = .ok (.invokevirtual 111, 3) := by decide +kernel
theorem dX4_settle_138 : decode cX4_settle 138 = .ok (.istore 6, 2) := by decide +kernel
theorem dX4_settle_140 : decode cX4_settle 140 = .ok (.aload_n 0, 1) := by decide +kernel
theorem dX4_settle_141 : decode cX4_settle 141 = .ok (.getfield 38, 3) := by decide +kernel
theorem dX4_settle_144 : decode cX4_settle 144 = .ok (.iload 5, 2) := by decide +kernel
theorem dX4_settle_146 : decode cX4_settle 146 = .ok (.invokestatic 82, 3) := by decide +kernel
theorem dX4_settle_149 : decode cX4_settle 149 = .ok (.iload 6, 2) := by decide +kernel
theorem dX4_settle_151 : decode cX4_settle 151 = .ok (.ifCond .eq 33, 3) := by decide +kernel
theorem dX4_settle_154 : decode cX4_settle 154 = .ok (.aload_n 0, 1) := by decide +kernel
theorem dX4_settle_155 : decode cX4_settle 155 = .ok (.aload_n 0, 1) := by decide +kernel
theorem dX4_settle_156 : decode cX4_settle 156 = .ok (.getfield 38, 3) := by decide +kernel
theorem dX4_settle_159 : decode cX4_settle 159 = .ok (.iload_n 3, 1) := by decide +kernel
theorem dX4_settle_160 : decode cX4_settle 160 = .ok (.iload 4, 2) := by decide +kernel
theorem dX4_settle_162 : decode cX4_settle 162 = .ok (.invokevirtual 115, 3) := by decide +kernel
theorem dX4_settle_165 : decode cX4_settle 165 = .ok (.ifCond .eq 19, 3) := by decide +kernel
theorem dX4_settle_168 : decode cX4_settle 168 = .ok (.aload_n 0, 1) := by decide +kernel
theorem dX4_settle_169 : decode cX4_settle 169 = .ok (.iload_n 1, 1) := by decide +kernel
theorem dX4_settle_170 : decode cX4_settle 170 = .ok (.iload_n 2, 1) := by decide +kernel
theorem dX4_settle_171 : decode cX4_settle 171 = .ok (.iload_n 3, 1) := by decide +kernel
theorem dX4_settle_172 : decode cX4_settle 172 = .ok (.iload 4, 2) := by decide +kernel
theorem dX4_settle_174 : decode cX4_settle 174 = .ok (.aload_n 0, 1) := by decide +kernel
theorem dX4_settle_175 : decode cX4_settle 175 = .ok (.getfield 38, 3) := by decide +kernel
theorem dX4_settle_178 : decode cX4_settle 178 = .ok (.invokevirtual 119, 3) := by decide +kernel
theorem dX4_settle_181 : decode cX4_settle 181 = .ok (.goto 5, 3) := by decide +kernel
theorem dX4_settle_184 : decode cX4_settle 184 = .ok (.bipush (-13), 2) := by decide +kernel
theorem dX4_settle_186 : decode cX4_settle 186 = .ok (.ireturn, 1) := by decide +kernel
theorem dX4_copy_0 : decode cX4_copy 0 = .ok (.iconst 0, 1) := by decide +kernel
theorem dX4_copy_1 : decode cX4_copy 1 = .ok (.istore_n 2, 1) := by decide +kernel
theorem dX4_copy_2 : decode cX4_copy 2 = .ok (.iload_n 2, 1) := by decide +kernel
theorem dX4_copy_3 : decode cX4_copy 3 = .ok (.bipush 80, 2) := by decide +kernel
theorem dX4_copy_5 : decode cX4_copy 5 = .ok (.if_icmp .ge 15, 3) := by decide +kernel
theorem dX4_copy_8 : decode cX4_copy 8 = .ok (.aload_n 1, 1) := by decide +kernel
theorem dX4_copy_9 : decode cX4_copy 9 = .ok (.iload_n 2, 1) := by decide +kernel
theorem dX4_copy_10 : decode cX4_copy 10 = .ok (.aload_n 0, 1) := by decide +kernel
theorem dX4_copy_11 : decode cX4_copy 11 = .ok (.iload_n 2, 1) := by decide +kernel
theorem dX4_copy_12 : decode cX4_copy 12 = .ok (.iaload, 1) := by decide +kernel
theorem dX4_copy_13 : decode cX4_copy 13 = .ok (.iastore, 1) := by decide +kernel
theorem dX4_copy_14 : decode cX4_copy 14 = .ok (.iinc 2 1, 3) := by decide +kernel
theorem dX4_copy_17 : decode cX4_copy 17 = .ok (.goto (-15), 3) := by decide +kernel
theorem dX4_copy_20 : decode cX4_copy 20 = .ok (.return_, 1) := by decide +kernel
theorem dX4_quotient_0 : decode cX4_quotient 0 = .ok (.aload_n 0, 1) := by decide +kernel
theorem dX4_quotient_1 : decode cX4_quotient 1 = .ok (.getfield 38, 3) := by decide +kernel
theorem dX4_quotient_4 : decode cX4_quotient 4 = .ok (.invokestatic 72, 3) := by decide +kernel
theorem dX4_quotient_7 : decode cX4_quotient 7 = .ok (.aload_n 0, 1) := by decide +kernel
theorem dX4_quotient_8 : decode cX4_quotient 8 = .ok (.getfield 41, 3) := by decide +kernel
theorem dX4_quotient_11 : decode cX4_quotient 11 = .ok (.invokestatic 72, 3) := by decide +kernel
theorem dX4_quotient_14 : decode cX4_quotient 14 = .ok (.bipush 79, 2) := by decide +kernel
theorem dX4_quotient_16 : decode cX4_quotient 16 = .ok (.istore_n 1, 1) := by decide +kernel
theorem dX4_quotient_17 : decode cX4_quotient 17 = .ok (.iload_n 1, 1) := by decide +kernel
theorem dX4_quotient_18 : decode cX4_quotient 18 = .ok (.ifCond .lt 78, 3) := by decide +kernel
theorem dX4_quotient_21 : decode cX4_quotient 21 = .ok (.aload_n 0, 1) := by decide +kernel
theorem dX4_quotient_22 : decode cX4_quotient 22 = .ok (.getfield 41, 3) := by decide +kernel
theorem dX4_quotient_25 : decode cX4_quotient 25 = .ok (.iconst 1, 1) := by decide +kernel
theorem dX4_quotient_26 : decode cX4_quotient 26 = .ok (.invokestatic 82, 3) := by decide +kernel
theorem dX4_quotient_29 : decode cX4_quotient 29 = .ok (.aload_n 0, 1) := by decide +kernel
theorem dX4_quotient_30 : decode cX4_quotient 30 = .ok (.getfield 41, 3) := by decide +kernel
theorem dX4_quotient_33 : decode cX4_quotient 33 = .ok (.iconst 0, 1) := by decide +kernel
theorem dX4_quotient_34 : decode cX4_quotient 34 = .ok (.aload_n 0, 1) := by decide +kernel
theorem dX4_quotient_35 : decode cX4_quotient 35 = .ok (.getfield 29, 3) := by decide +kernel
theorem dX4_quotient_38 : decode cX4_quotient 38 = .ok (.iload_n 1, 1) := by decide +kernel
theorem dX4_quotient_39 : decode cX4_quotient 39 = .ok (.iaload, 1) := by decide +kernel
theorem dX4_quotient_40 : decode cX4_quotient 40 = .ok (.iastore, 1) := by decide +kernel
theorem dX4_quotient_41 : decode cX4_quotient 41 = .ok (.aload_n 0, 1) := by decide +kernel
theorem dX4_quotient_42 : decode cX4_quotient 42 = .ok (.getfield 38, 3) := by decide +kernel
theorem dX4_quotient_45 : decode cX4_quotient 45 = .ok (.iload_n 1, 1) := by decide +kernel
theorem dX4_quotient_46 : decode cX4_quotient 46 = .ok (.iaload, 1) := by decide +kernel
theorem dX4_quotient_47 : decode cX4_quotient 47 = .ok (.bipush 9, 2) := by decide +kernel
theorem dX4_quotient_49 : decode cX4_quotient 49 = .ok (.if_icmp .ge 41, 3) := by decide +kernel
theorem dX4_quotient_52 : decode cX4_quotient 52 = .ok (.aload_n 0, 1) := by decide +kernel
theorem dX4_quotient_53 : decode cX4_quotient 53 = .ok (.getfield 41, 3) := by decide +kernel
theorem dX4_quotient_56 : decode cX4_quotient 56 = .ok (.aload_n 0, 1) := by decide +kernel
theorem dX4_quotient_57 : decode cX4_quotient 57 = .ok (.getfield 35, 3) := by decide +kernel
theorem dX4_quotient_60 : decode cX4_quotient 60 = .ok (.invokestatic 86, 3) := by decide +kernel
theorem dX4_quotient_63 : decode cX4_quotient 63 = .ok (.ifCond .lt 27, 3) := by decide +kernel
theorem dX4_quotient_66 : decode cX4_quotient 66 = .ok (.aload_n 0, 1) := by decide +kernel
theorem dX4_quotient_67 : decode cX4_quotient 67 = .ok (.getfield 41, 3) := by decide +kernel
theorem dX4_quotient_70 : decode cX4_quotient 70 = .ok (.aload_n 0, 1) := by decide +kernel
theorem dX4_quotient_71 : decode cX4_quotient 71 = .ok (.getfield 35, 3) := by decide +kernel
theorem dX4_quotient_74 : decode cX4_quotient 74 = .ok (.invokestatic 90, 3) := by decide +kernel
theorem dX4_quotient_77 : decode cX4_quotient 77 = .ok (.aload_n 0, 1) := by decide +kernel
theorem dX4_quotient_78 : decode cX4_quotient 78 = .ok (.getfield 38, 3) := by decide +kernel
theorem dX4_quotient_81 : decode cX4_quotient 81 = .ok (.iload_n 1, 1) := by decide +kernel
theorem dX4_quotient_82 : decode cX4_quotient 82 = .ok (.dup2, 1) := by decide +kernel
theorem dX4_quotient_83 : decode cX4_quotient 83 = .ok (.iaload, 1) := by decide +kernel
theorem dX4_quotient_84 : decode cX4_quotient 84 = .ok (.iconst 1, 1) := by decide +kernel
theorem dX4_quotient_85 : decode cX4_quotient 85 = .ok (.iadd, 1) := by decide +kernel
theorem dX4_quotient_86 : decode cX4_quotient 86 = .ok (.iastore, 1) := by decide +kernel
theorem dX4_quotient_87 : decode cX4_quotient 87 = .ok (.goto (-46), 3) := by decide +kernel
theorem dX4_quotient_90 : decode cX4_quotient 90 = .ok (.iinc 1 (-1), 3) := by decide +kernel
theorem dX4_quotient_93 : decode cX4_quotient 93 = .ok (.goto (-76), 3) := by decide +kernel
theorem dX4_quotient_96 : decode cX4_quotient 96 = .ok (.return_, 1) := by decide +kernel
theorem dX4_order_0 : decode cX4_order 0 = .ok (.bipush 79, 2) := by decide +kernel
theorem dX4_order_2 : decode cX4_order 2 = .ok (.istore_n 2, 1) := by decide +kernel
theorem dX4_order_3 : decode cX4_order 3 = .ok (.iload_n 2, 1) := by decide +kernel
theorem dX4_order_4 : decode cX4_order 4 = .ok (.ifCond .lt 33, 3) := by decide +kernel
theorem dX4_order_7 : decode cX4_order 7 = .ok (.aload_n 0, 1) := by decide +kernel
theorem dX4_order_8 : decode cX4_order 8 = .ok (.iload_n 2, 1) := by decide +kernel
theorem dX4_order_9 : decode cX4_order 9 = .ok (.iaload, 1) := by decide +kernel
theorem dX4_order_10 : decode cX4_order 10 = .ok (.aload_n 1, 1) := by decide +kernel
theorem dX4_order_11 : decode cX4_order 11 = .ok (.iload_n 2, 1) := by decide +kernel
theorem dX4_order_12 : decode cX4_order 12 = .ok (.iaload, 1) := by decide +kernel
theorem dX4_order_13 : decode cX4_order 13 = .ok (.if_icmp .eq 18, 3) := by decide +kernel
theorem dX4_order_16 : decode cX4_order 16 = .ok (.aload_n 0, 1) := by decide +kernel
theorem dX4_order_17 : decode cX4_order 17 = .ok (.iload_n 2, 1) := by decide +kernel
theorem dX4_order_18 : decode cX4_order 18 = .ok (.iaload, 1) := by decide +kernel
theorem dX4_order_19 : decode cX4_order 19 = .ok (.aload_n 1, 1) := by decide +kernel
theorem dX4_order_20 : decode cX4_order 20 = .ok (.iload_n 2, 1) := by decide +kernel
theorem dX4_order_21 : decode cX4_order 21 = .ok (.iaload, 1) := by decide +kernel
theorem dX4_order_22 : decode cX4_order 22 = .ok (.if_icmp .ge 7, 3) := by decide +kernel
theorem dX4_order_25 : decode cX4_order 25 = .ok (.iconst (-1), 1) := by decide +kernel
theorem dX4_order_26 : decode cX4_order 26 = .ok (.goto 4, 3) := by decide +kernel
theorem dX4_order_29 : decode cX4_order 29 = .ok (.iconst 1, 1) := by decide +kernel
theorem dX4_order_30 : decode cX4_order 30 = .ok (.ireturn, 1) := by decide +kernel
theorem dX4_order_31 : decode cX4_order 31 = .ok (.iinc 2 (-1), 3) := by decide +kernel
theorem dX4_order_34 : decode cX4_order 34 = .ok (.goto (-31), 3) := by decide +kernel
theorem dX4_order_37 : decode cX4_order 37 = .ok (.iconst 0, 1) := by decide +kernel
theorem dX4_order_38 : decode cX4_order 38 = .ok (.ireturn, 1) := by decide +kernel
theorem dX4_decrease_0 : decode cX4_decrease 0 = .ok (.iconst 0, 1) := by decide +kernel
theorem dX4_decrease_1 : decode cX4_decrease 1 = .ok (.istore_n 2, 1) := by decide +kernel
theorem dX4_decrease_2 : decode cX4_decrease 2 = .ok (.iconst 0, 1) := by decide +kernel
theorem dX4_decrease_3 : decode cX4_decrease 3 = .ok (.istore_n 3, 1) := by decide +kernel
theorem dX4_decrease_4 : decode cX4_decrease 4 = .ok (.iload_n 3, 1) := by decide +kernel
theorem dX4_decrease_5 : decode cX4_decrease 5 = .ok (.bipush 80, 2) := by decide +kernel
theorem dX4_decrease_7 : decode cX4_decrease 7 = .ok (.if_icmp .ge 49, 3) := by decide +kernel
theorem dX4_decrease_10 : decode cX4_decrease 10 = .ok (.aload_n 0, 1) := by decide +kernel
theorem dX4_decrease_11 : decode cX4_decrease 11 = .ok (.iload_n 3, 1) := by decide +kernel
theorem dX4_decrease_12 : decode cX4_decrease 12 = .ok (.iaload, 1) := by decide +kernel
theorem dX4_decrease_13 : decode cX4_decrease 13 = .ok (.aload_n 1, 1) := by decide +kernel
theorem dX4_decrease_14 : decode cX4_decrease 14 = .ok (.iload_n 3, 1) := by decide +kernel
theorem dX4_decrease_15 : decode cX4_decrease 15 = .ok (.iaload, 1) := by decide +kernel
theorem dX4_decrease_16 : decode cX4_decrease 16 = .ok (.isub, 1) := by decide +kernel
theorem dX4_decrease_17 : decode cX4_decrease 17 = .ok (.iload_n 2, 1) := by decide +kernel
theorem dX4_decrease_18 : decode cX4_decrease 18 = .ok (.isub, 1) := by decide +kernel
theorem dX4_decrease_19 : decode cX4_decrease 19 = .ok (.istore 4, 2) := by decide +kernel
theorem dX4_decrease_21 : decode cX4_decrease 21 = .ok (.iload 4, 2) := by decide +kernel
theorem dX4_decrease_23 : decode cX4_decrease 23 = .ok (.ifCond .ge 7, 3) := by decide +kernel
theorem dX4_decrease_26 : decode cX4_decrease 26 = .ok (.iconst 1, 1) := by decide +kernel
theorem dX4_decrease_27 : decode cX4_decrease 27 = .ok (.goto 4, 3) := by decide +kernel
theorem dX4_decrease_30 : decode cX4_decrease 30 = .ok (.iconst 0, 1) := by decide +kernel
theorem dX4_decrease_31 : decode cX4_decrease 31 = .ok (.istore_n 2, 1) := by decide +kernel
theorem dX4_decrease_32 : decode cX4_decrease 32 = .ok (.aload_n 0, 1) := by decide +kernel
theorem dX4_decrease_33 : decode cX4_decrease 33 = .ok (.iload_n 3, 1) := by decide +kernel
theorem dX4_decrease_34 : decode cX4_decrease 34 = .ok (.iload 4, 2) := by decide +kernel
theorem dX4_decrease_36 : decode cX4_decrease 36 = .ok (.ifCond .ge 11, 3) := by decide +kernel
theorem dX4_decrease_39 : decode cX4_decrease 39 = .ok (.iload 4, 2) := by decide +kernel
theorem dX4_decrease_41 : decode cX4_decrease 41 = .ok (.bipush 10, 2) := by decide +kernel
theorem dX4_decrease_43 : decode cX4_decrease 43 = .ok (.iadd, 1) := by decide +kernel
theorem dX4_decrease_44 : decode cX4_decrease 44 = .ok (.goto 5, 3) := by decide +kernel
theorem dX4_decrease_47 : decode cX4_decrease 47 = .ok (.iload 4, 2) := by decide +kernel
theorem dX4_decrease_49 : decode cX4_decrease 49 = .ok (.iastore, 1) := by decide +kernel
theorem dX4_decrease_50 : decode cX4_decrease 50 = .ok (.iinc 3 1, 3) := by decide +kernel
theorem dX4_decrease_53 : decode cX4_decrease 53 = .ok (.goto (-49), 3) := by decide +kernel
theorem dX4_decrease_56 : decode cX4_decrease 56 = .ok (.return_, 1) := by decide +kernel
theorem dX4_size_0 : decode cX4_size 0 = .ok (.iconst 0, 1) := by decide +kernel
theorem dX4_size_1 : decode cX4_size 1 = .ok (.istore_n 1, 1) := by decide +kernel
theorem dX4_size_2 : decode cX4_size 2 = .ok (.iconst 0, 1) := by decide +kernel
theorem dX4_size_3 : decode cX4_size 3 = .ok (.istore_n 2, 1) := by decide +kernel
theorem dX4_size_4 : decode cX4_size 4 = .ok (.iload_n 2, 1) := by decide +kernel
theorem dX4_size_5 : decode cX4_size 5 = .ok (.bipush 80, 2) := by decide +kernel
theorem dX4_size_7 : decode cX4_size 7 = .ok (.if_icmp .ge 23, 3) := by decide +kernel
theorem dX4_size_10 : decode cX4_size 10 = .ok (.aload_n 0, 1) := by decide +kernel
theorem dX4_size_11 : decode cX4_size 11 = .ok (.iload_n 2, 1) := by decide +kernel
theorem dX4_size_12 : decode cX4_size 12 = .ok (.iaload, 1) := by decide +kernel
theorem dX4_size_13 : decode cX4_size 13 = .ok (.ifCond .eq 9, 3) := by decide +kernel
theorem dX4_size_16 : decode cX4_size 16 = .ok (.iload_n 2, 1) := by decide +kernel
theorem dX4_size_17 : decode cX4_size 17 = .ok (.iconst 1, 1) := by decide +kernel
theorem dX4_size_18 : decode cX4_size 18 = .ok (.iadd, 1) := by decide +kernel
theorem dX4_size_19 : decode cX4_size 19 = .ok (.goto 4, 3) := by decide +kernel
theorem dX4_size_22 : decode cX4_size 22 = .ok (.iload_n 1, 1) := by decide +kernel
theorem dX4_size_23 : decode cX4_size 23 = .ok (.istore_n 1, 1) := by decide +kernel
theorem dX4_size_24 : decode cX4_size 24 = .ok (.iinc 2 1, 3) := by decide +kernel
theorem dX4_size_27 : decode cX4_size 27 = .ok (.goto (-23), 3) := by decide +kernel
theorem dX4_size_30 : decode cX4_size 30 = .ok (.iload_n 1, 1) := by decide +kernel
theorem dX4_size_31 : decode cX4_size 31 = .ok (.ireturn, 1) := by decide +kernel
theorem dX4_rounds_0 : decode cX4_rounds 0 = .ok (.aload_n 0, 1) := by decide +kernel
theorem dX4_rounds_1 : decode cX4_rounds 1 = .ok (.getfield 41, 3) := by decide +kernel
theorem dX4_rounds_4 : decode cX4_rounds 4 = .ok (.invokestatic 78, 3) := by decide +kernel
theorem dX4_rounds_7 : decode cX4_rounds 7 = .ok (.ifCond .ne 5, 3) := by decide +kernel
theorem dX4_rounds_10 : decode cX4_rounds 10 = .ok (.iconst 1, 1) := by decide +kernel
theorem dX4_rounds_11 : decode cX4_rounds 11 = .ok (.ireturn, 1) := by decide +kernel
theorem dX4_rounds_12 : decode cX4_rounds 12 = .ok (.aload_n 0, 1) := by decide +kernel
theorem dX4_rounds_13 : decode cX4_rounds 13 = .ok (.getfield 41, 3) := by decide +kernel
theorem dX4_rounds_16 : decode cX4_rounds 16 = .ok (.aload_n 0, 1) := by decide +kernel
theorem dX4_rounds_17 : decode cX4_rounds 17 = .ok (.getfield 44, 3) := by decide +kernel
theorem dX4_rounds_20 : decode cX4_rounds 20 = .ok (.invokestatic 94, 3) := by decide +kernel
theorem dX4_rounds_23 : decode cX4_rounds 23 = .ok (.aload_n 0, 1) := by decide +kernel
theorem dX4_rounds_24 : decode cX4_rounds 24 = .ok (.getfield 44, 3) := by decide +kernel
theorem dX4_rounds_27 : decode cX4_rounds 27 = .ok (.aload_n 0, 1) := by decide +kernel
theorem dX4_rounds_28 : decode cX4_rounds 28 = .ok (.getfield 41, 3) := by decide +kernel
theorem dX4_rounds_31 : decode cX4_rounds 31 = .ok (.invokestatic 97, 3) := by decide +kernel
theorem dX4_rounds_34 : decode cX4_rounds 34 = .ok (.aload_n 0, 1) := by decide +kernel
theorem dX4_rounds_35 : decode cX4_rounds 35 = .ok (.getfield 44, 3) := by decide +kernel
theorem dX4_rounds_38 : decode cX4_rounds 38 = .ok (.aload_n 0, 1) := by decide +kernel
theorem dX4_rounds_39 : decode cX4_rounds 39 = .ok (.getfield 35, 3) := by decide +kernel
theorem dX4_rounds_42 : decode cX4_rounds 42 = .ok (.invokestatic 86, 3) := by decide +kernel
theorem dX4_rounds_45 : decode cX4_rounds 45 = .ok (.istore_n 3, 1) := by decide +kernel
theorem dX4_rounds_46 : decode cX4_rounds 46 = .ok (.aload_n 0, 1) := by decide +kernel
theorem dX4_rounds_47 : decode cX4_rounds 47 = .ok (.getfield 38, 3) := by decide +kernel
theorem dX4_rounds_50 : decode cX4_rounds 50 = .ok (.iconst 0, 1) := by decide +kernel
theorem dX4_rounds_51 : decode cX4_rounds 51 = .ok (.iaload, 1) := by decide +kernel
theorem dX4_rounds_52 : decode cX4_rounds 52 = .ok (.iconst 2, 1) := by decide +kernel
theorem dX4_rounds_53 : decode cX4_rounds 53 = .ok (.irem, 1) := by decide +kernel
theorem dX4_rounds_54 : decode cX4_rounds 54 = .ok (.iconst 1, 1) := by decide +kernel
theorem dX4_rounds_55 : decode cX4_rounds 55 = .ok (.if_icmp .ne 7, 3) := by decide +kernel
theorem dX4_rounds_58 : decode cX4_rounds 58 = .ok (.iconst 1, 1) := by decide +kernel
theorem dX4_rounds_59 : decode cX4_rounds 59 = .ok (.goto 4, 3) := by decide +kernel
theorem dX4_rounds_62 : decode cX4_rounds 62 = .ok (.iconst 0, 1) := by decide +kernel
theorem dX4_rounds_63 : decode cX4_rounds 63 = .ok (.istore 4, 2) := by decide +kernel
theorem dX4_rounds_65 : decode cX4_rounds 65 = .ok (.iload_n 2, 1) := by decide +kernel
theorem dX4_rounds_66 : decode cX4_rounds 66 = .ok (.iconst 4, 1) := by decide +kernel
theorem dX4_rounds_67 : decode cX4_rounds 67 = .ok (.if_icmp .ne 15, 3) := by decide +kernel
theorem dX4_rounds_70 : decode cX4_rounds 70 = .ok (.iload_n 3, 1) := by decide +kernel
theorem dX4_rounds_71 : decode cX4_rounds 71 = .ok (.ifCond .lt 7, 3) := by decide +kernel
theorem dX4_rounds_74 : decode cX4_rounds 74 = .ok (.iconst 1, 1) := by decide +kernel
theorem dX4_rounds_75 : decode cX4_rounds 75 = .ok (.goto 42, 3) := by decide +kernel
theorem dX4_rounds_78 : decode cX4_rounds 78 = .ok (.iconst 0, 1) := by decide +kernel
theorem dX4_rounds_79 : decode cX4_rounds 79 = .ok (.goto 38, 3) := by decide +kernel
theorem dX4_rounds_82 : decode cX4_rounds 82 = .ok (.iload_n 2, 1) := by decide +kernel
theorem dX4_rounds_83 : decode cX4_rounds 83 = .ok (.iconst 5, 1) := by decide +kernel
theorem dX4_rounds_84 : decode cX4_rounds 84 = .ok (.if_icmp .ne 15, 3) := by decide +kernel
theorem dX4_rounds_87 : decode cX4_rounds 87 = .ok (.iload_n 3, 1) := by decide +kernel
theorem dX4_rounds_88 : decode cX4_rounds 88 = .ok (.ifCond .le 7, 3) := by decide +kernel
theorem dX4_rounds_91 : decode cX4_rounds 91 = .ok (.iconst 1, 1) := by decide +kernel
theorem dX4_rounds_92 : decode cX4_rounds 92 = .ok (.goto 25, 3) := by decide +kernel
theorem dX4_rounds_95 : decode cX4_rounds 95 = .ok (.iconst 0, 1) := by decide +kernel
theorem dX4_rounds_96 : decode cX4_rounds 96 = .ok (.goto 21, 3) := by decide +kernel
theorem dX4_rounds_99 : decode cX4_rounds 99 = .ok (.iload_n 3, 1) := by decide +kernel
theorem dX4_rounds_100 : decode cX4_rounds 100 = .ok (.ifCond .gt 12, 3) := by decide +kernel
theorem dX4_rounds_103 : decode cX4_rounds 103 = .ok (.iload_n 3, 1) := by decide +kernel
theorem dX4_rounds_104 : decode cX4_rounds 104 = .ok (.ifCond .ne 12, 3) := by decide +kernel
theorem dX4_rounds_107 : decode cX4_rounds 107 = .ok (.iload 4, 2) := by decide +kernel
theorem dX4_rounds_109 : decode cX4_rounds 109 = .ok (.ifCond .eq 7, 3) := by decide +kernel
theorem dX4_rounds_112 : decode cX4_rounds 112 = .ok (.iconst 1, 1) := by decide +kernel
theorem dX4_rounds_113 : decode cX4_rounds 113 = .ok (.goto 4, 3) := by decide +kernel
theorem dX4_rounds_116 : decode cX4_rounds 116 = .ok (.iconst 0, 1) := by decide +kernel
theorem dX4_rounds_117 : decode cX4_rounds 117 = .ok (.istore 5, 2) := by decide +kernel
theorem dX4_rounds_119 : decode cX4_rounds 119 = .ok (.iload_n 2, 1) := by decide +kernel
theorem dX4_rounds_120 : decode cX4_rounds 120 = .ok (.ifCond .eq 37, 3) := by decide +kernel
theorem dX4_rounds_123 : decode cX4_rounds 123 = .ok (.iload_n 2, 1) := by decide +kernel
theorem dX4_rounds_124 : decode cX4_rounds 124 = .ok (.iconst 2, 1) := by decide +kernel
theorem dX4_rounds_125 : decode cX4_rounds 125 = .ok (.if_icmp .ne 7, 3) := by decide +kernel
theorem dX4_rounds_128 : decode cX4_rounds 128 = .ok (.iload_n 1, 1) := by decide +kernel
theorem dX4_rounds_129 : decode cX4_rounds 129 = .ok (.ifCond .eq 28, 3) := by decide +kernel
theorem dX4_rounds_132 : decode cX4_rounds 132 = .ok (.iload_n 2, 1) := by decide +kernel
theorem dX4_rounds_133 : decode cX4_rounds 133 = .ok (.iconst 3, 1) := by decide +kernel
theorem dX4_rounds_134 : decode cX4_rounds 134 = .ok (.if_icmp .ne 7, 3) := by decide +kernel
theorem dX4_rounds_137 : decode cX4_rounds 137 = .ok (.iload_n 1, 1) := by decide +kernel
theorem dX4_rounds_138 : decode cX4_rounds 138 = .ok (.ifCond .ne 19, 3) := by decide +kernel
theorem dX4_rounds_141 : decode cX4_rounds 141 = .ok (.iload_n 2, 1) := by decide +kernel
theorem dX4_rounds_142 : decode cX4_rounds 142 = .ok (.iconst 4, 1) := by decide +kernel
theorem dX4_rounds_143 : decode cX4_rounds 143 = .ok (.if_icmp .lt 18, 3) := by decide +kernel
theorem dX4_rounds_146 : decode cX4_rounds 146 = .ok (.iload_n 2, 1) := by decide +kernel
theorem dX4_rounds_147 : decode cX4_rounds 147 = .ok (.bipush 6, 2) := by decide +kernel
theorem dX4_rounds_149 : decode cX4_rounds 149 = .ok (.if_icmp .gt 12, 3) := by decide +kernel
theorem dX4_rounds_152 : decode cX4_rounds 152 = .ok (.iload 5, 2) := by decide +kernel
theorem dX4_rounds_154 : decode cX4_rounds 154 = .ok (.ifCond .eq 7, 3) := by decide +kernel
theorem dX4_rounds_157 : decode cX4_rounds 157 = .ok (.iconst 1, 1) := by decide +kernel
theorem dX4_rounds_158 : decode cX4_rounds 158 = .ok (.goto 4, 3) := by decide +kernel
theorem dX4_rounds_161 : decode cX4_rounds 161 = .ok (.iconst 0, 1) := by decide +kernel
theorem dX4_rounds_162 : decode cX4_rounds 162 = .ok (.istore 6, 2) := by decide +kernel
theorem dX4_rounds_164 : decode cX4_rounds 164 = .ok (.iload 6, 2) := by decide +kernel
theorem dX4_rounds_166 : decode cX4_rounds 166 = .ok (.ifCond .eq 22, 3) := by decide +kernel
theorem dX4_rounds_169 : decode cX4_rounds 169 = .ok (.aload_n 0, 1) := by decide +kernel
theorem dX4_rounds_170 : decode cX4_rounds 170 = .ok (.getfield 44, 3) := by decide +kernel
theorem dX4_rounds_173 : decode cX4_rounds 173 = .ok (.lconst 1, 1) := by decide +kernel
theorem dX4_rounds_174 : decode cX4_rounds 174 = .ok (.invokestatic 100, 3) := by decide +kernel
theorem dX4_rounds_177 : decode cX4_rounds 177 = .ok (.aload_n 0, 1) := by decide +kernel
theorem dX4_rounds_178 : decode cX4_rounds 178 = .ok (.getfield 38, 3) := by decide +kernel
theorem dX4_rounds_181 : decode cX4_rounds 181 = .ok (.aload_n 0, 1) := by decide +kernel
theorem dX4_rounds_182 : decode cX4_rounds 182 = .ok (.getfield 44, 3) := by decide +kernel
theorem dX4_rounds_185 : decode cX4_rounds 185 = .ok (.invokestatic 97, 3) := by decide +kernel
theorem dX4_rounds_188 : decode cX4_rounds 188 = .ok (.iload_n 2, 1) := by decide +kernel
theorem dX4_rounds_189 : decode cX4_rounds 189 = .ok (.bipush 7, 2) := by decide +kernel
theorem dX4_rounds_191 : decode cX4_rounds 191 = .ok (.if_icmp .eq 7, 3) := by decide +kernel
theorem dX4_rounds_194 : decode cX4_rounds 194 = .ok (.iconst 1, 1) := by decide +kernel
theorem dX4_rounds_195 : decode cX4_rounds 195 = .ok (.goto 4, 3) := by decide +kernel
theorem dX4_rounds_198 : decode cX4_rounds 198 = .ok (.iconst 0, 1) := by decide +kernel
theorem dX4_rounds_199 : decode cX4_rounds 199 = .ok (.ireturn, 1) := by decide +kernel
theorem dX4_increase_0 : decode cX4_increase 0 = .ok (.iconst 0, 1) := by decide +kernel
theorem dX4_increase_1 : decode cX4_increase 1 = .ok (.istore_n 2, 1) := by decide +kernel
theorem dX4_increase_2 : decode cX4_increase 2 = .ok (.iconst 0, 1) := by decide +kernel
theorem dX4_increase_3 : decode cX4_increase 3 = .ok (.istore_n 3, 1) := by decide +kernel
theorem dX4_increase_4 : decode cX4_increase 4 = .ok (.iload_n 3, 1) := by decide +kernel
theorem dX4_increase_5 : decode cX4_increase 5 = .ok (.bipush 80, 2) := by decide +kernel
theorem dX4_increase_7 : decode cX4_increase 7 = .ok (.if_icmp .ge 34, 3) := by decide +kernel
theorem dX4_increase_10 : decode cX4_increase 10 = .ok (.aload_n 0, 1) := by decide +kernel
theorem dX4_increase_11 : decode cX4_increase 11 = .ok (.iload_n 3, 1) := by decide +kernel
theorem dX4_increase_12 : decode cX4_increase 12 = .ok (.iaload, 1) := by decide +kernel
theorem dX4_increase_13 : decode cX4_increase 13 = .ok (.aload_n 1, 1) := by decide +kernel
theorem dX4_increase_14 : decode cX4_increase 14 = .ok (.iload_n 3, 1) := by decide +kernel
theorem dX4_increase_15 : decode cX4_increase 15 = .ok (.iaload, 1) := by decide +kernel
theorem dX4_increase_16 : decode cX4_increase 16 = .ok (.iadd, 1) := by decide +kernel
theorem dX4_increase_17 : decode cX4_increase 17 = .ok (.iload_n 2, 1) := by decide +kernel
theorem dX4_increase_18 : decode cX4_increase 18 = .ok (.iadd, 1) := by decide +kernel
theorem dX4_increase_19 : decode cX4_increase 19 = .ok (.istore 4, 2) := by decide +kernel
theorem dX4_increase_21 : decode cX4_increase 21 = .ok (.aload_n 0, 1) := by decide +kernel
theorem dX4_increase_22 : decode cX4_increase 22 = .ok (.iload_n 3, 1) := by decide +kernel
theorem dX4_increase_23 : decode cX4_increase 23 = .ok (.iload 4, 2) := by decide +kernel
theorem dX4_increase_25 : decode cX4_increase 25 = .ok (.bipush 10, 2) := by decide +kernel
theorem dX4_increase_27 : decode cX4_increase 27 = .ok (.irem, 1) := by decide +kernel
theorem dX4_increase_28 : decode cX4_increase 28 = .ok (.iastore, 1) := by decide +kernel
end
section
theorem dX4_increase_29 : decode cX4_increase 29 = .ok (.iload 4, 2) := by decide +kernel
theorem dX4_increase_31 : decode cX4_increase 31 = .ok (.bipush 10, 2) := by decide +kernel
theorem dX4_increase_33 : decode cX4_increase 33 = .ok (.idiv, 1) := by decide +kernel
theorem dX4_increase_34 : decode cX4_increase 34 = .ok (.istore_n 2, 1) := by decide +kernel
theorem dX4_increase_35 : decode cX4_increase 35 = .ok (.iinc 3 1, 3) := by decide +kernel
theorem dX4_increase_38 : decode cX4_increase 38 = .ok (.goto (-34), 3) := by decide +kernel
theorem dX4_increase_41 : decode cX4_increase 41 = .ok (.return_, 1) := by decide +kernel
theorem dX4_fits_0 : decode cX4_fits 0 = .ok (.iload_n 2, 1) := by decide +kernel
theorem dX4_fits_1 : decode cX4_fits 1 = .ok (.ifCond .eq 18, 3) := by decide +kernel
theorem dX4_fits_4 : decode cX4_fits 4 = .ok (.aload_n 1, 1) := by decide +kernel
theorem dX4_fits_5 : decode cX4_fits 5 = .ok (.invokestatic 78, 3) := by decide +kernel
theorem dX4_fits_8 : decode cX4_fits 8 = .ok (.bipush 36, 2) := by decide +kernel
theorem dX4_fits_10 : decode cX4_fits 10 = .ok (.if_icmp .gt 7, 3) := by decide +kernel
theorem dX4_fits_13 : decode cX4_fits 13 = .ok (.iconst 1, 1) := by decide +kernel
theorem dX4_fits_14 : decode cX4_fits 14 = .ok (.goto 4, 3) := by decide +kernel
theorem dX4_fits_17 : decode cX4_fits 17 = .ok (.iconst 0, 1) := by decide +kernel
theorem dX4_fits_18 : decode cX4_fits 18 = .ok (.ireturn, 1) := by decide +kernel
theorem dX4_fits_19 : decode cX4_fits 19 = .ok (.iconst 0, 1) := by decide +kernel
theorem dX4_fits_20 : decode cX4_fits 20 = .ok (.istore 4, 2) := by decide +kernel
theorem dX4_fits_22 : decode cX4_fits 22 = .ok (.iload 4, 2) := by decide +kernel
theorem dX4_fits_24 : decode cX4_fits 24 = .ok (.iconst 5, 1) := by decide +kernel
theorem dX4_fits_25 : decode cX4_fits 25 = .ok (.if_icmp .ge 18, 3) := by decide +kernel
theorem dX4_fits_28 : decode cX4_fits 28 = .ok (.aload_n 1, 1) := by decide +kernel
theorem dX4_fits_29 : decode cX4_fits 29 = .ok (.iload 4, 2) := by decide +kernel
theorem dX4_fits_31 : decode cX4_fits 31 = .ok (.iaload, 1) := by decide +kernel
theorem dX4_fits_32 : decode cX4_fits 32 = .ok (.ifCond .eq 5, 3) := by decide +kernel
theorem dX4_fits_35 : decode cX4_fits 35 = .ok (.iconst 0, 1) := by decide +kernel
theorem dX4_fits_36 : decode cX4_fits 36 = .ok (.ireturn, 1) := by decide +kernel
theorem dX4_fits_37 : decode cX4_fits 37 = .ok (.iinc 4 1, 3) := by decide +kernel
theorem dX4_fits_40 : decode cX4_fits 40 = .ok (.goto (-18), 3) := by decide +kernel
theorem dX4_fits_43 : decode cX4_fits 43 = .ok (.aload_n 0, 1) := by decide +kernel
theorem dX4_fits_44 : decode cX4_fits 44 = .ok (.getfield 44, 3) := by decide +kernel
theorem dX4_fits_47 : decode cX4_fits 47 = .ok (.iload_n 3, 1) := by decide +kernel
theorem dX4_fits_48 : decode cX4_fits 48 = .ok (.ifCond .eq 9, 3) := by decide +kernel
theorem dX4_fits_51 : decode cX4_fits 51 = .ok (.ldc2_w 104, 3) := by decide +kernel
theorem dX4_fits_54 : decode cX4_fits 54 = .ok (.goto 6, 3) := by decide +kernel
theorem dX4_fits_57 : decode cX4_fits 57 = .ok (.ldc2_w 106, 3) := by decide +kernel
theorem dX4_fits_60 : decode cX4_fits 60 = .ok (.invokestatic 100, 3) := by decide +kernel
theorem dX4_fits_63 : decode cX4_fits 63 = .ok (.aload_n 0, 1) := by decide +kernel
theorem dX4_fits_64 : decode cX4_fits 64 = .ok (.getfield 44, 3) := by decide +kernel
theorem dX4_fits_67 : decode cX4_fits 67 = .ok (.iconst 5, 1) := by decide +kernel
theorem dX4_fits_68 : decode cX4_fits 68 = .ok (.invokestatic 82, 3) := by decide +kernel
theorem dX4_fits_71 : decode cX4_fits 71 = .ok (.aload_n 1, 1) := by decide +kernel
theorem dX4_fits_72 : decode cX4_fits 72 = .ok (.aload_n 0, 1) := by decide +kernel
theorem dX4_fits_73 : decode cX4_fits 73 = .ok (.getfield 44, 3) := by decide +kernel
theorem dX4_fits_76 : decode cX4_fits 76 = .ok (.invokestatic 86, 3) := by decide +kernel
theorem dX4_fits_79 : decode cX4_fits 79 = .ok (.ifCond .gt 7, 3) := by decide +kernel
theorem dX4_fits_82 : decode cX4_fits 82 = .ok (.iconst 1, 1) := by decide +kernel
theorem dX4_fits_83 : decode cX4_fits 83 = .ok (.goto 4, 3) := by decide +kernel
theorem dX4_fits_86 : decode cX4_fits 86 = .ok (.iconst 0, 1) := by decide +kernel
theorem dX4_fits_87 : decode cX4_fits 87 = .ok (.ireturn, 1) := by decide +kernel
theorem dX4_keep_0 : decode cX4_keep 0 = .ok (.aload_n 0, 1) := by decide +kernel
theorem dX4_keep_1 : decode cX4_keep 1 = .ok (.getfield 7, 3) := by decide +kernel
theorem dX4_keep_4 : decode cX4_keep 4 = .ok (.iload_n 1, 1) := by decide +kernel
theorem dX4_keep_5 : decode cX4_keep 5 = .ok (.iload_n 2, 1) := by decide +kernel
theorem dX4_keep_6 : decode cX4_keep 6 = .ok (.iastore, 1) := by decide +kernel
theorem dX4_keep_7 : decode cX4_keep 7 = .ok (.aload_n 0, 1) := by decide +kernel
theorem dX4_keep_8 : decode cX4_keep 8 = .ok (.getfield 13, 3) := by decide +kernel
theorem dX4_keep_11 : decode cX4_keep 11 = .ok (.iload_n 1, 1) := by decide +kernel
theorem dX4_keep_12 : decode cX4_keep 12 = .ok (.iload_n 3, 1) := by decide +kernel
theorem dX4_keep_13 : decode cX4_keep 13 = .ok (.bastore, 1) := by decide +kernel
theorem dX4_keep_14 : decode cX4_keep 14 = .ok (.aload_n 0, 1) := by decide +kernel
theorem dX4_keep_15 : decode cX4_keep 15 = .ok (.getfield 17, 3) := by decide +kernel
theorem dX4_keep_18 : decode cX4_keep 18 = .ok (.iload_n 1, 1) := by decide +kernel
theorem dX4_keep_19 : decode cX4_keep 19 = .ok (.iload 4, 2) := by decide +kernel
theorem dX4_keep_21 : decode cX4_keep 21 = .ok (.ifCond .eq 15, 3) := by decide +kernel
theorem dX4_keep_24 : decode cX4_keep 24 = .ok (.aload 5, 2) := by decide +kernel
theorem dX4_keep_26 : decode cX4_keep 26 = .ok (.invokestatic 78, 3) := by decide +kernel
theorem dX4_keep_29 : decode cX4_keep 29 = .ok (.ifCond .le 7, 3) := by decide +kernel
theorem dX4_keep_32 : decode cX4_keep 32 = .ok (.iconst 1, 1) := by decide +kernel
theorem dX4_keep_33 : decode cX4_keep 33 = .ok (.goto 4, 3) := by decide +kernel
theorem dX4_keep_36 : decode cX4_keep 36 = .ok (.iconst 0, 1) := by decide +kernel
theorem dX4_keep_37 : decode cX4_keep 37 = .ok (.bastore, 1) := by decide +kernel
theorem dX4_keep_38 : decode cX4_keep 38 = .ok (.iconst 0, 1) := by decide +kernel
theorem dX4_keep_39 : decode cX4_keep 39 = .ok (.istore 6, 2) := by decide +kernel
theorem dX4_keep_41 : decode cX4_keep 41 = .ok (.iload 6, 2) := by decide +kernel
theorem dX4_keep_43 : decode cX4_keep 43 = .ok (.bipush 40, 2) := by decide +kernel
theorem dX4_keep_45 : decode cX4_keep 45 = .ok (.if_icmp .ge 26, 3) := by decide +kernel
theorem dX4_keep_48 : decode cX4_keep 48 = .ok (.aload_n 0, 1) := by decide +kernel
theorem dX4_keep_49 : decode cX4_keep 49 = .ok (.getfield 20, 3) := by decide +kernel
theorem dX4_keep_52 : decode cX4_keep 52 = .ok (.bipush 40, 2) := by decide +kernel
theorem dX4_keep_54 : decode cX4_keep 54 = .ok (.iload_n 1, 1) := by decide +kernel
theorem dX4_keep_55 : decode cX4_keep 55 = .ok (.imul, 1) := by decide +kernel
theorem dX4_keep_56 : decode cX4_keep 56 = .ok (.iload 6, 2) := by decide +kernel
theorem dX4_keep_58 : decode cX4_keep 58 = .ok (.iadd, 1) := by decide +kernel
theorem dX4_keep_59 : decode cX4_keep 59 = .ok (.aload 5, 2) := by decide +kernel
theorem dX4_keep_61 : decode cX4_keep 61 = .ok (.iload 6, 2) := by decide +kernel
theorem dX4_keep_63 : decode cX4_keep 63 = .ok (.iaload, 1) := by decide +kernel
theorem dX4_keep_64 : decode cX4_keep 64 = .ok (.iastore, 1) := by decide +kernel
theorem dX4_keep_65 : decode cX4_keep 65 = .ok (.iinc 6 1, 3) := by decide +kernel
theorem dX4_keep_68 : decode cX4_keep 68 = .ok (.goto (-27), 3) := by decide +kernel
theorem dX4_keep_71 : decode cX4_keep 71 = .ok (.iconst 0, 1) := by decide +kernel
theorem dX4_keep_72 : decode cX4_keep 72 = .ok (.ireturn, 1) := by decide +kernel
theorem dX4_add_0 : decode cX4_add 0 = .ok (.aload_n 0, 1) := by decide +kernel
theorem dX4_add_1 : decode cX4_add 1 = .ok (.iload_n 1, 1) := by decide +kernel
theorem dX4_add_2 : decode cX4_add 2 = .ok (.iload_n 2, 1) := by decide +kernel
theorem dX4_add_3 : decode cX4_add 3 = .ok (.iload_n 3, 1) := by decide +kernel
theorem dX4_add_4 : decode cX4_add 4 = .ok (.iconst 0, 1) := by decide +kernel
theorem dX4_add_5 : decode cX4_add 5 = .ok (.invokevirtual 134, 3) := by decide +kernel
theorem dX4_add_8 : decode cX4_add 8 = .ok (.ireturn, 1) := by decide +kernel
theorem dX4_sum_0 : decode cX4_sum 0 = .ok (.iload_n 1, 1) := by decide +kernel
theorem dX4_sum_1 : decode cX4_sum 1 = .ok (.bipush 8, 2) := by decide +kernel
theorem dX4_sum_3 : decode cX4_sum 3 = .ok (.invokestatic 123, 3) := by decide +kernel
theorem dX4_sum_6 : decode cX4_sum 6 = .ok (.ifCond .ne 21, 3) := by decide +kernel
theorem dX4_sum_9 : decode cX4_sum 9 = .ok (.iload_n 2, 1) := by decide +kernel
theorem dX4_sum_10 : decode cX4_sum 10 = .ok (.bipush 8, 2) := by decide +kernel
theorem dX4_sum_12 : decode cX4_sum 12 = .ok (.invokestatic 123, 3) := by decide +kernel
theorem dX4_sum_15 : decode cX4_sum 15 = .ok (.ifCond .ne 12, 3) := by decide +kernel
theorem dX4_sum_18 : decode cX4_sum 18 = .ok (.iload_n 3, 1) := by decide +kernel
theorem dX4_sum_19 : decode cX4_sum 19 = .ok (.bipush 8, 2) := by decide +kernel
theorem dX4_sum_21 : decode cX4_sum 21 = .ok (.invokestatic 123, 3) := by decide +kernel
theorem dX4_sum_24 : decode cX4_sum 24 = .ok (.ifCond .eq 6, 3) := by decide +kernel
theorem dX4_sum_27 : decode cX4_sum 27 = .ok (.bipush (-15), 2) := by decide +kernel
theorem dX4_sum_29 : decode cX4_sum 29 = .ok (.ireturn, 1) := by decide +kernel
theorem dX4_sum_30 : decode cX4_sum 30 = .ok (.aload_n 0, 1) := by decide +kernel
theorem dX4_sum_31 : decode cX4_sum 31 = .ok (.getfield 7, 3) := by decide +kernel
theorem dX4_sum_34 : decode cX4_sum 34 = .ok (.iload_n 2, 1) := by decide +kernel
theorem dX4_sum_35 : decode cX4_sum 35 = .ok (.iaload, 1) := by decide +kernel
theorem dX4_sum_36 : decode cX4_sum 36 = .ok (.ifCond .lt 12, 3) := by decide +kernel
theorem dX4_sum_39 : decode cX4_sum 39 = .ok (.aload_n 0, 1) := by decide +kernel
theorem dX4_sum_40 : decode cX4_sum 40 = .ok (.getfield 7, 3) := by decide +kernel
theorem dX4_sum_43 : decode cX4_sum 43 = .ok (.iload_n 3, 1) := by decide +kernel
theorem dX4_sum_44 : decode cX4_sum 44 = .ok (.iaload, 1) := by decide +kernel
theorem dX4_sum_45 : decode cX4_sum 45 = .ok (.ifCond .ge 6, 3) := by decide +kernel
theorem dX4_sum_48 : decode cX4_sum 48 = .ok (.bipush (-11), 2) := by decide +kernel
theorem dX4_sum_50 : decode cX4_sum 50 = .ok (.ireturn, 1) := by decide +kernel
theorem dX4_sum_51 : decode cX4_sum 51 = .ok (.aload_n 0, 1) := by decide +kernel
theorem dX4_sum_52 : decode cX4_sum 52 = .ok (.getfield 7, 3) := by decide +kernel
theorem dX4_sum_55 : decode cX4_sum 55 = .ok (.iload_n 2, 1) := by decide +kernel
theorem dX4_sum_56 : decode cX4_sum 56 = .ok (.iaload, 1) := by decide +kernel
theorem dX4_sum_57 : decode cX4_sum 57 = .ok (.aload_n 0, 1) := by decide +kernel
theorem dX4_sum_58 : decode cX4_sum 58 = .ok (.getfield 7, 3) := by decide +kernel
theorem dX4_sum_61 : decode cX4_sum 61 = .ok (.iload_n 3, 1) := by decide +kernel
theorem dX4_sum_62 : decode cX4_sum 62 = .ok (.iaload, 1) := by decide +kernel
theorem dX4_sum_63 : decode cX4_sum 63 = .ok (.if_icmp .ne 18, 3) := by decide +kernel
theorem dX4_sum_66 : decode cX4_sum 66 = .ok (.aload_n 0, 1) := by decide +kernel
theorem dX4_sum_67 : decode cX4_sum 67 = .ok (.getfield 13, 3) := by decide +kernel
theorem dX4_sum_70 : decode cX4_sum 70 = .ok (.iload_n 2, 1) := by decide +kernel
theorem dX4_sum_71 : decode cX4_sum 71 = .ok (.baload, 1) := by decide +kernel
theorem dX4_sum_72 : decode cX4_sum 72 = .ok (.aload_n 0, 1) := by decide +kernel
theorem dX4_sum_73 : decode cX4_sum 73 = .ok (.getfield 13, 3) := by decide +kernel
theorem dX4_sum_76 : decode cX4_sum 76 = .ok (.iload_n 3, 1) := by decide +kernel
theorem dX4_sum_77 : decode cX4_sum 77 = .ok (.baload, 1) := by decide +kernel
theorem dX4_sum_78 : decode cX4_sum 78 = .ok (.if_icmp .eq 6, 3) := by decide +kernel
theorem dX4_sum_81 : decode cX4_sum 81 = .ok (.bipush (-12), 2) := by decide +kernel
theorem dX4_sum_83 : decode cX4_sum 83 = .ok (.ireturn, 1) := by decide +kernel
theorem dX4_sum_84 : decode cX4_sum 84 = .ok (.aload_n 0, 1) := by decide +kernel
theorem dX4_sum_85 : decode cX4_sum 85 = .ok (.getfield 17, 3) := by decide +kernel
theorem dX4_sum_88 : decode cX4_sum 88 = .ok (.iload_n 2, 1) := by decide +kernel
theorem dX4_sum_89 : decode cX4_sum 89 = .ok (.baload, 1) := by decide +kernel
theorem dX4_sum_90 : decode cX4_sum 90 = .ok (.istore 5, 2) := by decide +kernel
theorem dX4_sum_92 : decode cX4_sum 92 = .ok (.aload_n 0, 1) := by decide +kernel
theorem dX4_sum_93 : decode cX4_sum 93 = .ok (.getfield 17, 3) := by decide +kernel
theorem dX4_sum_96 : decode cX4_sum 96 = .ok (.iload_n 3, 1) := by decide +kernel
theorem dX4_sum_97 : decode cX4_sum 97 = .ok (.baload, 1) := by decide +kernel
theorem dX4_sum_98 : decode cX4_sum 98 = .ok (.iload 4, 2) := by decide +kernel
theorem dX4_sum_100 : decode cX4_sum 100 = .ok (.if_icmp .eq 7, 3) := by decide +kernel
theorem dX4_sum_103 : decode cX4_sum 103 = .ok (.iconst 1, 1) := by decide +kernel
theorem dX4_sum_104 : decode cX4_sum 104 = .ok (.goto 4, 3) := by decide +kernel
theorem dX4_sum_107 : decode cX4_sum 107 = .ok (.iconst 0, 1) := by decide +kernel
theorem dX4_sum_108 : decode cX4_sum 108 = .ok (.istore 6, 2) := by decide +kernel
theorem dX4_sum_110 : decode cX4_sum 110 = .ok (.aload_n 0, 1) := by decide +kernel
theorem dX4_sum_111 : decode cX4_sum 111 = .ok (.aload_n 0, 1) := by decide +kernel
theorem dX4_sum_112 : decode cX4_sum 112 = .ok (.getfield 29, 3) := by decide +kernel
theorem dX4_sum_115 : decode cX4_sum 115 = .ok (.iload_n 2, 1) := by decide +kernel
theorem dX4_sum_116 : decode cX4_sum 116 = .ok (.invokevirtual 131, 3) := by decide +kernel
theorem dX4_sum_119 : decode cX4_sum 119 = .ok (.aload_n 0, 1) := by decide +kernel
theorem dX4_sum_120 : decode cX4_sum 120 = .ok (.aload_n 0, 1) := by decide +kernel
theorem dX4_sum_121 : decode cX4_sum 121 = .ok (.getfield 47, 3) := by decide +kernel
theorem dX4_sum_124 : decode cX4_sum 124 = .ok (.iload_n 3, 1) := by decide +kernel
theorem dX4_sum_125 : decode cX4_sum 125 = .ok (.invokevirtual 131, 3) := by decide +kernel
theorem dX4_sum_128 : decode cX4_sum 128 = .ok (.iload 5, 2) := by decide +kernel
theorem dX4_sum_130 : decode cX4_sum 130 = .ok (.iload 6, 2) := by decide +kernel
theorem dX4_sum_132 : decode cX4_sum 132 = .ok (.if_icmp .ne 17, 3) := by decide +kernel
theorem dX4_sum_135 : decode cX4_sum 135 = .ok (.aload_n 0, 1) := by decide +kernel
theorem dX4_sum_136 : decode cX4_sum 136 = .ok (.getfield 29, 3) := by decide +kernel
theorem dX4_sum_139 : decode cX4_sum 139 = .ok (.aload_n 0, 1) := by decide +kernel
theorem dX4_sum_140 : decode cX4_sum 140 = .ok (.getfield 47, 3) := by decide +kernel
theorem dX4_sum_143 : decode cX4_sum 143 = .ok (.invokestatic 97, 3) := by decide +kernel
theorem dX4_sum_146 : decode cX4_sum 146 = .ok (.goto 57, 3) := by decide +kernel
theorem dX4_sum_149 : decode cX4_sum 149 = .ok (.aload_n 0, 1) := by decide +kernel
theorem dX4_sum_150 : decode cX4_sum 150 = .ok (.getfield 29, 3) := by decide +kernel
theorem dX4_sum_153 : decode cX4_sum 153 = .ok (.aload_n 0, 1) := by decide +kernel
theorem dX4_sum_154 : decode cX4_sum 154 = .ok (.getfield 47, 3) := by decide +kernel
theorem dX4_sum_157 : decode cX4_sum 157 = .ok (.invokestatic 86, 3) := by decide +kernel
theorem dX4_sum_160 : decode cX4_sum 160 = .ok (.ifCond .lt 17, 3) := by decide +kernel
theorem dX4_sum_163 : decode cX4_sum 163 = .ok (.aload_n 0, 1) := by decide +kernel
theorem dX4_sum_164 : decode cX4_sum 164 = .ok (.getfield 29, 3) := by decide +kernel
theorem dX4_sum_167 : decode cX4_sum 167 = .ok (.aload_n 0, 1) := by decide +kernel
theorem dX4_sum_168 : decode cX4_sum 168 = .ok (.getfield 47, 3) := by decide +kernel
theorem dX4_sum_171 : decode cX4_sum 171 = .ok (.invokestatic 90, 3) := by decide +kernel
theorem dX4_sum_174 : decode cX4_sum 174 = .ok (.goto 29, 3) := by decide +kernel
theorem dX4_sum_177 : decode cX4_sum 177 = .ok (.aload_n 0, 1) := by decide +kernel
theorem dX4_sum_178 : decode cX4_sum 178 = .ok (.getfield 47, 3) := by decide +kernel
theorem dX4_sum_181 : decode cX4_sum 181 = .ok (.aload_n 0, 1) := by decide +kernel
theorem dX4_sum_182 : decode cX4_sum 182 = .ok (.getfield 29, 3) := by decide +kernel
theorem dX4_sum_185 : decode cX4_sum 185 = .ok (.invokestatic 90, 3) := by decide +kernel
theorem dX4_sum_188 : decode cX4_sum 188 = .ok (.aload_n 0, 1) := by decide +kernel
theorem dX4_sum_189 : decode cX4_sum 189 = .ok (.getfield 47, 3) := by decide +kernel
theorem dX4_sum_192 : decode cX4_sum 192 = .ok (.aload_n 0, 1) := by decide +kernel
theorem dX4_sum_193 : decode cX4_sum 193 = .ok (.getfield 29, 3) := by decide +kernel
theorem dX4_sum_196 : decode cX4_sum 196 = .ok (.invokestatic 94, 3) := by decide +kernel
theorem dX4_sum_199 : decode cX4_sum 199 = .ok (.iload 6, 2) := by decide +kernel
theorem dX4_sum_201 : decode cX4_sum 201 = .ok (.istore 5, 2) := by decide +kernel
theorem dX4_sum_203 : decode cX4_sum 203 = .ok (.aload_n 0, 1) := by decide +kernel
theorem dX4_sum_204 : decode cX4_sum 204 = .ok (.getfield 32, 3) := by decide +kernel
theorem dX4_sum_207 : decode cX4_sum 207 = .ok (.lconst 1, 1) := by decide +kernel
theorem dX4_sum_208 : decode cX4_sum 208 = .ok (.invokestatic 100, 3) := by decide +kernel
theorem dX4_sum_211 : decode cX4_sum 211 = .ok (.aload_n 0, 1) := by decide +kernel
theorem dX4_sum_212 : decode cX4_sum 212 = .ok (.iload_n 1, 1) := by decide +kernel
theorem dX4_sum_213 : decode cX4_sum 213 = .ok (.aload_n 0, 1) := by decide +kernel
theorem dX4_sum_214 : decode cX4_sum 214 = .ok (.getfield 7, 3) := by decide +kernel
theorem dX4_sum_217 : decode cX4_sum 217 = .ok (.iload_n 2, 1) := by decide +kernel
theorem dX4_sum_218 : decode cX4_sum 218 = .ok (.iaload, 1) := by decide +kernel
theorem dX4_sum_219 : decode cX4_sum 219 = .ok (.aload_n 0, 1) := by decide +kernel
theorem dX4_sum_220 : decode cX4_sum 220 = .ok (.getfield 13, 3) := by decide +kernel
theorem dX4_sum_223 : decode cX4_sum 223 = .ok (.iload_n 2, 1) := by decide +kernel
theorem dX4_sum_224 : decode cX4_sum 224 = .ok (.baload, 1) := by decide +kernel
theorem dX4_sum_225 : decode cX4_sum 225 = .ok (.iload 5, 2) := by decide +kernel
theorem dX4_sum_227 : decode cX4_sum 227 = .ok (.invokevirtual 127, 3) := by decide +kernel
theorem dX4_sum_230 : decode cX4_sum 230 = .ok (.ireturn, 1) := by decide +kernel
theorem dX4_take_0 : decode cX4_take 0 = .ok (.aload_n 1, 1) := by decide +kernel
theorem dX4_take_1 : decode cX4_take 1 = .ok (.invokestatic 72, 3) := by decide +kernel
theorem dX4_take_4 : decode cX4_take 4 = .ok (.iconst 0, 1) := by decide +kernel
theorem dX4_take_5 : decode cX4_take 5 = .ok (.istore_n 3, 1) := by decide +kernel
theorem dX4_take_6 : decode cX4_take 6 = .ok (.iload_n 3, 1) := by decide +kernel
theorem dX4_take_7 : decode cX4_take 7 = .ok (.bipush 40, 2) := by decide +kernel
theorem dX4_take_9 : decode cX4_take 9 = .ok (.if_icmp .ge 23, 3) := by decide +kernel
theorem dX4_take_12 : decode cX4_take 12 = .ok (.aload_n 1, 1) := by decide +kernel
theorem dX4_take_13 : decode cX4_take 13 = .ok (.iload_n 3, 1) := by decide +kernel
theorem dX4_take_14 : decode cX4_take 14 = .ok (.aload_n 0, 1) := by decide +kernel
theorem dX4_take_15 : decode cX4_take 15 = .ok (.getfield 20, 3) := by decide +kernel
theorem dX4_take_18 : decode cX4_take 18 = .ok (.bipush 40, 2) := by decide +kernel
theorem dX4_take_20 : decode cX4_take 20 = .ok (.iload_n 2, 1) := by decide +kernel
theorem dX4_take_21 : decode cX4_take 21 = .ok (.imul, 1) := by decide +kernel
theorem dX4_take_22 : decode cX4_take 22 = .ok (.iload_n 3, 1) := by decide +kernel
theorem dX4_take_23 : decode cX4_take 23 = .ok (.iadd, 1) := by decide +kernel
theorem dX4_take_24 : decode cX4_take 24 = .ok (.iaload, 1) := by decide +kernel
theorem dX4_take_25 : decode cX4_take 25 = .ok (.iastore, 1) := by decide +kernel
theorem dX4_take_26 : decode cX4_take 26 = .ok (.iinc 3 1, 3) := by decide +kernel
theorem dX4_take_29 : decode cX4_take 29 = .ok (.goto (-23), 3) := by decide +kernel
theorem dX4_take_32 : decode cX4_take 32 = .ok (.return_, 1) := by decide +kernel
theorem dX4_subtract_0 : decode cX4_subtract 0 = .ok (.aload_n 0, 1) := by decide +kernel
theorem dX4_subtract_1 : decode cX4_subtract 1 = .ok (.iload_n 1, 1) := by decide +kernel
theorem dX4_subtract_2 : decode cX4_subtract 2 = .ok (.iload_n 2, 1) := by decide +kernel
theorem dX4_subtract_3 : decode cX4_subtract 3 = .ok (.iload_n 3, 1) := by decide +kernel
theorem dX4_subtract_4 : decode cX4_subtract 4 = .ok (.iconst 1, 1) := by decide +kernel
theorem dX4_subtract_5 : decode cX4_subtract 5 = .ok (.invokevirtual 134, 3) := by decide +kernel
theorem dX4_subtract_8 : decode cX4_subtract 8 = .ok (.ireturn, 1) := by decide +kernel
theorem dX4_multiply_0 : decode cX4_multiply 0 = .ok (.iload_n 1, 1) := by decide +kernel
theorem dX4_multiply_1 : decode cX4_multiply 1 = .ok (.bipush 8, 2) := by decide +kernel
theorem dX4_multiply_3 : decode cX4_multiply 3 = .ok (.invokestatic 123, 3) := by decide +kernel
theorem dX4_multiply_6 : decode cX4_multiply 6 = .ok (.ifCond .ne 22, 3) := by decide +kernel
theorem dX4_multiply_9 : decode cX4_multiply 9 = .ok (.iload_n 2, 1) := by decide +kernel
theorem dX4_multiply_10 : decode cX4_multiply 10 = .ok (.bipush 8, 2) := by decide +kernel
theorem dX4_multiply_12 : decode cX4_multiply 12 = .ok (.invokestatic 123, 3) := by decide +kernel
theorem dX4_multiply_15 : decode cX4_multiply 15 = .ok (.ifCond .ne 13, 3) := by decide +kernel
theorem dX4_multiply_18 : decode cX4_multiply 18 = .ok (.iload 5, 2) := by decide +kernel
theorem dX4_multiply_20 : decode cX4_multiply 20 = .ok (.bipush 10, 2) := by decide +kernel
theorem dX4_multiply_22 : decode cX4_multiply 22 = .ok (.invokestatic 123, 3) := by decide +kernel
theorem dX4_multiply_25 : decode cX4_multiply 25 = .ok (.ifCond .eq 6, 3) := by decide +kernel
theorem dX4_multiply_28 : decode cX4_multiply 28 = .ok (.bipush (-15), 2) := by decide +kernel
theorem dX4_multiply_30 : decode cX4_multiply 30 = .ok (.ireturn, 1) := by decide +kernel
theorem dX4_multiply_31 : decode cX4_multiply 31 = .ok (.aload_n 0, 1) := by decide +kernel
theorem dX4_multiply_32 : decode cX4_multiply 32 = .ok (.getfield 7, 3) := by decide +kernel
theorem dX4_multiply_35 : decode cX4_multiply 35 = .ok (.iload_n 2, 1) := by decide +kernel
theorem dX4_multiply_36 : decode cX4_multiply 36 = .ok (.iaload, 1) := by decide +kernel
theorem dX4_multiply_37 : decode cX4_multiply 37 = .ok (.ifCond .ge 6, 3) := by decide +kernel
theorem dX4_multiply_40 : decode cX4_multiply 40 = .ok (.bipush (-11), 2) := by decide +kernel
theorem dX4_multiply_42 : decode cX4_multiply 42 = .ok (.ireturn, 1) := by decide +kernel
theorem dX4_multiply_43 : decode cX4_multiply 43 = .ok (.aload_n 0, 1) := by decide +kernel
theorem dX4_multiply_44 : decode cX4_multiply 44 = .ok (.aload_n 0, 1) := by decide +kernel
theorem dX4_multiply_45 : decode cX4_multiply 45 = .ok (.getfield 47, 3) := by decide +kernel
theorem dX4_multiply_48 : decode cX4_multiply 48 = .ok (.iload_n 2, 1) := by decide +kernel
theorem dX4_multiply_49 : decode cX4_multiply 49 = .ok (.invokevirtual 131, 3) := by decide +kernel
theorem dX4_multiply_52 : decode cX4_multiply 52 = .ok (.aload_n 0, 1) := by decide +kernel
theorem dX4_multiply_53 : decode cX4_multiply 53 = .ok (.getfield 44, 3) := by decide +kernel
theorem dX4_multiply_56 : decode cX4_multiply 56 = .ok (.lload_n 3, 1) := by decide +kernel
theorem dX4_multiply_57 : decode cX4_multiply 57 = .ok (.invokestatic 100, 3) := by decide +kernel
theorem dX4_multiply_60 : decode cX4_multiply 60 = .ok (.aload_n 0, 1) := by decide +kernel
theorem dX4_multiply_61 : decode cX4_multiply 61 = .ok (.aload_n 0, 1) := by decide +kernel
theorem dX4_multiply_62 : decode cX4_multiply 62 = .ok (.getfield 47, 3) := by decide +kernel
theorem dX4_multiply_65 : decode cX4_multiply 65 = .ok (.aload_n 0, 1) := by decide +kernel
theorem dX4_multiply_66 : decode cX4_multiply 66 = .ok (.getfield 44, 3) := by decide +kernel
theorem dX4_multiply_69 : decode cX4_multiply 69 = .ok (.invokevirtual 138, 3) := by decide +kernel
theorem dX4_multiply_72 : decode cX4_multiply 72 = .ok (.aload_n 0, 1) := by decide +kernel
theorem dX4_multiply_73 : decode cX4_multiply 73 = .ok (.getfield 32, 3) := by decide +kernel
theorem dX4_multiply_76 : decode cX4_multiply 76 = .ok (.lconst 1, 1) := by decide +kernel
theorem dX4_multiply_77 : decode cX4_multiply 77 = .ok (.invokestatic 100, 3) := by decide +kernel
theorem dX4_multiply_80 : decode cX4_multiply 80 = .ok (.aload_n 0, 1) := by decide +kernel
theorem dX4_multiply_81 : decode cX4_multiply 81 = .ok (.getfield 32, 3) := by decide +kernel
theorem dX4_multiply_84 : decode cX4_multiply 84 = .ok (.iload 5, 2) := by decide +kernel
theorem dX4_multiply_86 : decode cX4_multiply 86 = .ok (.invokestatic 82, 3) := by decide +kernel
theorem dX4_multiply_89 : decode cX4_multiply 89 = .ok (.aload_n 0, 1) := by decide +kernel
theorem dX4_multiply_90 : decode cX4_multiply 90 = .ok (.iload_n 1, 1) := by decide +kernel
theorem dX4_multiply_91 : decode cX4_multiply 91 = .ok (.aload_n 0, 1) := by decide +kernel
theorem dX4_multiply_92 : decode cX4_multiply 92 = .ok (.getfield 7, 3) := by decide +kernel
theorem dX4_multiply_95 : decode cX4_multiply 95 = .ok (.iload_n 2, 1) := by decide +kernel
theorem dX4_multiply_96 : decode cX4_multiply 96 = .ok (.iaload, 1) := by decide +kernel
theorem dX4_multiply_97 : decode cX4_multiply 97 = .ok (.aload_n 0, 1) := by decide +kernel
theorem dX4_multiply_98 : decode cX4_multiply 98 = .ok (.getfield 13, 3) := by decide +kernel
theorem dX4_multiply_101 : decode cX4_multiply 101 = .ok (.iload_n 2, 1) := by decide +kernel
theorem dX4_multiply_102 : decode cX4_multiply 102 = .ok (.baload, 1) := by decide +kernel
theorem dX4_multiply_103 : decode cX4_multiply 103 = .ok (.aload_n 0, 1) := by decide +kernel
theorem dX4_multiply_104 : decode cX4_multiply 104 = .ok (.getfield 17, 3) := by decide +kernel
theorem dX4_multiply_107 : decode cX4_multiply 107 = .ok (.iload_n 2, 1) := by decide +kernel
theorem dX4_multiply_108 : decode cX4_multiply 108 = .ok (.baload, 1) := by decide +kernel
theorem dX4_multiply_109 : decode cX4_multiply 109 = .ok (.lload_n 3, 1) := by decide +kernel
theorem dX4_multiply_110 : decode cX4_multiply 110 = .ok (.lconst 0, 1) := by decide +kernel
theorem dX4_multiply_111 : decode cX4_multiply 111 = .ok (.lcmp, 1) := by decide +kernel
theorem dX4_multiply_112 : decode cX4_multiply 112 = .ok (.ifCond .ge 7, 3) := by decide +kernel
theorem dX4_multiply_115 : decode cX4_multiply 115 = .ok (.iconst 1, 1) := by decide +kernel
theorem dX4_multiply_116 : decode cX4_multiply 116 = .ok (.goto 4, 3) := by decide +kernel
theorem dX4_multiply_119 : decode cX4_multiply 119 = .ok (.iconst 0, 1) := by decide +kernel
theorem dX4_multiply_120 : decode cX4_multiply 120 = .ok (.if_icmp .eq 7, 3) := by decide +kernel
theorem dX4_multiply_123 : decode cX4_multiply 123 = .ok (.iconst 1, 1) := by decide +kernel
theorem dX4_multiply_124 : decode cX4_multiply 124 = .ok (.goto 4, 3) := by decide +kernel
theorem dX4_multiply_127 : decode cX4_multiply 127 = .ok (.iconst 0, 1) := by decide +kernel
theorem dX4_multiply_128 : decode cX4_multiply 128 = .ok (.invokevirtual 127, 3) := by decide +kernel
theorem dX4_multiply_131 : decode cX4_multiply 131 = .ok (.ireturn, 1) := by decide +kernel
theorem dX4_product_0 : decode cX4_product 0 = .ok (.aload_n 0, 1) := by decide +kernel
theorem dX4_product_1 : decode cX4_product 1 = .ok (.getfield 29, 3) := by decide +kernel
theorem dX4_product_4 : decode cX4_product 4 = .ok (.invokestatic 72, 3) := by decide +kernel
theorem dX4_product_7 : decode cX4_product 7 = .ok (.aload_n 1, 1) := by decide +kernel
theorem dX4_product_8 : decode cX4_product 8 = .ok (.invokestatic 78, 3) := by decide +kernel
theorem dX4_product_11 : decode cX4_product 11 = .ok (.istore_n 3, 1) := by decide +kernel
theorem dX4_product_12 : decode cX4_product 12 = .ok (.aload_n 2, 1) := by decide +kernel
theorem dX4_product_13 : decode cX4_product 13 = .ok (.invokestatic 78, 3) := by decide +kernel
theorem dX4_product_16 : decode cX4_product 16 = .ok (.istore 4, 2) := by decide +kernel
theorem dX4_product_18 : decode cX4_product 18 = .ok (.iconst 0, 1) := by decide +kernel
theorem dX4_product_19 : decode cX4_product 19 = .ok (.istore 5, 2) := by decide +kernel
theorem dX4_product_21 : decode cX4_product 21 = .ok (.iload 5, 2) := by decide +kernel
theorem dX4_product_23 : decode cX4_product 23 = .ok (.iload_n 3, 1) := by decide +kernel
theorem dX4_product_24 : decode cX4_product 24 = .ok (.if_icmp .ge 91, 3) := by decide +kernel
theorem dX4_product_27 : decode cX4_product 27 = .ok (.iconst 0, 1) := by decide +kernel
theorem dX4_product_28 : decode cX4_product 28 = .ok (.istore 6, 2) := by decide +kernel
theorem dX4_product_30 : decode cX4_product 30 = .ok (.iconst 0, 1) := by decide +kernel
theorem dX4_product_31 : decode cX4_product 31 = .ok (.istore 7, 2) := by decide +kernel
theorem dX4_product_33 : decode cX4_product 33 = .ok (.iload 7, 2) := by decide +kernel
theorem dX4_product_35 : decode cX4_product 35 = .ok (.iload 4, 2) := by decide +kernel
theorem dX4_product_37 : decode cX4_product 37 = .ok (.if_icmp .lt 8, 3) := by decide +kernel
theorem dX4_product_40 : decode cX4_product 40 = .ok (.iload 6, 2) := by decide +kernel
theorem dX4_product_42 : decode cX4_product 42 = .ok (.ifCond .le 67, 3) := by decide +kernel
theorem dX4_product_45 : decode cX4_product 45 = .ok (.aload_n 0, 1) := by decide +kernel
theorem dX4_product_46 : decode cX4_product 46 = .ok (.getfield 29, 3) := by decide +kernel
theorem dX4_product_49 : decode cX4_product 49 = .ok (.iload 5, 2) := by decide +kernel
theorem dX4_product_51 : decode cX4_product 51 = .ok (.iload 7, 2) := by decide +kernel
theorem dX4_product_53 : decode cX4_product 53 = .ok (.iadd, 1) := by decide +kernel
theorem dX4_product_54 : decode cX4_product 54 = .ok (.iaload, 1) := by decide +kernel
theorem dX4_product_55 : decode cX4_product 55 = .ok (.iload 6, 2) := by decide +kernel
theorem dX4_product_57 : decode cX4_product 57 = .ok (.iadd, 1) := by decide +kernel
theorem dX4_product_58 : decode cX4_product 58 = .ok (.iload 7, 2) := by decide +kernel
theorem dX4_product_60 : decode cX4_product 60 = .ok (.iload 4, 2) := by decide +kernel
theorem dX4_product_62 : decode cX4_product 62 = .ok (.if_icmp .ge 15, 3) := by decide +kernel
theorem dX4_product_65 : decode cX4_product 65 = .ok (.aload_n 1, 1) := by decide +kernel
theorem dX4_product_66 : decode cX4_product 66 = .ok (.iload 5, 2) := by decide +kernel
theorem dX4_product_68 : decode cX4_product 68 = .ok (.iaload, 1) := by decide +kernel
theorem dX4_product_69 : decode cX4_product 69 = .ok (.aload_n 2, 1) := by decide +kernel
theorem dX4_product_70 : decode cX4_product 70 = .ok (.iload 7, 2) := by decide +kernel
theorem dX4_product_72 : decode cX4_product 72 = .ok (.iaload, 1) := by decide +kernel
theorem dX4_product_73 : decode cX4_product 73 = .ok (.imul, 1) := by decide +kernel
theorem dX4_product_74 : decode cX4_product 74 = .ok (.goto 4, 3) := by decide +kernel
theorem dX4_product_77 : decode cX4_product 77 = .ok (.iconst 0, 1) := by decide +kernel
theorem dX4_product_78 : decode cX4_product 78 = .ok (.iadd, 1) := by decide +kernel
theorem dX4_product_79 : decode cX4_product 79 = .ok (.istore 8, 2) := by decide +kernel
theorem dX4_product_81 : decode cX4_product 81 = .ok (.aload_n 0, 1) := by decide +kernel
theorem dX4_product_82 : decode cX4_product 82 = .ok (.getfield 29, 3) := by decide +kernel
theorem dX4_product_85 : decode cX4_product 85 = .ok (.iload 5, 2) := by decide +kernel
theorem dX4_product_87 : decode cX4_product 87 = .ok (.iload 7, 2) := by decide +kernel
theorem dX4_product_89 : decode cX4_product 89 = .ok (.iadd, 1) := by decide +kernel
theorem dX4_product_90 : decode cX4_product 90 = .ok (.iload 8, 2) := by decide +kernel
theorem dX4_product_92 : decode cX4_product 92 = .ok (.bipush 10, 2) := by decide +kernel
theorem dX4_product_94 : decode cX4_product 94 = .ok (.irem, 1) := by decide +kernel
theorem dX4_product_95 : decode cX4_product 95 = .ok (.iastore, 1) := by decide +kernel
theorem dX4_product_96 : decode cX4_product 96 = .ok (.iload 8, 2) := by decide +kernel
theorem dX4_product_98 : decode cX4_product 98 = .ok (.bipush 10, 2) := by decide +kernel
theorem dX4_product_100 : decode cX4_product 100 = .ok (.idiv, 1) := by decide +kernel
theorem dX4_product_101 : decode cX4_product 101 = .ok (.istore 6, 2) := by decide +kernel
theorem dX4_product_103 : decode cX4_product 103 = .ok (.iinc 7 1, 3) := by decide +kernel
theorem dX4_product_106 : decode cX4_product 106 = .ok (.goto (-73), 3) := by decide +kernel
theorem dX4_product_109 : decode cX4_product 109 = .ok (.iinc 5 1, 3) := by decide +kernel
theorem dX4_product_112 : decode cX4_product 112 = .ok (.goto (-91), 3) := by decide +kernel
theorem dX4_product_115 : decode cX4_product 115 = .ok (.return_, 1) := by decide +kernel
theorem dX4_divide_0 : decode cX4_divide 0 = .ok (.iload_n 1, 1) := by decide +kernel
theorem dX4_divide_1 : decode cX4_divide 1 = .ok (.bipush 8, 2) := by decide +kernel
theorem dX4_divide_3 : decode cX4_divide 3 = .ok (.invokestatic 123, 3) := by decide +kernel
theorem dX4_divide_6 : decode cX4_divide 6 = .ok (.ifCond .ne 22, 3) := by decide +kernel
theorem dX4_divide_9 : decode cX4_divide 9 = .ok (.iload_n 2, 1) := by decide +kernel
theorem dX4_divide_10 : decode cX4_divide 10 = .ok (.bipush 8, 2) := by decide +kernel
theorem dX4_divide_12 : decode cX4_divide 12 = .ok (.invokestatic 123, 3) := by decide +kernel
theorem dX4_divide_15 : decode cX4_divide 15 = .ok (.ifCond .ne 13, 3) := by decide +kernel
theorem dX4_divide_18 : decode cX4_divide 18 = .ok (.iload 5, 2) := by decide +kernel
theorem dX4_divide_20 : decode cX4_divide 20 = .ok (.bipush 10, 2) := by decide +kernel
theorem dX4_divide_22 : decode cX4_divide 22 = .ok (.invokestatic 123, 3) := by decide +kernel
theorem dX4_divide_25 : decode cX4_divide 25 = .ok (.ifCond .eq 6, 3) := by decide +kernel
theorem dX4_divide_28 : decode cX4_divide 28 = .ok (.bipush (-15), 2) := by decide +kernel
theorem dX4_divide_30 : decode cX4_divide 30 = .ok (.ireturn, 1) := by decide +kernel
theorem dX4_divide_31 : decode cX4_divide 31 = .ok (.aload_n 0, 1) := by decide +kernel
theorem dX4_divide_32 : decode cX4_divide 32 = .ok (.getfield 7, 3) := by decide +kernel
theorem dX4_divide_35 : decode cX4_divide 35 = .ok (.iload_n 2, 1) := by decide +kernel
theorem dX4_divide_36 : decode cX4_divide 36 = .ok (.iaload, 1) := by decide +kernel
theorem dX4_divide_37 : decode cX4_divide 37 = .ok (.ifCond .ge 6, 3) := by decide +kernel
theorem dX4_divide_40 : decode cX4_divide 40 = .ok (.bipush (-11), 2) := by decide +kernel
theorem dX4_divide_42 : decode cX4_divide 42 = .ok (.ireturn, 1) := by decide +kernel
theorem dX4_divide_43 : decode cX4_divide 43 = .ok (.lload_n 3, 1) := by decide +kernel
theorem dX4_divide_44 : decode cX4_divide 44 = .ok (.lconst 0, 1) := by decide +kernel
theorem dX4_divide_45 : decode cX4_divide 45 = .ok (.lcmp, 1) := by decide +kernel
theorem dX4_divide_46 : decode cX4_divide 46 = .ok (.ifCond .ne 6, 3) := by decide +kernel
theorem dX4_divide_49 : decode cX4_divide 49 = .ok (.bipush (-14), 2) := by decide +kernel
theorem dX4_divide_51 : decode cX4_divide 51 = .ok (.ireturn, 1) := by decide +kernel
theorem dX4_divide_52 : decode cX4_divide 52 = .ok (.aload_n 0, 1) := by decide +kernel
theorem dX4_divide_53 : decode cX4_divide 53 = .ok (.aload_n 0, 1) := by decide +kernel
theorem dX4_divide_54 : decode cX4_divide 54 = .ok (.getfield 29, 3) := by decide +kernel
theorem dX4_divide_57 : decode cX4_divide 57 = .ok (.iload_n 2, 1) := by decide +kernel
theorem dX4_divide_58 : decode cX4_divide 58 = .ok (.invokevirtual 131, 3) := by decide +kernel
theorem dX4_divide_61 : decode cX4_divide 61 = .ok (.aload_n 0, 1) := by decide +kernel
theorem dX4_divide_62 : decode cX4_divide 62 = .ok (.getfield 29, 3) := by decide +kernel
theorem dX4_divide_65 : decode cX4_divide 65 = .ok (.iload 5, 2) := by decide +kernel
theorem dX4_divide_67 : decode cX4_divide 67 = .ok (.invokestatic 82, 3) := by decide +kernel
theorem dX4_divide_70 : decode cX4_divide 70 = .ok (.aload_n 0, 1) := by decide +kernel
theorem dX4_divide_71 : decode cX4_divide 71 = .ok (.getfield 32, 3) := by decide +kernel
theorem dX4_divide_74 : decode cX4_divide 74 = .ok (.lload_n 3, 1) := by decide +kernel
theorem dX4_divide_75 : decode cX4_divide 75 = .ok (.invokestatic 100, 3) := by decide +kernel
theorem dX4_divide_78 : decode cX4_divide 78 = .ok (.aload_n 0, 1) := by decide +kernel
theorem dX4_divide_79 : decode cX4_divide 79 = .ok (.iload_n 1, 1) := by decide +kernel
theorem dX4_divide_80 : decode cX4_divide 80 = .ok (.aload_n 0, 1) := by decide +kernel
theorem dX4_divide_81 : decode cX4_divide 81 = .ok (.getfield 7, 3) := by decide +kernel
theorem dX4_divide_84 : decode cX4_divide 84 = .ok (.iload_n 2, 1) := by decide +kernel
theorem dX4_divide_85 : decode cX4_divide 85 = .ok (.iaload, 1) := by decide +kernel
theorem dX4_divide_86 : decode cX4_divide 86 = .ok (.aload_n 0, 1) := by decide +kernel
theorem dX4_divide_87 : decode cX4_divide 87 = .ok (.getfield 13, 3) := by decide +kernel
theorem dX4_divide_90 : decode cX4_divide 90 = .ok (.iload_n 2, 1) := by decide +kernel
theorem dX4_divide_91 : decode cX4_divide 91 = .ok (.baload, 1) := by decide +kernel
theorem dX4_divide_92 : decode cX4_divide 92 = .ok (.aload_n 0, 1) := by decide +kernel
theorem dX4_divide_93 : decode cX4_divide 93 = .ok (.getfield 17, 3) := by decide +kernel
theorem dX4_divide_96 : decode cX4_divide 96 = .ok (.iload_n 2, 1) := by decide +kernel
theorem dX4_divide_97 : decode cX4_divide 97 = .ok (.baload, 1) := by decide +kernel
theorem dX4_divide_98 : decode cX4_divide 98 = .ok (.lload_n 3, 1) := by decide +kernel
theorem dX4_divide_99 : decode cX4_divide 99 = .ok (.lconst 0, 1) := by decide +kernel
theorem dX4_divide_100 : decode cX4_divide 100 = .ok (.lcmp, 1) := by decide +kernel
theorem dX4_divide_101 : decode cX4_divide 101 = .ok (.ifCond .ge 7, 3) := by decide +kernel
theorem dX4_divide_104 : decode cX4_divide 104 = .ok (.iconst 1, 1) := by decide +kernel
theorem dX4_divide_105 : decode cX4_divide 105 = .ok (.goto 4, 3) := by decide +kernel
theorem dX4_divide_108 : decode cX4_divide 108 = .ok (.iconst 0, 1) := by decide +kernel
theorem dX4_divide_109 : decode cX4_divide 109 = .ok (.if_icmp .eq 7, 3) := by decide +kernel
theorem dX4_divide_112 : decode cX4_divide 112 = .ok (.iconst 1, 1) := by decide +kernel
theorem dX4_divide_113 : decode cX4_divide 113 = .ok (.goto 4, 3) := by decide +kernel
theorem dX4_divide_116 : decode cX4_divide 116 = .ok (.iconst 0, 1) := by decide +kernel
theorem dX4_divide_117 : decode cX4_divide 117 = .ok (.invokevirtual 127, 3) := by decide +kernel
theorem dX4_divide_120 : decode cX4_divide 120 = .ok (.ireturn, 1) := by decide +kernel
theorem dX4_negate_0 : decode cX4_negate 0 = .ok (.iload_n 1, 1) := by decide +kernel
theorem dX4_negate_1 : decode cX4_negate 1 = .ok (.bipush 8, 2) := by decide +kernel
theorem dX4_negate_3 : decode cX4_negate 3 = .ok (.invokestatic 123, 3) := by decide +kernel
theorem dX4_negate_6 : decode cX4_negate 6 = .ok (.ifCond .ne 12, 3) := by decide +kernel
theorem dX4_negate_9 : decode cX4_negate 9 = .ok (.iload_n 2, 1) := by decide +kernel
theorem dX4_negate_10 : decode cX4_negate 10 = .ok (.bipush 8, 2) := by decide +kernel
theorem dX4_negate_12 : decode cX4_negate 12 = .ok (.invokestatic 123, 3) := by decide +kernel
theorem dX4_negate_15 : decode cX4_negate 15 = .ok (.ifCond .eq 6, 3) := by decide +kernel
theorem dX4_negate_18 : decode cX4_negate 18 = .ok (.bipush (-15), 2) := by decide +kernel
theorem dX4_negate_20 : decode cX4_negate 20 = .ok (.ireturn, 1) := by decide +kernel
theorem dX4_negate_21 : decode cX4_negate 21 = .ok (.aload_n 0, 1) := by decide +kernel
theorem dX4_negate_22 : decode cX4_negate 22 = .ok (.getfield 7, 3) := by decide +kernel
theorem dX4_negate_25 : decode cX4_negate 25 = .ok (.iload_n 2, 1) := by decide +kernel
theorem dX4_negate_26 : decode cX4_negate 26 = .ok (.iaload, 1) := by decide +kernel
theorem dX4_negate_27 : decode cX4_negate 27 = .ok (.ifCond .ge 6, 3) := by decide +kernel
theorem dX4_negate_30 : decode cX4_negate 30 = .ok (.bipush (-11), 2) := by decide +kernel
theorem dX4_negate_32 : decode cX4_negate 32 = .ok (.ireturn, 1) := by decide +kernel
theorem dX4_negate_33 : decode cX4_negate 33 = .ok (.aload_n 0, 1) := by decide +kernel
theorem dX4_negate_34 : decode cX4_negate 34 = .ok (.aload_n 0, 1) := by decide +kernel
theorem dX4_negate_35 : decode cX4_negate 35 = .ok (.getfield 29, 3) := by decide +kernel
theorem dX4_negate_38 : decode cX4_negate 38 = .ok (.iload_n 2, 1) := by decide +kernel
theorem dX4_negate_39 : decode cX4_negate 39 = .ok (.invokevirtual 131, 3) := by decide +kernel
theorem dX4_negate_42 : decode cX4_negate 42 = .ok (.aload_n 0, 1) := by decide +kernel
theorem dX4_negate_43 : decode cX4_negate 43 = .ok (.aload_n 0, 1) := by decide +kernel
theorem dX4_negate_44 : decode cX4_negate 44 = .ok (.getfield 29, 3) := by decide +kernel
theorem dX4_negate_47 : decode cX4_negate 47 = .ok (.aload_n 0, 1) := by decide +kernel
theorem dX4_negate_48 : decode cX4_negate 48 = .ok (.getfield 13, 3) := by decide +kernel
theorem dX4_negate_51 : decode cX4_negate 51 = .ok (.iload_n 2, 1) := by decide +kernel
theorem dX4_negate_52 : decode cX4_negate 52 = .ok (.baload, 1) := by decide +kernel
theorem dX4_negate_53 : decode cX4_negate 53 = .ok (.aload_n 0, 1) := by decide +kernel
theorem dX4_negate_54 : decode cX4_negate 54 = .ok (.getfield 17, 3) := by decide +kernel
theorem dX4_negate_57 : decode cX4_negate 57 = .ok (.iload_n 2, 1) := by decide +kernel
theorem dX4_negate_58 : decode cX4_negate 58 = .ok (.baload, 1) := by decide +kernel
theorem dX4_negate_59 : decode cX4_negate 59 = .ok (.ifCond .ne 7, 3) := by decide +kernel
theorem dX4_negate_62 : decode cX4_negate 62 = .ok (.iconst 1, 1) := by decide +kernel
theorem dX4_negate_63 : decode cX4_negate 63 = .ok (.goto 4, 3) := by decide +kernel
theorem dX4_negate_66 : decode cX4_negate 66 = .ok (.iconst 0, 1) := by decide +kernel
theorem dX4_negate_67 : decode cX4_negate 67 = .ok (.invokevirtual 115, 3) := by decide +kernel
theorem dX4_negate_70 : decode cX4_negate 70 = .ok (.istore_n 3, 1) := by decide +kernel
theorem dX4_negate_71 : decode cX4_negate 71 = .ok (.iload_n 3, 1) := by decide +kernel
theorem dX4_negate_72 : decode cX4_negate 72 = .ok (.ifCond .eq 41, 3) := by decide +kernel
theorem dX4_negate_75 : decode cX4_negate 75 = .ok (.aload_n 0, 1) := by decide +kernel
theorem dX4_negate_76 : decode cX4_negate 76 = .ok (.iload_n 1, 1) := by decide +kernel
theorem dX4_negate_77 : decode cX4_negate 77 = .ok (.aload_n 0, 1) := by decide +kernel
theorem dX4_negate_78 : decode cX4_negate 78 = .ok (.getfield 7, 3) := by decide +kernel
theorem dX4_negate_81 : decode cX4_negate 81 = .ok (.iload_n 2, 1) := by decide +kernel
theorem dX4_negate_82 : decode cX4_negate 82 = .ok (.iaload, 1) := by decide +kernel
theorem dX4_negate_83 : decode cX4_negate 83 = .ok (.aload_n 0, 1) := by decide +kernel
theorem dX4_negate_84 : decode cX4_negate 84 = .ok (.getfield 13, 3) := by decide +kernel
theorem dX4_negate_87 : decode cX4_negate 87 = .ok (.iload_n 2, 1) := by decide +kernel
theorem dX4_negate_88 : decode cX4_negate 88 = .ok (.baload, 1) := by decide +kernel
theorem dX4_negate_89 : decode cX4_negate 89 = .ok (.aload_n 0, 1) := by decide +kernel
theorem dX4_negate_90 : decode cX4_negate 90 = .ok (.getfield 17, 3) := by decide +kernel
theorem dX4_negate_93 : decode cX4_negate 93 = .ok (.iload_n 2, 1) := by decide +kernel
theorem dX4_negate_94 : decode cX4_negate 94 = .ok (.baload, 1) := by decide +kernel
theorem dX4_negate_95 : decode cX4_negate 95 = .ok (.ifCond .ne 7, 3) := by decide +kernel
theorem dX4_negate_98 : decode cX4_negate 98 = .ok (.iconst 1, 1) := by decide +kernel
theorem dX4_negate_99 : decode cX4_negate 99 = .ok (.goto 4, 3) := by decide +kernel
theorem dX4_negate_102 : decode cX4_negate 102 = .ok (.iconst 0, 1) := by decide +kernel
theorem dX4_negate_103 : decode cX4_negate 103 = .ok (.aload_n 0, 1) := by decide +kernel
theorem dX4_negate_104 : decode cX4_negate 104 = .ok (.getfield 29, 3) := by decide +kernel
theorem dX4_negate_107 : decode cX4_negate 107 = .ok (.invokevirtual 119, 3) := by decide +kernel
theorem dX4_negate_110 : decode cX4_negate 110 = .ok (.goto 5, 3) := by decide +kernel
theorem dX4_negate_113 : decode cX4_negate 113 = .ok (.bipush (-13), 2) := by decide +kernel
theorem dX4_negate_115 : decode cX4_negate 115 = .ok (.ireturn, 1) := by decide +kernel
theorem dX4_round_0 : decode cX4_round 0 = .ok (.iload_n 1, 1) := by decide +kernel
theorem dX4_round_1 : decode cX4_round 1 = .ok (.bipush 8, 2) := by decide +kernel
theorem dX4_round_3 : decode cX4_round 3 = .ok (.invokestatic 123, 3) := by decide +kernel
theorem dX4_round_6 : decode cX4_round 6 = .ok (.ifCond .ne 21, 3) := by decide +kernel
theorem dX4_round_9 : decode cX4_round 9 = .ok (.iload_n 2, 1) := by decide +kernel
theorem dX4_round_10 : decode cX4_round 10 = .ok (.bipush 8, 2) := by decide +kernel
theorem dX4_round_12 : decode cX4_round 12 = .ok (.invokestatic 123, 3) := by decide +kernel
theorem dX4_round_15 : decode cX4_round 15 = .ok (.ifCond .ne 12, 3) := by decide +kernel
theorem dX4_round_18 : decode cX4_round 18 = .ok (.iload_n 3, 1) := by decide +kernel
theorem dX4_round_19 : decode cX4_round 19 = .ok (.bipush 8, 2) := by decide +kernel
theorem dX4_round_21 : decode cX4_round 21 = .ok (.invokestatic 123, 3) := by decide +kernel
theorem dX4_round_24 : decode cX4_round 24 = .ok (.ifCond .eq 6, 3) := by decide +kernel
theorem dX4_round_27 : decode cX4_round 27 = .ok (.bipush (-15), 2) := by decide +kernel
theorem dX4_round_29 : decode cX4_round 29 = .ok (.ireturn, 1) := by decide +kernel
theorem dX4_round_30 : decode cX4_round 30 = .ok (.aload_n 0, 1) := by decide +kernel
theorem dX4_round_31 : decode cX4_round 31 = .ok (.getfield 7, 3) := by decide +kernel
theorem dX4_round_34 : decode cX4_round 34 = .ok (.iload_n 2, 1) := by decide +kernel
theorem dX4_round_35 : decode cX4_round 35 = .ok (.iaload, 1) := by decide +kernel
theorem dX4_round_36 : decode cX4_round 36 = .ok (.ifCond .ge 6, 3) := by decide +kernel
theorem dX4_round_39 : decode cX4_round 39 = .ok (.bipush (-11), 2) := by decide +kernel
theorem dX4_round_41 : decode cX4_round 41 = .ok (.ireturn, 1) := by decide +kernel
theorem dX4_round_42 : decode cX4_round 42 = .ok (.aload_n 0, 1) := by decide +kernel
theorem dX4_round_43 : decode cX4_round 43 = .ok (.getfield 7, 3) := by decide +kernel
theorem dX4_round_46 : decode cX4_round 46 = .ok (.iload_n 2, 1) := by decide +kernel
theorem dX4_round_47 : decode cX4_round 47 = .ok (.iaload, 1) := by decide +kernel
theorem dX4_round_48 : decode cX4_round 48 = .ok (.istore 5, 2) := by decide +kernel
theorem dX4_round_50 : decode cX4_round 50 = .ok (.aload_n 0, 1) := by decide +kernel
theorem dX4_round_51 : decode cX4_round 51 = .ok (.iload 5, 2) := by decide +kernel
theorem dX4_round_53 : decode cX4_round 53 = .ok (.iload 4, 2) := by decide +kernel
theorem dX4_round_55 : decode cX4_round 55 = .ok (.ifCond .ne 7, 3) := by decide +kernel
theorem dX4_round_58 : decode cX4_round 58 = .ok (.iconst 1, 1) := by decide +kernel
theorem dX4_round_59 : decode cX4_round 59 = .ok (.goto 24, 3) := by decide +kernel
theorem dX4_round_62 : decode cX4_round 62 = .ok (.iload 5, 2) := by decide +kernel
theorem dX4_round_64 : decode cX4_round 64 = .ok (.iconst 4, 1) := by decide +kernel
theorem dX4_round_65 : decode cX4_round 65 = .ok (.if_icmp .ne 7, 3) := by decide +kernel
theorem dX4_round_68 : decode cX4_round 68 = .ok (.iconst 5, 1) := by decide +kernel
theorem dX4_round_69 : decode cX4_round 69 = .ok (.goto 14, 3) := by decide +kernel
theorem dX4_round_72 : decode cX4_round 72 = .ok (.iload 5, 2) := by decide +kernel
theorem dX4_round_74 : decode cX4_round 74 = .ok (.iconst 5, 1) := by decide +kernel
theorem dX4_round_75 : decode cX4_round 75 = .ok (.if_icmp .ne 7, 3) := by decide +kernel
theorem dX4_round_78 : decode cX4_round 78 = .ok (.iconst 2, 1) := by decide +kernel
theorem dX4_round_79 : decode cX4_round 79 = .ok (.goto 4, 3) := by decide +kernel
theorem dX4_round_82 : decode cX4_round 82 = .ok (.iconst 1, 1) := by decide +kernel
theorem dX4_round_83 : decode cX4_round 83 = .ok (.invokevirtual 145, 3) := by decide +kernel
theorem dX4_round_86 : decode cX4_round 86 = .ok (.aload_n 0, 1) := by decide +kernel
theorem dX4_round_87 : decode cX4_round 87 = .ok (.aload_n 0, 1) := by decide +kernel
theorem dX4_round_88 : decode cX4_round 88 = .ok (.getfield 29, 3) := by decide +kernel
theorem dX4_round_91 : decode cX4_round 91 = .ok (.iload_n 2, 1) := by decide +kernel
theorem dX4_round_92 : decode cX4_round 92 = .ok (.invokevirtual 131, 3) := by decide +kernel
theorem dX4_round_95 : decode cX4_round 95 = .ok (.aload_n 0, 1) := by decide +kernel
theorem dX4_round_96 : decode cX4_round 96 = .ok (.invokevirtual 108, 3) := by decide +kernel
theorem dX4_round_99 : decode cX4_round 99 = .ok (.aload_n 0, 1) := by decide +kernel
theorem dX4_round_100 : decode cX4_round 100 = .ok (.aload_n 0, 1) := by decide +kernel
theorem dX4_round_101 : decode cX4_round 101 = .ok (.getfield 17, 3) := by decide +kernel
theorem dX4_round_104 : decode cX4_round 104 = .ok (.iload_n 2, 1) := by decide +kernel
theorem dX4_round_105 : decode cX4_round 105 = .ok (.baload, 1) := by decide +kernel
theorem dX4_round_106 : decode cX4_round 106 = .ok (.iload_n 3, 1) := by decide +kernel
theorem dX4_round_107 : decode cX4_round 107 = .ok (.invokevirtual 111, 3) := by decide +kernel
theorem dX4_round_110 : decode cX4_round 110 = .ok (.ifCond .ne 6, 3) := by decide +kernel
theorem dX4_round_113 : decode cX4_round 113 = .ok (.bipush (-16), 2) := by decide +kernel
theorem dX4_round_115 : decode cX4_round 115 = .ok (.ireturn, 1) := by decide +kernel
theorem dX4_round_116 : decode cX4_round 116 = .ok (.aload_n 0, 1) := by decide +kernel
theorem dX4_round_117 : decode cX4_round 117 = .ok (.aload_n 0, 1) := by decide +kernel
theorem dX4_round_118 : decode cX4_round 118 = .ok (.getfield 38, 3) := by decide +kernel
theorem dX4_round_121 : decode cX4_round 121 = .ok (.aload_n 0, 1) := by decide +kernel
theorem dX4_round_122 : decode cX4_round 122 = .ok (.getfield 35, 3) := by decide +kernel
theorem dX4_round_125 : decode cX4_round 125 = .ok (.invokevirtual 138, 3) := by decide +kernel
theorem dX4_round_128 : decode cX4_round 128 = .ok (.aload_n 0, 1) := by decide +kernel
theorem dX4_round_129 : decode cX4_round 129 = .ok (.aload_n 0, 1) := by decide +kernel
theorem dX4_round_130 : decode cX4_round 130 = .ok (.getfield 29, 3) := by decide +kernel
theorem dX4_round_133 : decode cX4_round 133 = .ok (.aload_n 0, 1) := by decide +kernel
theorem dX4_round_134 : decode cX4_round 134 = .ok (.getfield 13, 3) := by decide +kernel
theorem dX4_round_137 : decode cX4_round 137 = .ok (.iload_n 2, 1) := by decide +kernel
theorem dX4_round_138 : decode cX4_round 138 = .ok (.baload, 1) := by decide +kernel
theorem dX4_round_139 : decode cX4_round 139 = .ok (.aload_n 0, 1) := by decide +kernel
theorem dX4_round_140 : decode cX4_round 140 = .ok (.getfield 17, 3) := by decide +kernel
theorem dX4_round_143 : decode cX4_round 143 = .ok (.iload_n 2, 1) := by decide +kernel
theorem dX4_round_144 : decode cX4_round 144 = .ok (.baload, 1) := by decide +kernel
theorem dX4_round_145 : decode cX4_round 145 = .ok (.invokevirtual 115, 3) := by decide +kernel
theorem dX4_round_148 : decode cX4_round 148 = .ok (.ifCond .eq 29, 3) := by decide +kernel
theorem dX4_round_151 : decode cX4_round 151 = .ok (.aload_n 0, 1) := by decide +kernel
theorem dX4_round_152 : decode cX4_round 152 = .ok (.iload_n 1, 1) := by decide +kernel
theorem dX4_round_153 : decode cX4_round 153 = .ok (.iload 5, 2) := by decide +kernel
theorem dX4_round_155 : decode cX4_round 155 = .ok (.aload_n 0, 1) := by decide +kernel
theorem dX4_round_156 : decode cX4_round 156 = .ok (.getfield 13, 3) := by decide +kernel
end
section
theorem dX4_round_159 : decode cX4_round 159 = .ok (.iload_n 2, 1) := by decide +kernel
theorem dX4_round_160 : decode cX4_round 160 = .ok (.baload, 1) := by decide +kernel
theorem dX4_round_161 : decode cX4_round 161 = .ok (.aload_n 0, 1) := by decide +kernel
theorem dX4_round_162 : decode cX4_round 162 = .ok (.getfield 17, 3) := by decide +kernel
theorem dX4_round_165 : decode cX4_round 165 = .ok (.iload_n 2, 1) := by decide +kernel
theorem dX4_round_166 : decode cX4_round 166 = .ok (.baload, 1) := by decide +kernel
theorem dX4_round_167 : decode cX4_round 167 = .ok (.aload_n 0, 1) := by decide +kernel
theorem dX4_round_168 : decode cX4_round 168 = .ok (.getfield 29, 3) := by decide +kernel
theorem dX4_round_171 : decode cX4_round 171 = .ok (.invokevirtual 119, 3) := by decide +kernel
theorem dX4_round_174 : decode cX4_round 174 = .ok (.goto 5, 3) := by decide +kernel
theorem dX4_round_177 : decode cX4_round 177 = .ok (.bipush (-13), 2) := by decide +kernel
theorem dX4_round_179 : decode cX4_round 179 = .ok (.ireturn, 1) := by decide +kernel
theorem dX4_step_0 : decode cX4_step 0 = .ok (.aload_n 0, 1) := by decide +kernel
theorem dX4_step_1 : decode cX4_step 1 = .ok (.getfield 35, 3) := by decide +kernel
theorem dX4_step_4 : decode cX4_step 4 = .ok (.iload_n 2, 1) := by decide +kernel
theorem dX4_step_5 : decode cX4_step 5 = .ok (.i2l, 1) := by decide +kernel
theorem dX4_step_6 : decode cX4_step 6 = .ok (.invokestatic 100, 3) := by decide +kernel
theorem dX4_step_9 : decode cX4_step 9 = .ok (.aload_n 0, 1) := by decide +kernel
theorem dX4_step_10 : decode cX4_step 10 = .ok (.getfield 35, 3) := by decide +kernel
theorem dX4_step_13 : decode cX4_step 13 = .ok (.bipush 10, 2) := by decide +kernel
theorem dX4_step_15 : decode cX4_step 15 = .ok (.iload_n 1, 1) := by decide +kernel
theorem dX4_step_16 : decode cX4_step 16 = .ok (.invokestatic 141, 3) := by decide +kernel
theorem dX4_step_19 : decode cX4_step 19 = .ok (.isub, 1) := by decide +kernel
theorem dX4_step_20 : decode cX4_step 20 = .ok (.invokestatic 82, 3) := by decide +kernel
theorem dX4_step_23 : decode cX4_step 23 = .ok (.return_, 1) := by decide +kernel
theorem dX4_digitsOf_0 : decode cX4_digitsOf 0 = .ok (.iload_n 0, 1) := by decide +kernel
theorem dX4_digitsOf_1 : decode cX4_digitsOf 1 = .ok (.iconst 1, 1) := by decide +kernel
theorem dX4_digitsOf_2 : decode cX4_digitsOf 2 = .ok (.if_icmp .ne 7, 3) := by decide +kernel
theorem dX4_digitsOf_5 : decode cX4_digitsOf 5 = .ok (.iconst 0, 1) := by decide +kernel
theorem dX4_digitsOf_6 : decode cX4_digitsOf 6 = .ok (.goto 31, 3) := by decide +kernel
theorem dX4_digitsOf_9 : decode cX4_digitsOf 9 = .ok (.iload_n 0, 1) := by decide +kernel
theorem dX4_digitsOf_10 : decode cX4_digitsOf 10 = .ok (.iconst 2, 1) := by decide +kernel
theorem dX4_digitsOf_11 : decode cX4_digitsOf 11 = .ok (.if_icmp .ne 7, 3) := by decide +kernel
theorem dX4_digitsOf_14 : decode cX4_digitsOf 14 = .ok (.iconst 3, 1) := by decide +kernel
theorem dX4_digitsOf_15 : decode cX4_digitsOf 15 = .ok (.goto 22, 3) := by decide +kernel
theorem dX4_digitsOf_18 : decode cX4_digitsOf 18 = .ok (.iload_n 0, 1) := by decide +kernel
theorem dX4_digitsOf_19 : decode cX4_digitsOf 19 = .ok (.iconst 3, 1) := by decide +kernel
theorem dX4_digitsOf_20 : decode cX4_digitsOf 20 = .ok (.if_icmp .ne 7, 3) := by decide +kernel
theorem dX4_digitsOf_23 : decode cX4_digitsOf 23 = .ok (.iconst 4, 1) := by decide +kernel
theorem dX4_digitsOf_24 : decode cX4_digitsOf 24 = .ok (.goto 13, 3) := by decide +kernel
theorem dX4_digitsOf_27 : decode cX4_digitsOf 27 = .ok (.iload_n 0, 1) := by decide +kernel
theorem dX4_digitsOf_28 : decode cX4_digitsOf 28 = .ok (.iconst 5, 1) := by decide +kernel
theorem dX4_digitsOf_29 : decode cX4_digitsOf 29 = .ok (.if_icmp .ne 7, 3) := by decide +kernel
theorem dX4_digitsOf_32 : decode cX4_digitsOf 32 = .ok (.iconst 1, 1) := by decide +kernel
theorem dX4_digitsOf_33 : decode cX4_digitsOf 33 = .ok (.goto 4, 3) := by decide +kernel
theorem dX4_digitsOf_36 : decode cX4_digitsOf 36 = .ok (.iconst 2, 1) := by decide +kernel
theorem dX4_digitsOf_37 : decode cX4_digitsOf 37 = .ok (.ireturn, 1) := by decide +kernel
theorem dX4_ratio_0 : decode cX4_ratio 0 = .ok (.iload_n 1, 1) := by decide +kernel
theorem dX4_ratio_1 : decode cX4_ratio 1 = .ok (.bipush 8, 2) := by decide +kernel
theorem dX4_ratio_3 : decode cX4_ratio 3 = .ok (.invokestatic 123, 3) := by decide +kernel
theorem dX4_ratio_6 : decode cX4_ratio 6 = .ok (.ifCond .ne 12, 3) := by decide +kernel
theorem dX4_ratio_9 : decode cX4_ratio 9 = .ok (.iload_n 2, 1) := by decide +kernel
theorem dX4_ratio_10 : decode cX4_ratio 10 = .ok (.ldc 149, 2) := by decide +kernel
theorem dX4_ratio_12 : decode cX4_ratio 12 = .ok (.invokestatic 123, 3) := by decide +kernel
theorem dX4_ratio_15 : decode cX4_ratio 15 = .ok (.ifCond .eq 5, 3) := by decide +kernel
theorem dX4_ratio_18 : decode cX4_ratio 18 = .ok (.iconst 0, 1) := by decide +kernel
theorem dX4_ratio_19 : decode cX4_ratio 19 = .ok (.ireturn, 1) := by decide +kernel
theorem dX4_ratio_20 : decode cX4_ratio 20 = .ok (.aload_n 0, 1) := by decide +kernel
theorem dX4_ratio_21 : decode cX4_ratio 21 = .ok (.getfield 23, 3) := by decide +kernel
theorem dX4_ratio_24 : decode cX4_ratio 24 = .ok (.iload_n 1, 1) := by decide +kernel
theorem dX4_ratio_25 : decode cX4_ratio 25 = .ok (.iload_n 2, 1) := by decide +kernel
theorem dX4_ratio_26 : decode cX4_ratio 26 = .ok (.iastore, 1) := by decide +kernel
theorem dX4_ratio_27 : decode cX4_ratio 27 = .ok (.iconst 1, 1) := by decide +kernel
theorem dX4_ratio_28 : decode cX4_ratio 28 = .ok (.ireturn, 1) := by decide +kernel
theorem dX4_allocate_0 : decode cX4_allocate 0 = .ok (.iload_n 1, 1) := by decide +kernel
theorem dX4_allocate_1 : decode cX4_allocate 1 = .ok (.bipush 8, 2) := by decide +kernel
theorem dX4_allocate_3 : decode cX4_allocate 3 = .ok (.invokestatic 123, 3) := by decide +kernel
theorem dX4_allocate_6 : decode cX4_allocate 6 = .ok (.ifCond .ne 37, 3) := by decide +kernel
theorem dX4_allocate_9 : decode cX4_allocate 9 = .ok (.iload_n 2, 1) := by decide +kernel
theorem dX4_allocate_10 : decode cX4_allocate 10 = .ok (.bipush 8, 2) := by decide +kernel
theorem dX4_allocate_12 : decode cX4_allocate 12 = .ok (.invokestatic 123, 3) := by decide +kernel
theorem dX4_allocate_15 : decode cX4_allocate 15 = .ok (.ifCond .ne 28, 3) := by decide +kernel
theorem dX4_allocate_18 : decode cX4_allocate 18 = .ok (.iload_n 3, 1) := by decide +kernel
theorem dX4_allocate_19 : decode cX4_allocate 19 = .ok (.iconst 1, 1) := by decide +kernel
theorem dX4_allocate_20 : decode cX4_allocate 20 = .ok (.if_icmp .lt 23, 3) := by decide +kernel
theorem dX4_allocate_23 : decode cX4_allocate 23 = .ok (.iload_n 3, 1) := by decide +kernel
theorem dX4_allocate_24 : decode cX4_allocate 24 = .ok (.bipush 8, 2) := by decide +kernel
theorem dX4_allocate_26 : decode cX4_allocate 26 = .ok (.iload_n 2, 1) := by decide +kernel
theorem dX4_allocate_27 : decode cX4_allocate 27 = .ok (.isub, 1) := by decide +kernel
theorem dX4_allocate_28 : decode cX4_allocate 28 = .ok (.if_icmp .gt 15, 3) := by decide +kernel
theorem dX4_allocate_31 : decode cX4_allocate 31 = .ok (.iload_n 1, 1) := by decide +kernel
theorem dX4_allocate_32 : decode cX4_allocate 32 = .ok (.iload_n 2, 1) := by decide +kernel
theorem dX4_allocate_33 : decode cX4_allocate 33 = .ok (.if_icmp .lt 13, 3) := by decide +kernel
theorem dX4_allocate_36 : decode cX4_allocate 36 = .ok (.iload_n 1, 1) := by decide +kernel
theorem dX4_allocate_37 : decode cX4_allocate 37 = .ok (.iload_n 2, 1) := by decide +kernel
theorem dX4_allocate_38 : decode cX4_allocate 38 = .ok (.iload_n 3, 1) := by decide +kernel
theorem dX4_allocate_39 : decode cX4_allocate 39 = .ok (.iadd, 1) := by decide +kernel
theorem dX4_allocate_40 : decode cX4_allocate 40 = .ok (.if_icmp .ge 6, 3) := by decide +kernel
theorem dX4_allocate_43 : decode cX4_allocate 43 = .ok (.bipush (-15), 2) := by decide +kernel
theorem dX4_allocate_45 : decode cX4_allocate 45 = .ok (.ireturn, 1) := by decide +kernel
theorem dX4_allocate_46 : decode cX4_allocate 46 = .ok (.iconst 0, 1) := by decide +kernel
theorem dX4_allocate_47 : decode cX4_allocate 47 = .ok (.istore 4, 2) := by decide +kernel
theorem dX4_allocate_49 : decode cX4_allocate 49 = .ok (.iconst 0, 1) := by decide +kernel
theorem dX4_allocate_50 : decode cX4_allocate 50 = .ok (.istore 5, 2) := by decide +kernel
theorem dX4_allocate_52 : decode cX4_allocate 52 = .ok (.iload 5, 2) := by decide +kernel
theorem dX4_allocate_54 : decode cX4_allocate 54 = .ok (.iload_n 3, 1) := by decide +kernel
theorem dX4_allocate_55 : decode cX4_allocate 55 = .ok (.if_icmp .ge 21, 3) := by decide +kernel
theorem dX4_allocate_58 : decode cX4_allocate 58 = .ok (.iload 4, 2) := by decide +kernel
theorem dX4_allocate_60 : decode cX4_allocate 60 = .ok (.aload_n 0, 1) := by decide +kernel
theorem dX4_allocate_61 : decode cX4_allocate 61 = .ok (.getfield 23, 3) := by decide +kernel
theorem dX4_allocate_64 : decode cX4_allocate 64 = .ok (.iload 5, 2) := by decide +kernel
theorem dX4_allocate_66 : decode cX4_allocate 66 = .ok (.iaload, 1) := by decide +kernel
theorem dX4_allocate_67 : decode cX4_allocate 67 = .ok (.iadd, 1) := by decide +kernel
theorem dX4_allocate_68 : decode cX4_allocate 68 = .ok (.istore 4, 2) := by decide +kernel
theorem dX4_allocate_70 : decode cX4_allocate 70 = .ok (.iinc 5 1, 3) := by decide +kernel
theorem dX4_allocate_73 : decode cX4_allocate 73 = .ok (.goto (-21), 3) := by decide +kernel
theorem dX4_allocate_76 : decode cX4_allocate 76 = .ok (.iload 4, 2) := by decide +kernel
theorem dX4_allocate_78 : decode cX4_allocate 78 = .ok (.ifCond .ne 6, 3) := by decide +kernel
theorem dX4_allocate_81 : decode cX4_allocate 81 = .ok (.bipush (-15), 2) := by decide +kernel
theorem dX4_allocate_83 : decode cX4_allocate 83 = .ok (.ireturn, 1) := by decide +kernel
theorem dX4_allocate_84 : decode cX4_allocate 84 = .ok (.aload_n 0, 1) := by decide +kernel
theorem dX4_allocate_85 : decode cX4_allocate 85 = .ok (.getfield 7, 3) := by decide +kernel
theorem dX4_allocate_88 : decode cX4_allocate 88 = .ok (.iload_n 1, 1) := by decide +kernel
theorem dX4_allocate_89 : decode cX4_allocate 89 = .ok (.iaload, 1) := by decide +kernel
theorem dX4_allocate_90 : decode cX4_allocate 90 = .ok (.ifCond .ge 6, 3) := by decide +kernel
theorem dX4_allocate_93 : decode cX4_allocate 93 = .ok (.bipush (-11), 2) := by decide +kernel
theorem dX4_allocate_95 : decode cX4_allocate 95 = .ok (.ireturn, 1) := by decide +kernel
theorem dX4_allocate_96 : decode cX4_allocate 96 = .ok (.aload_n 0, 1) := by decide +kernel
theorem dX4_allocate_97 : decode cX4_allocate 97 = .ok (.aload_n 0, 1) := by decide +kernel
theorem dX4_allocate_98 : decode cX4_allocate 98 = .ok (.getfield 7, 3) := by decide +kernel
theorem dX4_allocate_101 : decode cX4_allocate 101 = .ok (.iload_n 1, 1) := by decide +kernel
theorem dX4_allocate_102 : decode cX4_allocate 102 = .ok (.iaload, 1) := by decide +kernel
theorem dX4_allocate_103 : decode cX4_allocate 103 = .ok (.iconst 1, 1) := by decide +kernel
theorem dX4_allocate_104 : decode cX4_allocate 104 = .ok (.invokevirtual 145, 3) := by decide +kernel
theorem dX4_allocate_107 : decode cX4_allocate 107 = .ok (.aload_n 0, 1) := by decide +kernel
theorem dX4_allocate_108 : decode cX4_allocate 108 = .ok (.aload_n 0, 1) := by decide +kernel
theorem dX4_allocate_109 : decode cX4_allocate 109 = .ok (.getfield 29, 3) := by decide +kernel
theorem dX4_allocate_112 : decode cX4_allocate 112 = .ok (.iload_n 1, 1) := by decide +kernel
theorem dX4_allocate_113 : decode cX4_allocate 113 = .ok (.invokevirtual 131, 3) := by decide +kernel
theorem dX4_allocate_116 : decode cX4_allocate 116 = .ok (.aload_n 0, 1) := by decide +kernel
theorem dX4_allocate_117 : decode cX4_allocate 117 = .ok (.invokevirtual 108, 3) := by decide +kernel
theorem dX4_allocate_120 : decode cX4_allocate 120 = .ok (.aload_n 0, 1) := by decide +kernel
theorem dX4_allocate_121 : decode cX4_allocate 121 = .ok (.getfield 41, 3) := by decide +kernel
theorem dX4_allocate_124 : decode cX4_allocate 124 = .ok (.invokestatic 78, 3) := by decide +kernel
theorem dX4_allocate_127 : decode cX4_allocate 127 = .ok (.ifCond .eq 6, 3) := by decide +kernel
theorem dX4_allocate_130 : decode cX4_allocate 130 = .ok (.bipush (-16), 2) := by decide +kernel
theorem dX4_allocate_132 : decode cX4_allocate 132 = .ok (.ireturn, 1) := by decide +kernel
theorem dX4_allocate_133 : decode cX4_allocate 133 = .ok (.aload_n 0, 1) := by decide +kernel
theorem dX4_allocate_134 : decode cX4_allocate 134 = .ok (.getfield 38, 3) := by decide +kernel
theorem dX4_allocate_137 : decode cX4_allocate 137 = .ok (.aload_n 0, 1) := by decide +kernel
theorem dX4_allocate_138 : decode cX4_allocate 138 = .ok (.getfield 47, 3) := by decide +kernel
theorem dX4_allocate_141 : decode cX4_allocate 141 = .ok (.invokestatic 94, 3) := by decide +kernel
theorem dX4_allocate_144 : decode cX4_allocate 144 = .ok (.iconst 0, 1) := by decide +kernel
theorem dX4_allocate_145 : decode cX4_allocate 145 = .ok (.istore 5, 2) := by decide +kernel
theorem dX4_allocate_147 : decode cX4_allocate 147 = .ok (.iload 5, 2) := by decide +kernel
theorem dX4_allocate_149 : decode cX4_allocate 149 = .ok (.iload_n 3, 1) := by decide +kernel
theorem dX4_allocate_150 : decode cX4_allocate 150 = .ok (.if_icmp .ge 17, 3) := by decide +kernel
theorem dX4_allocate_153 : decode cX4_allocate 153 = .ok (.aload_n 0, 1) := by decide +kernel
theorem dX4_allocate_154 : decode cX4_allocate 154 = .ok (.iload 5, 2) := by decide +kernel
theorem dX4_allocate_156 : decode cX4_allocate 156 = .ok (.iload 4, 2) := by decide +kernel
theorem dX4_allocate_158 : decode cX4_allocate 158 = .ok (.invokevirtual 153, 3) := by decide +kernel
theorem dX4_allocate_161 : decode cX4_allocate 161 = .ok (.iinc 5 1, 3) := by decide +kernel
theorem dX4_allocate_164 : decode cX4_allocate 164 = .ok (.goto (-17), 3) := by decide +kernel
theorem dX4_allocate_167 : decode cX4_allocate 167 = .ok (.aload_n 0, 1) := by decide +kernel
theorem dX4_allocate_168 : decode cX4_allocate 168 = .ok (.iload_n 3, 1) := by decide +kernel
theorem dX4_allocate_169 : decode cX4_allocate 169 = .ok (.invokevirtual 156, 3) := by decide +kernel
theorem dX4_allocate_172 : decode cX4_allocate 172 = .ok (.istore 5, 2) := by decide +kernel
theorem dX4_allocate_174 : decode cX4_allocate 174 = .ok (.iconst 0, 1) := by decide +kernel
theorem dX4_allocate_175 : decode cX4_allocate 175 = .ok (.istore 6, 2) := by decide +kernel
theorem dX4_allocate_177 : decode cX4_allocate 177 = .ok (.iload 6, 2) := by decide +kernel
theorem dX4_allocate_179 : decode cX4_allocate 179 = .ok (.iload 5, 2) := by decide +kernel
theorem dX4_allocate_181 : decode cX4_allocate 181 = .ok (.if_icmp .ge 76, 3) := by decide +kernel
theorem dX4_allocate_184 : decode cX4_allocate 184 = .ok (.iconst (-1), 1) := by decide +kernel
theorem dX4_allocate_185 : decode cX4_allocate 185 = .ok (.istore 7, 2) := by decide +kernel
theorem dX4_allocate_187 : decode cX4_allocate 187 = .ok (.iconst 0, 1) := by decide +kernel
theorem dX4_allocate_188 : decode cX4_allocate 188 = .ok (.istore 8, 2) := by decide +kernel
theorem dX4_allocate_190 : decode cX4_allocate 190 = .ok (.iload 8, 2) := by decide +kernel
theorem dX4_allocate_192 : decode cX4_allocate 192 = .ok (.iload_n 3, 1) := by decide +kernel
theorem dX4_allocate_193 : decode cX4_allocate 193 = .ok (.if_icmp .ge 50, 3) := by decide +kernel
theorem dX4_allocate_196 : decode cX4_allocate 196 = .ok (.aload_n 0, 1) := by decide +kernel
theorem dX4_allocate_197 : decode cX4_allocate 197 = .ok (.getfield 56, 3) := by decide +kernel
theorem dX4_allocate_200 : decode cX4_allocate 200 = .ok (.iload 8, 2) := by decide +kernel
theorem dX4_allocate_202 : decode cX4_allocate 202 = .ok (.baload, 1) := by decide +kernel
theorem dX4_allocate_203 : decode cX4_allocate 203 = .ok (.ifCond .ne 30, 3) := by decide +kernel
theorem dX4_allocate_206 : decode cX4_allocate 206 = .ok (.iload 7, 2) := by decide +kernel
theorem dX4_allocate_208 : decode cX4_allocate 208 = .ok (.ifCond .lt 20, 3) := by decide +kernel
theorem dX4_allocate_211 : decode cX4_allocate 211 = .ok (.aload_n 0, 1) := by decide +kernel
theorem dX4_allocate_212 : decode cX4_allocate 212 = .ok (.getfield 53, 3) := by decide +kernel
theorem dX4_allocate_215 : decode cX4_allocate 215 = .ok (.iload 8, 2) := by decide +kernel
theorem dX4_allocate_217 : decode cX4_allocate 217 = .ok (.iaload, 1) := by decide +kernel
theorem dX4_allocate_218 : decode cX4_allocate 218 = .ok (.aload_n 0, 1) := by decide +kernel
theorem dX4_allocate_219 : decode cX4_allocate 219 = .ok (.getfield 53, 3) := by decide +kernel
theorem dX4_allocate_222 : decode cX4_allocate 222 = .ok (.iload 7, 2) := by decide +kernel
theorem dX4_allocate_224 : decode cX4_allocate 224 = .ok (.iaload, 1) := by decide +kernel
theorem dX4_allocate_225 : decode cX4_allocate 225 = .ok (.if_icmp .le 8, 3) := by decide +kernel
theorem dX4_allocate_228 : decode cX4_allocate 228 = .ok (.iload 8, 2) := by decide +kernel
theorem dX4_allocate_230 : decode cX4_allocate 230 = .ok (.goto 5, 3) := by decide +kernel
theorem dX4_allocate_233 : decode cX4_allocate 233 = .ok (.iload 7, 2) := by decide +kernel
theorem dX4_allocate_235 : decode cX4_allocate 235 = .ok (.istore 7, 2) := by decide +kernel
theorem dX4_allocate_237 : decode cX4_allocate 237 = .ok (.iinc 8 1, 3) := by decide +kernel
theorem dX4_allocate_240 : decode cX4_allocate 240 = .ok (.goto (-50), 3) := by decide +kernel
theorem dX4_allocate_243 : decode cX4_allocate 243 = .ok (.aload_n 0, 1) := by decide +kernel
theorem dX4_allocate_244 : decode cX4_allocate 244 = .ok (.getfield 56, 3) := by decide +kernel
theorem dX4_allocate_247 : decode cX4_allocate 247 = .ok (.iload 7, 2) := by decide +kernel
theorem dX4_allocate_249 : decode cX4_allocate 249 = .ok (.iconst 1, 1) := by decide +kernel
theorem dX4_allocate_250 : decode cX4_allocate 250 = .ok (.bastore, 1) := by decide +kernel
theorem dX4_allocate_251 : decode cX4_allocate 251 = .ok (.iinc 6 1, 3) := by decide +kernel
theorem dX4_allocate_254 : decode cX4_allocate 254 = .ok (.goto (-77), 3) := by decide +kernel
theorem dX4_allocate_257 : decode cX4_allocate 257 = .ok (.iconst 0, 1) := by decide +kernel
theorem dX4_allocate_258 : decode cX4_allocate 258 = .ok (.istore 6, 2) := by decide +kernel
theorem dX4_allocate_260 : decode cX4_allocate 260 = .ok (.iload 6, 2) := by decide +kernel
theorem dX4_allocate_262 : decode cX4_allocate 262 = .ok (.iload_n 3, 1) := by decide +kernel
theorem dX4_allocate_263 : decode cX4_allocate 263 = .ok (.if_icmp .ge 59, 3) := by decide +kernel
theorem dX4_allocate_266 : decode cX4_allocate 266 = .ok (.aload_n 0, 1) := by decide +kernel
theorem dX4_allocate_267 : decode cX4_allocate 267 = .ok (.iload 6, 2) := by decide +kernel
theorem dX4_allocate_269 : decode cX4_allocate 269 = .ok (.bipush 10, 2) := by decide +kernel
theorem dX4_allocate_271 : decode cX4_allocate 271 = .ok (.aload_n 0, 1) := by decide +kernel
theorem dX4_allocate_272 : decode cX4_allocate 272 = .ok (.getfield 7, 3) := by decide +kernel
theorem dX4_allocate_275 : decode cX4_allocate 275 = .ok (.iload_n 1, 1) := by decide +kernel
theorem dX4_allocate_276 : decode cX4_allocate 276 = .ok (.iaload, 1) := by decide +kernel
theorem dX4_allocate_277 : decode cX4_allocate 277 = .ok (.invokestatic 141, 3) := by decide +kernel
theorem dX4_allocate_280 : decode cX4_allocate 280 = .ok (.isub, 1) := by decide +kernel
theorem dX4_allocate_281 : decode cX4_allocate 281 = .ok (.invokevirtual 159, 3) := by decide +kernel
theorem dX4_allocate_284 : decode cX4_allocate 284 = .ok (.aload_n 0, 1) := by decide +kernel
theorem dX4_allocate_285 : decode cX4_allocate 285 = .ok (.iload_n 2, 1) := by decide +kernel
theorem dX4_allocate_286 : decode cX4_allocate 286 = .ok (.iload 6, 2) := by decide +kernel
theorem dX4_allocate_288 : decode cX4_allocate 288 = .ok (.iadd, 1) := by decide +kernel
theorem dX4_allocate_289 : decode cX4_allocate 289 = .ok (.aload_n 0, 1) := by decide +kernel
theorem dX4_allocate_290 : decode cX4_allocate 290 = .ok (.getfield 7, 3) := by decide +kernel
theorem dX4_allocate_293 : decode cX4_allocate 293 = .ok (.iload_n 1, 1) := by decide +kernel
theorem dX4_allocate_294 : decode cX4_allocate 294 = .ok (.iaload, 1) := by decide +kernel
theorem dX4_allocate_295 : decode cX4_allocate 295 = .ok (.aload_n 0, 1) := by decide +kernel
theorem dX4_allocate_296 : decode cX4_allocate 296 = .ok (.getfield 13, 3) := by decide +kernel
theorem dX4_allocate_299 : decode cX4_allocate 299 = .ok (.iload_n 1, 1) := by decide +kernel
theorem dX4_allocate_300 : decode cX4_allocate 300 = .ok (.baload, 1) := by decide +kernel
theorem dX4_allocate_301 : decode cX4_allocate 301 = .ok (.aload_n 0, 1) := by decide +kernel
theorem dX4_allocate_302 : decode cX4_allocate 302 = .ok (.getfield 17, 3) := by decide +kernel
theorem dX4_allocate_305 : decode cX4_allocate 305 = .ok (.iload_n 1, 1) := by decide +kernel
theorem dX4_allocate_306 : decode cX4_allocate 306 = .ok (.baload, 1) := by decide +kernel
theorem dX4_allocate_307 : decode cX4_allocate 307 = .ok (.aload_n 0, 1) := by decide +kernel
theorem dX4_allocate_308 : decode cX4_allocate 308 = .ok (.getfield 29, 3) := by decide +kernel
theorem dX4_allocate_311 : decode cX4_allocate 311 = .ok (.invokevirtual 119, 3) := by decide +kernel
theorem dX4_allocate_314 : decode cX4_allocate 314 = .ok (.istore 7, 2) := by decide +kernel
theorem dX4_allocate_316 : decode cX4_allocate 316 = .ok (.iinc 6 1, 3) := by decide +kernel
theorem dX4_allocate_319 : decode cX4_allocate 319 = .ok (.goto (-59), 3) := by decide +kernel
theorem dX4_allocate_322 : decode cX4_allocate 322 = .ok (.iconst 0, 1) := by decide +kernel
theorem dX4_allocate_323 : decode cX4_allocate 323 = .ok (.ireturn, 1) := by decide +kernel
theorem dX4_cut_0 : decode cX4_cut 0 = .ok (.aload_n 0, 1) := by decide +kernel
theorem dX4_cut_1 : decode cX4_cut 1 = .ok (.getfield 44, 3) := by decide +kernel
theorem dX4_cut_4 : decode cX4_cut 4 = .ok (.aload_n 0, 1) := by decide +kernel
theorem dX4_cut_5 : decode cX4_cut 5 = .ok (.getfield 23, 3) := by decide +kernel
theorem dX4_cut_8 : decode cX4_cut 8 = .ok (.iload_n 1, 1) := by decide +kernel
theorem dX4_cut_9 : decode cX4_cut 9 = .ok (.iaload, 1) := by decide +kernel
theorem dX4_cut_10 : decode cX4_cut 10 = .ok (.i2l, 1) := by decide +kernel
theorem dX4_cut_11 : decode cX4_cut 11 = .ok (.invokestatic 100, 3) := by decide +kernel
theorem dX4_cut_14 : decode cX4_cut 14 = .ok (.aload_n 0, 1) := by decide +kernel
theorem dX4_cut_15 : decode cX4_cut 15 = .ok (.aload_n 0, 1) := by decide +kernel
theorem dX4_cut_16 : decode cX4_cut 16 = .ok (.getfield 47, 3) := by decide +kernel
theorem dX4_cut_19 : decode cX4_cut 19 = .ok (.aload_n 0, 1) := by decide +kernel
theorem dX4_cut_20 : decode cX4_cut 20 = .ok (.getfield 44, 3) := by decide +kernel
theorem dX4_cut_23 : decode cX4_cut 23 = .ok (.invokevirtual 138, 3) := by decide +kernel
theorem dX4_cut_26 : decode cX4_cut 26 = .ok (.aload_n 0, 1) := by decide +kernel
theorem dX4_cut_27 : decode cX4_cut 27 = .ok (.getfield 35, 3) := by decide +kernel
theorem dX4_cut_30 : decode cX4_cut 30 = .ok (.iload_n 2, 1) := by decide +kernel
theorem dX4_cut_31 : decode cX4_cut 31 = .ok (.i2l, 1) := by decide +kernel
theorem dX4_cut_32 : decode cX4_cut 32 = .ok (.invokestatic 100, 3) := by decide +kernel
theorem dX4_cut_35 : decode cX4_cut 35 = .ok (.aload_n 0, 1) := by decide +kernel
theorem dX4_cut_36 : decode cX4_cut 36 = .ok (.invokevirtual 108, 3) := by decide +kernel
theorem dX4_cut_39 : decode cX4_cut 39 = .ok (.iconst 0, 1) := by decide +kernel
theorem dX4_cut_40 : decode cX4_cut 40 = .ok (.istore_n 3, 1) := by decide +kernel
theorem dX4_cut_41 : decode cX4_cut 41 = .ok (.iload_n 3, 1) := by decide +kernel
theorem dX4_cut_42 : decode cX4_cut 42 = .ok (.bipush 40, 2) := by decide +kernel
theorem dX4_cut_44 : decode cX4_cut 44 = .ok (.if_icmp .ge 26, 3) := by decide +kernel
theorem dX4_cut_47 : decode cX4_cut 47 = .ok (.aload_n 0, 1) := by decide +kernel
theorem dX4_cut_48 : decode cX4_cut 48 = .ok (.getfield 50, 3) := by decide +kernel
theorem dX4_cut_51 : decode cX4_cut 51 = .ok (.bipush 40, 2) := by decide +kernel
theorem dX4_cut_53 : decode cX4_cut 53 = .ok (.iload_n 1, 1) := by decide +kernel
theorem dX4_cut_54 : decode cX4_cut 54 = .ok (.imul, 1) := by decide +kernel
theorem dX4_cut_55 : decode cX4_cut 55 = .ok (.iload_n 3, 1) := by decide +kernel
theorem dX4_cut_56 : decode cX4_cut 56 = .ok (.iadd, 1) := by decide +kernel
theorem dX4_cut_57 : decode cX4_cut 57 = .ok (.aload_n 0, 1) := by decide +kernel
theorem dX4_cut_58 : decode cX4_cut 58 = .ok (.getfield 38, 3) := by decide +kernel
theorem dX4_cut_61 : decode cX4_cut 61 = .ok (.iload_n 3, 1) := by decide +kernel
theorem dX4_cut_62 : decode cX4_cut 62 = .ok (.iaload, 1) := by decide +kernel
theorem dX4_cut_63 : decode cX4_cut 63 = .ok (.iastore, 1) := by decide +kernel
theorem dX4_cut_64 : decode cX4_cut 64 = .ok (.iinc 3 1, 3) := by decide +kernel
theorem dX4_cut_67 : decode cX4_cut 67 = .ok (.goto (-26), 3) := by decide +kernel
theorem dX4_cut_70 : decode cX4_cut 70 = .ok (.aload_n 0, 1) := by decide +kernel
theorem dX4_cut_71 : decode cX4_cut 71 = .ok (.getfield 53, 3) := by decide +kernel
theorem dX4_cut_74 : decode cX4_cut 74 = .ok (.iload_n 1, 1) := by decide +kernel
theorem dX4_cut_75 : decode cX4_cut 75 = .ok (.aload_n 0, 1) := by decide +kernel
theorem dX4_cut_76 : decode cX4_cut 76 = .ok (.getfield 41, 3) := by decide +kernel
theorem dX4_cut_79 : decode cX4_cut 79 = .ok (.invokestatic 150, 3) := by decide +kernel
theorem dX4_cut_82 : decode cX4_cut 82 = .ok (.iastore, 1) := by decide +kernel
theorem dX4_cut_83 : decode cX4_cut 83 = .ok (.aload_n 0, 1) := by decide +kernel
theorem dX4_cut_84 : decode cX4_cut 84 = .ok (.getfield 56, 3) := by decide +kernel
theorem dX4_cut_87 : decode cX4_cut 87 = .ok (.iload_n 1, 1) := by decide +kernel
theorem dX4_cut_88 : decode cX4_cut 88 = .ok (.iconst 0, 1) := by decide +kernel
theorem dX4_cut_89 : decode cX4_cut 89 = .ok (.bastore, 1) := by decide +kernel
theorem dX4_cut_90 : decode cX4_cut 90 = .ok (.return_, 1) := by decide +kernel
theorem dX4_small_0 : decode cX4_small 0 = .ok (.iconst 0, 1) := by decide +kernel
theorem dX4_small_1 : decode cX4_small 1 = .ok (.istore_n 1, 1) := by decide +kernel
theorem dX4_small_2 : decode cX4_small 2 = .ok (.bipush 8, 2) := by decide +kernel
theorem dX4_small_4 : decode cX4_small 4 = .ok (.istore_n 2, 1) := by decide +kernel
theorem dX4_small_5 : decode cX4_small 5 = .ok (.iload_n 2, 1) := by decide +kernel
theorem dX4_small_6 : decode cX4_small 6 = .ok (.ifCond .lt 18, 3) := by decide +kernel
theorem dX4_small_9 : decode cX4_small 9 = .ok (.bipush 10, 2) := by decide +kernel
theorem dX4_small_11 : decode cX4_small 11 = .ok (.iload_n 1, 1) := by decide +kernel
theorem dX4_small_12 : decode cX4_small 12 = .ok (.imul, 1) := by decide +kernel
theorem dX4_small_13 : decode cX4_small 13 = .ok (.aload_n 0, 1) := by decide +kernel
theorem dX4_small_14 : decode cX4_small 14 = .ok (.iload_n 2, 1) := by decide +kernel
theorem dX4_small_15 : decode cX4_small 15 = .ok (.iaload, 1) := by decide +kernel
theorem dX4_small_16 : decode cX4_small 16 = .ok (.iadd, 1) := by decide +kernel
theorem dX4_small_17 : decode cX4_small 17 = .ok (.istore_n 1, 1) := by decide +kernel
theorem dX4_small_18 : decode cX4_small 18 = .ok (.iinc 2 (-1), 3) := by decide +kernel
theorem dX4_small_21 : decode cX4_small 21 = .ok (.goto (-16), 3) := by decide +kernel
theorem dX4_small_24 : decode cX4_small 24 = .ok (.iload_n 1, 1) := by decide +kernel
theorem dX4_small_25 : decode cX4_small 25 = .ok (.ireturn, 1) := by decide +kernel
theorem dX4_left_0 : decode cX4_left 0 = .ok (.aload_n 0, 1) := by decide +kernel
theorem dX4_left_1 : decode cX4_left 1 = .ok (.getfield 47, 3) := by decide +kernel
theorem dX4_left_4 : decode cX4_left 4 = .ok (.aload_n 0, 1) := by decide +kernel
theorem dX4_left_5 : decode cX4_left 5 = .ok (.getfield 41, 3) := by decide +kernel
theorem dX4_left_8 : decode cX4_left 8 = .ok (.invokestatic 94, 3) := by decide +kernel
theorem dX4_left_11 : decode cX4_left 11 = .ok (.iconst 0, 1) := by decide +kernel
theorem dX4_left_12 : decode cX4_left 12 = .ok (.istore_n 2, 1) := by decide +kernel
theorem dX4_left_13 : decode cX4_left 13 = .ok (.iload_n 2, 1) := by decide +kernel
theorem dX4_left_14 : decode cX4_left 14 = .ok (.iload_n 1, 1) := by decide +kernel
theorem dX4_left_15 : decode cX4_left 15 = .ok (.if_icmp .ge 58, 3) := by decide +kernel
theorem dX4_left_18 : decode cX4_left 18 = .ok (.aload_n 0, 1) := by decide +kernel
theorem dX4_left_19 : decode cX4_left 19 = .ok (.getfield 44, 3) := by decide +kernel
theorem dX4_left_22 : decode cX4_left 22 = .ok (.invokestatic 72, 3) := by decide +kernel
theorem dX4_left_25 : decode cX4_left 25 = .ok (.iconst 0, 1) := by decide +kernel
theorem dX4_left_26 : decode cX4_left 26 = .ok (.istore_n 3, 1) := by decide +kernel
theorem dX4_left_27 : decode cX4_left 27 = .ok (.iload_n 3, 1) := by decide +kernel
theorem dX4_left_28 : decode cX4_left 28 = .ok (.bipush 40, 2) := by decide +kernel
theorem dX4_left_30 : decode cX4_left 30 = .ok (.if_icmp .ge 26, 3) := by decide +kernel
theorem dX4_left_33 : decode cX4_left 33 = .ok (.aload_n 0, 1) := by decide +kernel
theorem dX4_left_34 : decode cX4_left 34 = .ok (.getfield 44, 3) := by decide +kernel
theorem dX4_left_37 : decode cX4_left 37 = .ok (.iload_n 3, 1) := by decide +kernel
theorem dX4_left_38 : decode cX4_left 38 = .ok (.aload_n 0, 1) := by decide +kernel
theorem dX4_left_39 : decode cX4_left 39 = .ok (.getfield 50, 3) := by decide +kernel
theorem dX4_left_42 : decode cX4_left 42 = .ok (.bipush 40, 2) := by decide +kernel
theorem dX4_left_44 : decode cX4_left 44 = .ok (.iload_n 2, 1) := by decide +kernel
theorem dX4_left_45 : decode cX4_left 45 = .ok (.imul, 1) := by decide +kernel
theorem dX4_left_46 : decode cX4_left 46 = .ok (.iload_n 3, 1) := by decide +kernel
theorem dX4_left_47 : decode cX4_left 47 = .ok (.iadd, 1) := by decide +kernel
theorem dX4_left_48 : decode cX4_left 48 = .ok (.iaload, 1) := by decide +kernel
theorem dX4_left_49 : decode cX4_left 49 = .ok (.iastore, 1) := by decide +kernel
theorem dX4_left_50 : decode cX4_left 50 = .ok (.iinc 3 1, 3) := by decide +kernel
theorem dX4_left_53 : decode cX4_left 53 = .ok (.goto (-26), 3) := by decide +kernel
theorem dX4_left_56 : decode cX4_left 56 = .ok (.aload_n 0, 1) := by decide +kernel
theorem dX4_left_57 : decode cX4_left 57 = .ok (.getfield 41, 3) := by decide +kernel
theorem dX4_left_60 : decode cX4_left 60 = .ok (.aload_n 0, 1) := by decide +kernel
theorem dX4_left_61 : decode cX4_left 61 = .ok (.getfield 44, 3) := by decide +kernel
theorem dX4_left_64 : decode cX4_left 64 = .ok (.invokestatic 90, 3) := by decide +kernel
theorem dX4_left_67 : decode cX4_left 67 = .ok (.iinc 2 1, 3) := by decide +kernel
theorem dX4_left_70 : decode cX4_left 70 = .ok (.goto (-57), 3) := by decide +kernel
theorem dX4_left_73 : decode cX4_left 73 = .ok (.aload_n 0, 1) := by decide +kernel
theorem dX4_left_74 : decode cX4_left 74 = .ok (.getfield 41, 3) := by decide +kernel
theorem dX4_left_77 : decode cX4_left 77 = .ok (.invokestatic 150, 3) := by decide +kernel
theorem dX4_left_80 : decode cX4_left 80 = .ok (.ireturn, 1) := by decide +kernel
theorem dX4_part_0 : decode cX4_part 0 = .ok (.aload_n 0, 1) := by decide +kernel
theorem dX4_part_1 : decode cX4_part 1 = .ok (.getfield 38, 3) := by decide +kernel
theorem dX4_part_4 : decode cX4_part 4 = .ok (.invokestatic 72, 3) := by decide +kernel
theorem dX4_part_7 : decode cX4_part 7 = .ok (.iconst 0, 1) := by decide +kernel
theorem dX4_part_8 : decode cX4_part 8 = .ok (.istore_n 3, 1) := by decide +kernel
theorem dX4_part_9 : decode cX4_part 9 = .ok (.iload_n 3, 1) := by decide +kernel
theorem dX4_part_10 : decode cX4_part 10 = .ok (.bipush 40, 2) := by decide +kernel
theorem dX4_part_12 : decode cX4_part 12 = .ok (.if_icmp .ge 26, 3) := by decide +kernel
theorem dX4_part_15 : decode cX4_part 15 = .ok (.aload_n 0, 1) := by decide +kernel
theorem dX4_part_16 : decode cX4_part 16 = .ok (.getfield 38, 3) := by decide +kernel
theorem dX4_part_19 : decode cX4_part 19 = .ok (.iload_n 3, 1) := by decide +kernel
theorem dX4_part_20 : decode cX4_part 20 = .ok (.aload_n 0, 1) := by decide +kernel
theorem dX4_part_21 : decode cX4_part 21 = .ok (.getfield 50, 3) := by decide +kernel
theorem dX4_part_24 : decode cX4_part 24 = .ok (.bipush 40, 2) := by decide +kernel
theorem dX4_part_26 : decode cX4_part 26 = .ok (.iload_n 1, 1) := by decide +kernel
theorem dX4_part_27 : decode cX4_part 27 = .ok (.imul, 1) := by decide +kernel
theorem dX4_part_28 : decode cX4_part 28 = .ok (.iload_n 3, 1) := by decide +kernel
theorem dX4_part_29 : decode cX4_part 29 = .ok (.iadd, 1) := by decide +kernel
theorem dX4_part_30 : decode cX4_part 30 = .ok (.iaload, 1) := by decide +kernel
theorem dX4_part_31 : decode cX4_part 31 = .ok (.iastore, 1) := by decide +kernel
theorem dX4_part_32 : decode cX4_part 32 = .ok (.iinc 3 1, 3) := by decide +kernel
theorem dX4_part_35 : decode cX4_part 35 = .ok (.goto (-26), 3) := by decide +kernel
theorem dX4_part_38 : decode cX4_part 38 = .ok (.aload_n 0, 1) := by decide +kernel
theorem dX4_part_39 : decode cX4_part 39 = .ok (.getfield 56, 3) := by decide +kernel
theorem dX4_part_42 : decode cX4_part 42 = .ok (.iload_n 1, 1) := by decide +kernel
theorem dX4_part_43 : decode cX4_part 43 = .ok (.baload, 1) := by decide +kernel
theorem dX4_part_44 : decode cX4_part 44 = .ok (.ifCond .eq 22, 3) := by decide +kernel
theorem dX4_part_47 : decode cX4_part 47 = .ok (.aload_n 0, 1) := by decide +kernel
theorem dX4_part_48 : decode cX4_part 48 = .ok (.getfield 44, 3) := by decide +kernel
theorem dX4_part_51 : decode cX4_part 51 = .ok (.lconst 1, 1) := by decide +kernel
theorem dX4_part_52 : decode cX4_part 52 = .ok (.invokestatic 100, 3) := by decide +kernel
theorem dX4_part_55 : decode cX4_part 55 = .ok (.aload_n 0, 1) := by decide +kernel
theorem dX4_part_56 : decode cX4_part 56 = .ok (.getfield 38, 3) := by decide +kernel
theorem dX4_part_59 : decode cX4_part 59 = .ok (.aload_n 0, 1) := by decide +kernel
theorem dX4_part_60 : decode cX4_part 60 = .ok (.getfield 44, 3) := by decide +kernel
theorem dX4_part_63 : decode cX4_part 63 = .ok (.invokestatic 97, 3) := by decide +kernel
theorem dX4_part_66 : decode cX4_part 66 = .ok (.aload_n 0, 1) := by decide +kernel
theorem dX4_part_67 : decode cX4_part 67 = .ok (.getfield 38, 3) := by decide +kernel
theorem dX4_part_70 : decode cX4_part 70 = .ok (.aload_n 0, 1) := by decide +kernel
theorem dX4_part_71 : decode cX4_part 71 = .ok (.getfield 29, 3) := by decide +kernel
theorem dX4_part_74 : decode cX4_part 74 = .ok (.invokestatic 94, 3) := by decide +kernel
theorem dX4_part_77 : decode cX4_part 77 = .ok (.aload_n 0, 1) := by decide +kernel
theorem dX4_part_78 : decode cX4_part 78 = .ok (.getfield 29, 3) := by decide +kernel
theorem dX4_part_81 : decode cX4_part 81 = .ok (.iload_n 2, 1) := by decide +kernel
theorem dX4_part_82 : decode cX4_part 82 = .ok (.invokestatic 82, 3) := by decide +kernel
theorem dX4_part_85 : decode cX4_part 85 = .ok (.return_, 1) := by decide +kernel
theorem dX4_compare_0 : decode cX4_compare 0 = .ok (.iload_n 1, 1) := by decide +kernel
theorem dX4_compare_1 : decode cX4_compare 1 = .ok (.bipush 8, 2) := by decide +kernel
theorem dX4_compare_3 : decode cX4_compare 3 = .ok (.invokestatic 123, 3) := by decide +kernel
theorem dX4_compare_6 : decode cX4_compare 6 = .ok (.ifCond .ne 12, 3) := by decide +kernel
theorem dX4_compare_9 : decode cX4_compare 9 = .ok (.iload_n 2, 1) := by decide +kernel
theorem dX4_compare_10 : decode cX4_compare 10 = .ok (.bipush 8, 2) := by decide +kernel
theorem dX4_compare_12 : decode cX4_compare 12 = .ok (.invokestatic 123, 3) := by decide +kernel
theorem dX4_compare_15 : decode cX4_compare 15 = .ok (.ifCond .eq 6, 3) := by decide +kernel
theorem dX4_compare_18 : decode cX4_compare 18 = .ok (.bipush (-15), 2) := by decide +kernel
theorem dX4_compare_20 : decode cX4_compare 20 = .ok (.ireturn, 1) := by decide +kernel
theorem dX4_compare_21 : decode cX4_compare 21 = .ok (.aload_n 0, 1) := by decide +kernel
theorem dX4_compare_22 : decode cX4_compare 22 = .ok (.getfield 7, 3) := by decide +kernel
theorem dX4_compare_25 : decode cX4_compare 25 = .ok (.iload_n 1, 1) := by decide +kernel
theorem dX4_compare_26 : decode cX4_compare 26 = .ok (.iaload, 1) := by decide +kernel
theorem dX4_compare_27 : decode cX4_compare 27 = .ok (.ifCond .lt 12, 3) := by decide +kernel
theorem dX4_compare_30 : decode cX4_compare 30 = .ok (.aload_n 0, 1) := by decide +kernel
theorem dX4_compare_31 : decode cX4_compare 31 = .ok (.getfield 7, 3) := by decide +kernel
theorem dX4_compare_34 : decode cX4_compare 34 = .ok (.iload_n 2, 1) := by decide +kernel
theorem dX4_compare_35 : decode cX4_compare 35 = .ok (.iaload, 1) := by decide +kernel
theorem dX4_compare_36 : decode cX4_compare 36 = .ok (.ifCond .ge 6, 3) := by decide +kernel
theorem dX4_compare_39 : decode cX4_compare 39 = .ok (.bipush (-11), 2) := by decide +kernel
theorem dX4_compare_41 : decode cX4_compare 41 = .ok (.ireturn, 1) := by decide +kernel
theorem dX4_compare_42 : decode cX4_compare 42 = .ok (.aload_n 0, 1) := by decide +kernel
theorem dX4_compare_43 : decode cX4_compare 43 = .ok (.getfield 7, 3) := by decide +kernel
theorem dX4_compare_46 : decode cX4_compare 46 = .ok (.iload_n 1, 1) := by decide +kernel
theorem dX4_compare_47 : decode cX4_compare 47 = .ok (.iaload, 1) := by decide +kernel
theorem dX4_compare_48 : decode cX4_compare 48 = .ok (.aload_n 0, 1) := by decide +kernel
theorem dX4_compare_49 : decode cX4_compare 49 = .ok (.getfield 7, 3) := by decide +kernel
theorem dX4_compare_52 : decode cX4_compare 52 = .ok (.iload_n 2, 1) := by decide +kernel
theorem dX4_compare_53 : decode cX4_compare 53 = .ok (.iaload, 1) := by decide +kernel
theorem dX4_compare_54 : decode cX4_compare 54 = .ok (.if_icmp .ne 18, 3) := by decide +kernel
theorem dX4_compare_57 : decode cX4_compare 57 = .ok (.aload_n 0, 1) := by decide +kernel
theorem dX4_compare_58 : decode cX4_compare 58 = .ok (.getfield 13, 3) := by decide +kernel
theorem dX4_compare_61 : decode cX4_compare 61 = .ok (.iload_n 1, 1) := by decide +kernel
theorem dX4_compare_62 : decode cX4_compare 62 = .ok (.baload, 1) := by decide +kernel
theorem dX4_compare_63 : decode cX4_compare 63 = .ok (.aload_n 0, 1) := by decide +kernel
theorem dX4_compare_64 : decode cX4_compare 64 = .ok (.getfield 13, 3) := by decide +kernel
theorem dX4_compare_67 : decode cX4_compare 67 = .ok (.iload_n 2, 1) := by decide +kernel
theorem dX4_compare_68 : decode cX4_compare 68 = .ok (.baload, 1) := by decide +kernel
theorem dX4_compare_69 : decode cX4_compare 69 = .ok (.if_icmp .eq 6, 3) := by decide +kernel
theorem dX4_compare_72 : decode cX4_compare 72 = .ok (.bipush (-12), 2) := by decide +kernel
theorem dX4_compare_74 : decode cX4_compare 74 = .ok (.ireturn, 1) := by decide +kernel
theorem dX4_compare_75 : decode cX4_compare 75 = .ok (.aload_n 0, 1) := by decide +kernel
theorem dX4_compare_76 : decode cX4_compare 76 = .ok (.getfield 17, 3) := by decide +kernel
theorem dX4_compare_79 : decode cX4_compare 79 = .ok (.iload_n 1, 1) := by decide +kernel
theorem dX4_compare_80 : decode cX4_compare 80 = .ok (.baload, 1) := by decide +kernel
theorem dX4_compare_81 : decode cX4_compare 81 = .ok (.aload_n 0, 1) := by decide +kernel
theorem dX4_compare_82 : decode cX4_compare 82 = .ok (.getfield 17, 3) := by decide +kernel
theorem dX4_compare_85 : decode cX4_compare 85 = .ok (.iload_n 2, 1) := by decide +kernel
theorem dX4_compare_86 : decode cX4_compare 86 = .ok (.baload, 1) := by decide +kernel
theorem dX4_compare_87 : decode cX4_compare 87 = .ok (.if_icmp .eq 18, 3) := by decide +kernel
theorem dX4_compare_90 : decode cX4_compare 90 = .ok (.aload_n 0, 1) := by decide +kernel
theorem dX4_compare_91 : decode cX4_compare 91 = .ok (.getfield 17, 3) := by decide +kernel
theorem dX4_compare_94 : decode cX4_compare 94 = .ok (.iload_n 1, 1) := by decide +kernel
theorem dX4_compare_95 : decode cX4_compare 95 = .ok (.baload, 1) := by decide +kernel
theorem dX4_compare_96 : decode cX4_compare 96 = .ok (.ifCond .eq 7, 3) := by decide +kernel
theorem dX4_compare_99 : decode cX4_compare 99 = .ok (.iconst (-1), 1) := by decide +kernel
theorem dX4_compare_100 : decode cX4_compare 100 = .ok (.goto 4, 3) := by decide +kernel
theorem dX4_compare_103 : decode cX4_compare 103 = .ok (.iconst 1, 1) := by decide +kernel
theorem dX4_compare_104 : decode cX4_compare 104 = .ok (.ireturn, 1) := by decide +kernel
theorem dX4_compare_105 : decode cX4_compare 105 = .ok (.aload_n 0, 1) := by decide +kernel
theorem dX4_compare_106 : decode cX4_compare 106 = .ok (.aload_n 0, 1) := by decide +kernel
theorem dX4_compare_107 : decode cX4_compare 107 = .ok (.getfield 29, 3) := by decide +kernel
theorem dX4_compare_110 : decode cX4_compare 110 = .ok (.iload_n 1, 1) := by decide +kernel
theorem dX4_compare_111 : decode cX4_compare 111 = .ok (.invokevirtual 131, 3) := by decide +kernel
theorem dX4_compare_114 : decode cX4_compare 114 = .ok (.aload_n 0, 1) := by decide +kernel
theorem dX4_compare_115 : decode cX4_compare 115 = .ok (.aload_n 0, 1) := by decide +kernel
theorem dX4_compare_116 : decode cX4_compare 116 = .ok (.getfield 47, 3) := by decide +kernel
theorem dX4_compare_119 : decode cX4_compare 119 = .ok (.iload_n 2, 1) := by decide +kernel
theorem dX4_compare_120 : decode cX4_compare 120 = .ok (.invokevirtual 131, 3) := by decide +kernel
theorem dX4_compare_123 : decode cX4_compare 123 = .ok (.aload_n 0, 1) := by decide +kernel
theorem dX4_compare_124 : decode cX4_compare 124 = .ok (.getfield 29, 3) := by decide +kernel
theorem dX4_compare_127 : decode cX4_compare 127 = .ok (.aload_n 0, 1) := by decide +kernel
theorem dX4_compare_128 : decode cX4_compare 128 = .ok (.getfield 47, 3) := by decide +kernel
theorem dX4_compare_131 : decode cX4_compare 131 = .ok (.invokestatic 86, 3) := by decide +kernel
theorem dX4_compare_134 : decode cX4_compare 134 = .ok (.istore_n 3, 1) := by decide +kernel
theorem dX4_compare_135 : decode cX4_compare 135 = .ok (.aload_n 0, 1) := by decide +kernel
theorem dX4_compare_136 : decode cX4_compare 136 = .ok (.getfield 17, 3) := by decide +kernel
theorem dX4_compare_139 : decode cX4_compare 139 = .ok (.iload_n 1, 1) := by decide +kernel
theorem dX4_compare_140 : decode cX4_compare 140 = .ok (.baload, 1) := by decide +kernel
theorem dX4_compare_141 : decode cX4_compare 141 = .ok (.ifCond .eq 8, 3) := by decide +kernel
theorem dX4_compare_144 : decode cX4_compare 144 = .ok (.iload_n 3, 1) := by decide +kernel
theorem dX4_compare_145 : decode cX4_compare 145 = .ok (.ineg, 1) := by decide +kernel
theorem dX4_compare_146 : decode cX4_compare 146 = .ok (.goto 4, 3) := by decide +kernel
theorem dX4_compare_149 : decode cX4_compare 149 = .ok (.iload_n 3, 1) := by decide +kernel
theorem dX4_compare_150 : decode cX4_compare 150 = .ok (.ireturn, 1) := by decide +kernel
theorem dX4_sign_0 : decode cX4_sign 0 = .ok (.iload_n 1, 1) := by decide +kernel
theorem dX4_sign_1 : decode cX4_sign 1 = .ok (.bipush 8, 2) := by decide +kernel
theorem dX4_sign_3 : decode cX4_sign 3 = .ok (.invokestatic 123, 3) := by decide +kernel
theorem dX4_sign_6 : decode cX4_sign 6 = .ok (.ifCond .eq 6, 3) := by decide +kernel
theorem dX4_sign_9 : decode cX4_sign 9 = .ok (.bipush (-15), 2) := by decide +kernel
theorem dX4_sign_11 : decode cX4_sign 11 = .ok (.ireturn, 1) := by decide +kernel
theorem dX4_sign_12 : decode cX4_sign 12 = .ok (.aload_n 0, 1) := by decide +kernel
theorem dX4_sign_13 : decode cX4_sign 13 = .ok (.getfield 7, 3) := by decide +kernel
theorem dX4_sign_16 : decode cX4_sign 16 = .ok (.iload_n 1, 1) := by decide +kernel
theorem dX4_sign_17 : decode cX4_sign 17 = .ok (.iaload, 1) := by decide +kernel
theorem dX4_sign_18 : decode cX4_sign 18 = .ok (.ifCond .ge 6, 3) := by decide +kernel
theorem dX4_sign_21 : decode cX4_sign 21 = .ok (.bipush (-11), 2) := by decide +kernel
theorem dX4_sign_23 : decode cX4_sign 23 = .ok (.ireturn, 1) := by decide +kernel
theorem dX4_sign_24 : decode cX4_sign 24 = .ok (.aload_n 0, 1) := by decide +kernel
theorem dX4_sign_25 : decode cX4_sign 25 = .ok (.aload_n 0, 1) := by decide +kernel
theorem dX4_sign_26 : decode cX4_sign 26 = .ok (.getfield 29, 3) := by decide +kernel
theorem dX4_sign_29 : decode cX4_sign 29 = .ok (.iload_n 1, 1) := by decide +kernel
theorem dX4_sign_30 : decode cX4_sign 30 = .ok (.invokevirtual 131, 3) := by decide +kernel
theorem dX4_sign_33 : decode cX4_sign 33 = .ok (.aload_n 0, 1) := by decide +kernel
theorem dX4_sign_34 : decode cX4_sign 34 = .ok (.getfield 17, 3) := by decide +kernel
theorem dX4_sign_37 : decode cX4_sign 37 = .ok (.iload_n 1, 1) := by decide +kernel
theorem dX4_sign_38 : decode cX4_sign 38 = .ok (.baload, 1) := by decide +kernel
theorem dX4_sign_39 : decode cX4_sign 39 = .ok (.ifCond .eq 7, 3) := by decide +kernel
theorem dX4_sign_42 : decode cX4_sign 42 = .ok (.iconst (-1), 1) := by decide +kernel
theorem dX4_sign_43 : decode cX4_sign 43 = .ok (.goto 18, 3) := by decide +kernel
theorem dX4_sign_46 : decode cX4_sign 46 = .ok (.aload_n 0, 1) := by decide +kernel
theorem dX4_sign_47 : decode cX4_sign 47 = .ok (.getfield 29, 3) := by decide +kernel
theorem dX4_sign_50 : decode cX4_sign 50 = .ok (.invokestatic 78, 3) := by decide +kernel
theorem dX4_sign_53 : decode cX4_sign 53 = .ok (.ifCond .ne 7, 3) := by decide +kernel
theorem dX4_sign_56 : decode cX4_sign 56 = .ok (.iconst 0, 1) := by decide +kernel
theorem dX4_sign_57 : decode cX4_sign 57 = .ok (.goto 4, 3) := by decide +kernel
theorem dX4_sign_60 : decode cX4_sign 60 = .ok (.iconst 1, 1) := by decide +kernel
theorem dX4_sign_61 : decode cX4_sign 61 = .ok (.ireturn, 1) := by decide +kernel
theorem dX4_kind_0 : decode cX4_kind 0 = .ok (.iload_n 1, 1) := by decide +kernel
theorem dX4_kind_1 : decode cX4_kind 1 = .ok (.bipush 8, 2) := by decide +kernel
theorem dX4_kind_3 : decode cX4_kind 3 = .ok (.invokestatic 123, 3) := by decide +kernel
theorem dX4_kind_6 : decode cX4_kind 6 = .ok (.ifCond .eq 8, 3) := by decide +kernel
theorem dX4_kind_9 : decode cX4_kind 9 = .ok (.bipush (-15), 2) := by decide +kernel
theorem dX4_kind_11 : decode cX4_kind 11 = .ok (.goto 39, 3) := by decide +kernel
theorem dX4_kind_14 : decode cX4_kind 14 = .ok (.aload_n 0, 1) := by decide +kernel
theorem dX4_kind_15 : decode cX4_kind 15 = .ok (.getfield 7, 3) := by decide +kernel
theorem dX4_kind_18 : decode cX4_kind 18 = .ok (.iload_n 1, 1) := by decide +kernel
theorem dX4_kind_19 : decode cX4_kind 19 = .ok (.iaload, 1) := by decide +kernel
theorem dX4_kind_20 : decode cX4_kind 20 = .ok (.ifCond .ge 8, 3) := by decide +kernel
theorem dX4_kind_23 : decode cX4_kind 23 = .ok (.bipush (-11), 2) := by decide +kernel
theorem dX4_kind_25 : decode cX4_kind 25 = .ok (.goto 25, 3) := by decide +kernel
theorem dX4_kind_28 : decode cX4_kind 28 = .ok (.aload_n 0, 1) := by decide +kernel
theorem dX4_kind_29 : decode cX4_kind 29 = .ok (.getfield 7, 3) := by decide +kernel
theorem dX4_kind_32 : decode cX4_kind 32 = .ok (.iload_n 1, 1) := by decide +kernel
theorem dX4_kind_33 : decode cX4_kind 33 = .ok (.iaload, 1) := by decide +kernel
theorem dX4_kind_34 : decode cX4_kind 34 = .ok (.aload_n 0, 1) := by decide +kernel
theorem dX4_kind_35 : decode cX4_kind 35 = .ok (.getfield 13, 3) := by decide +kernel
theorem dX4_kind_38 : decode cX4_kind 38 = .ok (.iload_n 1, 1) := by decide +kernel
theorem dX4_kind_39 : decode cX4_kind 39 = .ok (.baload, 1) := by decide +kernel
theorem dX4_kind_40 : decode cX4_kind 40 = .ok (.ifCond .eq 8, 3) := by decide +kernel
theorem dX4_kind_43 : decode cX4_kind 43 = .ok (.bipush 8, 2) := by decide +kernel
theorem dX4_kind_45 : decode cX4_kind 45 = .ok (.goto 4, 3) := by decide +kernel
theorem dX4_kind_48 : decode cX4_kind 48 = .ok (.iconst 0, 1) := by decide +kernel
theorem dX4_kind_49 : decode cX4_kind 49 = .ok (.iadd, 1) := by decide +kernel
theorem dX4_kind_50 : decode cX4_kind 50 = .ok (.ireturn, 1) := by decide +kernel
theorem dX4_digits_0 : decode cX4_digits 0 = .ok (.iload_n 1, 1) := by decide +kernel
theorem dX4_digits_1 : decode cX4_digits 1 = .ok (.bipush 8, 2) := by decide +kernel
theorem dX4_digits_3 : decode cX4_digits 3 = .ok (.invokestatic 123, 3) := by decide +kernel
theorem dX4_digits_6 : decode cX4_digits 6 = .ok (.ifCond .ne 11, 3) := by decide +kernel
theorem dX4_digits_9 : decode cX4_digits 9 = .ok (.iload_n 2, 1) := by decide +kernel
theorem dX4_digits_10 : decode cX4_digits 10 = .ok (.iconst 2, 1) := by decide +kernel
theorem dX4_digits_11 : decode cX4_digits 11 = .ok (.invokestatic 123, 3) := by decide +kernel
theorem dX4_digits_14 : decode cX4_digits 14 = .ok (.ifCond .eq 7, 3) := by decide +kernel
theorem dX4_digits_17 : decode cX4_digits 17 = .ok (.ldc2_w 162, 3) := by decide +kernel
theorem dX4_digits_20 : decode cX4_digits 20 = .ok (.lreturn, 1) := by decide +kernel
theorem dX4_digits_21 : decode cX4_digits 21 = .ok (.aload_n 0, 1) := by decide +kernel
theorem dX4_digits_22 : decode cX4_digits 22 = .ok (.getfield 7, 3) := by decide +kernel
theorem dX4_digits_25 : decode cX4_digits 25 = .ok (.iload_n 1, 1) := by decide +kernel
theorem dX4_digits_26 : decode cX4_digits 26 = .ok (.iaload, 1) := by decide +kernel
theorem dX4_digits_27 : decode cX4_digits 27 = .ok (.ifCond .ge 7, 3) := by decide +kernel
theorem dX4_digits_30 : decode cX4_digits 30 = .ok (.ldc2_w 164, 3) := by decide +kernel
theorem dX4_digits_33 : decode cX4_digits 33 = .ok (.lreturn, 1) := by decide +kernel
theorem dX4_digits_34 : decode cX4_digits 34 = .ok (.lconst 0, 1) := by decide +kernel
theorem dX4_digits_35 : decode cX4_digits 35 = .ok (.lstore_n 3, 1) := by decide +kernel
theorem dX4_digits_36 : decode cX4_digits 36 = .ok (.bipush 17, 2) := by decide +kernel
theorem dX4_digits_38 : decode cX4_digits 38 = .ok (.istore 5, 2) := by decide +kernel
theorem dX4_digits_40 : decode cX4_digits 40 = .ok (.iload 5, 2) := by decide +kernel
theorem dX4_digits_42 : decode cX4_digits 42 = .ok (.ifCond .lt 34, 3) := by decide +kernel
theorem dX4_digits_45 : decode cX4_digits 45 = .ok (.ldc2_w 76, 3) := by decide +kernel
theorem dX4_digits_48 : decode cX4_digits 48 = .ok (.lload_n 3, 1) := by decide +kernel
theorem dX4_digits_49 : decode cX4_digits 49 = .ok (.lmul, 1) := by decide +kernel
theorem dX4_digits_50 : decode cX4_digits 50 = .ok (.aload_n 0, 1) := by decide +kernel
theorem dX4_digits_51 : decode cX4_digits 51 = .ok (.getfield 20, 3) := by decide +kernel
theorem dX4_digits_54 : decode cX4_digits 54 = .ok (.bipush 40, 2) := by decide +kernel
theorem dX4_digits_56 : decode cX4_digits 56 = .ok (.iload_n 1, 1) := by decide +kernel
theorem dX4_digits_57 : decode cX4_digits 57 = .ok (.imul, 1) := by decide +kernel
theorem dX4_digits_58 : decode cX4_digits 58 = .ok (.bipush 18, 2) := by decide +kernel
theorem dX4_digits_60 : decode cX4_digits 60 = .ok (.iload_n 2, 1) := by decide +kernel
theorem dX4_digits_61 : decode cX4_digits 61 = .ok (.imul, 1) := by decide +kernel
theorem dX4_digits_62 : decode cX4_digits 62 = .ok (.iadd, 1) := by decide +kernel
theorem dX4_digits_63 : decode cX4_digits 63 = .ok (.iload 5, 2) := by decide +kernel
theorem dX4_digits_65 : decode cX4_digits 65 = .ok (.iadd, 1) := by decide +kernel
theorem dX4_digits_66 : decode cX4_digits 66 = .ok (.iaload, 1) := by decide +kernel
theorem dX4_digits_67 : decode cX4_digits 67 = .ok (.i2l, 1) := by decide +kernel
theorem dX4_digits_68 : decode cX4_digits 68 = .ok (.ladd, 1) := by decide +kernel
theorem dX4_digits_69 : decode cX4_digits 69 = .ok (.lstore_n 3, 1) := by decide +kernel
theorem dX4_digits_70 : decode cX4_digits 70 = .ok (.iinc 5 (-1), 3) := by decide +kernel
theorem dX4_digits_73 : decode cX4_digits 73 = .ok (.goto (-33), 3) := by decide +kernel
theorem dX4_digits_76 : decode cX4_digits 76 = .ok (.lload_n 3, 1) := by decide +kernel
theorem dX4_digits_77 : decode cX4_digits 77 = .ok (.lreturn, 1) := by decide +kernel
theorem dX4_discard_0 : decode cX4_discard 0 = .ok (.iload_n 1, 1) := by decide +kernel
theorem dX4_discard_1 : decode cX4_discard 1 = .ok (.bipush 8, 2) := by decide +kernel
theorem dX4_discard_3 : decode cX4_discard 3 = .ok (.invokestatic 123, 3) := by decide +kernel
theorem dX4_discard_6 : decode cX4_discard 6 = .ok (.ifCond .ne 12, 3) := by decide +kernel
theorem dX4_discard_9 : decode cX4_discard 9 = .ok (.aload_n 0, 1) := by decide +kernel
theorem dX4_discard_10 : decode cX4_discard 10 = .ok (.getfield 7, 3) := by decide +kernel
theorem dX4_discard_13 : decode cX4_discard 13 = .ok (.iload_n 1, 1) := by decide +kernel
theorem dX4_discard_14 : decode cX4_discard 14 = .ok (.iaload, 1) := by decide +kernel
theorem dX4_discard_15 : decode cX4_discard 15 = .ok (.ifCond .ge 5, 3) := by decide +kernel
theorem dX4_discard_18 : decode cX4_discard 18 = .ok (.iconst 0, 1) := by decide +kernel
theorem dX4_discard_19 : decode cX4_discard 19 = .ok (.ireturn, 1) := by decide +kernel
theorem dX4_discard_20 : decode cX4_discard 20 = .ok (.aload_n 0, 1) := by decide +kernel
end
section
theorem dX4_discard_21 : decode cX4_discard 21 = .ok (.getfield 7, 3) := by decide +kernel
theorem dX4_discard_24 : decode cX4_discard 24 = .ok (.iload_n 1, 1) := by decide +kernel
theorem dX4_discard_25 : decode cX4_discard 25 = .ok (.iconst (-1), 1) := by decide +kernel
theorem dX4_discard_26 : decode cX4_discard 26 = .ok (.iastore, 1) := by decide +kernel
theorem dX4_discard_27 : decode cX4_discard 27 = .ok (.iconst 1, 1) := by decide +kernel
theorem dX4_discard_28 : decode cX4_discard 28 = .ok (.ireturn, 1) := by decide +kernel
theorem dX4_format_0 : decode cX4_format 0 = .ok (.iload_n 1, 1) := by decide +kernel
theorem dX4_format_1 : decode cX4_format 1 = .ok (.bipush 8, 2) := by decide +kernel
theorem dX4_format_3 : decode cX4_format 3 = .ok (.invokestatic 123, 3) := by decide +kernel
theorem dX4_format_6 : decode cX4_format 6 = .ok (.ifCond .ne 12, 3) := by decide +kernel
theorem dX4_format_9 : decode cX4_format 9 = .ok (.iload_n 2, 1) := by decide +kernel
theorem dX4_format_10 : decode cX4_format 10 = .ok (.bipush 8, 2) := by decide +kernel
theorem dX4_format_12 : decode cX4_format 12 = .ok (.invokestatic 123, 3) := by decide +kernel
theorem dX4_format_15 : decode cX4_format 15 = .ok (.ifCond .eq 6, 3) := by decide +kernel
theorem dX4_format_18 : decode cX4_format 18 = .ok (.bipush (-15), 2) := by decide +kernel
theorem dX4_format_20 : decode cX4_format 20 = .ok (.ireturn, 1) := by decide +kernel
theorem dX4_format_21 : decode cX4_format 21 = .ok (.aload_n 0, 1) := by decide +kernel
theorem dX4_format_22 : decode cX4_format 22 = .ok (.getfield 7, 3) := by decide +kernel
theorem dX4_format_25 : decode cX4_format 25 = .ok (.iload_n 1, 1) := by decide +kernel
theorem dX4_format_26 : decode cX4_format 26 = .ok (.iaload, 1) := by decide +kernel
theorem dX4_format_27 : decode cX4_format 27 = .ok (.ifCond .ge 6, 3) := by decide +kernel
theorem dX4_format_30 : decode cX4_format 30 = .ok (.bipush (-11), 2) := by decide +kernel
theorem dX4_format_32 : decode cX4_format 32 = .ok (.ireturn, 1) := by decide +kernel
theorem dX4_format_33 : decode cX4_format 33 = .ok (.aload_n 0, 1) := by decide +kernel
theorem dX4_format_34 : decode cX4_format 34 = .ok (.getfield 7, 3) := by decide +kernel
theorem dX4_format_37 : decode cX4_format 37 = .ok (.iload_n 1, 1) := by decide +kernel
theorem dX4_format_38 : decode cX4_format 38 = .ok (.iaload, 1) := by decide +kernel
theorem dX4_format_39 : decode cX4_format 39 = .ok (.istore_n 3, 1) := by decide +kernel
theorem dX4_format_40 : decode cX4_format 40 = .ok (.aload_n 0, 1) := by decide +kernel
theorem dX4_format_41 : decode cX4_format 41 = .ok (.iload_n 3, 1) := by decide +kernel
theorem dX4_format_42 : decode cX4_format 42 = .ok (.iconst 1, 1) := by decide +kernel
theorem dX4_format_43 : decode cX4_format 43 = .ok (.invokevirtual 145, 3) := by decide +kernel
theorem dX4_format_46 : decode cX4_format 46 = .ok (.aload_n 0, 1) := by decide +kernel
theorem dX4_format_47 : decode cX4_format 47 = .ok (.aload_n 0, 1) := by decide +kernel
theorem dX4_format_48 : decode cX4_format 48 = .ok (.getfield 29, 3) := by decide +kernel
theorem dX4_format_51 : decode cX4_format 51 = .ok (.iload_n 1, 1) := by decide +kernel
theorem dX4_format_52 : decode cX4_format 52 = .ok (.invokevirtual 131, 3) := by decide +kernel
theorem dX4_format_55 : decode cX4_format 55 = .ok (.aload_n 0, 1) := by decide +kernel
theorem dX4_format_56 : decode cX4_format 56 = .ok (.invokevirtual 108, 3) := by decide +kernel
theorem dX4_format_59 : decode cX4_format 59 = .ok (.aload_n 0, 1) := by decide +kernel
theorem dX4_format_60 : decode cX4_format 60 = .ok (.aload_n 0, 1) := by decide +kernel
theorem dX4_format_61 : decode cX4_format 61 = .ok (.getfield 17, 3) := by decide +kernel
theorem dX4_format_64 : decode cX4_format 64 = .ok (.iload_n 1, 1) := by decide +kernel
theorem dX4_format_65 : decode cX4_format 65 = .ok (.baload, 1) := by decide +kernel
theorem dX4_format_66 : decode cX4_format 66 = .ok (.bipush 6, 2) := by decide +kernel
theorem dX4_format_68 : decode cX4_format 68 = .ok (.invokevirtual 111, 3) := by decide +kernel
theorem dX4_format_71 : decode cX4_format 71 = .ok (.istore 4, 2) := by decide +kernel
theorem dX4_format_73 : decode cX4_format 73 = .ok (.aload_n 0, 1) := by decide +kernel
theorem dX4_format_74 : decode cX4_format 74 = .ok (.getfield 17, 3) := by decide +kernel
theorem dX4_format_77 : decode cX4_format 77 = .ok (.iload_n 1, 1) := by decide +kernel
theorem dX4_format_78 : decode cX4_format 78 = .ok (.baload, 1) := by decide +kernel
theorem dX4_format_79 : decode cX4_format 79 = .ok (.ifCond .eq 17, 3) := by decide +kernel
theorem dX4_format_82 : decode cX4_format 82 = .ok (.aload_n 0, 1) := by decide +kernel
theorem dX4_format_83 : decode cX4_format 83 = .ok (.getfield 38, 3) := by decide +kernel
theorem dX4_format_86 : decode cX4_format 86 = .ok (.invokestatic 78, 3) := by decide +kernel
theorem dX4_format_89 : decode cX4_format 89 = .ok (.ifCond .le 7, 3) := by decide +kernel
theorem dX4_format_92 : decode cX4_format 92 = .ok (.iconst 1, 1) := by decide +kernel
theorem dX4_format_93 : decode cX4_format 93 = .ok (.goto 4, 3) := by decide +kernel
theorem dX4_format_96 : decode cX4_format 96 = .ok (.iconst 0, 1) := by decide +kernel
theorem dX4_format_97 : decode cX4_format 97 = .ok (.istore 5, 2) := by decide +kernel
theorem dX4_format_99 : decode cX4_format 99 = .ok (.iload_n 2, 1) := by decide +kernel
theorem dX4_format_100 : decode cX4_format 100 = .ok (.iconst 4, 1) := by decide +kernel
theorem dX4_format_101 : decode cX4_format 101 = .ok (.irem, 1) := by decide +kernel
theorem dX4_format_102 : decode cX4_format 102 = .ok (.iconst 2, 1) := by decide +kernel
theorem dX4_format_103 : decode cX4_format 103 = .ok (.if_icmp .lt 7, 3) := by decide +kernel
theorem dX4_format_106 : decode cX4_format 106 = .ok (.iconst 1, 1) := by decide +kernel
theorem dX4_format_107 : decode cX4_format 107 = .ok (.goto 4, 3) := by decide +kernel
theorem dX4_format_110 : decode cX4_format 110 = .ok (.iconst 0, 1) := by decide +kernel
theorem dX4_format_111 : decode cX4_format 111 = .ok (.istore 6, 2) := by decide +kernel
theorem dX4_format_113 : decode cX4_format 113 = .ok (.aload_n 0, 1) := by decide +kernel
theorem dX4_format_114 : decode cX4_format 114 = .ok (.iconst 0, 1) := by decide +kernel
theorem dX4_format_115 : decode cX4_format 115 = .ok (.putfield 166, 3) := by decide +kernel
theorem dX4_format_118 : decode cX4_format 118 = .ok (.iload 6, 2) := by decide +kernel
theorem dX4_format_120 : decode cX4_format 120 = .ok (.ifCond .ne 14, 3) := by decide +kernel
theorem dX4_format_123 : decode cX4_format 123 = .ok (.aload_n 0, 1) := by decide +kernel
theorem dX4_format_124 : decode cX4_format 124 = .ok (.iload_n 3, 1) := by decide +kernel
theorem dX4_format_125 : decode cX4_format 125 = .ok (.invokevirtual 173, 3) := by decide +kernel
theorem dX4_format_128 : decode cX4_format 128 = .ok (.aload_n 0, 1) := by decide +kernel
theorem dX4_format_129 : decode cX4_format 129 = .ok (.bipush 32, 2) := by decide +kernel
theorem dX4_format_131 : decode cX4_format 131 = .ok (.invokevirtual 169, 3) := by decide +kernel
theorem dX4_format_134 : decode cX4_format 134 = .ok (.aload_n 0, 1) := by decide +kernel
theorem dX4_format_135 : decode cX4_format 135 = .ok (.iload_n 3, 1) := by decide +kernel
theorem dX4_format_136 : decode cX4_format 136 = .ok (.invokestatic 141, 3) := by decide +kernel
theorem dX4_format_139 : decode cX4_format 139 = .ok (.iload_n 2, 1) := by decide +kernel
theorem dX4_format_140 : decode cX4_format 140 = .ok (.iload 5, 2) := by decide +kernel
theorem dX4_format_142 : decode cX4_format 142 = .ok (.invokevirtual 176, 3) := by decide +kernel
theorem dX4_format_145 : decode cX4_format 145 = .ok (.iload 6, 2) := by decide +kernel
theorem dX4_format_147 : decode cX4_format 147 = .ok (.ifCond .eq 14, 3) := by decide +kernel
theorem dX4_format_150 : decode cX4_format 150 = .ok (.aload_n 0, 1) := by decide +kernel
theorem dX4_format_151 : decode cX4_format 151 = .ok (.bipush 32, 2) := by decide +kernel
theorem dX4_format_153 : decode cX4_format 153 = .ok (.invokevirtual 169, 3) := by decide +kernel
theorem dX4_format_156 : decode cX4_format 156 = .ok (.aload_n 0, 1) := by decide +kernel
theorem dX4_format_157 : decode cX4_format 157 = .ok (.iload_n 3, 1) := by decide +kernel
theorem dX4_format_158 : decode cX4_format 158 = .ok (.invokevirtual 173, 3) := by decide +kernel
theorem dX4_format_161 : decode cX4_format 161 = .ok (.aload_n 0, 1) := by decide +kernel
theorem dX4_format_162 : decode cX4_format 162 = .ok (.getfield 166, 3) := by decide +kernel
theorem dX4_format_165 : decode cX4_format 165 = .ok (.ireturn, 1) := by decide +kernel
theorem dX4_putCode_0 : decode cX4_putCode 0 = .ok (.iconst 0, 1) := by decide +kernel
theorem dX4_putCode_1 : decode cX4_putCode 1 = .ok (.istore_n 2, 1) := by decide +kernel
theorem dX4_putCode_2 : decode cX4_putCode 2 = .ok (.iload_n 2, 1) := by decide +kernel
theorem dX4_putCode_3 : decode cX4_putCode 3 = .ok (.iconst 3, 1) := by decide +kernel
theorem dX4_putCode_4 : decode cX4_putCode 4 = .ok (.if_icmp .ge 17, 3) := by decide +kernel
theorem dX4_putCode_7 : decode cX4_putCode 7 = .ok (.aload_n 0, 1) := by decide +kernel
theorem dX4_putCode_8 : decode cX4_putCode 8 = .ok (.bipush 65, 2) := by decide +kernel
theorem dX4_putCode_10 : decode cX4_putCode 10 = .ok (.iload_n 1, 1) := by decide +kernel
theorem dX4_putCode_11 : decode cX4_putCode 11 = .ok (.iadd, 1) := by decide +kernel
theorem dX4_putCode_12 : decode cX4_putCode 12 = .ok (.invokevirtual 169, 3) := by decide +kernel
theorem dX4_putCode_15 : decode cX4_putCode 15 = .ok (.iinc 2 1, 3) := by decide +kernel
theorem dX4_putCode_18 : decode cX4_putCode 18 = .ok (.goto (-16), 3) := by decide +kernel
theorem dX4_putCode_21 : decode cX4_putCode 21 = .ok (.return_, 1) := by decide +kernel
theorem dX4_put_0 : decode cX4_put 0 = .ok (.aload_n 0, 1) := by decide +kernel
theorem dX4_put_1 : decode cX4_put 1 = .ok (.getfield 26, 3) := by decide +kernel
theorem dX4_put_4 : decode cX4_put 4 = .ok (.aload_n 0, 1) := by decide +kernel
theorem dX4_put_5 : decode cX4_put 5 = .ok (.getfield 166, 3) := by decide +kernel
theorem dX4_put_8 : decode cX4_put 8 = .ok (.iload_n 1, 1) := by decide +kernel
theorem dX4_put_9 : decode cX4_put 9 = .ok (.iastore, 1) := by decide +kernel
theorem dX4_put_10 : decode cX4_put 10 = .ok (.aload_n 0, 1) := by decide +kernel
theorem dX4_put_11 : decode cX4_put 11 = .ok (.dup, 1) := by decide +kernel
theorem dX4_put_12 : decode cX4_put 12 = .ok (.getfield 166, 3) := by decide +kernel
theorem dX4_put_15 : decode cX4_put 15 = .ok (.iconst 1, 1) := by decide +kernel
theorem dX4_put_16 : decode cX4_put 16 = .ok (.iadd, 1) := by decide +kernel
theorem dX4_put_17 : decode cX4_put 17 = .ok (.putfield 166, 3) := by decide +kernel
theorem dX4_put_20 : decode cX4_put 20 = .ok (.return_, 1) := by decide +kernel
theorem dX4_putNumber_0 : decode cX4_putNumber 0 = .ok (.iload_n 2, 1) := by decide +kernel
theorem dX4_putNumber_1 : decode cX4_putNumber 1 = .ok (.iconst 4, 1) := by decide +kernel
theorem dX4_putNumber_2 : decode cX4_putNumber 2 = .ok (.if_icmp .lt 7, 3) := by decide +kernel
theorem dX4_putNumber_5 : decode cX4_putNumber 5 = .ok (.iconst 1, 1) := by decide +kernel
theorem dX4_putNumber_6 : decode cX4_putNumber 6 = .ok (.goto 4, 3) := by decide +kernel
theorem dX4_putNumber_9 : decode cX4_putNumber 9 = .ok (.iconst 0, 1) := by decide +kernel
theorem dX4_putNumber_10 : decode cX4_putNumber 10 = .ok (.istore 4, 2) := by decide +kernel
theorem dX4_putNumber_12 : decode cX4_putNumber 12 = .ok (.iload_n 3, 1) := by decide +kernel
theorem dX4_putNumber_13 : decode cX4_putNumber 13 = .ok (.ifCond .eq 19, 3) := by decide +kernel
theorem dX4_putNumber_16 : decode cX4_putNumber 16 = .ok (.aload_n 0, 1) := by decide +kernel
theorem dX4_putNumber_17 : decode cX4_putNumber 17 = .ok (.iload 4, 2) := by decide +kernel
theorem dX4_putNumber_19 : decode cX4_putNumber 19 = .ok (.ifCond .eq 8, 3) := by decide +kernel
theorem dX4_putNumber_22 : decode cX4_putNumber 22 = .ok (.bipush 40, 2) := by decide +kernel
theorem dX4_putNumber_24 : decode cX4_putNumber 24 = .ok (.goto 5, 3) := by decide +kernel
theorem dX4_putNumber_27 : decode cX4_putNumber 27 = .ok (.bipush 45, 2) := by decide +kernel
theorem dX4_putNumber_29 : decode cX4_putNumber 29 = .ok (.invokevirtual 169, 3) := by decide +kernel
theorem dX4_putNumber_32 : decode cX4_putNumber 32 = .ok (.aload_n 0, 1) := by decide +kernel
theorem dX4_putNumber_33 : decode cX4_putNumber 33 = .ok (.getfield 38, 3) := by decide +kernel
theorem dX4_putNumber_36 : decode cX4_putNumber 36 = .ok (.invokestatic 78, 3) := by decide +kernel
theorem dX4_putNumber_39 : decode cX4_putNumber 39 = .ok (.iload_n 1, 1) := by decide +kernel
theorem dX4_putNumber_40 : decode cX4_putNumber 40 = .ok (.if_icmp .le 13, 3) := by decide +kernel
theorem dX4_putNumber_43 : decode cX4_putNumber 43 = .ok (.aload_n 0, 1) := by decide +kernel
theorem dX4_putNumber_44 : decode cX4_putNumber 44 = .ok (.getfield 38, 3) := by decide +kernel
theorem dX4_putNumber_47 : decode cX4_putNumber 47 = .ok (.invokestatic 78, 3) := by decide +kernel
theorem dX4_putNumber_50 : decode cX4_putNumber 50 = .ok (.goto 6, 3) := by decide +kernel
theorem dX4_putNumber_53 : decode cX4_putNumber 53 = .ok (.iload_n 1, 1) := by decide +kernel
theorem dX4_putNumber_54 : decode cX4_putNumber 54 = .ok (.iconst 1, 1) := by decide +kernel
theorem dX4_putNumber_55 : decode cX4_putNumber 55 = .ok (.iadd, 1) := by decide +kernel
theorem dX4_putNumber_56 : decode cX4_putNumber 56 = .ok (.istore 5, 2) := by decide +kernel
theorem dX4_putNumber_58 : decode cX4_putNumber 58 = .ok (.iload 5, 2) := by decide +kernel
theorem dX4_putNumber_60 : decode cX4_putNumber 60 = .ok (.iconst 1, 1) := by decide +kernel
theorem dX4_putNumber_61 : decode cX4_putNumber 61 = .ok (.isub, 1) := by decide +kernel
theorem dX4_putNumber_62 : decode cX4_putNumber 62 = .ok (.istore 6, 2) := by decide +kernel
theorem dX4_putNumber_64 : decode cX4_putNumber 64 = .ok (.iload 6, 2) := by decide +kernel
theorem dX4_putNumber_66 : decode cX4_putNumber 66 = .ok (.ifCond .lt 69, 3) := by decide +kernel
theorem dX4_putNumber_69 : decode cX4_putNumber 69 = .ok (.aload_n 0, 1) := by decide +kernel
theorem dX4_putNumber_70 : decode cX4_putNumber 70 = .ok (.bipush 48, 2) := by decide +kernel
theorem dX4_putNumber_72 : decode cX4_putNumber 72 = .ok (.aload_n 0, 1) := by decide +kernel
theorem dX4_putNumber_73 : decode cX4_putNumber 73 = .ok (.getfield 38, 3) := by decide +kernel
theorem dX4_putNumber_76 : decode cX4_putNumber 76 = .ok (.iload 6, 2) := by decide +kernel
theorem dX4_putNumber_78 : decode cX4_putNumber 78 = .ok (.iaload, 1) := by decide +kernel
theorem dX4_putNumber_79 : decode cX4_putNumber 79 = .ok (.iadd, 1) := by decide +kernel
theorem dX4_putNumber_80 : decode cX4_putNumber 80 = .ok (.invokevirtual 169, 3) := by decide +kernel
theorem dX4_putNumber_83 : decode cX4_putNumber 83 = .ok (.iload 6, 2) := by decide +kernel
theorem dX4_putNumber_85 : decode cX4_putNumber 85 = .ok (.iload_n 1, 1) := by decide +kernel
theorem dX4_putNumber_86 : decode cX4_putNumber 86 = .ok (.isub, 1) := by decide +kernel
theorem dX4_putNumber_87 : decode cX4_putNumber 87 = .ok (.istore 7, 2) := by decide +kernel
theorem dX4_putNumber_89 : decode cX4_putNumber 89 = .ok (.iload 7, 2) := by decide +kernel
theorem dX4_putNumber_91 : decode cX4_putNumber 91 = .ok (.ifCond .le 23, 3) := by decide +kernel
theorem dX4_putNumber_94 : decode cX4_putNumber 94 = .ok (.iload 7, 2) := by decide +kernel
theorem dX4_putNumber_96 : decode cX4_putNumber 96 = .ok (.iconst 3, 1) := by decide +kernel
theorem dX4_putNumber_97 : decode cX4_putNumber 97 = .ok (.irem, 1) := by decide +kernel
theorem dX4_putNumber_98 : decode cX4_putNumber 98 = .ok (.ifCond .ne 16, 3) := by decide +kernel
theorem dX4_putNumber_101 : decode cX4_putNumber 101 = .ok (.iload_n 2, 1) := by decide +kernel
theorem dX4_putNumber_102 : decode cX4_putNumber 102 = .ok (.iconst 2, 1) := by decide +kernel
theorem dX4_putNumber_103 : decode cX4_putNumber 103 = .ok (.irem, 1) := by decide +kernel
theorem dX4_putNumber_104 : decode cX4_putNumber 104 = .ok (.iconst 1, 1) := by decide +kernel
theorem dX4_putNumber_105 : decode cX4_putNumber 105 = .ok (.if_icmp .ne 9, 3) := by decide +kernel
theorem dX4_putNumber_108 : decode cX4_putNumber 108 = .ok (.aload_n 0, 1) := by decide +kernel
theorem dX4_putNumber_109 : decode cX4_putNumber 109 = .ok (.bipush 44, 2) := by decide +kernel
theorem dX4_putNumber_111 : decode cX4_putNumber 111 = .ok (.invokevirtual 169, 3) := by decide +kernel
theorem dX4_putNumber_114 : decode cX4_putNumber 114 = .ok (.iload 7, 2) := by decide +kernel
theorem dX4_putNumber_116 : decode cX4_putNumber 116 = .ok (.ifCond .ne 13, 3) := by decide +kernel
theorem dX4_putNumber_119 : decode cX4_putNumber 119 = .ok (.iload_n 1, 1) := by decide +kernel
theorem dX4_putNumber_120 : decode cX4_putNumber 120 = .ok (.ifCond .le 9, 3) := by decide +kernel
theorem dX4_putNumber_123 : decode cX4_putNumber 123 = .ok (.aload_n 0, 1) := by decide +kernel
theorem dX4_putNumber_124 : decode cX4_putNumber 124 = .ok (.bipush 46, 2) := by decide +kernel
theorem dX4_putNumber_126 : decode cX4_putNumber 126 = .ok (.invokevirtual 169, 3) := by decide +kernel
theorem dX4_putNumber_129 : decode cX4_putNumber 129 = .ok (.iinc 6 (-1), 3) := by decide +kernel
theorem dX4_putNumber_132 : decode cX4_putNumber 132 = .ok (.goto (-68), 3) := by decide +kernel
theorem dX4_putNumber_135 : decode cX4_putNumber 135 = .ok (.iload_n 3, 1) := by decide +kernel
theorem dX4_putNumber_136 : decode cX4_putNumber 136 = .ok (.ifCond .eq 14, 3) := by decide +kernel
theorem dX4_putNumber_139 : decode cX4_putNumber 139 = .ok (.iload 4, 2) := by decide +kernel
theorem dX4_putNumber_141 : decode cX4_putNumber 141 = .ok (.ifCond .eq 9, 3) := by decide +kernel
theorem dX4_putNumber_144 : decode cX4_putNumber 144 = .ok (.aload_n 0, 1) := by decide +kernel
theorem dX4_putNumber_145 : decode cX4_putNumber 145 = .ok (.bipush 41, 2) := by decide +kernel
theorem dX4_putNumber_147 : decode cX4_putNumber 147 = .ok (.invokevirtual 169, 3) := by decide +kernel
theorem dX4_putNumber_150 : decode cX4_putNumber 150 = .ok (.return_, 1) := by decide +kernel
theorem dX4_type_0 : decode cX4_type 0 = .ok (.iload_n 1, 1) := by decide +kernel
theorem dX4_type_1 : decode cX4_type 1 = .ok (.bipush 32, 2) := by decide +kernel
theorem dX4_type_3 : decode cX4_type 3 = .ok (.if_icmp .lt 18, 3) := by decide +kernel
theorem dX4_type_6 : decode cX4_type 6 = .ok (.iload_n 1, 1) := by decide +kernel
theorem dX4_type_7 : decode cX4_type 7 = .ok (.bipush 126, 2) := by decide +kernel
theorem dX4_type_9 : decode cX4_type 9 = .ok (.if_icmp .gt 12, 3) := by decide +kernel
theorem dX4_type_12 : decode cX4_type 12 = .ok (.aload_n 0, 1) := by decide +kernel
theorem dX4_type_13 : decode cX4_type 13 = .ok (.getfield 166, 3) := by decide +kernel
theorem dX4_type_16 : decode cX4_type 16 = .ok (.bipush 48, 2) := by decide +kernel
theorem dX4_type_18 : decode cX4_type 18 = .ok (.if_icmp .ne 6, 3) := by decide +kernel
theorem dX4_type_21 : decode cX4_type 21 = .ok (.bipush (-15), 2) := by decide +kernel
theorem dX4_type_23 : decode cX4_type 23 = .ok (.ireturn, 1) := by decide +kernel
theorem dX4_type_24 : decode cX4_type 24 = .ok (.aload_n 0, 1) := by decide +kernel
theorem dX4_type_25 : decode cX4_type 25 = .ok (.iload_n 1, 1) := by decide +kernel
theorem dX4_type_26 : decode cX4_type 26 = .ok (.invokevirtual 169, 3) := by decide +kernel
theorem dX4_type_29 : decode cX4_type 29 = .ok (.aload_n 0, 1) := by decide +kernel
theorem dX4_type_30 : decode cX4_type 30 = .ok (.getfield 166, 3) := by decide +kernel
theorem dX4_type_33 : decode cX4_type 33 = .ok (.ireturn, 1) := by decide +kernel
theorem dX4_wipe_0 : decode cX4_wipe 0 = .ok (.aload_n 0, 1) := by decide +kernel
theorem dX4_wipe_1 : decode cX4_wipe 1 = .ok (.iconst 0, 1) := by decide +kernel
theorem dX4_wipe_2 : decode cX4_wipe 2 = .ok (.putfield 166, 3) := by decide +kernel
theorem dX4_wipe_5 : decode cX4_wipe 5 = .ok (.return_, 1) := by decide +kernel
theorem dX4_letter_0 : decode cX4_letter 0 = .ok (.iload_n 1, 1) := by decide +kernel
theorem dX4_letter_1 : decode cX4_letter 1 = .ok (.ifCond .lt 11, 3) := by decide +kernel
theorem dX4_letter_4 : decode cX4_letter 4 = .ok (.iload_n 1, 1) := by decide +kernel
theorem dX4_letter_5 : decode cX4_letter 5 = .ok (.aload_n 0, 1) := by decide +kernel
theorem dX4_letter_6 : decode cX4_letter 6 = .ok (.getfield 166, 3) := by decide +kernel
theorem dX4_letter_9 : decode cX4_letter 9 = .ok (.if_icmp .lt 8, 3) := by decide +kernel
theorem dX4_letter_12 : decode cX4_letter 12 = .ok (.bipush (-15), 2) := by decide +kernel
theorem dX4_letter_14 : decode cX4_letter 14 = .ok (.goto 9, 3) := by decide +kernel
theorem dX4_letter_17 : decode cX4_letter 17 = .ok (.aload_n 0, 1) := by decide +kernel
theorem dX4_letter_18 : decode cX4_letter 18 = .ok (.getfield 26, 3) := by decide +kernel
theorem dX4_letter_21 : decode cX4_letter 21 = .ok (.iload_n 1, 1) := by decide +kernel
theorem dX4_letter_22 : decode cX4_letter 22 = .ok (.iaload, 1) := by decide +kernel
theorem dX4_letter_23 : decode cX4_letter 23 = .ok (.ireturn, 1) := by decide +kernel
theorem dX4_parse_0 : decode cX4_parse 0 = .ok (.iload_n 1, 1) := by decide +kernel
theorem dX4_parse_1 : decode cX4_parse 1 = .ok (.bipush 8, 2) := by decide +kernel
theorem dX4_parse_3 : decode cX4_parse 3 = .ok (.invokestatic 123, 3) := by decide +kernel
theorem dX4_parse_6 : decode cX4_parse 6 = .ok (.ifCond .ne 12, 3) := by decide +kernel
theorem dX4_parse_9 : decode cX4_parse 9 = .ok (.iload_n 3, 1) := by decide +kernel
theorem dX4_parse_10 : decode cX4_parse 10 = .ok (.bipush 8, 2) := by decide +kernel
theorem dX4_parse_12 : decode cX4_parse 12 = .ok (.invokestatic 123, 3) := by decide +kernel
theorem dX4_parse_15 : decode cX4_parse 15 = .ok (.ifCond .eq 6, 3) := by decide +kernel
theorem dX4_parse_18 : decode cX4_parse 18 = .ok (.bipush (-15), 2) := by decide +kernel
theorem dX4_parse_20 : decode cX4_parse 20 = .ok (.ireturn, 1) := by decide +kernel
theorem dX4_parse_21 : decode cX4_parse 21 = .ok (.aload_n 0, 1) := by decide +kernel
theorem dX4_parse_22 : decode cX4_parse 22 = .ok (.iconst 0, 1) := by decide +kernel
theorem dX4_parse_23 : decode cX4_parse 23 = .ok (.putfield 183, 3) := by decide +kernel
theorem dX4_parse_26 : decode cX4_parse 26 = .ok (.aload_n 0, 1) := by decide +kernel
theorem dX4_parse_27 : decode cX4_parse 27 = .ok (.iconst (-1), 1) := by decide +kernel
theorem dX4_parse_28 : decode cX4_parse 28 = .ok (.putfield 180, 3) := by decide +kernel
theorem dX4_parse_31 : decode cX4_parse 31 = .ok (.aload_n 0, 1) := by decide +kernel
theorem dX4_parse_32 : decode cX4_parse 32 = .ok (.iconst 0, 1) := by decide +kernel
theorem dX4_parse_33 : decode cX4_parse 33 = .ok (.putfield 197, 3) := by decide +kernel
theorem dX4_parse_36 : decode cX4_parse 36 = .ok (.aload_n 0, 1) := by decide +kernel
theorem dX4_parse_37 : decode cX4_parse 37 = .ok (.iconst 0, 1) := by decide +kernel
theorem dX4_parse_38 : decode cX4_parse 38 = .ok (.putfield 212, 3) := by decide +kernel
theorem dX4_parse_41 : decode cX4_parse 41 = .ok (.iload_n 3, 1) := by decide +kernel
theorem dX4_parse_42 : decode cX4_parse 42 = .ok (.iconst 4, 1) := by decide +kernel
theorem dX4_parse_43 : decode cX4_parse 43 = .ok (.irem, 1) := by decide +kernel
theorem dX4_parse_44 : decode cX4_parse 44 = .ok (.iconst 2, 1) := by decide +kernel
theorem dX4_parse_45 : decode cX4_parse 45 = .ok (.if_icmp .lt 21, 3) := by decide +kernel
theorem dX4_parse_48 : decode cX4_parse 48 = .ok (.aload_n 0, 1) := by decide +kernel
theorem dX4_parse_49 : decode cX4_parse 49 = .ok (.iload_n 3, 1) := by decide +kernel
theorem dX4_parse_50 : decode cX4_parse 50 = .ok (.invokevirtual 223, 3) := by decide +kernel
theorem dX4_parse_53 : decode cX4_parse 53 = .ok (.aload_n 0, 1) := by decide +kernel
theorem dX4_parse_54 : decode cX4_parse 54 = .ok (.bipush 32, 2) := by decide +kernel
theorem dX4_parse_56 : decode cX4_parse 56 = .ok (.invokevirtual 206, 3) := by decide +kernel
theorem dX4_parse_59 : decode cX4_parse 59 = .ok (.aload_n 0, 1) := by decide +kernel
theorem dX4_parse_60 : decode cX4_parse 60 = .ok (.invokevirtual 226, 3) := by decide +kernel
theorem dX4_parse_63 : decode cX4_parse 63 = .ok (.goto 18, 3) := by decide +kernel
theorem dX4_parse_66 : decode cX4_parse 66 = .ok (.aload_n 0, 1) := by decide +kernel
theorem dX4_parse_67 : decode cX4_parse 67 = .ok (.invokevirtual 226, 3) := by decide +kernel
theorem dX4_parse_70 : decode cX4_parse 70 = .ok (.aload_n 0, 1) := by decide +kernel
theorem dX4_parse_71 : decode cX4_parse 71 = .ok (.bipush 32, 2) := by decide +kernel
theorem dX4_parse_73 : decode cX4_parse 73 = .ok (.invokevirtual 206, 3) := by decide +kernel
theorem dX4_parse_76 : decode cX4_parse 76 = .ok (.aload_n 0, 1) := by decide +kernel
theorem dX4_parse_77 : decode cX4_parse 77 = .ok (.iload_n 3, 1) := by decide +kernel
theorem dX4_parse_78 : decode cX4_parse 78 = .ok (.invokevirtual 223, 3) := by decide +kernel
theorem dX4_parse_81 : decode cX4_parse 81 = .ok (.aload_n 0, 1) := by decide +kernel
theorem dX4_parse_82 : decode cX4_parse 82 = .ok (.getfield 183, 3) := by decide +kernel
theorem dX4_parse_85 : decode cX4_parse 85 = .ok (.aload_n 0, 1) := by decide +kernel
theorem dX4_parse_86 : decode cX4_parse 86 = .ok (.getfield 166, 3) := by decide +kernel
theorem dX4_parse_89 : decode cX4_parse 89 = .ok (.if_icmp .ge 7, 3) := by decide +kernel
theorem dX4_parse_92 : decode cX4_parse 92 = .ok (.aload_n 0, 1) := by decide +kernel
theorem dX4_parse_93 : decode cX4_parse 93 = .ok (.invokevirtual 190, 3) := by decide +kernel
theorem dX4_parse_96 : decode cX4_parse 96 = .ok (.aload_n 0, 1) := by decide +kernel
theorem dX4_parse_97 : decode cX4_parse 97 = .ok (.getfield 180, 3) := by decide +kernel
theorem dX4_parse_100 : decode cX4_parse 100 = .ok (.ifCond .lt 11, 3) := by decide +kernel
theorem dX4_parse_103 : decode cX4_parse 103 = .ok (.bipush (-100), 2) := by decide +kernel
theorem dX4_parse_105 : decode cX4_parse 105 = .ok (.aload_n 0, 1) := by decide +kernel
theorem dX4_parse_106 : decode cX4_parse 106 = .ok (.getfield 180, 3) := by decide +kernel
theorem dX4_parse_109 : decode cX4_parse 109 = .ok (.isub, 1) := by decide +kernel
theorem dX4_parse_110 : decode cX4_parse 110 = .ok (.ireturn, 1) := by decide +kernel
theorem dX4_parse_111 : decode cX4_parse 111 = .ok (.aload_n 0, 1) := by decide +kernel
theorem dX4_parse_112 : decode cX4_parse 112 = .ok (.getfield 29, 3) := by decide +kernel
theorem dX4_parse_115 : decode cX4_parse 115 = .ok (.invokestatic 72, 3) := by decide +kernel
theorem dX4_parse_118 : decode cX4_parse 118 = .ok (.iconst 0, 1) := by decide +kernel
theorem dX4_parse_119 : decode cX4_parse 119 = .ok (.istore 4, 2) := by decide +kernel
theorem dX4_parse_121 : decode cX4_parse 121 = .ok (.iload 4, 2) := by decide +kernel
theorem dX4_parse_123 : decode cX4_parse 123 = .ok (.aload_n 0, 1) := by decide +kernel
theorem dX4_parse_124 : decode cX4_parse 124 = .ok (.getfield 197, 3) := by decide +kernel
theorem dX4_parse_127 : decode cX4_parse 127 = .ok (.if_icmp .ge 30, 3) := by decide +kernel
theorem dX4_parse_130 : decode cX4_parse 130 = .ok (.aload_n 0, 1) := by decide +kernel
theorem dX4_parse_131 : decode cX4_parse 131 = .ok (.getfield 29, 3) := by decide +kernel
theorem dX4_parse_134 : decode cX4_parse 134 = .ok (.aload_n 0, 1) := by decide +kernel
theorem dX4_parse_135 : decode cX4_parse 135 = .ok (.getfield 197, 3) := by decide +kernel
theorem dX4_parse_138 : decode cX4_parse 138 = .ok (.iconst 1, 1) := by decide +kernel
theorem dX4_parse_139 : decode cX4_parse 139 = .ok (.isub, 1) := by decide +kernel
theorem dX4_parse_140 : decode cX4_parse 140 = .ok (.iload 4, 2) := by decide +kernel
theorem dX4_parse_142 : decode cX4_parse 142 = .ok (.isub, 1) := by decide +kernel
theorem dX4_parse_143 : decode cX4_parse 143 = .ok (.aload_n 0, 1) := by decide +kernel
theorem dX4_parse_144 : decode cX4_parse 144 = .ok (.getfield 59, 3) := by decide +kernel
theorem dX4_parse_147 : decode cX4_parse 147 = .ok (.iload 4, 2) := by decide +kernel
theorem dX4_parse_149 : decode cX4_parse 149 = .ok (.iaload, 1) := by decide +kernel
theorem dX4_parse_150 : decode cX4_parse 150 = .ok (.iastore, 1) := by decide +kernel
theorem dX4_parse_151 : decode cX4_parse 151 = .ok (.iinc 4 1, 3) := by decide +kernel
theorem dX4_parse_154 : decode cX4_parse 154 = .ok (.goto (-33), 3) := by decide +kernel
theorem dX4_parse_157 : decode cX4_parse 157 = .ok (.aload_n 0, 1) := by decide +kernel
theorem dX4_parse_158 : decode cX4_parse 158 = .ok (.getfield 29, 3) := by decide +kernel
theorem dX4_parse_161 : decode cX4_parse 161 = .ok (.bipush 10, 2) := by decide +kernel
theorem dX4_parse_163 : decode cX4_parse 163 = .ok (.aload_n 0, 1) := by decide +kernel
theorem dX4_parse_164 : decode cX4_parse 164 = .ok (.getfield 212, 3) := by decide +kernel
theorem dX4_parse_167 : decode cX4_parse 167 = .ok (.isub, 1) := by decide +kernel
theorem dX4_parse_168 : decode cX4_parse 168 = .ok (.invokestatic 82, 3) := by decide +kernel
theorem dX4_parse_171 : decode cX4_parse 171 = .ok (.aload_n 0, 1) := by decide +kernel
theorem dX4_parse_172 : decode cX4_parse 172 = .ok (.getfield 32, 3) := by decide +kernel
theorem dX4_parse_175 : decode cX4_parse 175 = .ok (.lconst 1, 1) := by decide +kernel
theorem dX4_parse_176 : decode cX4_parse 176 = .ok (.invokestatic 100, 3) := by decide +kernel
theorem dX4_parse_179 : decode cX4_parse 179 = .ok (.aload_n 0, 1) := by decide +kernel
theorem dX4_parse_180 : decode cX4_parse 180 = .ok (.iload_n 1, 1) := by decide +kernel
theorem dX4_parse_181 : decode cX4_parse 181 = .ok (.aload_n 0, 1) := by decide +kernel
theorem dX4_parse_182 : decode cX4_parse 182 = .ok (.getfield 203, 3) := by decide +kernel
theorem dX4_parse_185 : decode cX4_parse 185 = .ok (.iload_n 2, 1) := by decide +kernel
theorem dX4_parse_186 : decode cX4_parse 186 = .ok (.aload_n 0, 1) := by decide +kernel
theorem dX4_parse_187 : decode cX4_parse 187 = .ok (.getfield 215, 3) := by decide +kernel
theorem dX4_parse_190 : decode cX4_parse 190 = .ok (.invokevirtual 127, 3) := by decide +kernel
theorem dX4_parse_193 : decode cX4_parse 193 = .ok (.ireturn, 1) := by decide +kernel
theorem dX4_readNumber_0 : decode cX4_readNumber 0 = .ok (.aload_n 0, 1) := by decide +kernel
theorem dX4_readNumber_1 : decode cX4_readNumber 1 = .ok (.iload_n 1, 1) := by decide +kernel
theorem dX4_readNumber_2 : decode cX4_readNumber 2 = .ok (.iconst 4, 1) := by decide +kernel
theorem dX4_readNumber_3 : decode cX4_readNumber 3 = .ok (.if_icmp .lt 8, 3) := by decide +kernel
theorem dX4_readNumber_6 : decode cX4_readNumber 6 = .ok (.bipush 40, 2) := by decide +kernel
theorem dX4_readNumber_8 : decode cX4_readNumber 8 = .ok (.goto 5, 3) := by decide +kernel
theorem dX4_readNumber_11 : decode cX4_readNumber 11 = .ok (.bipush 45, 2) := by decide +kernel
theorem dX4_readNumber_13 : decode cX4_readNumber 13 = .ok (.invokevirtual 186, 3) := by decide +kernel
theorem dX4_readNumber_16 : decode cX4_readNumber 16 = .ok (.istore_n 2, 1) := by decide +kernel
theorem dX4_readNumber_17 : decode cX4_readNumber 17 = .ok (.aload_n 0, 1) := by decide +kernel
theorem dX4_readNumber_18 : decode cX4_readNumber 18 = .ok (.iload_n 2, 1) := by decide +kernel
theorem dX4_readNumber_19 : decode cX4_readNumber 19 = .ok (.ifCond .eq 12, 3) := by decide +kernel
theorem dX4_readNumber_22 : decode cX4_readNumber 22 = .ok (.aload_n 0, 1) := by decide +kernel
theorem dX4_readNumber_23 : decode cX4_readNumber 23 = .ok (.getfield 183, 3) := by decide +kernel
theorem dX4_readNumber_26 : decode cX4_readNumber 26 = .ok (.iconst 1, 1) := by decide +kernel
theorem dX4_readNumber_27 : decode cX4_readNumber 27 = .ok (.iadd, 1) := by decide +kernel
theorem dX4_readNumber_28 : decode cX4_readNumber 28 = .ok (.goto 7, 3) := by decide +kernel
theorem dX4_readNumber_31 : decode cX4_readNumber 31 = .ok (.aload_n 0, 1) := by decide +kernel
theorem dX4_readNumber_32 : decode cX4_readNumber 32 = .ok (.getfield 183, 3) := by decide +kernel
theorem dX4_readNumber_35 : decode cX4_readNumber 35 = .ok (.putfield 183, 3) := by decide +kernel
theorem dX4_readNumber_38 : decode cX4_readNumber 38 = .ok (.aload_n 0, 1) := by decide +kernel
theorem dX4_readNumber_39 : decode cX4_readNumber 39 = .ok (.iload_n 2, 1) := by decide +kernel
theorem dX4_readNumber_40 : decode cX4_readNumber 40 = .ok (.putfield 215, 3) := by decide +kernel
theorem dX4_readNumber_43 : decode cX4_readNumber 43 = .ok (.aload_n 0, 1) := by decide +kernel
theorem dX4_readNumber_44 : decode cX4_readNumber 44 = .ok (.iload_n 1, 1) := by decide +kernel
theorem dX4_readNumber_45 : decode cX4_readNumber 45 = .ok (.iconst 2, 1) := by decide +kernel
theorem dX4_readNumber_46 : decode cX4_readNumber 46 = .ok (.irem, 1) := by decide +kernel
theorem dX4_readNumber_47 : decode cX4_readNumber 47 = .ok (.iconst 1, 1) := by decide +kernel
theorem dX4_readNumber_48 : decode cX4_readNumber 48 = .ok (.if_icmp .ne 7, 3) := by decide +kernel
theorem dX4_readNumber_51 : decode cX4_readNumber 51 = .ok (.iconst 1, 1) := by decide +kernel
theorem dX4_readNumber_52 : decode cX4_readNumber 52 = .ok (.goto 4, 3) := by decide +kernel
theorem dX4_readNumber_55 : decode cX4_readNumber 55 = .ok (.iconst 0, 1) := by decide +kernel
theorem dX4_readNumber_56 : decode cX4_readNumber 56 = .ok (.invokevirtual 219, 3) := by decide +kernel
theorem dX4_readNumber_59 : decode cX4_readNumber 59 = .ok (.iload_n 2, 1) := by decide +kernel
theorem dX4_readNumber_60 : decode cX4_readNumber 60 = .ok (.ifCond .eq 14, 3) := by decide +kernel
theorem dX4_readNumber_63 : decode cX4_readNumber 63 = .ok (.iload_n 1, 1) := by decide +kernel
theorem dX4_readNumber_64 : decode cX4_readNumber 64 = .ok (.iconst 4, 1) := by decide +kernel
theorem dX4_readNumber_65 : decode cX4_readNumber 65 = .ok (.if_icmp .lt 9, 3) := by decide +kernel
theorem dX4_readNumber_68 : decode cX4_readNumber 68 = .ok (.aload_n 0, 1) := by decide +kernel
theorem dX4_readNumber_69 : decode cX4_readNumber 69 = .ok (.bipush 41, 2) := by decide +kernel
theorem dX4_readNumber_71 : decode cX4_readNumber 71 = .ok (.invokevirtual 206, 3) := by decide +kernel
theorem dX4_readNumber_74 : decode cX4_readNumber 74 = .ok (.return_, 1) := by decide +kernel
theorem dX4_sees_0 : decode cX4_sees 0 = .ok (.aload_n 0, 1) := by decide +kernel
theorem dX4_sees_1 : decode cX4_sees 1 = .ok (.getfield 180, 3) := by decide +kernel
theorem dX4_sees_4 : decode cX4_sees 4 = .ok (.ifCond .ge 31, 3) := by decide +kernel
theorem dX4_sees_7 : decode cX4_sees 7 = .ok (.aload_n 0, 1) := by decide +kernel
theorem dX4_sees_8 : decode cX4_sees 8 = .ok (.getfield 183, 3) := by decide +kernel
theorem dX4_sees_11 : decode cX4_sees 11 = .ok (.aload_n 0, 1) := by decide +kernel
theorem dX4_sees_12 : decode cX4_sees 12 = .ok (.getfield 166, 3) := by decide +kernel
theorem dX4_sees_15 : decode cX4_sees 15 = .ok (.if_icmp .ge 20, 3) := by decide +kernel
theorem dX4_sees_18 : decode cX4_sees 18 = .ok (.aload_n 0, 1) := by decide +kernel
theorem dX4_sees_19 : decode cX4_sees 19 = .ok (.getfield 26, 3) := by decide +kernel
theorem dX4_sees_22 : decode cX4_sees 22 = .ok (.aload_n 0, 1) := by decide +kernel
theorem dX4_sees_23 : decode cX4_sees 23 = .ok (.getfield 183, 3) := by decide +kernel
theorem dX4_sees_26 : decode cX4_sees 26 = .ok (.iaload, 1) := by decide +kernel
theorem dX4_sees_27 : decode cX4_sees 27 = .ok (.iload_n 1, 1) := by decide +kernel
theorem dX4_sees_28 : decode cX4_sees 28 = .ok (.if_icmp .ne 7, 3) := by decide +kernel
theorem dX4_sees_31 : decode cX4_sees 31 = .ok (.iconst 1, 1) := by decide +kernel
theorem dX4_sees_32 : decode cX4_sees 32 = .ok (.goto 4, 3) := by decide +kernel
theorem dX4_sees_35 : decode cX4_sees 35 = .ok (.iconst 0, 1) := by decide +kernel
theorem dX4_sees_36 : decode cX4_sees 36 = .ok (.ireturn, 1) := by decide +kernel
theorem dX4_readBody_0 : decode cX4_readBody 0 = .ok (.aload_n 0, 1) := by decide +kernel
theorem dX4_readBody_1 : decode cX4_readBody 1 = .ok (.iconst 1, 1) := by decide +kernel
theorem dX4_readBody_2 : decode cX4_readBody 2 = .ok (.iload_n 1, 1) := by decide +kernel
theorem dX4_readBody_3 : decode cX4_readBody 3 = .ok (.ifCond .eq 7, 3) := by decide +kernel
theorem dX4_readBody_6 : decode cX4_readBody 6 = .ok (.iconst 3, 1) := by decide +kernel
theorem dX4_readBody_7 : decode cX4_readBody 7 = .ok (.goto 5, 3) := by decide +kernel
theorem dX4_readBody_10 : decode cX4_readBody 10 = .ok (.bipush 48, 2) := by decide +kernel
theorem dX4_readBody_12 : decode cX4_readBody 12 = .ok (.invokevirtual 209, 3) := by decide +kernel
theorem dX4_readBody_15 : decode cX4_readBody 15 = .ok (.iload_n 1, 1) := by decide +kernel
theorem dX4_readBody_16 : decode cX4_readBody 16 = .ok (.ifCond .eq 31, 3) := by decide +kernel
theorem dX4_readBody_19 : decode cX4_readBody 19 = .ok (.aload_n 0, 1) := by decide +kernel
theorem dX4_readBody_20 : decode cX4_readBody 20 = .ok (.bipush 44, 2) := by decide +kernel
theorem dX4_readBody_22 : decode cX4_readBody 22 = .ok (.invokevirtual 186, 3) := by decide +kernel
theorem dX4_readBody_25 : decode cX4_readBody 25 = .ok (.ifCond .eq 22, 3) := by decide +kernel
theorem dX4_readBody_28 : decode cX4_readBody 28 = .ok (.aload_n 0, 1) := by decide +kernel
theorem dX4_readBody_29 : decode cX4_readBody 29 = .ok (.dup, 1) := by decide +kernel
theorem dX4_readBody_30 : decode cX4_readBody 30 = .ok (.getfield 183, 3) := by decide +kernel
theorem dX4_readBody_33 : decode cX4_readBody 33 = .ok (.iconst 1, 1) := by decide +kernel
theorem dX4_readBody_34 : decode cX4_readBody 34 = .ok (.iadd, 1) := by decide +kernel
theorem dX4_readBody_35 : decode cX4_readBody 35 = .ok (.putfield 183, 3) := by decide +kernel
theorem dX4_readBody_38 : decode cX4_readBody 38 = .ok (.aload_n 0, 1) := by decide +kernel
theorem dX4_readBody_39 : decode cX4_readBody 39 = .ok (.iconst 3, 1) := by decide +kernel
theorem dX4_readBody_40 : decode cX4_readBody 40 = .ok (.iconst 3, 1) := by decide +kernel
theorem dX4_readBody_41 : decode cX4_readBody 41 = .ok (.invokevirtual 209, 3) := by decide +kernel
theorem dX4_readBody_44 : decode cX4_readBody 44 = .ok (.goto (-29), 3) := by decide +kernel
theorem dX4_readBody_47 : decode cX4_readBody 47 = .ok (.aload_n 0, 1) := by decide +kernel
theorem dX4_readBody_48 : decode cX4_readBody 48 = .ok (.bipush 46, 2) := by decide +kernel
theorem dX4_readBody_50 : decode cX4_readBody 50 = .ok (.invokevirtual 186, 3) := by decide +kernel
theorem dX4_readBody_53 : decode cX4_readBody 53 = .ok (.ifCond .eq 35, 3) := by decide +kernel
theorem dX4_readBody_56 : decode cX4_readBody 56 = .ok (.aload_n 0, 1) := by decide +kernel
theorem dX4_readBody_57 : decode cX4_readBody 57 = .ok (.dup, 1) := by decide +kernel
theorem dX4_readBody_58 : decode cX4_readBody 58 = .ok (.getfield 183, 3) := by decide +kernel
theorem dX4_readBody_61 : decode cX4_readBody 61 = .ok (.iconst 1, 1) := by decide +kernel
theorem dX4_readBody_62 : decode cX4_readBody 62 = .ok (.iadd, 1) := by decide +kernel
theorem dX4_readBody_63 : decode cX4_readBody 63 = .ok (.putfield 183, 3) := by decide +kernel
theorem dX4_readBody_66 : decode cX4_readBody 66 = .ok (.aload_n 0, 1) := by decide +kernel
theorem dX4_readBody_67 : decode cX4_readBody 67 = .ok (.getfield 197, 3) := by decide +kernel
theorem dX4_readBody_70 : decode cX4_readBody 70 = .ok (.istore_n 2, 1) := by decide +kernel
theorem dX4_readBody_71 : decode cX4_readBody 71 = .ok (.aload_n 0, 1) := by decide +kernel
theorem dX4_readBody_72 : decode cX4_readBody 72 = .ok (.iconst 1, 1) := by decide +kernel
theorem dX4_readBody_73 : decode cX4_readBody 73 = .ok (.bipush 10, 2) := by decide +kernel
theorem dX4_readBody_75 : decode cX4_readBody 75 = .ok (.invokevirtual 209, 3) := by decide +kernel
theorem dX4_readBody_78 : decode cX4_readBody 78 = .ok (.aload_n 0, 1) := by decide +kernel
theorem dX4_readBody_79 : decode cX4_readBody 79 = .ok (.aload_n 0, 1) := by decide +kernel
theorem dX4_readBody_80 : decode cX4_readBody 80 = .ok (.getfield 197, 3) := by decide +kernel
theorem dX4_readBody_83 : decode cX4_readBody 83 = .ok (.iload_n 2, 1) := by decide +kernel
theorem dX4_readBody_84 : decode cX4_readBody 84 = .ok (.isub, 1) := by decide +kernel
theorem dX4_readBody_85 : decode cX4_readBody 85 = .ok (.putfield 212, 3) := by decide +kernel
theorem dX4_readBody_88 : decode cX4_readBody 88 = .ok (.return_, 1) := by decide +kernel
theorem dX4_need_0 : decode cX4_need 0 = .ok (.aload_n 0, 1) := by decide +kernel
theorem dX4_need_1 : decode cX4_need 1 = .ok (.iload_n 2, 1) := by decide +kernel
theorem dX4_need_2 : decode cX4_need 2 = .ok (.invokevirtual 200, 3) := by decide +kernel
theorem dX4_need_5 : decode cX4_need 5 = .ok (.iload_n 1, 1) := by decide +kernel
theorem dX4_need_6 : decode cX4_need 6 = .ok (.if_icmp .ge 7, 3) := by decide +kernel
theorem dX4_need_9 : decode cX4_need 9 = .ok (.aload_n 0, 1) := by decide +kernel
theorem dX4_need_10 : decode cX4_need 10 = .ok (.invokevirtual 190, 3) := by decide +kernel
theorem dX4_need_13 : decode cX4_need 13 = .ok (.return_, 1) := by decide +kernel
theorem dX4_digitsUpTo_0 : decode cX4_digitsUpTo 0 = .ok (.iconst 0, 1) := by decide +kernel
theorem dX4_digitsUpTo_1 : decode cX4_digitsUpTo 1 = .ok (.istore_n 2, 1) := by decide +kernel
theorem dX4_digitsUpTo_2 : decode cX4_digitsUpTo 2 = .ok (.iload_n 2, 1) := by decide +kernel
theorem dX4_digitsUpTo_3 : decode cX4_digitsUpTo 3 = .ok (.iload_n 1, 1) := by decide +kernel
theorem dX4_digitsUpTo_4 : decode cX4_digitsUpTo 4 = .ok (.if_icmp .ge 57, 3) := by decide +kernel
theorem dX4_digitsUpTo_7 : decode cX4_digitsUpTo 7 = .ok (.aload_n 0, 1) := by decide +kernel
theorem dX4_digitsUpTo_8 : decode cX4_digitsUpTo 8 = .ok (.invokevirtual 193, 3) := by decide +kernel
theorem dX4_digitsUpTo_11 : decode cX4_digitsUpTo 11 = .ok (.ifCond .eq 50, 3) := by decide +kernel
theorem dX4_digitsUpTo_14 : decode cX4_digitsUpTo 14 = .ok (.aload_n 0, 1) := by decide +kernel
theorem dX4_digitsUpTo_15 : decode cX4_digitsUpTo 15 = .ok (.getfield 59, 3) := by decide +kernel
theorem dX4_digitsUpTo_18 : decode cX4_digitsUpTo 18 = .ok (.aload_n 0, 1) := by decide +kernel
theorem dX4_digitsUpTo_19 : decode cX4_digitsUpTo 19 = .ok (.getfield 197, 3) := by decide +kernel
theorem dX4_digitsUpTo_22 : decode cX4_digitsUpTo 22 = .ok (.aload_n 0, 1) := by decide +kernel
theorem dX4_digitsUpTo_23 : decode cX4_digitsUpTo 23 = .ok (.getfield 26, 3) := by decide +kernel
theorem dX4_digitsUpTo_26 : decode cX4_digitsUpTo 26 = .ok (.aload_n 0, 1) := by decide +kernel
theorem dX4_digitsUpTo_27 : decode cX4_digitsUpTo 27 = .ok (.getfield 183, 3) := by decide +kernel
theorem dX4_digitsUpTo_30 : decode cX4_digitsUpTo 30 = .ok (.iaload, 1) := by decide +kernel
theorem dX4_digitsUpTo_31 : decode cX4_digitsUpTo 31 = .ok (.bipush 48, 2) := by decide +kernel
theorem dX4_digitsUpTo_33 : decode cX4_digitsUpTo 33 = .ok (.isub, 1) := by decide +kernel
theorem dX4_digitsUpTo_34 : decode cX4_digitsUpTo 34 = .ok (.iastore, 1) := by decide +kernel
theorem dX4_digitsUpTo_35 : decode cX4_digitsUpTo 35 = .ok (.aload_n 0, 1) := by decide +kernel
theorem dX4_digitsUpTo_36 : decode cX4_digitsUpTo 36 = .ok (.dup, 1) := by decide +kernel
theorem dX4_digitsUpTo_37 : decode cX4_digitsUpTo 37 = .ok (.getfield 197, 3) := by decide +kernel
theorem dX4_digitsUpTo_40 : decode cX4_digitsUpTo 40 = .ok (.iconst 1, 1) := by decide +kernel
theorem dX4_digitsUpTo_41 : decode cX4_digitsUpTo 41 = .ok (.iadd, 1) := by decide +kernel
theorem dX4_digitsUpTo_42 : decode cX4_digitsUpTo 42 = .ok (.putfield 197, 3) := by decide +kernel
theorem dX4_digitsUpTo_45 : decode cX4_digitsUpTo 45 = .ok (.aload_n 0, 1) := by decide +kernel
theorem dX4_digitsUpTo_46 : decode cX4_digitsUpTo 46 = .ok (.dup, 1) := by decide +kernel
theorem dX4_digitsUpTo_47 : decode cX4_digitsUpTo 47 = .ok (.getfield 183, 3) := by decide +kernel
theorem dX4_digitsUpTo_50 : decode cX4_digitsUpTo 50 = .ok (.iconst 1, 1) := by decide +kernel
theorem dX4_digitsUpTo_51 : decode cX4_digitsUpTo 51 = .ok (.iadd, 1) := by decide +kernel
theorem dX4_digitsUpTo_52 : decode cX4_digitsUpTo 52 = .ok (.putfield 183, 3) := by decide +kernel
theorem dX4_digitsUpTo_55 : decode cX4_digitsUpTo 55 = .ok (.iinc 2 1, 3) := by decide +kernel
theorem dX4_digitsUpTo_58 : decode cX4_digitsUpTo 58 = .ok (.goto (-56), 3) := by decide +kernel
theorem dX4_digitsUpTo_61 : decode cX4_digitsUpTo 61 = .ok (.iload_n 2, 1) := by decide +kernel
theorem dX4_digitsUpTo_62 : decode cX4_digitsUpTo 62 = .ok (.ireturn, 1) := by decide +kernel
theorem dX4_seesDigit_0 : decode cX4_seesDigit 0 = .ok (.aload_n 0, 1) := by decide +kernel
theorem dX4_seesDigit_1 : decode cX4_seesDigit 1 = .ok (.getfield 180, 3) := by decide +kernel
theorem dX4_seesDigit_4 : decode cX4_seesDigit 4 = .ok (.ifCond .ge 46, 3) := by decide +kernel
theorem dX4_seesDigit_7 : decode cX4_seesDigit 7 = .ok (.aload_n 0, 1) := by decide +kernel
theorem dX4_seesDigit_8 : decode cX4_seesDigit 8 = .ok (.getfield 183, 3) := by decide +kernel
theorem dX4_seesDigit_11 : decode cX4_seesDigit 11 = .ok (.aload_n 0, 1) := by decide +kernel
theorem dX4_seesDigit_12 : decode cX4_seesDigit 12 = .ok (.getfield 166, 3) := by decide +kernel
theorem dX4_seesDigit_15 : decode cX4_seesDigit 15 = .ok (.if_icmp .ge 35, 3) := by decide +kernel
theorem dX4_seesDigit_18 : decode cX4_seesDigit 18 = .ok (.aload_n 0, 1) := by decide +kernel
theorem dX4_seesDigit_19 : decode cX4_seesDigit 19 = .ok (.getfield 26, 3) := by decide +kernel
theorem dX4_seesDigit_22 : decode cX4_seesDigit 22 = .ok (.aload_n 0, 1) := by decide +kernel
theorem dX4_seesDigit_23 : decode cX4_seesDigit 23 = .ok (.getfield 183, 3) := by decide +kernel
theorem dX4_seesDigit_26 : decode cX4_seesDigit 26 = .ok (.iaload, 1) := by decide +kernel
theorem dX4_seesDigit_27 : decode cX4_seesDigit 27 = .ok (.bipush 48, 2) := by decide +kernel
theorem dX4_seesDigit_29 : decode cX4_seesDigit 29 = .ok (.if_icmp .lt 21, 3) := by decide +kernel
theorem dX4_seesDigit_32 : decode cX4_seesDigit 32 = .ok (.aload_n 0, 1) := by decide +kernel
theorem dX4_seesDigit_33 : decode cX4_seesDigit 33 = .ok (.getfield 26, 3) := by decide +kernel
theorem dX4_seesDigit_36 : decode cX4_seesDigit 36 = .ok (.aload_n 0, 1) := by decide +kernel
theorem dX4_seesDigit_37 : decode cX4_seesDigit 37 = .ok (.getfield 183, 3) := by decide +kernel
theorem dX4_seesDigit_40 : decode cX4_seesDigit 40 = .ok (.iaload, 1) := by decide +kernel
theorem dX4_seesDigit_41 : decode cX4_seesDigit 41 = .ok (.bipush 57, 2) := by decide +kernel
theorem dX4_seesDigit_43 : decode cX4_seesDigit 43 = .ok (.if_icmp .gt 7, 3) := by decide +kernel
theorem dX4_seesDigit_46 : decode cX4_seesDigit 46 = .ok (.iconst 1, 1) := by decide +kernel
theorem dX4_seesDigit_47 : decode cX4_seesDigit 47 = .ok (.goto 4, 3) := by decide +kernel
theorem dX4_seesDigit_50 : decode cX4_seesDigit 50 = .ok (.iconst 0, 1) := by decide +kernel
theorem dX4_seesDigit_51 : decode cX4_seesDigit 51 = .ok (.ireturn, 1) := by decide +kernel
theorem dX4_fail_0 : decode cX4_fail 0 = .ok (.aload_n 0, 1) := by decide +kernel
theorem dX4_fail_1 : decode cX4_fail 1 = .ok (.aload_n 0, 1) := by decide +kernel
theorem dX4_fail_2 : decode cX4_fail 2 = .ok (.getfield 180, 3) := by decide +kernel
theorem dX4_fail_5 : decode cX4_fail 5 = .ok (.ifCond .ge 10, 3) := by decide +kernel
theorem dX4_fail_8 : decode cX4_fail 8 = .ok (.aload_n 0, 1) := by decide +kernel
theorem dX4_fail_9 : decode cX4_fail 9 = .ok (.getfield 183, 3) := by decide +kernel
theorem dX4_fail_12 : decode cX4_fail 12 = .ok (.goto 7, 3) := by decide +kernel
theorem dX4_fail_15 : decode cX4_fail 15 = .ok (.aload_n 0, 1) := by decide +kernel
theorem dX4_fail_16 : decode cX4_fail 16 = .ok (.getfield 180, 3) := by decide +kernel
theorem dX4_fail_19 : decode cX4_fail 19 = .ok (.putfield 180, 3) := by decide +kernel
theorem dX4_fail_22 : decode cX4_fail 22 = .ok (.return_, 1) := by decide +kernel
theorem dX4_expect_0 : decode cX4_expect 0 = .ok (.aload_n 0, 1) := by decide +kernel
theorem dX4_expect_1 : decode cX4_expect 1 = .ok (.iload_n 1, 1) := by decide +kernel
theorem dX4_expect_2 : decode cX4_expect 2 = .ok (.invokevirtual 186, 3) := by decide +kernel
theorem dX4_expect_5 : decode cX4_expect 5 = .ok (.ifCond .eq 16, 3) := by decide +kernel
theorem dX4_expect_8 : decode cX4_expect 8 = .ok (.aload_n 0, 1) := by decide +kernel
theorem dX4_expect_9 : decode cX4_expect 9 = .ok (.dup, 1) := by decide +kernel
theorem dX4_expect_10 : decode cX4_expect 10 = .ok (.getfield 183, 3) := by decide +kernel
theorem dX4_expect_13 : decode cX4_expect 13 = .ok (.iconst 1, 1) := by decide +kernel
theorem dX4_expect_14 : decode cX4_expect 14 = .ok (.iadd, 1) := by decide +kernel
theorem dX4_expect_15 : decode cX4_expect 15 = .ok (.putfield 183, 3) := by decide +kernel
theorem dX4_expect_18 : decode cX4_expect 18 = .ok (.goto 7, 3) := by decide +kernel
theorem dX4_expect_21 : decode cX4_expect 21 = .ok (.aload_n 0, 1) := by decide +kernel
theorem dX4_expect_22 : decode cX4_expect 22 = .ok (.invokevirtual 190, 3) := by decide +kernel
theorem dX4_expect_25 : decode cX4_expect 25 = .ok (.return_, 1) := by decide +kernel
theorem dX4_readCode_0 : decode cX4_readCode 0 = .ok (.aload_n 0, 1) := by decide +kernel
theorem dX4_readCode_1 : decode cX4_readCode 1 = .ok (.getfield 180, 3) := by decide +kernel
theorem dX4_readCode_4 : decode cX4_readCode 4 = .ok (.ifCond .ge 46, 3) := by decide +kernel
theorem dX4_readCode_7 : decode cX4_readCode 7 = .ok (.aload_n 0, 1) := by decide +kernel
theorem dX4_readCode_8 : decode cX4_readCode 8 = .ok (.getfield 183, 3) := by decide +kernel
theorem dX4_readCode_11 : decode cX4_readCode 11 = .ok (.aload_n 0, 1) := by decide +kernel
theorem dX4_readCode_12 : decode cX4_readCode 12 = .ok (.getfield 166, 3) := by decide +kernel
theorem dX4_readCode_15 : decode cX4_readCode 15 = .ok (.if_icmp .ge 35, 3) := by decide +kernel
theorem dX4_readCode_18 : decode cX4_readCode 18 = .ok (.aload_n 0, 1) := by decide +kernel
theorem dX4_readCode_19 : decode cX4_readCode 19 = .ok (.getfield 26, 3) := by decide +kernel
theorem dX4_readCode_22 : decode cX4_readCode 22 = .ok (.aload_n 0, 1) := by decide +kernel
theorem dX4_readCode_23 : decode cX4_readCode 23 = .ok (.getfield 183, 3) := by decide +kernel
theorem dX4_readCode_26 : decode cX4_readCode 26 = .ok (.iaload, 1) := by decide +kernel
theorem dX4_readCode_27 : decode cX4_readCode 27 = .ok (.bipush 65, 2) := by decide +kernel
theorem dX4_readCode_29 : decode cX4_readCode 29 = .ok (.if_icmp .lt 21, 3) := by decide +kernel
theorem dX4_readCode_32 : decode cX4_readCode 32 = .ok (.aload_n 0, 1) := by decide +kernel
theorem dX4_readCode_33 : decode cX4_readCode 33 = .ok (.getfield 26, 3) := by decide +kernel
theorem dX4_readCode_36 : decode cX4_readCode 36 = .ok (.aload_n 0, 1) := by decide +kernel
theorem dX4_readCode_37 : decode cX4_readCode 37 = .ok (.getfield 183, 3) := by decide +kernel
theorem dX4_readCode_40 : decode cX4_readCode 40 = .ok (.iaload, 1) := by decide +kernel
theorem dX4_readCode_41 : decode cX4_readCode 41 = .ok (.bipush 70, 2) := by decide +kernel
theorem dX4_readCode_43 : decode cX4_readCode 43 = .ok (.if_icmp .gt 7, 3) := by decide +kernel
theorem dX4_readCode_46 : decode cX4_readCode 46 = .ok (.iconst 1, 1) := by decide +kernel
theorem dX4_readCode_47 : decode cX4_readCode 47 = .ok (.goto 4, 3) := by decide +kernel
theorem dX4_readCode_50 : decode cX4_readCode 50 = .ok (.iconst 0, 1) := by decide +kernel
theorem dX4_readCode_51 : decode cX4_readCode 51 = .ok (.istore_n 1, 1) := by decide +kernel
theorem dX4_readCode_52 : decode cX4_readCode 52 = .ok (.iload_n 1, 1) := by decide +kernel
theorem dX4_readCode_53 : decode cX4_readCode 53 = .ok (.ifCond .ne 8, 3) := by decide +kernel
theorem dX4_readCode_56 : decode cX4_readCode 56 = .ok (.aload_n 0, 1) := by decide +kernel
theorem dX4_readCode_57 : decode cX4_readCode 57 = .ok (.invokevirtual 190, 3) := by decide +kernel
theorem dX4_readCode_60 : decode cX4_readCode 60 = .ok (.return_, 1) := by decide +kernel
theorem dX4_readCode_61 : decode cX4_readCode 61 = .ok (.aload_n 0, 1) := by decide +kernel
theorem dX4_readCode_62 : decode cX4_readCode 62 = .ok (.getfield 26, 3) := by decide +kernel
theorem dX4_readCode_65 : decode cX4_readCode 65 = .ok (.aload_n 0, 1) := by decide +kernel
theorem dX4_readCode_66 : decode cX4_readCode 66 = .ok (.getfield 183, 3) := by decide +kernel
theorem dX4_readCode_69 : decode cX4_readCode 69 = .ok (.iaload, 1) := by decide +kernel
theorem dX4_readCode_70 : decode cX4_readCode 70 = .ok (.istore_n 2, 1) := by decide +kernel
theorem dX4_readCode_71 : decode cX4_readCode 71 = .ok (.aload_n 0, 1) := by decide +kernel
theorem dX4_readCode_72 : decode cX4_readCode 72 = .ok (.iload_n 2, 1) := by decide +kernel
theorem dX4_readCode_73 : decode cX4_readCode 73 = .ok (.bipush 65, 2) := by decide +kernel
theorem dX4_readCode_75 : decode cX4_readCode 75 = .ok (.isub, 1) := by decide +kernel
theorem dX4_readCode_76 : decode cX4_readCode 76 = .ok (.putfield 203, 3) := by decide +kernel
theorem dX4_readCode_79 : decode cX4_readCode 79 = .ok (.aload_n 0, 1) := by decide +kernel
theorem dX4_readCode_80 : decode cX4_readCode 80 = .ok (.iload_n 2, 1) := by decide +kernel
theorem dX4_readCode_81 : decode cX4_readCode 81 = .ok (.invokevirtual 206, 3) := by decide +kernel
theorem dX4_readCode_84 : decode cX4_readCode 84 = .ok (.aload_n 0, 1) := by decide +kernel
theorem dX4_readCode_85 : decode cX4_readCode 85 = .ok (.iload_n 2, 1) := by decide +kernel
theorem dX4_readCode_86 : decode cX4_readCode 86 = .ok (.invokevirtual 206, 3) := by decide +kernel
theorem dX4_readCode_89 : decode cX4_readCode 89 = .ok (.aload_n 0, 1) := by decide +kernel
theorem dX4_readCode_90 : decode cX4_readCode 90 = .ok (.iload_n 2, 1) := by decide +kernel
theorem dX4_readCode_91 : decode cX4_readCode 91 = .ok (.invokevirtual 206, 3) := by decide +kernel
theorem dX4_readCode_94 : decode cX4_readCode 94 = .ok (.return_, 1) := by decide +kernel
end
section
/-! What the two sides keep: rounding, and the settling of an exact result num / den (in steps of 10^-10). -/
/-- does a quotient q with the remainder r of d go one up? -/
def awy (mode : Int) (minus : Bool) (q r d : Nat) : Bool :=
  !decide (r = 0) && (decide (mode = 0) || (decide (mode = 2) && !minus) || (decide (mode = 3) && minus) || (decide (mode = 4) && decide (d ≤ 2 * r)) || (decide (mode = 5) && decide (d < 2 * r)) || (decide (mode = 6) && (decide (d < 2 * r) || (decide (d ≤ 2 * r) && decide (q % 2 = 1)))))
theorem awy_congr {m : Int} {b : Bool} {q r d r' d' : Nat} (h0 : r = 0 ↔ r' = 0) (h1 : d ≤ 2 * r ↔ d' ≤ 2 * r') (h2 : d < 2 * r ↔ d' < 2 * r') : awy m b q r d = awy m b q r' d' := by
  unfold awy
  rw [decide_eq_decide.mpr h0, decide_eq_decide.mpr h1, decide_eq_decide.mpr h2]
theorem awy_zero (m : Int) (b : Bool) (q d : Nat) : awy m b q 0 d = false := by
  unfold awy
  rw [decide_eq_true (rfl : (0 : Nat) = 0)]
  rfl
def trnd (mode : Int) (minus : Bool) (q r d : Nat) : Nat := if awy mode minus q r d = true then q + 1 else q
theorem trnd_le (m : Int) (b : Bool) (q r d : Nat) : trnd m b q r d ≤ q + 1 := by unfold trnd; split <;> omega
theorem trnd_ge (m : Int) (b : Bool) (q r d : Nat) : q ≤ trnd m b q r d := by unfold trnd; split <;> omega
/-- how many of the ten digits behind the point are rounded away -/
def tstp (p s w : Nat) : Nat := if s + w ≤ p then 10 - s else 10 + w - p
def tlim (minus : Bool) : Nat := if minus = true then 9223372036854775808 else 9223372036854775807
def tstl (p s : Nat) (m : Int) (wide minus : Bool) (num den : Nat) : Option Nat :=
  if wide = true then
    (if 26 < tnds (num / (den * 10 ^ 10)) then none else
      (fun t => (fun q => if q < 10 ^ 36 then some q else none) (trnd m minus (num / (den * 10 ^ t)) (num % (den * 10 ^ t)) (den * 10 ^ t) * 10 ^ t)) (tstp p s (tnds (num / (den * 10 ^ 10)))))
  else if num % den = 0 ∧ num / den % 10 ^ 5 = 0 ∧ num / den ≤ tlim minus * 10 ^ 5 then some (num / den) else none
/-- the same from the row of 20 digits behind the point, W, which goes on (g) or not -/
def tkeep (p s : Nat) (m : Int) (wide minus : Bool) (W : Nat) (g : Bool) : Option Nat :=
  if wide = true then
    (fun t => (fun V => if V < 10 ^ 46 then some (V / 10 ^ 10) else none) (trnd m minus (W / 10 ^ t) (2 * (W % 10 ^ t) + g.toNat) (2 * 10 ^ t) * 10 ^ t)) (10 + tstp p s (tnds W - 20))
  else if g = false ∧ W % 10 ^ 15 = 0 ∧ W / 10 ^ 15 ≤ tlim minus then some (W / 10 ^ 10) else none
theorem tV_mod {V den T : Nat} (hd : 0 < den) : V % (den * T) = V / den % T * den + V % den := by
  rw [Nat.mod_mul, Nat.mul_comm den, Nat.add_comm]
theorem tnds_q {W : Nat} : tnds (W / 10 ^ 20) = tnds W - 20 := by
  by_cases h : W < 10 ^ 20
  · rw [q_lt h, tnds_zero]
    have := tnds_mono h
    omega
  · have hW : 0 < W := by have := p10 20; omega
    have h1 := tnds_lt W
    have h2 := tnds_le hW
    have h3 := tnds_gt (N := W) (e := 20) (by omega)
    refine tnds_eq ?_ (Or.inr ?_)
    · refine (Nat.div_lt_iff_lt_mul (p10 20)).mpr ?_
      rw [← p10add]
      have e : tnds W - 20 + 20 = tnds W := by omega
      rw [e]; exact h1
    · refine (Nat.le_div_iff_mul_le (p10 20)).mpr ?_
      rw [← p10add]
      have e : tnds W - 20 - 1 + 20 = tnds W - 1 := by omega
      rw [e]; exact h2
theorem tnum_q {num den t : Nat} : num * 10 ^ 10 / den / 10 ^ (10 + t) = num / (den * 10 ^ t) := by
  rw [Nat.div_div_eq_div_mul, p10add, ← Nat.mul_assoc, Nat.mul_comm den (10 ^ 10), Nat.mul_assoc, Nat.mul_comm num, Nat.mul_div_mul_left _ _ (p10 10)]
theorem tnum_r {num den t : Nat} (hd : 0 < den) : num % (den * 10 ^ t) * 10 ^ 10 = num * 10 ^ 10 / den % 10 ^ (10 + t) * den + num * 10 ^ 10 % den := by
  rw [← tV_mod hd, p10add, ← Nat.mul_assoc, Nat.mul_comm den (10 ^ 10), Nat.mul_assoc, Nat.mul_comm num, Nat.mul_mod_mul_left, Nat.mul_comm]
theorem tawy_eq {m : Int} {b : Bool} {q num den t : Nat} (hd : 0 < den) : awy m b q (num % (den * 10 ^ t)) (den * 10 ^ t) = awy m b q (2 * (num * 10 ^ 10 / den % 10 ^ (10 + t)) + (decide (num * 10 ^ 10 % den ≠ 0)).toNat) (2 * 10 ^ (10 + t)) := by
  have hr := tnum_r (num := num) (t := t) hd
  have hf : num * 10 ^ 10 % den < den := Nat.mod_lt _ hd
  have hT : den * 10 ^ t * 10 ^ 10 = den * (2 * (5 * 10 ^ (9 + t))) := by
    have e : 10 ^ (10 + t) = 10 * 10 ^ (9 + t) := by rw [← p10s]; congr 1; omega
    rw [Nat.mul_assoc, ← p10add, Nat.add_comm t, e]
    congr 1
    omega
  have hT2 : 10 ^ (10 + t) = 2 * (5 * 10 ^ (9 + t)) := by
    have e : 10 ^ (10 + t) = 10 * 10 ^ (9 + t) := by rw [← p10s]; congr 1; omega
    omega
  rw [hT2]
  rw [hT2] at hr
  generalize num * 10 ^ 10 / den % (2 * (5 * 10 ^ (9 + t))) = R at *
  generalize num * 10 ^ 10 % den = f at *
  generalize 5 * 10 ^ (9 + t) = h at *
  generalize num % (den * 10 ^ t) = r at *
  generalize den * 10 ^ t = d at *
  have hg : (decide (f ≠ 0)).toNat = if f = 0 then 0 else 1 := by by_cases h0 : f = 0 <;> simp [h0]
  rw [hg]
  have hdh : d * 10 ^ 10 = 2 * (den * h) := by rw [hT, Nat.mul_left_comm]
  have key : (R < h → 2 * r < d) ∧ (h < R → d < 2 * r) ∧ (R = h → (f = 0 → 2 * r = d) ∧ (f ≠ 0 → d < 2 * r)) := by
    refine ⟨fun a => ?_, fun a => ?_, fun a => ⟨fun e => ?_, fun e => ?_⟩⟩
    · have h1 : (R + 1) * den ≤ h * den := Nat.mul_le_mul_right _ a
      rw [Nat.add_mul, Nat.one_mul, Nat.mul_comm h den] at h1
      omega
    · have h1 : (h + 1) * den ≤ R * den := Nat.mul_le_mul_right _ a
      rw [Nat.add_mul, Nat.one_mul, Nat.mul_comm h den] at h1
      omega
    · subst a; rw [Nat.mul_comm R den] at hr; omega
    · subst a; rw [Nat.mul_comm R den] at hr; omega
  have k0 : r = 0 ↔ R = 0 ∧ f = 0 := by
    constructor
    · intro e
      subst e
      have h1 : R * den = 0 ∧ f = 0 := by omega
      rcases Nat.mul_eq_zero.mp h1.1 with h2 | h2
      · exact ⟨h2, h1.2⟩
      · omega
    · intro e
      rw [e.1, e.2] at hr
      omega
  obtain ⟨k1, k2, k3⟩ := key
  by_cases c1 : R < h
  · have := k1 c1
    refine awy_congr ?_ ?_ ?_ <;> split <;> omega
  · by_cases c2 : h < R
    · have := k2 c2
      refine awy_congr ?_ ?_ ?_ <;> split <;> omega
    · have c3 : R = h := by omega
      obtain ⟨k4, k5⟩ := k3 c3
      by_cases c4 : f = 0
      · have := k4 c4
        rw [if_pos c4]
        refine awy_congr ?_ ?_ ?_ <;> omega
      · have := k5 c4
        rw [if_neg c4]
        refine awy_congr ?_ ?_ ?_ <;> omega
theorem tstp_le {p s w : Nat} (hp : 19 ≤ p) (hs : s ≤ 10) (hw : w ≤ 26) : tstp p s w ≤ 17 := by unfold tstp; split <;> omega
theorem tstl_keep {p s : Nat} {m : Int} {wide minus : Bool} {num den : Nat} (hp : 19 ≤ p) (hp2 : p ≤ 30) (hs : 5 ≤ s) (hs2 : s ≤ 10) (hd : 0 < den) :
    tstl p s m wide minus num den = tkeep p s m wide minus (num * 10 ^ 10 / den) (decide (num * 10 ^ 10 % den ≠ 0)) := by
  unfold tstl tkeep
  by_cases hw : wide = true
  · rw [if_pos hw, if_pos hw]
    have e1 : num / (den * 10 ^ 10) = num * 10 ^ 10 / den / 10 ^ 20 := (tnum_q (t := 10)).symm
    rw [e1, tnds_q]
    generalize hW : tnds (num * 10 ^ 10 / den) - 20 = w
    generalize ht : tstp p s w = t
    have e2 : trnd m minus (num / (den * 10 ^ t)) (num % (den * 10 ^ t)) (den * 10 ^ t) = trnd m minus (num * 10 ^ 10 / den / 10 ^ (10 + t)) (2 * (num * 10 ^ 10 / den % 10 ^ (10 + t)) + (decide (num * 10 ^ 10 % den ≠ 0)).toNat) (2 * 10 ^ (10 + t)) := by
      unfold trnd
      rw [← tnum_q (t := t), tawy_eq hd]
    have hge : num * 10 ^ 10 / den / 10 ^ (10 + t) ≤ trnd m minus (num * 10 ^ 10 / den / 10 ^ (10 + t)) (2 * (num * 10 ^ 10 / den % 10 ^ (10 + t)) + (decide (num * 10 ^ 10 % den ≠ 0)).toNat) (2 * 10 ^ (10 + t)) := trnd_ge ..
    by_cases h26 : 26 < w
    · rw [if_pos h26]
      show none = if _ < 10 ^ 46 then _ else _
      rw [if_neg]
      intro hlt
      have hpos : 0 < num * 10 ^ 10 / den := by
        rcases Nat.eq_zero_or_pos (num * 10 ^ 10 / den) with h0 | h0
        · rw [h0, tnds_zero] at hW; omega
        · exact h0
      have h1 := tnds_le hpos
      have h2 : tnds (num * 10 ^ 10 / den) = w + 20 := by omega
      rw [h2] at h1
      have h3 : t = 10 + w - p := by rw [← ht]; unfold tstp; rw [if_neg (by omega)]
      have h4 : 10 ^ (w + 20 - 1) = 10 ^ (w + 9 - t) * 10 ^ (10 + t) := by rw [← p10add]; congr 1; omega
      rw [h4] at h1
      have h5 : 10 ^ (w + 9 - t) ≤ num * 10 ^ 10 / den / 10 ^ (10 + t) := (Nat.le_div_iff_mul_le (p10 _)).mpr h1
      have h6 := Nat.mul_le_mul_right (10 ^ (10 + t)) (Nat.le_trans h5 hge)
      rw [← h4] at h6
      have h7 := p10le (a := 46) (b := w + 20 - 1) (by omega)
      omega
    · rw [if_neg h26]
      dsimp only
      rw [e2]
      generalize trnd m minus (num * 10 ^ 10 / den / 10 ^ (10 + t)) (2 * (num * 10 ^ 10 / den % 10 ^ (10 + t)) + (decide (num * 10 ^ 10 % den ≠ 0)).toNat) (2 * 10 ^ (10 + t)) = q
      have e3 : q * 10 ^ (10 + t) = q * 10 ^ t * 10 ^ 10 := by rw [Nat.mul_assoc, ← p10add, Nat.add_comm t]
      show (if q * 10 ^ t < 10 ^ 36 then some (q * 10 ^ t) else none) = if q * 10 ^ (10 + t) < 10 ^ 46 then some (q * 10 ^ (10 + t) / 10 ^ 10) else none
      rw [e3, Nat.mul_div_cancel _ (p10 10)]
      by_cases h3 : q * 10 ^ t < 10 ^ 36
      · rw [if_pos h3, if_pos (by have := p10add 36 10; omega)]
      · rw [if_neg h3, if_neg (by have := p10add 36 10; omega)]
  · rw [if_neg hw, if_neg hw]
    have key : (num % den = 0 ∧ num / den % 10 ^ 5 = 0) ↔ (num * 10 ^ 10 % den = 0 ∧ num * 10 ^ 10 / den % 10 ^ 15 = 0) := by
      have e0 : num * 10 ^ 10 % (den * 10 ^ 15) = num % (den * 10 ^ 5) * 10 ^ 10 := by
        have : den * 10 ^ 15 = den * 10 ^ 5 * 10 ^ 10 := by rw [Nat.mul_assoc, ← p10add]
        rw [this, Nat.mul_mod_mul_right]
      have e1 := tV_mod (V := num * 10 ^ 10) (T := 10 ^ 15) hd
      have e2 := tV_mod (V := num) (T := 10 ^ 5) hd
      rw [e0] at e1
      rw [e2] at e1
      constructor
      · intro ⟨a, b⟩
        rw [a, b, Nat.zero_mul, Nat.zero_add, Nat.zero_mul] at e1
        have h1 : num * 10 ^ 10 % den = 0 ∧ num * 10 ^ 10 / den % 10 ^ 15 * den = 0 := by omega
        rcases Nat.mul_eq_zero.mp h1.2 with h2 | h2
        · exact ⟨h1.1, h2⟩
        · omega
      · intro ⟨a, b⟩
        rw [a, b, Nat.zero_mul, Nat.zero_add] at e1
        have h0 : num / den % 10 ^ 5 * den + num % den = 0 := by omega
        have h1 : num % den = 0 ∧ num / den % 10 ^ 5 * den = 0 := by omega
        rcases Nat.mul_eq_zero.mp h1.2 with h2 | h2
        · exact ⟨h1.1, h2⟩
        · omega
    have hx : num % den = 0 → num * 10 ^ 10 / den = num / den * 10 ^ 10 := by
      intro a
      have h1 := Nat.div_add_mod num den
      rw [a, Nat.add_zero] at h1
      conv => lhs; rw [← h1]
      rw [Nat.mul_assoc, Nat.mul_div_cancel_left _ hd]
    by_cases c : num % den = 0 ∧ num / den % 10 ^ 5 = 0
    · have c2 := key.mp c
      have h1 := hx c.1
      have e3 : num * 10 ^ 10 / den / 10 ^ 15 = num / den / 10 ^ 5 := by
        have : 10 ^ 15 = 10 ^ 5 * 10 ^ 10 := by rw [← p10add]
        rw [h1, this, Nat.mul_div_mul_right _ _ (p10 10)]
      have e4 : num * 10 ^ 10 / den / 10 ^ 10 = num / den := by rw [h1, Nat.mul_div_cancel _ (p10 10)]
      have e5 : decide (num * 10 ^ 10 % den ≠ 0) = false := by rw [c2.1]; rfl
      rw [e3, e4, e5]
      have h5 := Nat.div_add_mod (num / den) (10 ^ 5)
      rw [c.2] at h5
      by_cases c3 : num / den ≤ tlim minus * 10 ^ 5
      · rw [if_pos ⟨c.1, c.2, c3⟩, if_pos ⟨rfl, c2.2, by omega⟩]
      · rw [if_neg (fun z => c3 z.2.2), if_neg (fun z => c3 (by have := z.2.2; omega))]
    · rw [if_neg (fun z => c ⟨z.1, z.2.1⟩), if_neg]
      intro z
      refine c (key.mpr ⟨?_, z.2.1⟩)
      have := z.1
      by_cases h0 : num * 10 ^ 10 % den = 0
      · exact h0
      · rw [decide_eq_true h0] at this; cases this
end
section
set_option maxHeartbeats 4000000 in
set_option maxRecDepth 100000 in
/-- clear: all digits 0 -/
theorem c_X4_clear (E : TEn) (hE : EnvOk E) (q : Nat) (cI : ClassId) (f : Nat → Int32) : Ctv vwCl E yX4_clear wsX4_clear (rmn 0 0) [.ref q] [(q, .inl (cI, 80, .inl f))] [(cI, .int)] (fun _ : Unit => True) (fun _ => [(q, .inl (cI, 80, .inl (dg 0)))]) := by
  refine enterv (by decide) (Nat.le_of_ble_eq_true rfl) ?_
  intro X O hK hin2 hret
  show TGo X [(q, .inl (cI, 80, .inl f))] 0 0 0 [(0, .ref q)] []
  have lp : ∀ (c : Nat) (i : Nat) (x : Int) (g : Nat → Int32), c + i = 81 → i ≤ 80 → x = (i : Int) → (∀ j, j < i → g j = iI 0) → TGo X [(q, .inl (cI, 80, .inl g))] 0 0 2 [(1, .int (iI x)), (0, .ref q)] [] := by
    intro c
    induction c with
    | zero => intro i x g h1 h2 hx hg; omega
    | succ c ih =>
      intro i x g h1 h2 hx hg
      refine go_iload_n O dX4_clear_2 rfl 0 rfl 3 rfl ?_
      refine go_bipush O dX4_clear_3 (by decide) 5 rfl ?_
      refine go_icmp_ge O dX4_clear_5 18 (by decide) 8 rfl (by omega) (by omega) (fun h5 => ?_) (fun h5 => ?_)
      · refine TGo.arr 0 rfl (dg 0) (fun j hj => by rw [hg j (by omega), dg_zero]) (ws' := [(q, .inl (cI, 80, .inl (dg 0)))]) rfl ?_
        exact hret _ _ () dX4_clear_18 trivial
      · refine go_aload_n O dX4_clear_8 rfl 1 rfl 9 rfl ?_
        refine go_iload_n O dX4_clear_9 rfl 0 rfl 10 rfl ?_
        refine go_iconst O dX4_clear_10 11 rfl ?_
        refine go_iast O hK dX4_clear_11 0 0 rfl rfl i hx (by omega) (by omega) (upd g i (iI 0)) (fun _ _ => rfl) [(q, .inl (cI, 80, .inl (upd g i (iI 0))))] rfl 12 rfl ?_
        refine go_iinc O dX4_clear_12 0 rfl ((i + 1 : Nat) : Int) (by omega) (by decide) [(1, .int (iI ((i + 1 : Nat) : Int))), (0, .ref q)] rfl 15 rfl ?_
        refine go_goto O dX4_clear_15 2 (by decide) ?_
        exact ih (i + 1) _ _ (by omega) (by omega) (by omega) (lo_upd hg rfl)
  refine go_iconst O dX4_clear_0 1 rfl ?_
  refine go_istore_n O dX4_clear_1 rfl (by decide) [(1, .int (iI 0)), (0, .ref q)] rfl 2 rfl ?_
  exact lp 81 0 _ f (by omega) (by omega) (by omega) (fun j h => absurd h (by omega))
set_option maxHeartbeats 4000000 in
set_option maxRecDepth 100000 in
/-- copy: the second row becomes the first -/
theorem c_X4_copy (E : TEn) (hE : EnvOk E) (q r : Nat) (cI : ClassId) (f g : Nat → Int32) : Ctv vwCl E yX4_copy wsX4_copy (rmn 0 0) [.ref q, .ref r] [(q, .inl (cI, 80, .inl f)), (r, .inl (cI, 80, .inl g))] [(cI, .int)] (fun _ : Unit => True) (fun _ => [(q, .inl (cI, 80, .inl f)), (r, .inl (cI, 80, .inl f))]) := by
  refine enterv (by decide) (Nat.le_of_ble_eq_true rfl) ?_
  intro X O hK hin2 hret
  show TGo X [(q, .inl (cI, 80, .inl f)), (r, .inl (cI, 80, .inl g))] 0 0 0 [(0, .ref q), (1, .ref r)] []
  have lp : ∀ (c : Nat) (i : Nat) (x : Int) (g : Nat → Int32), c + i = 81 → i ≤ 80 → x = (i : Int) → (∀ j, j < i → g j = f j) → TGo X [(q, .inl (cI, 80, .inl f)), (r, .inl (cI, 80, .inl g))] 0 0 2 [(2, .int (iI x)), (0, .ref q), (1, .ref r)] [] := by
    intro c
    induction c with
    | zero => intro i x g h1 h2 hx hg; omega
    | succ c ih =>
      intro i x g h1 h2 hx hg
      refine go_iload_n O dX4_copy_2 rfl 0 rfl 3 rfl ?_
      refine go_bipush O dX4_copy_3 (by decide) 5 rfl ?_
      refine go_icmp_ge O dX4_copy_5 20 (by decide) 8 rfl (by omega) (by omega) (fun h5 => ?_) (fun h5 => ?_)
      · refine TGo.arr 1 rfl f (fun j hj => hg j (by omega)) (ws' := [(q, .inl (cI, 80, .inl f)), (r, .inl (cI, 80, .inl f))]) rfl ?_
        exact hret _ _ () dX4_copy_20 trivial
      · refine go_aload_n O dX4_copy_8 rfl 2 rfl 9 rfl ?_
        refine go_iload_n O dX4_copy_9 rfl 0 rfl 10 rfl ?_
        refine go_aload_n O dX4_copy_10 rfl 1 rfl 11 rfl ?_
        refine go_iload_n O dX4_copy_11 rfl 0 rfl 12 rfl ?_
        refine go_iald O hK dX4_copy_12 0 0 rfl rfl i hx (by omega) (by omega) ((f i).toInt) (iI_of _) 13 rfl ?_
        refine go_iast O hK dX4_copy_13 1 0 rfl rfl i hx (by omega) (by omega) (upd g i (iI ((f i).toInt))) (fun _ _ => rfl) [(q, .inl (cI, 80, .inl f)), (r, .inl (cI, 80, .inl (upd g i (iI ((f i).toInt)))))] rfl 14 rfl ?_
        refine go_iinc O dX4_copy_14 0 rfl ((i + 1 : Nat) : Int) (by omega) (by decide) [(2, .int (iI ((i + 1 : Nat) : Int))), (0, .ref q), (1, .ref r)] rfl 17 rfl ?_
        refine go_goto O dX4_copy_17 2 (by decide) ?_
        exact ih (i + 1) _ _ (by omega) (by omega) (by omega) (lo_upd hg (iI_of _).symm)
  refine go_iconst O dX4_copy_0 1 rfl ?_
  refine go_istore_n O dX4_copy_1 rfl (by decide) [(2, .int (iI 0)), (0, .ref q), (1, .ref r)] rfl 2 rfl ?_
  exact lp 81 0 _ g (by omega) (by omega) (by omega) (fun j h => absurd h (by omega))
set_option maxHeartbeats 4000000 in
set_option maxRecDepth 100000 in
/-- size: how many digits -/
theorem c_X4_size (E : TEn) (hE : EnvOk E) (q : Nat) (cI : ClassId) (N : Nat) (hN : N < 10 ^ 80) : Cti vwCl E yX4_size wsX4_size (rmn 0 0) [.ref q] [(q, .inl (cI, 80, .inl (dg N)))] [(cI, .int)] (fun (z : Int) (_ : Unit) => z = (tnds N : Int)) (fun _ => [(q, .inl (cI, 80, .inl (dg N)))]) := by
  refine enteri (by decide) (Nat.le_of_ble_eq_true rfl) ?_
  intro X O hK hin2 hret
  show TGo X [(q, .inl (cI, 80, .inl (dg N)))] 0 0 0 [(0, .ref q)] []
  have lp : ∀ (c : Nat) (i : Nat) (s : Nat) (x : Int) (y : Int), c + i = 81 → i ≤ 80 → x = (i : Int) → y = (s : Int) → s ≤ i → (∀ j, s ≤ j → j < i → N / 10 ^ j % 10 = 0) → (s = 0 ∨ N / 10 ^ (s - 1) % 10 ≠ 0) → TGo X [(q, .inl (cI, 80, .inl (dg N)))] 0 0 4 [(1, .int (iI y)), (2, .int (iI x)), (0, .ref q)] [] := by
    intro c
    induction c with
    | zero => intro i s x y h1 h2 hx hy hs hz hd; omega
    | succ c ih =>
      intro i s x y h1 h2 hx hy hs hz hd
      refine go_iload_n O dX4_size_4 rfl 1 rfl 5 rfl ?_
      refine go_bipush O dX4_size_5 (by decide) 7 rfl ?_
      refine go_icmp_ge O dX4_size_7 30 (by decide) 10 rfl (by omega) (by omega) (fun h7 => ?_) (fun h7 => ?_)
      · refine go_iload_n O dX4_size_30 rfl 0 rfl 31 rfl ?_
        exact hret _ _ _ () dX4_size_31 rfl (by rw [hy, tnds_scan (N := N) (s := s) (e := 80) hN (by omega) (fun j a b => hz j a (by omega)) hd])
      · refine go_aload_n O dX4_size_10 rfl 2 rfl 11 rfl ?_
        refine go_iload_n O dX4_size_11 rfl 1 rfl 12 rfl ?_
        refine go_iald O hK dX4_size_12 0 0 rfl rfl i hx (by omega) (by omega) ((N / 10 ^ i % 10 : Nat) : Int) rfl 13 rfl ?_
        refine go_if_eq O dX4_size_13 22 (by decide) 16 rfl (by omega) (fun h13 => ?_) (fun h13 => ?_)
        · refine go_iload_n O dX4_size_22 rfl 0 rfl 23 rfl ?_
          refine go_istore_n O dX4_size_23 rfl (by decide) [(1, .int (iI y)), (2, .int (iI x)), (0, .ref q)] rfl 24 rfl ?_
          refine go_iinc O dX4_size_24 1 rfl ((i + 1 : Nat) : Int) (by omega) (by decide) [(2, .int (iI ((i + 1 : Nat) : Int))), (1, .int (iI y)), (0, .ref q)] rfl 27 rfl ?_
          refine go_goto O dX4_size_27 4 (by decide) ?_
          refine TGo.lsub (lv' := [(1, .int (iI y)), (2, .int (iI ((i + 1 : Nat) : Int))), (0, .ref q)]) [1, 0, 2] rfl ?_
          exact ih (i + 1) s _ _ (by omega) (by omega) (by omega) hy (by omega) (fun j a b => if e : j < i then hz j a e else (by have e2 : j = i := (by omega); rw [e2]; omega)) hd
        · refine go_iload_n O dX4_size_16 rfl 1 rfl 17 rfl ?_
          refine go_iconst O dX4_size_17 18 rfl ?_
          refine go_iadd O dX4_size_18 ((i + 1 : Nat) : Int) (by omega) 19 rfl ?_
          refine go_goto O dX4_size_19 23 (by decide) ?_
          refine go_istore_n O dX4_size_23 rfl (by decide) [(1, .int (iI ((i + 1 : Nat) : Int))), (2, .int (iI x)), (0, .ref q)] rfl 24 rfl ?_
          refine go_iinc O dX4_size_24 1 rfl ((i + 1 : Nat) : Int) (by omega) (by decide) [(2, .int (iI ((i + 1 : Nat) : Int))), (1, .int (iI ((i + 1 : Nat) : Int))), (0, .ref q)] rfl 27 rfl ?_
          refine go_goto O dX4_size_27 4 (by decide) ?_
          refine TGo.lsub (lv' := [(1, .int (iI ((i + 1 : Nat) : Int))), (2, .int (iI ((i + 1 : Nat) : Int))), (0, .ref q)]) [1, 0, 2] rfl ?_
          exact ih (i + 1) (i + 1) _ _ (by omega) (by omega) (by omega) (by omega) (by omega) (fun j a b => by omega) (Or.inr (by rw [Nat.add_sub_cancel]; omega))
  refine go_iconst O dX4_size_0 1 rfl ?_
  refine go_istore_n O dX4_size_1 rfl (by decide) [(1, .int (iI 0)), (0, .ref q)] rfl 2 rfl ?_
  refine go_iconst O dX4_size_2 3 rfl ?_
  refine go_istore_n O dX4_size_3 rfl (by decide) [(2, .int (iI 0)), (1, .int (iI 0)), (0, .ref q)] rfl 4 rfl ?_
  refine TGo.lsub (lv' := [(1, .int (iI 0)), (2, .int (iI 0)), (0, .ref q)]) [1, 0, 2] rfl ?_
  exact lp 81 0 0 _ _ (by omega) (by omega) (by omega) (by omega) (by omega) (fun j a b => absurd b (by omega)) (Or.inl rfl)
set_option maxHeartbeats 4000000 in
set_option maxRecDepth 100000 in
/-- order: -1, 0 or 1 -/
theorem c_X4_order (E : TEn) (hE : EnvOk E) (q r : Nat) (cI : ClassId) (N M : Nat) (hN : N < 10 ^ 80) (hM : M < 10 ^ 80) : Cti vwCl E yX4_order wsX4_order (rmn 0 0) [.ref q, .ref r] [(q, .inl (cI, 80, .inl (dg N))), (r, .inl (cI, 80, .inl (dg M)))] [(cI, .int)] (fun (z : Int) (_ : Unit) => z = cmpN N M) (fun _ => [(q, .inl (cI, 80, .inl (dg N))), (r, .inl (cI, 80, .inl (dg M)))]) := by
  refine enteri (by decide) (Nat.le_of_ble_eq_true rfl) ?_
  intro X O hK hin2 hret
  show TGo X [(q, .inl (cI, 80, .inl (dg N))), (r, .inl (cI, 80, .inl (dg M)))] 0 0 0 [(0, .ref q), (1, .ref r)] []
  have lp : ∀ (c : Nat) (i : Nat) (x : Int), c = i + 1 → i ≤ 80 → x = (i : Int) - 1 → N / 10 ^ i = M / 10 ^ i → TGo X [(q, .inl (cI, 80, .inl (dg N))), (r, .inl (cI, 80, .inl (dg M)))] 0 0 3 [(2, .int (iI x)), (0, .ref q), (1, .ref r)] [] := by
    intro c
    induction c with
    | zero => intro i x h1 h2 hx he; omega
    | succ c ih =>
      intro i x h1 h2 hx he
      refine go_iload_n O dX4_order_3 rfl 0 rfl 4 rfl ?_
      refine go_if_lt O dX4_order_4 37 (by decide) 7 rfl (by omega) (fun h4 => ?_) (fun h4 => ?_)
      · refine go_iconst O dX4_order_37 38 rfl ?_
        exact hret _ _ _ () dX4_order_38 rfl (by have e : i = 0 := (by omega); subst e; rw [tqz, tqz] at he; unfold cmpN; rw [if_neg (by omega), if_pos he])
      · refine go_aload_n O dX4_order_7 rfl 1 rfl 8 rfl ?_
        refine go_iload_n O dX4_order_8 rfl 0 rfl 9 rfl ?_
        obtain ⟨k, rfl⟩ : ∃ k, i = k + 1 := ⟨i - 1, by omega⟩
        refine go_iald O hK dX4_order_9 0 0 rfl rfl k (by omega) (by omega) (by omega) ((N / 10 ^ k % 10 : Nat) : Int) rfl 10 rfl ?_
        refine go_aload_n O dX4_order_10 rfl 2 rfl 11 rfl ?_
        refine go_iload_n O dX4_order_11 rfl 0 rfl 12 rfl ?_
        refine go_iald O hK dX4_order_12 1 0 rfl rfl k (by omega) (by omega) (by omega) ((M / 10 ^ k % 10 : Nat) : Int) rfl 13 rfl ?_
        refine go_icmp_eq O dX4_order_13 31 (by decide) 16 rfl (by omega) (by omega) (fun h13 => ?_) (fun h13 => ?_)
        · refine go_iinc O dX4_order_31 0 rfl (x - 1) (by omega) (by decide) [(2, .int (iI (x - 1))), (0, .ref q), (1, .ref r)] rfl 34 rfl ?_
          refine go_goto O dX4_order_34 3 (by decide) ?_
          exact ih k _ (by omega) (by omega) (by omega) (by rw [tq10, tq10] at he; omega)
        · refine go_aload_n O dX4_order_16 rfl 1 rfl 17 rfl ?_
          refine go_iload_n O dX4_order_17 rfl 0 rfl 18 rfl ?_
          refine go_iald O hK dX4_order_18 0 0 rfl rfl k (by omega) (by omega) (by omega) ((N / 10 ^ k % 10 : Nat) : Int) rfl 19 rfl ?_
          refine go_aload_n O dX4_order_19 rfl 2 rfl 20 rfl ?_
          refine go_iload_n O dX4_order_20 rfl 0 rfl 21 rfl ?_
          refine go_iald O hK dX4_order_21 1 0 rfl rfl k (by omega) (by omega) (by omega) ((M / 10 ^ k % 10 : Nat) : Int) rfl 22 rfl ?_
          refine go_icmp_ge O dX4_order_22 29 (by decide) 25 rfl (by omega) (by omega) (fun h22 => ?_) (fun h22 => ?_)
          · refine go_iconst O dX4_order_29 30 rfl ?_
            exact hret _ _ _ () dX4_order_30 rfl (by have e := lt_of_q (N := M) (M := N) k (by rw [tq10, tq10] at he; omega); unfold cmpN; rw [if_neg (by omega), if_neg (by omega)])
          · refine go_iconst O dX4_order_25 26 rfl ?_
            refine go_goto O dX4_order_26 30 (by decide) ?_
            exact hret _ _ _ () dX4_order_30 rfl (by have e := lt_of_q (N := N) (M := M) k (by rw [tq10, tq10] at he; omega); unfold cmpN; rw [if_pos e])
  refine go_bipush O dX4_order_0 (by decide) 2 rfl ?_
  refine go_istore_n O dX4_order_2 rfl (by decide) [(2, .int (iI 79)), (0, .ref q), (1, .ref r)] rfl 3 rfl ?_
  exact lp 81 80 _ (by omega) (by omega) (by omega) (by rw [q_lt hN, q_lt hM])
set_option maxHeartbeats 4000000 in
set_option maxRecDepth 100000 in
/-- shift: times 10^k -/
theorem c_X4_shift (E : TEn) (hE : EnvOk E) (q : Nat) (cI : ClassId) (N κ : Nat) (hκ : κ ≤ 80) : Ctv vwCl E yX4_shift wsX4_shift (rmn 0 0) [.ref q, .int (iI ((κ : Nat) : Int))] [(q, .inl (cI, 80, .inl (dg N)))] [(cI, .int)] (fun _ : Unit => True) (fun _ => [(q, .inl (cI, 80, .inl (dg (N * 10 ^ κ))))]) := by
  refine enterv (by decide) (Nat.le_of_ble_eq_true rfl) ?_
  intro X O hK hin2 hret
  show TGo X [(q, .inl (cI, 80, .inl (dg N)))] 0 0 0 [(0, .ref q), (1, .int (iI ((κ : Nat) : Int)))] []
  have lp : ∀ (c : Nat) (i : Nat) (x : Int) (g : Nat → Int32), c = i + 1 → i ≤ 80 → x = (i : Int) - 1 → (∀ j, j < i → g j = dg N j) → (∀ j, i ≤ j → j < 80 → g j = dg (N * 10 ^ κ) j) → TGo X [(q, .inl (cI, 80, .inl g))] 0 0 3 [(2, .int (iI x)), (0, .ref q), (1, .int (iI ((κ : Nat) : Int)))] [] := by
    intro c
    induction c with
    | zero => intro i x g h1 h2 hx hlo hhi; omega
    | succ c ih =>
      intro i x g h1 h2 hx hlo hhi
      refine go_iload_n O dX4_shift_3 rfl 0 rfl 4 rfl ?_
      refine go_if_lt O dX4_shift_4 30 (by decide) 7 rfl (by omega) (fun h4 => ?_) (fun h4 => ?_)
      · refine TGo.arr 0 rfl (dg (N * 10 ^ κ)) (fun j hj => hhi j (by omega) hj) (ws' := [(q, .inl (cI, 80, .inl (dg (N * 10 ^ κ))))]) rfl ?_
        exact hret _ _ () dX4_shift_30 trivial
      · obtain ⟨t, rfl⟩ : ∃ t, i = t + 1 := ⟨i - 1, by omega⟩
        refine go_aload_n O dX4_shift_7 rfl 1 rfl 8 rfl ?_
        refine go_iload_n O dX4_shift_8 rfl 0 rfl 9 rfl ?_
        refine go_iload_n O dX4_shift_9 rfl 0 rfl 10 rfl ?_
        refine go_iload_n O dX4_shift_10 rfl 2 rfl 11 rfl ?_
        refine go_icmp_lt O dX4_shift_11 22 (by decide) 14 rfl (by omega) (by omega) (fun h11 => ?_) (fun h11 => ?_)
        · refine go_iconst O dX4_shift_22 23 rfl ?_
          refine go_iast O hK dX4_shift_23 0 0 rfl rfl t (by omega) (by omega) (by omega) (upd g t (iI 0)) (fun _ _ => rfl) [(q, .inl (cI, 80, .inl (upd g t (iI 0))))] rfl 24 rfl ?_
          refine go_iinc O dX4_shift_24 0 rfl (x - 1) (by omega) (by decide) [(2, .int (iI (x - 1))), (0, .ref q), (1, .int (iI ((κ : Nat) : Int)))] rfl 27 rfl ?_
          refine go_goto O dX4_shift_27 3 (by decide) ?_
          exact ih t _ _ (by omega) (by omega) (by omega) (dlo_upd hlo) (dhi_updN hhi (by rw [dg_shift, if_neg (by omega)]))
        · refine go_aload_n O dX4_shift_14 rfl 1 rfl 15 rfl ?_
          refine go_iload_n O dX4_shift_15 rfl 0 rfl 16 rfl ?_
          refine go_iload_n O dX4_shift_16 rfl 2 rfl 17 rfl ?_
          refine go_isub O dX4_shift_17 ((t - κ : Nat) : Int) (by omega) 18 rfl ?_
          refine go_iald O hK dX4_shift_18 0 0 rfl rfl (t - κ) rfl (by omega) (by omega) ((N / 10 ^ (t - κ) % 10 : Nat) : Int) (hlo _ (by omega)) 19 rfl ?_
          refine go_goto O dX4_shift_19 23 (by decide) ?_
          refine go_iast O hK dX4_shift_23 0 0 rfl rfl t (by omega) (by omega) (by omega) (upd g t (iI ((N / 10 ^ (t - κ) % 10 : Nat) : Int))) (fun _ _ => rfl) [(q, .inl (cI, 80, .inl (upd g t (iI ((N / 10 ^ (t - κ) % 10 : Nat) : Int)))))] rfl 24 rfl ?_
          refine go_iinc O dX4_shift_24 0 rfl (x - 1) (by omega) (by decide) [(2, .int (iI (x - 1))), (0, .ref q), (1, .int (iI ((κ : Nat) : Int)))] rfl 27 rfl ?_
          refine go_goto O dX4_shift_27 3 (by decide) ?_
          exact ih t _ _ (by omega) (by omega) (by omega) (dlo_upd hlo) (dhi_updN hhi (by rw [dg_shift, if_pos (by omega)]; rfl))
  refine go_bipush O dX4_shift_0 (by decide) 2 rfl ?_
  refine go_istore_n O dX4_shift_2 rfl (by decide) [(2, .int (iI 79)), (0, .ref q), (1, .int (iI ((κ : Nat) : Int)))] rfl 3 rfl ?_
  exact lp 81 80 _ _ (by omega) (by omega) (by omega) (fun _ _ => rfl) (fun j a b => absurd b (by omega))
set_option maxHeartbeats 4000000 in
set_option maxRecDepth 100000 in
/-- increase: the sum, into the first -/
theorem c_X4_increase (E : TEn) (hE : EnvOk E) (q r : Nat) (cI : ClassId) (N M : Nat) : Ctv vwCl E yX4_increase wsX4_increase (rmn 0 0) [.ref q, .ref r] [(q, .inl (cI, 80, .inl (dg N))), (r, .inl (cI, 80, .inl (dg M)))] [(cI, .int)] (fun _ : Unit => True) (fun _ => [(q, .inl (cI, 80, .inl (dg (N + M)))), (r, .inl (cI, 80, .inl (dg M)))]) := by
  refine enterv (by decide) (Nat.le_of_ble_eq_true rfl) ?_
  intro X O hK hin2 hret
  show TGo X [(q, .inl (cI, 80, .inl (dg N))), (r, .inl (cI, 80, .inl (dg M)))] 0 0 0 [(0, .ref q), (1, .ref r)] []
  have lp : ∀ (c : Nat) (i : Nat) (κ : Nat) (x : Int) (y : Int) (g : Nat → Int32), c + i = 81 → i ≤ 80 → x = (i : Int) → y = (κ : Int) → κ ≤ 1 → (N + M) / 10 ^ i = N / 10 ^ i + M / 10 ^ i + κ → (∀ j, j < i → g j = dg (N + M) j) → (∀ j, i ≤ j → g j = dg N j) → TGo X [(q, .inl (cI, 80, .inl g)), (r, .inl (cI, 80, .inl (dg M)))] 0 0 4 [(2, .int (iI y)), (3, .int (iI x)), (0, .ref q), (1, .ref r)] [] := by
    intro c
    induction c with
    | zero => intro i κ x y g h1 h2 hx hy hκ hc hlo hhi; omega
    | succ c ih =>
      intro i κ x y g h1 h2 hx hy hκ hc hlo hhi
      refine go_iload_n O dX4_increase_4 rfl 1 rfl 5 rfl ?_
      refine go_bipush O dX4_increase_5 (by decide) 7 rfl ?_
      refine go_icmp_ge O dX4_increase_7 41 (by decide) 10 rfl (by omega) (by omega) (fun h7 => ?_) (fun h7 => ?_)
      · refine TGo.arr 0 rfl (dg (N + M)) (fun j hj => hlo j (by omega)) (ws' := [(q, .inl (cI, 80, .inl (dg (N + M)))), (r, .inl (cI, 80, .inl (dg M)))]) rfl ?_
        exact hret _ _ () dX4_increase_41 trivial
      · refine go_aload_n O dX4_increase_10 rfl 2 rfl 11 rfl ?_
        refine go_iload_n O dX4_increase_11 rfl 1 rfl 12 rfl ?_
        refine go_iald O hK dX4_increase_12 0 0 rfl rfl i hx (by omega) (by omega) ((N / 10 ^ i % 10 : Nat) : Int) (hhi i (Nat.le_refl _)) 13 rfl ?_
        refine go_aload_n O dX4_increase_13 rfl 3 rfl 14 rfl ?_
        refine go_iload_n O dX4_increase_14 rfl 1 rfl 15 rfl ?_
        refine go_iald O hK dX4_increase_15 1 0 rfl rfl i hx (by omega) (by omega) ((M / 10 ^ i % 10 : Nat) : Int) rfl 16 rfl ?_
        refine go_iadd O dX4_increase_16 ((N / 10 ^ i % 10 + M / 10 ^ i % 10 : Nat) : Int) (Int.natCast_add _ _).symm 17 rfl ?_
        refine go_iload_n O dX4_increase_17 rfl 0 rfl 18 rfl ?_
        refine go_iadd O dX4_increase_18 ((N / 10 ^ i % 10 + M / 10 ^ i % 10 + κ : Nat) : Int) (by omega) 19 rfl ?_
        refine go_istore O dX4_increase_19 (by decide) [(4, .int (iI ((N / 10 ^ i % 10 + M / 10 ^ i % 10 + κ : Nat) : Int))), (2, .int (iI y)), (3, .int (iI x)), (0, .ref q), (1, .ref r)] rfl 21 rfl ?_
        refine go_aload_n O dX4_increase_21 rfl 3 rfl 22 rfl ?_
        refine go_iload_n O dX4_increase_22 rfl 2 rfl 23 rfl ?_
        refine go_iload O dX4_increase_23 0 rfl 25 rfl ?_
        refine go_bipush O dX4_increase_25 (by decide) 27 rfl ?_
        refine go_irem O dX4_increase_27 (by omega) (by omega) (by omega) (by omega) (((N / 10 ^ i % 10 + M / 10 ^ i % 10 + κ) % 10 : Nat) : Int) (by omega) 28 rfl ?_
        refine go_iast O hK dX4_increase_28 0 0 rfl rfl i hx (by omega) (by omega) (upd g i (iI (((N / 10 ^ i % 10 + M / 10 ^ i % 10 + κ) % 10 : Nat) : Int))) (fun _ _ => rfl) [(q, .inl (cI, 80, .inl (upd g i (iI (((N / 10 ^ i % 10 + M / 10 ^ i % 10 + κ) % 10 : Nat) : Int))))), (r, .inl (cI, 80, .inl (dg M)))] rfl 29 rfl ?_
        refine go_iload O dX4_increase_29 0 rfl 31 rfl ?_
        refine go_bipush O dX4_increase_31 (by decide) 33 rfl ?_
        refine go_idiv O dX4_increase_33 (by omega) (by omega) (by omega) (by omega) (((N / 10 ^ i % 10 + M / 10 ^ i % 10 + κ) / 10 : Nat) : Int) (by omega) 34 rfl ?_
        refine go_istore_n O dX4_increase_34 rfl (by decide) [(2, .int (iI (((N / 10 ^ i % 10 + M / 10 ^ i % 10 + κ) / 10 : Nat) : Int))), (4, .int (iI ((N / 10 ^ i % 10 + M / 10 ^ i % 10 + κ : Nat) : Int))), (3, .int (iI x)), (0, .ref q), (1, .ref r)] rfl 35 rfl ?_
        refine go_iinc O dX4_increase_35 2 rfl ((i + 1 : Nat) : Int) (by omega) (by decide) [(3, .int (iI ((i + 1 : Nat) : Int))), (2, .int (iI (((N / 10 ^ i % 10 + M / 10 ^ i % 10 + κ) / 10 : Nat) : Int))), (4, .int (iI ((N / 10 ^ i % 10 + M / 10 ^ i % 10 + κ : Nat) : Int))), (0, .ref q), (1, .ref r)] rfl 38 rfl ?_
        refine go_goto O dX4_increase_38 4 (by decide) ?_
        refine TGo.lsub (lv' := [(2, .int (iI (((N / 10 ^ i % 10 + M / 10 ^ i % 10 + κ) / 10 : Nat) : Int))), (3, .int (iI ((i + 1 : Nat) : Int))), (0, .ref q), (1, .ref r)]) [1, 0, 3, 4] rfl ?_
        exact ih (i + 1) ((N / 10 ^ i % 10 + M / 10 ^ i % 10 + κ) / 10) _ _ _ (by omega) (by omega) (by omega) (by omega) (by omega) (inc_step hc) (lo_upd hlo (by rw [dg_at, inc_dig hc])) (hi_upd hhi)
  refine go_iconst O dX4_increase_0 1 rfl ?_
  refine go_istore_n O dX4_increase_1 rfl (by decide) [(2, .int (iI 0)), (0, .ref q), (1, .ref r)] rfl 2 rfl ?_
  refine go_iconst O dX4_increase_2 3 rfl ?_
  refine go_istore_n O dX4_increase_3 rfl (by decide) [(3, .int (iI 0)), (2, .int (iI 0)), (0, .ref q), (1, .ref r)] rfl 4 rfl ?_
  refine TGo.lsub (lv' := [(2, .int (iI 0)), (3, .int (iI 0)), (0, .ref q), (1, .ref r)]) [1, 0, 2, 3] rfl ?_
  exact lp 81 0 0 _ _ _ (by omega) (by omega) (by omega) (by omega) (by omega) (by rw [tqz, tqz, tqz, Nat.add_zero]) (fun j a => absurd a (by omega)) (fun _ _ => rfl)
set_option maxHeartbeats 4000000 in
set_option maxRecDepth 100000 in
/-- decrease: the difference, into the first -/
theorem c_X4_decrease (E : TEn) (hE : EnvOk E) (q r : Nat) (cI : ClassId) (N M : Nat) (hMN : M ≤ N) : Ctv vwCl E yX4_decrease wsX4_decrease (rmn 0 0) [.ref q, .ref r] [(q, .inl (cI, 80, .inl (dg N))), (r, .inl (cI, 80, .inl (dg M)))] [(cI, .int)] (fun _ : Unit => True) (fun _ => [(q, .inl (cI, 80, .inl (dg (N - M)))), (r, .inl (cI, 80, .inl (dg M)))]) := by
  refine enterv (by decide) (Nat.le_of_ble_eq_true rfl) ?_
  intro X O hK hin2 hret
  show TGo X [(q, .inl (cI, 80, .inl (dg N))), (r, .inl (cI, 80, .inl (dg M)))] 0 0 0 [(0, .ref q), (1, .ref r)] []
  have lp : ∀ (c : Nat) (i : Nat) (κ : Nat) (x : Int) (y : Int) (g : Nat → Int32), c + i = 81 → i ≤ 80 → x = (i : Int) → y = (κ : Int) → κ ≤ 1 → (N - M) / 10 ^ i + M / 10 ^ i + κ = N / 10 ^ i → (∀ j, j < i → g j = dg (N - M) j) → (∀ j, i ≤ j → g j = dg N j) → TGo X [(q, .inl (cI, 80, .inl g)), (r, .inl (cI, 80, .inl (dg M)))] 0 0 4 [(2, .int (iI y)), (3, .int (iI x)), (0, .ref q), (1, .ref r)] [] := by
    intro c
    induction c with
    | zero => intro i κ x y g h1 h2 hx hy hκ hc hlo hhi; omega
    | succ c ih =>
      intro i κ x y g h1 h2 hx hy hκ hc hlo hhi
      refine go_iload_n O dX4_decrease_4 rfl 1 rfl 5 rfl ?_
      refine go_bipush O dX4_decrease_5 (by decide) 7 rfl ?_
      refine go_icmp_ge O dX4_decrease_7 56 (by decide) 10 rfl (by omega) (by omega) (fun h7 => ?_) (fun h7 => ?_)
      · refine TGo.arr 0 rfl (dg (N - M)) (fun j hj => hlo j (by omega)) (ws' := [(q, .inl (cI, 80, .inl (dg (N - M)))), (r, .inl (cI, 80, .inl (dg M)))]) rfl ?_
        exact hret _ _ () dX4_decrease_56 trivial
      · refine go_aload_n O dX4_decrease_10 rfl 2 rfl 11 rfl ?_
        refine go_iload_n O dX4_decrease_11 rfl 1 rfl 12 rfl ?_
        refine go_iald O hK dX4_decrease_12 0 0 rfl rfl i hx (by omega) (by omega) ((N / 10 ^ i % 10 : Nat) : Int) (hhi i (Nat.le_refl _)) 13 rfl ?_
        refine go_aload_n O dX4_decrease_13 rfl 3 rfl 14 rfl ?_
        refine go_iload_n O dX4_decrease_14 rfl 1 rfl 15 rfl ?_
        refine go_iald O hK dX4_decrease_15 1 0 rfl rfl i hx (by omega) (by omega) ((M / 10 ^ i % 10 : Nat) : Int) rfl 16 rfl ?_
        refine go_isub O dX4_decrease_16 (((N / 10 ^ i % 10 : Nat) : Int) - ((M / 10 ^ i % 10 : Nat) : Int)) rfl 17 rfl ?_
        refine go_iload_n O dX4_decrease_17 rfl 0 rfl 18 rfl ?_
        refine go_isub O dX4_decrease_18 (((N / 10 ^ i % 10 : Nat) : Int) - ((M / 10 ^ i % 10 : Nat) : Int) - (κ : Int)) (by omega) 19 rfl ?_
        refine go_istore O dX4_decrease_19 (by decide) [(4, .int (iI (((N / 10 ^ i % 10 : Nat) : Int) - ((M / 10 ^ i % 10 : Nat) : Int) - (κ : Int)))), (2, .int (iI y)), (3, .int (iI x)), (0, .ref q), (1, .ref r)] rfl 21 rfl ?_
        refine go_iload O dX4_decrease_21 0 rfl 23 rfl ?_
        refine go_if_ge O dX4_decrease_23 30 (by decide) 26 rfl (by omega) (fun h23 => ?_) (fun h23 => ?_)
        · refine go_iconst O dX4_decrease_30 31 rfl ?_
          refine go_istore_n O dX4_decrease_31 rfl (by decide) [(2, .int (iI 0)), (4, .int (iI (((N / 10 ^ i % 10 : Nat) : Int) - ((M / 10 ^ i % 10 : Nat) : Int) - (κ : Int)))), (3, .int (iI x)), (0, .ref q), (1, .ref r)] rfl 32 rfl ?_
          refine go_aload_n O dX4_decrease_32 rfl 3 rfl 33 rfl ?_
          refine go_iload_n O dX4_decrease_33 rfl 2 rfl 34 rfl ?_
          refine go_iload O dX4_decrease_34 1 rfl 36 rfl ?_
          refine go_if_ge O dX4_decrease_36 47 (by decide) 39 rfl (by omega) (fun h36 => ?_) (fun h36 => ?_)
          · refine go_iload O dX4_decrease_47 1 rfl 49 rfl ?_
            refine go_iast O hK dX4_decrease_49 0 0 rfl rfl i hx (by omega) (by omega) (upd g i (iI (((N / 10 ^ i % 10 : Nat) : Int) - ((M / 10 ^ i % 10 : Nat) : Int) - (κ : Int)))) (fun _ _ => rfl) [(q, .inl (cI, 80, .inl (upd g i (iI (((N / 10 ^ i % 10 : Nat) : Int) - ((M / 10 ^ i % 10 : Nat) : Int) - (κ : Int)))))), (r, .inl (cI, 80, .inl (dg M)))] rfl 50 rfl ?_
            refine go_iinc O dX4_decrease_50 2 rfl ((i + 1 : Nat) : Int) (by omega) (by decide) [(3, .int (iI ((i + 1 : Nat) : Int))), (2, .int (iI 0)), (4, .int (iI (((N / 10 ^ i % 10 : Nat) : Int) - ((M / 10 ^ i % 10 : Nat) : Int) - (κ : Int)))), (0, .ref q), (1, .ref r)] rfl 53 rfl ?_
            refine go_goto O dX4_decrease_53 4 (by decide) ?_
            refine TGo.lsub (lv' := [(2, .int (iI 0)), (3, .int (iI ((i + 1 : Nat) : Int))), (0, .ref q), (1, .ref r)]) [1, 0, 3, 4] rfl ?_
            exact ih (i + 1) 0 _ _ _ (by omega) (by omega) (by omega) (by omega) (by omega) (dec_step hc hκ (Or.inr ⟨rfl, by omega⟩)) (lo_upd hlo (by rw [dg_at, dec_dig hc hκ, if_neg (by omega)])) (hi_upd hhi)
          · refine go_iload O dX4_decrease_39 1 rfl 41 rfl ?_
            refine go_bipush O dX4_decrease_41 (by decide) 43 rfl ?_
            refine go_iadd O dX4_decrease_43 ((((N / 10 ^ i % 10 : Nat) : Int) - ((M / 10 ^ i % 10 : Nat) : Int) - (κ : Int)) + 10) rfl 44 rfl ?_
            refine go_goto O dX4_decrease_44 49 (by decide) ?_
            refine go_iast O hK dX4_decrease_49 0 0 rfl rfl i hx (by omega) (by omega) (upd g i (iI ((((N / 10 ^ i % 10 : Nat) : Int) - ((M / 10 ^ i % 10 : Nat) : Int) - (κ : Int)) + 10))) (fun _ _ => rfl) [(q, .inl (cI, 80, .inl (upd g i (iI ((((N / 10 ^ i % 10 : Nat) : Int) - ((M / 10 ^ i % 10 : Nat) : Int) - (κ : Int)) + 10))))), (r, .inl (cI, 80, .inl (dg M)))] rfl 50 rfl ?_
            refine go_iinc O dX4_decrease_50 2 rfl ((i + 1 : Nat) : Int) (by omega) (by decide) [(3, .int (iI ((i + 1 : Nat) : Int))), (2, .int (iI 0)), (4, .int (iI (((N / 10 ^ i % 10 : Nat) : Int) - ((M / 10 ^ i % 10 : Nat) : Int) - (κ : Int)))), (0, .ref q), (1, .ref r)] rfl 53 rfl ?_
            refine go_goto O dX4_decrease_53 4 (by decide) ?_
            omega
        · refine go_iconst O dX4_decrease_26 27 rfl ?_
          refine go_goto O dX4_decrease_27 31 (by decide) ?_
          refine go_istore_n O dX4_decrease_31 rfl (by decide) [(2, .int (iI 1)), (4, .int (iI (((N / 10 ^ i % 10 : Nat) : Int) - ((M / 10 ^ i % 10 : Nat) : Int) - (κ : Int)))), (3, .int (iI x)), (0, .ref q), (1, .ref r)] rfl 32 rfl ?_
          refine go_aload_n O dX4_decrease_32 rfl 3 rfl 33 rfl ?_
          refine go_iload_n O dX4_decrease_33 rfl 2 rfl 34 rfl ?_
          refine go_iload O dX4_decrease_34 1 rfl 36 rfl ?_
          refine go_if_ge O dX4_decrease_36 47 (by decide) 39 rfl (by omega) (fun h36 => ?_) (fun h36 => ?_)
          · refine go_iload O dX4_decrease_47 1 rfl 49 rfl ?_
            refine go_iast O hK dX4_decrease_49 0 0 rfl rfl i hx (by omega) (by omega) (upd g i (iI (((N / 10 ^ i % 10 : Nat) : Int) - ((M / 10 ^ i % 10 : Nat) : Int) - (κ : Int)))) (fun _ _ => rfl) [(q, .inl (cI, 80, .inl (upd g i (iI (((N / 10 ^ i % 10 : Nat) : Int) - ((M / 10 ^ i % 10 : Nat) : Int) - (κ : Int)))))), (r, .inl (cI, 80, .inl (dg M)))] rfl 50 rfl ?_
            refine go_iinc O dX4_decrease_50 2 rfl ((i + 1 : Nat) : Int) (by omega) (by decide) [(3, .int (iI ((i + 1 : Nat) : Int))), (2, .int (iI 1)), (4, .int (iI (((N / 10 ^ i % 10 : Nat) : Int) - ((M / 10 ^ i % 10 : Nat) : Int) - (κ : Int)))), (0, .ref q), (1, .ref r)] rfl 53 rfl ?_
            refine go_goto O dX4_decrease_53 4 (by decide) ?_
            omega
          · refine go_iload O dX4_decrease_39 1 rfl 41 rfl ?_
            refine go_bipush O dX4_decrease_41 (by decide) 43 rfl ?_
            refine go_iadd O dX4_decrease_43 ((((N / 10 ^ i % 10 : Nat) : Int) - ((M / 10 ^ i % 10 : Nat) : Int) - (κ : Int)) + 10) rfl 44 rfl ?_
            refine go_goto O dX4_decrease_44 49 (by decide) ?_
            refine go_iast O hK dX4_decrease_49 0 0 rfl rfl i hx (by omega) (by omega) (upd g i (iI ((((N / 10 ^ i % 10 : Nat) : Int) - ((M / 10 ^ i % 10 : Nat) : Int) - (κ : Int)) + 10))) (fun _ _ => rfl) [(q, .inl (cI, 80, .inl (upd g i (iI ((((N / 10 ^ i % 10 : Nat) : Int) - ((M / 10 ^ i % 10 : Nat) : Int) - (κ : Int)) + 10))))), (r, .inl (cI, 80, .inl (dg M)))] rfl 50 rfl ?_
            refine go_iinc O dX4_decrease_50 2 rfl ((i + 1 : Nat) : Int) (by omega) (by decide) [(3, .int (iI ((i + 1 : Nat) : Int))), (2, .int (iI 1)), (4, .int (iI (((N / 10 ^ i % 10 : Nat) : Int) - ((M / 10 ^ i % 10 : Nat) : Int) - (κ : Int)))), (0, .ref q), (1, .ref r)] rfl 53 rfl ?_
            refine go_goto O dX4_decrease_53 4 (by decide) ?_
            refine TGo.lsub (lv' := [(2, .int (iI 1)), (3, .int (iI ((i + 1 : Nat) : Int))), (0, .ref q), (1, .ref r)]) [1, 0, 3, 4] rfl ?_
            exact ih (i + 1) 1 _ _ _ (by omega) (by omega) (by omega) (by omega) (by omega) (dec_step hc hκ (Or.inl ⟨rfl, by omega⟩)) (lo_upd hlo (by rw [dg_at, dec_dig hc hκ, if_pos (by omega)])) (hi_upd hhi)
  refine go_iconst O dX4_decrease_0 1 rfl ?_
  refine go_istore_n O dX4_decrease_1 rfl (by decide) [(2, .int (iI 0)), (0, .ref q), (1, .ref r)] rfl 2 rfl ?_
  refine go_iconst O dX4_decrease_2 3 rfl ?_
  refine go_istore_n O dX4_decrease_3 rfl (by decide) [(3, .int (iI 0)), (2, .int (iI 0)), (0, .ref q), (1, .ref r)] rfl 4 rfl ?_
  refine TGo.lsub (lv' := [(2, .int (iI 0)), (3, .int (iI 0)), (0, .ref q), (1, .ref r)]) [1, 0, 2, 3] rfl ?_
  exact lp 81 0 0 _ _ _ (by omega) (by omega) (by omega) (by omega) (by omega) (by rw [tqz, tqz, tqz]; omega) (fun j a => absurd a (by omega)) (fun _ _ => rfl)
set_option maxHeartbeats 4000000 in
set_option maxRecDepth 100000 in
/-- load: the digits of |n| -/
theorem c_X4_load (E : TEn) (hE : EnvOk E) (q : Nat) (cI : ClassId) (f : Nat → Int32) (v : Int) (hv : r64 v) : Ctv vwCl E yX4_load wsX4_load (rmn 1 21) [.ref q, .long (lI v)] [(q, .inl (cI, 80, .inl f))] [(cI, .int)] (fun _ : Unit => True) (fun _ => [(q, .inl (cI, 80, .inl (dg v.natAbs)))]) := by
  refine enterv (by decide) (Nat.le_of_ble_eq_true rfl) ?_
  intro X O hK hin2 hret
  show TGo X [(q, .inl (cI, 80, .inl f))] 0 0 0 [(0, .ref q), (1, .long (lI v))] []
  have lp : ∀ (c : Nat) (i : Nat) (ρ : Int) (x : Int) (g : Nat → Int32), c + i = 21 → i ≤ 20 → x = (i : Int) → r64 ρ → ρ.natAbs = v.natAbs / 10 ^ i → (∀ j, j < i → g j = dg v.natAbs j) → (∀ j, i ≤ j → g j = iI 0) → TGo X [(q, .inl (cI, 80, .inl g))] 0 0 9 [(3, .long (lI ρ)), (5, .int (iI x)), (0, .ref q), (1, .long (lI v))] [] := by
    intro c
    induction c with
    | zero => intro i ρ x g h1 h2 hx hρ hn hlo hhi; omega
    | succ c ih =>
      intro i ρ x g h1 h2 hx hρ hn hlo hhi
      refine go_iload O dX4_load_9 1 rfl 11 rfl ?_
      refine go_bipush O dX4_load_11 (by decide) 13 rfl ?_
      refine go_icmp_ge O dX4_load_13 53 (by decide) 16 rfl (by omega) (by omega) (fun h13 => ?_) (fun h13 => ?_)
      · refine TGo.arr 0 rfl (dg v.natAbs) (fun j hj => if a : j < i then hlo j a else (by rw [hhi j (by omega), dg_at, q_lt' (i := 20) (by omega) (by omega)]; rfl)) (ws' := [(q, .inl (cI, 80, .inl (dg v.natAbs)))]) rfl ?_
        exact hret _ _ () dX4_load_53 trivial
      · have t10 := tm10 ρ
        refine go_lload_n O dX4_load_16 rfl 0 rfl 17 rfl ?_
        refine go_ldc2 O dX4_load_17 (10) kcX4_76 (by decide) 20 rfl ?_
        refine go_lrem O dX4_load_20 hρ (by omega) (by omega) (by omega) (ρ.tmod 10) rfl 21 rfl ?_
        refine go_l2i O dX4_load_21 22 rfl ?_
        refine go_istore O dX4_load_22 (by decide) [(6, .int (iI (ρ.tmod 10))), (3, .long (lI ρ)), (5, .int (iI x)), (0, .ref q), (1, .long (lI v))] rfl 24 rfl ?_
        refine go_aload_n O dX4_load_24 rfl 3 rfl 25 rfl ?_
        refine go_iload O dX4_load_25 2 rfl 27 rfl ?_
        refine go_iload O dX4_load_27 0 rfl 29 rfl ?_
        refine go_if_ge O dX4_load_29 38 (by decide) 32 rfl (by omega) (fun h29 => ?_) (fun h29 => ?_)
        · refine go_iload O dX4_load_38 0 rfl 40 rfl ?_
          refine go_iast O hK dX4_load_40 0 0 rfl rfl i hx (by omega) (by omega) (upd g i (iI (ρ.tmod 10))) (fun _ _ => rfl) [(q, .inl (cI, 80, .inl (upd g i (iI (ρ.tmod 10)))))] rfl 41 rfl ?_
          refine go_lload_n O dX4_load_41 rfl 1 rfl 42 rfl ?_
          refine go_ldc2 O dX4_load_42 (10) kcX4_76 (by decide) 45 rfl ?_
          refine go_ldiv O dX4_load_45 hρ (by omega) (by omega) (by omega) (ρ.tdiv 10) rfl 46 rfl ?_
          refine go_lstore_n O dX4_load_46 rfl (by decide) [(3, .long (lI (ρ.tdiv 10))), (6, .int (iI (ρ.tmod 10))), (5, .int (iI x)), (0, .ref q), (1, .long (lI v))] rfl 47 rfl ?_
          refine go_iinc O dX4_load_47 2 rfl ((i + 1 : Nat) : Int) (by omega) (by decide) [(5, .int (iI ((i + 1 : Nat) : Int))), (3, .long (lI (ρ.tdiv 10))), (6, .int (iI (ρ.tmod 10))), (0, .ref q), (1, .long (lI v))] rfl 50 rfl ?_
          refine go_goto O dX4_load_50 9 (by decide) ?_
          refine TGo.lsub (lv' := [(3, .long (lI (ρ.tdiv 10))), (5, .int (iI ((i + 1 : Nat) : Int))), (0, .ref q), (1, .long (lI v))]) [1, 0, 3, 4] rfl ?_
          exact ih (i + 1) _ _ _ (by omega) (by omega) (by omega) (by omega) (by rw [t10.2.2.2, hn, tq10]) (lo_upd hlo (by rw [dg_at, ← hn, ← t10.2.2.1]; congr 1; omega)) (hi_upd hhi)
        · refine go_iload O dX4_load_32 0 rfl 34 rfl ?_
          refine go_ineg O dX4_load_34 (-(ρ.tmod 10)) rfl 35 rfl ?_
          refine go_goto O dX4_load_35 40 (by decide) ?_
          refine go_iast O hK dX4_load_40 0 0 rfl rfl i hx (by omega) (by omega) (upd g i (iI (-(ρ.tmod 10)))) (fun _ _ => rfl) [(q, .inl (cI, 80, .inl (upd g i (iI (-(ρ.tmod 10))))))] rfl 41 rfl ?_
          refine go_lload_n O dX4_load_41 rfl 1 rfl 42 rfl ?_
          refine go_ldc2 O dX4_load_42 (10) kcX4_76 (by decide) 45 rfl ?_
          refine go_ldiv O dX4_load_45 hρ (by omega) (by omega) (by omega) (ρ.tdiv 10) rfl 46 rfl ?_
          refine go_lstore_n O dX4_load_46 rfl (by decide) [(3, .long (lI (ρ.tdiv 10))), (6, .int (iI (ρ.tmod 10))), (5, .int (iI x)), (0, .ref q), (1, .long (lI v))] rfl 47 rfl ?_
          refine go_iinc O dX4_load_47 2 rfl ((i + 1 : Nat) : Int) (by omega) (by decide) [(5, .int (iI ((i + 1 : Nat) : Int))), (3, .long (lI (ρ.tdiv 10))), (6, .int (iI (ρ.tmod 10))), (0, .ref q), (1, .long (lI v))] rfl 50 rfl ?_
          refine go_goto O dX4_load_50 9 (by decide) ?_
          refine TGo.lsub (lv' := [(3, .long (lI (ρ.tdiv 10))), (5, .int (iI ((i + 1 : Nat) : Int))), (0, .ref q), (1, .long (lI v))]) [1, 0, 3, 4] rfl ?_
          exact ih (i + 1) _ _ _ (by omega) (by omega) (by omega) (by omega) (by rw [t10.2.2.2, hn, tq10]) (lo_upd hlo (by rw [dg_at, ← hn, ← t10.2.2.1]; congr 1; omega)) (hi_upd hhi)
  refine go_aload_n O dX4_load_0 rfl 0 rfl 1 rfl ?_
  refine go_callvS (rest := []) (wr := []) O hK hE (c_X4_clear E hE q cI f) mlX4_72 smX4_clear inX4 cdX4_clear 1 (by decide +kernel) ⟨Nat.le_of_ble_eq_true rfl, Nat.le_of_ble_eq_true rfl⟩ [0] rfl [0] rfl (by decide) [] rfl (by decide) (by decide) rfl rfl (Nat.le_of_ble_eq_true rfl) ⟨Nat.zero_le _, Nat.zero_le _⟩ dX4_load_1 4 rfl (fun u hu => ?_)
  show TGo X [(q, .inl (cI, 80, .inl (dg 0)))] 0 0 4 [(0, .ref q), (1, .long (lI v))] []
  refine go_lload_n O dX4_load_4 rfl 1 rfl 5 rfl ?_
  refine go_lstore_n O dX4_load_5 rfl (by decide) [(3, .long (lI v)), (0, .ref q), (1, .long (lI v))] rfl 6 rfl ?_
  refine go_iconst O dX4_load_6 7 rfl ?_
  refine go_istore O dX4_load_7 (by decide) [(5, .int (iI 0)), (3, .long (lI v)), (0, .ref q), (1, .long (lI v))] rfl 9 rfl ?_
  refine TGo.lsub (lv' := [(3, .long (lI v)), (5, .int (iI 0)), (0, .ref q), (1, .long (lI v))]) [1, 0, 2, 3] rfl ?_
  exact lp 21 0 v _ _ (by omega) (by omega) (by omega) hv (by rw [tqz]) (fun j a => absurd a (by omega)) (fun j _ => dg_zero j)
end
section
set_option maxHeartbeats 4000000 in
set_option maxRecDepth 100000 in
/-- quotient: num by den, what is over into rem -/
theorem c_X4_quotient (E : TEn) (hE : EnvOk E) (h : Nat) (fs : List Value) {qnum qden qquo qrem : Nat} (f_num : fs[10]? = some (.ref qnum)) (f_den : fs[12]? = some (.ref qden)) (f_quo : fs[13]? = some (.ref qquo)) (f_rem : fs[14]? = some (.ref qrem)) (cI : ClassId) (N D : Nat) (fq fr : Nat → Int32) (hN : N < 10 ^ 80) (hD : 0 < D) (hD2 : 10 * D ≤ 10 ^ 80) : Ctv vwCl E yX4_quotient wsX4_quotient (rmn 1 24) [.ref h] [(h, .inr (4, fs)), (qnum, .inl (cI, 80, .inl (dg N))), (qden, .inl (cI, 80, .inl (dg D))), (qquo, .inl (cI, 80, .inl fq)), (qrem, .inl (cI, 80, .inl fr))] [(cI, .int)] (fun _ : Unit => True) (fun _ => [(h, .inr (4, fs)), (qnum, .inl (cI, 80, .inl (dg N))), (qden, .inl (cI, 80, .inl (dg D))), (qquo, .inl (cI, 80, .inl (dg (N / D)))), (qrem, .inl (cI, 80, .inl (dg (N % D))))]) := by
  refine enterv (by decide) (Nat.le_of_ble_eq_true rfl) ?_
  intro X O hK hin2 hret
  show TGo X [(h, .inr (4, fs)), (qnum, .inl (cI, 80, .inl (dg N))), (qden, .inl (cI, 80, .inl (dg D))), (qquo, .inl (cI, 80, .inl fq)), (qrem, .inl (cI, 80, .inl fr))] 0 0 0 [(0, .ref h)] []
  have lp : ∀ (c i : Nat) (x : Int) (a b : Nat), c = i + 1 → i ≤ 80 → x = (i : Int) - 1 → a = N / 10 ^ i / D * 10 ^ i → b = N / 10 ^ i % D → TGo X [(h, .inr (4, fs)), (qnum, .inl (cI, 80, .inl (dg N))), (qden, .inl (cI, 80, .inl (dg D))), (qquo, .inl (cI, 80, .inl (dg a))), (qrem, .inl (cI, 80, .inl (dg b)))] 0 0 17 [(1, .int (iI x)), (0, .ref h)] [] := by
    intro c
    induction c with
    | zero => intro i x a b h1; omega
    | succ c ih =>
      intro i x a b h1 h2 hx ha hb
      cases i with
      | zero =>
        refine go_iload_n O dX4_quotient_17 rfl 0 rfl 18 rfl ?_
        refine go_if_lt O dX4_quotient_18 96 (by decide) 21 rfl (by omega) (fun h18 => ?_) (fun h18 => by omega)
        rw [tqz] at ha hb
        rw [Nat.pow_zero, Nat.mul_one] at ha
        subst ha; subst hb
        exact hret _ _ () dX4_quotient_96 trivial
      | succ k =>
        have hR : N / 10 ^ (k + 1) % D < D := Nat.mod_lt _ hD
        have hdk : N / 10 ^ k % 10 < 10 := Nat.mod_lt _ (by omega)
        have hxk : x = (k : Int) := by omega
        have inner : ∀ (d t a' b' : Nat), d + t = 10 → t ≤ 9 → a' = N / 10 ^ (k + 1) / D * 10 ^ (k + 1) + t * 10 ^ k → b' + t * D = N / 10 ^ (k + 1) % D * 10 + N / 10 ^ k % 10 → TGo X [(h, .inr (4, fs)), (qnum, .inl (cI, 80, .inl (dg N))), (qden, .inl (cI, 80, .inl (dg D))), (qquo, .inl (cI, 80, .inl (dg a'))), (qrem, .inl (cI, 80, .inl (dg b')))] 0 0 41 [(1, .int (iI x)), (0, .ref h)] [] := by
          intro d
          induction d with
          | zero => intro t a' b' h1; omega
          | succ d ih2 =>
            intro t a' b' h3 h4 ha' hb'
            have hb2 : b' < 10 ^ 80 := by omega
            refine go_aload_n O dX4_quotient_41 rfl 1 rfl 42 rfl ?_
            refine go_get O hK dX4_quotient_42 hinX4 0 rfl rfl 13 (by decide) flX4_38 f_quo 45 rfl ?_
            refine go_iload_n O dX4_quotient_45 rfl 0 rfl 46 rfl ?_
            refine go_iald O hK dX4_quotient_46 3 0 rfl rfl k hxk (by omega) (by omega) ((t : Nat) : Int) (by rw [dg_at, ha', tdig_t h4]) 47 rfl ?_
            refine go_bipush O dX4_quotient_47 (by decide) 49 rfl ?_
            refine go_icmp_ge O dX4_quotient_49 90 (by decide) 52 rfl (by omega) (by omega) (fun h49 => ?_) (fun h49 => ?_)
            · refine go_iinc O dX4_quotient_90 0 rfl (x - 1) (by omega) (by decide) [(1, .int (iI (x - 1))), (0, .ref h)] rfl 93 rfl ?_
              refine go_goto O dX4_quotient_93 17 (by decide) ?_
              have hbD : b' < D := by first | omega | exact Nat.lt_of_not_le (fun z => absurd (cmpN_ge.mpr z) (by omega)) | (have e9 : t = 9 := (by omega); subst e9; omega)
              obtain ⟨e1, e2⟩ := tquo (N := N) (m := k) (t := t) (r := b') hD hbD (by rw [Nat.add_comm]; exact hb')
              exact ih k _ _ _ (by omega) (by omega) (by omega) (by rw [ha', e1, tdig_e]) e2.symm
            · refine go_aload_n O dX4_quotient_52 rfl 1 rfl 53 rfl ?_
              refine go_get O hK dX4_quotient_53 hinX4 0 rfl rfl 14 (by decide) flX4_41 f_rem 56 rfl ?_
              refine go_aload_n O dX4_quotient_56 rfl 1 rfl 57 rfl ?_
              refine go_get O hK dX4_quotient_57 hinX4 0 rfl rfl 12 (by decide) flX4_35 f_den 60 rfl ?_
              refine go_calliS (rest := []) (wr := [(h, .inr (4, fs)), (qnum, .inl (cI, 80, .inl (dg N))), (qquo, .inl (cI, 80, .inl (dg a')))]) O hK hE (c_X4_order E hE qrem qden cI b' D hb2 (by omega)) mlX4_86 smX4_order inX4 cdX4_order 2 (by decide +kernel) ⟨Nat.le_of_ble_eq_true rfl, Nat.le_of_ble_eq_true rfl⟩ [0] rfl [4, 2] rfl (by decide) [0, 1, 3] rfl (by decide) (by decide) rfl rfl (Nat.le_of_ble_eq_true rfl) ⟨Nat.zero_le _, Nat.zero_le _⟩ dX4_quotient_60 63 rfl (fun z u hu => ?_)
              subst hu
              show TGo X [(h, .inr (4, fs)), (qnum, .inl (cI, 80, .inl (dg N))), (qquo, .inl (cI, 80, .inl (dg a'))), (qrem, .inl (cI, 80, .inl (dg b'))), (qden, .inl (cI, 80, .inl (dg D)))] 0 0 63 [(1, .int (iI x)), (0, .ref h)] [.int (iI (cmpN b' D))]
              refine TGo.sub (ws' := [(h, .inr (4, fs)), (qnum, .inl (cI, 80, .inl (dg N))), (qden, .inl (cI, 80, .inl (dg D))), (qquo, .inl (cI, 80, .inl (dg a'))), (qrem, .inl (cI, 80, .inl (dg b')))]) [0, 1, 4, 2, 3] (by decide) rfl ?_
              refine go_if_lt O dX4_quotient_63 90 (by decide) 66 rfl (cmpN_r _ _) (fun hge => ?_) (fun hge => ?_)
              · refine go_iinc O dX4_quotient_90 0 rfl (x - 1) (by omega) (by decide) [(1, .int (iI (x - 1))), (0, .ref h)] rfl 93 rfl ?_
                refine go_goto O dX4_quotient_93 17 (by decide) ?_
                have hbD : b' < D := by first | omega | exact Nat.lt_of_not_le (fun z => absurd (cmpN_ge.mpr z) (by omega)) | (have e9 : t = 9 := (by omega); subst e9; omega)
                obtain ⟨e1, e2⟩ := tquo (N := N) (m := k) (t := t) (r := b') hD hbD (by rw [Nat.add_comm]; exact hb')
                exact ih k _ _ _ (by omega) (by omega) (by omega) (by rw [ha', e1, tdig_e]) e2.symm
              · refine go_aload_n O dX4_quotient_66 rfl 1 rfl 67 rfl ?_
                refine go_get O hK dX4_quotient_67 hinX4 0 rfl rfl 14 (by decide) flX4_41 f_rem 70 rfl ?_
                refine go_aload_n O dX4_quotient_70 rfl 1 rfl 71 rfl ?_
                refine go_get O hK dX4_quotient_71 hinX4 0 rfl rfl 12 (by decide) flX4_35 f_den 74 rfl ?_
                refine go_callvS (rest := []) (wr := [(h, .inr (4, fs)), (qnum, .inl (cI, 80, .inl (dg N))), (qquo, .inl (cI, 80, .inl (dg a')))]) O hK hE (c_X4_decrease E hE qrem qden cI b' D (cmpN_ge.mp hge)) mlX4_90 smX4_decrease inX4 cdX4_decrease 2 (by decide +kernel) ⟨Nat.le_of_ble_eq_true rfl, Nat.le_of_ble_eq_true rfl⟩ [0] rfl [4, 2] rfl (by decide) [0, 1, 3] rfl (by decide) (by decide) rfl rfl (Nat.le_of_ble_eq_true rfl) ⟨Nat.zero_le _, Nat.zero_le _⟩ dX4_quotient_74 77 rfl (fun u hu => ?_)
                show TGo X [(h, .inr (4, fs)), (qnum, .inl (cI, 80, .inl (dg N))), (qquo, .inl (cI, 80, .inl (dg a'))), (qrem, .inl (cI, 80, .inl (dg (b' - D)))), (qden, .inl (cI, 80, .inl (dg D)))] 0 0 77 [(1, .int (iI x)), (0, .ref h)] []
                refine TGo.sub (ws' := [(h, .inr (4, fs)), (qnum, .inl (cI, 80, .inl (dg N))), (qden, .inl (cI, 80, .inl (dg D))), (qquo, .inl (cI, 80, .inl (dg a'))), (qrem, .inl (cI, 80, .inl (dg (b' - D))))]) [0, 1, 4, 2, 3] (by decide) rfl ?_
                refine go_aload_n O dX4_quotient_77 rfl 1 rfl 78 rfl ?_
                refine go_get O hK dX4_quotient_78 hinX4 0 rfl rfl 13 (by decide) flX4_38 f_quo 81 rfl ?_
                refine go_iload_n O dX4_quotient_81 rfl 0 rfl 82 rfl ?_
                refine go_dup2_11 O dX4_quotient_82 rfl rfl 83 rfl ?_
                refine go_iald O hK dX4_quotient_83 3 0 rfl rfl k hxk (by omega) (by omega) ((t : Nat) : Int) (by rw [dg_at, ha', tdig_t h4]) 84 rfl ?_
                refine go_iconst O dX4_quotient_84 85 rfl ?_
                refine go_iadd O dX4_quotient_85 ((t + 1 : Nat) : Int) (by omega) 86 rfl ?_
                refine go_iast O hK dX4_quotient_86 3 0 rfl rfl k hxk (by omega) (by omega) (dg (a' + 10 ^ k)) (fun j _ => dg_bump (by rw [ha', tdig_t h4]) (by omega) j) [(h, .inr (4, fs)), (qnum, .inl (cI, 80, .inl (dg N))), (qden, .inl (cI, 80, .inl (dg D))), (qquo, .inl (cI, 80, .inl (dg (a' + 10 ^ k)))), (qrem, .inl (cI, 80, .inl (dg (b' - D))))] rfl 87 rfl ?_
                refine go_goto O dX4_quotient_87 41 (by decide) ?_
                exact ih2 (t + 1) _ _ (by omega) (by omega) (by rw [ha', tdig_s]) (by have := cmpN_ge.mp hge; rw [Nat.add_mul, Nat.one_mul]; omega)
        refine go_iload_n O dX4_quotient_17 rfl 0 rfl 18 rfl ?_
        refine go_if_lt O dX4_quotient_18 96 (by decide) 21 rfl (by omega) (fun h18 => by omega) (fun h18 => ?_)
        refine go_aload_n O dX4_quotient_21 rfl 1 rfl 22 rfl ?_
        refine go_get O hK dX4_quotient_22 hinX4 0 rfl rfl 14 (by decide) flX4_41 f_rem 25 rfl ?_
        refine go_iconst O dX4_quotient_25 26 rfl ?_
        refine go_callvS (rest := []) (wr := [(h, .inr (4, fs)), (qnum, .inl (cI, 80, .inl (dg N))), (qden, .inl (cI, 80, .inl (dg D))), (qquo, .inl (cI, 80, .inl (dg a)))]) O hK hE (c_X4_shift E hE qrem cI b 1 (by omega)) mlX4_82 smX4_shift inX4 cdX4_shift 2 (by decide +kernel) ⟨Nat.le_of_ble_eq_true rfl, Nat.le_of_ble_eq_true rfl⟩ [0] rfl [4] rfl (by decide) [0, 1, 2, 3] rfl (by decide) (by decide) rfl rfl (Nat.le_of_ble_eq_true rfl) ⟨Nat.zero_le _, Nat.zero_le _⟩ dX4_quotient_26 29 rfl (fun u hu => ?_)
        show TGo X [(h, .inr (4, fs)), (qnum, .inl (cI, 80, .inl (dg N))), (qden, .inl (cI, 80, .inl (dg D))), (qquo, .inl (cI, 80, .inl (dg a))), (qrem, .inl (cI, 80, .inl (dg (b * 10 ^ 1))))] 0 0 29 [(1, .int (iI x)), (0, .ref h)] []
        refine go_aload_n O dX4_quotient_29 rfl 1 rfl 30 rfl ?_
        refine go_get O hK dX4_quotient_30 hinX4 0 rfl rfl 14 (by decide) flX4_41 f_rem 33 rfl ?_
        refine go_iconst O dX4_quotient_33 34 rfl ?_
        refine go_aload_n O dX4_quotient_34 rfl 1 rfl 35 rfl ?_
        refine go_get O hK dX4_quotient_35 hinX4 0 rfl rfl 10 (by decide) flX4_29 f_num 38 rfl ?_
        refine go_iload_n O dX4_quotient_38 rfl 0 rfl 39 rfl ?_
        refine go_iald O hK dX4_quotient_39 1 0 rfl rfl k hxk (by omega) (by omega) ((N / 10 ^ k % 10 : Nat) : Int) rfl 40 rfl ?_
        refine go_iast O hK dX4_quotient_40 4 0 rfl rfl 0 rfl (by omega) (by omega) (dg (b * 10 + N / 10 ^ k % 10)) (fun j _ => dg_unit hdk j) [(h, .inr (4, fs)), (qnum, .inl (cI, 80, .inl (dg N))), (qden, .inl (cI, 80, .inl (dg D))), (qquo, .inl (cI, 80, .inl (dg a))), (qrem, .inl (cI, 80, .inl (dg (b * 10 + N / 10 ^ k % 10))))] rfl 41 rfl ?_
        exact inner 10 0 _ _ (by omega) (by omega) (by rw [ha, Nat.zero_mul]; omega) (by rw [hb, Nat.zero_mul]; omega)
  refine go_aload_n O dX4_quotient_0 rfl 0 rfl 1 rfl ?_
  refine go_get O hK dX4_quotient_1 hinX4 0 rfl rfl 13 (by decide) flX4_38 f_quo 4 rfl ?_
  refine go_callvS (rest := []) (wr := [(h, .inr (4, fs)), (qnum, .inl (cI, 80, .inl (dg N))), (qden, .inl (cI, 80, .inl (dg D))), (qrem, .inl (cI, 80, .inl fr))]) O hK hE (c_X4_clear E hE qquo cI fq) mlX4_72 smX4_clear inX4 cdX4_clear 1 (by decide +kernel) ⟨Nat.le_of_ble_eq_true rfl, Nat.le_of_ble_eq_true rfl⟩ [0] rfl [3] rfl (by decide) [0, 1, 2, 4] rfl (by decide) (by decide) rfl rfl (Nat.le_of_ble_eq_true rfl) ⟨Nat.zero_le _, Nat.zero_le _⟩ dX4_quotient_4 7 rfl (fun u hu => ?_)
  show TGo X [(h, .inr (4, fs)), (qnum, .inl (cI, 80, .inl (dg N))), (qden, .inl (cI, 80, .inl (dg D))), (qrem, .inl (cI, 80, .inl fr)), (qquo, .inl (cI, 80, .inl (dg 0)))] 0 0 7 [(0, .ref h)] []
  refine TGo.sub (ws' := [(h, .inr (4, fs)), (qnum, .inl (cI, 80, .inl (dg N))), (qden, .inl (cI, 80, .inl (dg D))), (qquo, .inl (cI, 80, .inl (dg 0))), (qrem, .inl (cI, 80, .inl fr))]) [0, 1, 2, 4, 3] (by decide) rfl ?_
  refine go_aload_n O dX4_quotient_7 rfl 0 rfl 8 rfl ?_
  refine go_get O hK dX4_quotient_8 hinX4 0 rfl rfl 14 (by decide) flX4_41 f_rem 11 rfl ?_
  refine go_callvS (rest := []) (wr := [(h, .inr (4, fs)), (qnum, .inl (cI, 80, .inl (dg N))), (qden, .inl (cI, 80, .inl (dg D))), (qquo, .inl (cI, 80, .inl (dg 0)))]) O hK hE (c_X4_clear E hE qrem cI fr) mlX4_72 smX4_clear inX4 cdX4_clear 1 (by decide +kernel) ⟨Nat.le_of_ble_eq_true rfl, Nat.le_of_ble_eq_true rfl⟩ [0] rfl [4] rfl (by decide) [0, 1, 2, 3] rfl (by decide) (by decide) rfl rfl (Nat.le_of_ble_eq_true rfl) ⟨Nat.zero_le _, Nat.zero_le _⟩ dX4_quotient_11 14 rfl (fun u hu => ?_)
  show TGo X [(h, .inr (4, fs)), (qnum, .inl (cI, 80, .inl (dg N))), (qden, .inl (cI, 80, .inl (dg D))), (qquo, .inl (cI, 80, .inl (dg 0))), (qrem, .inl (cI, 80, .inl (dg 0)))] 0 0 14 [(0, .ref h)] []
  refine go_bipush O dX4_quotient_14 (by decide) 16 rfl ?_
  refine go_istore_n O dX4_quotient_16 rfl (by decide) [(1, .int (iI 79)), (0, .ref h)] rfl 17 rfl ?_
  exact lp 81 80 _ 0 0 (by omega) (by omega) (by omega) (by rw [q_lt hN, Nat.zero_div, Nat.zero_mul]) (by rw [q_lt hN, Nat.zero_mod])
end
section
/-! Products of rows. -/
theorem tmodS (A i : Nat) : A % 10 ^ (i + 1) = A % 10 ^ i + A / 10 ^ i % 10 * 10 ^ i := by
  rw [Nat.pow_succ, Nat.mod_mul, Nat.mul_comm (10 ^ i)]
theorem tprod_step {T v x B i j κ : Nat} (hc : T / 10 ^ (i + j) = v / 10 ^ (i + j) + x * (B / 10 ^ j) + κ) : T / 10 ^ (i + j + 1) = v / 10 ^ (i + j + 1) + x * (B / 10 ^ (j + 1)) + (v / 10 ^ (i + j) % 10 + κ + x * (B / 10 ^ j % 10)) / 10 := by
  rw [tq10, tq10, tq10, hc]
  have h1 : x * (B / 10 ^ j) = 10 * (x * (B / 10 ^ j / 10)) + x * (B / 10 ^ j % 10) := by
    rw [← Nat.mul_left_comm, ← Nat.mul_add, Nat.div_add_mod]
  omega
theorem tprod_dig {T v x B i j κ : Nat} (hc : T / 10 ^ (i + j) = v / 10 ^ (i + j) + x * (B / 10 ^ j) + κ) : T / 10 ^ (i + j) % 10 = (v / 10 ^ (i + j) % 10 + κ + x * (B / 10 ^ j % 10)) % 10 := by
  rw [hc]
  have h1 : x * (B / 10 ^ j) = 10 * (x * (B / 10 ^ j / 10)) + x * (B / 10 ^ j % 10) := by
    rw [← Nat.mul_left_comm, ← Nat.mul_add, Nat.div_add_mod]
  omega
theorem tprod_0 {v x B i : Nat} : (v + x * B * 10 ^ i) / 10 ^ (i + 0) = v / 10 ^ (i + 0) + x * (B / 10 ^ 0) + 0 := by
  rw [Nat.add_zero, Nat.add_zero, tqz, Nat.add_mul_div_right _ _ (p10 i)]
theorem tq_hi {T v e p : Nat} (h : T / 10 ^ e = v / 10 ^ e) (hp : e ≤ p) : T / 10 ^ p = v / 10 ^ p := by
  have e1 : p = e + (p - e) := by omega
  rw [e1, tqadd, tqadd v, h]
theorem tdig_mul (a b : Nat) (ha : a < 10) (hb : b < 10) : a * b ≤ 81 := Nat.mul_le_mul (show a ≤ 9 by omega) (show b ≤ 9 by omega)
theorem tprod_le {A B i : Nat} : A % 10 ^ i * B + A / 10 ^ i % 10 * B * 10 ^ i ≤ A * B := by
  have h : A % 10 ^ i * B + A / 10 ^ i % 10 * B * 10 ^ i = A % 10 ^ (i + 1) * B := by
    rw [tmodS, Nat.add_mul, Nat.mul_right_comm]
  rw [h]
  exact Nat.mul_le_mul_right _ (Nat.mod_le _ _)
theorem tprod_next {A B i : Nat} : A % 10 ^ i * B + A / 10 ^ i % 10 * B * 10 ^ i = A % 10 ^ (i + 1) * B := by
  rw [tmodS, Nat.add_mul, Nat.mul_right_comm]
theorem tlow {N k m j : Nat} (hj : j < m) : (N + k * 10 ^ m) / 10 ^ j % 10 = N / 10 ^ j % 10 := by
  have e : k * 10 ^ m = 10 ^ j * (10 * (k * 10 ^ (m - j - 1))) := by
    have e1 : 10 ^ m = 10 ^ j * (10 * 10 ^ (m - j - 1)) := by rw [← p10s, ← p10add]; congr 1; omega
    rw [e1, Nat.mul_left_comm k, Nat.mul_left_comm k]
  rw [e, Nat.add_mul_div_left _ _ (p10 j)]
  omega
set_option maxHeartbeats 4000000 in
set_option maxRecDepth 100000 in
/-- product: into num -/
theorem c_X4_product (E : TEn) (hE : EnvOk E) (h : Nat) (fs : List Value) {qnum : Nat} (f_num : fs[10]? = some (.ref qnum)) (q r : Nat) (cI : ClassId) (A B : Nat) (f : Nat → Int32) (hab : tnds A + tnds B ≤ 80) (hAB : A * B < 10 ^ 80) : Ctv vwCl E yX4_product wsX4_product (rmn 1 22) [.ref h, .ref q, .ref r] [(h, .inr (4, fs)), (qnum, .inl (cI, 80, .inl f)), (q, .inl (cI, 80, .inl (dg A))), (r, .inl (cI, 80, .inl (dg B)))] [(cI, .int)] (fun _ : Unit => True) (fun _ => [(h, .inr (4, fs)), (qnum, .inl (cI, 80, .inl (dg (A * B)))), (q, .inl (cI, 80, .inl (dg A))), (r, .inl (cI, 80, .inl (dg B)))]) := by
  refine enterv (by decide) (Nat.le_of_ble_eq_true rfl) ?_
  intro X O hK hin2 hret
  show TGo X [(h, .inr (4, fs)), (qnum, .inl (cI, 80, .inl f)), (q, .inl (cI, 80, .inl (dg A))), (r, .inl (cI, 80, .inl (dg B)))] 0 0 0 [(0, .ref h), (1, .ref q), (2, .ref r)] []
  have lp : ∀ (c i : Nat) (x : Int) (v : Nat), c + i = tnds A + 1 → i ≤ tnds A → x = (i : Int) → v = A % 10 ^ i * B → TGo X [(h, .inr (4, fs)), (qnum, .inl (cI, 80, .inl (dg v))), (q, .inl (cI, 80, .inl (dg A))), (r, .inl (cI, 80, .inl (dg B)))] 0 0 21 [(5, .int (iI x)), (3, .int (iI ((tnds A : Nat) : Int))), (4, .int (iI ((tnds B : Nat) : Int))), (0, .ref h), (1, .ref q), (2, .ref r)] [] := by
    intro c
    induction c with
    | zero => intro i x v h1; omega
    | succ c ih =>
      intro i x v h1 h2 hx hv
      have hT : v + A / 10 ^ i % 10 * B * 10 ^ i < 10 ^ 80 := by rw [hv]; exact Nat.lt_of_le_of_lt tprod_le hAB
      have inner : ∀ (d j κ : Nat) (y z : Int) (g : Nat → Int32), d + (i + j) = 81 → i + j ≤ 80 → i < tnds A → y = (κ : Int) → z = (j : Int) → κ ≤ 9 → (v + A / 10 ^ i % 10 * B * 10 ^ i) / 10 ^ (i + j) = v / 10 ^ (i + j) + A / 10 ^ i % 10 * (B / 10 ^ j) + κ → (∀ p, p < i + j → g p = dg (v + A / 10 ^ i % 10 * B * 10 ^ i) p) → (∀ p, i + j ≤ p → g p = dg v p) → TGo X [(h, .inr (4, fs)), (qnum, .inl (cI, 80, .inl g)), (q, .inl (cI, 80, .inl (dg A))), (r, .inl (cI, 80, .inl (dg B)))] 0 0 33 [(5, .int (iI x)), (6, .int (iI y)), (7, .int (iI z)), (3, .int (iI ((tnds A : Nat) : Int))), (4, .int (iI ((tnds B : Nat) : Int))), (0, .ref h), (1, .ref q), (2, .ref r)] [] := by
        intro d
        induction d with
        | zero => intro j κ y z g h3; omega
        | succ d ih2 =>
          intro j κ y z g h3 h4 hi hy hz hκ hc hlo hhi
          have hm := tdig_mul (A / 10 ^ i % 10) (B / 10 ^ j % 10) (Nat.mod_lt _ (by omega)) (Nat.mod_lt _ (by omega))
          have hB0 : tnds B ≤ j → B / 10 ^ j = 0 := fun e => q_lt' (tnds_lt B) e
          have hj80 : 0 < κ → i + j < 80 := by
            intro e
            rcases Nat.lt_or_ge (i + j) 80 with e2 | e2
            · exact e2
            · have e3 : i + j = 80 := by omega
              rw [e3, q_lt hT] at hc
              omega
          refine go_iload O dX4_product_33 2 rfl 35 rfl ?_
          refine go_iload O dX4_product_35 4 rfl 37 rfl ?_
          refine go_icmp_lt O dX4_product_37 45 (by decide) 40 rfl (by omega) (by omega) (fun h37 => ?_) (fun h37 => ?_)
          · refine go_aload_n O dX4_product_45 rfl 5 rfl 46 rfl ?_
            refine go_get O hK dX4_product_46 hinX4 0 rfl rfl 10 (by decide) flX4_29 f_num 49 rfl ?_
            refine go_iload O dX4_product_49 0 rfl 51 rfl ?_
            refine go_iload O dX4_product_51 2 rfl 53 rfl ?_
            refine go_iadd O dX4_product_53 ((i + j : Nat) : Int) (by omega) 54 rfl ?_
            refine go_iald O hK dX4_product_54 1 0 rfl rfl (i + j) rfl (by first | omega | exact hj80 (by omega)) (by omega) ((v / 10 ^ (i + j) % 10 : Nat) : Int) (hhi _ (Nat.le_refl _)) 55 rfl ?_
            refine go_iload O dX4_product_55 1 rfl 57 rfl ?_
            refine go_iadd O dX4_product_57 ((v / 10 ^ (i + j) % 10 + κ : Nat) : Int) (by omega) 58 rfl ?_
            refine go_iload O dX4_product_58 2 rfl 60 rfl ?_
            refine go_iload O dX4_product_60 4 rfl 62 rfl ?_
            refine go_icmp_ge O dX4_product_62 77 (by decide) 65 rfl (by omega) (by omega) (fun h62 => by omega) (fun h62 => ?_)
            refine go_aload_n O dX4_product_65 rfl 6 rfl 66 rfl ?_
            refine go_iload O dX4_product_66 0 rfl 68 rfl ?_
            refine go_iald O hK dX4_product_68 2 0 rfl rfl i hx (by omega) (by omega) ((A / 10 ^ i % 10 : Nat) : Int) rfl 69 rfl ?_
            refine go_aload_n O dX4_product_69 rfl 7 rfl 70 rfl ?_
            refine go_iload O dX4_product_70 2 rfl 72 rfl ?_
            refine go_iald O hK dX4_product_72 3 0 rfl rfl j hz (by omega) (by omega) ((B / 10 ^ j % 10 : Nat) : Int) rfl 73 rfl ?_
            refine go_imul O dX4_product_73 ((A / 10 ^ i % 10 * (B / 10 ^ j % 10) : Nat) : Int) (Int.natCast_mul _ _).symm 74 rfl ?_
            refine go_goto O dX4_product_74 78 (by decide) ?_
            refine go_iadd O dX4_product_78 ((v / 10 ^ (i + j) % 10 + κ + A / 10 ^ i % 10 * (B / 10 ^ j % 10) : Nat) : Int) (Int.natCast_add _ _).symm 79 rfl ?_
            refine go_istore O dX4_product_79 (by decide) [(8, .int (iI ((v / 10 ^ (i + j) % 10 + κ + A / 10 ^ i % 10 * (B / 10 ^ j % 10) : Nat) : Int))), (5, .int (iI x)), (6, .int (iI y)), (7, .int (iI z)), (3, .int (iI ((tnds A : Nat) : Int))), (4, .int (iI ((tnds B : Nat) : Int))), (0, .ref h), (1, .ref q), (2, .ref r)] rfl 81 rfl ?_
            refine go_aload_n O dX4_product_81 rfl 6 rfl 82 rfl ?_
            refine go_get O hK dX4_product_82 hinX4 0 rfl rfl 10 (by decide) flX4_29 f_num 85 rfl ?_
            refine go_iload O dX4_product_85 1 rfl 87 rfl ?_
            refine go_iload O dX4_product_87 3 rfl 89 rfl ?_
            refine go_iadd O dX4_product_89 ((i + j : Nat) : Int) (by omega) 90 rfl ?_
            refine go_iload O dX4_product_90 0 rfl 92 rfl ?_
            refine go_bipush O dX4_product_92 (by decide) 94 rfl ?_
            refine go_irem O dX4_product_94 (by omega) (by omega) (by omega) (by omega) (((v / 10 ^ (i + j) % 10 + κ + A / 10 ^ i % 10 * (B / 10 ^ j % 10)) % 10 : Nat) : Int) (by omega) 95 rfl ?_
            refine go_iast O hK dX4_product_95 1 0 rfl rfl (i + j) rfl (by first | omega | exact hj80 (by omega)) (by omega) (upd g (i + j) (iI (((v / 10 ^ (i + j) % 10 + κ + A / 10 ^ i % 10 * (B / 10 ^ j % 10)) % 10 : Nat) : Int))) (fun _ _ => rfl) [(h, .inr (4, fs)), (qnum, .inl (cI, 80, .inl (upd g (i + j) (iI (((v / 10 ^ (i + j) % 10 + κ + A / 10 ^ i % 10 * (B / 10 ^ j % 10)) % 10 : Nat) : Int))))), (q, .inl (cI, 80, .inl (dg A))), (r, .inl (cI, 80, .inl (dg B)))] rfl 96 rfl ?_
            refine go_iload O dX4_product_96 0 rfl 98 rfl ?_
            refine go_bipush O dX4_product_98 (by decide) 100 rfl ?_
            refine go_idiv O dX4_product_100 (by omega) (by omega) (by omega) (by omega) (((v / 10 ^ (i + j) % 10 + κ + A / 10 ^ i % 10 * (B / 10 ^ j % 10)) / 10 : Nat) : Int) (by omega) 101 rfl ?_
            refine go_istore O dX4_product_101 (by decide) [(6, .int (iI (((v / 10 ^ (i + j) % 10 + κ + A / 10 ^ i % 10 * (B / 10 ^ j % 10)) / 10 : Nat) : Int))), (8, .int (iI ((v / 10 ^ (i + j) % 10 + κ + A / 10 ^ i % 10 * (B / 10 ^ j % 10) : Nat) : Int))), (5, .int (iI x)), (7, .int (iI z)), (3, .int (iI ((tnds A : Nat) : Int))), (4, .int (iI ((tnds B : Nat) : Int))), (0, .ref h), (1, .ref q), (2, .ref r)] rfl 103 rfl ?_
            refine go_iinc O dX4_product_103 3 rfl ((j + 1 : Nat) : Int) (by omega) (by decide) [(7, .int (iI ((j + 1 : Nat) : Int))), (6, .int (iI (((v / 10 ^ (i + j) % 10 + κ + A / 10 ^ i % 10 * (B / 10 ^ j % 10)) / 10 : Nat) : Int))), (8, .int (iI ((v / 10 ^ (i + j) % 10 + κ + A / 10 ^ i % 10 * (B / 10 ^ j % 10) : Nat) : Int))), (5, .int (iI x)), (3, .int (iI ((tnds A : Nat) : Int))), (4, .int (iI ((tnds B : Nat) : Int))), (0, .ref h), (1, .ref q), (2, .ref r)] rfl 106 rfl ?_
            refine go_goto O dX4_product_106 33 (by decide) ?_
            refine TGo.lsub (lv' := [(5, .int (iI x)), (6, .int (iI (((v / 10 ^ (i + j) % 10 + κ + A / 10 ^ i % 10 * (B / 10 ^ j % 10)) / 10 : Nat) : Int))), (7, .int (iI ((j + 1 : Nat) : Int))), (3, .int (iI ((tnds A : Nat) : Int))), (4, .int (iI ((tnds B : Nat) : Int))), (0, .ref h), (1, .ref q), (2, .ref r)]) [3, 1, 0, 4, 5, 6, 7, 8] rfl ?_
            exact ih2 (j + 1) ((v / 10 ^ (i + j) % 10 + κ + A / 10 ^ i % 10 * (B / 10 ^ j % 10)) / 10) _ _ _ (by omega) (by first | omega | (have := hj80 (by omega); omega)) hi (by omega) (by omega) (by omega) (tprod_step hc) (lo_upd (i := i + j) hlo (by rw [dg_at, tprod_dig hc])) (hi_upd (i := i + j) hhi)
          · refine go_iload O dX4_product_40 1 rfl 42 rfl ?_
            refine go_if_le O dX4_product_42 109 (by decide) 45 rfl (by omega) (fun h42 => ?_) (fun h42 => ?_)
            · refine go_iinc O dX4_product_109 0 rfl ((i + 1 : Nat) : Int) (by omega) (by decide) [(5, .int (iI ((i + 1 : Nat) : Int))), (6, .int (iI y)), (7, .int (iI z)), (3, .int (iI ((tnds A : Nat) : Int))), (4, .int (iI ((tnds B : Nat) : Int))), (0, .ref h), (1, .ref q), (2, .ref r)] rfl 112 rfl ?_
              refine go_goto O dX4_product_112 21 (by decide) ?_
              have hk0 : κ = 0 := by omega
              have hq : (v + A / 10 ^ i % 10 * B * 10 ^ i) / 10 ^ (i + j) = v / 10 ^ (i + j) := by rw [hc, hB0 (by omega), Nat.mul_zero, hk0]; omega
              refine TGo.arr 1 rfl (dg (v + A / 10 ^ i % 10 * B * 10 ^ i)) (fun p _ => if e : p < i + j then hlo p e else (by rw [hhi p (by omega), dg_at, dg_at, tq_hi hq (by omega)])) (ws' := [(h, .inr (4, fs)), (qnum, .inl (cI, 80, .inl (dg (v + A / 10 ^ i % 10 * B * 10 ^ i)))), (q, .inl (cI, 80, .inl (dg A))), (r, .inl (cI, 80, .inl (dg B)))]) rfl ?_
              refine TGo.lsub (lv' := [(5, .int (iI ((i + 1 : Nat) : Int))), (3, .int (iI ((tnds A : Nat) : Int))), (4, .int (iI ((tnds B : Nat) : Int))), (0, .ref h), (1, .ref q), (2, .ref r)]) [0, 3, 4, 5, 6, 7] rfl ?_
              exact ih (i + 1) _ _ (by omega) (by omega) (by omega) (by rw [hv, tprod_next])
            · refine go_aload_n O dX4_product_45 rfl 5 rfl 46 rfl ?_
              refine go_get O hK dX4_product_46 hinX4 0 rfl rfl 10 (by decide) flX4_29 f_num 49 rfl ?_
              refine go_iload O dX4_product_49 0 rfl 51 rfl ?_
              refine go_iload O dX4_product_51 2 rfl 53 rfl ?_
              refine go_iadd O dX4_product_53 ((i + j : Nat) : Int) (by omega) 54 rfl ?_
              refine go_iald O hK dX4_product_54 1 0 rfl rfl (i + j) rfl (by first | omega | exact hj80 (by omega)) (by omega) ((v / 10 ^ (i + j) % 10 : Nat) : Int) (hhi _ (Nat.le_refl _)) 55 rfl ?_
              refine go_iload O dX4_product_55 1 rfl 57 rfl ?_
              refine go_iadd O dX4_product_57 ((v / 10 ^ (i + j) % 10 + κ : Nat) : Int) (by omega) 58 rfl ?_
              refine go_iload O dX4_product_58 2 rfl 60 rfl ?_
              refine go_iload O dX4_product_60 4 rfl 62 rfl ?_
              refine go_icmp_ge O dX4_product_62 77 (by decide) 65 rfl (by omega) (by omega) (fun h62 => ?_) (fun h62 => by omega)
              refine go_iconst O dX4_product_77 78 rfl ?_
              refine go_iadd O dX4_product_78 ((v / 10 ^ (i + j) % 10 + κ + A / 10 ^ i % 10 * (B / 10 ^ j % 10) : Nat) : Int) (by rw [hB0 (by omega), Nat.zero_mod, Nat.mul_zero]; omega) 79 rfl ?_
              refine go_istore O dX4_product_79 (by decide) [(8, .int (iI ((v / 10 ^ (i + j) % 10 + κ + A / 10 ^ i % 10 * (B / 10 ^ j % 10) : Nat) : Int))), (5, .int (iI x)), (6, .int (iI y)), (7, .int (iI z)), (3, .int (iI ((tnds A : Nat) : Int))), (4, .int (iI ((tnds B : Nat) : Int))), (0, .ref h), (1, .ref q), (2, .ref r)] rfl 81 rfl ?_
              refine go_aload_n O dX4_product_81 rfl 6 rfl 82 rfl ?_
              refine go_get O hK dX4_product_82 hinX4 0 rfl rfl 10 (by decide) flX4_29 f_num 85 rfl ?_
              refine go_iload O dX4_product_85 1 rfl 87 rfl ?_
              refine go_iload O dX4_product_87 3 rfl 89 rfl ?_
              refine go_iadd O dX4_product_89 ((i + j : Nat) : Int) (by omega) 90 rfl ?_
              refine go_iload O dX4_product_90 0 rfl 92 rfl ?_
              refine go_bipush O dX4_product_92 (by decide) 94 rfl ?_
              refine go_irem O dX4_product_94 (by omega) (by omega) (by omega) (by omega) (((v / 10 ^ (i + j) % 10 + κ + A / 10 ^ i % 10 * (B / 10 ^ j % 10)) % 10 : Nat) : Int) (by omega) 95 rfl ?_
              refine go_iast O hK dX4_product_95 1 0 rfl rfl (i + j) rfl (by first | omega | exact hj80 (by omega)) (by omega) (upd g (i + j) (iI (((v / 10 ^ (i + j) % 10 + κ + A / 10 ^ i % 10 * (B / 10 ^ j % 10)) % 10 : Nat) : Int))) (fun _ _ => rfl) [(h, .inr (4, fs)), (qnum, .inl (cI, 80, .inl (upd g (i + j) (iI (((v / 10 ^ (i + j) % 10 + κ + A / 10 ^ i % 10 * (B / 10 ^ j % 10)) % 10 : Nat) : Int))))), (q, .inl (cI, 80, .inl (dg A))), (r, .inl (cI, 80, .inl (dg B)))] rfl 96 rfl ?_
              refine go_iload O dX4_product_96 0 rfl 98 rfl ?_
              refine go_bipush O dX4_product_98 (by decide) 100 rfl ?_
              refine go_idiv O dX4_product_100 (by omega) (by omega) (by omega) (by omega) (((v / 10 ^ (i + j) % 10 + κ + A / 10 ^ i % 10 * (B / 10 ^ j % 10)) / 10 : Nat) : Int) (by omega) 101 rfl ?_
              refine go_istore O dX4_product_101 (by decide) [(6, .int (iI (((v / 10 ^ (i + j) % 10 + κ + A / 10 ^ i % 10 * (B / 10 ^ j % 10)) / 10 : Nat) : Int))), (8, .int (iI ((v / 10 ^ (i + j) % 10 + κ + A / 10 ^ i % 10 * (B / 10 ^ j % 10) : Nat) : Int))), (5, .int (iI x)), (7, .int (iI z)), (3, .int (iI ((tnds A : Nat) : Int))), (4, .int (iI ((tnds B : Nat) : Int))), (0, .ref h), (1, .ref q), (2, .ref r)] rfl 103 rfl ?_
              refine go_iinc O dX4_product_103 3 rfl ((j + 1 : Nat) : Int) (by omega) (by decide) [(7, .int (iI ((j + 1 : Nat) : Int))), (6, .int (iI (((v / 10 ^ (i + j) % 10 + κ + A / 10 ^ i % 10 * (B / 10 ^ j % 10)) / 10 : Nat) : Int))), (8, .int (iI ((v / 10 ^ (i + j) % 10 + κ + A / 10 ^ i % 10 * (B / 10 ^ j % 10) : Nat) : Int))), (5, .int (iI x)), (3, .int (iI ((tnds A : Nat) : Int))), (4, .int (iI ((tnds B : Nat) : Int))), (0, .ref h), (1, .ref q), (2, .ref r)] rfl 106 rfl ?_
              refine go_goto O dX4_product_106 33 (by decide) ?_
              refine TGo.lsub (lv' := [(5, .int (iI x)), (6, .int (iI (((v / 10 ^ (i + j) % 10 + κ + A / 10 ^ i % 10 * (B / 10 ^ j % 10)) / 10 : Nat) : Int))), (7, .int (iI ((j + 1 : Nat) : Int))), (3, .int (iI ((tnds A : Nat) : Int))), (4, .int (iI ((tnds B : Nat) : Int))), (0, .ref h), (1, .ref q), (2, .ref r)]) [3, 1, 0, 4, 5, 6, 7, 8] rfl ?_
              exact ih2 (j + 1) ((v / 10 ^ (i + j) % 10 + κ + A / 10 ^ i % 10 * (B / 10 ^ j % 10)) / 10) _ _ _ (by omega) (by first | omega | (have := hj80 (by omega); omega)) hi (by omega) (by omega) (by omega) (tprod_step hc) (lo_upd (i := i + j) hlo (by rw [dg_at, tprod_dig hc])) (hi_upd (i := i + j) hhi)
      refine go_iload O dX4_product_21 0 rfl 23 rfl ?_
      refine go_iload_n O dX4_product_23 rfl 1 rfl 24 rfl ?_
      refine go_icmp_ge O dX4_product_24 115 (by decide) 27 rfl (by omega) (by omega) (fun h24 => ?_) (fun h24 => ?_)
      · have e : i = tnds A := by omega
        rw [e, Nat.mod_eq_of_lt (tnds_lt A)] at hv
        subst hv
        exact hret _ _ () dX4_product_115 trivial
      · refine go_iconst O dX4_product_27 28 rfl ?_
        refine go_istore O dX4_product_28 (by decide) [(6, .int (iI 0)), (5, .int (iI x)), (3, .int (iI ((tnds A : Nat) : Int))), (4, .int (iI ((tnds B : Nat) : Int))), (0, .ref h), (1, .ref q), (2, .ref r)] rfl 30 rfl ?_
        refine go_iconst O dX4_product_30 31 rfl ?_
        refine go_istore O dX4_product_31 (by decide) [(7, .int (iI 0)), (6, .int (iI 0)), (5, .int (iI x)), (3, .int (iI ((tnds A : Nat) : Int))), (4, .int (iI ((tnds B : Nat) : Int))), (0, .ref h), (1, .ref q), (2, .ref r)] rfl 33 rfl ?_
        refine TGo.lsub (lv' := [(5, .int (iI x)), (6, .int (iI 0)), (7, .int (iI 0)), (3, .int (iI ((tnds A : Nat) : Int))), (4, .int (iI ((tnds B : Nat) : Int))), (0, .ref h), (1, .ref q), (2, .ref r)]) [2, 1, 0, 3, 4, 5, 6, 7] rfl ?_
        exact inner (81 - i) 0 0 _ _ _ (by omega) (by omega) (by omega) (by omega) (by omega) (by omega) tprod_0 (fun p e => by rw [dg_at, dg_at, tlow (by omega)]) (fun p _ => rfl)
  refine go_aload_n O dX4_product_0 rfl 0 rfl 1 rfl ?_
  refine go_get O hK dX4_product_1 hinX4 0 rfl rfl 10 (by decide) flX4_29 f_num 4 rfl ?_
  refine go_callvS (rest := []) (wr := [(h, .inr (4, fs)), (q, .inl (cI, 80, .inl (dg A))), (r, .inl (cI, 80, .inl (dg B)))]) O hK hE (c_X4_clear E hE qnum cI f) mlX4_72 smX4_clear inX4 cdX4_clear 1 (by decide +kernel) ⟨Nat.le_of_ble_eq_true rfl, Nat.le_of_ble_eq_true rfl⟩ [0] rfl [1] rfl (by decide) [0, 2, 3] rfl (by decide) (by decide) rfl rfl (Nat.le_of_ble_eq_true rfl) ⟨Nat.zero_le _, Nat.zero_le _⟩ dX4_product_4 7 rfl (fun u hu => ?_)
  show TGo X [(h, .inr (4, fs)), (q, .inl (cI, 80, .inl (dg A))), (r, .inl (cI, 80, .inl (dg B))), (qnum, .inl (cI, 80, .inl (dg 0)))] 0 0 7 [(0, .ref h), (1, .ref q), (2, .ref r)] []
  refine TGo.sub (ws' := [(h, .inr (4, fs)), (qnum, .inl (cI, 80, .inl (dg 0))), (q, .inl (cI, 80, .inl (dg A))), (r, .inl (cI, 80, .inl (dg B)))]) [0, 3, 1, 2] (by decide) rfl ?_
  refine go_aload_n O dX4_product_7 rfl 1 rfl 8 rfl ?_
  refine go_calliS (rest := []) (wr := [(h, .inr (4, fs)), (qnum, .inl (cI, 80, .inl (dg 0))), (r, .inl (cI, 80, .inl (dg B)))]) O hK hE (c_X4_size E hE q cI A (Nat.lt_of_lt_of_le (tnds_lt A) (p10le (by omega)))) mlX4_78 smX4_size inX4 cdX4_size 1 (by decide +kernel) ⟨Nat.le_of_ble_eq_true rfl, Nat.le_of_ble_eq_true rfl⟩ [0] rfl [2] rfl (by decide) [0, 1, 3] rfl (by decide) (by decide) rfl rfl (Nat.le_of_ble_eq_true rfl) ⟨Nat.zero_le _, Nat.zero_le _⟩ dX4_product_8 11 rfl (fun z u hu => ?_)
  subst hu
  show TGo X [(h, .inr (4, fs)), (qnum, .inl (cI, 80, .inl (dg 0))), (r, .inl (cI, 80, .inl (dg B))), (q, .inl (cI, 80, .inl (dg A)))] 0 0 11 [(0, .ref h), (1, .ref q), (2, .ref r)] [.int (iI ((tnds A : Nat) : Int))]
  refine TGo.sub (ws' := [(h, .inr (4, fs)), (qnum, .inl (cI, 80, .inl (dg 0))), (q, .inl (cI, 80, .inl (dg A))), (r, .inl (cI, 80, .inl (dg B)))]) [0, 1, 3, 2] (by decide) rfl ?_
  refine go_istore_n O dX4_product_11 rfl (by decide) [(3, .int (iI ((tnds A : Nat) : Int))), (0, .ref h), (1, .ref q), (2, .ref r)] rfl 12 rfl ?_
  refine go_aload_n O dX4_product_12 rfl 3 rfl 13 rfl ?_
  refine go_calliS (rest := []) (wr := [(h, .inr (4, fs)), (qnum, .inl (cI, 80, .inl (dg 0))), (q, .inl (cI, 80, .inl (dg A)))]) O hK hE (c_X4_size E hE r cI B (Nat.lt_of_lt_of_le (tnds_lt B) (p10le (by omega)))) mlX4_78 smX4_size inX4 cdX4_size 1 (by decide +kernel) ⟨Nat.le_of_ble_eq_true rfl, Nat.le_of_ble_eq_true rfl⟩ [0] rfl [3] rfl (by decide) [0, 1, 2] rfl (by decide) (by decide) rfl rfl (Nat.le_of_ble_eq_true rfl) ⟨Nat.zero_le _, Nat.zero_le _⟩ dX4_product_13 16 rfl (fun z u hu => ?_)
  subst hu
  show TGo X [(h, .inr (4, fs)), (qnum, .inl (cI, 80, .inl (dg 0))), (q, .inl (cI, 80, .inl (dg A))), (r, .inl (cI, 80, .inl (dg B)))] 0 0 16 [(3, .int (iI ((tnds A : Nat) : Int))), (0, .ref h), (1, .ref q), (2, .ref r)] [.int (iI ((tnds B : Nat) : Int))]
  refine go_istore O dX4_product_16 (by decide) [(4, .int (iI ((tnds B : Nat) : Int))), (3, .int (iI ((tnds A : Nat) : Int))), (0, .ref h), (1, .ref q), (2, .ref r)] rfl 18 rfl ?_
  refine go_iconst O dX4_product_18 19 rfl ?_
  refine go_istore O dX4_product_19 (by decide) [(5, .int (iI 0)), (4, .int (iI ((tnds B : Nat) : Int))), (3, .int (iI ((tnds A : Nat) : Int))), (0, .ref h), (1, .ref q), (2, .ref r)] rfl 21 rfl ?_
  refine TGo.lsub (lv' := [(5, .int (iI 0)), (3, .int (iI ((tnds A : Nat) : Int))), (4, .int (iI ((tnds B : Nat) : Int))), (0, .ref h), (1, .ref q), (2, .ref r)]) [0, 2, 1, 3, 4, 5] rfl ?_
  exact lp (tnds A + 1) 0 _ 0 (by omega) (by omega) (by omega) (by rw [Nat.pow_zero, Nat.mod_one, Nat.zero_mul])
end
section
/-! Truth values as ints. -/
def bz (b : Bool) : Int := if b = true then 1 else 0
theorem bz_t : bz true = 1 := rfl
theorem bz_f : bz false = 0 := rfl
theorem bz_01 (b : Bool) : bz b = 0 ∨ bz b = 1 := by cases b <;> simp [bz]
theorem bz_0 {b : Bool} : bz b = 0 ↔ b = false := by cases b <;> simp [bz]
theorem bz_1 {b : Bool} : bz b = 1 ↔ b = true := by cases b <;> simp [bz]
theorem bz_r (b : Bool) : r32 (bz b) := by rcases bz_01 b with h | h <;> rw [h] <;> constructor <;> omega
theorem nar_b {z : Int} (h : z = 0 ∨ z = 1) : narrow .boolean (.int (iI z)) = .int (iI z) := by rcases h with rfl | rfl <;> rfl
theorem fit_b {z : Int} (h : z = 0 ∨ z = 1) : fits .boolean (.int (iI z)) = true := by rcases h with rfl | rfl <;> rfl
theorem vnar_b {z : Int} (h : z = 0 ∨ z = 1) : vp_nar .boolean (iI z) = iI z := by rcases h with rfl | rfl <;> rfl
theorem awy_iff {m : Int} {b : Bool} {q r d : Nat} : awy m b q r d = true ↔ r ≠ 0 ∧ (m = 0 ∨ (m = 2 ∧ bz b = 0) ∨ (m = 3 ∧ bz b = 1) ∨ (m = 4 ∧ d ≤ 2 * r) ∨ (m = 5 ∧ d < 2 * r) ∨ (m = 6 ∧ (d < 2 * r ∨ (d ≤ 2 * r ∧ q % 2 = 1)))) := by
  unfold awy
  rw [bz_0, bz_1]
  simp only [Bool.and_eq_true, Bool.or_eq_true, Bool.not_eq_true', decide_eq_true_eq, decide_eq_false_iff_not, ne_eq]
  constructor
  · intro ⟨h1, h2⟩
    refine ⟨h1, ?_⟩
    rcases h2 with ((((h2 | h2) | h2) | h2) | h2) | h2
    · exact Or.inl h2
    · exact Or.inr (Or.inl h2)
    · exact Or.inr (Or.inr (Or.inl h2))
    · exact Or.inr (Or.inr (Or.inr (Or.inl h2)))
    · exact Or.inr (Or.inr (Or.inr (Or.inr (Or.inl h2))))
    · exact Or.inr (Or.inr (Or.inr (Or.inr (Or.inr h2))))
  · intro ⟨h1, h2⟩
    refine ⟨h1, ?_⟩
    rcases h2 with h2 | h2 | h2 | h2 | h2 | h2
    · exact Or.inl (Or.inl (Or.inl (Or.inl (Or.inl h2))))
    · exact Or.inl (Or.inl (Or.inl (Or.inl (Or.inr h2))))
    · exact Or.inl (Or.inl (Or.inl (Or.inr h2)))
    · exact Or.inl (Or.inl (Or.inr h2))
    · exact Or.inl (Or.inr h2)
    · exact Or.inr h2
theorem trnd_up {m : Int} {b : Bool} {q r d : Nat} (h0 : r ≠ 0) (h : m = 0 ∨ (m = 2 ∧ bz b = 0) ∨ (m = 3 ∧ bz b = 1) ∨ (m = 4 ∧ d ≤ 2 * r) ∨ (m = 5 ∧ d < 2 * r) ∨ (m = 6 ∧ (d < 2 * r ∨ (d ≤ 2 * r ∧ q % 2 = 1)))) : trnd m b q r d = q + 1 := by
  unfold trnd
  rw [if_pos (awy_iff.mpr ⟨h0, h⟩)]
theorem trnd_no {m : Int} {b : Bool} {q r d : Nat} (h : ¬ (m = 0 ∨ (m = 2 ∧ bz b = 0) ∨ (m = 3 ∧ bz b = 1) ∨ (m = 4 ∧ d ≤ 2 * r) ∨ (m = 5 ∧ d < 2 * r) ∨ (m = 6 ∧ (d < 2 * r ∨ (d ≤ 2 * r ∧ q % 2 = 1))))) : trnd m b q r d = q := by
  unfold trnd
  rw [if_neg (fun e => h (awy_iff.mp e).2)]
theorem trnd_0 {m : Int} {b : Bool} {q d : Nat} : trnd m b q 0 d = q := by
  unfold trnd
  rw [if_neg (fun e => (awy_iff.mp e).1 rfl)]
theorem tnds_0iff {N : Nat} : tnds N = 0 ↔ N = 0 := by
  constructor
  · intro h
    have := tnds_lt N
    rw [h, Nat.pow_zero] at this
    omega
  · intro h; subst h; rfl
set_option maxHeartbeats 4000000 in
set_option maxRecDepth 100000 in
/-- take: a register into a row -/
theorem c_X4_take (E : TEn) (hE : EnvOk E) (h : Nat) (fs : List Value) {qkept : Nat} (f_kept : fs[6]? = some (.ref qkept)) (q : Nat) (cI : ClassId) (K f : Nat → Int32) (ρ V : Nat) (hρ : ρ < 8) (hV : V < 10 ^ 40) (hKV : ∀ j, j < 40 → K (40 * ρ + j) = dg V j) : Ctv vwCl E yX4_take wsX4_take (rmn 1 21) [.ref h, .ref q, .int (iI ((ρ : Nat) : Int))] [(h, .inr (4, fs)), (qkept, .inl (cI, 320, .inl K)), (q, .inl (cI, 80, .inl f))] [(cI, .int)] (fun _ : Unit => True) (fun _ => [(h, .inr (4, fs)), (qkept, .inl (cI, 320, .inl K)), (q, .inl (cI, 80, .inl (dg V)))]) := by
  refine enterv (by decide) (Nat.le_of_ble_eq_true rfl) ?_
  intro X O hK hin2 hret
  show TGo X [(h, .inr (4, fs)), (qkept, .inl (cI, 320, .inl K)), (q, .inl (cI, 80, .inl f))] 0 0 0 [(0, .ref h), (1, .ref q), (2, .int (iI ((ρ : Nat) : Int)))] []
  have lp : ∀ (c : Nat) (i : Nat) (x : Int) (g : Nat → Int32), c + i = 41 → i ≤ 40 → x = (i : Int) → (∀ j, j < i → g j = dg V j) → (∀ j, i ≤ j → g j = iI 0) → TGo X [(h, .inr (4, fs)), (qkept, .inl (cI, 320, .inl K)), (q, .inl (cI, 80, .inl g))] 0 0 6 [(3, .int (iI x)), (0, .ref h), (1, .ref q), (2, .int (iI ((ρ : Nat) : Int)))] [] := by
    intro c
    induction c with
    | zero => intro i x g h1 h2 hx hlo hhi; omega
    | succ c ih =>
      intro i x g h1 h2 hx hlo hhi
      refine go_iload_n O dX4_take_6 rfl 0 rfl 7 rfl ?_
      refine go_bipush O dX4_take_7 (by decide) 9 rfl ?_
      refine go_icmp_ge O dX4_take_9 32 (by decide) 12 rfl (by omega) (by omega) (fun h9 => ?_) (fun h9 => ?_)
      · refine TGo.arr 2 rfl (dg V) (fun j hj => if a : j < i then hlo j a else (by rw [hhi j (by omega), dg_at, q_lt' (i := 40) hV (by omega)]; rfl)) (ws' := [(h, .inr (4, fs)), (qkept, .inl (cI, 320, .inl K)), (q, .inl (cI, 80, .inl (dg V)))]) rfl ?_
        exact hret _ _ () dX4_take_32 trivial
      · refine go_aload_n O dX4_take_12 rfl 2 rfl 13 rfl ?_
        refine go_iload_n O dX4_take_13 rfl 0 rfl 14 rfl ?_
        refine go_aload_n O dX4_take_14 rfl 1 rfl 15 rfl ?_
        refine go_get O hK dX4_take_15 hinX4 0 rfl rfl 6 (by decide) flX4_20 f_kept 18 rfl ?_
        refine go_bipush O dX4_take_18 (by decide) 20 rfl ?_
        refine go_iload_n O dX4_take_20 rfl 3 rfl 21 rfl ?_
        refine go_imul O dX4_take_21 ((40 * (ρ) : Nat) : Int) (by omega) 22 rfl ?_
        refine go_iload_n O dX4_take_22 rfl 0 rfl 23 rfl ?_
        refine go_iadd O dX4_take_23 ((40 * ρ + i : Nat) : Int) (by omega) 24 rfl ?_
        refine go_iald O hK dX4_take_24 1 0 rfl rfl (40 * ρ + i) rfl (by omega) (by omega) ((V / 10 ^ i % 10 : Nat) : Int) (hKV i (by omega)) 25 rfl ?_
        refine go_iast O hK dX4_take_25 2 0 rfl rfl i hx (by omega) (by omega) (upd g i (iI ((V / 10 ^ i % 10 : Nat) : Int))) (fun _ _ => rfl) [(h, .inr (4, fs)), (qkept, .inl (cI, 320, .inl K)), (q, .inl (cI, 80, .inl (upd g i (iI ((V / 10 ^ i % 10 : Nat) : Int)))))] rfl 26 rfl ?_
        refine go_iinc O dX4_take_26 0 rfl ((i + 1 : Nat) : Int) (by omega) (by decide) [(3, .int (iI ((i + 1 : Nat) : Int))), (0, .ref h), (1, .ref q), (2, .int (iI ((ρ : Nat) : Int)))] rfl 29 rfl ?_
        refine go_goto O dX4_take_29 6 (by decide) ?_
        refine TGo.lsub (lv' := [(3, .int (iI ((i + 1 : Nat) : Int))), (0, .ref h), (1, .ref q), (2, .int (iI ((ρ : Nat) : Int)))]) [0, 1, 2, 3] rfl ?_
        exact ih (i + 1) _ _ (by omega) (by omega) (by omega) (lo_upd hlo rfl) (hi_upd hhi)
  refine go_aload_n O dX4_take_0 rfl 1 rfl 1 rfl ?_
  refine go_callvS (rest := []) (wr := [(h, .inr (4, fs)), (qkept, .inl (cI, 320, .inl K))]) O hK hE (c_X4_clear E hE q cI f) mlX4_72 smX4_clear inX4 cdX4_clear 1 (by decide +kernel) ⟨Nat.le_of_ble_eq_true rfl, Nat.le_of_ble_eq_true rfl⟩ [0] rfl [2] rfl (by decide) [0, 1] rfl (by decide) (by decide) rfl rfl (Nat.le_of_ble_eq_true rfl) ⟨Nat.zero_le _, Nat.zero_le _⟩ dX4_take_1 4 rfl (fun u hu => ?_)
  show TGo X [(h, .inr (4, fs)), (qkept, .inl (cI, 320, .inl K)), (q, .inl (cI, 80, .inl (dg 0)))] 0 0 4 [(0, .ref h), (1, .ref q), (2, .int (iI ((ρ : Nat) : Int)))] []
  refine go_iconst O dX4_take_4 5 rfl ?_
  refine go_istore_n O dX4_take_5 rfl (by decide) [(3, .int (iI 0)), (0, .ref h), (1, .ref q), (2, .int (iI ((ρ : Nat) : Int)))] rfl 6 rfl ?_
  refine TGo.lsub (lv' := [(3, .int (iI 0)), (0, .ref h), (1, .ref q), (2, .int (iI ((ρ : Nat) : Int)))]) [0, 1, 2, 3] rfl ?_
  exact lp 41 0 _ _ (by omega) (by omega) (by omega) (fun j a => absurd a (by omega)) (fun j _ => dg_zero j)
set_option maxHeartbeats 4000000 in
set_option maxRecDepth 100000 in
/-- rounds: the quotient rounded in a mode -/
theorem c_X4_rounds (E : TEn) (hE : EnvOk E) (h : Nat) (fs : List Value) {qden qquo qrem qother : Nat} (f_den : fs[12]? = some (.ref qden)) (f_quo : fs[13]? = some (.ref qquo)) (f_rem : fs[14]? = some (.ref qrem)) (f_other : fs[15]? = some (.ref qother)) (cI : ClassId) (Q R D : Nat) (fo : Nat → Int32) (minus : Bool) (mode : Int) (hmo : 0 ≤ mode ∧ mode ≤ 7) (hR : R < 10 ^ 80) (hR2 : R + R < 10 ^ 80) (hD : D < 10 ^ 80) : Cti vwCl E yX4_rounds wsX4_rounds (rmn 2 47) [.ref h, .int (iI (bz minus)), .int (iI mode)] [(h, .inr (4, fs)), (qden, .inl (cI, 80, .inl (dg D))), (qquo, .inl (cI, 80, .inl (dg Q))), (qrem, .inl (cI, 80, .inl (dg R))), (qother, .inl (cI, 80, .inl fo))] [(cI, .int)] (fun (z : Int) (_ : Nat → Int32) => z = if R = 0 ∨ mode ≠ 7 then 1 else 0) (fun u => [(h, .inr (4, fs)), (qden, .inl (cI, 80, .inl (dg D))), (qquo, .inl (cI, 80, .inl (dg (trnd mode minus Q R D)))), (qrem, .inl (cI, 80, .inl (dg R))), (qother, .inl (cI, 80, .inl u))]) := by
  refine enteri (by decide) (Nat.le_of_ble_eq_true rfl) ?_
  intro X O hK hin2 hret
  show TGo X [(h, .inr (4, fs)), (qden, .inl (cI, 80, .inl (dg D))), (qquo, .inl (cI, 80, .inl (dg Q))), (qrem, .inl (cI, 80, .inl (dg R))), (qother, .inl (cI, 80, .inl fo))] 0 0 0 [(0, .ref h), (1, .int (iI (bz minus))), (2, .int (iI mode))] []
  have hm01 := bz_01 minus
  have c1 := cmpN_ge (a := R + R) (b := D)
  have c2 := cmpN_gt (a := R + R) (b := D)
  have c3 := cmpN_eq (a := R + R) (b := D)
  have c4 := cmpN_r (R + R) D
  have m188 : ∀ (fo : Nat → Int32), R ≠ 0 → TGo X [(h, .inr (4, fs)), (qden, .inl (cI, 80, .inl (dg D))), (qquo, .inl (cI, 80, .inl (dg (trnd mode minus Q R D)))), (qrem, .inl (cI, 80, .inl (dg R))), (qother, .inl (cI, 80, .inl fo))] 0 0 188 [(0, .ref h), (1, .int (iI (bz minus))), (2, .int (iI mode))] [] := by
    intro fo hR0
    refine go_iload_n O dX4_rounds_188 rfl 2 rfl 189 rfl ?_
    refine go_bipush O dX4_rounds_189 (by decide) 191 rfl ?_
    refine go_icmp_eq O dX4_rounds_191 198 (by decide) 194 rfl (by omega) (by omega) (fun h191 => ?_) (fun h191 => ?_)
    · refine go_iconst O dX4_rounds_198 199 rfl ?_
      exact hret _ _ _ fo dX4_rounds_199 rfl (by rw [if_neg (by omega)])
    · refine go_iconst O dX4_rounds_194 195 rfl ?_
      refine go_goto O dX4_rounds_195 199 (by decide) ?_
      exact hret _ _ _ fo dX4_rounds_199 rfl (by rw [if_pos (by omega)])
  have m164 : ∀ (aw : Int) (fo : Nat → Int32), R ≠ 0 → ((aw = 1 ∧ (mode = 0 ∨ (mode = 2 ∧ bz minus = 0) ∨ (mode = 3 ∧ bz minus = 1) ∨ (mode = 4 ∧ D ≤ 2 * R) ∨ (mode = 5 ∧ D < 2 * R) ∨ (mode = 6 ∧ (D < 2 * R ∨ (D ≤ 2 * R ∧ Q % 2 = 1))))) ∨ (aw = 0 ∧ ¬ (mode = 0 ∨ (mode = 2 ∧ bz minus = 0) ∨ (mode = 3 ∧ bz minus = 1) ∨ (mode = 4 ∧ D ≤ 2 * R) ∨ (mode = 5 ∧ D < 2 * R) ∨ (mode = 6 ∧ (D < 2 * R ∨ (D ≤ 2 * R ∧ Q % 2 = 1)))))) → TGo X [(h, .inr (4, fs)), (qden, .inl (cI, 80, .inl (dg D))), (qquo, .inl (cI, 80, .inl (dg Q))), (qrem, .inl (cI, 80, .inl (dg R))), (qother, .inl (cI, 80, .inl fo))] 0 0 164 [(6, .int (iI aw)), (0, .ref h), (1, .int (iI (bz minus))), (2, .int (iI mode))] [] := by
    intro aw fo hR0 haw
    refine go_iload O dX4_rounds_164 0 rfl 166 rfl ?_
    refine go_if_eq O dX4_rounds_166 188 (by decide) 169 rfl (by omega) (fun h166 => ?_) (fun h166 => ?_)
    · refine TGo.lsub (lv' := [(0, .ref h), (1, .int (iI (bz minus))), (2, .int (iI mode))]) [1, 2, 3] rfl ?_
      have e : trnd mode minus Q R D = Q := trnd_no (by omega)
      rw [← e]
      exact m188 _ hR0
    · refine go_aload_n O dX4_rounds_169 rfl 1 rfl 170 rfl ?_
      refine go_get O hK dX4_rounds_170 hinX4 0 rfl rfl 15 (by decide) flX4_44 f_other 173 rfl ?_
      refine go_lconst O dX4_rounds_173 1 rfl 174 rfl ?_
      refine go_callvS (rest := []) (wr := [(h, .inr (4, fs)), (qden, .inl (cI, 80, .inl (dg D))), (qquo, .inl (cI, 80, .inl (dg Q))), (qrem, .inl (cI, 80, .inl (dg R)))]) O hK hE (c_X4_load E hE qother cI fo 1 (by omega)) mlX4_100 smX4_load inX4 cdX4_load 2 (by decide +kernel) ⟨Nat.le_of_ble_eq_true rfl, Nat.le_of_ble_eq_true rfl⟩ [0] rfl [4] rfl (by decide) [0, 1, 2, 3] rfl (by decide) (by decide) rfl rfl (Nat.le_of_ble_eq_true rfl) ⟨Nat.zero_le _, Nat.zero_le _⟩ dX4_rounds_174 177 rfl (fun u hu => ?_)
      show TGo X [(h, .inr (4, fs)), (qden, .inl (cI, 80, .inl (dg D))), (qquo, .inl (cI, 80, .inl (dg Q))), (qrem, .inl (cI, 80, .inl (dg R))), (qother, .inl (cI, 80, .inl (dg (Int.natAbs 1))))] 0 0 177 [(6, .int (iI aw)), (0, .ref h), (1, .int (iI (bz minus))), (2, .int (iI mode))] []
      refine go_aload_n O dX4_rounds_177 rfl 1 rfl 178 rfl ?_
      refine go_get O hK dX4_rounds_178 hinX4 0 rfl rfl 13 (by decide) flX4_38 f_quo 181 rfl ?_
      refine go_aload_n O dX4_rounds_181 rfl 1 rfl 182 rfl ?_
      refine go_get O hK dX4_rounds_182 hinX4 0 rfl rfl 15 (by decide) flX4_44 f_other 185 rfl ?_
      refine go_callvS (rest := []) (wr := [(h, .inr (4, fs)), (qden, .inl (cI, 80, .inl (dg D))), (qrem, .inl (cI, 80, .inl (dg R)))]) O hK hE (c_X4_increase E hE qquo qother cI Q (Int.natAbs 1)) mlX4_97 smX4_increase inX4 cdX4_increase 2 (by decide +kernel) ⟨Nat.le_of_ble_eq_true rfl, Nat.le_of_ble_eq_true rfl⟩ [0] rfl [2, 4] rfl (by decide) [0, 1, 3] rfl (by decide) (by decide) rfl rfl (Nat.le_of_ble_eq_true rfl) ⟨Nat.zero_le _, Nat.zero_le _⟩ dX4_rounds_185 188 rfl (fun u hu => ?_)
      show TGo X [(h, .inr (4, fs)), (qden, .inl (cI, 80, .inl (dg D))), (qrem, .inl (cI, 80, .inl (dg R))), (qquo, .inl (cI, 80, .inl (dg (Q + Int.natAbs 1)))), (qother, .inl (cI, 80, .inl (dg (Int.natAbs 1))))] 0 0 188 [(6, .int (iI aw)), (0, .ref h), (1, .int (iI (bz minus))), (2, .int (iI mode))] []
      refine TGo.sub (ws' := [(h, .inr (4, fs)), (qden, .inl (cI, 80, .inl (dg D))), (qquo, .inl (cI, 80, .inl (dg (Q + Int.natAbs 1)))), (qrem, .inl (cI, 80, .inl (dg R))), (qother, .inl (cI, 80, .inl (dg (Int.natAbs 1))))]) [0, 1, 3, 2, 4] (by decide) rfl ?_
      refine TGo.lsub (lv' := [(0, .ref h), (1, .int (iI (bz minus))), (2, .int (iI mode))]) [1, 2, 3] rfl ?_
      have e : trnd mode minus Q R D = Q + Int.natAbs 1 := by rw [trnd_up hR0 (by omega)]; rfl
      rw [← e]
      exact m188 _ hR0
  have m119 : ∀ (nr : Int) (fo : Nat → Int32), R ≠ 0 → ((nr = 1 ∧ ((mode = 4 ∧ D ≤ 2 * R) ∨ (mode = 5 ∧ D < 2 * R) ∨ (¬ mode = 4 ∧ ¬ mode = 5 ∧ (D < 2 * R ∨ (D ≤ 2 * R ∧ Q % 2 = 1))))) ∨ (nr = 0 ∧ ¬ ((mode = 4 ∧ D ≤ 2 * R) ∨ (mode = 5 ∧ D < 2 * R) ∨ (¬ mode = 4 ∧ ¬ mode = 5 ∧ (D < 2 * R ∨ (D ≤ 2 * R ∧ Q % 2 = 1)))))) → TGo X [(h, .inr (4, fs)), (qden, .inl (cI, 80, .inl (dg D))), (qquo, .inl (cI, 80, .inl (dg Q))), (qrem, .inl (cI, 80, .inl (dg R))), (qother, .inl (cI, 80, .inl fo))] 0 0 119 [(5, .int (iI nr)), (0, .ref h), (1, .int (iI (bz minus))), (2, .int (iI mode))] [] := by
    intro nr fo hR0 hnr
    refine go_iload_n O dX4_rounds_119 rfl 3 rfl 120 rfl ?_
    refine go_if_eq O dX4_rounds_120 157 (by decide) 123 rfl (by omega) (fun h120 => ?_) (fun h120 => ?_)
    · refine go_iconst O dX4_rounds_157 158 rfl ?_
      refine go_goto O dX4_rounds_158 162 (by decide) ?_
      refine go_istore O dX4_rounds_162 (by decide) [(6, .int (iI 1)), (5, .int (iI nr)), (0, .ref h), (1, .int (iI (bz minus))), (2, .int (iI mode))] rfl 164 rfl ?_
      refine TGo.lsub (lv' := [(6, .int (iI 1)), (0, .ref h), (1, .int (iI (bz minus))), (2, .int (iI mode))]) [0, 2, 3, 4] rfl ?_
      exact m164 _ _ hR0 (Or.inl ⟨rfl, by omega⟩)
    · refine go_iload_n O dX4_rounds_123 rfl 3 rfl 124 rfl ?_
      refine go_iconst O dX4_rounds_124 125 rfl ?_
      refine go_icmp_ne O dX4_rounds_125 132 (by decide) 128 rfl (by omega) (by omega) (fun h125 => ?_) (fun h125 => ?_)
      · refine go_iload_n O dX4_rounds_132 rfl 3 rfl 133 rfl ?_
        refine go_iconst O dX4_rounds_133 134 rfl ?_
        refine go_icmp_ne O dX4_rounds_134 141 (by decide) 137 rfl (by omega) (by omega) (fun h134 => ?_) (fun h134 => ?_)
        · refine go_iload_n O dX4_rounds_141 rfl 3 rfl 142 rfl ?_
          refine go_iconst O dX4_rounds_142 143 rfl ?_
          refine go_icmp_lt O dX4_rounds_143 161 (by decide) 146 rfl (by omega) (by omega) (fun h143 => ?_) (fun h143 => ?_)
          · refine go_iconst O dX4_rounds_161 162 rfl ?_
            refine go_istore O dX4_rounds_162 (by decide) [(6, .int (iI 0)), (5, .int (iI nr)), (0, .ref h), (1, .int (iI (bz minus))), (2, .int (iI mode))] rfl 164 rfl ?_
            refine TGo.lsub (lv' := [(6, .int (iI 0)), (0, .ref h), (1, .int (iI (bz minus))), (2, .int (iI mode))]) [0, 2, 3, 4] rfl ?_
            exact m164 _ _ hR0 (Or.inr ⟨rfl, by omega⟩)
          · refine go_iload_n O dX4_rounds_146 rfl 3 rfl 147 rfl ?_
            refine go_bipush O dX4_rounds_147 (by decide) 149 rfl ?_
            refine go_icmp_gt O dX4_rounds_149 161 (by decide) 152 rfl (by omega) (by omega) (fun h149 => ?_) (fun h149 => ?_)
            · refine go_iconst O dX4_rounds_161 162 rfl ?_
              refine go_istore O dX4_rounds_162 (by decide) [(6, .int (iI 0)), (5, .int (iI nr)), (0, .ref h), (1, .int (iI (bz minus))), (2, .int (iI mode))] rfl 164 rfl ?_
              refine TGo.lsub (lv' := [(6, .int (iI 0)), (0, .ref h), (1, .int (iI (bz minus))), (2, .int (iI mode))]) [0, 2, 3, 4] rfl ?_
              exact m164 _ _ hR0 (Or.inr ⟨rfl, by omega⟩)
            · refine go_iload O dX4_rounds_152 0 rfl 154 rfl ?_
              refine go_if_eq O dX4_rounds_154 161 (by decide) 157 rfl (by omega) (fun h154 => ?_) (fun h154 => ?_)
              · refine go_iconst O dX4_rounds_161 162 rfl ?_
                refine go_istore O dX4_rounds_162 (by decide) [(6, .int (iI 0)), (5, .int (iI nr)), (0, .ref h), (1, .int (iI (bz minus))), (2, .int (iI mode))] rfl 164 rfl ?_
                refine TGo.lsub (lv' := [(6, .int (iI 0)), (0, .ref h), (1, .int (iI (bz minus))), (2, .int (iI mode))]) [0, 2, 3, 4] rfl ?_
                exact m164 _ _ hR0 (Or.inr ⟨rfl, by omega⟩)
              · refine go_iconst O dX4_rounds_157 158 rfl ?_
                refine go_goto O dX4_rounds_158 162 (by decide) ?_
                refine go_istore O dX4_rounds_162 (by decide) [(6, .int (iI 1)), (5, .int (iI nr)), (0, .ref h), (1, .int (iI (bz minus))), (2, .int (iI mode))] rfl 164 rfl ?_
                refine TGo.lsub (lv' := [(6, .int (iI 1)), (0, .ref h), (1, .int (iI (bz minus))), (2, .int (iI mode))]) [0, 2, 3, 4] rfl ?_
                exact m164 _ _ hR0 (Or.inl ⟨rfl, by omega⟩)
        · refine go_iload_n O dX4_rounds_137 rfl 2 rfl 138 rfl ?_
          refine go_if_ne O dX4_rounds_138 157 (by decide) 141 rfl (by omega) (fun h138 => ?_) (fun h138 => ?_)
          · refine go_iconst O dX4_rounds_157 158 rfl ?_
            refine go_goto O dX4_rounds_158 162 (by decide) ?_
            refine go_istore O dX4_rounds_162 (by decide) [(6, .int (iI 1)), (5, .int (iI nr)), (0, .ref h), (1, .int (iI (bz minus))), (2, .int (iI mode))] rfl 164 rfl ?_
            refine TGo.lsub (lv' := [(6, .int (iI 1)), (0, .ref h), (1, .int (iI (bz minus))), (2, .int (iI mode))]) [0, 2, 3, 4] rfl ?_
            exact m164 _ _ hR0 (Or.inl ⟨rfl, by omega⟩)
          · refine go_iload_n O dX4_rounds_141 rfl 3 rfl 142 rfl ?_
            refine go_iconst O dX4_rounds_142 143 rfl ?_
            refine go_icmp_lt O dX4_rounds_143 161 (by decide) 146 rfl (by omega) (by omega) (fun h143 => ?_) (fun h143 => ?_)
            · refine go_iconst O dX4_rounds_161 162 rfl ?_
              refine go_istore O dX4_rounds_162 (by decide) [(6, .int (iI 0)), (5, .int (iI nr)), (0, .ref h), (1, .int (iI (bz minus))), (2, .int (iI mode))] rfl 164 rfl ?_
              refine TGo.lsub (lv' := [(6, .int (iI 0)), (0, .ref h), (1, .int (iI (bz minus))), (2, .int (iI mode))]) [0, 2, 3, 4] rfl ?_
              exact m164 _ _ hR0 (Or.inr ⟨rfl, by omega⟩)
            · refine go_iload_n O dX4_rounds_146 rfl 3 rfl 147 rfl ?_
              refine go_bipush O dX4_rounds_147 (by decide) 149 rfl ?_
              refine go_icmp_gt O dX4_rounds_149 161 (by decide) 152 rfl (by omega) (by omega) (fun h149 => ?_) (fun h149 => ?_)
              · refine go_iconst O dX4_rounds_161 162 rfl ?_
                refine go_istore O dX4_rounds_162 (by decide) [(6, .int (iI 0)), (5, .int (iI nr)), (0, .ref h), (1, .int (iI (bz minus))), (2, .int (iI mode))] rfl 164 rfl ?_
                refine TGo.lsub (lv' := [(6, .int (iI 0)), (0, .ref h), (1, .int (iI (bz minus))), (2, .int (iI mode))]) [0, 2, 3, 4] rfl ?_
                exact m164 _ _ hR0 (Or.inr ⟨rfl, by omega⟩)
              · refine go_iload O dX4_rounds_152 0 rfl 154 rfl ?_
                refine go_if_eq O dX4_rounds_154 161 (by decide) 157 rfl (by omega) (fun h154 => ?_) (fun h154 => ?_)
                · refine go_iconst O dX4_rounds_161 162 rfl ?_
                  refine go_istore O dX4_rounds_162 (by decide) [(6, .int (iI 0)), (5, .int (iI nr)), (0, .ref h), (1, .int (iI (bz minus))), (2, .int (iI mode))] rfl 164 rfl ?_
                  refine TGo.lsub (lv' := [(6, .int (iI 0)), (0, .ref h), (1, .int (iI (bz minus))), (2, .int (iI mode))]) [0, 2, 3, 4] rfl ?_
                  exact m164 _ _ hR0 (Or.inr ⟨rfl, by omega⟩)
                · refine go_iconst O dX4_rounds_157 158 rfl ?_
                  refine go_goto O dX4_rounds_158 162 (by decide) ?_
                  refine go_istore O dX4_rounds_162 (by decide) [(6, .int (iI 1)), (5, .int (iI nr)), (0, .ref h), (1, .int (iI (bz minus))), (2, .int (iI mode))] rfl 164 rfl ?_
                  refine TGo.lsub (lv' := [(6, .int (iI 1)), (0, .ref h), (1, .int (iI (bz minus))), (2, .int (iI mode))]) [0, 2, 3, 4] rfl ?_
                  exact m164 _ _ hR0 (Or.inl ⟨rfl, by omega⟩)
      · refine go_iload_n O dX4_rounds_128 rfl 2 rfl 129 rfl ?_
        refine go_if_eq O dX4_rounds_129 157 (by decide) 132 rfl (by omega) (fun h129 => ?_) (fun h129 => ?_)
        · refine go_iconst O dX4_rounds_157 158 rfl ?_
          refine go_goto O dX4_rounds_158 162 (by decide) ?_
          refine go_istore O dX4_rounds_162 (by decide) [(6, .int (iI 1)), (5, .int (iI nr)), (0, .ref h), (1, .int (iI (bz minus))), (2, .int (iI mode))] rfl 164 rfl ?_
          refine TGo.lsub (lv' := [(6, .int (iI 1)), (0, .ref h), (1, .int (iI (bz minus))), (2, .int (iI mode))]) [0, 2, 3, 4] rfl ?_
          exact m164 _ _ hR0 (Or.inl ⟨rfl, by omega⟩)
        · refine go_iload_n O dX4_rounds_132 rfl 3 rfl 133 rfl ?_
          refine go_iconst O dX4_rounds_133 134 rfl ?_
          refine go_icmp_ne O dX4_rounds_134 141 (by decide) 137 rfl (by omega) (by omega) (fun h134 => ?_) (fun h134 => ?_)
          · refine go_iload_n O dX4_rounds_141 rfl 3 rfl 142 rfl ?_
            refine go_iconst O dX4_rounds_142 143 rfl ?_
            refine go_icmp_lt O dX4_rounds_143 161 (by decide) 146 rfl (by omega) (by omega) (fun h143 => ?_) (fun h143 => ?_)
            · refine go_iconst O dX4_rounds_161 162 rfl ?_
              refine go_istore O dX4_rounds_162 (by decide) [(6, .int (iI 0)), (5, .int (iI nr)), (0, .ref h), (1, .int (iI (bz minus))), (2, .int (iI mode))] rfl 164 rfl ?_
              refine TGo.lsub (lv' := [(6, .int (iI 0)), (0, .ref h), (1, .int (iI (bz minus))), (2, .int (iI mode))]) [0, 2, 3, 4] rfl ?_
              exact m164 _ _ hR0 (Or.inr ⟨rfl, by omega⟩)
            · refine go_iload_n O dX4_rounds_146 rfl 3 rfl 147 rfl ?_
              refine go_bipush O dX4_rounds_147 (by decide) 149 rfl ?_
              refine go_icmp_gt O dX4_rounds_149 161 (by decide) 152 rfl (by omega) (by omega) (fun h149 => ?_) (fun h149 => ?_)
              · refine go_iconst O dX4_rounds_161 162 rfl ?_
                refine go_istore O dX4_rounds_162 (by decide) [(6, .int (iI 0)), (5, .int (iI nr)), (0, .ref h), (1, .int (iI (bz minus))), (2, .int (iI mode))] rfl 164 rfl ?_
                refine TGo.lsub (lv' := [(6, .int (iI 0)), (0, .ref h), (1, .int (iI (bz minus))), (2, .int (iI mode))]) [0, 2, 3, 4] rfl ?_
                exact m164 _ _ hR0 (Or.inr ⟨rfl, by omega⟩)
              · refine go_iload O dX4_rounds_152 0 rfl 154 rfl ?_
                refine go_if_eq O dX4_rounds_154 161 (by decide) 157 rfl (by omega) (fun h154 => ?_) (fun h154 => ?_)
                · refine go_iconst O dX4_rounds_161 162 rfl ?_
                  refine go_istore O dX4_rounds_162 (by decide) [(6, .int (iI 0)), (5, .int (iI nr)), (0, .ref h), (1, .int (iI (bz minus))), (2, .int (iI mode))] rfl 164 rfl ?_
                  refine TGo.lsub (lv' := [(6, .int (iI 0)), (0, .ref h), (1, .int (iI (bz minus))), (2, .int (iI mode))]) [0, 2, 3, 4] rfl ?_
                  exact m164 _ _ hR0 (Or.inr ⟨rfl, by omega⟩)
                · refine go_iconst O dX4_rounds_157 158 rfl ?_
                  refine go_goto O dX4_rounds_158 162 (by decide) ?_
                  refine go_istore O dX4_rounds_162 (by decide) [(6, .int (iI 1)), (5, .int (iI nr)), (0, .ref h), (1, .int (iI (bz minus))), (2, .int (iI mode))] rfl 164 rfl ?_
                  refine TGo.lsub (lv' := [(6, .int (iI 1)), (0, .ref h), (1, .int (iI (bz minus))), (2, .int (iI mode))]) [0, 2, 3, 4] rfl ?_
                  exact m164 _ _ hR0 (Or.inl ⟨rfl, by omega⟩)
          · refine go_iload_n O dX4_rounds_137 rfl 2 rfl 138 rfl ?_
            refine go_if_ne O dX4_rounds_138 157 (by decide) 141 rfl (by omega) (fun h138 => ?_) (fun h138 => ?_)
            · refine go_iconst O dX4_rounds_157 158 rfl ?_
              refine go_goto O dX4_rounds_158 162 (by decide) ?_
              refine go_istore O dX4_rounds_162 (by decide) [(6, .int (iI 1)), (5, .int (iI nr)), (0, .ref h), (1, .int (iI (bz minus))), (2, .int (iI mode))] rfl 164 rfl ?_
              refine TGo.lsub (lv' := [(6, .int (iI 1)), (0, .ref h), (1, .int (iI (bz minus))), (2, .int (iI mode))]) [0, 2, 3, 4] rfl ?_
              exact m164 _ _ hR0 (Or.inl ⟨rfl, by omega⟩)
            · refine go_iload_n O dX4_rounds_141 rfl 3 rfl 142 rfl ?_
              refine go_iconst O dX4_rounds_142 143 rfl ?_
              refine go_icmp_lt O dX4_rounds_143 161 (by decide) 146 rfl (by omega) (by omega) (fun h143 => ?_) (fun h143 => ?_)
              · refine go_iconst O dX4_rounds_161 162 rfl ?_
                refine go_istore O dX4_rounds_162 (by decide) [(6, .int (iI 0)), (5, .int (iI nr)), (0, .ref h), (1, .int (iI (bz minus))), (2, .int (iI mode))] rfl 164 rfl ?_
                refine TGo.lsub (lv' := [(6, .int (iI 0)), (0, .ref h), (1, .int (iI (bz minus))), (2, .int (iI mode))]) [0, 2, 3, 4] rfl ?_
                exact m164 _ _ hR0 (Or.inr ⟨rfl, by omega⟩)
              · refine go_iload_n O dX4_rounds_146 rfl 3 rfl 147 rfl ?_
                refine go_bipush O dX4_rounds_147 (by decide) 149 rfl ?_
                refine go_icmp_gt O dX4_rounds_149 161 (by decide) 152 rfl (by omega) (by omega) (fun h149 => ?_) (fun h149 => ?_)
                · refine go_iconst O dX4_rounds_161 162 rfl ?_
                  refine go_istore O dX4_rounds_162 (by decide) [(6, .int (iI 0)), (5, .int (iI nr)), (0, .ref h), (1, .int (iI (bz minus))), (2, .int (iI mode))] rfl 164 rfl ?_
                  refine TGo.lsub (lv' := [(6, .int (iI 0)), (0, .ref h), (1, .int (iI (bz minus))), (2, .int (iI mode))]) [0, 2, 3, 4] rfl ?_
                  exact m164 _ _ hR0 (Or.inr ⟨rfl, by omega⟩)
                · refine go_iload O dX4_rounds_152 0 rfl 154 rfl ?_
                  refine go_if_eq O dX4_rounds_154 161 (by decide) 157 rfl (by omega) (fun h154 => ?_) (fun h154 => ?_)
                  · refine go_iconst O dX4_rounds_161 162 rfl ?_
                    refine go_istore O dX4_rounds_162 (by decide) [(6, .int (iI 0)), (5, .int (iI nr)), (0, .ref h), (1, .int (iI (bz minus))), (2, .int (iI mode))] rfl 164 rfl ?_
                    refine TGo.lsub (lv' := [(6, .int (iI 0)), (0, .ref h), (1, .int (iI (bz minus))), (2, .int (iI mode))]) [0, 2, 3, 4] rfl ?_
                    exact m164 _ _ hR0 (Or.inr ⟨rfl, by omega⟩)
                  · refine go_iconst O dX4_rounds_157 158 rfl ?_
                    refine go_goto O dX4_rounds_158 162 (by decide) ?_
                    refine go_istore O dX4_rounds_162 (by decide) [(6, .int (iI 1)), (5, .int (iI nr)), (0, .ref h), (1, .int (iI (bz minus))), (2, .int (iI mode))] rfl 164 rfl ?_
                    refine TGo.lsub (lv' := [(6, .int (iI 1)), (0, .ref h), (1, .int (iI (bz minus))), (2, .int (iI mode))]) [0, 2, 3, 4] rfl ?_
                    exact m164 _ _ hR0 (Or.inl ⟨rfl, by omega⟩)
  have m65 : ∀ (od : Int) (fo : Nat → Int32), R ≠ 0 → ((od = 1 ∧ Q % 2 = 1) ∨ (od = 0 ∧ ¬ Q % 2 = 1)) → TGo X [(h, .inr (4, fs)), (qden, .inl (cI, 80, .inl (dg D))), (qquo, .inl (cI, 80, .inl (dg Q))), (qrem, .inl (cI, 80, .inl (dg R))), (qother, .inl (cI, 80, .inl fo))] 0 0 65 [(4, .int (iI od)), (3, .int (iI (cmpN (R + R) D))), (0, .ref h), (1, .int (iI (bz minus))), (2, .int (iI mode))] [] := by
    intro od fo hR0 hod
    refine go_iload_n O dX4_rounds_65 rfl 4 rfl 66 rfl ?_
    refine go_iconst O dX4_rounds_66 67 rfl ?_
    refine go_icmp_ne O dX4_rounds_67 82 (by decide) 70 rfl (by omega) (by omega) (fun h67 => ?_) (fun h67 => ?_)
    · refine go_iload_n O dX4_rounds_82 rfl 4 rfl 83 rfl ?_
      refine go_iconst O dX4_rounds_83 84 rfl ?_
      refine go_icmp_ne O dX4_rounds_84 99 (by decide) 87 rfl (by omega) (by omega) (fun h84 => ?_) (fun h84 => ?_)
      · refine go_iload_n O dX4_rounds_99 rfl 1 rfl 100 rfl ?_
        refine go_if_gt O dX4_rounds_100 112 (by decide) 103 rfl (by omega) (fun h100 => ?_) (fun h100 => ?_)
        · refine go_iconst O dX4_rounds_112 113 rfl ?_
          refine go_goto O dX4_rounds_113 117 (by decide) ?_
          refine go_istore O dX4_rounds_117 (by decide) [(5, .int (iI 1)), (4, .int (iI od)), (3, .int (iI (cmpN (R + R) D))), (0, .ref h), (1, .int (iI (bz minus))), (2, .int (iI mode))] rfl 119 rfl ?_
          refine TGo.lsub (lv' := [(5, .int (iI 1)), (0, .ref h), (1, .int (iI (bz minus))), (2, .int (iI mode))]) [0, 3, 4, 5] rfl ?_
          exact m119 _ _ hR0 (Or.inl ⟨rfl, by omega⟩)
        · refine go_iload_n O dX4_rounds_103 rfl 1 rfl 104 rfl ?_
          refine go_if_ne O dX4_rounds_104 116 (by decide) 107 rfl (by omega) (fun h104 => ?_) (fun h104 => ?_)
          · refine go_iconst O dX4_rounds_116 117 rfl ?_
            refine go_istore O dX4_rounds_117 (by decide) [(5, .int (iI 0)), (4, .int (iI od)), (3, .int (iI (cmpN (R + R) D))), (0, .ref h), (1, .int (iI (bz minus))), (2, .int (iI mode))] rfl 119 rfl ?_
            refine TGo.lsub (lv' := [(5, .int (iI 0)), (0, .ref h), (1, .int (iI (bz minus))), (2, .int (iI mode))]) [0, 3, 4, 5] rfl ?_
            exact m119 _ _ hR0 (Or.inr ⟨rfl, by omega⟩)
          · refine go_iload O dX4_rounds_107 0 rfl 109 rfl ?_
            refine go_if_eq O dX4_rounds_109 116 (by decide) 112 rfl (by omega) (fun h109 => ?_) (fun h109 => ?_)
            · refine go_iconst O dX4_rounds_116 117 rfl ?_
              refine go_istore O dX4_rounds_117 (by decide) [(5, .int (iI 0)), (4, .int (iI od)), (3, .int (iI (cmpN (R + R) D))), (0, .ref h), (1, .int (iI (bz minus))), (2, .int (iI mode))] rfl 119 rfl ?_
              refine TGo.lsub (lv' := [(5, .int (iI 0)), (0, .ref h), (1, .int (iI (bz minus))), (2, .int (iI mode))]) [0, 3, 4, 5] rfl ?_
              exact m119 _ _ hR0 (Or.inr ⟨rfl, by omega⟩)
            · refine go_iconst O dX4_rounds_112 113 rfl ?_
              refine go_goto O dX4_rounds_113 117 (by decide) ?_
              refine go_istore O dX4_rounds_117 (by decide) [(5, .int (iI 1)), (4, .int (iI od)), (3, .int (iI (cmpN (R + R) D))), (0, .ref h), (1, .int (iI (bz minus))), (2, .int (iI mode))] rfl 119 rfl ?_
              refine TGo.lsub (lv' := [(5, .int (iI 1)), (0, .ref h), (1, .int (iI (bz minus))), (2, .int (iI mode))]) [0, 3, 4, 5] rfl ?_
              exact m119 _ _ hR0 (Or.inl ⟨rfl, by omega⟩)
      · refine go_iload_n O dX4_rounds_87 rfl 1 rfl 88 rfl ?_
        refine go_if_le O dX4_rounds_88 95 (by decide) 91 rfl (by omega) (fun h88 => ?_) (fun h88 => ?_)
        · refine go_iconst O dX4_rounds_95 96 rfl ?_
          refine go_goto O dX4_rounds_96 117 (by decide) ?_
          refine go_istore O dX4_rounds_117 (by decide) [(5, .int (iI 0)), (4, .int (iI od)), (3, .int (iI (cmpN (R + R) D))), (0, .ref h), (1, .int (iI (bz minus))), (2, .int (iI mode))] rfl 119 rfl ?_
          refine TGo.lsub (lv' := [(5, .int (iI 0)), (0, .ref h), (1, .int (iI (bz minus))), (2, .int (iI mode))]) [0, 3, 4, 5] rfl ?_
          exact m119 _ _ hR0 (Or.inr ⟨rfl, by omega⟩)
        · refine go_iconst O dX4_rounds_91 92 rfl ?_
          refine go_goto O dX4_rounds_92 117 (by decide) ?_
          refine go_istore O dX4_rounds_117 (by decide) [(5, .int (iI 1)), (4, .int (iI od)), (3, .int (iI (cmpN (R + R) D))), (0, .ref h), (1, .int (iI (bz minus))), (2, .int (iI mode))] rfl 119 rfl ?_
          refine TGo.lsub (lv' := [(5, .int (iI 1)), (0, .ref h), (1, .int (iI (bz minus))), (2, .int (iI mode))]) [0, 3, 4, 5] rfl ?_
          exact m119 _ _ hR0 (Or.inl ⟨rfl, by omega⟩)
    · refine go_iload_n O dX4_rounds_70 rfl 1 rfl 71 rfl ?_
      refine go_if_lt O dX4_rounds_71 78 (by decide) 74 rfl (by omega) (fun h71 => ?_) (fun h71 => ?_)
      · refine go_iconst O dX4_rounds_78 79 rfl ?_
        refine go_goto O dX4_rounds_79 117 (by decide) ?_
        refine go_istore O dX4_rounds_117 (by decide) [(5, .int (iI 0)), (4, .int (iI od)), (3, .int (iI (cmpN (R + R) D))), (0, .ref h), (1, .int (iI (bz minus))), (2, .int (iI mode))] rfl 119 rfl ?_
        refine TGo.lsub (lv' := [(5, .int (iI 0)), (0, .ref h), (1, .int (iI (bz minus))), (2, .int (iI mode))]) [0, 3, 4, 5] rfl ?_
        exact m119 _ _ hR0 (Or.inr ⟨rfl, by omega⟩)
      · refine go_iconst O dX4_rounds_74 75 rfl ?_
        refine go_goto O dX4_rounds_75 117 (by decide) ?_
        refine go_istore O dX4_rounds_117 (by decide) [(5, .int (iI 1)), (4, .int (iI od)), (3, .int (iI (cmpN (R + R) D))), (0, .ref h), (1, .int (iI (bz minus))), (2, .int (iI mode))] rfl 119 rfl ?_
        refine TGo.lsub (lv' := [(5, .int (iI 1)), (0, .ref h), (1, .int (iI (bz minus))), (2, .int (iI mode))]) [0, 3, 4, 5] rfl ?_
        exact m119 _ _ hR0 (Or.inl ⟨rfl, by omega⟩)
  refine go_aload_n O dX4_rounds_0 rfl 0 rfl 1 rfl ?_
  refine go_get O hK dX4_rounds_1 hinX4 0 rfl rfl 14 (by decide) flX4_41 f_rem 4 rfl ?_
  refine go_calliS (rest := []) (wr := [(h, .inr (4, fs)), (qden, .inl (cI, 80, .inl (dg D))), (qquo, .inl (cI, 80, .inl (dg Q))), (qother, .inl (cI, 80, .inl fo))]) O hK hE (c_X4_size E hE qrem cI R hR) mlX4_78 smX4_size inX4 cdX4_size 1 (by decide +kernel) ⟨Nat.le_of_ble_eq_true rfl, Nat.le_of_ble_eq_true rfl⟩ [0] rfl [3] rfl (by decide) [0, 1, 2, 4] rfl (by decide) (by decide) rfl rfl (Nat.le_of_ble_eq_true rfl) ⟨Nat.zero_le _, Nat.zero_le _⟩ dX4_rounds_4 7 rfl (fun z u hu => ?_)
  subst hu
  have t0 := tnds_0iff (N := R)
  have t1 := tnds_mono (N := R) (e := 80) hR
  show TGo X [(h, .inr (4, fs)), (qden, .inl (cI, 80, .inl (dg D))), (qquo, .inl (cI, 80, .inl (dg Q))), (qother, .inl (cI, 80, .inl fo)), (qrem, .inl (cI, 80, .inl (dg R)))] 0 0 7 [(0, .ref h), (1, .int (iI (bz minus))), (2, .int (iI mode))] [.int (iI ((tnds R : Nat) : Int))]
  refine TGo.sub (ws' := [(h, .inr (4, fs)), (qden, .inl (cI, 80, .inl (dg D))), (qquo, .inl (cI, 80, .inl (dg Q))), (qrem, .inl (cI, 80, .inl (dg R))), (qother, .inl (cI, 80, .inl fo))]) [0, 1, 2, 4, 3] (by decide) rfl ?_
  refine go_if_ne O dX4_rounds_7 12 (by decide) 10 rfl (by omega) (fun h7 => ?_) (fun h7 => ?_)
  · refine go_aload_n O dX4_rounds_12 rfl 0 rfl 13 rfl ?_
    refine go_get O hK dX4_rounds_13 hinX4 0 rfl rfl 14 (by decide) flX4_41 f_rem 16 rfl ?_
    refine go_aload_n O dX4_rounds_16 rfl 0 rfl 17 rfl ?_
    refine go_get O hK dX4_rounds_17 hinX4 0 rfl rfl 15 (by decide) flX4_44 f_other 20 rfl ?_
    refine go_callvS (rest := []) (wr := [(h, .inr (4, fs)), (qden, .inl (cI, 80, .inl (dg D))), (qquo, .inl (cI, 80, .inl (dg Q)))]) O hK hE (c_X4_copy E hE qrem qother cI (dg R) fo) mlX4_94 smX4_copy inX4 cdX4_copy 2 (by decide +kernel) ⟨Nat.le_of_ble_eq_true rfl, Nat.le_of_ble_eq_true rfl⟩ [0] rfl [3, 4] rfl (by decide) [0, 1, 2] rfl (by decide) (by decide) rfl rfl (Nat.le_of_ble_eq_true rfl) ⟨Nat.zero_le _, Nat.zero_le _⟩ dX4_rounds_20 23 rfl (fun u hu => ?_)
    show TGo X [(h, .inr (4, fs)), (qden, .inl (cI, 80, .inl (dg D))), (qquo, .inl (cI, 80, .inl (dg Q))), (qrem, .inl (cI, 80, .inl (dg R))), (qother, .inl (cI, 80, .inl (dg R)))] 0 0 23 [(0, .ref h), (1, .int (iI (bz minus))), (2, .int (iI mode))] []
    refine go_aload_n O dX4_rounds_23 rfl 0 rfl 24 rfl ?_
    refine go_get O hK dX4_rounds_24 hinX4 0 rfl rfl 15 (by decide) flX4_44 f_other 27 rfl ?_
    refine go_aload_n O dX4_rounds_27 rfl 0 rfl 28 rfl ?_
    refine go_get O hK dX4_rounds_28 hinX4 0 rfl rfl 14 (by decide) flX4_41 f_rem 31 rfl ?_
    refine go_callvS (rest := []) (wr := [(h, .inr (4, fs)), (qden, .inl (cI, 80, .inl (dg D))), (qquo, .inl (cI, 80, .inl (dg Q)))]) O hK hE (c_X4_increase E hE qother qrem cI R R) mlX4_97 smX4_increase inX4 cdX4_increase 2 (by decide +kernel) ⟨Nat.le_of_ble_eq_true rfl, Nat.le_of_ble_eq_true rfl⟩ [0] rfl [4, 3] rfl (by decide) [0, 1, 2] rfl (by decide) (by decide) rfl rfl (Nat.le_of_ble_eq_true rfl) ⟨Nat.zero_le _, Nat.zero_le _⟩ dX4_rounds_31 34 rfl (fun u hu => ?_)
    show TGo X [(h, .inr (4, fs)), (qden, .inl (cI, 80, .inl (dg D))), (qquo, .inl (cI, 80, .inl (dg Q))), (qother, .inl (cI, 80, .inl (dg (R + R)))), (qrem, .inl (cI, 80, .inl (dg R)))] 0 0 34 [(0, .ref h), (1, .int (iI (bz minus))), (2, .int (iI mode))] []
    refine TGo.sub (ws' := [(h, .inr (4, fs)), (qden, .inl (cI, 80, .inl (dg D))), (qquo, .inl (cI, 80, .inl (dg Q))), (qrem, .inl (cI, 80, .inl (dg R))), (qother, .inl (cI, 80, .inl (dg (R + R))))]) [0, 1, 2, 4, 3] (by decide) rfl ?_
    refine go_aload_n O dX4_rounds_34 rfl 0 rfl 35 rfl ?_
    refine go_get O hK dX4_rounds_35 hinX4 0 rfl rfl 15 (by decide) flX4_44 f_other 38 rfl ?_
    refine go_aload_n O dX4_rounds_38 rfl 0 rfl 39 rfl ?_
    refine go_get O hK dX4_rounds_39 hinX4 0 rfl rfl 12 (by decide) flX4_35 f_den 42 rfl ?_
    refine go_calliS (rest := []) (wr := [(h, .inr (4, fs)), (qquo, .inl (cI, 80, .inl (dg Q))), (qrem, .inl (cI, 80, .inl (dg R)))]) O hK hE (c_X4_order E hE qother qden cI (R + R) D (by omega) hD) mlX4_86 smX4_order inX4 cdX4_order 2 (by decide +kernel) ⟨Nat.le_of_ble_eq_true rfl, Nat.le_of_ble_eq_true rfl⟩ [0] rfl [4, 1] rfl (by decide) [0, 2, 3] rfl (by decide) (by decide) rfl rfl (Nat.le_of_ble_eq_true rfl) ⟨Nat.zero_le _, Nat.zero_le _⟩ dX4_rounds_42 45 rfl (fun z u hu => ?_)
    subst hu
    show TGo X [(h, .inr (4, fs)), (qquo, .inl (cI, 80, .inl (dg Q))), (qrem, .inl (cI, 80, .inl (dg R))), (qother, .inl (cI, 80, .inl (dg (R + R)))), (qden, .inl (cI, 80, .inl (dg D)))] 0 0 45 [(0, .ref h), (1, .int (iI (bz minus))), (2, .int (iI mode))] [.int (iI (cmpN (R + R) D))]
    refine TGo.sub (ws' := [(h, .inr (4, fs)), (qden, .inl (cI, 80, .inl (dg D))), (qquo, .inl (cI, 80, .inl (dg Q))), (qrem, .inl (cI, 80, .inl (dg R))), (qother, .inl (cI, 80, .inl (dg (R + R))))]) [0, 4, 1, 2, 3] (by decide) rfl ?_
    refine go_istore_n O dX4_rounds_45 rfl (by decide) [(3, .int (iI (cmpN (R + R) D))), (0, .ref h), (1, .int (iI (bz minus))), (2, .int (iI mode))] rfl 46 rfl ?_
    refine go_aload_n O dX4_rounds_46 rfl 1 rfl 47 rfl ?_
    refine go_get O hK dX4_rounds_47 hinX4 0 rfl rfl 13 (by decide) flX4_38 f_quo 50 rfl ?_
    refine go_iconst O dX4_rounds_50 51 rfl ?_
    refine go_iald O hK dX4_rounds_51 2 0 rfl rfl 0 rfl (by omega) (by omega) ((Q % 10 : Nat) : Int) (by rw [dg_at, tqz]) 52 rfl ?_
    refine go_iconst O dX4_rounds_52 53 rfl ?_
    refine go_irem O dX4_rounds_53 (by omega) (by omega) (by omega) (by omega) ((Q % 2 : Nat) : Int) (by omega) 54 rfl ?_
    refine go_iconst O dX4_rounds_54 55 rfl ?_
    refine go_icmp_ne O dX4_rounds_55 62 (by decide) 58 rfl (by omega) (by omega) (fun h55 => ?_) (fun h55 => ?_)
    · refine go_iconst O dX4_rounds_62 63 rfl ?_
      refine go_istore O dX4_rounds_63 (by decide) [(4, .int (iI 0)), (3, .int (iI (cmpN (R + R) D))), (0, .ref h), (1, .int (iI (bz minus))), (2, .int (iI mode))] rfl 65 rfl ?_
      refine TGo.lsub (lv' := [(4, .int (iI 0)), (3, .int (iI (cmpN (R + R) D))), (0, .ref h), (1, .int (iI (bz minus))), (2, .int (iI mode))]) [0, 1, 2, 3, 4] rfl ?_
      exact m65 _ _ (by omega) (Or.inr ⟨rfl, by omega⟩)
    · refine go_iconst O dX4_rounds_58 59 rfl ?_
      refine go_goto O dX4_rounds_59 63 (by decide) ?_
      refine go_istore O dX4_rounds_63 (by decide) [(4, .int (iI 1)), (3, .int (iI (cmpN (R + R) D))), (0, .ref h), (1, .int (iI (bz minus))), (2, .int (iI mode))] rfl 65 rfl ?_
      refine TGo.lsub (lv' := [(4, .int (iI 1)), (3, .int (iI (cmpN (R + R) D))), (0, .ref h), (1, .int (iI (bz minus))), (2, .int (iI mode))]) [0, 1, 2, 3, 4] rfl ?_
      exact m65 _ _ (by omega) (Or.inl ⟨rfl, by omega⟩)
  · refine go_iconst O dX4_rounds_10 11 rfl ?_
    have eR : R = 0 := by omega
    subst eR
    rw [show Q = trnd mode minus Q 0 D from trnd_0.symm]
    exact hret _ _ _ fo dX4_rounds_11 rfl (by rw [if_pos (Or.inl rfl)])
end
section
/-! What fits; the registers as a function, and the reference's rows that hold them. -/
def tfit (wide minus : Bool) (V : Nat) : Bool := if wide = true then decide (V < 10 ^ 36) else decide (V % 10 ^ 5 = 0 ∧ V ≤ tlim minus * 10 ^ 5)
theorem tfit_t1 {wide minus : Bool} {V : Nat} (hw : ¬ bz wide = 0) (h : V < 10 ^ 36) : 1 = bz (tfit wide minus V) := by
  have e : wide = true := by cases wide <;> simp_all [bz]
  unfold tfit
  rw [if_pos e, decide_eq_true h, bz_t]
theorem tfit_t0 {wide minus : Bool} {V : Nat} (hw : ¬ bz wide = 0) (h : ¬ V < 10 ^ 36) : 0 = bz (tfit wide minus V) := by
  have e : wide = true := by cases wide <;> simp_all [bz]
  unfold tfit
  rw [if_pos e, decide_eq_false h, bz_f]
theorem tfit_f1 {wide minus : Bool} {V : Nat} (hw : bz wide = 0) (h : V % 10 ^ 5 = 0 ∧ V ≤ tlim minus * 10 ^ 5) : 1 = bz (tfit wide minus V) := by
  have e : ¬ wide = true := by rw [bz_0.mp hw]; decide
  unfold tfit
  rw [if_neg e, decide_eq_true h, bz_t]
theorem tfit_f0 {wide minus : Bool} {V : Nat} (hw : bz wide = 0) (h : ¬ (V % 10 ^ 5 = 0 ∧ V ≤ tlim minus * 10 ^ 5)) : 0 = bz (tfit wide minus V) := by
  have e : ¬ wide = true := by rw [bz_0.mp hw]; decide
  unfold tfit
  rw [if_neg e, decide_eq_false h, bz_f]
theorem tmod_of {V : Nat} : ∀ i, (∀ j, j < i → V / 10 ^ j % 10 = 0) → V % 10 ^ i = 0 := by
  intro i
  induction i with
  | zero => intro _; rw [Nat.pow_zero, Nat.mod_one]
  | succ i ih =>
    intro h
    rw [tmodS, ih (fun j hj => h j (by omega)), h i (by omega), Nat.zero_mul]
theorem tmod_dig {V e j : Nat} (h : V % 10 ^ e = 0) (hj : j < e) : V / 10 ^ j % 10 = 0 := by
  have h1 := Nat.div_add_mod V (10 ^ e)
  rw [h, Nat.add_zero, Nat.mul_comm] at h1
  have h2 := tlow (N := 0) (k := V / 10 ^ e) hj
  rw [Nat.zero_add, h1, Nat.zero_div] at h2
  exact h2
theorem tlim_t : Int.natAbs (-9223372036854775808) = tlim true := rfl
theorem tlim_f : Int.natAbs 9223372036854775807 = tlim false := rfl
abbrev Rg : Type := Nat → Option (Int × Bool × Bool × Nat)
def rset (reg : Rg) (ρ : Nat) (v : Option (Int × Bool × Bool × Nat)) : Rg := fun j => if j = ρ then v else reg j
def regM (fc fw fn K : Nat → Int32) (ρ : Nat) : Option (Int × Bool × Bool × Nat) → Prop
  | none => fc ρ = iI (-1)
  | some (c, w, n, V) => (0 ≤ c ∧ c ≤ 5) ∧ fc ρ = iI c ∧ fw ρ = iI (bz w) ∧ fn ρ = iI (bz n) ∧ V < 10 ^ 36 ∧ (V = 0 → n = false) ∧ ∀ j, j < 40 → K (40 * ρ + j) = dg V j
def MR (fc fw fn K : Nat → Int32) (reg : Rg) : Prop := ∀ ρ, ρ < 8 → regM fc fw fn K ρ (reg ρ)
theorem upd_s {f : Nat → Int32} {k : Nat} {x : Int32} : upd f k x k = x := by unfold upd; rw [if_pos rfl]
theorem upd_n {f : Nat → Int32} {k j : Nat} {x : Int32} (h : j ≠ k) : upd f k x j = f j := by unfold upd; rw [if_neg h]
theorem MR_keep {fc fw fn K K' : Nat → Int32} {reg : Rg} {ρ V : Nat} {c nz : Int} {wide minus : Bool} (h : MR fc fw fn K reg) (hc : 0 ≤ c ∧ c ≤ 5) (hV : V < 10 ^ 36) (hnz : nz = bz (minus && decide (0 < V)))
    (h1 : ∀ j, j < 40 → K' (40 * ρ + j) = dg V j) (h2 : ∀ j, ¬ (40 * ρ ≤ j ∧ j < 40 * ρ + 40) → K' j = K j) : MR (upd fc ρ (iI c)) (upd fw ρ (iI (bz wide))) (upd fn ρ (iI nz)) K' (rset reg ρ (some (c, wide, minus && decide (0 < V), V))) := by
  intro σ hσ
  unfold rset
  by_cases e : σ = ρ
  · subst e
    rw [if_pos rfl]
    exact ⟨hc, upd_s, upd_s, by rw [upd_s, hnz], hV, fun e => by subst e; simp, h1⟩
  · rw [if_neg e]
    have h3 := h σ hσ
    have h4 : ∀ j, j < 40 → K' (40 * σ + j) = K (40 * σ + j) := fun j hj => h2 _ (by omega)
    unfold regM at h3 ⊢
    split
    · next e2 => rw [e2] at h3; rw [upd_n e]; exact h3
    · next e2 =>
      rw [e2] at h3
      obtain ⟨a1, a2, a3, a4, a5, a6, a7⟩ := h3
      exact ⟨a1, by rw [upd_n e]; exact a2, by rw [upd_n e]; exact a3, by rw [upd_n e]; exact a4, a5, a6, fun j hj => by rw [h4 j hj]; exact a7 j hj⟩
theorem keep_lo {g : Nat → Int32} {V ρ i : Nat} (h : ∀ j, j < i → g (40 * ρ + j) = dg V j) : ∀ j, j < i + 1 → upd g (40 * ρ + i) (iI ((V / 10 ^ i % 10 : Nat) : Int)) (40 * ρ + j) = dg V j := by
  intro j hj
  by_cases e : j = i
  · subst e; rw [upd_s]; rfl
  · rw [upd_n (by omega)]; exact h j (by omega)
theorem keep_ot {g K : Nat → Int32} {ρ i : Nat} {z : Int} (hi : i < 40) (h : ∀ j, ¬ (40 * ρ ≤ j ∧ j < 40 * ρ + 40) → g j = K j) : ∀ j, ¬ (40 * ρ ≤ j ∧ j < 40 * ρ + 40) → upd g (40 * ρ + i) (iI z) j = K j := by
  intro j hj
  rw [upd_n (by omega)]; exact h j hj
theorem band_0 {minus : Bool} {V : Nat} (h : bz minus = 0 ∨ V = 0) : 0 = bz (minus && decide (0 < V)) := by
  rcases h with h | h
  · rw [bz_0.mp h]; rfl
  · subst h; cases minus <;> rfl
theorem band_1 {minus : Bool} {V : Nat} (h : ¬ bz minus = 0) (h2 : 0 < V) : 1 = bz (minus && decide (0 < V)) := by
  have e : minus = true := by cases minus <;> simp_all [bz]
  rw [e, decide_eq_true h2]; rfl
def rstp (reg : Rg) (ρ : Nat) (c : Int) (wide minus : Bool) : Option Nat → Rg
  | none => reg
  | some V => rset reg ρ (some (c, wide, minus && decide (0 < V), V))
def ansO : Option Nat → Int
  | none => -13
  | some _ => 0
def tout (x e : Int) : Bool := decide (x < 0 ∨ e ≤ x)
theorem tout_1 {x e : Int} (h : x < 0 ∨ e ≤ x) : 1 = bz (tout x e) := by unfold tout; rw [decide_eq_true h]; rfl
theorem tout_0 {x e : Int} (h : ¬ (x < 0 ∨ e ≤ x)) : 0 = bz (tout x e) := by unfold tout; rw [decide_eq_false h]; rfl
theorem tout_i {x e : Int} : (bz (tout x e) = 0 ↔ 0 ≤ x ∧ x < e) := by
  unfold tout
  by_cases h : x < 0 ∨ e ≤ x
  · rw [decide_eq_true h, bz_t]; omega
  · rw [decide_eq_false h, bz_f]; omega
set_option maxHeartbeats 4000000 in
set_option maxRecDepth 100000 in
/-- outside -/
theorem c_X4_outside (E : TEn) (hE : EnvOk E) (x e : Int) (hx : r32 x) (he : r32 e) : Cti vwCl E yX4_outside wsX4_outside (rmn 0 0) [.int (iI x), .int (iI e)] [] [] (fun (z : Int) (_ : Unit) => z = bz (tout x e)) (fun _ => []) := by
  refine enteri (by decide) (Nat.le_of_ble_eq_true rfl) ?_
  intro X O hK hin2 hret
  show TGo X [] 0 0 0 [(0, .int (iI x)), (1, .int (iI e))] []
  refine go_iload_n O dX4_outside_0 rfl 0 rfl 1 rfl ?_
  refine go_if_lt O dX4_outside_1 9 (by decide) 4 rfl (by omega) (fun h1 => ?_) (fun h1 => ?_)
  · refine go_iconst O dX4_outside_9 10 rfl ?_
    refine go_goto O dX4_outside_10 14 (by decide) ?_
    exact hret _ _ _ () dX4_outside_14 rfl (tout_1 (by omega))
  · refine go_iload_n O dX4_outside_4 rfl 0 rfl 5 rfl ?_
    refine go_iload_n O dX4_outside_5 rfl 1 rfl 6 rfl ?_
    refine go_icmp_lt O dX4_outside_6 13 (by decide) 9 rfl (by omega) (by omega) (fun h6 => ?_) (fun h6 => ?_)
    · refine go_iconst O dX4_outside_13 14 rfl ?_
      exact hret _ _ _ () dX4_outside_14 rfl (tout_0 (by omega))
    · refine go_iconst O dX4_outside_9 10 rfl ?_
      refine go_goto O dX4_outside_10 14 (by decide) ?_
      exact hret _ _ _ () dX4_outside_14 rfl (tout_1 (by omega))
set_option maxHeartbeats 4000000 in
set_option maxRecDepth 100000 in
/-- fits -/
theorem c_X4_fits (E : TEn) (hE : EnvOk E) (h : Nat) (fs : List Value) {qother : Nat} (f_other : fs[15]? = some (.ref qother)) (q : Nat) (cI : ClassId) (V : Nat) (fo : Nat → Int32) (wide minus : Bool) (hV : V < 10 ^ 80) : Cti vwCl E yX4_fits wsX4_fits (rmn 2 47) [.ref h, .ref q, .int (iI (bz wide)), .int (iI (bz minus))] [(h, .inr (4, fs)), (qother, .inl (cI, 80, .inl fo)), (q, .inl (cI, 80, .inl (dg V)))] [(cI, .int)] (fun (z : Int) (_ : Nat → Int32) => z = bz (tfit wide minus V)) (fun u => [(h, .inr (4, fs)), (qother, .inl (cI, 80, .inl u)), (q, .inl (cI, 80, .inl (dg V)))]) := by
  refine enteri (by decide) (Nat.le_of_ble_eq_true rfl) ?_
  intro X O hK hin2 hret
  show TGo X [(h, .inr (4, fs)), (qother, .inl (cI, 80, .inl fo)), (q, .inl (cI, 80, .inl (dg V)))] 0 0 0 [(0, .ref h), (1, .ref q), (2, .int (iI (bz wide))), (3, .int (iI (bz minus)))] []
  have hw01 := bz_01 wide
  have hm01 := bz_01 minus
  have lp : ∀ (c : Nat) (i : Nat) (x : Int), c + i = 6 → i ≤ 5 → x = (i : Int) → (∀ j, j < i → V / 10 ^ j % 10 = 0) → bz wide = 0 → TGo X [(h, .inr (4, fs)), (qother, .inl (cI, 80, .inl fo)), (q, .inl (cI, 80, .inl (dg V)))] 0 0 22 [(4, .int (iI x)), (0, .ref h), (1, .ref q), (2, .int (iI (bz wide))), (3, .int (iI (bz minus)))] [] := by
    intro c
    induction c with
    | zero => intro i x h1 h2 hx hz hw; omega
    | succ c ih =>
      intro i x h1 h2 hx hz hw
      refine go_iload O dX4_fits_22 0 rfl 24 rfl ?_
      refine go_iconst O dX4_fits_24 25 rfl ?_
      refine go_icmp_ge O dX4_fits_25 43 (by decide) 28 rfl (by omega) (by omega) (fun h25 => ?_) (fun h25 => ?_)
      · refine go_aload_n O dX4_fits_43 rfl 1 rfl 44 rfl ?_
        refine go_get O hK dX4_fits_44 hinX4 0 rfl rfl 15 (by decide) flX4_44 f_other 47 rfl ?_
        refine go_iload_n O dX4_fits_47 rfl 4 rfl 48 rfl ?_
        refine go_if_eq O dX4_fits_48 57 (by decide) 51 rfl (by omega) (fun h48 => ?_) (fun h48 => ?_)
        · refine go_ldc2 O dX4_fits_57 (9223372036854775807) kcX4_106 (by decide) 60 rfl ?_
          refine go_callvS (rest := []) (wr := [(h, .inr (4, fs)), (q, .inl (cI, 80, .inl (dg V)))]) O hK hE (c_X4_load E hE qother cI fo 9223372036854775807 (by omega)) mlX4_100 smX4_load inX4 cdX4_load 2 (by decide +kernel) ⟨Nat.le_of_ble_eq_true rfl, Nat.le_of_ble_eq_true rfl⟩ [0] rfl [1] rfl (by decide) [0, 2] rfl (by decide) (by decide) rfl rfl (Nat.le_of_ble_eq_true rfl) ⟨Nat.zero_le _, Nat.zero_le _⟩ dX4_fits_60 63 rfl (fun u hu => ?_)
          show TGo X [(h, .inr (4, fs)), (q, .inl (cI, 80, .inl (dg V))), (qother, .inl (cI, 80, .inl (dg (Int.natAbs 9223372036854775807))))] 0 0 63 [(4, .int (iI x)), (0, .ref h), (1, .ref q), (2, .int (iI (bz wide))), (3, .int (iI (bz minus)))] []
          refine TGo.sub (ws' := [(h, .inr (4, fs)), (qother, .inl (cI, 80, .inl (dg (Int.natAbs 9223372036854775807)))), (q, .inl (cI, 80, .inl (dg V)))]) [0, 2, 1] (by decide) rfl ?_
          refine go_aload_n O dX4_fits_63 rfl 1 rfl 64 rfl ?_
          refine go_get O hK dX4_fits_64 hinX4 0 rfl rfl 15 (by decide) flX4_44 f_other 67 rfl ?_
          refine go_iconst O dX4_fits_67 68 rfl ?_
          refine go_callvS (rest := []) (wr := [(h, .inr (4, fs)), (q, .inl (cI, 80, .inl (dg V)))]) O hK hE (c_X4_shift E hE qother cI (Int.natAbs 9223372036854775807) 5 (by omega)) mlX4_82 smX4_shift inX4 cdX4_shift 2 (by decide +kernel) ⟨Nat.le_of_ble_eq_true rfl, Nat.le_of_ble_eq_true rfl⟩ [0] rfl [1] rfl (by decide) [0, 2] rfl (by decide) (by decide) rfl rfl (Nat.le_of_ble_eq_true rfl) ⟨Nat.zero_le _, Nat.zero_le _⟩ dX4_fits_68 71 rfl (fun u hu => ?_)
          show TGo X [(h, .inr (4, fs)), (q, .inl (cI, 80, .inl (dg V))), (qother, .inl (cI, 80, .inl (dg ((Int.natAbs 9223372036854775807) * 10 ^ 5))))] 0 0 71 [(4, .int (iI x)), (0, .ref h), (1, .ref q), (2, .int (iI (bz wide))), (3, .int (iI (bz minus)))] []
          refine TGo.sub (ws' := [(h, .inr (4, fs)), (qother, .inl (cI, 80, .inl (dg ((Int.natAbs 9223372036854775807) * 10 ^ 5)))), (q, .inl (cI, 80, .inl (dg V)))]) [0, 2, 1] (by decide) rfl ?_
          refine go_aload_n O dX4_fits_71 rfl 2 rfl 72 rfl ?_
          refine go_aload_n O dX4_fits_72 rfl 1 rfl 73 rfl ?_
          refine go_get O hK dX4_fits_73 hinX4 0 rfl rfl 15 (by decide) flX4_44 f_other 76 rfl ?_
          refine go_calliS (rest := []) (wr := [(h, .inr (4, fs))]) O hK hE (c_X4_order E hE q qother cI V ((Int.natAbs 9223372036854775807) * 10 ^ 5) hV (by decide)) mlX4_86 smX4_order inX4 cdX4_order 2 (by decide +kernel) ⟨Nat.le_of_ble_eq_true rfl, Nat.le_of_ble_eq_true rfl⟩ [0] rfl [2, 1] rfl (by decide) [0] rfl (by decide) (by decide) rfl rfl (Nat.le_of_ble_eq_true rfl) ⟨Nat.zero_le _, Nat.zero_le _⟩ dX4_fits_76 79 rfl (fun z u hu => ?_)
          subst hu
          show TGo X [(h, .inr (4, fs)), (q, .inl (cI, 80, .inl (dg V))), (qother, .inl (cI, 80, .inl (dg ((Int.natAbs 9223372036854775807) * 10 ^ 5))))] 0 0 79 [(4, .int (iI x)), (0, .ref h), (1, .ref q), (2, .int (iI (bz wide))), (3, .int (iI (bz minus)))] [.int (iI (cmpN V ((Int.natAbs 9223372036854775807) * 10 ^ 5)))]
          refine TGo.sub (ws' := [(h, .inr (4, fs)), (qother, .inl (cI, 80, .inl (dg ((Int.natAbs 9223372036854775807) * 10 ^ 5)))), (q, .inl (cI, 80, .inl (dg V)))]) [0, 2, 1] (by decide) rfl ?_
          refine go_if_gt O dX4_fits_79 86 (by decide) 82 rfl (cmpN_r _ _) (fun hcm => ?_) (fun hcm => ?_)
          · refine go_iconst O dX4_fits_86 87 rfl ?_
            have hcl := cmpN_le (a := V) (b := ((Int.natAbs 9223372036854775807) * 10 ^ 5))
            have hl : tlim minus = Int.natAbs 9223372036854775807 := by have em : minus = false := bz_0.mp (by omega); rw [em]; rfl
            exact hret _ _ _ (dg ((Int.natAbs 9223372036854775807) * 10 ^ 5)) dX4_fits_87 rfl (tfit_f0 hw (fun e => by have h9 := e.2; rw [hl] at h9; exact absurd (hcl.mpr h9) (Int.not_le.mpr hcm)))
          · refine go_iconst O dX4_fits_82 83 rfl ?_
            refine go_goto O dX4_fits_83 87 (by decide) ?_
            have hcl := cmpN_le (a := V) (b := ((Int.natAbs 9223372036854775807) * 10 ^ 5))
            have hl : tlim minus = Int.natAbs 9223372036854775807 := by have em : minus = false := bz_0.mp (by omega); rw [em]; rfl
            exact hret _ _ _ (dg ((Int.natAbs 9223372036854775807) * 10 ^ 5)) dX4_fits_87 rfl (tfit_f1 hw ⟨tmod_of 5 (fun j hj => hz j (by omega)), by rw [hl]; exact hcl.mp hcm⟩)
        · refine go_ldc2 O dX4_fits_51 (-9223372036854775808) kcX4_104 (by decide) 54 rfl ?_
          refine go_goto O dX4_fits_54 60 (by decide) ?_
          refine go_callvS (rest := []) (wr := [(h, .inr (4, fs)), (q, .inl (cI, 80, .inl (dg V)))]) O hK hE (c_X4_load E hE qother cI fo (-9223372036854775808) (by omega)) mlX4_100 smX4_load inX4 cdX4_load 2 (by decide +kernel) ⟨Nat.le_of_ble_eq_true rfl, Nat.le_of_ble_eq_true rfl⟩ [0] rfl [1] rfl (by decide) [0, 2] rfl (by decide) (by decide) rfl rfl (Nat.le_of_ble_eq_true rfl) ⟨Nat.zero_le _, Nat.zero_le _⟩ dX4_fits_60 63 rfl (fun u hu => ?_)
          show TGo X [(h, .inr (4, fs)), (q, .inl (cI, 80, .inl (dg V))), (qother, .inl (cI, 80, .inl (dg (Int.natAbs (-9223372036854775808)))))] 0 0 63 [(4, .int (iI x)), (0, .ref h), (1, .ref q), (2, .int (iI (bz wide))), (3, .int (iI (bz minus)))] []
          refine TGo.sub (ws' := [(h, .inr (4, fs)), (qother, .inl (cI, 80, .inl (dg (Int.natAbs (-9223372036854775808))))), (q, .inl (cI, 80, .inl (dg V)))]) [0, 2, 1] (by decide) rfl ?_
          refine go_aload_n O dX4_fits_63 rfl 1 rfl 64 rfl ?_
          refine go_get O hK dX4_fits_64 hinX4 0 rfl rfl 15 (by decide) flX4_44 f_other 67 rfl ?_
          refine go_iconst O dX4_fits_67 68 rfl ?_
          refine go_callvS (rest := []) (wr := [(h, .inr (4, fs)), (q, .inl (cI, 80, .inl (dg V)))]) O hK hE (c_X4_shift E hE qother cI (Int.natAbs (-9223372036854775808)) 5 (by omega)) mlX4_82 smX4_shift inX4 cdX4_shift 2 (by decide +kernel) ⟨Nat.le_of_ble_eq_true rfl, Nat.le_of_ble_eq_true rfl⟩ [0] rfl [1] rfl (by decide) [0, 2] rfl (by decide) (by decide) rfl rfl (Nat.le_of_ble_eq_true rfl) ⟨Nat.zero_le _, Nat.zero_le _⟩ dX4_fits_68 71 rfl (fun u hu => ?_)
          show TGo X [(h, .inr (4, fs)), (q, .inl (cI, 80, .inl (dg V))), (qother, .inl (cI, 80, .inl (dg ((Int.natAbs (-9223372036854775808)) * 10 ^ 5))))] 0 0 71 [(4, .int (iI x)), (0, .ref h), (1, .ref q), (2, .int (iI (bz wide))), (3, .int (iI (bz minus)))] []
          refine TGo.sub (ws' := [(h, .inr (4, fs)), (qother, .inl (cI, 80, .inl (dg ((Int.natAbs (-9223372036854775808)) * 10 ^ 5)))), (q, .inl (cI, 80, .inl (dg V)))]) [0, 2, 1] (by decide) rfl ?_
          refine go_aload_n O dX4_fits_71 rfl 2 rfl 72 rfl ?_
          refine go_aload_n O dX4_fits_72 rfl 1 rfl 73 rfl ?_
          refine go_get O hK dX4_fits_73 hinX4 0 rfl rfl 15 (by decide) flX4_44 f_other 76 rfl ?_
          refine go_calliS (rest := []) (wr := [(h, .inr (4, fs))]) O hK hE (c_X4_order E hE q qother cI V ((Int.natAbs (-9223372036854775808)) * 10 ^ 5) hV (by decide)) mlX4_86 smX4_order inX4 cdX4_order 2 (by decide +kernel) ⟨Nat.le_of_ble_eq_true rfl, Nat.le_of_ble_eq_true rfl⟩ [0] rfl [2, 1] rfl (by decide) [0] rfl (by decide) (by decide) rfl rfl (Nat.le_of_ble_eq_true rfl) ⟨Nat.zero_le _, Nat.zero_le _⟩ dX4_fits_76 79 rfl (fun z u hu => ?_)
          subst hu
          show TGo X [(h, .inr (4, fs)), (q, .inl (cI, 80, .inl (dg V))), (qother, .inl (cI, 80, .inl (dg ((Int.natAbs (-9223372036854775808)) * 10 ^ 5))))] 0 0 79 [(4, .int (iI x)), (0, .ref h), (1, .ref q), (2, .int (iI (bz wide))), (3, .int (iI (bz minus)))] [.int (iI (cmpN V ((Int.natAbs (-9223372036854775808)) * 10 ^ 5)))]
          refine TGo.sub (ws' := [(h, .inr (4, fs)), (qother, .inl (cI, 80, .inl (dg ((Int.natAbs (-9223372036854775808)) * 10 ^ 5)))), (q, .inl (cI, 80, .inl (dg V)))]) [0, 2, 1] (by decide) rfl ?_
          refine go_if_gt O dX4_fits_79 86 (by decide) 82 rfl (cmpN_r _ _) (fun hcm => ?_) (fun hcm => ?_)
          · refine go_iconst O dX4_fits_86 87 rfl ?_
            have hcl := cmpN_le (a := V) (b := ((Int.natAbs (-9223372036854775808)) * 10 ^ 5))
            have hl : tlim minus = Int.natAbs (-9223372036854775808) := by have em : minus = true := bz_1.mp (by omega); rw [em]; rfl
            exact hret _ _ _ (dg ((Int.natAbs (-9223372036854775808)) * 10 ^ 5)) dX4_fits_87 rfl (tfit_f0 hw (fun e => by have h9 := e.2; rw [hl] at h9; exact absurd (hcl.mpr h9) (Int.not_le.mpr hcm)))
          · refine go_iconst O dX4_fits_82 83 rfl ?_
            refine go_goto O dX4_fits_83 87 (by decide) ?_
            have hcl := cmpN_le (a := V) (b := ((Int.natAbs (-9223372036854775808)) * 10 ^ 5))
            have hl : tlim minus = Int.natAbs (-9223372036854775808) := by have em : minus = true := bz_1.mp (by omega); rw [em]; rfl
            exact hret _ _ _ (dg ((Int.natAbs (-9223372036854775808)) * 10 ^ 5)) dX4_fits_87 rfl (tfit_f1 hw ⟨tmod_of 5 (fun j hj => hz j (by omega)), by rw [hl]; exact hcl.mp hcm⟩)
      · refine go_aload_n O dX4_fits_28 rfl 2 rfl 29 rfl ?_
        refine go_iload O dX4_fits_29 0 rfl 31 rfl ?_
        refine go_iald O hK dX4_fits_31 2 0 rfl rfl i hx (by omega) (by omega) ((V / 10 ^ i % 10 : Nat) : Int) rfl 32 rfl ?_
        refine go_if_eq O dX4_fits_32 37 (by decide) 35 rfl (by omega) (fun h32 => ?_) (fun h32 => ?_)
        · refine go_iinc O dX4_fits_37 0 rfl ((i + 1 : Nat) : Int) (by omega) (by decide) [(4, .int (iI ((i + 1 : Nat) : Int))), (0, .ref h), (1, .ref q), (2, .int (iI (bz wide))), (3, .int (iI (bz minus)))] rfl 40 rfl ?_
          refine go_goto O dX4_fits_40 22 (by decide) ?_
          refine TGo.lsub (lv' := [(4, .int (iI ((i + 1 : Nat) : Int))), (0, .ref h), (1, .ref q), (2, .int (iI (bz wide))), (3, .int (iI (bz minus)))]) [0, 1, 2, 3, 4] rfl ?_
          exact ih (i + 1) _ (by omega) (by omega) (by omega) (fun j hj => if e : j < i then hz j e else (by have e2 : j = i := (by omega); rw [e2]; omega)) hw
        · refine go_iconst O dX4_fits_35 36 rfl ?_
          exact hret _ _ _ fo dX4_fits_36 rfl (tfit_f0 hw (fun e => by have := tmod_dig (j := i) e.1 (by omega); omega))
  refine go_iload_n O dX4_fits_0 rfl 2 rfl 1 rfl ?_
  refine go_if_eq O dX4_fits_1 19 (by decide) 4 rfl (by omega) (fun h1 => ?_) (fun h1 => ?_)
  · refine go_iconst O dX4_fits_19 20 rfl ?_
    refine go_istore O dX4_fits_20 (by decide) [(4, .int (iI 0)), (0, .ref h), (1, .ref q), (2, .int (iI (bz wide))), (3, .int (iI (bz minus)))] rfl 22 rfl ?_
    refine TGo.lsub (lv' := [(4, .int (iI 0)), (0, .ref h), (1, .ref q), (2, .int (iI (bz wide))), (3, .int (iI (bz minus)))]) [0, 1, 2, 3, 4] rfl ?_
    exact lp 6 0 _ (by omega) (by omega) (by omega) (fun j a => absurd a (by omega)) (by omega)
  · refine go_aload_n O dX4_fits_4 rfl 1 rfl 5 rfl ?_
    refine go_calliS (rest := []) (wr := [(h, .inr (4, fs)), (qother, .inl (cI, 80, .inl fo))]) O hK hE (c_X4_size E hE q cI V hV) mlX4_78 smX4_size inX4 cdX4_size 1 (by decide +kernel) ⟨Nat.le_of_ble_eq_true rfl, Nat.le_of_ble_eq_true rfl⟩ [0] rfl [2] rfl (by decide) [0, 1] rfl (by decide) (by decide) rfl rfl (Nat.le_of_ble_eq_true rfl) ⟨Nat.zero_le _, Nat.zero_le _⟩ dX4_fits_5 8 rfl (fun z u hu => ?_)
    subst hu
    have t0 := tnds_mono (N := V) (e := 36)
    have t1 := tnds_gt (N := V) (e := 36)
    have t2 := tnds_mono (N := V) (e := 80) hV
    show TGo X [(h, .inr (4, fs)), (qother, .inl (cI, 80, .inl fo)), (q, .inl (cI, 80, .inl (dg V)))] 0 0 8 [(0, .ref h), (1, .ref q), (2, .int (iI (bz wide))), (3, .int (iI (bz minus)))] [.int (iI ((tnds V : Nat) : Int))]
    refine go_bipush O dX4_fits_8 (by decide) 10 rfl ?_
    refine go_icmp_gt O dX4_fits_10 17 (by decide) 13 rfl (by omega) (by omega) (fun h10 => ?_) (fun h10 => ?_)
    · refine go_iconst O dX4_fits_17 18 rfl ?_
      exact hret _ _ _ fo dX4_fits_18 rfl (tfit_t0 (by omega) (by omega))
    · refine go_iconst O dX4_fits_13 14 rfl ?_
      refine go_goto O dX4_fits_14 18 (by decide) ?_
      exact hret _ _ _ fo dX4_fits_18 rfl (tfit_t1 (by omega) (by omega))
set_option maxHeartbeats 4000000 in
set_option maxRecDepth 100000 in
/-- keep: a row into a register -/
theorem c_X4_keep (E : TEn) (hE : EnvOk E) (h : Nat) (fs : List Value) {qcurrency qisWide qnegative qkept : Nat} (f_currency : fs[3]? = some (.ref qcurrency)) (f_isWide : fs[4]? = some (.ref qisWide)) (f_negative : fs[5]? = some (.ref qnegative)) (f_kept : fs[6]? = some (.ref qkept)) (q : Nat) (cI cZ : ClassId) (ρ V : Nat) (cu : Int) (fc fw fn K : Nat → Int32) (reg : Rg) (wide minus : Bool) (hρ : ρ < 8) (hc : 0 ≤ cu ∧ cu ≤ 5) (hV : V < 10 ^ 36) (hMR : MR fc fw fn K reg) : Cti vwCl E yX4_keep wsX4_keep (rmn 1 22) [.ref h, .int (iI ((ρ : Nat) : Int)), .int (iI cu), .int (iI (bz wide)), .int (iI (bz minus)), .ref q] [(h, .inr (4, fs)), (qcurrency, .inl (cI, 8, .inl fc)), (qisWide, .inl (cZ, 8, .inl fw)), (qnegative, .inl (cZ, 8, .inl fn)), (qkept, .inl (cI, 320, .inl K)), (q, .inl (cI, 80, .inl (dg V)))] [(cI, .int), (cZ, .boolean)] (fun (z : Int) (u : (Nat → Int32) × (Nat → Int32) × (Nat → Int32) × (Nat → Int32)) => z = 0 ∧ MR u.1 u.2.1 u.2.2.1 u.2.2.2 (rset reg ρ (some (cu, wide, minus && decide (0 < V), V)))) (fun u => [(h, .inr (4, fs)), (qcurrency, .inl (cI, 8, .inl u.1)), (qisWide, .inl (cZ, 8, .inl u.2.1)), (qnegative, .inl (cZ, 8, .inl u.2.2.1)), (qkept, .inl (cI, 320, .inl u.2.2.2)), (q, .inl (cI, 80, .inl (dg V)))]) := by
  refine enteri (by decide) (Nat.le_of_ble_eq_true rfl) ?_
  intro X O hK hin2 hret
  show TGo X [(h, .inr (4, fs)), (qcurrency, .inl (cI, 8, .inl fc)), (qisWide, .inl (cZ, 8, .inl fw)), (qnegative, .inl (cZ, 8, .inl fn)), (qkept, .inl (cI, 320, .inl K)), (q, .inl (cI, 80, .inl (dg V)))] 0 0 0 [(0, .ref h), (1, .int (iI ((ρ : Nat) : Int))), (2, .int (iI cu)), (3, .int (iI (bz wide))), (4, .int (iI (bz minus))), (5, .ref q)] []
  have hw01 := bz_01 wide
  have hm01 := bz_01 minus
  have lp : ∀ (c : Nat) (i : Nat) (x : Int) (nz : Int) (g : Nat → Int32), c + i = 41 → i ≤ 40 → x = (i : Int) → nz = bz (minus && decide (0 < V)) → (∀ j, j < i → g (40 * ρ + j) = dg V j) → (∀ j, ¬ (40 * ρ ≤ j ∧ j < 40 * ρ + 40) → g j = K j) → TGo X [(h, .inr (4, fs)), (qcurrency, .inl (cI, 8, .inl (upd fc ρ (iI cu)))), (qisWide, .inl (cZ, 8, .inl (upd fw ρ (iI (bz wide))))), (qnegative, .inl (cZ, 8, .inl (upd fn ρ (iI nz)))), (qkept, .inl (cI, 320, .inl g)), (q, .inl (cI, 80, .inl (dg V)))] 0 0 41 [(6, .int (iI x)), (0, .ref h), (1, .int (iI ((ρ : Nat) : Int))), (2, .int (iI cu)), (3, .int (iI (bz wide))), (4, .int (iI (bz minus))), (5, .ref q)] [] := by
    intro c
    induction c with
    | zero => intro i x nz g h1 h2 hx hnz hlo hot; omega
    | succ c ih =>
      intro i x nz g h1 h2 hx hnz hlo hot
      refine go_iload O dX4_keep_41 0 rfl 43 rfl ?_
      refine go_bipush O dX4_keep_43 (by decide) 45 rfl ?_
      refine go_icmp_ge O dX4_keep_45 71 (by decide) 48 rfl (by omega) (by omega) (fun h45 => ?_) (fun h45 => ?_)
      · refine go_iconst O dX4_keep_71 72 rfl ?_
        exact hret _ _ _ (upd fc ρ (iI cu), upd fw ρ (iI (bz wide)), upd fn ρ (iI nz), g) dX4_keep_72 rfl ⟨rfl, MR_keep hMR hc hV hnz (fun j hj => hlo j (by omega)) hot⟩
      · refine go_aload_n O dX4_keep_48 rfl 1 rfl 49 rfl ?_
        refine go_get O hK dX4_keep_49 hinX4 0 rfl rfl 6 (by decide) flX4_20 f_kept 52 rfl ?_
        refine go_bipush O dX4_keep_52 (by decide) 54 rfl ?_
        refine go_iload_n O dX4_keep_54 rfl 2 rfl 55 rfl ?_
        refine go_imul O dX4_keep_55 ((40 * (ρ) : Nat) : Int) (by omega) 56 rfl ?_
        refine go_iload O dX4_keep_56 0 rfl 58 rfl ?_
        refine go_iadd O dX4_keep_58 ((40 * ρ + i : Nat) : Int) (by omega) 59 rfl ?_
        refine go_aload O dX4_keep_59 6 rfl 61 rfl ?_
        refine go_iload O dX4_keep_61 0 rfl 63 rfl ?_
        refine go_iald O hK dX4_keep_63 5 0 rfl rfl i hx (by omega) (by omega) ((V / 10 ^ i % 10 : Nat) : Int) rfl 64 rfl ?_
        refine go_iast O hK dX4_keep_64 4 0 rfl rfl (40 * ρ + i) rfl (by omega) (by omega) (upd g (40 * ρ + i) (iI ((V / 10 ^ i % 10 : Nat) : Int))) (fun _ _ => rfl) [(h, .inr (4, fs)), (qcurrency, .inl (cI, 8, .inl (upd fc ρ (iI cu)))), (qisWide, .inl (cZ, 8, .inl (upd fw ρ (iI (bz wide))))), (qnegative, .inl (cZ, 8, .inl (upd fn ρ (iI nz)))), (qkept, .inl (cI, 320, .inl (upd g (40 * ρ + i) (iI ((V / 10 ^ i % 10 : Nat) : Int))))), (q, .inl (cI, 80, .inl (dg V)))] rfl 65 rfl ?_
        refine go_iinc O dX4_keep_65 0 rfl ((i + 1 : Nat) : Int) (by omega) (by decide) [(6, .int (iI ((i + 1 : Nat) : Int))), (0, .ref h), (1, .int (iI ((ρ : Nat) : Int))), (2, .int (iI cu)), (3, .int (iI (bz wide))), (4, .int (iI (bz minus))), (5, .ref q)] rfl 68 rfl ?_
        refine go_goto O dX4_keep_68 41 (by decide) ?_
        refine TGo.lsub (lv' := [(6, .int (iI ((i + 1 : Nat) : Int))), (0, .ref h), (1, .int (iI ((ρ : Nat) : Int))), (2, .int (iI cu)), (3, .int (iI (bz wide))), (4, .int (iI (bz minus))), (5, .ref q)]) [0, 1, 2, 3, 4, 5, 6] rfl ?_
        exact ih (i + 1) _ _ _ (by omega) (by omega) (by omega) hnz (keep_lo hlo) (keep_ot (by omega) hot)
  refine go_aload_n O dX4_keep_0 rfl 0 rfl 1 rfl ?_
  refine go_get O hK dX4_keep_1 hinX4 0 rfl rfl 3 (by decide) flX4_7 f_currency 4 rfl ?_
  refine go_iload_n O dX4_keep_4 rfl 1 rfl 5 rfl ?_
  refine go_iload_n O dX4_keep_5 rfl 2 rfl 6 rfl ?_
  refine go_iast O hK dX4_keep_6 1 0 rfl rfl ρ rfl (by omega) (by omega) (upd fc ρ (iI cu)) (fun _ _ => rfl) [(h, .inr (4, fs)), (qcurrency, .inl (cI, 8, .inl (upd fc ρ (iI cu)))), (qisWide, .inl (cZ, 8, .inl fw)), (qnegative, .inl (cZ, 8, .inl fn)), (qkept, .inl (cI, 320, .inl K)), (q, .inl (cI, 80, .inl (dg V)))] rfl 7 rfl ?_
  refine go_aload_n O dX4_keep_7 rfl 0 rfl 8 rfl ?_
  refine go_get O hK dX4_keep_8 hinX4 0 rfl rfl 4 (by decide) flX4_13 f_isWide 11 rfl ?_
  refine go_iload_n O dX4_keep_11 rfl 1 rfl 12 rfl ?_
  refine go_iload_n O dX4_keep_12 rfl 3 rfl 13 rfl ?_
  refine go_zast O hK dX4_keep_13 2 1 rfl rfl ρ rfl (by omega) (by omega) (vnar_b (bz_01 _)) (upd fw ρ (iI (bz wide))) (fun _ _ => rfl) [(h, .inr (4, fs)), (qcurrency, .inl (cI, 8, .inl (upd fc ρ (iI cu)))), (qisWide, .inl (cZ, 8, .inl (upd fw ρ (iI (bz wide))))), (qnegative, .inl (cZ, 8, .inl fn)), (qkept, .inl (cI, 320, .inl K)), (q, .inl (cI, 80, .inl (dg V)))] rfl 14 rfl ?_
  refine go_aload_n O dX4_keep_14 rfl 0 rfl 15 rfl ?_
  refine go_get O hK dX4_keep_15 hinX4 0 rfl rfl 5 (by decide) flX4_17 f_negative 18 rfl ?_
  refine go_iload_n O dX4_keep_18 rfl 1 rfl 19 rfl ?_
  refine go_iload O dX4_keep_19 4 rfl 21 rfl ?_
  refine go_if_eq O dX4_keep_21 36 (by decide) 24 rfl (by omega) (fun h21 => ?_) (fun h21 => ?_)
  · refine go_iconst O dX4_keep_36 37 rfl ?_
    refine go_zast O hK dX4_keep_37 3 1 rfl rfl ρ rfl (by omega) (by omega) rfl (upd fn ρ (iI 0)) (fun _ _ => rfl) [(h, .inr (4, fs)), (qcurrency, .inl (cI, 8, .inl (upd fc ρ (iI cu)))), (qisWide, .inl (cZ, 8, .inl (upd fw ρ (iI (bz wide))))), (qnegative, .inl (cZ, 8, .inl (upd fn ρ (iI 0)))), (qkept, .inl (cI, 320, .inl K)), (q, .inl (cI, 80, .inl (dg V)))] rfl 38 rfl ?_
    refine go_iconst O dX4_keep_38 39 rfl ?_
    refine go_istore O dX4_keep_39 (by decide) [(6, .int (iI 0)), (0, .ref h), (1, .int (iI ((ρ : Nat) : Int))), (2, .int (iI cu)), (3, .int (iI (bz wide))), (4, .int (iI (bz minus))), (5, .ref q)] rfl 41 rfl ?_
    refine TGo.lsub (lv' := [(6, .int (iI 0)), (0, .ref h), (1, .int (iI ((ρ : Nat) : Int))), (2, .int (iI cu)), (3, .int (iI (bz wide))), (4, .int (iI (bz minus))), (5, .ref q)]) [0, 1, 2, 3, 4, 5, 6] rfl ?_
    exact lp 41 0 _ _ _ (by omega) (by omega) (by omega) (band_0 (by omega)) (fun j a => absurd a (by omega)) (fun _ _ => rfl)
  · refine go_aload O dX4_keep_24 5 rfl 26 rfl ?_
    refine go_calliS (rest := [.int (iI ((ρ : Nat) : Int)), .ref qnegative]) (wr := [(h, .inr (4, fs)), (qcurrency, .inl (cI, 8, .inl (upd fc ρ (iI cu)))), (qisWide, .inl (cZ, 8, .inl (upd fw ρ (iI (bz wide))))), (qnegative, .inl (cZ, 8, .inl fn)), (qkept, .inl (cI, 320, .inl K))]) O hK hE (c_X4_size E hE q cI V (Nat.lt_of_lt_of_le hV (p10le (by omega)))) mlX4_78 smX4_size inX4 cdX4_size 1 (by decide +kernel) ⟨Nat.le_of_ble_eq_true rfl, Nat.le_of_ble_eq_true rfl⟩ [0] rfl [5] rfl (by decide) [0, 1, 2, 3, 4] rfl (by decide) (by decide) rfl rfl (Nat.le_of_ble_eq_true rfl) ⟨Nat.zero_le _, Nat.zero_le _⟩ dX4_keep_26 29 rfl (fun z u hu => ?_)
    subst hu
    have t0 := tnds_0iff (N := V)
    have t1 := tnds_mono (N := V) (e := 36) hV
    show TGo X [(h, .inr (4, fs)), (qcurrency, .inl (cI, 8, .inl (upd fc ρ (iI cu)))), (qisWide, .inl (cZ, 8, .inl (upd fw ρ (iI (bz wide))))), (qnegative, .inl (cZ, 8, .inl fn)), (qkept, .inl (cI, 320, .inl K)), (q, .inl (cI, 80, .inl (dg V)))] 0 0 29 [(0, .ref h), (1, .int (iI ((ρ : Nat) : Int))), (2, .int (iI cu)), (3, .int (iI (bz wide))), (4, .int (iI (bz minus))), (5, .ref q)] [.int (iI ((tnds V : Nat) : Int)), .int (iI ((ρ : Nat) : Int)), .ref qnegative]
    refine go_if_le O dX4_keep_29 36 (by decide) 32 rfl (by omega) (fun h29 => ?_) (fun h29 => ?_)
    · refine go_iconst O dX4_keep_36 37 rfl ?_
      refine go_zast O hK dX4_keep_37 3 1 rfl rfl ρ rfl (by omega) (by omega) rfl (upd fn ρ (iI 0)) (fun _ _ => rfl) [(h, .inr (4, fs)), (qcurrency, .inl (cI, 8, .inl (upd fc ρ (iI cu)))), (qisWide, .inl (cZ, 8, .inl (upd fw ρ (iI (bz wide))))), (qnegative, .inl (cZ, 8, .inl (upd fn ρ (iI 0)))), (qkept, .inl (cI, 320, .inl K)), (q, .inl (cI, 80, .inl (dg V)))] rfl 38 rfl ?_
      refine go_iconst O dX4_keep_38 39 rfl ?_
      refine go_istore O dX4_keep_39 (by decide) [(6, .int (iI 0)), (0, .ref h), (1, .int (iI ((ρ : Nat) : Int))), (2, .int (iI cu)), (3, .int (iI (bz wide))), (4, .int (iI (bz minus))), (5, .ref q)] rfl 41 rfl ?_
      refine TGo.lsub (lv' := [(6, .int (iI 0)), (0, .ref h), (1, .int (iI ((ρ : Nat) : Int))), (2, .int (iI cu)), (3, .int (iI (bz wide))), (4, .int (iI (bz minus))), (5, .ref q)]) [0, 1, 2, 3, 4, 5, 6] rfl ?_
      exact lp 41 0 _ _ _ (by omega) (by omega) (by omega) (band_0 (by omega)) (fun j a => absurd a (by omega)) (fun _ _ => rfl)
    · refine go_iconst O dX4_keep_32 33 rfl ?_
      refine go_goto O dX4_keep_33 37 (by decide) ?_
      refine go_zast O hK dX4_keep_37 3 1 rfl rfl ρ rfl (by omega) (by omega) rfl (upd fn ρ (iI 1)) (fun _ _ => rfl) [(h, .inr (4, fs)), (qcurrency, .inl (cI, 8, .inl (upd fc ρ (iI cu)))), (qisWide, .inl (cZ, 8, .inl (upd fw ρ (iI (bz wide))))), (qnegative, .inl (cZ, 8, .inl (upd fn ρ (iI 1)))), (qkept, .inl (cI, 320, .inl K)), (q, .inl (cI, 80, .inl (dg V)))] rfl 38 rfl ?_
      refine go_iconst O dX4_keep_38 39 rfl ?_
      refine go_istore O dX4_keep_39 (by decide) [(6, .int (iI 0)), (0, .ref h), (1, .int (iI ((ρ : Nat) : Int))), (2, .int (iI cu)), (3, .int (iI (bz wide))), (4, .int (iI (bz minus))), (5, .ref q)] rfl 41 rfl ?_
      refine TGo.lsub (lv' := [(6, .int (iI 0)), (0, .ref h), (1, .int (iI ((ρ : Nat) : Int))), (2, .int (iI cu)), (3, .int (iI (bz wide))), (4, .int (iI (bz minus))), (5, .ref q)]) [0, 1, 2, 3, 4, 5, 6] rfl ?_
      exact lp 41 0 _ _ _ (by omega) (by omega) (by omega) (band_1 (by omega) (by omega)) (fun j a => absurd a (by omega)) (fun _ _ => rfl)
end
section
theorem bz_ne {b : Bool} (h : ¬ bz b = 0) : b = true := by cases b <;> simp_all [bz]
theorem tstl_w {P S A B t : Nat} {m : Int} {wide minus : Bool} (hw : ¬ bz wide = 0) (h26 : tnds (A / (B * 10 ^ 10)) ≤ 26) (ht : t = tstp P S (tnds (A / (B * 10 ^ 10)))) :
    tstl P S m wide minus A B = if tfit wide minus (trnd m minus (A / (B * 10 ^ t)) (A % (B * 10 ^ t)) (B * 10 ^ t) * 10 ^ t) = true then some (trnd m minus (A / (B * 10 ^ t)) (A % (B * 10 ^ t)) (B * 10 ^ t) * 10 ^ t) else none := by
  have e := bz_ne hw
  unfold tstl tfit
  rw [if_pos e, if_pos e, if_neg (by omega), ← ht]
  dsimp only
  by_cases h : trnd m minus (A / (B * 10 ^ t)) (A % (B * 10 ^ t)) (B * 10 ^ t) * 10 ^ t < 10 ^ 36
  · rw [if_pos h, decide_eq_true h, if_pos rfl]
  · rw [if_neg h, decide_eq_false h, if_neg (by decide)]
theorem tstl_w0 {P S A B : Nat} {m : Int} {wide minus : Bool} (hw : ¬ bz wide = 0) (h26 : 26 < tnds (A / (B * 10 ^ 10))) : tstl P S m wide minus A B = none := by
  unfold tstl
  rw [if_pos (bz_ne hw), if_pos h26]
theorem tstl_f1 {P S A B t : Nat} {m : Int} {wide minus : Bool} (hw : bz wide = 0) (ht : t = 0) (hr : A % (B * 10 ^ t) = 0) : tstl P S m wide minus A B = if tfit wide minus (A / (B * 10 ^ t) * 10 ^ t) = true then some (A / (B * 10 ^ t) * 10 ^ t) else none := by
  have e : ¬ wide = true := by rw [bz_0.mp hw]; decide
  subst ht
  rw [Nat.pow_zero, Nat.mul_one] at hr
  rw [Nat.pow_zero, Nat.mul_one, Nat.mul_one]
  unfold tstl tfit
  rw [if_neg e, if_neg e]
  by_cases h : A / B % 10 ^ 5 = 0 ∧ A / B ≤ tlim minus * 10 ^ 5
  · rw [if_pos ⟨hr, h⟩, decide_eq_true h, if_pos rfl]
  · rw [if_neg (fun z => h z.2), decide_eq_false h, if_neg (by decide)]
theorem tstl_f0 {P S A B t : Nat} {m : Int} {wide minus : Bool} (hw : bz wide = 0) (ht : t = 0) (hr : ¬ A % (B * 10 ^ t) = 0) : tstl P S m wide minus A B = none := by
  have e : ¬ wide = true := by rw [bz_0.mp hw]; decide
  subst ht
  rw [Nat.pow_zero, Nat.mul_one] at hr
  unfold tstl
  rw [if_neg e, if_neg (fun z => hr z.1)]
theorem tfit_36 {wide minus : Bool} {V : Nat} (h : tfit wide minus V = true) : V < 10 ^ 36 := by
  unfold tfit at h
  by_cases e : wide = true
  · rw [if_pos e] at h; exact of_decide_eq_true h
  · rw [if_neg e] at h
    have h2 := (of_decide_eq_true h).2
    have h3 : tlim minus ≤ 9223372036854775808 := by unfold tlim; split <;> omega
    omega
theorem tstp_i {P S w : Nat} (hP : 19 ≤ P ∧ P ≤ 30) (hS : 5 ≤ S ∧ S ≤ 10) (hw : w ≤ 26) : ((tstp P S w : Nat) : Int) = 10 - (if (S : Int) < (P : Int) - (w : Int) then (S : Int) else (P : Int) - (w : Int)) := by
  unfold tstp
  split <;> split <;> omega
theorem tq_bd {A B t : Nat} {m : Int} {b : Bool} (hA : A < 10 ^ 70) (ht : t ≤ 17) : trnd m b (A / (B * 10 ^ t)) (A % (B * 10 ^ t)) (B * 10 ^ t) * 10 ^ t < 10 ^ 80 := by
  have h1 := trnd_le m b (A / (B * 10 ^ t)) (A % (B * 10 ^ t)) (B * 10 ^ t)
  have h2 : A / (B * 10 ^ t) ≤ A := Nat.div_le_self _ _
  have h3 := p10le (a := t) (b := 17) ht
  by_cases hB : B = 0
  · subst hB
    rw [Nat.zero_mul, Nat.div_zero] at h1
    have h4 := Nat.mul_le_mul (show trnd m b (A / (0 * 10 ^ t)) (A % (0 * 10 ^ t)) (0 * 10 ^ t) ≤ 1 by rw [Nat.zero_mul, Nat.div_zero]; omega) h3
    omega
  · have h5 : A / (B * 10 ^ t) * 10 ^ t ≤ A := by
      refine Nat.le_trans ?_ (Nat.div_mul_le_self A (10 ^ t))
      refine Nat.mul_le_mul_right _ ?_
      rw [Nat.mul_comm, ← Nat.div_div_eq_div_mul]
      exact Nat.div_le_self _ _
    have h6 := Nat.mul_le_mul_right (10 ^ t) h1
    rw [Nat.add_mul, Nat.one_mul] at h6
    omega
theorem tq_bd0 {A B t : Nat} (hA : A < 10 ^ 70) : A / (B * 10 ^ t) * 10 ^ t < 10 ^ 80 := by
  by_cases hB : B = 0
  · subst hB
    rw [Nat.zero_mul, Nat.div_zero, Nat.zero_mul]; exact p10 80
  · have h5 : A / (B * 10 ^ t) * 10 ^ t ≤ A := by
      refine Nat.le_trans ?_ (Nat.div_mul_le_self A (10 ^ t))
      refine Nat.mul_le_mul_right _ ?_
      rw [Nat.mul_comm, ← Nat.div_div_eq_div_mul]
      exact Nat.div_le_self _ _
    omega
theorem tden_bd {B t : Nat} (hB : B < 10 ^ 20) (ht : t ≤ 17) : B * 10 ^ t < 10 ^ 37 := by
  have h3 := p10le (a := t) (b := 17) ht
  have h4 := Nat.mul_le_mul (show B ≤ 10 ^ 20 - 1 by omega) h3
  omega
set_option maxHeartbeats 4000000 in
set_option maxRecDepth 100000 in
/-- settle: the exact result num / base, by the context if wide, into a register -/
theorem c_X4_settle (E : TEn) (hE : EnvOk E) (h : Nat) (fs : List Value) {p s m : Int} {qbase qden qnum qquo qrem qother qcurrency qisWide qnegative qkept : Nat} (f_p : fs[0]? = some (.int (iI p))) (f_s : fs[1]? = some (.int (iI s))) (f_m : fs[2]? = some (.int (iI m))) (f_base : fs[11]? = some (.ref qbase)) (f_den : fs[12]? = some (.ref qden)) (f_num : fs[10]? = some (.ref qnum)) (f_quo : fs[13]? = some (.ref qquo)) (f_rem : fs[14]? = some (.ref qrem)) (f_other : fs[15]? = some (.ref qother)) (f_currency : fs[3]? = some (.ref qcurrency)) (f_isWide : fs[4]? = some (.ref qisWide)) (f_negative : fs[5]? = some (.ref qnegative)) (f_kept : fs[6]? = some (.ref qkept)) (cI cZ : ClassId) (P Sc : Nat) (hp : p = (P : Int)) (hP : 19 ≤ P ∧ P ≤ 30) (hs : s = (Sc : Int)) (hS : 5 ≤ Sc ∧ Sc ≤ 10) (hm : 0 ≤ m ∧ m ≤ 6) (ρ A Bn : Nat) (cu : Int) (fd fq fr fo fc fw fn K : Nat → Int32) (reg : Rg) (wide minus : Bool) (hρ : ρ < 8) (hcu : 0 ≤ cu ∧ cu ≤ 5) (hA : A < 10 ^ 70) (hB : 0 < Bn) (hB2 : Bn < 10 ^ 20) (hMR : MR fc fw fn K reg) : Cti vwCl E yX4_settle wsX4_settle (rmn 3 73) [.ref h, .int (iI ((ρ : Nat) : Int)), .int (iI cu), .int (iI (bz wide)), .int (iI (bz minus))] [(h, .inr (4, fs)), (qnum, .inl (cI, 80, .inl (dg A))), (qbase, .inl (cI, 80, .inl (dg Bn))), (qden, .inl (cI, 80, .inl fd)), (qquo, .inl (cI, 80, .inl fq)), (qrem, .inl (cI, 80, .inl fr)), (qother, .inl (cI, 80, .inl fo)), (qcurrency, .inl (cI, 8, .inl fc)), (qisWide, .inl (cZ, 8, .inl fw)), (qnegative, .inl (cZ, 8, .inl fn)), (qkept, .inl (cI, 320, .inl K))] [(cI, .int), (cZ, .boolean)] (fun (z : Int) (u : (Nat → Int32) × (Nat → Int32) × (Nat → Int32) × (Nat → Int32) × (Nat → Int32) × (Nat → Int32) × (Nat → Int32) × (Nat → Int32)) => z = ansO (tstl P Sc m wide minus A Bn) ∧ MR u.2.2.2.2.1 u.2.2.2.2.2.1 u.2.2.2.2.2.2.1 u.2.2.2.2.2.2.2 (rstp reg ρ cu wide minus (tstl P Sc m wide minus A Bn))) (fun u => [(h, .inr (4, fs)), (qnum, .inl (cI, 80, .inl (dg A))), (qbase, .inl (cI, 80, .inl (dg Bn))), (qden, .inl (cI, 80, .inl u.1)), (qquo, .inl (cI, 80, .inl u.2.1)), (qrem, .inl (cI, 80, .inl u.2.2.1)), (qother, .inl (cI, 80, .inl u.2.2.2.1)), (qcurrency, .inl (cI, 8, .inl u.2.2.2.2.1)), (qisWide, .inl (cZ, 8, .inl u.2.2.2.2.2.1)), (qnegative, .inl (cZ, 8, .inl u.2.2.2.2.2.2.1)), (qkept, .inl (cI, 320, .inl u.2.2.2.2.2.2.2))]) := by
  refine enteri (by decide) (Nat.le_of_ble_eq_true rfl) ?_
  intro X O hK hin2 hret
  show TGo X [(h, .inr (4, fs)), (qnum, .inl (cI, 80, .inl (dg A))), (qbase, .inl (cI, 80, .inl (dg Bn))), (qden, .inl (cI, 80, .inl fd)), (qquo, .inl (cI, 80, .inl fq)), (qrem, .inl (cI, 80, .inl fr)), (qother, .inl (cI, 80, .inl fo)), (qcurrency, .inl (cI, 8, .inl fc)), (qisWide, .inl (cZ, 8, .inl fw)), (qnegative, .inl (cZ, 8, .inl fn)), (qkept, .inl (cI, 320, .inl K))] 0 0 0 [(0, .ref h), (1, .int (iI ((ρ : Nat) : Int))), (2, .int (iI cu)), (3, .int (iI (bz wide))), (4, .int (iI (bz minus)))] []
  have hw01 := bz_01 wide
  have hm01 := bz_01 minus
  have hden : ∀ t, t ≤ 17 → 0 < Bn * 10 ^ t ∧ Bn * 10 ^ t < 10 ^ 37 := fun t ht => ⟨Nat.mul_pos hB (p10 t), tden_bd hB2 ht⟩
  have m140 : ∀ (t : Nat) (e : Int) (qv : Nat) (fd : Nat → Int32) (fr : Nat → Int32) (fo : Nat → Int32), t ≤ 17 → qv * 10 ^ t < 10 ^ 80 → ((e = 0 ∧ tstl P Sc m wide minus A Bn = none) ∨ (e = 1 ∧ tstl P Sc m wide minus A Bn = if tfit wide minus (qv * 10 ^ t) = true then some (qv * 10 ^ t) else none)) → TGo X [(h, .inr (4, fs)), (qnum, .inl (cI, 80, .inl (dg A))), (qbase, .inl (cI, 80, .inl (dg Bn))), (qden, .inl (cI, 80, .inl fd)), (qquo, .inl (cI, 80, .inl (dg qv))), (qrem, .inl (cI, 80, .inl fr)), (qother, .inl (cI, 80, .inl fo)), (qcurrency, .inl (cI, 8, .inl fc)), (qisWide, .inl (cZ, 8, .inl fw)), (qnegative, .inl (cZ, 8, .inl fn)), (qkept, .inl (cI, 320, .inl K))] 0 0 140 [(5, .int (iI ((t : Nat) : Int))), (6, .int (iI e)), (0, .ref h), (1, .int (iI ((ρ : Nat) : Int))), (2, .int (iI cu)), (3, .int (iI (bz wide))), (4, .int (iI (bz minus)))] [] := by
    intro t e qv fd fr fo ht hV hres
    refine go_aload_n O dX4_settle_140 rfl 2 rfl 141 rfl ?_
    refine go_get O hK dX4_settle_141 hinX4 0 rfl rfl 13 (by decide) flX4_38 f_quo 144 rfl ?_
    refine go_iload O dX4_settle_144 0 rfl 146 rfl ?_
    refine go_callvS (rest := []) (wr := [(h, .inr (4, fs)), (qnum, .inl (cI, 80, .inl (dg A))), (qbase, .inl (cI, 80, .inl (dg Bn))), (qden, .inl (cI, 80, .inl fd)), (qrem, .inl (cI, 80, .inl fr)), (qother, .inl (cI, 80, .inl fo)), (qcurrency, .inl (cI, 8, .inl fc)), (qisWide, .inl (cZ, 8, .inl fw)), (qnegative, .inl (cZ, 8, .inl fn)), (qkept, .inl (cI, 320, .inl K))]) O hK hE (c_X4_shift E hE qquo cI qv t (by omega)) mlX4_82 smX4_shift inX4 cdX4_shift 2 (by decide +kernel) ⟨Nat.le_of_ble_eq_true rfl, Nat.le_of_ble_eq_true rfl⟩ [0] rfl [4] rfl (by decide) [0, 1, 2, 3, 5, 6, 7, 8, 9, 10] rfl (by decide) (by decide) rfl rfl (Nat.le_of_ble_eq_true rfl) ⟨Nat.zero_le _, Nat.zero_le _⟩ dX4_settle_146 149 rfl (fun u hu => ?_)
    show TGo X [(h, .inr (4, fs)), (qnum, .inl (cI, 80, .inl (dg A))), (qbase, .inl (cI, 80, .inl (dg Bn))), (qden, .inl (cI, 80, .inl fd)), (qrem, .inl (cI, 80, .inl fr)), (qother, .inl (cI, 80, .inl fo)), (qcurrency, .inl (cI, 8, .inl fc)), (qisWide, .inl (cZ, 8, .inl fw)), (qnegative, .inl (cZ, 8, .inl fn)), (qkept, .inl (cI, 320, .inl K)), (qquo, .inl (cI, 80, .inl (dg (qv * 10 ^ t))))] 0 0 149 [(5, .int (iI ((t : Nat) : Int))), (6, .int (iI e)), (0, .ref h), (1, .int (iI ((ρ : Nat) : Int))), (2, .int (iI cu)), (3, .int (iI (bz wide))), (4, .int (iI (bz minus)))] []
    refine TGo.sub (ws' := [(h, .inr (4, fs)), (qnum, .inl (cI, 80, .inl (dg A))), (qbase, .inl (cI, 80, .inl (dg Bn))), (qden, .inl (cI, 80, .inl fd)), (qquo, .inl (cI, 80, .inl (dg (qv * 10 ^ t)))), (qrem, .inl (cI, 80, .inl fr)), (qother, .inl (cI, 80, .inl fo)), (qcurrency, .inl (cI, 8, .inl fc)), (qisWide, .inl (cZ, 8, .inl fw)), (qnegative, .inl (cZ, 8, .inl fn)), (qkept, .inl (cI, 320, .inl K))]) [0, 1, 2, 3, 10, 4, 5, 6, 7, 8, 9] (by decide) rfl ?_
    refine go_iload O dX4_settle_149 1 rfl 151 rfl ?_
    refine go_if_eq O dX4_settle_151 184 (by decide) 154 rfl (by omega) (fun h151 => ?_) (fun h151 => ?_)
    · have hno : tstl P Sc m wide minus A Bn = none := by
        rcases hres with ⟨e0, e1⟩ | ⟨e0, e1⟩
        · exact e1
        · omega
      refine go_bipush O dX4_settle_184 (by decide) 186 rfl ?_
      exact hret _ _ _ (fd, dg (qv * 10 ^ t), fr, fo, fc, fw, fn, K) dX4_settle_186 rfl ⟨by rw [hno]; rfl, by rw [hno]; exact hMR⟩
    · refine go_aload_n O dX4_settle_154 rfl 2 rfl 155 rfl ?_
      refine go_aload_n O dX4_settle_155 rfl 2 rfl 156 rfl ?_
      refine go_get O hK dX4_settle_156 hinX4 0 rfl rfl 13 (by decide) flX4_38 f_quo 159 rfl ?_
      refine go_iload_n O dX4_settle_159 rfl 5 rfl 160 rfl ?_
      refine go_iload O dX4_settle_160 6 rfl 162 rfl ?_
      refine go_calliV (As := [.ref qquo, .int (iI (bz wide)), .int (iI (bz minus))]) (rest := []) (wr := [(qnum, .inl (cI, 80, .inl (dg A))), (qbase, .inl (cI, 80, .inl (dg Bn))), (qden, .inl (cI, 80, .inl fd)), (qrem, .inl (cI, 80, .inl fr)), (qcurrency, .inl (cI, 8, .inl fc)), (qisWide, .inl (cZ, 8, .inl fw)), (qnegative, .inl (cZ, 8, .inl fn)), (qkept, .inl (cI, 320, .inl K))]) O hK hE (c_X4_fits E hE h fs f_other qquo cI (qv * 10 ^ t) fo wide minus hV) mlX4_115 imX4_fits seX4_fits inX4 cdX4_fits 3 (by decide +kernel) ⟨Nat.le_of_ble_eq_true rfl, Nat.le_of_ble_eq_true rfl⟩ 0 rfl rfl [0] rfl [0, 6, 4] rfl (by decide) [1, 2, 3, 5, 7, 8, 9, 10] rfl (by decide) (by decide) rfl rfl (Nat.le_of_ble_eq_true rfl) ⟨Nat.zero_le _, Nat.zero_le _⟩ dX4_settle_162 165 rfl (fun z u hu => ?_)
      subst hu
      obtain ⟨fo2, rfl⟩ : ∃ z, z = u := ⟨_, rfl⟩
      have hb01 := bz_01 (tfit wide minus (qv * 10 ^ t))
      show TGo X [(qnum, .inl (cI, 80, .inl (dg A))), (qbase, .inl (cI, 80, .inl (dg Bn))), (qden, .inl (cI, 80, .inl fd)), (qrem, .inl (cI, 80, .inl fr)), (qcurrency, .inl (cI, 8, .inl fc)), (qisWide, .inl (cZ, 8, .inl fw)), (qnegative, .inl (cZ, 8, .inl fn)), (qkept, .inl (cI, 320, .inl K)), (h, .inr (4, fs)), (qother, .inl (cI, 80, .inl fo2)), (qquo, .inl (cI, 80, .inl (dg (qv * 10 ^ t))))] 0 0 165 [(5, .int (iI ((t : Nat) : Int))), (6, .int (iI e)), (0, .ref h), (1, .int (iI ((ρ : Nat) : Int))), (2, .int (iI cu)), (3, .int (iI (bz wide))), (4, .int (iI (bz minus)))] [.int (iI (bz (tfit wide minus (qv * 10 ^ t))))]
      refine TGo.sub (ws' := [(h, .inr (4, fs)), (qnum, .inl (cI, 80, .inl (dg A))), (qbase, .inl (cI, 80, .inl (dg Bn))), (qden, .inl (cI, 80, .inl fd)), (qquo, .inl (cI, 80, .inl (dg (qv * 10 ^ t)))), (qrem, .inl (cI, 80, .inl fr)), (qother, .inl (cI, 80, .inl fo2)), (qcurrency, .inl (cI, 8, .inl fc)), (qisWide, .inl (cZ, 8, .inl fw)), (qnegative, .inl (cZ, 8, .inl fn)), (qkept, .inl (cI, 320, .inl K))]) [8, 0, 1, 2, 10, 3, 9, 4, 5, 6, 7] (by decide) rfl ?_
      refine go_if_eq O dX4_settle_165 184 (by decide) 168 rfl (bz_r _) (fun h165 => ?_) (fun h165 => ?_)
      · have hno : tstl P Sc m wide minus A Bn = none := by
          rcases hres with ⟨e0, e1⟩ | ⟨e0, e1⟩
          · exact e1
          · rw [e1, if_neg (fun z => by rw [z, bz_t] at h165; omega)]
        refine go_bipush O dX4_settle_184 (by decide) 186 rfl ?_
        exact hret _ _ _ (fd, dg (qv * 10 ^ t), fr, fo2, fc, fw, fn, K) dX4_settle_186 rfl ⟨by rw [hno]; rfl, by rw [hno]; exact hMR⟩
      · refine go_aload_n O dX4_settle_168 rfl 2 rfl 169 rfl ?_
        refine go_iload_n O dX4_settle_169 rfl 3 rfl 170 rfl ?_
        refine go_iload_n O dX4_settle_170 rfl 4 rfl 171 rfl ?_
        refine go_iload_n O dX4_settle_171 rfl 5 rfl 172 rfl ?_
        refine go_iload O dX4_settle_172 6 rfl 174 rfl ?_
        refine go_aload_n O dX4_settle_174 rfl 2 rfl 175 rfl ?_
        refine go_get O hK dX4_settle_175 hinX4 0 rfl rfl 13 (by decide) flX4_38 f_quo 178 rfl ?_
        refine go_calliV (As := [.int (iI ((ρ : Nat) : Int)), .int (iI cu), .int (iI (bz wide)), .int (iI (bz minus)), .ref qquo]) (rest := []) (wr := [(qnum, .inl (cI, 80, .inl (dg A))), (qbase, .inl (cI, 80, .inl (dg Bn))), (qden, .inl (cI, 80, .inl fd)), (qrem, .inl (cI, 80, .inl fr)), (qother, .inl (cI, 80, .inl fo2))]) O hK hE (c_X4_keep E hE h fs f_currency f_isWide f_negative f_kept qquo cI cZ ρ (qv * 10 ^ t) cu fc fw fn K reg wide minus hρ hcu (tfit_36 (bz_ne h165)) hMR) mlX4_119 imX4_keep seX4_keep inX4 cdX4_keep 5 (by decide +kernel) ⟨Nat.le_of_ble_eq_true rfl, Nat.le_of_ble_eq_true rfl⟩ 0 rfl rfl [0, 1] rfl [0, 7, 8, 9, 10, 4] rfl (by decide) [1, 2, 3, 5, 6] rfl (by decide) (by decide) rfl rfl (Nat.le_of_ble_eq_true rfl) ⟨Nat.zero_le _, Nat.zero_le _⟩ dX4_settle_178 181 rfl (fun z u hu => ?_)
        obtain ⟨fc2, fw2, fn2, K2⟩ := u
        obtain ⟨rfl, hMR2⟩ := hu
        have hyes : tstl P Sc m wide minus A Bn = some (qv * 10 ^ t) := by
          rcases hres with ⟨e0, e1⟩ | ⟨e0, e1⟩
          · omega
          · rw [e1, if_pos (bz_ne h165)]
        show TGo X [(qnum, .inl (cI, 80, .inl (dg A))), (qbase, .inl (cI, 80, .inl (dg Bn))), (qden, .inl (cI, 80, .inl fd)), (qrem, .inl (cI, 80, .inl fr)), (qother, .inl (cI, 80, .inl fo2)), (h, .inr (4, fs)), (qcurrency, .inl (cI, 8, .inl fc2)), (qisWide, .inl (cZ, 8, .inl fw2)), (qnegative, .inl (cZ, 8, .inl fn2)), (qkept, .inl (cI, 320, .inl K2)), (qquo, .inl (cI, 80, .inl (dg (qv * 10 ^ t))))] 0 0 181 [(5, .int (iI ((t : Nat) : Int))), (6, .int (iI e)), (0, .ref h), (1, .int (iI ((ρ : Nat) : Int))), (2, .int (iI cu)), (3, .int (iI (bz wide))), (4, .int (iI (bz minus)))] [.int (iI 0)]
        refine TGo.sub (ws' := [(h, .inr (4, fs)), (qnum, .inl (cI, 80, .inl (dg A))), (qbase, .inl (cI, 80, .inl (dg Bn))), (qden, .inl (cI, 80, .inl fd)), (qquo, .inl (cI, 80, .inl (dg (qv * 10 ^ t)))), (qrem, .inl (cI, 80, .inl fr)), (qother, .inl (cI, 80, .inl fo2)), (qcurrency, .inl (cI, 8, .inl fc2)), (qisWide, .inl (cZ, 8, .inl fw2)), (qnegative, .inl (cZ, 8, .inl fn2)), (qkept, .inl (cI, 320, .inl K2))]) [5, 0, 1, 2, 10, 3, 4, 6, 7, 8, 9] (by decide) rfl ?_
        refine go_goto O dX4_settle_181 186 (by decide) ?_
        exact hret _ _ _ (fd, dg (qv * 10 ^ t), fr, fo2, fc2, fw2, fn2, K2) dX4_settle_186 rfl ⟨by rw [hyes]; rfl, by rw [hyes]; exact hMR2⟩
  have m83 : ∀ (t : Nat) (fd fq fr fo : Nat → Int32), t ≤ 17 → (bz wide = 0 → t = 0) → (¬ bz wide = 0 → tnds (A / (Bn * 10 ^ 10)) ≤ 26 ∧ t = tstp P Sc (tnds (A / (Bn * 10 ^ 10)))) → TGo X [(h, .inr (4, fs)), (qnum, .inl (cI, 80, .inl (dg A))), (qbase, .inl (cI, 80, .inl (dg Bn))), (qden, .inl (cI, 80, .inl fd)), (qquo, .inl (cI, 80, .inl fq)), (qrem, .inl (cI, 80, .inl fr)), (qother, .inl (cI, 80, .inl fo)), (qcurrency, .inl (cI, 8, .inl fc)), (qisWide, .inl (cZ, 8, .inl fw)), (qnegative, .inl (cZ, 8, .inl fn)), (qkept, .inl (cI, 320, .inl K))] 0 0 83 [(5, .int (iI ((t : Nat) : Int))), (0, .ref h), (1, .int (iI ((ρ : Nat) : Int))), (2, .int (iI cu)), (3, .int (iI (bz wide))), (4, .int (iI (bz minus)))] [] := by
    intro t fd fq fr fo ht ht0 ht1
    have hRl : A % (Bn * 10 ^ t) < (Bn * 10 ^ t) := Nat.mod_lt _ (hden t ht).1
    have hRb : A % (Bn * 10 ^ t) < 10 ^ 80 := by have := (hden t ht).2; omega
    refine go_aload_n O dX4_settle_83 rfl 1 rfl 84 rfl ?_
    refine go_get O hK dX4_settle_84 hinX4 0 rfl rfl 11 (by decide) flX4_32 f_base 87 rfl ?_
    refine go_aload_n O dX4_settle_87 rfl 1 rfl 88 rfl ?_
    refine go_get O hK dX4_settle_88 hinX4 0 rfl rfl 12 (by decide) flX4_35 f_den 91 rfl ?_
    refine go_callvS (rest := []) (wr := [(h, .inr (4, fs)), (qnum, .inl (cI, 80, .inl (dg A))), (qquo, .inl (cI, 80, .inl fq)), (qrem, .inl (cI, 80, .inl fr)), (qother, .inl (cI, 80, .inl fo)), (qcurrency, .inl (cI, 8, .inl fc)), (qisWide, .inl (cZ, 8, .inl fw)), (qnegative, .inl (cZ, 8, .inl fn)), (qkept, .inl (cI, 320, .inl K))]) O hK hE (c_X4_copy E hE qbase qden cI (dg Bn) fd) mlX4_94 smX4_copy inX4 cdX4_copy 2 (by decide +kernel) ⟨Nat.le_of_ble_eq_true rfl, Nat.le_of_ble_eq_true rfl⟩ [0] rfl [2, 3] rfl (by decide) [0, 1, 4, 5, 6, 7, 8, 9, 10] rfl (by decide) (by decide) rfl rfl (Nat.le_of_ble_eq_true rfl) ⟨Nat.zero_le _, Nat.zero_le _⟩ dX4_settle_91 94 rfl (fun u hu => ?_)
    show TGo X [(h, .inr (4, fs)), (qnum, .inl (cI, 80, .inl (dg A))), (qquo, .inl (cI, 80, .inl fq)), (qrem, .inl (cI, 80, .inl fr)), (qother, .inl (cI, 80, .inl fo)), (qcurrency, .inl (cI, 8, .inl fc)), (qisWide, .inl (cZ, 8, .inl fw)), (qnegative, .inl (cZ, 8, .inl fn)), (qkept, .inl (cI, 320, .inl K)), (qbase, .inl (cI, 80, .inl (dg Bn))), (qden, .inl (cI, 80, .inl (dg Bn)))] 0 0 94 [(5, .int (iI ((t : Nat) : Int))), (0, .ref h), (1, .int (iI ((ρ : Nat) : Int))), (2, .int (iI cu)), (3, .int (iI (bz wide))), (4, .int (iI (bz minus)))] []
    refine TGo.sub (ws' := [(h, .inr (4, fs)), (qnum, .inl (cI, 80, .inl (dg A))), (qbase, .inl (cI, 80, .inl (dg Bn))), (qden, .inl (cI, 80, .inl (dg Bn))), (qquo, .inl (cI, 80, .inl fq)), (qrem, .inl (cI, 80, .inl fr)), (qother, .inl (cI, 80, .inl fo)), (qcurrency, .inl (cI, 8, .inl fc)), (qisWide, .inl (cZ, 8, .inl fw)), (qnegative, .inl (cZ, 8, .inl fn)), (qkept, .inl (cI, 320, .inl K))]) [0, 1, 9, 10, 2, 3, 4, 5, 6, 7, 8] (by decide) rfl ?_
    refine go_aload_n O dX4_settle_94 rfl 1 rfl 95 rfl ?_
    refine go_get O hK dX4_settle_95 hinX4 0 rfl rfl 12 (by decide) flX4_35 f_den 98 rfl ?_
    refine go_iload O dX4_settle_98 0 rfl 100 rfl ?_
    refine go_callvS (rest := []) (wr := [(h, .inr (4, fs)), (qnum, .inl (cI, 80, .inl (dg A))), (qbase, .inl (cI, 80, .inl (dg Bn))), (qquo, .inl (cI, 80, .inl fq)), (qrem, .inl (cI, 80, .inl fr)), (qother, .inl (cI, 80, .inl fo)), (qcurrency, .inl (cI, 8, .inl fc)), (qisWide, .inl (cZ, 8, .inl fw)), (qnegative, .inl (cZ, 8, .inl fn)), (qkept, .inl (cI, 320, .inl K))]) O hK hE (c_X4_shift E hE qden cI Bn t (by omega)) mlX4_82 smX4_shift inX4 cdX4_shift 2 (by decide +kernel) ⟨Nat.le_of_ble_eq_true rfl, Nat.le_of_ble_eq_true rfl⟩ [0] rfl [3] rfl (by decide) [0, 1, 2, 4, 5, 6, 7, 8, 9, 10] rfl (by decide) (by decide) rfl rfl (Nat.le_of_ble_eq_true rfl) ⟨Nat.zero_le _, Nat.zero_le _⟩ dX4_settle_100 103 rfl (fun u hu => ?_)
    show TGo X [(h, .inr (4, fs)), (qnum, .inl (cI, 80, .inl (dg A))), (qbase, .inl (cI, 80, .inl (dg Bn))), (qquo, .inl (cI, 80, .inl fq)), (qrem, .inl (cI, 80, .inl fr)), (qother, .inl (cI, 80, .inl fo)), (qcurrency, .inl (cI, 8, .inl fc)), (qisWide, .inl (cZ, 8, .inl fw)), (qnegative, .inl (cZ, 8, .inl fn)), (qkept, .inl (cI, 320, .inl K)), (qden, .inl (cI, 80, .inl (dg (Bn * 10 ^ t))))] 0 0 103 [(5, .int (iI ((t : Nat) : Int))), (0, .ref h), (1, .int (iI ((ρ : Nat) : Int))), (2, .int (iI cu)), (3, .int (iI (bz wide))), (4, .int (iI (bz minus)))] []
    refine TGo.sub (ws' := [(h, .inr (4, fs)), (qnum, .inl (cI, 80, .inl (dg A))), (qbase, .inl (cI, 80, .inl (dg Bn))), (qden, .inl (cI, 80, .inl (dg (Bn * 10 ^ t)))), (qquo, .inl (cI, 80, .inl fq)), (qrem, .inl (cI, 80, .inl fr)), (qother, .inl (cI, 80, .inl fo)), (qcurrency, .inl (cI, 8, .inl fc)), (qisWide, .inl (cZ, 8, .inl fw)), (qnegative, .inl (cZ, 8, .inl fn)), (qkept, .inl (cI, 320, .inl K))]) [0, 1, 2, 10, 3, 4, 5, 6, 7, 8, 9] (by decide) rfl ?_
    refine go_aload_n O dX4_settle_103 rfl 1 rfl 104 rfl ?_
    refine go_callvV (As := []) (rest := []) (wr := [(qbase, .inl (cI, 80, .inl (dg Bn))), (qother, .inl (cI, 80, .inl fo)), (qcurrency, .inl (cI, 8, .inl fc)), (qisWide, .inl (cZ, 8, .inl fw)), (qnegative, .inl (cZ, 8, .inl fn)), (qkept, .inl (cI, 320, .inl K))]) O hK hE (c_X4_quotient E hE h fs f_num f_den f_quo f_rem cI A (Bn * 10 ^ t) fq fr (by omega) (hden t ht).1 (by have := (hden t ht).2; omega)) mlX4_108 imX4_quotient seX4_quotient inX4 cdX4_quotient 0 (by decide +kernel) ⟨Nat.le_of_ble_eq_true rfl, Nat.le_of_ble_eq_true rfl⟩ 0 rfl rfl [0] rfl [0, 1, 3, 4, 5] rfl (by decide) [2, 6, 7, 8, 9, 10] rfl (by decide) (by decide) rfl rfl (Nat.le_of_ble_eq_true rfl) ⟨Nat.zero_le _, Nat.zero_le _⟩ dX4_settle_104 107 rfl (fun u hu => ?_)
    show TGo X [(qbase, .inl (cI, 80, .inl (dg Bn))), (qother, .inl (cI, 80, .inl fo)), (qcurrency, .inl (cI, 8, .inl fc)), (qisWide, .inl (cZ, 8, .inl fw)), (qnegative, .inl (cZ, 8, .inl fn)), (qkept, .inl (cI, 320, .inl K)), (h, .inr (4, fs)), (qnum, .inl (cI, 80, .inl (dg A))), (qden, .inl (cI, 80, .inl (dg (Bn * 10 ^ t)))), (qquo, .inl (cI, 80, .inl (dg (A / (Bn * 10 ^ t))))), (qrem, .inl (cI, 80, .inl (dg (A % (Bn * 10 ^ t)))))] 0 0 107 [(5, .int (iI ((t : Nat) : Int))), (0, .ref h), (1, .int (iI ((ρ : Nat) : Int))), (2, .int (iI cu)), (3, .int (iI (bz wide))), (4, .int (iI (bz minus)))] []
    refine TGo.sub (ws' := [(h, .inr (4, fs)), (qnum, .inl (cI, 80, .inl (dg A))), (qbase, .inl (cI, 80, .inl (dg Bn))), (qden, .inl (cI, 80, .inl (dg (Bn * 10 ^ t)))), (qquo, .inl (cI, 80, .inl (dg (A / (Bn * 10 ^ t))))), (qrem, .inl (cI, 80, .inl (dg (A % (Bn * 10 ^ t))))), (qother, .inl (cI, 80, .inl fo)), (qcurrency, .inl (cI, 8, .inl fc)), (qisWide, .inl (cZ, 8, .inl fw)), (qnegative, .inl (cZ, 8, .inl fn)), (qkept, .inl (cI, 320, .inl K))]) [6, 7, 0, 8, 9, 10, 1, 2, 3, 4, 5] (by decide) rfl ?_
    refine go_aload_n O dX4_settle_107 rfl 1 rfl 108 rfl ?_
    refine go_get O hK dX4_settle_108 hinX4 0 rfl rfl 14 (by decide) flX4_41 f_rem 111 rfl ?_
    refine go_calliS (rest := []) (wr := [(h, .inr (4, fs)), (qnum, .inl (cI, 80, .inl (dg A))), (qbase, .inl (cI, 80, .inl (dg Bn))), (qden, .inl (cI, 80, .inl (dg (Bn * 10 ^ t)))), (qquo, .inl (cI, 80, .inl (dg (A / (Bn * 10 ^ t))))), (qother, .inl (cI, 80, .inl fo)), (qcurrency, .inl (cI, 8, .inl fc)), (qisWide, .inl (cZ, 8, .inl fw)), (qnegative, .inl (cZ, 8, .inl fn)), (qkept, .inl (cI, 320, .inl K))]) O hK hE (c_X4_size E hE qrem cI (A % (Bn * 10 ^ t)) hRb) mlX4_78 smX4_size inX4 cdX4_size 1 (by decide +kernel) ⟨Nat.le_of_ble_eq_true rfl, Nat.le_of_ble_eq_true rfl⟩ [0] rfl [5] rfl (by decide) [0, 1, 2, 3, 4, 6, 7, 8, 9, 10] rfl (by decide) (by decide) rfl rfl (Nat.le_of_ble_eq_true rfl) ⟨Nat.zero_le _, Nat.zero_le _⟩ dX4_settle_111 114 rfl (fun z u hu => ?_)
    subst hu
    have t0 := tnds_0iff (N := A % (Bn * 10 ^ t))
    have t1 := tnds_mono (N := A % (Bn * 10 ^ t)) (e := 80) hRb
    show TGo X [(h, .inr (4, fs)), (qnum, .inl (cI, 80, .inl (dg A))), (qbase, .inl (cI, 80, .inl (dg Bn))), (qden, .inl (cI, 80, .inl (dg (Bn * 10 ^ t)))), (qquo, .inl (cI, 80, .inl (dg (A / (Bn * 10 ^ t))))), (qother, .inl (cI, 80, .inl fo)), (qcurrency, .inl (cI, 8, .inl fc)), (qisWide, .inl (cZ, 8, .inl fw)), (qnegative, .inl (cZ, 8, .inl fn)), (qkept, .inl (cI, 320, .inl K)), (qrem, .inl (cI, 80, .inl (dg (A % (Bn * 10 ^ t)))))] 0 0 114 [(5, .int (iI ((t : Nat) : Int))), (0, .ref h), (1, .int (iI ((ρ : Nat) : Int))), (2, .int (iI cu)), (3, .int (iI (bz wide))), (4, .int (iI (bz minus)))] [.int (iI ((tnds (A % (Bn * 10 ^ t)) : Nat) : Int))]
    refine TGo.sub (ws' := [(h, .inr (4, fs)), (qnum, .inl (cI, 80, .inl (dg A))), (qbase, .inl (cI, 80, .inl (dg Bn))), (qden, .inl (cI, 80, .inl (dg (Bn * 10 ^ t)))), (qquo, .inl (cI, 80, .inl (dg (A / (Bn * 10 ^ t))))), (qrem, .inl (cI, 80, .inl (dg (A % (Bn * 10 ^ t))))), (qother, .inl (cI, 80, .inl fo)), (qcurrency, .inl (cI, 8, .inl fc)), (qisWide, .inl (cZ, 8, .inl fw)), (qnegative, .inl (cZ, 8, .inl fn)), (qkept, .inl (cI, 320, .inl K))]) [0, 1, 2, 3, 4, 10, 5, 6, 7, 8, 9] (by decide) rfl ?_
    refine go_if_ne O dX4_settle_114 121 (by decide) 117 rfl (by omega) (fun h114 => ?_) (fun h114 => ?_)
    · refine go_iconst O dX4_settle_121 122 rfl ?_
      refine go_istore O dX4_settle_122 (by decide) [(6, .int (iI 0)), (5, .int (iI ((t : Nat) : Int))), (0, .ref h), (1, .int (iI ((ρ : Nat) : Int))), (2, .int (iI cu)), (3, .int (iI (bz wide))), (4, .int (iI (bz minus)))] rfl 124 rfl ?_
      refine go_iload_n O dX4_settle_124 rfl 5 rfl 125 rfl ?_
      refine go_if_eq O dX4_settle_125 140 (by decide) 128 rfl (bz_r _) (fun h125 => ?_) (fun h125 => ?_)
      · refine TGo.lsub (lv' := [(5, .int (iI ((t : Nat) : Int))), (6, .int (iI 0)), (0, .ref h), (1, .int (iI ((ρ : Nat) : Int))), (2, .int (iI cu)), (3, .int (iI (bz wide))), (4, .int (iI (bz minus)))]) [1, 0, 2, 3, 4, 5, 6] rfl ?_
        exact m140 t _ _ _ _ _ ht (tq_bd0 hA) (Or.inl ⟨rfl, tstl_f0 h125 (ht0 h125) (by omega)⟩)
      · refine go_aload_n O dX4_settle_128 rfl 2 rfl 129 rfl ?_
        refine go_iload O dX4_settle_129 6 rfl 131 rfl ?_
        refine go_aload_n O dX4_settle_131 rfl 2 rfl 132 rfl ?_
        refine go_get O hK dX4_settle_132 hinX4 0 rfl rfl 2 (by decide) flX4_69 f_m 135 rfl ?_
        refine go_calliV (As := [.int (iI (bz minus)), .int (iI m)]) (rest := []) (wr := [(qnum, .inl (cI, 80, .inl (dg A))), (qbase, .inl (cI, 80, .inl (dg Bn))), (qcurrency, .inl (cI, 8, .inl fc)), (qisWide, .inl (cZ, 8, .inl fw)), (qnegative, .inl (cZ, 8, .inl fn)), (qkept, .inl (cI, 320, .inl K))]) O hK hE (c_X4_rounds E hE h fs f_den f_quo f_rem f_other cI (A / (Bn * 10 ^ t)) (A % (Bn * 10 ^ t)) (Bn * 10 ^ t) fo minus m (by omega) hRb (by have := (hden t ht).2; omega) (by have := (hden t ht).2; omega)) mlX4_111 imX4_rounds seX4_rounds inX4 cdX4_rounds 2 (by decide +kernel) ⟨Nat.le_of_ble_eq_true rfl, Nat.le_of_ble_eq_true rfl⟩ 0 rfl rfl [0] rfl [0, 3, 4, 5, 6] rfl (by decide) [1, 2, 7, 8, 9, 10] rfl (by decide) (by decide) rfl rfl (Nat.le_of_ble_eq_true rfl) ⟨Nat.zero_le _, Nat.zero_le _⟩ dX4_settle_135 138 rfl (fun z u hu => ?_)
        obtain ⟨fo3, rfl⟩ : ∃ z, z = u := ⟨_, rfl⟩
        rw [if_pos (Or.inr (by omega))] at hu
        subst hu
        show TGo X [(qnum, .inl (cI, 80, .inl (dg A))), (qbase, .inl (cI, 80, .inl (dg Bn))), (qcurrency, .inl (cI, 8, .inl fc)), (qisWide, .inl (cZ, 8, .inl fw)), (qnegative, .inl (cZ, 8, .inl fn)), (qkept, .inl (cI, 320, .inl K)), (h, .inr (4, fs)), (qden, .inl (cI, 80, .inl (dg (Bn * 10 ^ t)))), (qquo, .inl (cI, 80, .inl (dg (trnd m minus (A / (Bn * 10 ^ t)) (A % (Bn * 10 ^ t)) (Bn * 10 ^ t))))), (qrem, .inl (cI, 80, .inl (dg (A % (Bn * 10 ^ t))))), (qother, .inl (cI, 80, .inl fo3))] 0 0 138 [(6, .int (iI 0)), (5, .int (iI ((t : Nat) : Int))), (0, .ref h), (1, .int (iI ((ρ : Nat) : Int))), (2, .int (iI cu)), (3, .int (iI (bz wide))), (4, .int (iI (bz minus)))] [.int (iI 1)]
        refine TGo.sub (ws' := [(h, .inr (4, fs)), (qnum, .inl (cI, 80, .inl (dg A))), (qbase, .inl (cI, 80, .inl (dg Bn))), (qden, .inl (cI, 80, .inl (dg (Bn * 10 ^ t)))), (qquo, .inl (cI, 80, .inl (dg (trnd m minus (A / (Bn * 10 ^ t)) (A % (Bn * 10 ^ t)) (Bn * 10 ^ t))))), (qrem, .inl (cI, 80, .inl (dg (A % (Bn * 10 ^ t))))), (qother, .inl (cI, 80, .inl fo3)), (qcurrency, .inl (cI, 8, .inl fc)), (qisWide, .inl (cZ, 8, .inl fw)), (qnegative, .inl (cZ, 8, .inl fn)), (qkept, .inl (cI, 320, .inl K))]) [6, 0, 1, 7, 8, 9, 10, 2, 3, 4, 5] (by decide) rfl ?_
        refine go_istore O dX4_settle_138 (by decide) [(6, .int (iI 1)), (5, .int (iI ((t : Nat) : Int))), (0, .ref h), (1, .int (iI ((ρ : Nat) : Int))), (2, .int (iI cu)), (3, .int (iI (bz wide))), (4, .int (iI (bz minus)))] rfl 140 rfl ?_
        refine TGo.lsub (lv' := [(5, .int (iI ((t : Nat) : Int))), (6, .int (iI 1)), (0, .ref h), (1, .int (iI ((ρ : Nat) : Int))), (2, .int (iI cu)), (3, .int (iI (bz wide))), (4, .int (iI (bz minus)))]) [1, 0, 2, 3, 4, 5, 6] rfl ?_
        exact m140 t _ _ _ _ _ ht (tq_bd hA ht) (Or.inr ⟨rfl, tstl_w h125 (ht1 h125).1 (ht1 h125).2⟩)
    · refine go_iconst O dX4_settle_117 118 rfl ?_
      refine go_goto O dX4_settle_118 122 (by decide) ?_
      refine go_istore O dX4_settle_122 (by decide) [(6, .int (iI 1)), (5, .int (iI ((t : Nat) : Int))), (0, .ref h), (1, .int (iI ((ρ : Nat) : Int))), (2, .int (iI cu)), (3, .int (iI (bz wide))), (4, .int (iI (bz minus)))] rfl 124 rfl ?_
      refine go_iload_n O dX4_settle_124 rfl 5 rfl 125 rfl ?_
      refine go_if_eq O dX4_settle_125 140 (by decide) 128 rfl (bz_r _) (fun h125 => ?_) (fun h125 => ?_)
      · refine TGo.lsub (lv' := [(5, .int (iI ((t : Nat) : Int))), (6, .int (iI 1)), (0, .ref h), (1, .int (iI ((ρ : Nat) : Int))), (2, .int (iI cu)), (3, .int (iI (bz wide))), (4, .int (iI (bz minus)))]) [1, 0, 2, 3, 4, 5, 6] rfl ?_
        exact m140 t _ _ _ _ _ ht (tq_bd0 hA) (Or.inr ⟨rfl, tstl_f1 h125 (ht0 h125) (by omega)⟩)
      · refine go_aload_n O dX4_settle_128 rfl 2 rfl 129 rfl ?_
        refine go_iload O dX4_settle_129 6 rfl 131 rfl ?_
        refine go_aload_n O dX4_settle_131 rfl 2 rfl 132 rfl ?_
        refine go_get O hK dX4_settle_132 hinX4 0 rfl rfl 2 (by decide) flX4_69 f_m 135 rfl ?_
        refine go_calliV (As := [.int (iI (bz minus)), .int (iI m)]) (rest := []) (wr := [(qnum, .inl (cI, 80, .inl (dg A))), (qbase, .inl (cI, 80, .inl (dg Bn))), (qcurrency, .inl (cI, 8, .inl fc)), (qisWide, .inl (cZ, 8, .inl fw)), (qnegative, .inl (cZ, 8, .inl fn)), (qkept, .inl (cI, 320, .inl K))]) O hK hE (c_X4_rounds E hE h fs f_den f_quo f_rem f_other cI (A / (Bn * 10 ^ t)) (A % (Bn * 10 ^ t)) (Bn * 10 ^ t) fo minus m (by omega) hRb (by have := (hden t ht).2; omega) (by have := (hden t ht).2; omega)) mlX4_111 imX4_rounds seX4_rounds inX4 cdX4_rounds 2 (by decide +kernel) ⟨Nat.le_of_ble_eq_true rfl, Nat.le_of_ble_eq_true rfl⟩ 0 rfl rfl [0] rfl [0, 3, 4, 5, 6] rfl (by decide) [1, 2, 7, 8, 9, 10] rfl (by decide) (by decide) rfl rfl (Nat.le_of_ble_eq_true rfl) ⟨Nat.zero_le _, Nat.zero_le _⟩ dX4_settle_135 138 rfl (fun z u hu => ?_)
        obtain ⟨fo3, rfl⟩ : ∃ z, z = u := ⟨_, rfl⟩
        rw [if_pos (Or.inr (by omega))] at hu
        subst hu
        show TGo X [(qnum, .inl (cI, 80, .inl (dg A))), (qbase, .inl (cI, 80, .inl (dg Bn))), (qcurrency, .inl (cI, 8, .inl fc)), (qisWide, .inl (cZ, 8, .inl fw)), (qnegative, .inl (cZ, 8, .inl fn)), (qkept, .inl (cI, 320, .inl K)), (h, .inr (4, fs)), (qden, .inl (cI, 80, .inl (dg (Bn * 10 ^ t)))), (qquo, .inl (cI, 80, .inl (dg (trnd m minus (A / (Bn * 10 ^ t)) (A % (Bn * 10 ^ t)) (Bn * 10 ^ t))))), (qrem, .inl (cI, 80, .inl (dg (A % (Bn * 10 ^ t))))), (qother, .inl (cI, 80, .inl fo3))] 0 0 138 [(6, .int (iI 1)), (5, .int (iI ((t : Nat) : Int))), (0, .ref h), (1, .int (iI ((ρ : Nat) : Int))), (2, .int (iI cu)), (3, .int (iI (bz wide))), (4, .int (iI (bz minus)))] [.int (iI 1)]
        refine TGo.sub (ws' := [(h, .inr (4, fs)), (qnum, .inl (cI, 80, .inl (dg A))), (qbase, .inl (cI, 80, .inl (dg Bn))), (qden, .inl (cI, 80, .inl (dg (Bn * 10 ^ t)))), (qquo, .inl (cI, 80, .inl (dg (trnd m minus (A / (Bn * 10 ^ t)) (A % (Bn * 10 ^ t)) (Bn * 10 ^ t))))), (qrem, .inl (cI, 80, .inl (dg (A % (Bn * 10 ^ t))))), (qother, .inl (cI, 80, .inl fo3)), (qcurrency, .inl (cI, 8, .inl fc)), (qisWide, .inl (cZ, 8, .inl fw)), (qnegative, .inl (cZ, 8, .inl fn)), (qkept, .inl (cI, 320, .inl K))]) [6, 0, 1, 7, 8, 9, 10, 2, 3, 4, 5] (by decide) rfl ?_
        refine go_istore O dX4_settle_138 (by decide) [(6, .int (iI 1)), (5, .int (iI ((t : Nat) : Int))), (0, .ref h), (1, .int (iI ((ρ : Nat) : Int))), (2, .int (iI cu)), (3, .int (iI (bz wide))), (4, .int (iI (bz minus)))] rfl 140 rfl ?_
        refine TGo.lsub (lv' := [(5, .int (iI ((t : Nat) : Int))), (6, .int (iI 1)), (0, .ref h), (1, .int (iI ((ρ : Nat) : Int))), (2, .int (iI cu)), (3, .int (iI (bz wide))), (4, .int (iI (bz minus)))]) [1, 0, 2, 3, 4, 5, 6] rfl ?_
        exact m140 t _ _ _ _ _ ht (tq_bd hA ht) (Or.inr ⟨rfl, tstl_w h125 (ht1 h125).1 (ht1 h125).2⟩)
  have hQb : A / (Bn * 10 ^ 10) < 10 ^ 80 := Nat.lt_of_le_of_lt (Nat.div_le_self _ _) (by omega)
  refine go_iconst O dX4_settle_0 1 rfl ?_
  refine go_istore O dX4_settle_1 (by decide) [(5, .int (iI 0)), (0, .ref h), (1, .int (iI ((ρ : Nat) : Int))), (2, .int (iI cu)), (3, .int (iI (bz wide))), (4, .int (iI (bz minus)))] rfl 3 rfl ?_
  refine go_iload_n O dX4_settle_3 rfl 4 rfl 4 rfl ?_
  refine go_if_eq O dX4_settle_4 83 (by decide) 7 rfl (bz_r _) (fun h4 => ?_) (fun h4 => ?_)
  · refine TGo.lsub (lv' := [(5, .int (iI 0)), (0, .ref h), (1, .int (iI ((ρ : Nat) : Int))), (2, .int (iI cu)), (3, .int (iI (bz wide))), (4, .int (iI (bz minus)))]) [0, 1, 2, 3, 4, 5] rfl ?_
    exact m83 0 _ _ _ _ (by omega) (fun _ => rfl) (fun z => absurd h4 z)
  · refine go_aload_n O dX4_settle_7 rfl 1 rfl 8 rfl ?_
    refine go_get O hK dX4_settle_8 hinX4 0 rfl rfl 11 (by decide) flX4_32 f_base 11 rfl ?_
    refine go_aload_n O dX4_settle_11 rfl 1 rfl 12 rfl ?_
    refine go_get O hK dX4_settle_12 hinX4 0 rfl rfl 12 (by decide) flX4_35 f_den 15 rfl ?_
    refine go_callvS (rest := []) (wr := [(h, .inr (4, fs)), (qnum, .inl (cI, 80, .inl (dg A))), (qquo, .inl (cI, 80, .inl fq)), (qrem, .inl (cI, 80, .inl fr)), (qother, .inl (cI, 80, .inl fo)), (qcurrency, .inl (cI, 8, .inl fc)), (qisWide, .inl (cZ, 8, .inl fw)), (qnegative, .inl (cZ, 8, .inl fn)), (qkept, .inl (cI, 320, .inl K))]) O hK hE (c_X4_copy E hE qbase qden cI (dg Bn) fd) mlX4_94 smX4_copy inX4 cdX4_copy 2 (by decide +kernel) ⟨Nat.le_of_ble_eq_true rfl, Nat.le_of_ble_eq_true rfl⟩ [0] rfl [2, 3] rfl (by decide) [0, 1, 4, 5, 6, 7, 8, 9, 10] rfl (by decide) (by decide) rfl rfl (Nat.le_of_ble_eq_true rfl) ⟨Nat.zero_le _, Nat.zero_le _⟩ dX4_settle_15 18 rfl (fun u hu => ?_)
    show TGo X [(h, .inr (4, fs)), (qnum, .inl (cI, 80, .inl (dg A))), (qquo, .inl (cI, 80, .inl fq)), (qrem, .inl (cI, 80, .inl fr)), (qother, .inl (cI, 80, .inl fo)), (qcurrency, .inl (cI, 8, .inl fc)), (qisWide, .inl (cZ, 8, .inl fw)), (qnegative, .inl (cZ, 8, .inl fn)), (qkept, .inl (cI, 320, .inl K)), (qbase, .inl (cI, 80, .inl (dg Bn))), (qden, .inl (cI, 80, .inl (dg Bn)))] 0 0 18 [(5, .int (iI 0)), (0, .ref h), (1, .int (iI ((ρ : Nat) : Int))), (2, .int (iI cu)), (3, .int (iI (bz wide))), (4, .int (iI (bz minus)))] []
    refine TGo.sub (ws' := [(h, .inr (4, fs)), (qnum, .inl (cI, 80, .inl (dg A))), (qbase, .inl (cI, 80, .inl (dg Bn))), (qden, .inl (cI, 80, .inl (dg Bn))), (qquo, .inl (cI, 80, .inl fq)), (qrem, .inl (cI, 80, .inl fr)), (qother, .inl (cI, 80, .inl fo)), (qcurrency, .inl (cI, 8, .inl fc)), (qisWide, .inl (cZ, 8, .inl fw)), (qnegative, .inl (cZ, 8, .inl fn)), (qkept, .inl (cI, 320, .inl K))]) [0, 1, 9, 10, 2, 3, 4, 5, 6, 7, 8] (by decide) rfl ?_
    refine go_aload_n O dX4_settle_18 rfl 1 rfl 19 rfl ?_
    refine go_get O hK dX4_settle_19 hinX4 0 rfl rfl 12 (by decide) flX4_35 f_den 22 rfl ?_
    refine go_bipush O dX4_settle_22 (by decide) 24 rfl ?_
    refine go_callvS (rest := []) (wr := [(h, .inr (4, fs)), (qnum, .inl (cI, 80, .inl (dg A))), (qbase, .inl (cI, 80, .inl (dg Bn))), (qquo, .inl (cI, 80, .inl fq)), (qrem, .inl (cI, 80, .inl fr)), (qother, .inl (cI, 80, .inl fo)), (qcurrency, .inl (cI, 8, .inl fc)), (qisWide, .inl (cZ, 8, .inl fw)), (qnegative, .inl (cZ, 8, .inl fn)), (qkept, .inl (cI, 320, .inl K))]) O hK hE (c_X4_shift E hE qden cI Bn 10 (by omega)) mlX4_82 smX4_shift inX4 cdX4_shift 2 (by decide +kernel) ⟨Nat.le_of_ble_eq_true rfl, Nat.le_of_ble_eq_true rfl⟩ [0] rfl [3] rfl (by decide) [0, 1, 2, 4, 5, 6, 7, 8, 9, 10] rfl (by decide) (by decide) rfl rfl (Nat.le_of_ble_eq_true rfl) ⟨Nat.zero_le _, Nat.zero_le _⟩ dX4_settle_24 27 rfl (fun u hu => ?_)
    show TGo X [(h, .inr (4, fs)), (qnum, .inl (cI, 80, .inl (dg A))), (qbase, .inl (cI, 80, .inl (dg Bn))), (qquo, .inl (cI, 80, .inl fq)), (qrem, .inl (cI, 80, .inl fr)), (qother, .inl (cI, 80, .inl fo)), (qcurrency, .inl (cI, 8, .inl fc)), (qisWide, .inl (cZ, 8, .inl fw)), (qnegative, .inl (cZ, 8, .inl fn)), (qkept, .inl (cI, 320, .inl K)), (qden, .inl (cI, 80, .inl (dg (Bn * 10 ^ 10))))] 0 0 27 [(5, .int (iI 0)), (0, .ref h), (1, .int (iI ((ρ : Nat) : Int))), (2, .int (iI cu)), (3, .int (iI (bz wide))), (4, .int (iI (bz minus)))] []
    refine TGo.sub (ws' := [(h, .inr (4, fs)), (qnum, .inl (cI, 80, .inl (dg A))), (qbase, .inl (cI, 80, .inl (dg Bn))), (qden, .inl (cI, 80, .inl (dg (Bn * 10 ^ 10)))), (qquo, .inl (cI, 80, .inl fq)), (qrem, .inl (cI, 80, .inl fr)), (qother, .inl (cI, 80, .inl fo)), (qcurrency, .inl (cI, 8, .inl fc)), (qisWide, .inl (cZ, 8, .inl fw)), (qnegative, .inl (cZ, 8, .inl fn)), (qkept, .inl (cI, 320, .inl K))]) [0, 1, 2, 10, 3, 4, 5, 6, 7, 8, 9] (by decide) rfl ?_
    refine go_aload_n O dX4_settle_27 rfl 1 rfl 28 rfl ?_
    refine go_callvV (As := []) (rest := []) (wr := [(qbase, .inl (cI, 80, .inl (dg Bn))), (qother, .inl (cI, 80, .inl fo)), (qcurrency, .inl (cI, 8, .inl fc)), (qisWide, .inl (cZ, 8, .inl fw)), (qnegative, .inl (cZ, 8, .inl fn)), (qkept, .inl (cI, 320, .inl K))]) O hK hE (c_X4_quotient E hE h fs f_num f_den f_quo f_rem cI A (Bn * 10 ^ 10) fq fr (by omega) (hden 10 (by omega)).1 (by have := (hden 10 (by omega)).2; omega)) mlX4_108 imX4_quotient seX4_quotient inX4 cdX4_quotient 0 (by decide +kernel) ⟨Nat.le_of_ble_eq_true rfl, Nat.le_of_ble_eq_true rfl⟩ 0 rfl rfl [0] rfl [0, 1, 3, 4, 5] rfl (by decide) [2, 6, 7, 8, 9, 10] rfl (by decide) (by decide) rfl rfl (Nat.le_of_ble_eq_true rfl) ⟨Nat.zero_le _, Nat.zero_le _⟩ dX4_settle_28 31 rfl (fun u hu => ?_)
    show TGo X [(qbase, .inl (cI, 80, .inl (dg Bn))), (qother, .inl (cI, 80, .inl fo)), (qcurrency, .inl (cI, 8, .inl fc)), (qisWide, .inl (cZ, 8, .inl fw)), (qnegative, .inl (cZ, 8, .inl fn)), (qkept, .inl (cI, 320, .inl K)), (h, .inr (4, fs)), (qnum, .inl (cI, 80, .inl (dg A))), (qden, .inl (cI, 80, .inl (dg (Bn * 10 ^ 10)))), (qquo, .inl (cI, 80, .inl (dg (A / (Bn * 10 ^ 10))))), (qrem, .inl (cI, 80, .inl (dg (A % (Bn * 10 ^ 10)))))] 0 0 31 [(5, .int (iI 0)), (0, .ref h), (1, .int (iI ((ρ : Nat) : Int))), (2, .int (iI cu)), (3, .int (iI (bz wide))), (4, .int (iI (bz minus)))] []
    refine TGo.sub (ws' := [(h, .inr (4, fs)), (qnum, .inl (cI, 80, .inl (dg A))), (qbase, .inl (cI, 80, .inl (dg Bn))), (qden, .inl (cI, 80, .inl (dg (Bn * 10 ^ 10)))), (qquo, .inl (cI, 80, .inl (dg (A / (Bn * 10 ^ 10))))), (qrem, .inl (cI, 80, .inl (dg (A % (Bn * 10 ^ 10))))), (qother, .inl (cI, 80, .inl fo)), (qcurrency, .inl (cI, 8, .inl fc)), (qisWide, .inl (cZ, 8, .inl fw)), (qnegative, .inl (cZ, 8, .inl fn)), (qkept, .inl (cI, 320, .inl K))]) [6, 7, 0, 8, 9, 10, 1, 2, 3, 4, 5] (by decide) rfl ?_
    refine go_aload_n O dX4_settle_31 rfl 1 rfl 32 rfl ?_
    refine go_get O hK dX4_settle_32 hinX4 0 rfl rfl 13 (by decide) flX4_38 f_quo 35 rfl ?_
    refine go_calliS (rest := []) (wr := [(h, .inr (4, fs)), (qnum, .inl (cI, 80, .inl (dg A))), (qbase, .inl (cI, 80, .inl (dg Bn))), (qden, .inl (cI, 80, .inl (dg (Bn * 10 ^ 10)))), (qrem, .inl (cI, 80, .inl (dg (A % (Bn * 10 ^ 10))))), (qother, .inl (cI, 80, .inl fo)), (qcurrency, .inl (cI, 8, .inl fc)), (qisWide, .inl (cZ, 8, .inl fw)), (qnegative, .inl (cZ, 8, .inl fn)), (qkept, .inl (cI, 320, .inl K))]) O hK hE (c_X4_size E hE qquo cI (A / (Bn * 10 ^ 10)) hQb) mlX4_78 smX4_size inX4 cdX4_size 1 (by decide +kernel) ⟨Nat.le_of_ble_eq_true rfl, Nat.le_of_ble_eq_true rfl⟩ [0] rfl [4] rfl (by decide) [0, 1, 2, 3, 5, 6, 7, 8, 9, 10] rfl (by decide) (by decide) rfl rfl (Nat.le_of_ble_eq_true rfl) ⟨Nat.zero_le _, Nat.zero_le _⟩ dX4_settle_35 38 rfl (fun z u hu => ?_)
    subst hu
    have t1 := tnds_mono (N := A / (Bn * 10 ^ 10)) (e := 80) hQb
    show TGo X [(h, .inr (4, fs)), (qnum, .inl (cI, 80, .inl (dg A))), (qbase, .inl (cI, 80, .inl (dg Bn))), (qden, .inl (cI, 80, .inl (dg (Bn * 10 ^ 10)))), (qrem, .inl (cI, 80, .inl (dg (A % (Bn * 10 ^ 10))))), (qother, .inl (cI, 80, .inl fo)), (qcurrency, .inl (cI, 8, .inl fc)), (qisWide, .inl (cZ, 8, .inl fw)), (qnegative, .inl (cZ, 8, .inl fn)), (qkept, .inl (cI, 320, .inl K)), (qquo, .inl (cI, 80, .inl (dg (A / (Bn * 10 ^ 10)))))] 0 0 38 [(5, .int (iI 0)), (0, .ref h), (1, .int (iI ((ρ : Nat) : Int))), (2, .int (iI cu)), (3, .int (iI (bz wide))), (4, .int (iI (bz minus)))] [.int (iI ((tnds (A / (Bn * 10 ^ 10)) : Nat) : Int))]
    refine TGo.sub (ws' := [(h, .inr (4, fs)), (qnum, .inl (cI, 80, .inl (dg A))), (qbase, .inl (cI, 80, .inl (dg Bn))), (qden, .inl (cI, 80, .inl (dg (Bn * 10 ^ 10)))), (qquo, .inl (cI, 80, .inl (dg (A / (Bn * 10 ^ 10))))), (qrem, .inl (cI, 80, .inl (dg (A % (Bn * 10 ^ 10))))), (qother, .inl (cI, 80, .inl fo)), (qcurrency, .inl (cI, 8, .inl fc)), (qisWide, .inl (cZ, 8, .inl fw)), (qnegative, .inl (cZ, 8, .inl fn)), (qkept, .inl (cI, 320, .inl K))]) [0, 1, 2, 3, 10, 4, 5, 6, 7, 8, 9] (by decide) rfl ?_
    refine go_istore O dX4_settle_38 (by decide) [(6, .int (iI ((tnds (A / (Bn * 10 ^ 10)) : Nat) : Int))), (5, .int (iI 0)), (0, .ref h), (1, .int (iI ((ρ : Nat) : Int))), (2, .int (iI cu)), (3, .int (iI (bz wide))), (4, .int (iI (bz minus)))] rfl 40 rfl ?_
    refine go_iload O dX4_settle_40 0 rfl 42 rfl ?_
    refine go_bipush O dX4_settle_42 (by decide) 44 rfl ?_
    refine go_icmp_le O dX4_settle_44 50 (by decide) 47 rfl (by omega) (by omega) (fun h44 => ?_) (fun h44 => ?_)
    · refine go_bipush O dX4_settle_50 (by decide) 52 rfl ?_
      refine go_aload_n O dX4_settle_52 rfl 2 rfl 53 rfl ?_
      refine go_get O hK dX4_settle_53 hinX4 0 rfl rfl 1 (by decide) flX4_66 f_s 56 rfl ?_
      refine go_aload_n O dX4_settle_56 rfl 2 rfl 57 rfl ?_
      refine go_get O hK dX4_settle_57 hinX4 0 rfl rfl 0 (by decide) flX4_62 f_p 60 rfl ?_
      refine go_iload O dX4_settle_60 0 rfl 62 rfl ?_
      refine go_isub O dX4_settle_62 (p - ((tnds (A / (Bn * 10 ^ 10)) : Nat) : Int)) rfl 63 rfl ?_
      refine go_icmp_ge O dX4_settle_63 73 (by decide) 66 rfl (by omega) (by omega) (fun h63 => ?_) (fun h63 => ?_)
      · refine go_aload_n O dX4_settle_73 rfl 2 rfl 74 rfl ?_
        refine go_get O hK dX4_settle_74 hinX4 0 rfl rfl 0 (by decide) flX4_62 f_p 77 rfl ?_
        refine go_iload O dX4_settle_77 0 rfl 79 rfl ?_
        refine go_isub O dX4_settle_79 (p - ((tnds (A / (Bn * 10 ^ 10)) : Nat) : Int)) rfl 80 rfl ?_
        refine go_isub O dX4_settle_80 (10 - (p - ((tnds (A / (Bn * 10 ^ 10)) : Nat) : Int))) rfl 81 rfl ?_
        refine go_istore O dX4_settle_81 (by decide) [(5, .int (iI (10 - (p - ((tnds (A / (Bn * 10 ^ 10)) : Nat) : Int))))), (6, .int (iI ((tnds (A / (Bn * 10 ^ 10)) : Nat) : Int))), (0, .ref h), (1, .int (iI ((ρ : Nat) : Int))), (2, .int (iI cu)), (3, .int (iI (bz wide))), (4, .int (iI (bz minus)))] rfl 83 rfl ?_
        have hte := tstp_i (w := tnds (A / (Bn * 10 ^ 10))) hP hS (by omega)
        have htl := tstp_le (p := P) (s := Sc) (w := tnds (A / (Bn * 10 ^ 10))) hP.1 hS.2 (by omega)
        have e5 : (10 - (p - ((tnds (A / (Bn * 10 ^ 10)) : Nat) : Int))) = ((tstp P Sc (tnds (A / (Bn * 10 ^ 10))) : Nat) : Int) := by rw [hte]; rw [if_neg (by omega)]; omega
        rw [e5]
        refine TGo.lsub (lv' := [(5, .int (iI ((tstp P Sc (tnds (A / (Bn * 10 ^ 10))) : Nat) : Int))), (0, .ref h), (1, .int (iI ((ρ : Nat) : Int))), (2, .int (iI cu)), (3, .int (iI (bz wide))), (4, .int (iI (bz minus)))]) [0, 2, 3, 4, 5, 6] rfl ?_
        exact m83 _ _ _ _ _ htl (fun z => absurd z h4) (fun _ => ⟨by omega, rfl⟩)
      · refine go_aload_n O dX4_settle_66 rfl 2 rfl 67 rfl ?_
        refine go_get O hK dX4_settle_67 hinX4 0 rfl rfl 1 (by decide) flX4_66 f_s 70 rfl ?_
        refine go_goto O dX4_settle_70 80 (by decide) ?_
        refine go_isub O dX4_settle_80 (10 - s) rfl 81 rfl ?_
        refine go_istore O dX4_settle_81 (by decide) [(5, .int (iI (10 - s))), (6, .int (iI ((tnds (A / (Bn * 10 ^ 10)) : Nat) : Int))), (0, .ref h), (1, .int (iI ((ρ : Nat) : Int))), (2, .int (iI cu)), (3, .int (iI (bz wide))), (4, .int (iI (bz minus)))] rfl 83 rfl ?_
        have hte := tstp_i (w := tnds (A / (Bn * 10 ^ 10))) hP hS (by omega)
        have htl := tstp_le (p := P) (s := Sc) (w := tnds (A / (Bn * 10 ^ 10))) hP.1 hS.2 (by omega)
        have e5 : (10 - s) = ((tstp P Sc (tnds (A / (Bn * 10 ^ 10))) : Nat) : Int) := by rw [hte]; rw [if_pos (by omega)]; omega
        rw [e5]
        refine TGo.lsub (lv' := [(5, .int (iI ((tstp P Sc (tnds (A / (Bn * 10 ^ 10))) : Nat) : Int))), (0, .ref h), (1, .int (iI ((ρ : Nat) : Int))), (2, .int (iI cu)), (3, .int (iI (bz wide))), (4, .int (iI (bz minus)))]) [0, 2, 3, 4, 5, 6] rfl ?_
        exact m83 _ _ _ _ _ htl (fun z => absurd z h4) (fun _ => ⟨by omega, rfl⟩)
    · refine go_bipush O dX4_settle_47 (by decide) 49 rfl ?_
      have hno : tstl P Sc m wide minus A Bn = none := tstl_w0 h4 (by omega)
      exact hret _ _ _ (dg (Bn * 10 ^ 10), dg (A / (Bn * 10 ^ 10)), dg (A % (Bn * 10 ^ 10)), fo, fc, fw, fn, K) dX4_settle_49 rfl ⟨by rw [hno]; rfl, by rw [hno]; exact hMR⟩
end
section
theorem enterFi {S : Type} {cl : List vw_C} {E : TEn} {y : MethodName} {rm : Room} {av : List Value} {w0 : va_W} {tys : List (ClassId × FieldType)} {post : Int → S → Prop} {w1 : S → va_W} {cc : ByteArray} {maxL : Nat} {ty : FieldType} (hy : plainFor y = true) (hsl : (lg_sl av).length ≤ maxL)
    (body : ∀ X : TCx, TOk X cc y.cls rm maxL cl E → TKn X tys → ((cx_M X).name = y.name) → (∀ (pc : Nat) (lv : List (Nat × Value)) (z : Int) (u : S), decode cc pc = .ok (.ireturn, 1) → narrow ty (.int (iI z)) = .int (iI z) → post z u → TGo X (w1 u) 0 0 pc lv [.int (iI z)]) → TGo X w0 0 0 0 (lv_args 0 av) []) : Cti cl E y (Cond.code y cc maxL (some ty) :: Gw) rm av w0 tys post w1 := by
  intro l D sz
  refine va_MetF (cc := cc) (maxL := maxL) (ret := (some ty)) hy rfl ?_
  intro p e s m args below meth c s₁ B hml hv
  obtain ⟨rfl, hsz, hP, hK, hD0, hE⟩ := hv
  have hts0 := atoms_spec (ws := Cond.code y cc maxL (some ty) :: Gw) B.pre
  have hts : ∀ w ∈ Gw, w.before av.toArray s = true := fun w h => hts0 w (List.mem_cons_of_mem _ h)
  have hown : s.vm.findClass y.cls = some m.cls := findClass_of_methodNamed B.named
  subst hsz
  have hD := hD0.self (sz := s.heap.size)
  rw [lg_entry_eq]
  refine body (p, l, e, (headSpec (Cond.code y cc maxL (some ty) :: Gw) rm).room, s, m, av.toArray, below, meth, c, MQ below (va_Qi (fun r u => ∃ z, r = iI z ∧ post z u) (ct_B D cl (va_A w0 s.heap.size) tys w1) (va_A w0 s.heap.size)) av.toArray s 0 0 (va_A w0 s.heap.size), va_A w0 s.heap.size, D, cl, maxL) ⟨B.exec, B.bytes, hml, rfl, hown, hts, fun q h => Or.inr h, rfl, rfl, hE⟩ hK (name_of_methodNamed B.named B.method).1 ?_ s.heap [] _ hP hD va_S.rf (lv_entry av hsl)
  · intro pc lv z u hd hnar hpost H locs ls hP hD hS hl
    exact W.zret B.exec B.bytes B.returns hnar (fun t ht hW => ⟨⟨iI z, u, rfl, ⟨z, rfl, hpost⟩, by rw [ht]; exact hP, va_K.moved hW.alike hK, hD⟩, hS.F ht⟩) hS.2.2 hd B.notSynchronized
theorem enterFl {S : Type} {cl : List vw_C} {E : TEn} {y : MethodName} {rm : Room} {av : List Value} {w0 : va_W} {tys : List (ClassId × FieldType)} {post : Int → S → Prop} {w1 : S → va_W} {cc : ByteArray} {maxL : Nat} (hy : plainFor y = true) (hsl : (lg_sl av).length ≤ maxL)
    (body : ∀ X : TCx, TOk X cc y.cls rm maxL cl E → TKn X tys → ((cx_M X).name = y.name) → (∀ (pc : Nat) (lv : List (Nat × Value)) (z : Int) (u : S), decode cc pc = .ok (.lreturn, 1) → post z u → TGo X (w1 u) 0 0 pc lv [.long (lI z)]) → TGo X w0 0 0 0 (lv_args 0 av) []) : Ctl cl E y (Cond.code y cc maxL (some .long) :: Gw) rm av w0 tys post w1 := by
  intro l D sz
  refine va_MetF (cc := cc) (maxL := maxL) (ret := (some .long)) hy rfl ?_
  intro p e s m args below meth c s₁ B hml hv
  obtain ⟨rfl, hsz, hP, hK, hD0, hE⟩ := hv
  have hts0 := atoms_spec (ws := Cond.code y cc maxL (some .long) :: Gw) B.pre
  have hts : ∀ w ∈ Gw, w.before av.toArray s = true := fun w h => hts0 w (List.mem_cons_of_mem _ h)
  have hown : s.vm.findClass y.cls = some m.cls := findClass_of_methodNamed B.named
  subst hsz
  have hD := hD0.self (sz := s.heap.size)
  rw [lg_entry_eq]
  refine body (p, l, e, (headSpec (Cond.code y cc maxL (some .long) :: Gw) rm).room, s, m, av.toArray, below, meth, c, MQ below (va_Ql (fun r u => ∃ z, r = lI z ∧ post z u) (ct_B D cl (va_A w0 s.heap.size) tys w1) (va_A w0 s.heap.size)) av.toArray s 0 0 (va_A w0 s.heap.size), va_A w0 s.heap.size, D, cl, maxL) ⟨B.exec, B.bytes, hml, rfl, hown, hts, fun q h => Or.inr h, rfl, rfl, hE⟩ hK (name_of_methodNamed B.named B.method).1 ?_ s.heap [] _ hP hD va_S.rf (lv_entry av hsl)
  · intro pc lv z u hd hpost H locs ls hP hD hS hl
    exact W.lret B.exec B.bytes B.returns (fun t ht hW => ⟨⟨lI z, u, rfl, ⟨z, rfl, hpost⟩, by rw [ht]; exact hP, va_K.moved hW.alike hK, hD⟩, hS.F ht⟩) hS.2.2 hd B.notSynchronized
theorem enterFv {S : Type} {cl : List vw_C} {E : TEn} {y : MethodName} {rm : Room} {av : List Value} {w0 : va_W} {tys : List (ClassId × FieldType)} {post : S → Prop} {w1 : S → va_W} {cc : ByteArray} {maxL : Nat} (hy : plainFor y = true) (hsl : (lg_sl av).length ≤ maxL)
    (body : ∀ X : TCx, TOk X cc y.cls rm maxL cl E → TKn X tys → ((cx_M X).name = y.name) → (∀ (pc : Nat) (lv : List (Nat × Value)) (u : S), decode cc pc = .ok (.return_, 1) → post u → TGo X (w1 u) 0 0 pc lv []) → TGo X w0 0 0 0 (lv_args 0 av) []) : Ctv cl E y (Cond.code y cc maxL none :: Gw) rm av w0 tys post w1 := by
  intro l D sz
  refine va_MetF (cc := cc) (maxL := maxL) (ret := none) hy rfl ?_
  intro p e s m args below meth c s₁ B hml hv
  obtain ⟨rfl, hsz, hP, hK, hD0, hE⟩ := hv
  have hts0 := atoms_spec (ws := Cond.code y cc maxL none :: Gw) B.pre
  have hts : ∀ w ∈ Gw, w.before av.toArray s = true := fun w h => hts0 w (List.mem_cons_of_mem _ h)
  have hown : s.vm.findClass y.cls = some m.cls := findClass_of_methodNamed B.named
  subst hsz
  have hD := hD0.self (sz := s.heap.size)
  rw [lg_entry_eq]
  refine body (p, l, e, (headSpec (Cond.code y cc maxL none :: Gw) rm).room, s, m, av.toArray, below, meth, c, MQ below (va_Qv post (ct_B D cl (va_A w0 s.heap.size) tys w1) (va_A w0 s.heap.size)) av.toArray s 0 0 (va_A w0 s.heap.size), va_A w0 s.heap.size, D, cl, maxL) ⟨B.exec, B.bytes, hml, rfl, hown, hts, fun q h => Or.inr h, rfl, rfl, hE⟩ hK (name_of_methodNamed B.named B.method).1 ?_ s.heap [] _ hP hD va_S.rf (lv_entry av hsl)
  · intro pc lv u hd hpost H locs ls hP hD hS hl
    exact W.vret B.exec B.bytes B.returns (fun t ht hW => ⟨⟨u, rfl, hpost, by rw [ht]; exact hP, va_K.moved hW.alike hK, hD⟩, hS.F ht⟩) hS.2.2 hd B.notSynchronized
/-! Signed ints; rows of signed ints that stand for a number; more rows of instructions. -/
theorem iI_quo {a b : Int} (ha : r32 a) (hb : r32 b) (h1 : b ≠ -1) : iI a / iI b = iI (a.tdiv b) := by
  have h2 : iI b ≠ -1 := by
    intro h
    have := congrArg Int32.toInt h
    rw [iI_t hb] at this
    have h3 : (-1 : Int32).toInt = -1 := by decide
    omega
  have h3 : (iI a / iI b).toInt = a.tdiv b := by rw [Int32.toInt_div_of_ne_right _ _ h2, iI_t ha, iI_t hb]
  rw [← h3, ← iI_of]
theorem iI_mod {a b : Int} (ha : r32 a) (hb : r32 b) (h1 : b ≠ -1) : iI a - iI a / iI b * iI b = iI (a.tmod b) := by
  rw [iI_quo ha hb h1, iI_mul, iI_sub]
  congr 1
  have := Int.tmod_add_tdiv_mul a b
  omega
theorem iI_xor10 {a : Int} (ha : r32 a) : ∃ z, r32 z ∧ iI a ^^^ iI 10 = iI z ∧ (0 ≤ z ↔ 0 ≤ a) := by
  refine ⟨(iI a ^^^ iI 10).toInt, iI_r _, iI_of _, ?_⟩
  have h1 : (iI a ^^^ iI 10).toBitVec.msb = ((iI a).toBitVec.msb ^^ (iI 10).toBitVec.msb) := by rw [Int32.toBitVec_xor, BitVec.msb_xor]
  have h2 : (iI 10).toBitVec.msb = false := by decide
  rw [h2, Bool.xor_false, BitVec.msb_eq_toInt, BitVec.msb_eq_toInt, decide_eq_decide] at h1
  have h3 : (iI a).toBitVec.toInt = a := iI_t ha
  rw [h3] at h1
  have h4 : (iI a ^^^ iI 10).toBitVec.toInt = (iI a ^^^ iI 10).toInt := rfl
  rw [h4] at h1
  omega
theorem tdm10 (a : Int) : a.tmod 10 + a.tdiv 10 * 10 = a ∧ (0 ≤ a → 0 ≤ a.tmod 10 ∧ a.tmod 10 < 10) ∧ (a < 0 → -10 < a.tmod 10 ∧ a.tmod 10 ≤ 0) := by
  refine ⟨Int.tmod_add_tdiv_mul a 10, fun h => ?_, fun h => ?_⟩
  · have h1 := Int.tmod_nonneg 10 h
    have := (tm10 a).2.1
    omega
  · have h1 := Int.tmod_nonneg 10 (show 0 ≤ -a by omega)
    rw [Int.neg_tmod] at h1
    have := (tm10 a).1
    omega
section GO2
variable {X : TCx} {cc : ByteArray} {own : String} {rm : Room} {nL : Nat} {ws : va_W} {n k pc : Nat} {lv : List (Nat × Value)} {st : List Value} {tys : List (ClassId × FieldType)} {cl : List vw_C} {E : TEn}
theorem go_ixor (O : TOk X cc own rm nL cl E) {a b : Int} (hd : decode cc pc = .ok (.ixor, 1)) (z : Int) (hz : iI a ^^^ iI b = iI z) (pc' : Nat) (hp : pc + 1 = pc') (h : TGo X ws n k pc' lv (.int (iI z) :: st)) : TGo X ws n k pc lv (.int (iI b) :: .int (iI a) :: st) := by
  subst hp
  intro H locs ls hP hD hS hl
  exact lv_ixor O.1 O.2.1 hd (TWx_vi hz (h H locs ls hP hD hS hl))
theorem go_idivT (O : TOk X cc own rm nL cl E) {a b : Int} (hd : decode cc pc = .ok (.idiv, 1)) (ha : r32 a) (hb : r32 b) (h0 : b ≠ 0) (h1 : b ≠ -1) (z : Int) (hz : a.tdiv b = z) (pc' : Nat) (hp : pc + 1 = pc') (h : TGo X ws n k pc' lv (.int (iI z) :: st)) : TGo X ws n k pc lv (.int (iI b) :: .int (iI a) :: st) := by
  subst hp
  intro H locs ls hP hD hS hl
  exact lv_idiv O.1 O.2.1 hd (fun q => h0 ((iI_inj hb r32_0).mp (q.trans iI_0.symm))) (TWx_vi (by rw [iI_quo ha hb h1, hz]) (h H locs ls hP hD hS hl))
theorem go_iremT (O : TOk X cc own rm nL cl E) {a b : Int} (hd : decode cc pc = .ok (.irem, 1)) (ha : r32 a) (hb : r32 b) (h0 : b ≠ 0) (h1 : b ≠ -1) (z : Int) (hz : a.tmod b = z) (pc' : Nat) (hp : pc + 1 = pc') (h : TGo X ws n k pc' lv (.int (iI z) :: st)) : TGo X ws n k pc lv (.int (iI b) :: .int (iI a) :: st) := by
  subst hp
  intro H locs ls hP hD hS hl
  exact lv_irem O.1 O.2.1 hd (fun q => h0 ((iI_inj hb r32_0).mp (q.trans iI_0.symm))) (TWx_vi (by rw [iI_mod ha hb h1, hz]) (h H locs ls hP hD hS hl))
theorem TGo.topi {x y : Int} (e : x = y) (h : TGo X ws n k pc lv (.int (iI y) :: st)) : TGo X ws n k pc lv (.int (iI x) :: st) := e ▸ h
theorem TGo.topl {x y : Int} (e : x = y) (h : TGo X ws n k pc lv (.long (lI y) :: st)) : TGo X ws n k pc lv (.long (lI x) :: st) := e ▸ h
/-- System.arraycopy between two int arrays of the world -/
theorem go_copyi (O : TOk X cc own rm nL cl E) (hK : TKn X tys) {index : Nat} (hd : decode cc pc = .ok (.invokestatic index, 3)) (hml : Cond.methodLink own index arraycopyName ∈ Gw) (hna : Cond.native arraycopyName ∈ Gw) (hst : Cond.static arraycopyName ∈ Gw) (hin : Cond.initialized "java/lang/System" ∈ Gw) (q0 q1 t0 t1 : Nat) {a a0 : Nat} {c0 c1 : ClassId} {n0 n1 : Nat} {f g : Nat → Int32} (ha0 : ws[q0]? = some (a0, .inl (c0, n0, .inl f))) (ha1 : ws[q1]? = some (a, .inl (c1, n1, .inl g))) (ht0 : tys[t0]? = some (c0, .int)) (ht1 : tys[t1]? = some (c1, .int))
    {x y z : Int} (sp dp m : Nat) (hx : x = (sp : Int)) (hy : y = (dp : Int)) (hz : z = (m : Int)) (h4 : sp + m ≤ n0) (h5 : dp + m ≤ n1) (hn0 : n0 < 2147483648) (hn1 : n1 < 2147483648) (g' : Nat → Int32) (hg : ∀ i, i < n1 → va_cpy f g sp dp m i = g' i) (ws' : va_W) (hw : ws.set q1 (a, .inl (c1, n1, .inl g')) = ws') (hfr : 1 ≤ rm.frames) (hlo : (st.map fun v => v.category).sum + (nativeFrameWords "java/lang/System" "arraycopy" 5 + 11) ≤ rm.locals) (pc' : Nat) (hp : pc + 3 = pc') (h : TGo X ws' n k pc' lv st) : TGo X ws n k pc lv (.int (iI z) :: .int (iI y) :: .ref a :: .int (iI x) :: .ref a0 :: st) := by
  subst hp; subst hx; subst hy; subst hz; subst hw
  intro H locs ls hP hD hS hl
  have hlt := (List.getElem?_eq_some_iff.mp ha1).1
  have hts := O.2.2.2.2.2.1
  have hRm := O.2.2.2.2.2.2.2.1
  have e1 : (iI (sp : Int)).toNatClampNeg = sp := iI_cl (by omega)
  have e2 : (iI (dp : Int)).toNatClampNeg = dp := iI_cl (by omega)
  have e3 : (iI (m : Int)).toNatClampNeg = m := iI_cl (by omega)
  have nn : ∀ j : Nat, j < 2147483648 → ¬ iI (j : Int) < 0 := fun j hj => by rw [iI_nat]; exact nI_pos (by omega)
  refine va_copyi O.1 O.2.1 (O.2.2.1.trans (O.2.2.2.1.symm.trans hl.1.symm)) O.2.2.2.2.1 (hts _ hml) (hts _ hna) (hts _ hst) (hts _ hin) hK hP hD hS q0 q1 t0 t1 (ty := .int) ha0 ha1 ht0 ht1 rfl (nn sp (by omega)) (nn dp (by omega)) (nn m (by omega)) (by rw [e1, e3]; exact h4) (by rw [e2, e3]; exact h5) (fun _ _ => rfl) (by rw [hRm]; exact hfr) (by rw [hRm]; exact hlo) hd (fun H1 locs1 hP1 hD1 hS1 => ?_)
  rw [e1, e2, e3] at hP1 hD1
  refine h H1 locs1 ls (va_P_ext hlt hP1 (fun e => ?_)) (va_D.set hD ha1) hS1 hl
  have e : H1[a]? = some (vp_cell c1 (n1, .inl (va_cpy f g sp dp m))) := e
  show H1[a]? = some (vp_cell c1 (n1, .inl g'))
  rw [e, vp_cell_ext c1 n1 hg]
end GO2
/-- the number that a row of signed ints stands for, from place i on, d places -/
def tv (z : Nat → Int) : Nat → Nat → Int
  | _, 0 => 0
  | i, d + 1 => z i + 10 * tv z (i + 1) d
theorem tv_0 (z : Nat → Int) (i : Nat) : tv z i 0 = 0 := rfl
theorem tv_s (z : Nat → Int) (i d : Nat) : tv z i (d + 1) = z i + 10 * tv z (i + 1) d := rfl
theorem tv_congr {z y : Nat → Int} : ∀ (d i : Nat), (∀ j, i ≤ j → j < i + d → z j = y j) → tv z i d = tv y i d := by
  intro d
  induction d with
  | zero => intro i _; rfl
  | succ d ih =>
    intro i h
    rw [tv_s, tv_s, h i (by omega) (by omega), ih (i + 1) (fun j a b => h j (by omega) (by omega))]
theorem tv_dg (W : Nat) : ∀ (d i : Nat), tv (fun j => ((W / 10 ^ j % 10 : Nat) : Int)) i d = ((W / 10 ^ i % 10 ^ d : Nat) : Int) := by
  intro d
  induction d with
  | zero => intro i; rw [tv_0, Nat.pow_zero, Nat.mod_one]; rfl
  | succ d ih =>
    intro i
    rw [tv_s, ih (i + 1), tq10, Nat.pow_succ, Nat.mul_comm, Nat.mod_mul]
    omega
theorem tv_add (z y : Nat → Int) : ∀ (d i : Nat), tv (fun j => z j + y j) i d = tv z i d + tv y i d := by
  intro d
  induction d with
  | zero => intro i; rfl
  | succ d ih => intro i; rw [tv_s, tv_s, tv_s, ih (i + 1)]; omega
theorem tv_upd (z : Nat → Int) (p : Nat) (x : Int) : ∀ (d i : Nat), i ≤ p → p < i + d → tv (fun j => if j = p then x else z j) i d = tv z i d + (x - z p) * (10 ^ (p - i) : Nat) := by
  intro d
  induction d with
  | zero => intro i h1 h2; omega
  | succ d ih =>
    intro i h1 h2
    rw [tv_s, tv_s]
    by_cases e : i = p
    · subst e
      rw [if_pos rfl, Nat.sub_self, Nat.pow_zero]
      rw [tv_congr (y := z) d (i + 1) (fun j a b => if_neg (by omega))]
      omega
    · rw [if_neg e, ih (i + 1) (by omega) (by omega)]
      have e2 : p - i = (p - (i + 1)) + 1 := by omega
      rw [e2, p10s, Int.natCast_mul, Int.mul_add, Int.mul_left_comm (10 : Int)]
      show z i + (10 * tv z (i + 1) d + (x - z p) * (10 * ((10 ^ (p - (i + 1)) : Nat) : Int))) = z i + 10 * tv z (i + 1) d + (x - z p) * (10 * ((10 ^ (p - (i + 1)) : Nat) : Int))
      rw [Int.add_assoc]
set_option maxHeartbeats 4000000 in
set_option maxRecDepth 100000 in
/-- Math.floorMod by 10 -/
theorem c_J9_floorMod (E : TEn) (hE : EnvOk E) (a : Int) (ha : r32 a) : Cti vwCl E yJ9_floorMod wsJ9_floorMod (rmn 0 0) [.int (iI a), .int (iI 10)] [] [] (fun (z : Int) (_ : Unit) => z = a % 10) (fun _ => []) := by
  refine enterFi (by decide +kernel) (Nat.le_of_ble_eq_true rfl) ?_
  intro X O hK hin2 hret
  show TGo X [] 0 0 0 [(0, .int (iI a)), (1, .int (iI 10))] []
  obtain ⟨y, hy, hxo, hys⟩ := iI_xor10 ha
  have td := tdm10 a
  refine go_iload_n O dJ9_floorMod_0 rfl 0 rfl 1 rfl ?_
  refine go_iload_n O dJ9_floorMod_1 rfl 1 rfl 2 rfl ?_
  refine go_iremT O dJ9_floorMod_2 (by omega) (by omega) (by omega) (by omega) (a.tmod 10) rfl 3 rfl ?_
  refine go_istore_n O dJ9_floorMod_3 rfl (by decide) [(2, .int (iI (a.tmod 10))), (0, .int (iI a)), (1, .int (iI 10))] rfl 4 rfl ?_
  refine go_iload_n O dJ9_floorMod_4 rfl 1 rfl 5 rfl ?_
  refine go_iload_n O dJ9_floorMod_5 rfl 2 rfl 6 rfl ?_
  refine go_ixor O dJ9_floorMod_6 y hxo 7 rfl ?_
  refine go_if_ge O dJ9_floorMod_7 18 (by decide) 10 rfl hy (fun h7 => ?_) (fun h7 => ?_)
  · refine go_iload_n O dJ9_floorMod_18 rfl 0 rfl 19 rfl ?_
    exact hret _ _ _ () dJ9_floorMod_19 rfl (by omega)
  · refine go_iload_n O dJ9_floorMod_10 rfl 0 rfl 11 rfl ?_
    refine go_if_eq O dJ9_floorMod_11 18 (by decide) 14 rfl (by omega) (fun h11 => ?_) (fun h11 => ?_)
    · refine go_iload_n O dJ9_floorMod_18 rfl 0 rfl 19 rfl ?_
      exact hret _ _ _ () dJ9_floorMod_19 rfl (by omega)
    · refine go_iload_n O dJ9_floorMod_14 rfl 0 rfl 15 rfl ?_
      refine go_iload_n O dJ9_floorMod_15 rfl 2 rfl 16 rfl ?_
      refine go_iadd O dJ9_floorMod_16 ((a.tmod 10) + 10) rfl 17 rfl ?_
      exact hret _ _ _ () dJ9_floorMod_17 rfl (by omega)
set_option maxHeartbeats 4000000 in
set_option maxRecDepth 100000 in
/-- Math.floorDiv by 10 -/
theorem c_J9_floorDiv (E : TEn) (hE : EnvOk E) (a : Int) (ha : r32 a) : Cti vwCl E yJ9_floorDiv wsJ9_floorDiv (rmn 0 0) [.int (iI a), .int (iI 10)] [] [] (fun (z : Int) (_ : Unit) => z = a / 10) (fun _ => []) := by
  refine enterFi (by decide +kernel) (Nat.le_of_ble_eq_true rfl) ?_
  intro X O hK hin2 hret
  show TGo X [] 0 0 0 [(0, .int (iI a)), (1, .int (iI 10))] []
  obtain ⟨y, hy, hxo, hys⟩ := iI_xor10 ha
  have td := tdm10 a
  refine go_iload_n O dJ9_floorDiv_0 rfl 0 rfl 1 rfl ?_
  refine go_iload_n O dJ9_floorDiv_1 rfl 1 rfl 2 rfl ?_
  refine go_idivT O dJ9_floorDiv_2 (by omega) (by omega) (by omega) (by omega) (a.tdiv 10) rfl 3 rfl ?_
  refine go_istore_n O dJ9_floorDiv_3 rfl (by decide) [(2, .int (iI (a.tdiv 10))), (0, .int (iI a)), (1, .int (iI 10))] rfl 4 rfl ?_
  refine go_iload_n O dJ9_floorDiv_4 rfl 1 rfl 5 rfl ?_
  refine go_iload_n O dJ9_floorDiv_5 rfl 2 rfl 6 rfl ?_
  refine go_ixor O dJ9_floorDiv_6 y hxo 7 rfl ?_
  refine go_if_ge O dJ9_floorDiv_7 21 (by decide) 10 rfl hy (fun h7 => ?_) (fun h7 => ?_)
  · refine go_iload_n O dJ9_floorDiv_21 rfl 0 rfl 22 rfl ?_
    exact hret _ _ _ () dJ9_floorDiv_22 rfl (by omega)
  · refine go_iload_n O dJ9_floorDiv_10 rfl 0 rfl 11 rfl ?_
    refine go_iload_n O dJ9_floorDiv_11 rfl 2 rfl 12 rfl ?_
    refine go_imul O dJ9_floorDiv_12 ((a.tdiv 10) * 10) rfl 13 rfl ?_
    refine go_iload_n O dJ9_floorDiv_13 rfl 1 rfl 14 rfl ?_
    refine go_icmp_eq O dJ9_floorDiv_14 21 (by decide) 17 rfl (by omega) (by omega) (fun h14 => ?_) (fun h14 => ?_)
    · refine go_iload_n O dJ9_floorDiv_21 rfl 0 rfl 22 rfl ?_
      exact hret _ _ _ () dJ9_floorDiv_22 rfl (by omega)
    · refine go_iload_n O dJ9_floorDiv_17 rfl 0 rfl 18 rfl ?_
      refine go_iconst O dJ9_floorDiv_18 19 rfl ?_
      refine go_isub O dJ9_floorDiv_19 ((a.tdiv 10) - 1) rfl 20 rfl ?_
      exact hret _ _ _ () dJ9_floorDiv_20 rfl (by omega)
set_option maxHeartbeats 4000000 in
set_option maxRecDepth 100000 in
/-- Math.abs -/
theorem c_J9_abs (E : TEn) (hE : EnvOk E) (a : Int) (ha : r64 a) : Ctl vwCl E yJ9_abs wsJ9_abs (rmn 0 0) [.long (lI a)] [] [] (fun (z : Int) (_ : Unit) => z = (a.natAbs : Int)) (fun _ => []) := by
  refine enterFl (by decide +kernel) (Nat.le_of_ble_eq_true rfl) ?_
  intro X O hK hin2 hret
  show TGo X [] 0 0 0 [(0, .long (lI a))] []
  have hc := cmpZ_ge (a := a) (b := 0)
  refine go_lload_n O dJ9_abs_0 rfl 0 rfl 1 rfl ?_
  refine go_lconst O dJ9_abs_1 0 rfl 2 rfl ?_
  refine go_lcmp O dJ9_abs_2 (by omega) (by omega) 3 rfl ?_
  refine go_if_ge O dJ9_abs_3 11 (by decide) 6 rfl (cmpZ_r _ _) (fun h3 => ?_) (fun h3 => ?_)
  · refine go_lload_n O dJ9_abs_11 rfl 0 rfl 12 rfl ?_
    exact hret _ _ _ () dJ9_abs_12 (by omega)
  · refine go_lload_n O dJ9_abs_6 rfl 0 rfl 7 rfl ?_
    refine go_lneg O dJ9_abs_7 (-a) rfl 8 rfl ?_
    refine go_goto O dJ9_abs_8 12 (by decide) ?_
    exact hret _ _ _ () dJ9_abs_12 (by omega)
set_option maxHeartbeats 4000000 in
set_option maxRecDepth 100000 in
/-- Math.max -/
theorem c_J9_max (E : TEn) (hE : EnvOk E) (a b : Int) (ha : r32 a) (hb : r32 b) : Cti vwCl E yJ9_max wsJ9_max (rmn 0 0) [.int (iI a), .int (iI b)] [] [] (fun (z : Int) (_ : Unit) => z = if a < b then b else a) (fun _ => []) := by
  refine enterFi (by decide +kernel) (Nat.le_of_ble_eq_true rfl) ?_
  intro X O hK hin2 hret
  show TGo X [] 0 0 0 [(0, .int (iI a)), (1, .int (iI b))] []
  refine go_iload_n O dJ9_max_0 rfl 0 rfl 1 rfl ?_
  refine go_iload_n O dJ9_max_1 rfl 1 rfl 2 rfl ?_
  refine go_icmp_lt O dJ9_max_2 9 (by decide) 5 rfl (by omega) (by omega) (fun h2 => ?_) (fun h2 => ?_)
  · refine go_iload_n O dJ9_max_9 rfl 1 rfl 10 rfl ?_
    exact hret _ _ _ () dJ9_max_10 rfl (by split <;> omega)
  · refine go_iload_n O dJ9_max_5 rfl 0 rfl 6 rfl ?_
    refine go_goto O dJ9_max_6 10 (by decide) ?_
    exact hret _ _ _ () dJ9_max_10 rfl (by split <;> omega)
set_option maxHeartbeats 4000000 in
set_option maxRecDepth 100000 in
/-- Math.min -/
theorem c_J9_min (E : TEn) (hE : EnvOk E) (a b : Int) (ha : r32 a) (hb : r32 b) : Cti vwCl E yJ9_min wsJ9_min (rmn 0 0) [.int (iI a), .int (iI b)] [] [] (fun (z : Int) (_ : Unit) => z = if b < a then b else a) (fun _ => []) := by
  refine enterFi (by decide +kernel) (Nat.le_of_ble_eq_true rfl) ?_
  intro X O hK hin2 hret
  show TGo X [] 0 0 0 [(0, .int (iI a)), (1, .int (iI b))] []
  refine go_iload_n O dJ9_min_0 rfl 0 rfl 1 rfl ?_
  refine go_iload_n O dJ9_min_1 rfl 1 rfl 2 rfl ?_
  refine go_icmp_gt O dJ9_min_2 9 (by decide) 5 rfl (by omega) (by omega) (fun h2 => ?_) (fun h2 => ?_)
  · refine go_iload_n O dJ9_min_9 rfl 1 rfl 10 rfl ?_
    exact hret _ _ _ () dJ9_min_10 rfl (by split <;> omega)
  · refine go_iload_n O dJ9_min_5 rfl 0 rfl 6 rfl ?_
    refine go_goto O dJ9_min_6 10 (by decide) ?_
    exact hret _ _ _ () dJ9_min_10 rfl (by split <;> omega)
set_option maxHeartbeats 4000000 in
set_option maxRecDepth 100000 in
/-- Integer.compare -/
theorem c_J6_compare (E : TEn) (hE : EnvOk E) (a b : Int) (ha : r32 a) (hb : r32 b) : Cti vwCl E yJ6_compare wsJ6_compare (rmn 0 0) [.int (iI a), .int (iI b)] [] [] (fun (z : Int) (_ : Unit) => z = if a < b then -1 else if a = b then 0 else 1) (fun _ => []) := by
  refine enterFi (by decide +kernel) (Nat.le_of_ble_eq_true rfl) ?_
  intro X O hK hin2 hret
  show TGo X [] 0 0 0 [(0, .int (iI a)), (1, .int (iI b))] []
  refine go_iload_n O dJ6_compare_0 rfl 0 rfl 1 rfl ?_
  refine go_iload_n O dJ6_compare_1 rfl 1 rfl 2 rfl ?_
  refine go_icmp_ge O dJ6_compare_2 9 (by decide) 5 rfl (by omega) (by omega) (fun h2 => ?_) (fun h2 => ?_)
  · refine go_iload_n O dJ6_compare_9 rfl 0 rfl 10 rfl ?_
    refine go_iload_n O dJ6_compare_10 rfl 1 rfl 11 rfl ?_
    refine go_icmp_ne O dJ6_compare_11 18 (by decide) 14 rfl (by omega) (by omega) (fun h11 => ?_) (fun h11 => ?_)
    · refine go_iconst O dJ6_compare_18 19 rfl ?_
      exact hret _ _ _ () dJ6_compare_19 rfl (by split <;> (try split) <;> omega)
    · refine go_iconst O dJ6_compare_14 15 rfl ?_
      refine go_goto O dJ6_compare_15 19 (by decide) ?_
      exact hret _ _ _ () dJ6_compare_19 rfl (by split <;> (try split) <;> omega)
  · refine go_iconst O dJ6_compare_5 6 rfl ?_
    refine go_goto O dJ6_compare_6 19 (by decide) ?_
    exact hret _ _ _ () dJ6_compare_19 rfl (by split <;> (try split) <;> omega)
set_option maxHeartbeats 4000000 in
set_option maxRecDepth 100000 in
/-- Arrays.fill of 72 ints -/
theorem c_J7_fill (E : TEn) (hE : EnvOk E) (q : Nat) (cI : ClassId) (f : Nat → Int32) (v : Int) (hv : r32 v) : Ctv vwCl E yJ7_fill wsJ7_fill (rmn 0 0) [.ref q, .int (iI v)] [(q, .inl (cI, 72, .inl f))] [(cI, .int)] (fun _ : Unit => True) (fun _ => [(q, .inl (cI, 72, .inl (fun _ => iI v)))]) := by
  refine enterFv (by decide +kernel) (Nat.le_of_ble_eq_true rfl) ?_
  intro X O hK hin2 hret
  show TGo X [(q, .inl (cI, 72, .inl f))] 0 0 0 [(0, .ref q), (1, .int (iI v))] []
  have lp : ∀ (c : Nat) (i : Nat) (x : Int) (g : Nat → Int32), c + i = 73 → i ≤ 72 → x = (i : Int) → (∀ j, j < i → g j = iI v) → TGo X [(q, .inl (cI, 72, .inl g))] 0 0 5 [(2, .int (iI x)), (3, .int (iI 72)), (0, .ref q), (1, .int (iI v))] [] := by
    intro c
    induction c with
    | zero => intro i x g h1 h2 hx hg; omega
    | succ c ih =>
      intro i x g h1 h2 hx hg
      refine go_iload_n O dJ7_fill_5 rfl 0 rfl 6 rfl ?_
      refine go_iload_n O dJ7_fill_6 rfl 1 rfl 7 rfl ?_
      refine go_icmp_ge O dJ7_fill_7 20 (by decide) 10 rfl (by omega) (by omega) (fun h7 => ?_) (fun h7 => ?_)
      · refine TGo.arr 0 rfl (fun _ => iI v) (fun j hj => hg j (by omega)) (ws' := [(q, .inl (cI, 72, .inl (fun _ => iI v)))]) rfl ?_
        exact hret _ _ () dJ7_fill_20 trivial
      · refine go_aload_n O dJ7_fill_10 rfl 2 rfl 11 rfl ?_
        refine go_iload_n O dJ7_fill_11 rfl 0 rfl 12 rfl ?_
        refine go_iload_n O dJ7_fill_12 rfl 3 rfl 13 rfl ?_
        refine go_iast O hK dJ7_fill_13 0 0 rfl rfl i hx (by omega) (by omega) (upd g i (iI v)) (fun _ _ => rfl) [(q, .inl (cI, 72, .inl (upd g i (iI v))))] rfl 14 rfl ?_
        refine go_iinc O dJ7_fill_14 0 rfl ((i + 1 : Nat) : Int) (by omega) (by decide) [(2, .int (iI ((i + 1 : Nat) : Int))), (3, .int (iI 72)), (0, .ref q), (1, .int (iI v))] rfl 17 rfl ?_
        refine go_goto O dJ7_fill_17 5 (by decide) ?_
        refine TGo.lsub (lv' := [(2, .int (iI ((i + 1 : Nat) : Int))), (3, .int (iI 72)), (0, .ref q), (1, .int (iI v))]) [0, 1, 2, 3] rfl ?_
        exact ih (i + 1) _ _ (by omega) (by omega) (by omega) (lo_upd (F := fun _ => iI v) hg rfl)
  refine go_iconst O dJ7_fill_0 1 rfl ?_
  refine go_istore_n O dJ7_fill_1 rfl (by decide) [(2, .int (iI 0)), (0, .ref q), (1, .int (iI v))] rfl 2 rfl ?_
  refine go_aload_n O dJ7_fill_2 rfl 1 rfl 3 rfl ?_
  refine go_alen O hK dJ7_fill_3 0 0 rfl rfl 72 rfl 4 rfl ?_
  refine go_istore_n O dJ7_fill_4 rfl (by decide) [(3, .int (iI 72)), (2, .int (iI 0)), (0, .ref q), (1, .int (iI v))] rfl 5 rfl ?_
  refine TGo.lsub (lv' := [(2, .int (iI 0)), (3, .int (iI 72)), (0, .ref q), (1, .int (iI v))]) [1, 0, 2, 3] rfl ?_
  exact lp 73 0 _ _ (by omega) (by omega) (by omega) (fun j a => absurd a (by omega))
end
section
theorem naSys : Cond.native arraycopyName ∈ Gw := gw_of 252 (by decide +kernel) rfl
theorem smSys : Cond.static arraycopyName ∈ Gw := gw_of 251 (by decide +kernel) rfl
theorem tv_0z : ∀ (d i : Nat), tv (fun _ => 0) i d = 0 := by
  intro d
  induction d with
  | zero => intro i; rfl
  | succ d ih => intro i; rw [tv_s, ih (i + 1)]; omega
theorem tcar_dig {V κ t s : Int} (h : V = κ + (s + 10 * t)) : V % 10 = (s + κ) % 10 := by omega
theorem tcar_step {V κ t s : Int} (h : V = κ + (s + 10 * t)) : V / 10 = (s + κ) / 10 + t := by omega
theorem dg_int (V i : Nat) : ((V / 10 ^ i % 10 : Nat) : Int) = ((V / 10 ^ i : Nat) : Int) % 10 := by omega
theorem spell_lo {g : Nat → Int32} {N p i : Nat} {z : Int} (h : ∀ j, j < i → g (p + j) = dg N j) (hz : iI z = dg N i) : ∀ j, j < i + 1 → upd g (p + i) (iI z) (p + j) = dg N j := by
  intro j hj
  by_cases e : j = i
  · subst e; rw [upd_s]; exact hz
  · rw [upd_n (by omega)]; exact h j (by omega)
theorem spell_ot {g f : Nat → Int32} {p i e : Nat} {z : Int} (hi : i < e) (h : ∀ j, ¬ (p ≤ j ∧ j < p + e) → g j = f j) : ∀ j, ¬ (p ≤ j ∧ j < p + e) → upd g (p + i) (iI z) j = f j := by
  intro j hj
  rw [upd_n (by omega)]; exact h j hj
theorem dg_place {u : Nat → Int32} {N p e : Nat} (hN : N < 10 ^ e) (h1 : ∀ j, j < e → u (p + j) = dg N j) (h2 : ∀ j, ¬ (p ≤ j ∧ j < p + e) → u j = iI 0) : ∀ j, u j = dg (N * 10 ^ p) j := by
  intro j
  rw [dg_shift]
  by_cases a : p ≤ j
  · rw [if_pos a]
    by_cases b : j < p + e
    · have := h1 (j - p) (by omega)
      rw [show p + (j - p) = j by omega] at this
      exact this
    · rw [h2 j (by omega), dg_at, q_lt' hN (by omega)]; rfl
  · rw [if_neg a, h2 j (by omega)]
theorem cpy_place {V p n : Nat} (hV : V < 10 ^ n) : ∀ j, va_cpy (dg V) (dg 0) 0 p n j = dg (V * 10 ^ p) j := by
  intro j
  unfold va_cpy
  rw [dg_shift]
  by_cases a : p ≤ j ∧ j < p + n
  · rw [if_pos a, if_pos a.1, Nat.zero_add]
  · rw [if_neg a, dg_zero]
    by_cases b : p ≤ j
    · rw [if_pos b, dg_at, q_lt' hV (by omega)]; rfl
    · rw [if_neg b]
theorem tv_dg72 {W : Nat} (h : W < 10 ^ 72) : tv (fun j => ((W / 10 ^ j % 10 : Nat) : Int)) 0 72 = (W : Int) := by
  rw [tv_dg, tqz, Nat.mod_eq_of_lt h]
/-- adding a run of n ints, x 0 .. x (n-1), from place p on -/
theorem tv_run (z x : Nat → Int) (p d : Nat) : ∀ n, p + n ≤ d → tv (fun j => if p ≤ j ∧ j < p + n then z j + x (j - p) else z j) 0 d = tv z 0 d + tv x 0 n * (10 ^ p : Nat) := by
  intro n
  induction n with
  | zero =>
    intro _
    rw [tv_0, Int.zero_mul, Int.add_zero]
    exact tv_congr d 0 (fun j _ _ => if_neg (by omega))
  | succ n ih =>
    intro h
    have h1 : tv (fun j => if p ≤ j ∧ j < p + (n + 1) then z j + x (j - p) else z j) 0 d = tv (fun j => if j = p + n then z (p + n) + x n else (fun j => if p ≤ j ∧ j < p + n then z j + x (j - p) else z j) j) 0 d := by
      refine tv_congr d 0 (fun j _ _ => ?_)
      by_cases e : j = p + n
      · subst e
        rw [if_pos (by omega), if_pos rfl, show p + n - p = n by omega]
      · rw [if_neg e]
        dsimp only
        by_cases e2 : p ≤ j ∧ j < p + n
        · rw [if_pos (by omega), if_pos e2]
        · rw [if_neg (by omega), if_neg e2]
    rw [h1, tv_upd _ (p + n) _ d 0 (by omega) (by omega)]
    rw [ih (by omega), if_neg (by omega)]
    have h2 : ∀ (n i : Nat), tv x i (n + 1) = tv x i n + x (i + n) * (10 ^ n : Nat) := by
      intro n
      induction n with
      | zero => intro i; rw [tv_s, tv_0, tv_0, Nat.pow_zero]; simp
      | succ n ih2 =>
        intro i
        rw [tv_s, ih2 (i + 1), tv_s x i n, p10s, Int.natCast_mul, Int.mul_add, show i + 1 + n = i + (n + 1) by omega, Int.mul_left_comm (10 : Int), Int.add_assoc]
        rfl
    rw [h2 n 0, Nat.zero_add, Int.add_mul, Nat.sub_zero, show z (p + n) + x n - z (p + n) = x n by omega, Nat.add_comm p n, p10add, Int.natCast_mul, Int.add_assoc, Int.mul_assoc]
theorem tmod10s (X k : Nat) : X % 10 ^ (k + 1) = 10 * (X / 10 % 10 ^ k) + X % 10 := by
  rw [p10s, Nat.mod_mul, Nat.add_comm]
set_option maxHeartbeats 4000000 in
set_option maxRecDepth 100000 in
/-- isZero: digits from a to b -/
theorem c_X3_isZero (E : TEn) (hE : EnvOk E) (q : Nat) (cI : ClassId) (n W a b : Nat) (hn : n < 2147483648) (hab : a ≤ b) (hb : b ≤ n) : Cti vwCl E yX3_isZero wsX3_isZero (rmn 0 0) [.ref q, .int (iI ((a : Nat) : Int)), .int (iI ((b : Nat) : Int))] [(q, .inl (cI, n, .inl (dg W)))] [(cI, .int)] (fun (z : Int) (_ : Unit) => (z = 1 ∧ ∀ j, a ≤ j → j < b → W / 10 ^ j % 10 = 0) ∨ (z = 0 ∧ ∃ j, a ≤ j ∧ j < b ∧ W / 10 ^ j % 10 ≠ 0)) (fun _ => [(q, .inl (cI, n, .inl (dg W)))]) := by
  refine enteri (by decide) (Nat.le_of_ble_eq_true rfl) ?_
  intro X O hK hin2 hret
  show TGo X [(q, .inl (cI, n, .inl (dg W)))] 0 0 0 [(0, .ref q), (1, .int (iI ((a : Nat) : Int))), (2, .int (iI ((b : Nat) : Int)))] []
  have lp : ∀ (c : Nat) (i : Nat) (x : Int), c + i = b + 1 → i ≤ b → a ≤ i → x = (i : Int) → (∀ j, a ≤ j → j < i → W / 10 ^ j % 10 = 0) → TGo X [(q, .inl (cI, n, .inl (dg W)))] 0 0 2 [(3, .int (iI x)), (0, .ref q), (1, .int (iI ((a : Nat) : Int))), (2, .int (iI ((b : Nat) : Int)))] [] := by
    intro c
    induction c with
    | zero => intro i x h1 h2 hai hx hz; omega
    | succ c ih =>
      intro i x h1 h2 hai hx hz
      refine go_iload_n O dX3_isZero_2 rfl 0 rfl 3 rfl ?_
      refine go_iload_n O dX3_isZero_3 rfl 3 rfl 4 rfl ?_
      refine go_icmp_ge O dX3_isZero_4 21 (by decide) 7 rfl (by omega) (by omega) (fun h4 => ?_) (fun h4 => ?_)
      · refine go_iconst O dX3_isZero_21 22 rfl ?_
        exact hret _ _ _ () dX3_isZero_22 rfl (Or.inl ⟨rfl, fun j e1 e2 => hz j e1 (by omega)⟩)
      · refine go_aload_n O dX3_isZero_7 rfl 1 rfl 8 rfl ?_
        refine go_iload_n O dX3_isZero_8 rfl 0 rfl 9 rfl ?_
        refine go_iald O hK dX3_isZero_9 0 0 rfl rfl i hx (by omega) (by omega) ((W / 10 ^ i % 10 : Nat) : Int) rfl 10 rfl ?_
        refine go_if_eq O dX3_isZero_10 15 (by decide) 13 rfl (by omega) (fun h10 => ?_) (fun h10 => ?_)
        · refine go_iinc O dX3_isZero_15 0 rfl ((i + 1 : Nat) : Int) (by omega) (by decide) [(3, .int (iI ((i + 1 : Nat) : Int))), (0, .ref q), (1, .int (iI ((a : Nat) : Int))), (2, .int (iI ((b : Nat) : Int)))] rfl 18 rfl ?_
          refine go_goto O dX3_isZero_18 2 (by decide) ?_
          refine TGo.lsub (lv' := [(3, .int (iI ((i + 1 : Nat) : Int))), (0, .ref q), (1, .int (iI ((a : Nat) : Int))), (2, .int (iI ((b : Nat) : Int)))]) [0, 1, 2, 3] rfl ?_
          exact ih (i + 1) _ (by omega) (by omega) (by omega) (by omega) (fun j e1 e2 => if e : j < i then hz j e1 e else (by have e3 : j = i := (by omega); rw [e3]; omega))
        · refine go_iconst O dX3_isZero_13 14 rfl ?_
          exact hret _ _ _ () dX3_isZero_14 rfl (Or.inr ⟨rfl, i, hai, by omega, by omega⟩)
  refine go_iload_n O dX3_isZero_0 rfl 1 rfl 1 rfl ?_
  refine go_istore_n O dX3_isZero_1 rfl (by decide) [(3, .int (iI ((a : Nat) : Int))), (0, .ref q), (1, .int (iI ((a : Nat) : Int))), (2, .int (iI ((b : Nat) : Int)))] rfl 2 rfl ?_
  refine TGo.lsub (lv' := [(3, .int (iI ((a : Nat) : Int))), (0, .ref q), (1, .int (iI ((a : Nat) : Int))), (2, .int (iI ((b : Nat) : Int)))]) [0, 1, 2, 3] rfl ?_
  exact lp (b + 1 - a) a _ (by omega) hab (Nat.le_refl _) rfl (fun j e1 e2 => absurd e2 (by omega))
set_option maxHeartbeats 4000000 in
set_option maxRecDepth 100000 in
/-- asLong: the number of some digits -/
theorem c_X3_asLong (E : TEn) (hE : EnvOk E) (q : Nat) (cI : ClassId) (n W a ct : Nat) (hn : n < 2147483648) (hb : a + ct ≤ n) : Ctl vwCl E yX3_asLong wsX3_asLong (rmn 0 0) [.ref q, .int (iI ((a : Nat) : Int)), .int (iI ((ct : Nat) : Int))] [(q, .inl (cI, n, .inl (dg W)))] [(cI, .int)] (fun (z : Int) (_ : Unit) => z = ((W / 10 ^ a % 10 ^ ct : Nat) : Int)) (fun _ => [(q, .inl (cI, n, .inl (dg W)))]) := by
  refine enterl (by decide) (Nat.le_of_ble_eq_true rfl) ?_
  intro X O hK hin2 hret
  show TGo X [(q, .inl (cI, n, .inl (dg W)))] 0 0 0 [(0, .ref q), (1, .int (iI ((a : Nat) : Int))), (2, .int (iI ((ct : Nat) : Int)))] []
  have lp : ∀ (c : Nat) (i : Nat) (x : Int) (v : Nat), c = i + 1 → i ≤ ct → x = (a : Int) + (i : Int) - 1 → v = W / 10 ^ (a + i) % 10 ^ (ct - i) → TGo X [(q, .inl (cI, n, .inl (dg W)))] 0 0 9 [(3, .long (lI ((v : Nat) : Int))), (5, .int (iI x)), (0, .ref q), (1, .int (iI ((a : Nat) : Int))), (2, .int (iI ((ct : Nat) : Int)))] [] := by
    intro c
    induction c with
    | zero => intro i x v h1 h2 hx hv; omega
    | succ c ih =>
      intro i x v h1 h2 hx hv
      refine go_iload O dX3_asLong_9 1 rfl 11 rfl ?_
      refine go_iload_n O dX3_asLong_11 rfl 3 rfl 12 rfl ?_
      refine go_icmp_lt O dX3_asLong_12 33 (by decide) 15 rfl (by omega) (by omega) (fun h12 => ?_) (fun h12 => ?_)
      · refine go_lload_n O dX3_asLong_33 rfl 0 rfl 34 rfl ?_
        exact hret _ _ _ () dX3_asLong_34 (by have e : i = 0 := (by omega); subst e; rw [hv, Nat.sub_zero, Nat.add_zero])
      · refine go_lload_n O dX3_asLong_15 rfl 0 rfl 16 rfl ?_
        refine go_ldc2 O dX3_asLong_16 (10) kcX3_232 (by decide) 19 rfl ?_
        refine go_lmul O dX3_asLong_19 ((v * 10 : Nat) : Int) (by omega) 20 rfl ?_
        obtain ⟨k, rfl⟩ : ∃ k, i = k + 1 := ⟨i - 1, by omega⟩
        refine go_aload_n O dX3_asLong_20 rfl 2 rfl 21 rfl ?_
        refine go_iload O dX3_asLong_21 1 rfl 23 rfl ?_
        refine go_iald O hK dX3_asLong_23 0 0 rfl rfl (a + k) (by omega) (by omega) (by omega) ((W / 10 ^ (a + k) % 10 : Nat) : Int) rfl 24 rfl ?_
        refine go_i2l O dX3_asLong_24 (r32_dg _ _) 25 rfl ?_
        refine go_ladd O dX3_asLong_25 ((v * 10 + W / 10 ^ (a + k) % 10 : Nat) : Int) (Int.natCast_add _ _).symm 26 rfl ?_
        refine go_lstore_n O dX3_asLong_26 rfl (by decide) [(3, .long (lI ((v * 10 + W / 10 ^ (a + k) % 10 : Nat) : Int))), (5, .int (iI x)), (0, .ref q), (1, .int (iI ((a : Nat) : Int))), (2, .int (iI ((ct : Nat) : Int)))] rfl 27 rfl ?_
        refine go_iinc O dX3_asLong_27 1 rfl (x - 1) (by omega) (by decide) [(5, .int (iI (x - 1))), (3, .long (lI ((v * 10 + W / 10 ^ (a + k) % 10 : Nat) : Int))), (0, .ref q), (1, .int (iI ((a : Nat) : Int))), (2, .int (iI ((ct : Nat) : Int)))] rfl 30 rfl ?_
        refine go_goto O dX3_asLong_30 9 (by decide) ?_
        refine TGo.lsub (lv' := [(3, .long (lI ((v * 10 + W / 10 ^ (a + k) % 10 : Nat) : Int))), (5, .int (iI (x - 1))), (0, .ref q), (1, .int (iI ((a : Nat) : Int))), (2, .int (iI ((ct : Nat) : Int)))]) [1, 0, 2, 3, 4] rfl ?_
        exact ih k _ _ (by omega) (by omega) (by omega) (by rw [show ct - k = (ct - (k + 1)) + 1 by omega, tmod10s, ← tq10, hv]; show _ = 10 * (W / 10 ^ (a + (k + 1)) % 10 ^ (ct - (k + 1))) + _; omega)
  refine go_lconst O dX3_asLong_0 0 rfl 1 rfl ?_
  refine go_lstore_n O dX3_asLong_1 rfl (by decide) [(3, .long (lI 0)), (0, .ref q), (1, .int (iI ((a : Nat) : Int))), (2, .int (iI ((ct : Nat) : Int)))] rfl 2 rfl ?_
  refine go_iload_n O dX3_asLong_2 rfl 2 rfl 3 rfl ?_
  refine go_iload_n O dX3_asLong_3 rfl 3 rfl 4 rfl ?_
  refine go_iadd O dX3_asLong_4 ((a : Int) + (ct : Int)) rfl 5 rfl ?_
  refine go_iconst O dX3_asLong_5 6 rfl ?_
  refine go_isub O dX3_asLong_6 ((a : Int) + (ct : Int) - 1) rfl 7 rfl ?_
  refine go_istore O dX3_asLong_7 (by decide) [(5, .int (iI ((a : Int) + (ct : Int) - 1))), (3, .long (lI 0)), (0, .ref q), (1, .int (iI ((a : Nat) : Int))), (2, .int (iI ((ct : Nat) : Int)))] rfl 9 rfl ?_
  refine TGo.lsub (lv' := [(3, .long (lI 0)), (5, .int (iI ((a : Int) + (ct : Int) - 1))), (0, .ref q), (1, .int (iI ((a : Nat) : Int))), (2, .int (iI ((ct : Nat) : Int)))]) [1, 0, 2, 3, 4] rfl ?_
  exact lp (ct + 1) ct _ 0 rfl (Nat.le_refl _) rfl (by rw [Nat.sub_self, Nat.pow_zero, Nat.mod_one])
set_option maxHeartbeats 4000000 in
set_option maxRecDepth 100000 in
/-- Work.clear -/
theorem c_X2_clear (E : TEn) (hE : EnvOk E) (hw qrow qfac : Nat) (cI : ClassId) (ng go : Bool) (f : Nat → Int32) : Ctv vwCl E yX2_clear wsX2_clear (rmn 1 23) [.ref hw] [(hw, .inr (2, [.ref qrow, .ref qfac, .int (iI (bz ng)), .int (iI (bz go))])), (qrow, .inl (cI, 72, .inl f))] [(cI, .int)] (fun _ : Unit => True) (fun _ => [(hw, .inr (2, [.ref qrow, .ref qfac, .int (iI 0), .int (iI 0)])), (qrow, .inl (cI, 72, .inl (dg 0)))]) := by
  refine enterv (by decide) (Nat.le_of_ble_eq_true rfl) ?_
  intro X O hK hin2 hret
  show TGo X [(hw, .inr (2, [.ref qrow, .ref qfac, .int (iI (bz ng)), .int (iI (bz go))])), (qrow, .inl (cI, 72, .inl f))] 0 0 0 [(0, .ref hw)] []
  refine go_aload_n O dX2_clear_0 rfl 0 rfl 1 rfl ?_
  refine go_get O hK dX2_clear_1 hinX2 0 rfl rfl 0 (by decide) flX2_9 rfl 4 rfl ?_
  refine go_iconst O dX2_clear_4 5 rfl ?_
  refine go_callvS (rest := []) (wr := [(hw, .inr (2, [.ref qrow, .ref qfac, .int (iI (bz ng)), .int (iI (bz go))]))]) O hK hE (c_J7_fill E hE qrow cI f 0 (by omega)) mlX2_18 smJ7_fill inJ7 cdJ7_fill 2 (by decide +kernel) ⟨Nat.le_of_ble_eq_true rfl, Nat.le_of_ble_eq_true rfl⟩ [0] rfl [1] rfl (by decide) [0] rfl (by decide) (by decide) rfl rfl (Nat.le_of_ble_eq_true rfl) ⟨Nat.zero_le _, Nat.zero_le _⟩ dX2_clear_5 8 rfl (fun u hu => ?_)
  show TGo X [(hw, .inr (2, [.ref qrow, .ref qfac, .int (iI (bz ng)), .int (iI (bz go))])), (qrow, .inl (cI, 72, .inl (fun _ => iI 0)))] 0 0 8 [(0, .ref hw)] []
  refine go_aload_n O dX2_clear_8 rfl 0 rfl 9 rfl ?_
  refine go_iconst O dX2_clear_9 10 rfl ?_
  refine go_put O hK dX2_clear_10 hinX2 tyX2 tyX2_ok nmX2 0 rfl rfl 2 (by decide) flX2_24 rfl rfl rfl rfl (Nat.le_of_ble_eq_true rfl) [(hw, .inr (2, [.ref qrow, .ref qfac, .int (iI 0), .int (iI (bz go))])), (qrow, .inl (cI, 72, .inl (fun _ => iI 0)))] rfl 13 rfl ?_
  refine go_aload_n O dX2_clear_13 rfl 0 rfl 14 rfl ?_
  refine go_iconst O dX2_clear_14 15 rfl ?_
  refine go_put O hK dX2_clear_15 hinX2 tyX2 tyX2_ok nmX2 0 rfl rfl 3 (by decide) flX2_28 rfl rfl rfl rfl (Nat.le_of_ble_eq_true rfl) [(hw, .inr (2, [.ref qrow, .ref qfac, .int (iI 0), .int (iI 0)])), (qrow, .inl (cI, 72, .inl (fun _ => iI 0)))] rfl 18 rfl ?_
  refine TGo.arr 1 rfl (dg 0) (fun j _ => (dg_zero j).symm) (ws' := [(hw, .inr (2, [.ref qrow, .ref qfac, .int (iI 0), .int (iI 0)])), (qrow, .inl (cI, 72, .inl (dg 0)))]) rfl ?_
  exact hret _ _ () dX2_clear_18 trivial
set_option maxHeartbeats 4000000 in
set_option maxRecDepth 100000 in
/-- Work.load: a row, shifted -/
theorem c_X2_load (E : TEn) (hE : EnvOk E) (hw qrow qfac : Nat) (cI : ClassId) (ng go : Bool) (q n V pl : Nat) (f : Nat → Int32) (asn : Bool) (hn : n ≤ 72) (hV : V < 10 ^ n) (hpl : pl + n ≤ 72) : Ctv vwCl E yX2_load wsX2_load (rmn 2 43) [.ref hw, .ref q, .int (iI ((pl : Nat) : Int)), .int (iI (bz asn))] [(hw, .inr (2, [.ref qrow, .ref qfac, .int (iI (bz ng)), .int (iI (bz go))])), (qrow, .inl (cI, 72, .inl f)), (q, .inl (cI, n, .inl (dg V)))] [(cI, .int)] (fun _ : Unit => True) (fun _ => [(hw, .inr (2, [.ref qrow, .ref qfac, .int (iI (bz asn)), .int (iI 0)])), (qrow, .inl (cI, 72, .inl (dg (V * 10 ^ pl)))), (q, .inl (cI, n, .inl (dg V)))]) := by
  refine enterv (by decide) (Nat.le_of_ble_eq_true rfl) ?_
  intro X O hK hin2 hret
  show TGo X [(hw, .inr (2, [.ref qrow, .ref qfac, .int (iI (bz ng)), .int (iI (bz go))])), (qrow, .inl (cI, 72, .inl f)), (q, .inl (cI, n, .inl (dg V)))] 0 0 0 [(0, .ref hw), (1, .ref q), (2, .int (iI ((pl : Nat) : Int))), (3, .int (iI (bz asn)))] []
  refine go_aload_n O dX2_load_0 rfl 0 rfl 1 rfl ?_
  refine go_callvV (As := []) (rest := []) (wr := [(q, .inl (cI, n, .inl (dg V)))]) O hK hE (c_X2_clear E hE hw qrow qfac cI ng go f) mlX2_31 imX2_clear seX2_clear inX2 cdX2_clear 0 (by decide +kernel) ⟨Nat.le_of_ble_eq_true rfl, Nat.le_of_ble_eq_true rfl⟩ 0 rfl rfl [0] rfl [0, 1] rfl (by decide) [2] rfl (by decide) (by decide) rfl rfl (Nat.le_of_ble_eq_true rfl) ⟨Nat.zero_le _, Nat.zero_le _⟩ dX2_load_1 4 rfl (fun u hu => ?_)
  show TGo X [(q, .inl (cI, n, .inl (dg V))), (hw, .inr (2, [.ref qrow, .ref qfac, .int (iI 0), .int (iI 0)])), (qrow, .inl (cI, 72, .inl (dg 0)))] 0 0 4 [(0, .ref hw), (1, .ref q), (2, .int (iI ((pl : Nat) : Int))), (3, .int (iI (bz asn)))] []
  refine TGo.sub (ws' := [(hw, .inr (2, [.ref qrow, .ref qfac, .int (iI 0), .int (iI 0)])), (qrow, .inl (cI, 72, .inl (dg 0))), (q, .inl (cI, n, .inl (dg V)))]) [1, 2, 0] (by decide) rfl ?_
  refine go_aload_n O dX2_load_4 rfl 1 rfl 5 rfl ?_
  refine go_iconst O dX2_load_5 6 rfl ?_
  refine go_aload_n O dX2_load_6 rfl 0 rfl 7 rfl ?_
  refine go_get O hK dX2_load_7 hinX2 0 rfl rfl 0 (by decide) flX2_9 rfl 10 rfl ?_
  refine go_iload_n O dX2_load_10 rfl 2 rfl 11 rfl ?_
  refine go_aload_n O dX2_load_11 rfl 1 rfl 12 rfl ?_
  refine go_alen O hK dX2_load_12 2 0 rfl rfl ((n : Nat) : Int) (iI_nat _).symm 13 rfl ?_
  refine go_copyi O hK dX2_load_13 mlX2_34 naSys smSys inJ10 2 1 0 0 rfl rfl rfl rfl 0 pl n rfl rfl rfl (by omega) (by omega) (by omega) (by omega) (dg (V * 10 ^ pl)) (fun j _ => cpy_place hV j) [(hw, .inr (2, [.ref qrow, .ref qfac, .int (iI 0), .int (iI 0)])), (qrow, .inl (cI, 72, .inl (dg (V * 10 ^ pl)))), (q, .inl (cI, n, .inl (dg V)))] rfl (Nat.le_of_ble_eq_true rfl) (Nat.le_of_ble_eq_true rfl) 16 rfl ?_
  refine go_aload_n O dX2_load_16 rfl 0 rfl 17 rfl ?_
  refine go_iload_n O dX2_load_17 rfl 3 rfl 18 rfl ?_
  refine go_put O hK dX2_load_18 hinX2 tyX2 tyX2_ok nmX2 0 rfl rfl 2 (by decide) flX2_24 rfl rfl (nar_b (bz_01 _)) (fit_b (bz_01 _)) (Nat.le_of_ble_eq_true rfl) [(hw, .inr (2, [.ref qrow, .ref qfac, .int (iI (bz asn)), .int (iI 0)])), (qrow, .inl (cI, 72, .inl (dg (V * 10 ^ pl)))), (q, .inl (cI, n, .inl (dg V)))] rfl 21 rfl ?_
  exact hret _ _ () dX2_load_21 trivial
set_option maxHeartbeats 4000000 in
set_option maxRecDepth 100000 in
/-- Work.spell: the digits of |n| from a place on -/
theorem c_X2_spell (E : TEn) (hE : EnvOk E) (q : Nat) (cI : ClassId) (n pl : Nat) (f : Nat → Int32) (v : Int) (hv : r64 v) (hn : n < 2147483648) (hpl : pl + 19 ≤ n) : Ctv vwCl E yX2_spell wsX2_spell (rmn 1 21) [.long (lI v), .ref q, .int (iI ((pl : Nat) : Int))] [(q, .inl (cI, n, .inl f))] [(cI, .int)] (fun u : Nat → Int32 => (∀ j, j < 19 → u (pl + j) = dg v.natAbs j) ∧ ∀ j, ¬ (pl ≤ j ∧ j < pl + 19) → u j = f j) (fun u => [(q, .inl (cI, n, .inl u))]) := by
  refine enterv (by decide) (Nat.le_of_ble_eq_true rfl) ?_
  intro X O hK hin2 hret
  show TGo X [(q, .inl (cI, n, .inl f))] 0 0 0 [(0, .long (lI v)), (2, .ref q), (3, .int (iI ((pl : Nat) : Int)))] []
  have lp : ∀ (c : Nat) (i : Nat) (ρ : Int) (x : Int) (g : Nat → Int32), c + i = 20 → i ≤ 19 → x = (i : Int) → r64 ρ → ρ.natAbs = v.natAbs / 10 ^ i → (∀ j, j < i → g (pl + j) = dg v.natAbs j) → (∀ j, ¬ (pl ≤ j ∧ j < pl + 19) → g j = f j) → TGo X [(q, .inl (cI, n, .inl g))] 0 0 6 [(4, .long (lI ρ)), (6, .int (iI x)), (0, .long (lI v)), (2, .ref q), (3, .int (iI ((pl : Nat) : Int)))] [] := by
    intro c
    induction c with
    | zero => intro i ρ x g h1 h2 hx hρ hnn hlo hot; omega
    | succ c ih =>
      intro i ρ x g h1 h2 hx hρ hnn hlo hot
      refine go_iload O dX2_spell_6 1 rfl 8 rfl ?_
      refine go_bipush O dX2_spell_8 (by decide) 10 rfl ?_
      refine go_icmp_ge O dX2_spell_10 43 (by decide) 13 rfl (by omega) (by omega) (fun h10 => ?_) (fun h10 => ?_)
      · exact hret _ _ g dX2_spell_43 ⟨fun j e => hlo j (by omega), hot⟩
      · have t10 := tm10 ρ
        refine go_aload_n O dX2_spell_13 rfl 3 rfl 14 rfl ?_
        refine go_iload_n O dX2_spell_14 rfl 4 rfl 15 rfl ?_
        refine go_iload O dX2_spell_15 1 rfl 17 rfl ?_
        refine go_iadd O dX2_spell_17 ((pl + i : Nat) : Int) (by omega) 18 rfl ?_
        refine go_lload O dX2_spell_18 0 rfl 20 rfl ?_
        refine go_ldc2 O dX2_spell_20 (10) kcX2_44 (by decide) 23 rfl ?_
        refine go_lrem O dX2_spell_23 hρ (by omega) (by omega) (by omega) (ρ.tmod 10) rfl 24 rfl ?_
        refine go_calllS (rest := [.int (iI ((pl + i : Nat) : Int)), .ref q]) (wr := [(q, .inl (cI, n, .inl g))]) O hK hE (c_J9_abs E hE (ρ.tmod 10) (by omega)) mlX2_46 smJ9_abs inJ9 cdJ9_abs 1 (by decide +kernel) ⟨Nat.le_of_ble_eq_true rfl, Nat.le_of_ble_eq_true rfl⟩ [] rfl [] rfl (by decide) [0] rfl (by decide) (by decide) rfl rfl (Nat.le_of_ble_eq_true rfl) ⟨Nat.zero_le _, Nat.zero_le _⟩ dX2_spell_24 27 rfl (fun z u hu => ?_)
        rw [t10.2.2.1] at hu
        subst hu
        show TGo X [(q, .inl (cI, n, .inl g))] 0 0 27 [(4, .long (lI ρ)), (6, .int (iI x)), (0, .long (lI v)), (2, .ref q), (3, .int (iI ((pl : Nat) : Int)))] [.long (lI ((ρ.natAbs % 10 : Nat) : Int)), .int (iI ((pl + i : Nat) : Int)), .ref q]
        refine go_l2i O dX2_spell_27 28 rfl ?_
        refine go_iast O hK dX2_spell_28 0 0 rfl rfl (pl + i) rfl (by omega) (by omega) (upd g (pl + i) (iI ((ρ.natAbs % 10 : Nat) : Int))) (fun _ _ => rfl) [(q, .inl (cI, n, .inl (upd g (pl + i) (iI ((ρ.natAbs % 10 : Nat) : Int)))))] rfl 29 rfl ?_
        refine go_lload O dX2_spell_29 0 rfl 31 rfl ?_
        refine go_ldc2 O dX2_spell_31 (10) kcX2_44 (by decide) 34 rfl ?_
        refine go_ldiv O dX2_spell_34 hρ (by omega) (by omega) (by omega) (ρ.tdiv 10) rfl 35 rfl ?_
        refine go_lstore O dX2_spell_35 (by decide) [(4, .long (lI (ρ.tdiv 10))), (6, .int (iI x)), (0, .long (lI v)), (2, .ref q), (3, .int (iI ((pl : Nat) : Int)))] rfl 37 rfl ?_
        refine go_iinc O dX2_spell_37 1 rfl ((i + 1 : Nat) : Int) (by omega) (by decide) [(6, .int (iI ((i + 1 : Nat) : Int))), (4, .long (lI (ρ.tdiv 10))), (0, .long (lI v)), (2, .ref q), (3, .int (iI ((pl : Nat) : Int)))] rfl 40 rfl ?_
        refine go_goto O dX2_spell_40 6 (by decide) ?_
        refine TGo.lsub (lv' := [(4, .long (lI (ρ.tdiv 10))), (6, .int (iI ((i + 1 : Nat) : Int))), (0, .long (lI v)), (2, .ref q), (3, .int (iI ((pl : Nat) : Int)))]) [1, 0, 2, 3, 4] rfl ?_
        exact ih (i + 1) _ _ _ (by omega) (by omega) (by omega) (by omega) (by rw [t10.2.2.2, hnn, tq10]) (spell_lo hlo (by rw [dg_at, ← hnn])) (spell_ot (by omega) hot)
  refine go_lload_n O dX2_spell_0 rfl 0 rfl 1 rfl ?_
  refine go_lstore O dX2_spell_1 (by decide) [(4, .long (lI v)), (0, .long (lI v)), (2, .ref q), (3, .int (iI ((pl : Nat) : Int)))] rfl 3 rfl ?_
  refine go_iconst O dX2_spell_3 4 rfl ?_
  refine go_istore O dX2_spell_4 (by decide) [(6, .int (iI 0)), (4, .long (lI v)), (0, .long (lI v)), (2, .ref q), (3, .int (iI ((pl : Nat) : Int)))] rfl 6 rfl ?_
  refine TGo.lsub (lv' := [(4, .long (lI v)), (6, .int (iI 0)), (0, .long (lI v)), (2, .ref q), (3, .int (iI ((pl : Nat) : Int)))]) [1, 0, 2, 3, 4] rfl ?_
  exact lp 20 0 v _ f (by omega) (by omega) (by omega) hv (by rw [tqz]) (fun j a => absurd a (by omega)) (fun _ _ => rfl)
set_option maxHeartbeats 4000000 in
set_option maxRecDepth 100000 in
/-- Work.loadNumber -/
theorem c_X2_loadNumber (E : TEn) (hE : EnvOk E) (hw qrow qfac : Nat) (cI : ClassId) (ng go : Bool) (pl : Nat) (f : Nat → Int32) (v : Int) (hv : r64 v) (hpl : pl + 19 ≤ 72) : Ctv vwCl E yX2_loadNumber wsX2_loadNumber (rmn 2 47) [.ref hw, .long (lI v), .int (iI ((pl : Nat) : Int))] [(hw, .inr (2, [.ref qrow, .ref qfac, .int (iI (bz ng)), .int (iI (bz go))])), (qrow, .inl (cI, 72, .inl f))] [(cI, .int)] (fun _ : Unit => True) (fun _ => [(hw, .inr (2, [.ref qrow, .ref qfac, .int (iI (bz (decide (v < 0)))), .int (iI 0)])), (qrow, .inl (cI, 72, .inl (dg (v.natAbs * 10 ^ pl))))]) := by
  refine enterv (by decide) (Nat.le_of_ble_eq_true rfl) ?_
  intro X O hK hin2 hret
  show TGo X [(hw, .inr (2, [.ref qrow, .ref qfac, .int (iI (bz ng)), .int (iI (bz go))])), (qrow, .inl (cI, 72, .inl f))] 0 0 0 [(0, .ref hw), (1, .long (lI v)), (3, .int (iI ((pl : Nat) : Int)))] []
  have hc := cmpZ_ge (a := v) (b := 0)
  have hv19 : v.natAbs < 10 ^ 19 := by omega
  refine go_aload_n O dX2_loadNumber_0 rfl 0 rfl 1 rfl ?_
  refine go_callvV (As := []) (rest := []) (wr := []) O hK hE (c_X2_clear E hE hw qrow qfac cI ng go f) mlX2_31 imX2_clear seX2_clear inX2 cdX2_clear 0 (by decide +kernel) ⟨Nat.le_of_ble_eq_true rfl, Nat.le_of_ble_eq_true rfl⟩ 0 rfl rfl [0] rfl [0, 1] rfl (by decide) [] rfl (by decide) (by decide) rfl rfl (Nat.le_of_ble_eq_true rfl) ⟨Nat.zero_le _, Nat.zero_le _⟩ dX2_loadNumber_1 4 rfl (fun u hu => ?_)
  show TGo X [(hw, .inr (2, [.ref qrow, .ref qfac, .int (iI 0), .int (iI 0)])), (qrow, .inl (cI, 72, .inl (dg 0)))] 0 0 4 [(0, .ref hw), (1, .long (lI v)), (3, .int (iI ((pl : Nat) : Int)))] []
  refine go_lload_n O dX2_loadNumber_4 rfl 1 rfl 5 rfl ?_
  refine go_aload_n O dX2_loadNumber_5 rfl 0 rfl 6 rfl ?_
  refine go_get O hK dX2_loadNumber_6 hinX2 0 rfl rfl 0 (by decide) flX2_9 rfl 9 rfl ?_
  refine go_iload_n O dX2_loadNumber_9 rfl 2 rfl 10 rfl ?_
  refine go_callvS (rest := []) (wr := [(hw, .inr (2, [.ref qrow, .ref qfac, .int (iI 0), .int (iI 0)]))]) O hK hE (c_X2_spell E hE qrow cI 72 pl (dg 0) v hv (by omega) hpl) mlX2_40 smX2_spell inX2 cdX2_spell 3 (by decide +kernel) ⟨Nat.le_of_ble_eq_true rfl, Nat.le_of_ble_eq_true rfl⟩ [0] rfl [1] rfl (by decide) [0] rfl (by decide) (by decide) rfl rfl (Nat.le_of_ble_eq_true rfl) ⟨Nat.zero_le _, Nat.zero_le _⟩ dX2_loadNumber_10 13 rfl (fun u hu => ?_)
  have hd := dg_place hv19 hu.1 (fun j e => by rw [hu.2 j e, dg_zero])
  show TGo X [(hw, .inr (2, [.ref qrow, .ref qfac, .int (iI 0), .int (iI 0)])), (qrow, .inl (cI, 72, .inl u))] 0 0 13 [(0, .ref hw), (1, .long (lI v)), (3, .int (iI ((pl : Nat) : Int)))] []
  refine go_aload_n O dX2_loadNumber_13 rfl 0 rfl 14 rfl ?_
  refine go_lload_n O dX2_loadNumber_14 rfl 1 rfl 15 rfl ?_
  refine go_lconst O dX2_loadNumber_15 0 rfl 16 rfl ?_
  refine go_lcmp O dX2_loadNumber_16 (by omega) (by omega) 17 rfl ?_
  refine go_if_ge O dX2_loadNumber_17 24 (by decide) 20 rfl (cmpZ_r _ _) (fun h17 => ?_) (fun h17 => ?_)
  · refine go_iconst O dX2_loadNumber_24 25 rfl ?_
    refine TGo.arr 1 rfl (dg (v.natAbs * 10 ^ pl)) (fun j _ => hd j) (ws' := [(hw, .inr (2, [.ref qrow, .ref qfac, .int (iI 0), .int (iI 0)])), (qrow, .inl (cI, 72, .inl (dg (v.natAbs * 10 ^ pl))))]) rfl ?_
    refine TGo.topi (y := bz (decide (v < 0))) (by rw [decide_eq_false (by omega)]; rfl) ?_
    refine go_put O hK dX2_loadNumber_25 hinX2 tyX2 tyX2_ok nmX2 0 rfl rfl 2 (by decide) flX2_24 rfl rfl (nar_b (bz_01 _)) (fit_b (bz_01 _)) (Nat.le_of_ble_eq_true rfl) [(hw, .inr (2, [.ref qrow, .ref qfac, .int (iI (bz (decide (v < 0)))), .int (iI 0)])), (qrow, .inl (cI, 72, .inl (dg (v.natAbs * 10 ^ pl))))] rfl 28 rfl ?_
    exact hret _ _ () dX2_loadNumber_28 trivial
  · refine go_iconst O dX2_loadNumber_20 21 rfl ?_
    refine go_goto O dX2_loadNumber_21 25 (by decide) ?_
    refine TGo.arr 1 rfl (dg (v.natAbs * 10 ^ pl)) (fun j _ => hd j) (ws' := [(hw, .inr (2, [.ref qrow, .ref qfac, .int (iI 0), .int (iI 0)])), (qrow, .inl (cI, 72, .inl (dg (v.natAbs * 10 ^ pl))))]) rfl ?_
    refine TGo.topi (y := bz (decide (v < 0))) (by rw [decide_eq_true (by omega)]; rfl) ?_
    refine go_put O hK dX2_loadNumber_25 hinX2 tyX2 tyX2_ok nmX2 0 rfl rfl 2 (by decide) flX2_24 rfl rfl (nar_b (bz_01 _)) (fit_b (bz_01 _)) (Nat.le_of_ble_eq_true rfl) [(hw, .inr (2, [.ref qrow, .ref qfac, .int (iI (bz (decide (v < 0)))), .int (iI 0)])), (qrow, .inl (cI, 72, .inl (dg (v.natAbs * 10 ^ pl))))] rfl 28 rfl ?_
    exact hret _ _ () dX2_loadNumber_28 trivial
set_option maxHeartbeats 4000000 in
set_option maxRecDepth 100000 in
/-- Work.size -/
theorem c_X2_size (E : TEn) (hE : EnvOk E) (hw qrow qfac : Nat) (cI : ClassId) (ng go : Bool) (W : Nat) (hW : W < 10 ^ 72) : Cti vwCl E yX2_size wsX2_size (rmn 0 0) [.ref hw] [(hw, .inr (2, [.ref qrow, .ref qfac, .int (iI (bz ng)), .int (iI (bz go))])), (qrow, .inl (cI, 72, .inl (dg W)))] [(cI, .int)] (fun (z : Int) (_ : Unit) => z = (tnds W : Int)) (fun _ => [(hw, .inr (2, [.ref qrow, .ref qfac, .int (iI (bz ng)), .int (iI (bz go))])), (qrow, .inl (cI, 72, .inl (dg W)))]) := by
  refine enteri (by decide) (Nat.le_of_ble_eq_true rfl) ?_
  intro X O hK hin2 hret
  show TGo X [(hw, .inr (2, [.ref qrow, .ref qfac, .int (iI (bz ng)), .int (iI (bz go))])), (qrow, .inl (cI, 72, .inl (dg W)))] 0 0 0 [(0, .ref hw)] []
  have lp : ∀ (c : Nat) (i : Nat) (x : Int), c = i + 1 → i ≤ 72 → x = (i : Int) → (∀ j, i ≤ j → j < 72 → W / 10 ^ j % 10 = 0) → TGo X [(hw, .inr (2, [.ref qrow, .ref qfac, .int (iI (bz ng)), .int (iI (bz go))])), (qrow, .inl (cI, 72, .inl (dg W)))] 0 0 3 [(1, .int (iI x)), (0, .ref hw)] [] := by
    intro c
    induction c with
    | zero => intro i x h1 h2 hx hz; omega
    | succ c ih =>
      intro i x h1 h2 hx hz
      refine go_iload_n O dX2_size_3 rfl 0 rfl 4 rfl ?_
      refine go_if_le O dX2_size_4 26 (by decide) 7 rfl (by omega) (fun h4 => ?_) (fun h4 => ?_)
      · refine go_iconst O dX2_size_26 27 rfl ?_
        exact hret _ _ _ () dX2_size_27 rfl (by have e : i = 0 := (by omega); subst e; rw [tnds_scan (N := W) (s := 0) (e := 72) hW (by omega) hz (Or.inl rfl)]; rfl)
      · refine go_aload_n O dX2_size_7 rfl 1 rfl 8 rfl ?_
        refine go_get O hK dX2_size_8 hinX2 0 rfl rfl 0 (by decide) flX2_9 rfl 11 rfl ?_
        refine go_iload_n O dX2_size_11 rfl 0 rfl 12 rfl ?_
        refine go_iconst O dX2_size_12 13 rfl ?_
        obtain ⟨k, rfl⟩ : ∃ k, i = k + 1 := ⟨i - 1, by omega⟩
        refine go_isub O dX2_size_13 ((k : Nat) : Int) (by omega) 14 rfl ?_
        refine go_iald O hK dX2_size_14 1 0 rfl rfl k rfl (by omega) (by omega) ((W / 10 ^ k % 10 : Nat) : Int) rfl 15 rfl ?_
        refine go_if_eq O dX2_size_15 20 (by decide) 18 rfl (by omega) (fun h15 => ?_) (fun h15 => ?_)
        · refine go_iinc O dX2_size_20 0 rfl (x - 1) (by omega) (by decide) [(1, .int (iI (x - 1))), (0, .ref hw)] rfl 23 rfl ?_
          refine go_goto O dX2_size_23 3 (by decide) ?_
          refine TGo.lsub (lv' := [(1, .int (iI (x - 1))), (0, .ref hw)]) [0, 1] rfl ?_
          exact ih k _ (by omega) (by omega) (by omega) (fun j e1 e2 => if e : k + 1 ≤ j then hz j e e2 else (by have e3 : j = k := (by omega); rw [e3]; omega))
        · refine go_iload_n O dX2_size_18 rfl 0 rfl 19 rfl ?_
          exact hret _ _ _ () dX2_size_19 rfl (by rw [hx, tnds_scan (N := W) (s := k + 1) (e := 72) hW (by omega) hz (Or.inr (by rw [Nat.add_sub_cancel]; omega))])
  refine go_bipush O dX2_size_0 (by decide) 2 rfl ?_
  refine go_istore_n O dX2_size_2 rfl (by decide) [(1, .int (iI 72)), (0, .ref hw)] rfl 3 rfl ?_
  refine TGo.lsub (lv' := [(1, .int (iI 72)), (0, .ref hw)]) [0, 1] rfl ?_
  exact lp 73 72 _ rfl (Nat.le_refl _) rfl (fun j e1 e2 => absurd e2 (by omega))
set_option maxHeartbeats 4000000 in
set_option maxRecDepth 100000 in
/-- Work.carry: signed places into digits -/
theorem c_X2_carry (E : TEn) (hE : EnvOk E) (hw qrow qfac : Nat) (cI : ClassId) (ng go : Bool) (zf : Nat → Int) (V : Nat) (hzb : ∀ i, i < 72 → -100000000 ≤ zf i ∧ zf i ≤ 100000000) (hV : (V : Int) = tv zf 0 72) : Ctv vwCl E yX2_carry wsX2_carry (rmn 1 22) [.ref hw] [(hw, .inr (2, [.ref qrow, .ref qfac, .int (iI (bz ng)), .int (iI (bz go))])), (qrow, .inl (cI, 72, .inl (fun j => iI (zf j))))] [(cI, .int)] (fun _ : Unit => True) (fun _ => [(hw, .inr (2, [.ref qrow, .ref qfac, .int (iI (bz ng)), .int (iI (bz go))])), (qrow, .inl (cI, 72, .inl (dg V)))]) := by
  refine enterv (by decide) (Nat.le_of_ble_eq_true rfl) ?_
  intro X O hK hin2 hret
  show TGo X [(hw, .inr (2, [.ref qrow, .ref qfac, .int (iI (bz ng)), .int (iI (bz go))])), (qrow, .inl (cI, 72, .inl (fun j => iI (zf j))))] 0 0 0 [(0, .ref hw)] []
  have lp : ∀ (c : Nat) (i : Nat) (x : Int) (y : Int) (g : Nat → Int32), c + i = 73 → i ≤ 72 → x = (i : Int) → (-100000000 ≤ y ∧ y ≤ 100000000) → ((V / 10 ^ i : Nat) : Int) = y + tv zf i (72 - i) → (∀ j, j < i → g j = dg V j) → (∀ j, i ≤ j → g j = iI (zf j)) → TGo X [(hw, .inr (2, [.ref qrow, .ref qfac, .int (iI (bz ng)), .int (iI (bz go))])), (qrow, .inl (cI, 72, .inl g))] 0 0 4 [(1, .int (iI y)), (2, .int (iI x)), (0, .ref hw)] [] := by
    intro c
    induction c with
    | zero => intro i x y g h1 h2 hx hy hV2 hlo hhi; omega
    | succ c ih =>
      intro i x y g h1 h2 hx hy hV2 hlo hhi
      refine go_iload_n O dX2_carry_4 rfl 1 rfl 5 rfl ?_
      refine go_bipush O dX2_carry_5 (by decide) 7 rfl ?_
      refine go_icmp_ge O dX2_carry_7 44 (by decide) 10 rfl (by omega) (by omega) (fun h7 => ?_) (fun h7 => ?_)
      · refine TGo.arr 1 rfl (dg V) (fun j hj => hlo j (by omega)) (ws' := [(hw, .inr (2, [.ref qrow, .ref qfac, .int (iI (bz ng)), .int (iI (bz go))])), (qrow, .inl (cI, 72, .inl (dg V)))]) rfl ?_
        exact hret _ _ () dX2_carry_44 trivial
      · refine go_aload_n O dX2_carry_10 rfl 2 rfl 11 rfl ?_
        refine go_get O hK dX2_carry_11 hinX2 0 rfl rfl 0 (by decide) flX2_9 rfl 14 rfl ?_
        refine go_iload_n O dX2_carry_14 rfl 1 rfl 15 rfl ?_
        refine go_iald O hK dX2_carry_15 1 0 rfl rfl i hx (by omega) (by omega) (zf i) (hhi i (Nat.le_refl _)) 16 rfl ?_
        have hzi := hzb i (by omega)
        have htv : ((V / 10 ^ i : Nat) : Int) = y + (zf i + 10 * tv zf (i + 1) (71 - i)) := by rw [hV2, show 72 - i = (71 - i) + 1 by omega, tv_s]
        refine go_iload_n O dX2_carry_16 rfl 0 rfl 17 rfl ?_
        refine go_iadd O dX2_carry_17 (zf i + y) rfl 18 rfl ?_
        refine go_istore_n O dX2_carry_18 rfl (by decide) [(3, .int (iI (zf i + y))), (1, .int (iI y)), (2, .int (iI x)), (0, .ref hw)] rfl 19 rfl ?_
        refine go_aload_n O dX2_carry_19 rfl 3 rfl 20 rfl ?_
        refine go_get O hK dX2_carry_20 hinX2 0 rfl rfl 0 (by decide) flX2_9 rfl 23 rfl ?_
        refine go_iload_n O dX2_carry_23 rfl 2 rfl 24 rfl ?_
        refine go_iload_n O dX2_carry_24 rfl 0 rfl 25 rfl ?_
        refine go_bipush O dX2_carry_25 (by decide) 27 rfl ?_
        refine go_calliS (rest := [.int (iI x), .ref qrow]) (wr := [(hw, .inr (2, [.ref qrow, .ref qfac, .int (iI (bz ng)), .int (iI (bz go))])), (qrow, .inl (cI, 72, .inl g))]) O hK hE (c_J9_floorMod E hE (zf i + y) (by omega)) mlX2_52 smJ9_floorMod inJ9 cdJ9_floorMod 2 (by decide +kernel) ⟨Nat.le_of_ble_eq_true rfl, Nat.le_of_ble_eq_true rfl⟩ [] rfl [] rfl (by decide) [0, 1] rfl (by decide) (by decide) rfl rfl (Nat.le_of_ble_eq_true rfl) ⟨Nat.zero_le _, Nat.zero_le _⟩ dX2_carry_27 30 rfl (fun z u hu => ?_)
        subst hu
        show TGo X [(hw, .inr (2, [.ref qrow, .ref qfac, .int (iI (bz ng)), .int (iI (bz go))])), (qrow, .inl (cI, 72, .inl g))] 0 0 30 [(3, .int (iI (zf i + y))), (1, .int (iI y)), (2, .int (iI x)), (0, .ref hw)] [.int (iI ((zf i + y) % 10)), .int (iI x), .ref qrow]
        refine go_iast O hK dX2_carry_30 1 0 rfl rfl i hx (by omega) (by omega) (upd g i (iI ((zf i + y) % 10))) (fun _ _ => rfl) [(hw, .inr (2, [.ref qrow, .ref qfac, .int (iI (bz ng)), .int (iI (bz go))])), (qrow, .inl (cI, 72, .inl (upd g i (iI ((zf i + y) % 10)))))] rfl 31 rfl ?_
        refine go_iload_n O dX2_carry_31 rfl 0 rfl 32 rfl ?_
        refine go_bipush O dX2_carry_32 (by decide) 34 rfl ?_
        refine go_calliS (rest := []) (wr := [(hw, .inr (2, [.ref qrow, .ref qfac, .int (iI (bz ng)), .int (iI (bz go))])), (qrow, .inl (cI, 72, .inl (upd g i (iI ((zf i + y) % 10)))))]) O hK hE (c_J9_floorDiv E hE (zf i + y) (by omega)) mlX2_56 smJ9_floorDiv inJ9 cdJ9_floorDiv 2 (by decide +kernel) ⟨Nat.le_of_ble_eq_true rfl, Nat.le_of_ble_eq_true rfl⟩ [] rfl [] rfl (by decide) [0, 1] rfl (by decide) (by decide) rfl rfl (Nat.le_of_ble_eq_true rfl) ⟨Nat.zero_le _, Nat.zero_le _⟩ dX2_carry_34 37 rfl (fun z u hu => ?_)
        subst hu
        show TGo X [(hw, .inr (2, [.ref qrow, .ref qfac, .int (iI (bz ng)), .int (iI (bz go))])), (qrow, .inl (cI, 72, .inl (upd g i (iI ((zf i + y) % 10)))))] 0 0 37 [(3, .int (iI (zf i + y))), (1, .int (iI y)), (2, .int (iI x)), (0, .ref hw)] [.int (iI ((zf i + y) / 10))]
        refine go_istore_n O dX2_carry_37 rfl (by decide) [(1, .int (iI ((zf i + y) / 10))), (3, .int (iI (zf i + y))), (2, .int (iI x)), (0, .ref hw)] rfl 38 rfl ?_
        refine go_iinc O dX2_carry_38 2 rfl ((i + 1 : Nat) : Int) (by omega) (by decide) [(2, .int (iI ((i + 1 : Nat) : Int))), (1, .int (iI ((zf i + y) / 10))), (3, .int (iI (zf i + y))), (0, .ref hw)] rfl 41 rfl ?_
        refine go_goto O dX2_carry_41 4 (by decide) ?_
        refine TGo.lsub (lv' := [(1, .int (iI ((zf i + y) / 10))), (2, .int (iI ((i + 1 : Nat) : Int))), (0, .ref hw)]) [1, 0, 3] rfl ?_
        exact ih (i + 1) _ _ _ (by omega) (by omega) (by omega) (by omega) (by rw [tq10, show 72 - (i + 1) = 71 - i by omega, ← tcar_step htv]; omega) (lo_upd hlo (by rw [dg_at, dg_int, tcar_dig htv])) (hi_upd (F := fun j => iI (zf j)) hhi)
  refine go_iconst O dX2_carry_0 1 rfl ?_
  refine go_istore_n O dX2_carry_1 rfl (by decide) [(1, .int (iI 0)), (0, .ref hw)] rfl 2 rfl ?_
  refine go_iconst O dX2_carry_2 3 rfl ?_
  refine go_istore_n O dX2_carry_3 rfl (by decide) [(2, .int (iI 0)), (1, .int (iI 0)), (0, .ref hw)] rfl 4 rfl ?_
  refine TGo.lsub (lv' := [(1, .int (iI 0)), (2, .int (iI 0)), (0, .ref hw)]) [1, 0, 2] rfl ?_
  exact lp 73 0 _ _ _ (by omega) (by omega) (by omega) (by omega) (by rw [tqz, hV, Int.zero_add]) (fun j a => absurd a (by omega)) (fun _ _ => rfl)
end
section
def NestOk (E : TEn) : Prop := ∀ A U, E A U → va_Nw (.methodLinkNest RX2 68 yX3_isZero RX3) U ∧ va_Nw (.methodLinkNest RX2 85 yX3_asLong RX3) U ∧ va_Nw (.methodLinkNest RX0 38 yX3_isZero RX3) U
section GO3
variable {X : TCx} {cc : ByteArray} {own : String} {rm : Room} {nL : Nat} {ws : va_W} {n k pc : Nat} {lv : List (Nat × Value)} {st : List Value} {tys : List (ClassId × FieldType)} {cl : List vw_C} {E : TEn}
theorem go_tableIn (O : TOk X cc own rm nL cl E) {a dflt lo hi off : Int} {offs : Array Int} {len : Nat} (hd : decode cc pc = .ok (.tableswitch dflt lo hi offs, len)) (ha : r32 a) (h1 : lo ≤ a) (h2 : a ≤ hi) (ho : offs[(a - lo).toNat]? = some off) (tgt : Nat) (ht : (pc : Int) + off = (tgt : Int)) (h : TGo X ws n k tgt lv st) : TGo X ws n k pc lv (.int (iI a) :: st) := by
  intro H locs ls hP hD hS hl
  have e := iI_t ha
  exact lv_tableIn O.1 O.2.1 hd (by rw [e]; omega) (by rw [e]; omega) (by rw [e]; exact ho) ht (h H locs ls hP hD hS hl)
theorem go_tableOut (O : TOk X cc own rm nL cl E) {a dflt lo hi : Int} {offs : Array Int} {len : Nat} (hd : decode cc pc = .ok (.tableswitch dflt lo hi offs, len)) (ha : r32 a) (h1 : a < lo ∨ hi < a) (tgt : Nat) (ht : (pc : Int) + dflt = (tgt : Int)) (h : TGo X ws n k tgt lv st) : TGo X ws n k pc lv (.int (iI a) :: st) := by
  intro H locs ls hP hD hS hl
  have e := iI_t ha
  exact lv_tableOut O.1 O.2.1 hd (by rw [e]; exact h1) ht (h H locs ls hP hD hS hl)
end GO3
theorem cpy_amt (W : Nat) (f : Nat → Int32) : ∀ j, j < 36 → va_cpy (dg W) f 10 0 36 j = dg (W / 10 ^ 10) j := by
  intro j hj
  unfold va_cpy
  rw [if_pos (by omega), dg_at, dg_at, Nat.sub_zero, tqadd]
theorem lI_wrap (z : Int) : lI z = lI (z - 18446744073709551616) := by
  have h : lI 18446744073709551616 = lI 0 := by decide
  rw [← lI_sub, h, lI_sub, Int.sub_zero]
theorem bzd_1 {p : Prop} [Decidable p] (h : p) : 1 = bz (decide p) := by rw [decide_eq_true h]; rfl
theorem bzd_0 {p : Prop} [Decidable p] (h : ¬ p) : 0 = bz (decide p) := by rw [decide_eq_false h]; rfl
theorem tlim_le {ng : Bool} {V : Nat} : V ≤ tlim ng ↔ V < 9223372036854775808 ∨ (bz ng = 1 ∧ V = 9223372036854775808) := by
  cases ng
  · show V ≤ 9223372036854775807 ↔ V < 9223372036854775808 ∨ ((0 : Int) = 1 ∧ V = 9223372036854775808)
    omega
  · show V ≤ 9223372036854775808 ↔ V < 9223372036854775808 ∨ ((1 : Int) = 1 ∧ V = 9223372036854775808)
    omega
theorem dig_of_lt {W e j : Nat} (h : W < 10 ^ e) (hj : e ≤ j) : W / 10 ^ j % 10 = 0 := by rw [q_lt' h hj]
theorem inc_zf {W P : Nat} {b : Int} : ∀ j, upd (dg W) P (iI (((W / 10 ^ P % 10 : Nat) : Int) + b)) j = iI ((fun j => if j = P then ((W / 10 ^ P % 10 : Nat) : Int) + b else ((W / 10 ^ j % 10 : Nat) : Int)) j) := by
  intro j
  unfold upd
  by_cases e : j = P
  · rw [if_pos e]; dsimp only; rw [if_pos e]
  · rw [if_neg e]; dsimp only; rw [if_neg e]; rfl
theorem inc_tv {W P : Nat} {b : Int} (hW : W < 10 ^ 72) (hP : P < 72) : tv (fun j => if j = P then ((W / 10 ^ P % 10 : Nat) : Int) + b else ((W / 10 ^ j % 10 : Nat) : Int)) 0 72 = (W : Int) + b * (10 ^ P : Nat) := by
  rw [tv_upd (fun j => ((W / 10 ^ j % 10 : Nat) : Int)) P _ 72 0 (by omega) (by omega), tv_dg72 hW, Nat.sub_zero, show ((W / 10 ^ P % 10 : Nat) : Int) + b - ((W / 10 ^ P % 10 : Nat) : Int) = b by omega]
set_option maxHeartbeats 4000000 in
set_option maxRecDepth 100000 in
/-- isRegister -/
theorem c_X3_isRegister (E : TEn) (hE : EnvOk E) (r : Int) (hr : r32 r) : Cti vwCl E yX3_isRegister wsX3_isRegister (rmn 0 0) [.int (iI r)] [] [] (fun (z : Int) (_ : Unit) => z = bz (decide (0 ≤ r ∧ r < 8))) (fun _ => []) := by
  refine enteri (by decide) (Nat.le_of_ble_eq_true rfl) ?_
  intro X O hK hin2 hret
  show TGo X [] 0 0 0 [(0, .int (iI r))] []
  refine go_iload_n O dX3_isRegister_0 rfl 0 rfl 1 rfl ?_
  refine go_if_lt O dX3_isRegister_1 14 (by decide) 4 rfl (by omega) (fun h1 => ?_) (fun h1 => ?_)
  · refine go_iconst O dX3_isRegister_14 15 rfl ?_
    exact hret _ _ _ () dX3_isRegister_15 rfl (bzd_0 (by omega))
  · refine go_iload_n O dX3_isRegister_4 rfl 0 rfl 5 rfl ?_
    refine go_bipush O dX3_isRegister_5 (by decide) 7 rfl ?_
    refine go_icmp_ge O dX3_isRegister_7 14 (by decide) 10 rfl (by omega) (by omega) (fun h7 => ?_) (fun h7 => ?_)
    · refine go_iconst O dX3_isRegister_14 15 rfl ?_
      exact hret _ _ _ () dX3_isRegister_15 rfl (bzd_0 (by omega))
    · refine go_iconst O dX3_isRegister_10 11 rfl ?_
      refine go_goto O dX3_isRegister_11 15 (by decide) ?_
      exact hret _ _ _ () dX3_isRegister_15 rfl (bzd_1 (by omega))
set_option maxHeartbeats 4000000 in
set_option maxRecDepth 100000 in
/-- isPower -/
theorem c_X3_isPower (E : TEn) (hE : EnvOk E) (r : Int) (hr : r32 r) : Cti vwCl E yX3_isPower wsX3_isPower (rmn 0 0) [.int (iI r)] [] [] (fun (z : Int) (_ : Unit) => z = bz (decide (0 ≤ r ∧ r ≤ 9))) (fun _ => []) := by
  refine enteri (by decide) (Nat.le_of_ble_eq_true rfl) ?_
  intro X O hK hin2 hret
  show TGo X [] 0 0 0 [(0, .int (iI r))] []
  refine go_iload_n O dX3_isPower_0 rfl 0 rfl 1 rfl ?_
  refine go_if_lt O dX3_isPower_1 14 (by decide) 4 rfl (by omega) (fun h1 => ?_) (fun h1 => ?_)
  · refine go_iconst O dX3_isPower_14 15 rfl ?_
    exact hret _ _ _ () dX3_isPower_15 rfl (bzd_0 (by omega))
  · refine go_iload_n O dX3_isPower_4 rfl 0 rfl 5 rfl ?_
    refine go_bipush O dX3_isPower_5 (by decide) 7 rfl ?_
    refine go_icmp_gt O dX3_isPower_7 14 (by decide) 10 rfl (by omega) (by omega) (fun h7 => ?_) (fun h7 => ?_)
    · refine go_iconst O dX3_isPower_14 15 rfl ?_
      exact hret _ _ _ () dX3_isPower_15 rfl (bzd_0 (by omega))
    · refine go_iconst O dX3_isPower_10 11 rfl ?_
      refine go_goto O dX3_isPower_11 15 (by decide) ?_
      exact hret _ _ _ () dX3_isPower_15 rfl (bzd_1 (by omega))
set_option maxHeartbeats 4000000 in
set_option maxRecDepth 100000 in
/-- Amount.isLike -/
theorem c_X0_isLike (E : TEn) (hE : EnvOk E) (ha hb qa qb : Nat) (d1 w1 n1 d2 w2 n2 : Bool) (c1 c2 : Int) (hc1 : r32 c1) (hc2 : r32 c2) : Cti vwCl E yX0_isLike wsX0_isLike (rmn 0 0) [.ref ha, .ref hb] [(ha, .inr (0, [.ref qa, .int (iI (bz d1)), .int (iI (bz w1)), .int (iI (bz n1)), .int (iI c1)])), (hb, .inr (0, [.ref qb, .int (iI (bz d2)), .int (iI (bz w2)), .int (iI (bz n2)), .int (iI c2)]))] [] (fun (z : Int) (_ : Unit) => (z = 1 ∧ bz w1 = bz w2 ∧ c1 = c2) ∨ (z = 0 ∧ ¬ (bz w1 = bz w2 ∧ c1 = c2))) (fun _ => [(ha, .inr (0, [.ref qa, .int (iI (bz d1)), .int (iI (bz w1)), .int (iI (bz n1)), .int (iI c1)])), (hb, .inr (0, [.ref qb, .int (iI (bz d2)), .int (iI (bz w2)), .int (iI (bz n2)), .int (iI c2)]))]) := by
  refine enteri (by decide) (Nat.le_of_ble_eq_true rfl) ?_
  intro X O hK hin2 hret
  show TGo X [(ha, .inr (0, [.ref qa, .int (iI (bz d1)), .int (iI (bz w1)), .int (iI (bz n1)), .int (iI c1)])), (hb, .inr (0, [.ref qb, .int (iI (bz d2)), .int (iI (bz w2)), .int (iI (bz n2)), .int (iI c2)]))] 0 0 0 [(0, .ref ha), (1, .ref hb)] []
  have b1 := bz_01 w1
  have b2 := bz_01 w2
  refine go_aload_n O dX0_isLike_0 rfl 0 rfl 1 rfl ?_
  refine go_get O hK dX0_isLike_1 hinX0 0 rfl rfl 2 (by decide) flX0_15 rfl 4 rfl ?_
  refine go_aload_n O dX0_isLike_4 rfl 1 rfl 5 rfl ?_
  refine go_get O hK dX0_isLike_5 hinX0 1 rfl rfl 2 (by decide) flX0_15 rfl 8 rfl ?_
  refine go_icmp_ne O dX0_isLike_8 26 (by decide) 11 rfl (by omega) (by omega) (fun h8 => ?_) (fun h8 => ?_)
  · refine go_iconst O dX0_isLike_26 27 rfl ?_
    exact hret _ _ _ () dX0_isLike_27 rfl (Or.inr ⟨rfl, by omega⟩)
  · refine go_aload_n O dX0_isLike_11 rfl 0 rfl 12 rfl ?_
    refine go_get O hK dX0_isLike_12 hinX0 0 rfl rfl 4 (by decide) flX0_19 rfl 15 rfl ?_
    refine go_aload_n O dX0_isLike_15 rfl 1 rfl 16 rfl ?_
    refine go_get O hK dX0_isLike_16 hinX0 1 rfl rfl 4 (by decide) flX0_19 rfl 19 rfl ?_
    refine go_icmp_ne O dX0_isLike_19 26 (by decide) 22 rfl (by omega) (by omega) (fun h19 => ?_) (fun h19 => ?_)
    · refine go_iconst O dX0_isLike_26 27 rfl ?_
      exact hret _ _ _ () dX0_isLike_27 rfl (Or.inr ⟨rfl, by omega⟩)
    · refine go_iconst O dX0_isLike_22 23 rfl ?_
      refine go_goto O dX0_isLike_23 27 (by decide) ?_
      exact hret _ _ _ () dX0_isLike_27 rfl (Or.inl ⟨rfl, by omega, by omega⟩)
set_option maxHeartbeats 4000000 in
set_option maxRecDepth 100000 in
/-- Amount.isLike of an amount and itself -/
theorem c_X0_isLike_self (E : TEn) (hE : EnvOk E) (ha qa : Nat) (d1 w1 n1 : Bool) (c1 : Int) (hc1 : r32 c1) : Cti vwCl E yX0_isLike wsX0_isLike (rmn 0 0) [.ref ha, .ref ha] [(ha, .inr (0, [.ref qa, .int (iI (bz d1)), .int (iI (bz w1)), .int (iI (bz n1)), .int (iI c1)]))] [] (fun (z : Int) (_ : Unit) => z = 1) (fun _ => [(ha, .inr (0, [.ref qa, .int (iI (bz d1)), .int (iI (bz w1)), .int (iI (bz n1)), .int (iI c1)]))]) := by
  refine enteri (by decide) (Nat.le_of_ble_eq_true rfl) ?_
  intro X O hK hin2 hret
  show TGo X [(ha, .inr (0, [.ref qa, .int (iI (bz d1)), .int (iI (bz w1)), .int (iI (bz n1)), .int (iI c1)]))] 0 0 0 [(0, .ref ha), (1, .ref ha)] []
  have b1 := bz_01 w1
  refine go_aload_n O dX0_isLike_0 rfl 0 rfl 1 rfl ?_
  refine go_get O hK dX0_isLike_1 hinX0 0 rfl rfl 2 (by decide) flX0_15 rfl 4 rfl ?_
  refine go_aload_n O dX0_isLike_4 rfl 1 rfl 5 rfl ?_
  refine go_get O hK dX0_isLike_5 hinX0 0 rfl rfl 2 (by decide) flX0_15 rfl 8 rfl ?_
  refine go_icmp_ne O dX0_isLike_8 26 (by decide) 11 rfl (by omega) (by omega) (fun h8 => by omega) (fun h8 => ?_)
  refine go_aload_n O dX0_isLike_11 rfl 0 rfl 12 rfl ?_
  refine go_get O hK dX0_isLike_12 hinX0 0 rfl rfl 4 (by decide) flX0_19 rfl 15 rfl ?_
  refine go_aload_n O dX0_isLike_15 rfl 1 rfl 16 rfl ?_
  refine go_get O hK dX0_isLike_16 hinX0 0 rfl rfl 4 (by decide) flX0_19 rfl 19 rfl ?_
  refine go_icmp_ne O dX0_isLike_19 26 (by decide) 22 rfl (by omega) (by omega) (fun h19 => by omega) (fun h19 => ?_)
  refine go_iconst O dX0_isLike_22 23 rfl ?_
  refine go_goto O dX0_isLike_23 27 (by decide) ?_
  exact hret _ _ _ () dX0_isLike_27 rfl rfl
set_option maxHeartbeats 4000000 in
set_option maxRecDepth 100000 in
/-- Amount.take -/
theorem c_X0_take (E : TEn) (hE : EnvOk E) (hN : NestOk E) (ha qa : Nat) (hw qrow qfac : Nat) (cI : ClassId) (ng go : Bool) (W : Nat) (f : Nat → Int32) (d1 w1 n1 wide : Bool) (c1 cu : Int) (hW : W < 10 ^ 46) : Ctv vwCl E yX0_take wsX0_take (rmn 1 40) [.ref ha, .ref hw, .int (iI (bz wide)), .int (iI cu)] [(ha, .inr (0, [.ref qa, .int (iI (bz d1)), .int (iI (bz w1)), .int (iI (bz n1)), .int (iI c1)])), (qa, .inl (cI, 36, .inl f)), (hw, .inr (2, [.ref qrow, .ref qfac, .int (iI (bz ng)), .int (iI (bz go))])), (qrow, .inl (cI, 72, .inl (dg W)))] [(cI, .int)] (fun _ : Unit => True) (fun _ => [(ha, .inr (0, [.ref qa, .int (iI 1), .int (iI (bz wide)), .int (iI (bz (ng && decide (0 < W / 10 ^ 10)))), .int (iI cu)])), (qa, .inl (cI, 36, .inl (dg (W / 10 ^ 10)))), (hw, .inr (2, [.ref qrow, .ref qfac, .int (iI (bz ng)), .int (iI (bz go))])), (qrow, .inl (cI, 72, .inl (dg W)))]) := by
  refine enterv (by decide) (Nat.le_of_ble_eq_true rfl) ?_
  intro X O hK hin2 hret
  show TGo X [(ha, .inr (0, [.ref qa, .int (iI (bz d1)), .int (iI (bz w1)), .int (iI (bz n1)), .int (iI c1)])), (qa, .inl (cI, 36, .inl f)), (hw, .inr (2, [.ref qrow, .ref qfac, .int (iI (bz ng)), .int (iI (bz go))])), (qrow, .inl (cI, 72, .inl (dg W)))] 0 0 0 [(0, .ref ha), (1, .ref hw), (2, .int (iI (bz wide))), (3, .int (iI cu))] []
  have b1 := bz_01 ng
  have hV : W / 10 ^ 10 < 10 ^ 36 := (Nat.div_lt_iff_lt_mul (p10 10)).mpr (by rw [← p10add]; exact hW)
  refine go_aload_n O dX0_take_0 rfl 1 rfl 1 rfl ?_
  refine go_get O hK dX0_take_1 hinX2 2 rfl rfl 0 (by decide) flX0_23 rfl 4 rfl ?_
  refine go_bipush O dX0_take_4 (by decide) 6 rfl ?_
  refine go_aload_n O dX0_take_6 rfl 0 rfl 7 rfl ?_
  refine go_get O hK dX0_take_7 hinX0 0 rfl rfl 0 (by decide) flX0_9 rfl 10 rfl ?_
  refine go_iconst O dX0_take_10 11 rfl ?_
  refine go_bipush O dX0_take_11 (by decide) 13 rfl ?_
  refine go_copyi O hK dX0_take_13 mlX0_26 naSys smSys inJ10 3 1 0 0 rfl rfl rfl rfl 10 0 36 rfl rfl rfl (by omega) (by omega) (by omega) (by omega) (dg (W / 10 ^ 10)) (cpy_amt W f) [(ha, .inr (0, [.ref qa, .int (iI (bz d1)), .int (iI (bz w1)), .int (iI (bz n1)), .int (iI c1)])), (qa, .inl (cI, 36, .inl (dg (W / 10 ^ 10)))), (hw, .inr (2, [.ref qrow, .ref qfac, .int (iI (bz ng)), .int (iI (bz go))])), (qrow, .inl (cI, 72, .inl (dg W)))] rfl (Nat.le_of_ble_eq_true rfl) (Nat.le_of_ble_eq_true rfl) 16 rfl ?_
  refine go_aload_n O dX0_take_16 rfl 0 rfl 17 rfl ?_
  refine go_iconst O dX0_take_17 18 rfl ?_
  refine go_put O hK dX0_take_18 hinX0 tyX0 tyX0_ok nmX0 0 rfl rfl 1 (by decide) flX0_32 rfl rfl rfl rfl (Nat.le_of_ble_eq_true rfl) [(ha, .inr (0, [.ref qa, .int (iI 1), .int (iI (bz w1)), .int (iI (bz n1)), .int (iI c1)])), (qa, .inl (cI, 36, .inl (dg (W / 10 ^ 10)))), (hw, .inr (2, [.ref qrow, .ref qfac, .int (iI (bz ng)), .int (iI (bz go))])), (qrow, .inl (cI, 72, .inl (dg W)))] rfl 21 rfl ?_
  refine go_aload_n O dX0_take_21 rfl 0 rfl 22 rfl ?_
  refine go_iload_n O dX0_take_22 rfl 2 rfl 23 rfl ?_
  refine go_put O hK dX0_take_23 hinX0 tyX0 tyX0_ok nmX0 0 rfl rfl 2 (by decide) flX0_15 rfl rfl (nar_b (bz_01 _)) (fit_b (bz_01 _)) (Nat.le_of_ble_eq_true rfl) [(ha, .inr (0, [.ref qa, .int (iI 1), .int (iI (bz wide)), .int (iI (bz n1)), .int (iI c1)])), (qa, .inl (cI, 36, .inl (dg (W / 10 ^ 10)))), (hw, .inr (2, [.ref qrow, .ref qfac, .int (iI (bz ng)), .int (iI (bz go))])), (qrow, .inl (cI, 72, .inl (dg W)))] rfl 26 rfl ?_
  refine go_aload_n O dX0_take_26 rfl 0 rfl 27 rfl ?_
  refine go_iload_n O dX0_take_27 rfl 3 rfl 28 rfl ?_
  refine go_put O hK dX0_take_28 hinX0 tyX0 tyX0_ok nmX0 0 rfl rfl 4 (by decide) flX0_19 rfl rfl rfl rfl (Nat.le_of_ble_eq_true rfl) [(ha, .inr (0, [.ref qa, .int (iI 1), .int (iI (bz wide)), .int (iI (bz n1)), .int (iI cu)])), (qa, .inl (cI, 36, .inl (dg (W / 10 ^ 10)))), (hw, .inr (2, [.ref qrow, .ref qfac, .int (iI (bz ng)), .int (iI (bz go))])), (qrow, .inl (cI, 72, .inl (dg W)))] rfl 31 rfl ?_
  refine go_aload_n O dX0_take_31 rfl 0 rfl 32 rfl ?_
  refine go_aload_n O dX0_take_32 rfl 1 rfl 33 rfl ?_
  refine go_get O hK dX0_take_33 hinX2 2 rfl rfl 2 (by decide) flX0_35 rfl 36 rfl ?_
  refine go_if_eq O dX0_take_36 56 (by decide) 39 rfl (by omega) (fun h36 => ?_) (fun h36 => ?_)
  · refine go_iconst O dX0_take_56 57 rfl ?_
    refine TGo.topi (y := bz (ng && decide (0 < W / 10 ^ 10))) (band_0 (Or.inl (by omega))) ?_
    refine go_put O hK dX0_take_57 hinX0 tyX0 tyX0_ok nmX0 0 rfl rfl 3 (by decide) flX0_42 rfl rfl (nar_b (bz_01 _)) (fit_b (bz_01 _)) (Nat.le_of_ble_eq_true rfl) [(ha, .inr (0, [.ref qa, .int (iI 1), .int (iI (bz wide)), .int (iI (bz (ng && decide (0 < W / 10 ^ 10)))), .int (iI cu)])), (qa, .inl (cI, 36, .inl (dg (W / 10 ^ 10)))), (hw, .inr (2, [.ref qrow, .ref qfac, .int (iI (bz ng)), .int (iI (bz go))])), (qrow, .inl (cI, 72, .inl (dg W)))] rfl 60 rfl ?_
    exact hret _ _ () dX0_take_60 trivial
  · refine go_aload_n O dX0_take_39 rfl 0 rfl 40 rfl ?_
    refine go_get O hK dX0_take_40 hinX0 0 rfl rfl 0 (by decide) flX0_9 rfl 43 rfl ?_
    refine go_iconst O dX0_take_43 44 rfl ?_
    refine go_bipush O dX0_take_44 (by decide) 46 rfl ?_
    refine go_calliSN (rest := [.ref ha]) (wr := [(ha, .inr (0, [.ref qa, .int (iI 1), .int (iI (bz wide)), .int (iI (bz n1)), .int (iI cu)])), (hw, .inr (2, [.ref qrow, .ref qfac, .int (iI (bz ng)), .int (iI (bz go))])), (qrow, .inl (cI, 72, .inl (dg W)))]) O hK hE (c_X3_isZero E hE qa cI 36 (W / 10 ^ 10) 0 36 (by omega) (by omega) (by omega)) (hN _ _ O.2.2.2.2.2.2.2.2.2).2.2 smX3_isZero inX3 cdX3_isZero 3 (by decide +kernel) ⟨Nat.le_of_ble_eq_true rfl, Nat.le_of_ble_eq_true rfl⟩ [0] rfl [1] rfl (by decide) [0, 2, 3] rfl (by decide) (by decide) rfl rfl (Nat.le_of_ble_eq_true rfl) ⟨Nat.zero_le _, Nat.zero_le _⟩ dX0_take_46 49 rfl (fun z u hu => ?_)
    have z01 : z = 0 ∨ z = 1 := by rcases hu with ⟨e1, e2⟩ | ⟨e1, e2⟩ <;> omega
    show TGo X [(ha, .inr (0, [.ref qa, .int (iI 1), .int (iI (bz wide)), .int (iI (bz n1)), .int (iI cu)])), (hw, .inr (2, [.ref qrow, .ref qfac, .int (iI (bz ng)), .int (iI (bz go))])), (qrow, .inl (cI, 72, .inl (dg W))), (qa, .inl (cI, 36, .inl (dg (W / 10 ^ 10))))] 0 0 49 [(0, .ref ha), (1, .ref hw), (2, .int (iI (bz wide))), (3, .int (iI cu))] [.int (iI z), .ref ha]
    refine TGo.sub (ws' := [(ha, .inr (0, [.ref qa, .int (iI 1), .int (iI (bz wide)), .int (iI (bz n1)), .int (iI cu)])), (qa, .inl (cI, 36, .inl (dg (W / 10 ^ 10)))), (hw, .inr (2, [.ref qrow, .ref qfac, .int (iI (bz ng)), .int (iI (bz go))])), (qrow, .inl (cI, 72, .inl (dg W)))]) [0, 3, 1, 2] (by decide) rfl ?_
    refine go_if_ne O dX0_take_49 56 (by decide) 52 rfl (by omega) (fun h49 => ?_) (fun h49 => ?_)
    · refine go_iconst O dX0_take_56 57 rfl ?_
      refine TGo.topi (y := bz (ng && decide (0 < W / 10 ^ 10))) (band_0 (Or.inr (by rcases hu with ⟨e1, e2⟩ | ⟨e1, j, e2, e3, e4⟩; (have e5 := lt_of_digits (N := W / 10 ^ 10) (s := 0) hV (by omega) (fun j a b => e2 j a b); rw [Nat.pow_zero] at e5; omega); omega))) ?_
      refine go_put O hK dX0_take_57 hinX0 tyX0 tyX0_ok nmX0 0 rfl rfl 3 (by decide) flX0_42 rfl rfl (nar_b (bz_01 _)) (fit_b (bz_01 _)) (Nat.le_of_ble_eq_true rfl) [(ha, .inr (0, [.ref qa, .int (iI 1), .int (iI (bz wide)), .int (iI (bz (ng && decide (0 < W / 10 ^ 10)))), .int (iI cu)])), (qa, .inl (cI, 36, .inl (dg (W / 10 ^ 10)))), (hw, .inr (2, [.ref qrow, .ref qfac, .int (iI (bz ng)), .int (iI (bz go))])), (qrow, .inl (cI, 72, .inl (dg W)))] rfl 60 rfl ?_
      exact hret _ _ () dX0_take_60 trivial
    · refine go_iconst O dX0_take_52 53 rfl ?_
      refine go_goto O dX0_take_53 57 (by decide) ?_
      refine TGo.topi (y := bz (ng && decide (0 < W / 10 ^ 10))) (band_1 (by omega) (by rcases hu with ⟨e1, e2⟩ | ⟨e1, j, e2, e3, e4⟩; omega; rcases Nat.eq_zero_or_pos (W / 10 ^ 10) with e5 | e5; (rw [e5, Nat.zero_div] at e4; omega); exact e5)) ?_
      refine go_put O hK dX0_take_57 hinX0 tyX0 tyX0_ok nmX0 0 rfl rfl 3 (by decide) flX0_42 rfl rfl (nar_b (bz_01 _)) (fit_b (bz_01 _)) (Nat.le_of_ble_eq_true rfl) [(ha, .inr (0, [.ref qa, .int (iI 1), .int (iI (bz wide)), .int (iI (bz (ng && decide (0 < W / 10 ^ 10)))), .int (iI cu)])), (qa, .inl (cI, 36, .inl (dg (W / 10 ^ 10)))), (hw, .inr (2, [.ref qrow, .ref qfac, .int (iI (bz ng)), .int (iI (bz go))])), (qrow, .inl (cI, 72, .inl (dg W)))] rfl 60 rfl ?_
      exact hret _ _ () dX0_take_60 trivial
set_option maxHeartbeats 4000000 in
set_option maxRecDepth 100000 in
/-- Work.fitsWide -/
theorem c_X2_fitsWide (E : TEn) (hE : EnvOk E) (hN : NestOk E) (hw qrow qfac : Nat) (cI : ClassId) (ng go : Bool) (W : Nat) (hW : W < 10 ^ 72) : Cti vwCl E yX2_fitsWide wsX2_fitsWide (rmn 1 23) [.ref hw] [(hw, .inr (2, [.ref qrow, .ref qfac, .int (iI (bz ng)), .int (iI (bz go))])), (qrow, .inl (cI, 72, .inl (dg W)))] [(cI, .int)] (fun (z : Int) (_ : Unit) => z = bz (decide (W < 10 ^ 46))) (fun _ => [(hw, .inr (2, [.ref qrow, .ref qfac, .int (iI (bz ng)), .int (iI (bz go))])), (qrow, .inl (cI, 72, .inl (dg W)))]) := by
  refine enteri (by decide) (Nat.le_of_ble_eq_true rfl) ?_
  intro X O hK hin2 hret
  show TGo X [(hw, .inr (2, [.ref qrow, .ref qfac, .int (iI (bz ng)), .int (iI (bz go))])), (qrow, .inl (cI, 72, .inl (dg W)))] 0 0 0 [(0, .ref hw)] []
  refine go_aload_n O dX2_fitsWide_0 rfl 0 rfl 1 rfl ?_
  refine go_get O hK dX2_fitsWide_1 hinX2 0 rfl rfl 0 (by decide) flX2_9 rfl 4 rfl ?_
  refine go_bipush O dX2_fitsWide_4 (by decide) 6 rfl ?_
  refine go_bipush O dX2_fitsWide_6 (by decide) 8 rfl ?_
  refine go_calliSN (rest := []) (wr := [(hw, .inr (2, [.ref qrow, .ref qfac, .int (iI (bz ng)), .int (iI (bz go))]))]) O hK hE (c_X3_isZero E hE qrow cI 72 W 46 72 (by omega) (by omega) (by omega)) (hN _ _ O.2.2.2.2.2.2.2.2.2).1 smX3_isZero inX3 cdX3_isZero 3 (by decide +kernel) ⟨Nat.le_of_ble_eq_true rfl, Nat.le_of_ble_eq_true rfl⟩ [0] rfl [1] rfl (by decide) [0] rfl (by decide) (by decide) rfl rfl (Nat.le_of_ble_eq_true rfl) ⟨Nat.zero_le _, Nat.zero_le _⟩ dX2_fitsWide_8 11 rfl (fun z u hu => ?_)
  show TGo X [(hw, .inr (2, [.ref qrow, .ref qfac, .int (iI (bz ng)), .int (iI (bz go))])), (qrow, .inl (cI, 72, .inl (dg W)))] 0 0 11 [(0, .ref hw)] [.int (iI z)]
  have hz : z = bz (decide (W < 10 ^ 46)) := by
    rcases hu with ⟨e1, e2⟩ | ⟨e1, j, e2, e3, e4⟩
    · rw [e1]; exact bzd_1 (lt_of_digits hW (by omega) e2)
    · rw [e1]; exact bzd_0 (fun e5 => e4 (dig_of_lt e5 e2))
  subst hz
  exact hret _ _ _ () dX2_fitsWide_11 (nar_b (bz_01 _)) rfl
set_option maxHeartbeats 4000000 in
set_option maxRecDepth 100000 in
/-- Work.fitsFast -/
theorem c_X2_fitsFast (E : TEn) (hE : EnvOk E) (hN : NestOk E) (hw qrow qfac : Nat) (cI : ClassId) (ng go : Bool) (W : Nat) (hW : W < 10 ^ 72) : Cti vwCl E yX2_fitsFast wsX2_fitsFast (rmn 1 25) [.ref hw] [(hw, .inr (2, [.ref qrow, .ref qfac, .int (iI (bz ng)), .int (iI (bz go))])), (qrow, .inl (cI, 72, .inl (dg W)))] [(cI, .int)] (fun (z : Int) (_ : Unit) => z = bz (decide (go = false ∧ W % 10 ^ 15 = 0 ∧ W / 10 ^ 15 ≤ tlim ng))) (fun _ => [(hw, .inr (2, [.ref qrow, .ref qfac, .int (iI (bz ng)), .int (iI (bz go))])), (qrow, .inl (cI, 72, .inl (dg W)))]) := by
  refine enteri (by decide) (Nat.le_of_ble_eq_true rfl) ?_
  intro X O hK hin2 hret
  show TGo X [(hw, .inr (2, [.ref qrow, .ref qfac, .int (iI (bz ng)), .int (iI (bz go))])), (qrow, .inl (cI, 72, .inl (dg W)))] 0 0 0 [(0, .ref hw)] []
  have b1 := bz_01 ng
  have b2 := bz_01 go
  have hl := tlim_le (ng := ng) (V := W / 10 ^ 15)
  have m50 : ∀ (y : Int), r64 y → go = false → W % 10 ^ 15 = 0 → W / 10 ^ 15 < 10 ^ 19 → ((y = ((W / 10 ^ 15 : Nat) : Int) ∧ W / 10 ^ 15 < 9223372036854775808) ∨ (y = ((W / 10 ^ 15 : Nat) : Int) - 18446744073709551616 ∧ 9223372036854775808 ≤ W / 10 ^ 15)) → TGo X [(hw, .inr (2, [.ref qrow, .ref qfac, .int (iI (bz ng)), .int (iI (bz go))])), (qrow, .inl (cI, 72, .inl (dg W)))] 0 0 50 [(1, .int (iI 15)), (0, .ref hw)] [.long (lI y)] := by
    intro y hy hg hm hb hyv
    have q1 := cmpZ_ge (a := y) (b := 0)
    have q2 := cmpZ_eq (a := y) (b := -9223372036854775808)
    refine go_lstore_n O dX2_fitsFast_50 rfl (by decide) [(2, .long (lI y)), (1, .int (iI 15)), (0, .ref hw)] rfl 51 rfl ?_
    refine go_lload_n O dX2_fitsFast_51 rfl 0 rfl 52 rfl ?_
    refine go_lconst O dX2_fitsFast_52 0 rfl 53 rfl ?_
    refine go_lcmp O dX2_fitsFast_53 (by omega) (by omega) 54 rfl ?_
    refine go_if_ge O dX2_fitsFast_54 72 (by decide) 57 rfl (cmpZ_r _ _) (fun h54 => ?_) (fun h54 => ?_)
    · refine go_iconst O dX2_fitsFast_72 73 rfl ?_
      refine go_goto O dX2_fitsFast_73 77 (by decide) ?_
      exact hret _ _ _ () dX2_fitsFast_77 rfl (bzd_1 ⟨hg, hm, hl.mpr (by omega)⟩)
    · refine go_aload_n O dX2_fitsFast_57 rfl 2 rfl 58 rfl ?_
      refine go_get O hK dX2_fitsFast_58 hinX2 0 rfl rfl 2 (by decide) flX2_24 rfl 61 rfl ?_
      refine go_if_eq O dX2_fitsFast_61 76 (by decide) 64 rfl (bz_r _) (fun h61 => ?_) (fun h61 => ?_)
      · refine go_iconst O dX2_fitsFast_76 77 rfl ?_
        exact hret _ _ _ () dX2_fitsFast_77 rfl (bzd_0 (fun e => by have e2 := hl.mp e.2.2; omega))
      · refine go_lload_n O dX2_fitsFast_64 rfl 0 rfl 65 rfl ?_
        refine go_ldc2 O dX2_fitsFast_65 (-9223372036854775808) kcX2_89 (by decide) 68 rfl ?_
        refine go_lcmp O dX2_fitsFast_68 (by omega) (by omega) 69 rfl ?_
        refine go_if_ne O dX2_fitsFast_69 76 (by decide) 72 rfl (cmpZ_r _ _) (fun h69 => ?_) (fun h69 => ?_)
        · refine go_iconst O dX2_fitsFast_76 77 rfl ?_
          exact hret _ _ _ () dX2_fitsFast_77 rfl (bzd_0 (fun e => by have e2 := hl.mp e.2.2; omega))
        · refine go_iconst O dX2_fitsFast_72 73 rfl ?_
          refine go_goto O dX2_fitsFast_73 77 (by decide) ?_
          exact hret _ _ _ () dX2_fitsFast_77 rfl (bzd_1 ⟨hg, hm, hl.mpr (by omega)⟩)
  refine go_bipush O dX2_fitsFast_0 (by decide) 2 rfl ?_
  refine go_istore_n O dX2_fitsFast_2 rfl (by decide) [(1, .int (iI 15)), (0, .ref hw)] rfl 3 rfl ?_
  refine go_aload_n O dX2_fitsFast_3 rfl 1 rfl 4 rfl ?_
  refine go_get O hK dX2_fitsFast_4 hinX2 0 rfl rfl 3 (by decide) flX2_28 rfl 7 rfl ?_
  refine go_if_ne O dX2_fitsFast_7 38 (by decide) 10 rfl (bz_r _) (fun h7 => ?_) (fun h7 => ?_)
  · refine go_iconst O dX2_fitsFast_38 39 rfl ?_
    exact hret _ _ _ () dX2_fitsFast_39 rfl (bzd_0 (fun e => by rw [e.1, bz_f] at h7; omega))
  · refine go_aload_n O dX2_fitsFast_10 rfl 1 rfl 11 rfl ?_
    refine go_get O hK dX2_fitsFast_11 hinX2 0 rfl rfl 0 (by decide) flX2_9 rfl 14 rfl ?_
    refine go_iconst O dX2_fitsFast_14 15 rfl ?_
    refine go_iload_n O dX2_fitsFast_15 rfl 0 rfl 16 rfl ?_
    refine go_calliSN (rest := []) (wr := [(hw, .inr (2, [.ref qrow, .ref qfac, .int (iI (bz ng)), .int (iI (bz go))]))]) O hK hE (c_X3_isZero E hE qrow cI 72 W 0 15 (by omega) (by omega) (by omega)) (hN _ _ O.2.2.2.2.2.2.2.2.2).1 smX3_isZero inX3 cdX3_isZero 3 (by decide +kernel) ⟨Nat.le_of_ble_eq_true rfl, Nat.le_of_ble_eq_true rfl⟩ [0] rfl [1] rfl (by decide) [0] rfl (by decide) (by decide) rfl rfl (Nat.le_of_ble_eq_true rfl) ⟨Nat.zero_le _, Nat.zero_le _⟩ dX2_fitsFast_16 19 rfl (fun z u hu => ?_)
    obtain ⟨z1, rfl⟩ : ∃ y, y = z := ⟨_, rfl⟩
    have hu1 := hu
    have z01 : z1 = 0 ∨ z1 = 1 := by rcases hu1 with ⟨e1, e2⟩ | ⟨e1, e2⟩ <;> omega
    show TGo X [(hw, .inr (2, [.ref qrow, .ref qfac, .int (iI (bz ng)), .int (iI (bz go))])), (qrow, .inl (cI, 72, .inl (dg W)))] 0 0 19 [(1, .int (iI 15)), (0, .ref hw)] [.int (iI z1)]
    refine go_if_eq O dX2_fitsFast_19 38 (by decide) 22 rfl (by omega) (fun h19 => ?_) (fun h19 => ?_)
    · refine go_iconst O dX2_fitsFast_38 39 rfl ?_
      exact hret _ _ _ () dX2_fitsFast_39 rfl (bzd_0 (fun e => by rcases hu1 with ⟨e1, e2⟩ | ⟨e1, j, e2, e3, e4⟩; omega; exact e4 (tmod_dig e.2.1 e3)))
    · refine go_aload_n O dX2_fitsFast_22 rfl 1 rfl 23 rfl ?_
      refine go_get O hK dX2_fitsFast_23 hinX2 0 rfl rfl 0 (by decide) flX2_9 rfl 26 rfl ?_
      refine go_iload_n O dX2_fitsFast_26 rfl 0 rfl 27 rfl ?_
      refine go_bipush O dX2_fitsFast_27 (by decide) 29 rfl ?_
      refine go_iadd O dX2_fitsFast_29 34 (by decide) 30 rfl ?_
      refine go_bipush O dX2_fitsFast_30 (by decide) 32 rfl ?_
      refine go_calliSN (rest := []) (wr := [(hw, .inr (2, [.ref qrow, .ref qfac, .int (iI (bz ng)), .int (iI (bz go))]))]) O hK hE (c_X3_isZero E hE qrow cI 72 W 34 72 (by omega) (by omega) (by omega)) (hN _ _ O.2.2.2.2.2.2.2.2.2).1 smX3_isZero inX3 cdX3_isZero 3 (by decide +kernel) ⟨Nat.le_of_ble_eq_true rfl, Nat.le_of_ble_eq_true rfl⟩ [0] rfl [1] rfl (by decide) [0] rfl (by decide) (by decide) rfl rfl (Nat.le_of_ble_eq_true rfl) ⟨Nat.zero_le _, Nat.zero_le _⟩ dX2_fitsFast_32 35 rfl (fun z u hu => ?_)
      obtain ⟨z2, rfl⟩ : ∃ y, y = z := ⟨_, rfl⟩
      have hu2 := hu
      have z02 : z2 = 0 ∨ z2 = 1 := by rcases hu2 with ⟨e1, e2⟩ | ⟨e1, e2⟩ <;> omega
      show TGo X [(hw, .inr (2, [.ref qrow, .ref qfac, .int (iI (bz ng)), .int (iI (bz go))])), (qrow, .inl (cI, 72, .inl (dg W)))] 0 0 35 [(1, .int (iI 15)), (0, .ref hw)] [.int (iI z2)]
      refine go_if_ne O dX2_fitsFast_35 40 (by decide) 38 rfl (by omega) (fun h35 => ?_) (fun h35 => ?_)
      · refine go_aload_n O dX2_fitsFast_40 rfl 1 rfl 41 rfl ?_
        refine go_get O hK dX2_fitsFast_41 hinX2 0 rfl rfl 0 (by decide) flX2_9 rfl 44 rfl ?_
        refine go_iload_n O dX2_fitsFast_44 rfl 0 rfl 45 rfl ?_
        refine go_bipush O dX2_fitsFast_45 (by decide) 47 rfl ?_
        refine go_calllSN (rest := []) (wr := [(hw, .inr (2, [.ref qrow, .ref qfac, .int (iI (bz ng)), .int (iI (bz go))]))]) O hK hE (c_X3_asLong E hE qrow cI 72 W 15 19 (by omega) (by omega)) (hN _ _ O.2.2.2.2.2.2.2.2.2).2.1 smX3_asLong inX3 cdX3_asLong 3 (by decide +kernel) ⟨Nat.le_of_ble_eq_true rfl, Nat.le_of_ble_eq_true rfl⟩ [0] rfl [1] rfl (by decide) [0] rfl (by decide) (by decide) rfl rfl (Nat.le_of_ble_eq_true rfl) ⟨Nat.zero_le _, Nat.zero_le _⟩ dX2_fitsFast_47 50 rfl (fun z u hu => ?_)
        subst hu
        show TGo X [(hw, .inr (2, [.ref qrow, .ref qfac, .int (iI (bz ng)), .int (iI (bz go))])), (qrow, .inl (cI, 72, .inl (dg W)))] 0 0 50 [(1, .int (iI 15)), (0, .ref hw)] [.long (lI ((W / 10 ^ 15 % 10 ^ 19 : Nat) : Int))]
        have hg : go = false := bz_0.mp (by omega)
        have hm : W % 10 ^ 15 = 0 := by rcases hu1 with ⟨e1, e2⟩ | ⟨e1, e2⟩; exact tmod_of 15 (fun j e => e2 j (by omega) e); omega
        have h34 : W < 10 ^ 34 := by rcases hu2 with ⟨e1, e2⟩ | ⟨e1, e2⟩; exact lt_of_digits hW (by omega) e2; omega
        have hb : W / 10 ^ 15 < 10 ^ 19 := (Nat.div_lt_iff_lt_mul (p10 15)).mpr (by rw [← p10add]; exact h34)
        rw [Nat.mod_eq_of_lt hb]
        by_cases hV : W / 10 ^ 15 < 9223372036854775808
        · exact m50 _ (by omega) hg hm hb (Or.inl ⟨rfl, hV⟩)
        · rw [lI_wrap]
          exact m50 _ (by omega) hg hm hb (Or.inr ⟨rfl, by omega⟩)
      · refine go_iconst O dX2_fitsFast_38 39 rfl ?_
        exact hret _ _ _ () dX2_fitsFast_39 rfl (bzd_0 (fun e => by rcases hu2 with ⟨e1, e2⟩ | ⟨e1, j, e2, e3, e4⟩; omega; (have e5 : W / 10 ^ 15 < 10 ^ 19 := (by have := hl.mp e.2.2; omega); have e6 : W < 10 ^ 34 := (by have e7 := (Nat.div_lt_iff_lt_mul (p10 15)).mp e5; rw [← p10add] at e7; exact e7); exact e4 (dig_of_lt e6 (by omega)))))
set_option maxHeartbeats 4000000 in
set_option maxRecDepth 100000 in
/-- Work.increase -/
theorem c_X2_increase (E : TEn) (hE : EnvOk E) (hw qrow qfac : Nat) (cI : ClassId) (ng go : Bool) (W P V : Nat) (b : Int) (hW : W < 10 ^ 72) (hP : P < 72) (hb : -99999990 ≤ b ∧ b ≤ 99999990) (hV : (V : Int) = (W : Int) + b * (10 ^ P : Nat)) : Ctv vwCl E yX2_increase wsX2_increase (rmn 2 45) [.ref hw, .int (iI ((P : Nat) : Int)), .int (iI b)] [(hw, .inr (2, [.ref qrow, .ref qfac, .int (iI (bz ng)), .int (iI (bz go))])), (qrow, .inl (cI, 72, .inl (dg W)))] [(cI, .int)] (fun _ : Unit => True) (fun _ => [(hw, .inr (2, [.ref qrow, .ref qfac, .int (iI (bz ng)), .int (iI (bz go))])), (qrow, .inl (cI, 72, .inl (dg V)))]) := by
  refine enterv (by decide) (Nat.le_of_ble_eq_true rfl) ?_
  intro X O hK hin2 hret
  show TGo X [(hw, .inr (2, [.ref qrow, .ref qfac, .int (iI (bz ng)), .int (iI (bz go))])), (qrow, .inl (cI, 72, .inl (dg W)))] 0 0 0 [(0, .ref hw), (1, .int (iI ((P : Nat) : Int))), (2, .int (iI b))] []
  refine go_aload_n O dX2_increase_0 rfl 0 rfl 1 rfl ?_
  refine go_get O hK dX2_increase_1 hinX2 0 rfl rfl 0 (by decide) flX2_9 rfl 4 rfl ?_
  refine go_iload_n O dX2_increase_4 rfl 1 rfl 5 rfl ?_
  refine go_dup2_11 O dX2_increase_5 rfl rfl 6 rfl ?_
  refine go_iald O hK dX2_increase_6 1 0 rfl rfl P rfl (by omega) (by omega) ((W / 10 ^ P % 10 : Nat) : Int) rfl 7 rfl ?_
  refine go_iload_n O dX2_increase_7 rfl 2 rfl 8 rfl ?_
  refine go_iadd O dX2_increase_8 (((W / 10 ^ P % 10 : Nat) : Int) + b) rfl 9 rfl ?_
  refine go_iast O hK dX2_increase_9 1 0 rfl rfl P rfl (by omega) (by omega) (fun j => iI ((fun j => if j = P then ((W / 10 ^ P % 10 : Nat) : Int) + b else ((W / 10 ^ j % 10 : Nat) : Int)) j)) (fun j _ => inc_zf j) [(hw, .inr (2, [.ref qrow, .ref qfac, .int (iI (bz ng)), .int (iI (bz go))])), (qrow, .inl (cI, 72, .inl (fun j => iI ((fun j => if j = P then ((W / 10 ^ P % 10 : Nat) : Int) + b else ((W / 10 ^ j % 10 : Nat) : Int)) j))))] rfl 10 rfl ?_
  refine go_aload_n O dX2_increase_10 rfl 0 rfl 11 rfl ?_
  refine go_callvV (As := []) (rest := []) (wr := []) O hK hE (c_X2_carry E hE hw qrow qfac cI ng go (fun j => if j = P then ((W / 10 ^ P % 10 : Nat) : Int) + b else ((W / 10 ^ j % 10 : Nat) : Int)) V (fun i hi => by split <;> omega) (by rw [inc_tv hW hP]; exact hV)) mlX2_59 imX2_carry seX2_carry inX2 cdX2_carry 0 (by decide +kernel) ⟨Nat.le_of_ble_eq_true rfl, Nat.le_of_ble_eq_true rfl⟩ 0 rfl rfl [0] rfl [0, 1] rfl (by decide) [] rfl (by decide) (by decide) rfl rfl (Nat.le_of_ble_eq_true rfl) ⟨Nat.zero_le _, Nat.zero_le _⟩ dX2_increase_11 14 rfl (fun u hu => ?_)
  show TGo X [(hw, .inr (2, [.ref qrow, .ref qfac, .int (iI (bz ng)), .int (iI (bz go))])), (qrow, .inl (cI, 72, .inl (dg V)))] 0 0 14 [(0, .ref hw), (1, .int (iI ((P : Nat) : Int))), (2, .int (iI b))] []
  exact hret _ _ () dX2_increase_14 trivial
set_option maxHeartbeats 4000000 in
set_option maxRecDepth 100000 in
/-- Work.goesAway -/
theorem c_X2_goesAway (E : TEn) (hE : EnvOk E) (hw qrow qfac : Nat) (cI : ClassId) (ng go : Bool) (mode half od : Int) (hm : 0 ≤ mode ∧ mode ≤ 6) (hh : r32 half) (ho : od = 0 ∨ od = 1) : Cti vwCl E yX2_goesAway wsX2_goesAway (rmn 0 0) [.ref hw, .int (iI mode), .int (iI half), .int (iI od)] [(hw, .inr (2, [.ref qrow, .ref qfac, .int (iI (bz ng)), .int (iI (bz go))]))] [] (fun (z : Int) (_ : Unit) => (z = 1 ∧ (mode = 0 ∨ (mode = 2 ∧ bz ng = 0) ∨ (mode = 3 ∧ bz ng = 1) ∨ (mode = 4 ∧ 0 ≤ half) ∨ (mode = 5 ∧ 0 < half) ∨ (mode = 6 ∧ (0 < half ∨ (half = 0 ∧ od = 1))))) ∨ (z = 0 ∧ ¬ (mode = 0 ∨ (mode = 2 ∧ bz ng = 0) ∨ (mode = 3 ∧ bz ng = 1) ∨ (mode = 4 ∧ 0 ≤ half) ∨ (mode = 5 ∧ 0 < half) ∨ (mode = 6 ∧ (0 < half ∨ (half = 0 ∧ od = 1)))))) (fun _ => [(hw, .inr (2, [.ref qrow, .ref qfac, .int (iI (bz ng)), .int (iI (bz go))]))]) := by
  refine enteri (by decide) (Nat.le_of_ble_eq_true rfl) ?_
  intro X O hK hin2 hret
  show TGo X [(hw, .inr (2, [.ref qrow, .ref qfac, .int (iI (bz ng)), .int (iI (bz go))]))] 0 0 0 [(0, .ref hw), (1, .int (iI mode)), (2, .int (iI half)), (3, .int (iI od))] []
  have b1 := bz_01 ng
  refine go_iload_n O dX2_goesAway_0 rfl 1 rfl 1 rfl ?_
  rcases (show mode = 0 ∨ mode = 1 ∨ mode = 2 ∨ mode = 3 ∨ mode = 4 ∨ mode = 5 ∨ mode = 6 by omega) with rfl | rfl | rfl | rfl | rfl | rfl | rfl
  · refine go_tableIn O dX2_goesAway_1 (by omega) (by omega) (by omega) rfl 40 (by decide) ?_
    refine go_iconst O dX2_goesAway_40 41 rfl ?_
    exact hret _ _ _ () dX2_goesAway_41 rfl (Or.inl ⟨rfl, by omega⟩)
  · refine go_tableIn O dX2_goesAway_1 (by omega) (by omega) (by omega) rfl 42 (by decide) ?_
    refine go_iconst O dX2_goesAway_42 43 rfl ?_
    exact hret _ _ _ () dX2_goesAway_43 rfl (Or.inr ⟨rfl, by omega⟩)
  · refine go_tableIn O dX2_goesAway_1 (by omega) (by omega) (by omega) rfl 44 (by decide) ?_
    refine go_aload_n O dX2_goesAway_44 rfl 0 rfl 45 rfl ?_
    refine go_get O hK dX2_goesAway_45 hinX2 0 rfl rfl 2 (by decide) flX2_24 rfl 48 rfl ?_
    refine go_if_ne O dX2_goesAway_48 55 (by decide) 51 rfl (by omega) (fun h48 => ?_) (fun h48 => ?_)
    · refine go_iconst O dX2_goesAway_55 56 rfl ?_
      exact hret _ _ _ () dX2_goesAway_56 rfl (Or.inr ⟨rfl, by omega⟩)
    · refine go_iconst O dX2_goesAway_51 52 rfl ?_
      refine go_goto O dX2_goesAway_52 56 (by decide) ?_
      exact hret _ _ _ () dX2_goesAway_56 rfl (Or.inl ⟨rfl, by omega⟩)
  · refine go_tableIn O dX2_goesAway_1 (by omega) (by omega) (by omega) rfl 57 (by decide) ?_
    refine go_aload_n O dX2_goesAway_57 rfl 0 rfl 58 rfl ?_
    refine go_get O hK dX2_goesAway_58 hinX2 0 rfl rfl 2 (by decide) flX2_24 rfl 61 rfl ?_
    exact hret _ _ _ () dX2_goesAway_61 (nar_b (bz_01 _)) (by omega)
  · refine go_tableIn O dX2_goesAway_1 (by omega) (by omega) (by omega) rfl 62 (by decide) ?_
    refine go_iload_n O dX2_goesAway_62 rfl 2 rfl 63 rfl ?_
    refine go_if_lt O dX2_goesAway_63 70 (by decide) 66 rfl (by omega) (fun h63 => ?_) (fun h63 => ?_)
    · refine go_iconst O dX2_goesAway_70 71 rfl ?_
      exact hret _ _ _ () dX2_goesAway_71 rfl (Or.inr ⟨rfl, by omega⟩)
    · refine go_iconst O dX2_goesAway_66 67 rfl ?_
      refine go_goto O dX2_goesAway_67 71 (by decide) ?_
      exact hret _ _ _ () dX2_goesAway_71 rfl (Or.inl ⟨rfl, by omega⟩)
  · refine go_tableIn O dX2_goesAway_1 (by omega) (by omega) (by omega) rfl 72 (by decide) ?_
    refine go_iload_n O dX2_goesAway_72 rfl 2 rfl 73 rfl ?_
    refine go_if_le O dX2_goesAway_73 80 (by decide) 76 rfl (by omega) (fun h73 => ?_) (fun h73 => ?_)
    · refine go_iconst O dX2_goesAway_80 81 rfl ?_
      exact hret _ _ _ () dX2_goesAway_81 rfl (Or.inr ⟨rfl, by omega⟩)
    · refine go_iconst O dX2_goesAway_76 77 rfl ?_
      refine go_goto O dX2_goesAway_77 81 (by decide) ?_
      exact hret _ _ _ () dX2_goesAway_81 rfl (Or.inl ⟨rfl, by omega⟩)
  · refine go_tableOut O dX2_goesAway_1 (by omega) (by omega) 82 (by decide) ?_
    refine go_iload_n O dX2_goesAway_82 rfl 2 rfl 83 rfl ?_
    refine go_if_gt O dX2_goesAway_83 94 (by decide) 86 rfl (by omega) (fun h83 => ?_) (fun h83 => ?_)
    · refine go_iconst O dX2_goesAway_94 95 rfl ?_
      refine go_goto O dX2_goesAway_95 99 (by decide) ?_
      exact hret _ _ _ () dX2_goesAway_99 rfl (Or.inl ⟨rfl, by omega⟩)
    · refine go_iload_n O dX2_goesAway_86 rfl 2 rfl 87 rfl ?_
      refine go_if_ne O dX2_goesAway_87 98 (by decide) 90 rfl (by omega) (fun h87 => ?_) (fun h87 => ?_)
      · refine go_iconst O dX2_goesAway_98 99 rfl ?_
        exact hret _ _ _ () dX2_goesAway_99 rfl (Or.inr ⟨rfl, by omega⟩)
      · refine go_iload_n O dX2_goesAway_90 rfl 3 rfl 91 rfl ?_
        refine go_if_eq O dX2_goesAway_91 98 (by decide) 94 rfl (by omega) (fun h91 => ?_) (fun h91 => ?_)
        · refine go_iconst O dX2_goesAway_98 99 rfl ?_
          exact hret _ _ _ () dX2_goesAway_99 rfl (Or.inr ⟨rfl, by omega⟩)
        · refine go_iconst O dX2_goesAway_94 95 rfl ?_
          refine go_goto O dX2_goesAway_95 99 (by decide) ?_
          exact hret _ _ _ () dX2_goesAway_99 rfl (Or.inl ⟨rfl, by omega⟩)
end
section
/-- a fact put by, that omega is not to look into -/
def Hid (p : Prop) : Prop := p
theorem Hid.out {p : Prop} (h : Hid p) : p := h
theorem Hid.mk {p : Prop} (h : p) : Hid p := h
/-! Rounding of a row at a place, to a multiple of 1, 2 or 5. -/
theorem bz_nat (b : Bool) : bz b = ((b.toNat : Nat) : Int) := by cases b <;> rfl
theorem tm_R {W P st : Nat} (hP : 1 ≤ P) : W % (st * 10 ^ P) = (W / 10 ^ P % st * 10 + W / 10 ^ (P - 1) % 10) * 10 ^ (P - 1) + W % 10 ^ (P - 1) := by
  obtain ⟨k, rfl⟩ : ∃ k, P = k + 1 := ⟨P - 1, by omega⟩
  rw [Nat.mul_comm, Nat.mod_mul, Nat.add_sub_cancel, tmodS, Nat.add_mul, Nat.mul_assoc _ 10, ← p10s, Nat.mul_comm (10 ^ (k + 1))]
  omega
theorem tm_lw {W P : Nat} : W / 10 ^ (P + 1) % 10 * 10 + W / 10 ^ P % 10 = W / 10 ^ P % 100 := by rw [tq10]; omega
theorem tm_facts {W P st : Nat} {go : Bool} (hP : 1 ≤ P) (hst : st = 1 ∨ st = 2 ∨ st = 5) :
    (W / 10 ^ (P + 1) % 10 * 10 + W / 10 ^ P % 10) % st = W / 10 ^ P % st ∧ (W / 10 ^ (P + 1) % 10 * 10 + W / 10 ^ P % 10) / st % 2 = W / (st * 10 ^ P) % 2 ∧
    (2 * (W % (st * 10 ^ P)) + go.toNat = 0 ↔ (W / 10 ^ (P + 1) % 10 * 10 + W / 10 ^ P % 10) % st * 10 + W / 10 ^ (P - 1) % 10 = 0 ∧ W % 10 ^ (P - 1) = 0 ∧ bz go = 0) ∧
    ((W / 10 ^ (P + 1) % 10 * 10 + W / 10 ^ P % 10) % st * 10 + W / 10 ^ (P - 1) % 10 < 5 * st → 2 * (2 * (W % (st * 10 ^ P)) + go.toNat) < 2 * (st * 10 ^ P)) ∧
    (5 * st < (W / 10 ^ (P + 1) % 10 * 10 + W / 10 ^ P % 10) % st * 10 + W / 10 ^ (P - 1) % 10 → 2 * (st * 10 ^ P) < 2 * (2 * (W % (st * 10 ^ P)) + go.toNat)) ∧
    ((W / 10 ^ (P + 1) % 10 * 10 + W / 10 ^ P % 10) % st * 10 + W / 10 ^ (P - 1) % 10 = 5 * st → (W % 10 ^ (P - 1) ≠ 0 ∨ bz go = 1 → 2 * (st * 10 ^ P) < 2 * (2 * (W % (st * 10 ^ P)) + go.toNat)) ∧ (W % 10 ^ (P - 1) = 0 ∧ bz go = 0 → 2 * (2 * (W % (st * 10 ^ P)) + go.toNat) = 2 * (st * 10 ^ P))) := by
  have e1 : (W / 10 ^ (P + 1) % 10 * 10 + W / 10 ^ P % 10) % st = W / 10 ^ P % st := by
    rw [tm_lw]; rcases hst with rfl | rfl | rfl <;> omega
  have e2 : (W / 10 ^ (P + 1) % 10 * 10 + W / 10 ^ P % 10) / st % 2 = W / (st * 10 ^ P) % 2 := by
    rw [tm_lw, Nat.mul_comm st, ← Nat.div_div_eq_div_mul]; rcases hst with rfl | rfl | rfl <;> omega
  refine ⟨e1, e2, ?_⟩
  rw [e1, tm_R hP, bz_nat]
  have hg : go.toNat ≤ 1 := by cases go <;> decide
  have hT : 0 < 10 ^ (P - 1) := p10 _
  have hlow : W % 10 ^ (P - 1) < 10 ^ (P - 1) := Nat.mod_lt _ hT
  have hU : st * 10 ^ P = 2 * (5 * st * 10 ^ (P - 1)) := by
    obtain ⟨k, rfl⟩ : ∃ k, P = k + 1 := ⟨P - 1, by omega⟩
    rw [Nat.add_sub_cancel, p10s, ← Nat.mul_assoc, ← Nat.mul_assoc, ← Nat.mul_assoc, Nat.mul_comm st 10]
  rw [hU]
  generalize W / 10 ^ P % st * 10 + W / 10 ^ (P - 1) % 10 = tn
  generalize W % 10 ^ (P - 1) = low at *
  generalize 10 ^ (P - 1) = T at *
  generalize go.toNat = g at *
  refine ⟨⟨fun h => ?_, fun h => ?_⟩, fun h => ?_, fun h => ?_, fun h => ⟨fun h2 => ?_, fun h2 => ?_⟩⟩
  · have h1 : tn * T = 0 := by omega
    rcases Nat.mul_eq_zero.mp h1 with h2 | h2 <;> omega
  · rw [h.1, Nat.zero_mul]; omega
  · have h1 : (tn + 1) * T ≤ 5 * st * T := Nat.mul_le_mul_right _ h
    rw [Nat.add_mul, Nat.one_mul] at h1
    omega
  · have h1 : (5 * st + 1) * T ≤ tn * T := Nat.mul_le_mul_right _ h
    rw [Nat.add_mul, Nat.one_mul] at h1
    omega
  · rw [h]; omega
  · rw [h]; omega
theorem tm_V1 {W P st : Nat} : (((W / (st * 10 ^ P) + 1) * (st * 10 ^ P) : Nat) : Int) = ((W / 10 ^ P * 10 ^ P : Nat) : Int) + ((st : Int) - ((W / 10 ^ P % st : Nat) : Int)) * (10 ^ P : Nat) := by
  have h := Nat.div_add_mod (W / 10 ^ P) st
  have h1 : W / (st * 10 ^ P) = W / 10 ^ P / st := by rw [Nat.mul_comm st, ← Nat.div_div_eq_div_mul]
  have h2 : (W / (st * 10 ^ P) + 1) * (st * 10 ^ P) = ((W / 10 ^ P / st + 1) * st) * 10 ^ P := by rw [h1, Nat.mul_assoc]
  have h3 : (W / 10 ^ P / st + 1) * st = W / 10 ^ P + st - W / 10 ^ P % st := by rw [Nat.add_mul, Nat.one_mul, Nat.mul_comm]; omega
  rw [h2, Int.natCast_mul, Int.natCast_mul (W / 10 ^ P), ← Int.add_mul]
  congr 1
  rw [h3]
  have h4 : W / 10 ^ P % st ≤ W / 10 ^ P := Nat.mod_le _ _
  omega
theorem tm_V0 {W P st : Nat} : ((W / (st * 10 ^ P) * (st * 10 ^ P) : Nat) : Int) = ((W / 10 ^ P * 10 ^ P : Nat) : Int) + (0 - ((W / 10 ^ P % st : Nat) : Int)) * (10 ^ P : Nat) := by
  have h := Nat.div_add_mod (W / 10 ^ P) st
  have h1 : W / (st * 10 ^ P) = W / 10 ^ P / st := by rw [Nat.mul_comm st, ← Nat.div_div_eq_div_mul]
  have h2 : W / (st * 10 ^ P) * (st * 10 ^ P) = (W / 10 ^ P / st * st) * 10 ^ P := by rw [h1, Nat.mul_assoc]
  have h3 : W / 10 ^ P / st * st = W / 10 ^ P - W / 10 ^ P % st := by rw [Nat.mul_comm]; omega
  rw [h2, Int.natCast_mul, Int.natCast_mul (W / 10 ^ P), ← Int.add_mul]
  congr 1
  rw [h3]
  have h4 : W / 10 ^ P % st ≤ W / 10 ^ P := Nat.mod_le _ _
  omega
theorem zero_low {W P : Nat} {g : Nat → Int32} (h1 : ∀ j, j < P → g j = iI 0) (h2 : ∀ j, P ≤ j → g j = dg W j) : ∀ j, g j = dg (W / 10 ^ P * 10 ^ P) j := by
  intro j
  rw [dg_shift]
  by_cases e : P ≤ j
  · rw [if_pos e, h2 j e, dg_at, dg_at]
    have : j = P + (j - P) := by omega
    rw [this, tqadd, show P + (j - P) - P = j - P by omega]
  · rw [if_neg e]; exact h1 j (by omega)
theorem tm_half {tn s5 a b low : Nat} {g hf : Int} (k4 : tn < s5 → b < a) (k5 : s5 < tn → a < b) (k6 : tn = s5 → (low ≠ 0 ∨ g = 1 → a < b) ∧ (low = 0 ∧ g = 0 → b = a)) (hz : (hf = -1 ∧ tn < s5) ∨ (hf = 0 ∧ tn = s5 ∧ low = 0 ∧ g = 0) ∨ (hf = 1 ∧ (s5 < tn ∨ (tn = s5 ∧ (low ≠ 0 ∨ g = 1))))) : (0 ≤ hf ↔ a ≤ b) ∧ (0 < hf ↔ a < b) := by
  rcases hz with ⟨h1, h2⟩ | ⟨h1, h2, h3⟩ | ⟨h1, h2 | ⟨h2, h3⟩⟩
  · have := k4 h2; omega
  · have := (k6 h2).2 h3; omega
  · have := k5 h2; omega
  · have := (k6 h2).1 h3; omega
theorem tm_aw {mode bn hf od z : Int} {Q R D : Nat} (q1 : 0 ≤ hf ↔ D ≤ 2 * R) (q2 : 0 < hf ↔ D < 2 * R) (ho : (od = 1 ∧ Q % 2 = 1) ∨ (od = 0 ∧ ¬ Q % 2 = 1))
    (h : (z = 1 ∧ (mode = 0 ∨ (mode = 2 ∧ bn = 0) ∨ (mode = 3 ∧ bn = 1) ∨ (mode = 4 ∧ 0 ≤ hf) ∨ (mode = 5 ∧ 0 < hf) ∨ (mode = 6 ∧ (0 < hf ∨ (hf = 0 ∧ od = 1))))) ∨ (z = 0 ∧ ¬ (mode = 0 ∨ (mode = 2 ∧ bn = 0) ∨ (mode = 3 ∧ bn = 1) ∨ (mode = 4 ∧ 0 ≤ hf) ∨ (mode = 5 ∧ 0 < hf) ∨ (mode = 6 ∧ (0 < hf ∨ (hf = 0 ∧ od = 1)))))) :
    (z = 1 ∧ (mode = 0 ∨ (mode = 2 ∧ bn = 0) ∨ (mode = 3 ∧ bn = 1) ∨ (mode = 4 ∧ D ≤ 2 * R) ∨ (mode = 5 ∧ D < 2 * R) ∨ (mode = 6 ∧ (D < 2 * R ∨ (D ≤ 2 * R ∧ Q % 2 = 1))))) ∨ (z = 0 ∧ ¬ (mode = 0 ∨ (mode = 2 ∧ bn = 0) ∨ (mode = 3 ∧ bn = 1) ∨ (mode = 4 ∧ D ≤ 2 * R) ∨ (mode = 5 ∧ D < 2 * R) ∨ (mode = 6 ∧ (D < 2 * R ∨ (D ≤ 2 * R ∧ Q % 2 = 1))))) := by
  rcases h with ⟨h1, h2⟩ | ⟨h1, h2⟩
  · refine Or.inl ⟨h1, ?_⟩
    rcases h2 with h2 | h2 | h2 | h2 | h2 | h2 <;> omega
  · refine Or.inr ⟨h1, fun h3 => h2 ?_⟩
    rcases h3 with h3 | h3 | h3 | h3 | h3 | h3 <;> omega
set_option maxHeartbeats 4000000 in
set_option maxRecDepth 100000 in
/-- Work.toMultiple -/
theorem c_X2_toMultiple (E : TEn) (hE : EnvOk E) (hN : NestOk E) (hw qrow qfac : Nat) (cI : ClassId) (ng go : Bool) (W P st : Nat) (mode : Int) (hW : W < 10 ^ 72) (hP1 : 1 ≤ P) (hP2 : P ≤ 70) (hst : st = 1 ∨ st = 2 ∨ st = 5) (hm : 0 ≤ mode ∧ mode ≤ 7) : Cti vwCl E yX2_toMultiple wsX2_toMultiple (rmn 3 67) [.ref hw, .int (iI ((P : Nat) : Int)), .int (iI ((st : Nat) : Int)), .int (iI mode)] [(hw, .inr (2, [.ref qrow, .ref qfac, .int (iI (bz ng)), .int (iI (bz go))])), (qrow, .inl (cI, 72, .inl (dg W)))] [(cI, .int)] (fun (z : Int) (u : Nat × Bool) => (z = 1 ∧ ((2 * (W % (st * 10 ^ P)) + go.toNat) = 0 ∨ mode ≠ 7) ∧ u.1 = trnd mode ng (W / (st * 10 ^ P)) (2 * (W % (st * 10 ^ P)) + go.toNat) (2 * (st * 10 ^ P)) * (st * 10 ^ P) ∧ u.2 = false) ∨ (z = 0 ∧ (2 * (W % (st * 10 ^ P)) + go.toNat) ≠ 0 ∧ mode = 7 ∧ u.1 = W ∧ u.2 = go)) (fun u => [(hw, .inr (2, [.ref qrow, .ref qfac, .int (iI (bz ng)), .int (iI (bz u.2))])), (qrow, .inl (cI, 72, .inl (dg u.1)))]) := by
  refine enteri (by decide) (Nat.le_of_ble_eq_true rfl) ?_
  intro X O hK hin2 hret
  show TGo X [(hw, .inr (2, [.ref qrow, .ref qfac, .int (iI (bz ng)), .int (iI (bz go))])), (qrow, .inl (cI, 72, .inl (dg W)))] 0 0 0 [(0, .ref hw), (1, .int (iI ((P : Nat) : Int))), (2, .int (iI ((st : Nat) : Int))), (3, .int (iI mode))] []
  have k1 := (tm_facts (W := W) (P := P) (st := st) (go := go) hP1 hst).1
  have hlt : (W / 10 ^ (P + 1) % 10 * 10 + W / 10 ^ P % 10) % st < st := Nat.mod_lt _ (by omega)
  have hx10 : W / 10 ^ P * 10 ^ P < 10 ^ 72 := Nat.lt_of_le_of_lt (Nat.div_mul_le_self _ _) hW
  have lp : ∀ (c : Nat) (i : Nat) (x : Int) (aw : Int) (g : Nat → Int32), c + i = P + 1 → i ≤ P → x = (i : Int) → mode ≠ 7 → Hid ((2 * (W % (st * 10 ^ P)) + go.toNat) ≠ 0) → Hid ((aw = 1 ∧ (mode = 0 ∨ (mode = 2 ∧ bz ng = 0) ∨ (mode = 3 ∧ bz ng = 1) ∨ (mode = 4 ∧ (2 * (st * 10 ^ P)) ≤ 2 * (2 * (W % (st * 10 ^ P)) + go.toNat)) ∨ (mode = 5 ∧ (2 * (st * 10 ^ P)) < 2 * (2 * (W % (st * 10 ^ P)) + go.toNat)) ∨ (mode = 6 ∧ ((2 * (st * 10 ^ P)) < 2 * (2 * (W % (st * 10 ^ P)) + go.toNat) ∨ ((2 * (st * 10 ^ P)) ≤ 2 * (2 * (W % (st * 10 ^ P)) + go.toNat) ∧ W / (st * 10 ^ P) % 2 = 1))))) ∨ (aw = 0 ∧ ¬ (mode = 0 ∨ (mode = 2 ∧ bz ng = 0) ∨ (mode = 3 ∧ bz ng = 1) ∨ (mode = 4 ∧ (2 * (st * 10 ^ P)) ≤ 2 * (2 * (W % (st * 10 ^ P)) + go.toNat)) ∨ (mode = 5 ∧ (2 * (st * 10 ^ P)) < 2 * (2 * (W % (st * 10 ^ P)) + go.toNat)) ∨ (mode = 6 ∧ ((2 * (st * 10 ^ P)) < 2 * (2 * (W % (st * 10 ^ P)) + go.toNat) ∨ ((2 * (st * 10 ^ P)) ≤ 2 * (2 * (W % (st * 10 ^ P)) + go.toNat) ∧ W / (st * 10 ^ P) % 2 = 1)))))) → (aw = 0 ∨ aw = 1) → (∀ j, j < i → g j = iI 0) → (∀ j, i ≤ j → g j = dg W j) → TGo X [(hw, .inr (2, [.ref qrow, .ref qfac, .int (iI (bz ng)), .int (iI (bz go))])), (qrow, .inl (cI, 72, .inl g))] 0 0 135 [(9, .int (iI x)), (8, .int (iI aw)), (4, .int (iI ((W / 10 ^ (P + 1) % 10 * 10 + W / 10 ^ P % 10 : Nat) : Int))), (0, .ref hw), (1, .int (iI ((P : Nat) : Int))), (2, .int (iI ((st : Nat) : Int)))] [] := by
    intro c
    induction c with
    | zero => intro i x aw g h1 h2 hx hm7 hr20 haw0 haw1 hlo hhi; omega
    | succ c ih =>
      intro i x aw g h1 h2 hx hm7 hr20 haw0 haw1 hlo hhi
      refine go_iload O dX2_toMultiple_135 0 rfl 137 rfl ?_
      refine go_iload_n O dX2_toMultiple_137 rfl 4 rfl 138 rfl ?_
      refine go_icmp_ge O dX2_toMultiple_138 155 (by decide) 141 rfl (by omega) (by omega) (fun h138 => ?_) (fun h138 => ?_)
      · refine TGo.arr 1 rfl (dg (W / 10 ^ P * 10 ^ P)) (fun j _ => zero_low (fun j e => hlo j (by omega)) (fun j e => hhi j (by omega)) j) (ws' := [(hw, .inr (2, [.ref qrow, .ref qfac, .int (iI (bz ng)), .int (iI (bz go))])), (qrow, .inl (cI, 72, .inl (dg (W / 10 ^ P * 10 ^ P))))]) rfl ?_
        refine go_aload_n O dX2_toMultiple_155 rfl 3 rfl 156 rfl ?_
        refine go_iconst O dX2_toMultiple_156 157 rfl ?_
        refine go_put O hK dX2_toMultiple_157 hinX2 tyX2 tyX2_ok nmX2 0 rfl rfl 3 (by decide) flX2_28 rfl rfl rfl rfl (Nat.le_of_ble_eq_true rfl) [(hw, .inr (2, [.ref qrow, .ref qfac, .int (iI (bz ng)), .int (iI 0)])), (qrow, .inl (cI, 72, .inl (dg (W / 10 ^ P * 10 ^ P))))] rfl 160 rfl ?_
        refine go_aload_n O dX2_toMultiple_160 rfl 3 rfl 161 rfl ?_
        refine go_iload_n O dX2_toMultiple_161 rfl 4 rfl 162 rfl ?_
        refine go_iload O dX2_toMultiple_162 1 rfl 164 rfl ?_
        refine go_if_eq O dX2_toMultiple_164 171 (by decide) 167 rfl (by omega) (fun h164 => ?_) (fun h164 => ?_)
        · refine go_iconst O dX2_toMultiple_171 172 rfl ?_
          refine go_iload O dX2_toMultiple_172 2 rfl 174 rfl ?_
          refine go_iload_n O dX2_toMultiple_174 rfl 5 rfl 175 rfl ?_
          refine go_irem O dX2_toMultiple_175 (by omega) (by omega) (by omega) (by omega) (((W / 10 ^ (P + 1) % 10 * 10 + W / 10 ^ P % 10) % st : Nat) : Int) rfl 176 rfl ?_
          refine go_isub O dX2_toMultiple_176 (0 - ((((W / 10 ^ (P + 1) % 10 * 10 + W / 10 ^ P % 10) % st : Nat)) : Int)) rfl 177 rfl ?_
          refine go_callvV (As := [.int (iI ((P : Nat) : Int)), .int (iI (0 - ((((W / 10 ^ (P + 1) % 10 * 10 + W / 10 ^ P % 10) % st : Nat)) : Int)))]) (rest := []) (wr := []) O hK hE (c_X2_increase E hE hw qrow qfac cI ng false (W / 10 ^ P * 10 ^ P) P (W / (st * 10 ^ P) * (st * 10 ^ P)) ((0 - ((((W / 10 ^ (P + 1) % 10 * 10 + W / 10 ^ P % 10) % st : Nat)) : Int))) hx10 (by omega) (by omega) (by rw [k1]; exact tm_V0)) mlX2_81 imX2_increase seX2_increase inX2 cdX2_increase 2 (by decide +kernel) ⟨Nat.le_of_ble_eq_true rfl, Nat.le_of_ble_eq_true rfl⟩ 0 rfl rfl [0] rfl [0, 1] rfl (by decide) [] rfl (by decide) (by decide) rfl rfl (Nat.le_of_ble_eq_true rfl) ⟨Nat.zero_le _, Nat.zero_le _⟩ dX2_toMultiple_177 180 rfl (fun u hu => ?_)
          show TGo X [(hw, .inr (2, [.ref qrow, .ref qfac, .int (iI (bz ng)), .int (iI 0)])), (qrow, .inl (cI, 72, .inl (dg (W / (st * 10 ^ P) * (st * 10 ^ P)))))] 0 0 180 [(9, .int (iI x)), (8, .int (iI aw)), (4, .int (iI ((W / 10 ^ (P + 1) % 10 * 10 + W / 10 ^ P % 10 : Nat) : Int))), (0, .ref hw), (1, .int (iI ((P : Nat) : Int))), (2, .int (iI ((st : Nat) : Int)))] []
          refine go_iconst O dX2_toMultiple_180 181 rfl ?_
          have haw := Hid.out haw0
          have hr2 := Hid.out hr20
          clear ih hlo hhi
          exact hret _ _ _ ((W / (st * 10 ^ P) * (st * 10 ^ P)), false) dX2_toMultiple_181 rfl (Or.inl ⟨rfl, Or.inr hm7, by rw [trnd_no (haw.elim (fun e => absurd e.1 (by omega)) (fun e => e.2))], rfl⟩)
        · refine go_iload_n O dX2_toMultiple_167 rfl 5 rfl 168 rfl ?_
          refine go_goto O dX2_toMultiple_168 172 (by decide) ?_
          refine go_iload O dX2_toMultiple_172 2 rfl 174 rfl ?_
          refine go_iload_n O dX2_toMultiple_174 rfl 5 rfl 175 rfl ?_
          refine go_irem O dX2_toMultiple_175 (by omega) (by omega) (by omega) (by omega) (((W / 10 ^ (P + 1) % 10 * 10 + W / 10 ^ P % 10) % st : Nat) : Int) rfl 176 rfl ?_
          refine go_isub O dX2_toMultiple_176 (((st : Nat) : Int) - ((((W / 10 ^ (P + 1) % 10 * 10 + W / 10 ^ P % 10) % st : Nat)) : Int)) rfl 177 rfl ?_
          refine go_callvV (As := [.int (iI ((P : Nat) : Int)), .int (iI (((st : Nat) : Int) - ((((W / 10 ^ (P + 1) % 10 * 10 + W / 10 ^ P % 10) % st : Nat)) : Int)))]) (rest := []) (wr := []) O hK hE (c_X2_increase E hE hw qrow qfac cI ng false (W / 10 ^ P * 10 ^ P) P ((W / (st * 10 ^ P) + 1) * (st * 10 ^ P)) ((((st : Nat) : Int) - ((((W / 10 ^ (P + 1) % 10 * 10 + W / 10 ^ P % 10) % st : Nat)) : Int))) hx10 (by omega) (by omega) (by rw [k1]; exact tm_V1)) mlX2_81 imX2_increase seX2_increase inX2 cdX2_increase 2 (by decide +kernel) ⟨Nat.le_of_ble_eq_true rfl, Nat.le_of_ble_eq_true rfl⟩ 0 rfl rfl [0] rfl [0, 1] rfl (by decide) [] rfl (by decide) (by decide) rfl rfl (Nat.le_of_ble_eq_true rfl) ⟨Nat.zero_le _, Nat.zero_le _⟩ dX2_toMultiple_177 180 rfl (fun u hu => ?_)
          show TGo X [(hw, .inr (2, [.ref qrow, .ref qfac, .int (iI (bz ng)), .int (iI 0)])), (qrow, .inl (cI, 72, .inl (dg ((W / (st * 10 ^ P) + 1) * (st * 10 ^ P)))))] 0 0 180 [(9, .int (iI x)), (8, .int (iI aw)), (4, .int (iI ((W / 10 ^ (P + 1) % 10 * 10 + W / 10 ^ P % 10 : Nat) : Int))), (0, .ref hw), (1, .int (iI ((P : Nat) : Int))), (2, .int (iI ((st : Nat) : Int)))] []
          refine go_iconst O dX2_toMultiple_180 181 rfl ?_
          have haw := Hid.out haw0
          have hr2 := Hid.out hr20
          clear ih hlo hhi
          exact hret _ _ _ (((W / (st * 10 ^ P) + 1) * (st * 10 ^ P)), false) dX2_toMultiple_181 rfl (Or.inl ⟨rfl, Or.inr hm7, by rw [trnd_up hr2 (haw.elim (fun e => e.2) (fun e => absurd e.1 (by omega)))], rfl⟩)
      · refine go_aload_n O dX2_toMultiple_141 rfl 3 rfl 142 rfl ?_
        refine go_get O hK dX2_toMultiple_142 hinX2 0 rfl rfl 0 (by decide) flX2_9 rfl 145 rfl ?_
        refine go_iload O dX2_toMultiple_145 0 rfl 147 rfl ?_
        refine go_iconst O dX2_toMultiple_147 148 rfl ?_
        refine go_iast O hK dX2_toMultiple_148 1 0 rfl rfl i hx (by omega) (by omega) (upd g i (iI 0)) (fun _ _ => rfl) [(hw, .inr (2, [.ref qrow, .ref qfac, .int (iI (bz ng)), .int (iI (bz go))])), (qrow, .inl (cI, 72, .inl (upd g i (iI 0))))] rfl 149 rfl ?_
        refine go_iinc O dX2_toMultiple_149 0 rfl ((i + 1 : Nat) : Int) (by omega) (by decide) [(9, .int (iI ((i + 1 : Nat) : Int))), (8, .int (iI aw)), (4, .int (iI ((W / 10 ^ (P + 1) % 10 * 10 + W / 10 ^ P % 10 : Nat) : Int))), (0, .ref hw), (1, .int (iI ((P : Nat) : Int))), (2, .int (iI ((st : Nat) : Int)))] rfl 152 rfl ?_
        refine go_goto O dX2_toMultiple_152 135 (by decide) ?_
        refine TGo.lsub (lv' := [(9, .int (iI ((i + 1 : Nat) : Int))), (8, .int (iI aw)), (4, .int (iI ((W / 10 ^ (P + 1) % 10 * 10 + W / 10 ^ P % 10 : Nat) : Int))), (0, .ref hw), (1, .int (iI ((P : Nat) : Int))), (2, .int (iI ((st : Nat) : Int)))]) [0, 1, 2, 3, 4, 5] rfl ?_
        exact ih (i + 1) _ _ _ (by omega) (by omega) (by omega) hm7 hr20 haw0 haw1 (lo_upd (F := fun _ => iI 0) hlo rfl) (hi_upd hhi)
  have m109 : ∀ (hf : Int), r32 hf → mode ≠ 7 → Hid ((2 * (W % (st * 10 ^ P)) + go.toNat) ≠ 0) → Hid ((0 ≤ hf ↔ (2 * (st * 10 ^ P)) ≤ 2 * (2 * (W % (st * 10 ^ P)) + go.toNat)) ∧ (0 < hf ↔ (2 * (st * 10 ^ P)) < 2 * (2 * (W % (st * 10 ^ P)) + go.toNat))) → TGo X [(hw, .inr (2, [.ref qrow, .ref qfac, .int (iI (bz ng)), .int (iI (bz go))])), (qrow, .inl (cI, 72, .inl (dg W)))] 0 0 109 [(7, .int (iI hf)), (4, .int (iI ((W / 10 ^ (P + 1) % 10 * 10 + W / 10 ^ P % 10 : Nat) : Int))), (0, .ref hw), (1, .int (iI ((P : Nat) : Int))), (2, .int (iI ((st : Nat) : Int))), (3, .int (iI mode))] [] := by
    intro hf hfr hm7 hr20 q12
    have k2 := (tm_facts (W := W) (P := P) (st := st) (go := go) hP1 hst).2.1
    have hdv : (W / 10 ^ (P + 1) % 10 * 10 + W / 10 ^ P % 10) / st ≤ 99 := Nat.le_trans (Nat.div_le_self _ _) (by omega)
    have b1 := bz_01 ng
    refine go_aload_n O dX2_toMultiple_109 rfl 2 rfl 110 rfl ?_
    refine go_iload_n O dX2_toMultiple_110 rfl 5 rfl 111 rfl ?_
    refine go_iload O dX2_toMultiple_111 0 rfl 113 rfl ?_
    refine go_iload O dX2_toMultiple_113 1 rfl 115 rfl ?_
    refine go_iload_n O dX2_toMultiple_115 rfl 4 rfl 116 rfl ?_
    refine go_idiv O dX2_toMultiple_116 (by omega) (by omega) (by omega) (by omega) (((W / 10 ^ (P + 1) % 10 * 10 + W / 10 ^ P % 10) / st : Nat) : Int) rfl 117 rfl ?_
    refine go_iconst O dX2_toMultiple_117 118 rfl ?_
    refine go_irem O dX2_toMultiple_118 (Int.natCast_nonneg _) (by omega) (by omega) (by omega) (((W / 10 ^ (P + 1) % 10 * 10 + W / 10 ^ P % 10) / st % 2 : Nat) : Int) rfl 119 rfl ?_
    refine go_if_eq O dX2_toMultiple_119 126 (by decide) 122 rfl (by omega) (fun h119 => ?_) (fun h119 => ?_)
    · refine go_iconst O dX2_toMultiple_126 127 rfl ?_
      refine go_calliV (As := [.int (iI mode), .int (iI hf), .int (iI 0)]) (rest := []) (wr := [(qrow, .inl (cI, 72, .inl (dg W)))]) O hK hE (c_X2_goesAway E hE hw qrow qfac cI ng go mode hf 0 (by omega) hfr (by omega)) mlX2_77 imX2_goesAway seX2_goesAway inX2 cdX2_goesAway 3 (by decide +kernel) ⟨Nat.le_of_ble_eq_true rfl, Nat.le_of_ble_eq_true rfl⟩ 0 rfl rfl [] rfl [0] rfl (by decide) [1] rfl (by decide) (by decide) rfl rfl (Nat.le_of_ble_eq_true rfl) ⟨Nat.zero_le _, Nat.zero_le _⟩ dX2_toMultiple_127 130 rfl (fun z u hu => ?_)
      show TGo X [(qrow, .inl (cI, 72, .inl (dg W))), (hw, .inr (2, [.ref qrow, .ref qfac, .int (iI (bz ng)), .int (iI (bz go))]))] 0 0 130 [(7, .int (iI hf)), (4, .int (iI ((W / 10 ^ (P + 1) % 10 * 10 + W / 10 ^ P % 10 : Nat) : Int))), (0, .ref hw), (1, .int (iI ((P : Nat) : Int))), (2, .int (iI ((st : Nat) : Int))), (3, .int (iI mode))] [.int (iI z)]
      refine TGo.sub (ws' := [(hw, .inr (2, [.ref qrow, .ref qfac, .int (iI (bz ng)), .int (iI (bz go))])), (qrow, .inl (cI, 72, .inl (dg W)))]) [1, 0] (by decide) rfl ?_
      refine go_istore O dX2_toMultiple_130 (by decide) [(8, .int (iI z)), (7, .int (iI hf)), (4, .int (iI ((W / 10 ^ (P + 1) % 10 * 10 + W / 10 ^ P % 10 : Nat) : Int))), (0, .ref hw), (1, .int (iI ((P : Nat) : Int))), (2, .int (iI ((st : Nat) : Int))), (3, .int (iI mode))] rfl 132 rfl ?_
      refine go_iconst O dX2_toMultiple_132 133 rfl ?_
      refine go_istore O dX2_toMultiple_133 (by decide) [(9, .int (iI 0)), (8, .int (iI z)), (7, .int (iI hf)), (4, .int (iI ((W / 10 ^ (P + 1) % 10 * 10 + W / 10 ^ P % 10 : Nat) : Int))), (0, .ref hw), (1, .int (iI ((P : Nat) : Int))), (2, .int (iI ((st : Nat) : Int))), (3, .int (iI mode))] rfl 135 rfl ?_
      refine TGo.lsub (lv' := [(9, .int (iI 0)), (8, .int (iI z)), (4, .int (iI ((W / 10 ^ (P + 1) % 10 * 10 + W / 10 ^ P % 10 : Nat) : Int))), (0, .ref hw), (1, .int (iI ((P : Nat) : Int))), (2, .int (iI ((st : Nat) : Int)))]) [0, 1, 3, 4, 5, 6] rfl ?_
      have hod : (0 : Int) = 1 ∧ W / (st * 10 ^ P) % 2 = 1 ∨ (0 : Int) = 0 ∧ ¬ W / (st * 10 ^ P) % 2 = 1 := by omega
      have hz01 : z = 0 ∨ z = 1 := hu.elim (fun e => Or.inr e.1) (fun e => Or.inl e.1)
      exact lp (P + 1) 0 _ _ _ (by omega) (by omega) (by omega) hm7 hr20 (Hid.mk (tm_aw q12.1 q12.2 hod hu)) hz01 (fun j a => absurd a (by omega)) (fun _ _ => rfl)
    · refine go_iconst O dX2_toMultiple_122 123 rfl ?_
      refine go_goto O dX2_toMultiple_123 127 (by decide) ?_
      refine go_calliV (As := [.int (iI mode), .int (iI hf), .int (iI 1)]) (rest := []) (wr := [(qrow, .inl (cI, 72, .inl (dg W)))]) O hK hE (c_X2_goesAway E hE hw qrow qfac cI ng go mode hf 1 (by omega) hfr (by omega)) mlX2_77 imX2_goesAway seX2_goesAway inX2 cdX2_goesAway 3 (by decide +kernel) ⟨Nat.le_of_ble_eq_true rfl, Nat.le_of_ble_eq_true rfl⟩ 0 rfl rfl [] rfl [0] rfl (by decide) [1] rfl (by decide) (by decide) rfl rfl (Nat.le_of_ble_eq_true rfl) ⟨Nat.zero_le _, Nat.zero_le _⟩ dX2_toMultiple_127 130 rfl (fun z u hu => ?_)
      show TGo X [(qrow, .inl (cI, 72, .inl (dg W))), (hw, .inr (2, [.ref qrow, .ref qfac, .int (iI (bz ng)), .int (iI (bz go))]))] 0 0 130 [(7, .int (iI hf)), (4, .int (iI ((W / 10 ^ (P + 1) % 10 * 10 + W / 10 ^ P % 10 : Nat) : Int))), (0, .ref hw), (1, .int (iI ((P : Nat) : Int))), (2, .int (iI ((st : Nat) : Int))), (3, .int (iI mode))] [.int (iI z)]
      refine TGo.sub (ws' := [(hw, .inr (2, [.ref qrow, .ref qfac, .int (iI (bz ng)), .int (iI (bz go))])), (qrow, .inl (cI, 72, .inl (dg W)))]) [1, 0] (by decide) rfl ?_
      refine go_istore O dX2_toMultiple_130 (by decide) [(8, .int (iI z)), (7, .int (iI hf)), (4, .int (iI ((W / 10 ^ (P + 1) % 10 * 10 + W / 10 ^ P % 10 : Nat) : Int))), (0, .ref hw), (1, .int (iI ((P : Nat) : Int))), (2, .int (iI ((st : Nat) : Int))), (3, .int (iI mode))] rfl 132 rfl ?_
      refine go_iconst O dX2_toMultiple_132 133 rfl ?_
      refine go_istore O dX2_toMultiple_133 (by decide) [(9, .int (iI 0)), (8, .int (iI z)), (7, .int (iI hf)), (4, .int (iI ((W / 10 ^ (P + 1) % 10 * 10 + W / 10 ^ P % 10 : Nat) : Int))), (0, .ref hw), (1, .int (iI ((P : Nat) : Int))), (2, .int (iI ((st : Nat) : Int))), (3, .int (iI mode))] rfl 135 rfl ?_
      refine TGo.lsub (lv' := [(9, .int (iI 0)), (8, .int (iI z)), (4, .int (iI ((W / 10 ^ (P + 1) % 10 * 10 + W / 10 ^ P % 10 : Nat) : Int))), (0, .ref hw), (1, .int (iI ((P : Nat) : Int))), (2, .int (iI ((st : Nat) : Int)))]) [0, 1, 3, 4, 5, 6] rfl ?_
      have hod : (1 : Int) = 1 ∧ W / (st * 10 ^ P) % 2 = 1 ∨ (1 : Int) = 0 ∧ ¬ W / (st * 10 ^ P) % 2 = 1 := by omega
      have hz01 : z = 0 ∨ z = 1 := hu.elim (fun e => Or.inr e.1) (fun e => Or.inl e.1)
      exact lp (P + 1) 0 _ _ _ (by omega) (by omega) (by omega) hm7 hr20 (Hid.mk (tm_aw q12.1 q12.2 hod hu)) hz01 (fun j a => absurd a (by omega)) (fun _ _ => rfl)
  have m66 : ∀ (bh : Int), ((bh = 1 ∧ (W % 10 ^ (P - 1) ≠ 0 ∨ bz go = 1)) ∨ (bh = 0 ∧ W % 10 ^ (P - 1) = 0 ∧ bz go = 0)) → TGo X [(hw, .inr (2, [.ref qrow, .ref qfac, .int (iI (bz ng)), .int (iI (bz go))])), (qrow, .inl (cI, 72, .inl (dg W)))] 0 0 66 [(6, .int (iI bh)), (5, .int (iI (((W / 10 ^ (P + 1) % 10 * 10 + W / 10 ^ P % 10) % st * 10 + W / 10 ^ (P - 1) % 10 : Nat) : Int))), (4, .int (iI ((W / 10 ^ (P + 1) % 10 * 10 + W / 10 ^ P % 10 : Nat) : Int))), (0, .ref hw), (1, .int (iI ((P : Nat) : Int))), (2, .int (iI ((st : Nat) : Int))), (3, .int (iI mode))] [] := by
    intro bh hbh
    have b2 := bz_01 go
    refine go_iload O dX2_toMultiple_66 1 rfl 68 rfl ?_
    refine go_if_ne O dX2_toMultiple_68 78 (by decide) 71 rfl (by omega) (fun h68 => ?_) (fun h68 => ?_)
    · refine go_iload_n O dX2_toMultiple_78 rfl 6 rfl 79 rfl ?_
      refine go_bipush O dX2_toMultiple_79 (by decide) 81 rfl ?_
      refine go_icmp_ne O dX2_toMultiple_81 86 (by decide) 84 rfl (by omega) (by omega) (fun h81 => ?_) (fun h81 => ?_)
      · refine go_iload O dX2_toMultiple_86 1 rfl 88 rfl ?_
        refine go_iload_n O dX2_toMultiple_88 rfl 5 rfl 89 rfl ?_
        refine go_iconst O dX2_toMultiple_89 90 rfl ?_
        refine go_imul O dX2_toMultiple_90 (((st : Nat) : Int) * 5) rfl 91 rfl ?_
        refine go_calliS (rest := []) (wr := [(hw, .inr (2, [.ref qrow, .ref qfac, .int (iI (bz ng)), .int (iI (bz go))])), (qrow, .inl (cI, 72, .inl (dg W)))]) O hK hE (c_J6_compare E hE (((W / 10 ^ (P + 1) % 10 * 10 + W / 10 ^ P % 10) % st * 10 + W / 10 ^ (P - 1) % 10 : Nat) : Int) (((st : Nat) : Int) * 5) (by omega) (by omega)) mlX2_72 smJ6_compare inJ6 cdJ6_compare 2 (by decide +kernel) ⟨Nat.le_of_ble_eq_true rfl, Nat.le_of_ble_eq_true rfl⟩ [] rfl [] rfl (by decide) [0, 1] rfl (by decide) (by decide) rfl rfl (Nat.le_of_ble_eq_true rfl) ⟨Nat.zero_le _, Nat.zero_le _⟩ dX2_toMultiple_91 94 rfl (fun z u hu => ?_)
        have hz3 : (z = -1 ∧ (W / 10 ^ (P + 1) % 10 * 10 + W / 10 ^ P % 10) % st * 10 + W / 10 ^ (P - 1) % 10 < 5 * st) ∨ (z = 0 ∧ (W / 10 ^ (P + 1) % 10 * 10 + W / 10 ^ P % 10) % st * 10 + W / 10 ^ (P - 1) % 10 = 5 * st) ∨ (z = 1 ∧ 5 * st < (W / 10 ^ (P + 1) % 10 * 10 + W / 10 ^ P % 10) % st * 10 + W / 10 ^ (P - 1) % 10) := by
          rw [hu]
          split
          · exact Or.inl ⟨rfl, by omega⟩
          · split
            · exact Or.inr (Or.inl ⟨rfl, by omega⟩)
            · exact Or.inr (Or.inr ⟨rfl, by omega⟩)
        show TGo X [(hw, .inr (2, [.ref qrow, .ref qfac, .int (iI (bz ng)), .int (iI (bz go))])), (qrow, .inl (cI, 72, .inl (dg W)))] 0 0 94 [(6, .int (iI bh)), (5, .int (iI (((W / 10 ^ (P + 1) % 10 * 10 + W / 10 ^ P % 10) % st * 10 + W / 10 ^ (P - 1) % 10 : Nat) : Int))), (4, .int (iI ((W / 10 ^ (P + 1) % 10 * 10 + W / 10 ^ P % 10 : Nat) : Int))), (0, .ref hw), (1, .int (iI ((P : Nat) : Int))), (2, .int (iI ((st : Nat) : Int))), (3, .int (iI mode))] [.int (iI z)]
        refine go_istore O dX2_toMultiple_94 (by decide) [(7, .int (iI z)), (6, .int (iI bh)), (5, .int (iI (((W / 10 ^ (P + 1) % 10 * 10 + W / 10 ^ P % 10) % st * 10 + W / 10 ^ (P - 1) % 10 : Nat) : Int))), (4, .int (iI ((W / 10 ^ (P + 1) % 10 * 10 + W / 10 ^ P % 10 : Nat) : Int))), (0, .ref hw), (1, .int (iI ((P : Nat) : Int))), (2, .int (iI ((st : Nat) : Int))), (3, .int (iI mode))] rfl 96 rfl ?_
        refine go_iload O dX2_toMultiple_96 0 rfl 98 rfl ?_
        refine go_if_ne O dX2_toMultiple_98 109 (by decide) 101 rfl (by omega) (fun h98 => ?_) (fun h98 => ?_)
        · refine TGo.lsub (lv' := [(7, .int (iI z)), (4, .int (iI ((W / 10 ^ (P + 1) % 10 * 10 + W / 10 ^ P % 10 : Nat) : Int))), (0, .ref hw), (1, .int (iI ((P : Nat) : Int))), (2, .int (iI ((st : Nat) : Int))), (3, .int (iI mode))]) [0, 3, 4, 5, 6, 7] rfl ?_
          obtain ⟨-, -, k3, k4, k5, k6⟩ := tm_facts (W := W) (P := P) (st := st) (go := go) hP1 hst
          have hr2 : (2 * (W % (st * 10 ^ P)) + go.toNat) ≠ 0 := fun e => by have e3 := k3.mp e; clear k3 k4 k5 k6; omega
          have q12 := tm_half (hf := z) k4 k5 k6 (by clear k3 k4 k5 k6 hr2; omega)
          clear k3 k4 k5 k6
          exact m109 _ (by omega) (by omega) (Hid.mk hr2) (Hid.mk q12)
        · refine go_iload O dX2_toMultiple_101 1 rfl 103 rfl ?_
          refine go_if_eq O dX2_toMultiple_103 109 (by decide) 106 rfl (by omega) (fun h103 => ?_) (fun h103 => ?_)
          · refine TGo.lsub (lv' := [(7, .int (iI z)), (4, .int (iI ((W / 10 ^ (P + 1) % 10 * 10 + W / 10 ^ P % 10 : Nat) : Int))), (0, .ref hw), (1, .int (iI ((P : Nat) : Int))), (2, .int (iI ((st : Nat) : Int))), (3, .int (iI mode))]) [0, 3, 4, 5, 6, 7] rfl ?_
            obtain ⟨-, -, k3, k4, k5, k6⟩ := tm_facts (W := W) (P := P) (st := st) (go := go) hP1 hst
            have hr2 : (2 * (W % (st * 10 ^ P)) + go.toNat) ≠ 0 := fun e => by have e3 := k3.mp e; clear k3 k4 k5 k6; omega
            have q12 := tm_half (hf := z) k4 k5 k6 (by clear k3 k4 k5 k6 hr2; omega)
            clear k3 k4 k5 k6
            exact m109 _ (by omega) (by omega) (Hid.mk hr2) (Hid.mk q12)
          · refine go_iconst O dX2_toMultiple_106 107 rfl ?_
            refine go_istore O dX2_toMultiple_107 (by decide) [(7, .int (iI 1)), (6, .int (iI bh)), (5, .int (iI (((W / 10 ^ (P + 1) % 10 * 10 + W / 10 ^ P % 10) % st * 10 + W / 10 ^ (P - 1) % 10 : Nat) : Int))), (4, .int (iI ((W / 10 ^ (P + 1) % 10 * 10 + W / 10 ^ P % 10 : Nat) : Int))), (0, .ref hw), (1, .int (iI ((P : Nat) : Int))), (2, .int (iI ((st : Nat) : Int))), (3, .int (iI mode))] rfl 109 rfl ?_
            refine TGo.lsub (lv' := [(7, .int (iI 1)), (4, .int (iI ((W / 10 ^ (P + 1) % 10 * 10 + W / 10 ^ P % 10 : Nat) : Int))), (0, .ref hw), (1, .int (iI ((P : Nat) : Int))), (2, .int (iI ((st : Nat) : Int))), (3, .int (iI mode))]) [0, 3, 4, 5, 6, 7] rfl ?_
            obtain ⟨-, -, k3, k4, k5, k6⟩ := tm_facts (W := W) (P := P) (st := st) (go := go) hP1 hst
            have hr2 : (2 * (W % (st * 10 ^ P)) + go.toNat) ≠ 0 := fun e => by have e3 := k3.mp e; clear k3 k4 k5 k6; omega
            have q12 := tm_half (hf := 1) k4 k5 k6 (by clear k3 k4 k5 k6 hr2; omega)
            clear k3 k4 k5 k6
            exact m109 _ (by omega) (by omega) (Hid.mk hr2) (Hid.mk q12)
      · refine go_iconst O dX2_toMultiple_84 85 rfl ?_
        exact hret _ _ _ (W, go) dX2_toMultiple_85 rfl (Or.inr ⟨rfl, (fun e => by have e3 := (tm_facts (W := W) (P := P) (st := st) (go := go) hP1 hst).2.2.1.mp e; omega), by omega, rfl, rfl⟩)
    · refine go_iload O dX2_toMultiple_71 0 rfl 73 rfl ?_
      refine go_if_ne O dX2_toMultiple_73 78 (by decide) 76 rfl (by omega) (fun h73 => ?_) (fun h73 => ?_)
      · refine go_iload_n O dX2_toMultiple_78 rfl 6 rfl 79 rfl ?_
        refine go_bipush O dX2_toMultiple_79 (by decide) 81 rfl ?_
        refine go_icmp_ne O dX2_toMultiple_81 86 (by decide) 84 rfl (by omega) (by omega) (fun h81 => ?_) (fun h81 => ?_)
        · refine go_iload O dX2_toMultiple_86 1 rfl 88 rfl ?_
          refine go_iload_n O dX2_toMultiple_88 rfl 5 rfl 89 rfl ?_
          refine go_iconst O dX2_toMultiple_89 90 rfl ?_
          refine go_imul O dX2_toMultiple_90 (((st : Nat) : Int) * 5) rfl 91 rfl ?_
          refine go_calliS (rest := []) (wr := [(hw, .inr (2, [.ref qrow, .ref qfac, .int (iI (bz ng)), .int (iI (bz go))])), (qrow, .inl (cI, 72, .inl (dg W)))]) O hK hE (c_J6_compare E hE (((W / 10 ^ (P + 1) % 10 * 10 + W / 10 ^ P % 10) % st * 10 + W / 10 ^ (P - 1) % 10 : Nat) : Int) (((st : Nat) : Int) * 5) (by omega) (by omega)) mlX2_72 smJ6_compare inJ6 cdJ6_compare 2 (by decide +kernel) ⟨Nat.le_of_ble_eq_true rfl, Nat.le_of_ble_eq_true rfl⟩ [] rfl [] rfl (by decide) [0, 1] rfl (by decide) (by decide) rfl rfl (Nat.le_of_ble_eq_true rfl) ⟨Nat.zero_le _, Nat.zero_le _⟩ dX2_toMultiple_91 94 rfl (fun z u hu => ?_)
          have hz3 : (z = -1 ∧ (W / 10 ^ (P + 1) % 10 * 10 + W / 10 ^ P % 10) % st * 10 + W / 10 ^ (P - 1) % 10 < 5 * st) ∨ (z = 0 ∧ (W / 10 ^ (P + 1) % 10 * 10 + W / 10 ^ P % 10) % st * 10 + W / 10 ^ (P - 1) % 10 = 5 * st) ∨ (z = 1 ∧ 5 * st < (W / 10 ^ (P + 1) % 10 * 10 + W / 10 ^ P % 10) % st * 10 + W / 10 ^ (P - 1) % 10) := by
            rw [hu]
            split
            · exact Or.inl ⟨rfl, by omega⟩
            · split
              · exact Or.inr (Or.inl ⟨rfl, by omega⟩)
              · exact Or.inr (Or.inr ⟨rfl, by omega⟩)
          show TGo X [(hw, .inr (2, [.ref qrow, .ref qfac, .int (iI (bz ng)), .int (iI (bz go))])), (qrow, .inl (cI, 72, .inl (dg W)))] 0 0 94 [(6, .int (iI bh)), (5, .int (iI (((W / 10 ^ (P + 1) % 10 * 10 + W / 10 ^ P % 10) % st * 10 + W / 10 ^ (P - 1) % 10 : Nat) : Int))), (4, .int (iI ((W / 10 ^ (P + 1) % 10 * 10 + W / 10 ^ P % 10 : Nat) : Int))), (0, .ref hw), (1, .int (iI ((P : Nat) : Int))), (2, .int (iI ((st : Nat) : Int))), (3, .int (iI mode))] [.int (iI z)]
          refine go_istore O dX2_toMultiple_94 (by decide) [(7, .int (iI z)), (6, .int (iI bh)), (5, .int (iI (((W / 10 ^ (P + 1) % 10 * 10 + W / 10 ^ P % 10) % st * 10 + W / 10 ^ (P - 1) % 10 : Nat) : Int))), (4, .int (iI ((W / 10 ^ (P + 1) % 10 * 10 + W / 10 ^ P % 10 : Nat) : Int))), (0, .ref hw), (1, .int (iI ((P : Nat) : Int))), (2, .int (iI ((st : Nat) : Int))), (3, .int (iI mode))] rfl 96 rfl ?_
          refine go_iload O dX2_toMultiple_96 0 rfl 98 rfl ?_
          refine go_if_ne O dX2_toMultiple_98 109 (by decide) 101 rfl (by omega) (fun h98 => ?_) (fun h98 => ?_)
          · refine TGo.lsub (lv' := [(7, .int (iI z)), (4, .int (iI ((W / 10 ^ (P + 1) % 10 * 10 + W / 10 ^ P % 10 : Nat) : Int))), (0, .ref hw), (1, .int (iI ((P : Nat) : Int))), (2, .int (iI ((st : Nat) : Int))), (3, .int (iI mode))]) [0, 3, 4, 5, 6, 7] rfl ?_
            obtain ⟨-, -, k3, k4, k5, k6⟩ := tm_facts (W := W) (P := P) (st := st) (go := go) hP1 hst
            have hr2 : (2 * (W % (st * 10 ^ P)) + go.toNat) ≠ 0 := fun e => by have e3 := k3.mp e; clear k3 k4 k5 k6; omega
            have q12 := tm_half (hf := z) k4 k5 k6 (by clear k3 k4 k5 k6 hr2; omega)
            clear k3 k4 k5 k6
            exact m109 _ (by omega) (by omega) (Hid.mk hr2) (Hid.mk q12)
          · refine go_iload O dX2_toMultiple_101 1 rfl 103 rfl ?_
            refine go_if_eq O dX2_toMultiple_103 109 (by decide) 106 rfl (by omega) (fun h103 => ?_) (fun h103 => ?_)
            · refine TGo.lsub (lv' := [(7, .int (iI z)), (4, .int (iI ((W / 10 ^ (P + 1) % 10 * 10 + W / 10 ^ P % 10 : Nat) : Int))), (0, .ref hw), (1, .int (iI ((P : Nat) : Int))), (2, .int (iI ((st : Nat) : Int))), (3, .int (iI mode))]) [0, 3, 4, 5, 6, 7] rfl ?_
              obtain ⟨-, -, k3, k4, k5, k6⟩ := tm_facts (W := W) (P := P) (st := st) (go := go) hP1 hst
              have hr2 : (2 * (W % (st * 10 ^ P)) + go.toNat) ≠ 0 := fun e => by have e3 := k3.mp e; clear k3 k4 k5 k6; omega
              have q12 := tm_half (hf := z) k4 k5 k6 (by clear k3 k4 k5 k6 hr2; omega)
              clear k3 k4 k5 k6
              exact m109 _ (by omega) (by omega) (Hid.mk hr2) (Hid.mk q12)
            · refine go_iconst O dX2_toMultiple_106 107 rfl ?_
              refine go_istore O dX2_toMultiple_107 (by decide) [(7, .int (iI 1)), (6, .int (iI bh)), (5, .int (iI (((W / 10 ^ (P + 1) % 10 * 10 + W / 10 ^ P % 10) % st * 10 + W / 10 ^ (P - 1) % 10 : Nat) : Int))), (4, .int (iI ((W / 10 ^ (P + 1) % 10 * 10 + W / 10 ^ P % 10 : Nat) : Int))), (0, .ref hw), (1, .int (iI ((P : Nat) : Int))), (2, .int (iI ((st : Nat) : Int))), (3, .int (iI mode))] rfl 109 rfl ?_
              refine TGo.lsub (lv' := [(7, .int (iI 1)), (4, .int (iI ((W / 10 ^ (P + 1) % 10 * 10 + W / 10 ^ P % 10 : Nat) : Int))), (0, .ref hw), (1, .int (iI ((P : Nat) : Int))), (2, .int (iI ((st : Nat) : Int))), (3, .int (iI mode))]) [0, 3, 4, 5, 6, 7] rfl ?_
              obtain ⟨-, -, k3, k4, k5, k6⟩ := tm_facts (W := W) (P := P) (st := st) (go := go) hP1 hst
              have hr2 : (2 * (W % (st * 10 ^ P)) + go.toNat) ≠ 0 := fun e => by have e3 := k3.mp e; clear k3 k4 k5 k6; omega
              have q12 := tm_half (hf := 1) k4 k5 k6 (by clear k3 k4 k5 k6 hr2; omega)
              clear k3 k4 k5 k6
              exact m109 _ (by omega) (by omega) (Hid.mk hr2) (Hid.mk q12)
        · refine go_iconst O dX2_toMultiple_84 85 rfl ?_
          exact hret _ _ _ (W, go) dX2_toMultiple_85 rfl (Or.inr ⟨rfl, (fun e => by have e3 := (tm_facts (W := W) (P := P) (st := st) (go := go) hP1 hst).2.2.1.mp e; omega), by omega, rfl, rfl⟩)
      · refine go_iconst O dX2_toMultiple_76 77 rfl ?_
        have k3 := (tm_facts (W := W) (P := P) (st := st) (go := go) hP1 hst).2.2.1
        have hr0 : (2 * (W % (st * 10 ^ P)) + go.toNat) = 0 := k3.mpr ⟨by omega, by omega, by omega⟩
        clear k3
        have hg0 : go = false := bz_0.mp (by omega)
        have hR0 : W % (st * 10 ^ P) = 0 := by omega
        have hWQ : trnd mode ng (W / (st * 10 ^ P)) (2 * (W % (st * 10 ^ P)) + go.toNat) (2 * (st * 10 ^ P)) * (st * 10 ^ P) = W := by rw [hr0, trnd_0]; have := Nat.div_add_mod W (st * 10 ^ P); rw [hR0, Nat.mul_comm] at this; omega
        subst hg0
        exact hret _ _ _ (W, false) dX2_toMultiple_77 rfl (Or.inl ⟨rfl, Or.inl hr0, hWQ.symm, rfl⟩)
  have b2 := bz_01 go
  refine go_aload_n O dX2_toMultiple_0 rfl 0 rfl 1 rfl ?_
  refine go_get O hK dX2_toMultiple_1 hinX2 0 rfl rfl 0 (by decide) flX2_9 rfl 4 rfl ?_
  refine go_iload_n O dX2_toMultiple_4 rfl 1 rfl 5 rfl ?_
  refine go_iconst O dX2_toMultiple_5 6 rfl ?_
  refine go_iadd O dX2_toMultiple_6 ((P + 1 : Nat) : Int) (by omega) 7 rfl ?_
  refine go_iald O hK dX2_toMultiple_7 1 0 rfl rfl (P + 1) rfl (by omega) (by omega) ((W / 10 ^ (P + 1) % 10 : Nat) : Int) rfl 8 rfl ?_
  refine go_bipush O dX2_toMultiple_8 (by decide) 10 rfl ?_
  refine go_imul O dX2_toMultiple_10 ((W / 10 ^ (P + 1) % 10 * 10 : Nat) : Int) (by omega) 11 rfl ?_
  refine go_aload_n O dX2_toMultiple_11 rfl 0 rfl 12 rfl ?_
  refine go_get O hK dX2_toMultiple_12 hinX2 0 rfl rfl 0 (by decide) flX2_9 rfl 15 rfl ?_
  refine go_iload_n O dX2_toMultiple_15 rfl 1 rfl 16 rfl ?_
  refine go_iald O hK dX2_toMultiple_16 1 0 rfl rfl P rfl (by omega) (by omega) ((W / 10 ^ P % 10 : Nat) : Int) rfl 17 rfl ?_
  refine go_iadd O dX2_toMultiple_17 ((W / 10 ^ (P + 1) % 10 * 10 + W / 10 ^ P % 10 : Nat) : Int) (Int.natCast_add _ _).symm 18 rfl ?_
  refine go_istore O dX2_toMultiple_18 (by decide) [(4, .int (iI ((W / 10 ^ (P + 1) % 10 * 10 + W / 10 ^ P % 10 : Nat) : Int))), (0, .ref hw), (1, .int (iI ((P : Nat) : Int))), (2, .int (iI ((st : Nat) : Int))), (3, .int (iI mode))] rfl 20 rfl ?_
  refine go_iload O dX2_toMultiple_20 0 rfl 22 rfl ?_
  refine go_iload_n O dX2_toMultiple_22 rfl 3 rfl 23 rfl ?_
  refine go_irem O dX2_toMultiple_23 (by omega) (by omega) (by omega) (by omega) (((W / 10 ^ (P + 1) % 10 * 10 + W / 10 ^ P % 10) % st : Nat) : Int) rfl 24 rfl ?_
  refine go_bipush O dX2_toMultiple_24 (by decide) 26 rfl ?_
  refine go_imul O dX2_toMultiple_26 (((W / 10 ^ (P + 1) % 10 * 10 + W / 10 ^ P % 10) % st * 10 : Nat) : Int) (by omega) 27 rfl ?_
  refine go_aload_n O dX2_toMultiple_27 rfl 1 rfl 28 rfl ?_
  refine go_get O hK dX2_toMultiple_28 hinX2 0 rfl rfl 0 (by decide) flX2_9 rfl 31 rfl ?_
  refine go_iload_n O dX2_toMultiple_31 rfl 2 rfl 32 rfl ?_
  refine go_iconst O dX2_toMultiple_32 33 rfl ?_
  refine go_isub O dX2_toMultiple_33 ((P - 1 : Nat) : Int) (by omega) 34 rfl ?_
  refine go_iald O hK dX2_toMultiple_34 1 0 rfl rfl (P - 1) rfl (by omega) (by omega) ((W / 10 ^ (P - 1) % 10 : Nat) : Int) rfl 35 rfl ?_
  refine go_iadd O dX2_toMultiple_35 (((W / 10 ^ (P + 1) % 10 * 10 + W / 10 ^ P % 10) % st * 10 + W / 10 ^ (P - 1) % 10 : Nat) : Int) (Int.natCast_add _ _).symm 36 rfl ?_
  refine go_istore O dX2_toMultiple_36 (by decide) [(5, .int (iI (((W / 10 ^ (P + 1) % 10 * 10 + W / 10 ^ P % 10) % st * 10 + W / 10 ^ (P - 1) % 10 : Nat) : Int))), (4, .int (iI ((W / 10 ^ (P + 1) % 10 * 10 + W / 10 ^ P % 10 : Nat) : Int))), (0, .ref hw), (1, .int (iI ((P : Nat) : Int))), (2, .int (iI ((st : Nat) : Int))), (3, .int (iI mode))] rfl 38 rfl ?_
  refine go_aload_n O dX2_toMultiple_38 rfl 2 rfl 39 rfl ?_
  refine go_get O hK dX2_toMultiple_39 hinX2 0 rfl rfl 3 (by decide) flX2_28 rfl 42 rfl ?_
  refine go_if_ne O dX2_toMultiple_42 59 (by decide) 45 rfl (bz_r _) (fun h42 => ?_) (fun h42 => ?_)
  · refine go_iconst O dX2_toMultiple_59 60 rfl ?_
    refine go_goto O dX2_toMultiple_60 64 (by decide) ?_
    refine go_istore O dX2_toMultiple_64 (by decide) [(6, .int (iI 1)), (5, .int (iI (((W / 10 ^ (P + 1) % 10 * 10 + W / 10 ^ P % 10) % st * 10 + W / 10 ^ (P - 1) % 10 : Nat) : Int))), (4, .int (iI ((W / 10 ^ (P + 1) % 10 * 10 + W / 10 ^ P % 10 : Nat) : Int))), (0, .ref hw), (1, .int (iI ((P : Nat) : Int))), (2, .int (iI ((st : Nat) : Int))), (3, .int (iI mode))] rfl 66 rfl ?_
    refine TGo.lsub (lv' := [(6, .int (iI 1)), (5, .int (iI (((W / 10 ^ (P + 1) % 10 * 10 + W / 10 ^ P % 10) % st * 10 + W / 10 ^ (P - 1) % 10 : Nat) : Int))), (4, .int (iI ((W / 10 ^ (P + 1) % 10 * 10 + W / 10 ^ P % 10 : Nat) : Int))), (0, .ref hw), (1, .int (iI ((P : Nat) : Int))), (2, .int (iI ((st : Nat) : Int))), (3, .int (iI mode))]) [0, 1, 2, 3, 4, 5, 6] rfl ?_
    exact m66 _ (by omega)
  · refine go_aload_n O dX2_toMultiple_45 rfl 2 rfl 46 rfl ?_
    refine go_get O hK dX2_toMultiple_46 hinX2 0 rfl rfl 0 (by decide) flX2_9 rfl 49 rfl ?_
    refine go_iconst O dX2_toMultiple_49 50 rfl ?_
    refine go_iload_n O dX2_toMultiple_50 rfl 3 rfl 51 rfl ?_
    refine go_iconst O dX2_toMultiple_51 52 rfl ?_
    refine go_isub O dX2_toMultiple_52 ((P - 1 : Nat) : Int) (by omega) 53 rfl ?_
    refine go_calliSN (rest := []) (wr := [(hw, .inr (2, [.ref qrow, .ref qfac, .int (iI (bz ng)), .int (iI (bz go))]))]) O hK hE (c_X3_isZero E hE qrow cI 72 W 0 (P - 1) (by omega) (by omega) (by omega)) (hN _ _ O.2.2.2.2.2.2.2.2.2).1 smX3_isZero inX3 cdX3_isZero 3 (by decide +kernel) ⟨Nat.le_of_ble_eq_true rfl, Nat.le_of_ble_eq_true rfl⟩ [0] rfl [1] rfl (by decide) [0] rfl (by decide) (by decide) rfl rfl (Nat.le_of_ble_eq_true rfl) ⟨Nat.zero_le _, Nat.zero_le _⟩ dX2_toMultiple_53 56 rfl (fun z u hu => ?_)
    have hzz : (z = 1 ∧ W % 10 ^ (P - 1) = 0) ∨ (z = 0 ∧ W % 10 ^ (P - 1) ≠ 0) := by
      rcases hu with ⟨e1, e2⟩ | ⟨e1, j, e2, e3, e4⟩
      · exact Or.inl ⟨e1, tmod_of _ (fun j e => e2 j (by omega) e)⟩
      · exact Or.inr ⟨e1, fun e => e4 (tmod_dig e e3)⟩
    show TGo X [(hw, .inr (2, [.ref qrow, .ref qfac, .int (iI (bz ng)), .int (iI (bz go))])), (qrow, .inl (cI, 72, .inl (dg W)))] 0 0 56 [(5, .int (iI (((W / 10 ^ (P + 1) % 10 * 10 + W / 10 ^ P % 10) % st * 10 + W / 10 ^ (P - 1) % 10 : Nat) : Int))), (4, .int (iI ((W / 10 ^ (P + 1) % 10 * 10 + W / 10 ^ P % 10 : Nat) : Int))), (0, .ref hw), (1, .int (iI ((P : Nat) : Int))), (2, .int (iI ((st : Nat) : Int))), (3, .int (iI mode))] [.int (iI z)]
    refine go_if_ne O dX2_toMultiple_56 63 (by decide) 59 rfl (by omega) (fun h56 => ?_) (fun h56 => ?_)
    · refine go_iconst O dX2_toMultiple_63 64 rfl ?_
      refine go_istore O dX2_toMultiple_64 (by decide) [(6, .int (iI 0)), (5, .int (iI (((W / 10 ^ (P + 1) % 10 * 10 + W / 10 ^ P % 10) % st * 10 + W / 10 ^ (P - 1) % 10 : Nat) : Int))), (4, .int (iI ((W / 10 ^ (P + 1) % 10 * 10 + W / 10 ^ P % 10 : Nat) : Int))), (0, .ref hw), (1, .int (iI ((P : Nat) : Int))), (2, .int (iI ((st : Nat) : Int))), (3, .int (iI mode))] rfl 66 rfl ?_
      refine TGo.lsub (lv' := [(6, .int (iI 0)), (5, .int (iI (((W / 10 ^ (P + 1) % 10 * 10 + W / 10 ^ P % 10) % st * 10 + W / 10 ^ (P - 1) % 10 : Nat) : Int))), (4, .int (iI ((W / 10 ^ (P + 1) % 10 * 10 + W / 10 ^ P % 10 : Nat) : Int))), (0, .ref hw), (1, .int (iI ((P : Nat) : Int))), (2, .int (iI ((st : Nat) : Int))), (3, .int (iI mode))]) [0, 1, 2, 3, 4, 5, 6] rfl ?_
      exact m66 _ (by omega)
    · refine go_iconst O dX2_toMultiple_59 60 rfl ?_
      refine go_goto O dX2_toMultiple_60 64 (by decide) ?_
      refine go_istore O dX2_toMultiple_64 (by decide) [(6, .int (iI 1)), (5, .int (iI (((W / 10 ^ (P + 1) % 10 * 10 + W / 10 ^ P % 10) % st * 10 + W / 10 ^ (P - 1) % 10 : Nat) : Int))), (4, .int (iI ((W / 10 ^ (P + 1) % 10 * 10 + W / 10 ^ P % 10 : Nat) : Int))), (0, .ref hw), (1, .int (iI ((P : Nat) : Int))), (2, .int (iI ((st : Nat) : Int))), (3, .int (iI mode))] rfl 66 rfl ?_
      refine TGo.lsub (lv' := [(6, .int (iI 1)), (5, .int (iI (((W / 10 ^ (P + 1) % 10 * 10 + W / 10 ^ P % 10) % st * 10 + W / 10 ^ (P - 1) % 10 : Nat) : Int))), (4, .int (iI ((W / 10 ^ (P + 1) % 10 * 10 + W / 10 ^ P % 10 : Nat) : Int))), (0, .ref hw), (1, .int (iI ((P : Nat) : Int))), (2, .int (iI ((st : Nat) : Int))), (3, .int (iI mode))]) [0, 1, 2, 3, 4, 5, 6] rfl ?_
      exact m66 _ (by omega)
end
