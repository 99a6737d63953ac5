section
-- ===== PART A: goes FIRST, ahead of the names: the tables' words, and 'selects' of the private methods out of them =====
/-- a private method of a class that the tables say can be made, by its rows of tables_1 -/
def lw_okq (q : MethodName × Nat) : Prop := (q.1.cls ≠ "java/lang/invoke/MethodHandle" ∧ q.1.cls ≠ "java/lang/invoke/VarHandle") ∧ Cond.instantiable q.1.cls q.2 ∈ tables_1 ∧ Cond.privateMethod q.1 ∈ tables_1 ∧ Cond.instanceMethod q.1 ∈ tables_1
theorem lw_p0 : lw_okq (⟨"TwofoldAmounts", "keep", "(IZI)I"⟩, 9) := ⟨⟨by decide +kernel, by decide +kernel⟩, List.mem_of_getElem? (i := 11) (by decide +kernel), List.mem_of_getElem? (i := 157) (by decide +kernel), List.mem_of_getElem? (i := 158) (by decide +kernel)⟩
theorem lw_p1 : lw_okq (⟨"TwofoldAmounts$Work", "goesAway", "(IIZ)Z"⟩, 4) := ⟨⟨by decide +kernel, by decide +kernel⟩, List.mem_of_getElem? (i := 54) (by decide +kernel), List.mem_of_getElem? (i := 175) (by decide +kernel), List.mem_of_getElem? (i := 176) (by decide +kernel)⟩
theorem lw_p2 : lw_okq (⟨"TwofoldAmounts", "store", "(IZI)I"⟩, 9) := ⟨⟨by decide +kernel, by decide +kernel⟩, List.mem_of_getElem? (i := 11) (by decide +kernel), List.mem_of_getElem? (i := 193) (by decide +kernel), List.mem_of_getElem? (i := 194) (by decide +kernel)⟩
theorem lw_p3 : lw_okq (⟨"TwofoldAmounts", "combine", "(IIIZ)I"⟩, 9) := ⟨⟨by decide +kernel, by decide +kernel⟩, List.mem_of_getElem? (i := 11) (by decide +kernel), List.mem_of_getElem? (i := 222) (by decide +kernel), List.mem_of_getElem? (i := 223) (by decide +kernel)⟩
theorem lw_p4 : lw_okq (⟨"TwofoldAmounts", "sumOfRatios", "(I)J"⟩, 9) := ⟨⟨by decide +kernel, by decide +kernel⟩, List.mem_of_getElem? (i := 11) (by decide +kernel), List.mem_of_getElem? (i := 288) (by decide +kernel), List.mem_of_getElem? (i := 289) (by decide +kernel)⟩
theorem lw_p5 : lw_okq (⟨"TwofoldAmounts", "splitRest", "(JJI)J"⟩, 9) := ⟨⟨by decide +kernel, by decide +kernel⟩, List.mem_of_getElem? (i := 11) (by decide +kernel), List.mem_of_getElem? (i := 292) (by decide +kernel), List.mem_of_getElem? (i := 293) (by decide +kernel)⟩
theorem lw_p6 : lw_okq (⟨"TwofoldAmounts", "rankOf", "(II)I"⟩, 9) := ⟨⟨by decide +kernel, by decide +kernel⟩, List.mem_of_getElem? (i := 11) (by decide +kernel), List.mem_of_getElem? (i := 296) (by decide +kernel), List.mem_of_getElem? (i := 297) (by decide +kernel)⟩
theorem lw_p7 : lw_okq (⟨"TwofoldAmounts", "writeNumber", "(II)V"⟩, 9) := ⟨⟨by decide +kernel, by decide +kernel⟩, List.mem_of_getElem? (i := 11) (by decide +kernel), List.mem_of_getElem? (i := 329) (by decide +kernel), List.mem_of_getElem? (i := 330) (by decide +kernel)⟩
theorem lw_p8 : lw_okq (⟨"TwofoldAmounts", "writeBody", "(IZ)V"⟩, 9) := ⟨⟨by decide +kernel, by decide +kernel⟩, List.mem_of_getElem? (i := 11) (by decide +kernel), List.mem_of_getElem? (i := 337) (by decide +kernel), List.mem_of_getElem? (i := 338) (by decide +kernel)⟩
theorem lw_p9 : lw_okq (⟨"TwofoldAmounts", "readStyle", "(I)Z"⟩, 9) := ⟨⟨by decide +kernel, by decide +kernel⟩, List.mem_of_getElem? (i := 11) (by decide +kernel), List.mem_of_getElem? (i := 363) (by decide +kernel), List.mem_of_getElem? (i := 364) (by decide +kernel)⟩
theorem lw_p10 : lw_okq (⟨"TwofoldAmounts", "readNumber", "(I)Z"⟩, 9) := ⟨⟨by decide +kernel, by decide +kernel⟩, List.mem_of_getElem? (i := 11) (by decide +kernel), List.mem_of_getElem? (i := 367) (by decide +kernel), List.mem_of_getElem? (i := 368) (by decide +kernel)⟩
theorem lw_p11 : lw_okq (⟨"TwofoldAmounts", "readBody", "(Z)Z"⟩, 9) := ⟨⟨by decide +kernel, by decide +kernel⟩, List.mem_of_getElem? (i := 11) (by decide +kernel), List.mem_of_getElem? (i := 375) (by decide +kernel), List.mem_of_getElem? (i := 376) (by decide +kernel)⟩
theorem lw_p12 : lw_okq (⟨"TwofoldAmounts", "takeWhole", "(II)V"⟩, 9) := ⟨⟨by decide +kernel, by decide +kernel⟩, List.mem_of_getElem? (i := 11) (by decide +kernel), List.mem_of_getElem? (i := 388) (by decide +kernel), List.mem_of_getElem? (i := 389) (by decide +kernel)⟩
theorem lw_p13 : lw_okq (⟨"TwofoldAmountsModel", "settle", "(IIZZ)I"⟩, 27) := ⟨⟨by decide +kernel, by decide +kernel⟩, List.mem_of_getElem? (i := 400) (by decide +kernel), List.mem_of_getElem? (i := 506) (by decide +kernel), List.mem_of_getElem? (i := 507) (by decide +kernel)⟩
theorem lw_p14 : lw_okq (⟨"TwofoldAmountsModel", "quotient", "()V"⟩, 27) := ⟨⟨by decide +kernel, by decide +kernel⟩, List.mem_of_getElem? (i := 400) (by decide +kernel), List.mem_of_getElem? (i := 513) (by decide +kernel), List.mem_of_getElem? (i := 514) (by decide +kernel)⟩
theorem lw_p15 : lw_okq (⟨"TwofoldAmountsModel", "rounds", "(ZI)Z"⟩, 27) := ⟨⟨by decide +kernel, by decide +kernel⟩, List.mem_of_getElem? (i := 400) (by decide +kernel), List.mem_of_getElem? (i := 526) (by decide +kernel), List.mem_of_getElem? (i := 527) (by decide +kernel)⟩
def lw_privs_1 : List (MethodName × Nat) := [(⟨"TwofoldAmounts", "keep", "(IZI)I"⟩, 9), (⟨"TwofoldAmounts$Work", "goesAway", "(IIZ)Z"⟩, 4), (⟨"TwofoldAmounts", "store", "(IZI)I"⟩, 9), (⟨"TwofoldAmounts", "combine", "(IIIZ)I"⟩, 9), (⟨"TwofoldAmounts", "sumOfRatios", "(I)J"⟩, 9), (⟨"TwofoldAmounts", "splitRest", "(JJI)J"⟩, 9), (⟨"TwofoldAmounts", "rankOf", "(II)I"⟩, 9), (⟨"TwofoldAmounts", "writeNumber", "(II)V"⟩, 9), (⟨"TwofoldAmounts", "writeBody", "(IZ)V"⟩, 9), (⟨"TwofoldAmounts", "readStyle", "(I)Z"⟩, 9), (⟨"TwofoldAmounts", "readNumber", "(I)Z"⟩, 9), (⟨"TwofoldAmounts", "readBody", "(Z)Z"⟩, 9), (⟨"TwofoldAmounts", "takeWhole", "(II)V"⟩, 9), (⟨"TwofoldAmountsModel", "settle", "(IIZZ)I"⟩, 27), (⟨"TwofoldAmountsModel", "quotient", "()V"⟩, 27), (⟨"TwofoldAmountsModel", "rounds", "(ZI)Z"⟩, 27)]
theorem lw_r1 : ∀ q ∈ lw_privs_1, lw_okq q := List.forall_mem_cons.mpr ⟨lw_p0, List.forall_mem_cons.mpr ⟨lw_p1, List.forall_mem_cons.mpr ⟨lw_p2, List.forall_mem_cons.mpr ⟨lw_p3, List.forall_mem_cons.mpr ⟨lw_p4, List.forall_mem_cons.mpr ⟨lw_p5, List.forall_mem_cons.mpr ⟨lw_p6, List.forall_mem_cons.mpr ⟨lw_p7, List.forall_mem_cons.mpr ⟨lw_p8, List.forall_mem_cons.mpr ⟨lw_p9, List.forall_mem_cons.mpr ⟨lw_p10, List.forall_mem_cons.mpr ⟨lw_p11, List.forall_mem_cons.mpr ⟨lw_p12, List.forall_mem_cons.mpr ⟨lw_p13, List.forall_mem_cons.mpr ⟨lw_p14, List.forall_mem_cons.mpr ⟨lw_p15, fun _ h => absurd h List.not_mem_nil⟩⟩⟩⟩⟩⟩⟩⟩⟩⟩⟩⟩⟩⟩⟩⟩
theorem lw_p16 : lw_okq (⟨"TwofoldAmountsModel", "fits", "([IZZ)Z"⟩, 27) := ⟨⟨by decide +kernel, by decide +kernel⟩, List.mem_of_getElem? (i := 400) (by decide +kernel), List.mem_of_getElem? (i := 533) (by decide +kernel), List.mem_of_getElem? (i := 534) (by decide +kernel)⟩
theorem lw_p17 : lw_okq (⟨"TwofoldAmountsModel", "keep", "(IIZZ[I)I"⟩, 27) := ⟨⟨by decide +kernel, by decide +kernel⟩, List.mem_of_getElem? (i := 400) (by decide +kernel), List.mem_of_getElem? (i := 539) (by decide +kernel), List.mem_of_getElem? (i := 540) (by decide +kernel)⟩
theorem lw_p18 : lw_okq (⟨"TwofoldAmountsModel", "sum", "(IIIZ)I"⟩, 27) := ⟨⟨by decide +kernel, by decide +kernel⟩, List.mem_of_getElem? (i := 400) (by decide +kernel), List.mem_of_getElem? (i := 547) (by decide +kernel), List.mem_of_getElem? (i := 548) (by decide +kernel)⟩
theorem lw_p19 : lw_okq (⟨"TwofoldAmountsModel", "take", "([II)V"⟩, 27) := ⟨⟨by decide +kernel, by decide +kernel⟩, List.mem_of_getElem? (i := 400) (by decide +kernel), List.mem_of_getElem? (i := 551) (by decide +kernel), List.mem_of_getElem? (i := 552) (by decide +kernel)⟩
theorem lw_p20 : lw_okq (⟨"TwofoldAmountsModel", "product", "([I[I)V"⟩, 27) := ⟨⟨by decide +kernel, by decide +kernel⟩, List.mem_of_getElem? (i := 400) (by decide +kernel), List.mem_of_getElem? (i := 563) (by decide +kernel), List.mem_of_getElem? (i := 564) (by decide +kernel)⟩
theorem lw_p21 : lw_okq (⟨"TwofoldAmountsModel", "step", "(II)V"⟩, 27) := ⟨⟨by decide +kernel, by decide +kernel⟩, List.mem_of_getElem? (i := 400) (by decide +kernel), List.mem_of_getElem? (i := 579) (by decide +kernel), List.mem_of_getElem? (i := 580) (by decide +kernel)⟩
theorem lw_p22 : lw_okq (⟨"TwofoldAmountsModel", "cut", "(II)V"⟩, 27) := ⟨⟨by decide +kernel, by decide +kernel⟩, List.mem_of_getElem? (i := 400) (by decide +kernel), List.mem_of_getElem? (i := 595) (by decide +kernel), List.mem_of_getElem? (i := 596) (by decide +kernel)⟩
theorem lw_p23 : lw_okq (⟨"TwofoldAmountsModel", "left", "(I)I"⟩, 27) := ⟨⟨by decide +kernel, by decide +kernel⟩, List.mem_of_getElem? (i := 400) (by decide +kernel), List.mem_of_getElem? (i := 602) (by decide +kernel), List.mem_of_getElem? (i := 603) (by decide +kernel)⟩
theorem lw_p24 : lw_okq (⟨"TwofoldAmountsModel", "part", "(II)V"⟩, 27) := ⟨⟨by decide +kernel, by decide +kernel⟩, List.mem_of_getElem? (i := 400) (by decide +kernel), List.mem_of_getElem? (i := 606) (by decide +kernel), List.mem_of_getElem? (i := 607) (by decide +kernel)⟩
theorem lw_p25 : lw_okq (⟨"TwofoldAmountsModel", "putCode", "(I)V"⟩, 27) := ⟨⟨by decide +kernel, by decide +kernel⟩, List.mem_of_getElem? (i := 400) (by decide +kernel), List.mem_of_getElem? (i := 636) (by decide +kernel), List.mem_of_getElem? (i := 637) (by decide +kernel)⟩
theorem lw_p26 : lw_okq (⟨"TwofoldAmountsModel", "put", "(I)V"⟩, 27) := ⟨⟨by decide +kernel, by decide +kernel⟩, List.mem_of_getElem? (i := 400) (by decide +kernel), List.mem_of_getElem? (i := 640) (by decide +kernel), List.mem_of_getElem? (i := 641) (by decide +kernel)⟩
theorem lw_p27 : lw_okq (⟨"TwofoldAmountsModel", "putNumber", "(IIZ)V"⟩, 27) := ⟨⟨by decide +kernel, by decide +kernel⟩, List.mem_of_getElem? (i := 400) (by decide +kernel), List.mem_of_getElem? (i := 644) (by decide +kernel), List.mem_of_getElem? (i := 645) (by decide +kernel)⟩
theorem lw_p28 : lw_okq (⟨"TwofoldAmountsModel", "readNumber", "(I)V"⟩, 27) := ⟨⟨by decide +kernel, by decide +kernel⟩, List.mem_of_getElem? (i := 400) (by decide +kernel), List.mem_of_getElem? (i := 664) (by decide +kernel), List.mem_of_getElem? (i := 665) (by decide +kernel)⟩
theorem lw_p29 : lw_okq (⟨"TwofoldAmountsModel", "sees", "(I)Z"⟩, 27) := ⟨⟨by decide +kernel, by decide +kernel⟩, List.mem_of_getElem? (i := 400) (by decide +kernel), List.mem_of_getElem? (i := 668) (by decide +kernel), List.mem_of_getElem? (i := 669) (by decide +kernel)⟩
theorem lw_p30 : lw_okq (⟨"TwofoldAmountsModel", "readBody", "(Z)V"⟩, 27) := ⟨⟨by decide +kernel, by decide +kernel⟩, List.mem_of_getElem? (i := 400) (by decide +kernel), List.mem_of_getElem? (i := 672) (by decide +kernel), List.mem_of_getElem? (i := 673) (by decide +kernel)⟩
theorem lw_p31 : lw_okq (⟨"TwofoldAmountsModel", "need", "(II)V"⟩, 27) := ⟨⟨by decide +kernel, by decide +kernel⟩, List.mem_of_getElem? (i := 400) (by decide +kernel), List.mem_of_getElem? (i := 676) (by decide +kernel), List.mem_of_getElem? (i := 677) (by decide +kernel)⟩
def lw_privs_2 : List (MethodName × Nat) := [(⟨"TwofoldAmountsModel", "fits", "([IZZ)Z"⟩, 27), (⟨"TwofoldAmountsModel", "keep", "(IIZZ[I)I"⟩, 27), (⟨"TwofoldAmountsModel", "sum", "(IIIZ)I"⟩, 27), (⟨"TwofoldAmountsModel", "take", "([II)V"⟩, 27), (⟨"TwofoldAmountsModel", "product", "([I[I)V"⟩, 27), (⟨"TwofoldAmountsModel", "step", "(II)V"⟩, 27), (⟨"TwofoldAmountsModel", "cut", "(II)V"⟩, 27), (⟨"TwofoldAmountsModel", "left", "(I)I"⟩, 27), (⟨"TwofoldAmountsModel", "part", "(II)V"⟩, 27), (⟨"TwofoldAmountsModel", "putCode", "(I)V"⟩, 27), (⟨"TwofoldAmountsModel", "put", "(I)V"⟩, 27), (⟨"TwofoldAmountsModel", "putNumber", "(IIZ)V"⟩, 27), (⟨"TwofoldAmountsModel", "readNumber", "(I)V"⟩, 27), (⟨"TwofoldAmountsModel", "sees", "(I)Z"⟩, 27), (⟨"TwofoldAmountsModel", "readBody", "(Z)V"⟩, 27), (⟨"TwofoldAmountsModel", "need", "(II)V"⟩, 27)]
theorem lw_r2 : ∀ q ∈ lw_privs_2, lw_okq q := List.forall_mem_cons.mpr ⟨lw_p16, List.forall_mem_cons.mpr ⟨lw_p17, List.forall_mem_cons.mpr ⟨lw_p18, List.forall_mem_cons.mpr ⟨lw_p19, List.forall_mem_cons.mpr ⟨lw_p20, List.forall_mem_cons.mpr ⟨lw_p21, List.forall_mem_cons.mpr ⟨lw_p22, List.forall_mem_cons.mpr ⟨lw_p23, List.forall_mem_cons.mpr ⟨lw_p24, List.forall_mem_cons.mpr ⟨lw_p25, List.forall_mem_cons.mpr ⟨lw_p26, List.forall_mem_cons.mpr ⟨lw_p27, List.forall_mem_cons.mpr ⟨lw_p28, List.forall_mem_cons.mpr ⟨lw_p29, List.forall_mem_cons.mpr ⟨lw_p30, List.forall_mem_cons.mpr ⟨lw_p31, fun _ h => absurd h List.not_mem_nil⟩⟩⟩⟩⟩⟩⟩⟩⟩⟩⟩⟩⟩⟩⟩⟩
theorem lw_p32 : lw_okq (⟨"TwofoldAmountsModel", "digitsUpTo", "(I)I"⟩, 27) := ⟨⟨by decide +kernel, by decide +kernel⟩, List.mem_of_getElem? (i := 400) (by decide +kernel), List.mem_of_getElem? (i := 680) (by decide +kernel), List.mem_of_getElem? (i := 681) (by decide +kernel)⟩
theorem lw_p33 : lw_okq (⟨"TwofoldAmountsModel", "seesDigit", "()Z"⟩, 27) := ⟨⟨by decide +kernel, by decide +kernel⟩, List.mem_of_getElem? (i := 400) (by decide +kernel), List.mem_of_getElem? (i := 684) (by decide +kernel), List.mem_of_getElem? (i := 685) (by decide +kernel)⟩
theorem lw_p34 : lw_okq (⟨"TwofoldAmountsModel", "fail", "()V"⟩, 27) := ⟨⟨by decide +kernel, by decide +kernel⟩, List.mem_of_getElem? (i := 400) (by decide +kernel), List.mem_of_getElem? (i := 688) (by decide +kernel), List.mem_of_getElem? (i := 689) (by decide +kernel)⟩
theorem lw_p35 : lw_okq (⟨"TwofoldAmountsModel", "expect", "(I)V"⟩, 27) := ⟨⟨by decide +kernel, by decide +kernel⟩, List.mem_of_getElem? (i := 400) (by decide +kernel), List.mem_of_getElem? (i := 692) (by decide +kernel), List.mem_of_getElem? (i := 693) (by decide +kernel)⟩
theorem lw_p36 : lw_okq (⟨"TwofoldAmountsModel", "readCode", "()V"⟩, 27) := ⟨⟨by decide +kernel, by decide +kernel⟩, List.mem_of_getElem? (i := 400) (by decide +kernel), List.mem_of_getElem? (i := 696) (by decide +kernel), List.mem_of_getElem? (i := 697) (by decide +kernel)⟩
def lw_privs_3 : List (MethodName × Nat) := [(⟨"TwofoldAmountsModel", "digitsUpTo", "(I)I"⟩, 27), (⟨"TwofoldAmountsModel", "seesDigit", "()Z"⟩, 27), (⟨"TwofoldAmountsModel", "fail", "()V"⟩, 27), (⟨"TwofoldAmountsModel", "expect", "(I)V"⟩, 27), (⟨"TwofoldAmountsModel", "readCode", "()V"⟩, 27)]
theorem lw_r3 : ∀ q ∈ lw_privs_3, lw_okq q := List.forall_mem_cons.mpr ⟨lw_p32, List.forall_mem_cons.mpr ⟨lw_p33, List.forall_mem_cons.mpr ⟨lw_p34, List.forall_mem_cons.mpr ⟨lw_p35, List.forall_mem_cons.mpr ⟨lw_p36, fun _ h => absurd h List.not_mem_nil⟩⟩⟩⟩⟩
def lw_privs : List (MethodName × Nat) := lw_privs_1 ++ (lw_privs_2 ++ (lw_privs_3))
def lw_tbl : List Cond := k2_sels lw_privs ++ tables_1
theorem lw_privs_ok : ∀ q ∈ lw_privs, lw_okq q := by
  show ∀ q ∈ lw_privs_1 ++ (lw_privs_2 ++ (lw_privs_3)), lw_okq q
  exact List.forall_mem_append.mpr ⟨lw_r1, List.forall_mem_append.mpr ⟨lw_r2, lw_r3⟩⟩
end
section
/-! Names, fields, words of the tables by their places, decode rows: written by program (wip/whole-gen/names.py). -/
def Gw : List Cond := lw_tbl.filter goodWord
theorem gw_of {w : Cond} (k : Nat) (h : lw_tbl[k]? = some w) (hg : goodWord w = true) : w ∈ Gw := List.mem_filter.mpr ⟨List.mem_of_getElem? h, hg⟩
theorem gw_good {w : Cond} (h : w ∈ Gw) : (w.onTables && w.keeps) = true ∨ ∃ ty, w = .arrayClass ty := good_of_word (List.mem_filter.mp h).2
def RX0 : String := "TwofoldAmounts$Amount"
def TX0 : u_T := fun k => match k with
  | 0 => ("TwofoldAmounts$Amount", "row", "[I", true)
  | 1 => ("TwofoldAmounts$Amount", "held", "Z", false)
  | 2 => ("TwofoldAmounts$Amount", "wide", "Z", false)
  | 3 => ("TwofoldAmounts$Amount", "negative", "Z", false)
  | _ => ("TwofoldAmounts$Amount", "currency", "I", false)
def tyX0 : Nat → FieldType := fun k => match k with
  | 0 => .array .int
  | 1 => .boolean
  | 2 => .boolean
  | 3 => .boolean
  | _ => .int
abbrev wsX00 : List Cond := u_ws RX0 TX0 5
theorem nmX0 : ∀ a, a < 5 → ∀ b, b < 5 → a ≠ b → (TX0 a).2.1 ≠ (TX0 b).2.1 := by decide +kernel
theorem tyX0_ok : ∀ k, k < 5 → parseFieldDescriptor (TX0 k).2.2.1 = some (tyX0 k) := by decide +kernel
def RX1 : String := "TwofoldAmounts$Text"
def TX1 : u_T := fun k => match k with
  | 0 => ("TwofoldAmounts$Text", "letters", "[I", true)
  | 1 => ("TwofoldAmounts$Text", "size", "I", false)
  | 2 => ("TwofoldAmounts$Text", "at", "I", false)
  | _ => ("TwofoldAmounts$Text", "currency", "I", false)
def tyX1 : Nat → FieldType := fun k => match k with
  | 0 => .array .int
  | 1 => .int
  | 2 => .int
  | _ => .int
abbrev wsX10 : List Cond := u_ws RX1 TX1 4
theorem nmX1 : ∀ a, a < 4 → ∀ b, b < 4 → a ≠ b → (TX1 a).2.1 ≠ (TX1 b).2.1 := by decide +kernel
theorem tyX1_ok : ∀ k, k < 4 → parseFieldDescriptor (TX1 k).2.2.1 = some (tyX1 k) := by decide +kernel
def RX2 : String := "TwofoldAmounts$Work"
def TX2 : u_T := fun k => match k with
  | 0 => ("TwofoldAmounts$Work", "row", "[I", true)
  | 1 => ("TwofoldAmounts$Work", "factor", "[I", true)
  | 2 => ("TwofoldAmounts$Work", "negative", "Z", false)
  | _ => ("TwofoldAmounts$Work", "goesOn", "Z", false)
def tyX2 : Nat → FieldType := fun k => match k with
  | 0 => .array .int
  | 1 => .array .int
  | 2 => .boolean
  | _ => .boolean
abbrev wsX20 : List Cond := u_ws RX2 TX2 4
theorem nmX2 : ∀ a, a < 4 → ∀ b, b < 4 → a ≠ b → (TX2 a).2.1 ≠ (TX2 b).2.1 := by decide +kernel
theorem tyX2_ok : ∀ k, k < 4 → parseFieldDescriptor (TX2 k).2.2.1 = some (tyX2 k) := by decide +kernel
def RX3 : String := "TwofoldAmounts"
def TX3 : u_T := fun k => match k with
  | 0 => ("TwofoldAmounts", "contextPrecision", "I", true)
  | 1 => ("TwofoldAmounts", "contextScale", "I", true)
  | 2 => ("TwofoldAmounts", "contextMode", "I", true)
  | 3 => ("TwofoldAmounts", "amounts", "[LTwofoldAmounts$Amount;", true)
  | 4 => ("TwofoldAmounts", "ratios", "[I", true)
  | 5 => ("TwofoldAmounts", "remainders", "[J", true)
  | 6 => ("TwofoldAmounts", "work", "LTwofoldAmounts$Work;", true)
  | 7 => ("TwofoldAmounts", "share", "LTwofoldAmounts$Work;", true)
  | _ => ("TwofoldAmounts", "text", "LTwofoldAmounts$Text;", true)
def tyX3 : Nat → FieldType := fun k => match k with
  | 0 => .int
  | 1 => .int
  | 2 => .int
  | 3 => .array (.object "TwofoldAmounts$Amount")
  | 4 => .array .int
  | 5 => .array .long
  | 6 => .object "TwofoldAmounts$Work"
  | 7 => .object "TwofoldAmounts$Work"
  | _ => .object "TwofoldAmounts$Text"
abbrev wsX30 : List Cond := u_ws RX3 TX3 9
theorem nmX3 : ∀ a, a < 9 → ∀ b, b < 9 → a ≠ b → (TX3 a).2.1 ≠ (TX3 b).2.1 := by decide +kernel
theorem tyX3_ok : ∀ k, k < 9 → parseFieldDescriptor (TX3 k).2.2.1 = some (tyX3 k) := by decide +kernel
def RX4 : String := "TwofoldAmountsModel"
def TX4 : u_T := fun k => match k with
  | 0 => ("TwofoldAmountsModel", "p", "I", true)
  | 1 => ("TwofoldAmountsModel", "s", "I", true)
  | 2 => ("TwofoldAmountsModel", "m", "I", true)
  | 3 => ("TwofoldAmountsModel", "currency", "[I", true)
  | 4 => ("TwofoldAmountsModel", "isWide", "[Z", true)
  | 5 => ("TwofoldAmountsModel", "negative", "[Z", true)
  | 6 => ("TwofoldAmountsModel", "kept", "[I", true)
  | 7 => ("TwofoldAmountsModel", "ratios", "[I", true)
  | 8 => ("TwofoldAmountsModel", "text", "[I", true)
  | 9 => ("TwofoldAmountsModel", "length", "I", false)
  | 10 => ("TwofoldAmountsModel", "num", "[I", true)
  | 11 => ("TwofoldAmountsModel", "base", "[I", true)
  | 12 => ("TwofoldAmountsModel", "den", "[I", true)
  | 13 => ("TwofoldAmountsModel", "quo", "[I", true)
  | 14 => ("TwofoldAmountsModel", "rem", "[I", true)
  | 15 => ("TwofoldAmountsModel", "other", "[I", true)
  | 16 => ("TwofoldAmountsModel", "units", "[I", true)
  | 17 => ("TwofoldAmountsModel", "parts", "[I", true)
  | 18 => ("TwofoldAmountsModel", "over", "[I", true)
  | 19 => ("TwofoldAmountsModel", "given", "[Z", true)
  | 20 => ("TwofoldAmountsModel", "at", "I", false)
  | 21 => ("TwofoldAmountsModel", "wrong", "I", false)
  | 22 => ("TwofoldAmountsModel", "read", "[I", true)
  | 23 => ("TwofoldAmountsModel", "digitCount", "I", false)
  | 24 => ("TwofoldAmountsModel", "behind", "I", false)
  | 25 => ("TwofoldAmountsModel", "readCurrency", "I", false)
  | _ => ("TwofoldAmountsModel", "readMinus", "Z", false)
def tyX4 : Nat → FieldType := fun k => match k with
  | 0 => .int
  | 1 => .int
  | 2 => .int
  | 3 => .array .int
  | 4 => .array .boolean
  | 5 => .array .boolean
  | 6 => .array .int
  | 7 => .array .int
  | 8 => .array .int
  | 9 => .int
  | 10 => .array .int
  | 11 => .array .int
  | 12 => .array .int
  | 13 => .array .int
  | 14 => .array .int
  | 15 => .array .int
  | 16 => .array .int
  | 17 => .array .int
  | 18 => .array .int
  | 19 => .array .boolean
  | 20 => .int
  | 21 => .int
  | 22 => .array .int
  | 23 => .int
  | 24 => .int
  | 25 => .int
  | _ => .boolean
abbrev wsX40 : List Cond := u_ws RX4 TX4 27
theorem nmX4 : ∀ a, a < 27 → ∀ b, b < 27 → a ≠ b → (TX4 a).2.1 ≠ (TX4 b).2.1 := by decide +kernel
theorem tyX4_ok : ∀ k, k < 27 → parseFieldDescriptor (TX4 k).2.2.1 = some (tyX4 k) := by decide +kernel
def RJ6 : String := "java/lang/Integer"
def RJ9 : String := "java/lang/Math"
def RJ10 : String := "java/lang/System"
def RJ7 : String := "java/util/Arrays"
def RL : String := "TwofoldAmountsLaw"
abbrev cX3_init : ByteArray := prog_1_method_1_code
def yX3_init : MethodName := ⟨RX3, "<init>", "(III)V"⟩
abbrev kX3_init : Cond := .code yX3_init cX3_init 5 none
abbrev wsX3_init : List Cond := kX3_init :: Gw
abbrev cJ9_min : ByteArray := prog_8_method_69_code
def yJ9_min : MethodName := ⟨RJ9, "min", "(II)I"⟩
abbrev kJ9_min : Cond := .code yJ9_min cJ9_min 2 (some .int)
abbrev wsJ9_min : List Cond := kJ9_min :: Gw
abbrev cJ9_max : ByteArray := prog_8_method_65_code
def yJ9_max : MethodName := ⟨RJ9, "max", "(II)I"⟩
abbrev kJ9_max : Cond := .code yJ9_max cJ9_max 2 (some .int)
abbrev wsJ9_max : List Cond := kJ9_max :: Gw
abbrev cX0_init : ByteArray := prog_2_method_1_code
def yX0_init : MethodName := ⟨RX0, "<init>", "()V"⟩
abbrev kX0_init : Cond := .code yX0_init cX0_init 1 none
abbrev wsX0_init : List Cond := kX0_init :: Gw
abbrev cX2_init : ByteArray := prog_4_method_1_code
def yX2_init : MethodName := ⟨RX2, "<init>", "()V"⟩
abbrev kX2_init : Cond := .code yX2_init cX2_init 1 none
abbrev wsX2_init : List Cond := kX2_init :: Gw
abbrev cX1_init : ByteArray := prog_3_method_1_code
def yX1_init : MethodName := ⟨RX1, "<init>", "()V"⟩
abbrev kX1_init : Cond := .code yX1_init cX1_init 1 none
abbrev wsX1_init : List Cond := kX1_init :: Gw
abbrev cX3_set : ByteArray := prog_1_method_2_code
def yX3_set : MethodName := ⟨RX3, "set", "(IZIJI)I"⟩
abbrev kX3_set : Cond := .code yX3_set cX3_set 7 (some .int)
abbrev wsX3_set : List Cond := kX3_set :: Gw
abbrev cX3_isRegister : ByteArray := prog_1_method_21_code
def yX3_isRegister : MethodName := ⟨RX3, "isRegister", "(I)Z"⟩
abbrev kX3_isRegister : Cond := .code yX3_isRegister cX3_isRegister 1 (some .boolean)
abbrev wsX3_isRegister : List Cond := kX3_isRegister :: Gw
abbrev cX3_isPower : ByteArray := prog_1_method_22_code
def yX3_isPower : MethodName := ⟨RX3, "isPower", "(I)Z"⟩
abbrev kX3_isPower : Cond := .code yX3_isPower cX3_isPower 1 (some .boolean)
abbrev wsX3_isPower : List Cond := kX3_isPower :: Gw
abbrev cX2_loadNumber : ByteArray := prog_4_method_4_code
def yX2_loadNumber : MethodName := ⟨RX2, "loadNumber", "(JI)V"⟩
abbrev kX2_loadNumber : Cond := .code yX2_loadNumber cX2_loadNumber 4 none
abbrev wsX2_loadNumber : List Cond := kX2_loadNumber :: Gw
abbrev cX2_clear : ByteArray := prog_4_method_2_code
def yX2_clear : MethodName := ⟨RX2, "clear", "()V"⟩
abbrev kX2_clear : Cond := .code yX2_clear cX2_clear 1 none
abbrev wsX2_clear : List Cond := kX2_clear :: Gw
abbrev cJ7_fill : ByteArray := prog_10_method_103_code
def yJ7_fill : MethodName := ⟨RJ7, "fill", "([II)V"⟩
abbrev kJ7_fill : Cond := .code yJ7_fill cJ7_fill 4 none
abbrev wsJ7_fill : List Cond := kJ7_fill :: Gw
abbrev cX2_spell : ByteArray := prog_4_method_5_code
def yX2_spell : MethodName := ⟨RX2, "spell", "(J[II)V"⟩
abbrev kX2_spell : Cond := .code yX2_spell cX2_spell 7 none
abbrev wsX2_spell : List Cond := kX2_spell :: Gw
abbrev cJ9_abs : ByteArray := prog_8_method_61_code
def yJ9_abs : MethodName := ⟨RJ9, "abs", "(J)J"⟩
abbrev kJ9_abs : Cond := .code yJ9_abs cJ9_abs 2 (some .long)
abbrev wsJ9_abs : List Cond := kJ9_abs :: Gw
abbrev cX3_keep : ByteArray := prog_1_method_25_code
def yX3_keep : MethodName := ⟨RX3, "keep", "(IZI)I"⟩
abbrev kX3_keep : Cond := .code yX3_keep cX3_keep 6 (some .int)
abbrev wsX3_keep : List Cond := kX3_keep :: Gw
abbrev cX2_size : ByteArray := prog_4_method_6_code
def yX2_size : MethodName := ⟨RX2, "size", "()I"⟩
abbrev kX2_size : Cond := .code yX2_size cX2_size 2 (some .int)
abbrev wsX2_size : List Cond := kX2_size :: Gw
abbrev cX2_toMultiple : ByteArray := prog_4_method_12_code
def yX2_toMultiple : MethodName := ⟨RX2, "toMultiple", "(III)Z"⟩
abbrev kX2_toMultiple : Cond := .code yX2_toMultiple cX2_toMultiple 10 (some .boolean)
abbrev wsX2_toMultiple : List Cond := kX2_toMultiple :: Gw
abbrev cX3_isZero : ByteArray := prog_1_method_37_code
def yX3_isZero : MethodName := ⟨RX3, "isZero", "([III)Z"⟩
abbrev kX3_isZero : Cond := .code yX3_isZero cX3_isZero 4 (some .boolean)
abbrev wsX3_isZero : List Cond := kX3_isZero :: Gw
abbrev cJ6_compare : ByteArray := prog_7_method_40_code
def yJ6_compare : MethodName := ⟨RJ6, "compare", "(II)I"⟩
abbrev kJ6_compare : Cond := .code yJ6_compare cJ6_compare 2 (some .int)
abbrev wsJ6_compare : List Cond := kJ6_compare :: Gw
abbrev cX2_goesAway : ByteArray := prog_4_method_13_code
def yX2_goesAway : MethodName := ⟨RX2, "goesAway", "(IIZ)Z"⟩
abbrev kX2_goesAway : Cond := .code yX2_goesAway cX2_goesAway 4 (some .boolean)
abbrev wsX2_goesAway : List Cond := kX2_goesAway :: Gw
abbrev cX2_increase : ByteArray := prog_4_method_8_code
def yX2_increase : MethodName := ⟨RX2, "increase", "(II)V"⟩
abbrev kX2_increase : Cond := .code yX2_increase cX2_increase 3 none
abbrev wsX2_increase : List Cond := kX2_increase :: Gw
abbrev cX2_carry : ByteArray := prog_4_method_7_code
def yX2_carry : MethodName := ⟨RX2, "carry", "()V"⟩
abbrev kX2_carry : Cond := .code yX2_carry cX2_carry 4 none
abbrev wsX2_carry : List Cond := kX2_carry :: Gw
abbrev cJ9_floorMod : ByteArray := prog_8_method_50_code
def yJ9_floorMod : MethodName := ⟨RJ9, "floorMod", "(II)I"⟩
abbrev kJ9_floorMod : Cond := .code yJ9_floorMod cJ9_floorMod 3 (some .int)
abbrev wsJ9_floorMod : List Cond := kJ9_floorMod :: Gw
abbrev cJ9_floorDiv : ByteArray := prog_8_method_47_code
def yJ9_floorDiv : MethodName := ⟨RJ9, "floorDiv", "(II)I"⟩
abbrev kJ9_floorDiv : Cond := .code yJ9_floorDiv cJ9_floorDiv 3 (some .int)
abbrev wsJ9_floorDiv : List Cond := kJ9_floorDiv :: Gw
abbrev cX3_store : ByteArray := prog_1_method_26_code
def yX3_store : MethodName := ⟨RX3, "store", "(IZI)I"⟩
abbrev kX3_store : Cond := .code yX3_store cX3_store 4 (some .int)
abbrev wsX3_store : List Cond := kX3_store :: Gw
abbrev cX2_fitsWide : ByteArray := prog_4_method_14_code
def yX2_fitsWide : MethodName := ⟨RX2, "fitsWide", "()Z"⟩
abbrev kX2_fitsWide : Cond := .code yX2_fitsWide cX2_fitsWide 1 (some .boolean)
abbrev wsX2_fitsWide : List Cond := kX2_fitsWide :: Gw
abbrev cX2_fitsFast : ByteArray := prog_4_method_15_code
def yX2_fitsFast : MethodName := ⟨RX2, "fitsFast", "()Z"⟩
abbrev kX2_fitsFast : Cond := .code yX2_fitsFast cX2_fitsFast 4 (some .boolean)
abbrev wsX2_fitsFast : List Cond := kX2_fitsFast :: Gw
abbrev cX3_asLong : ByteArray := prog_1_method_38_code
def yX3_asLong : MethodName := ⟨RX3, "asLong", "([III)J"⟩
abbrev kX3_asLong : Cond := .code yX3_asLong cX3_asLong 6 (some .long)
abbrev wsX3_asLong : List Cond := kX3_asLong :: Gw
abbrev cX0_take : ByteArray := prog_2_method_3_code
def yX0_take : MethodName := ⟨RX0, "take", "(LTwofoldAmounts$Work;ZI)V"⟩
abbrev kX0_take : Cond := .code yX0_take cX0_take 4 none
abbrev wsX0_take : List Cond := kX0_take :: Gw
abbrev cX3_add : ByteArray := prog_1_method_3_code
def yX3_add : MethodName := ⟨RX3, "add", "(III)I"⟩
abbrev kX3_add : Cond := .code yX3_add cX3_add 4 (some .int)
abbrev wsX3_add : List Cond := kX3_add :: Gw
abbrev cX3_combine : ByteArray := prog_1_method_24_code
def yX3_combine : MethodName := ⟨RX3, "combine", "(IIIZ)I"⟩
abbrev kX3_combine : Cond := .code yX3_combine cX3_combine 8 (some .int)
abbrev wsX3_combine : List Cond := kX3_combine :: Gw
abbrev cX0_isLike : ByteArray := prog_2_method_2_code
def yX0_isLike : MethodName := ⟨RX0, "isLike", "(LTwofoldAmounts$Amount;)Z"⟩
abbrev kX0_isLike : Cond := .code yX0_isLike cX0_isLike 2 (some .boolean)
abbrev wsX0_isLike : List Cond := kX0_isLike :: Gw
abbrev cX2_load : ByteArray := prog_4_method_3_code
def yX2_load : MethodName := ⟨RX2, "load", "([IIZ)V"⟩
abbrev kX2_load : Cond := .code yX2_load cX2_load 4 none
abbrev wsX2_load : List Cond := kX2_load :: Gw
abbrev cX2_join : ByteArray := prog_4_method_9_code
def yX2_join : MethodName := ⟨RX2, "join", "([III)V"⟩
abbrev kX2_join : Cond := .code yX2_join cX2_join 5 none
abbrev wsX2_join : List Cond := kX2_join :: Gw
abbrev cX3_compareRows : ByteArray := prog_1_method_36_code
def yX3_compareRows : MethodName := ⟨RX3, "compareRows", "([I[I)I"⟩
abbrev kX3_compareRows : Cond := .code yX3_compareRows cX3_compareRows 3 (some .int)
abbrev wsX3_compareRows : List Cond := kX3_compareRows :: Gw
abbrev cX3_subtract : ByteArray := prog_1_method_4_code
def yX3_subtract : MethodName := ⟨RX3, "subtract", "(III)I"⟩
abbrev kX3_subtract : Cond := .code yX3_subtract cX3_subtract 4 (some .int)
abbrev wsX3_subtract : List Cond := kX3_subtract :: Gw
abbrev cX3_multiply : ByteArray := prog_1_method_5_code
def yX3_multiply : MethodName := ⟨RX3, "multiply", "(IIJI)I"⟩
abbrev kX3_multiply : Cond := .code yX3_multiply cX3_multiply 7 (some .int)
abbrev wsX3_multiply : List Cond := kX3_multiply :: Gw
abbrev cX2_times : ByteArray := prog_4_method_10_code
def yX2_times : MethodName := ⟨RX2, "times", "(J)V"⟩
abbrev kX2_times : Cond := .code yX2_times cX2_times 6 none
abbrev wsX2_times : List Cond := kX2_times :: Gw
abbrev cX3_divide : ByteArray := prog_1_method_6_code
def yX3_divide : MethodName := ⟨RX3, "divide", "(IIJI)I"⟩
abbrev kX3_divide : Cond := .code yX3_divide cX3_divide 7 (some .int)
abbrev wsX3_divide : List Cond := kX3_divide :: Gw
abbrev cX2_over : ByteArray := prog_4_method_11_code
def yX2_over : MethodName := ⟨RX2, "over", "(JI)J"⟩
abbrev kX2_over : Cond := .code yX2_over cX2_over 17 (some .long)
abbrev wsX2_over : List Cond := kX2_over :: Gw
abbrev cX3_negate : ByteArray := prog_1_method_7_code
def yX3_negate : MethodName := ⟨RX3, "negate", "(II)I"⟩
abbrev kX3_negate : Cond := .code yX3_negate cX3_negate 4 (some .int)
abbrev wsX3_negate : List Cond := kX3_negate :: Gw
abbrev cX3_round : ByteArray := prog_1_method_8_code
def yX3_round : MethodName := ⟨RX3, "round", "(IIIZ)I"⟩
abbrev kX3_round : Cond := .code yX3_round cX3_round 7 (some .int)
abbrev wsX3_round : List Cond := kX3_round :: Gw
abbrev cX3_unitPlace : ByteArray := prog_1_method_23_code
def yX3_unitPlace : MethodName := ⟨RX3, "unitPlace", "(I)I"⟩
abbrev kX3_unitPlace : Cond := .code yX3_unitPlace cX3_unitPlace 1 (some .int)
abbrev wsX3_unitPlace : List Cond := kX3_unitPlace :: Gw
abbrev cX3_ratio : ByteArray := prog_1_method_9_code
def yX3_ratio : MethodName := ⟨RX3, "ratio", "(II)Z"⟩
abbrev kX3_ratio : Cond := .code yX3_ratio cX3_ratio 3 (some .boolean)
abbrev wsX3_ratio : List Cond := kX3_ratio :: Gw
abbrev cX3_allocate : ByteArray := prog_1_method_10_code
def yX3_allocate : MethodName := ⟨RX3, "allocate", "(III)I"⟩
abbrev kX3_allocate : Cond := .code yX3_allocate cX3_allocate 15 (some .int)
abbrev wsX3_allocate : List Cond := kX3_allocate :: Gw
abbrev cX3_sumOfRatios : ByteArray := prog_1_method_27_code
def yX3_sumOfRatios : MethodName := ⟨RX3, "sumOfRatios", "(I)J"⟩
abbrev kX3_sumOfRatios : Cond := .code yX3_sumOfRatios cX3_sumOfRatios 5 (some .long)
abbrev wsX3_sumOfRatios : List Cond := kX3_sumOfRatios :: Gw
abbrev cX3_splitRest : ByteArray := prog_1_method_28_code
def yX3_splitRest : MethodName := ⟨RX3, "splitRest", "(JJI)J"⟩
abbrev kX3_splitRest : Cond := .code yX3_splitRest cX3_splitRest 9 (some .long)
abbrev wsX3_splitRest : List Cond := kX3_splitRest :: Gw
abbrev cX3_rankOf : ByteArray := prog_1_method_29_code
def yX3_rankOf : MethodName := ⟨RX3, "rankOf", "(II)I"⟩
abbrev kX3_rankOf : Cond := .code yX3_rankOf cX3_rankOf 5 (some .int)
abbrev wsX3_rankOf : List Cond := kX3_rankOf :: Gw
abbrev cX3_compare : ByteArray := prog_1_method_11_code
def yX3_compare : MethodName := ⟨RX3, "compare", "(II)I"⟩
abbrev kX3_compare : Cond := .code yX3_compare cX3_compare 6 (some .int)
abbrev wsX3_compare : List Cond := kX3_compare :: Gw
abbrev cX3_sign : ByteArray := prog_1_method_12_code
def yX3_sign : MethodName := ⟨RX3, "sign", "(I)I"⟩
abbrev kX3_sign : Cond := .code yX3_sign cX3_sign 3 (some .int)
abbrev wsX3_sign : List Cond := kX3_sign :: Gw
abbrev cX3_kind : ByteArray := prog_1_method_13_code
def yX3_kind : MethodName := ⟨RX3, "kind", "(I)I"⟩
abbrev kX3_kind : Cond := .code yX3_kind cX3_kind 3 (some .int)
abbrev wsX3_kind : List Cond := kX3_kind :: Gw
abbrev cX3_digits : ByteArray := prog_1_method_14_code
def yX3_digits : MethodName := ⟨RX3, "digits", "(II)J"⟩
abbrev kX3_digits : Cond := .code yX3_digits cX3_digits 4 (some .long)
abbrev wsX3_digits : List Cond := kX3_digits :: Gw
abbrev cX3_discard : ByteArray := prog_1_method_15_code
def yX3_discard : MethodName := ⟨RX3, "discard", "(I)Z"⟩
abbrev kX3_discard : Cond := .code yX3_discard cX3_discard 2 (some .boolean)
abbrev wsX3_discard : List Cond := kX3_discard :: Gw
abbrev cX3_format : ByteArray := prog_1_method_16_code
def yX3_format : MethodName := ⟨RX3, "format", "(II)I"⟩
abbrev kX3_format : Cond := .code yX3_format cX3_format 4 (some .int)
abbrev wsX3_format : List Cond := kX3_format :: Gw
abbrev cX3_writeNumber : ByteArray := prog_1_method_30_code
def yX3_writeNumber : MethodName := ⟨RX3, "writeNumber", "(II)V"⟩
abbrev kX3_writeNumber : Cond := .code yX3_writeNumber cX3_writeNumber 5 none
abbrev wsX3_writeNumber : List Cond := kX3_writeNumber :: Gw
abbrev cX1_append : ByteArray := prog_3_method_2_code
def yX1_append : MethodName := ⟨RX1, "append", "(I)V"⟩
abbrev kX1_append : Cond := .code yX1_append cX1_append 2 none
abbrev wsX1_append : List Cond := kX1_append :: Gw
abbrev cX3_writeBody : ByteArray := prog_1_method_31_code
def yX3_writeBody : MethodName := ⟨RX3, "writeBody", "(IZ)V"⟩
abbrev kX3_writeBody : Cond := .code yX3_writeBody cX3_writeBody 5 none
abbrev wsX3_writeBody : List Cond := kX3_writeBody :: Gw
abbrev cX1_appendCode : ByteArray := prog_3_method_3_code
def yX1_appendCode : MethodName := ⟨RX1, "appendCode", "(I)V"⟩
abbrev kX1_appendCode : Cond := .code yX1_appendCode cX1_appendCode 3 none
abbrev wsX1_appendCode : List Cond := kX1_appendCode :: Gw
abbrev cX3_type : ByteArray := prog_1_method_17_code
def yX3_type : MethodName := ⟨RX3, "type", "(I)I"⟩
abbrev kX3_type : Cond := .code yX3_type cX3_type 2 (some .int)
abbrev wsX3_type : List Cond := kX3_type :: Gw
abbrev cX3_wipe : ByteArray := prog_1_method_18_code
def yX3_wipe : MethodName := ⟨RX3, "wipe", "()V"⟩
abbrev kX3_wipe : Cond := .code yX3_wipe cX3_wipe 1 none
abbrev wsX3_wipe : List Cond := kX3_wipe :: Gw
abbrev cX3_letter : ByteArray := prog_1_method_19_code
def yX3_letter : MethodName := ⟨RX3, "letter", "(I)I"⟩
abbrev kX3_letter : Cond := .code yX3_letter cX3_letter 2 (some .int)
abbrev wsX3_letter : List Cond := kX3_letter :: Gw
abbrev cX3_parse : ByteArray := prog_1_method_20_code
def yX3_parse : MethodName := ⟨RX3, "parse", "(IZI)I"⟩
abbrev kX3_parse : Cond := .code yX3_parse cX3_parse 4 (some .int)
abbrev wsX3_parse : List Cond := kX3_parse :: Gw
abbrev cX3_readStyle : ByteArray := prog_1_method_32_code
def yX3_readStyle : MethodName := ⟨RX3, "readStyle", "(I)Z"⟩
abbrev kX3_readStyle : Cond := .code yX3_readStyle cX3_readStyle 2 (some .boolean)
abbrev wsX3_readStyle : List Cond := kX3_readStyle :: Gw
abbrev cX3_readNumber : ByteArray := prog_1_method_33_code
def yX3_readNumber : MethodName := ⟨RX3, "readNumber", "(I)Z"⟩
abbrev kX3_readNumber : Cond := .code yX3_readNumber cX3_readNumber 3 (some .boolean)
abbrev wsX3_readNumber : List Cond := kX3_readNumber :: Gw
abbrev cX1_skip : ByteArray := prog_3_method_4_code
def yX1_skip : MethodName := ⟨RX1, "skip", "(I)Z"⟩
abbrev kX1_skip : Cond := .code yX1_skip cX1_skip 2 (some .boolean)
abbrev wsX1_skip : List Cond := kX1_skip :: Gw
abbrev cX3_readBody : ByteArray := prog_1_method_34_code
def yX3_readBody : MethodName := ⟨RX3, "readBody", "(Z)Z"⟩
abbrev kX3_readBody : Cond := .code yX3_readBody cX3_readBody 6 (some .boolean)
abbrev wsX3_readBody : List Cond := kX3_readBody :: Gw
abbrev cX1_skipWhole : ByteArray := prog_3_method_7_code
def yX1_skipWhole : MethodName := ⟨RX1, "skipWhole", "(Z)Z"⟩
abbrev kX1_skipWhole : Cond := .code yX1_skipWhole cX1_skipWhole 3 (some .boolean)
abbrev wsX1_skipWhole : List Cond := kX1_skipWhole :: Gw
abbrev cX1_skipDigits : ByteArray := prog_3_method_6_code
def yX1_skipDigits : MethodName := ⟨RX1, "skipDigits", "(I)I"⟩
abbrev kX1_skipDigits : Cond := .code yX1_skipDigits cX1_skipDigits 3 (some .int)
abbrev wsX1_skipDigits : List Cond := kX1_skipDigits :: Gw
abbrev cX3_takeWhole : ByteArray := prog_1_method_35_code
def yX3_takeWhole : MethodName := ⟨RX3, "takeWhole", "(II)V"⟩
abbrev kX3_takeWhole : Cond := .code yX3_takeWhole cX3_takeWhole 5 none
abbrev wsX3_takeWhole : List Cond := kX3_takeWhole :: Gw
abbrev cX1_skipCode : ByteArray := prog_3_method_5_code
def yX1_skipCode : MethodName := ⟨RX1, "skipCode", "()Z"⟩
abbrev kX1_skipCode : Cond := .code yX1_skipCode cX1_skipCode 2 (some .boolean)
abbrev wsX1_skipCode : List Cond := kX1_skipCode :: Gw
abbrev cL_cell : ByteArray := method_2_code
def yL_cell : MethodName := ⟨RL, "cell", "([II)I"⟩
abbrev kL_cell : Cond := .code yL_cell cL_cell 2 (some .int)
abbrev wsL_cell : List Cond := kL_cell :: Gw
abbrev cX4_init : ByteArray := prog_6_method_1_code
def yX4_init : MethodName := ⟨RX4, "<init>", "(III)V"⟩
abbrev kX4_init : Cond := .code yX4_init cX4_init 5 none
abbrev wsX4_init : List Cond := kX4_init :: Gw
abbrev cX4_set : ByteArray := prog_6_method_18_code
def yX4_set : MethodName := ⟨RX4, "set", "(IZIJI)I"⟩
abbrev kX4_set : Cond := .code yX4_set cX4_set 7 (some .int)
abbrev wsX4_set : List Cond := kX4_set :: Gw
abbrev cX4_outside : ByteArray := prog_6_method_17_code
def yX4_outside : MethodName := ⟨RX4, "outside", "(II)Z"⟩
abbrev kX4_outside : Cond := .code yX4_outside cX4_outside 2 (some .boolean)
abbrev wsX4_outside : List Cond := kX4_outside :: Gw
abbrev cX4_load : ByteArray := prog_6_method_4_code
def yX4_load : MethodName := ⟨RX4, "load", "([IJ)V"⟩
abbrev kX4_load : Cond := .code yX4_load cX4_load 7 none
abbrev wsX4_load : List Cond := kX4_load :: Gw
abbrev cX4_clear : ByteArray := prog_6_method_2_code
def yX4_clear : MethodName := ⟨RX4, "clear", "([I)V"⟩
abbrev kX4_clear : Cond := .code yX4_clear cX4_clear 2 none
abbrev wsX4_clear : List Cond := kX4_clear :: Gw
abbrev cX4_shift : ByteArray := prog_6_method_6_code
def yX4_shift : MethodName := ⟨RX4, "shift", "([II)V"⟩
abbrev kX4_shift : Cond := .code yX4_shift cX4_shift 3 none
abbrev wsX4_shift : List Cond := kX4_shift :: Gw
abbrev cX4_settle : ByteArray := prog_6_method_16_code
def yX4_settle : MethodName := ⟨RX4, "settle", "(IIZZ)I"⟩
abbrev kX4_settle : Cond := .code yX4_settle cX4_settle 7 (some .int)
abbrev wsX4_settle : List Cond := kX4_settle :: Gw
abbrev cX4_copy : ByteArray := prog_6_method_3_code
def yX4_copy : MethodName := ⟨RX4, "copy", "([I[I)V"⟩
abbrev kX4_copy : Cond := .code yX4_copy cX4_copy 3 none
abbrev wsX4_copy : List Cond := kX4_copy :: Gw
abbrev cX4_quotient : ByteArray := prog_6_method_12_code
def yX4_quotient : MethodName := ⟨RX4, "quotient", "()V"⟩
abbrev kX4_quotient : Cond := .code yX4_quotient cX4_quotient 2 none
abbrev wsX4_quotient : List Cond := kX4_quotient :: Gw
abbrev cX4_order : ByteArray := prog_6_method_8_code
def yX4_order : MethodName := ⟨RX4, "order", "([I[I)I"⟩
abbrev kX4_order : Cond := .code yX4_order cX4_order 3 (some .int)
abbrev wsX4_order : List Cond := kX4_order :: Gw
abbrev cX4_decrease : ByteArray := prog_6_method_10_code
def yX4_decrease : MethodName := ⟨RX4, "decrease", "([I[I)V"⟩
abbrev kX4_decrease : Cond := .code yX4_decrease cX4_decrease 5 none
abbrev wsX4_decrease : List Cond := kX4_decrease :: Gw
abbrev cX4_size : ByteArray := prog_6_method_7_code
def yX4_size : MethodName := ⟨RX4, "size", "([I)I"⟩
abbrev kX4_size : Cond := .code yX4_size cX4_size 3 (some .int)
abbrev wsX4_size : List Cond := kX4_size :: Gw
abbrev cX4_rounds : ByteArray := prog_6_method_13_code
def yX4_rounds : MethodName := ⟨RX4, "rounds", "(ZI)Z"⟩
abbrev kX4_rounds : Cond := .code yX4_rounds cX4_rounds 7 (some .boolean)
abbrev wsX4_rounds : List Cond := kX4_rounds :: Gw
abbrev cX4_increase : ByteArray := prog_6_method_9_code
def yX4_increase : MethodName := ⟨RX4, "increase", "([I[I)V"⟩
abbrev kX4_increase : Cond := .code yX4_increase cX4_increase 5 none
abbrev wsX4_increase : List Cond := kX4_increase :: Gw
abbrev cX4_fits : ByteArray := prog_6_method_14_code
def yX4_fits : MethodName := ⟨RX4, "fits", "([IZZ)Z"⟩
abbrev kX4_fits : Cond := .code yX4_fits cX4_fits 5 (some .boolean)
abbrev wsX4_fits : List Cond := kX4_fits :: Gw
abbrev cX4_keep : ByteArray := prog_6_method_15_code
def yX4_keep : MethodName := ⟨RX4, "keep", "(IIZZ[I)I"⟩
abbrev kX4_keep : Cond := .code yX4_keep cX4_keep 7 (some .int)
abbrev wsX4_keep : List Cond := kX4_keep :: Gw
abbrev cX4_add : ByteArray := prog_6_method_20_code
def yX4_add : MethodName := ⟨RX4, "add", "(III)I"⟩
abbrev kX4_add : Cond := .code yX4_add cX4_add 4 (some .int)
abbrev wsX4_add : List Cond := kX4_add :: Gw
abbrev cX4_sum : ByteArray := prog_6_method_19_code
def yX4_sum : MethodName := ⟨RX4, "sum", "(IIIZ)I"⟩
abbrev kX4_sum : Cond := .code yX4_sum cX4_sum 7 (some .int)
abbrev wsX4_sum : List Cond := kX4_sum :: Gw
abbrev cX4_take : ByteArray := prog_6_method_5_code
def yX4_take : MethodName := ⟨RX4, "take", "([II)V"⟩
abbrev kX4_take : Cond := .code yX4_take cX4_take 4 none
abbrev wsX4_take : List Cond := kX4_take :: Gw
abbrev cX4_subtract : ByteArray := prog_6_method_21_code
def yX4_subtract : MethodName := ⟨RX4, "subtract", "(III)I"⟩
abbrev kX4_subtract : Cond := .code yX4_subtract cX4_subtract 4 (some .int)
abbrev wsX4_subtract : List Cond := kX4_subtract :: Gw
abbrev cX4_multiply : ByteArray := prog_6_method_22_code
def yX4_multiply : MethodName := ⟨RX4, "multiply", "(IIJI)I"⟩
abbrev kX4_multiply : Cond := .code yX4_multiply cX4_multiply 6 (some .int)
abbrev wsX4_multiply : List Cond := kX4_multiply :: Gw
abbrev cX4_product : ByteArray := prog_6_method_11_code
def yX4_product : MethodName := ⟨RX4, "product", "([I[I)V"⟩
abbrev kX4_product : Cond := .code yX4_product cX4_product 9 none
abbrev wsX4_product : List Cond := kX4_product :: Gw
abbrev cX4_divide : ByteArray := prog_6_method_23_code
def yX4_divide : MethodName := ⟨RX4, "divide", "(IIJI)I"⟩
abbrev kX4_divide : Cond := .code yX4_divide cX4_divide 6 (some .int)
abbrev wsX4_divide : List Cond := kX4_divide :: Gw
abbrev cX4_negate : ByteArray := prog_6_method_24_code
def yX4_negate : MethodName := ⟨RX4, "negate", "(II)I"⟩
abbrev kX4_negate : Cond := .code yX4_negate cX4_negate 4 (some .int)
abbrev wsX4_negate : List Cond := kX4_negate :: Gw
abbrev cX4_round : ByteArray := prog_6_method_27_code
def yX4_round : MethodName := ⟨RX4, "round", "(IIIZ)I"⟩
abbrev kX4_round : Cond := .code yX4_round cX4_round 6 (some .int)
abbrev wsX4_round : List Cond := kX4_round :: Gw
abbrev cX4_step : ByteArray := prog_6_method_26_code
def yX4_step : MethodName := ⟨RX4, "step", "(II)V"⟩
abbrev kX4_step : Cond := .code yX4_step cX4_step 3 none
abbrev wsX4_step : List Cond := kX4_step :: Gw
abbrev cX4_digitsOf : ByteArray := prog_6_method_25_code
def yX4_digitsOf : MethodName := ⟨RX4, "digitsOf", "(I)I"⟩
abbrev kX4_digitsOf : Cond := .code yX4_digitsOf cX4_digitsOf 1 (some .int)
abbrev wsX4_digitsOf : List Cond := kX4_digitsOf :: Gw
abbrev cX4_ratio : ByteArray := prog_6_method_28_code
def yX4_ratio : MethodName := ⟨RX4, "ratio", "(II)Z"⟩
abbrev kX4_ratio : Cond := .code yX4_ratio cX4_ratio 3 (some .boolean)
abbrev wsX4_ratio : List Cond := kX4_ratio :: Gw
abbrev cX4_allocate : ByteArray := prog_6_method_31_code
def yX4_allocate : MethodName := ⟨RX4, "allocate", "(III)I"⟩
abbrev kX4_allocate : Cond := .code yX4_allocate cX4_allocate 9 (some .int)
abbrev wsX4_allocate : List Cond := kX4_allocate :: Gw
abbrev cX4_cut : ByteArray := prog_6_method_30_code
def yX4_cut : MethodName := ⟨RX4, "cut", "(II)V"⟩
abbrev kX4_cut : Cond := .code yX4_cut cX4_cut 4 none
abbrev wsX4_cut : List Cond := kX4_cut :: Gw
abbrev cX4_small : ByteArray := prog_6_method_29_code
def yX4_small : MethodName := ⟨RX4, "small", "([I)I"⟩
abbrev kX4_small : Cond := .code yX4_small cX4_small 3 (some .int)
abbrev wsX4_small : List Cond := kX4_small :: Gw
abbrev cX4_left : ByteArray := prog_6_method_32_code
def yX4_left : MethodName := ⟨RX4, "left", "(I)I"⟩
abbrev kX4_left : Cond := .code yX4_left cX4_left 4 (some .int)
abbrev wsX4_left : List Cond := kX4_left :: Gw
abbrev cX4_part : ByteArray := prog_6_method_33_code
def yX4_part : MethodName := ⟨RX4, "part", "(II)V"⟩
abbrev kX4_part : Cond := .code yX4_part cX4_part 4 none
abbrev wsX4_part : List Cond := kX4_part :: Gw
abbrev cX4_compare : ByteArray := prog_6_method_34_code
def yX4_compare : MethodName := ⟨RX4, "compare", "(II)I"⟩
abbrev kX4_compare : Cond := .code yX4_compare cX4_compare 4 (some .int)
abbrev wsX4_compare : List Cond := kX4_compare :: Gw
abbrev cX4_sign : ByteArray := prog_6_method_35_code
def yX4_sign : MethodName := ⟨RX4, "sign", "(I)I"⟩
abbrev kX4_sign : Cond := .code yX4_sign cX4_sign 2 (some .int)
abbrev wsX4_sign : List Cond := kX4_sign :: Gw
abbrev cX4_kind : ByteArray := prog_6_method_36_code
def yX4_kind : MethodName := ⟨RX4, "kind", "(I)I"⟩
abbrev kX4_kind : Cond := .code yX4_kind cX4_kind 2 (some .int)
abbrev wsX4_kind : List Cond := kX4_kind :: Gw
abbrev cX4_digits : ByteArray := prog_6_method_37_code
def yX4_digits : MethodName := ⟨RX4, "digits", "(II)J"⟩
abbrev kX4_digits : Cond := .code yX4_digits cX4_digits 6 (some .long)
abbrev wsX4_digits : List Cond := kX4_digits :: Gw
abbrev cX4_discard : ByteArray := prog_6_method_38_code
def yX4_discard : MethodName := ⟨RX4, "discard", "(I)Z"⟩
abbrev kX4_discard : Cond := .code yX4_discard cX4_discard 2 (some .boolean)
abbrev wsX4_discard : List Cond := kX4_discard :: Gw
abbrev cX4_format : ByteArray := prog_6_method_42_code
def yX4_format : MethodName := ⟨RX4, "format", "(II)I"⟩
abbrev kX4_format : Cond := .code yX4_format cX4_format 7 (some .int)
abbrev wsX4_format : List Cond := kX4_format :: Gw
abbrev cX4_putCode : ByteArray := prog_6_method_40_code
def yX4_putCode : MethodName := ⟨RX4, "putCode", "(I)V"⟩
abbrev kX4_putCode : Cond := .code yX4_putCode cX4_putCode 3 none
abbrev wsX4_putCode : List Cond := kX4_putCode :: Gw
abbrev cX4_put : ByteArray := prog_6_method_39_code
def yX4_put : MethodName := ⟨RX4, "put", "(I)V"⟩
abbrev kX4_put : Cond := .code yX4_put cX4_put 2 none
abbrev wsX4_put : List Cond := kX4_put :: Gw
abbrev cX4_putNumber : ByteArray := prog_6_method_41_code
def yX4_putNumber : MethodName := ⟨RX4, "putNumber", "(IIZ)V"⟩
abbrev kX4_putNumber : Cond := .code yX4_putNumber cX4_putNumber 8 none
abbrev wsX4_putNumber : List Cond := kX4_putNumber :: Gw
abbrev cX4_type : ByteArray := prog_6_method_43_code
def yX4_type : MethodName := ⟨RX4, "type", "(I)I"⟩
abbrev kX4_type : Cond := .code yX4_type cX4_type 2 (some .int)
abbrev wsX4_type : List Cond := kX4_type :: Gw
abbrev cX4_wipe : ByteArray := prog_6_method_44_code
def yX4_wipe : MethodName := ⟨RX4, "wipe", "()V"⟩
abbrev kX4_wipe : Cond := .code yX4_wipe cX4_wipe 1 none
abbrev wsX4_wipe : List Cond := kX4_wipe :: Gw
abbrev cX4_letter : ByteArray := prog_6_method_45_code
def yX4_letter : MethodName := ⟨RX4, "letter", "(I)I"⟩
abbrev kX4_letter : Cond := .code yX4_letter cX4_letter 2 (some .int)
abbrev wsX4_letter : List Cond := kX4_letter :: Gw
abbrev cX4_parse : ByteArray := prog_6_method_55_code
def yX4_parse : MethodName := ⟨RX4, "parse", "(IZI)I"⟩
abbrev kX4_parse : Cond := .code yX4_parse cX4_parse 5 (some .int)
abbrev wsX4_parse : List Cond := kX4_parse :: Gw
abbrev cX4_readNumber : ByteArray := prog_6_method_54_code
def yX4_readNumber : MethodName := ⟨RX4, "readNumber", "(I)V"⟩
abbrev kX4_readNumber : Cond := .code yX4_readNumber cX4_readNumber 3 none
abbrev wsX4_readNumber : List Cond := kX4_readNumber :: Gw
abbrev cX4_sees : ByteArray := prog_6_method_46_code
def yX4_sees : MethodName := ⟨RX4, "sees", "(I)Z"⟩
abbrev kX4_sees : Cond := .code yX4_sees cX4_sees 2 (some .boolean)
abbrev wsX4_sees : List Cond := kX4_sees :: Gw
abbrev cX4_readBody : ByteArray := prog_6_method_53_code
def yX4_readBody : MethodName := ⟨RX4, "readBody", "(Z)V"⟩
abbrev kX4_readBody : Cond := .code yX4_readBody cX4_readBody 3 none
abbrev wsX4_readBody : List Cond := kX4_readBody :: Gw
abbrev cX4_need : ByteArray := prog_6_method_51_code
def yX4_need : MethodName := ⟨RX4, "need", "(II)V"⟩
abbrev kX4_need : Cond := .code yX4_need cX4_need 3 none
abbrev wsX4_need : List Cond := kX4_need :: Gw
abbrev cX4_digitsUpTo : ByteArray := prog_6_method_50_code
def yX4_digitsUpTo : MethodName := ⟨RX4, "digitsUpTo", "(I)I"⟩
abbrev kX4_digitsUpTo : Cond := .code yX4_digitsUpTo cX4_digitsUpTo 3 (some .int)
abbrev wsX4_digitsUpTo : List Cond := kX4_digitsUpTo :: Gw
abbrev cX4_seesDigit : ByteArray := prog_6_method_47_code
def yX4_seesDigit : MethodName := ⟨RX4, "seesDigit", "()Z"⟩
abbrev kX4_seesDigit : Cond := .code yX4_seesDigit cX4_seesDigit 1 (some .boolean)
abbrev wsX4_seesDigit : List Cond := kX4_seesDigit :: Gw
abbrev cX4_fail : ByteArray := prog_6_method_48_code
def yX4_fail : MethodName := ⟨RX4, "fail", "()V"⟩
abbrev kX4_fail : Cond := .code yX4_fail cX4_fail 1 none
abbrev wsX4_fail : List Cond := kX4_fail :: Gw
abbrev cX4_expect : ByteArray := prog_6_method_49_code
def yX4_expect : MethodName := ⟨RX4, "expect", "(I)V"⟩
abbrev kX4_expect : Cond := .code yX4_expect cX4_expect 2 none
abbrev wsX4_expect : List Cond := kX4_expect :: Gw
abbrev cX4_readCode : ByteArray := prog_6_method_52_code
def yX4_readCode : MethodName := ⟨RX4, "readCode", "()V"⟩
abbrev kX4_readCode : Cond := .code yX4_readCode cX4_readCode 3 none
abbrev wsX4_readCode : List Cond := kX4_readCode :: Gw
abbrev cL_law : ByteArray := code
abbrev vwCl : List vw_C := [(RX0, TX0, 5), (RX1, TX1, 4), (RX2, TX2, 4), (RX3, TX3, 9), (RX4, TX4, 27)]
theorem inL : Cond.initialized RL ∈ Gw := gw_of 37 (by decide +kernel) rfl
theorem inX3 : Cond.initialized RX3 ∈ Gw := gw_of 38 (by decide +kernel) rfl
theorem inJ9 : Cond.initialized RJ9 ∈ Gw := gw_of 39 (by decide +kernel) rfl
theorem inX0 : Cond.initialized RX0 ∈ Gw := gw_of 40 (by decide +kernel) rfl
theorem inX2 : Cond.initialized RX2 ∈ Gw := gw_of 41 (by decide +kernel) rfl
theorem inX1 : Cond.initialized RX1 ∈ Gw := gw_of 42 (by decide +kernel) rfl
theorem inX4 : Cond.initialized RX4 ∈ Gw := gw_of 43 (by decide +kernel) rfl
theorem inJ7 : Cond.initialized RJ7 ∈ Gw := gw_of 44 (by decide +kernel) rfl
theorem inJ6 : Cond.initialized RJ6 ∈ Gw := gw_of 45 (by decide +kernel) rfl
theorem inJ10 : Cond.initialized RJ10 ∈ Gw := gw_of 46 (by decide +kernel) rfl
theorem clL_7 : Cond.classLink RL 7 RX3 ∈ Gw := gw_of 47 (by decide +kernel) rfl
theorem isX3 : Cond.instantiable RX3 9 ∈ Gw := gw_of 48 (by decide +kernel) rfl
theorem mlL_15 : Cond.methodLink RL 15 yX3_init ∈ Gw := gw_of 49 (by decide +kernel) rfl
theorem imX3_init : Cond.instanceMethod yX3_init ∈ Gw := gw_of 50 (by decide +kernel) rfl
theorem cdX3_init : kX3_init ∈ Gw := gw_of 51 (by decide +kernel) rfl
theorem mlX3_3 : Cond.methodLink RX3 3 objectInit ∈ Gw := gw_of 52 (by decide +kernel) rfl
theorem mlX3_9 : Cond.methodLink RX3 9 yJ9_min ∈ Gw := gw_of 55 (by decide +kernel) rfl
theorem smJ9_min : Cond.static yJ9_min ∈ Gw := gw_of 56 (by decide +kernel) rfl
theorem cdJ9_min : kJ9_min ∈ Gw := gw_of 57 (by decide +kernel) rfl
theorem mlX3_15 : Cond.methodLink RX3 15 yJ9_max ∈ Gw := gw_of 58 (by decide +kernel) rfl
theorem smJ9_max : Cond.static yJ9_max ∈ Gw := gw_of 59 (by decide +kernel) rfl
theorem cdJ9_max : kJ9_max ∈ Gw := gw_of 60 (by decide +kernel) rfl
theorem clX3_28 : Cond.classLink RX3 28 RX0 ∈ Gw := gw_of 61 (by decide +kernel) rfl
theorem isX0 : Cond.instantiable RX0 5 ∈ Gw := gw_of 63 (by decide +kernel) rfl
theorem imX0_init : Cond.instanceMethod yX0_init ∈ Gw := gw_of 65 (by decide +kernel) rfl
theorem cdX0_init : kX0_init ∈ Gw := gw_of 66 (by decide +kernel) rfl
theorem mlX0_3 : Cond.methodLink RX0 3 objectInit ∈ Gw := gw_of 67 (by decide +kernel) rfl
theorem flX0_9 : Cond.fieldLink RX0 9 "TwofoldAmounts$Amount" "row" "[I" ∈ Gw := gw_of 68 (by decide +kernel) rfl
theorem flX3_83 : Cond.fieldLink RX3 83 "TwofoldAmounts$Amount" "row" "[I" ∈ Gw := gw_of 69 (by decide +kernel) rfl
theorem flX0_32 : Cond.fieldLink RX0 32 "TwofoldAmounts$Amount" "held" "Z" ∈ Gw := gw_of 70 (by decide +kernel) rfl
theorem flX3_79 : Cond.fieldLink RX3 79 "TwofoldAmounts$Amount" "held" "Z" ∈ Gw := gw_of 71 (by decide +kernel) rfl
theorem flX0_15 : Cond.fieldLink RX0 15 "TwofoldAmounts$Amount" "wide" "Z" ∈ Gw := gw_of 72 (by decide +kernel) rfl
theorem flX3_97 : Cond.fieldLink RX3 97 "TwofoldAmounts$Amount" "wide" "Z" ∈ Gw := gw_of 73 (by decide +kernel) rfl
theorem flX0_42 : Cond.fieldLink RX0 42 "TwofoldAmounts$Amount" "negative" "Z" ∈ Gw := gw_of 74 (by decide +kernel) rfl
theorem flX3_86 : Cond.fieldLink RX3 86 "TwofoldAmounts$Amount" "negative" "Z" ∈ Gw := gw_of 75 (by decide +kernel) rfl
theorem flX0_19 : Cond.fieldLink RX0 19 "TwofoldAmounts$Amount" "currency" "I" ∈ Gw := gw_of 76 (by decide +kernel) rfl
theorem flX3_100 : Cond.fieldLink RX3 100 "TwofoldAmounts$Amount" "currency" "I" ∈ Gw := gw_of 77 (by decide +kernel) rfl
theorem clX3_43 : Cond.classLink RX3 43 RX2 ∈ Gw := gw_of 90 (by decide +kernel) rfl
theorem isX2 : Cond.instantiable RX2 4 ∈ Gw := gw_of 91 (by decide +kernel) rfl
theorem imX2_init : Cond.instanceMethod yX2_init ∈ Gw := gw_of 93 (by decide +kernel) rfl
theorem cdX2_init : kX2_init ∈ Gw := gw_of 94 (by decide +kernel) rfl
theorem mlX2_3 : Cond.methodLink RX2 3 objectInit ∈ Gw := gw_of 95 (by decide +kernel) rfl
theorem flX2_9 : Cond.fieldLink RX2 9 "TwofoldAmounts$Work" "row" "[I" ∈ Gw := gw_of 96 (by decide +kernel) rfl
theorem flX0_23 : Cond.fieldLink RX0 23 "TwofoldAmounts$Work" "row" "[I" ∈ Gw := gw_of 97 (by decide +kernel) rfl
theorem flX3_133 : Cond.fieldLink RX3 133 "TwofoldAmounts$Work" "row" "[I" ∈ Gw := gw_of 98 (by decide +kernel) rfl
theorem flX2_15 : Cond.fieldLink RX2 15 "TwofoldAmounts$Work" "factor" "[I" ∈ Gw := gw_of 99 (by decide +kernel) rfl
theorem flX2_24 : Cond.fieldLink RX2 24 "TwofoldAmounts$Work" "negative" "Z" ∈ Gw := gw_of 100 (by decide +kernel) rfl
theorem flX0_35 : Cond.fieldLink RX0 35 "TwofoldAmounts$Work" "negative" "Z" ∈ Gw := gw_of 101 (by decide +kernel) rfl
theorem flX3_205 : Cond.fieldLink RX3 205 "TwofoldAmounts$Work" "negative" "Z" ∈ Gw := gw_of 102 (by decide +kernel) rfl
theorem flX2_28 : Cond.fieldLink RX2 28 "TwofoldAmounts$Work" "goesOn" "Z" ∈ Gw := gw_of 103 (by decide +kernel) rfl
theorem clX3_53 : Cond.classLink RX3 53 RX1 ∈ Gw := gw_of 114 (by decide +kernel) rfl
theorem isX1 : Cond.instantiable RX1 4 ∈ Gw := gw_of 115 (by decide +kernel) rfl
theorem imX1_init : Cond.instanceMethod yX1_init ∈ Gw := gw_of 117 (by decide +kernel) rfl
theorem cdX1_init : kX1_init ∈ Gw := gw_of 118 (by decide +kernel) rfl
theorem mlX1_3 : Cond.methodLink RX1 3 objectInit ∈ Gw := gw_of 119 (by decide +kernel) rfl
theorem flX1_9 : Cond.fieldLink RX1 9 "TwofoldAmounts$Text" "letters" "[I" ∈ Gw := gw_of 120 (by decide +kernel) rfl
theorem flX3_175 : Cond.fieldLink RX3 175 "TwofoldAmounts$Text" "letters" "[I" ∈ Gw := gw_of 121 (by decide +kernel) rfl
theorem flX1_15 : Cond.fieldLink RX1 15 "TwofoldAmounts$Text" "size" "I" ∈ Gw := gw_of 122 (by decide +kernel) rfl
theorem flX3_162 : Cond.fieldLink RX3 162 "TwofoldAmounts$Text" "size" "I" ∈ Gw := gw_of 123 (by decide +kernel) rfl
theorem flX1_23 : Cond.fieldLink RX1 23 "TwofoldAmounts$Text" "at" "I" ∈ Gw := gw_of 124 (by decide +kernel) rfl
theorem flX3_178 : Cond.fieldLink RX3 178 "TwofoldAmounts$Text" "at" "I" ∈ Gw := gw_of 125 (by decide +kernel) rfl
theorem flX1_26 : Cond.fieldLink RX1 26 "TwofoldAmounts$Text" "currency" "I" ∈ Gw := gw_of 126 (by decide +kernel) rfl
theorem flX3_187 : Cond.fieldLink RX3 187 "TwofoldAmounts$Text" "currency" "I" ∈ Gw := gw_of 127 (by decide +kernel) rfl
theorem flX3_18 : Cond.fieldLink RX3 18 "TwofoldAmounts" "contextPrecision" "I" ∈ Gw := gw_of 137 (by decide +kernel) rfl
theorem flX3_22 : Cond.fieldLink RX3 22 "TwofoldAmounts" "contextScale" "I" ∈ Gw := gw_of 138 (by decide +kernel) rfl
theorem flX3_25 : Cond.fieldLink RX3 25 "TwofoldAmounts" "contextMode" "I" ∈ Gw := gw_of 139 (by decide +kernel) rfl
theorem flX3_30 : Cond.fieldLink RX3 30 "TwofoldAmounts" "amounts" "[LTwofoldAmounts$Amount;" ∈ Gw := gw_of 140 (by decide +kernel) rfl
theorem flX3_35 : Cond.fieldLink RX3 35 "TwofoldAmounts" "ratios" "[I" ∈ Gw := gw_of 141 (by decide +kernel) rfl
theorem flX3_39 : Cond.fieldLink RX3 39 "TwofoldAmounts" "remainders" "[J" ∈ Gw := gw_of 142 (by decide +kernel) rfl
theorem flX3_46 : Cond.fieldLink RX3 46 "TwofoldAmounts" "work" "LTwofoldAmounts$Work;" ∈ Gw := gw_of 143 (by decide +kernel) rfl
theorem flX3_50 : Cond.fieldLink RX3 50 "TwofoldAmounts" "share" "LTwofoldAmounts$Work;" ∈ Gw := gw_of 144 (by decide +kernel) rfl
theorem flX3_56 : Cond.fieldLink RX3 56 "TwofoldAmounts" "text" "LTwofoldAmounts$Text;" ∈ Gw := gw_of 145 (by decide +kernel) rfl
theorem mlL_23 : Cond.methodLink RL 23 yX3_set ∈ Gw := gw_of 165 (by decide +kernel) rfl
theorem imX3_set : Cond.instanceMethod yX3_set ∈ Gw := gw_of 166 (by decide +kernel) rfl
theorem seX3_set : Cond.selects RX3 yX3_set yX3_set ∈ Gw := gw_of 167 (by decide +kernel) rfl
theorem cdX3_set : kX3_set ∈ Gw := gw_of 168 (by decide +kernel) rfl
theorem mlX3_60 : Cond.methodLink RX3 60 yX3_isRegister ∈ Gw := gw_of 169 (by decide +kernel) rfl
theorem smX3_isRegister : Cond.static yX3_isRegister ∈ Gw := gw_of 170 (by decide +kernel) rfl
theorem cdX3_isRegister : kX3_isRegister ∈ Gw := gw_of 171 (by decide +kernel) rfl
theorem mlX3_64 : Cond.methodLink RX3 64 yX3_isPower ∈ Gw := gw_of 172 (by decide +kernel) rfl
theorem smX3_isPower : Cond.static yX3_isPower ∈ Gw := gw_of 173 (by decide +kernel) rfl
theorem cdX3_isPower : kX3_isPower ∈ Gw := gw_of 174 (by decide +kernel) rfl
theorem mlX3_67 : Cond.methodLink RX3 67 yX2_loadNumber ∈ Gw := gw_of 175 (by decide +kernel) rfl
theorem imX2_loadNumber : Cond.instanceMethod yX2_loadNumber ∈ Gw := gw_of 176 (by decide +kernel) rfl
theorem seX2_loadNumber : Cond.selects RX2 yX2_loadNumber yX2_loadNumber ∈ Gw := gw_of 177 (by decide +kernel) rfl
theorem cdX2_loadNumber : kX2_loadNumber ∈ Gw := gw_of 178 (by decide +kernel) rfl
theorem mlX2_31 : Cond.methodLink RX2 31 yX2_clear ∈ Gw := gw_of 179 (by decide +kernel) rfl
theorem imX2_clear : Cond.instanceMethod yX2_clear ∈ Gw := gw_of 180 (by decide +kernel) rfl
theorem seX2_clear : Cond.selects RX2 yX2_clear yX2_clear ∈ Gw := gw_of 181 (by decide +kernel) rfl
theorem cdX2_clear : kX2_clear ∈ Gw := gw_of 182 (by decide +kernel) rfl
theorem mlX2_18 : Cond.methodLink RX2 18 yJ7_fill ∈ Gw := gw_of 183 (by decide +kernel) rfl
theorem smJ7_fill : Cond.static yJ7_fill ∈ Gw := gw_of 184 (by decide +kernel) rfl
theorem cdJ7_fill : kJ7_fill ∈ Gw := gw_of 185 (by decide +kernel) rfl
theorem mlX2_40 : Cond.methodLink RX2 40 yX2_spell ∈ Gw := gw_of 186 (by decide +kernel) rfl
theorem smX2_spell : Cond.static yX2_spell ∈ Gw := gw_of 187 (by decide +kernel) rfl
theorem cdX2_spell : kX2_spell ∈ Gw := gw_of 188 (by decide +kernel) rfl
theorem kcX2_44 : Cond.constantLong RX2 44 (10 : Int64) ∈ Gw := gw_of 189 (by decide +kernel) rfl
theorem mlX2_46 : Cond.methodLink RX2 46 yJ9_abs ∈ Gw := gw_of 190 (by decide +kernel) rfl
theorem smJ9_abs : Cond.static yJ9_abs ∈ Gw := gw_of 191 (by decide +kernel) rfl
theorem cdJ9_abs : kJ9_abs ∈ Gw := gw_of 192 (by decide +kernel) rfl
theorem mlX3_71 : Cond.methodLink RX3 71 yX3_keep ∈ Gw := gw_of 193 (by decide +kernel) rfl
theorem imX3_keep : Cond.instanceMethod yX3_keep ∈ Gw := gw_of 195 (by decide +kernel) rfl
theorem cdX3_keep : kX3_keep ∈ Gw := gw_of 196 (by decide +kernel) rfl
theorem mlX3_195 : Cond.methodLink RX3 195 yX2_size ∈ Gw := gw_of 197 (by decide +kernel) rfl
theorem imX2_size : Cond.instanceMethod yX2_size ∈ Gw := gw_of 198 (by decide +kernel) rfl
theorem seX2_size : Cond.selects RX2 yX2_size yX2_size ∈ Gw := gw_of 199 (by decide +kernel) rfl
theorem cdX2_size : kX2_size ∈ Gw := gw_of 200 (by decide +kernel) rfl
theorem mlX3_117 : Cond.methodLink RX3 117 yX2_toMultiple ∈ Gw := gw_of 201 (by decide +kernel) rfl
theorem imX2_toMultiple : Cond.instanceMethod yX2_toMultiple ∈ Gw := gw_of 202 (by decide +kernel) rfl
theorem seX2_toMultiple : Cond.selects RX2 yX2_toMultiple yX2_toMultiple ∈ Gw := gw_of 203 (by decide +kernel) rfl
theorem cdX2_toMultiple : kX2_toMultiple ∈ Gw := gw_of 204 (by decide +kernel) rfl
theorem smX3_isZero : Cond.static yX3_isZero ∈ Gw := gw_of 206 (by decide +kernel) rfl
theorem cdX3_isZero : kX3_isZero ∈ Gw := gw_of 207 (by decide +kernel) rfl
theorem mlX2_72 : Cond.methodLink RX2 72 yJ6_compare ∈ Gw := gw_of 208 (by decide +kernel) rfl
theorem smJ6_compare : Cond.static yJ6_compare ∈ Gw := gw_of 209 (by decide +kernel) rfl
theorem cdJ6_compare : kJ6_compare ∈ Gw := gw_of 210 (by decide +kernel) rfl
theorem mlX2_77 : Cond.methodLink RX2 77 yX2_goesAway ∈ Gw := gw_of 211 (by decide +kernel) rfl
theorem imX2_goesAway : Cond.instanceMethod yX2_goesAway ∈ Gw := gw_of 213 (by decide +kernel) rfl
theorem cdX2_goesAway : kX2_goesAway ∈ Gw := gw_of 214 (by decide +kernel) rfl
theorem mlX2_81 : Cond.methodLink RX2 81 yX2_increase ∈ Gw := gw_of 215 (by decide +kernel) rfl
theorem imX2_increase : Cond.instanceMethod yX2_increase ∈ Gw := gw_of 216 (by decide +kernel) rfl
theorem seX2_increase : Cond.selects RX2 yX2_increase yX2_increase ∈ Gw := gw_of 217 (by decide +kernel) rfl
theorem cdX2_increase : kX2_increase ∈ Gw := gw_of 218 (by decide +kernel) rfl
theorem mlX2_59 : Cond.methodLink RX2 59 yX2_carry ∈ Gw := gw_of 219 (by decide +kernel) rfl
theorem imX2_carry : Cond.instanceMethod yX2_carry ∈ Gw := gw_of 220 (by decide +kernel) rfl
theorem seX2_carry : Cond.selects RX2 yX2_carry yX2_carry ∈ Gw := gw_of 221 (by decide +kernel) rfl
theorem cdX2_carry : kX2_carry ∈ Gw := gw_of 222 (by decide +kernel) rfl
theorem mlX2_52 : Cond.methodLink RX2 52 yJ9_floorMod ∈ Gw := gw_of 223 (by decide +kernel) rfl
theorem smJ9_floorMod : Cond.static yJ9_floorMod ∈ Gw := gw_of 224 (by decide +kernel) rfl
theorem cdJ9_floorMod : kJ9_floorMod ∈ Gw := gw_of 225 (by decide +kernel) rfl
theorem mlX2_56 : Cond.methodLink RX2 56 yJ9_floorDiv ∈ Gw := gw_of 226 (by decide +kernel) rfl
theorem smJ9_floorDiv : Cond.static yJ9_floorDiv ∈ Gw := gw_of 227 (by decide +kernel) rfl
theorem cdJ9_floorDiv : kJ9_floorDiv ∈ Gw := gw_of 228 (by decide +kernel) rfl
theorem mlX3_107 : Cond.methodLink RX3 107 yX3_store ∈ Gw := gw_of 229 (by decide +kernel) rfl
theorem imX3_store : Cond.instanceMethod yX3_store ∈ Gw := gw_of 231 (by decide +kernel) rfl
theorem cdX3_store : kX3_store ∈ Gw := gw_of 232 (by decide +kernel) rfl
theorem mlX3_198 : Cond.methodLink RX3 198 yX2_fitsWide ∈ Gw := gw_of 233 (by decide +kernel) rfl
theorem imX2_fitsWide : Cond.instanceMethod yX2_fitsWide ∈ Gw := gw_of 234 (by decide +kernel) rfl
theorem seX2_fitsWide : Cond.selects RX2 yX2_fitsWide yX2_fitsWide ∈ Gw := gw_of 235 (by decide +kernel) rfl
theorem cdX2_fitsWide : kX2_fitsWide ∈ Gw := gw_of 236 (by decide +kernel) rfl
theorem mlX3_202 : Cond.methodLink RX3 202 yX2_fitsFast ∈ Gw := gw_of 237 (by decide +kernel) rfl
theorem imX2_fitsFast : Cond.instanceMethod yX2_fitsFast ∈ Gw := gw_of 238 (by decide +kernel) rfl
theorem seX2_fitsFast : Cond.selects RX2 yX2_fitsFast yX2_fitsFast ∈ Gw := gw_of 239 (by decide +kernel) rfl
theorem cdX2_fitsFast : kX2_fitsFast ∈ Gw := gw_of 240 (by decide +kernel) rfl
theorem smX3_asLong : Cond.static yX3_asLong ∈ Gw := gw_of 242 (by decide +kernel) rfl
theorem cdX3_asLong : kX3_asLong ∈ Gw := gw_of 243 (by decide +kernel) rfl
theorem kcX3_232 : Cond.constantLong RX3 232 (10 : Int64) ∈ Gw := gw_of 244 (by decide +kernel) rfl
theorem kcX2_89 : Cond.constantLong RX2 89 (-9223372036854775808 : Int64) ∈ Gw := gw_of 245 (by decide +kernel) rfl
theorem mlX3_138 : Cond.methodLink RX3 138 yX0_take ∈ Gw := gw_of 246 (by decide +kernel) rfl
theorem imX0_take : Cond.instanceMethod yX0_take ∈ Gw := gw_of 247 (by decide +kernel) rfl
theorem seX0_take : Cond.selects RX0 yX0_take yX0_take ∈ Gw := gw_of 248 (by decide +kernel) rfl
theorem cdX0_take : kX0_take ∈ Gw := gw_of 249 (by decide +kernel) rfl
theorem mlX0_26 : Cond.methodLink RX0 26 arraycopyName ∈ Gw := gw_of 250 (by decide +kernel) rfl
theorem mlL_28 : Cond.methodLink RL 28 yX3_add ∈ Gw := gw_of 254 (by decide +kernel) rfl
theorem imX3_add : Cond.instanceMethod yX3_add ∈ Gw := gw_of 255 (by decide +kernel) rfl
theorem seX3_add : Cond.selects RX3 yX3_add yX3_add ∈ Gw := gw_of 256 (by decide +kernel) rfl
theorem cdX3_add : kX3_add ∈ Gw := gw_of 257 (by decide +kernel) rfl
theorem mlX3_75 : Cond.methodLink RX3 75 yX3_combine ∈ Gw := gw_of 258 (by decide +kernel) rfl
theorem imX3_combine : Cond.instanceMethod yX3_combine ∈ Gw := gw_of 260 (by decide +kernel) rfl
theorem cdX3_combine : kX3_combine ∈ Gw := gw_of 261 (by decide +kernel) rfl
theorem mlX3_142 : Cond.methodLink RX3 142 yX0_isLike ∈ Gw := gw_of 262 (by decide +kernel) rfl
theorem imX0_isLike : Cond.instanceMethod yX0_isLike ∈ Gw := gw_of 263 (by decide +kernel) rfl
theorem seX0_isLike : Cond.selects RX0 yX0_isLike yX0_isLike ∈ Gw := gw_of 264 (by decide +kernel) rfl
theorem cdX0_isLike : kX0_isLike ∈ Gw := gw_of 265 (by decide +kernel) rfl
theorem mlX3_89 : Cond.methodLink RX3 89 yX2_load ∈ Gw := gw_of 266 (by decide +kernel) rfl
theorem imX2_load : Cond.instanceMethod yX2_load ∈ Gw := gw_of 267 (by decide +kernel) rfl
theorem seX2_load : Cond.selects RX2 yX2_load yX2_load ∈ Gw := gw_of 268 (by decide +kernel) rfl
theorem cdX2_load : kX2_load ∈ Gw := gw_of 269 (by decide +kernel) rfl
theorem mlX2_34 : Cond.methodLink RX2 34 arraycopyName ∈ Gw := gw_of 270 (by decide +kernel) rfl
theorem mlX3_191 : Cond.methodLink RX3 191 yX2_join ∈ Gw := gw_of 271 (by decide +kernel) rfl
theorem imX2_join : Cond.instanceMethod yX2_join ∈ Gw := gw_of 272 (by decide +kernel) rfl
theorem seX2_join : Cond.selects RX2 yX2_join yX2_join ∈ Gw := gw_of 273 (by decide +kernel) rfl
theorem cdX2_join : kX2_join ∈ Gw := gw_of 274 (by decide +kernel) rfl
theorem mlX3_146 : Cond.methodLink RX3 146 yX3_compareRows ∈ Gw := gw_of 275 (by decide +kernel) rfl
theorem smX3_compareRows : Cond.static yX3_compareRows ∈ Gw := gw_of 276 (by decide +kernel) rfl
theorem cdX3_compareRows : kX3_compareRows ∈ Gw := gw_of 277 (by decide +kernel) rfl
theorem mlL_33 : Cond.methodLink RL 33 yX3_subtract ∈ Gw := gw_of 278 (by decide +kernel) rfl
theorem imX3_subtract : Cond.instanceMethod yX3_subtract ∈ Gw := gw_of 279 (by decide +kernel) rfl
theorem seX3_subtract : Cond.selects RX3 yX3_subtract yX3_subtract ∈ Gw := gw_of 280 (by decide +kernel) rfl
theorem cdX3_subtract : kX3_subtract ∈ Gw := gw_of 281 (by decide +kernel) rfl
theorem mlL_37 : Cond.methodLink RL 37 yX3_multiply ∈ Gw := gw_of 282 (by decide +kernel) rfl
theorem imX3_multiply : Cond.instanceMethod yX3_multiply ∈ Gw := gw_of 283 (by decide +kernel) rfl
theorem seX3_multiply : Cond.selects RX3 yX3_multiply yX3_multiply ∈ Gw := gw_of 284 (by decide +kernel) rfl
theorem cdX3_multiply : kX3_multiply ∈ Gw := gw_of 285 (by decide +kernel) rfl
theorem mlX3_93 : Cond.methodLink RX3 93 yX2_times ∈ Gw := gw_of 286 (by decide +kernel) rfl
theorem imX2_times : Cond.instanceMethod yX2_times ∈ Gw := gw_of 287 (by decide +kernel) rfl
theorem seX2_times : Cond.selects RX2 yX2_times yX2_times ∈ Gw := gw_of 288 (by decide +kernel) rfl
theorem cdX2_times : kX2_times ∈ Gw := gw_of 289 (by decide +kernel) rfl
theorem mlX2_62 : Cond.methodLink RX2 62 yX2_size ∈ Gw := gw_of 290 (by decide +kernel) rfl
theorem mlL_42 : Cond.methodLink RL 42 yX3_divide ∈ Gw := gw_of 291 (by decide +kernel) rfl
theorem imX3_divide : Cond.instanceMethod yX3_divide ∈ Gw := gw_of 292 (by decide +kernel) rfl
theorem seX3_divide : Cond.selects RX3 yX3_divide yX3_divide ∈ Gw := gw_of 293 (by decide +kernel) rfl
theorem cdX3_divide : kX3_divide ∈ Gw := gw_of 294 (by decide +kernel) rfl
theorem mlX3_103 : Cond.methodLink RX3 103 yX2_over ∈ Gw := gw_of 295 (by decide +kernel) rfl
theorem imX2_over : Cond.instanceMethod yX2_over ∈ Gw := gw_of 296 (by decide +kernel) rfl
theorem seX2_over : Cond.selects RX2 yX2_over yX2_over ∈ Gw := gw_of 297 (by decide +kernel) rfl
theorem cdX2_over : kX2_over ∈ Gw := gw_of 298 (by decide +kernel) rfl
theorem kcX2_66 : Cond.constantLong RX2 66 (-1 : Int64) ∈ Gw := gw_of 299 (by decide +kernel) rfl
theorem mlL_46 : Cond.methodLink RL 46 yX3_negate ∈ Gw := gw_of 300 (by decide +kernel) rfl
theorem imX3_negate : Cond.instanceMethod yX3_negate ∈ Gw := gw_of 301 (by decide +kernel) rfl
theorem seX3_negate : Cond.selects RX3 yX3_negate yX3_negate ∈ Gw := gw_of 302 (by decide +kernel) rfl
theorem cdX3_negate : kX3_negate ∈ Gw := gw_of 303 (by decide +kernel) rfl
theorem mlL_51 : Cond.methodLink RL 51 yX3_round ∈ Gw := gw_of 304 (by decide +kernel) rfl
theorem imX3_round : Cond.instanceMethod yX3_round ∈ Gw := gw_of 305 (by decide +kernel) rfl
theorem seX3_round : Cond.selects RX3 yX3_round yX3_round ∈ Gw := gw_of 306 (by decide +kernel) rfl
theorem cdX3_round : kX3_round ∈ Gw := gw_of 307 (by decide +kernel) rfl
theorem flX3_110 : Cond.fieldLink RX3 110 "TwofoldAmounts" "CASH_UNITS" "[I" ∈ Gw := gw_of 308 (by decide +kernel) rfl
theorem mlX3_113 : Cond.methodLink RX3 113 yX3_unitPlace ∈ Gw := gw_of 310 (by decide +kernel) rfl
theorem smX3_unitPlace : Cond.static yX3_unitPlace ∈ Gw := gw_of 311 (by decide +kernel) rfl
theorem cdX3_unitPlace : kX3_unitPlace ∈ Gw := gw_of 312 (by decide +kernel) rfl
theorem flX3_188 : Cond.fieldLink RX3 188 "TwofoldAmounts" "UNIT_DIGITS" "[I" ∈ Gw := gw_of 313 (by decide +kernel) rfl
theorem mlL_56 : Cond.methodLink RL 56 yX3_ratio ∈ Gw := gw_of 315 (by decide +kernel) rfl
theorem imX3_ratio : Cond.instanceMethod yX3_ratio ∈ Gw := gw_of 316 (by decide +kernel) rfl
theorem seX3_ratio : Cond.selects RX3 yX3_ratio yX3_ratio ∈ Gw := gw_of 317 (by decide +kernel) rfl
theorem cdX3_ratio : kX3_ratio ∈ Gw := gw_of 318 (by decide +kernel) rfl
theorem kcX3_121 : Cond.constant RX3 121 (1000000 : Int32) ∈ Gw := gw_of 319 (by decide +kernel) rfl
theorem mlL_61 : Cond.methodLink RL 61 yX3_allocate ∈ Gw := gw_of 320 (by decide +kernel) rfl
theorem imX3_allocate : Cond.instanceMethod yX3_allocate ∈ Gw := gw_of 321 (by decide +kernel) rfl
theorem seX3_allocate : Cond.selects RX3 yX3_allocate yX3_allocate ∈ Gw := gw_of 322 (by decide +kernel) rfl
theorem cdX3_allocate : kX3_allocate ∈ Gw := gw_of 323 (by decide +kernel) rfl
theorem mlX3_122 : Cond.methodLink RX3 122 yX3_sumOfRatios ∈ Gw := gw_of 324 (by decide +kernel) rfl
theorem imX3_sumOfRatios : Cond.instanceMethod yX3_sumOfRatios ∈ Gw := gw_of 326 (by decide +kernel) rfl
theorem cdX3_sumOfRatios : kX3_sumOfRatios ∈ Gw := gw_of 327 (by decide +kernel) rfl
theorem mlX3_126 : Cond.methodLink RX3 126 yX3_splitRest ∈ Gw := gw_of 328 (by decide +kernel) rfl
theorem imX3_splitRest : Cond.instanceMethod yX3_splitRest ∈ Gw := gw_of 330 (by decide +kernel) rfl
theorem cdX3_splitRest : kX3_splitRest ∈ Gw := gw_of 331 (by decide +kernel) rfl
theorem mlX3_130 : Cond.methodLink RX3 130 yX3_rankOf ∈ Gw := gw_of 332 (by decide +kernel) rfl
theorem imX3_rankOf : Cond.instanceMethod yX3_rankOf ∈ Gw := gw_of 334 (by decide +kernel) rfl
theorem cdX3_rankOf : kX3_rankOf ∈ Gw := gw_of 335 (by decide +kernel) rfl
theorem mlX3_134 : Cond.methodLink RX3 134 yX2_increase ∈ Gw := gw_of 336 (by decide +kernel) rfl
theorem mlL_65 : Cond.methodLink RL 65 yX3_compare ∈ Gw := gw_of 337 (by decide +kernel) rfl
theorem imX3_compare : Cond.instanceMethod yX3_compare ∈ Gw := gw_of 338 (by decide +kernel) rfl
theorem seX3_compare : Cond.selects RX3 yX3_compare yX3_compare ∈ Gw := gw_of 339 (by decide +kernel) rfl
theorem cdX3_compare : kX3_compare ∈ Gw := gw_of 340 (by decide +kernel) rfl
theorem mlL_69 : Cond.methodLink RL 69 yX3_sign ∈ Gw := gw_of 341 (by decide +kernel) rfl
theorem imX3_sign : Cond.instanceMethod yX3_sign ∈ Gw := gw_of 342 (by decide +kernel) rfl
theorem seX3_sign : Cond.selects RX3 yX3_sign yX3_sign ∈ Gw := gw_of 343 (by decide +kernel) rfl
theorem cdX3_sign : kX3_sign ∈ Gw := gw_of 344 (by decide +kernel) rfl
theorem mlX3_150 : Cond.methodLink RX3 150 yX3_isZero ∈ Gw := gw_of 345 (by decide +kernel) rfl
theorem mlL_74 : Cond.methodLink RL 74 yX3_kind ∈ Gw := gw_of 346 (by decide +kernel) rfl
theorem imX3_kind : Cond.instanceMethod yX3_kind ∈ Gw := gw_of 347 (by decide +kernel) rfl
theorem seX3_kind : Cond.selects RX3 yX3_kind yX3_kind ∈ Gw := gw_of 348 (by decide +kernel) rfl
theorem cdX3_kind : kX3_kind ∈ Gw := gw_of 349 (by decide +kernel) rfl
theorem mlL_78 : Cond.methodLink RL 78 yX3_digits ∈ Gw := gw_of 350 (by decide +kernel) rfl
theorem imX3_digits : Cond.instanceMethod yX3_digits ∈ Gw := gw_of 351 (by decide +kernel) rfl
theorem seX3_digits : Cond.selects RX3 yX3_digits yX3_digits ∈ Gw := gw_of 352 (by decide +kernel) rfl
theorem cdX3_digits : kX3_digits ∈ Gw := gw_of 353 (by decide +kernel) rfl
theorem kcX3_154 : Cond.constantLong RX3 154 (-15 : Int64) ∈ Gw := gw_of 354 (by decide +kernel) rfl
theorem kcX3_156 : Cond.constantLong RX3 156 (-11 : Int64) ∈ Gw := gw_of 355 (by decide +kernel) rfl
theorem mlX3_158 : Cond.methodLink RX3 158 yX3_asLong ∈ Gw := gw_of 356 (by decide +kernel) rfl
theorem mlL_83 : Cond.methodLink RL 83 yX3_discard ∈ Gw := gw_of 357 (by decide +kernel) rfl
theorem imX3_discard : Cond.instanceMethod yX3_discard ∈ Gw := gw_of 358 (by decide +kernel) rfl
theorem seX3_discard : Cond.selects RX3 yX3_discard yX3_discard ∈ Gw := gw_of 359 (by decide +kernel) rfl
theorem cdX3_discard : kX3_discard ∈ Gw := gw_of 360 (by decide +kernel) rfl
theorem mlL_88 : Cond.methodLink RL 88 yX3_format ∈ Gw := gw_of 361 (by decide +kernel) rfl
theorem imX3_format : Cond.instanceMethod yX3_format ∈ Gw := gw_of 362 (by decide +kernel) rfl
theorem seX3_format : Cond.selects RX3 yX3_format yX3_format ∈ Gw := gw_of 363 (by decide +kernel) rfl
theorem cdX3_format : kX3_format ∈ Gw := gw_of 364 (by decide +kernel) rfl
theorem mlX3_165 : Cond.methodLink RX3 165 yX3_writeNumber ∈ Gw := gw_of 365 (by decide +kernel) rfl
theorem imX3_writeNumber : Cond.instanceMethod yX3_writeNumber ∈ Gw := gw_of 367 (by decide +kernel) rfl
theorem cdX3_writeNumber : kX3_writeNumber ∈ Gw := gw_of 368 (by decide +kernel) rfl
theorem mlX3_168 : Cond.methodLink RX3 168 yX1_append ∈ Gw := gw_of 369 (by decide +kernel) rfl
theorem imX1_append : Cond.instanceMethod yX1_append ∈ Gw := gw_of 370 (by decide +kernel) rfl
theorem seX1_append : Cond.selects RX1 yX1_append yX1_append ∈ Gw := gw_of 371 (by decide +kernel) rfl
theorem cdX1_append : kX1_append ∈ Gw := gw_of 372 (by decide +kernel) rfl
theorem mlX3_206 : Cond.methodLink RX3 206 yX3_writeBody ∈ Gw := gw_of 373 (by decide +kernel) rfl
theorem imX3_writeBody : Cond.instanceMethod yX3_writeBody ∈ Gw := gw_of 375 (by decide +kernel) rfl
theorem cdX3_writeBody : kX3_writeBody ∈ Gw := gw_of 376 (by decide +kernel) rfl
theorem mlX3_172 : Cond.methodLink RX3 172 yX1_appendCode ∈ Gw := gw_of 377 (by decide +kernel) rfl
theorem imX1_appendCode : Cond.instanceMethod yX1_appendCode ∈ Gw := gw_of 378 (by decide +kernel) rfl
theorem seX1_appendCode : Cond.selects RX1 yX1_appendCode yX1_appendCode ∈ Gw := gw_of 379 (by decide +kernel) rfl
theorem cdX1_appendCode : kX1_appendCode ∈ Gw := gw_of 380 (by decide +kernel) rfl
theorem mlX1_19 : Cond.methodLink RX1 19 yX1_append ∈ Gw := gw_of 381 (by decide +kernel) rfl
theorem mlL_92 : Cond.methodLink RL 92 yX3_type ∈ Gw := gw_of 382 (by decide +kernel) rfl
theorem imX3_type : Cond.instanceMethod yX3_type ∈ Gw := gw_of 383 (by decide +kernel) rfl
theorem seX3_type : Cond.selects RX3 yX3_type yX3_type ∈ Gw := gw_of 384 (by decide +kernel) rfl
theorem cdX3_type : kX3_type ∈ Gw := gw_of 385 (by decide +kernel) rfl
theorem mlL_96 : Cond.methodLink RL 96 yX3_wipe ∈ Gw := gw_of 386 (by decide +kernel) rfl
theorem imX3_wipe : Cond.instanceMethod yX3_wipe ∈ Gw := gw_of 387 (by decide +kernel) rfl
theorem seX3_wipe : Cond.selects RX3 yX3_wipe yX3_wipe ∈ Gw := gw_of 388 (by decide +kernel) rfl
theorem cdX3_wipe : kX3_wipe ∈ Gw := gw_of 389 (by decide +kernel) rfl
theorem mlL_100 : Cond.methodLink RL 100 yX3_letter ∈ Gw := gw_of 390 (by decide +kernel) rfl
theorem imX3_letter : Cond.instanceMethod yX3_letter ∈ Gw := gw_of 391 (by decide +kernel) rfl
theorem seX3_letter : Cond.selects RX3 yX3_letter yX3_letter ∈ Gw := gw_of 392 (by decide +kernel) rfl
theorem cdX3_letter : kX3_letter ∈ Gw := gw_of 393 (by decide +kernel) rfl
theorem mlL_104 : Cond.methodLink RL 104 yX3_parse ∈ Gw := gw_of 394 (by decide +kernel) rfl
theorem imX3_parse : Cond.instanceMethod yX3_parse ∈ Gw := gw_of 395 (by decide +kernel) rfl
theorem seX3_parse : Cond.selects RX3 yX3_parse yX3_parse ∈ Gw := gw_of 396 (by decide +kernel) rfl
theorem cdX3_parse : kX3_parse ∈ Gw := gw_of 397 (by decide +kernel) rfl
theorem mlX3_181 : Cond.methodLink RX3 181 yX2_clear ∈ Gw := gw_of 398 (by decide +kernel) rfl
theorem mlX3_184 : Cond.methodLink RX3 184 yX3_readStyle ∈ Gw := gw_of 399 (by decide +kernel) rfl
theorem imX3_readStyle : Cond.instanceMethod yX3_readStyle ∈ Gw := gw_of 401 (by decide +kernel) rfl
theorem cdX3_readStyle : kX3_readStyle ∈ Gw := gw_of 402 (by decide +kernel) rfl
theorem mlX3_210 : Cond.methodLink RX3 210 yX3_readNumber ∈ Gw := gw_of 403 (by decide +kernel) rfl
theorem imX3_readNumber : Cond.instanceMethod yX3_readNumber ∈ Gw := gw_of 405 (by decide +kernel) rfl
theorem cdX3_readNumber : kX3_readNumber ∈ Gw := gw_of 406 (by decide +kernel) rfl
theorem mlX3_213 : Cond.methodLink RX3 213 yX1_skip ∈ Gw := gw_of 407 (by decide +kernel) rfl
theorem imX1_skip : Cond.instanceMethod yX1_skip ∈ Gw := gw_of 408 (by decide +kernel) rfl
theorem seX1_skip : Cond.selects RX1 yX1_skip yX1_skip ∈ Gw := gw_of 409 (by decide +kernel) rfl
theorem cdX1_skip : kX1_skip ∈ Gw := gw_of 410 (by decide +kernel) rfl
theorem mlX3_219 : Cond.methodLink RX3 219 yX3_readBody ∈ Gw := gw_of 411 (by decide +kernel) rfl
theorem imX3_readBody : Cond.instanceMethod yX3_readBody ∈ Gw := gw_of 413 (by decide +kernel) rfl
theorem cdX3_readBody : kX3_readBody ∈ Gw := gw_of 414 (by decide +kernel) rfl
theorem mlX3_223 : Cond.methodLink RX3 223 yX1_skipWhole ∈ Gw := gw_of 415 (by decide +kernel) rfl
theorem imX1_skipWhole : Cond.instanceMethod yX1_skipWhole ∈ Gw := gw_of 416 (by decide +kernel) rfl
theorem seX1_skipWhole : Cond.selects RX1 yX1_skipWhole yX1_skipWhole ∈ Gw := gw_of 417 (by decide +kernel) rfl
theorem cdX1_skipWhole : kX1_skipWhole ∈ Gw := gw_of 418 (by decide +kernel) rfl
theorem mlX1_33 : Cond.methodLink RX1 33 yX1_skipDigits ∈ Gw := gw_of 419 (by decide +kernel) rfl
theorem imX1_skipDigits : Cond.instanceMethod yX1_skipDigits ∈ Gw := gw_of 420 (by decide +kernel) rfl
theorem seX1_skipDigits : Cond.selects RX1 yX1_skipDigits yX1_skipDigits ∈ Gw := gw_of 421 (by decide +kernel) rfl
theorem cdX1_skipDigits : kX1_skipDigits ∈ Gw := gw_of 422 (by decide +kernel) rfl
theorem mlX1_29 : Cond.methodLink RX1 29 yX1_skip ∈ Gw := gw_of 423 (by decide +kernel) rfl
theorem mlX3_226 : Cond.methodLink RX3 226 yX3_takeWhole ∈ Gw := gw_of 424 (by decide +kernel) rfl
theorem imX3_takeWhole : Cond.instanceMethod yX3_takeWhole ∈ Gw := gw_of 426 (by decide +kernel) rfl
theorem cdX3_takeWhole : kX3_takeWhole ∈ Gw := gw_of 427 (by decide +kernel) rfl
theorem mlX3_229 : Cond.methodLink RX3 229 yX1_skipDigits ∈ Gw := gw_of 428 (by decide +kernel) rfl
theorem mlX3_216 : Cond.methodLink RX3 216 yX1_skipCode ∈ Gw := gw_of 429 (by decide +kernel) rfl
theorem imX1_skipCode : Cond.instanceMethod yX1_skipCode ∈ Gw := gw_of 430 (by decide +kernel) rfl
theorem seX1_skipCode : Cond.selects RX1 yX1_skipCode yX1_skipCode ∈ Gw := gw_of 431 (by decide +kernel) rfl
theorem cdX1_skipCode : kX1_skipCode ∈ Gw := gw_of 432 (by decide +kernel) rfl
theorem mlL_9 : Cond.methodLink RL 9 yL_cell ∈ Gw := gw_of 433 (by decide +kernel) rfl
theorem smL_cell : Cond.static yL_cell ∈ Gw := gw_of 434 (by decide +kernel) rfl
theorem cdL_cell : kL_cell ∈ Gw := gw_of 435 (by decide +kernel) rfl
theorem clL_18 : Cond.classLink RL 18 RX4 ∈ Gw := gw_of 436 (by decide +kernel) rfl
theorem isX4 : Cond.instantiable RX4 27 ∈ Gw := gw_of 437 (by decide +kernel) rfl
theorem mlL_20 : Cond.methodLink RL 20 yX4_init ∈ Gw := gw_of 438 (by decide +kernel) rfl
theorem imX4_init : Cond.instanceMethod yX4_init ∈ Gw := gw_of 439 (by decide +kernel) rfl
theorem cdX4_init : kX4_init ∈ Gw := gw_of 440 (by decide +kernel) rfl
theorem mlX4_1 : Cond.methodLink RX4 1 objectInit ∈ Gw := gw_of 441 (by decide +kernel) rfl
theorem flX4_62 : Cond.fieldLink RX4 62 "TwofoldAmountsModel" "p" "I" ∈ Gw := gw_of 442 (by decide +kernel) rfl
theorem flX4_66 : Cond.fieldLink RX4 66 "TwofoldAmountsModel" "s" "I" ∈ Gw := gw_of 443 (by decide +kernel) rfl
theorem flX4_69 : Cond.fieldLink RX4 69 "TwofoldAmountsModel" "m" "I" ∈ Gw := gw_of 444 (by decide +kernel) rfl
theorem flX4_7 : Cond.fieldLink RX4 7 "TwofoldAmountsModel" "currency" "[I" ∈ Gw := gw_of 445 (by decide +kernel) rfl
theorem flX4_13 : Cond.fieldLink RX4 13 "TwofoldAmountsModel" "isWide" "[Z" ∈ Gw := gw_of 446 (by decide +kernel) rfl
theorem flX4_17 : Cond.fieldLink RX4 17 "TwofoldAmountsModel" "negative" "[Z" ∈ Gw := gw_of 447 (by decide +kernel) rfl
theorem flX4_20 : Cond.fieldLink RX4 20 "TwofoldAmountsModel" "kept" "[I" ∈ Gw := gw_of 448 (by decide +kernel) rfl
theorem flX4_23 : Cond.fieldLink RX4 23 "TwofoldAmountsModel" "ratios" "[I" ∈ Gw := gw_of 449 (by decide +kernel) rfl
theorem flX4_26 : Cond.fieldLink RX4 26 "TwofoldAmountsModel" "text" "[I" ∈ Gw := gw_of 450 (by decide +kernel) rfl
theorem flX4_166 : Cond.fieldLink RX4 166 "TwofoldAmountsModel" "length" "I" ∈ Gw := gw_of 451 (by decide +kernel) rfl
theorem flX4_29 : Cond.fieldLink RX4 29 "TwofoldAmountsModel" "num" "[I" ∈ Gw := gw_of 452 (by decide +kernel) rfl
theorem flX4_32 : Cond.fieldLink RX4 32 "TwofoldAmountsModel" "base" "[I" ∈ Gw := gw_of 453 (by decide +kernel) rfl
theorem flX4_35 : Cond.fieldLink RX4 35 "TwofoldAmountsModel" "den" "[I" ∈ Gw := gw_of 454 (by decide +kernel) rfl
theorem flX4_38 : Cond.fieldLink RX4 38 "TwofoldAmountsModel" "quo" "[I" ∈ Gw := gw_of 455 (by decide +kernel) rfl
theorem flX4_41 : Cond.fieldLink RX4 41 "TwofoldAmountsModel" "rem" "[I" ∈ Gw := gw_of 456 (by decide +kernel) rfl
theorem flX4_44 : Cond.fieldLink RX4 44 "TwofoldAmountsModel" "other" "[I" ∈ Gw := gw_of 457 (by decide +kernel) rfl
theorem flX4_47 : Cond.fieldLink RX4 47 "TwofoldAmountsModel" "units" "[I" ∈ Gw := gw_of 458 (by decide +kernel) rfl
theorem flX4_50 : Cond.fieldLink RX4 50 "TwofoldAmountsModel" "parts" "[I" ∈ Gw := gw_of 459 (by decide +kernel) rfl
theorem flX4_53 : Cond.fieldLink RX4 53 "TwofoldAmountsModel" "over" "[I" ∈ Gw := gw_of 460 (by decide +kernel) rfl
theorem flX4_56 : Cond.fieldLink RX4 56 "TwofoldAmountsModel" "given" "[Z" ∈ Gw := gw_of 461 (by decide +kernel) rfl
theorem flX4_183 : Cond.fieldLink RX4 183 "TwofoldAmountsModel" "at" "I" ∈ Gw := gw_of 462 (by decide +kernel) rfl
theorem flX4_180 : Cond.fieldLink RX4 180 "TwofoldAmountsModel" "wrong" "I" ∈ Gw := gw_of 463 (by decide +kernel) rfl
theorem flX4_59 : Cond.fieldLink RX4 59 "TwofoldAmountsModel" "read" "[I" ∈ Gw := gw_of 464 (by decide +kernel) rfl
theorem flX4_197 : Cond.fieldLink RX4 197 "TwofoldAmountsModel" "digitCount" "I" ∈ Gw := gw_of 465 (by decide +kernel) rfl
theorem flX4_212 : Cond.fieldLink RX4 212 "TwofoldAmountsModel" "behind" "I" ∈ Gw := gw_of 466 (by decide +kernel) rfl
theorem flX4_203 : Cond.fieldLink RX4 203 "TwofoldAmountsModel" "readCurrency" "I" ∈ Gw := gw_of 467 (by decide +kernel) rfl
theorem flX4_215 : Cond.fieldLink RX4 215 "TwofoldAmountsModel" "readMinus" "Z" ∈ Gw := gw_of 468 (by decide +kernel) rfl
theorem mlL_27 : Cond.methodLink RL 27 yX4_set ∈ Gw := gw_of 525 (by decide +kernel) rfl
theorem imX4_set : Cond.instanceMethod yX4_set ∈ Gw := gw_of 526 (by decide +kernel) rfl
theorem seX4_set : Cond.selects RX4 yX4_set yX4_set ∈ Gw := gw_of 527 (by decide +kernel) rfl
theorem cdX4_set : kX4_set ∈ Gw := gw_of 528 (by decide +kernel) rfl
theorem mlX4_123 : Cond.methodLink RX4 123 yX4_outside ∈ Gw := gw_of 529 (by decide +kernel) rfl
theorem smX4_outside : Cond.static yX4_outside ∈ Gw := gw_of 530 (by decide +kernel) rfl
theorem cdX4_outside : kX4_outside ∈ Gw := gw_of 531 (by decide +kernel) rfl
theorem mlX4_100 : Cond.methodLink RX4 100 yX4_load ∈ Gw := gw_of 532 (by decide +kernel) rfl
theorem smX4_load : Cond.static yX4_load ∈ Gw := gw_of 533 (by decide +kernel) rfl
theorem cdX4_load : kX4_load ∈ Gw := gw_of 534 (by decide +kernel) rfl
theorem mlX4_72 : Cond.methodLink RX4 72 yX4_clear ∈ Gw := gw_of 535 (by decide +kernel) rfl
theorem smX4_clear : Cond.static yX4_clear ∈ Gw := gw_of 536 (by decide +kernel) rfl
theorem cdX4_clear : kX4_clear ∈ Gw := gw_of 537 (by decide +kernel) rfl
theorem kcX4_76 : Cond.constantLong RX4 76 (10 : Int64) ∈ Gw := gw_of 538 (by decide +kernel) rfl
theorem mlX4_82 : Cond.methodLink RX4 82 yX4_shift ∈ Gw := gw_of 539 (by decide +kernel) rfl
theorem smX4_shift : Cond.static yX4_shift ∈ Gw := gw_of 540 (by decide +kernel) rfl
theorem cdX4_shift : kX4_shift ∈ Gw := gw_of 541 (by decide +kernel) rfl
theorem mlX4_127 : Cond.methodLink RX4 127 yX4_settle ∈ Gw := gw_of 542 (by decide +kernel) rfl
theorem imX4_settle : Cond.instanceMethod yX4_settle ∈ Gw := gw_of 544 (by decide +kernel) rfl
theorem cdX4_settle : kX4_settle ∈ Gw := gw_of 545 (by decide +kernel) rfl
theorem mlX4_94 : Cond.methodLink RX4 94 yX4_copy ∈ Gw := gw_of 546 (by decide +kernel) rfl
theorem smX4_copy : Cond.static yX4_copy ∈ Gw := gw_of 547 (by decide +kernel) rfl
theorem cdX4_copy : kX4_copy ∈ Gw := gw_of 548 (by decide +kernel) rfl
theorem mlX4_108 : Cond.methodLink RX4 108 yX4_quotient ∈ Gw := gw_of 549 (by decide +kernel) rfl
theorem imX4_quotient : Cond.instanceMethod yX4_quotient ∈ Gw := gw_of 551 (by decide +kernel) rfl
theorem cdX4_quotient : kX4_quotient ∈ Gw := gw_of 552 (by decide +kernel) rfl
theorem mlX4_86 : Cond.methodLink RX4 86 yX4_order ∈ Gw := gw_of 553 (by decide +kernel) rfl
theorem smX4_order : Cond.static yX4_order ∈ Gw := gw_of 554 (by decide +kernel) rfl
theorem cdX4_order : kX4_order ∈ Gw := gw_of 555 (by decide +kernel) rfl
theorem mlX4_90 : Cond.methodLink RX4 90 yX4_decrease ∈ Gw := gw_of 556 (by decide +kernel) rfl
theorem smX4_decrease : Cond.static yX4_decrease ∈ Gw := gw_of 557 (by decide +kernel) rfl
theorem cdX4_decrease : kX4_decrease ∈ Gw := gw_of 558 (by decide +kernel) rfl
theorem mlX4_78 : Cond.methodLink RX4 78 yX4_size ∈ Gw := gw_of 559 (by decide +kernel) rfl
theorem smX4_size : Cond.static yX4_size ∈ Gw := gw_of 560 (by decide +kernel) rfl
theorem cdX4_size : kX4_size ∈ Gw := gw_of 561 (by decide +kernel) rfl
theorem mlX4_111 : Cond.methodLink RX4 111 yX4_rounds ∈ Gw := gw_of 562 (by decide +kernel) rfl
theorem imX4_rounds : Cond.instanceMethod yX4_rounds ∈ Gw := gw_of 564 (by decide +kernel) rfl
theorem cdX4_rounds : kX4_rounds ∈ Gw := gw_of 565 (by decide +kernel) rfl
theorem mlX4_97 : Cond.methodLink RX4 97 yX4_increase ∈ Gw := gw_of 566 (by decide +kernel) rfl
theorem smX4_increase : Cond.static yX4_increase ∈ Gw := gw_of 567 (by decide +kernel) rfl
theorem cdX4_increase : kX4_increase ∈ Gw := gw_of 568 (by decide +kernel) rfl
theorem mlX4_115 : Cond.methodLink RX4 115 yX4_fits ∈ Gw := gw_of 569 (by decide +kernel) rfl
theorem imX4_fits : Cond.instanceMethod yX4_fits ∈ Gw := gw_of 571 (by decide +kernel) rfl
theorem cdX4_fits : kX4_fits ∈ Gw := gw_of 572 (by decide +kernel) rfl
theorem kcX4_104 : Cond.constantLong RX4 104 (-9223372036854775808 : Int64) ∈ Gw := gw_of 573 (by decide +kernel) rfl
theorem kcX4_106 : Cond.constantLong RX4 106 (9223372036854775807 : Int64) ∈ Gw := gw_of 574 (by decide +kernel) rfl
theorem mlX4_119 : Cond.methodLink RX4 119 yX4_keep ∈ Gw := gw_of 575 (by decide +kernel) rfl
theorem imX4_keep : Cond.instanceMethod yX4_keep ∈ Gw := gw_of 577 (by decide +kernel) rfl
theorem cdX4_keep : kX4_keep ∈ Gw := gw_of 578 (by decide +kernel) rfl
theorem mlL_32 : Cond.methodLink RL 32 yX4_add ∈ Gw := gw_of 579 (by decide +kernel) rfl
theorem imX4_add : Cond.instanceMethod yX4_add ∈ Gw := gw_of 580 (by decide +kernel) rfl
theorem seX4_add : Cond.selects RX4 yX4_add yX4_add ∈ Gw := gw_of 581 (by decide +kernel) rfl
theorem cdX4_add : kX4_add ∈ Gw := gw_of 582 (by decide +kernel) rfl
theorem mlX4_134 : Cond.methodLink RX4 134 yX4_sum ∈ Gw := gw_of 583 (by decide +kernel) rfl
theorem imX4_sum : Cond.instanceMethod yX4_sum ∈ Gw := gw_of 585 (by decide +kernel) rfl
theorem cdX4_sum : kX4_sum ∈ Gw := gw_of 586 (by decide +kernel) rfl
theorem mlX4_131 : Cond.methodLink RX4 131 yX4_take ∈ Gw := gw_of 587 (by decide +kernel) rfl
theorem imX4_take : Cond.instanceMethod yX4_take ∈ Gw := gw_of 589 (by decide +kernel) rfl
theorem cdX4_take : kX4_take ∈ Gw := gw_of 590 (by decide +kernel) rfl
theorem mlL_36 : Cond.methodLink RL 36 yX4_subtract ∈ Gw := gw_of 591 (by decide +kernel) rfl
theorem imX4_subtract : Cond.instanceMethod yX4_subtract ∈ Gw := gw_of 592 (by decide +kernel) rfl
theorem seX4_subtract : Cond.selects RX4 yX4_subtract yX4_subtract ∈ Gw := gw_of 593 (by decide +kernel) rfl
theorem cdX4_subtract : kX4_subtract ∈ Gw := gw_of 594 (by decide +kernel) rfl
theorem mlL_41 : Cond.methodLink RL 41 yX4_multiply ∈ Gw := gw_of 595 (by decide +kernel) rfl
theorem imX4_multiply : Cond.instanceMethod yX4_multiply ∈ Gw := gw_of 596 (by decide +kernel) rfl
theorem seX4_multiply : Cond.selects RX4 yX4_multiply yX4_multiply ∈ Gw := gw_of 597 (by decide +kernel) rfl
theorem cdX4_multiply : kX4_multiply ∈ Gw := gw_of 598 (by decide +kernel) rfl
theorem mlX4_138 : Cond.methodLink RX4 138 yX4_product ∈ Gw := gw_of 599 (by decide +kernel) rfl
theorem imX4_product : Cond.instanceMethod yX4_product ∈ Gw := gw_of 601 (by decide +kernel) rfl
theorem cdX4_product : kX4_product ∈ Gw := gw_of 602 (by decide +kernel) rfl
theorem mlL_45 : Cond.methodLink RL 45 yX4_divide ∈ Gw := gw_of 603 (by decide +kernel) rfl
theorem imX4_divide : Cond.instanceMethod yX4_divide ∈ Gw := gw_of 604 (by decide +kernel) rfl
theorem seX4_divide : Cond.selects RX4 yX4_divide yX4_divide ∈ Gw := gw_of 605 (by decide +kernel) rfl
theorem cdX4_divide : kX4_divide ∈ Gw := gw_of 606 (by decide +kernel) rfl
theorem mlL_50 : Cond.methodLink RL 50 yX4_negate ∈ Gw := gw_of 607 (by decide +kernel) rfl
theorem imX4_negate : Cond.instanceMethod yX4_negate ∈ Gw := gw_of 608 (by decide +kernel) rfl
theorem seX4_negate : Cond.selects RX4 yX4_negate yX4_negate ∈ Gw := gw_of 609 (by decide +kernel) rfl
theorem cdX4_negate : kX4_negate ∈ Gw := gw_of 610 (by decide +kernel) rfl
theorem mlL_55 : Cond.methodLink RL 55 yX4_round ∈ Gw := gw_of 611 (by decide +kernel) rfl
theorem imX4_round : Cond.instanceMethod yX4_round ∈ Gw := gw_of 612 (by decide +kernel) rfl
theorem seX4_round : Cond.selects RX4 yX4_round yX4_round ∈ Gw := gw_of 613 (by decide +kernel) rfl
theorem cdX4_round : kX4_round ∈ Gw := gw_of 614 (by decide +kernel) rfl
theorem mlX4_145 : Cond.methodLink RX4 145 yX4_step ∈ Gw := gw_of 615 (by decide +kernel) rfl
theorem imX4_step : Cond.instanceMethod yX4_step ∈ Gw := gw_of 617 (by decide +kernel) rfl
theorem cdX4_step : kX4_step ∈ Gw := gw_of 618 (by decide +kernel) rfl
theorem mlX4_141 : Cond.methodLink RX4 141 yX4_digitsOf ∈ Gw := gw_of 619 (by decide +kernel) rfl
theorem smX4_digitsOf : Cond.static yX4_digitsOf ∈ Gw := gw_of 620 (by decide +kernel) rfl
theorem cdX4_digitsOf : kX4_digitsOf ∈ Gw := gw_of 621 (by decide +kernel) rfl
theorem mlL_60 : Cond.methodLink RL 60 yX4_ratio ∈ Gw := gw_of 622 (by decide +kernel) rfl
theorem imX4_ratio : Cond.instanceMethod yX4_ratio ∈ Gw := gw_of 623 (by decide +kernel) rfl
theorem seX4_ratio : Cond.selects RX4 yX4_ratio yX4_ratio ∈ Gw := gw_of 624 (by decide +kernel) rfl
theorem cdX4_ratio : kX4_ratio ∈ Gw := gw_of 625 (by decide +kernel) rfl
theorem kcX4_149 : Cond.constant RX4 149 (1000001 : Int32) ∈ Gw := gw_of 626 (by decide +kernel) rfl
theorem mlL_64 : Cond.methodLink RL 64 yX4_allocate ∈ Gw := gw_of 627 (by decide +kernel) rfl
theorem imX4_allocate : Cond.instanceMethod yX4_allocate ∈ Gw := gw_of 628 (by decide +kernel) rfl
theorem seX4_allocate : Cond.selects RX4 yX4_allocate yX4_allocate ∈ Gw := gw_of 629 (by decide +kernel) rfl
theorem cdX4_allocate : kX4_allocate ∈ Gw := gw_of 630 (by decide +kernel) rfl
theorem mlX4_153 : Cond.methodLink RX4 153 yX4_cut ∈ Gw := gw_of 631 (by decide +kernel) rfl
theorem imX4_cut : Cond.instanceMethod yX4_cut ∈ Gw := gw_of 633 (by decide +kernel) rfl
theorem cdX4_cut : kX4_cut ∈ Gw := gw_of 634 (by decide +kernel) rfl
theorem mlX4_150 : Cond.methodLink RX4 150 yX4_small ∈ Gw := gw_of 635 (by decide +kernel) rfl
theorem smX4_small : Cond.static yX4_small ∈ Gw := gw_of 636 (by decide +kernel) rfl
theorem cdX4_small : kX4_small ∈ Gw := gw_of 637 (by decide +kernel) rfl
theorem mlX4_156 : Cond.methodLink RX4 156 yX4_left ∈ Gw := gw_of 638 (by decide +kernel) rfl
theorem imX4_left : Cond.instanceMethod yX4_left ∈ Gw := gw_of 640 (by decide +kernel) rfl
theorem cdX4_left : kX4_left ∈ Gw := gw_of 641 (by decide +kernel) rfl
theorem mlX4_159 : Cond.methodLink RX4 159 yX4_part ∈ Gw := gw_of 642 (by decide +kernel) rfl
theorem imX4_part : Cond.instanceMethod yX4_part ∈ Gw := gw_of 644 (by decide +kernel) rfl
theorem cdX4_part : kX4_part ∈ Gw := gw_of 645 (by decide +kernel) rfl
theorem mlL_68 : Cond.methodLink RL 68 yX4_compare ∈ Gw := gw_of 646 (by decide +kernel) rfl
theorem imX4_compare : Cond.instanceMethod yX4_compare ∈ Gw := gw_of 647 (by decide +kernel) rfl
theorem seX4_compare : Cond.selects RX4 yX4_compare yX4_compare ∈ Gw := gw_of 648 (by decide +kernel) rfl
theorem cdX4_compare : kX4_compare ∈ Gw := gw_of 649 (by decide +kernel) rfl
theorem mlL_73 : Cond.methodLink RL 73 yX4_sign ∈ Gw := gw_of 650 (by decide +kernel) rfl
theorem imX4_sign : Cond.instanceMethod yX4_sign ∈ Gw := gw_of 651 (by decide +kernel) rfl
theorem seX4_sign : Cond.selects RX4 yX4_sign yX4_sign ∈ Gw := gw_of 652 (by decide +kernel) rfl
theorem cdX4_sign : kX4_sign ∈ Gw := gw_of 653 (by decide +kernel) rfl
theorem mlL_77 : Cond.methodLink RL 77 yX4_kind ∈ Gw := gw_of 654 (by decide +kernel) rfl
theorem imX4_kind : Cond.instanceMethod yX4_kind ∈ Gw := gw_of 655 (by decide +kernel) rfl
theorem seX4_kind : Cond.selects RX4 yX4_kind yX4_kind ∈ Gw := gw_of 656 (by decide +kernel) rfl
theorem cdX4_kind : kX4_kind ∈ Gw := gw_of 657 (by decide +kernel) rfl
theorem mlL_82 : Cond.methodLink RL 82 yX4_digits ∈ Gw := gw_of 658 (by decide +kernel) rfl
theorem imX4_digits : Cond.instanceMethod yX4_digits ∈ Gw := gw_of 659 (by decide +kernel) rfl
theorem seX4_digits : Cond.selects RX4 yX4_digits yX4_digits ∈ Gw := gw_of 660 (by decide +kernel) rfl
theorem cdX4_digits : kX4_digits ∈ Gw := gw_of 661 (by decide +kernel) rfl
theorem kcX4_162 : Cond.constantLong RX4 162 (-15 : Int64) ∈ Gw := gw_of 662 (by decide +kernel) rfl
theorem kcX4_164 : Cond.constantLong RX4 164 (-11 : Int64) ∈ Gw := gw_of 663 (by decide +kernel) rfl
theorem mlL_87 : Cond.methodLink RL 87 yX4_discard ∈ Gw := gw_of 664 (by decide +kernel) rfl
theorem imX4_discard : Cond.instanceMethod yX4_discard ∈ Gw := gw_of 665 (by decide +kernel) rfl
theorem seX4_discard : Cond.selects RX4 yX4_discard yX4_discard ∈ Gw := gw_of 666 (by decide +kernel) rfl
theorem cdX4_discard : kX4_discard ∈ Gw := gw_of 667 (by decide +kernel) rfl
theorem mlL_91 : Cond.methodLink RL 91 yX4_format ∈ Gw := gw_of 668 (by decide +kernel) rfl
theorem imX4_format : Cond.instanceMethod yX4_format ∈ Gw := gw_of 669 (by decide +kernel) rfl
theorem seX4_format : Cond.selects RX4 yX4_format yX4_format ∈ Gw := gw_of 670 (by decide +kernel) rfl
theorem cdX4_format : kX4_format ∈ Gw := gw_of 671 (by decide +kernel) rfl
theorem mlX4_173 : Cond.methodLink RX4 173 yX4_putCode ∈ Gw := gw_of 672 (by decide +kernel) rfl
theorem imX4_putCode : Cond.instanceMethod yX4_putCode ∈ Gw := gw_of 674 (by decide +kernel) rfl
theorem cdX4_putCode : kX4_putCode ∈ Gw := gw_of 675 (by decide +kernel) rfl
theorem mlX4_169 : Cond.methodLink RX4 169 yX4_put ∈ Gw := gw_of 676 (by decide +kernel) rfl
theorem imX4_put : Cond.instanceMethod yX4_put ∈ Gw := gw_of 678 (by decide +kernel) rfl
theorem cdX4_put : kX4_put ∈ Gw := gw_of 679 (by decide +kernel) rfl
theorem mlX4_176 : Cond.methodLink RX4 176 yX4_putNumber ∈ Gw := gw_of 680 (by decide +kernel) rfl
theorem imX4_putNumber : Cond.instanceMethod yX4_putNumber ∈ Gw := gw_of 682 (by decide +kernel) rfl
theorem cdX4_putNumber : kX4_putNumber ∈ Gw := gw_of 683 (by decide +kernel) rfl
theorem mlL_95 : Cond.methodLink RL 95 yX4_type ∈ Gw := gw_of 684 (by decide +kernel) rfl
theorem imX4_type : Cond.instanceMethod yX4_type ∈ Gw := gw_of 685 (by decide +kernel) rfl
theorem seX4_type : Cond.selects RX4 yX4_type yX4_type ∈ Gw := gw_of 686 (by decide +kernel) rfl
theorem cdX4_type : kX4_type ∈ Gw := gw_of 687 (by decide +kernel) rfl
theorem mlL_99 : Cond.methodLink RL 99 yX4_wipe ∈ Gw := gw_of 688 (by decide +kernel) rfl
theorem imX4_wipe : Cond.instanceMethod yX4_wipe ∈ Gw := gw_of 689 (by decide +kernel) rfl
theorem seX4_wipe : Cond.selects RX4 yX4_wipe yX4_wipe ∈ Gw := gw_of 690 (by decide +kernel) rfl
theorem cdX4_wipe : kX4_wipe ∈ Gw := gw_of 691 (by decide +kernel) rfl
theorem mlL_103 : Cond.methodLink RL 103 yX4_letter ∈ Gw := gw_of 692 (by decide +kernel) rfl
theorem imX4_letter : Cond.instanceMethod yX4_letter ∈ Gw := gw_of 693 (by decide +kernel) rfl
theorem seX4_letter : Cond.selects RX4 yX4_letter yX4_letter ∈ Gw := gw_of 694 (by decide +kernel) rfl
theorem cdX4_letter : kX4_letter ∈ Gw := gw_of 695 (by decide +kernel) rfl
theorem mlL_108 : Cond.methodLink RL 108 yX4_parse ∈ Gw := gw_of 696 (by decide +kernel) rfl
theorem imX4_parse : Cond.instanceMethod yX4_parse ∈ Gw := gw_of 697 (by decide +kernel) rfl
theorem seX4_parse : Cond.selects RX4 yX4_parse yX4_parse ∈ Gw := gw_of 698 (by decide +kernel) rfl
theorem cdX4_parse : kX4_parse ∈ Gw := gw_of 699 (by decide +kernel) rfl
theorem mlX4_223 : Cond.methodLink RX4 223 yX4_readNumber ∈ Gw := gw_of 700 (by decide +kernel) rfl
theorem imX4_readNumber : Cond.instanceMethod yX4_readNumber ∈ Gw := gw_of 702 (by decide +kernel) rfl
theorem cdX4_readNumber : kX4_readNumber ∈ Gw := gw_of 703 (by decide +kernel) rfl
theorem mlX4_186 : Cond.methodLink RX4 186 yX4_sees ∈ Gw := gw_of 704 (by decide +kernel) rfl
theorem imX4_sees : Cond.instanceMethod yX4_sees ∈ Gw := gw_of 706 (by decide +kernel) rfl
theorem cdX4_sees : kX4_sees ∈ Gw := gw_of 707 (by decide +kernel) rfl
theorem mlX4_219 : Cond.methodLink RX4 219 yX4_readBody ∈ Gw := gw_of 708 (by decide +kernel) rfl
theorem imX4_readBody : Cond.instanceMethod yX4_readBody ∈ Gw := gw_of 710 (by decide +kernel) rfl
theorem cdX4_readBody : kX4_readBody ∈ Gw := gw_of 711 (by decide +kernel) rfl
theorem mlX4_209 : Cond.methodLink RX4 209 yX4_need ∈ Gw := gw_of 712 (by decide +kernel) rfl
theorem imX4_need : Cond.instanceMethod yX4_need ∈ Gw := gw_of 714 (by decide +kernel) rfl
theorem cdX4_need : kX4_need ∈ Gw := gw_of 715 (by decide +kernel) rfl
theorem mlX4_200 : Cond.methodLink RX4 200 yX4_digitsUpTo ∈ Gw := gw_of 716 (by decide +kernel) rfl
theorem imX4_digitsUpTo : Cond.instanceMethod yX4_digitsUpTo ∈ Gw := gw_of 718 (by decide +kernel) rfl
theorem cdX4_digitsUpTo : kX4_digitsUpTo ∈ Gw := gw_of 719 (by decide +kernel) rfl
theorem mlX4_193 : Cond.methodLink RX4 193 yX4_seesDigit ∈ Gw := gw_of 720 (by decide +kernel) rfl
theorem imX4_seesDigit : Cond.instanceMethod yX4_seesDigit ∈ Gw := gw_of 722 (by decide +kernel) rfl
theorem cdX4_seesDigit : kX4_seesDigit ∈ Gw := gw_of 723 (by decide +kernel) rfl
theorem mlX4_190 : Cond.methodLink RX4 190 yX4_fail ∈ Gw := gw_of 724 (by decide +kernel) rfl
theorem imX4_fail : Cond.instanceMethod yX4_fail ∈ Gw := gw_of 726 (by decide +kernel) rfl
theorem cdX4_fail : kX4_fail ∈ Gw := gw_of 727 (by decide +kernel) rfl
theorem mlX4_206 : Cond.methodLink RX4 206 yX4_expect ∈ Gw := gw_of 728 (by decide +kernel) rfl
theorem imX4_expect : Cond.instanceMethod yX4_expect ∈ Gw := gw_of 730 (by decide +kernel) rfl
theorem cdX4_expect : kX4_expect ∈ Gw := gw_of 731 (by decide +kernel) rfl
theorem mlX4_226 : Cond.methodLink RX4 226 yX4_readCode ∈ Gw := gw_of 732 (by decide +kernel) rfl
theorem imX4_readCode : Cond.instanceMethod yX4_readCode ∈ Gw := gw_of 734 (by decide +kernel) rfl
theorem cdX4_readCode : kX4_readCode ∈ Gw := gw_of 735 (by decide +kernel) rfl
theorem kcL_21 : Cond.constantLong RL 21 (4294967295 : Int64) ∈ Gw := gw_of 736 (by decide +kernel) rfl
theorem seX3_keep : Cond.selects RX3 yX3_keep yX3_keep ∈ Gw := gw_of 0 (by decide +kernel) rfl
theorem seX2_goesAway : Cond.selects RX2 yX2_goesAway yX2_goesAway ∈ Gw := gw_of 1 (by decide +kernel) rfl
theorem seX3_store : Cond.selects RX3 yX3_store yX3_store ∈ Gw := gw_of 2 (by decide +kernel) rfl
theorem seX3_combine : Cond.selects RX3 yX3_combine yX3_combine ∈ Gw := gw_of 3 (by decide +kernel) rfl
theorem seX3_sumOfRatios : Cond.selects RX3 yX3_sumOfRatios yX3_sumOfRatios ∈ Gw := gw_of 4 (by decide +kernel) rfl
theorem seX3_splitRest : Cond.selects RX3 yX3_splitRest yX3_splitRest ∈ Gw := gw_of 5 (by decide +kernel) rfl
theorem seX3_rankOf : Cond.selects RX3 yX3_rankOf yX3_rankOf ∈ Gw := gw_of 6 (by decide +kernel) rfl
theorem seX3_writeNumber : Cond.selects RX3 yX3_writeNumber yX3_writeNumber ∈ Gw := gw_of 7 (by decide +kernel) rfl
theorem seX3_writeBody : Cond.selects RX3 yX3_writeBody yX3_writeBody ∈ Gw := gw_of 8 (by decide +kernel) rfl
theorem seX3_readStyle : Cond.selects RX3 yX3_readStyle yX3_readStyle ∈ Gw := gw_of 9 (by decide +kernel) rfl
theorem seX3_readNumber : Cond.selects RX3 yX3_readNumber yX3_readNumber ∈ Gw := gw_of 10 (by decide +kernel) rfl
theorem seX3_readBody : Cond.selects RX3 yX3_readBody yX3_readBody ∈ Gw := gw_of 11 (by decide +kernel) rfl
theorem seX3_takeWhole : Cond.selects RX3 yX3_takeWhole yX3_takeWhole ∈ Gw := gw_of 12 (by decide +kernel) rfl
theorem seX4_settle : Cond.selects RX4 yX4_settle yX4_settle ∈ Gw := gw_of 13 (by decide +kernel) rfl
theorem seX4_quotient : Cond.selects RX4 yX4_quotient yX4_quotient ∈ Gw := gw_of 14 (by decide +kernel) rfl
theorem seX4_rounds : Cond.selects RX4 yX4_rounds yX4_rounds ∈ Gw := gw_of 15 (by decide +kernel) rfl
theorem seX4_fits : Cond.selects RX4 yX4_fits yX4_fits ∈ Gw := gw_of 16 (by decide +kernel) rfl
theorem seX4_keep : Cond.selects RX4 yX4_keep yX4_keep ∈ Gw := gw_of 17 (by decide +kernel) rfl
theorem seX4_sum : Cond.selects RX4 yX4_sum yX4_sum ∈ Gw := gw_of 18 (by decide +kernel) rfl
theorem seX4_take : Cond.selects RX4 yX4_take yX4_take ∈ Gw := gw_of 19 (by decide +kernel) rfl
theorem seX4_product : Cond.selects RX4 yX4_product yX4_product ∈ Gw := gw_of 20 (by decide +kernel) rfl
theorem seX4_step : Cond.selects RX4 yX4_step yX4_step ∈ Gw := gw_of 21 (by decide +kernel) rfl
theorem seX4_cut : Cond.selects RX4 yX4_cut yX4_cut ∈ Gw := gw_of 22 (by decide +kernel) rfl
theorem seX4_left : Cond.selects RX4 yX4_left yX4_left ∈ Gw := gw_of 23 (by decide +kernel) rfl
theorem seX4_part : Cond.selects RX4 yX4_part yX4_part ∈ Gw := gw_of 24 (by decide +kernel) rfl
theorem seX4_putCode : Cond.selects RX4 yX4_putCode yX4_putCode ∈ Gw := gw_of 25 (by decide +kernel) rfl
theorem seX4_put : Cond.selects RX4 yX4_put yX4_put ∈ Gw := gw_of 26 (by decide +kernel) rfl
theorem seX4_putNumber : Cond.selects RX4 yX4_putNumber yX4_putNumber ∈ Gw := gw_of 27 (by decide +kernel) rfl
theorem seX4_readNumber : Cond.selects RX4 yX4_readNumber yX4_readNumber ∈ Gw := gw_of 28 (by decide +kernel) rfl
theorem seX4_sees : Cond.selects RX4 yX4_sees yX4_sees ∈ Gw := gw_of 29 (by decide +kernel) rfl
theorem seX4_readBody : Cond.selects RX4 yX4_readBody yX4_readBody ∈ Gw := gw_of 30 (by decide +kernel) rfl
theorem seX4_need : Cond.selects RX4 yX4_need yX4_need ∈ Gw := gw_of 31 (by decide +kernel) rfl
theorem seX4_digitsUpTo : Cond.selects RX4 yX4_digitsUpTo yX4_digitsUpTo ∈ Gw := gw_of 32 (by decide +kernel) rfl
theorem seX4_seesDigit : Cond.selects RX4 yX4_seesDigit yX4_seesDigit ∈ Gw := gw_of 33 (by decide +kernel) rfl
theorem seX4_fail : Cond.selects RX4 yX4_fail yX4_fail ∈ Gw := gw_of 34 (by decide +kernel) rfl
theorem seX4_expect : Cond.selects RX4 yX4_expect yX4_expect ∈ Gw := gw_of 35 (by decide +kernel) rfl
theorem seX4_readCode : Cond.selects RX4 yX4_readCode yX4_readCode ∈ Gw := gw_of 36 (by decide +kernel) rfl
theorem hinX0 : ∀ w ∈ wsX00, w ∈ Gw := by decide +kernel
theorem hinX1 : ∀ w ∈ wsX10, w ∈ Gw := by decide +kernel
theorem hinX2 : ∀ w ∈ wsX20, w ∈ Gw := by decide +kernel
theorem hinX3 : ∀ w ∈ wsX30, w ∈ Gw := by decide +kernel
theorem hinX4 : ∀ w ∈ wsX40, w ∈ Gw := by decide +kernel
end
section
/-! Ints and longs by their numbers. -/
def iI (z : Int) : Int32 := Int32.ofInt z
def lI (z : Int) : Int64 := Int64.ofInt z
abbrev r32 (z : Int) : Prop := -2147483648 ≤ z ∧ z < 2147483648
abbrev r64 (z : Int) : Prop := -9223372036854775808 ≤ z ∧ z < 9223372036854775808
theorem iI_t {z : Int} (h : r32 z) : (iI z).toInt = z := Int32.toInt_ofInt_of_le (by have := h.1; omega) (by have := h.2; omega)
theorem lI_t {z : Int} (h : r64 z) : (lI z).toInt = z := Int64.toInt_ofInt_of_le (by have := h.1; omega) (by have := h.2; omega)
theorem iI_of (x : Int32) : x = iI x.toInt := (Int32.ofInt_toInt x).symm
theorem lI_of (x : Int64) : x = lI x.toInt := (Int64.ofInt_toInt x).symm
theorem iI_r (x : Int32) : r32 x.toInt := by have h1 := x.le_toInt; have h2 := x.toInt_lt; constructor <;> omega
theorem lI_r (x : Int64) : r64 x.toInt := by have h1 := x.le_toInt; have h2 := x.toInt_lt; constructor <;> omega
theorem iI_ex (x : Int32) : ∃ z, r32 z ∧ x = iI z := ⟨x.toInt, iI_r x, iI_of x⟩
theorem lI_ex (x : Int64) : ∃ z, r64 z ∧ x = lI z := ⟨x.toInt, lI_r x, lI_of x⟩
theorem iI_add (a b : Int) : iI a + iI b = iI (a + b) := (Int32.ofInt_add a b).symm
theorem iI_sub (a b : Int) : iI a - iI b = iI (a - b) := (Int32.ofInt_sub a b).symm
theorem iI_mul (a b : Int) : iI a * iI b = iI (a * b) := (Int32.ofInt_mul a b).symm
theorem iI_neg (a : Int) : -iI a = iI (-a) := (Int32.ofInt_neg a).symm
theorem lI_add (a b : Int) : lI a + lI b = lI (a + b) := (Int64.ofInt_add a b).symm
theorem lI_sub (a b : Int) : lI a - lI b = lI (a - b) := (Int64.ofInt_sub a b).symm
theorem lI_mul (a b : Int) : lI a * lI b = lI (a * b) := (Int64.ofInt_mul a b).symm
theorem lI_neg (a : Int) : -lI a = lI (-a) := (Int64.ofInt_neg a).symm
theorem iI_inj {a b : Int} (ha : r32 a) (hb : r32 b) : iI a = iI b ↔ a = b := by
  rw [← Int32.toInt_inj, iI_t ha, iI_t hb]
theorem iI_lt {a b : Int} (ha : r32 a) (hb : r32 b) : iI a < iI b ↔ a < b := by
  rw [Int32.lt_iff_toInt_lt, iI_t ha, iI_t hb]
theorem iI_le {a b : Int} (ha : r32 a) (hb : r32 b) : iI a ≤ iI b ↔ a ≤ b := by
  rw [Int32.le_iff_toInt_le, iI_t ha, iI_t hb]
theorem lI_inj {a b : Int} (ha : r64 a) (hb : r64 b) : lI a = lI b ↔ a = b := by
  rw [← Int64.toInt_inj, lI_t ha, lI_t hb]
theorem lI_lt {a b : Int} (ha : r64 a) (hb : r64 b) : lI a < lI b ↔ a < b := by
  rw [Int64.lt_iff_toInt_lt, lI_t ha, lI_t hb]
theorem iI_0 : iI 0 = 0 := rfl
theorem lI_0 : lI 0 = 0 := rfl
theorem r32_0 : r32 0 := by constructor <;> omega
theorem iI_nat (j : Nat) : iI (j : Int) = nI j := Int32.ofInt_eq_ofNat
theorem iI_div {a b : Int} (ha : 0 ≤ a) (ha2 : a < 2147483648) (hb : 0 < b) (hb2 : b < 2147483648) : iI a / iI b = iI (a / b) := by
  have h1 : iI b ≠ -1 := by
    intro h
    have := congrArg Int32.toInt h
    rw [iI_t ⟨by omega, hb2⟩] at this
    have h3 : (-1 : Int32).toInt = -1 := by decide
    omega
  apply Int32.toInt_inj.mp
  have hq0 : 0 ≤ a / b := Int.ediv_nonneg ha (by omega)
  have hq1 : a / b ≤ a := Int.ediv_le_self b ha
  rw [Int32.toInt_div_of_ne_right _ _ h1, iI_t ⟨by omega, ha2⟩, iI_t ⟨by omega, hb2⟩, Int.tdiv_eq_ediv_of_nonneg ha, iI_t ⟨by omega, by omega⟩]
theorem iI_rem {a b : Int} (ha : 0 ≤ a) (ha2 : a < 2147483648) (hb : 0 < b) (hb2 : b < 2147483648) : iI a - iI a / iI b * iI b = iI (a % b) := by
  rw [iI_div ha ha2 hb hb2, iI_mul, iI_sub]
  congr 1
  have := Int.emod_add_mul_ediv a b
  rw [Int.mul_comm] at this
  omega
theorem lI_quo {a b : Int} (ha : r64 a) (hb : r64 b) (h1 : b ≠ -1) : lI a / lI b = lI (a.tdiv b) := by
  have h2 : lI b ≠ -1 := by
    intro h
    have := congrArg Int64.toInt h
    rw [lI_t hb] at this
    have h3 : (-1 : Int64).toInt = -1 := by decide
    omega
  have h3 : (lI a / lI b).toInt = a.tdiv b := by rw [Int64.toInt_div_of_ne_right _ _ h2, lI_t ha, lI_t hb]
  rw [← h3, ← lI_of]
theorem lI_mod {a b : Int} (ha : r64 a) (hb : r64 b) (h1 : b ≠ -1) : lI a - lI a / lI b * lI b = lI (a.tmod b) := by
  rw [lI_quo ha hb h1, lI_mul, lI_sub]
  congr 1
  have := Int.tmod_add_mul_tdiv a b
  rw [Int.mul_comm] at this
  omega
theorem iI_64 {a : Int} (h : r32 a) : (iI a).toInt64 = lI a := by
  apply Int64.toInt_inj.mp
  rw [Int32.toInt_toInt64, iI_t h, lI_t ⟨by have := h.1; omega, by have := h.2; omega⟩]
theorem lI_32 (a : Int) : (lI a).toInt32 = iI a := Int64.toInt32_ofInt
def cmpZ (a b : Int) : Int := if b < a then 1 else if a = b then 0 else -1
theorem lI_cmp {a b : Int} (ha : r64 a) (hb : r64 b) : lg_cmp (lI a) (lI b) = iI (cmpZ a b) := by
  unfold lg_cmp cmpZ
  by_cases h1 : b < a
  · rw [if_pos h1, if_pos ((lI_lt hb ha).mpr h1)]; rfl
  · rw [if_neg h1, if_neg (fun h => h1 ((lI_lt hb ha).mp h))]
    by_cases h2 : a = b
    · rw [if_pos h2, if_pos ((lI_inj ha hb).mpr h2)]; rfl
    · rw [if_neg h2, if_neg (fun h => h2 ((lI_inj ha hb).mp h))]; rfl
theorem cmpZ_r (a b : Int) : r32 (cmpZ a b) := by unfold cmpZ; split <;> (try split) <;> constructor <;> omega
theorem cmpZ_ge {a b : Int} : 0 ≤ cmpZ a b ↔ b ≤ a := by unfold cmpZ; split <;> (try split) <;> omega
theorem cmpZ_lt {a b : Int} : cmpZ a b < 0 ↔ a < b := by unfold cmpZ; split <;> (try split) <;> omega
theorem cmpZ_gt {a b : Int} : 0 < cmpZ a b ↔ b < a := by unfold cmpZ; split <;> (try split) <;> omega
theorem cmpZ_le {a b : Int} : cmpZ a b ≤ 0 ↔ a ≤ b := by unfold cmpZ; split <;> (try split) <;> omega
theorem cmpZ_eq {a b : Int} : cmpZ a b = 0 ↔ a = b := by unfold cmpZ; split <;> (try split) <;> omega
/-! The judgement Go: from every heap and locals that the lists picture, the machine comes to its end. A row an instruction, over the kit's rows. -/
abbrev TCx : Type := Program × Launch × Env × Room × State × MethodId × Array Value × List Frame × Method × Code × (State → Prop) × (Nat → Prop) × va_G × List vw_C × Nat
abbrev cx_p (X : TCx) : Program := X.1
abbrev cx_l (X : TCx) : Launch := X.2.1
abbrev cx_e (X : TCx) : Env := X.2.2.1
abbrev cx_R (X : TCx) : Room := X.2.2.2.1
abbrev cx_s (X : TCx) : State := X.2.2.2.2.1
abbrev cx_m (X : TCx) : MethodId := X.2.2.2.2.2.1
abbrev cx_a (X : TCx) : Array Value := X.2.2.2.2.2.2.1
abbrev cx_b (X : TCx) : List Frame := X.2.2.2.2.2.2.2.1
abbrev cx_M (X : TCx) : Method := X.2.2.2.2.2.2.2.2.1
abbrev cx_c (X : TCx) : Code := X.2.2.2.2.2.2.2.2.2.1
abbrev cx_Q (X : TCx) : State → Prop := X.2.2.2.2.2.2.2.2.2.2.1
abbrev cx_A (X : TCx) : Nat → Prop := X.2.2.2.2.2.2.2.2.2.2.2.1
abbrev cx_D (X : TCx) : va_G := X.2.2.2.2.2.2.2.2.2.2.2.2.1
abbrev cx_C (X : TCx) : List vw_C := X.2.2.2.2.2.2.2.2.2.2.2.2.2.1
abbrev cx_n (X : TCx) : Nat := X.2.2.2.2.2.2.2.2.2.2.2.2.2.2
abbrev TWx (X : TCx) (H : Heap) (locs : List Loc) (n k : Nat) (g : JFrame) : Prop := W (cx_p X) (cx_l X) (cx_e X) (cx_R X) (cx_s X) (cx_m X) (cx_a X) (cx_b X) (cx_M X) (cx_c X) H locs n k (cx_Q X) g
def TGo (X : TCx) (ws : va_W) (n k pc : Nat) (lv : List (Nat × Value)) (st : List Value) : Prop :=
  ∀ (H : Heap) (locs : List Loc) (ls : Array Slot), va_P (cx_D X) (cx_C X) ws H → va_D (cx_A X) ws → va_S (cx_A X) (cx_s X).heap H locs → lv_has ls (cx_n X) lv → TWx X H locs n k (F0 (cx_m X) pc ls st)
/-- what a method may count on besides its cells: the statics, the nest; it must stay as the heap goes on -/
abbrev TEn : Type := (Nat → Prop) → State → Prop
def TOk (X : TCx) (cc : ByteArray) (own : String) (rm : Room) (nL : Nat) (cl : List vw_C) (E : TEn) : Prop :=
  (cx_p X).tables.exec = Jvm.exec ∧ (cx_c X).code = cc ∧ (cx_c X).maxLocals = nL ∧ cx_n X = nL ∧ (cx_s X).vm.findClass own = some (cx_m X).cls ∧ (∀ w ∈ Gw, w.before (cx_a X) (cx_s X) = true) ∧ (∀ q, (cx_s X).heap.size ≤ q → cx_A X q) ∧ cx_R X = rm ∧ cx_C X = cl ∧ E (cx_A X) (cx_s X)
def TKn (X : TCx) (tys : List (ClassId × FieldType)) : Prop := va_K (cx_D X) (cx_C X) tys (cx_s X)
section GO
variable {X : TCx} {cc : ByteArray} {own : String} {rm : Room} {nL : Nat} {ws : va_W} {n k pc : Nat} {lv : List (Nat × Value)} {st : List Value} {tys : List (ClassId × FieldType)} {cl : List vw_C} {E : TEn}
theorem TWx_vi {H : Heap} {locs : List Loc} {ls : Array Slot} {x y : Int32} (e : x = y) (h : TWx X H locs n k (F0 (cx_m X) pc ls (.int y :: st))) : TWx X H locs n k (F0 (cx_m X) pc ls (.int x :: st)) := e ▸ h
theorem TWx_vl {H : Heap} {locs : List Loc} {ls : Array Slot} {x y : Int64} (e : x = y) (h : TWx X H locs n k (F0 (cx_m X) pc ls (.long y :: st))) : TWx X H locs n k (F0 (cx_m X) pc ls (.long x :: st)) := e ▸ h
theorem iI_cl {j : Nat} (h : j < 2147483648) : (iI (j : Int)).toNatClampNeg = j := by rw [iI_nat, nI_clamp (by omega)]
theorem iI_in {j N : Nat} (h : j < N) (hN : N < 2147483648) : vp_in (iI (j : Int)) N := by rw [iI_nat]; exact vp_in_nI h hN
theorem TGo.sub {ws' : va_W} (is : List Nat) (hn : va_nd is = true) (hs : is.map (fun i => ws[i]?) = ws'.map some) (h : TGo X ws' n k pc lv st) : TGo X ws n k pc lv st := by
  intro H locs ls hP hD hS hl
  refine h H locs ls (fun j q hj => ?_) (hD.sub is hn hs) hS hl
  have h1 : (is.map (fun i => ws[i]?))[j]? = some (some q) := by rw [hs, List.getElem?_map, hj]; rfl
  rw [List.getElem?_map] at h1
  cases hi : is[j]? with
  | none => rw [hi] at h1; cases h1
  | some i => rw [hi] at h1; exact hP i q (Option.some.inj h1)
theorem TGo.lsub {lv' : List (Nat × Value)} (ks : List Nat) (hk : lv_pick lv ks = lv') (h : TGo X ws n k pc lv' st) : TGo X ws n k pc lv st :=
  fun H locs ls hP hD hS hl => h H locs ls hP hD hS (lv_sub hl ks hk)
theorem TGo.eqw {ws' : va_W} (e : ws = ws') (h : TGo X ws' n k pc lv st) : TGo X ws n k pc lv st := e ▸ h
theorem vp_cell_ext (cA : ClassId) (N : Nat) {f g : Nat → Int32} (h : ∀ i, i < N → f i = g i) : vp_cell cA (N, .inl f) = vp_cell cA (N, .inl g) := by
  rw [vp_cell_i, vp_cell_i]
  unfold arrV
  congr 2
  funext j
  exact congrArg Value.int (h j.val j.isLt)
theorem vp_cell_extL (cA : ClassId) (N : Nat) {f g : Nat → Int64} (h : ∀ i, i < N → f i = g i) : vp_cell cA (N, .inr (.inl f)) = vp_cell cA (N, .inr (.inl g)) := by
  rw [vp_cell_l, vp_cell_l]
  unfold arrV
  congr 2
  funext j
  exact congrArg Value.long (h j.val j.isLt)
theorem va_P_ext {D : va_G} {cl : List vw_C} {q0 a : Nat} {e e' : va_E} {H : Heap} (hq : q0 < ws.length) (h : va_P D cl (ws.set q0 (a, e)) H) (he : va_at D cl (a, e) H → va_at D cl (a, e') H) : va_P D cl (ws.set q0 (a, e')) H := by
  intro j q hj
  by_cases hjq : j = q0
  · subst hjq
    rw [List.getElem?_set_self hq] at hj
    cases hj
    exact he (h j (a, e) (List.getElem?_set_self hq))
  · rw [List.getElem?_set_ne (Ne.symm hjq)] at hj
    exact h j q (by rw [List.getElem?_set_ne (Ne.symm hjq)]; exact hj)
/-- another picture of an int array, equal below its length -/
theorem TGo.arr (q0 : Nat) {a : Nat} {cA : ClassId} {N : Nat} {f : Nat → Int32} (hq : ws[q0]? = some (a, .inl (cA, N, .inl f))) (g : Nat → Int32) (hg : ∀ i, i < N → f i = g i) {ws' : va_W} (hw : ws.set q0 (a, .inl (cA, N, .inl g)) = ws') (h : TGo X ws' n k pc lv st) : TGo X ws n k pc lv st := by
  subst hw
  intro H locs ls hP hD hS hl
  have hlt := (List.getElem?_eq_some_iff.mp hq).1
  refine h H locs ls ?_ (va_D.set hD hq) hS hl
  intro j q hj
  by_cases hjq : j = q0
  · subst hjq
    rw [List.getElem?_set_self hlt] at hj
    cases hj
    have h1 : H[a]? = some (vp_cell cA (N, .inl f)) := hP j _ hq
    show H[a]? = some (vp_cell cA (N, .inl g))
    rw [h1, vp_cell_ext cA N hg]
  · rw [List.getElem?_set_ne (Ne.symm hjq)] at hj
    exact hP j q hj

theorem go_iconst (O : TOk X cc own rm nL cl E) {z : Int} (hd : decode cc pc = .ok (.iconst z, 1))  (pc' : Nat) (hp : pc + 1 = pc') (h : TGo X ws n k pc' lv (.int (iI z) :: st)) : TGo X ws n k pc lv st := by
  subst hp
  intro H locs ls hP hD hS hl
  exact lv_iconst O.1 O.2.1 hd rfl (h H locs ls hP hD hS hl)
theorem go_bipush (O : TOk X cc own rm nL cl E) {z : Int} (hd : decode cc pc = .ok (.bipush z, 2)) (hv : (Int8.ofInt z).toInt32 = iI z) (pc' : Nat) (hp : pc + 2 = pc') (h : TGo X ws n k pc' lv (.int (iI z) :: st)) : TGo X ws n k pc lv st := by
  subst hp
  intro H locs ls hP hD hS hl
  exact lv_bipush O.1 O.2.1 hd hv (h H locs ls hP hD hS hl)
theorem go_sipush (O : TOk X cc own rm nL cl E) {z : Int} (hd : decode cc pc = .ok (.sipush z, 3)) (hv : (Int16.ofInt z).toInt32 = iI z) (pc' : Nat) (hp : pc + 3 = pc') (h : TGo X ws n k pc' lv (.int (iI z) :: st)) : TGo X ws n k pc lv st := by
  subst hp
  intro H locs ls hP hD hS hl
  exact lv_sipush O.1 O.2.1 hd hv (h H locs ls hP hD hS hl)
theorem go_lconst (O : TOk X cc own rm nL cl E) {c : Fin 2} (hd : decode cc pc = .ok (.lconst c, 1)) (z : Int) (hv : Int64.ofNat (c : Nat) = lI z) (pc' : Nat) (hp : pc + 1 = pc') (h : TGo X ws n k pc' lv (.long (lI z) :: st)) : TGo X ws n k pc lv st := by
  subst hp
  intro H locs ls hP hD hS hl
  exact lv_lconst O.1 O.2.1 hd hv (h H locs ls hP hD hS hl)
theorem go_ldc (O : TOk X cc own rm nL cl E) {index : Nat} {v : Int32} (hd : decode cc pc = .ok (.ldc index, 2)) (z : Int) (hw : Cond.constant own index v ∈ Gw) (hv : v = iI z) (pc' : Nat) (hp : pc + 2 = pc') (h : TGo X ws n k pc' lv (.int (iI z) :: st)) : TGo X ws n k pc lv st := by
  subst hp
  intro H locs ls hP hD hS hl
  exact lv_ldc O.1 O.2.1 O.2.2.2.2.1 (hv ▸ O.2.2.2.2.2.1 _ hw) hd (h H locs ls hP hD hS hl)
theorem go_ldc2 (O : TOk X cc own rm nL cl E) {index : Nat} {v : Int64} (hd : decode cc pc = .ok (.ldc2_w index, 3)) (z : Int) (hw : Cond.constantLong own index v ∈ Gw) (hv : v = lI z) (pc' : Nat) (hp : pc + 3 = pc') (h : TGo X ws n k pc' lv (.long (lI z) :: st)) : TGo X ws n k pc lv st := by
  subst hp
  intro H locs ls hP hD hS hl
  exact lv_ldc2 O.1 O.2.1 O.2.2.2.2.1 (hv ▸ O.2.2.2.2.2.1 _ hw) hd (h H locs ls hP hD hS hl)
theorem go_iload_n (O : TOk X cc own rm nL cl E) {i : Nat} {x : Int32} {q : Fin 4} (hd : decode cc pc = .ok (.iload_n q, 1)) (hi : (q : Nat) = i) (j : Nat) (hj : lv[j]? = some (i, .int x)) (pc' : Nat) (hp : pc + 1 = pc') (h : TGo X ws n k pc' lv (.int x :: st)) : TGo X ws n k pc lv st := by
  subst hp
  intro H locs ls hP hD hS hl
  exact lv_iload_n O.1 O.2.1 hd hi (lv_at hl j hj) (h H locs ls hP hD hS hl)
theorem go_iload (O : TOk X cc own rm nL cl E) {i : Nat} {x : Int32} (hd : decode cc pc = .ok (.iload i, 2)) (j : Nat) (hj : lv[j]? = some (i, .int x)) (pc' : Nat) (hp : pc + 2 = pc') (h : TGo X ws n k pc' lv (.int x :: st)) : TGo X ws n k pc lv st := by
  subst hp
  intro H locs ls hP hD hS hl
  exact lv_iload O.1 O.2.1 hd (lv_at hl j hj) (h H locs ls hP hD hS hl)
theorem go_lload_n (O : TOk X cc own rm nL cl E) {i : Nat} {x : Int64} {q : Fin 4} (hd : decode cc pc = .ok (.lload_n q, 1)) (hi : (q : Nat) = i) (j : Nat) (hj : lv[j]? = some (i, .long x)) (pc' : Nat) (hp : pc + 1 = pc') (h : TGo X ws n k pc' lv (.long x :: st)) : TGo X ws n k pc lv st := by
  subst hp
  intro H locs ls hP hD hS hl
  exact lv_lload_n O.1 O.2.1 hd hi (lv_at hl j hj) (h H locs ls hP hD hS hl)
theorem go_lload (O : TOk X cc own rm nL cl E) {i : Nat} {x : Int64} (hd : decode cc pc = .ok (.lload i, 2)) (j : Nat) (hj : lv[j]? = some (i, .long x)) (pc' : Nat) (hp : pc + 2 = pc') (h : TGo X ws n k pc' lv (.long x :: st)) : TGo X ws n k pc lv st := by
  subst hp
  intro H locs ls hP hD hS hl
  exact lv_lload O.1 O.2.1 hd (lv_at hl j hj) (h H locs ls hP hD hS hl)
theorem go_aload_n (O : TOk X cc own rm nL cl E) {i : Nat} {x : Nat} {q : Fin 4} (hd : decode cc pc = .ok (.aload_n q, 1)) (hi : (q : Nat) = i) (j : Nat) (hj : lv[j]? = some (i, .ref x)) (pc' : Nat) (hp : pc + 1 = pc') (h : TGo X ws n k pc' lv (.ref x :: st)) : TGo X ws n k pc lv st := by
  subst hp
  intro H locs ls hP hD hS hl
  exact lv_aload_n O.1 O.2.1 hd hi (lv_at hl j hj) (h H locs ls hP hD hS hl)
theorem go_aload (O : TOk X cc own rm nL cl E) {i : Nat} {x : Nat} (hd : decode cc pc = .ok (.aload i, 2)) (j : Nat) (hj : lv[j]? = some (i, .ref x)) (pc' : Nat) (hp : pc + 2 = pc') (h : TGo X ws n k pc' lv (.ref x :: st)) : TGo X ws n k pc lv st := by
  subst hp
  intro H locs ls hP hD hS hl
  exact lv_aload O.1 O.2.1 hd (lv_at hl j hj) (h H locs ls hP hD hS hl)
theorem go_istore_n (O : TOk X cc own rm nL cl E) {i : Nat} {x : Int32} {q : Fin 4} (hd : decode cc pc = .ok (.istore_n q, 1)) (hi : (q : Nat) = i) (hn : i < nL) (lv' : List (Nat × Value)) (hl' : (i, Value.int x) :: lv.filter (fun q => !(q.1 == i) && !(q.1 + 1 == i && q.2.category == 2)) = lv') (pc' : Nat) (hp : pc + 1 = pc') (h : TGo X ws n k pc' lv' st) : TGo X ws n k pc lv (.int x :: st) := by
  subst hp
  intro H locs ls hP hD hS hl
  exact lv_istore_n O.1 O.2.1 hd hi hl (by rw [O.2.2.2.1]; exact hn) hl' (fun ls' h' => h H locs ls' hP hD hS h')
theorem go_istore (O : TOk X cc own rm nL cl E) {i : Nat} {x : Int32} (hd : decode cc pc = .ok (.istore i, 2)) (hn : i < nL) (lv' : List (Nat × Value)) (hl' : (i, Value.int x) :: lv.filter (fun q => !(q.1 == i) && !(q.1 + 1 == i && q.2.category == 2)) = lv') (pc' : Nat) (hp : pc + 2 = pc') (h : TGo X ws n k pc' lv' st) : TGo X ws n k pc lv (.int x :: st) := by
  subst hp
  intro H locs ls hP hD hS hl
  exact lv_istore O.1 O.2.1 hd hl (by rw [O.2.2.2.1]; exact hn) hl' (fun ls' h' => h H locs ls' hP hD hS h')
theorem go_lstore_n (O : TOk X cc own rm nL cl E) {i : Nat} {x : Int64} {q : Fin 4} (hd : decode cc pc = .ok (.lstore_n q, 1)) (hi : (q : Nat) = i) (hn : i + 1 < nL) (lv' : List (Nat × Value)) (hl' : (i, Value.long x) :: lv.filter (fun q => !(q.1 == i) && (!(q.1 == i + 1) && !(q.1 + 1 == i && q.2.category == 2))) = lv') (pc' : Nat) (hp : pc + 1 = pc') (h : TGo X ws n k pc' lv' st) : TGo X ws n k pc lv (.long x :: st) := by
  subst hp
  intro H locs ls hP hD hS hl
  exact lv_lstore_n O.1 O.2.1 hd hi hl (by rw [O.2.2.2.1]; exact hn) hl' (fun ls' h' => h H locs ls' hP hD hS h')
theorem go_lstore (O : TOk X cc own rm nL cl E) {i : Nat} {x : Int64} (hd : decode cc pc = .ok (.lstore i, 2)) (hn : i + 1 < nL) (lv' : List (Nat × Value)) (hl' : (i, Value.long x) :: lv.filter (fun q => !(q.1 == i) && (!(q.1 == i + 1) && !(q.1 + 1 == i && q.2.category == 2))) = lv') (pc' : Nat) (hp : pc + 2 = pc') (h : TGo X ws n k pc' lv' st) : TGo X ws n k pc lv (.long x :: st) := by
  subst hp
  intro H locs ls hP hD hS hl
  exact lv_lstore O.1 O.2.1 hd hl (by rw [O.2.2.2.1]; exact hn) hl' (fun ls' h' => h H locs ls' hP hD hS h')
theorem go_astore_n (O : TOk X cc own rm nL cl E) {i : Nat} {x : Nat} {q : Fin 4} (hd : decode cc pc = .ok (.astore_n q, 1)) (hi : (q : Nat) = i) (hn : i < nL) (lv' : List (Nat × Value)) (hl' : (i, Value.ref x) :: lv.filter (fun q => !(q.1 == i) && !(q.1 + 1 == i && q.2.category == 2)) = lv') (pc' : Nat) (hp : pc + 1 = pc') (h : TGo X ws n k pc' lv' st) : TGo X ws n k pc lv (.ref x :: st) := by
  subst hp
  intro H locs ls hP hD hS hl
  exact lv_astore_n O.1 O.2.1 hd hi hl (by rw [O.2.2.2.1]; exact hn) hl' (fun ls' h' => h H locs ls' hP hD hS h')
theorem go_astore (O : TOk X cc own rm nL cl E) {i : Nat} {x : Nat} (hd : decode cc pc = .ok (.astore i, 2)) (hn : i < nL) (lv' : List (Nat × Value)) (hl' : (i, Value.ref x) :: lv.filter (fun q => !(q.1 == i) && !(q.1 + 1 == i && q.2.category == 2)) = lv') (pc' : Nat) (hp : pc + 2 = pc') (h : TGo X ws n k pc' lv' st) : TGo X ws n k pc lv (.ref x :: st) := by
  subst hp
  intro H locs ls hP hD hS hl
  exact lv_astore O.1 O.2.1 hd hl (by rw [O.2.2.2.1]; exact hn) hl' (fun ls' h' => h H locs ls' hP hD hS h')
theorem go_iinc (O : TOk X cc own rm nL cl E) {i : Nat} {a c : Int} (hd : decode cc pc = .ok (.iinc i c, 3)) (j : Nat) (hj : lv[j]? = some (i, .int (iI a))) (z : Int) (hz : a + c = z) (hn : i < nL) (lv' : List (Nat × Value)) (hl' : (i, Value.int (iI z)) :: lv.filter (fun q => !(q.1 == i) && !(q.1 + 1 == i && q.2.category == 2)) = lv') (pc' : Nat) (hp : pc + 3 = pc') (h : TGo X ws n k pc' lv' st) : TGo X ws n k pc lv st := by
  subst hp
  intro H locs ls hP hD hS hl
  exact lv_iinc O.1 O.2.1 hd hl hj (by rw [← hz, ← iI_add]; rfl) (by rw [O.2.2.2.1]; exact hn) hl' (fun ls' h' => h H locs ls' hP hD hS h')
theorem go_iadd (O : TOk X cc own rm nL cl E) {a b : Int} (hd : decode cc pc = .ok (.iadd, 1)) (z : Int) (hz : a + b = z) (pc' : Nat) (hp : pc + 1 = pc') (h : TGo X ws n k pc' lv (.int (iI z) :: st)) : TGo X ws n k pc lv (.int (iI b) :: .int (iI a) :: st) := by
  subst hp
  intro H locs ls hP hD hS hl
  exact lv_iadd O.1 O.2.1 hd (TWx_vi (by rw [iI_add, hz]) (h H locs ls hP hD hS hl))
theorem go_isub (O : TOk X cc own rm nL cl E) {a b : Int} (hd : decode cc pc = .ok (.isub, 1)) (z : Int) (hz : a - b = z) (pc' : Nat) (hp : pc + 1 = pc') (h : TGo X ws n k pc' lv (.int (iI z) :: st)) : TGo X ws n k pc lv (.int (iI b) :: .int (iI a) :: st) := by
  subst hp
  intro H locs ls hP hD hS hl
  exact lv_isub O.1 O.2.1 hd (TWx_vi (by rw [iI_sub, hz]) (h H locs ls hP hD hS hl))
theorem go_imul (O : TOk X cc own rm nL cl E) {a b : Int} (hd : decode cc pc = .ok (.imul, 1)) (z : Int) (hz : a * b = z) (pc' : Nat) (hp : pc + 1 = pc') (h : TGo X ws n k pc' lv (.int (iI z) :: st)) : TGo X ws n k pc lv (.int (iI b) :: .int (iI a) :: st) := by
  subst hp
  intro H locs ls hP hD hS hl
  exact lv_imul O.1 O.2.1 hd (TWx_vi (by rw [iI_mul, hz]) (h H locs ls hP hD hS hl))
theorem go_ladd (O : TOk X cc own rm nL cl E) {a b : Int} (hd : decode cc pc = .ok (.ladd, 1)) (z : Int) (hz : a + b = z) (pc' : Nat) (hp : pc + 1 = pc') (h : TGo X ws n k pc' lv (.long (lI z) :: st)) : TGo X ws n k pc lv (.long (lI b) :: .long (lI a) :: st) := by
  subst hp
  intro H locs ls hP hD hS hl
  exact lv_ladd O.1 O.2.1 hd (TWx_vl (by rw [lI_add, hz]) (h H locs ls hP hD hS hl))
theorem go_lsub (O : TOk X cc own rm nL cl E) {a b : Int} (hd : decode cc pc = .ok (.lsub, 1)) (z : Int) (hz : a - b = z) (pc' : Nat) (hp : pc + 1 = pc') (h : TGo X ws n k pc' lv (.long (lI z) :: st)) : TGo X ws n k pc lv (.long (lI b) :: .long (lI a) :: st) := by
  subst hp
  intro H locs ls hP hD hS hl
  exact lv_lsub O.1 O.2.1 hd (TWx_vl (by rw [lI_sub, hz]) (h H locs ls hP hD hS hl))
theorem go_lmul (O : TOk X cc own rm nL cl E) {a b : Int} (hd : decode cc pc = .ok (.lmul, 1)) (z : Int) (hz : a * b = z) (pc' : Nat) (hp : pc + 1 = pc') (h : TGo X ws n k pc' lv (.long (lI z) :: st)) : TGo X ws n k pc lv (.long (lI b) :: .long (lI a) :: st) := by
  subst hp
  intro H locs ls hP hD hS hl
  exact lv_lmul O.1 O.2.1 hd (TWx_vl (by rw [lI_mul, hz]) (h H locs ls hP hD hS hl))
theorem go_ineg (O : TOk X cc own rm nL cl E) {a : Int} (hd : decode cc pc = .ok (.ineg, 1)) (z : Int) (hz : -a = z) (pc' : Nat) (hp : pc + 1 = pc') (h : TGo X ws n k pc' lv (.int (iI z) :: st)) : TGo X ws n k pc lv (.int (iI a) :: st) := by
  subst hp
  intro H locs ls hP hD hS hl
  exact lv_ineg O.1 O.2.1 hd (TWx_vi (by rw [iI_neg, hz]) (h H locs ls hP hD hS hl))
theorem go_lneg (O : TOk X cc own rm nL cl E) {a : Int} (hd : decode cc pc = .ok (.lneg, 1)) (z : Int) (hz : -a = z) (pc' : Nat) (hp : pc + 1 = pc') (h : TGo X ws n k pc' lv (.long (lI z) :: st)) : TGo X ws n k pc lv (.long (lI a) :: st) := by
  subst hp
  intro H locs ls hP hD hS hl
  exact lv_lneg O.1 O.2.1 hd (TWx_vl (by rw [lI_neg, hz]) (h H locs ls hP hD hS hl))
theorem go_iand (O : TOk X cc own rm nL cl E) {a b : Int} (hd : decode cc pc = .ok (.iand, 1)) (z : Int) (hz : iI a &&& iI b = iI z) (pc' : Nat) (hp : pc + 1 = pc') (h : TGo X ws n k pc' lv (.int (iI z) :: st)) : TGo X ws n k pc lv (.int (iI b) :: .int (iI a) :: st) := by
  subst hp
  intro H locs ls hP hD hS hl
  exact lv_iand O.1 O.2.1 hd (TWx_vi hz (h H locs ls hP hD hS hl))
theorem go_ior (O : TOk X cc own rm nL cl E) {a b : Int} (hd : decode cc pc = .ok (.ior, 1)) (z : Int) (hz : iI a ||| iI b = iI z) (pc' : Nat) (hp : pc + 1 = pc') (h : TGo X ws n k pc' lv (.int (iI z) :: st)) : TGo X ws n k pc lv (.int (iI b) :: .int (iI a) :: st) := by
  subst hp
  intro H locs ls hP hD hS hl
  exact lv_ior O.1 O.2.1 hd (TWx_vi hz (h H locs ls hP hD hS hl))
theorem go_land (O : TOk X cc own rm nL cl E) {a b : Int} (hd : decode cc pc = .ok (.land, 1)) (z : Int) (hz : lI a &&& lI b = lI z) (pc' : Nat) (hp : pc + 1 = pc') (h : TGo X ws n k pc' lv (.long (lI z) :: st)) : TGo X ws n k pc lv (.long (lI b) :: .long (lI a) :: st) := by
  subst hp
  intro H locs ls hP hD hS hl
  exact lv_land O.1 O.2.1 hd (TWx_vl hz (h H locs ls hP hD hS hl))
theorem go_lor (O : TOk X cc own rm nL cl E) {a b : Int} (hd : decode cc pc = .ok (.lor, 1)) (z : Int) (hz : lI a ||| lI b = lI z) (pc' : Nat) (hp : pc + 1 = pc') (h : TGo X ws n k pc' lv (.long (lI z) :: st)) : TGo X ws n k pc lv (.long (lI b) :: .long (lI a) :: st) := by
  subst hp
  intro H locs ls hP hD hS hl
  exact lv_lor O.1 O.2.1 hd (TWx_vl hz (h H locs ls hP hD hS hl))
theorem go_idiv (O : TOk X cc own rm nL cl E) {a b : Int} (hd : decode cc pc = .ok (.idiv, 1)) (ha : 0 ≤ a) (ha2 : a < 2147483648) (hb : 0 < b) (hb2 : b < 2147483648) (z : Int) (hz : a / b = z) (pc' : Nat) (hp : pc + 1 = pc') (h : TGo X ws n k pc' lv (.int (iI z) :: st)) : TGo X ws n k pc lv (.int (iI b) :: .int (iI a) :: st) := by
  subst hp
  intro H locs ls hP hD hS hl
  exact lv_idiv O.1 O.2.1 hd (by
    intro q
    have := (iI_inj ⟨by omega, hb2⟩ r32_0).mp (q.trans iI_0.symm)
    omega) (TWx_vi (by rw [iI_div ha ha2 hb hb2, hz]) (h H locs ls hP hD hS hl))
theorem go_irem (O : TOk X cc own rm nL cl E) {a b : Int} (hd : decode cc pc = .ok (.irem, 1)) (ha : 0 ≤ a) (ha2 : a < 2147483648) (hb : 0 < b) (hb2 : b < 2147483648) (z : Int) (hz : a % b = z) (pc' : Nat) (hp : pc + 1 = pc') (h : TGo X ws n k pc' lv (.int (iI z) :: st)) : TGo X ws n k pc lv (.int (iI b) :: .int (iI a) :: st) := by
  subst hp
  intro H locs ls hP hD hS hl
  exact lv_irem O.1 O.2.1 hd (by
    intro q
    have := (iI_inj ⟨by omega, hb2⟩ r32_0).mp (q.trans iI_0.symm)
    omega) (TWx_vi (by rw [iI_rem ha ha2 hb hb2, hz]) (h H locs ls hP hD hS hl))
theorem go_ldiv (O : TOk X cc own rm nL cl E) {a b : Int} (hd : decode cc pc = .ok (.ldiv, 1)) (ha : r64 a) (hb : r64 b) (h0 : b ≠ 0) (h1 : b ≠ -1) (z : Int) (hz : a.tdiv b = z) (pc' : Nat) (hp : pc + 1 = pc') (h : TGo X ws n k pc' lv (.long (lI z) :: st)) : TGo X ws n k pc lv (.long (lI b) :: .long (lI a) :: st) := by
  subst hp
  intro H locs ls hP hD hS hl
  exact lv_ldiv O.1 O.2.1 hd (by
    intro q
    have := (lI_inj hb ⟨by omega, by omega⟩).mp (q.trans lI_0.symm)
    omega) (TWx_vl (by rw [lI_quo ha hb h1, hz]) (h H locs ls hP hD hS hl))
theorem go_lrem (O : TOk X cc own rm nL cl E) {a b : Int} (hd : decode cc pc = .ok (.lrem, 1)) (ha : r64 a) (hb : r64 b) (h0 : b ≠ 0) (h1 : b ≠ -1) (z : Int) (hz : a.tmod b = z) (pc' : Nat) (hp : pc + 1 = pc') (h : TGo X ws n k pc' lv (.long (lI z) :: st)) : TGo X ws n k pc lv (.long (lI b) :: .long (lI a) :: st) := by
  subst hp
  intro H locs ls hP hD hS hl
  exact lv_lrem O.1 O.2.1 hd (by
    intro q
    have := (lI_inj hb ⟨by omega, by omega⟩).mp (q.trans lI_0.symm)
    omega) (TWx_vl (by rw [lI_mod ha hb h1, hz]) (h H locs ls hP hD hS hl))
theorem go_i2l (O : TOk X cc own rm nL cl E) {a : Int} (hd : decode cc pc = .ok (.i2l, 1)) (ha : r32 a) (pc' : Nat) (hp : pc + 1 = pc') (h : TGo X ws n k pc' lv (.long (lI a) :: st)) : TGo X ws n k pc lv (.int (iI a) :: st) := by
  subst hp
  intro H locs ls hP hD hS hl
  exact lv_i2l O.1 O.2.1 hd (iI_64 ha) (h H locs ls hP hD hS hl)
theorem go_l2i (O : TOk X cc own rm nL cl E) {a : Int} (hd : decode cc pc = .ok (.l2i, 1))  (pc' : Nat) (hp : pc + 1 = pc') (h : TGo X ws n k pc' lv (.int (iI a) :: st)) : TGo X ws n k pc lv (.long (lI a) :: st) := by
  subst hp
  intro H locs ls hP hD hS hl
  exact lv_l2i O.1 O.2.1 hd (lI_32 a) (h H locs ls hP hD hS hl)
theorem go_lshl (O : TOk X cc own rm nL cl E) {a : Int} {b : Int} (hd : decode cc pc = .ok (.lshl, 1)) (z : Int) (hz : lI a <<< ((iI b).toInt64 &&& 63) = lI z) (pc' : Nat) (hp : pc + 1 = pc') (h : TGo X ws n k pc' lv (.long (lI z) :: st)) : TGo X ws n k pc lv (.int (iI b) :: .long (lI a) :: st) := by
  subst hp
  intro H locs ls hP hD hS hl
  exact lv_lshl O.1 O.2.1 hd hz (h H locs ls hP hD hS hl)
theorem go_lcmp (O : TOk X cc own rm nL cl E) {a b : Int} (hd : decode cc pc = .ok (.lcmp, 1)) (ha : r64 a) (hb : r64 b) (pc' : Nat) (hp : pc + 1 = pc') (h : TGo X ws n k pc' lv (.int (iI (cmpZ a b)) :: st)) : TGo X ws n k pc lv (.long (lI b) :: .long (lI a) :: st) := by
  subst hp
  intro H locs ls hP hD hS hl
  exact W.lcmp O.1 O.2.1 hd (TWx_vi (lI_cmp ha hb) (h H locs ls hP hD hS hl))
theorem go_dup (O : TOk X cc own rm nL cl E) {v : Value} (hd : decode cc pc = .ok (.dup, 1)) (hv : v.category = 1) (pc' : Nat) (hp : pc + 1 = pc') (h : TGo X ws n k pc' lv (v :: v :: st)) : TGo X ws n k pc lv (v :: st) := by
  subst hp
  intro H locs ls hP hD hS hl
  exact lv_dup O.1 O.2.1 hd hv (h H locs ls hP hD hS hl)
theorem go_pop (O : TOk X cc own rm nL cl E) {v : Value} (hd : decode cc pc = .ok (.pop, 1)) (hv : v.category = 1) (pc' : Nat) (hp : pc + 1 = pc') (h : TGo X ws n k pc' lv st) : TGo X ws n k pc lv (v :: st) := by
  subst hp
  intro H locs ls hP hD hS hl
  exact lv_pop O.1 O.2.1 hd hv (h H locs ls hP hD hS hl)
theorem go_dup_x1 (O : TOk X cc own rm nL cl E) {v u : Value} (hd : decode cc pc = .ok (.dup_x1, 1)) (hv : v.category = 1) (hu : u.category = 1) (pc' : Nat) (hp : pc + 1 = pc') (h : TGo X ws n k pc' lv (v :: u :: v :: st)) : TGo X ws n k pc lv (v :: u :: st) := by
  subst hp
  intro H locs ls hP hD hS hl
  exact lv_dup_x1 O.1 O.2.1 hd hv hu (h H locs ls hP hD hS hl)
theorem go_dup2_11 (O : TOk X cc own rm nL cl E) {v u : Value} (hd : decode cc pc = .ok (.dup2, 1)) (hv : v.category = 1) (hu : u.category = 1) (pc' : Nat) (hp : pc + 1 = pc') (h : TGo X ws n k pc' lv (v :: u :: v :: u :: st)) : TGo X ws n k pc lv (v :: u :: st) := by
  subst hp
  intro H locs ls hP hD hS hl
  exact lv_dup2_11 O.1 O.2.1 hd hv hu (h H locs ls hP hD hS hl)
theorem go_dup2_2 (O : TOk X cc own rm nL cl E) {v : Value} (hd : decode cc pc = .ok (.dup2, 1)) (hv : v.category = 2) (pc' : Nat) (hp : pc + 1 = pc') (h : TGo X ws n k pc' lv (v :: v :: st)) : TGo X ws n k pc lv (v :: st) := by
  subst hp
  intro H locs ls hP hD hS hl
  exact lv_dup2_2 O.1 O.2.1 hd hv (h H locs ls hP hD hS hl)
theorem go_pop2_2 (O : TOk X cc own rm nL cl E) {v : Value} (hd : decode cc pc = .ok (.pop2, 1)) (hv : v.category = 2) (pc' : Nat) (hp : pc + 1 = pc') (h : TGo X ws n k pc' lv st) : TGo X ws n k pc lv (v :: st) := by
  subst hp
  intro H locs ls hP hD hS hl
  exact lv_pop2_2 O.1 O.2.1 hd hv (h H locs ls hP hD hS hl)
theorem go_if_eq (O : TOk X cc own rm nL cl E) {a off : Int} (hd : decode cc pc = .ok (.ifCond .eq off, 3)) (tgt : Nat) (ht : (pc : Int) + off = (tgt : Int)) (pc' : Nat) (hp : pc + 3 = pc') (ha : r32 a) (h1 : a = 0 → TGo X ws n k tgt lv st) (h2 : ¬ a = 0 → TGo X ws n k pc' lv st) : TGo X ws n k pc lv (.int (iI a) :: st) := by
  subst hp
  intro H locs ls hP hD hS hl
  exact lv_if_eq O.1 O.2.1 hd ht (fun q => h1 ((iI_inj ha r32_0).mp q) H locs ls hP hD hS hl) (fun q => h2 (fun e => q ((iI_inj ha r32_0).mpr e)) H locs ls hP hD hS hl)
theorem go_if_ne (O : TOk X cc own rm nL cl E) {a off : Int} (hd : decode cc pc = .ok (.ifCond .ne off, 3)) (tgt : Nat) (ht : (pc : Int) + off = (tgt : Int)) (pc' : Nat) (hp : pc + 3 = pc') (ha : r32 a) (h1 : ¬ a = 0 → TGo X ws n k tgt lv st) (h2 : a = 0 → TGo X ws n k pc' lv st) : TGo X ws n k pc lv (.int (iI a) :: st) := by
  subst hp
  intro H locs ls hP hD hS hl
  exact lv_if_ne O.1 O.2.1 hd ht (fun q => h1 (fun e => q ((iI_inj ha r32_0).mpr e)) H locs ls hP hD hS hl) (fun q => h2 ((iI_inj ha r32_0).mp q) H locs ls hP hD hS hl)
theorem go_if_lt (O : TOk X cc own rm nL cl E) {a off : Int} (hd : decode cc pc = .ok (.ifCond .lt off, 3)) (tgt : Nat) (ht : (pc : Int) + off = (tgt : Int)) (pc' : Nat) (hp : pc + 3 = pc') (ha : r32 a) (h1 : a < 0 → TGo X ws n k tgt lv st) (h2 : 0 ≤ a → TGo X ws n k pc' lv st) : TGo X ws n k pc lv (.int (iI a) :: st) := by
  subst hp
  intro H locs ls hP hD hS hl
  exact lv_if_lt O.1 O.2.1 hd ht (fun q => h1 ((iI_lt ha r32_0).mp q) H locs ls hP hD hS hl) (fun q => h2 (Int.not_lt.mp fun e => q ((iI_lt ha r32_0).mpr e)) H locs ls hP hD hS hl)
theorem go_if_ge (O : TOk X cc own rm nL cl E) {a off : Int} (hd : decode cc pc = .ok (.ifCond .ge off, 3)) (tgt : Nat) (ht : (pc : Int) + off = (tgt : Int)) (pc' : Nat) (hp : pc + 3 = pc') (ha : r32 a) (h1 : 0 ≤ a → TGo X ws n k tgt lv st) (h2 : a < 0 → TGo X ws n k pc' lv st) : TGo X ws n k pc lv (.int (iI a) :: st) := by
  subst hp
  intro H locs ls hP hD hS hl
  exact lv_if_ge O.1 O.2.1 hd ht (fun q => h1 ((iI_le r32_0 ha).mp q) H locs ls hP hD hS hl) (fun q => h2 (Int.not_le.mp fun e => q ((iI_le r32_0 ha).mpr e)) H locs ls hP hD hS hl)
theorem go_if_gt (O : TOk X cc own rm nL cl E) {a off : Int} (hd : decode cc pc = .ok (.ifCond .gt off, 3)) (tgt : Nat) (ht : (pc : Int) + off = (tgt : Int)) (pc' : Nat) (hp : pc + 3 = pc') (ha : r32 a) (h1 : 0 < a → TGo X ws n k tgt lv st) (h2 : a ≤ 0 → TGo X ws n k pc' lv st) : TGo X ws n k pc lv (.int (iI a) :: st) := by
  subst hp
  intro H locs ls hP hD hS hl
  exact lv_if_gt O.1 O.2.1 hd ht (fun q => h1 ((iI_lt r32_0 ha).mp q) H locs ls hP hD hS hl) (fun q => h2 (Int.not_lt.mp fun e => q ((iI_lt r32_0 ha).mpr e)) H locs ls hP hD hS hl)
theorem go_if_le (O : TOk X cc own rm nL cl E) {a off : Int} (hd : decode cc pc = .ok (.ifCond .le off, 3)) (tgt : Nat) (ht : (pc : Int) + off = (tgt : Int)) (pc' : Nat) (hp : pc + 3 = pc') (ha : r32 a) (h1 : a ≤ 0 → TGo X ws n k tgt lv st) (h2 : 0 < a → TGo X ws n k pc' lv st) : TGo X ws n k pc lv (.int (iI a) :: st) := by
  subst hp
  intro H locs ls hP hD hS hl
  exact lv_if_le O.1 O.2.1 hd ht (fun q => h1 ((iI_le ha r32_0).mp q) H locs ls hP hD hS hl) (fun q => h2 (Int.not_le.mp fun e => q ((iI_le ha r32_0).mpr e)) H locs ls hP hD hS hl)
theorem go_icmp_eq (O : TOk X cc own rm nL cl E) {a b off : Int} (hd : decode cc pc = .ok (.if_icmp .eq off, 3)) (tgt : Nat) (ht : (pc : Int) + off = (tgt : Int)) (pc' : Nat) (hp : pc + 3 = pc') (ha : r32 a) (hb : r32 b) (h1 : a = b → TGo X ws n k tgt lv st) (h2 : ¬ a = b → TGo X ws n k pc' lv st) : TGo X ws n k pc lv (.int (iI b) :: .int (iI a) :: st) := by
  subst hp
  intro H locs ls hP hD hS hl
  exact lv_icmp_eq O.1 O.2.1 hd ht (fun q => h1 ((iI_inj ha hb).mp q) H locs ls hP hD hS hl) (fun q => h2 (fun e => q ((iI_inj ha hb).mpr e)) H locs ls hP hD hS hl)
theorem go_icmp_ne (O : TOk X cc own rm nL cl E) {a b off : Int} (hd : decode cc pc = .ok (.if_icmp .ne off, 3)) (tgt : Nat) (ht : (pc : Int) + off = (tgt : Int)) (pc' : Nat) (hp : pc + 3 = pc') (ha : r32 a) (hb : r32 b) (h1 : ¬ a = b → TGo X ws n k tgt lv st) (h2 : a = b → TGo X ws n k pc' lv st) : TGo X ws n k pc lv (.int (iI b) :: .int (iI a) :: st) := by
  subst hp
  intro H locs ls hP hD hS hl
  exact lv_icmp_ne O.1 O.2.1 hd ht (fun q => h1 (fun e => q ((iI_inj ha hb).mpr e)) H locs ls hP hD hS hl) (fun q => h2 ((iI_inj ha hb).mp q) H locs ls hP hD hS hl)
theorem go_icmp_lt (O : TOk X cc own rm nL cl E) {a b off : Int} (hd : decode cc pc = .ok (.if_icmp .lt off, 3)) (tgt : Nat) (ht : (pc : Int) + off = (tgt : Int)) (pc' : Nat) (hp : pc + 3 = pc') (ha : r32 a) (hb : r32 b) (h1 : a < b → TGo X ws n k tgt lv st) (h2 : b ≤ a → TGo X ws n k pc' lv st) : TGo X ws n k pc lv (.int (iI b) :: .int (iI a) :: st) := by
  subst hp
  intro H locs ls hP hD hS hl
  exact lv_icmp_lt O.1 O.2.1 hd ht (fun q => h1 ((iI_lt ha hb).mp q) H locs ls hP hD hS hl) (fun q => h2 (Int.not_lt.mp fun e => q ((iI_lt ha hb).mpr e)) H locs ls hP hD hS hl)
theorem go_icmp_ge (O : TOk X cc own rm nL cl E) {a b off : Int} (hd : decode cc pc = .ok (.if_icmp .ge off, 3)) (tgt : Nat) (ht : (pc : Int) + off = (tgt : Int)) (pc' : Nat) (hp : pc + 3 = pc') (ha : r32 a) (hb : r32 b) (h1 : b ≤ a → TGo X ws n k tgt lv st) (h2 : a < b → TGo X ws n k pc' lv st) : TGo X ws n k pc lv (.int (iI b) :: .int (iI a) :: st) := by
  subst hp
  intro H locs ls hP hD hS hl
  exact lv_icmp_ge O.1 O.2.1 hd ht (fun q => h1 ((iI_le hb ha).mp q) H locs ls hP hD hS hl) (fun q => h2 (Int.not_le.mp fun e => q ((iI_le hb ha).mpr e)) H locs ls hP hD hS hl)
theorem go_icmp_gt (O : TOk X cc own rm nL cl E) {a b off : Int} (hd : decode cc pc = .ok (.if_icmp .gt off, 3)) (tgt : Nat) (ht : (pc : Int) + off = (tgt : Int)) (pc' : Nat) (hp : pc + 3 = pc') (ha : r32 a) (hb : r32 b) (h1 : b < a → TGo X ws n k tgt lv st) (h2 : a ≤ b → TGo X ws n k pc' lv st) : TGo X ws n k pc lv (.int (iI b) :: .int (iI a) :: st) := by
  subst hp
  intro H locs ls hP hD hS hl
  exact lv_icmp_gt O.1 O.2.1 hd ht (fun q => h1 ((iI_lt hb ha).mp q) H locs ls hP hD hS hl) (fun q => h2 (Int.not_lt.mp fun e => q ((iI_lt hb ha).mpr e)) H locs ls hP hD hS hl)
theorem go_icmp_le (O : TOk X cc own rm nL cl E) {a b off : Int} (hd : decode cc pc = .ok (.if_icmp .le off, 3)) (tgt : Nat) (ht : (pc : Int) + off = (tgt : Int)) (pc' : Nat) (hp : pc + 3 = pc') (ha : r32 a) (hb : r32 b) (h1 : a ≤ b → TGo X ws n k tgt lv st) (h2 : b < a → TGo X ws n k pc' lv st) : TGo X ws n k pc lv (.int (iI b) :: .int (iI a) :: st) := by
  subst hp
  intro H locs ls hP hD hS hl
  exact lv_icmp_le O.1 O.2.1 hd ht (fun q => h1 ((iI_le ha hb).mp q) H locs ls hP hD hS hl) (fun q => h2 (Int.not_le.mp fun e => q ((iI_le ha hb).mpr e)) H locs ls hP hD hS hl)
theorem go_goto (O : TOk X cc own rm nL cl E) {off : Int} (hd : decode cc pc = .ok (.goto off, 3)) (tgt : Nat) (ht : (pc : Int) + off = (tgt : Int)) (h : TGo X ws n k tgt lv st) : TGo X ws n k pc lv st :=
  fun H locs ls hP hD hS hl => lv_goto O.1 O.2.1 hd ht (h H locs ls hP hD hS hl)
theorem go_get (O : TOk X cc own rm nL cl E) (hK : TKn X tys) {C : String} {T : u_T} {N ci index a : Nat} (hd : decode cc pc = .ok (.getfield index, 3)) (hin : ∀ w ∈ u_ws C T N, w ∈ Gw) (q0 : Nat) {fs : List Value} (he : ws[q0]? = some (a, .inr (ci, fs))) (hc : cl[ci]? = some (C, T, N)) (f : Nat) (hf : f < N) (hlink : Cond.fieldLink own index (T f).1 (T f).2.1 (T f).2.2.1 ∈ Gw) {v : Value} (hv : fs[f]? = some v) (pc' : Nat) (hp : pc + 3 = pc') (h : TGo X ws n k pc' lv (v :: st)) : TGo X ws n k pc lv (.ref a :: st) := by
  subst hp
  intro H locs ls hP hD hS hl
  exact va_get O.1 O.2.1 O.2.2.2.2.2.1 hin O.2.2.2.2.1 hK hP q0 he (by rw [O.2.2.2.2.2.2.2.2.1]; exact hc) f hf (O.2.2.2.2.2.1 _ hlink) (fun _ e => e) hv hd (h H locs ls hP hD hS hl)
theorem go_put (O : TOk X cc own rm nL cl E) (hK : TKn X tys) {C : String} {T : u_T} {N ci index a : Nat} (hd : decode cc pc = .ok (.putfield index, 3)) (hin : ∀ w ∈ u_ws C T N, w ∈ Gw) (ty0 : Nat → FieldType) (hty : ∀ k, k < N → parseFieldDescriptor (T k).2.2.1 = some (ty0 k)) (hnm : ∀ a, a < N → ∀ b, b < N → a ≠ b → (T a).2.1 ≠ (T b).2.1) (q0 : Nat) {fs : List Value} (he : ws[q0]? = some (a, .inr (ci, fs))) (hc : cl[ci]? = some (C, T, N)) (f : Nat) (hf : f < N) (hlink : Cond.fieldLink own index (T f).1 (T f).2.1 (T f).2.2.1 ∈ Gw) (hfin : (T f).2.2.2 = false) {ty : FieldType} {v : Value} (hdd : parseFieldDescriptor (T f).2.2.1 = some ty) (hn : narrow ty v = v) (hfit : fits ty v = true) (hl0 : f < fs.length) (ws' : va_W) (hw : ws.set q0 (a, .inr (ci, fs.set f v)) = ws') (pc' : Nat) (hp : pc + 3 = pc') (h : TGo X ws' n k pc' lv st) : TGo X ws n k pc lv (v :: .ref a :: st) := by
  subst hp; subst hw
  intro H locs ls hP hD hS hl
  exact va_put O.1 O.2.1 O.2.2.2.2.2.1 hin ty0 hty hnm O.2.2.2.2.1 hK hP hD hS q0 he (by rw [O.2.2.2.2.2.2.2.2.1]; exact hc) f hf (O.2.2.2.2.2.1 _ hlink) (fun _ e => e) hfin hdd hn hfit hl0 hd (fun H1 locs1 hP1 hD1 hS1 => h H1 locs1 ls hP1 hD1 hS1 hl)
theorem go_putF (O : TOk X cc own rm nL cl E) (hK : TKn X tys) (hin2 : (cx_M X).name = "<init>") {C : String} {T : u_T} {N ci index a : Nat} (hd : decode cc pc = .ok (.putfield index, 3)) (hin : ∀ w ∈ u_ws C T N, w ∈ Gw) (ty0 : Nat → FieldType) (hty : ∀ k, k < N → parseFieldDescriptor (T k).2.2.1 = some (ty0 k)) (hnm : ∀ a, a < N → ∀ b, b < N → a ≠ b → (T a).2.1 ≠ (T b).2.1) (q0 : Nat) {fs : List Value} (he : ws[q0]? = some (a, .inr (ci, fs))) (hc : cl[ci]? = some (C, T, N)) (f : Nat) (hf : f < N) (hlink : Cond.fieldLink own index (T f).1 (T f).2.1 (T f).2.2.1 ∈ Gw) (hfin : (T f).2.2.2 = true) (hdecl : (T f).1 = own) {ty : FieldType} {v : Value} (hdd : parseFieldDescriptor (T f).2.2.1 = some ty) (hn : narrow ty v = v) (hfit : fits ty v = true) (hl0 : f < fs.length) (ws' : va_W) (hw : ws.set q0 (a, .inr (ci, fs.set f v)) = ws') (pc' : Nat) (hp : pc + 3 = pc') (h : TGo X ws' n k pc' lv st) : TGo X ws n k pc lv (v :: .ref a :: st) := by
  subst hp; subst hw
  intro H locs ls hP hD hS hl
  exact va_putF O.1 O.2.1 O.2.2.2.2.2.1 hin ty0 hty hnm O.2.2.2.2.1 hK hP hD hS q0 he (by rw [O.2.2.2.2.2.2.2.2.1]; exact hc) f hf (O.2.2.2.2.2.1 _ hlink) (fun _ e => e) hfin hin2 hdecl hdd hn hfit hl0 hd (fun H1 locs1 hP1 hD1 hS1 => h H1 locs1 ls hP1 hD1 hS1 hl)
theorem go_iald (O : TOk X cc own rm nL cl E) (hK : TKn X tys) (hd : decode cc pc = .ok (.iaload, 1)) (q0 t0 : Nat) {a : Nat} {cA : ClassId} {N : Nat} {f : Nat → Int32} (hq : ws[q0]? = some (a, .inl (cA, N, .inl f))) (ht : tys[t0]? = some (cA, .int)) {x : Int} (j : Nat) (hx : x = (j : Int)) (hj : j < N) (hN : N < 2147483648) (z : Int) (hz : f j = iI z) (pc' : Nat) (hp : pc + 1 = pc') (h : TGo X ws n k pc' lv (.int (iI z) :: st)) : TGo X ws n k pc lv (.int (iI x) :: .ref a :: st) := by
  subst hp; subst hx
  intro H locs ls hP hD hS hl
  exact va_iald O.1 O.2.1 hK hP q0 t0 hq ht (iI_in hj hN) hd (TWx_vi (by rw [iI_cl (by omega), hz]) (h H locs ls hP hD hS hl))
theorem go_zald (O : TOk X cc own rm nL cl E) (hK : TKn X tys) (hd : decode cc pc = .ok (.baload, 1)) (q0 t0 : Nat) {a : Nat} {cA : ClassId} {N : Nat} {f : Nat → Int32} (hq : ws[q0]? = some (a, .inl (cA, N, .inl f))) (ht : tys[t0]? = some (cA, .boolean)) {x : Int} (j : Nat) (hx : x = (j : Int)) (hj : j < N) (hN : N < 2147483648) (z : Int) (hz : f j = iI z) (pc' : Nat) (hp : pc + 1 = pc') (h : TGo X ws n k pc' lv (.int (iI z) :: st)) : TGo X ws n k pc lv (.int (iI x) :: .ref a :: st) := by
  subst hp; subst hx
  intro H locs ls hP hD hS hl
  exact va_zald O.1 O.2.1 hK hP q0 t0 hq ht (iI_in hj hN) hd (TWx_vi (by rw [iI_cl (by omega), hz]) (h H locs ls hP hD hS hl))
theorem go_lald (O : TOk X cc own rm nL cl E) (hK : TKn X tys) (hd : decode cc pc = .ok (.laload, 1)) (q0 t0 : Nat) {a : Nat} {cA : ClassId} {N : Nat} {f : Nat → Int64} (hq : ws[q0]? = some (a, .inl (cA, N, .inr (.inl f)))) (ht : tys[t0]? = some (cA, .long)) {x : Int} (j : Nat) (hx : x = (j : Int)) (hj : j < N) (hN : N < 2147483648) (z : Int) (hz : f j = lI z) (pc' : Nat) (hp : pc + 1 = pc') (h : TGo X ws n k pc' lv (.long (lI z) :: st)) : TGo X ws n k pc lv (.int (iI x) :: .ref a :: st) := by
  subst hp; subst hx
  intro H locs ls hP hD hS hl
  exact va_lald O.1 O.2.1 hK hP q0 t0 hq ht (iI_in hj hN) hd (TWx_vl (by rw [iI_cl (by omega), hz]) (h H locs ls hP hD hS hl))
theorem go_aald (O : TOk X cc own rm nL cl E) (hK : TKn X tys) (hd : decode cc pc = .ok (.aaload, 1)) (q0 t0 : Nat) {a : Nat} {cA : ClassId} {N : Nat} {C : String} {f : Nat → Option Nat} (hq : ws[q0]? = some (a, .inl (cA, N, .inr (.inr (.inr (.inr f)))))) (ht : tys[t0]? = some (cA, .object C)) {x : Int} (j : Nat) (hx : x = (j : Int)) (hj : j < N) (hN : N < 2147483648) (b : Nat) (hz : f j = some b) (pc' : Nat) (hp : pc + 1 = pc') (h : TGo X ws n k pc' lv (.ref b :: st)) : TGo X ws n k pc lv (.int (iI x) :: .ref a :: st) := by
  subst hp; subst hx
  intro H locs ls hP hD hS hl
  refine va_aldq O.1 O.2.1 hK hP q0 t0 hq ht (iI_in hj hN) hd ?_
  have e : va_rf (f (iI (j : Int)).toNatClampNeg) = .ref b := by rw [iI_cl (by omega), hz]; rfl
  rw [e]
  exact h H locs ls hP hD hS hl
theorem go_iast (O : TOk X cc own rm nL cl E) (hK : TKn X tys) (hd : decode cc pc = .ok (.iastore, 1)) (q0 t0 : Nat) {a : Nat} {cA : ClassId} {N : Nat} {f : Nat → Int32} (hq : ws[q0]? = some (a, .inl (cA, N, .inl f))) (ht : tys[t0]? = some (cA, .int)) {x : Int} (j : Nat) (hx : x = (j : Int)) (hj : j < N) (hN : N < 2147483648) {z : Int} (g : Nat → Int32) (hg : ∀ i, i < N → upd f j (iI z) i = g i) (ws' : va_W) (hw : ws.set q0 (a, .inl (cA, N, .inl g)) = ws') (pc' : Nat) (hp : pc + 1 = pc') (h : TGo X ws' n k pc' lv st) : TGo X ws n k pc lv (.int (iI z) :: .int (iI x) :: .ref a :: st) := by
  subst hp; subst hx; subst hw
  intro H locs ls hP hD hS hl
  have hlt := (List.getElem?_eq_some_iff.mp hq).1
  refine va_iast O.1 O.2.1 hK hP hD hS q0 t0 hq ht (iI_in hj hN) hd (fun H1 locs1 hP1 hD1 hS1 => ?_)
  rw [iI_cl (by omega)] at hP1 hD1
  refine h H1 locs1 ls (va_P_ext hlt hP1 (fun e => ?_)) (va_D.set hD hq) hS1 hl
  have e : H1[a]? = some (vp_cell cA (N, .inl (upd f j (iI z)))) := e
  show H1[a]? = some (vp_cell cA (N, .inl g))
  rw [e, vp_cell_ext cA N hg]
theorem go_zast (O : TOk X cc own rm nL cl E) (hK : TKn X tys) (hd : decode cc pc = .ok (.bastore, 1)) (q0 t0 : Nat) {a : Nat} {cA : ClassId} {N : Nat} {f : Nat → Int32} (hq : ws[q0]? = some (a, .inl (cA, N, .inl f))) (ht : tys[t0]? = some (cA, .boolean)) {x : Int} (j : Nat) (hx : x = (j : Int)) (hj : j < N) (hN : N < 2147483648) {z : Int} (hz : vp_nar .boolean (iI z) = iI z) (g : Nat → Int32) (hg : ∀ i, i < N → upd f j (iI z) i = g i) (ws' : va_W) (hw : ws.set q0 (a, .inl (cA, N, .inl g)) = ws') (pc' : Nat) (hp : pc + 1 = pc') (h : TGo X ws' n k pc' lv st) : TGo X ws n k pc lv (.int (iI z) :: .int (iI x) :: .ref a :: st) := by
  subst hp; subst hx; subst hw
  intro H locs ls hP hD hS hl
  have hlt := (List.getElem?_eq_some_iff.mp hq).1
  refine va_zast O.1 O.2.1 hK hP hD hS q0 t0 hq ht (iI_in hj hN) hd (fun H1 locs1 hP1 hD1 hS1 => ?_)
  rw [iI_cl (by omega), hz] at hP1 hD1
  refine h H1 locs1 ls (va_P_ext hlt hP1 (fun e => ?_)) (va_D.set hD hq) hS1 hl
  have e : H1[a]? = some (vp_cell cA (N, .inl (upd f j (iI z)))) := e
  show H1[a]? = some (vp_cell cA (N, .inl g))
  rw [e, vp_cell_ext cA N hg]
theorem go_last (O : TOk X cc own rm nL cl E) (hK : TKn X tys) (hd : decode cc pc = .ok (.lastore, 1)) (q0 t0 : Nat) {a : Nat} {cA : ClassId} {N : Nat} {f : Nat → Int64} (hq : ws[q0]? = some (a, .inl (cA, N, .inr (.inl f)))) (ht : tys[t0]? = some (cA, .long)) {x : Int} (j : Nat) (hx : x = (j : Int)) (hj : j < N) (hN : N < 2147483648) {z : Int} (g : Nat → Int64) (hg : ∀ i, i < N → vp_updL f j (lI z) i = g i) (ws' : va_W) (hw : ws.set q0 (a, .inl (cA, N, .inr (.inl g))) = ws') (pc' : Nat) (hp : pc + 1 = pc') (h : TGo X ws' n k pc' lv st) : TGo X ws n k pc lv (.long (lI z) :: .int (iI x) :: .ref a :: st) := by
  subst hp; subst hx; subst hw
  intro H locs ls hP hD hS hl
  have hlt := (List.getElem?_eq_some_iff.mp hq).1
  refine va_last O.1 O.2.1 hK hP hD hS q0 t0 hq ht (iI_in hj hN) hd (fun H1 locs1 hP1 hD1 hS1 => ?_)
  rw [iI_cl (by omega)] at hP1 hD1
  refine h H1 locs1 ls (va_P_ext hlt hP1 (fun e => ?_)) (va_D.set hD hq) hS1 hl
  have e : H1[a]? = some (vp_cell cA (N, .inr (.inl (vp_updL f j (lI z))))) := e
  show H1[a]? = some (vp_cell cA (N, .inr (.inl g)))
  rw [e, vp_cell_extL cA N hg]
theorem go_alen (O : TOk X cc own rm nL cl E) (hK : TKn X tys) (hd : decode cc pc = .ok (.arraylength, 1)) (q0 t0 : Nat) {a : Nat} {cA : ClassId} {x : vp_A} {ty : FieldType} (hq : ws[q0]? = some (a, .inl (cA, x))) (ht : tys[t0]? = some (cA, ty)) (z : Int) (hz : Int32.ofNat x.1 = iI z) (pc' : Nat) (hp : pc + 1 = pc') (h : TGo X ws n k pc' lv (.int (iI z) :: st)) : TGo X ws n k pc lv (.ref a :: st) := by
  subst hp
  intro H locs ls hP hD hS hl
  exact va_alen O.1 O.2.1 hK hP q0 t0 hq ht hz hd (h H locs ls hP hD hS hl)
end GO
theorem gw_all {c1 : Cond} (h : c1 ∈ Gw) : GoodIn Gw (c1 :: Gw) := fun w hw => (List.mem_cons.mp hw).elim (fun e => e ▸ ⟨h, gw_good h⟩) (fun h2 => ⟨h2, gw_good h2⟩)
theorem gw_S {own : String} {idx : Nat} {y : MethodName} {c1 : Cond} (h1 : Cond.methodLink own idx y ∈ Gw) (h2 : Cond.static y ∈ Gw) (h3 : Cond.initialized y.cls ∈ Gw) (h4 : c1 ∈ Gw) : GoodIn Gw (va_wsS own idx y (c1 :: Gw)) := by
  intro w hw
  unfold va_wsS at hw
  rcases List.mem_append.mp hw with h | h
  · simp only [List.mem_cons, List.not_mem_nil, or_false] at h
    rcases h with rfl | rfl | rfl
    · exact ⟨h1, gw_good h1⟩
    · exact ⟨h2, gw_good h2⟩
    · exact ⟨h3, gw_good h3⟩
  · exact gw_all h4 w h
theorem gw_V {own C : String} {idx : Nat} {y : MethodName} {c1 : Cond} (h1 : Cond.methodLink own idx y ∈ Gw) (h2 : Cond.instanceMethod y ∈ Gw) (h3 : Cond.selects C y y ∈ Gw) (h5 : Cond.initialized C ∈ Gw) (h4 : c1 ∈ Gw) : GoodIn Gw (wsV own idx C y (c1 :: Gw)) := by
  intro w hw
  unfold wsV at hw
  rcases List.mem_append.mp hw with h | h
  · simp only [List.mem_cons, List.not_mem_nil, or_false] at h
    rcases h with rfl | rfl | rfl | rfl
    · exact ⟨h1, gw_good h1⟩
    · exact ⟨h2, gw_good h2⟩
    · exact ⟨h3, gw_good h3⟩
    · exact ⟨h5, gw_good h5⟩
  · exact gw_all h4 w h
/-! Contracts over Go: what a method asks and gives, its entry, its end, a call of it. -/
abbrev rmn (f lo : Nat) : Room := { frames := f, cells := 0, slots := 0, locals := lo }
def ct_Pc (E : TEn) (D : va_G) (cl : List vw_C) (av : List Value) (w0 : va_W) (tys : List (ClassId × FieldType)) (sz : Nat) : Array Value → State → Prop :=
  va_Pc av (fun U => U.heap.size = sz ∧ va_P D cl w0 U.heap ∧ va_K D cl tys U ∧ va_D (fun _ => True) w0 ∧ E (va_A w0 sz) U)
def ct_B {S : Type} (D : va_G) (cl : List vw_C) (A : Nat → Prop) (tys : List (ClassId × FieldType)) (w1 : S → va_W) : S → State → Prop :=
  fun u t => va_P D cl (w1 u) t.heap ∧ va_K D cl tys t ∧ va_D A (w1 u)
def EnvOk (E : TEn) : Prop := (∀ (A : Nat → Prop) (U : State) (g : JFrame) (mk : MethodId) (a : Array Value), E A U → E A (U.calling g mk a)) ∧ ∀ (A A' : Nat → Prop) (s U : State) (locs : List Loc), va_S A s.heap U.heap locs → s.WarmedH U.vm → (∀ q, A' q → A q) → E A s → E A' U
theorem ct_blind {E : TEn} (hE : EnvOk E) (D : va_G) (cl : List vw_C) (av : List Value) (w0 : va_W) (tys : List (ClassId × FieldType)) (sz : Nat) : FrameBlind (ct_Pc E D cl av w0 tys sz) := by
  intro a U g mk q
  obtain ⟨q0, q1, qP, qK, qD, qE⟩ := q
  exact ⟨q0, q1, qP, va_K.moved (u := U) (U := U.calling g mk a) (Vm.Alike.refl U.vm) qK, qD, hE.1 _ U g mk a qE⟩

def Cti {S : Type} (cl : List vw_C) (E : TEn) (y : MethodName) (wsy : List Cond) (rm : Room) (av : List Value) (w0 : va_W) (tys : List (ClassId × FieldType)) (post : Int → S → Prop) (w1 : S → va_W) : Prop :=
  ∀ (l : Launch) (D : va_G) (sz : Nat), Met l y wsy rm (ct_Pc E D cl av w0 tys sz) (va_Qi (fun r u => ∃ z, r = iI z ∧ post z u) (ct_B D cl (va_A w0 sz) tys w1) (va_A w0 sz)) 0 0 (va_A w0 sz)
def Ctl {S : Type} (cl : List vw_C) (E : TEn) (y : MethodName) (wsy : List Cond) (rm : Room) (av : List Value) (w0 : va_W) (tys : List (ClassId × FieldType)) (post : Int → S → Prop) (w1 : S → va_W) : Prop :=
  ∀ (l : Launch) (D : va_G) (sz : Nat), Met l y wsy rm (ct_Pc E D cl av w0 tys sz) (va_Ql (fun r u => ∃ z, r = lI z ∧ post z u) (ct_B D cl (va_A w0 sz) tys w1) (va_A w0 sz)) 0 0 (va_A w0 sz)
def Ctv {S : Type} (cl : List vw_C) (E : TEn) (y : MethodName) (wsy : List Cond) (rm : Room) (av : List Value) (w0 : va_W) (tys : List (ClassId × FieldType)) (post : S → Prop) (w1 : S → va_W) : Prop :=
  ∀ (l : Launch) (D : va_G) (sz : Nat), Met l y wsy rm (ct_Pc E D cl av w0 tys sz) (va_Qv post (ct_B D cl (va_A w0 sz) tys w1) (va_A w0 sz)) 0 0 (va_A w0 sz)
theorem enteri {S : Type} {cl : List vw_C} {E : TEn} {y : MethodName} {rm : Room} {av : List Value} {w0 : va_W} {tys : List (ClassId × FieldType)} {post : Int → S → Prop} {w1 : S → va_W} {cc : ByteArray} {maxL : Nat} {ty : FieldType} (hy : plainName y.cls = true) (hsl : (lg_sl av).length ≤ maxL)
    (body : ∀ X : TCx, TOk X cc y.cls rm maxL cl E → TKn X tys → ((cx_M X).name = y.name) → (∀ (pc : Nat) (lv : List (Nat × Value)) (z : Int) (u : S), decode cc pc = .ok (.ireturn, 1) → narrow ty (.int (iI z)) = .int (iI z) → post z u → TGo X (w1 u) 0 0 pc lv [.int (iI z)]) → TGo X w0 0 0 0 (lv_args 0 av) []) : Cti cl E y (Cond.code y cc maxL (some ty) :: Gw) rm av w0 tys post w1 := by
  intro l D sz
  refine Met.ofW (cc := cc) (maxL := maxL) (ret := (some ty)) hy rfl ?_
  intro p e s m args below meth c s₁ B hml hv
  obtain ⟨rfl, hsz, hP, hK, hD0, hE⟩ := hv
  have hts0 := atoms_spec (ws := Cond.code y cc maxL (some ty) :: Gw) B.pre
  have hts : ∀ w ∈ Gw, w.before av.toArray s = true := fun w h => hts0 w (List.mem_cons_of_mem _ h)
  have hown : s.vm.findClass y.cls = some m.cls := findClass_of_methodNamed B.named
  subst hsz
  have hD := hD0.self (sz := s.heap.size)
  rw [lg_entry_eq]
  refine body (p, l, e, (headSpec (Cond.code y cc maxL (some ty) :: Gw) rm).room, s, m, av.toArray, below, meth, c, MQ below (va_Qi (fun r u => ∃ z, r = iI z ∧ post z u) (ct_B D cl (va_A w0 s.heap.size) tys w1) (va_A w0 s.heap.size)) av.toArray s 0 0 (va_A w0 s.heap.size), va_A w0 s.heap.size, D, cl, maxL) ⟨B.exec, B.bytes, hml, rfl, hown, hts, fun q h => Or.inr h, rfl, rfl, hE⟩ hK (name_of_methodNamed B.named B.method).1 ?_ s.heap [] _ hP hD va_S.rf (lv_entry av hsl)
  · intro pc lv z u hd hnar hpost H locs ls hP hD hS hl
    exact W.zret B.exec B.bytes B.returns hnar (fun t ht hW => ⟨⟨iI z, u, rfl, ⟨z, rfl, hpost⟩, by rw [ht]; exact hP, va_K.moved hW.alike hK, hD⟩, hS.F ht⟩) hS.2.2 hd B.notSynchronized
theorem enterl {S : Type} {cl : List vw_C} {E : TEn} {y : MethodName} {rm : Room} {av : List Value} {w0 : va_W} {tys : List (ClassId × FieldType)} {post : Int → S → Prop} {w1 : S → va_W} {cc : ByteArray} {maxL : Nat} (hy : plainName y.cls = true) (hsl : (lg_sl av).length ≤ maxL)
    (body : ∀ X : TCx, TOk X cc y.cls rm maxL cl E → TKn X tys → ((cx_M X).name = y.name) → (∀ (pc : Nat) (lv : List (Nat × Value)) (z : Int) (u : S), decode cc pc = .ok (.lreturn, 1) → post z u → TGo X (w1 u) 0 0 pc lv [.long (lI z)]) → TGo X w0 0 0 0 (lv_args 0 av) []) : Ctl cl E y (Cond.code y cc maxL (some .long) :: Gw) rm av w0 tys post w1 := by
  intro l D sz
  refine Met.ofW (cc := cc) (maxL := maxL) (ret := (some .long)) hy rfl ?_
  intro p e s m args below meth c s₁ B hml hv
  obtain ⟨rfl, hsz, hP, hK, hD0, hE⟩ := hv
  have hts0 := atoms_spec (ws := Cond.code y cc maxL (some .long) :: Gw) B.pre
  have hts : ∀ w ∈ Gw, w.before av.toArray s = true := fun w h => hts0 w (List.mem_cons_of_mem _ h)
  have hown : s.vm.findClass y.cls = some m.cls := findClass_of_methodNamed B.named
  subst hsz
  have hD := hD0.self (sz := s.heap.size)
  rw [lg_entry_eq]
  refine body (p, l, e, (headSpec (Cond.code y cc maxL (some .long) :: Gw) rm).room, s, m, av.toArray, below, meth, c, MQ below (va_Ql (fun r u => ∃ z, r = lI z ∧ post z u) (ct_B D cl (va_A w0 s.heap.size) tys w1) (va_A w0 s.heap.size)) av.toArray s 0 0 (va_A w0 s.heap.size), va_A w0 s.heap.size, D, cl, maxL) ⟨B.exec, B.bytes, hml, rfl, hown, hts, fun q h => Or.inr h, rfl, rfl, hE⟩ hK (name_of_methodNamed B.named B.method).1 ?_ s.heap [] _ hP hD va_S.rf (lv_entry av hsl)
  · intro pc lv z u hd hpost H locs ls hP hD hS hl
    exact W.lret B.exec B.bytes B.returns (fun t ht hW => ⟨⟨lI z, u, rfl, ⟨z, rfl, hpost⟩, by rw [ht]; exact hP, va_K.moved hW.alike hK, hD⟩, hS.F ht⟩) hS.2.2 hd B.notSynchronized
theorem enterv {S : Type} {cl : List vw_C} {E : TEn} {y : MethodName} {rm : Room} {av : List Value} {w0 : va_W} {tys : List (ClassId × FieldType)} {post : S → Prop} {w1 : S → va_W} {cc : ByteArray} {maxL : Nat} (hy : plainName y.cls = true) (hsl : (lg_sl av).length ≤ maxL)
    (body : ∀ X : TCx, TOk X cc y.cls rm maxL cl E → TKn X tys → ((cx_M X).name = y.name) → (∀ (pc : Nat) (lv : List (Nat × Value)) (u : S), decode cc pc = .ok (.return_, 1) → post u → TGo X (w1 u) 0 0 pc lv []) → TGo X w0 0 0 0 (lv_args 0 av) []) : Ctv cl E y (Cond.code y cc maxL none :: Gw) rm av w0 tys post w1 := by
  intro l D sz
  refine Met.ofW (cc := cc) (maxL := maxL) (ret := none) hy rfl ?_
  intro p e s m args below meth c s₁ B hml hv
  obtain ⟨rfl, hsz, hP, hK, hD0, hE⟩ := hv
  have hts0 := atoms_spec (ws := Cond.code y cc maxL none :: Gw) B.pre
  have hts : ∀ w ∈ Gw, w.before av.toArray s = true := fun w h => hts0 w (List.mem_cons_of_mem _ h)
  have hown : s.vm.findClass y.cls = some m.cls := findClass_of_methodNamed B.named
  subst hsz
  have hD := hD0.self (sz := s.heap.size)
  rw [lg_entry_eq]
  refine body (p, l, e, (headSpec (Cond.code y cc maxL none :: Gw) rm).room, s, m, av.toArray, below, meth, c, MQ below (va_Qv post (ct_B D cl (va_A w0 s.heap.size) tys w1) (va_A w0 s.heap.size)) av.toArray s 0 0 (va_A w0 s.heap.size), va_A w0 s.heap.size, D, cl, maxL) ⟨B.exec, B.bytes, hml, rfl, hown, hts, fun q h => Or.inr h, rfl, rfl, hE⟩ hK (name_of_methodNamed B.named B.method).1 ?_ s.heap [] _ hP hD va_S.rf (lv_entry av hsl)
  · intro pc lv u hd hpost H locs ls hP hD hS hl
    exact W.vret B.exec B.bytes B.returns (fun t ht hW => ⟨⟨u, rfl, hpost, by rw [ht]; exact hP, va_K.moved hW.alike hK, hD⟩, hS.F ht⟩) hS.2.2 hd B.notSynchronized
theorem go_calliS {X : TCx} {cc : ByteArray} {own : String} {rm : Room} {nL : Nat} {ws : va_W} {n k pc : Nat} {lv : List (Nat × Value)} {st : List Value} {tys : List (ClassId × FieldType)} {cl : List vw_C} {E : TEn} {S : Type} {y : MethodName} {fr lo : Nat} {w0 wr : va_W} {tys0 : List (ClassId × FieldType)} {bytes : ByteArray} {maxL index : Nat} {ret : Option FieldType} {rest : List Value} {av : List Value} {post : Int → S → Prop} {w1 : S → va_W} (O : TOk X cc own rm nL cl E) (hK : TKn X tys) (hE : EnvOk E) (hM : Cti cl E y (Cond.code y bytes maxL ret :: Gw) (rmn fr lo) av w0 tys0 post w1) (hml : Cond.methodLink own index y ∈ Gw) (hst0 : Cond.static y ∈ Gw) (hin0 : Cond.initialized y.cls ∈ Gw) (hcd : Cond.code y bytes maxL ret ∈ Gw) (na : Nat) (hdd : y.cls ≠ "java/lang/invoke/MethodHandle" ∧ y.cls ≠ "java/lang/invoke/VarHandle" ∧ (parseMethodDescriptor y.desc).map (fun d => d.parameters.length) = some na) (hR : fr + 1 ≤ rm.frames ∧ 8 + (maxL + 11) + lo ≤ rm.locals)
    (isK : List Nat) (hKs : isK.filterMap (fun i => tys[i]?) = tys0) (isC : List Nat) (hC : isC.map (fun i => ws[i]?) = w0.map some) (hn1 : va_nd isC = true) (isR : List Nat) (hRr : isR.map (fun i => ws[i]?) = wr.map some) (hn2 : va_nd isR = true) (hdis : ∀ i ∈ isR, i ∉ isC) (hst : st = (av.reverse ++ rest)) (hn : av.length = na) (hcat : (rest.map fun v => v.category).sum ≤ 8) (hcells : n ≤ rm.cells ∧ k ≤ rm.slots) (hd : decode cc pc = .ok (.invokestatic index, 3)) (pc' : Nat) (hp : pc + 3 = pc') (h : ∀ (z : Int) (u : S), post z u → TGo X (wr ++ w1 u) n k pc' lv (.int (iI z) :: rest)) : TGo X ws n k pc lv st := by
  subst hst
  subst hp
  intro H locs ls hP hD hS hl
  have hRm := O.2.2.2.2.2.2.2.1
  have hcl0 := O.2.2.2.2.2.2.2.2.1
  subst hcl0
  have hFc := va_free (wc := w0) hD hS O.2.2.2.2.2.2.1 isC hC
  have hR' : fr + 1 ≤ (cx_R X).frames ∧ 8 + (maxL + 11) + lo ≤ (cx_R X).locals := by rw [hRm]; exact hR
  have hcl : n + 0 ≤ (cx_R X).cells ∧ k + 0 ≤ (cx_R X).slots := by rw [hRm]; exact hcells
  have hsz : ls.size = nL := hl.1.trans O.2.2.2.1
  have hPc : va_P (cx_D X) (cx_C X) w0 H := by
    intro j q hj
    have h1 : (isC.map (fun i => ws[i]?))[j]? = some (some q) := by rw [hC, List.getElem?_map, hj]; rfl
    rw [List.getElem?_map] at h1
    cases hi : isC[j]? with
    | none => rw [hi] at h1; cases h1
    | some i => rw [hi] at h1; exact hP i q (Option.some.inj h1)
  have hDc := hD.sub isC hn1 hC
  have hKc : va_K (cx_D X) (cx_C X) tys0 (cx_s X) := va_K.sub hK isK hKs
  have hpre : ∀ U : State, U.heap = H → (cx_s X).WarmedH U.vm → ct_Pc E (cx_D X) (cx_C X) av w0 tys0 H.size av.toArray U := by
    intro U hU hW
    subst hU
    exact ⟨rfl, rfl, hPc, va_K.moved hW.alike hKc, hDc.weaken (fun _ _ _ _ => trivial), hE.2 _ _ (cx_s X) U locs hS hW hFc O.2.2.2.2.2.2.2.2.2⟩
  refine va_calli (va_runS ⟨O.1, O.2.1, O.2.2.1, O.2.2.2.2.1, O.2.2.2.2.2.1⟩ (hM (cx_l X) (cx_D X) H.size) (va_cwS na O.2.2.2.2.2.1 (gw_S hml hst0 hin0 hcd) rfl rfl rfl hdd hR') ⟨ct_blind hE _ _ _ _ _ _, hpre⟩ rfl hn hsz rfl (lv_room hcat) hd hcl) hS (fun q _ h => hFc q h) hFc (fun r u t H1 locs1 ht hvm hw hB hz1 hk1 hS1 => ?_)
  obtain ⟨z, rfl, hpost⟩ := hw
  obtain ⟨hP1, hK1, hD1⟩ := hB
  rw [ht] at hP1
  obtain ⟨hP2, hD2⟩ := va_join (wr := wr) (w1 := w1 u) hP hD isC isR hC hRr hn2 hdis hk1 hFc hP1 hD1
  exact h z u hpost H1 locs1 ls hP2 hD2 hS1 hl
theorem go_calliV {X : TCx} {cc : ByteArray} {own : String} {rm : Room} {nL : Nat} {ws : va_W} {n k pc : Nat} {lv : List (Nat × Value)} {st : List Value} {tys : List (ClassId × FieldType)} {cl : List vw_C} {E : TEn} {S : Type} {y : MethodName} {fr lo : Nat} {w0 wr : va_W} {tys0 : List (ClassId × FieldType)} {bytes : ByteArray} {maxL index : Nat} {ret : Option FieldType} {rest : List Value} {As : List Value} {b ci : Nat} {rc : vw_C} {fs : List Value} {post : Int → S → Prop} {w1 : S → va_W} (O : TOk X cc own rm nL cl E) (hK : TKn X tys) (hE : EnvOk E) (hM : Cti cl E y (Cond.code y bytes maxL ret :: Gw) (rmn fr lo) (.ref b :: As) w0 tys0 post w1) (hml : Cond.methodLink own index y ∈ Gw) (him : Cond.instanceMethod y ∈ Gw) (hse : Cond.selects rc.1 y y ∈ Gw) (hin0 : Cond.initialized rc.1 ∈ Gw) (hcd : Cond.code y bytes maxL ret ∈ Gw) (na : Nat) (hdd : y.cls = rc.1 ∧ y.cls ≠ "java/lang/invoke/MethodHandle" ∧ y.cls ≠ "java/lang/invoke/VarHandle" ∧ (parseMethodDescriptor y.desc).map (fun d => d.parameters.length) = some na) (hR : fr + 1 ≤ rm.frames ∧ 8 + (maxL + 11) + lo ≤ rm.locals) (qb : Nat) (hqb : ws[qb]? = some (b, .inr (ci, fs))) (hci : cl[ci]? = some rc)
    (isK : List Nat) (hKs : isK.filterMap (fun i => tys[i]?) = tys0) (isC : List Nat) (hC : isC.map (fun i => ws[i]?) = w0.map some) (hn1 : va_nd isC = true) (isR : List Nat) (hRr : isR.map (fun i => ws[i]?) = wr.map some) (hn2 : va_nd isR = true) (hdis : ∀ i ∈ isR, i ∉ isC) (hst : st = (As.reverse ++ .ref b :: rest)) (hn : As.length = na) (hcat : (rest.map fun v => v.category).sum ≤ 8) (hcells : n ≤ rm.cells ∧ k ≤ rm.slots) (hd : decode cc pc = .ok (.invokevirtual index, 3)) (pc' : Nat) (hp : pc + 3 = pc') (h : ∀ (z : Int) (u : S), post z u → TGo X (wr ++ w1 u) n k pc' lv (.int (iI z) :: rest)) : TGo X ws n k pc lv st := by
  subst hst
  subst hp
  intro H locs ls hP hD hS hl
  have hRm := O.2.2.2.2.2.2.2.1
  have hcl0 := O.2.2.2.2.2.2.2.2.1
  subst hcl0
  have hFc := va_free (wc := w0) hD hS O.2.2.2.2.2.2.1 isC hC
  have hR' : fr + 1 ≤ (cx_R X).frames ∧ 8 + (maxL + 11) + lo ≤ (cx_R X).locals := by rw [hRm]; exact hR
  have hcl : n + 0 ≤ (cx_R X).cells ∧ k + 0 ≤ (cx_R X).slots := by rw [hRm]; exact hcells
  have hsz : ls.size = nL := hl.1.trans O.2.2.2.1
  have hPc : va_P (cx_D X) (cx_C X) w0 H := by
    intro j q hj
    have h1 : (isC.map (fun i => ws[i]?))[j]? = some (some q) := by rw [hC, List.getElem?_map, hj]; rfl
    rw [List.getElem?_map] at h1
    cases hi : isC[j]? with
    | none => rw [hi] at h1; cases h1
    | some i => rw [hi] at h1; exact hP i q (Option.some.inj h1)
  have hDc := hD.sub isC hn1 hC
  have hKc : va_K (cx_D X) (cx_C X) tys0 (cx_s X) := va_K.sub hK isK hKs
  have hpre : ∀ U : State, U.heap = H → (cx_s X).WarmedH U.vm → ct_Pc E (cx_D X) (cx_C X) (.ref b :: As) w0 tys0 H.size (.ref b :: As).toArray U := by
    intro U hU hW
    subst hU
    exact ⟨rfl, rfl, hPc, va_K.moved hW.alike hKc, hDc.weaken (fun _ _ _ _ => trivial), hE.2 _ _ (cx_s X) U locs hS hW hFc O.2.2.2.2.2.2.2.2.2⟩
  refine va_calli (va_runV ⟨O.1, O.2.1, O.2.2.1, O.2.2.2.2.1, O.2.2.2.2.2.1⟩ (hM (cx_l X) (cx_D X) H.size) (cwV na O.2.2.2.2.2.1 (gw_V hml him hse hin0 hcd) rfl rfl rfl hdd hR') ⟨ct_blind hE _ _ _ _ _ _, va_recv hK hP hci hqb, hpre⟩ rfl hn hsz rfl (lv_room hcat) hd hcl) hS (fun q _ h => hFc q h) hFc (fun r u t H1 locs1 ht hvm hw hB hz1 hk1 hS1 => ?_)
  obtain ⟨z, rfl, hpost⟩ := hw
  obtain ⟨hP1, hK1, hD1⟩ := hB
  rw [ht] at hP1
  obtain ⟨hP2, hD2⟩ := va_join (wr := wr) (w1 := w1 u) hP hD isC isR hC hRr hn2 hdis hk1 hFc hP1 hD1
  exact h z u hpost H1 locs1 ls hP2 hD2 hS1 hl
theorem go_calliSN {X : TCx} {cc : ByteArray} {own : String} {rm : Room} {nL : Nat} {ws : va_W} {n k pc : Nat} {lv : List (Nat × Value)} {st : List Value} {tys : List (ClassId × FieldType)} {cl : List vw_C} {E : TEn} {S : Type} {y : MethodName} {fr lo : Nat} {w0 wr : va_W} {tys0 : List (ClassId × FieldType)} {bytes : ByteArray} {maxL index : Nat} {ret : Option FieldType} {rest : List Value} {av : List Value} {host : String} {post : Int → S → Prop} {w1 : S → va_W} (O : TOk X cc own rm nL cl E) (hK : TKn X tys) (hE : EnvOk E) (hM : Cti cl E y (Cond.code y bytes maxL ret :: Gw) (rmn fr lo) av w0 tys0 post w1) (hli : va_Nw (.methodLinkNest own index y host) (cx_s X)) (hst0 : Cond.static y ∈ Gw) (hin0 : Cond.initialized y.cls ∈ Gw) (hcd : Cond.code y bytes maxL ret ∈ Gw) (na : Nat) (hdd : y.cls ≠ "java/lang/invoke/MethodHandle" ∧ y.cls ≠ "java/lang/invoke/VarHandle" ∧ (parseMethodDescriptor y.desc).map (fun d => d.parameters.length) = some na) (hR : fr + 1 ≤ rm.frames ∧ 8 + (maxL + 11) + lo ≤ rm.locals)
    (isK : List Nat) (hKs : isK.filterMap (fun i => tys[i]?) = tys0) (isC : List Nat) (hC : isC.map (fun i => ws[i]?) = w0.map some) (hn1 : va_nd isC = true) (isR : List Nat) (hRr : isR.map (fun i => ws[i]?) = wr.map some) (hn2 : va_nd isR = true) (hdis : ∀ i ∈ isR, i ∉ isC) (hst : st = (av.reverse ++ rest)) (hn : av.length = na) (hcat : (rest.map fun v => v.category).sum ≤ 8) (hcells : n ≤ rm.cells ∧ k ≤ rm.slots) (hd : decode cc pc = .ok (.invokestatic index, 3)) (pc' : Nat) (hp : pc + 3 = pc') (h : ∀ (z : Int) (u : S), post z u → TGo X (wr ++ w1 u) n k pc' lv (.int (iI z) :: rest)) : TGo X ws n k pc lv st := by
  subst hst
  subst hp
  intro H locs ls hP hD hS hl
  have hRm := O.2.2.2.2.2.2.2.1
  have hcl0 := O.2.2.2.2.2.2.2.2.1
  subst hcl0
  have hFc := va_free (wc := w0) hD hS O.2.2.2.2.2.2.1 isC hC
  have hR' : fr + 1 ≤ (cx_R X).frames ∧ 8 + (maxL + 11) + lo ≤ (cx_R X).locals := by rw [hRm]; exact hR
  have hcl : n + 0 ≤ (cx_R X).cells ∧ k + 0 ≤ (cx_R X).slots := by rw [hRm]; exact hcells
  have hsz : ls.size = nL := hl.1.trans O.2.2.2.1
  have hPc : va_P (cx_D X) (cx_C X) w0 H := by
    intro j q hj
    have h1 : (isC.map (fun i => ws[i]?))[j]? = some (some q) := by rw [hC, List.getElem?_map, hj]; rfl
    rw [List.getElem?_map] at h1
    cases hi : isC[j]? with
    | none => rw [hi] at h1; cases h1
    | some i => rw [hi] at h1; exact hP i q (Option.some.inj h1)
  have hDc := hD.sub isC hn1 hC
  have hKc : va_K (cx_D X) (cx_C X) tys0 (cx_s X) := va_K.sub hK isK hKs
  have hpre : ∀ U : State, U.heap = H → (cx_s X).WarmedH U.vm → ct_Pc E (cx_D X) (cx_C X) av w0 tys0 H.size av.toArray U := by
    intro U hU hW
    subst hU
    exact ⟨rfl, rfl, hPc, va_K.moved hW.alike hKc, hDc.weaken (fun _ _ _ _ => trivial), hE.2 _ _ (cx_s X) U locs hS hW hFc O.2.2.2.2.2.2.2.2.2⟩
  refine va_calli (va_runSN ⟨O.1, O.2.1, O.2.2.1, O.2.2.2.2.1, O.2.2.2.2.2.1⟩ (hM (cx_l X) (cx_D X) H.size) ⟨va_cnB na O.2.2.2.2.2.1 (gw_all hcd) rfl rfl rfl hli (O.2.2.2.2.2.1 _ hin0) hdd hR', O.2.2.2.2.2.1 _ hst0, trivial⟩ ⟨ct_blind hE _ _ _ _ _ _, hpre⟩ rfl hn hsz rfl (lv_room hcat) hd hcl) hS (fun q _ h => hFc q h) hFc (fun r u t H1 locs1 ht hvm hw hB hz1 hk1 hS1 => ?_)
  obtain ⟨z, rfl, hpost⟩ := hw
  obtain ⟨hP1, hK1, hD1⟩ := hB
  rw [ht] at hP1
  obtain ⟨hP2, hD2⟩ := va_join (wr := wr) (w1 := w1 u) hP hD isC isR hC hRr hn2 hdis hk1 hFc hP1 hD1
  exact h z u hpost H1 locs1 ls hP2 hD2 hS1 hl
theorem go_calllS {X : TCx} {cc : ByteArray} {own : String} {rm : Room} {nL : Nat} {ws : va_W} {n k pc : Nat} {lv : List (Nat × Value)} {st : List Value} {tys : List (ClassId × FieldType)} {cl : List vw_C} {E : TEn} {S : Type} {y : MethodName} {fr lo : Nat} {w0 wr : va_W} {tys0 : List (ClassId × FieldType)} {bytes : ByteArray} {maxL index : Nat} {ret : Option FieldType} {rest : List Value} {av : List Value} {post : Int → S → Prop} {w1 : S → va_W} (O : TOk X cc own rm nL cl E) (hK : TKn X tys) (hE : EnvOk E) (hM : Ctl cl E y (Cond.code y bytes maxL ret :: Gw) (rmn fr lo) av w0 tys0 post w1) (hml : Cond.methodLink own index y ∈ Gw) (hst0 : Cond.static y ∈ Gw) (hin0 : Cond.initialized y.cls ∈ Gw) (hcd : Cond.code y bytes maxL ret ∈ Gw) (na : Nat) (hdd : y.cls ≠ "java/lang/invoke/MethodHandle" ∧ y.cls ≠ "java/lang/invoke/VarHandle" ∧ (parseMethodDescriptor y.desc).map (fun d => d.parameters.length) = some na) (hR : fr + 1 ≤ rm.frames ∧ 8 + (maxL + 11) + lo ≤ rm.locals)
    (isK : List Nat) (hKs : isK.filterMap (fun i => tys[i]?) = tys0) (isC : List Nat) (hC : isC.map (fun i => ws[i]?) = w0.map some) (hn1 : va_nd isC = true) (isR : List Nat) (hRr : isR.map (fun i => ws[i]?) = wr.map some) (hn2 : va_nd isR = true) (hdis : ∀ i ∈ isR, i ∉ isC) (hst : st = (av.reverse ++ rest)) (hn : av.length = na) (hcat : (rest.map fun v => v.category).sum ≤ 8) (hcells : n ≤ rm.cells ∧ k ≤ rm.slots) (hd : decode cc pc = .ok (.invokestatic index, 3)) (pc' : Nat) (hp : pc + 3 = pc') (h : ∀ (z : Int) (u : S), post z u → TGo X (wr ++ w1 u) n k pc' lv (.long (lI z) :: rest)) : TGo X ws n k pc lv st := by
  subst hst
  subst hp
  intro H locs ls hP hD hS hl
  have hRm := O.2.2.2.2.2.2.2.1
  have hcl0 := O.2.2.2.2.2.2.2.2.1
  subst hcl0
  have hFc := va_free (wc := w0) hD hS O.2.2.2.2.2.2.1 isC hC
  have hR' : fr + 1 ≤ (cx_R X).frames ∧ 8 + (maxL + 11) + lo ≤ (cx_R X).locals := by rw [hRm]; exact hR
  have hcl : n + 0 ≤ (cx_R X).cells ∧ k + 0 ≤ (cx_R X).slots := by rw [hRm]; exact hcells
  have hsz : ls.size = nL := hl.1.trans O.2.2.2.1
  have hPc : va_P (cx_D X) (cx_C X) w0 H := by
    intro j q hj
    have h1 : (isC.map (fun i => ws[i]?))[j]? = some (some q) := by rw [hC, List.getElem?_map, hj]; rfl
    rw [List.getElem?_map] at h1
    cases hi : isC[j]? with
    | none => rw [hi] at h1; cases h1
    | some i => rw [hi] at h1; exact hP i q (Option.some.inj h1)
  have hDc := hD.sub isC hn1 hC
  have hKc : va_K (cx_D X) (cx_C X) tys0 (cx_s X) := va_K.sub hK isK hKs
  have hpre : ∀ U : State, U.heap = H → (cx_s X).WarmedH U.vm → ct_Pc E (cx_D X) (cx_C X) av w0 tys0 H.size av.toArray U := by
    intro U hU hW
    subst hU
    exact ⟨rfl, rfl, hPc, va_K.moved hW.alike hKc, hDc.weaken (fun _ _ _ _ => trivial), hE.2 _ _ (cx_s X) U locs hS hW hFc O.2.2.2.2.2.2.2.2.2⟩
  refine va_calll (va_runS ⟨O.1, O.2.1, O.2.2.1, O.2.2.2.2.1, O.2.2.2.2.2.1⟩ (hM (cx_l X) (cx_D X) H.size) (va_cwS na O.2.2.2.2.2.1 (gw_S hml hst0 hin0 hcd) rfl rfl rfl hdd hR') ⟨ct_blind hE _ _ _ _ _ _, hpre⟩ rfl hn hsz rfl (lv_room hcat) hd hcl) hS (fun q _ h => hFc q h) hFc (fun r u t H1 locs1 ht hvm hw hB hz1 hk1 hS1 => ?_)
  obtain ⟨z, rfl, hpost⟩ := hw
  obtain ⟨hP1, hK1, hD1⟩ := hB
  rw [ht] at hP1
  obtain ⟨hP2, hD2⟩ := va_join (wr := wr) (w1 := w1 u) hP hD isC isR hC hRr hn2 hdis hk1 hFc hP1 hD1
  exact h z u hpost H1 locs1 ls hP2 hD2 hS1 hl
theorem go_calllV {X : TCx} {cc : ByteArray} {own : String} {rm : Room} {nL : Nat} {ws : va_W} {n k pc : Nat} {lv : List (Nat × Value)} {st : List Value} {tys : List (ClassId × FieldType)} {cl : List vw_C} {E : TEn} {S : Type} {y : MethodName} {fr lo : Nat} {w0 wr : va_W} {tys0 : List (ClassId × FieldType)} {bytes : ByteArray} {maxL index : Nat} {ret : Option FieldType} {rest : List Value} {As : List Value} {b ci : Nat} {rc : vw_C} {fs : List Value} {post : Int → S → Prop} {w1 : S → va_W} (O : TOk X cc own rm nL cl E) (hK : TKn X tys) (hE : EnvOk E) (hM : Ctl cl E y (Cond.code y bytes maxL ret :: Gw) (rmn fr lo) (.ref b :: As) w0 tys0 post w1) (hml : Cond.methodLink own index y ∈ Gw) (him : Cond.instanceMethod y ∈ Gw) (hse : Cond.selects rc.1 y y ∈ Gw) (hin0 : Cond.initialized rc.1 ∈ Gw) (hcd : Cond.code y bytes maxL ret ∈ Gw) (na : Nat) (hdd : y.cls = rc.1 ∧ y.cls ≠ "java/lang/invoke/MethodHandle" ∧ y.cls ≠ "java/lang/invoke/VarHandle" ∧ (parseMethodDescriptor y.desc).map (fun d => d.parameters.length) = some na) (hR : fr + 1 ≤ rm.frames ∧ 8 + (maxL + 11) + lo ≤ rm.locals) (qb : Nat) (hqb : ws[qb]? = some (b, .inr (ci, fs))) (hci : cl[ci]? = some rc)
    (isK : List Nat) (hKs : isK.filterMap (fun i => tys[i]?) = tys0) (isC : List Nat) (hC : isC.map (fun i => ws[i]?) = w0.map some) (hn1 : va_nd isC = true) (isR : List Nat) (hRr : isR.map (fun i => ws[i]?) = wr.map some) (hn2 : va_nd isR = true) (hdis : ∀ i ∈ isR, i ∉ isC) (hst : st = (As.reverse ++ .ref b :: rest)) (hn : As.length = na) (hcat : (rest.map fun v => v.category).sum ≤ 8) (hcells : n ≤ rm.cells ∧ k ≤ rm.slots) (hd : decode cc pc = .ok (.invokevirtual index, 3)) (pc' : Nat) (hp : pc + 3 = pc') (h : ∀ (z : Int) (u : S), post z u → TGo X (wr ++ w1 u) n k pc' lv (.long (lI z) :: rest)) : TGo X ws n k pc lv st := by
  subst hst
  subst hp
  intro H locs ls hP hD hS hl
  have hRm := O.2.2.2.2.2.2.2.1
  have hcl0 := O.2.2.2.2.2.2.2.2.1
  subst hcl0
  have hFc := va_free (wc := w0) hD hS O.2.2.2.2.2.2.1 isC hC
  have hR' : fr + 1 ≤ (cx_R X).frames ∧ 8 + (maxL + 11) + lo ≤ (cx_R X).locals := by rw [hRm]; exact hR
  have hcl : n + 0 ≤ (cx_R X).cells ∧ k + 0 ≤ (cx_R X).slots := by rw [hRm]; exact hcells
  have hsz : ls.size = nL := hl.1.trans O.2.2.2.1
  have hPc : va_P (cx_D X) (cx_C X) w0 H := by
    intro j q hj
    have h1 : (isC.map (fun i => ws[i]?))[j]? = some (some q) := by rw [hC, List.getElem?_map, hj]; rfl
    rw [List.getElem?_map] at h1
    cases hi : isC[j]? with
    | none => rw [hi] at h1; cases h1
    | some i => rw [hi] at h1; exact hP i q (Option.some.inj h1)
  have hDc := hD.sub isC hn1 hC
  have hKc : va_K (cx_D X) (cx_C X) tys0 (cx_s X) := va_K.sub hK isK hKs
  have hpre : ∀ U : State, U.heap = H → (cx_s X).WarmedH U.vm → ct_Pc E (cx_D X) (cx_C X) (.ref b :: As) w0 tys0 H.size (.ref b :: As).toArray U := by
    intro U hU hW
    subst hU
    exact ⟨rfl, rfl, hPc, va_K.moved hW.alike hKc, hDc.weaken (fun _ _ _ _ => trivial), hE.2 _ _ (cx_s X) U locs hS hW hFc O.2.2.2.2.2.2.2.2.2⟩
  refine va_calll (va_runV ⟨O.1, O.2.1, O.2.2.1, O.2.2.2.2.1, O.2.2.2.2.2.1⟩ (hM (cx_l X) (cx_D X) H.size) (cwV na O.2.2.2.2.2.1 (gw_V hml him hse hin0 hcd) rfl rfl rfl hdd hR') ⟨ct_blind hE _ _ _ _ _ _, va_recv hK hP hci hqb, hpre⟩ rfl hn hsz rfl (lv_room hcat) hd hcl) hS (fun q _ h => hFc q h) hFc (fun r u t H1 locs1 ht hvm hw hB hz1 hk1 hS1 => ?_)
  obtain ⟨z, rfl, hpost⟩ := hw
  obtain ⟨hP1, hK1, hD1⟩ := hB
  rw [ht] at hP1
  obtain ⟨hP2, hD2⟩ := va_join (wr := wr) (w1 := w1 u) hP hD isC isR hC hRr hn2 hdis hk1 hFc hP1 hD1
  exact h z u hpost H1 locs1 ls hP2 hD2 hS1 hl
theorem go_calllSN {X : TCx} {cc : ByteArray} {own : String} {rm : Room} {nL : Nat} {ws : va_W} {n k pc : Nat} {lv : List (Nat × Value)} {st : List Value} {tys : List (ClassId × FieldType)} {cl : List vw_C} {E : TEn} {S : Type} {y : MethodName} {fr lo : Nat} {w0 wr : va_W} {tys0 : List (ClassId × FieldType)} {bytes : ByteArray} {maxL index : Nat} {ret : Option FieldType} {rest : List Value} {av : List Value} {host : String} {post : Int → S → Prop} {w1 : S → va_W} (O : TOk X cc own rm nL cl E) (hK : TKn X tys) (hE : EnvOk E) (hM : Ctl cl E y (Cond.code y bytes maxL ret :: Gw) (rmn fr lo) av w0 tys0 post w1) (hli : va_Nw (.methodLinkNest own index y host) (cx_s X)) (hst0 : Cond.static y ∈ Gw) (hin0 : Cond.initialized y.cls ∈ Gw) (hcd : Cond.code y bytes maxL ret ∈ Gw) (na : Nat) (hdd : y.cls ≠ "java/lang/invoke/MethodHandle" ∧ y.cls ≠ "java/lang/invoke/VarHandle" ∧ (parseMethodDescriptor y.desc).map (fun d => d.parameters.length) = some na) (hR : fr + 1 ≤ rm.frames ∧ 8 + (maxL + 11) + lo ≤ rm.locals)
    (isK : List Nat) (hKs : isK.filterMap (fun i => tys[i]?) = tys0) (isC : List Nat) (hC : isC.map (fun i => ws[i]?) = w0.map some) (hn1 : va_nd isC = true) (isR : List Nat) (hRr : isR.map (fun i => ws[i]?) = wr.map some) (hn2 : va_nd isR = true) (hdis : ∀ i ∈ isR, i ∉ isC) (hst : st = (av.reverse ++ rest)) (hn : av.length = na) (hcat : (rest.map fun v => v.category).sum ≤ 8) (hcells : n ≤ rm.cells ∧ k ≤ rm.slots) (hd : decode cc pc = .ok (.invokestatic index, 3)) (pc' : Nat) (hp : pc + 3 = pc') (h : ∀ (z : Int) (u : S), post z u → TGo X (wr ++ w1 u) n k pc' lv (.long (lI z) :: rest)) : TGo X ws n k pc lv st := by
  subst hst
  subst hp
  intro H locs ls hP hD hS hl
  have hRm := O.2.2.2.2.2.2.2.1
  have hcl0 := O.2.2.2.2.2.2.2.2.1
  subst hcl0
  have hFc := va_free (wc := w0) hD hS O.2.2.2.2.2.2.1 isC hC
  have hR' : fr + 1 ≤ (cx_R X).frames ∧ 8 + (maxL + 11) + lo ≤ (cx_R X).locals := by rw [hRm]; exact hR
  have hcl : n + 0 ≤ (cx_R X).cells ∧ k + 0 ≤ (cx_R X).slots := by rw [hRm]; exact hcells
  have hsz : ls.size = nL := hl.1.trans O.2.2.2.1
  have hPc : va_P (cx_D X) (cx_C X) w0 H := by
    intro j q hj
    have h1 : (isC.map (fun i => ws[i]?))[j]? = some (some q) := by rw [hC, List.getElem?_map, hj]; rfl
    rw [List.getElem?_map] at h1
    cases hi : isC[j]? with
    | none => rw [hi] at h1; cases h1
    | some i => rw [hi] at h1; exact hP i q (Option.some.inj h1)
  have hDc := hD.sub isC hn1 hC
  have hKc : va_K (cx_D X) (cx_C X) tys0 (cx_s X) := va_K.sub hK isK hKs
  have hpre : ∀ U : State, U.heap = H → (cx_s X).WarmedH U.vm → ct_Pc E (cx_D X) (cx_C X) av w0 tys0 H.size av.toArray U := by
    intro U hU hW
    subst hU
    exact ⟨rfl, rfl, hPc, va_K.moved hW.alike hKc, hDc.weaken (fun _ _ _ _ => trivial), hE.2 _ _ (cx_s X) U locs hS hW hFc O.2.2.2.2.2.2.2.2.2⟩
  refine va_calll (va_runSN ⟨O.1, O.2.1, O.2.2.1, O.2.2.2.2.1, O.2.2.2.2.2.1⟩ (hM (cx_l X) (cx_D X) H.size) ⟨va_cnB na O.2.2.2.2.2.1 (gw_all hcd) rfl rfl rfl hli (O.2.2.2.2.2.1 _ hin0) hdd hR', O.2.2.2.2.2.1 _ hst0, trivial⟩ ⟨ct_blind hE _ _ _ _ _ _, hpre⟩ rfl hn hsz rfl (lv_room hcat) hd hcl) hS (fun q _ h => hFc q h) hFc (fun r u t H1 locs1 ht hvm hw hB hz1 hk1 hS1 => ?_)
  obtain ⟨z, rfl, hpost⟩ := hw
  obtain ⟨hP1, hK1, hD1⟩ := hB
  rw [ht] at hP1
  obtain ⟨hP2, hD2⟩ := va_join (wr := wr) (w1 := w1 u) hP hD isC isR hC hRr hn2 hdis hk1 hFc hP1 hD1
  exact h z u hpost H1 locs1 ls hP2 hD2 hS1 hl
theorem go_callvS {X : TCx} {cc : ByteArray} {own : String} {rm : Room} {nL : Nat} {ws : va_W} {n k pc : Nat} {lv : List (Nat × Value)} {st : List Value} {tys : List (ClassId × FieldType)} {cl : List vw_C} {E : TEn} {S : Type} {y : MethodName} {fr lo : Nat} {w0 wr : va_W} {tys0 : List (ClassId × FieldType)} {bytes : ByteArray} {maxL index : Nat} {ret : Option FieldType} {rest : List Value} {av : List Value} {post : S → Prop} {w1 : S → va_W} (O : TOk X cc own rm nL cl E) (hK : TKn X tys) (hE : EnvOk E) (hM : Ctv cl E y (Cond.code y bytes maxL ret :: Gw) (rmn fr lo) av w0 tys0 post w1) (hml : Cond.methodLink own index y ∈ Gw) (hst0 : Cond.static y ∈ Gw) (hin0 : Cond.initialized y.cls ∈ Gw) (hcd : Cond.code y bytes maxL ret ∈ Gw) (na : Nat) (hdd : y.cls ≠ "java/lang/invoke/MethodHandle" ∧ y.cls ≠ "java/lang/invoke/VarHandle" ∧ (parseMethodDescriptor y.desc).map (fun d => d.parameters.length) = some na) (hR : fr + 1 ≤ rm.frames ∧ 8 + (maxL + 11) + lo ≤ rm.locals)
    (isK : List Nat) (hKs : isK.filterMap (fun i => tys[i]?) = tys0) (isC : List Nat) (hC : isC.map (fun i => ws[i]?) = w0.map some) (hn1 : va_nd isC = true) (isR : List Nat) (hRr : isR.map (fun i => ws[i]?) = wr.map some) (hn2 : va_nd isR = true) (hdis : ∀ i ∈ isR, i ∉ isC) (hst : st = (av.reverse ++ rest)) (hn : av.length = na) (hcat : (rest.map fun v => v.category).sum ≤ 8) (hcells : n ≤ rm.cells ∧ k ≤ rm.slots) (hd : decode cc pc = .ok (.invokestatic index, 3)) (pc' : Nat) (hp : pc + 3 = pc') (h : ∀ (u : S), post u → TGo X (wr ++ w1 u) n k pc' lv rest) : TGo X ws n k pc lv st := by
  subst hst
  subst hp
  intro H locs ls hP hD hS hl
  have hRm := O.2.2.2.2.2.2.2.1
  have hcl0 := O.2.2.2.2.2.2.2.2.1
  subst hcl0
  have hFc := va_free (wc := w0) hD hS O.2.2.2.2.2.2.1 isC hC
  have hR' : fr + 1 ≤ (cx_R X).frames ∧ 8 + (maxL + 11) + lo ≤ (cx_R X).locals := by rw [hRm]; exact hR
  have hcl : n + 0 ≤ (cx_R X).cells ∧ k + 0 ≤ (cx_R X).slots := by rw [hRm]; exact hcells
  have hsz : ls.size = nL := hl.1.trans O.2.2.2.1
  have hPc : va_P (cx_D X) (cx_C X) w0 H := by
    intro j q hj
    have h1 : (isC.map (fun i => ws[i]?))[j]? = some (some q) := by rw [hC, List.getElem?_map, hj]; rfl
    rw [List.getElem?_map] at h1
    cases hi : isC[j]? with
    | none => rw [hi] at h1; cases h1
    | some i => rw [hi] at h1; exact hP i q (Option.some.inj h1)
  have hDc := hD.sub isC hn1 hC
  have hKc : va_K (cx_D X) (cx_C X) tys0 (cx_s X) := va_K.sub hK isK hKs
  have hpre : ∀ U : State, U.heap = H → (cx_s X).WarmedH U.vm → ct_Pc E (cx_D X) (cx_C X) av w0 tys0 H.size av.toArray U := by
    intro U hU hW
    subst hU
    exact ⟨rfl, rfl, hPc, va_K.moved hW.alike hKc, hDc.weaken (fun _ _ _ _ => trivial), hE.2 _ _ (cx_s X) U locs hS hW hFc O.2.2.2.2.2.2.2.2.2⟩
  refine va_callv (va_runS ⟨O.1, O.2.1, O.2.2.1, O.2.2.2.2.1, O.2.2.2.2.2.1⟩ (hM (cx_l X) (cx_D X) H.size) (va_cwS na O.2.2.2.2.2.1 (gw_S hml hst0 hin0 hcd) rfl rfl rfl hdd hR') ⟨ct_blind hE _ _ _ _ _ _, hpre⟩ rfl hn hsz rfl (lv_room hcat) hd hcl) hS (fun q _ h => hFc q h) hFc (fun u t H1 locs1 ht hvm hpost hB hz1 hk1 hS1 => ?_)
  obtain ⟨hP1, hK1, hD1⟩ := hB
  rw [ht] at hP1
  obtain ⟨hP2, hD2⟩ := va_join (wr := wr) (w1 := w1 u) hP hD isC isR hC hRr hn2 hdis hk1 hFc hP1 hD1
  exact h u hpost H1 locs1 ls hP2 hD2 hS1 hl
theorem go_callvV {X : TCx} {cc : ByteArray} {own : String} {rm : Room} {nL : Nat} {ws : va_W} {n k pc : Nat} {lv : List (Nat × Value)} {st : List Value} {tys : List (ClassId × FieldType)} {cl : List vw_C} {E : TEn} {S : Type} {y : MethodName} {fr lo : Nat} {w0 wr : va_W} {tys0 : List (ClassId × FieldType)} {bytes : ByteArray} {maxL index : Nat} {ret : Option FieldType} {rest : List Value} {As : List Value} {b ci : Nat} {rc : vw_C} {fs : List Value} {post : S → Prop} {w1 : S → va_W} (O : TOk X cc own rm nL cl E) (hK : TKn X tys) (hE : EnvOk E) (hM : Ctv cl E y (Cond.code y bytes maxL ret :: Gw) (rmn fr lo) (.ref b :: As) w0 tys0 post w1) (hml : Cond.methodLink own index y ∈ Gw) (him : Cond.instanceMethod y ∈ Gw) (hse : Cond.selects rc.1 y y ∈ Gw) (hin0 : Cond.initialized rc.1 ∈ Gw) (hcd : Cond.code y bytes maxL ret ∈ Gw) (na : Nat) (hdd : y.cls = rc.1 ∧ y.cls ≠ "java/lang/invoke/MethodHandle" ∧ y.cls ≠ "java/lang/invoke/VarHandle" ∧ (parseMethodDescriptor y.desc).map (fun d => d.parameters.length) = some na) (hR : fr + 1 ≤ rm.frames ∧ 8 + (maxL + 11) + lo ≤ rm.locals) (qb : Nat) (hqb : ws[qb]? = some (b, .inr (ci, fs))) (hci : cl[ci]? = some rc)
    (isK : List Nat) (hKs : isK.filterMap (fun i => tys[i]?) = tys0) (isC : List Nat) (hC : isC.map (fun i => ws[i]?) = w0.map some) (hn1 : va_nd isC = true) (isR : List Nat) (hRr : isR.map (fun i => ws[i]?) = wr.map some) (hn2 : va_nd isR = true) (hdis : ∀ i ∈ isR, i ∉ isC) (hst : st = (As.reverse ++ .ref b :: rest)) (hn : As.length = na) (hcat : (rest.map fun v => v.category).sum ≤ 8) (hcells : n ≤ rm.cells ∧ k ≤ rm.slots) (hd : decode cc pc = .ok (.invokevirtual index, 3)) (pc' : Nat) (hp : pc + 3 = pc') (h : ∀ (u : S), post u → TGo X (wr ++ w1 u) n k pc' lv rest) : TGo X ws n k pc lv st := by
  subst hst
  subst hp
  intro H locs ls hP hD hS hl
  have hRm := O.2.2.2.2.2.2.2.1
  have hcl0 := O.2.2.2.2.2.2.2.2.1
  subst hcl0
  have hFc := va_free (wc := w0) hD hS O.2.2.2.2.2.2.1 isC hC
  have hR' : fr + 1 ≤ (cx_R X).frames ∧ 8 + (maxL + 11) + lo ≤ (cx_R X).locals := by rw [hRm]; exact hR
  have hcl : n + 0 ≤ (cx_R X).cells ∧ k + 0 ≤ (cx_R X).slots := by rw [hRm]; exact hcells
  have hsz : ls.size = nL := hl.1.trans O.2.2.2.1
  have hPc : va_P (cx_D X) (cx_C X) w0 H := by
    intro j q hj
    have h1 : (isC.map (fun i => ws[i]?))[j]? = some (some q) := by rw [hC, List.getElem?_map, hj]; rfl
    rw [List.getElem?_map] at h1
    cases hi : isC[j]? with
    | none => rw [hi] at h1; cases h1
    | some i => rw [hi] at h1; exact hP i q (Option.some.inj h1)
  have hDc := hD.sub isC hn1 hC
  have hKc : va_K (cx_D X) (cx_C X) tys0 (cx_s X) := va_K.sub hK isK hKs
  have hpre : ∀ U : State, U.heap = H → (cx_s X).WarmedH U.vm → ct_Pc E (cx_D X) (cx_C X) (.ref b :: As) w0 tys0 H.size (.ref b :: As).toArray U := by
    intro U hU hW
    subst hU
    exact ⟨rfl, rfl, hPc, va_K.moved hW.alike hKc, hDc.weaken (fun _ _ _ _ => trivial), hE.2 _ _ (cx_s X) U locs hS hW hFc O.2.2.2.2.2.2.2.2.2⟩
  refine va_callv (va_runV ⟨O.1, O.2.1, O.2.2.1, O.2.2.2.2.1, O.2.2.2.2.2.1⟩ (hM (cx_l X) (cx_D X) H.size) (cwV na O.2.2.2.2.2.1 (gw_V hml him hse hin0 hcd) rfl rfl rfl hdd hR') ⟨ct_blind hE _ _ _ _ _ _, va_recv hK hP hci hqb, hpre⟩ rfl hn hsz rfl (lv_room hcat) hd hcl) hS (fun q _ h => hFc q h) hFc (fun u t H1 locs1 ht hvm hpost hB hz1 hk1 hS1 => ?_)
  obtain ⟨hP1, hK1, hD1⟩ := hB
  rw [ht] at hP1
  obtain ⟨hP2, hD2⟩ := va_join (wr := wr) (w1 := w1 u) hP hD isC isR hC hRr hn2 hdis hk1 hFc hP1 hD1
  exact h u hpost H1 locs1 ls hP2 hD2 hS1 hl
theorem go_callvSN {X : TCx} {cc : ByteArray} {own : String} {rm : Room} {nL : Nat} {ws : va_W} {n k pc : Nat} {lv : List (Nat × Value)} {st : List Value} {tys : List (ClassId × FieldType)} {cl : List vw_C} {E : TEn} {S : Type} {y : MethodName} {fr lo : Nat} {w0 wr : va_W} {tys0 : List (ClassId × FieldType)} {bytes : ByteArray} {maxL index : Nat} {ret : Option FieldType} {rest : List Value} {av : List Value} {host : String} {post : S → Prop} {w1 : S → va_W} (O : TOk X cc own rm nL cl E) (hK : TKn X tys) (hE : EnvOk E) (hM : Ctv cl E y (Cond.code y bytes maxL ret :: Gw) (rmn fr lo) av w0 tys0 post w1) (hli : va_Nw (.methodLinkNest own index y host) (cx_s X)) (hst0 : Cond.static y ∈ Gw) (hin0 : Cond.initialized y.cls ∈ Gw) (hcd : Cond.code y bytes maxL ret ∈ Gw) (na : Nat) (hdd : y.cls ≠ "java/lang/invoke/MethodHandle" ∧ y.cls ≠ "java/lang/invoke/VarHandle" ∧ (parseMethodDescriptor y.desc).map (fun d => d.parameters.length) = some na) (hR : fr + 1 ≤ rm.frames ∧ 8 + (maxL + 11) + lo ≤ rm.locals)
    (isK : List Nat) (hKs : isK.filterMap (fun i => tys[i]?) = tys0) (isC : List Nat) (hC : isC.map (fun i => ws[i]?) = w0.map some) (hn1 : va_nd isC = true) (isR : List Nat) (hRr : isR.map (fun i => ws[i]?) = wr.map some) (hn2 : va_nd isR = true) (hdis : ∀ i ∈ isR, i ∉ isC) (hst : st = (av.reverse ++ rest)) (hn : av.length = na) (hcat : (rest.map fun v => v.category).sum ≤ 8) (hcells : n ≤ rm.cells ∧ k ≤ rm.slots) (hd : decode cc pc = .ok (.invokestatic index, 3)) (pc' : Nat) (hp : pc + 3 = pc') (h : ∀ (u : S), post u → TGo X (wr ++ w1 u) n k pc' lv rest) : TGo X ws n k pc lv st := by
  subst hst
  subst hp
  intro H locs ls hP hD hS hl
  have hRm := O.2.2.2.2.2.2.2.1
  have hcl0 := O.2.2.2.2.2.2.2.2.1
  subst hcl0
  have hFc := va_free (wc := w0) hD hS O.2.2.2.2.2.2.1 isC hC
  have hR' : fr + 1 ≤ (cx_R X).frames ∧ 8 + (maxL + 11) + lo ≤ (cx_R X).locals := by rw [hRm]; exact hR
  have hcl : n + 0 ≤ (cx_R X).cells ∧ k + 0 ≤ (cx_R X).slots := by rw [hRm]; exact hcells
  have hsz : ls.size = nL := hl.1.trans O.2.2.2.1
  have hPc : va_P (cx_D X) (cx_C X) w0 H := by
    intro j q hj
    have h1 : (isC.map (fun i => ws[i]?))[j]? = some (some q) := by rw [hC, List.getElem?_map, hj]; rfl
    rw [List.getElem?_map] at h1
    cases hi : isC[j]? with
    | none => rw [hi] at h1; cases h1
    | some i => rw [hi] at h1; exact hP i q (Option.some.inj h1)
  have hDc := hD.sub isC hn1 hC
  have hKc : va_K (cx_D X) (cx_C X) tys0 (cx_s X) := va_K.sub hK isK hKs
  have hpre : ∀ U : State, U.heap = H → (cx_s X).WarmedH U.vm → ct_Pc E (cx_D X) (cx_C X) av w0 tys0 H.size av.toArray U := by
    intro U hU hW
    subst hU
    exact ⟨rfl, rfl, hPc, va_K.moved hW.alike hKc, hDc.weaken (fun _ _ _ _ => trivial), hE.2 _ _ (cx_s X) U locs hS hW hFc O.2.2.2.2.2.2.2.2.2⟩
  refine va_callv (va_runSN ⟨O.1, O.2.1, O.2.2.1, O.2.2.2.2.1, O.2.2.2.2.2.1⟩ (hM (cx_l X) (cx_D X) H.size) ⟨va_cnB na O.2.2.2.2.2.1 (gw_all hcd) rfl rfl rfl hli (O.2.2.2.2.2.1 _ hin0) hdd hR', O.2.2.2.2.2.1 _ hst0, trivial⟩ ⟨ct_blind hE _ _ _ _ _ _, hpre⟩ rfl hn hsz rfl (lv_room hcat) hd hcl) hS (fun q _ h => hFc q h) hFc (fun u t H1 locs1 ht hvm hpost hB hz1 hk1 hS1 => ?_)
  obtain ⟨hP1, hK1, hD1⟩ := hB
  rw [ht] at hP1
  obtain ⟨hP2, hD2⟩ := va_join (wr := wr) (w1 := w1 u) hP hD isC isR hC hRr hn2 hdis hk1 hFc hP1 hD1
  exact h u hpost H1 locs1 ls hP2 hD2 hS1 hl
end
section
/-! Numbers as rows of decimal digits, the lowest first. -/
def dg (N : Nat) : Nat → Int32 := fun i => iI ((N / 10 ^ i % 10 : Nat) : Int)
theorem dg_at (N i : Nat) : dg N i = iI ((N / 10 ^ i % 10 : Nat) : Int) := rfl
theorem dg_zero (i : Nat) : dg 0 i = iI 0 := by
  unfold dg
  rw [Nat.zero_div]
  rfl
theorem tq10 (N i : Nat) : N / 10 ^ (i + 1) = N / 10 ^ i / 10 := by
  rw [Nat.pow_succ, Nat.div_div_eq_div_mul]
theorem tqz (N : Nat) : N / 10 ^ 0 = N := by rw [Nat.pow_zero, Nat.div_one]
theorem p10 (i : Nat) : 0 < 10 ^ i := Nat.pow_pos (by omega)
theorem p10s (i : Nat) : 10 ^ (i + 1) = 10 * 10 ^ i := by rw [Nat.pow_succ, Nat.mul_comm]
theorem p10le {a b : Nat} (h : a ≤ b) : 10 ^ a ≤ 10 ^ b := Nat.pow_le_pow_right (by omega) h
theorem p10lt {a b : Nat} (h : a < b) : 10 ^ a < 10 ^ b := Nat.pow_lt_pow_right (by omega) h
theorem p10add (a b : Nat) : 10 ^ (a + b) = 10 ^ a * 10 ^ b := Nat.pow_add 10 a b
theorem q_lt {N i : Nat} (h : N < 10 ^ i) : N / 10 ^ i = 0 := Nat.div_eq_of_lt h
theorem q_lt' {N i j : Nat} (h : N < 10 ^ i) (hij : i ≤ j) : N / 10 ^ j = 0 := Nat.div_eq_of_lt (Nat.lt_of_lt_of_le h (p10le hij))
/-- zero digits from s on: the number is below 10^s -/
theorem lt_of_digits {N s e : Nat} (he : N < 10 ^ e) (hs : s ≤ e) (h : ∀ j, s ≤ j → j < e → N / 10 ^ j % 10 = 0) : N < 10 ^ s := by
  have key : ∀ d, d ≤ e - s → N / 10 ^ (e - d) = 0 := by
    intro d
    induction d with
    | zero => intro _; exact q_lt he
    | succ d ih =>
      intro hd
      have h1 := ih (by omega)
      have h2 : e - d = (e - (d + 1)) + 1 := by omega
      rw [h2, tq10] at h1
      have h3 := h (e - (d + 1)) (by omega) (by omega)
      omega
  have h1 := key (e - s) (Nat.le_refl _)
  have h2 : e - (e - s) = s := by omega
  rw [h2] at h1
  exact (Nat.div_eq_zero_iff_lt (p10 s)).mp h1
/-- how many digits a number has; none for zero -/
def tnd : Nat → Nat → Nat
  | 0, _ => 0
  | f + 1, N => if N = 0 then 0 else tnd f (N / 10) + 1
def tnds (N : Nat) : Nat := tnd N N
theorem tnd_lt : ∀ (f N : Nat), N ≤ f → N < 10 ^ tnd f N ∧ (0 < N → 0 < tnd f N ∧ 10 ^ (tnd f N - 1) ≤ N) := by
  intro f
  induction f with
  | zero =>
    intro N h
    have : N = 0 := by omega
    subst this
    exact ⟨by decide, fun h => absurd h (by omega)⟩
  | succ f ih =>
    intro N h
    unfold tnd
    by_cases h0 : N = 0
    · rw [if_pos h0]; subst h0; exact ⟨by decide, fun h => absurd h (by omega)⟩
    · rw [if_neg h0]
      obtain ⟨h1, h2⟩ := ih (N / 10) (by omega)
      refine ⟨by rw [p10s]; omega, fun _ => ⟨by omega, ?_⟩⟩
      rw [Nat.add_sub_cancel]
      by_cases h3 : N / 10 = 0
      · rw [h3]
        have : tnd f 0 = 0 := by cases f with
          | zero => rfl
          | succ f => unfold tnd; rw [if_pos rfl]
        rw [this, Nat.pow_zero]; omega
      · obtain ⟨h4, h5⟩ := h2 (by omega)
        have h6 : tnd f (N / 10) = (tnd f (N / 10) - 1) + 1 := by omega
        rw [h6, p10s]
        omega
theorem tnds_lt (N : Nat) : N < 10 ^ tnds N := (tnd_lt N N (Nat.le_refl _)).1
theorem tnds_pos {N : Nat} (h : 0 < N) : 0 < tnds N := ((tnd_lt N N (Nat.le_refl _)).2 h).1
theorem tnds_le {N : Nat} (h : 0 < N) : 10 ^ (tnds N - 1) ≤ N := ((tnd_lt N N (Nat.le_refl _)).2 h).2
theorem tnds_zero : tnds 0 = 0 := rfl
theorem tnds_eq {N s : Nat} (h1 : N < 10 ^ s) (h2 : s = 0 ∨ 10 ^ (s - 1) ≤ N) : tnds N = s := by
  rcases h2 with h2 | h2
  · subst h2
    have : N = 0 := by rw [Nat.pow_zero] at h1; omega
    subst this; rfl
  · have hN : 0 < N := Nat.lt_of_lt_of_le (p10 _) h2
    have a1 := tnds_lt N
    have a2 := tnds_le hN
    have a3 := tnds_pos hN
    by_cases h3 : tnds N < s
    · have := p10le (a := tnds N) (b := s - 1) (by omega)
      omega
    · by_cases h4 : s < tnds N
      · have := p10le (a := s) (b := tnds N - 1) (by omega)
        omega
      · omega
theorem tnds_mono {N e : Nat} (h : N < 10 ^ e) : tnds N ≤ e := by
  by_cases h0 : N = 0
  · subst h0; rw [tnds_zero]; omega
  · by_cases h1 : e < tnds N
    · have a2 := tnds_le (N := N) (by omega)
      have := p10le (a := e) (b := tnds N - 1) (by omega)
      omega
    · omega
theorem tnds_gt {N e : Nat} (h : 10 ^ e ≤ N) : e < tnds N := by
  by_cases h1 : e < tnds N
  · exact h1
  · have := tnds_lt N
    have := p10le (a := tnds N) (b := e) (by omega)
    omega
/-- a digit row scanned from below -/
theorem tnds_scan {N s e : Nat} (he : N < 10 ^ e) (hs : s ≤ e) (h : ∀ j, s ≤ j → j < e → N / 10 ^ j % 10 = 0) (hd : s = 0 ∨ N / 10 ^ (s - 1) % 10 ≠ 0) : tnds N = s := by
  refine tnds_eq (lt_of_digits he hs h) ?_
  rcases hd with hd | hd
  · exact Or.inl hd
  · refine Or.inr ?_
    by_cases h1 : N < 10 ^ (s - 1)
    · rw [q_lt h1] at hd; exact absurd rfl hd
    · omega
theorem mulp_hi {N k j : Nat} (h : k ≤ j) : N * 10 ^ k / 10 ^ j = N / 10 ^ (j - k) := by
  have : 10 ^ j = 10 ^ k * 10 ^ (j - k) := by rw [← p10add]; congr 1; omega
  rw [this, Nat.mul_comm N, Nat.mul_div_mul_left _ _ (p10 k)]
theorem mulp_lo {N k j : Nat} (h : j < k) : N * 10 ^ k / 10 ^ j % 10 = 0 := by
  have : 10 ^ k = 10 ^ j * (10 * 10 ^ (k - j - 1)) := by rw [← p10s, ← p10add]; congr 1; omega
  rw [this, ← Nat.mul_assoc, Nat.mul_comm N, Nat.mul_assoc, Nat.mul_div_cancel_left _ (p10 j), ← Nat.mul_assoc, Nat.mul_comm N, Nat.mul_assoc, Nat.mul_mod_right]
theorem dg_shift (N k j : Nat) : dg (N * 10 ^ k) j = if k ≤ j then dg N (j - k) else iI 0 := by
  unfold dg
  split
  · next h => rw [mulp_hi h]
  · next h => rw [mulp_lo (by omega)]; rfl
theorem r32_dg (N i : Nat) : r32 ((N / 10 ^ i % 10 : Nat) : Int) := by
  have : N / 10 ^ i % 10 < 10 := Nat.mod_lt _ (by omega)
  constructor <;> omega
theorem r32_nat {j : Nat} (h : j < 2147483648) : r32 (j : Int) := by constructor <;> omega
/-- a number of a given length is told by its digits -/
theorem dg_inj {N M e : Nat} (hN : N < 10 ^ e) (hM : M < 10 ^ e) (h : ∀ j, j < e → N / 10 ^ j % 10 = M / 10 ^ j % 10) : N = M := by
  have key : ∀ d, d ≤ e → N / 10 ^ (e - d) = M / 10 ^ (e - d) := by
    intro d
    induction d with
    | zero => intro _; rw [Nat.sub_zero, q_lt hN, q_lt hM]
    | succ d ih =>
      intro hd
      have h1 := ih (by omega)
      have h2 : e - d = (e - (d + 1)) + 1 := by omega
      rw [h2, tq10, tq10] at h1
      have h3 := h (e - (d + 1)) (by omega)
      omega
  have h1 := key e (Nat.le_refl _)
  rw [Nat.sub_self, tqz, tqz] at h1
  exact h1
def cmpN (a b : Nat) : Int := if a < b then -1 else if a = b then 0 else 1
theorem cmpN_r (a b : Nat) : r32 (cmpN a b) := by unfold cmpN; split <;> (try split) <;> constructor <;> omega
theorem cmpN_ge {a b : Nat} : 0 ≤ cmpN a b ↔ b ≤ a := by unfold cmpN; split <;> (try split) <;> omega
theorem cmpN_gt {a b : Nat} : 0 < cmpN a b ↔ b < a := by unfold cmpN; split <;> (try split) <;> omega
theorem cmpN_le {a b : Nat} : cmpN a b ≤ 0 ↔ a ≤ b := by unfold cmpN; split <;> (try split) <;> omega
theorem cmpN_eq {a b : Nat} : cmpN a b = 0 ↔ a = b := by unfold cmpN; split <;> (try split) <;> omega
theorem lt_of_q {N M : Nat} (i : Nat) (h : N / 10 ^ i < M / 10 ^ i) : N < M := by
  by_cases h1 : M ≤ N
  · have := Nat.div_le_div_right (c := 10 ^ i) h1
    omega
  · omega
/-! Steps of loops over rows. -/
theorem lo_upd {g F : Nat → Int32} {i : Nat} {z : Int} (h : ∀ j, j < i → g j = F j) (hz : iI z = F i) : ∀ j, j < i + 1 → upd g i (iI z) j = F j := by
  intro j hj
  unfold upd
  by_cases e : j = i
  · rw [if_pos e, hz, e]
  · rw [if_neg e]; exact h j (by omega)
theorem hi_upd {g F : Nat → Int32} {i : Nat} {z : Int} (h : ∀ j, i ≤ j → g j = F j) : ∀ j, i + 1 ≤ j → upd g i (iI z) j = F j := by
  intro j hj
  unfold upd
  rw [if_neg (by omega)]
  exact h j (by omega)
theorem dlo_upd {g F : Nat → Int32} {m : Nat} {z : Int} (h : ∀ j, j < m + 1 → g j = F j) : ∀ j, j < m → upd g m (iI z) j = F j := by
  intro j hj
  unfold upd
  rw [if_neg (by omega)]
  exact h j (by omega)
theorem dhi_upd {g F : Nat → Int32} {m : Nat} {z : Int} (h : ∀ j, m + 1 ≤ j → g j = F j) (hz : iI z = F m) : ∀ j, m ≤ j → upd g m (iI z) j = F j := by
  intro j hj
  unfold upd
  by_cases e : j = m
  · rw [if_pos e, hz, e]
  · rw [if_neg e]; exact h j (by omega)
theorem dhi_updN {g F : Nat → Int32} {m N : Nat} {z : Int} (h : ∀ j, m + 1 ≤ j → j < N → g j = F j) (hz : iI z = F m) : ∀ j, m ≤ j → j < N → upd g m (iI z) j = F j := by
  intro j hj hN
  unfold upd
  by_cases e : j = m
  · rw [if_pos e, hz, e]
  · rw [if_neg e]; exact h j (by omega) hN
theorem inc_dig {N M i c : Nat} (hc : (N + M) / 10 ^ i = N / 10 ^ i + M / 10 ^ i + c) : (N + M) / 10 ^ i % 10 = (N / 10 ^ i % 10 + M / 10 ^ i % 10 + c) % 10 := by omega
theorem inc_step {N M i c : Nat} (hc : (N + M) / 10 ^ i = N / 10 ^ i + M / 10 ^ i + c) : (N + M) / 10 ^ (i + 1) = N / 10 ^ (i + 1) + M / 10 ^ (i + 1) + (N / 10 ^ i % 10 + M / 10 ^ i % 10 + c) / 10 := by
  rw [tq10, tq10, tq10]; omega
theorem dec_dig {N M i b : Nat} (hc : (N - M) / 10 ^ i + M / 10 ^ i + b = N / 10 ^ i) (hb : b ≤ 1) :
    (((N - M) / 10 ^ i % 10 : Nat) : Int) = (if ((N / 10 ^ i % 10 : Nat) : Int) - ((M / 10 ^ i % 10 : Nat) : Int) - (b : Int) < 0 then ((N / 10 ^ i % 10 : Nat) : Int) - ((M / 10 ^ i % 10 : Nat) : Int) - (b : Int) + 10 else ((N / 10 ^ i % 10 : Nat) : Int) - ((M / 10 ^ i % 10 : Nat) : Int) - (b : Int)) := by
  split <;> omega
theorem dec_step {N M i b b' : Nat} (hc : (N - M) / 10 ^ i + M / 10 ^ i + b = N / 10 ^ i) (hb : b ≤ 1) (hb' : (b' = 1 ∧ ((N / 10 ^ i % 10 : Nat) : Int) - ((M / 10 ^ i % 10 : Nat) : Int) - (b : Int) < 0) ∨ (b' = 0 ∧ 0 ≤ ((N / 10 ^ i % 10 : Nat) : Int) - ((M / 10 ^ i % 10 : Nat) : Int) - (b : Int))) : (N - M) / 10 ^ (i + 1) + M / 10 ^ (i + 1) + b' = N / 10 ^ (i + 1) := by
  rw [tq10, tq10, tq10]
  rcases hb' with ⟨h1, h2⟩ | ⟨h1, h2⟩ <;> omega
theorem tm10 (r : Int) : -10 < r.tmod 10 ∧ r.tmod 10 < 10 ∧ (r.tmod 10).natAbs = r.natAbs % 10 ∧ (r.tdiv 10).natAbs = r.natAbs / 10 := by
  have h1 := Int.natAbs_tmod r 10
  have h2 := Int.natAbs_tdiv r 10
  have h3 : (10 : Int).natAbs = 10 := rfl
  rw [h3] at h1 h2
  refine ⟨?_, ?_, h1, h2⟩ <;> omega
/-! Digits that change by one place; long division. -/
theorem tqadd (N a b : Nat) : N / 10 ^ (a + b) = N / 10 ^ a / 10 ^ b := by rw [p10add, Nat.div_div_eq_div_mul]
theorem tbump_hi {N m j : Nat} (h : N / 10 ^ m % 10 + 1 < 10) (hj : m < j) : (N + 10 ^ m) / 10 ^ j = N / 10 ^ j := by
  have e : j = m + (1 + (j - m - 1)) := by omega
  have h1 : (N + 10 ^ m) / 10 ^ m = N / 10 ^ m + 1 := Nat.add_div_right _ (p10 m)
  rw [e, tqadd, tqadd, tqadd N, tqadd (N / 10 ^ m), h1]
  have h2 : (N / 10 ^ m + 1) / 10 ^ 1 = N / 10 ^ m / 10 ^ 1 := by rw [Nat.pow_one]; omega
  rw [h2]
theorem tbump_lo {N m j : Nat} (hj : j < m) : (N + 10 ^ m) / 10 ^ j % 10 = N / 10 ^ j % 10 := by
  have e : 10 ^ m = 10 ^ j * (10 * 10 ^ (m - j - 1)) := by rw [← p10s, ← p10add]; congr 1; omega
  rw [e, Nat.add_mul_div_left _ _ (p10 j)]
  omega
theorem dg_bump {N m t : Nat} (ht : N / 10 ^ m % 10 = t) (h : t + 1 < 10) : ∀ j, upd (dg N) m (iI ((t + 1 : Nat) : Int)) j = dg (N + 10 ^ m) j := by
  intro j
  unfold upd
  by_cases e : j = m
  · subst e
    rw [if_pos rfl, dg_at]
    have h1 : (N + 10 ^ j) / 10 ^ j = N / 10 ^ j + 1 := Nat.add_div_right _ (p10 j)
    rw [h1]
    congr 1
    omega
  · rw [if_neg e, dg_at, dg_at]
    by_cases h1 : j < m
    · rw [tbump_lo h1]
    · rw [tbump_hi (by omega) (by omega)]
theorem dg_unit {R a : Nat} (ha : a < 10) : ∀ j, upd (dg (R * 10 ^ 1)) 0 (iI (a : Int)) j = dg (R * 10 + a) j := by
  intro j
  unfold upd
  by_cases e : j = 0
  · subst e
    rw [if_pos rfl, dg_at, tqz]
    congr 1
    omega
  · rw [if_neg e, dg_at, dg_at]
    have h1 : j = 1 + (j - 1) := by omega
    rw [h1, tqadd, tqadd (R * 10 + a), Nat.pow_one]
    have h2 : R * 10 / 10 = (R * 10 + a) / 10 := by omega
    rw [h2]
theorem tquo {N D m t r : Nat} (hD : 0 < D) (hr : r < D) (h : t * D + r = (N / 10 ^ (m + 1) % D) * 10 + N / 10 ^ m % 10) : N / 10 ^ m / D = 10 * (N / 10 ^ (m + 1) / D) + t ∧ N / 10 ^ m % D = r := by
  have h1 := Nat.div_add_mod (N / 10 ^ (m + 1)) D
  have h2 : N / 10 ^ m = 10 * (N / 10 ^ (m + 1)) + N / 10 ^ m % 10 := by rw [tq10]; omega
  refine (Nat.div_mod_unique hD).mpr ⟨?_, hr⟩
  generalize N / 10 ^ (m + 1) / D = Q at *
  generalize N / 10 ^ (m + 1) % D = R at *
  generalize N / 10 ^ (m + 1) = A at *
  generalize N / 10 ^ m % 10 = a at *
  rw [h2]
  have h3 : D * (10 * Q + t) = 10 * (D * Q) + t * D := by rw [Nat.mul_add, Nat.mul_left_comm, Nat.mul_comm D t]
  omega
theorem tdig_t {Q t k : Nat} (h : t ≤ 9) : (Q * 10 ^ (k + 1) + t * 10 ^ k) / 10 ^ k % 10 = t := by
  have e : Q * 10 ^ (k + 1) + t * 10 ^ k = (Q * 10 + t) * 10 ^ k := by rw [p10s, Nat.add_mul, Nat.mul_assoc]
  rw [e, Nat.mul_div_cancel _ (p10 k)]
  omega
theorem tdig_s {Q t k : Nat} : Q * 10 ^ (k + 1) + (t + 1) * 10 ^ k = Q * 10 ^ (k + 1) + t * 10 ^ k + 10 ^ k := by rw [Nat.add_mul, Nat.one_mul, Nat.add_assoc]
theorem tdig_e {Q t k : Nat} : Q * 10 ^ (k + 1) + t * 10 ^ k = (10 * Q + t) * 10 ^ k := by rw [p10s, Nat.add_mul, ← Nat.mul_assoc, Nat.mul_comm Q 10]
end
